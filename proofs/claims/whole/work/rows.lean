section
-- ===== PART A: goes FIRST, ahead of the names: the tables' words, and 'selects' of the private methods out of them =====
/-- a private method of a class that the tables say can be made, by its rows of tables_1 -/
def lw_okq (q : MethodName × Nat) : Prop := (q.1.cls ≠ "java/lang/invoke/MethodHandle" ∧ q.1.cls ≠ "java/lang/invoke/VarHandle") ∧ Cond.instantiable q.1.cls q.2 ∈ tables_1 ∧ Cond.privateMethod q.1 ∈ tables_1 ∧ Cond.instanceMethod q.1 ∈ tables_1
theorem lw_p0 : lw_okq (⟨"KinderTowns$Country", "copyFrom", "(LKinderTowns$Country;)V"⟩, 11) := ⟨⟨by decide +kernel, by decide +kernel⟩, List.mem_of_getElem? (i := 82) (by decide +kernel), List.mem_of_getElem? (i := 205) (by decide +kernel), List.mem_of_getElem? (i := 206) (by decide +kernel)⟩
theorem lw_p1 : lw_okq (⟨"KinderTowns$Events", "copyFrom", "(LKinderTowns$Events;)V"⟩, 8) := ⟨⟨by decide +kernel, by decide +kernel⟩, List.mem_of_getElem? (i := 88) (by decide +kernel), List.mem_of_getElem? (i := 209) (by decide +kernel), List.mem_of_getElem? (i := 210) (by decide +kernel)⟩
theorem lw_p2 : lw_okq (⟨"KinderTowns$Country", "addTown", "()I"⟩, 11) := ⟨⟨by decide +kernel, by decide +kernel⟩, List.mem_of_getElem? (i := 82) (by decide +kernel), List.mem_of_getElem? (i := 217) (by decide +kernel), List.mem_of_getElem? (i := 218) (by decide +kernel)⟩
theorem lw_p3 : lw_okq (⟨"KinderTowns", "recorded", "(I)I"⟩, 6) := ⟨⟨by decide +kernel, by decide +kernel⟩, List.mem_of_getElem? (i := 12) (by decide +kernel), List.mem_of_getElem? (i := 224) (by decide +kernel), List.mem_of_getElem? (i := 225) (by decide +kernel)⟩
theorem lw_p4 : lw_okq (⟨"KinderTowns$Country", "thinkAnew", "()V"⟩, 11) := ⟨⟨by decide +kernel, by decide +kernel⟩, List.mem_of_getElem? (i := 82) (by decide +kernel), List.mem_of_getElem? (i := 228) (by decide +kernel), List.mem_of_getElem? (i := 229) (by decide +kernel)⟩
theorem lw_p5 : lw_okq (⟨"KinderTowns$Looking", "lookAtAll", "(LKinderTowns$Events;JI)V"⟩, 6) := ⟨⟨by decide +kernel, by decide +kernel⟩, List.mem_of_getElem? (i := 22) (by decide +kernel), List.mem_of_getElem? (i := 232) (by decide +kernel), List.mem_of_getElem? (i := 233) (by decide +kernel)⟩
theorem lw_p6 : lw_okq (⟨"KinderTowns$Events", "standingIn", "(J)J"⟩, 8) := ⟨⟨by decide +kernel, by decide +kernel⟩, List.mem_of_getElem? (i := 88) (by decide +kernel), List.mem_of_getElem? (i := 236) (by decide +kernel), List.mem_of_getElem? (i := 237) (by decide +kernel)⟩
theorem lw_p7 : lw_okq (⟨"KinderTowns$Events", "cancelledIn", "(J)J"⟩, 8) := ⟨⟨by decide +kernel, by decide +kernel⟩, List.mem_of_getElem? (i := 88) (by decide +kernel), List.mem_of_getElem? (i := 240) (by decide +kernel), List.mem_of_getElem? (i := 241) (by decide +kernel)⟩
theorem lw_p8 : lw_okq (⟨"KinderTowns$Looking", "lookAtGood", "(LKinderTowns$Events;JII)V"⟩, 6) := ⟨⟨by decide +kernel, by decide +kernel⟩, List.mem_of_getElem? (i := 22) (by decide +kernel), List.mem_of_getElem? (i := 248) (by decide +kernel), List.mem_of_getElem? (i := 249) (by decide +kernel)⟩
theorem lw_p9 : lw_okq (⟨"KinderTowns$Looking", "gather", "(LKinderTowns$Events;JI)V"⟩, 6) := ⟨⟨by decide +kernel, by decide +kernel⟩, List.mem_of_getElem? (i := 22) (by decide +kernel), List.mem_of_getElem? (i := 252) (by decide +kernel), List.mem_of_getElem? (i := 253) (by decide +kernel)⟩
theorem lw_p10 : lw_okq (⟨"KinderTowns$Looking", "nextPlace", "(LKinderTowns$Events;II)I"⟩, 6) := ⟨⟨by decide +kernel, by decide +kernel⟩, List.mem_of_getElem? (i := 22) (by decide +kernel), List.mem_of_getElem? (i := 260) (by decide +kernel), List.mem_of_getElem? (i := 261) (by decide +kernel)⟩
theorem lw_p11 : lw_okq (⟨"KinderTowns$Looking", "weight", "(LKinderTowns$Events;II)I"⟩, 6) := ⟨⟨by decide +kernel, by decide +kernel⟩, List.mem_of_getElem? (i := 22) (by decide +kernel), List.mem_of_getElem? (i := 264) (by decide +kernel), List.mem_of_getElem? (i := 265) (by decide +kernel)⟩
theorem lw_p12 : lw_okq (⟨"KinderTowns$Looking", "decide", "(III)V"⟩, 6) := ⟨⟨by decide +kernel, by decide +kernel⟩, List.mem_of_getElem? (i := 22) (by decide +kernel), List.mem_of_getElem? (i := 268) (by decide +kernel), List.mem_of_getElem? (i := 269) (by decide +kernel)⟩
theorem lw_p13 : lw_okq (⟨"KinderTowns", "keepSpare", "()V"⟩, 6) := ⟨⟨by decide +kernel, by decide +kernel⟩, List.mem_of_getElem? (i := 12) (by decide +kernel), List.mem_of_getElem? (i := 273) (by decide +kernel), List.mem_of_getElem? (i := 274) (by decide +kernel)⟩
theorem lw_p14 : lw_okq (⟨"KinderTowns$Country", "makeDelivery", "(III)I"⟩, 11) := ⟨⟨by decide +kernel, by decide +kernel⟩, List.mem_of_getElem? (i := 82) (by decide +kernel), List.mem_of_getElem? (i := 282) (by decide +kernel), List.mem_of_getElem? (i := 283) (by decide +kernel)⟩
theorem lw_p15 : lw_okq (⟨"KinderTowns$Country", "isTown", "(I)Z"⟩, 11) := ⟨⟨by decide +kernel, by decide +kernel⟩, List.mem_of_getElem? (i := 82) (by decide +kernel), List.mem_of_getElem? (i := 286) (by decide +kernel), List.mem_of_getElem? (i := 287) (by decide +kernel)⟩
def lw_privs_1 : List (MethodName × Nat) := [(⟨"KinderTowns$Country", "copyFrom", "(LKinderTowns$Country;)V"⟩, 11), (⟨"KinderTowns$Events", "copyFrom", "(LKinderTowns$Events;)V"⟩, 8), (⟨"KinderTowns$Country", "addTown", "()I"⟩, 11), (⟨"KinderTowns", "recorded", "(I)I"⟩, 6), (⟨"KinderTowns$Country", "thinkAnew", "()V"⟩, 11), (⟨"KinderTowns$Looking", "lookAtAll", "(LKinderTowns$Events;JI)V"⟩, 6), (⟨"KinderTowns$Events", "standingIn", "(J)J"⟩, 8), (⟨"KinderTowns$Events", "cancelledIn", "(J)J"⟩, 8), (⟨"KinderTowns$Looking", "lookAtGood", "(LKinderTowns$Events;JII)V"⟩, 6), (⟨"KinderTowns$Looking", "gather", "(LKinderTowns$Events;JI)V"⟩, 6), (⟨"KinderTowns$Looking", "nextPlace", "(LKinderTowns$Events;II)I"⟩, 6), (⟨"KinderTowns$Looking", "weight", "(LKinderTowns$Events;II)I"⟩, 6), (⟨"KinderTowns$Looking", "decide", "(III)V"⟩, 6), (⟨"KinderTowns", "keepSpare", "()V"⟩, 6), (⟨"KinderTowns$Country", "makeDelivery", "(III)I"⟩, 11), (⟨"KinderTowns$Country", "isTown", "(I)Z"⟩, 11)]
theorem lw_r1 : ∀ q ∈ lw_privs_1, lw_okq q := List.forall_mem_cons.mpr ⟨lw_p0, List.forall_mem_cons.mpr ⟨lw_p1, List.forall_mem_cons.mpr ⟨lw_p2, List.forall_mem_cons.mpr ⟨lw_p3, List.forall_mem_cons.mpr ⟨lw_p4, List.forall_mem_cons.mpr ⟨lw_p5, List.forall_mem_cons.mpr ⟨lw_p6, List.forall_mem_cons.mpr ⟨lw_p7, List.forall_mem_cons.mpr ⟨lw_p8, List.forall_mem_cons.mpr ⟨lw_p9, List.forall_mem_cons.mpr ⟨lw_p10, List.forall_mem_cons.mpr ⟨lw_p11, List.forall_mem_cons.mpr ⟨lw_p12, List.forall_mem_cons.mpr ⟨lw_p13, List.forall_mem_cons.mpr ⟨lw_p14, List.forall_mem_cons.mpr ⟨lw_p15, fun _ h => absurd h List.not_mem_nil⟩⟩⟩⟩⟩⟩⟩⟩⟩⟩⟩⟩⟩⟩⟩⟩
theorem lw_p16 : lw_okq (⟨"KinderTowns$Country", "make", "(IIII)I"⟩, 11) := ⟨⟨by decide +kernel, by decide +kernel⟩, List.mem_of_getElem? (i := 82) (by decide +kernel), List.mem_of_getElem? (i := 290) (by decide +kernel), List.mem_of_getElem? (i := 291) (by decide +kernel)⟩
theorem lw_p17 : lw_okq (⟨"KinderTowns$Events", "add", "(IIIII)I"⟩, 8) := ⟨⟨by decide +kernel, by decide +kernel⟩, List.mem_of_getElem? (i := 88) (by decide +kernel), List.mem_of_getElem? (i := 294) (by decide +kernel), List.mem_of_getElem? (i := 295) (by decide +kernel)⟩
theorem lw_p18 : lw_okq (⟨"KinderTowns$Country", "makeOrder", "(IIII)I"⟩, 11) := ⟨⟨by decide +kernel, by decide +kernel⟩, List.mem_of_getElem? (i := 82) (by decide +kernel), List.mem_of_getElem? (i := 303) (by decide +kernel), List.mem_of_getElem? (i := 304) (by decide +kernel)⟩
theorem lw_p19 : lw_okq (⟨"KinderTowns$Country", "makeCancellation", "(II)I"⟩, 11) := ⟨⟨by decide +kernel, by decide +kernel⟩, List.mem_of_getElem? (i := 82) (by decide +kernel), List.mem_of_getElem? (i := 311) (by decide +kernel), List.mem_of_getElem? (i := 312) (by decide +kernel)⟩
theorem lw_p20 : lw_okq (⟨"KinderTowns$Events", "isOrder", "(I)Z"⟩, 8) := ⟨⟨by decide +kernel, by decide +kernel⟩, List.mem_of_getElem? (i := 88) (by decide +kernel), List.mem_of_getElem? (i := 315) (by decide +kernel), List.mem_of_getElem? (i := 316) (by decide +kernel)⟩
theorem lw_p21 : lw_okq (⟨"KinderTowns$Country", "letMeet", "(II)I"⟩, 11) := ⟨⟨by decide +kernel, by decide +kernel⟩, List.mem_of_getElem? (i := 82) (by decide +kernel), List.mem_of_getElem? (i := 325) (by decide +kernel), List.mem_of_getElem? (i := 326) (by decide +kernel)⟩
theorem lw_p22 : lw_okq (⟨"KinderTowns$Country", "letHear", "(II)I"⟩, 11) := ⟨⟨by decide +kernel, by decide +kernel⟩, List.mem_of_getElem? (i := 82) (by decide +kernel), List.mem_of_getElem? (i := 329) (by decide +kernel), List.mem_of_getElem? (i := 330) (by decide +kernel)⟩
theorem lw_p23 : lw_okq (⟨"KinderTowns$Country", "newsFor", "(IJ)I"⟩, 11) := ⟨⟨by decide +kernel, by decide +kernel⟩, List.mem_of_getElem? (i := 82) (by decide +kernel), List.mem_of_getElem? (i := 333) (by decide +kernel), List.mem_of_getElem? (i := 334) (by decide +kernel)⟩
theorem lw_p24 : lw_okq (⟨"KinderTowns$Country", "setRule", "(I)I"⟩, 11) := ⟨⟨by decide +kernel, by decide +kernel⟩, List.mem_of_getElem? (i := 82) (by decide +kernel), List.mem_of_getElem? (i := 356) (by decide +kernel), List.mem_of_getElem? (i := 357) (by decide +kernel)⟩
theorem lw_p25 : lw_okq (⟨"KinderTowns$Country", "townsWith", "([JI)I"⟩, 11) := ⟨⟨by decide +kernel, by decide +kernel⟩, List.mem_of_getElem? (i := 82) (by decide +kernel), List.mem_of_getElem? (i := 364) (by decide +kernel), List.mem_of_getElem? (i := 365) (by decide +kernel)⟩
theorem lw_p26 : lw_okq (⟨"KinderTowns$Events", "having", "([II)J"⟩, 8) := ⟨⟨by decide +kernel, by decide +kernel⟩, List.mem_of_getElem? (i := 88) (by decide +kernel), List.mem_of_getElem? (i := 380) (by decide +kernel), List.mem_of_getElem? (i := 381) (by decide +kernel)⟩
theorem lw_p27 : lw_okq (⟨"KinderTowns$Country", "townsThatKnow", "(J)I"⟩, 11) := ⟨⟨by decide +kernel, by decide +kernel⟩, List.mem_of_getElem? (i := 82) (by decide +kernel), List.mem_of_getElem? (i := 384) (by decide +kernel), List.mem_of_getElem? (i := 385) (by decide +kernel)⟩
theorem lw_p28 : lw_okq (⟨"KinderTowns$Events", "piecesOf", "(J)I"⟩, 8) := ⟨⟨by decide +kernel, by decide +kernel⟩, List.mem_of_getElem? (i := 88) (by decide +kernel), List.mem_of_getElem? (i := 392) (by decide +kernel), List.mem_of_getElem? (i := 393) (by decide +kernel)⟩
theorem lw_p29 : lw_okq (⟨"KinderTowns$Country", "apologiesFor", "(J)I"⟩, 11) := ⟨⟨by decide +kernel, by decide +kernel⟩, List.mem_of_getElem? (i := 82) (by decide +kernel), List.mem_of_getElem? (i := 406) (by decide +kernel), List.mem_of_getElem? (i := 407) (by decide +kernel)⟩
theorem lw_p30 : lw_okq (⟨"KinderTowns$Events", "all", "()J"⟩, 8) := ⟨⟨by decide +kernel, by decide +kernel⟩, List.mem_of_getElem? (i := 88) (by decide +kernel), List.mem_of_getElem? (i := 419) (by decide +kernel), List.mem_of_getElem? (i := 420) (by decide +kernel)⟩
theorem lw_p31 : lw_okq (⟨"KinderTowns$Country", "knownByAll", "()J"⟩, 11) := ⟨⟨by decide +kernel, by decide +kernel⟩, List.mem_of_getElem? (i := 82) (by decide +kernel), List.mem_of_getElem? (i := 423) (by decide +kernel), List.mem_of_getElem? (i := 424) (by decide +kernel)⟩
def lw_privs_2 : List (MethodName × Nat) := [(⟨"KinderTowns$Country", "make", "(IIII)I"⟩, 11), (⟨"KinderTowns$Events", "add", "(IIIII)I"⟩, 8), (⟨"KinderTowns$Country", "makeOrder", "(IIII)I"⟩, 11), (⟨"KinderTowns$Country", "makeCancellation", "(II)I"⟩, 11), (⟨"KinderTowns$Events", "isOrder", "(I)Z"⟩, 8), (⟨"KinderTowns$Country", "letMeet", "(II)I"⟩, 11), (⟨"KinderTowns$Country", "letHear", "(II)I"⟩, 11), (⟨"KinderTowns$Country", "newsFor", "(IJ)I"⟩, 11), (⟨"KinderTowns$Country", "setRule", "(I)I"⟩, 11), (⟨"KinderTowns$Country", "townsWith", "([JI)I"⟩, 11), (⟨"KinderTowns$Events", "having", "([II)J"⟩, 8), (⟨"KinderTowns$Country", "townsThatKnow", "(J)I"⟩, 11), (⟨"KinderTowns$Events", "piecesOf", "(J)I"⟩, 8), (⟨"KinderTowns$Country", "apologiesFor", "(J)I"⟩, 11), (⟨"KinderTowns$Events", "all", "()J"⟩, 8), (⟨"KinderTowns$Country", "knownByAll", "()J"⟩, 11)]
theorem lw_r2 : ∀ q ∈ lw_privs_2, lw_okq q := List.forall_mem_cons.mpr ⟨lw_p16, List.forall_mem_cons.mpr ⟨lw_p17, List.forall_mem_cons.mpr ⟨lw_p18, List.forall_mem_cons.mpr ⟨lw_p19, List.forall_mem_cons.mpr ⟨lw_p20, List.forall_mem_cons.mpr ⟨lw_p21, List.forall_mem_cons.mpr ⟨lw_p22, List.forall_mem_cons.mpr ⟨lw_p23, List.forall_mem_cons.mpr ⟨lw_p24, List.forall_mem_cons.mpr ⟨lw_p25, List.forall_mem_cons.mpr ⟨lw_p26, List.forall_mem_cons.mpr ⟨lw_p27, List.forall_mem_cons.mpr ⟨lw_p28, List.forall_mem_cons.mpr ⟨lw_p29, List.forall_mem_cons.mpr ⟨lw_p30, List.forall_mem_cons.mpr ⟨lw_p31, fun _ h => absurd h List.not_mem_nil⟩⟩⟩⟩⟩⟩⟩⟩⟩⟩⟩⟩⟩⟩⟩⟩
theorem lw_p32 : lw_okq (⟨"KinderTowns$Country", "allKnowTheSame", "()Z"⟩, 11) := ⟨⟨by decide +kernel, by decide +kernel⟩, List.mem_of_getElem? (i := 82) (by decide +kernel), List.mem_of_getElem? (i := 428) (by decide +kernel), List.mem_of_getElem? (i := 429) (by decide +kernel)⟩
theorem lw_p33 : lw_okq (⟨"KinderTowns", "newApologies", "()I"⟩, 6) := ⟨⟨by decide +kernel, by decide +kernel⟩, List.mem_of_getElem? (i := 12) (by decide +kernel), List.mem_of_getElem? (i := 436) (by decide +kernel), List.mem_of_getElem? (i := 437) (by decide +kernel)⟩
theorem lw_p34 : lw_okq (⟨"KinderTowns", "otherThoughts", "(I)J"⟩, 6) := ⟨⟨by decide +kernel, by decide +kernel⟩, List.mem_of_getElem? (i := 12) (by decide +kernel), List.mem_of_getElem? (i := 440) (by decide +kernel), List.mem_of_getElem? (i := 441) (by decide +kernel)⟩
theorem lw_p35 : lw_okq (⟨"KinderTowns$Events", "goodsOf", "(J)I"⟩, 8) := ⟨⟨by decide +kernel, by decide +kernel⟩, List.mem_of_getElem? (i := 88) (by decide +kernel), List.mem_of_getElem? (i := 444) (by decide +kernel), List.mem_of_getElem? (i := 445) (by decide +kernel)⟩
theorem lw_p36 : lw_okq (⟨"KinderTowns$Events", "personsIn", "(J)I"⟩, 8) := ⟨⟨by decide +kernel, by decide +kernel⟩, List.mem_of_getElem? (i := 88) (by decide +kernel), List.mem_of_getElem? (i := 457) (by decide +kernel), List.mem_of_getElem? (i := 458) (by decide +kernel)⟩
theorem lw_p37 : lw_okq (⟨"KinderTowns$Country", "meetInTurn", "()V"⟩, 11) := ⟨⟨by decide +kernel, by decide +kernel⟩, List.mem_of_getElem? (i := 82) (by decide +kernel), List.mem_of_getElem? (i := 466) (by decide +kernel), List.mem_of_getElem? (i := 467) (by decide +kernel)⟩
theorem lw_p38 : lw_okq (⟨"KinderTowns$Script", "runOn", "(LKinderTowns$Country;)V"⟩, 6) := ⟨⟨by decide +kernel, by decide +kernel⟩, List.mem_of_getElem? (i := 53) (by decide +kernel), List.mem_of_getElem? (i := 486) (by decide +kernel), List.mem_of_getElem? (i := 487) (by decide +kernel)⟩
theorem lw_p39 : lw_okq (⟨"KinderTowns$Script", "read", "(I)I"⟩, 6) := ⟨⟨by decide +kernel, by decide +kernel⟩, List.mem_of_getElem? (i := 53) (by decide +kernel), List.mem_of_getElem? (i := 490) (by decide +kernel), List.mem_of_getElem? (i := 491) (by decide +kernel)⟩
theorem lw_p40 : lw_okq (⟨"KinderTowns$Script", "signAt", "(I)I"⟩, 6) := ⟨⟨by decide +kernel, by decide +kernel⟩, List.mem_of_getElem? (i := 53) (by decide +kernel), List.mem_of_getElem? (i := 494) (by decide +kernel), List.mem_of_getElem? (i := 495) (by decide +kernel)⟩
theorem lw_p41 : lw_okq (⟨"KinderTowns$Script", "digitsAt", "(I)I"⟩, 6) := ⟨⟨by decide +kernel, by decide +kernel⟩, List.mem_of_getElem? (i := 53) (by decide +kernel), List.mem_of_getElem? (i := 502) (by decide +kernel), List.mem_of_getElem? (i := 503) (by decide +kernel)⟩
theorem lw_p42 : lw_okq (⟨"KinderTowns$Script", "isDigit", "(I)Z"⟩, 6) := ⟨⟨by decide +kernel, by decide +kernel⟩, List.mem_of_getElem? (i := 53) (by decide +kernel), List.mem_of_getElem? (i := 506) (by decide +kernel), List.mem_of_getElem? (i := 507) (by decide +kernel)⟩
theorem lw_p43 : lw_okq (⟨"KinderTowns$Script", "digit", "(I)I"⟩, 6) := ⟨⟨by decide +kernel, by decide +kernel⟩, List.mem_of_getElem? (i := 53) (by decide +kernel), List.mem_of_getElem? (i := 510) (by decide +kernel), List.mem_of_getElem? (i := 511) (by decide +kernel)⟩
theorem lw_p44 : lw_okq (⟨"KinderTowns$Script", "doCommand", "(LKinderTowns$Country;I)I"⟩, 6) := ⟨⟨by decide +kernel, by decide +kernel⟩, List.mem_of_getElem? (i := 53) (by decide +kernel), List.mem_of_getElem? (i := 514) (by decide +kernel), List.mem_of_getElem? (i := 515) (by decide +kernel)⟩
theorem lw_p45 : lw_okq (⟨"KinderTownsModel", "changes", "()V"⟩, 18) := ⟨⟨by decide +kernel, by decide +kernel⟩, List.mem_of_getElem? (i := 532) (by decide +kernel), List.mem_of_getElem? (i := 598) (by decide +kernel), List.mem_of_getElem? (i := 599) (by decide +kernel)⟩
theorem lw_p46 : lw_okq (⟨"KinderTownsModel", "records", "()V"⟩, 18) := ⟨⟨by decide +kernel, by decide +kernel⟩, List.mem_of_getElem? (i := 532) (by decide +kernel), List.mem_of_getElem? (i := 602) (by decide +kernel), List.mem_of_getElem? (i := 603) (by decide +kernel)⟩
theorem lw_p47 : lw_okq (⟨"KinderTownsModel", "remembers", "()V"⟩, 18) := ⟨⟨by decide +kernel, by decide +kernel⟩, List.mem_of_getElem? (i := 532) (by decide +kernel), List.mem_of_getElem? (i := 606) (by decide +kernel), List.mem_of_getElem? (i := 607) (by decide +kernel)⟩
def lw_privs_3 : List (MethodName × Nat) := [(⟨"KinderTowns$Country", "allKnowTheSame", "()Z"⟩, 11), (⟨"KinderTowns", "newApologies", "()I"⟩, 6), (⟨"KinderTowns", "otherThoughts", "(I)J"⟩, 6), (⟨"KinderTowns$Events", "goodsOf", "(J)I"⟩, 8), (⟨"KinderTowns$Events", "personsIn", "(J)I"⟩, 8), (⟨"KinderTowns$Country", "meetInTurn", "()V"⟩, 11), (⟨"KinderTowns$Script", "runOn", "(LKinderTowns$Country;)V"⟩, 6), (⟨"KinderTowns$Script", "read", "(I)I"⟩, 6), (⟨"KinderTowns$Script", "signAt", "(I)I"⟩, 6), (⟨"KinderTowns$Script", "digitsAt", "(I)I"⟩, 6), (⟨"KinderTowns$Script", "isDigit", "(I)Z"⟩, 6), (⟨"KinderTowns$Script", "digit", "(I)I"⟩, 6), (⟨"KinderTowns$Script", "doCommand", "(LKinderTowns$Country;I)I"⟩, 6), (⟨"KinderTownsModel", "changes", "()V"⟩, 18), (⟨"KinderTownsModel", "records", "()V"⟩, 18), (⟨"KinderTownsModel", "remembers", "()V"⟩, 18)]
theorem lw_r3 : ∀ q ∈ lw_privs_3, lw_okq q := List.forall_mem_cons.mpr ⟨lw_p32, List.forall_mem_cons.mpr ⟨lw_p33, List.forall_mem_cons.mpr ⟨lw_p34, List.forall_mem_cons.mpr ⟨lw_p35, List.forall_mem_cons.mpr ⟨lw_p36, List.forall_mem_cons.mpr ⟨lw_p37, List.forall_mem_cons.mpr ⟨lw_p38, List.forall_mem_cons.mpr ⟨lw_p39, List.forall_mem_cons.mpr ⟨lw_p40, List.forall_mem_cons.mpr ⟨lw_p41, List.forall_mem_cons.mpr ⟨lw_p42, List.forall_mem_cons.mpr ⟨lw_p43, List.forall_mem_cons.mpr ⟨lw_p44, List.forall_mem_cons.mpr ⟨lw_p45, List.forall_mem_cons.mpr ⟨lw_p46, List.forall_mem_cons.mpr ⟨lw_p47, fun _ h => absurd h List.not_mem_nil⟩⟩⟩⟩⟩⟩⟩⟩⟩⟩⟩⟩⟩⟩⟩⟩
theorem lw_p48 : lw_okq (⟨"KinderTownsModel", "thinksAll", "(I)V"⟩, 18) := ⟨⟨by decide +kernel, by decide +kernel⟩, List.mem_of_getElem? (i := 532) (by decide +kernel), List.mem_of_getElem? (i := 610) (by decide +kernel), List.mem_of_getElem? (i := 611) (by decide +kernel)⟩
theorem lw_p49 : lw_okq (⟨"KinderTownsModel", "thinksOf", "(I)V"⟩, 18) := ⟨⟨by decide +kernel, by decide +kernel⟩, List.mem_of_getElem? (i := 532) (by decide +kernel), List.mem_of_getElem? (i := 614) (by decide +kernel), List.mem_of_getElem? (i := 615) (by decide +kernel)⟩
theorem lw_p50 : lw_okq (⟨"KinderTownsModel", "of", "(II)I"⟩, 18) := ⟨⟨by decide +kernel, by decide +kernel⟩, List.mem_of_getElem? (i := 532) (by decide +kernel), List.mem_of_getElem? (i := 618) (by decide +kernel), List.mem_of_getElem? (i := 619) (by decide +kernel)⟩
theorem lw_p51 : lw_okq (⟨"KinderTownsModel", "knows", "(II)Z"⟩, 18) := ⟨⟨by decide +kernel, by decide +kernel⟩, List.mem_of_getElem? (i := 532) (by decide +kernel), List.mem_of_getElem? (i := 622) (by decide +kernel), List.mem_of_getElem? (i := 623) (by decide +kernel)⟩
theorem lw_p52 : lw_okq (⟨"KinderTownsModel", "isCancelled", "(II)Z"⟩, 18) := ⟨⟨by decide +kernel, by decide +kernel⟩, List.mem_of_getElem? (i := 532) (by decide +kernel), List.mem_of_getElem? (i := 626) (by decide +kernel), List.mem_of_getElem? (i := 627) (by decide +kernel)⟩
theorem lw_p53 : lw_okq (⟨"KinderTownsModel", "looks", "(II)V"⟩, 18) := ⟨⟨by decide +kernel, by decide +kernel⟩, List.mem_of_getElem? (i := 532) (by decide +kernel), List.mem_of_getElem? (i := 630) (by decide +kernel), List.mem_of_getElem? (i := 631) (by decide +kernel)⟩
theorem lw_p54 : lw_okq (⟨"KinderTownsModel", "stock", "(II)I"⟩, 18) := ⟨⟨by decide +kernel, by decide +kernel⟩, List.mem_of_getElem? (i := 532) (by decide +kernel), List.mem_of_getElem? (i := 634) (by decide +kernel), List.mem_of_getElem? (i := 635) (by decide +kernel)⟩
theorem lw_p55 : lw_okq (⟨"KinderTownsModel", "isAhead", "(II)Z"⟩, 18) := ⟨⟨by decide +kernel, by decide +kernel⟩, List.mem_of_getElem? (i := 532) (by decide +kernel), List.mem_of_getElem? (i := 638) (by decide +kernel), List.mem_of_getElem? (i := 639) (by decide +kernel)⟩
theorem lw_p56 : lw_okq (⟨"KinderTownsModel", "isEarlier", "(II)Z"⟩, 18) := ⟨⟨by decide +kernel, by decide +kernel⟩, List.mem_of_getElem? (i := 532) (by decide +kernel), List.mem_of_getElem? (i := 642) (by decide +kernel), List.mem_of_getElem? (i := 643) (by decide +kernel)⟩
theorem lw_p57 : lw_okq (⟨"KinderTownsModel", "isTown", "(I)Z"⟩, 18) := ⟨⟨by decide +kernel, by decide +kernel⟩, List.mem_of_getElem? (i := 532) (by decide +kernel), List.mem_of_getElem? (i := 650) (by decide +kernel), List.mem_of_getElem? (i := 651) (by decide +kernel)⟩
theorem lw_p58 : lw_okq (⟨"KinderTownsModel", "makes", "(IIIIII)I"⟩, 18) := ⟨⟨by decide +kernel, by decide +kernel⟩, List.mem_of_getElem? (i := 532) (by decide +kernel), List.mem_of_getElem? (i := 657) (by decide +kernel), List.mem_of_getElem? (i := 658) (by decide +kernel)⟩
theorem lw_p59 : lw_okq (⟨"KinderTownsModel", "puts", "(III)V"⟩, 18) := ⟨⟨by decide +kernel, by decide +kernel⟩, List.mem_of_getElem? (i := 532) (by decide +kernel), List.mem_of_getElem? (i := 661) (by decide +kernel), List.mem_of_getElem? (i := 662) (by decide +kernel)⟩
theorem lw_p60 : lw_okq (⟨"KinderTownsModel", "apologizes", "(I)I"⟩, 18) := ⟨⟨by decide +kernel, by decide +kernel⟩, List.mem_of_getElem? (i := 532) (by decide +kernel), List.mem_of_getElem? (i := 665) (by decide +kernel), List.mem_of_getElem? (i := 666) (by decide +kernel)⟩
theorem lw_p61 : lw_okq (⟨"KinderTownsModel", "isEvent", "(I)Z"⟩, 18) := ⟨⟨by decide +kernel, by decide +kernel⟩, List.mem_of_getElem? (i := 532) (by decide +kernel), List.mem_of_getElem? (i := 677) (by decide +kernel), List.mem_of_getElem? (i := 678) (by decide +kernel)⟩
theorem lw_p62 : lw_okq (⟨"KinderTownsModel", "hears", "(IIZ)I"⟩, 18) := ⟨⟨by decide +kernel, by decide +kernel⟩, List.mem_of_getElem? (i := 532) (by decide +kernel), List.mem_of_getElem? (i := 685) (by decide +kernel), List.mem_of_getElem? (i := 686) (by decide +kernel)⟩
theorem lw_p63 : lw_okq (⟨"KinderTownsModel", "knownBy", "(I)I"⟩, 18) := ⟨⟨by decide +kernel, by decide +kernel⟩, List.mem_of_getElem? (i := 532) (by decide +kernel), List.mem_of_getElem? (i := 709) (by decide +kernel), List.mem_of_getElem? (i := 710) (by decide +kernel)⟩
def lw_privs_4 : List (MethodName × Nat) := [(⟨"KinderTownsModel", "thinksAll", "(I)V"⟩, 18), (⟨"KinderTownsModel", "thinksOf", "(I)V"⟩, 18), (⟨"KinderTownsModel", "of", "(II)I"⟩, 18), (⟨"KinderTownsModel", "knows", "(II)Z"⟩, 18), (⟨"KinderTownsModel", "isCancelled", "(II)Z"⟩, 18), (⟨"KinderTownsModel", "looks", "(II)V"⟩, 18), (⟨"KinderTownsModel", "stock", "(II)I"⟩, 18), (⟨"KinderTownsModel", "isAhead", "(II)Z"⟩, 18), (⟨"KinderTownsModel", "isEarlier", "(II)Z"⟩, 18), (⟨"KinderTownsModel", "isTown", "(I)Z"⟩, 18), (⟨"KinderTownsModel", "makes", "(IIIIII)I"⟩, 18), (⟨"KinderTownsModel", "puts", "(III)V"⟩, 18), (⟨"KinderTownsModel", "apologizes", "(I)I"⟩, 18), (⟨"KinderTownsModel", "isEvent", "(I)Z"⟩, 18), (⟨"KinderTownsModel", "hears", "(IIZ)I"⟩, 18), (⟨"KinderTownsModel", "knownBy", "(I)I"⟩, 18)]
theorem lw_r4 : ∀ q ∈ lw_privs_4, lw_okq q := List.forall_mem_cons.mpr ⟨lw_p48, List.forall_mem_cons.mpr ⟨lw_p49, List.forall_mem_cons.mpr ⟨lw_p50, List.forall_mem_cons.mpr ⟨lw_p51, List.forall_mem_cons.mpr ⟨lw_p52, List.forall_mem_cons.mpr ⟨lw_p53, List.forall_mem_cons.mpr ⟨lw_p54, List.forall_mem_cons.mpr ⟨lw_p55, List.forall_mem_cons.mpr ⟨lw_p56, List.forall_mem_cons.mpr ⟨lw_p57, List.forall_mem_cons.mpr ⟨lw_p58, List.forall_mem_cons.mpr ⟨lw_p59, List.forall_mem_cons.mpr ⟨lw_p60, List.forall_mem_cons.mpr ⟨lw_p61, List.forall_mem_cons.mpr ⟨lw_p62, List.forall_mem_cons.mpr ⟨lw_p63, fun _ h => absurd h List.not_mem_nil⟩⟩⟩⟩⟩⟩⟩⟩⟩⟩⟩⟩⟩⟩⟩⟩
theorem lw_p64 : lw_okq (⟨"KinderTownsModel", "withStatus", "(II)I"⟩, 18) := ⟨⟨by decide +kernel, by decide +kernel⟩, List.mem_of_getElem? (i := 532) (by decide +kernel), List.mem_of_getElem? (i := 713) (by decide +kernel), List.mem_of_getElem? (i := 714) (by decide +kernel)⟩
theorem lw_p65 : lw_okq (⟨"KinderTownsModel", "\x73orry", "(I)I"⟩, 18) := ⟨⟨by decide +kernel, by decide +kernel⟩, List.mem_of_getElem? (i := 532) (by decide +kernel), List.mem_of_getElem? (i := 717) (by decide +kernel), List.mem_of_getElem? (i := 718) (by decide +kernel)⟩
theorem lw_p66 : lw_okq (⟨"KinderTownsModel", "madeIn", "(I)I"⟩, 18) := ⟨⟨by decide +kernel, by decide +kernel⟩, List.mem_of_getElem? (i := 532) (by decide +kernel), List.mem_of_getElem? (i := 721) (by decide +kernel), List.mem_of_getElem? (i := 722) (by decide +kernel)⟩
theorem lw_p67 : lw_okq (⟨"KinderTownsModel", "likes", "(I)I"⟩, 18) := ⟨⟨by decide +kernel, by decide +kernel⟩, List.mem_of_getElem? (i := 532) (by decide +kernel), List.mem_of_getElem? (i := 725) (by decide +kernel), List.mem_of_getElem? (i := 726) (by decide +kernel)⟩
theorem lw_p68 : lw_okq (⟨"KinderTownsModel", "ofKind", "(I)I"⟩, 18) := ⟨⟨by decide +kernel, by decide +kernel⟩, List.mem_of_getElem? (i := 532) (by decide +kernel), List.mem_of_getElem? (i := 752) (by decide +kernel), List.mem_of_getElem? (i := 753) (by decide +kernel)⟩
theorem lw_p69 : lw_okq (⟨"KinderTownsModel", "sorries", "()I"⟩, 18) := ⟨⟨by decide +kernel, by decide +kernel⟩, List.mem_of_getElem? (i := 532) (by decide +kernel), List.mem_of_getElem? (i := 756) (by decide +kernel), List.mem_of_getElem? (i := 757) (by decide +kernel)⟩
theorem lw_p70 : lw_okq (⟨"KinderTownsModel", "everyone", "()I"⟩, 18) := ⟨⟨by decide +kernel, by decide +kernel⟩, List.mem_of_getElem? (i := 532) (by decide +kernel), List.mem_of_getElem? (i := 760) (by decide +kernel), List.mem_of_getElem? (i := 761) (by decide +kernel)⟩
theorem lw_p71 : lw_okq (⟨"KinderTownsModel", "known", "(I)I"⟩, 18) := ⟨⟨by decide +kernel, by decide +kernel⟩, List.mem_of_getElem? (i := 532) (by decide +kernel), List.mem_of_getElem? (i := 764) (by decide +kernel), List.mem_of_getElem? (i := 765) (by decide +kernel)⟩
theorem lw_p72 : lw_okq (⟨"KinderTownsModel", "thinksBoth", "(II)V"⟩, 18) := ⟨⟨by decide +kernel, by decide +kernel⟩, List.mem_of_getElem? (i := 532) (by decide +kernel), List.mem_of_getElem? (i := 775) (by decide +kernel), List.mem_of_getElem? (i := 776) (by decide +kernel)⟩
theorem lw_p73 : lw_okq (⟨"KinderTownsModel", "others", "(II)I"⟩, 18) := ⟨⟨by decide +kernel, by decide +kernel⟩, List.mem_of_getElem? (i := 532) (by decide +kernel), List.mem_of_getElem? (i := 779) (by decide +kernel), List.mem_of_getElem? (i := 780) (by decide +kernel)⟩
theorem lw_p74 : lw_okq (⟨"KinderTownsModel", "happy", "()I"⟩, 18) := ⟨⟨by decide +kernel, by decide +kernel⟩, List.mem_of_getElem? (i := 532) (by decide +kernel), List.mem_of_getElem? (i := 791) (by decide +kernel), List.mem_of_getElem? (i := 792) (by decide +kernel)⟩
theorem lw_p75 : lw_okq (⟨"KinderTownsModel", "plays", "()I"⟩, 18) := ⟨⟨by decide +kernel, by decide +kernel⟩, List.mem_of_getElem? (i := 532) (by decide +kernel), List.mem_of_getElem? (i := 815) (by decide +kernel), List.mem_of_getElem? (i := 816) (by decide +kernel)⟩
theorem lw_p76 : lw_okq (⟨"KinderTownsModel", "number", "(II)Z"⟩, 18) := ⟨⟨by decide +kernel, by decide +kernel⟩, List.mem_of_getElem? (i := 532) (by decide +kernel), List.mem_of_getElem? (i := 822) (by decide +kernel), List.mem_of_getElem? (i := 823) (by decide +kernel)⟩
theorem lw_p77 : lw_okq (⟨"KinderTownsModel", "isAt", "(II)Z"⟩, 18) := ⟨⟨by decide +kernel, by decide +kernel⟩, List.mem_of_getElem? (i := 532) (by decide +kernel), List.mem_of_getElem? (i := 826) (by decide +kernel), List.mem_of_getElem? (i := 827) (by decide +kernel)⟩
theorem lw_p78 : lw_okq (⟨"KinderTownsModel", "calls", "(I)I"⟩, 18) := ⟨⟨by decide +kernel, by decide +kernel⟩, List.mem_of_getElem? (i := 532) (by decide +kernel), List.mem_of_getElem? (i := 830) (by decide +kernel), List.mem_of_getElem? (i := 831) (by decide +kernel)⟩
def lw_privs_5 : List (MethodName × Nat) := [(⟨"KinderTownsModel", "withStatus", "(II)I"⟩, 18), (⟨"KinderTownsModel", "\x73orry", "(I)I"⟩, 18), (⟨"KinderTownsModel", "madeIn", "(I)I"⟩, 18), (⟨"KinderTownsModel", "likes", "(I)I"⟩, 18), (⟨"KinderTownsModel", "ofKind", "(I)I"⟩, 18), (⟨"KinderTownsModel", "sorries", "()I"⟩, 18), (⟨"KinderTownsModel", "everyone", "()I"⟩, 18), (⟨"KinderTownsModel", "known", "(I)I"⟩, 18), (⟨"KinderTownsModel", "thinksBoth", "(II)V"⟩, 18), (⟨"KinderTownsModel", "others", "(II)I"⟩, 18), (⟨"KinderTownsModel", "happy", "()I"⟩, 18), (⟨"KinderTownsModel", "plays", "()I"⟩, 18), (⟨"KinderTownsModel", "number", "(II)Z"⟩, 18), (⟨"KinderTownsModel", "isAt", "(II)Z"⟩, 18), (⟨"KinderTownsModel", "calls", "(I)I"⟩, 18)]
theorem lw_r5 : ∀ q ∈ lw_privs_5, lw_okq q := List.forall_mem_cons.mpr ⟨lw_p64, List.forall_mem_cons.mpr ⟨lw_p65, List.forall_mem_cons.mpr ⟨lw_p66, List.forall_mem_cons.mpr ⟨lw_p67, List.forall_mem_cons.mpr ⟨lw_p68, List.forall_mem_cons.mpr ⟨lw_p69, List.forall_mem_cons.mpr ⟨lw_p70, List.forall_mem_cons.mpr ⟨lw_p71, List.forall_mem_cons.mpr ⟨lw_p72, List.forall_mem_cons.mpr ⟨lw_p73, List.forall_mem_cons.mpr ⟨lw_p74, List.forall_mem_cons.mpr ⟨lw_p75, List.forall_mem_cons.mpr ⟨lw_p76, List.forall_mem_cons.mpr ⟨lw_p77, List.forall_mem_cons.mpr ⟨lw_p78, fun _ h => absurd h List.not_mem_nil⟩⟩⟩⟩⟩⟩⟩⟩⟩⟩⟩⟩⟩⟩⟩
def lw_privs : List (MethodName × Nat) := lw_privs_1 ++ (lw_privs_2 ++ (lw_privs_3 ++ (lw_privs_4 ++ (lw_privs_5))))
def lw_tbl : List Cond := k2_sels lw_privs ++ tables_1
theorem lw_privs_ok : ∀ q ∈ lw_privs, lw_okq q := by
  show ∀ q ∈ lw_privs_1 ++ (lw_privs_2 ++ (lw_privs_3 ++ (lw_privs_4 ++ (lw_privs_5)))), lw_okq q
  exact List.forall_mem_append.mpr ⟨lw_r1, List.forall_mem_append.mpr ⟨lw_r2, List.forall_mem_append.mpr ⟨lw_r3, List.forall_mem_append.mpr ⟨lw_r4, lw_r5⟩⟩⟩⟩
end
section
def RX0 : String := "KinderTowns$Country"
def TX0 : u_T := fun k => match k with
  | 0 => ("KinderTowns$Country", "looking", "LKinderTowns$Looking;", true)
  | 1 => ("KinderTowns$Country", "events", "LKinderTowns$Events;", true)
  | 2 => ("KinderTowns$Country", "towns", "I", false)
  | 3 => ("KinderTowns$Country", "rule", "I", false)
  | 4 => ("KinderTowns$Country", "clocks", "[I", true)
  | 5 => ("KinderTowns$Country", "known", "[J", true)
  | 6 => ("KinderTowns$Country", "accepted", "[J", true)
  | 7 => ("KinderTowns$Country", "refused", "[J", true)
  | 8 => ("KinderTowns$Country", "apologised", "[J", true)
  | 9 => ("KinderTowns$Country", "thoughtOf", "[J", true)
  | _ => ("KinderTowns$Country", "thoughtBy", "I", false)
def tyX0 : Nat → FieldType := fun k => match k with
  | 0 => .object "KinderTowns$Looking"
  | 1 => .object "KinderTowns$Events"
  | 2 => .int
  | 3 => .int
  | 4 => .array .int
  | 5 => .array .long
  | 6 => .array .long
  | 7 => .array .long
  | 8 => .array .long
  | 9 => .array .long
  | _ => .int
abbrev wsX00 : List Cond := u_ws RX0 TX0 11
theorem nmX0 : ∀ a, a < 11 → ∀ b, b < 11 → a ≠ b → (TX0 a).2.1 ≠ (TX0 b).2.1 := by decide +kernel
theorem tyX0_ok : ∀ k, k < 11 → parseFieldDescriptor (TX0 k).2.2.1 = some (tyX0 k) := by decide +kernel
def RX1 : String := "KinderTowns$Events"
def TX1 : u_T := fun k => match k with
  | 0 => ("KinderTowns$Events", "count", "I", false)
  | 1 => ("KinderTowns$Events", "kinds", "[I", true)
  | 2 => ("KinderTowns$Events", "towns", "[I", true)
  | 3 => ("KinderTowns$Events", "clocks", "[I", true)
  | 4 => ("KinderTowns$Events", "goods", "[I", true)
  | 5 => ("KinderTowns$Events", "pieces", "[I", true)
  | 6 => ("KinderTowns$Events", "persons", "[I", true)
  | _ => ("KinderTowns$Events", "orders", "[I", true)
def tyX1 : Nat → FieldType := fun k => match k with
  | 0 => .int
  | 1 => .array .int
  | 2 => .array .int
  | 3 => .array .int
  | 4 => .array .int
  | 5 => .array .int
  | 6 => .array .int
  | _ => .array .int
abbrev wsX10 : List Cond := u_ws RX1 TX1 8
theorem nmX1 : ∀ a, a < 8 → ∀ b, b < 8 → a ≠ b → (TX1 a).2.1 ≠ (TX1 b).2.1 := by decide +kernel
theorem tyX1_ok : ∀ k, k < 8 → parseFieldDescriptor (TX1 k).2.2.1 = some (tyX1 k) := by decide +kernel
def RX2 : String := "KinderTowns$Looking"
def TX2 : u_T := fun k => match k with
  | 0 => ("KinderTowns$Looking", "row", "[I", true)
  | 1 => ("KinderTowns$Looking", "length", "I", false)
  | 2 => ("KinderTowns$Looking", "left", "I", false)
  | 3 => ("KinderTowns$Looking", "given", "[I", true)
  | 4 => ("KinderTowns$Looking", "accepted", "J", false)
  | _ => ("KinderTowns$Looking", "refused", "J", false)
def tyX2 : Nat → FieldType := fun k => match k with
  | 0 => .array .int
  | 1 => .int
  | 2 => .int
  | 3 => .array .int
  | 4 => .long
  | _ => .long
abbrev wsX20 : List Cond := u_ws RX2 TX2 6
theorem nmX2 : ∀ a, a < 6 → ∀ b, b < 6 → a ≠ b → (TX2 a).2.1 ≠ (TX2 b).2.1 := by decide +kernel
theorem tyX2_ok : ∀ k, k < 6 → parseFieldDescriptor (TX2 k).2.2.1 = some (tyX2 k) := by decide +kernel
def RX3 : String := "KinderTowns$Script"
def TX3 : u_T := fun k => match k with
  | 0 => ("KinderTowns$Script", "signs", "[I", true)
  | 1 => ("KinderTowns$Script", "length", "I", false)
  | 2 => ("KinderTowns$Script", "numbers", "[I", true)
  | 3 => ("KinderTowns$Script", "commands", "I", false)
  | 4 => ("KinderTowns$Script", "place", "I", false)
  | _ => ("KinderTowns$Script", "reason", "I", false)
def tyX3 : Nat → FieldType := fun k => match k with
  | 0 => .array .int
  | 1 => .int
  | 2 => .array .int
  | 3 => .int
  | 4 => .int
  | _ => .int
abbrev wsX30 : List Cond := u_ws RX3 TX3 6
theorem nmX3 : ∀ a, a < 6 → ∀ b, b < 6 → a ≠ b → (TX3 a).2.1 ≠ (TX3 b).2.1 := by decide +kernel
theorem tyX3_ok : ∀ k, k < 6 → parseFieldDescriptor (TX3 k).2.2.1 = some (tyX3 k) := by decide +kernel
def RX4 : String := "KinderTowns"
def TX4 : u_T := fun k => match k with
  | 0 => ("KinderTowns", "now", "LKinderTowns$Country;", false)
  | 1 => ("KinderTowns", "spare", "LKinderTowns$Country;", false)
  | 2 => ("KinderTowns", "history", "[LKinderTowns$Country;", true)
  | 3 => ("KinderTowns", "states", "I", false)
  | 4 => ("KinderTowns", "looking", "LKinderTowns$Looking;", true)
  | _ => ("KinderTowns", "script", "LKinderTowns$Script;", true)
def tyX4 : Nat → FieldType := fun k => match k with
  | 0 => .object "KinderTowns$Country"
  | 1 => .object "KinderTowns$Country"
  | 2 => .array (.object "KinderTowns$Country")
  | 3 => .int
  | 4 => .object "KinderTowns$Looking"
  | _ => .object "KinderTowns$Script"
abbrev wsX40 : List Cond := u_ws RX4 TX4 6
theorem nmX4 : ∀ a, a < 6 → ∀ b, b < 6 → a ≠ b → (TX4 a).2.1 ≠ (TX4 b).2.1 := by decide +kernel
theorem tyX4_ok : ∀ k, k < 6 → parseFieldDescriptor (TX4 k).2.2.1 = some (tyX4 k) := by decide +kernel
def RX5 : String := "KinderTownsModel"
def TX5 : u_T := fun k => match k with
  | 0 => ("KinderTownsModel", "s", "[I", true)
  | 1 => ("KinderTownsModel", "past", "[I", true)
  | 2 => ("KinderTownsModel", "held", "[I", true)
  | 3 => ("KinderTownsModel", "tried", "[I", true)
  | 4 => ("KinderTownsModel", "pasts", "I", false)
  | 5 => ("KinderTownsModel", "runs", "Z", false)
  | 6 => ("KinderTownsModel", "text", "[I", true)
  | 7 => ("KinderTownsModel", "typed", "I", false)
  | 8 => ("KinderTownsModel", "status", "[I", true)
  | 9 => ("KinderTownsModel", "row", "[I", true)
  | 10 => ("KinderTownsModel", "looked", "I", false)
  | 11 => ("KinderTownsModel", "got", "[I", true)
  | 12 => ("KinderTownsModel", "accepted", "[Z", true)
  | 13 => ("KinderTownsModel", "before", "[I", true)
  | 14 => ("KinderTownsModel", "spot", "I", false)
  | 15 => ("KinderTownsModel", "cause", "I", false)
  | 16 => ("KinderTownsModel", "commands", "I", false)
  | _ => ("KinderTownsModel", "told", "[I", true)
def tyX5 : Nat → FieldType := fun k => match k with
  | 0 => .array .int
  | 1 => .array .int
  | 2 => .array .int
  | 3 => .array .int
  | 4 => .int
  | 5 => .boolean
  | 6 => .array .int
  | 7 => .int
  | 8 => .array .int
  | 9 => .array .int
  | 10 => .int
  | 11 => .array .int
  | 12 => .array .boolean
  | 13 => .array .int
  | 14 => .int
  | 15 => .int
  | 16 => .int
  | _ => .array .int
abbrev wsX50 : List Cond := u_ws RX5 TX5 18
theorem nmX5 : ∀ a, a < 18 → ∀ b, b < 18 → a ≠ b → (TX5 a).2.1 ≠ (TX5 b).2.1 := by decide +kernel
theorem tyX5_ok : ∀ k, k < 18 → parseFieldDescriptor (TX5 k).2.2.1 = some (tyX5 k) := by decide +kernel
def RL : String := "KinderTownsLaw"
abbrev cL_law : ByteArray := code
def yL_law : MethodName := ⟨RL, "law", "([I)Z"⟩
abbrev vwCl : List vw_C := [(RX0, TX0, 11), (RX1, TX1, 8), (RX2, TX2, 6), (RX3, TX3, 6), (RX4, TX4, 6), (RX5, TX5, 18)]
/-! the tables of this claim: methods, kinds of cells -/
abbrev i_law_law : Nat := 0
abbrev i_K_init : Nat := 1
abbrev i_L_init : Nat := 2
abbrev i_S_init : Nat := 3
abbrev i_C_init : Nat := 4
abbrev i_E_init : Nat := 5
abbrev i_K_town : Nat := 6
abbrev i_C_copyFrom : Nat := 7
abbrev i_E_copyFrom : Nat := 8
abbrev i_C_addTown : Nat := 9
abbrev i_K_isBelow : Nat := 10
abbrev i_K_recorded : Nat := 11
abbrev i_C_thinkAnew : Nat := 12
abbrev i_L_lookAtAll : Nat := 13
abbrev i_E_standingIn : Nat := 14
abbrev i_E_cancelledIn : Nat := 15
abbrev i_K_has : Nat := 16
abbrev i_L_lookAtGood : Nat := 17
abbrev i_L_gather : Nat := 18
abbrev i_J_fill : Nat := 19
abbrev i_L_nextPlace : Nat := 20
abbrev i_L_weight : Nat := 21
abbrev i_L_decide : Nat := 22
abbrev i_K_keepSpare : Nat := 23
abbrev i_K_deliver : Nat := 24
abbrev i_C_makeDelivery : Nat := 25
abbrev i_C_isTown : Nat := 26
abbrev i_C_make : Nat := 27
abbrev i_E_add : Nat := 28
abbrev i_K_order : Nat := 29
abbrev i_C_makeOrder : Nat := 30
abbrev i_K_cancel : Nat := 31
abbrev i_C_makeCancellation : Nat := 32
abbrev i_E_isOrder : Nat := 33
abbrev i_K_meet : Nat := 34
abbrev i_C_letMeet : Nat := 35
abbrev i_C_letHear : Nat := 36
abbrev i_C_newsFor : Nat := 37
abbrev i_J_bitCount : Nat := 38
abbrev i_J_max : Nat := 39
abbrev i_K_hear : Nat := 40
abbrev i_K_rule : Nat := 41
abbrev i_C_setRule : Nat := 42
abbrev i_K_eventOf : Nat := 43
abbrev i_C_townsWith : Nat := 44
abbrev i_K_thinks : Nat := 45
abbrev i_K_townOf : Nat := 46
abbrev i_E_having : Nat := 47
abbrev i_C_townsThatKnow : Nat := 48
abbrev i_K_goodOf : Nat := 49
abbrev i_E_piecesOf : Nat := 50
abbrev i_K_lookedAt : Nat := 51
abbrev i_K_personOf : Nat := 52
abbrev i_C_apologiesFor : Nat := 53
abbrev i_K_unheard : Nat := 54
abbrev i_K_count : Nat := 55
abbrev i_E_all : Nat := 56
abbrev i_C_knownByAll : Nat := 57
abbrev i_C_allKnowTheSame : Nat := 58
abbrev i_K_would : Nat := 59
abbrev i_K_newApologies : Nat := 60
abbrev i_K_otherThoughts : Nat := 61
abbrev i_E_goodsOf : Nat := 62
abbrev i_K_wouldRule : Nat := 63
abbrev i_K_kindest : Nat := 64
abbrev i_E_personsIn : Nat := 65
abbrev i_K_rounds : Nat := 66
abbrev i_C_meetInTurn : Nat := 67
abbrev i_K_undo : Nat := 68
abbrev i_K_type : Nat := 69
abbrev i_K_clearText : Nat := 70
abbrev i_K_fault : Nat := 71
abbrev i_S_runOn : Nat := 72
abbrev i_S_read : Nat := 73
abbrev i_S_signAt : Nat := 74
abbrev i_S_numbersBehind : Nat := 75
abbrev i_S_digitsAt : Nat := 76
abbrev i_S_isDigit : Nat := 77
abbrev i_S_digit : Nat := 78
abbrev i_S_doCommand : Nat := 79
abbrev i_S_reasonOf : Nat := 80
abbrev i_K_play : Nat := 81
abbrev i_M_init : Nat := 82
abbrev i_M_town : Nat := 83
abbrev i_M_changes : Nat := 84
abbrev i_M_records : Nat := 85
abbrev i_M_remembers : Nat := 86
abbrev i_M_thinksAll : Nat := 87
abbrev i_M_thinksOf : Nat := 88
abbrev i_M_of : Nat := 89
abbrev i_M_knows : Nat := 90
abbrev i_M_isCancelled : Nat := 91
abbrev i_M_looks : Nat := 92
abbrev i_M_stock : Nat := 93
abbrev i_M_isAhead : Nat := 94
abbrev i_M_isEarlier : Nat := 95
abbrev i_M_deliver : Nat := 96
abbrev i_M_isTown : Nat := 97
abbrev i_M_in : Nat := 98
abbrev i_M_makes : Nat := 99
abbrev i_M_puts : Nat := 100
abbrev i_M_apologizes : Nat := 101
abbrev i_M_order : Nat := 102
abbrev i_M_cancel : Nat := 103
abbrev i_M_isEvent : Nat := 104
abbrev i_M_meet : Nat := 105
abbrev i_M_hears : Nat := 106
abbrev i_M_hear : Nat := 107
abbrev i_M_rule : Nat := 108
abbrev i_M_eventOf : Nat := 109
abbrev i_M_thinks : Nat := 110
abbrev i_M_townOf : Nat := 111
abbrev i_M_knownBy : Nat := 112
abbrev i_M_withStatus : Nat := 113
abbrev i_M_sorry : Nat := 114
abbrev i_M_madeIn : Nat := 115
abbrev i_M_likes : Nat := 116
abbrev i_M_goodOf : Nat := 117
abbrev i_M_lookedAt : Nat := 118
abbrev i_M_personOf : Nat := 119
abbrev i_M_bits : Nat := 120
abbrev i_M_unheard : Nat := 121
abbrev i_M_count : Nat := 122
abbrev i_M_ofKind : Nat := 123
abbrev i_M_sorries : Nat := 124
abbrev i_M_everyone : Nat := 125
abbrev i_M_known : Nat := 126
abbrev i_M_would : Nat := 127
abbrev i_M_copies : Nat := 128
abbrev i_M_thinksBoth : Nat := 129
abbrev i_M_others : Nat := 130
abbrev i_M_wouldRule : Nat := 131
abbrev i_M_kindest : Nat := 132
abbrev i_M_happy : Nat := 133
abbrev i_M_rounds : Nat := 134
abbrev i_M_undo : Nat := 135
abbrev i_M_type : Nat := 136
abbrev i_M_clearText : Nat := 137
abbrev i_M_fault : Nat := 138
abbrev i_M_plays : Nat := 139
abbrev i_M_numbersOf : Nat := 140
abbrev i_M_number : Nat := 141
abbrev i_M_isAt : Nat := 142
abbrev i_M_calls : Nat := 143
abbrev i_M_play : Nat := 144
def kt_mt : List (MethodName × ByteArray × Nat × Option FieldType) := [
  (⟨"KinderTownsLaw", "law", "([I)Z"⟩, code, 4, (some .boolean)),
  (⟨"KinderTowns", "<init>", "()V"⟩, prog_1_method_1_code, 2, none),
  (⟨"KinderTowns$Looking", "<init>", "()V"⟩, prog_4_method_1_code, 1, none),
  (⟨"KinderTowns$Script", "<init>", "()V"⟩, prog_5_method_1_code, 1, none),
  (⟨"KinderTowns$Country", "<init>", "(LKinderTowns$Looking;)V"⟩, prog_2_method_1_code, 2, none),
  (⟨"KinderTowns$Events", "<init>", "()V"⟩, prog_3_method_1_code, 1, none),
  (⟨"KinderTowns", "town", "()I"⟩, prog_1_method_2_code, 1, (some .int)),
  (⟨"KinderTowns$Country", "copyFrom", "(LKinderTowns$Country;)V"⟩, prog_2_method_2_code, 2, none),
  (⟨"KinderTowns$Events", "copyFrom", "(LKinderTowns$Events;)V"⟩, prog_3_method_2_code, 2, none),
  (⟨"KinderTowns$Country", "addTown", "()I"⟩, prog_2_method_4_code, 1, (some .int)),
  (⟨"KinderTowns", "isBelow", "(II)Z"⟩, prog_1_method_26_code, 2, (some .boolean)),
  (⟨"KinderTowns", "recorded", "(I)I"⟩, prog_1_method_28_code, 2, (some .int)),
  (⟨"KinderTowns$Country", "thinkAnew", "()V"⟩, prog_2_method_12_code, 2, none),
  (⟨"KinderTowns$Looking", "lookAtAll", "(LKinderTowns$Events;JI)V"⟩, prog_4_method_2_code, 8, none),
  (⟨"KinderTowns$Events", "standingIn", "(J)J"⟩, prog_3_method_8_code, 3, (some .long)),
  (⟨"KinderTowns$Events", "cancelledIn", "(J)J"⟩, prog_3_method_7_code, 6, (some .long)),
  (⟨"KinderTowns", "has", "(JI)Z"⟩, prog_1_method_27_code, 3, (some .boolean)),
  (⟨"KinderTowns$Looking", "lookAtGood", "(LKinderTowns$Events;JII)V"⟩, prog_4_method_3_code, 9, none),
  (⟨"KinderTowns$Looking", "gather", "(LKinderTowns$Events;JI)V"⟩, prog_4_method_4_code, 6, none),
  (⟨"java/util/Arrays", "fill", "([II)V"⟩, prog_11_method_103_code, 4, none),
  (⟨"KinderTowns$Looking", "nextPlace", "(LKinderTowns$Events;II)I"⟩, prog_4_method_5_code, 8, (some .int)),
  (⟨"KinderTowns$Looking", "weight", "(LKinderTowns$Events;II)I"⟩, prog_4_method_6_code, 6, (some .int)),
  (⟨"KinderTowns$Looking", "decide", "(III)V"⟩, prog_4_method_7_code, 4, none),
  (⟨"KinderTowns", "keepSpare", "()V"⟩, prog_1_method_29_code, 3, none),
  (⟨"KinderTowns", "deliver", "(III)I"⟩, prog_1_method_3_code, 4, (some .int)),
  (⟨"KinderTowns$Country", "makeDelivery", "(III)I"⟩, prog_2_method_5_code, 4, (some .int)),
  (⟨"KinderTowns$Country", "isTown", "(I)Z"⟩, prog_2_method_3_code, 2, (some .boolean)),
  (⟨"KinderTowns$Country", "make", "(IIII)I"⟩, prog_2_method_8_code, 6, (some .int)),
  (⟨"KinderTowns$Events", "add", "(IIIII)I"⟩, prog_3_method_4_code, 6, (some .int)),
  (⟨"KinderTowns", "order", "(IIII)I"⟩, prog_1_method_4_code, 5, (some .int)),
  (⟨"KinderTowns$Country", "makeOrder", "(IIII)I"⟩, prog_2_method_6_code, 6, (some .int)),
  (⟨"KinderTowns", "cancel", "(II)I"⟩, prog_1_method_5_code, 3, (some .int)),
  (⟨"KinderTowns$Country", "makeCancellation", "(II)I"⟩, prog_2_method_7_code, 4, (some .int)),
  (⟨"KinderTowns$Events", "isOrder", "(I)Z"⟩, prog_3_method_3_code, 2, (some .boolean)),
  (⟨"KinderTowns", "meet", "(II)I"⟩, prog_1_method_6_code, 3, (some .int)),
  (⟨"KinderTowns$Country", "letMeet", "(II)I"⟩, prog_2_method_9_code, 4, (some .int)),
  (⟨"KinderTowns$Country", "letHear", "(II)I"⟩, prog_2_method_10_code, 4, (some .int)),
  (⟨"KinderTowns$Country", "newsFor", "(IJ)I"⟩, prog_2_method_13_code, 4, (some .int)),
  (⟨"java/lang/Long", "bitCount", "(J)I"⟩, prog_8_method_50_code, 2, (some .int)),
  (⟨"java/lang/Math", "max", "(II)I"⟩, prog_9_method_65_code, 2, (some .int)),
  (⟨"KinderTowns", "hear", "(II)I"⟩, prog_1_method_7_code, 3, (some .int)),
  (⟨"KinderTowns", "rule", "(I)I"⟩, prog_1_method_8_code, 2, (some .int)),
  (⟨"KinderTowns$Country", "setRule", "(I)I"⟩, prog_2_method_11_code, 3, (some .int)),
  (⟨"KinderTowns", "eventOf", "(II)I"⟩, prog_1_method_9_code, 4, (some .int)),
  (⟨"KinderTowns$Country", "townsWith", "([JI)I"⟩, prog_2_method_14_code, 5, (some .int)),
  (⟨"KinderTowns", "thinks", "(II)I"⟩, prog_1_method_10_code, 3, (some .int)),
  (⟨"KinderTowns", "townOf", "(II)I"⟩, prog_1_method_11_code, 3, (some .int)),
  (⟨"KinderTowns$Events", "having", "([II)J"⟩, prog_3_method_6_code, 6, (some .long)),
  (⟨"KinderTowns$Country", "townsThatKnow", "(J)I"⟩, prog_2_method_15_code, 5, (some .int)),
  (⟨"KinderTowns", "goodOf", "(III)I"⟩, prog_1_method_12_code, 9, (some .int)),
  (⟨"KinderTowns$Events", "piecesOf", "(J)I"⟩, prog_3_method_9_code, 5, (some .int)),
  (⟨"KinderTowns", "lookedAt", "(III)I"⟩, prog_1_method_13_code, 4, (some .int)),
  (⟨"KinderTowns", "personOf", "(III)I"⟩, prog_1_method_14_code, 7, (some .int)),
  (⟨"KinderTowns$Country", "apologiesFor", "(J)I"⟩, prog_2_method_16_code, 5, (some .int)),
  (⟨"KinderTowns", "unheard", "(II)I"⟩, prog_1_method_15_code, 3, (some .int)),
  (⟨"KinderTowns", "count", "(I)I"⟩, prog_1_method_16_code, 3, (some .int)),
  (⟨"KinderTowns$Events", "all", "()J"⟩, prog_3_method_5_code, 1, (some .long)),
  (⟨"KinderTowns$Country", "knownByAll", "()J"⟩, prog_2_method_17_code, 4, (some .long)),
  (⟨"KinderTowns$Country", "allKnowTheSame", "()Z"⟩, prog_2_method_18_code, 2, (some .boolean)),
  (⟨"KinderTowns", "would", "(III)I"⟩, prog_1_method_17_code, 5, (some .int)),
  (⟨"KinderTowns", "newApologies", "()I"⟩, prog_1_method_30_code, 1, (some .int)),
  (⟨"KinderTowns", "otherThoughts", "(I)J"⟩, prog_1_method_31_code, 2, (some .long)),
  (⟨"KinderTowns$Events", "goodsOf", "(J)I"⟩, prog_3_method_10_code, 5, (some .int)),
  (⟨"KinderTowns", "wouldRule", "(I)I"⟩, prog_1_method_18_code, 2, (some .int)),
  (⟨"KinderTowns", "kindest", "(I)I"⟩, prog_1_method_19_code, 6, (some .int)),
  (⟨"KinderTowns$Events", "personsIn", "(J)I"⟩, prog_3_method_11_code, 5, (some .int)),
  (⟨"KinderTowns", "rounds", "()I"⟩, prog_1_method_20_code, 2, (some .int)),
  (⟨"KinderTowns$Country", "meetInTurn", "()V"⟩, prog_2_method_19_code, 4, none),
  (⟨"KinderTowns", "undo", "()I"⟩, prog_1_method_21_code, 2, (some .int)),
  (⟨"KinderTowns", "type", "(I)I"⟩, prog_1_method_22_code, 2, (some .int)),
  (⟨"KinderTowns", "clearText", "()I"⟩, prog_1_method_23_code, 2, (some .int)),
  (⟨"KinderTowns", "fault", "(I)I"⟩, prog_1_method_24_code, 2, (some .int)),
  (⟨"KinderTowns$Script", "runOn", "(LKinderTowns$Country;)V"⟩, prog_5_method_2_code, 3, none),
  (⟨"KinderTowns$Script", "read", "(I)I"⟩, prog_5_method_4_code, 6, (some .int)),
  (⟨"KinderTowns$Script", "signAt", "(I)I"⟩, prog_5_method_7_code, 2, (some .int)),
  (⟨"KinderTowns$Script", "numbersBehind", "(I)I"⟩, prog_5_method_5_code, 1, (some .int)),
  (⟨"KinderTowns$Script", "digitsAt", "(I)I"⟩, prog_5_method_10_code, 2, (some .int)),
  (⟨"KinderTowns$Script", "isDigit", "(I)Z"⟩, prog_5_method_8_code, 2, (some .boolean)),
  (⟨"KinderTowns$Script", "digit", "(I)I"⟩, prog_5_method_9_code, 2, (some .int)),
  (⟨"KinderTowns$Script", "doCommand", "(LKinderTowns$Country;I)I"⟩, prog_5_method_6_code, 3, (some .int)),
  (⟨"KinderTowns$Script", "reasonOf", "(I)I"⟩, prog_5_method_3_code, 1, (some .int)),
  (⟨"KinderTowns", "play", "()I"⟩, prog_1_method_25_code, 2, (some .int)),
  (⟨"KinderTownsModel", "<init>", "()V"⟩, prog_7_method_1_code, 1, none),
  (⟨"KinderTownsModel", "town", "()I"⟩, prog_7_method_21_code, 2, (some .int)),
  (⟨"KinderTownsModel", "changes", "()V"⟩, prog_7_method_20_code, 1, none),
  (⟨"KinderTownsModel", "records", "()V"⟩, prog_7_method_19_code, 2, none),
  (⟨"KinderTownsModel", "remembers", "()V"⟩, prog_7_method_17_code, 3, none),
  (⟨"KinderTownsModel", "thinksAll", "(I)V"⟩, prog_7_method_16_code, 3, none),
  (⟨"KinderTownsModel", "thinksOf", "(I)V"⟩, prog_7_method_15_code, 4, none),
  (⟨"KinderTownsModel", "of", "(II)I"⟩, prog_7_method_5_code, 3, (some .int)),
  (⟨"KinderTownsModel", "knows", "(II)Z"⟩, prog_7_method_9_code, 3, (some .boolean)),
  (⟨"KinderTownsModel", "isCancelled", "(II)Z"⟩, prog_7_method_11_code, 5, (some .boolean)),
  (⟨"KinderTownsModel", "looks", "(II)V"⟩, prog_7_method_14_code, 7, none),
  (⟨"KinderTownsModel", "stock", "(II)I"⟩, prog_7_method_10_code, 5, (some .int)),
  (⟨"KinderTownsModel", "isAhead", "(II)Z"⟩, prog_7_method_13_code, 4, (some .boolean)),
  (⟨"KinderTownsModel", "isEarlier", "(II)Z"⟩, prog_7_method_12_code, 4, (some .boolean)),
  (⟨"KinderTownsModel", "deliver", "(III)I"⟩, prog_7_method_23_code, 4, (some .int)),
  (⟨"KinderTownsModel", "isTown", "(I)Z"⟩, prog_7_method_7_code, 2, (some .boolean)),
  (⟨"KinderTownsModel", "in", "(III)Z"⟩, prog_7_method_3_code, 3, (some .boolean)),
  (⟨"KinderTownsModel", "makes", "(IIIIII)I"⟩, prog_7_method_22_code, 8, (some .int)),
  (⟨"KinderTownsModel", "puts", "(III)V"⟩, prog_7_method_6_code, 4, none),
  (⟨"KinderTownsModel", "apologizes", "(I)I"⟩, prog_7_method_18_code, 5, (some .int)),
  (⟨"KinderTownsModel", "order", "(IIII)I"⟩, prog_7_method_24_code, 5, (some .int)),
  (⟨"KinderTownsModel", "cancel", "(II)I"⟩, prog_7_method_25_code, 3, (some .int)),
  (⟨"KinderTownsModel", "isEvent", "(I)Z"⟩, prog_7_method_8_code, 2, (some .boolean)),
  (⟨"KinderTownsModel", "meet", "(II)I"⟩, prog_7_method_27_code, 4, (some .int)),
  (⟨"KinderTownsModel", "hears", "(IIZ)I"⟩, prog_7_method_26_code, 10, (some .int)),
  (⟨"KinderTownsModel", "hear", "(II)I"⟩, prog_7_method_28_code, 4, (some .int)),
  (⟨"KinderTownsModel", "rule", "(I)I"⟩, prog_7_method_29_code, 3, (some .int)),
  (⟨"KinderTownsModel", "eventOf", "(II)I"⟩, prog_7_method_30_code, 3, (some .int)),
  (⟨"KinderTownsModel", "thinks", "(II)I"⟩, prog_7_method_31_code, 3, (some .int)),
  (⟨"KinderTownsModel", "townOf", "(II)I"⟩, prog_7_method_37_code, 3, (some .int)),
  (⟨"KinderTownsModel", "knownBy", "(I)I"⟩, prog_7_method_33_code, 4, (some .int)),
  (⟨"KinderTownsModel", "withStatus", "(II)I"⟩, prog_7_method_35_code, 5, (some .int)),
  (⟨"KinderTownsModel", "\x73orry", "(I)I"⟩, prog_7_method_32_code, 4, (some .int)),
  (⟨"KinderTownsModel", "madeIn", "(I)I"⟩, prog_7_method_34_code, 4, (some .int)),
  (⟨"KinderTownsModel", "likes", "(I)I"⟩, prog_7_method_36_code, 6, (some .int)),
  (⟨"KinderTownsModel", "goodOf", "(III)I"⟩, prog_7_method_38_code, 7, (some .int)),
  (⟨"KinderTownsModel", "lookedAt", "(III)I"⟩, prog_7_method_39_code, 4, (some .int)),
  (⟨"KinderTownsModel", "personOf", "(III)I"⟩, prog_7_method_41_code, 7, (some .int)),
  (⟨"KinderTownsModel", "bits", "(I)I"⟩, prog_7_method_40_code, 3, (some .int)),
  (⟨"KinderTownsModel", "unheard", "(II)I"⟩, prog_7_method_42_code, 5, (some .int)),
  (⟨"KinderTownsModel", "count", "(I)I"⟩, prog_7_method_47_code, 2, (some .int)),
  (⟨"KinderTownsModel", "ofKind", "(I)I"⟩, prog_7_method_43_code, 4, (some .int)),
  (⟨"KinderTownsModel", "sorries", "()I"⟩, prog_7_method_45_code, 3, (some .int)),
  (⟨"KinderTownsModel", "everyone", "()I"⟩, prog_7_method_46_code, 1, (some .int)),
  (⟨"KinderTownsModel", "known", "(I)I"⟩, prog_7_method_44_code, 4, (some .int)),
  (⟨"KinderTownsModel", "would", "(III)I"⟩, prog_7_method_50_code, 7, (some .int)),
  (⟨"KinderTownsModel", "copies", "([I[I)V"⟩, prog_7_method_4_code, 3, none),
  (⟨"KinderTownsModel", "thinksBoth", "(II)V"⟩, prog_7_method_48_code, 5, none),
  (⟨"KinderTownsModel", "others", "(II)I"⟩, prog_7_method_49_code, 8, (some .int)),
  (⟨"KinderTownsModel", "wouldRule", "(I)I"⟩, prog_7_method_51_code, 3, (some .int)),
  (⟨"KinderTownsModel", "kindest", "(I)I"⟩, prog_7_method_53_code, 7, (some .int)),
  (⟨"KinderTownsModel", "happy", "()I"⟩, prog_7_method_52_code, 4, (some .int)),
  (⟨"KinderTownsModel", "rounds", "()I"⟩, prog_7_method_54_code, 3, (some .int)),
  (⟨"KinderTownsModel", "undo", "()I"⟩, prog_7_method_55_code, 2, (some .int)),
  (⟨"KinderTownsModel", "type", "(I)I"⟩, prog_7_method_56_code, 2, (some .int)),
  (⟨"KinderTownsModel", "clearText", "()I"⟩, prog_7_method_57_code, 2, (some .int)),
  (⟨"KinderTownsModel", "fault", "(I)I"⟩, prog_7_method_63_code, 3, (some .int)),
  (⟨"KinderTownsModel", "plays", "()I"⟩, prog_7_method_62_code, 6, (some .int)),
  (⟨"KinderTownsModel", "numbersOf", "(I)I"⟩, prog_7_method_60_code, 1, (some .int)),
  (⟨"KinderTownsModel", "number", "(II)Z"⟩, prog_7_method_59_code, 5, (some .boolean)),
  (⟨"KinderTownsModel", "isAt", "(II)Z"⟩, prog_7_method_58_code, 3, (some .boolean)),
  (⟨"KinderTownsModel", "calls", "(I)I"⟩, prog_7_method_61_code, 2, (some .int)),
  (⟨"KinderTownsModel", "play", "()I"⟩, prog_7_method_64_code, 2, (some .int))]
def kt_m (i : Nat) : MethodName × ByteArray × Nat × Option FieldType := kt_mt.getD i (⟨"", "", ""⟩, ⟨#[]⟩, 0, none)
def kt_nm (i : Nat) : MethodName := (kt_m i).1
def kt_by (i : Nat) : ByteArray := (kt_m i).2.1
def kt_rt (i : Nat) : Option FieldType := (kt_m i).2.2.2
def kt_ow (i : Nat) : String := (kt_nm i).cls
def kt_ml3 : List (Nat × Nat × Nat) := [(4, 13, 317), (2, 3, 81), (1, 1, 40), (1, 1, 40), (2, 2, 60), (1, 1, 40), (1, 7, 189), (2, 2, 61), (2, 1, 40), (1, 2, 61), (2, 1, 40), (2, 6, 168), (2, 5, 147), (8, 4, 120), (3, 3, 87), (6, 2, 62), (3, 1, 40), (9, 3, 92), (6, 2, 62), (4, 1, 40), (8, 2, 65), (6, 1, 40), (4, 2, 61), (3, 2, 61), (4, 7, 189), (4, 4, 111), (2, 2, 61), (6, 3, 86), (6, 2, 61), (5, 7, 189), (6, 4, 111), (3, 7, 189), (4, 4, 111), (2, 2, 61), (3, 7, 189), (4, 4, 107), (4, 3, 84), (4, 2, 61), (2, 1, 40), (2, 1, 40), (3, 7, 189), (2, 7, 189), (3, 2, 61), (4, 3, 86), (5, 2, 62), (3, 3, 82), (3, 3, 87), (6, 1, 40), (5, 1, 40), (9, 3, 86), (5, 2, 62), (4, 4, 120), (7, 3, 86), (5, 2, 61), (3, 3, 84), (3, 3, 85), (1, 1, 40), (4, 2, 60), (2, 1, 40), (5, 6, 168), (1, 3, 85), (2, 3, 82), (5, 2, 62), (2, 6, 168), (6, 5, 147), (5, 2, 65), (2, 3, 82), (4, 1, 40), (2, 2, 61), (2, 2, 61), (2, 1, 40), (2, 7, 190), (3, 6, 168), (6, 5, 124), (2, 2, 61), (1, 1, 40), (2, 4, 103), (2, 3, 82), (2, 3, 82), (3, 5, 136), (1, 1, 40), (2, 7, 190), (1, 1, 40), (2, 8, 198), (1, 7, 178), (2, 1, 40), (3, 6, 156), (3, 5, 134), (4, 4, 108), (3, 1, 40), (3, 2, 62), (5, 3, 84), (7, 4, 108), (5, 3, 84), (4, 3, 85), (4, 2, 62), (4, 9, 225), (2, 1, 40), (3, 1, 40), (8, 8, 198), (4, 1, 40), (5, 6, 156), (5, 9, 225), (3, 9, 225), (2, 1, 40), (4, 8, 198), (10, 3, 84), (4, 8, 198), (3, 8, 198), (3, 2, 62), (3, 6, 156), (3, 7, 180), (4, 3, 84), (5, 6, 156), (4, 2, 62), (4, 2, 62), (6, 3, 84), (7, 6, 156), (4, 5, 134), (7, 6, 156), (3, 1, 40), (5, 3, 84), (2, 3, 85), (4, 2, 62), (3, 2, 62), (1, 1, 40), (4, 2, 62), (7, 7, 183), (3, 1, 40), (5, 6, 156), (8, 6, 156), (3, 7, 180), (7, 7, 179), (4, 6, 156), (3, 4, 113), (2, 1, 40), (2, 2, 62), (2, 1, 40), (3, 12, 295), (6, 11, 270), (1, 1, 40), (5, 3, 84), (3, 2, 62), (2, 10, 249), (2, 12, 295)]
def kt_mx (i : Nat) : Nat := (kt_ml3.getD i (0, 0, 0)).1
def kt_fr (i : Nat) : Nat := (kt_ml3.getD i (0, 0, 0)).2.1
def kt_lo (i : Nat) : Nat := (kt_ml3.getD i (0, 0, 0)).2.2
/-- the types of a class's fields: 0 int, 1 long, 2 a reference, 3 boolean -/
def kt_ft : Nat → List Nat
  | 0 => [2, 2, 0, 0, 2, 2, 2, 2, 2, 2, 0]
  | 1 => [0, 2, 2, 2, 2, 2, 2, 2]
  | 2 => [2, 0, 0, 2, 1, 1]
  | 3 => [2, 0, 2, 0, 0, 0]
  | 4 => [2, 2, 2, 0, 2, 2]
  | 5 => [2, 2, 2, 2, 0, 3, 2, 0, 2, 2, 0, 2, 2, 2, 0, 0, 0, 2]
  | _ => []
/-- the cells in the order in which they are made: the class (0 to 5), 6 an int array, 7 long, 8 boolean, 9 of countries; its length -/
def kt_tb : List (Nat × Nat) := [(4, 0), (9, 4), (2, 0), (6, 60), (6, 10), (3, 0), (6, 80), (6, 4), (0, 0), (1, 0), (6, 60), (6, 60), (6, 60), (6, 60), (6, 60), (6, 60), (6, 60), (6, 5), (7, 5), (7, 5), (7, 5), (7, 5), (7, 5), (0, 0), (1, 0), (6, 60), (6, 60), (6, 60), (6, 60), (6, 60), (6, 60), (6, 60), (6, 5), (7, 5), (7, 5), (7, 5), (7, 5), (7, 5), (0, 0), (1, 0), (6, 60), (6, 60), (6, 60), (6, 60), (6, 60), (6, 60), (6, 60), (6, 5), (7, 5), (7, 5), (7, 5), (7, 5), (7, 5), (0, 0), (1, 0), (6, 60), (6, 60), (6, 60), (6, 60), (6, 60), (6, 60), (6, 60), (6, 5), (7, 5), (7, 5), (7, 5), (7, 5), (7, 5), (0, 0), (1, 0), (6, 60), (6, 60), (6, 60), (6, 60), (6, 60), (6, 60), (6, 60), (6, 5), (7, 5), (7, 5), (7, 5), (7, 5), (7, 5), (0, 0), (1, 0), (6, 60), (6, 60), (6, 60), (6, 60), (6, 60), (6, 60), (6, 60), (6, 5), (7, 5), (7, 5), (7, 5), (7, 5), (7, 5), (5, 0), (6, 548), (6, 2192), (6, 548), (6, 548), (6, 80), (6, 60), (6, 60), (6, 10), (8, 300), (6, 120), (6, 4)]
def kt_sz (k : Nat) : Nat := if (kt_tb.getD k (99, 0)).1 < 6 then (kt_ft (kt_tb.getD k (99, 0)).1).length else (kt_tb.getD k (99, 0)).2
def kt_GW : List Cond := lw_tbl.filter goodWord
def kt_nw : Cond → Bool
  | .fieldLinkNest _ _ _ _ _ _ => true
  | .methodLinkNest _ _ _ _ => true
  | _ => false
def kt_NW : List Cond := lw_tbl.filter kt_nw
def kt_dv (t : Nat) : Value := if t = 1 then .long 0 else if t = 2 then .null else .int 0
theorem kt_cw0 : (u_ws RX0 TX0 11).all (fun w => decide (w ∈ lw_tbl) && goodWord w) = true := by decide +kernel
theorem kt_cd0 : ∀ j, j < 11 → defaultValue (tyX0 j) = vp_V ((kt_ft 0).map kt_dv) j := by decide +kernel
theorem kt_cw1 : (u_ws RX1 TX1 8).all (fun w => decide (w ∈ lw_tbl) && goodWord w) = true := by decide +kernel
theorem kt_cd1 : ∀ j, j < 8 → defaultValue (tyX1 j) = vp_V ((kt_ft 1).map kt_dv) j := by decide +kernel
theorem kt_cw2 : (u_ws RX2 TX2 6).all (fun w => decide (w ∈ lw_tbl) && goodWord w) = true := by decide +kernel
theorem kt_cd2 : ∀ j, j < 6 → defaultValue (tyX2 j) = vp_V ((kt_ft 2).map kt_dv) j := by decide +kernel
theorem kt_cw3 : (u_ws RX3 TX3 6).all (fun w => decide (w ∈ lw_tbl) && goodWord w) = true := by decide +kernel
theorem kt_cd3 : ∀ j, j < 6 → defaultValue (tyX3 j) = vp_V ((kt_ft 3).map kt_dv) j := by decide +kernel
theorem kt_cw4 : (u_ws RX4 TX4 6).all (fun w => decide (w ∈ lw_tbl) && goodWord w) = true := by decide +kernel
theorem kt_cd4 : ∀ j, j < 6 → defaultValue (tyX4 j) = vp_V ((kt_ft 4).map kt_dv) j := by decide +kernel
theorem kt_cw5 : (u_ws RX5 TX5 18).all (fun w => decide (w ∈ lw_tbl) && goodWord w) = true := by decide +kernel
theorem kt_cd5 : ∀ j, j < 18 → defaultValue (tyX5 j) = vp_V ((kt_ft 5).map kt_dv) j := by decide +kernel
theorem kt_cwg {ws : List Cond} (h : ws.all (fun w => decide (w ∈ lw_tbl) && goodWord w) = true) : ∀ w ∈ ws, w ∈ kt_GW := by
  intro w hw
  have h1 := List.all_eq_true.mp h w hw
  rw [Bool.and_eq_true] at h1
  exact List.mem_filter.mpr ⟨of_decide_eq_true h1.1, h1.2⟩
theorem kt_cw : ∀ {ci : Nat} {C : String} {T : u_T} {Nf : Nat}, vwCl[ci]? = some (C, T, Nf) → ∀ w ∈ u_ws C T Nf, w ∈ kt_GW
  | 0, _, _, _, h => by cases h; exact kt_cwg kt_cw0
  | 1, _, _, _, h => by cases h; exact kt_cwg kt_cw1
  | 2, _, _, _, h => by cases h; exact kt_cwg kt_cw2
  | 3, _, _, _, h => by cases h; exact kt_cwg kt_cw3
  | 4, _, _, _, h => by cases h; exact kt_cwg kt_cw4
  | 5, _, _, _, h => by cases h; exact kt_cwg kt_cw5
  | _ + 6, _, _, _, h => by simp [vwCl] at h
theorem kt_ct : ∀ {ci : Nat} {C : String} {T : u_T} {Nf : Nat}, vwCl[ci]? = some (C, T, Nf) → ∃ ty0 : Nat → FieldType, (∀ k, k < Nf → parseFieldDescriptor (T k).2.2.1 = some (ty0 k)) ∧ ∀ a, a < Nf → ∀ b, b < Nf → a ≠ b → (T a).2.1 ≠ (T b).2.1
  | 0, _, _, _, h => by cases h; exact ⟨tyX0, tyX0_ok, nmX0⟩
  | 1, _, _, _, h => by cases h; exact ⟨tyX1, tyX1_ok, nmX1⟩
  | 2, _, _, _, h => by cases h; exact ⟨tyX2, tyX2_ok, nmX2⟩
  | 3, _, _, _, h => by cases h; exact ⟨tyX3, tyX3_ok, nmX3⟩
  | 4, _, _, _, h => by cases h; exact ⟨tyX4, tyX4_ok, nmX4⟩
  | 5, _, _, _, h => by cases h; exact ⟨tyX5, tyX5_ok, nmX5⟩
  | _ + 6, _, _, _, h => by simp [vwCl] at h
theorem kt_cy : ∀ {ci : Nat} {C : String} {T : u_T} {Nf : Nat}, vwCl[ci]? = some (C, T, Nf) → ∃ ty0 : Nat → FieldType, (∀ k, k < Nf → parseFieldDescriptor (T k).2.2.1 = some (ty0 k)) ∧ (∀ j, j < Nf → defaultValue (ty0 j) = vp_V ((kt_ft ci).map kt_dv) j) ∧ (kt_ft ci).length = Nf
  | 0, _, _, _, h => by cases h; exact ⟨tyX0, tyX0_ok, kt_cd0, rfl⟩
  | 1, _, _, _, h => by cases h; exact ⟨tyX1, tyX1_ok, kt_cd1, rfl⟩
  | 2, _, _, _, h => by cases h; exact ⟨tyX2, tyX2_ok, kt_cd2, rfl⟩
  | 3, _, _, _, h => by cases h; exact ⟨tyX3, tyX3_ok, kt_cd3, rfl⟩
  | 4, _, _, _, h => by cases h; exact ⟨tyX4, tyX4_ok, kt_cd4, rfl⟩
  | 5, _, _, _, h => by cases h; exact ⟨tyX5, tyX5_ok, kt_cd5, rfl⟩
  | _ + 6, _, _, _, h => by simp [vwCl] at h
theorem kt_oi1 : Cond.instanceMethod Lib.objectInit ∈ kt_GW := List.mem_filter.mpr ⟨List.mem_of_getElem? (i := 96) (by decide +kernel), by decide +kernel⟩
theorem kt_oi2 : Cond.code Lib.objectInit ⟨#[0xb1]⟩ 1 none ∈ kt_GW := List.mem_filter.mpr ⟨List.mem_of_getElem? (i := 97) (by decide +kernel), by decide +kernel⟩
theorem kt_ac1 : Cond.native arraycopyName ∈ kt_GW := List.mem_filter.mpr ⟨List.mem_of_getElem? (i := 293) (by decide +kernel), by decide +kernel⟩
theorem kt_ac2 : Cond.static arraycopyName ∈ kt_GW := List.mem_filter.mpr ⟨List.mem_of_getElem? (i := 292) (by decide +kernel), by decide +kernel⟩
theorem kt_ac3 : Cond.initialized "java/lang/System" ∈ kt_GW := List.mem_filter.mpr ⟨List.mem_of_getElem? (i := 86) (by decide +kernel), by decide +kernel⟩
end
section
/-! THE JUDGEMENT KW: "from this place of this method, with these locals, this stack and this memory, the method comes to its end, and what it answers and leaves behind meets Q". It is said over the machine (W), for any caller. The rows kw_.. below are its rules, one an instruction. -/
abbrev kt_I : Type := Nat → Nat → Int32
abbrev kt_J : Type := Nat → Nat → Int64
abbrev kt_R : Type := Nat → Nat → Option Nat
/-- z (where the world begins), b (the script), its length, its ints, the classes, the arrays' classes, the launch -/
abbrev kt_P : Type := Nat × Nat × Nat × (Nat → Int32) × va_G × (Nat → ClassId) × Launch
def kt_z (P : kt_P) : Nat := P.1
def kt_b (P : kt_P) : Nat := P.2.1
def kt_L (P : kt_P) : Nat := P.2.2.1
def kt_x (P : kt_P) : Nat → Int32 := P.2.2.2.1
def kt_D (P : kt_P) : va_G := P.2.2.2.2.1
def kt_c (P : kt_P) : Nat → ClassId := P.2.2.2.2.2.1
def kt_l (P : kt_P) : Launch := P.2.2.2.2.2.2
/-- the slots of the first N cells -/
def kt_SS : Nat → Nat
  | 0 => 0
  | n + 1 => kt_SS n + (kt_sz n)
theorem kt_SS_mono {a b : Nat} (h : a ≤ b) : kt_SS a ≤ kt_SS b := by
  induction h with
  | refl => exact Nat.le_refl _
  | step _ ih => exact Nat.le_trans ih (Nat.le_add_right _ _)
def kt_fv (I : kt_I) (J : kt_J) (R : kt_R) (a t j : Nat) : Value := if t = 1 then .long (J a j) else if t = 2 then va_rf (R a j) else .int (I a j)
def kt_fl (I : kt_I) (J : kt_J) (R : kt_R) (a : Nat) : List Nat → Nat → List Value
  | [], _ => []
  | t :: r, j => kt_fv I J R a t j :: kt_fl I J R a r (j + 1)
theorem kt_fl_get (I : kt_I) (J : kt_J) (R : kt_R) (a : Nat) : ∀ (ts : List Nat) (j k : Nat), (kt_fl I J R a ts j)[k]? = (ts[k]?).map (fun t => kt_fv I J R a t (j + k))
  | [], j, k => by simp [kt_fl]
  | t :: r, j, 0 => by simp [kt_fl]
  | t :: r, j, k + 1 => by
    have h := kt_fl_get I J R a r (j + 1) k
    simp only [kt_fl, List.getElem?_cons_succ]
    rw [h]
    congr 1
    funext t
    rw [show j + 1 + k = j + (k + 1) by omega]
theorem kt_fl_len (I : kt_I) (J : kt_J) (R : kt_R) (a : Nat) : ∀ (ts : List Nat) (j : Nat), (kt_fl I J R a ts j).length = ts.length
  | [], _ => rfl
  | _ :: r, j => by simp [kt_fl, kt_fl_len I J R a r (j + 1)]
theorem kt_fl_set {I I' : kt_I} {J J' : kt_J} {R R' : kt_R} {a k t : Nat} {v : Value} {ts : List Nat} (ht : ts[k]? = some t) (h1 : kt_fv I' J' R' a t k = v) (h2 : ∀ t j, j ≠ k → kt_fv I' J' R' a t j = kt_fv I J R a t j) :
    (kt_fl I J R a ts 0).set k v = kt_fl I' J' R' a ts 0 := by
  have hk : k < ts.length := (List.getElem?_eq_some_iff.mp ht).1
  apply List.ext_getElem?
  intro m
  rw [kt_fl_get I' J' R' a ts 0 m, Nat.zero_add]
  by_cases hm : m = k
  · subst hm
    rw [List.getElem?_set_self (by rw [kt_fl_len]; exact hk), ht]
    simp [h1]
  · rw [List.getElem?_set_ne (fun e => hm e.symm), kt_fl_get I J R a ts 0 m, Nat.zero_add]
    congr 1
    funext t
    exact (h2 t m hm).symm
def kt_ce (c : Nat → ClassId) (I : kt_I) (J : kt_J) (R : kt_R) (a t n : Nat) : va_E :=
  if t < 6 then .inr (t, kt_fl I J R a (kt_ft t) 0) else if t = 6 then .inl (c 0, n, .inl (I a)) else if t = 7 then .inl (c 1, n, .inr (.inl (J a)))
  else if t = 8 then .inl (c 2, n, .inl (I a)) else .inl (c 3, n, .inr (.inr (.inr (.inr (R a)))))
def kt_kn (k : Nat) : Nat × Nat := kt_tb.getD k (99, 0)
theorem kt_sz_arr {N t n : Nat} (h : kt_kn N = (t, n)) (ht : ¬ t < 6) : kt_SS (N + 1) = kt_SS N + n := by
  have h1 : kt_tb.getD N (99, 0) = (t, n) := h
  show kt_SS N + kt_sz N = _
  unfold kt_sz
  rw [h1]
  simp only [if_neg ht]
theorem kt_sz_obj {N t n : Nat} (h : kt_kn N = (t, n)) (ht : t < 6) : kt_SS (N + 1) = kt_SS N + (kt_ft t).length := by
  have h1 : kt_tb.getD N (99, 0) = (t, n) := h
  show kt_SS N + kt_sz N = _
  unfold kt_sz
  rw [h1]
  simp only [if_pos ht]
def kt_ws (P : kt_P) (N : Nat) (I : kt_I) (J : kt_J) (R : kt_R) : va_W := (List.range N).map fun k => (kt_z P + k, kt_ce (kt_c P) I J R (kt_z P + k) (kt_kn k).1 (kt_kn k).2)
/-- what lies at an address, and its length -/
def kt_kd (P : kt_P) (N a : Nat) : Nat × Nat := if kt_z P ≤ a ∧ a < kt_z P + N then kt_kn (a - kt_z P) else if a = kt_b P then (10, kt_L P) else (99, 0)
theorem kt_ws_get (P : kt_P) (N : Nat) (I : kt_I) (J : kt_J) (R : kt_R) {k : Nat} (hk : k < N) : (kt_ws P N I J R)[k]? = some (kt_z P + k, kt_ce (kt_c P) I J R (kt_z P + k) (kt_kn k).1 (kt_kn k).2) := by
  unfold kt_ws
  rw [List.getElem?_map, List.getElem?_range hk]
  rfl
theorem kt_ws_len (P : kt_P) (N : Nat) (I : kt_I) (J : kt_J) (R : kt_R) : (kt_ws P N I J R).length = N := by simp [kt_ws]
theorem kt_ws_at (P : kt_P) (N : Nat) (I : kt_I) (J : kt_J) (R : kt_R) {k : Nat} {q : Nat × va_E} (h : (kt_ws P N I J R)[k]? = some q) : k < N ∧ q.1 = kt_z P + k := by
  have hk : k < N := by
    have := (List.getElem?_eq_some_iff.mp h).1
    rwa [kt_ws_len] at this
  rw [kt_ws_get P N I J R hk] at h
  cases h
  exact ⟨hk, rfl⟩
theorem kt_at {P : kt_P} {N a t n : Nat} (h : kt_kd P N a = (t, n)) (ht : t < 10) : ∃ k, k < N ∧ a = kt_z P + k ∧ kt_kn k = (t, n) := by
  unfold kt_kd at h
  split at h
  · rename_i hc
    exact ⟨a - kt_z P, by omega, by omega, h⟩
  · split at h
    · cases h; omega
    · cases h; omega
theorem kt_row (P : kt_P) {N a t n : Nat} (I : kt_I) (J : kt_J) (R : kt_R) (h : kt_kd P N a = (t, n)) (ht : t < 10) : ∃ k, k < N ∧ a = kt_z P + k ∧ (kt_ws P N I J R)[k]? = some (a, kt_ce (kt_c P) I J R a t n) := by
  obtain ⟨k, h1, h2, h3⟩ := kt_at h ht
  refine ⟨k, h1, h2, ?_⟩
  rw [kt_ws_get P N I J R h1, h3, h2]
theorem kt_ws_set (P : kt_P) {N a t n k : Nat} {I I' : kt_I} {J J' : kt_J} {R R' : kt_R} {e : va_E} (hk : (kt_ws P N I J R)[k]? = some (a, kt_ce (kt_c P) I J R a t n)) (hkd : kt_kd P N a = (t, n)) (ht : t < 10)
    (he : kt_ce (kt_c P) I' J' R' a t n = e) (ho : ∀ q t n, q ≠ a → kt_ce (kt_c P) I' J' R' q t n = kt_ce (kt_c P) I J R q t n) : (kt_ws P N I J R).set k (a, e) = kt_ws P N I' J' R' := by
  obtain ⟨hkN, hka⟩ := kt_ws_at P N I J R hk
  obtain ⟨k2, h1, h2, h3⟩ := kt_at hkd ht
  simp only at hka
  have hkk : k2 = k := by omega
  subst hkk
  apply List.ext_getElem?
  intro m
  by_cases hm : m = k2
  · subst hm
    rw [List.getElem?_set_self (by rw [kt_ws_len]; exact hkN), kt_ws_get P N I' J' R' hkN, h3, ← h2, he]
  · rw [List.getElem?_set_ne (fun e => hm e.symm)]
    by_cases hmN : m < N
    · rw [kt_ws_get P N I J R hmN, kt_ws_get P N I' J' R' hmN, ho _ _ _ (by omega)]
    · rw [List.getElem?_eq_none (by rw [kt_ws_len]; omega), List.getElem?_eq_none (by rw [kt_ws_len]; omega)]
def kt_A (P : kt_P) : Nat → Prop := fun q => kt_z P ≤ q
theorem kt_wD (P : kt_P) (N : Nat) (I : kt_I) (J : kt_J) (R : kt_R) : va_D (kt_A P) (kt_ws P N I J R) := by
  refine ⟨fun i j x y hi hj hxy => ?_, fun k q hk => ?_⟩
  · have h1 := kt_ws_at P N I J R hi
    have h2 := kt_ws_at P N I J R hj
    omega
  · have h1 := kt_ws_at P N I J R hk
    show kt_z P ≤ q.1
    omega
/-! locals by their places -/
def kt_c2 : Option Value → Bool
  | some (.long _) => true
  | some (.double _) => true
  | _ => false
theorem kt_c2_cat {v : Value} : kt_c2 (some v) = (v.category == 2) := by cases v <;> rfl
def kt_s1 : List (Option Value) → Nat → Value → List (Option Value)
  | [], _, _ => []
  | _ :: r, 0, v => some v :: r
  | o :: r, 1, v => (if kt_c2 o then none else o) :: kt_s1 r 0 v
  | o :: r, k + 2, v => o :: kt_s1 r (k + 1) v
def kt_s2 : List (Option Value) → Nat → Value → List (Option Value)
  | [], _, _ => []
  | _ :: [], 0, v => [some v]
  | _ :: _ :: r, 0, v => some v :: none :: r
  | o :: r, 1, v => (if kt_c2 o then none else o) :: kt_s2 r 0 v
  | o :: r, k + 2, v => o :: kt_s2 r (k + 1) v
theorem kt_s1_at : ∀ (L : List (Option Value)) (k i : Nat) (v w : Value), (kt_s1 L k v)[i]? = some (some w) → (i = k ∧ w = v) ∨ (i ≠ k ∧ L[i]? = some (some w) ∧ ¬ (i + 1 = k ∧ w.category = 2))
  | [], k, i, v, w, h => by simp [kt_s1] at h
  | o :: r, 0, i, v, w, h => by
    cases i with
    | zero => simp [kt_s1] at h; exact Or.inl ⟨rfl, h.symm⟩
    | succ i => simp [kt_s1] at h; exact Or.inr ⟨by omega, by simpa using h, by omega⟩
  | o :: r, 1, i, v, w, h => by
    cases i with
    | zero =>
      simp only [kt_s1, List.getElem?_cons_zero, Option.some.injEq] at h
      cases hc : kt_c2 o with
      | true => simp [hc] at h
      | false =>
        simp [hc] at h
        subst h
        refine Or.inr ⟨by omega, by simp, fun q => ?_⟩
        rw [kt_c2_cat] at hc
        simp [q.2] at hc
    | succ i =>
      simp only [kt_s1, List.getElem?_cons_succ] at h
      rcases kt_s1_at r 0 i v w h with ⟨h1, h2⟩ | ⟨h1, h2, h3⟩
      · exact Or.inl ⟨by omega, h2⟩
      · exact Or.inr ⟨by omega, by simpa using h2, by omega⟩
  | o :: r, k + 2, i, v, w, h => by
    cases i with
    | zero => simp [kt_s1] at h; subst h; exact Or.inr ⟨by omega, by simp, by omega⟩
    | succ i =>
      simp only [kt_s1, List.getElem?_cons_succ] at h
      rcases kt_s1_at r (k + 1) i v w h with ⟨h1, h2⟩ | ⟨h1, h2, h3⟩
      · exact Or.inl ⟨by omega, h2⟩
      · exact Or.inr ⟨by omega, by simpa using h2, fun q => h3 ⟨by omega, q.2⟩⟩
theorem kt_s2_at : ∀ (L : List (Option Value)) (k i : Nat) (v w : Value), (kt_s2 L k v)[i]? = some (some w) → (i = k ∧ w = v) ∨ (i ≠ k ∧ i ≠ k + 1 ∧ L[i]? = some (some w) ∧ ¬ (i + 1 = k ∧ w.category = 2))
  | [], k, i, v, w, h => by simp [kt_s2] at h
  | [o], 0, i, v, w, h => by
    cases i with
    | zero => simp [kt_s2] at h; exact Or.inl ⟨rfl, h.symm⟩
    | succ i => simp [kt_s2] at h
  | o :: o2 :: r, 0, i, v, w, h => by
    cases i with
    | zero => simp [kt_s2] at h; exact Or.inl ⟨rfl, h.symm⟩
    | succ i =>
      cases i with
      | zero => simp [kt_s2] at h
      | succ i => simp [kt_s2] at h; exact Or.inr ⟨by omega, by omega, by simpa using h, by omega⟩
  | o :: r, 1, i, v, w, h => by
    cases i with
    | zero =>
      simp only [kt_s2, List.getElem?_cons_zero, Option.some.injEq] at h
      cases hc : kt_c2 o with
      | true => simp [hc] at h
      | false =>
        simp [hc] at h
        subst h
        refine Or.inr ⟨by omega, by omega, by simp, fun q => ?_⟩
        rw [kt_c2_cat] at hc
        simp [q.2] at hc
    | succ i =>
      simp only [kt_s2, List.getElem?_cons_succ] at h
      rcases kt_s2_at r 0 i v w h with ⟨h1, h2⟩ | ⟨h1, h1', h2, h3⟩
      · exact Or.inl ⟨by omega, h2⟩
      · exact Or.inr ⟨by omega, by omega, by simpa using h2, by omega⟩
  | o :: r, k + 2, i, v, w, h => by
    cases i with
    | zero => simp [kt_s2] at h; subst h; exact Or.inr ⟨by omega, by omega, by simp, by omega⟩
    | succ i =>
      simp only [kt_s2, List.getElem?_cons_succ] at h
      rcases kt_s2_at r (k + 1) i v w h with ⟨h1, h2⟩ | ⟨h1, h1', h2, h3⟩
      · exact Or.inl ⟨by omega, h2⟩
      · exact Or.inr ⟨by omega, by omega, by simpa using h2, fun q => h3 ⟨by omega, q.2⟩⟩
def kt_LH (ls : Array Slot) (n : Nat) (L : List (Option Value)) : Prop := lv_has ls n [] ∧ ∀ (i : Nat) (v : Value), L[i]? = some (some v) → ls[i]? = some (.val v)
def kt_la (L : List (Option Value)) : List (Nat × Value) := (List.range L.length).filterMap fun i => match L[i]? with
  | some (some v) => some (i, v)
  | _ => none
theorem kt_la_mem {L : List (Option Value)} {q : Nat × Value} : q ∈ kt_la L ↔ L[q.1]? = some (some q.2) := by
  unfold kt_la
  rw [List.mem_filterMap]
  constructor
  · rintro ⟨i, -, h⟩
    split at h
    · rename_i v hv
      cases h
      exact hv
    · cases h
  · intro h
    refine ⟨q.1, List.mem_range.mpr (List.getElem?_eq_some_iff.mp h).1, ?_⟩
    rw [h]
theorem kt_LH.has {ls : Array Slot} {n : Nat} {L : List (Option Value)} (h : kt_LH ls n L) : lv_has ls n (kt_la L) := ⟨h.1.1, h.1.2.1, fun q hq => h.2 q.1 q.2 (kt_la_mem.mp hq)⟩
theorem kt_LH.st1 {ls' : Array Slot} {n k : Nat} {L : List (Option Value)} {v : Value} (h : lv_has ls' n ((k, v) :: (kt_la L).filter (fun q => !(q.1 == k) && !(q.1 + 1 == k && q.2.category == 2)))) : kt_LH ls' n (kt_s1 L k v) := by
  refine ⟨⟨h.1, h.2.1, fun q hq => by cases hq⟩, fun i w hw => ?_⟩
  rcases kt_s1_at L k i v w hw with ⟨rfl, rfl⟩ | ⟨h1, h2, h3⟩
  · exact h.2.2 (i, w) List.mem_cons_self
  · refine h.2.2 (i, w) (List.mem_cons_of_mem _ (List.mem_filter.mpr ⟨kt_la_mem.mpr h2, ?_⟩))
    simp only [Bool.and_eq_true, Bool.not_eq_true', beq_eq_false_iff_ne, Bool.and_eq_false_iff]
    refine ⟨h1, ?_⟩
    by_cases hq : i + 1 = k
    · exact Or.inr (fun z => h3 ⟨hq, z⟩)
    · exact Or.inl hq
theorem kt_LH.st2 {ls' : Array Slot} {n k : Nat} {L : List (Option Value)} {v : Value} (h : lv_has ls' n ((k, v) :: (kt_la L).filter (fun q => !(q.1 == k) && (!(q.1 == k + 1) && !(q.1 + 1 == k && q.2.category == 2))))) : kt_LH ls' n (kt_s2 L k v) := by
  refine ⟨⟨h.1, h.2.1, fun q hq => by cases hq⟩, fun i w hw => ?_⟩
  rcases kt_s2_at L k i v w hw with ⟨rfl, rfl⟩ | ⟨h1, h1', h2, h3⟩
  · exact h.2.2 (i, w) List.mem_cons_self
  · refine h.2.2 (i, w) (List.mem_cons_of_mem _ (List.mem_filter.mpr ⟨kt_la_mem.mpr h2, ?_⟩))
    simp only [Bool.and_eq_true, Bool.not_eq_true', beq_eq_false_iff_ne, Bool.and_eq_false_iff]
    refine ⟨h1, h1', ?_⟩
    by_cases hq : i + 1 = k
    · exact Or.inr (fun z => h3 ⟨hq, z⟩)
    · exact Or.inl hq
/-! the locals with which a method begins -/
def kt_el : List Value → List (Option Value)
  | [] => []
  | v :: vs => if v.category = 2 then some v :: none :: kt_el vs else some v :: kt_el vs
def kt_en (n : Nat) (vs : List Value) : List (Option Value) := kt_el vs ++ List.replicate (n - (kt_el vs).length) none
theorem kt_el_at : ∀ (vs : List Value) (p i : Nat) (w : Value), (kt_el vs)[i]? = some (some w) → (p + i, w) ∈ lv_args p vs
  | [], p, i, w, h => by simp [kt_el] at h
  | v :: vs, p, i, w, h => by
    unfold kt_el at h
    unfold lv_args
    by_cases hc : v.category = 2
    · rw [if_pos hc] at h ⊢
      match i, h with
      | 0, h => simp at h; subst h; exact List.mem_cons_self
      | 1, h => simp at h
      | i + 2, h =>
        simp only [List.getElem?_cons_succ] at h
        have := kt_el_at vs (p + 2) i w h
        rw [show p + (i + 2) = p + 2 + i by omega]
        exact List.mem_cons_of_mem _ this
    · rw [if_neg hc] at h ⊢
      match i, h with
      | 0, h => simp at h; subst h; exact List.mem_cons_self
      | i + 1, h =>
        simp only [List.getElem?_cons_succ] at h
        have := kt_el_at vs (p + 1) i w h
        rw [show p + (i + 1) = p + 1 + i by omega]
        exact List.mem_cons_of_mem _ this
theorem kt_el_len : ∀ vs : List Value, (lg_sl vs).length = (kt_el vs).length
  | [] => rfl
  | v :: vs => by
    have h := kt_el_len vs
    unfold lg_sl at h ⊢
    rw [List.flatMap_cons, List.length_append, h]
    show _ = (if v.category = 2 then some v :: none :: kt_el vs else some v :: kt_el vs).length
    by_cases hc : v.category = 2
    · rw [if_pos hc, if_pos hc]; simp only [List.length_cons, List.length_nil]; omega
    · rw [if_neg hc, if_neg hc]; simp only [List.length_cons, List.length_nil]; omega
theorem kt_LH.entry {vs : List Value} {n : Nat} (h : (kt_el vs).length ≤ n) : kt_LH ((lg_sl vs ++ List.replicate (n - (lg_sl vs).length) Slot.unset).toArray) n (kt_en n vs) := by
  have hl := lv_entry vs (n := n) (by rw [kt_el_len]; exact h)
  refine ⟨⟨hl.1, hl.2.1, fun q hq => by cases hq⟩, fun i w hw => ?_⟩
  have hi : i < (kt_el vs).length := by
    by_cases q : i < (kt_el vs).length
    · exact q
    · exfalso
      unfold kt_en at hw
      rw [List.getElem?_append_right (by omega)] at hw
      have := List.eq_of_mem_replicate (List.mem_of_getElem? hw)
      cases this
  unfold kt_en at hw
  rw [List.getElem?_append_left hi] at hw
  have := kt_el_at vs 0 i w hw
  rw [Nat.zero_add] at this
  exact hl.2.2 _ this
end
section
theorem kt_gw {w : Cond} (k : Nat) (h : lw_tbl[k]? = some w) (hg : goodWord w = true) : w ∈ kt_GW := List.mem_filter.mpr ⟨List.mem_of_getElem? h, hg⟩
theorem kt_gn {w : Cond} (k : Nat) (h : lw_tbl[k]? = some w) (hg : kt_nw w = true) : w ∈ kt_NW := List.mem_filter.mpr ⟨List.mem_of_getElem? h, hg⟩
theorem kt_good {w : Cond} (h : w ∈ kt_GW) : (w.onTables && w.keeps) = true ∨ ∃ ty, w = .arrayClass ty := good_of_word (List.mem_filter.mp h).2
def kt_ty (P : kt_P) : List (ClassId × FieldType) := [(kt_c P 0, .int), (kt_c P 1, .long), (kt_c P 2, .boolean), (kt_c P 3, .object RX0)]
def kt_ST (P : kt_P) (U : State) : Prop := va_K (kt_D P) vwCl (kt_ty P) U ∧ (∀ w ∈ kt_NW, va_Nw w U) ∧ va_AO RX0 U
theorem kt_ST.warm {P : kt_P} {s U : State} (hW : s.WarmedH U.vm) (h : kt_ST P s) : kt_ST P U := by
  refine ⟨va_K.moved hW.alike h.1, fun w hw => ?_, va_AO.moved hW.alike h.2.2⟩
  have h1 := h.2.1 w hw
  have h2 := (List.mem_filter.mp hw).2
  cases w <;> first | exact va_Nw.warmF hW h1 | exact va_Nw.warmM hW h1 | (exfalso; revert h2; simp [kt_nw])
theorem kt_ST.same {P : kt_P} {u U : State} (e : u.vm = U.vm) (h : kt_ST P u) : kt_ST P U := by
  refine ⟨va_K.moved (by rw [e]; exact Vm.Alike.refl _) h.1, fun w hw => ?_, va_AO.moved (by rw [e]; exact Vm.Alike.refl _) h.2.2⟩
  have h1 := h.2.1 w hw
  have h2 := (List.mem_filter.mp hw).2
  cases w <;> first | exact va_Nw.same rfl e h1 | (exfalso; revert h2; simp [kt_nw])
def kt_FC (P : kt_P) (i NM N0 : Nat) (p : Program) (Rm : Room) (s : State) (m : MethodId) (args : Array Value) (meth : Method) (c : Code) : Prop :=
  (p.tables.exec = Jvm.exec ∧ c.code = kt_by i ∧ c.maxLocals = kt_mx i ∧ s.vm.findClass (kt_ow i) = some m.cls ∧ meth.sig.returnType = kt_rt i ∧ meth.locks = false ∧ ((kt_nm i).name = "<init>" → meth.name = "<init>"))
  ∧ (∀ w ∈ kt_GW, w.before args s = true) ∧ kt_ST P s ∧ va_X (kt_b P) (kt_L P) (kt_x P) s s.heap ∧ kt_b P < kt_z P ∧ s.heap.size = kt_z P + N0
  ∧ (kt_fr i ≤ Rm.frames ∧ kt_lo i ≤ Rm.locals ∧ NM - N0 ≤ Rm.cells ∧ kt_SS NM - kt_SS N0 ≤ Rm.slots)
/-- the method's end: which instruction, what it answers -/
def kt_rk (i : Nat) (v : Option Value) (pc : Nat) : Prop := match v with
  | none => decode (kt_by i) pc = .ok (.return_, 1) ∧ kt_rt i = none
  | some (.int x) => decode (kt_by i) pc = .ok (.ireturn, 1) ∧ ∃ ty, kt_rt i = some ty ∧ narrow ty (.int x) = .int x
  | some (.long _) => decode (kt_by i) pc = .ok (.lreturn, 1) ∧ kt_rt i = some .long
  | _ => False
def KW (P : kt_P) (i NM pc : Nat) (L : List (Option Value)) (st : List Value) (N : Nat) (I : kt_I) (J : kt_J) (R : kt_R) (Q : Option Value → kt_I → kt_J → kt_R → Prop) : Prop :=
  ∀ (p : Program) (e : Env) (Rm : Room) (s : State) (m : MethodId) (args : Array Value) (below : List Frame) (meth : Method) (c : Code) (N0 : Nat) (H : Heap) (locs : List Loc) (ls : Array Slot) (Z : State → Prop),
    kt_FC P i NM N0 p Rm s m args meth c → N0 ≤ N → N ≤ NM → kt_LH ls (kt_mx i) L → va_P (kt_D P) vwCl (kt_ws P N I J R) H → va_S (kt_A P) s.heap H locs →
    (∀ (v : Option Value) (I' : kt_I) (J' : kt_J) (R' : kt_R) (H' : Heap) (locs' : List Loc) (ls' : Array Slot) (pc' : Nat), Q v I' J' R' → kt_rk i v pc' → va_P (kt_D P) vwCl (kt_ws P NM I' J' R') H' → va_S (kt_A P) s.heap H' locs' →
      W p (kt_l P) e Rm s m args below meth c H' locs' (NM - N0) (kt_SS NM - kt_SS N0) Z (F0 m pc' ls' v.toList)) →
    W p (kt_l P) e Rm s m args below meth c H locs (N - N0) (kt_SS N - kt_SS N0) Z (F0 m pc ls st)
theorem KW.post {P : kt_P} {i NM pc : Nat} {L : List (Option Value)} {st : List Value} {N : Nat} {I : kt_I} {J : kt_J} {R : kt_R} {Q Q' : Option Value → kt_I → kt_J → kt_R → Prop} (k : KW P i NM pc L st N I J R Q) (h : ∀ v I' J' R', Q v I' J' R' → Q' v I' J' R') : KW P i NM pc L st N I J R Q' :=
  fun p e Rm s m args below meth c N0 H locs ls Z F h0 h1 hl hP hS K => k p e Rm s m args below meth c N0 H locs ls Z F h0 h1 hl hP hS (fun v I' J' R' H' locs' ls' pc' hq => K v I' J' R' H' locs' ls' pc' (h v I' J' R' hq))
/-! facts of an instruction -/
def kt_dc (i pc : Nat) (ins : Instr) (len pc' : Nat) : Prop := decode (kt_by i) pc = .ok (ins, len) ∧ pc + len = pc'
def kt_dj (i pc : Nat) (f : Int → Instr) (tgt pc' : Nat) : Prop := ∃ off : Int, decode (kt_by i) pc = .ok (f off, 3) ∧ (pc : Int) + off = (tgt : Int) ∧ pc + 3 = pc'
def kt_dt (i pc : Nat) (lo : Int) (tg : List Nat) (dflt : Nat) : Prop := ∃ (d hi : Int) (offs : Array Int) (len : Nat), decode (kt_by i) pc = .ok (.tableswitch d lo hi offs, len) ∧ (pc : Int) + d = (dflt : Int) ∧ hi = lo + (tg.length : Int) - 1 ∧ offs.toList.map (fun o => (pc : Int) + o) = tg.map Int.ofNat
section KR
variable {P : kt_P} {i NM pc pc' : Nat} {L L' : List (Option Value)} {st st' : List Value} {N : Nat} {I : kt_I} {J : kt_J} {R : kt_R} {Q : Option Value → kt_I → kt_J → kt_R → Prop}
/-- an instruction that moves neither memory nor tables -/
theorem kt_go (k : KW P i NM pc' L' st' N I J R Q) (h : ∀ (p : Program) (e : Env) (Rm : Room) (s : State) (m : MethodId) (args : Array Value) (below : List Frame) (meth : Method) (c : Code) (H : Heap) (locs : List Loc) (ce sl : Nat) (ls : Array Slot) (Z : State → Prop),
      p.tables.exec = Jvm.exec → c.code = kt_by i → s.vm.findClass (kt_ow i) = some m.cls → (∀ w ∈ kt_GW, w.before args s = true) → kt_LH ls (kt_mx i) L →
      (∀ ls', kt_LH ls' (kt_mx i) L' → W p (kt_l P) e Rm s m args below meth c H locs ce sl Z (F0 m pc' ls' st')) → W p (kt_l P) e Rm s m args below meth c H locs ce sl Z (F0 m pc ls st)) : KW P i NM pc L st N I J R Q :=
  fun p e Rm s m args below meth c N0 H locs ls Z F h0 h1 hl hP hS K => h p e Rm s m args below meth c H locs _ _ ls Z F.1.1 F.1.2.1 F.1.2.2.2.1 F.2.1 hl (fun ls' hl' => k p e Rm s m args below meth c N0 H locs ls' Z F h0 h1 hl' hP hS K)
theorem kw_iconst {n : Int} (hd : kt_dc i pc (.iconst n) 1 pc') (k : KW P i NM pc' L (.int (Int32.ofInt n) :: st) N I J R Q) : KW P i NM pc L st N I J R Q := by
  obtain ⟨hd, rfl⟩ := hd
  exact kt_go k fun _ _ _ _ _ _ _ _ _ _ _ _ _ _ _ hx hb _ _ hl kk => lv_iconst hx hb hd rfl (kk _ hl)
theorem kw_bipush {n : Int} (hd : kt_dc i pc (.bipush n) 2 pc') (k : KW P i NM pc' L (.int (Int8.ofInt n).toInt32 :: st) N I J R Q) : KW P i NM pc L st N I J R Q := by
  obtain ⟨hd, rfl⟩ := hd
  exact kt_go k fun _ _ _ _ _ _ _ _ _ _ _ _ _ _ _ hx hb _ _ hl kk => lv_bipush hx hb hd rfl (kk _ hl)
theorem kw_sipush {n : Int} (hd : kt_dc i pc (.sipush n) 3 pc') (k : KW P i NM pc' L (.int (Int16.ofInt n).toInt32 :: st) N I J R Q) : KW P i NM pc L st N I J R Q := by
  obtain ⟨hd, rfl⟩ := hd
  exact kt_go k fun _ _ _ _ _ _ _ _ _ _ _ _ _ _ _ hx hb _ _ hl kk => lv_sipush hx hb hd rfl (kk _ hl)
/-- a constant, by its value -/
theorem kw_icon {n : Int} {v : Int32} (hd : kt_dc i pc (.iconst n) 1 pc' ∧ Int32.ofInt n = v) (k : KW P i NM pc' L (.int v :: st) N I J R Q) : KW P i NM pc L st N I J R Q := by
  obtain ⟨hd, rfl⟩ := hd
  exact kw_iconst hd k
theorem kw_bip {n : Int} {v : Int32} (hd : kt_dc i pc (.bipush n) 2 pc' ∧ (Int8.ofInt n).toInt32 = v) (k : KW P i NM pc' L (.int v :: st) N I J R Q) : KW P i NM pc L st N I J R Q := by
  obtain ⟨hd, rfl⟩ := hd
  exact kw_bipush hd k
theorem kw_sip {n : Int} {v : Int32} (hd : kt_dc i pc (.sipush n) 3 pc' ∧ (Int16.ofInt n).toInt32 = v) (k : KW P i NM pc' L (.int v :: st) N I J R Q) : KW P i NM pc L st N I J R Q := by
  obtain ⟨hd, rfl⟩ := hd
  exact kw_sipush hd k
theorem kw_lconst {n : Fin 2} {v : Int64} (hd : kt_dc i pc (.lconst n) 1 pc' ∧ Int64.ofNat (n : Nat) = v) (k : KW P i NM pc' L (.long v :: st) N I J R Q) : KW P i NM pc L st N I J R Q := by
  obtain ⟨⟨hd, rfl⟩, hv⟩ := hd
  exact kt_go k fun _ _ _ _ _ _ _ _ _ _ _ _ _ _ _ hx hb _ _ hl kk => lv_lconst hx hb hd hv (kk _ hl)
theorem kw_ldc2 {n : Nat} {v : Int64} (hd : kt_dc i pc (.ldc2_w n) 3 pc' ∧ Cond.constantLong (kt_ow i) n v ∈ kt_GW) (k : KW P i NM pc' L (.long v :: st) N I J R Q) : KW P i NM pc L st N I J R Q := by
  obtain ⟨⟨hd, rfl⟩, hv⟩ := hd
  exact kt_go k fun _ _ _ _ _ _ _ _ _ _ _ _ _ _ _ hx hb ho ht hl kk => lv_ldc2 hx hb ho (ht _ hv) hd (kk _ hl)
/-! locals -/
theorem kw_ild_n {n : Fin 4} {x : Int32} (hd : kt_dc i pc (.iload_n n) 1 pc') (hv : L[(n : Nat)]? = some (some (.int x))) (k : KW P i NM pc' L (.int x :: st) N I J R Q) : KW P i NM pc L st N I J R Q := by
  obtain ⟨hd, rfl⟩ := hd
  exact kt_go k fun _ _ _ _ _ _ _ _ _ _ _ _ _ _ _ hx hb _ _ hl kk => lv_iload_n hx hb hd rfl (hl.2 _ _ hv) (kk _ hl)
theorem kw_ild {n : Nat} {x : Int32} (hd : kt_dc i pc (.iload n) 2 pc') (hv : L[n]? = some (some (.int x))) (k : KW P i NM pc' L (.int x :: st) N I J R Q) : KW P i NM pc L st N I J R Q := by
  obtain ⟨hd, rfl⟩ := hd
  exact kt_go k fun _ _ _ _ _ _ _ _ _ _ _ _ _ _ _ hx hb _ _ hl kk => lv_iload hx hb hd (hl.2 _ _ hv) (kk _ hl)
theorem kw_lld_n {n : Fin 4} {x : Int64} (hd : kt_dc i pc (.lload_n n) 1 pc') (hv : L[(n : Nat)]? = some (some (.long x))) (k : KW P i NM pc' L (.long x :: st) N I J R Q) : KW P i NM pc L st N I J R Q := by
  obtain ⟨hd, rfl⟩ := hd
  exact kt_go k fun _ _ _ _ _ _ _ _ _ _ _ _ _ _ _ hx hb _ _ hl kk => lv_lload_n hx hb hd rfl (hl.2 _ _ hv) (kk _ hl)
theorem kw_lld {n : Nat} {x : Int64} (hd : kt_dc i pc (.lload n) 2 pc') (hv : L[n]? = some (some (.long x))) (k : KW P i NM pc' L (.long x :: st) N I J R Q) : KW P i NM pc L st N I J R Q := by
  obtain ⟨hd, rfl⟩ := hd
  exact kt_go k fun _ _ _ _ _ _ _ _ _ _ _ _ _ _ _ hx hb _ _ hl kk => lv_lload hx hb hd (hl.2 _ _ hv) (kk _ hl)
theorem kw_ald_n {n : Fin 4} {x : Nat} (hd : kt_dc i pc (.aload_n n) 1 pc') (hv : L[(n : Nat)]? = some (some (.ref x))) (k : KW P i NM pc' L (.ref x :: st) N I J R Q) : KW P i NM pc L st N I J R Q := by
  obtain ⟨hd, rfl⟩ := hd
  exact kt_go k fun _ _ _ _ _ _ _ _ _ _ _ _ _ _ _ hx hb _ _ hl kk => lv_aload_n hx hb hd rfl (hl.2 _ _ hv) (kk _ hl)
theorem kw_ald {n : Nat} {x : Nat} (hd : kt_dc i pc (.aload n) 2 pc') (hv : L[n]? = some (some (.ref x))) (k : KW P i NM pc' L (.ref x :: st) N I J R Q) : KW P i NM pc L st N I J R Q := by
  obtain ⟨hd, rfl⟩ := hd
  exact kt_go k fun _ _ _ _ _ _ _ _ _ _ _ _ _ _ _ hx hb _ _ hl kk => lv_aload hx hb hd (hl.2 _ _ hv) (kk _ hl)
theorem kw_ist_n {n : Fin 4} {x : Int32} (hd : kt_dc i pc (.istore_n n) 1 pc') (hn : (n : Nat) < kt_mx i) (k : KW P i NM pc' (kt_s1 L n (.int x)) st N I J R Q) : KW P i NM pc L (.int x :: st) N I J R Q := by
  obtain ⟨hd, rfl⟩ := hd
  exact kt_go k fun _ _ _ _ _ _ _ _ _ _ _ _ _ _ _ hx hb _ _ hl kk => lv_istore_n hx hb hd rfl hl.has hn rfl (fun ls' h' => kk ls' (kt_LH.st1 h'))
theorem kw_ist {n : Nat} {x : Int32} (hd : kt_dc i pc (.istore n) 2 pc') (hn : n < kt_mx i) (k : KW P i NM pc' (kt_s1 L n (.int x)) st N I J R Q) : KW P i NM pc L (.int x :: st) N I J R Q := by
  obtain ⟨hd, rfl⟩ := hd
  exact kt_go k fun _ _ _ _ _ _ _ _ _ _ _ _ _ _ _ hx hb _ _ hl kk => lv_istore hx hb hd hl.has hn rfl (fun ls' h' => kk ls' (kt_LH.st1 h'))
theorem kw_ast_n {n : Fin 4} {x : Nat} (hd : kt_dc i pc (.astore_n n) 1 pc') (hn : (n : Nat) < kt_mx i) (k : KW P i NM pc' (kt_s1 L n (.ref x)) st N I J R Q) : KW P i NM pc L (.ref x :: st) N I J R Q := by
  obtain ⟨hd, rfl⟩ := hd
  exact kt_go k fun _ _ _ _ _ _ _ _ _ _ _ _ _ _ _ hx hb _ _ hl kk => lv_astore_n hx hb hd rfl hl.has hn rfl (fun ls' h' => kk ls' (kt_LH.st1 h'))
theorem kw_ast {n : Nat} {x : Nat} (hd : kt_dc i pc (.astore n) 2 pc') (hn : n < kt_mx i) (k : KW P i NM pc' (kt_s1 L n (.ref x)) st N I J R Q) : KW P i NM pc L (.ref x :: st) N I J R Q := by
  obtain ⟨hd, rfl⟩ := hd
  exact kt_go k fun _ _ _ _ _ _ _ _ _ _ _ _ _ _ _ hx hb _ _ hl kk => lv_astore hx hb hd hl.has hn rfl (fun ls' h' => kk ls' (kt_LH.st1 h'))
theorem kw_lst_n {n : Fin 4} {x : Int64} (hd : kt_dc i pc (.lstore_n n) 1 pc') (hn : (n : Nat) + 1 < kt_mx i) (k : KW P i NM pc' (kt_s2 L n (.long x)) st N I J R Q) : KW P i NM pc L (.long x :: st) N I J R Q := by
  obtain ⟨hd, rfl⟩ := hd
  exact kt_go k fun _ _ _ _ _ _ _ _ _ _ _ _ _ _ _ hx hb _ _ hl kk => lv_lstore_n hx hb hd rfl hl.has hn rfl (fun ls' h' => kk ls' (kt_LH.st2 h'))
theorem kw_lst {n : Nat} {x : Int64} (hd : kt_dc i pc (.lstore n) 2 pc') (hn : n + 1 < kt_mx i) (k : KW P i NM pc' (kt_s2 L n (.long x)) st N I J R Q) : KW P i NM pc L (.long x :: st) N I J R Q := by
  obtain ⟨hd, rfl⟩ := hd
  exact kt_go k fun _ _ _ _ _ _ _ _ _ _ _ _ _ _ _ hx hb _ _ hl kk => lv_lstore hx hb hd hl.has hn rfl (fun ls' h' => kk ls' (kt_LH.st2 h'))
theorem kw_iinc {n : Nat} {d : Int} {x v : Int32} (hd : kt_dc i pc (.iinc n d) 3 pc' ∧ Int32.ofInt d = v) (hn : n < kt_mx i) (hv : L[n]? = some (some (.int x))) (k : KW P i NM pc' (kt_s1 L n (.int (x + v))) st N I J R Q) : KW P i NM pc L st N I J R Q := by
  obtain ⟨⟨hd, rfl⟩, rfl⟩ := hd
  obtain ⟨q, hq⟩ := List.getElem?_of_mem (kt_la_mem (q := (n, .int x)) |>.mpr hv)
  exact kt_go k fun _ _ _ _ _ _ _ _ _ _ _ _ _ _ _ hx hb _ _ hl kk => lv_iinc hx hb hd hl.has hq rfl hn rfl (fun ls' h' => kk ls' (kt_LH.st1 h'))
/-! arithmetic -/
theorem kw_iadd {x y : Int32} (hd : kt_dc i pc .iadd 1 pc') (k : KW P i NM pc' L (.int (x + y) :: st) N I J R Q) : KW P i NM pc L (.int y :: .int x :: st) N I J R Q := by
  obtain ⟨hd, rfl⟩ := hd
  exact kt_go k fun _ _ _ _ _ _ _ _ _ _ _ _ _ _ _ hx hb _ _ hl kk => lv_iadd hx hb hd (kk _ hl)
theorem kw_isub {x y : Int32} (hd : kt_dc i pc .isub 1 pc') (k : KW P i NM pc' L (.int (x - y) :: st) N I J R Q) : KW P i NM pc L (.int y :: .int x :: st) N I J R Q := by
  obtain ⟨hd, rfl⟩ := hd
  exact kt_go k fun _ _ _ _ _ _ _ _ _ _ _ _ _ _ _ hx hb _ _ hl kk => lv_isub hx hb hd (kk _ hl)
theorem kw_imul {x y : Int32} (hd : kt_dc i pc .imul 1 pc') (k : KW P i NM pc' L (.int (x * y) :: st) N I J R Q) : KW P i NM pc L (.int y :: .int x :: st) N I J R Q := by
  obtain ⟨hd, rfl⟩ := hd
  exact kt_go k fun _ _ _ _ _ _ _ _ _ _ _ _ _ _ _ hx hb _ _ hl kk => lv_imul hx hb hd (kk _ hl)
theorem kw_iand {x y : Int32} (hd : kt_dc i pc .iand 1 pc') (k : KW P i NM pc' L (.int (x &&& y) :: st) N I J R Q) : KW P i NM pc L (.int y :: .int x :: st) N I J R Q := by
  obtain ⟨hd, rfl⟩ := hd
  exact kt_go k fun _ _ _ _ _ _ _ _ _ _ _ _ _ _ _ hx hb _ _ hl kk => lv_iand hx hb hd (kk _ hl)
theorem kw_ior {x y : Int32} (hd : kt_dc i pc .ior 1 pc') (k : KW P i NM pc' L (.int (x ||| y) :: st) N I J R Q) : KW P i NM pc L (.int y :: .int x :: st) N I J R Q := by
  obtain ⟨hd, rfl⟩ := hd
  exact kt_go k fun _ _ _ _ _ _ _ _ _ _ _ _ _ _ _ hx hb _ _ hl kk => lv_ior hx hb hd (kk _ hl)
theorem kw_ishl {x y : Int32} (hd : kt_dc i pc .ishl 1 pc') (k : KW P i NM pc' L (.int (x <<< (y &&& 31)) :: st) N I J R Q) : KW P i NM pc L (.int y :: .int x :: st) N I J R Q := by
  obtain ⟨hd, rfl⟩ := hd
  exact kt_go k fun _ _ _ _ _ _ _ _ _ _ _ _ _ _ _ hx hb _ _ hl kk => lv_ishl hx hb hd (kk _ hl)
theorem kw_ishr {x y : Int32} (hd : kt_dc i pc .ishr 1 pc') (k : KW P i NM pc' L (.int (x >>> (y &&& 31)) :: st) N I J R Q) : KW P i NM pc L (.int y :: .int x :: st) N I J R Q := by
  obtain ⟨hd, rfl⟩ := hd
  exact kt_go k fun _ _ _ _ _ _ _ _ _ _ _ _ _ _ _ hx hb _ _ hl kk => lv_ishr hx hb hd (kk _ hl)
theorem kw_ladd {x y : Int64} (hd : kt_dc i pc .ladd 1 pc') (k : KW P i NM pc' L (.long (x + y) :: st) N I J R Q) : KW P i NM pc L (.long y :: .long x :: st) N I J R Q := by
  obtain ⟨hd, rfl⟩ := hd
  exact kt_go k fun _ _ _ _ _ _ _ _ _ _ _ _ _ _ _ hx hb _ _ hl kk => lv_ladd hx hb hd (kk _ hl)
theorem kw_lsub {x y : Int64} (hd : kt_dc i pc .lsub 1 pc') (k : KW P i NM pc' L (.long (x - y) :: st) N I J R Q) : KW P i NM pc L (.long y :: .long x :: st) N I J R Q := by
  obtain ⟨hd, rfl⟩ := hd
  exact kt_go k fun _ _ _ _ _ _ _ _ _ _ _ _ _ _ _ hx hb _ _ hl kk => lv_lsub hx hb hd (kk _ hl)
theorem kw_land {x y : Int64} (hd : kt_dc i pc .land 1 pc') (k : KW P i NM pc' L (.long (x &&& y) :: st) N I J R Q) : KW P i NM pc L (.long y :: .long x :: st) N I J R Q := by
  obtain ⟨hd, rfl⟩ := hd
  exact kt_go k fun _ _ _ _ _ _ _ _ _ _ _ _ _ _ _ hx hb _ _ hl kk => lv_land hx hb hd (kk _ hl)
theorem kw_lor {x y : Int64} (hd : kt_dc i pc .lor 1 pc') (k : KW P i NM pc' L (.long (x ||| y) :: st) N I J R Q) : KW P i NM pc L (.long y :: .long x :: st) N I J R Q := by
  obtain ⟨hd, rfl⟩ := hd
  exact kt_go k fun _ _ _ _ _ _ _ _ _ _ _ _ _ _ _ hx hb _ _ hl kk => lv_lor hx hb hd (kk _ hl)
theorem kw_lxor {x y : Int64} (hd : kt_dc i pc .lxor 1 pc') (k : KW P i NM pc' L (.long (x ^^^ y) :: st) N I J R Q) : KW P i NM pc L (.long y :: .long x :: st) N I J R Q := by
  obtain ⟨hd, rfl⟩ := hd
  exact kt_go k fun _ _ _ _ _ _ _ _ _ _ _ _ _ _ _ hx hb _ _ hl kk => lv_lxor hx hb hd (kk _ hl)
theorem kw_lshl {x : Int64} {y : Int32} (hd : kt_dc i pc .lshl 1 pc') (k : KW P i NM pc' L (.long (x <<< (y.toInt64 &&& 63)) :: st) N I J R Q) : KW P i NM pc L (.int y :: .long x :: st) N I J R Q := by
  obtain ⟨hd, rfl⟩ := hd
  exact kt_go k fun _ _ _ _ _ _ _ _ _ _ _ _ _ _ _ hx hb _ _ hl kk => lv_lshl hx hb hd rfl (kk _ hl)
theorem kw_lshr {x : Int64} {y : Int32} (hd : kt_dc i pc .lshr 1 pc') (k : KW P i NM pc' L (.long (x >>> (y.toInt64 &&& 63)) :: st) N I J R Q) : KW P i NM pc L (.int y :: .long x :: st) N I J R Q := by
  obtain ⟨hd, rfl⟩ := hd
  exact kt_go k fun _ _ _ _ _ _ _ _ _ _ _ _ _ _ _ hx hb _ _ hl kk => lv_lshr hx hb hd rfl (kk _ hl)
theorem kw_lushr {x : Int64} {y : Int32} (hd : kt_dc i pc .lushr 1 pc') (k : KW P i NM pc' L (.long (x.toUInt64 >>> (y.toInt64.toUInt64 &&& Int64.toUInt64 63)).toInt64 :: st) N I J R Q) : KW P i NM pc L (.int y :: .long x :: st) N I J R Q := by
  obtain ⟨hd, rfl⟩ := hd
  exact kt_go k fun _ _ _ _ _ _ _ _ _ _ _ _ _ _ _ hx hb _ _ hl kk => lv_lushr hx hb hd rfl (kk _ hl)
theorem kw_l2i {x : Int64} (hd : kt_dc i pc .l2i 1 pc') (k : KW P i NM pc' L (.int x.toInt32 :: st) N I J R Q) : KW P i NM pc L (.long x :: st) N I J R Q := by
  obtain ⟨hd, rfl⟩ := hd
  exact kt_go k fun _ _ _ _ _ _ _ _ _ _ _ _ _ _ _ hx hb _ _ hl kk => lv_l2i hx hb hd rfl (kk _ hl)
theorem kw_lcmp {x y : Int64} (hd : kt_dc i pc .lcmp 1 pc') (k : KW P i NM pc' L (.int (lg_cmp x y) :: st) N I J R Q) : KW P i NM pc L (.long y :: .long x :: st) N I J R Q := by
  obtain ⟨hd, rfl⟩ := hd
  exact kt_go k fun _ _ _ _ _ _ _ _ _ _ _ _ _ _ _ hx hb _ _ hl kk => W.lcmp hx hb hd (kk _ hl)
theorem kw_dup {v : Value} (hd : kt_dc i pc .dup 1 pc') (hv : v.category = 1) (k : KW P i NM pc' L (v :: v :: st) N I J R Q) : KW P i NM pc L (v :: st) N I J R Q := by
  obtain ⟨hd, rfl⟩ := hd
  exact kt_go k fun _ _ _ _ _ _ _ _ _ _ _ _ _ _ _ hx hb _ _ hl kk => lv_dup hx hb hd hv (kk _ hl)
theorem kw_pop {v : Value} (hd : kt_dc i pc .pop 1 pc') (hv : v.category = 1) (k : KW P i NM pc' L st N I J R Q) : KW P i NM pc L (v :: st) N I J R Q := by
  obtain ⟨hd, rfl⟩ := hd
  exact kt_go k fun _ _ _ _ _ _ _ _ _ _ _ _ _ _ _ hx hb _ _ hl kk => lv_pop hx hb hd hv (kk _ hl)
theorem kw_dup2 {v w : Value} (hd : kt_dc i pc .dup2 1 pc') (hv : v.category = 1) (hw : w.category = 1) (k : KW P i NM pc' L (v :: w :: v :: w :: st) N I J R Q) : KW P i NM pc L (v :: w :: st) N I J R Q := by
  obtain ⟨hd, rfl⟩ := hd
  exact kt_go k fun _ _ _ _ _ _ _ _ _ _ _ _ _ _ _ hx hb _ _ hl kk => lv_dup2_11 hx hb hd hv hw (kk _ hl)
theorem kw_goto {tgt : Nat} (hd : kt_dj i pc .goto tgt pc') (k : KW P i NM tgt L st N I J R Q) : KW P i NM pc L st N I J R Q := by
  obtain ⟨off, hd, ht, rfl⟩ := hd
  exact kt_go k fun _ _ _ _ _ _ _ _ _ _ _ _ _ _ _ hx hb _ _ hl kk => lv_goto hx hb hd ht (kk _ hl)
theorem kw_if_eq {x : Int32} {tgt : Nat} (hd : kt_dj i pc (.ifCond .eq) tgt pc') (k1 : x = 0 → KW P i NM tgt L st N I J R Q) (k2 : ¬ x = 0 → KW P i NM pc' L st N I J R Q) : KW P i NM pc L (.int x :: st) N I J R Q := by
  obtain ⟨off, hd, ht, rfl⟩ := hd
  exact fun p e Rm s m args below meth c N0 H locs ls Z F h0 h1 hl hP hS K => lv_if_eq F.1.1 F.1.2.1 hd ht (fun q => k1 q p e Rm s m args below meth c N0 H locs ls Z F h0 h1 hl hP hS K) (fun q => k2 q p e Rm s m args below meth c N0 H locs ls Z F h0 h1 hl hP hS K)
theorem kw_ic_eq {x y : Int32} {tgt : Nat} (hd : kt_dj i pc (.if_icmp .eq) tgt pc') (k1 : x = y → KW P i NM tgt L st N I J R Q) (k2 : ¬ x = y → KW P i NM pc' L st N I J R Q) : KW P i NM pc L (.int y :: .int x :: st) N I J R Q := by
  obtain ⟨off, hd, ht, rfl⟩ := hd
  exact fun p e Rm s m args below meth c N0 H locs ls Z F h0 h1 hl hP hS K => lv_icmp_eq F.1.1 F.1.2.1 hd ht (fun q => k1 q p e Rm s m args below meth c N0 H locs ls Z F h0 h1 hl hP hS K) (fun q => k2 q p e Rm s m args below meth c N0 H locs ls Z F h0 h1 hl hP hS K)
theorem kw_if_ne {x : Int32} {tgt : Nat} (hd : kt_dj i pc (.ifCond .ne) tgt pc') (k1 : ¬ x = 0 → KW P i NM tgt L st N I J R Q) (k2 : x = 0 → KW P i NM pc' L st N I J R Q) : KW P i NM pc L (.int x :: st) N I J R Q := by
  obtain ⟨off, hd, ht, rfl⟩ := hd
  exact fun p e Rm s m args below meth c N0 H locs ls Z F h0 h1 hl hP hS K => lv_if_ne F.1.1 F.1.2.1 hd ht (fun q => k1 q p e Rm s m args below meth c N0 H locs ls Z F h0 h1 hl hP hS K) (fun q => k2 q p e Rm s m args below meth c N0 H locs ls Z F h0 h1 hl hP hS K)
theorem kw_ic_ne {x y : Int32} {tgt : Nat} (hd : kt_dj i pc (.if_icmp .ne) tgt pc') (k1 : ¬ x = y → KW P i NM tgt L st N I J R Q) (k2 : x = y → KW P i NM pc' L st N I J R Q) : KW P i NM pc L (.int y :: .int x :: st) N I J R Q := by
  obtain ⟨off, hd, ht, rfl⟩ := hd
  exact fun p e Rm s m args below meth c N0 H locs ls Z F h0 h1 hl hP hS K => lv_icmp_ne F.1.1 F.1.2.1 hd ht (fun q => k1 q p e Rm s m args below meth c N0 H locs ls Z F h0 h1 hl hP hS K) (fun q => k2 q p e Rm s m args below meth c N0 H locs ls Z F h0 h1 hl hP hS K)
theorem kw_if_lt {x : Int32} {tgt : Nat} (hd : kt_dj i pc (.ifCond .lt) tgt pc') (k1 : x < 0 → KW P i NM tgt L st N I J R Q) (k2 : ¬ x < 0 → KW P i NM pc' L st N I J R Q) : KW P i NM pc L (.int x :: st) N I J R Q := by
  obtain ⟨off, hd, ht, rfl⟩ := hd
  exact fun p e Rm s m args below meth c N0 H locs ls Z F h0 h1 hl hP hS K => lv_if_lt F.1.1 F.1.2.1 hd ht (fun q => k1 q p e Rm s m args below meth c N0 H locs ls Z F h0 h1 hl hP hS K) (fun q => k2 q p e Rm s m args below meth c N0 H locs ls Z F h0 h1 hl hP hS K)
theorem kw_ic_lt {x y : Int32} {tgt : Nat} (hd : kt_dj i pc (.if_icmp .lt) tgt pc') (k1 : x < y → KW P i NM tgt L st N I J R Q) (k2 : ¬ x < y → KW P i NM pc' L st N I J R Q) : KW P i NM pc L (.int y :: .int x :: st) N I J R Q := by
  obtain ⟨off, hd, ht, rfl⟩ := hd
  exact fun p e Rm s m args below meth c N0 H locs ls Z F h0 h1 hl hP hS K => lv_icmp_lt F.1.1 F.1.2.1 hd ht (fun q => k1 q p e Rm s m args below meth c N0 H locs ls Z F h0 h1 hl hP hS K) (fun q => k2 q p e Rm s m args below meth c N0 H locs ls Z F h0 h1 hl hP hS K)
theorem kw_if_ge {x : Int32} {tgt : Nat} (hd : kt_dj i pc (.ifCond .ge) tgt pc') (k1 : 0 ≤ x → KW P i NM tgt L st N I J R Q) (k2 : ¬ 0 ≤ x → KW P i NM pc' L st N I J R Q) : KW P i NM pc L (.int x :: st) N I J R Q := by
  obtain ⟨off, hd, ht, rfl⟩ := hd
  exact fun p e Rm s m args below meth c N0 H locs ls Z F h0 h1 hl hP hS K => lv_if_ge F.1.1 F.1.2.1 hd ht (fun q => k1 q p e Rm s m args below meth c N0 H locs ls Z F h0 h1 hl hP hS K) (fun q => k2 q p e Rm s m args below meth c N0 H locs ls Z F h0 h1 hl hP hS K)
theorem kw_ic_ge {x y : Int32} {tgt : Nat} (hd : kt_dj i pc (.if_icmp .ge) tgt pc') (k1 : y ≤ x → KW P i NM tgt L st N I J R Q) (k2 : ¬ y ≤ x → KW P i NM pc' L st N I J R Q) : KW P i NM pc L (.int y :: .int x :: st) N I J R Q := by
  obtain ⟨off, hd, ht, rfl⟩ := hd
  exact fun p e Rm s m args below meth c N0 H locs ls Z F h0 h1 hl hP hS K => lv_icmp_ge F.1.1 F.1.2.1 hd ht (fun q => k1 q p e Rm s m args below meth c N0 H locs ls Z F h0 h1 hl hP hS K) (fun q => k2 q p e Rm s m args below meth c N0 H locs ls Z F h0 h1 hl hP hS K)
theorem kw_if_gt {x : Int32} {tgt : Nat} (hd : kt_dj i pc (.ifCond .gt) tgt pc') (k1 : 0 < x → KW P i NM tgt L st N I J R Q) (k2 : ¬ 0 < x → KW P i NM pc' L st N I J R Q) : KW P i NM pc L (.int x :: st) N I J R Q := by
  obtain ⟨off, hd, ht, rfl⟩ := hd
  exact fun p e Rm s m args below meth c N0 H locs ls Z F h0 h1 hl hP hS K => lv_if_gt F.1.1 F.1.2.1 hd ht (fun q => k1 q p e Rm s m args below meth c N0 H locs ls Z F h0 h1 hl hP hS K) (fun q => k2 q p e Rm s m args below meth c N0 H locs ls Z F h0 h1 hl hP hS K)
theorem kw_ic_gt {x y : Int32} {tgt : Nat} (hd : kt_dj i pc (.if_icmp .gt) tgt pc') (k1 : y < x → KW P i NM tgt L st N I J R Q) (k2 : ¬ y < x → KW P i NM pc' L st N I J R Q) : KW P i NM pc L (.int y :: .int x :: st) N I J R Q := by
  obtain ⟨off, hd, ht, rfl⟩ := hd
  exact fun p e Rm s m args below meth c N0 H locs ls Z F h0 h1 hl hP hS K => lv_icmp_gt F.1.1 F.1.2.1 hd ht (fun q => k1 q p e Rm s m args below meth c N0 H locs ls Z F h0 h1 hl hP hS K) (fun q => k2 q p e Rm s m args below meth c N0 H locs ls Z F h0 h1 hl hP hS K)
theorem kw_if_le {x : Int32} {tgt : Nat} (hd : kt_dj i pc (.ifCond .le) tgt pc') (k1 : x ≤ 0 → KW P i NM tgt L st N I J R Q) (k2 : ¬ x ≤ 0 → KW P i NM pc' L st N I J R Q) : KW P i NM pc L (.int x :: st) N I J R Q := by
  obtain ⟨off, hd, ht, rfl⟩ := hd
  exact fun p e Rm s m args below meth c N0 H locs ls Z F h0 h1 hl hP hS K => lv_if_le F.1.1 F.1.2.1 hd ht (fun q => k1 q p e Rm s m args below meth c N0 H locs ls Z F h0 h1 hl hP hS K) (fun q => k2 q p e Rm s m args below meth c N0 H locs ls Z F h0 h1 hl hP hS K)
theorem kw_ic_le {x y : Int32} {tgt : Nat} (hd : kt_dj i pc (.if_icmp .le) tgt pc') (k1 : x ≤ y → KW P i NM tgt L st N I J R Q) (k2 : ¬ x ≤ y → KW P i NM pc' L st N I J R Q) : KW P i NM pc L (.int y :: .int x :: st) N I J R Q := by
  obtain ⟨off, hd, ht, rfl⟩ := hd
  exact fun p e Rm s m args below meth c N0 H locs ls Z F h0 h1 hl hP hS K => lv_icmp_le F.1.1 F.1.2.1 hd ht (fun q => k1 q p e Rm s m args below meth c N0 H locs ls Z F h0 h1 hl hP hS K) (fun q => k2 q p e Rm s m args below meth c N0 H locs ls Z F h0 h1 hl hP hS K)
/-! switches -/
theorem kw_tsw {lo : Int} {tg : List Nat} {dflt : Nat} {x : Int32} (hd : kt_dt i pc lo tg dflt) (k1 : ∀ (j t : Nat), tg[j]? = some t → x.toInt = lo + (j : Int) → KW P i NM t L st N I J R Q) (k2 : x.toInt < lo ∨ lo + (tg.length : Int) ≤ x.toInt → KW P i NM dflt L st N I J R Q) : KW P i NM pc L (.int x :: st) N I J R Q := by
  obtain ⟨d, hi, offs, len, hd, hdf, hhi, hof⟩ := hd
  intro p e Rm s m args below meth c N0 H locs ls Z F h0 h1 hl hP hS K
  by_cases hr : x.toInt < lo ∨ lo + (tg.length : Int) ≤ x.toInt
  · exact lv_tableOut F.1.1 F.1.2.1 hd (by rcases hr with h | h; exact Or.inl h; exact Or.inr (by omega)) hdf (k2 hr p e Rm s m args below meth c N0 H locs ls Z F h0 h1 hl hP hS K)
  · have hlen : (x.toInt - lo).toNat < tg.length := by omega
    have ht : tg[(x.toInt - lo).toNat]? = some (tg[(x.toInt - lo).toNat]) := List.getElem?_eq_getElem hlen
    have h3 : (tg.map Int.ofNat)[(x.toInt - lo).toNat]? = some ((tg[(x.toInt - lo).toNat] : Nat) : Int) := by rw [List.getElem?_map, ht]; rfl
    rw [← hof, List.getElem?_map] at h3
    cases ho : offs.toList[(x.toInt - lo).toNat]? with
    | none => rw [ho] at h3; cases h3
    | some off =>
      rw [ho] at h3
      exact lv_tableIn (off := off) F.1.1 F.1.2.1 hd (by omega) (by omega) (by rw [← Array.getElem?_toList]; exact ho) (Option.some.inj h3) (k1 _ _ ht (by omega) p e Rm s m args below meth c N0 H locs ls Z F h0 h1 hl hP hS K)
theorem kw_lsw {dflt off : Int} {ps : Array (Int × Int)} {len tgt : Nat} {x : Int32} (hd : decode (kt_by i) pc = .ok (.lookupswitch dflt ps, len)) (hp : (ps.toList.zip (ps.toList.drop 1)).all (fun (a, next) => a.1 < next.1) = true) (ho : Op.lookupswitch.offset ps.toList dflt x.toInt = off) (ht : (pc : Int) + off = (tgt : Int)) (k : KW P i NM tgt L st N I J R Q) : KW P i NM pc L (.int x :: st) N I J R Q :=
  kt_go k fun _ _ _ _ _ _ _ _ _ _ _ _ _ _ _ hx hb _ _ hl kk => lv_lookup hx hb hd hp ho ht (kk _ hl)
end KR
end
section
/-! memory: one place written; a row written -/
def kt_u1 (I : kt_I) (a j : Nat) (x : Int32) : kt_I := fun a' j' => if a' = a ∧ j' = j then x else I a' j'
def kt_uL (J : kt_J) (a j : Nat) (x : Int64) : kt_J := fun a' j' => if a' = a ∧ j' = j then x else J a' j'
def kt_uR (R : kt_R) (a j : Nat) (x : Option Nat) : kt_R := fun a' j' => if a' = a ∧ j' = j then x else R a' j'
def kt_rw {α : Type} (M : Nat → Nat → α) (a : Nat) (f : Nat → α) : Nat → Nat → α := fun a' => if a' = a then f else M a'
theorem kt_u1_row (I : kt_I) (a j : Nat) (x : Int32) : kt_u1 I a j x a = upd (I a) j x := by funext k; simp [kt_u1, upd]
theorem kt_uL_row (J : kt_J) (a j : Nat) (x : Int64) : kt_uL J a j x a = vp_updL (J a) j x := by funext k; simp [kt_uL, vp_updL]
theorem kt_uR_row (R : kt_R) (a j : Nat) (x : Option Nat) : kt_uR R a j x a = va_up (R a) j x := by funext k; simp [kt_uR, va_up]
theorem kt_u1_ne (I : kt_I) {a q : Nat} (j : Nat) (x : Int32) (h : q ≠ a) : kt_u1 I a j x q = I q := by funext k; simp [kt_u1, h]
theorem kt_uL_ne (J : kt_J) {a q : Nat} (j : Nat) (x : Int64) (h : q ≠ a) : kt_uL J a j x q = J q := by funext k; simp [kt_uL, h]
theorem kt_uR_ne (R : kt_R) {a q : Nat} (j : Nat) (x : Option Nat) (h : q ≠ a) : kt_uR R a j x q = R q := by funext k; simp [kt_uR, h]
theorem kt_rw_eq {α : Type} (M : Nat → Nat → α) (a : Nat) (f : Nat → α) : kt_rw M a f a = f := by simp [kt_rw]
theorem kt_rw_ne {α : Type} (M : Nat → Nat → α) {a q : Nat} (f : Nat → α) (h : q ≠ a) : kt_rw M a f q = M q := by simp [kt_rw, h]
theorem kt_fl_cong {I I' : kt_I} {J J' : kt_J} {R R' : kt_R} {q : Nat} (h1 : I' q = I q) (h2 : J' q = J q) (h3 : R' q = R q) : ∀ (ts : List Nat) (j : Nat), kt_fl I' J' R' q ts j = kt_fl I J R q ts j
  | [], _ => rfl
  | t :: r, j => by
    unfold kt_fl
    rw [kt_fl_cong h1 h2 h3 r (j + 1)]
    unfold kt_fv
    rw [h1, h2, h3]
theorem kt_ce_cong {c : Nat → ClassId} {I I' : kt_I} {J J' : kt_J} {R R' : kt_R} {q : Nat} (h1 : I' q = I q) (h2 : J' q = J q) (h3 : R' q = R q) (t n : Nat) : kt_ce c I' J' R' q t n = kt_ce c I J R q t n := by
  unfold kt_ce
  rw [kt_fl_cong h1 h2 h3, h1, h2, h3]
/-! facts of field instructions -/
def kt_tt : Nat → FieldType → Bool
  | 0, .int => true
  | 1, .long => true
  | 2, .object _ => true
  | 2, .array _ => true
  | 3, .boolean => true
  | _, _ => false
def kt_lk (own : String) (idx : Nat) (C n d : String) : Prop := Cond.fieldLink own idx C n d ∈ kt_GW ∨ ∃ host, Cond.fieldLinkNest own idx C n d host ∈ kt_NW
def kt_sG (i pc ci k t pc' : Nat) : Prop := ∃ (idx : Nat) (C : String) (T : u_T) (Nf : Nat), kt_dc i pc (.getfield idx) 3 pc' ∧ vwCl[ci]? = some (C, T, Nf) ∧ k < Nf ∧ (kt_ft ci)[k]? = some t ∧ ci < 6 ∧ kt_lk (kt_ow i) idx (T k).1 (T k).2.1 (T k).2.2.1
def kt_sP (i pc ci k t pc' : Nat) : Prop := ∃ (idx : Nat) (C : String) (T : u_T) (Nf : Nat) (ty : FieldType), kt_dc i pc (.putfield idx) 3 pc' ∧ vwCl[ci]? = some (C, T, Nf) ∧ k < Nf ∧ (kt_ft ci)[k]? = some t ∧ ci < 6 ∧ parseFieldDescriptor (T k).2.2.1 = some ty ∧ kt_tt t ty = true ∧
  (((T k).2.2.2 = false ∧ kt_lk (kt_ow i) idx (T k).1 (T k).2.1 (T k).2.2.1) ∨ ((T k).2.2.2 = true ∧ (kt_nm i).name = "<init>" ∧ (T k).1 = kt_ow i ∧ Cond.fieldLink (kt_ow i) idx (T k).1 (T k).2.1 (T k).2.2.1 ∈ kt_GW))
section KH
variable {P : kt_P} {i NM pc pc' : Nat} {L L' : List (Option Value)} {st : List Value} {N : Nat} {I I' : kt_I} {J J' : kt_J} {R R' : kt_R} {Q : Option Value → kt_I → kt_J → kt_R → Prop}
theorem kt_get {ci k t a : Nat} (hs : kt_sG i pc ci k t pc') (hkd : (kt_kd P N a).1 = ci) (kk : KW P i NM pc' L (kt_fv I J R a t k :: st) N I J R Q) : KW P i NM pc L (.ref a :: st) N I J R Q := by
  obtain ⟨idx, C, T, Nf, ⟨hd, rfl⟩, hq, hk, ht, hci, hlk⟩ := hs
  intro p e Rm s m args below meth c N0 H locs ls Z F h0 h1 hl hP hS K
  have kk1 := kk p e Rm s m args below meth c N0 H locs ls Z F h0 h1 hl hP hS K
  obtain ⟨⟨hx, hb, hml, hown, -⟩, hts, hST, -⟩ := F
  obtain ⟨k0, -, -, hrow⟩ := kt_row P (n := (kt_kd P N a).2) (t := ci) I J R (by rw [← hkd]) (by omega)
  have hrow1 : (kt_ws P N I J R)[k0]? = some (a, .inr (ci, kt_fl I J R a (kt_ft ci) 0)) := by rw [hrow]; simp [kt_ce, hci]
  have hv : (kt_fl I J R a (kt_ft ci) 0)[k]? = some (kt_fv I J R a t k) := by rw [kt_fl_get, ht]; simp
  rcases hlk with hlk | ⟨host, hlk⟩
  · exact va_get hx hb hts (kt_cw hq) hown hST.1 hP k0 hrow1 hq k hk (hts _ hlk) (fun _ h9 => h9) hv hd kk1
  · exact va_getN hx hb hts (kt_cw hq) hown hST.1 hP k0 hrow1 hq k hk (va_Nw.use rfl (hST.2.1 _ hlk)) (fun _ h9 => h9) hv hd kk1
theorem kw_gi {ci k a : Nat} (hs : kt_sG i pc ci k 0 pc') (hkd : (kt_kd P N a).1 = ci) (kk : KW P i NM pc' L (.int (I a k) :: st) N I J R Q) : KW P i NM pc L (.ref a :: st) N I J R Q := kt_get hs hkd kk
theorem kw_gz {ci k a : Nat} (hs : kt_sG i pc ci k 3 pc') (hkd : (kt_kd P N a).1 = ci) (kk : KW P i NM pc' L (.int (I a k) :: st) N I J R Q) : KW P i NM pc L (.ref a :: st) N I J R Q := kt_get hs hkd kk
theorem kw_gl {ci k a : Nat} (hs : kt_sG i pc ci k 1 pc') (hkd : (kt_kd P N a).1 = ci) (kk : KW P i NM pc' L (.long (J a k) :: st) N I J R Q) : KW P i NM pc L (.ref a :: st) N I J R Q := kt_get hs hkd kk
theorem kw_gr {ci k a r : Nat} (hs : kt_sG i pc ci k 2 pc') (hkd : (kt_kd P N a).1 = ci) (hr : R a k = some r) (kk : KW P i NM pc' L (.ref r :: st) N I J R Q) : KW P i NM pc L (.ref a :: st) N I J R Q := kt_get hs hkd (by unfold kt_fv; simp only [hr]; exact kk)
theorem kt_put {ci k t a : Nat} {v : Value} (hs : kt_sP i pc ci k t pc') (hkd : (kt_kd P N a).1 = ci) (hnf : ∀ ty, kt_tt t ty = true → narrow ty v = v ∧ fits ty v = true) (hv : kt_fv I' J' R' a t k = v)
    (ho : ∀ t j, j ≠ k → kt_fv I' J' R' a t j = kt_fv I J R a t j) (hq1 : ∀ q, q ≠ a → I' q = I q ∧ J' q = J q ∧ R' q = R q) (kk : KW P i NM pc' L st N I' J' R' Q) : KW P i NM pc L (v :: .ref a :: st) N I J R Q := by
  obtain ⟨idx, C, T, Nf, ty, ⟨hd, rfl⟩, hq, hk, ht, hci, hpd, htt, hlk⟩ := hs
  intro p e Rm s m args below meth c N0 H locs ls Z F h0 h1 hl hP hS K
  have kk1 := fun H1 locs1 hP1 hS1 => kk p e Rm s m args below meth c N0 H1 locs1 ls Z F h0 h1 hl hP1 hS1 K
  obtain ⟨⟨hx, hb, hml, hown, -, -, hin⟩, hts, hST, -⟩ := F
  have hkd1 : kt_kd P N a = (ci, (kt_kd P N a).2) := by rw [← hkd]
  obtain ⟨k0, -, -, hrow⟩ := kt_row P I J R hkd1 (by omega)
  have hrow1 : (kt_ws P N I J R)[k0]? = some (a, .inr (ci, kt_fl I J R a (kt_ft ci) 0)) := by rw [hrow]; simp [kt_ce, hci]
  have hset : (kt_ws P N I J R).set k0 (a, .inr (ci, (kt_fl I J R a (kt_ft ci) 0).set k v)) = kt_ws P N I' J' R' := by
    refine kt_ws_set P hrow hkd1 (by omega) ?_ (fun q t n hqa => kt_ce_cong (hq1 q hqa).1 (hq1 q hqa).2.1 (hq1 q hqa).2.2 t n)
    rw [kt_fl_set ht hv ho]
    simp [kt_ce, hci]
  have hlen : k < (kt_fl I J R a (kt_ft ci) 0).length := by rw [kt_fl_len]; exact (List.getElem?_eq_some_iff.mp ht).1
  obtain ⟨ty0, hty0, hnm0⟩ := kt_ct hq
  obtain ⟨hn, hf⟩ := hnf ty htt
  rcases hlk with ⟨hfin, hlk | ⟨host, hlk⟩⟩ | ⟨hfin, hini, hdec, hlk⟩
  · exact va_put hx hb hts (kt_cw hq) ty0 hty0 hnm0 hown hST.1 hP (kt_wD P N I J R) hS k0 hrow1 hq k hk (hts _ hlk) (fun _ h9 => h9) hfin hpd hn hf hlen hd (fun H1 locs1 hP1 _ hS1 => kk1 H1 locs1 (hset ▸ hP1) hS1)
  · exact va_putN hx hb hts (kt_cw hq) ty0 hty0 hnm0 hown hST.1 hP (kt_wD P N I J R) hS k0 hrow1 hq k hk (va_Nw.use rfl (hST.2.1 _ hlk)) (fun _ h9 => h9) hfin hpd hn hf hlen hd (fun H1 locs1 hP1 _ hS1 => kk1 H1 locs1 (hset ▸ hP1) hS1)
  · exact va_putF hx hb hts (kt_cw hq) ty0 hty0 hnm0 hown hST.1 hP (kt_wD P N I J R) hS k0 hrow1 hq k hk (hts _ hlk) (fun _ h9 => h9) hfin (hin hini) hdec hpd hn hf hlen hd (fun H1 locs1 hP1 _ hS1 => kk1 H1 locs1 (hset ▸ hP1) hS1)
theorem kw_pi {ci k a : Nat} {x : Int32} (hs : kt_sP i pc ci k 0 pc') (hkd : (kt_kd P N a).1 = ci) (kk : KW P i NM pc' L st N (kt_u1 I a k x) J R Q) : KW P i NM pc L (.int x :: .ref a :: st) N I J R Q :=
  kt_put hs hkd (fun ty h => by cases ty <;> first | exact ⟨rfl, rfl⟩ | (exfalso; revert h; simp [kt_tt])) (by simp [kt_fv, kt_u1]) (fun t j hj => by simp [kt_fv, kt_u1, hj]) (fun q hq => ⟨kt_u1_ne I k x hq, rfl, rfl⟩) kk
theorem kw_pl {ci k a : Nat} {x : Int64} (hs : kt_sP i pc ci k 1 pc') (hkd : (kt_kd P N a).1 = ci) (kk : KW P i NM pc' L st N I (kt_uL J a k x) R Q) : KW P i NM pc L (.long x :: .ref a :: st) N I J R Q :=
  kt_put hs hkd (fun ty h => by cases ty <;> first | exact ⟨rfl, rfl⟩ | (exfalso; revert h; simp [kt_tt])) (by simp [kt_fv, kt_uL]) (fun t j hj => by simp [kt_fv, kt_uL, hj]) (fun q hq => ⟨rfl, kt_uL_ne J k x hq, rfl⟩) kk
theorem kw_pr {ci k a r : Nat} (hs : kt_sP i pc ci k 2 pc') (hkd : (kt_kd P N a).1 = ci) (kk : KW P i NM pc' L st N I J (kt_uR R a k (some r)) Q) : KW P i NM pc L (.ref r :: .ref a :: st) N I J R Q :=
  kt_put hs hkd (fun ty h => by cases ty <;> first | exact ⟨rfl, rfl⟩ | (exfalso; revert h; simp [kt_tt])) (by simp [kt_fv, kt_uR, va_rf]) (fun t j hj => by simp [kt_fv, kt_uR, hj]) (fun q hq => ⟨rfl, rfl, kt_uR_ne R k _ hq⟩) kk
theorem kw_pz {ci k a : Nat} {x : Int32} (hs : kt_sP i pc ci k 3 pc') (hkd : (kt_kd P N a).1 = ci) (hx : x = 0 ∨ x = 1) (kk : KW P i NM pc' L st N (kt_u1 I a k x) J R Q) : KW P i NM pc L (.int x :: .ref a :: st) N I J R Q :=
  kt_put hs hkd (fun ty h => by cases ty <;> first | (rcases hx with rfl | rfl <;> exact ⟨rfl, rfl⟩) | (exfalso; revert h; simp [kt_tt])) (by simp [kt_fv, kt_u1]) (fun t j hj => by simp [kt_fv, kt_u1, hj]) (fun q hq => ⟨kt_u1_ne I k x hq, rfl, rfl⟩) kk
/-! arrays -/
theorem kw_iald {a n : Nat} {j : Int32} (hd : kt_dc i pc .iaload 1 pc') (hkd : kt_kd P N a = (6, n)) (hin : vp_in j n) (kk : KW P i NM pc' L (.int (I a j.toNatClampNeg) :: st) N I J R Q) : KW P i NM pc L (.int j :: .ref a :: st) N I J R Q := by
  obtain ⟨hd, rfl⟩ := hd
  intro p e Rm s m args below meth c N0 H locs ls Z F h0 h1 hl hP hS K
  obtain ⟨k0, -, -, hrow⟩ := kt_row P I J R hkd (by omega)
  exact va_iald F.1.1 F.1.2.1 F.2.2.1.1 hP k0 0 (f := I a) (by rw [hrow]; simp [kt_ce]) rfl hin hd (kk p e Rm s m args below meth c N0 H locs ls Z F h0 h1 hl hP hS K)
theorem kw_zald {a n : Nat} {j : Int32} (hd : kt_dc i pc .baload 1 pc') (hkd : kt_kd P N a = (8, n)) (hin : vp_in j n) (kk : KW P i NM pc' L (.int (I a j.toNatClampNeg) :: st) N I J R Q) : KW P i NM pc L (.int j :: .ref a :: st) N I J R Q := by
  obtain ⟨hd, rfl⟩ := hd
  intro p e Rm s m args below meth c N0 H locs ls Z F h0 h1 hl hP hS K
  obtain ⟨k0, -, -, hrow⟩ := kt_row P I J R hkd (by omega)
  exact va_zald F.1.1 F.1.2.1 F.2.2.1.1 hP k0 2 (f := I a) (by rw [hrow]; simp [kt_ce]) rfl hin hd (kk p e Rm s m args below meth c N0 H locs ls Z F h0 h1 hl hP hS K)
theorem kw_lald {a n : Nat} {j : Int32} (hd : kt_dc i pc .laload 1 pc') (hkd : kt_kd P N a = (7, n)) (hin : vp_in j n) (kk : KW P i NM pc' L (.long (J a j.toNatClampNeg) :: st) N I J R Q) : KW P i NM pc L (.int j :: .ref a :: st) N I J R Q := by
  obtain ⟨hd, rfl⟩ := hd
  intro p e Rm s m args below meth c N0 H locs ls Z F h0 h1 hl hP hS K
  obtain ⟨k0, -, -, hrow⟩ := kt_row P I J R hkd (by omega)
  exact va_lald F.1.1 F.1.2.1 F.2.2.1.1 hP k0 1 (f := J a) (by rw [hrow]; simp [kt_ce]) rfl hin hd (kk p e Rm s m args below meth c N0 H locs ls Z F h0 h1 hl hP hS K)
theorem kw_aald {a n r : Nat} {j : Int32} (hd : kt_dc i pc .aaload 1 pc') (hkd : kt_kd P N a = (9, n)) (hin : vp_in j n) (hr : R a j.toNatClampNeg = some r) (kk : KW P i NM pc' L (.ref r :: st) N I J R Q) : KW P i NM pc L (.int j :: .ref a :: st) N I J R Q := by
  obtain ⟨hd, rfl⟩ := hd
  intro p e Rm s m args below meth c N0 H locs ls Z F h0 h1 hl hP hS K
  obtain ⟨k0, -, -, hrow⟩ := kt_row P I J R hkd (by omega)
  exact va_aldq F.1.1 F.1.2.1 F.2.2.1.1 hP k0 3 (f := R a) (C := RX0) (by rw [hrow]; simp [kt_ce]) rfl hin hd (by rw [hr]; exact kk p e Rm s m args below meth c N0 H locs ls Z F h0 h1 hl hP hS K)
theorem kw_iast {a n : Nat} {j x : Int32} (hd : kt_dc i pc .iastore 1 pc') (hkd : kt_kd P N a = (6, n)) (hin : vp_in j n) (kk : KW P i NM pc' L st N (kt_u1 I a j.toNatClampNeg x) J R Q) : KW P i NM pc L (.int x :: .int j :: .ref a :: st) N I J R Q := by
  obtain ⟨hd, rfl⟩ := hd
  intro p e Rm s m args below meth c N0 H locs ls Z F h0 h1 hl hP hS K
  obtain ⟨k0, -, -, hrow⟩ := kt_row P I J R hkd (by omega)
  have hset : (kt_ws P N I J R).set k0 (a, .inl (kt_c P 0, n, .inl (upd (I a) j.toNatClampNeg x))) = kt_ws P N (kt_u1 I a j.toNatClampNeg x) J R :=
    kt_ws_set P hrow hkd (by omega) (by simp [kt_ce, kt_u1_row]) (fun q t n hq => kt_ce_cong (kt_u1_ne I _ x hq) rfl rfl t n)
  exact va_iast F.1.1 F.1.2.1 F.2.2.1.1 hP (kt_wD P N I J R) hS k0 0 (f := I a) (by rw [hrow]; simp [kt_ce]) rfl hin hd (fun H1 locs1 hP1 _ hS1 => kk p e Rm s m args below meth c N0 H1 locs1 ls Z F h0 h1 hl (hset ▸ hP1) hS1 K)
theorem kw_zast {a n : Nat} {j x : Int32} (hd : kt_dc i pc .bastore 1 pc') (hkd : kt_kd P N a = (8, n)) (hin : vp_in j n) (hx : x = 0 ∨ x = 1) (kk : KW P i NM pc' L st N (kt_u1 I a j.toNatClampNeg x) J R Q) : KW P i NM pc L (.int x :: .int j :: .ref a :: st) N I J R Q := by
  obtain ⟨hd, rfl⟩ := hd
  have hx1 : vp_nar .boolean x = x := by rcases hx with rfl | rfl <;> rfl
  intro p e Rm s m args below meth c N0 H locs ls Z F h0 h1 hl hP hS K
  obtain ⟨k0, -, -, hrow⟩ := kt_row P I J R hkd (by omega)
  have hset : (kt_ws P N I J R).set k0 (a, .inl (kt_c P 2, n, .inl (upd (I a) j.toNatClampNeg (vp_nar .boolean x)))) = kt_ws P N (kt_u1 I a j.toNatClampNeg x) J R :=
    kt_ws_set P hrow hkd (by omega) (by simp [kt_ce, kt_u1_row, hx1]) (fun q t n hq => kt_ce_cong (kt_u1_ne I _ x hq) rfl rfl t n)
  exact va_zast F.1.1 F.1.2.1 F.2.2.1.1 hP (kt_wD P N I J R) hS k0 2 (f := I a) (by rw [hrow]; simp [kt_ce]) rfl hin hd (fun H1 locs1 hP1 _ hS1 => kk p e Rm s m args below meth c N0 H1 locs1 ls Z F h0 h1 hl (hset ▸ hP1) hS1 K)
theorem kw_last {a n : Nat} {j : Int32} {x : Int64} (hd : kt_dc i pc .lastore 1 pc') (hkd : kt_kd P N a = (7, n)) (hin : vp_in j n) (kk : KW P i NM pc' L st N I (kt_uL J a j.toNatClampNeg x) R Q) : KW P i NM pc L (.long x :: .int j :: .ref a :: st) N I J R Q := by
  obtain ⟨hd, rfl⟩ := hd
  intro p e Rm s m args below meth c N0 H locs ls Z F h0 h1 hl hP hS K
  obtain ⟨k0, -, -, hrow⟩ := kt_row P I J R hkd (by omega)
  have hset : (kt_ws P N I J R).set k0 (a, .inl (kt_c P 1, n, .inr (.inl (vp_updL (J a) j.toNatClampNeg x)))) = kt_ws P N I (kt_uL J a j.toNatClampNeg x) R :=
    kt_ws_set P hrow hkd (by omega) (by simp [kt_ce, kt_uL_row]) (fun q t n hq => kt_ce_cong rfl (kt_uL_ne J _ x hq) rfl t n)
  exact va_last F.1.1 F.1.2.1 F.2.2.1.1 hP (kt_wD P N I J R) hS k0 1 (f := J a) (by rw [hrow]; simp [kt_ce]) rfl hin hd (fun H1 locs1 hP1 _ hS1 => kk p e Rm s m args below meth c N0 H1 locs1 ls Z F h0 h1 hl (hset ▸ hP1) hS1 K)
theorem kw_aast {a n r : Nat} {j : Int32} (hd : kt_dc i pc .aastore 1 pc') (hkd : kt_kd P N a = (9, n)) (hkr : (kt_kd P N r).1 = 0) (hin : vp_in j n) (kk : KW P i NM pc' L st N I J (kt_uR R a j.toNatClampNeg (some r)) Q) : KW P i NM pc L (.ref r :: .int j :: .ref a :: st) N I J R Q := by
  obtain ⟨hd, rfl⟩ := hd
  intro p e Rm s m args below meth c N0 H locs ls Z F h0 h1 hl hP hS K
  obtain ⟨k0, -, -, hrow⟩ := kt_row P I J R hkd (by omega)
  have hkr1 : kt_kd P N r = (0, (kt_kd P N r).2) := by rw [← hkr]
  obtain ⟨k1, -, -, hrow2⟩ := kt_row P I J R hkr1 (by omega)
  have hset : (kt_ws P N I J R).set k0 (a, .inl (kt_c P 3, n, .inr (.inr (.inr (.inr (va_up (R a) j.toNatClampNeg (some r))))))) = kt_ws P N I J (kt_uR R a j.toNatClampNeg (some r)) :=
    kt_ws_set P hrow hkd (by omega) (by simp [kt_ce, kt_uR_row]) (fun q t n hq => kt_ce_cong rfl rfl (kt_uR_ne R _ _ hq) t n)
  exact va_astq (r := (RX0, TX0, 11)) F.1.1 F.1.2.1 F.2.2.1.1 hP (kt_wD P N I J R) hS k0 3 k1 0 (f := R a) (vs := kt_fl I J R r (kt_ft 0) 0) (by rw [hrow]; simp [kt_ce]) rfl (by rw [hrow2]; simp [kt_ce]) rfl hin hd (fun H1 locs1 hP1 _ hS1 => kk p e Rm s m args below meth c N0 H1 locs1 ls Z F h0 h1 hl (hset ▸ hP1) hS1 K)
theorem kw_alen {a n : Nat} (hd : kt_dc i pc .arraylength 1 pc') (hkd : kt_kd P N a = (6, n)) (kk : KW P i NM pc' L (.int (nI n) :: st) N I J R Q) : KW P i NM pc L (.ref a :: st) N I J R Q := by
  obtain ⟨hd, rfl⟩ := hd
  intro p e Rm s m args below meth c N0 H locs ls Z F h0 h1 hl hP hS K
  obtain ⟨k0, -, -, hrow⟩ := kt_row P I J R hkd (by omega)
  exact va_alen F.1.1 F.1.2.1 F.2.2.1.1 hP k0 0 (x := (n, .inl (I a))) (by rw [hrow]; simp [kt_ce]) rfl rfl hd (kk p e Rm s m args below meth c N0 H locs ls Z F h0 h1 hl hP hS K)
/-! the script -/
theorem kt_bA (P : kt_P) (h : kt_b P < kt_z P) : ¬ kt_A P (kt_b P) := Nat.not_le.mpr h
theorem kw_sld {j : Int32} (hd : kt_dc i pc .iaload 1 pc') (hin : vp_in j (kt_L P)) (kk : KW P i NM pc' L (.int (kt_x P j.toNatClampNeg) :: st) N I J R Q) : KW P i NM pc L (.int j :: .ref (kt_b P) :: st) N I J R Q := by
  obtain ⟨hd, rfl⟩ := hd
  intro p e Rm s m args below meth c N0 H locs ls Z F h0 h1 hl hP hS K
  exact va_sld F.1.1 F.1.2.1 F.2.2.2.1 (by have h8 := F.2.2.2.2.2.1; have h9 := F.2.2.2.2.1; omega) (kt_bA P F.2.2.2.2.1) hS hin hd (kk p e Rm s m args below meth c N0 H locs ls Z F h0 h1 hl hP hS K)
theorem kw_slen (hd : kt_dc i pc .arraylength 1 pc') (kk : KW P i NM pc' L (.int (nI (kt_L P)) :: st) N I J R Q) : KW P i NM pc L (.ref (kt_b P) :: st) N I J R Q := by
  obtain ⟨hd, rfl⟩ := hd
  intro p e Rm s m args below meth c N0 H locs ls Z F h0 h1 hl hP hS K
  exact va_slen F.1.1 F.1.2.1 F.2.2.2.1 (by have h8 := F.2.2.2.2.2.1; have h9 := F.2.2.2.2.1; omega) (kt_bA P F.2.2.2.2.1) hS hd (kk p e Rm s m args below meth c N0 H locs ls Z F h0 h1 hl hP hS K)
end KH
end
section
section KC
variable {P : kt_P} {i NM pc pc' : Nat} {L L' : List (Option Value)} {st : List Value} {N : Nat} {I I' : kt_I} {J J' : kt_J} {R R' : kt_R} {Q : Option Value → kt_I → kt_J → kt_R → Prop}
/-! the heap's size: as many cells as the world has -/
theorem kt_size {p : Program} {l : Launch} {e : Env} {Rm : Room} {s : State} {m : MethodId} {args : Array Value} {below : List Frame} {meth : Method} {c : Code} {N0 : Nat} {H : Heap} {locs : List Loc} {sl : Nat} {Z : State → Prop} {g : JFrame}
    (hP : va_P (kt_D P) vwCl (kt_ws P N I J R) H) (hS : va_S (kt_A P) s.heap H locs) (hs : s.heap.size = kt_z P + N0) (h0 : N0 ≤ N) (k : H.size = kt_z P + N → W p l e Rm s m args below meth c H locs (N - N0) sl Z g) : W p l e Rm s m args below meth c H locs (N - N0) sl Z g := by
  intro T hT X
  have h1 := X.heapSize
  rw [hT] at h1
  have h2 : kt_z P + N ≤ H.size := by
    have h3 := hS.1
    by_cases hN : N = N0
    · omega
    · have h4 := kt_ws_get P N I J R (k := N - 1) (by omega)
      have h5 := (hP _ _ h4).lt
      simp only at h5
      omega
  exact k (by omega) T hT X
theorem kt_wsz {p : Program} {l : Launch} {e : Env} {Rm : Room} {s : State} {m : MethodId} {args : Array Value} {below : List Frame} {meth : Method} {c : Code} {H : Heap} {locs : List Loc} {ce sl : Nat} {Z : State → Prop} {g : JFrame}
    (k : H.size ≤ s.heap.size + ce → W p l e Rm s m args below meth c H locs ce sl Z g) : W p l e Rm s m args below meth c H locs ce sl Z g := by
  intro T hT X
  have h1 := X.heapSize
  rw [hT] at h1
  exact k h1 T hT X
theorem kt_ws_push (P : kt_P) {N : Nat} {I I' : kt_I} {J J' : kt_J} {R R' : kt_R} {e : va_E} (he : kt_ce (kt_c P) I' J' R' (kt_z P + N) (kt_kn N).1 (kt_kn N).2 = e) (ho : ∀ q, q ≠ kt_z P + N → I' q = I q ∧ J' q = J q ∧ R' q = R q) : kt_ws P N I J R ++ [(kt_z P + N, e)] = kt_ws P (N + 1) I' J' R' := by
  unfold kt_ws
  rw [List.range_succ, List.map_append, List.map_singleton, he]
  congr 1
  apply List.map_congr_left
  intro k hk
  have hk1 := List.mem_range.mp hk
  obtain ⟨h1, h2, h3⟩ := ho (kt_z P + k) (by omega)
  rw [kt_ce_cong h1 h2 h3]
theorem kt_new_q {q : Nat} {H1 : Heap} {e : va_E} (hP1 : va_P (kt_D P) vwCl (kt_ws P N I J R ++ [(q, e)]) H1) (hD1 : va_D (kt_A P) (kt_ws P N I J R ++ [(q, e)])) (hsz : H1.size ≤ kt_z P + N + 1) : q = kt_z P + N := by
  have hlast : (kt_ws P N I J R ++ [(q, e)])[N]? = some (q, e) := by
    rw [List.getElem?_append_right (by rw [kt_ws_len]; exact Nat.le_refl _), kt_ws_len]
    simp
  have h1 := (hP1 _ _ hlast).lt
  have h2 : kt_z P ≤ q := hD1.2 _ _ hlast
  simp only at h1
  by_cases h3 : q < kt_z P + N
  · exfalso
    have h4 := kt_ws_get P N I J R (k := q - kt_z P) (by omega)
    have h5 : (kt_ws P N I J R ++ [(q, e)])[q - kt_z P]? = some (kt_z P + (q - kt_z P), kt_ce (kt_c P) I J R (kt_z P + (q - kt_z P)) (kt_kn (q - kt_z P)).1 (kt_kn (q - kt_z P)).2) := by
      rw [List.getElem?_append_left (by rw [kt_ws_len]; omega)]
      exact h4
    have h6 := hD1.1 _ _ _ _ h5 hlast (by simp only; omega)
    omega
  · omega
/-- 'newarray int' -/
theorem kw_newI {n : Nat} {x : Int32} (hd : kt_dc i pc (.newarray .int) 2 pc' ∧ Cond.arrayClass .int ∈ kt_GW) (hkn : kt_kn N = (6, n)) (hx : ¬ x < 0 ∧ x.toNatClampNeg = n ∧ n ≤ 10000) (hN : N < NM)
    (kk : KW P i NM pc' L (.ref (kt_z P + N) :: st) (N + 1) (kt_rw I (kt_z P + N) (fun _ => 0)) J R Q) : KW P i NM pc L (.int x :: st) N I J R Q := by
  obtain ⟨⟨hd, rfl⟩, hw⟩ := hd
  obtain ⟨hx1, hx2, hx3⟩ := hx
  intro p e Rm s m args below meth c N0 H locs ls Z F h0 h1 hl hP hS K
  have hsn : kt_SS (N + 1) = kt_SS N + n := kt_sz_arr hkn (by omega)
  have hm1 := kt_SS_mono (a := N + 1) (b := NM) hN
  have hm2 := kt_SS_mono h0
  have hro := F.2.2.2.2.2.2
  refine va_newa (atype := .int) F.1.1 F.1.2.1 (F.2.1 _ hw) (ty := .int) rfl F.2.2.1.1 hP (kt_wD P N I J R) hS (fun q hq => by have h8 := F.2.2.2.2.2.1; show kt_z P ≤ q; omega) (N' := n) (a0 := (n, .inl (fun _ => 0))) (fun cA => rfl) hx1 hx2 (by show n * 4 ≤ _; omega) (by omega) (by omega) hd ?_
  intro q cA H1 hK1 hP1 hD1 hS1
  refine kt_wsz fun hsz => ?_
  have hz := F.2.2.2.2.2.1
  have hq := kt_new_q hP1 hD1 (by omega)
  subst hq
  have hcA : cA = kt_c P 0 := by
    have g1 := (hK1.2 4 (cA, .int) rfl).2
    have g2 := (F.2.2.1.1.2 0 (kt_c P 0, .int) rfl).2
    exact Option.some.inj (g1.symm.trans g2)
  subst hcA
  rw [kt_ws_push P (N := N) (I := I) (J := J) (R := R) (I' := kt_rw I (kt_z P + N) (fun _ => 0)) (J' := J) (R' := R) (by rw [hkn]; simp [kt_ce, kt_rw]) (fun q hq => ⟨kt_rw_ne I _ hq, rfl, rfl⟩)] at hP1
  have K1 := kk p e Rm s m args below meth c N0 H1 locs ls Z F (by omega) (by omega) hl hP1 hS1 K
  rw [show N + 1 - N0 = N - N0 + 1 by omega, show kt_SS (N + 1) - kt_SS N0 = kt_SS N - kt_SS N0 + n by omega] at K1
  exact K1
/-- 'newarray long' -/
theorem kw_newJ {n : Nat} {x : Int32} (hd : kt_dc i pc (.newarray .long) 2 pc' ∧ Cond.arrayClass .long ∈ kt_GW) (hkn : kt_kn N = (7, n)) (hx : ¬ x < 0 ∧ x.toNatClampNeg = n ∧ n ≤ 10000) (hN : N < NM)
    (kk : KW P i NM pc' L (.ref (kt_z P + N) :: st) (N + 1) I (kt_rw J (kt_z P + N) (fun _ => 0)) R Q) : KW P i NM pc L (.int x :: st) N I J R Q := by
  obtain ⟨⟨hd, rfl⟩, hw⟩ := hd
  obtain ⟨hx1, hx2, hx3⟩ := hx
  intro p e Rm s m args below meth c N0 H locs ls Z F h0 h1 hl hP hS K
  have hsn : kt_SS (N + 1) = kt_SS N + n := kt_sz_arr hkn (by omega)
  have hm1 := kt_SS_mono (a := N + 1) (b := NM) hN
  have hm2 := kt_SS_mono h0
  have hro := F.2.2.2.2.2.2
  refine va_newa (atype := .long) F.1.1 F.1.2.1 (F.2.1 _ hw) (ty := .long) rfl F.2.2.1.1 hP (kt_wD P N I J R) hS (fun q hq => by have h8 := F.2.2.2.2.2.1; show kt_z P ≤ q; omega) (N' := n) (a0 := (n, .inr (.inl (fun _ => 0)))) (fun cA => rfl) hx1 hx2 (by show n * 8 ≤ _; omega) (by omega) (by omega) hd ?_
  intro q cA H1 hK1 hP1 hD1 hS1
  refine kt_wsz fun hsz => ?_
  have hz := F.2.2.2.2.2.1
  have hq := kt_new_q hP1 hD1 (by omega)
  subst hq
  have hcA : cA = kt_c P 1 := by
    have g1 := (hK1.2 4 (cA, .long) rfl).2
    have g2 := (F.2.2.1.1.2 1 (kt_c P 1, .long) rfl).2
    exact Option.some.inj (g1.symm.trans g2)
  subst hcA
  rw [kt_ws_push P (N := N) (I := I) (J := J) (R := R) (I' := I) (J' := kt_rw J (kt_z P + N) (fun _ => 0)) (R' := R) (by rw [hkn]; simp [kt_ce, kt_rw]) (fun q hq => ⟨rfl, kt_rw_ne J _ hq, rfl⟩)] at hP1
  have K1 := kk p e Rm s m args below meth c N0 H1 locs ls Z F (by omega) (by omega) hl hP1 hS1 K
  rw [show N + 1 - N0 = N - N0 + 1 by omega, show kt_SS (N + 1) - kt_SS N0 = kt_SS N - kt_SS N0 + n by omega] at K1
  exact K1
/-- 'newarray boolean' -/
theorem kw_newZ {n : Nat} {x : Int32} (hd : kt_dc i pc (.newarray .boolean) 2 pc' ∧ Cond.arrayClass .boolean ∈ kt_GW) (hkn : kt_kn N = (8, n)) (hx : ¬ x < 0 ∧ x.toNatClampNeg = n ∧ n ≤ 10000) (hN : N < NM)
    (kk : KW P i NM pc' L (.ref (kt_z P + N) :: st) (N + 1) (kt_rw I (kt_z P + N) (fun _ => 0)) J R Q) : KW P i NM pc L (.int x :: st) N I J R Q := by
  obtain ⟨⟨hd, rfl⟩, hw⟩ := hd
  obtain ⟨hx1, hx2, hx3⟩ := hx
  intro p e Rm s m args below meth c N0 H locs ls Z F h0 h1 hl hP hS K
  have hsn : kt_SS (N + 1) = kt_SS N + n := kt_sz_arr hkn (by omega)
  have hm1 := kt_SS_mono (a := N + 1) (b := NM) hN
  have hm2 := kt_SS_mono h0
  have hro := F.2.2.2.2.2.2
  refine va_newa (atype := .boolean) F.1.1 F.1.2.1 (F.2.1 _ hw) (ty := .boolean) rfl F.2.2.1.1 hP (kt_wD P N I J R) hS (fun q hq => by have h8 := F.2.2.2.2.2.1; show kt_z P ≤ q; omega) (N' := n) (a0 := (n, .inl (fun _ => 0))) (fun cA => rfl) hx1 hx2 (by show n * 1 ≤ _; omega) (by omega) (by omega) hd ?_
  intro q cA H1 hK1 hP1 hD1 hS1
  refine kt_wsz fun hsz => ?_
  have hz := F.2.2.2.2.2.1
  have hq := kt_new_q hP1 hD1 (by omega)
  subst hq
  have hcA : cA = kt_c P 2 := by
    have g1 := (hK1.2 4 (cA, .boolean) rfl).2
    have g2 := (F.2.2.1.1.2 2 (kt_c P 2, .boolean) rfl).2
    exact Option.some.inj (g1.symm.trans g2)
  subst hcA
  rw [kt_ws_push P (N := N) (I := I) (J := J) (R := R) (I' := kt_rw I (kt_z P + N) (fun _ => 0)) (J' := J) (R' := R) (by rw [hkn]; simp [kt_ce, kt_rw]) (fun q hq => ⟨kt_rw_ne I _ hq, rfl, rfl⟩)] at hP1
  have K1 := kk p e Rm s m args below meth c N0 H1 locs ls Z F (by omega) (by omega) hl hP1 hS1 K
  rw [show N + 1 - N0 = N - N0 + 1 by omega, show kt_SS (N + 1) - kt_SS N0 = kt_SS N - kt_SS N0 + n by omega] at K1
  exact K1
/-- 'anewarray' of countries -/
theorem kw_newQ {n idx : Nat} {x : Int32} (hd : kt_dc i pc (.anewarray idx) 3 pc' ∧ Cond.classLink (kt_ow i) idx RX0 ∈ kt_GW) (hkn : kt_kn N = (9, n)) (hx : ¬ x < 0 ∧ x.toNatClampNeg = n ∧ n ≤ 10000) (hN : N < NM)
    (kk : KW P i NM pc' L (.ref (kt_z P + N) :: st) (N + 1) I J (kt_rw R (kt_z P + N) (fun _ => none)) Q) : KW P i NM pc L (.int x :: st) N I J R Q := by
  obtain ⟨⟨hd, rfl⟩, hw⟩ := hd
  obtain ⟨hx1, hx2, hx3⟩ := hx
  intro p e Rm s m args below meth c N0 H locs ls Z F h0 h1 hl hP hS K
  have hsn : kt_SS (N + 1) = kt_SS N + n := kt_sz_arr hkn (by omega)
  have hm1 := kt_SS_mono (a := N + 1) (b := NM) hN
  have hm2 := kt_SS_mono h0
  have hro := F.2.2.2.2.2.2
  refine va_newq F.1.1 F.1.2.1 F.1.2.2.2.1 (F.2.1 _ hw) F.2.2.1.2.2 F.2.2.1.1 hP (kt_wD P N I J R) hS (fun q hq => by have h8 := F.2.2.2.2.2.1; show kt_z P ≤ q; omega) (N' := n) hx1 hx2 (by omega) (by omega) (by omega) hd ?_
  intro q cA H1 hK1 hP1 hD1 hS1
  refine kt_wsz fun hsz => ?_
  have hz := F.2.2.2.2.2.1
  have hq := kt_new_q hP1 hD1 (by omega)
  subst hq
  have hcA : cA = kt_c P 3 := by
    obtain ⟨_, _, _, _, _, g1⟩ := (hK1.2 4 (cA, .object RX0) rfl).2
    obtain ⟨_, _, _, _, _, g2⟩ := (F.2.2.1.1.2 3 (kt_c P 3, .object RX0) rfl).2
    exact Option.some.inj (g1.symm.trans g2)
  subst hcA
  rw [kt_ws_push P (N := N) (I := I) (J := J) (R := R) (I' := I) (J' := J) (R' := kt_rw R (kt_z P + N) (fun _ => none)) (by rw [hkn]; simp [kt_ce, kt_rw]) (fun q hq => ⟨rfl, rfl, kt_rw_ne R _ hq⟩)] at hP1
  have K1 := kk p e Rm s m args below meth c N0 H1 locs ls Z F (by omega) (by omega) hl hP1 hS1 K
  rw [show N + 1 - N0 = N - N0 + 1 by omega, show kt_SS (N + 1) - kt_SS N0 = kt_SS N - kt_SS N0 + n by omega] at K1
  exact K1
/-- 'new' -/
theorem kt_fl_new {a : Nat} (h1 : ∀ j, I' a j = 0) (h2 : ∀ j, J' a j = 0) (h3 : ∀ j, R' a j = none) : ∀ (ts : List Nat) (j : Nat), kt_fl I' J' R' a ts j = ts.map kt_dv
  | [], _ => rfl
  | t :: r, j => by
    unfold kt_fl
    rw [kt_fl_new h1 h2 h3 r (j + 1), List.map_cons]
    congr 1
    unfold kt_fv kt_dv
    rw [h1, h2, h3]
    rfl
theorem kw_new {ci idx : Nat} (hd : kt_dc i pc (.new idx) 3 pc' ∧ ∃ (C : String) (T : u_T) (Nf : Nat), vwCl[ci]? = some (C, T, Nf) ∧ Cond.classLink (kt_ow i) idx C ∈ kt_GW ∧ Cond.instantiable C Nf ∈ kt_GW ∧ Cond.initialized C ∈ kt_GW) (hci : ci < 6) (hkn : kt_kn N = (ci, 0)) (hN : N < NM)
    (kk : KW P i NM pc' L (.ref (kt_z P + N) :: st) (N + 1) (kt_rw I (kt_z P + N) (fun _ => 0)) (kt_rw J (kt_z P + N) (fun _ => 0)) (kt_rw R (kt_z P + N) (fun _ => none)) Q) : KW P i NM pc L st N I J R Q := by
  obtain ⟨⟨hd, rfl⟩, C, T, Nf, hq, hw1, hw2, hw3⟩ := hd
  intro p e Rm s m args below meth c N0 H locs ls Z F h0 h1 hl hP hS K
  obtain ⟨ty0, hty0, hdv, hNf⟩ := kt_cy hq
  have hsn : kt_SS (N + 1) = kt_SS N + Nf := by rw [kt_sz_obj hkn hci, hNf]
  have hm1 := kt_SS_mono (a := N + 1) (b := NM) hN
  have hm2 := kt_SS_mono h0
  have hro := F.2.2.2.2.2.2
  refine va_new F.1.1 F.1.2.1 F.2.1 (kt_cw hq) ty0 hty0 F.1.2.2.2.1 (F.2.1 _ hw1) (F.2.1 _ hw2) (F.2.1 _ hw3) F.2.2.1.1 hP (kt_wD P N I J R) hS (fun q hq => by have h8 := F.2.2.2.2.2.1; show kt_z P ≤ q; omega) hq (fs := (kt_ft ci).map kt_dv) hdv (by omega) (by omega) hd ?_
  intro q H1 hP1 hD1 hS1
  refine kt_wsz fun hsz => ?_
  have hz := F.2.2.2.2.2.1
  have hq := kt_new_q hP1 hD1 (by omega)
  subst hq
  rw [kt_ws_push P (N := N) (I := I) (J := J) (R := R) (I' := kt_rw I (kt_z P + N) (fun _ => 0)) (J' := kt_rw J (kt_z P + N) (fun _ => 0)) (R' := kt_rw R (kt_z P + N) (fun _ => none)) (by
    rw [hkn, ← kt_fl_new (I' := kt_rw I (kt_z P + N) (fun _ => 0)) (J' := kt_rw J (kt_z P + N) (fun _ => 0)) (R' := kt_rw R (kt_z P + N) (fun _ => none)) (a := kt_z P + N) (fun j => by simp [kt_rw]) (fun j => by simp [kt_rw]) (fun j => by simp [kt_rw]) (kt_ft ci) 0]
    simp [kt_ce, hci]) (fun q hq => ⟨kt_rw_ne I _ hq, kt_rw_ne J _ hq, kt_rw_ne R _ hq⟩)] at hP1
  have K1 := kk p e Rm s m args below meth c N0 H1 locs ls Z F (by omega) (by omega) hl hP1 hS1 K
  rw [show N + 1 - N0 = N - N0 + 1 by omega, show kt_SS (N + 1) - kt_SS N0 = kt_SS N - kt_SS N0 + Nf by omega] at K1
  exact K1
/-- Object.<init> -/
theorem kw_objinit {a idx : Nat} (hd : kt_dc i pc (.invokespecial idx) 3 pc' ∧ Cond.methodLink (kt_ow i) idx Lib.objectInit ∈ kt_GW) (hr : 1 ≤ kt_fr i ∧ 40 ≤ kt_lo i) (hst : (st.map fun v => v.category).sum ≤ 8) (kk : KW P i NM pc' L st N I J R Q) : KW P i NM pc L (.ref a :: st) N I J R Q := by
  obtain ⟨⟨hd, rfl⟩, hw⟩ := hd
  intro p e Rm s m args below meth c N0 H locs ls Z F h0 h1 hl hP hS K
  have hro := F.2.2.2.2.2.2
  refine W.objInit F.1.1 F.1.2.1 F.1.2.2.2.1 (F.2.1 _ hw) (F.2.1 _ kt_oi1) (F.2.1 _ kt_oi2) (g := F0 m pc ls (.ref a :: st)) rfl (by rw [F.1.2.2.1]; exact hl.1.1) rfl hd (by omega) (by show 2 * 0 + _ + 12 ≤ _; omega) ?_
  exact kk p e Rm s m args below meth c N0 H locs ls Z F h0 h1 hl hP hS K
theorem kt_nfw : nativeFrameWords "java/lang/System" "arraycopy" 5 = 7 := by decide
/-! System.arraycopy -/
def kt_cpw (i pc pc' : Nat) : Prop := ∃ idx, kt_dc i pc (.invokestatic idx) 3 pc' ∧ Cond.methodLink (kt_ow i) idx arraycopyName ∈ kt_GW ∧ 1 ≤ kt_fr i ∧ 40 ≤ kt_lo i
theorem kw_cpi {a b n0 n1 : Nat} {sp dp n : Int32} (hd : kt_cpw i pc pc') (h1 : kt_kd P N a = (6, n0)) (h2 : kt_kd P N b = (6, n1)) (hr : ¬ sp < 0 ∧ ¬ dp < 0 ∧ ¬ n < 0 ∧ sp.toNatClampNeg + n.toNatClampNeg ≤ n0 ∧ dp.toNatClampNeg + n.toNatClampNeg ≤ n1)
    (kk : KW P i NM pc' L [] N (kt_rw I b (va_cpy (I a) (I b) sp.toNatClampNeg dp.toNatClampNeg n.toNatClampNeg)) J R Q) : KW P i NM pc L [.int n, .int dp, .ref b, .int sp, .ref a] N I J R Q := by
  obtain ⟨idx, ⟨hd, rfl⟩, hw, hr1, hr2⟩ := hd
  obtain ⟨g1, g2, g3, g4, g5⟩ := hr
  intro p e Rm s m args below meth c N0 H locs ls Z F h0 h1' hl hP hS K
  have hro := F.2.2.2.2.2.2
  obtain ⟨k0, -, -, hrow⟩ := kt_row P I J R h1 (by omega)
  obtain ⟨k1, -, -, hrow1⟩ := kt_row P I J R h2 (by omega)
  have hset : (kt_ws P N I J R).set k1 (b, .inl (kt_c P 0, n1, .inl (va_cpy (I a) (I b) sp.toNatClampNeg dp.toNatClampNeg n.toNatClampNeg))) = kt_ws P N (kt_rw I b (va_cpy (I a) (I b) sp.toNatClampNeg dp.toNatClampNeg n.toNatClampNeg)) J R :=
    kt_ws_set P hrow1 h2 (by omega) (by simp [kt_ce, kt_rw]) (fun q t n hq => kt_ce_cong (kt_rw_ne I _ hq) rfl rfl t n)
  exact va_copyi F.1.1 F.1.2.1 (F.1.2.2.1.trans hl.1.1.symm) F.1.2.2.2.1 (F.2.1 _ hw) (F.2.1 _ kt_ac1) (F.2.1 _ kt_ac2) (F.2.1 _ kt_ac3) F.2.2.1.1 hP (kt_wD P N I J R) hS k0 k1 0 0 (f := I a) (g := I b) (by rw [hrow]; simp [kt_ce]) (by rw [hrow1]; simp [kt_ce]) rfl rfl rfl g1 g2 g3 g4 g5 (fun _ _ => rfl) (by omega) (by show 0 + (nativeFrameWords "java/lang/System" "arraycopy" 5 + 11) ≤ _; rw [kt_nfw]; omega) hd
    (fun H1 locs1 hP1 _ hS1 => kk p e Rm s m args below meth c N0 H1 locs1 ls Z F h0 h1' hl (hset ▸ hP1) hS1 K)
theorem kw_cpl {a b n0 n1 : Nat} {sp dp n : Int32} (hd : kt_cpw i pc pc') (h1 : kt_kd P N a = (7, n0)) (h2 : kt_kd P N b = (7, n1)) (hr : ¬ sp < 0 ∧ ¬ dp < 0 ∧ ¬ n < 0 ∧ sp.toNatClampNeg + n.toNatClampNeg ≤ n0 ∧ dp.toNatClampNeg + n.toNatClampNeg ≤ n1)
    (kk : KW P i NM pc' L [] N I (kt_rw J b (va_cpy (J a) (J b) sp.toNatClampNeg dp.toNatClampNeg n.toNatClampNeg)) R Q) : KW P i NM pc L [.int n, .int dp, .ref b, .int sp, .ref a] N I J R Q := by
  obtain ⟨idx, ⟨hd, rfl⟩, hw, hr1, hr2⟩ := hd
  obtain ⟨g1, g2, g3, g4, g5⟩ := hr
  intro p e Rm s m args below meth c N0 H locs ls Z F h0 h1' hl hP hS K
  have hro := F.2.2.2.2.2.2
  obtain ⟨k0, -, -, hrow⟩ := kt_row P I J R h1 (by omega)
  obtain ⟨k1, -, -, hrow1⟩ := kt_row P I J R h2 (by omega)
  have hset : (kt_ws P N I J R).set k1 (b, .inl (kt_c P 1, n1, .inr (.inl (va_cpy (J a) (J b) sp.toNatClampNeg dp.toNatClampNeg n.toNatClampNeg)))) = kt_ws P N I (kt_rw J b (va_cpy (J a) (J b) sp.toNatClampNeg dp.toNatClampNeg n.toNatClampNeg)) R :=
    kt_ws_set P hrow1 h2 (by omega) (by simp [kt_ce, kt_rw]) (fun q t n hq => kt_ce_cong rfl (kt_rw_ne J _ hq) rfl t n)
  exact va_copyl F.1.1 F.1.2.1 (F.1.2.2.1.trans hl.1.1.symm) F.1.2.2.2.1 (F.2.1 _ hw) (F.2.1 _ kt_ac1) (F.2.1 _ kt_ac2) (F.2.1 _ kt_ac3) F.2.2.1.1 hP (kt_wD P N I J R) hS k0 k1 1 1 (f := J a) (g := J b) (by rw [hrow]; simp [kt_ce]) (by rw [hrow1]; simp [kt_ce]) rfl rfl rfl g1 g2 g3 g4 g5 (fun _ _ => rfl) (by omega) (by show 0 + (nativeFrameWords "java/lang/System" "arraycopy" 5 + 11) ≤ _; rw [kt_nfw]; omega) hd
    (fun H1 locs1 hP1 _ hS1 => kk p e Rm s m args below meth c N0 H1 locs1 ls Z F h0 h1' hl (hset ▸ hP1) hS1 K)
/-! returns -/
theorem kw_iret {x : Int32} (hd : kt_dc i pc .ireturn 1 pc' ∧ kt_rt i = some .int) (hq : Q (some (.int x)) I J R) : KW P i N pc L [.int x] N I J R Q := by
  obtain ⟨⟨hd, rfl⟩, hr⟩ := hd
  exact fun p e Rm s m args below meth c N0 H locs ls Z F h0 h1 hl hP hS K => K _ I J R H locs ls pc hq ⟨hd, .int, hr, rfl⟩ hP hS
theorem kw_zret {x : Int32} (hd : kt_dc i pc .ireturn 1 pc' ∧ kt_rt i = some .boolean) (hx : x = 0 ∨ x = 1) (hq : Q (some (.int x)) I J R) : KW P i N pc L [.int x] N I J R Q := by
  obtain ⟨⟨hd, rfl⟩, hr⟩ := hd
  exact fun p e Rm s m args below meth c N0 H locs ls Z F h0 h1 hl hP hS K => K _ I J R H locs ls pc hq ⟨hd, .boolean, hr, by rcases hx with rfl | rfl <;> rfl⟩ hP hS
theorem kw_lret {x : Int64} (hd : kt_dc i pc .lreturn 1 pc' ∧ kt_rt i = some .long) (hq : Q (some (.long x)) I J R) : KW P i N pc L [.long x] N I J R Q := by
  obtain ⟨⟨hd, rfl⟩, hr⟩ := hd
  exact fun p e Rm s m args below meth c N0 H locs ls Z F h0 h1 hl hP hS K => K _ I J R H locs ls pc hq ⟨hd, hr⟩ hP hS
theorem kw_vret (hd : kt_dc i pc .return_ 1 pc' ∧ kt_rt i = none) (hq : Q none I J R) : KW P i N pc L [] N I J R Q := by
  obtain ⟨⟨hd, rfl⟩, hr⟩ := hd
  exact fun p e Rm s m args below meth c N0 H locs ls Z F h0 h1 hl hP hS K => K _ I J R H locs ls pc hq ⟨hd, hr⟩ hP hS
/-! calls -/
def kt_pre (P : kt_P) (N : Nat) (I : kt_I) (J : kt_J) (R : kt_R) (U : State) : Prop := kt_ST P U ∧ va_X (kt_b P) (kt_L P) (kt_x P) U U.heap ∧ kt_b P < kt_z P ∧ U.heap.size = kt_z P + N ∧ va_P (kt_D P) vwCl (kt_ws P N I J R) U.heap
def kt_Qc (P : kt_P) (NM : Nat) (Q : Option Value → kt_I → kt_J → kt_R → Prop) : Array Value → State → Outcome → State → Prop := fun _ st o t => (∃ (v : Option Value) (I' : kt_I) (J' : kt_J) (R' : kt_R), o = .returned v ∧ Q v I' J' R' ∧ va_P (kt_D P) vwCl (kt_ws P NM I' J' R') t.heap) ∧ va_F (kt_A P) st t
def kt_wo (j : Nat) : List Cond := Cond.code (kt_nm j) (kt_by j) (kt_mx j) (kt_rt j) :: kt_GW
theorem kt_retM {p : Program} {l : Launch} {e : Env} {Rm : Room} {s : State} {m : MethodId} {args : Array Value} {below : List Frame} {meth : Method} {c : Code} {H : Heap} {locs : List Loc} {ce sl : Nat} {ls : Array Slot} {v : Option Value} {Qc : Array Value → State → Outcome → State → Prop} {free : Addr → Prop}
    (hx : p.tables.exec = Jvm.exec) (hb : c.code = kt_by i) (hr : meth.sig.returnType = kt_rt i) (hlocks : meth.locks = false) (hk : kt_rk i v pc) (hq : ∀ t : State, t.heap = H → s.WarmedH t.vm → Qc args s (.returned v) t) (hf : ∀ q ∈ locs, free q.base) :
    W p l e Rm s m args below meth c H locs ce sl (MQ below Qc args s ce sl free) (F0 m pc ls v.toList) := by
  cases v with
  | none => exact W.vret hx hb (hr.trans hk.2) hq hf hk.1 hlocks
  | some v =>
    cases v with
    | int x =>
      obtain ⟨hd, ty, h1, h2⟩ := hk
      exact W.zret hx hb (hr.trans h1) h2 hq hf hd hlocks
    | long x => exact W.lret hx hb (hr.trans hk.2) hq hf hk.1 hlocks
    | _ => exact absurd hk (by simp [kt_rk])
theorem kt_met {j : Nat} {As : List Value} (hpl : plainName (kt_nm j).cls = true) (hel : (kt_el As).length ≤ kt_mx j) (hN : N ≤ NM) (hk : KW P j NM 0 (kt_en (kt_mx j) As) [] N I J R Q) :
    Met (kt_l P) (kt_nm j) (kt_wo j) ({ frames := kt_fr j, cells := NM - N, slots := kt_SS NM - kt_SS N, locals := kt_lo j }) (va_Pc As (kt_pre P N I J R)) (kt_Qc P NM Q) (NM - N) (kt_SS NM - kt_SS N) (kt_A P) := by
  refine Met.ofW (cc := kt_by j) (maxL := kt_mx j) (ret := kt_rt j) hpl rfl ?_
  intro p e s m args below meth c s₁ B hml hv
  obtain ⟨rfl, hST, hX, hbz, hsz, hP⟩ := hv
  have hts := atoms_spec (ws := kt_wo j) B.pre
  have hown : s.vm.findClass (kt_ow j) = some m.cls := findClass_of_methodNamed B.named
  have hnm := (name_of_methodNamed B.named B.method).1
  rw [lg_entry_eq]
  have hl := kt_LH.entry (vs := As) (n := kt_mx j) hel
  generalize ((lg_sl As ++ List.replicate (kt_mx j - (lg_sl As).length) Slot.unset).toArray) = ls at hl ⊢
  have F : kt_FC P j NM N p (headSpec (kt_wo j) ({ frames := kt_fr j, cells := NM - N, slots := kt_SS NM - kt_SS N, locals := kt_lo j })).room s m As.toArray meth c :=
    ⟨⟨B.exec, B.bytes, hml, hown, B.returns, B.notSynchronized, fun h => hnm.trans h⟩, fun w hw => hts w (List.mem_cons_of_mem _ hw), hST, hX, hbz, hsz, Nat.le_refl _, Nat.le_refl _, Nat.le_refl _, Nat.le_refl _⟩
  have K := hk p e _ s m As.toArray below meth c N s.heap [] ls (MQ below (kt_Qc P NM Q) As.toArray s (NM - N) (kt_SS NM - kt_SS N) (kt_A P)) F (Nat.le_refl N) hN hl hP va_S.rf
    (fun v I' J' R' H' locs' ls' pc' hq hrk hP' hS' => kt_retM B.exec B.bytes B.returns B.notSynchronized hrk (fun t ht hW => ⟨⟨v, I', J', R', rfl, hq, by rw [ht]; exact hP'⟩, hS'.F ht⟩) hS'.2.2)
  rw [Nat.sub_self, Nat.sub_self] at K
  exact K
def kt_pu (v : Option Value) (r : List Value) : List Value := match v with
  | none => r
  | some x => x :: r
theorem kt_pu_eq (v : Option Value) (r : List Value) : v.toList ++ r = kt_pu v r := by cases v <;> rfl
theorem kt_back {p : Program} {l : Launch} {e : Env} {Rm : Room} {s : State} {m : MethodId} {args : Array Value} {below : List Frame} {meth : Method} {c : Code} {H : Heap} {locs : List Loc} {ce sl mc ms N' : Nat} {ls : Array Slot} {Z : State → Prop} {st0 rest : List Value} {a : Array Value} {Q' : Option Value → kt_I → kt_J → kt_R → Prop}
    (hr : va_Run p l e Rm s m args below meth c H locs ce sl mc ms (F0 m pc ls st0) rest (kt_Qc P N' Q' a) (kt_A P)) (hS : va_S (kt_A P) s.heap H locs)
    (kk : ∀ (v : Option Value) (I' : kt_I) (J' : kt_J) (R' : kt_R) (H1 : Heap) (locs1 : List Loc), Q' v I' J' R' → va_P (kt_D P) vwCl (kt_ws P N' I' J' R') H1 → va_S (kt_A P) s.heap H1 locs1 → W p l e Rm s m args below meth c H1 locs1 (ce + mc) (sl + ms) Z (F0 m (pc + 3) ls (kt_pu v rest))) :
    W p l e Rm s m args below meth c H locs ce sl Z (F0 m pc ls st0) := by
  intro T hT X
  obtain ⟨v, st₀, t, T', L, h0, X', hL, e1, e2, ⟨⟨v', I', J', R', hv, hq, hP⟩, hz, hk⟩, st⟩ := hr T hT X
  cases hv
  rw [h0] at hz hk
  obtain ⟨t2, a1, b1⟩ := kk v I' J' R' T'.heap (locs ++ L) hq (by rw [e1]; exact hP)
    ⟨Nat.le_trans hS.1 (by rw [e1]; exact hz), fun q h1 h2 => by rw [e1, hk q (Nat.lt_of_lt_of_le h1 hS.1) h2]; exact hS.2.1 q h1 h2, fun q hq => by
      rcases List.mem_append.mp hq with h | h
      · exact hS.2.2 q h
      · exact hL q h⟩ T' rfl X'
  rw [← kt_pu_eq] at a1
  exact ⟨t2, st t2 a1, b1⟩
theorem kt_blind {As : List Value} : FrameBlind (va_Pc As (kt_pre P N I J R)) := by
  intro a U g mk h
  obtain ⟨h1, h2, h3, h4, h5, h6⟩ := h
  exact ⟨h1, kt_ST.same (u := U) (U := U.calling g mk a) rfl h2, va_X.moved (u := U) (U := U.calling g mk a) (Vm.Alike.refl U.vm) h3, h4, h5, h6⟩
theorem kt_GG (j : Nat) (h : Cond.code (kt_nm j) (kt_by j) (kt_mx j) (kt_rt j) ∈ kt_GW) : GoodIn kt_GW (kt_wo j) := by
  intro w hw
  rcases List.mem_cons.mp hw with rfl | hw
  · exact ⟨h, kt_good h⟩
  · exact ⟨hw, kt_good hw⟩
/-- what is known of a method that is called: its code, its class, how many arguments -/
def kt_JO (j n : Nat) : Prop := Cond.code (kt_nm j) (kt_by j) (kt_mx j) (kt_rt j) ∈ kt_GW ∧ Cond.initialized (kt_nm j).cls ∈ kt_GW ∧ plainName (kt_nm j).cls = true ∧ ((kt_nm j).cls ≠ "java/lang/invoke/MethodHandle" ∧ (kt_nm j).cls ≠ "java/lang/invoke/VarHandle" ∧ (parseMethodDescriptor (kt_nm j).desc).map (fun d => d.parameters.length) = some n)
def kt_ml (own : String) (idx j : Nat) : Prop := Cond.methodLink own idx (kt_nm j) ∈ kt_GW ∨ ∃ host, Cond.methodLinkNest own idx (kt_nm j) host ∈ kt_NW
def kt_rr (i j : Nat) : Bool := decide (kt_fr j + 1 ≤ kt_fr i ∧ 8 + (kt_mx j + 11) + kt_lo j ≤ kt_lo i)
theorem kt_cb {Rm : Room} {s : State} {args : Array Value} {own : String} {idx j n mc ms : Nat} (hts : ∀ w ∈ kt_GW, w.before args s = true) (hJ : kt_JO j n) (hl : Cond.methodLink own idx (kt_nm j) ∈ kt_GW) (hR : kt_fr j + 1 ≤ Rm.frames ∧ 8 + (kt_mx j + 11) + kt_lo j ≤ Rm.locals) :
    CallB Rm s args own idx (kt_nm j) (kt_by j) (kt_mx j) (kt_rt j) (kt_wo j) ({ frames := kt_fr j, cells := mc, slots := ms, locals := kt_lo j }) mc ms n :=
  callB_of n hts (kt_GG j hJ.1) rfl rfl rfl (hts _ hJ.2.1) (hts _ hl) hJ.2.2.2 hR
theorem kt_cn {Rm : Room} {s : State} {args : Array Value} {own host : String} {idx j n mc ms : Nat} (hts : ∀ w ∈ kt_GW, w.before args s = true) (hnw : ∀ w ∈ kt_NW, va_Nw w s) (hJ : kt_JO j n) (hl : Cond.methodLinkNest own idx (kt_nm j) host ∈ kt_NW) (hR : kt_fr j + 1 ≤ Rm.frames ∧ 8 + (kt_mx j + 11) + kt_lo j ≤ Rm.locals) :
    va_CN Rm s args own idx (kt_nm j) host (kt_by j) (kt_mx j) (kt_rt j) (kt_wo j) ({ frames := kt_fr j, cells := mc, slots := ms, locals := kt_lo j }) mc ms n :=
  va_cnB n hts (kt_GG j hJ.1) rfl rfl rfl (hnw _ hl) (hts _ hJ.2.1) hJ.2.2.2 hR
/-- an instance method of an object of the world -/
def kt_sV (i pc j ci n pc' : Nat) : Prop := ∃ idx, kt_dc i pc (.invokevirtual idx) 3 pc' ∧ kt_ml (kt_ow i) idx j ∧ kt_JO j n ∧ (Cond.instanceMethod (kt_nm j) ∈ kt_GW ∧ Cond.selects (kt_nm j).cls (kt_nm j) (kt_nm j) ∈ kt_GW) ∧ (∃ (T : u_T) (Nf : Nat), vwCl[ci]? = some ((kt_nm j).cls, T, Nf)) ∧ ci < 6 ∧ kt_rr i j = true
def kt_sS (i pc j n pc' : Nat) : Prop := ∃ idx, kt_dc i pc (.invokestatic idx) 3 pc' ∧ kt_ml (kt_ow i) idx j ∧ kt_JO j n ∧ Cond.static (kt_nm j) ∈ kt_GW ∧ kt_rr i j = true
def kt_sI (i pc j n pc' : Nat) : Prop := ∃ idx, kt_dc i pc (.invokespecial idx) 3 pc' ∧ kt_ml (kt_ow i) idx j ∧ kt_JO j n ∧ Cond.instanceMethod (kt_nm j) ∈ kt_GW ∧ (kt_nm j).name = "<init>" ∧ kt_rt j = none ∧ kt_rr i j = true
theorem kw_callV {j ci n b N' : Nat} {As rest : List Value} (hs : kt_sV i pc j ci n pc') (hn : As.length = n) (hst : st = As.reverse ++ .ref b :: rest) (hel : (kt_el (.ref b :: As)).length ≤ kt_mx j) (hrest : (rest.map fun v => v.category).sum ≤ 8) (hkd : (kt_kd P N b).1 = ci) (hN1 : N ≤ N') (hN2 : N ≤ NM → N' ≤ NM)
    (kk : KW P j N' 0 (kt_en (kt_mx j) (.ref b :: As)) [] N I J R (fun v I' J' R' => KW P i NM pc' L (kt_pu v rest) N' I' J' R' Q)) : KW P i NM pc L st N I J R Q := by
  obtain ⟨idx, ⟨hd, rfl⟩, hml, hJ, ⟨hw1, hw2⟩, ⟨T, Nf, hcl⟩, hci, hrr⟩ := hs
  subst hst
  have hrr := of_decide_eq_true hrr
  intro p e Rm s m args below meth c N0 H locs ls Z F h0 h1 hl hP hS K
  refine kt_size hP hS F.2.2.2.2.2.1 h0 fun hsize => ?_
  have hro := F.2.2.2.2.2.2
  have hm1 := kt_SS_mono (hN2 h1)
  have hm2 := kt_SS_mono h0
  have hm3 := kt_SS_mono hN1
  have hN3 := hN2 h1
  have hM := kt_met hJ.2.2.1 hel hN1 kk
  have hkd1 : kt_kd P N b = (ci, (kt_kd P N b).2) := by rw [← hkd]
  obtain ⟨k0, -, -, hrow⟩ := kt_row P I J R hkd1 (by omega)
  have hcell := va_recv F.2.2.1.1 hP hcl (q0 := k0) (a := b) (fs := kt_fl I J R b (kt_ft ci) 0) (by rw [hrow]; simp [kt_ce, hci])
  have hpre : PreV s H (kt_nm j).cls b (va_Pc (.ref b :: As) (kt_pre P N I J R)) As :=
    ⟨kt_blind, hcell, fun U hU hW => ⟨rfl, kt_ST.warm hW F.2.2.1, va_X.kept (va_X.moved hW.alike F.2.2.2.1) (by rw [hU]; exact hS.2.1 _ (by have := F.2.2.2.2.2.1; have := F.2.2.2.2.1; omega) (kt_bA P F.2.2.2.2.1)), F.2.2.2.2.1, by rw [hU]; exact hsize, by rw [hU]; exact hP⟩⟩
  have hR : kt_fr j + 1 ≤ Rm.frames ∧ 8 + (kt_mx j + 11) + kt_lo j ≤ Rm.locals := by omega
  have hCF : CallFix p m c (kt_by i) (kt_mx i) s args kt_GW (kt_ow i) := ⟨F.1.1, F.1.2.1, F.1.2.2.1, F.1.2.2.2.1, F.2.1⟩
  have hgo : ∀ (v : Option Value) (I' : kt_I) (J' : kt_J) (R' : kt_R) (H1 : Heap) (locs1 : List Loc), KW P i NM (pc + 3) L (kt_pu v rest) N' I' J' R' Q → va_P (kt_D P) vwCl (kt_ws P N' I' J' R') H1 → va_S (kt_A P) s.heap H1 locs1 → W p (kt_l P) e Rm s m args below meth c H1 locs1 (N - N0 + (N' - N)) (kt_SS N - kt_SS N0 + (kt_SS N' - kt_SS N)) Z (F0 m (pc + 3) ls (kt_pu v rest)) := by
    intro v I' J' R' H1 locs1 k1 hP1 hS1
    have K1 := k1 p e Rm s m args below meth c N0 H1 locs1 ls Z F (by omega) hN3 hl hP1 hS1 K
    rw [show N - N0 + (N' - N) = N' - N0 by omega, show kt_SS N - kt_SS N0 + (kt_SS N' - kt_SS N) = kt_SS N' - kt_SS N0 by omega]
    exact K1
  rcases hml with hlk | ⟨host, hlk⟩
  · exact kt_back (va_runV hCF hM ⟨kt_cb F.2.1 hJ hlk hR, F.2.1 _ hw1, F.2.1 _ hw2⟩ hpre rfl hn hl.1.1 rfl (lv_room hrest) hd ⟨by omega, by omega⟩) hS hgo
  · exact kt_back (va_runVN hCF hM ⟨kt_cn F.2.1 F.2.2.1.2.1 hJ hlk hR, F.2.1 _ hw1, F.2.1 _ hw2⟩ hpre rfl hn hl.1.1 rfl (lv_room hrest) hd ⟨by omega, by omega⟩) hS hgo
theorem kw_callS {j n N' : Nat} {As rest : List Value} (hs : kt_sS i pc j n pc') (hn : As.length = n) (hst : st = As.reverse ++ rest) (hel : (kt_el As).length ≤ kt_mx j) (hrest : (rest.map fun v => v.category).sum ≤ 8) (hN1 : N ≤ N') (hN2 : N ≤ NM → N' ≤ NM)
    (kk : KW P j N' 0 (kt_en (kt_mx j) As) [] N I J R (fun v I' J' R' => KW P i NM pc' L (kt_pu v rest) N' I' J' R' Q)) : KW P i NM pc L st N I J R Q := by
  obtain ⟨idx, ⟨hd, rfl⟩, hml, hJ, hw1, hrr⟩ := hs
  subst hst
  have hrr := of_decide_eq_true hrr
  intro p e Rm s m args below meth c N0 H locs ls Z F h0 h1 hl hP hS K
  refine kt_size hP hS F.2.2.2.2.2.1 h0 fun hsize => ?_
  have hro := F.2.2.2.2.2.2
  have hm1 := kt_SS_mono (hN2 h1)
  have hm2 := kt_SS_mono h0
  have hm3 := kt_SS_mono hN1
  have hN3 := hN2 h1
  have hM := kt_met hJ.2.2.1 hel hN1 kk
  have hpre : PreS s H (va_Pc As (kt_pre P N I J R)) As :=
    ⟨kt_blind, fun U hU hW => ⟨rfl, kt_ST.warm hW F.2.2.1, va_X.kept (va_X.moved hW.alike F.2.2.2.1) (by rw [hU]; exact hS.2.1 _ (by have := F.2.2.2.2.2.1; have := F.2.2.2.2.1; omega) (kt_bA P F.2.2.2.2.1)), F.2.2.2.2.1, by rw [hU]; exact hsize, by rw [hU]; exact hP⟩⟩
  have hR : kt_fr j + 1 ≤ Rm.frames ∧ 8 + (kt_mx j + 11) + kt_lo j ≤ Rm.locals := by omega
  have hCF : CallFix p m c (kt_by i) (kt_mx i) s args kt_GW (kt_ow i) := ⟨F.1.1, F.1.2.1, F.1.2.2.1, F.1.2.2.2.1, F.2.1⟩
  have hgo : ∀ (v : Option Value) (I' : kt_I) (J' : kt_J) (R' : kt_R) (H1 : Heap) (locs1 : List Loc), KW P i NM (pc + 3) L (kt_pu v rest) N' I' J' R' Q → va_P (kt_D P) vwCl (kt_ws P N' I' J' R') H1 → va_S (kt_A P) s.heap H1 locs1 → W p (kt_l P) e Rm s m args below meth c H1 locs1 (N - N0 + (N' - N)) (kt_SS N - kt_SS N0 + (kt_SS N' - kt_SS N)) Z (F0 m (pc + 3) ls (kt_pu v rest)) := by
    intro v I' J' R' H1 locs1 k1 hP1 hS1
    have K1 := k1 p e Rm s m args below meth c N0 H1 locs1 ls Z F (by omega) hN3 hl hP1 hS1 K
    rw [show N - N0 + (N' - N) = N' - N0 by omega, show kt_SS N - kt_SS N0 + (kt_SS N' - kt_SS N) = kt_SS N' - kt_SS N0 by omega]
    exact K1
  rcases hml with hlk | ⟨host, hlk⟩
  · exact kt_back (va_runS hCF hM ⟨kt_cb F.2.1 hJ hlk hR, F.2.1 _ hw1⟩ hpre rfl hn hl.1.1 rfl (lv_room hrest) hd ⟨by omega, by omega⟩) hS hgo
  · exact kt_back (va_runSN hCF hM ⟨kt_cn F.2.1 F.2.2.1.2.1 hJ hlk hR, F.2.1 _ hw1, trivial⟩ hpre rfl hn hl.1.1 rfl (lv_room hrest) hd ⟨by omega, by omega⟩) hS hgo
theorem kw_callI {j n b N' : Nat} {As rest : List Value} (hs : kt_sI i pc j n pc') (hn : As.length = n) (hst : st = As.reverse ++ .ref b :: rest) (hel : (kt_el (.ref b :: As)).length ≤ kt_mx j) (hrest : (rest.map fun v => v.category).sum ≤ 8) (hN1 : N ≤ N') (hN2 : N ≤ NM → N' ≤ NM)
    (kk : KW P j N' 0 (kt_en (kt_mx j) (.ref b :: As)) [] N I J R (fun v I' J' R' => KW P i NM pc' L (kt_pu v rest) N' I' J' R' Q)) : KW P i NM pc L st N I J R Q := by
  obtain ⟨idx, ⟨hd, rfl⟩, hml, hJ, hw1, hini, hret, hrr⟩ := hs
  subst hst
  have hrr := of_decide_eq_true hrr
  intro p e Rm s m args below meth c N0 H locs ls Z F h0 h1 hl hP hS K
  refine kt_size hP hS F.2.2.2.2.2.1 h0 fun hsize => ?_
  have hro := F.2.2.2.2.2.2
  have hm1 := kt_SS_mono (hN2 h1)
  have hm2 := kt_SS_mono h0
  have hm3 := kt_SS_mono hN1
  have hN3 := hN2 h1
  have hM := kt_met hJ.2.2.1 hel hN1 kk
  have hpre : PreS s H (va_Pc (.ref b :: As) (kt_pre P N I J R)) (.ref b :: As) :=
    ⟨kt_blind, fun U hU hW => ⟨rfl, kt_ST.warm hW F.2.2.1, va_X.kept (va_X.moved hW.alike F.2.2.2.1) (by rw [hU]; exact hS.2.1 _ (by have := F.2.2.2.2.2.1; have := F.2.2.2.2.1; omega) (kt_bA P F.2.2.2.2.1)), F.2.2.2.2.1, by rw [hU]; exact hsize, by rw [hU]; exact hP⟩⟩
  have hR : kt_fr j + 1 ≤ Rm.frames ∧ 8 + (kt_mx j + 11) + kt_lo j ≤ Rm.locals := by omega
  have hCF : CallFix p m c (kt_by i) (kt_mx i) s args kt_GW (kt_ow i) := ⟨F.1.1, F.1.2.1, F.1.2.2.1, F.1.2.2.2.1, F.2.1⟩
  have hgo : ∀ (v : Option Value) (I' : kt_I) (J' : kt_J) (R' : kt_R) (H1 : Heap) (locs1 : List Loc), KW P i NM (pc + 3) L (kt_pu v rest) N' I' J' R' Q → va_P (kt_D P) vwCl (kt_ws P N' I' J' R') H1 → va_S (kt_A P) s.heap H1 locs1 → W p (kt_l P) e Rm s m args below meth c H1 locs1 (N - N0 + (N' - N)) (kt_SS N - kt_SS N0 + (kt_SS N' - kt_SS N)) Z (F0 m (pc + 3) ls (kt_pu v rest)) := by
    intro v I' J' R' H1 locs1 k1 hP1 hS1
    have K1 := k1 p e Rm s m args below meth c N0 H1 locs1 ls Z F (by omega) hN3 hl hP1 hS1 K
    rw [show N - N0 + (N' - N) = N' - N0 by omega, show kt_SS N - kt_SS N0 + (kt_SS N' - kt_SS N) = kt_SS N' - kt_SS N0 by omega]
    exact K1
  rcases hml with hlk | ⟨host, hlk⟩
  · have hcb := kt_cb (mc := N' - N) (ms := kt_SS N' - kt_SS N) (Rm := Rm) (s := s) (args := args) F.2.1 hJ hlk hR
    rw [hret] at hcb
    exact kt_back (va_runI hCF hM ⟨hcb, hini, F.2.1 _ hw1⟩ hpre rfl hn hl.1.1 rfl (lv_room hrest) hd ⟨by omega, by omega⟩) hS hgo
  · have hcb := kt_cn (mc := N' - N) (ms := kt_SS N' - kt_SS N) (Rm := Rm) (s := s) (args := args) F.2.1 F.2.2.1.2.1 hJ hlk hR
    rw [hret] at hcb
    exact kt_back (va_runIN hCF hM ⟨hcb, hini, F.2.1 _ hw1⟩ hpre rfl hn hl.1.1 rfl (lv_room hrest) hd ⟨by omega, by omega⟩) hS hgo
end KC
end
section
theorem kt_q0 {w : Cond} (k : Nat) (h : tables_1_1[k]? = some w) : w ∈ lw_tbl := by
  have h1 := List.mem_of_getElem? h
  exact List.mem_append_right _ (List.mem_append_left _ h1)
theorem kt_q0g {w : Cond} (k : Nat) (h : tables_1_1[k]? = some w) (hg : goodWord w = true) : w ∈ kt_GW := List.mem_filter.mpr ⟨kt_q0 k h, hg⟩
theorem kt_q0n {w : Cond} (k : Nat) (h : tables_1_1[k]? = some w) (hg : kt_nw w = true) : w ∈ kt_NW := List.mem_filter.mpr ⟨kt_q0 k h, hg⟩
theorem kt_q1 {w : Cond} (k : Nat) (h : tables_1_2[k]? = some w) : w ∈ lw_tbl := by
  have h1 := List.mem_of_getElem? h
  exact List.mem_append_right _ (List.mem_append_right _ (List.mem_append_left _ h1))
theorem kt_q1g {w : Cond} (k : Nat) (h : tables_1_2[k]? = some w) (hg : goodWord w = true) : w ∈ kt_GW := List.mem_filter.mpr ⟨kt_q1 k h, hg⟩
theorem kt_q1n {w : Cond} (k : Nat) (h : tables_1_2[k]? = some w) (hg : kt_nw w = true) : w ∈ kt_NW := List.mem_filter.mpr ⟨kt_q1 k h, hg⟩
theorem kt_q2 {w : Cond} (k : Nat) (h : tables_1_3[k]? = some w) : w ∈ lw_tbl := by
  have h1 := List.mem_of_getElem? h
  exact List.mem_append_right _ (List.mem_append_right _ (List.mem_append_right _ (List.mem_append_left _ h1)))
theorem kt_q2g {w : Cond} (k : Nat) (h : tables_1_3[k]? = some w) (hg : goodWord w = true) : w ∈ kt_GW := List.mem_filter.mpr ⟨kt_q2 k h, hg⟩
theorem kt_q2n {w : Cond} (k : Nat) (h : tables_1_3[k]? = some w) (hg : kt_nw w = true) : w ∈ kt_NW := List.mem_filter.mpr ⟨kt_q2 k h, hg⟩
theorem kt_q3 {w : Cond} (k : Nat) (h : tables_1_4[k]? = some w) : w ∈ lw_tbl := by
  have h1 := List.mem_of_getElem? h
  exact List.mem_append_right _ (List.mem_append_right _ (List.mem_append_right _ (List.mem_append_right _ (h1))))
theorem kt_q3g {w : Cond} (k : Nat) (h : tables_1_4[k]? = some w) (hg : goodWord w = true) : w ∈ kt_GW := List.mem_filter.mpr ⟨kt_q3 k h, hg⟩
theorem kt_q3n {w : Cond} (k : Nat) (h : tables_1_4[k]? = some w) (hg : kt_nw w = true) : w ∈ kt_NW := List.mem_filter.mpr ⟨kt_q3 k h, hg⟩
theorem tw_0 : (Jvm.Cond.initialized "KinderTownsLaw") ∈ kt_GW := kt_q0g 0 rfl rfl
theorem tw_1 : (Jvm.Cond.initialized "KinderTowns") ∈ kt_GW := kt_q0g 1 rfl rfl
theorem tw_2 : (Jvm.Cond.initialized "KinderTowns$Looking") ∈ kt_GW := kt_q0g 2 rfl rfl
theorem tw_3 : (Jvm.Cond.initialized "KinderTowns$Script") ∈ kt_GW := kt_q0g 3 rfl rfl
theorem tw_4 : (Jvm.Cond.initialized "KinderTowns$Country") ∈ kt_GW := kt_q0g 4 rfl rfl
theorem tw_5 : (Jvm.Cond.initialized "KinderTowns$Events") ∈ kt_GW := kt_q0g 5 rfl rfl
theorem tw_6 : (Jvm.Cond.initialized "KinderTownsModel") ∈ kt_GW := kt_q0g 6 rfl rfl
theorem tw_7 : (Jvm.Cond.initialized "java/lang/System") ∈ kt_GW := kt_q0g 7 rfl rfl
theorem tw_8 : (Jvm.Cond.initialized "java/util/Arrays") ∈ kt_GW := kt_q0g 8 rfl rfl
theorem tw_9 : (Jvm.Cond.initialized "java/lang/Long") ∈ kt_GW := kt_q0g 9 rfl rfl
theorem tw_10 : (Jvm.Cond.initialized "java/lang/Math") ∈ kt_GW := kt_q0g 10 rfl rfl
theorem tw_11 : (Jvm.Cond.classLink "KinderTownsLaw" (7 : Nat) "KinderTowns") ∈ kt_GW := kt_q0g 11 rfl rfl
theorem tw_12 : (Jvm.Cond.instantiable "KinderTowns" (6 : Nat)) ∈ kt_GW := kt_q0g 12 rfl rfl
theorem tw_13 : (Jvm.Cond.methodLink "KinderTownsLaw" (9 : Nat) ({ cls := "KinderTowns", name := "<init>", desc := "()V" } : Jvm.MethodName)) ∈ kt_GW := kt_q0g 13 rfl rfl
theorem tw_14 : (Jvm.Cond.instanceMethod ({ cls := "KinderTowns", name := "<init>", desc := "()V" } : Jvm.MethodName)) ∈ kt_GW := kt_q0g 14 rfl rfl
theorem tw_15 : (Jvm.Cond.code ({ cls := "KinderTowns", name := "<init>", desc := "()V" } : Jvm.MethodName) prog_1_method_1_code (2 : Nat) (Option.none : Option Jvm.ClassFile.FieldType)) ∈ kt_GW := kt_q0g 15 rfl rfl
theorem tw_16 : (Jvm.Cond.methodLink "KinderTowns" (3 : Nat) ({ cls := "java/lang/Object", name := "<init>", desc := "()V" } : Jvm.MethodName)) ∈ kt_GW := kt_q0g 16 rfl rfl
theorem tw_17 : (Jvm.Cond.instanceMethod ({ cls := "java/lang/Object", name := "<init>", desc := "()V" } : Jvm.MethodName)) ∈ kt_GW := kt_q0g 17 rfl rfl
theorem tw_18 : (Jvm.Cond.code ({ cls := "java/lang/Object", name := "<init>", desc := "()V" } : Jvm.MethodName) object_method_1_code (1 : Nat) (Option.none : Option Jvm.ClassFile.FieldType)) ∈ kt_GW := kt_q0g 18 rfl rfl
theorem tw_19 : (Jvm.Cond.classLink "KinderTowns" (9 : Nat) "KinderTowns$Country") ∈ kt_GW := kt_q0g 19 rfl rfl
theorem tw_21 : (Jvm.Cond.classLink "KinderTowns" (15 : Nat) "KinderTowns$Looking") ∈ kt_GW := kt_q0g 21 rfl rfl
theorem tw_22 : (Jvm.Cond.instantiable "KinderTowns$Looking" (6 : Nat)) ∈ kt_GW := kt_q0g 22 rfl rfl
theorem tw_23 : (Jvm.Cond.methodLinkNest "KinderTowns" (17 : Nat) ({ cls := "KinderTowns$Looking", name := "<init>", desc := "()V" } : Jvm.MethodName) "KinderTowns") ∈ kt_NW := kt_q0n 23 rfl rfl
theorem tw_24 : (Jvm.Cond.instanceMethod ({ cls := "KinderTowns$Looking", name := "<init>", desc := "()V" } : Jvm.MethodName)) ∈ kt_GW := kt_q0g 24 rfl rfl
theorem tw_25 : (Jvm.Cond.code ({ cls := "KinderTowns$Looking", name := "<init>", desc := "()V" } : Jvm.MethodName) prog_4_method_1_code (1 : Nat) (Option.none : Option Jvm.ClassFile.FieldType)) ∈ kt_GW := kt_q0g 25 rfl rfl
theorem tw_26 : (Jvm.Cond.methodLink "KinderTowns$Looking" (3 : Nat) ({ cls := "java/lang/Object", name := "<init>", desc := "()V" } : Jvm.MethodName)) ∈ kt_GW := kt_q0g 26 rfl rfl
theorem tw_27 : (Jvm.Cond.fieldLink "KinderTowns$Looking" (9 : Nat) "KinderTowns$Looking" "row" "[I") ∈ kt_GW := kt_q0g 27 rfl rfl
theorem tw_28 : (Jvm.Cond.fieldLinkNest "KinderTowns" (167 : Nat) "KinderTowns$Looking" "row" "[I" "KinderTowns") ∈ kt_NW := kt_q0n 28 rfl rfl
theorem tw_29 : (Jvm.Cond.fieldLink "KinderTowns$Looking" (45 : Nat) "KinderTowns$Looking" "length" "I") ∈ kt_GW := kt_q0g 29 rfl rfl
theorem tw_30 : (Jvm.Cond.fieldLinkNest "KinderTowns" (164 : Nat) "KinderTowns$Looking" "length" "I" "KinderTowns") ∈ kt_NW := kt_q0n 30 rfl rfl
theorem tw_31 : (Jvm.Cond.fieldLink "KinderTowns$Looking" (63 : Nat) "KinderTowns$Looking" "left" "I") ∈ kt_GW := kt_q0g 31 rfl rfl
theorem tw_32 : (Jvm.Cond.fieldLink "KinderTowns$Looking" (15 : Nat) "KinderTowns$Looking" "given" "[I") ∈ kt_GW := kt_q0g 32 rfl rfl
theorem tw_33 : (Jvm.Cond.fieldLink "KinderTowns$Looking" (18 : Nat) "KinderTowns$Looking" "accepted" "J") ∈ kt_GW := kt_q0g 33 rfl rfl
theorem tw_34 : (Jvm.Cond.fieldLinkNest "KinderTowns$Country" (126 : Nat) "KinderTowns$Looking" "accepted" "J" "KinderTowns") ∈ kt_NW := kt_q0n 34 rfl rfl
theorem tw_35 : (Jvm.Cond.fieldLinkNest "KinderTowns" (211 : Nat) "KinderTowns$Looking" "accepted" "J" "KinderTowns") ∈ kt_NW := kt_q0n 35 rfl rfl
theorem tw_36 : (Jvm.Cond.fieldLink "KinderTowns$Looking" (22 : Nat) "KinderTowns$Looking" "refused" "J") ∈ kt_GW := kt_q0g 36 rfl rfl
theorem tw_37 : (Jvm.Cond.fieldLinkNest "KinderTowns$Country" (123 : Nat) "KinderTowns$Looking" "refused" "J" "KinderTowns") ∈ kt_NW := kt_q0n 37 rfl rfl
theorem tw_51 : (Jvm.Cond.arrayClass Jvm.ClassFile.FieldType.int) ∈ kt_GW := kt_q0g 51 rfl rfl
theorem tw_52 : (Jvm.Cond.classLink "KinderTowns" (22 : Nat) "KinderTowns$Script") ∈ kt_GW := kt_q0g 52 rfl rfl
theorem tw_53 : (Jvm.Cond.instantiable "KinderTowns$Script" (6 : Nat)) ∈ kt_GW := kt_q0g 53 rfl rfl
theorem tw_54 : (Jvm.Cond.methodLinkNest "KinderTowns" (24 : Nat) ({ cls := "KinderTowns$Script", name := "<init>", desc := "()V" } : Jvm.MethodName) "KinderTowns") ∈ kt_NW := kt_q0n 54 rfl rfl
theorem tw_55 : (Jvm.Cond.instanceMethod ({ cls := "KinderTowns$Script", name := "<init>", desc := "()V" } : Jvm.MethodName)) ∈ kt_GW := kt_q0g 55 rfl rfl
theorem tw_56 : (Jvm.Cond.code ({ cls := "KinderTowns$Script", name := "<init>", desc := "()V" } : Jvm.MethodName) prog_5_method_1_code (1 : Nat) (Option.none : Option Jvm.ClassFile.FieldType)) ∈ kt_GW := kt_q0g 56 rfl rfl
theorem tw_57 : (Jvm.Cond.methodLink "KinderTowns$Script" (3 : Nat) ({ cls := "java/lang/Object", name := "<init>", desc := "()V" } : Jvm.MethodName)) ∈ kt_GW := kt_q0g 57 rfl rfl
theorem tw_58 : (Jvm.Cond.fieldLink "KinderTowns$Script" (9 : Nat) "KinderTowns$Script" "signs" "[I") ∈ kt_GW := kt_q0g 58 rfl rfl
theorem tw_59 : (Jvm.Cond.fieldLinkNest "KinderTowns" (220 : Nat) "KinderTowns$Script" "signs" "[I" "KinderTowns") ∈ kt_NW := kt_q0n 59 rfl rfl
theorem tw_60 : (Jvm.Cond.fieldLink "KinderTowns$Script" (28 : Nat) "KinderTowns$Script" "length" "I") ∈ kt_GW := kt_q0g 60 rfl rfl
theorem tw_61 : (Jvm.Cond.fieldLinkNest "KinderTowns" (193 : Nat) "KinderTowns$Script" "length" "I" "KinderTowns") ∈ kt_NW := kt_q0n 61 rfl rfl
theorem tw_62 : (Jvm.Cond.fieldLink "KinderTowns$Script" (15 : Nat) "KinderTowns$Script" "numbers" "[I") ∈ kt_GW := kt_q0g 62 rfl rfl
theorem tw_63 : (Jvm.Cond.fieldLink "KinderTowns$Script" (18 : Nat) "KinderTowns$Script" "commands" "I") ∈ kt_GW := kt_q0g 63 rfl rfl
theorem tw_64 : (Jvm.Cond.fieldLinkNest "KinderTowns" (232 : Nat) "KinderTowns$Script" "commands" "I" "KinderTowns") ∈ kt_NW := kt_q0n 64 rfl rfl
theorem tw_65 : (Jvm.Cond.fieldLink "KinderTowns$Script" (22 : Nat) "KinderTowns$Script" "place" "I") ∈ kt_GW := kt_q0g 65 rfl rfl
theorem tw_66 : (Jvm.Cond.fieldLinkNest "KinderTowns" (229 : Nat) "KinderTowns$Script" "place" "I" "KinderTowns") ∈ kt_NW := kt_q0n 66 rfl rfl
theorem tw_67 : (Jvm.Cond.fieldLink "KinderTowns$Script" (25 : Nat) "KinderTowns$Script" "reason" "I") ∈ kt_GW := kt_q0g 67 rfl rfl
theorem tw_68 : (Jvm.Cond.fieldLinkNest "KinderTowns" (226 : Nat) "KinderTowns$Script" "reason" "I" "KinderTowns") ∈ kt_NW := kt_q0n 68 rfl rfl
theorem tw_82 : (Jvm.Cond.instantiable "KinderTowns$Country" (11 : Nat)) ∈ kt_GW := kt_q0g 82 rfl rfl
theorem tw_83 : (Jvm.Cond.methodLinkNest "KinderTowns" (29 : Nat) ({ cls := "KinderTowns$Country", name := "<init>", desc := "(LKinderTowns$Looking;)V" } : Jvm.MethodName) "KinderTowns") ∈ kt_NW := kt_q0n 83 rfl rfl
theorem tw_84 : (Jvm.Cond.instanceMethod ({ cls := "KinderTowns$Country", name := "<init>", desc := "(LKinderTowns$Looking;)V" } : Jvm.MethodName)) ∈ kt_GW := kt_q0g 84 rfl rfl
theorem tw_85 : (Jvm.Cond.code ({ cls := "KinderTowns$Country", name := "<init>", desc := "(LKinderTowns$Looking;)V" } : Jvm.MethodName) prog_2_method_1_code (2 : Nat) (Option.none : Option Jvm.ClassFile.FieldType)) ∈ kt_GW := kt_q0g 85 rfl rfl
theorem tw_86 : (Jvm.Cond.methodLink "KinderTowns$Country" (3 : Nat) ({ cls := "java/lang/Object", name := "<init>", desc := "()V" } : Jvm.MethodName)) ∈ kt_GW := kt_q0g 86 rfl rfl
theorem tw_87 : (Jvm.Cond.classLink "KinderTowns$Country" (9 : Nat) "KinderTowns$Events") ∈ kt_GW := kt_q0g 87 rfl rfl
theorem tw_88 : (Jvm.Cond.instantiable "KinderTowns$Events" (8 : Nat)) ∈ kt_GW := kt_q0g 88 rfl rfl
theorem tw_89 : (Jvm.Cond.methodLinkNest "KinderTowns$Country" (11 : Nat) ({ cls := "KinderTowns$Events", name := "<init>", desc := "()V" } : Jvm.MethodName) "KinderTowns") ∈ kt_NW := kt_q0n 89 rfl rfl
theorem tw_90 : (Jvm.Cond.instanceMethod ({ cls := "KinderTowns$Events", name := "<init>", desc := "()V" } : Jvm.MethodName)) ∈ kt_GW := kt_q0g 90 rfl rfl
theorem tw_91 : (Jvm.Cond.code ({ cls := "KinderTowns$Events", name := "<init>", desc := "()V" } : Jvm.MethodName) prog_3_method_1_code (1 : Nat) (Option.none : Option Jvm.ClassFile.FieldType)) ∈ kt_GW := kt_q0g 91 rfl rfl
theorem tw_92 : (Jvm.Cond.methodLink "KinderTowns$Events" (3 : Nat) ({ cls := "java/lang/Object", name := "<init>", desc := "()V" } : Jvm.MethodName)) ∈ kt_GW := kt_q0g 92 rfl rfl
theorem tw_93 : (Jvm.Cond.fieldLink "KinderTowns$Events" (33 : Nat) "KinderTowns$Events" "count" "I") ∈ kt_GW := kt_q0g 93 rfl rfl
theorem tw_94 : (Jvm.Cond.fieldLinkNest "KinderTowns$Looking" (66 : Nat) "KinderTowns$Events" "count" "I" "KinderTowns") ∈ kt_NW := kt_q0n 94 rfl rfl
theorem tw_95 : (Jvm.Cond.fieldLinkNest "KinderTowns$Country" (77 : Nat) "KinderTowns$Events" "count" "I" "KinderTowns") ∈ kt_NW := kt_q0n 95 rfl rfl
theorem tw_96 : (Jvm.Cond.fieldLinkNest "KinderTowns" (76 : Nat) "KinderTowns$Events" "count" "I" "KinderTowns") ∈ kt_NW := kt_q0n 96 rfl rfl
theorem tw_97 : (Jvm.Cond.fieldLink "KinderTowns$Events" (9 : Nat) "KinderTowns$Events" "kinds" "[I") ∈ kt_GW := kt_q0g 97 rfl rfl
theorem tw_98 : (Jvm.Cond.fieldLinkNest "KinderTowns$Looking" (76 : Nat) "KinderTowns$Events" "kinds" "[I" "KinderTowns") ∈ kt_NW := kt_q0n 98 rfl rfl
theorem tw_99 : (Jvm.Cond.fieldLinkNest "KinderTowns" (86 : Nat) "KinderTowns$Events" "kinds" "[I" "KinderTowns") ∈ kt_NW := kt_q0n 99 rfl rfl
theorem tw_100 : (Jvm.Cond.fieldLink "KinderTowns$Events" (15 : Nat) "KinderTowns$Events" "towns" "[I") ∈ kt_GW := kt_q0g 100 rfl rfl
theorem tw_101 : (Jvm.Cond.fieldLinkNest "KinderTowns$Looking" (85 : Nat) "KinderTowns$Events" "towns" "[I" "KinderTowns") ∈ kt_NW := kt_q0n 101 rfl rfl
theorem tw_102 : (Jvm.Cond.fieldLinkNest "KinderTowns" (90 : Nat) "KinderTowns$Events" "towns" "[I" "KinderTowns") ∈ kt_NW := kt_q0n 102 rfl rfl
theorem tw_103 : (Jvm.Cond.fieldLink "KinderTowns$Events" (18 : Nat) "KinderTowns$Events" "clocks" "[I") ∈ kt_GW := kt_q0g 103 rfl rfl
theorem tw_104 : (Jvm.Cond.fieldLinkNest "KinderTowns$Looking" (82 : Nat) "KinderTowns$Events" "clocks" "[I" "KinderTowns") ∈ kt_NW := kt_q0n 104 rfl rfl
theorem tw_105 : (Jvm.Cond.fieldLinkNest "KinderTowns" (93 : Nat) "KinderTowns$Events" "clocks" "[I" "KinderTowns") ∈ kt_NW := kt_q0n 105 rfl rfl
theorem tw_106 : (Jvm.Cond.fieldLink "KinderTowns$Events" (21 : Nat) "KinderTowns$Events" "goods" "[I") ∈ kt_GW := kt_q0g 106 rfl rfl
theorem tw_107 : (Jvm.Cond.fieldLinkNest "KinderTowns$Looking" (73 : Nat) "KinderTowns$Events" "goods" "[I" "KinderTowns") ∈ kt_NW := kt_q0n 107 rfl rfl
theorem tw_108 : (Jvm.Cond.fieldLinkNest "KinderTowns$Country" (91 : Nat) "KinderTowns$Events" "goods" "[I" "KinderTowns") ∈ kt_NW := kt_q0n 108 rfl rfl
theorem tw_109 : (Jvm.Cond.fieldLinkNest "KinderTowns" (96 : Nat) "KinderTowns$Events" "goods" "[I" "KinderTowns") ∈ kt_NW := kt_q0n 109 rfl rfl
theorem tw_110 : (Jvm.Cond.fieldLink "KinderTowns$Events" (24 : Nat) "KinderTowns$Events" "pieces" "[I") ∈ kt_GW := kt_q0g 110 rfl rfl
theorem tw_111 : (Jvm.Cond.fieldLinkNest "KinderTowns$Looking" (53 : Nat) "KinderTowns$Events" "pieces" "[I" "KinderTowns") ∈ kt_NW := kt_q0n 111 rfl rfl
theorem tw_112 : (Jvm.Cond.fieldLinkNest "KinderTowns$Country" (94 : Nat) "KinderTowns$Events" "pieces" "[I" "KinderTowns") ∈ kt_NW := kt_q0n 112 rfl rfl
theorem tw_113 : (Jvm.Cond.fieldLinkNest "KinderTowns" (99 : Nat) "KinderTowns$Events" "pieces" "[I" "KinderTowns") ∈ kt_NW := kt_q0n 113 rfl rfl
theorem tw_114 : (Jvm.Cond.fieldLink "KinderTowns$Events" (27 : Nat) "KinderTowns$Events" "persons" "[I") ∈ kt_GW := kt_q0g 114 rfl rfl
theorem tw_115 : (Jvm.Cond.fieldLinkNest "KinderTowns$Looking" (56 : Nat) "KinderTowns$Events" "persons" "[I" "KinderTowns") ∈ kt_NW := kt_q0n 115 rfl rfl
theorem tw_116 : (Jvm.Cond.fieldLinkNest "KinderTowns$Country" (74 : Nat) "KinderTowns$Events" "persons" "[I" "KinderTowns") ∈ kt_NW := kt_q0n 116 rfl rfl
theorem tw_117 : (Jvm.Cond.fieldLinkNest "KinderTowns" (102 : Nat) "KinderTowns$Events" "persons" "[I" "KinderTowns") ∈ kt_NW := kt_q0n 117 rfl rfl
theorem tw_118 : (Jvm.Cond.fieldLink "KinderTowns$Events" (30 : Nat) "KinderTowns$Events" "orders" "[I") ∈ kt_GW := kt_q0g 118 rfl rfl
theorem tw_119 : (Jvm.Cond.fieldLinkNest "KinderTowns$Country" (97 : Nat) "KinderTowns$Events" "orders" "[I" "KinderTowns") ∈ kt_NW := kt_q0n 119 rfl rfl
theorem tw_120 : (Jvm.Cond.fieldLinkNest "KinderTowns" (105 : Nat) "KinderTowns$Events" "orders" "[I" "KinderTowns") ∈ kt_NW := kt_q0n 120 rfl rfl
theorem tw_138 : (Jvm.Cond.fieldLink "KinderTowns$Country" (38 : Nat) "KinderTowns$Country" "looking" "LKinderTowns$Looking;") ∈ kt_GW := kt_q0g 138 rfl rfl
theorem tw_139 : (Jvm.Cond.fieldLink "KinderTowns$Country" (12 : Nat) "KinderTowns$Country" "events" "LKinderTowns$Events;") ∈ kt_GW := kt_q0g 139 rfl rfl
theorem tw_140 : (Jvm.Cond.fieldLinkNest "KinderTowns" (72 : Nat) "KinderTowns$Country" "events" "LKinderTowns$Events;" "KinderTowns") ∈ kt_NW := kt_q0n 140 rfl rfl
theorem tw_141 : (Jvm.Cond.fieldLink "KinderTowns$Country" (46 : Nat) "KinderTowns$Country" "towns" "I") ∈ kt_GW := kt_q0g 141 rfl rfl
theorem tw_142 : (Jvm.Cond.fieldLinkNest "KinderTowns" (177 : Nat) "KinderTowns$Country" "towns" "I" "KinderTowns") ∈ kt_NW := kt_q0n 142 rfl rfl
theorem tw_143 : (Jvm.Cond.fieldLink "KinderTowns$Country" (50 : Nat) "KinderTowns$Country" "rule" "I") ∈ kt_GW := kt_q0g 143 rfl rfl
theorem tw_144 : (Jvm.Cond.fieldLinkNest "KinderTowns" (157 : Nat) "KinderTowns$Country" "rule" "I" "KinderTowns") ∈ kt_NW := kt_q0n 144 rfl rfl
theorem tw_145 : (Jvm.Cond.fieldLink "KinderTowns$Country" (18 : Nat) "KinderTowns$Country" "clocks" "[I") ∈ kt_GW := kt_q0g 145 rfl rfl
theorem tw_146 : (Jvm.Cond.fieldLinkNest "KinderTowns" (133 : Nat) "KinderTowns$Country" "clocks" "[I" "KinderTowns") ∈ kt_NW := kt_q0n 146 rfl rfl
theorem tw_147 : (Jvm.Cond.fieldLink "KinderTowns$Country" (22 : Nat) "KinderTowns$Country" "known" "[J") ∈ kt_GW := kt_q0g 147 rfl rfl
theorem tw_148 : (Jvm.Cond.fieldLinkNest "KinderTowns" (108 : Nat) "KinderTowns$Country" "known" "[J" "KinderTowns") ∈ kt_NW := kt_q0n 148 rfl rfl
theorem tw_149 : (Jvm.Cond.fieldLink "KinderTowns$Country" (26 : Nat) "KinderTowns$Country" "accepted" "[J") ∈ kt_GW := kt_q0g 149 rfl rfl
theorem tw_150 : (Jvm.Cond.fieldLinkNest "KinderTowns" (127 : Nat) "KinderTowns$Country" "accepted" "[J" "KinderTowns") ∈ kt_NW := kt_q0n 150 rfl rfl
theorem tw_151 : (Jvm.Cond.fieldLink "KinderTowns$Country" (29 : Nat) "KinderTowns$Country" "refused" "[J") ∈ kt_GW := kt_q0g 151 rfl rfl
theorem tw_152 : (Jvm.Cond.fieldLinkNest "KinderTowns" (130 : Nat) "KinderTowns$Country" "refused" "[J" "KinderTowns") ∈ kt_NW := kt_q0n 152 rfl rfl
theorem tw_153 : (Jvm.Cond.fieldLink "KinderTowns$Country" (32 : Nat) "KinderTowns$Country" "apologised" "[J") ∈ kt_GW := kt_q0g 153 rfl rfl
theorem tw_154 : (Jvm.Cond.fieldLinkNest "KinderTowns" (116 : Nat) "KinderTowns$Country" "apologised" "[J" "KinderTowns") ∈ kt_NW := kt_q0n 154 rfl rfl
theorem tw_155 : (Jvm.Cond.fieldLink "KinderTowns$Country" (35 : Nat) "KinderTowns$Country" "thoughtOf" "[J") ∈ kt_GW := kt_q0g 155 rfl rfl
theorem tw_156 : (Jvm.Cond.fieldLink "KinderTowns$Country" (53 : Nat) "KinderTowns$Country" "thoughtBy" "I") ∈ kt_GW := kt_q0g 156 rfl rfl
theorem tw_180 : (Jvm.Cond.arrayClass Jvm.ClassFile.FieldType.long) ∈ kt_GW := kt_q0g 180 rfl rfl
theorem tw_181 : (Jvm.Cond.fieldLink "KinderTowns" (32 : Nat) "KinderTowns" "now" "LKinderTowns$Country;") ∈ kt_GW := kt_q0g 181 rfl rfl
theorem tw_182 : (Jvm.Cond.fieldLink "KinderTowns" (36 : Nat) "KinderTowns" "spare" "LKinderTowns$Country;") ∈ kt_GW := kt_q0g 182 rfl rfl
theorem tw_183 : (Jvm.Cond.fieldLink "KinderTowns" (11 : Nat) "KinderTowns" "history" "[LKinderTowns$Country;") ∈ kt_GW := kt_q0g 183 rfl rfl
theorem tw_184 : (Jvm.Cond.fieldLink "KinderTowns" (190 : Nat) "KinderTowns" "states" "I") ∈ kt_GW := kt_q0g 184 rfl rfl
theorem tw_185 : (Jvm.Cond.fieldLink "KinderTowns" (18 : Nat) "KinderTowns" "looking" "LKinderTowns$Looking;") ∈ kt_GW := kt_q0g 185 rfl rfl
theorem tw_186 : (Jvm.Cond.fieldLink "KinderTowns" (25 : Nat) "KinderTowns" "script" "LKinderTowns$Script;") ∈ kt_GW := kt_q0g 186 rfl rfl
theorem tw_200 : (Jvm.Cond.methodLink "KinderTownsLaw" (13 : Nat) ({ cls := "KinderTowns", name := "town", desc := "()I" } : Jvm.MethodName)) ∈ kt_GW := kt_q0g 200 rfl rfl
theorem tw_201 : (Jvm.Cond.instanceMethod ({ cls := "KinderTowns", name := "town", desc := "()I" } : Jvm.MethodName)) ∈ kt_GW := kt_q0g 201 rfl rfl
theorem tw_202 : (Jvm.Cond.selects "KinderTowns" ({ cls := "KinderTowns", name := "town", desc := "()I" } : Jvm.MethodName) ({ cls := "KinderTowns", name := "town", desc := "()I" } : Jvm.MethodName)) ∈ kt_GW := kt_q0g 202 rfl rfl
theorem tw_203 : (Jvm.Cond.code ({ cls := "KinderTowns", name := "town", desc := "()I" } : Jvm.MethodName) prog_1_method_2_code (1 : Nat) (Option.some Jvm.ClassFile.FieldType.int)) ∈ kt_GW := kt_q0g 203 rfl rfl
theorem tw_204 : (Jvm.Cond.methodLinkNest "KinderTowns" (39 : Nat) ({ cls := "KinderTowns$Country", name := "copyFrom", desc := "(LKinderTowns$Country;)V" } : Jvm.MethodName) "KinderTowns") ∈ kt_NW := kt_q0n 204 rfl rfl
theorem tw_206 : (Jvm.Cond.instanceMethod ({ cls := "KinderTowns$Country", name := "copyFrom", desc := "(LKinderTowns$Country;)V" } : Jvm.MethodName)) ∈ kt_GW := kt_q0g 206 rfl rfl
theorem tw_207 : (Jvm.Cond.code ({ cls := "KinderTowns$Country", name := "copyFrom", desc := "(LKinderTowns$Country;)V" } : Jvm.MethodName) prog_2_method_2_code (2 : Nat) (Option.none : Option Jvm.ClassFile.FieldType)) ∈ kt_GW := kt_q0g 207 rfl rfl
theorem tw_208 : (Jvm.Cond.methodLinkNest "KinderTowns$Country" (42 : Nat) ({ cls := "KinderTowns$Events", name := "copyFrom", desc := "(LKinderTowns$Events;)V" } : Jvm.MethodName) "KinderTowns") ∈ kt_NW := kt_q0n 208 rfl rfl
theorem tw_210 : (Jvm.Cond.instanceMethod ({ cls := "KinderTowns$Events", name := "copyFrom", desc := "(LKinderTowns$Events;)V" } : Jvm.MethodName)) ∈ kt_GW := kt_q0g 210 rfl rfl
theorem tw_211 : (Jvm.Cond.code ({ cls := "KinderTowns$Events", name := "copyFrom", desc := "(LKinderTowns$Events;)V" } : Jvm.MethodName) prog_3_method_2_code (2 : Nat) (Option.none : Option Jvm.ClassFile.FieldType)) ∈ kt_GW := kt_q0g 211 rfl rfl
theorem tw_212 : (Jvm.Cond.methodLink "KinderTowns$Events" (37 : Nat) ({ cls := "java/lang/System", name := "arraycopy", desc := "(Ljava/lang/Object;ILjava/lang/Object;II)V" } : Jvm.MethodName)) ∈ kt_GW := kt_q0g 212 rfl rfl
theorem tw_213 : (Jvm.Cond.static ({ cls := "java/lang/System", name := "arraycopy", desc := "(Ljava/lang/Object;ILjava/lang/Object;II)V" } : Jvm.MethodName)) ∈ kt_GW := kt_q0g 213 rfl rfl
theorem tw_214 : (Jvm.Cond.native ({ cls := "java/lang/System", name := "arraycopy", desc := "(Ljava/lang/Object;ILjava/lang/Object;II)V" } : Jvm.MethodName)) ∈ kt_GW := kt_q0g 214 rfl rfl
theorem tw_215 : (Jvm.Cond.methodLink "KinderTowns$Country" (56 : Nat) ({ cls := "java/lang/System", name := "arraycopy", desc := "(Ljava/lang/Object;ILjava/lang/Object;II)V" } : Jvm.MethodName)) ∈ kt_GW := kt_q0g 215 rfl rfl
theorem tw_216 : (Jvm.Cond.methodLinkNest "KinderTowns" (43 : Nat) ({ cls := "KinderTowns$Country", name := "addTown", desc := "()I" } : Jvm.MethodName) "KinderTowns") ∈ kt_NW := kt_q0n 216 rfl rfl
theorem tw_218 : (Jvm.Cond.instanceMethod ({ cls := "KinderTowns$Country", name := "addTown", desc := "()I" } : Jvm.MethodName)) ∈ kt_GW := kt_q0g 218 rfl rfl
theorem tw_219 : (Jvm.Cond.code ({ cls := "KinderTowns$Country", name := "addTown", desc := "()I" } : Jvm.MethodName) prog_2_method_4_code (1 : Nat) (Option.some Jvm.ClassFile.FieldType.int)) ∈ kt_GW := kt_q0g 219 rfl rfl
theorem tw_220 : (Jvm.Cond.methodLinkNest "KinderTowns$Country" (62 : Nat) ({ cls := "KinderTowns", name := "isBelow", desc := "(II)Z" } : Jvm.MethodName) "KinderTowns") ∈ kt_NW := kt_q0n 220 rfl rfl
theorem tw_221 : (Jvm.Cond.static ({ cls := "KinderTowns", name := "isBelow", desc := "(II)Z" } : Jvm.MethodName)) ∈ kt_GW := kt_q0g 221 rfl rfl
theorem tw_222 : (Jvm.Cond.code ({ cls := "KinderTowns", name := "isBelow", desc := "(II)Z" } : Jvm.MethodName) prog_1_method_26_code (2 : Nat) (Option.some Jvm.ClassFile.FieldType.boolean)) ∈ kt_GW := kt_q0g 222 rfl rfl
theorem tw_223 : (Jvm.Cond.methodLink "KinderTowns" (47 : Nat) ({ cls := "KinderTowns", name := "recorded", desc := "(I)I" } : Jvm.MethodName)) ∈ kt_GW := kt_q0g 223 rfl rfl
theorem tw_225 : (Jvm.Cond.instanceMethod ({ cls := "KinderTowns", name := "recorded", desc := "(I)I" } : Jvm.MethodName)) ∈ kt_GW := kt_q0g 225 rfl rfl
theorem tw_226 : (Jvm.Cond.code ({ cls := "KinderTowns", name := "recorded", desc := "(I)I" } : Jvm.MethodName) prog_1_method_28_code (2 : Nat) (Option.some Jvm.ClassFile.FieldType.int)) ∈ kt_GW := kt_q0g 226 rfl rfl
theorem tw_227 : (Jvm.Cond.methodLinkNest "KinderTowns" (194 : Nat) ({ cls := "KinderTowns$Country", name := "thinkAnew", desc := "()V" } : Jvm.MethodName) "KinderTowns") ∈ kt_NW := kt_q0n 227 rfl rfl
theorem tw_229 : (Jvm.Cond.instanceMethod ({ cls := "KinderTowns$Country", name := "thinkAnew", desc := "()V" } : Jvm.MethodName)) ∈ kt_GW := kt_q0g 229 rfl rfl
theorem tw_230 : (Jvm.Cond.code ({ cls := "KinderTowns$Country", name := "thinkAnew", desc := "()V" } : Jvm.MethodName) prog_2_method_12_code (2 : Nat) (Option.none : Option Jvm.ClassFile.FieldType)) ∈ kt_GW := kt_q0g 230 rfl rfl
theorem tw_231 : (Jvm.Cond.methodLinkNest "KinderTowns$Country" (117 : Nat) ({ cls := "KinderTowns$Looking", name := "lookAtAll", desc := "(LKinderTowns$Events;JI)V" } : Jvm.MethodName) "KinderTowns") ∈ kt_NW := kt_q0n 231 rfl rfl
theorem tw_233 : (Jvm.Cond.instanceMethod ({ cls := "KinderTowns$Looking", name := "lookAtAll", desc := "(LKinderTowns$Events;JI)V" } : Jvm.MethodName)) ∈ kt_GW := kt_q0g 233 rfl rfl
theorem tw_234 : (Jvm.Cond.code ({ cls := "KinderTowns$Looking", name := "lookAtAll", desc := "(LKinderTowns$Events;JI)V" } : Jvm.MethodName) prog_4_method_2_code (8 : Nat) (Option.none : Option Jvm.ClassFile.FieldType)) ∈ kt_GW := kt_q0g 234 rfl rfl
theorem tw_235 : (Jvm.Cond.methodLinkNest "KinderTowns$Looking" (25 : Nat) ({ cls := "KinderTowns$Events", name := "standingIn", desc := "(J)J" } : Jvm.MethodName) "KinderTowns") ∈ kt_NW := kt_q0n 235 rfl rfl
theorem tw_237 : (Jvm.Cond.instanceMethod ({ cls := "KinderTowns$Events", name := "standingIn", desc := "(J)J" } : Jvm.MethodName)) ∈ kt_GW := kt_q0g 237 rfl rfl
theorem tw_238 : (Jvm.Cond.code ({ cls := "KinderTowns$Events", name := "standingIn", desc := "(J)J" } : Jvm.MethodName) prog_3_method_8_code (3 : Nat) (Option.some Jvm.ClassFile.FieldType.long)) ∈ kt_GW := kt_q0g 238 rfl rfl
theorem tw_239 : (Jvm.Cond.methodLink "KinderTowns$Events" (51 : Nat) ({ cls := "KinderTowns$Events", name := "cancelledIn", desc := "(J)J" } : Jvm.MethodName)) ∈ kt_GW := kt_q0g 239 rfl rfl
theorem tw_241 : (Jvm.Cond.instanceMethod ({ cls := "KinderTowns$Events", name := "cancelledIn", desc := "(J)J" } : Jvm.MethodName)) ∈ kt_GW := kt_q1g 1 rfl rfl
theorem tw_242 : (Jvm.Cond.code ({ cls := "KinderTowns$Events", name := "cancelledIn", desc := "(J)J" } : Jvm.MethodName) prog_3_method_7_code (6 : Nat) (Option.some Jvm.ClassFile.FieldType.long)) ∈ kt_GW := kt_q1g 2 rfl rfl
theorem tw_243 : (Jvm.Cond.methodLinkNest "KinderTowns$Events" (47 : Nat) ({ cls := "KinderTowns", name := "has", desc := "(JI)Z" } : Jvm.MethodName) "KinderTowns") ∈ kt_NW := kt_q1n 3 rfl rfl
theorem tw_244 : (Jvm.Cond.static ({ cls := "KinderTowns", name := "has", desc := "(JI)Z" } : Jvm.MethodName)) ∈ kt_GW := kt_q1g 4 rfl rfl
theorem tw_245 : (Jvm.Cond.code ({ cls := "KinderTowns", name := "has", desc := "(JI)Z" } : Jvm.MethodName) prog_1_method_27_code (3 : Nat) (Option.some Jvm.ClassFile.FieldType.boolean)) ∈ kt_GW := kt_q1g 5 rfl rfl
theorem tw_246 : (Jvm.Cond.constantLong "KinderTowns$Events" (55 : Nat) (-1 : Int64)) ∈ kt_GW := kt_q1g 6 rfl rfl
theorem tw_247 : (Jvm.Cond.methodLink "KinderTowns$Looking" (31 : Nat) ({ cls := "KinderTowns$Looking", name := "lookAtGood", desc := "(LKinderTowns$Events;JII)V" } : Jvm.MethodName)) ∈ kt_GW := kt_q1g 7 rfl rfl
theorem tw_249 : (Jvm.Cond.instanceMethod ({ cls := "KinderTowns$Looking", name := "lookAtGood", desc := "(LKinderTowns$Events;JII)V" } : Jvm.MethodName)) ∈ kt_GW := kt_q1g 9 rfl rfl
theorem tw_250 : (Jvm.Cond.code ({ cls := "KinderTowns$Looking", name := "lookAtGood", desc := "(LKinderTowns$Events;JII)V" } : Jvm.MethodName) prog_4_method_3_code (9 : Nat) (Option.none : Option Jvm.ClassFile.FieldType)) ∈ kt_GW := kt_q1g 10 rfl rfl
theorem tw_251 : (Jvm.Cond.methodLink "KinderTowns$Looking" (35 : Nat) ({ cls := "KinderTowns$Looking", name := "gather", desc := "(LKinderTowns$Events;JI)V" } : Jvm.MethodName)) ∈ kt_GW := kt_q1g 11 rfl rfl
theorem tw_253 : (Jvm.Cond.instanceMethod ({ cls := "KinderTowns$Looking", name := "gather", desc := "(LKinderTowns$Events;JI)V" } : Jvm.MethodName)) ∈ kt_GW := kt_q1g 13 rfl rfl
theorem tw_254 : (Jvm.Cond.code ({ cls := "KinderTowns$Looking", name := "gather", desc := "(LKinderTowns$Events;JI)V" } : Jvm.MethodName) prog_4_method_4_code (6 : Nat) (Option.none : Option Jvm.ClassFile.FieldType)) ∈ kt_GW := kt_q1g 14 rfl rfl
theorem tw_255 : (Jvm.Cond.methodLinkNest "KinderTowns$Looking" (69 : Nat) ({ cls := "KinderTowns", name := "has", desc := "(JI)Z" } : Jvm.MethodName) "KinderTowns") ∈ kt_NW := kt_q1n 15 rfl rfl
theorem tw_256 : (Jvm.Cond.methodLink "KinderTowns$Looking" (39 : Nat) ({ cls := "java/util/Arrays", name := "fill", desc := "([II)V" } : Jvm.MethodName)) ∈ kt_GW := kt_q1g 16 rfl rfl
theorem tw_257 : (Jvm.Cond.static ({ cls := "java/util/Arrays", name := "fill", desc := "([II)V" } : Jvm.MethodName)) ∈ kt_GW := kt_q1g 17 rfl rfl
theorem tw_258 : (Jvm.Cond.code ({ cls := "java/util/Arrays", name := "fill", desc := "([II)V" } : Jvm.MethodName) prog_11_method_103_code (4 : Nat) (Option.none : Option Jvm.ClassFile.FieldType)) ∈ kt_GW := kt_q1g 18 rfl rfl
theorem tw_259 : (Jvm.Cond.methodLink "KinderTowns$Looking" (49 : Nat) ({ cls := "KinderTowns$Looking", name := "nextPlace", desc := "(LKinderTowns$Events;II)I" } : Jvm.MethodName)) ∈ kt_GW := kt_q1g 19 rfl rfl
theorem tw_261 : (Jvm.Cond.instanceMethod ({ cls := "KinderTowns$Looking", name := "nextPlace", desc := "(LKinderTowns$Events;II)I" } : Jvm.MethodName)) ∈ kt_GW := kt_q1g 21 rfl rfl
theorem tw_262 : (Jvm.Cond.code ({ cls := "KinderTowns$Looking", name := "nextPlace", desc := "(LKinderTowns$Events;II)I" } : Jvm.MethodName) prog_4_method_5_code (8 : Nat) (Option.some Jvm.ClassFile.FieldType.int)) ∈ kt_GW := kt_q1g 22 rfl rfl
theorem tw_263 : (Jvm.Cond.methodLink "KinderTowns$Looking" (79 : Nat) ({ cls := "KinderTowns$Looking", name := "weight", desc := "(LKinderTowns$Events;II)I" } : Jvm.MethodName)) ∈ kt_GW := kt_q1g 23 rfl rfl
theorem tw_265 : (Jvm.Cond.instanceMethod ({ cls := "KinderTowns$Looking", name := "weight", desc := "(LKinderTowns$Events;II)I" } : Jvm.MethodName)) ∈ kt_GW := kt_q1g 25 rfl rfl
theorem tw_266 : (Jvm.Cond.code ({ cls := "KinderTowns$Looking", name := "weight", desc := "(LKinderTowns$Events;II)I" } : Jvm.MethodName) prog_4_method_6_code (6 : Nat) (Option.some Jvm.ClassFile.FieldType.int)) ∈ kt_GW := kt_q1g 26 rfl rfl
theorem tw_267 : (Jvm.Cond.methodLink "KinderTowns$Looking" (59 : Nat) ({ cls := "KinderTowns$Looking", name := "decide", desc := "(III)V" } : Jvm.MethodName)) ∈ kt_GW := kt_q1g 27 rfl rfl
theorem tw_269 : (Jvm.Cond.instanceMethod ({ cls := "KinderTowns$Looking", name := "decide", desc := "(III)V" } : Jvm.MethodName)) ∈ kt_GW := kt_q1g 29 rfl rfl
theorem tw_270 : (Jvm.Cond.code ({ cls := "KinderTowns$Looking", name := "decide", desc := "(III)V" } : Jvm.MethodName) prog_4_method_7_code (4 : Nat) (Option.none : Option Jvm.ClassFile.FieldType)) ∈ kt_GW := kt_q1g 30 rfl rfl
theorem tw_271 : (Jvm.Cond.methodLinkNest "KinderTowns$Looking" (88 : Nat) ({ cls := "KinderTowns", name := "isBelow", desc := "(II)Z" } : Jvm.MethodName) "KinderTowns") ∈ kt_NW := kt_q1n 31 rfl rfl
theorem tw_272 : (Jvm.Cond.methodLink "KinderTowns" (235 : Nat) ({ cls := "KinderTowns", name := "keepSpare", desc := "()V" } : Jvm.MethodName)) ∈ kt_GW := kt_q1g 32 rfl rfl
theorem tw_274 : (Jvm.Cond.instanceMethod ({ cls := "KinderTowns", name := "keepSpare", desc := "()V" } : Jvm.MethodName)) ∈ kt_GW := kt_q1g 34 rfl rfl
theorem tw_275 : (Jvm.Cond.code ({ cls := "KinderTowns", name := "keepSpare", desc := "()V" } : Jvm.MethodName) prog_1_method_29_code (3 : Nat) (Option.none : Option Jvm.ClassFile.FieldType)) ∈ kt_GW := kt_q1g 35 rfl rfl
theorem tw_276 : (Jvm.Cond.methodLink "KinderTowns" (82 : Nat) ({ cls := "KinderTowns", name := "isBelow", desc := "(II)Z" } : Jvm.MethodName)) ∈ kt_GW := kt_q1g 36 rfl rfl
theorem tw_277 : (Jvm.Cond.methodLink "KinderTownsLaw" (18 : Nat) ({ cls := "KinderTowns", name := "deliver", desc := "(III)I" } : Jvm.MethodName)) ∈ kt_GW := kt_q1g 37 rfl rfl
theorem tw_278 : (Jvm.Cond.instanceMethod ({ cls := "KinderTowns", name := "deliver", desc := "(III)I" } : Jvm.MethodName)) ∈ kt_GW := kt_q1g 38 rfl rfl
theorem tw_279 : (Jvm.Cond.selects "KinderTowns" ({ cls := "KinderTowns", name := "deliver", desc := "(III)I" } : Jvm.MethodName) ({ cls := "KinderTowns", name := "deliver", desc := "(III)I" } : Jvm.MethodName)) ∈ kt_GW := kt_q1g 39 rfl rfl
theorem tw_280 : (Jvm.Cond.code ({ cls := "KinderTowns", name := "deliver", desc := "(III)I" } : Jvm.MethodName) prog_1_method_3_code (4 : Nat) (Option.some Jvm.ClassFile.FieldType.int)) ∈ kt_GW := kt_q1g 40 rfl rfl
theorem tw_281 : (Jvm.Cond.methodLinkNest "KinderTowns" (51 : Nat) ({ cls := "KinderTowns$Country", name := "makeDelivery", desc := "(III)I" } : Jvm.MethodName) "KinderTowns") ∈ kt_NW := kt_q1n 41 rfl rfl
theorem tw_283 : (Jvm.Cond.instanceMethod ({ cls := "KinderTowns$Country", name := "makeDelivery", desc := "(III)I" } : Jvm.MethodName)) ∈ kt_GW := kt_q1g 43 rfl rfl
theorem tw_284 : (Jvm.Cond.code ({ cls := "KinderTowns$Country", name := "makeDelivery", desc := "(III)I" } : Jvm.MethodName) prog_2_method_5_code (4 : Nat) (Option.some Jvm.ClassFile.FieldType.int)) ∈ kt_GW := kt_q1g 44 rfl rfl
theorem tw_285 : (Jvm.Cond.methodLink "KinderTowns$Country" (66 : Nat) ({ cls := "KinderTowns$Country", name := "isTown", desc := "(I)Z" } : Jvm.MethodName)) ∈ kt_GW := kt_q1g 45 rfl rfl
theorem tw_287 : (Jvm.Cond.instanceMethod ({ cls := "KinderTowns$Country", name := "isTown", desc := "(I)Z" } : Jvm.MethodName)) ∈ kt_GW := kt_q1g 47 rfl rfl
theorem tw_288 : (Jvm.Cond.code ({ cls := "KinderTowns$Country", name := "isTown", desc := "(I)Z" } : Jvm.MethodName) prog_2_method_3_code (2 : Nat) (Option.some Jvm.ClassFile.FieldType.boolean)) ∈ kt_GW := kt_q1g 48 rfl rfl
theorem tw_289 : (Jvm.Cond.methodLink "KinderTowns$Country" (70 : Nat) ({ cls := "KinderTowns$Country", name := "make", desc := "(IIII)I" } : Jvm.MethodName)) ∈ kt_GW := kt_q1g 49 rfl rfl
theorem tw_291 : (Jvm.Cond.instanceMethod ({ cls := "KinderTowns$Country", name := "make", desc := "(IIII)I" } : Jvm.MethodName)) ∈ kt_GW := kt_q1g 51 rfl rfl
theorem tw_292 : (Jvm.Cond.code ({ cls := "KinderTowns$Country", name := "make", desc := "(IIII)I" } : Jvm.MethodName) prog_2_method_8_code (6 : Nat) (Option.some Jvm.ClassFile.FieldType.int)) ∈ kt_GW := kt_q1g 52 rfl rfl
theorem tw_293 : (Jvm.Cond.methodLinkNest "KinderTowns$Country" (100 : Nat) ({ cls := "KinderTowns$Events", name := "add", desc := "(IIIII)I" } : Jvm.MethodName) "KinderTowns") ∈ kt_NW := kt_q1n 53 rfl rfl
theorem tw_295 : (Jvm.Cond.instanceMethod ({ cls := "KinderTowns$Events", name := "add", desc := "(IIIII)I" } : Jvm.MethodName)) ∈ kt_GW := kt_q1g 55 rfl rfl
theorem tw_296 : (Jvm.Cond.code ({ cls := "KinderTowns$Events", name := "add", desc := "(IIIII)I" } : Jvm.MethodName) prog_3_method_4_code (6 : Nat) (Option.some Jvm.ClassFile.FieldType.int)) ∈ kt_GW := kt_q1g 56 rfl rfl
theorem tw_297 : (Jvm.Cond.methodLinkNest "KinderTowns$Events" (43 : Nat) ({ cls := "KinderTowns", name := "isBelow", desc := "(II)Z" } : Jvm.MethodName) "KinderTowns") ∈ kt_NW := kt_q1n 57 rfl rfl
theorem tw_298 : (Jvm.Cond.methodLink "KinderTownsLaw" (23 : Nat) ({ cls := "KinderTowns", name := "order", desc := "(IIII)I" } : Jvm.MethodName)) ∈ kt_GW := kt_q1g 58 rfl rfl
theorem tw_299 : (Jvm.Cond.instanceMethod ({ cls := "KinderTowns", name := "order", desc := "(IIII)I" } : Jvm.MethodName)) ∈ kt_GW := kt_q1g 59 rfl rfl
theorem tw_300 : (Jvm.Cond.selects "KinderTowns" ({ cls := "KinderTowns", name := "order", desc := "(IIII)I" } : Jvm.MethodName) ({ cls := "KinderTowns", name := "order", desc := "(IIII)I" } : Jvm.MethodName)) ∈ kt_GW := kt_q1g 60 rfl rfl
theorem tw_301 : (Jvm.Cond.code ({ cls := "KinderTowns", name := "order", desc := "(IIII)I" } : Jvm.MethodName) prog_1_method_4_code (5 : Nat) (Option.some Jvm.ClassFile.FieldType.int)) ∈ kt_GW := kt_q1g 61 rfl rfl
theorem tw_302 : (Jvm.Cond.methodLinkNest "KinderTowns" (55 : Nat) ({ cls := "KinderTowns$Country", name := "makeOrder", desc := "(IIII)I" } : Jvm.MethodName) "KinderTowns") ∈ kt_NW := kt_q1n 62 rfl rfl
theorem tw_304 : (Jvm.Cond.instanceMethod ({ cls := "KinderTowns$Country", name := "makeOrder", desc := "(IIII)I" } : Jvm.MethodName)) ∈ kt_GW := kt_q1g 64 rfl rfl
theorem tw_305 : (Jvm.Cond.code ({ cls := "KinderTowns$Country", name := "makeOrder", desc := "(IIII)I" } : Jvm.MethodName) prog_2_method_6_code (6 : Nat) (Option.some Jvm.ClassFile.FieldType.int)) ∈ kt_GW := kt_q1g 65 rfl rfl
theorem tw_306 : (Jvm.Cond.methodLink "KinderTownsLaw" (28 : Nat) ({ cls := "KinderTowns", name := "cancel", desc := "(II)I" } : Jvm.MethodName)) ∈ kt_GW := kt_q1g 66 rfl rfl
theorem tw_307 : (Jvm.Cond.instanceMethod ({ cls := "KinderTowns", name := "cancel", desc := "(II)I" } : Jvm.MethodName)) ∈ kt_GW := kt_q1g 67 rfl rfl
theorem tw_308 : (Jvm.Cond.selects "KinderTowns" ({ cls := "KinderTowns", name := "cancel", desc := "(II)I" } : Jvm.MethodName) ({ cls := "KinderTowns", name := "cancel", desc := "(II)I" } : Jvm.MethodName)) ∈ kt_GW := kt_q1g 68 rfl rfl
theorem tw_309 : (Jvm.Cond.code ({ cls := "KinderTowns", name := "cancel", desc := "(II)I" } : Jvm.MethodName) prog_1_method_5_code (3 : Nat) (Option.some Jvm.ClassFile.FieldType.int)) ∈ kt_GW := kt_q1g 69 rfl rfl
theorem tw_310 : (Jvm.Cond.methodLinkNest "KinderTowns" (59 : Nat) ({ cls := "KinderTowns$Country", name := "makeCancellation", desc := "(II)I" } : Jvm.MethodName) "KinderTowns") ∈ kt_NW := kt_q1n 70 rfl rfl
theorem tw_312 : (Jvm.Cond.instanceMethod ({ cls := "KinderTowns$Country", name := "makeCancellation", desc := "(II)I" } : Jvm.MethodName)) ∈ kt_GW := kt_q1g 72 rfl rfl
theorem tw_313 : (Jvm.Cond.code ({ cls := "KinderTowns$Country", name := "makeCancellation", desc := "(II)I" } : Jvm.MethodName) prog_2_method_7_code (4 : Nat) (Option.some Jvm.ClassFile.FieldType.int)) ∈ kt_GW := kt_q1g 73 rfl rfl
theorem tw_314 : (Jvm.Cond.methodLinkNest "KinderTowns$Country" (80 : Nat) ({ cls := "KinderTowns$Events", name := "isOrder", desc := "(I)Z" } : Jvm.MethodName) "KinderTowns") ∈ kt_NW := kt_q1n 74 rfl rfl
theorem tw_316 : (Jvm.Cond.instanceMethod ({ cls := "KinderTowns$Events", name := "isOrder", desc := "(I)Z" } : Jvm.MethodName)) ∈ kt_GW := kt_q1g 76 rfl rfl
theorem tw_317 : (Jvm.Cond.code ({ cls := "KinderTowns$Events", name := "isOrder", desc := "(I)Z" } : Jvm.MethodName) prog_3_method_3_code (2 : Nat) (Option.some Jvm.ClassFile.FieldType.boolean)) ∈ kt_GW := kt_q1g 77 rfl rfl
theorem tw_318 : (Jvm.Cond.methodLinkNest "KinderTowns$Country" (83 : Nat) ({ cls := "KinderTowns$Events", name := "standingIn", desc := "(J)J" } : Jvm.MethodName) "KinderTowns") ∈ kt_NW := kt_q1n 78 rfl rfl
theorem tw_319 : (Jvm.Cond.methodLinkNest "KinderTowns$Country" (87 : Nat) ({ cls := "KinderTowns", name := "has", desc := "(JI)Z" } : Jvm.MethodName) "KinderTowns") ∈ kt_NW := kt_q1n 79 rfl rfl
theorem tw_320 : (Jvm.Cond.methodLink "KinderTownsLaw" (33 : Nat) ({ cls := "KinderTowns", name := "meet", desc := "(II)I" } : Jvm.MethodName)) ∈ kt_GW := kt_q1g 80 rfl rfl
theorem tw_321 : (Jvm.Cond.instanceMethod ({ cls := "KinderTowns", name := "meet", desc := "(II)I" } : Jvm.MethodName)) ∈ kt_GW := kt_q1g 81 rfl rfl
theorem tw_322 : (Jvm.Cond.selects "KinderTowns" ({ cls := "KinderTowns", name := "meet", desc := "(II)I" } : Jvm.MethodName) ({ cls := "KinderTowns", name := "meet", desc := "(II)I" } : Jvm.MethodName)) ∈ kt_GW := kt_q1g 82 rfl rfl
theorem tw_323 : (Jvm.Cond.code ({ cls := "KinderTowns", name := "meet", desc := "(II)I" } : Jvm.MethodName) prog_1_method_6_code (3 : Nat) (Option.some Jvm.ClassFile.FieldType.int)) ∈ kt_GW := kt_q1g 83 rfl rfl
theorem tw_324 : (Jvm.Cond.methodLinkNest "KinderTowns" (63 : Nat) ({ cls := "KinderTowns$Country", name := "letMeet", desc := "(II)I" } : Jvm.MethodName) "KinderTowns") ∈ kt_NW := kt_q1n 84 rfl rfl
theorem tw_326 : (Jvm.Cond.instanceMethod ({ cls := "KinderTowns$Country", name := "letMeet", desc := "(II)I" } : Jvm.MethodName)) ∈ kt_GW := kt_q1g 86 rfl rfl
theorem tw_327 : (Jvm.Cond.code ({ cls := "KinderTowns$Country", name := "letMeet", desc := "(II)I" } : Jvm.MethodName) prog_2_method_9_code (4 : Nat) (Option.some Jvm.ClassFile.FieldType.int)) ∈ kt_GW := kt_q1g 87 rfl rfl
theorem tw_328 : (Jvm.Cond.methodLink "KinderTowns$Country" (104 : Nat) ({ cls := "KinderTowns$Country", name := "letHear", desc := "(II)I" } : Jvm.MethodName)) ∈ kt_GW := kt_q1g 88 rfl rfl
theorem tw_330 : (Jvm.Cond.instanceMethod ({ cls := "KinderTowns$Country", name := "letHear", desc := "(II)I" } : Jvm.MethodName)) ∈ kt_GW := kt_q1g 90 rfl rfl
theorem tw_331 : (Jvm.Cond.code ({ cls := "KinderTowns$Country", name := "letHear", desc := "(II)I" } : Jvm.MethodName) prog_2_method_10_code (4 : Nat) (Option.some Jvm.ClassFile.FieldType.int)) ∈ kt_GW := kt_q1g 91 rfl rfl
theorem tw_332 : (Jvm.Cond.methodLink "KinderTowns$Country" (108 : Nat) ({ cls := "KinderTowns$Country", name := "newsFor", desc := "(IJ)I" } : Jvm.MethodName)) ∈ kt_GW := kt_q1g 92 rfl rfl
theorem tw_334 : (Jvm.Cond.instanceMethod ({ cls := "KinderTowns$Country", name := "newsFor", desc := "(IJ)I" } : Jvm.MethodName)) ∈ kt_GW := kt_q1g 94 rfl rfl
theorem tw_335 : (Jvm.Cond.code ({ cls := "KinderTowns$Country", name := "newsFor", desc := "(IJ)I" } : Jvm.MethodName) prog_2_method_13_code (4 : Nat) (Option.some Jvm.ClassFile.FieldType.int)) ∈ kt_GW := kt_q1g 95 rfl rfl
theorem tw_336 : (Jvm.Cond.constantLong "KinderTowns$Country" (128 : Nat) (-1 : Int64)) ∈ kt_GW := kt_q1g 96 rfl rfl
theorem tw_337 : (Jvm.Cond.methodLink "KinderTowns$Country" (130 : Nat) ({ cls := "java/lang/Long", name := "bitCount", desc := "(J)I" } : Jvm.MethodName)) ∈ kt_GW := kt_q1g 97 rfl rfl
theorem tw_338 : (Jvm.Cond.static ({ cls := "java/lang/Long", name := "bitCount", desc := "(J)I" } : Jvm.MethodName)) ∈ kt_GW := kt_q1g 98 rfl rfl
theorem tw_339 : (Jvm.Cond.code ({ cls := "java/lang/Long", name := "bitCount", desc := "(J)I" } : Jvm.MethodName) prog_8_method_50_code (2 : Nat) (Option.some Jvm.ClassFile.FieldType.int)) ∈ kt_GW := kt_q1g 99 rfl rfl
theorem tw_340 : (Jvm.Cond.constantLong "java/lang/Long" (314 : Nat) (6148914691236517205 : Int64)) ∈ kt_GW := kt_q1g 100 rfl rfl
theorem tw_341 : (Jvm.Cond.constantLong "java/lang/Long" (316 : Nat) (3689348814741910323 : Int64)) ∈ kt_GW := kt_q1g 101 rfl rfl
theorem tw_342 : (Jvm.Cond.constantLong "java/lang/Long" (318 : Nat) (1085102592571150095 : Int64)) ∈ kt_GW := kt_q1g 102 rfl rfl
theorem tw_343 : (Jvm.Cond.methodLink "KinderTowns$Country" (112 : Nat) ({ cls := "java/lang/Math", name := "max", desc := "(II)I" } : Jvm.MethodName)) ∈ kt_GW := kt_q1g 103 rfl rfl
theorem tw_344 : (Jvm.Cond.static ({ cls := "java/lang/Math", name := "max", desc := "(II)I" } : Jvm.MethodName)) ∈ kt_GW := kt_q1g 104 rfl rfl
theorem tw_345 : (Jvm.Cond.code ({ cls := "java/lang/Math", name := "max", desc := "(II)I" } : Jvm.MethodName) prog_9_method_65_code (2 : Nat) (Option.some Jvm.ClassFile.FieldType.int)) ∈ kt_GW := kt_q1g 105 rfl rfl
theorem tw_346 : (Jvm.Cond.methodLink "KinderTownsLaw" (37 : Nat) ({ cls := "KinderTowns", name := "hear", desc := "(II)I" } : Jvm.MethodName)) ∈ kt_GW := kt_q1g 106 rfl rfl
theorem tw_347 : (Jvm.Cond.instanceMethod ({ cls := "KinderTowns", name := "hear", desc := "(II)I" } : Jvm.MethodName)) ∈ kt_GW := kt_q1g 107 rfl rfl
theorem tw_348 : (Jvm.Cond.selects "KinderTowns" ({ cls := "KinderTowns", name := "hear", desc := "(II)I" } : Jvm.MethodName) ({ cls := "KinderTowns", name := "hear", desc := "(II)I" } : Jvm.MethodName)) ∈ kt_GW := kt_q1g 108 rfl rfl
theorem tw_349 : (Jvm.Cond.code ({ cls := "KinderTowns", name := "hear", desc := "(II)I" } : Jvm.MethodName) prog_1_method_7_code (3 : Nat) (Option.some Jvm.ClassFile.FieldType.int)) ∈ kt_GW := kt_q1g 109 rfl rfl
theorem tw_350 : (Jvm.Cond.methodLinkNest "KinderTowns" (66 : Nat) ({ cls := "KinderTowns$Country", name := "letHear", desc := "(II)I" } : Jvm.MethodName) "KinderTowns") ∈ kt_NW := kt_q1n 110 rfl rfl
theorem tw_351 : (Jvm.Cond.methodLink "KinderTownsLaw" (41 : Nat) ({ cls := "KinderTowns", name := "rule", desc := "(I)I" } : Jvm.MethodName)) ∈ kt_GW := kt_q1g 111 rfl rfl
theorem tw_352 : (Jvm.Cond.instanceMethod ({ cls := "KinderTowns", name := "rule", desc := "(I)I" } : Jvm.MethodName)) ∈ kt_GW := kt_q1g 112 rfl rfl
theorem tw_353 : (Jvm.Cond.selects "KinderTowns" ({ cls := "KinderTowns", name := "rule", desc := "(I)I" } : Jvm.MethodName) ({ cls := "KinderTowns", name := "rule", desc := "(I)I" } : Jvm.MethodName)) ∈ kt_GW := kt_q1g 113 rfl rfl
theorem tw_354 : (Jvm.Cond.code ({ cls := "KinderTowns", name := "rule", desc := "(I)I" } : Jvm.MethodName) prog_1_method_8_code (2 : Nat) (Option.some Jvm.ClassFile.FieldType.int)) ∈ kt_GW := kt_q1g 114 rfl rfl
theorem tw_355 : (Jvm.Cond.methodLinkNest "KinderTowns" (69 : Nat) ({ cls := "KinderTowns$Country", name := "setRule", desc := "(I)I" } : Jvm.MethodName) "KinderTowns") ∈ kt_NW := kt_q1n 115 rfl rfl
theorem tw_357 : (Jvm.Cond.instanceMethod ({ cls := "KinderTowns$Country", name := "setRule", desc := "(I)I" } : Jvm.MethodName)) ∈ kt_GW := kt_q1g 117 rfl rfl
theorem tw_358 : (Jvm.Cond.code ({ cls := "KinderTowns$Country", name := "setRule", desc := "(I)I" } : Jvm.MethodName) prog_2_method_11_code (3 : Nat) (Option.some Jvm.ClassFile.FieldType.int)) ∈ kt_GW := kt_q1g 118 rfl rfl
theorem tw_359 : (Jvm.Cond.methodLink "KinderTownsLaw" (46 : Nat) ({ cls := "KinderTowns", name := "eventOf", desc := "(II)I" } : Jvm.MethodName)) ∈ kt_GW := kt_q1g 119 rfl rfl
theorem tw_360 : (Jvm.Cond.instanceMethod ({ cls := "KinderTowns", name := "eventOf", desc := "(II)I" } : Jvm.MethodName)) ∈ kt_GW := kt_q1g 120 rfl rfl
theorem tw_361 : (Jvm.Cond.selects "KinderTowns" ({ cls := "KinderTowns", name := "eventOf", desc := "(II)I" } : Jvm.MethodName) ({ cls := "KinderTowns", name := "eventOf", desc := "(II)I" } : Jvm.MethodName)) ∈ kt_GW := kt_q1g 121 rfl rfl
theorem tw_362 : (Jvm.Cond.code ({ cls := "KinderTowns", name := "eventOf", desc := "(II)I" } : Jvm.MethodName) prog_1_method_9_code (4 : Nat) (Option.some Jvm.ClassFile.FieldType.int)) ∈ kt_GW := kt_q1g 122 rfl rfl
theorem tw_363 : (Jvm.Cond.methodLinkNest "KinderTowns" (112 : Nat) ({ cls := "KinderTowns$Country", name := "townsWith", desc := "([JI)I" } : Jvm.MethodName) "KinderTowns") ∈ kt_NW := kt_q1n 123 rfl rfl
theorem tw_365 : (Jvm.Cond.instanceMethod ({ cls := "KinderTowns$Country", name := "townsWith", desc := "([JI)I" } : Jvm.MethodName)) ∈ kt_GW := kt_q1g 125 rfl rfl
theorem tw_366 : (Jvm.Cond.code ({ cls := "KinderTowns$Country", name := "townsWith", desc := "([JI)I" } : Jvm.MethodName) prog_2_method_14_code (5 : Nat) (Option.some Jvm.ClassFile.FieldType.int)) ∈ kt_GW := kt_q1g 126 rfl rfl
theorem tw_367 : (Jvm.Cond.methodLink "KinderTownsLaw" (50 : Nat) ({ cls := "KinderTowns", name := "thinks", desc := "(II)I" } : Jvm.MethodName)) ∈ kt_GW := kt_q1g 127 rfl rfl
theorem tw_368 : (Jvm.Cond.instanceMethod ({ cls := "KinderTowns", name := "thinks", desc := "(II)I" } : Jvm.MethodName)) ∈ kt_GW := kt_q1g 128 rfl rfl
theorem tw_369 : (Jvm.Cond.selects "KinderTowns" ({ cls := "KinderTowns", name := "thinks", desc := "(II)I" } : Jvm.MethodName) ({ cls := "KinderTowns", name := "thinks", desc := "(II)I" } : Jvm.MethodName)) ∈ kt_GW := kt_q1g 129 rfl rfl
theorem tw_370 : (Jvm.Cond.code ({ cls := "KinderTowns", name := "thinks", desc := "(II)I" } : Jvm.MethodName) prog_1_method_10_code (3 : Nat) (Option.some Jvm.ClassFile.FieldType.int)) ∈ kt_GW := kt_q1g 130 rfl rfl
theorem tw_371 : (Jvm.Cond.methodLinkNest "KinderTowns" (119 : Nat) ({ cls := "KinderTowns$Country", name := "isTown", desc := "(I)Z" } : Jvm.MethodName) "KinderTowns") ∈ kt_NW := kt_q1n 131 rfl rfl
theorem tw_372 : (Jvm.Cond.methodLink "KinderTowns" (123 : Nat) ({ cls := "KinderTowns", name := "has", desc := "(JI)Z" } : Jvm.MethodName)) ∈ kt_GW := kt_q1g 132 rfl rfl
theorem tw_373 : (Jvm.Cond.methodLink "KinderTownsLaw" (54 : Nat) ({ cls := "KinderTowns", name := "townOf", desc := "(II)I" } : Jvm.MethodName)) ∈ kt_GW := kt_q1g 133 rfl rfl
theorem tw_374 : (Jvm.Cond.instanceMethod ({ cls := "KinderTowns", name := "townOf", desc := "(II)I" } : Jvm.MethodName)) ∈ kt_GW := kt_q1g 134 rfl rfl
theorem tw_375 : (Jvm.Cond.selects "KinderTowns" ({ cls := "KinderTowns", name := "townOf", desc := "(II)I" } : Jvm.MethodName) ({ cls := "KinderTowns", name := "townOf", desc := "(II)I" } : Jvm.MethodName)) ∈ kt_GW := kt_q1g 135 rfl rfl
theorem tw_376 : (Jvm.Cond.code ({ cls := "KinderTowns", name := "townOf", desc := "(II)I" } : Jvm.MethodName) prog_1_method_11_code (3 : Nat) (Option.some Jvm.ClassFile.FieldType.int)) ∈ kt_GW := kt_q1g 136 rfl rfl
theorem tw_377 : (Jvm.Cond.methodLink "KinderTowns" (134 : Nat) ({ cls := "java/lang/Long", name := "bitCount", desc := "(J)I" } : Jvm.MethodName)) ∈ kt_GW := kt_q1g 137 rfl rfl
theorem tw_378 : (Jvm.Cond.methodLinkNest "KinderTowns" (140 : Nat) ({ cls := "KinderTowns$Events", name := "cancelledIn", desc := "(J)J" } : Jvm.MethodName) "KinderTowns") ∈ kt_NW := kt_q1n 138 rfl rfl
theorem tw_379 : (Jvm.Cond.methodLinkNest "KinderTowns" (144 : Nat) ({ cls := "KinderTowns$Events", name := "having", desc := "([II)J" } : Jvm.MethodName) "KinderTowns") ∈ kt_NW := kt_q1n 139 rfl rfl
theorem tw_381 : (Jvm.Cond.instanceMethod ({ cls := "KinderTowns$Events", name := "having", desc := "([II)J" } : Jvm.MethodName)) ∈ kt_GW := kt_q1g 141 rfl rfl
theorem tw_382 : (Jvm.Cond.code ({ cls := "KinderTowns$Events", name := "having", desc := "([II)J" } : Jvm.MethodName) prog_3_method_6_code (6 : Nat) (Option.some Jvm.ClassFile.FieldType.long)) ∈ kt_GW := kt_q1g 142 rfl rfl
theorem tw_383 : (Jvm.Cond.methodLinkNest "KinderTowns" (148 : Nat) ({ cls := "KinderTowns$Country", name := "townsThatKnow", desc := "(J)I" } : Jvm.MethodName) "KinderTowns") ∈ kt_NW := kt_q1n 143 rfl rfl
theorem tw_385 : (Jvm.Cond.instanceMethod ({ cls := "KinderTowns$Country", name := "townsThatKnow", desc := "(J)I" } : Jvm.MethodName)) ∈ kt_GW := kt_q1g 145 rfl rfl
theorem tw_386 : (Jvm.Cond.code ({ cls := "KinderTowns$Country", name := "townsThatKnow", desc := "(J)I" } : Jvm.MethodName) prog_2_method_15_code (5 : Nat) (Option.some Jvm.ClassFile.FieldType.int)) ∈ kt_GW := kt_q1g 146 rfl rfl
theorem tw_387 : (Jvm.Cond.methodLink "KinderTownsLaw" (58 : Nat) ({ cls := "KinderTowns", name := "goodOf", desc := "(III)I" } : Jvm.MethodName)) ∈ kt_GW := kt_q1g 147 rfl rfl
theorem tw_388 : (Jvm.Cond.instanceMethod ({ cls := "KinderTowns", name := "goodOf", desc := "(III)I" } : Jvm.MethodName)) ∈ kt_GW := kt_q1g 148 rfl rfl
theorem tw_389 : (Jvm.Cond.selects "KinderTowns" ({ cls := "KinderTowns", name := "goodOf", desc := "(III)I" } : Jvm.MethodName) ({ cls := "KinderTowns", name := "goodOf", desc := "(III)I" } : Jvm.MethodName)) ∈ kt_GW := kt_q1g 149 rfl rfl
theorem tw_390 : (Jvm.Cond.code ({ cls := "KinderTowns", name := "goodOf", desc := "(III)I" } : Jvm.MethodName) prog_1_method_12_code (9 : Nat) (Option.some Jvm.ClassFile.FieldType.int)) ∈ kt_GW := kt_q1g 150 rfl rfl
theorem tw_391 : (Jvm.Cond.methodLinkNest "KinderTowns" (151 : Nat) ({ cls := "KinderTowns$Events", name := "piecesOf", desc := "(J)I" } : Jvm.MethodName) "KinderTowns") ∈ kt_NW := kt_q1n 151 rfl rfl
theorem tw_393 : (Jvm.Cond.instanceMethod ({ cls := "KinderTowns$Events", name := "piecesOf", desc := "(J)I" } : Jvm.MethodName)) ∈ kt_GW := kt_q1g 153 rfl rfl
theorem tw_394 : (Jvm.Cond.code ({ cls := "KinderTowns$Events", name := "piecesOf", desc := "(J)I" } : Jvm.MethodName) prog_3_method_9_code (5 : Nat) (Option.some Jvm.ClassFile.FieldType.int)) ∈ kt_GW := kt_q1g 154 rfl rfl
theorem tw_395 : (Jvm.Cond.methodLink "KinderTownsLaw" (62 : Nat) ({ cls := "KinderTowns", name := "lookedAt", desc := "(III)I" } : Jvm.MethodName)) ∈ kt_GW := kt_q1g 155 rfl rfl
theorem tw_396 : (Jvm.Cond.instanceMethod ({ cls := "KinderTowns", name := "lookedAt", desc := "(III)I" } : Jvm.MethodName)) ∈ kt_GW := kt_q1g 156 rfl rfl
theorem tw_397 : (Jvm.Cond.selects "KinderTowns" ({ cls := "KinderTowns", name := "lookedAt", desc := "(III)I" } : Jvm.MethodName) ({ cls := "KinderTowns", name := "lookedAt", desc := "(III)I" } : Jvm.MethodName)) ∈ kt_GW := kt_q1g 157 rfl rfl
theorem tw_398 : (Jvm.Cond.code ({ cls := "KinderTowns", name := "lookedAt", desc := "(III)I" } : Jvm.MethodName) prog_1_method_13_code (4 : Nat) (Option.some Jvm.ClassFile.FieldType.int)) ∈ kt_GW := kt_q1g 158 rfl rfl
theorem tw_399 : (Jvm.Cond.methodLinkNest "KinderTowns" (154 : Nat) ({ cls := "KinderTowns$Events", name := "standingIn", desc := "(J)J" } : Jvm.MethodName) "KinderTowns") ∈ kt_NW := kt_q1n 159 rfl rfl
theorem tw_400 : (Jvm.Cond.methodLinkNest "KinderTowns" (160 : Nat) ({ cls := "KinderTowns$Looking", name := "lookAtGood", desc := "(LKinderTowns$Events;JII)V" } : Jvm.MethodName) "KinderTowns") ∈ kt_NW := kt_q1n 160 rfl rfl
theorem tw_401 : (Jvm.Cond.methodLink "KinderTownsLaw" (66 : Nat) ({ cls := "KinderTowns", name := "personOf", desc := "(III)I" } : Jvm.MethodName)) ∈ kt_GW := kt_q1g 161 rfl rfl
theorem tw_402 : (Jvm.Cond.instanceMethod ({ cls := "KinderTowns", name := "personOf", desc := "(III)I" } : Jvm.MethodName)) ∈ kt_GW := kt_q1g 162 rfl rfl
theorem tw_403 : (Jvm.Cond.selects "KinderTowns" ({ cls := "KinderTowns", name := "personOf", desc := "(III)I" } : Jvm.MethodName) ({ cls := "KinderTowns", name := "personOf", desc := "(III)I" } : Jvm.MethodName)) ∈ kt_GW := kt_q1g 163 rfl rfl
theorem tw_404 : (Jvm.Cond.code ({ cls := "KinderTowns", name := "personOf", desc := "(III)I" } : Jvm.MethodName) prog_1_method_14_code (7 : Nat) (Option.some Jvm.ClassFile.FieldType.int)) ∈ kt_GW := kt_q1g 164 rfl rfl
theorem tw_405 : (Jvm.Cond.methodLinkNest "KinderTowns" (170 : Nat) ({ cls := "KinderTowns$Country", name := "apologiesFor", desc := "(J)I" } : Jvm.MethodName) "KinderTowns") ∈ kt_NW := kt_q1n 165 rfl rfl
theorem tw_407 : (Jvm.Cond.instanceMethod ({ cls := "KinderTowns$Country", name := "apologiesFor", desc := "(J)I" } : Jvm.MethodName)) ∈ kt_GW := kt_q1g 167 rfl rfl
theorem tw_408 : (Jvm.Cond.code ({ cls := "KinderTowns$Country", name := "apologiesFor", desc := "(J)I" } : Jvm.MethodName) prog_2_method_16_code (5 : Nat) (Option.some Jvm.ClassFile.FieldType.int)) ∈ kt_GW := kt_q1g 168 rfl rfl
theorem tw_409 : (Jvm.Cond.methodLink "KinderTownsLaw" (70 : Nat) ({ cls := "KinderTowns", name := "unheard", desc := "(II)I" } : Jvm.MethodName)) ∈ kt_GW := kt_q1g 169 rfl rfl
theorem tw_410 : (Jvm.Cond.instanceMethod ({ cls := "KinderTowns", name := "unheard", desc := "(II)I" } : Jvm.MethodName)) ∈ kt_GW := kt_q1g 170 rfl rfl
theorem tw_411 : (Jvm.Cond.selects "KinderTowns" ({ cls := "KinderTowns", name := "unheard", desc := "(II)I" } : Jvm.MethodName) ({ cls := "KinderTowns", name := "unheard", desc := "(II)I" } : Jvm.MethodName)) ∈ kt_GW := kt_q1g 171 rfl rfl
theorem tw_412 : (Jvm.Cond.code ({ cls := "KinderTowns", name := "unheard", desc := "(II)I" } : Jvm.MethodName) prog_1_method_15_code (3 : Nat) (Option.some Jvm.ClassFile.FieldType.int)) ∈ kt_GW := kt_q1g 172 rfl rfl
theorem tw_413 : (Jvm.Cond.methodLinkNest "KinderTowns" (173 : Nat) ({ cls := "KinderTowns$Country", name := "newsFor", desc := "(IJ)I" } : Jvm.MethodName) "KinderTowns") ∈ kt_NW := kt_q1n 173 rfl rfl
theorem tw_414 : (Jvm.Cond.methodLink "KinderTownsLaw" (74 : Nat) ({ cls := "KinderTowns", name := "count", desc := "(I)I" } : Jvm.MethodName)) ∈ kt_GW := kt_q1g 174 rfl rfl
theorem tw_415 : (Jvm.Cond.instanceMethod ({ cls := "KinderTowns", name := "count", desc := "(I)I" } : Jvm.MethodName)) ∈ kt_GW := kt_q1g 175 rfl rfl
theorem tw_416 : (Jvm.Cond.selects "KinderTowns" ({ cls := "KinderTowns", name := "count", desc := "(I)I" } : Jvm.MethodName) ({ cls := "KinderTowns", name := "count", desc := "(I)I" } : Jvm.MethodName)) ∈ kt_GW := kt_q1g 176 rfl rfl
theorem tw_417 : (Jvm.Cond.code ({ cls := "KinderTowns", name := "count", desc := "(I)I" } : Jvm.MethodName) prog_1_method_16_code (3 : Nat) (Option.some Jvm.ClassFile.FieldType.int)) ∈ kt_GW := kt_q1g 177 rfl rfl
theorem tw_418 : (Jvm.Cond.methodLinkNest "KinderTowns" (179 : Nat) ({ cls := "KinderTowns$Events", name := "all", desc := "()J" } : Jvm.MethodName) "KinderTowns") ∈ kt_NW := kt_q1n 178 rfl rfl
theorem tw_420 : (Jvm.Cond.instanceMethod ({ cls := "KinderTowns$Events", name := "all", desc := "()J" } : Jvm.MethodName)) ∈ kt_GW := kt_q1g 180 rfl rfl
theorem tw_421 : (Jvm.Cond.code ({ cls := "KinderTowns$Events", name := "all", desc := "()J" } : Jvm.MethodName) prog_3_method_5_code (1 : Nat) (Option.some Jvm.ClassFile.FieldType.long)) ∈ kt_GW := kt_q1g 181 rfl rfl
theorem tw_422 : (Jvm.Cond.methodLinkNest "KinderTowns" (183 : Nat) ({ cls := "KinderTowns$Country", name := "knownByAll", desc := "()J" } : Jvm.MethodName) "KinderTowns") ∈ kt_NW := kt_q1n 182 rfl rfl
theorem tw_424 : (Jvm.Cond.instanceMethod ({ cls := "KinderTowns$Country", name := "knownByAll", desc := "()J" } : Jvm.MethodName)) ∈ kt_GW := kt_q1g 184 rfl rfl
theorem tw_425 : (Jvm.Cond.code ({ cls := "KinderTowns$Country", name := "knownByAll", desc := "()J" } : Jvm.MethodName) prog_2_method_17_code (4 : Nat) (Option.some Jvm.ClassFile.FieldType.long)) ∈ kt_GW := kt_q1g 185 rfl rfl
theorem tw_426 : (Jvm.Cond.methodLinkNest "KinderTowns$Country" (136 : Nat) ({ cls := "KinderTowns$Events", name := "all", desc := "()J" } : Jvm.MethodName) "KinderTowns") ∈ kt_NW := kt_q1n 186 rfl rfl
theorem tw_427 : (Jvm.Cond.methodLinkNest "KinderTowns" (186 : Nat) ({ cls := "KinderTowns$Country", name := "allKnowTheSame", desc := "()Z" } : Jvm.MethodName) "KinderTowns") ∈ kt_NW := kt_q1n 187 rfl rfl
theorem tw_429 : (Jvm.Cond.instanceMethod ({ cls := "KinderTowns$Country", name := "allKnowTheSame", desc := "()Z" } : Jvm.MethodName)) ∈ kt_GW := kt_q1g 189 rfl rfl
theorem tw_430 : (Jvm.Cond.code ({ cls := "KinderTowns$Country", name := "allKnowTheSame", desc := "()Z" } : Jvm.MethodName) prog_2_method_18_code (2 : Nat) (Option.some Jvm.ClassFile.FieldType.boolean)) ∈ kt_GW := kt_q1g 190 rfl rfl
theorem tw_431 : (Jvm.Cond.methodLink "KinderTownsLaw" (78 : Nat) ({ cls := "KinderTowns", name := "would", desc := "(III)I" } : Jvm.MethodName)) ∈ kt_GW := kt_q1g 191 rfl rfl
theorem tw_432 : (Jvm.Cond.instanceMethod ({ cls := "KinderTowns", name := "would", desc := "(III)I" } : Jvm.MethodName)) ∈ kt_GW := kt_q1g 192 rfl rfl
theorem tw_433 : (Jvm.Cond.selects "KinderTowns" ({ cls := "KinderTowns", name := "would", desc := "(III)I" } : Jvm.MethodName) ({ cls := "KinderTowns", name := "would", desc := "(III)I" } : Jvm.MethodName)) ∈ kt_GW := kt_q1g 193 rfl rfl
theorem tw_434 : (Jvm.Cond.code ({ cls := "KinderTowns", name := "would", desc := "(III)I" } : Jvm.MethodName) prog_1_method_17_code (5 : Nat) (Option.some Jvm.ClassFile.FieldType.int)) ∈ kt_GW := kt_q1g 194 rfl rfl
theorem tw_435 : (Jvm.Cond.methodLink "KinderTowns" (197 : Nat) ({ cls := "KinderTowns", name := "newApologies", desc := "()I" } : Jvm.MethodName)) ∈ kt_GW := kt_q1g 195 rfl rfl
theorem tw_437 : (Jvm.Cond.instanceMethod ({ cls := "KinderTowns", name := "newApologies", desc := "()I" } : Jvm.MethodName)) ∈ kt_GW := kt_q1g 197 rfl rfl
theorem tw_438 : (Jvm.Cond.code ({ cls := "KinderTowns", name := "newApologies", desc := "()I" } : Jvm.MethodName) prog_1_method_30_code (1 : Nat) (Option.some Jvm.ClassFile.FieldType.int)) ∈ kt_GW := kt_q1g 198 rfl rfl
theorem tw_439 : (Jvm.Cond.methodLink "KinderTowns" (200 : Nat) ({ cls := "KinderTowns", name := "otherThoughts", desc := "(I)J" } : Jvm.MethodName)) ∈ kt_GW := kt_q1g 199 rfl rfl
theorem tw_441 : (Jvm.Cond.instanceMethod ({ cls := "KinderTowns", name := "otherThoughts", desc := "(I)J" } : Jvm.MethodName)) ∈ kt_GW := kt_q1g 201 rfl rfl
theorem tw_442 : (Jvm.Cond.code ({ cls := "KinderTowns", name := "otherThoughts", desc := "(I)J" } : Jvm.MethodName) prog_1_method_31_code (2 : Nat) (Option.some Jvm.ClassFile.FieldType.long)) ∈ kt_GW := kt_q1g 202 rfl rfl
theorem tw_443 : (Jvm.Cond.methodLinkNest "KinderTowns" (204 : Nat) ({ cls := "KinderTowns$Events", name := "goodsOf", desc := "(J)I" } : Jvm.MethodName) "KinderTowns") ∈ kt_NW := kt_q1n 203 rfl rfl
theorem tw_445 : (Jvm.Cond.instanceMethod ({ cls := "KinderTowns$Events", name := "goodsOf", desc := "(J)I" } : Jvm.MethodName)) ∈ kt_GW := kt_q1g 205 rfl rfl
theorem tw_446 : (Jvm.Cond.code ({ cls := "KinderTowns$Events", name := "goodsOf", desc := "(J)I" } : Jvm.MethodName) prog_3_method_10_code (5 : Nat) (Option.some Jvm.ClassFile.FieldType.int)) ∈ kt_GW := kt_q1g 206 rfl rfl
theorem tw_447 : (Jvm.Cond.methodLink "KinderTownsLaw" (82 : Nat) ({ cls := "KinderTowns", name := "wouldRule", desc := "(I)I" } : Jvm.MethodName)) ∈ kt_GW := kt_q1g 207 rfl rfl
theorem tw_448 : (Jvm.Cond.instanceMethod ({ cls := "KinderTowns", name := "wouldRule", desc := "(I)I" } : Jvm.MethodName)) ∈ kt_GW := kt_q1g 208 rfl rfl
theorem tw_449 : (Jvm.Cond.selects "KinderTowns" ({ cls := "KinderTowns", name := "wouldRule", desc := "(I)I" } : Jvm.MethodName) ({ cls := "KinderTowns", name := "wouldRule", desc := "(I)I" } : Jvm.MethodName)) ∈ kt_GW := kt_q1g 209 rfl rfl
theorem tw_450 : (Jvm.Cond.code ({ cls := "KinderTowns", name := "wouldRule", desc := "(I)I" } : Jvm.MethodName) prog_1_method_18_code (2 : Nat) (Option.some Jvm.ClassFile.FieldType.int)) ∈ kt_GW := kt_q1g 210 rfl rfl
theorem tw_451 : (Jvm.Cond.methodLink "KinderTownsLaw" (86 : Nat) ({ cls := "KinderTowns", name := "kindest", desc := "(I)I" } : Jvm.MethodName)) ∈ kt_GW := kt_q1g 211 rfl rfl
theorem tw_452 : (Jvm.Cond.instanceMethod ({ cls := "KinderTowns", name := "kindest", desc := "(I)I" } : Jvm.MethodName)) ∈ kt_GW := kt_q1g 212 rfl rfl
theorem tw_453 : (Jvm.Cond.selects "KinderTowns" ({ cls := "KinderTowns", name := "kindest", desc := "(I)I" } : Jvm.MethodName) ({ cls := "KinderTowns", name := "kindest", desc := "(I)I" } : Jvm.MethodName)) ∈ kt_GW := kt_q1g 213 rfl rfl
theorem tw_454 : (Jvm.Cond.code ({ cls := "KinderTowns", name := "kindest", desc := "(I)I" } : Jvm.MethodName) prog_1_method_19_code (6 : Nat) (Option.some Jvm.ClassFile.FieldType.int)) ∈ kt_GW := kt_q1g 214 rfl rfl
theorem tw_455 : (Jvm.Cond.methodLinkNest "KinderTowns" (207 : Nat) ({ cls := "KinderTowns$Looking", name := "lookAtAll", desc := "(LKinderTowns$Events;JI)V" } : Jvm.MethodName) "KinderTowns") ∈ kt_NW := kt_q1n 215 rfl rfl
theorem tw_456 : (Jvm.Cond.methodLinkNest "KinderTowns" (214 : Nat) ({ cls := "KinderTowns$Events", name := "personsIn", desc := "(J)I" } : Jvm.MethodName) "KinderTowns") ∈ kt_NW := kt_q1n 216 rfl rfl
theorem tw_458 : (Jvm.Cond.instanceMethod ({ cls := "KinderTowns$Events", name := "personsIn", desc := "(J)I" } : Jvm.MethodName)) ∈ kt_GW := kt_q1g 218 rfl rfl
theorem tw_459 : (Jvm.Cond.code ({ cls := "KinderTowns$Events", name := "personsIn", desc := "(J)I" } : Jvm.MethodName) prog_3_method_11_code (5 : Nat) (Option.some Jvm.ClassFile.FieldType.int)) ∈ kt_GW := kt_q1g 219 rfl rfl
theorem tw_460 : (Jvm.Cond.methodLink "KinderTowns$Events" (57 : Nat) ({ cls := "KinderTowns$Events", name := "having", desc := "([II)J" } : Jvm.MethodName)) ∈ kt_GW := kt_q1g 220 rfl rfl
theorem tw_461 : (Jvm.Cond.methodLink "KinderTownsLaw" (90 : Nat) ({ cls := "KinderTowns", name := "rounds", desc := "()I" } : Jvm.MethodName)) ∈ kt_GW := kt_q1g 221 rfl rfl
theorem tw_462 : (Jvm.Cond.instanceMethod ({ cls := "KinderTowns", name := "rounds", desc := "()I" } : Jvm.MethodName)) ∈ kt_GW := kt_q1g 222 rfl rfl
theorem tw_463 : (Jvm.Cond.selects "KinderTowns" ({ cls := "KinderTowns", name := "rounds", desc := "()I" } : Jvm.MethodName) ({ cls := "KinderTowns", name := "rounds", desc := "()I" } : Jvm.MethodName)) ∈ kt_GW := kt_q1g 223 rfl rfl
theorem tw_464 : (Jvm.Cond.code ({ cls := "KinderTowns", name := "rounds", desc := "()I" } : Jvm.MethodName) prog_1_method_20_code (2 : Nat) (Option.some Jvm.ClassFile.FieldType.int)) ∈ kt_GW := kt_q1g 224 rfl rfl
theorem tw_465 : (Jvm.Cond.methodLinkNest "KinderTowns" (217 : Nat) ({ cls := "KinderTowns$Country", name := "meetInTurn", desc := "()V" } : Jvm.MethodName) "KinderTowns") ∈ kt_NW := kt_q1n 225 rfl rfl
theorem tw_467 : (Jvm.Cond.instanceMethod ({ cls := "KinderTowns$Country", name := "meetInTurn", desc := "()V" } : Jvm.MethodName)) ∈ kt_GW := kt_q1g 227 rfl rfl
theorem tw_468 : (Jvm.Cond.code ({ cls := "KinderTowns$Country", name := "meetInTurn", desc := "()V" } : Jvm.MethodName) prog_2_method_19_code (4 : Nat) (Option.none : Option Jvm.ClassFile.FieldType)) ∈ kt_GW := kt_q1g 228 rfl rfl
theorem tw_469 : (Jvm.Cond.methodLink "KinderTownsLaw" (94 : Nat) ({ cls := "KinderTowns", name := "undo", desc := "()I" } : Jvm.MethodName)) ∈ kt_GW := kt_q1g 229 rfl rfl
theorem tw_470 : (Jvm.Cond.instanceMethod ({ cls := "KinderTowns", name := "undo", desc := "()I" } : Jvm.MethodName)) ∈ kt_GW := kt_q1g 230 rfl rfl
theorem tw_471 : (Jvm.Cond.selects "KinderTowns" ({ cls := "KinderTowns", name := "undo", desc := "()I" } : Jvm.MethodName) ({ cls := "KinderTowns", name := "undo", desc := "()I" } : Jvm.MethodName)) ∈ kt_GW := kt_q1g 231 rfl rfl
theorem tw_472 : (Jvm.Cond.code ({ cls := "KinderTowns", name := "undo", desc := "()I" } : Jvm.MethodName) prog_1_method_21_code (2 : Nat) (Option.some Jvm.ClassFile.FieldType.int)) ∈ kt_GW := kt_q1g 232 rfl rfl
theorem tw_473 : (Jvm.Cond.methodLink "KinderTownsLaw" (98 : Nat) ({ cls := "KinderTowns", name := "type", desc := "(I)I" } : Jvm.MethodName)) ∈ kt_GW := kt_q1g 233 rfl rfl
theorem tw_474 : (Jvm.Cond.instanceMethod ({ cls := "KinderTowns", name := "type", desc := "(I)I" } : Jvm.MethodName)) ∈ kt_GW := kt_q1g 234 rfl rfl
theorem tw_475 : (Jvm.Cond.selects "KinderTowns" ({ cls := "KinderTowns", name := "type", desc := "(I)I" } : Jvm.MethodName) ({ cls := "KinderTowns", name := "type", desc := "(I)I" } : Jvm.MethodName)) ∈ kt_GW := kt_q1g 235 rfl rfl
theorem tw_476 : (Jvm.Cond.code ({ cls := "KinderTowns", name := "type", desc := "(I)I" } : Jvm.MethodName) prog_1_method_22_code (2 : Nat) (Option.some Jvm.ClassFile.FieldType.int)) ∈ kt_GW := kt_q1g 236 rfl rfl
theorem tw_477 : (Jvm.Cond.methodLink "KinderTownsLaw" (102 : Nat) ({ cls := "KinderTowns", name := "clearText", desc := "()I" } : Jvm.MethodName)) ∈ kt_GW := kt_q1g 237 rfl rfl
theorem tw_478 : (Jvm.Cond.instanceMethod ({ cls := "KinderTowns", name := "clearText", desc := "()I" } : Jvm.MethodName)) ∈ kt_GW := kt_q1g 238 rfl rfl
theorem tw_479 : (Jvm.Cond.selects "KinderTowns" ({ cls := "KinderTowns", name := "clearText", desc := "()I" } : Jvm.MethodName) ({ cls := "KinderTowns", name := "clearText", desc := "()I" } : Jvm.MethodName)) ∈ kt_GW := kt_q1g 239 rfl rfl
theorem tw_480 : (Jvm.Cond.code ({ cls := "KinderTowns", name := "clearText", desc := "()I" } : Jvm.MethodName) prog_1_method_23_code (2 : Nat) (Option.some Jvm.ClassFile.FieldType.int)) ∈ kt_GW := kt_q2g 0 rfl rfl
theorem tw_481 : (Jvm.Cond.methodLink "KinderTownsLaw" (106 : Nat) ({ cls := "KinderTowns", name := "fault", desc := "(I)I" } : Jvm.MethodName)) ∈ kt_GW := kt_q2g 1 rfl rfl
theorem tw_482 : (Jvm.Cond.instanceMethod ({ cls := "KinderTowns", name := "fault", desc := "(I)I" } : Jvm.MethodName)) ∈ kt_GW := kt_q2g 2 rfl rfl
theorem tw_483 : (Jvm.Cond.selects "KinderTowns" ({ cls := "KinderTowns", name := "fault", desc := "(I)I" } : Jvm.MethodName) ({ cls := "KinderTowns", name := "fault", desc := "(I)I" } : Jvm.MethodName)) ∈ kt_GW := kt_q2g 3 rfl rfl
theorem tw_484 : (Jvm.Cond.code ({ cls := "KinderTowns", name := "fault", desc := "(I)I" } : Jvm.MethodName) prog_1_method_24_code (2 : Nat) (Option.some Jvm.ClassFile.FieldType.int)) ∈ kt_GW := kt_q2g 4 rfl rfl
theorem tw_485 : (Jvm.Cond.methodLinkNest "KinderTowns" (223 : Nat) ({ cls := "KinderTowns$Script", name := "runOn", desc := "(LKinderTowns$Country;)V" } : Jvm.MethodName) "KinderTowns") ∈ kt_NW := kt_q2n 5 rfl rfl
theorem tw_487 : (Jvm.Cond.instanceMethod ({ cls := "KinderTowns$Script", name := "runOn", desc := "(LKinderTowns$Country;)V" } : Jvm.MethodName)) ∈ kt_GW := kt_q2g 7 rfl rfl
theorem tw_488 : (Jvm.Cond.code ({ cls := "KinderTowns$Script", name := "runOn", desc := "(LKinderTowns$Country;)V" } : Jvm.MethodName) prog_5_method_2_code (3 : Nat) (Option.none : Option Jvm.ClassFile.FieldType)) ∈ kt_GW := kt_q2g 8 rfl rfl
theorem tw_489 : (Jvm.Cond.methodLink "KinderTowns$Script" (31 : Nat) ({ cls := "KinderTowns$Script", name := "read", desc := "(I)I" } : Jvm.MethodName)) ∈ kt_GW := kt_q2g 9 rfl rfl
theorem tw_491 : (Jvm.Cond.instanceMethod ({ cls := "KinderTowns$Script", name := "read", desc := "(I)I" } : Jvm.MethodName)) ∈ kt_GW := kt_q2g 11 rfl rfl
theorem tw_492 : (Jvm.Cond.code ({ cls := "KinderTowns$Script", name := "read", desc := "(I)I" } : Jvm.MethodName) prog_5_method_4_code (6 : Nat) (Option.some Jvm.ClassFile.FieldType.int)) ∈ kt_GW := kt_q2g 12 rfl rfl
theorem tw_493 : (Jvm.Cond.methodLink "KinderTowns$Script" (47 : Nat) ({ cls := "KinderTowns$Script", name := "signAt", desc := "(I)I" } : Jvm.MethodName)) ∈ kt_GW := kt_q2g 13 rfl rfl
theorem tw_495 : (Jvm.Cond.instanceMethod ({ cls := "KinderTowns$Script", name := "signAt", desc := "(I)I" } : Jvm.MethodName)) ∈ kt_GW := kt_q2g 15 rfl rfl
theorem tw_496 : (Jvm.Cond.code ({ cls := "KinderTowns$Script", name := "signAt", desc := "(I)I" } : Jvm.MethodName) prog_5_method_7_code (2 : Nat) (Option.some Jvm.ClassFile.FieldType.int)) ∈ kt_GW := kt_q2g 16 rfl rfl
theorem tw_497 : (Jvm.Cond.methodLinkNest "KinderTowns$Script" (80 : Nat) ({ cls := "KinderTowns", name := "isBelow", desc := "(II)Z" } : Jvm.MethodName) "KinderTowns") ∈ kt_NW := kt_q2n 17 rfl rfl
theorem tw_498 : (Jvm.Cond.methodLink "KinderTowns$Script" (50 : Nat) ({ cls := "KinderTowns$Script", name := "numbersBehind", desc := "(I)I" } : Jvm.MethodName)) ∈ kt_GW := kt_q2g 18 rfl rfl
theorem tw_499 : (Jvm.Cond.static ({ cls := "KinderTowns$Script", name := "numbersBehind", desc := "(I)I" } : Jvm.MethodName)) ∈ kt_GW := kt_q2g 19 rfl rfl
theorem tw_500 : (Jvm.Cond.code ({ cls := "KinderTowns$Script", name := "numbersBehind", desc := "(I)I" } : Jvm.MethodName) prog_5_method_5_code (1 : Nat) (Option.some Jvm.ClassFile.FieldType.int)) ∈ kt_GW := kt_q2g 20 rfl rfl
theorem tw_501 : (Jvm.Cond.methodLink "KinderTowns$Script" (53 : Nat) ({ cls := "KinderTowns$Script", name := "digitsAt", desc := "(I)I" } : Jvm.MethodName)) ∈ kt_GW := kt_q2g 21 rfl rfl
theorem tw_503 : (Jvm.Cond.instanceMethod ({ cls := "KinderTowns$Script", name := "digitsAt", desc := "(I)I" } : Jvm.MethodName)) ∈ kt_GW := kt_q2g 23 rfl rfl
theorem tw_504 : (Jvm.Cond.code ({ cls := "KinderTowns$Script", name := "digitsAt", desc := "(I)I" } : Jvm.MethodName) prog_5_method_10_code (2 : Nat) (Option.some Jvm.ClassFile.FieldType.int)) ∈ kt_GW := kt_q2g 24 rfl rfl
theorem tw_505 : (Jvm.Cond.methodLink "KinderTowns$Script" (84 : Nat) ({ cls := "KinderTowns$Script", name := "isDigit", desc := "(I)Z" } : Jvm.MethodName)) ∈ kt_GW := kt_q2g 25 rfl rfl
theorem tw_507 : (Jvm.Cond.instanceMethod ({ cls := "KinderTowns$Script", name := "isDigit", desc := "(I)Z" } : Jvm.MethodName)) ∈ kt_GW := kt_q2g 27 rfl rfl
theorem tw_508 : (Jvm.Cond.code ({ cls := "KinderTowns$Script", name := "isDigit", desc := "(I)Z" } : Jvm.MethodName) prog_5_method_8_code (2 : Nat) (Option.some Jvm.ClassFile.FieldType.boolean)) ∈ kt_GW := kt_q2g 28 rfl rfl
theorem tw_509 : (Jvm.Cond.methodLink "KinderTowns$Script" (56 : Nat) ({ cls := "KinderTowns$Script", name := "digit", desc := "(I)I" } : Jvm.MethodName)) ∈ kt_GW := kt_q2g 29 rfl rfl
theorem tw_511 : (Jvm.Cond.instanceMethod ({ cls := "KinderTowns$Script", name := "digit", desc := "(I)I" } : Jvm.MethodName)) ∈ kt_GW := kt_q2g 31 rfl rfl
theorem tw_512 : (Jvm.Cond.code ({ cls := "KinderTowns$Script", name := "digit", desc := "(I)I" } : Jvm.MethodName) prog_5_method_9_code (2 : Nat) (Option.some Jvm.ClassFile.FieldType.int)) ∈ kt_GW := kt_q2g 32 rfl rfl
theorem tw_513 : (Jvm.Cond.methodLink "KinderTowns$Script" (35 : Nat) ({ cls := "KinderTowns$Script", name := "doCommand", desc := "(LKinderTowns$Country;I)I" } : Jvm.MethodName)) ∈ kt_GW := kt_q2g 33 rfl rfl
theorem tw_515 : (Jvm.Cond.instanceMethod ({ cls := "KinderTowns$Script", name := "doCommand", desc := "(LKinderTowns$Country;I)I" } : Jvm.MethodName)) ∈ kt_GW := kt_q2g 35 rfl rfl
theorem tw_516 : (Jvm.Cond.code ({ cls := "KinderTowns$Script", name := "doCommand", desc := "(LKinderTowns$Country;I)I" } : Jvm.MethodName) prog_5_method_6_code (3 : Nat) (Option.some Jvm.ClassFile.FieldType.int)) ∈ kt_GW := kt_q2g 36 rfl rfl
theorem tw_517 : (Jvm.Cond.methodLinkNest "KinderTowns$Script" (59 : Nat) ({ cls := "KinderTowns$Country", name := "makeDelivery", desc := "(III)I" } : Jvm.MethodName) "KinderTowns") ∈ kt_NW := kt_q2n 37 rfl rfl
theorem tw_518 : (Jvm.Cond.methodLinkNest "KinderTowns$Script" (63 : Nat) ({ cls := "KinderTowns$Country", name := "makeOrder", desc := "(IIII)I" } : Jvm.MethodName) "KinderTowns") ∈ kt_NW := kt_q2n 38 rfl rfl
theorem tw_519 : (Jvm.Cond.methodLinkNest "KinderTowns$Script" (67 : Nat) ({ cls := "KinderTowns$Country", name := "makeCancellation", desc := "(II)I" } : Jvm.MethodName) "KinderTowns") ∈ kt_NW := kt_q2n 39 rfl rfl
theorem tw_520 : (Jvm.Cond.methodLinkNest "KinderTowns$Script" (71 : Nat) ({ cls := "KinderTowns$Country", name := "letMeet", desc := "(II)I" } : Jvm.MethodName) "KinderTowns") ∈ kt_NW := kt_q2n 40 rfl rfl
theorem tw_521 : (Jvm.Cond.methodLinkNest "KinderTowns$Script" (74 : Nat) ({ cls := "KinderTowns$Country", name := "letHear", desc := "(II)I" } : Jvm.MethodName) "KinderTowns") ∈ kt_NW := kt_q2n 41 rfl rfl
theorem tw_522 : (Jvm.Cond.methodLinkNest "KinderTowns$Script" (77 : Nat) ({ cls := "KinderTowns$Country", name := "setRule", desc := "(I)I" } : Jvm.MethodName) "KinderTowns") ∈ kt_NW := kt_q2n 42 rfl rfl
theorem tw_523 : (Jvm.Cond.methodLink "KinderTowns$Script" (39 : Nat) ({ cls := "KinderTowns$Script", name := "reasonOf", desc := "(I)I" } : Jvm.MethodName)) ∈ kt_GW := kt_q2g 43 rfl rfl
theorem tw_524 : (Jvm.Cond.static ({ cls := "KinderTowns$Script", name := "reasonOf", desc := "(I)I" } : Jvm.MethodName)) ∈ kt_GW := kt_q2g 44 rfl rfl
theorem tw_525 : (Jvm.Cond.code ({ cls := "KinderTowns$Script", name := "reasonOf", desc := "(I)I" } : Jvm.MethodName) prog_5_method_3_code (1 : Nat) (Option.some Jvm.ClassFile.FieldType.int)) ∈ kt_GW := kt_q2g 45 rfl rfl
theorem tw_526 : (Jvm.Cond.methodLinkNest "KinderTowns$Script" (42 : Nat) ({ cls := "KinderTowns$Country", name := "thinkAnew", desc := "()V" } : Jvm.MethodName) "KinderTowns") ∈ kt_NW := kt_q2n 46 rfl rfl
theorem tw_527 : (Jvm.Cond.methodLink "KinderTownsLaw" (110 : Nat) ({ cls := "KinderTowns", name := "play", desc := "()I" } : Jvm.MethodName)) ∈ kt_GW := kt_q2g 47 rfl rfl
theorem tw_528 : (Jvm.Cond.instanceMethod ({ cls := "KinderTowns", name := "play", desc := "()I" } : Jvm.MethodName)) ∈ kt_GW := kt_q2g 48 rfl rfl
theorem tw_529 : (Jvm.Cond.selects "KinderTowns" ({ cls := "KinderTowns", name := "play", desc := "()I" } : Jvm.MethodName) ({ cls := "KinderTowns", name := "play", desc := "()I" } : Jvm.MethodName)) ∈ kt_GW := kt_q2g 49 rfl rfl
theorem tw_530 : (Jvm.Cond.code ({ cls := "KinderTowns", name := "play", desc := "()I" } : Jvm.MethodName) prog_1_method_25_code (2 : Nat) (Option.some Jvm.ClassFile.FieldType.int)) ∈ kt_GW := kt_q2g 50 rfl rfl
theorem tw_531 : (Jvm.Cond.classLink "KinderTownsLaw" (10 : Nat) "KinderTownsModel") ∈ kt_GW := kt_q2g 51 rfl rfl
theorem tw_532 : (Jvm.Cond.instantiable "KinderTownsModel" (18 : Nat)) ∈ kt_GW := kt_q2g 52 rfl rfl
theorem tw_533 : (Jvm.Cond.methodLink "KinderTownsLaw" (12 : Nat) ({ cls := "KinderTownsModel", name := "<init>", desc := "()V" } : Jvm.MethodName)) ∈ kt_GW := kt_q2g 53 rfl rfl
theorem tw_534 : (Jvm.Cond.instanceMethod ({ cls := "KinderTownsModel", name := "<init>", desc := "()V" } : Jvm.MethodName)) ∈ kt_GW := kt_q2g 54 rfl rfl
theorem tw_535 : (Jvm.Cond.code ({ cls := "KinderTownsModel", name := "<init>", desc := "()V" } : Jvm.MethodName) prog_7_method_1_code (1 : Nat) (Option.none : Option Jvm.ClassFile.FieldType)) ∈ kt_GW := kt_q2g 55 rfl rfl
theorem tw_536 : (Jvm.Cond.methodLink "KinderTownsModel" (1 : Nat) ({ cls := "java/lang/Object", name := "<init>", desc := "()V" } : Jvm.MethodName)) ∈ kt_GW := kt_q2g 56 rfl rfl
theorem tw_537 : (Jvm.Cond.fieldLink "KinderTownsModel" (7 : Nat) "KinderTownsModel" "s" "[I") ∈ kt_GW := kt_q2g 57 rfl rfl
theorem tw_538 : (Jvm.Cond.fieldLink "KinderTownsModel" (13 : Nat) "KinderTownsModel" "past" "[I") ∈ kt_GW := kt_q2g 58 rfl rfl
theorem tw_539 : (Jvm.Cond.fieldLink "KinderTownsModel" (16 : Nat) "KinderTownsModel" "held" "[I") ∈ kt_GW := kt_q2g 59 rfl rfl
theorem tw_540 : (Jvm.Cond.fieldLink "KinderTownsModel" (19 : Nat) "KinderTownsModel" "tried" "[I") ∈ kt_GW := kt_q2g 60 rfl rfl
theorem tw_541 : (Jvm.Cond.fieldLink "KinderTownsModel" (83 : Nat) "KinderTownsModel" "pasts" "I") ∈ kt_GW := kt_q2g 61 rfl rfl
theorem tw_542 : (Jvm.Cond.fieldLink "KinderTownsModel" (86 : Nat) "KinderTownsModel" "runs" "Z") ∈ kt_GW := kt_q2g 62 rfl rfl
theorem tw_543 : (Jvm.Cond.fieldLink "KinderTownsModel" (22 : Nat) "KinderTownsModel" "text" "[I") ∈ kt_GW := kt_q2g 63 rfl rfl
theorem tw_544 : (Jvm.Cond.fieldLink "KinderTownsModel" (153 : Nat) "KinderTownsModel" "typed" "I") ∈ kt_GW := kt_q2g 64 rfl rfl
theorem tw_545 : (Jvm.Cond.fieldLink "KinderTownsModel" (25 : Nat) "KinderTownsModel" "status" "[I") ∈ kt_GW := kt_q2g 65 rfl rfl
theorem tw_546 : (Jvm.Cond.fieldLink "KinderTownsModel" (28 : Nat) "KinderTownsModel" "row" "[I") ∈ kt_GW := kt_q2g 66 rfl rfl
theorem tw_547 : (Jvm.Cond.fieldLink "KinderTownsModel" (58 : Nat) "KinderTownsModel" "looked" "I") ∈ kt_GW := kt_q2g 67 rfl rfl
theorem tw_548 : (Jvm.Cond.fieldLink "KinderTownsModel" (31 : Nat) "KinderTownsModel" "got" "[I") ∈ kt_GW := kt_q2g 68 rfl rfl
theorem tw_549 : (Jvm.Cond.fieldLink "KinderTownsModel" (34 : Nat) "KinderTownsModel" "accepted" "[Z") ∈ kt_GW := kt_q2g 69 rfl rfl
theorem tw_550 : (Jvm.Cond.fieldLink "KinderTownsModel" (38 : Nat) "KinderTownsModel" "before" "[I") ∈ kt_GW := kt_q2g 70 rfl rfl
theorem tw_551 : (Jvm.Cond.fieldLink "KinderTownsModel" (169 : Nat) "KinderTownsModel" "spot" "I") ∈ kt_GW := kt_q2g 71 rfl rfl
theorem tw_552 : (Jvm.Cond.fieldLink "KinderTownsModel" (198 : Nat) "KinderTownsModel" "cause" "I") ∈ kt_GW := kt_q2g 72 rfl rfl
theorem tw_553 : (Jvm.Cond.fieldLink "KinderTownsModel" (195 : Nat) "KinderTownsModel" "commands" "I") ∈ kt_GW := kt_q2g 73 rfl rfl
theorem tw_554 : (Jvm.Cond.fieldLink "KinderTownsModel" (41 : Nat) "KinderTownsModel" "told" "[I") ∈ kt_GW := kt_q2g 74 rfl rfl
theorem tw_592 : (Jvm.Cond.arrayClass Jvm.ClassFile.FieldType.boolean) ∈ kt_GW := kt_q2g 112 rfl rfl
theorem tw_593 : (Jvm.Cond.methodLink "KinderTownsLaw" (17 : Nat) ({ cls := "KinderTownsModel", name := "town", desc := "()I" } : Jvm.MethodName)) ∈ kt_GW := kt_q2g 113 rfl rfl
theorem tw_594 : (Jvm.Cond.instanceMethod ({ cls := "KinderTownsModel", name := "town", desc := "()I" } : Jvm.MethodName)) ∈ kt_GW := kt_q2g 114 rfl rfl
theorem tw_595 : (Jvm.Cond.selects "KinderTownsModel" ({ cls := "KinderTownsModel", name := "town", desc := "()I" } : Jvm.MethodName) ({ cls := "KinderTownsModel", name := "town", desc := "()I" } : Jvm.MethodName)) ∈ kt_GW := kt_q2g 115 rfl rfl
theorem tw_596 : (Jvm.Cond.code ({ cls := "KinderTownsModel", name := "town", desc := "()I" } : Jvm.MethodName) prog_7_method_21_code (2 : Nat) (Option.some Jvm.ClassFile.FieldType.int)) ∈ kt_GW := kt_q2g 116 rfl rfl
theorem tw_597 : (Jvm.Cond.methodLink "KinderTownsModel" (96 : Nat) ({ cls := "KinderTownsModel", name := "changes", desc := "()V" } : Jvm.MethodName)) ∈ kt_GW := kt_q2g 117 rfl rfl
theorem tw_599 : (Jvm.Cond.instanceMethod ({ cls := "KinderTownsModel", name := "changes", desc := "()V" } : Jvm.MethodName)) ∈ kt_GW := kt_q2g 119 rfl rfl
theorem tw_600 : (Jvm.Cond.code ({ cls := "KinderTownsModel", name := "changes", desc := "()V" } : Jvm.MethodName) prog_7_method_20_code (1 : Nat) (Option.none : Option Jvm.ClassFile.FieldType)) ∈ kt_GW := kt_q2g 120 rfl rfl
theorem tw_601 : (Jvm.Cond.methodLink "KinderTownsModel" (90 : Nat) ({ cls := "KinderTownsModel", name := "records", desc := "()V" } : Jvm.MethodName)) ∈ kt_GW := kt_q2g 121 rfl rfl
theorem tw_603 : (Jvm.Cond.instanceMethod ({ cls := "KinderTownsModel", name := "records", desc := "()V" } : Jvm.MethodName)) ∈ kt_GW := kt_q2g 123 rfl rfl
theorem tw_604 : (Jvm.Cond.code ({ cls := "KinderTownsModel", name := "records", desc := "()V" } : Jvm.MethodName) prog_7_method_19_code (2 : Nat) (Option.none : Option Jvm.ClassFile.FieldType)) ∈ kt_GW := kt_q2g 124 rfl rfl
theorem tw_605 : (Jvm.Cond.methodLink "KinderTownsModel" (93 : Nat) ({ cls := "KinderTownsModel", name := "remembers", desc := "()V" } : Jvm.MethodName)) ∈ kt_GW := kt_q2g 125 rfl rfl
theorem tw_607 : (Jvm.Cond.instanceMethod ({ cls := "KinderTownsModel", name := "remembers", desc := "()V" } : Jvm.MethodName)) ∈ kt_GW := kt_q2g 127 rfl rfl
theorem tw_608 : (Jvm.Cond.code ({ cls := "KinderTownsModel", name := "remembers", desc := "()V" } : Jvm.MethodName) prog_7_method_17_code (3 : Nat) (Option.none : Option Jvm.ClassFile.FieldType)) ∈ kt_GW := kt_q2g 128 rfl rfl
theorem tw_609 : (Jvm.Cond.methodLink "KinderTownsModel" (76 : Nat) ({ cls := "KinderTownsModel", name := "thinksAll", desc := "(I)V" } : Jvm.MethodName)) ∈ kt_GW := kt_q2g 129 rfl rfl
theorem tw_611 : (Jvm.Cond.instanceMethod ({ cls := "KinderTownsModel", name := "thinksAll", desc := "(I)V" } : Jvm.MethodName)) ∈ kt_GW := kt_q2g 131 rfl rfl
theorem tw_612 : (Jvm.Cond.code ({ cls := "KinderTownsModel", name := "thinksAll", desc := "(I)V" } : Jvm.MethodName) prog_7_method_16_code (3 : Nat) (Option.none : Option Jvm.ClassFile.FieldType)) ∈ kt_GW := kt_q2g 132 rfl rfl
theorem tw_613 : (Jvm.Cond.methodLink "KinderTownsModel" (68 : Nat) ({ cls := "KinderTownsModel", name := "thinksOf", desc := "(I)V" } : Jvm.MethodName)) ∈ kt_GW := kt_q2g 133 rfl rfl
theorem tw_615 : (Jvm.Cond.instanceMethod ({ cls := "KinderTownsModel", name := "thinksOf", desc := "(I)V" } : Jvm.MethodName)) ∈ kt_GW := kt_q2g 135 rfl rfl
theorem tw_616 : (Jvm.Cond.code ({ cls := "KinderTownsModel", name := "thinksOf", desc := "(I)V" } : Jvm.MethodName) prog_7_method_15_code (4 : Nat) (Option.none : Option Jvm.ClassFile.FieldType)) ∈ kt_GW := kt_q2g 136 rfl rfl
theorem tw_617 : (Jvm.Cond.methodLink "KinderTownsModel" (44 : Nat) ({ cls := "KinderTownsModel", name := "of", desc := "(II)I" } : Jvm.MethodName)) ∈ kt_GW := kt_q2g 137 rfl rfl
theorem tw_619 : (Jvm.Cond.instanceMethod ({ cls := "KinderTownsModel", name := "of", desc := "(II)I" } : Jvm.MethodName)) ∈ kt_GW := kt_q2g 139 rfl rfl
theorem tw_620 : (Jvm.Cond.code ({ cls := "KinderTownsModel", name := "of", desc := "(II)I" } : Jvm.MethodName) prog_7_method_5_code (3 : Nat) (Option.some Jvm.ClassFile.FieldType.int)) ∈ kt_GW := kt_q2g 140 rfl rfl
theorem tw_621 : (Jvm.Cond.methodLink "KinderTownsModel" (48 : Nat) ({ cls := "KinderTownsModel", name := "knows", desc := "(II)Z" } : Jvm.MethodName)) ∈ kt_GW := kt_q2g 141 rfl rfl
theorem tw_623 : (Jvm.Cond.instanceMethod ({ cls := "KinderTownsModel", name := "knows", desc := "(II)Z" } : Jvm.MethodName)) ∈ kt_GW := kt_q2g 143 rfl rfl
theorem tw_624 : (Jvm.Cond.code ({ cls := "KinderTownsModel", name := "knows", desc := "(II)Z" } : Jvm.MethodName) prog_7_method_9_code (3 : Nat) (Option.some Jvm.ClassFile.FieldType.boolean)) ∈ kt_GW := kt_q2g 144 rfl rfl
theorem tw_625 : (Jvm.Cond.methodLink "KinderTownsModel" (65 : Nat) ({ cls := "KinderTownsModel", name := "isCancelled", desc := "(II)Z" } : Jvm.MethodName)) ∈ kt_GW := kt_q2g 145 rfl rfl
theorem tw_627 : (Jvm.Cond.instanceMethod ({ cls := "KinderTownsModel", name := "isCancelled", desc := "(II)Z" } : Jvm.MethodName)) ∈ kt_GW := kt_q2g 147 rfl rfl
theorem tw_628 : (Jvm.Cond.code ({ cls := "KinderTownsModel", name := "isCancelled", desc := "(II)Z" } : Jvm.MethodName) prog_7_method_11_code (5 : Nat) (Option.some Jvm.ClassFile.FieldType.boolean)) ∈ kt_GW := kt_q2g 148 rfl rfl
theorem tw_629 : (Jvm.Cond.methodLink "KinderTownsModel" (72 : Nat) ({ cls := "KinderTownsModel", name := "looks", desc := "(II)V" } : Jvm.MethodName)) ∈ kt_GW := kt_q2g 149 rfl rfl
theorem tw_631 : (Jvm.Cond.instanceMethod ({ cls := "KinderTownsModel", name := "looks", desc := "(II)V" } : Jvm.MethodName)) ∈ kt_GW := kt_q2g 151 rfl rfl
theorem tw_632 : (Jvm.Cond.code ({ cls := "KinderTownsModel", name := "looks", desc := "(II)V" } : Jvm.MethodName) prog_7_method_14_code (7 : Nat) (Option.none : Option Jvm.ClassFile.FieldType)) ∈ kt_GW := kt_q2g 152 rfl rfl
theorem tw_633 : (Jvm.Cond.methodLink "KinderTownsModel" (55 : Nat) ({ cls := "KinderTownsModel", name := "stock", desc := "(II)I" } : Jvm.MethodName)) ∈ kt_GW := kt_q2g 153 rfl rfl
theorem tw_635 : (Jvm.Cond.instanceMethod ({ cls := "KinderTownsModel", name := "stock", desc := "(II)I" } : Jvm.MethodName)) ∈ kt_GW := kt_q2g 155 rfl rfl
theorem tw_636 : (Jvm.Cond.code ({ cls := "KinderTownsModel", name := "stock", desc := "(II)I" } : Jvm.MethodName) prog_7_method_10_code (5 : Nat) (Option.some Jvm.ClassFile.FieldType.int)) ∈ kt_GW := kt_q2g 156 rfl rfl
theorem tw_637 : (Jvm.Cond.methodLink "KinderTownsModel" (62 : Nat) ({ cls := "KinderTownsModel", name := "isAhead", desc := "(II)Z" } : Jvm.MethodName)) ∈ kt_GW := kt_q2g 157 rfl rfl
theorem tw_639 : (Jvm.Cond.instanceMethod ({ cls := "KinderTownsModel", name := "isAhead", desc := "(II)Z" } : Jvm.MethodName)) ∈ kt_GW := kt_q2g 159 rfl rfl
theorem tw_640 : (Jvm.Cond.code ({ cls := "KinderTownsModel", name := "isAhead", desc := "(II)Z" } : Jvm.MethodName) prog_7_method_13_code (4 : Nat) (Option.some Jvm.ClassFile.FieldType.boolean)) ∈ kt_GW := kt_q2g 160 rfl rfl
theorem tw_641 : (Jvm.Cond.methodLink "KinderTownsModel" (52 : Nat) ({ cls := "KinderTownsModel", name := "isEarlier", desc := "(II)Z" } : Jvm.MethodName)) ∈ kt_GW := kt_q2g 161 rfl rfl
theorem tw_643 : (Jvm.Cond.instanceMethod ({ cls := "KinderTownsModel", name := "isEarlier", desc := "(II)Z" } : Jvm.MethodName)) ∈ kt_GW := kt_q2g 163 rfl rfl
theorem tw_644 : (Jvm.Cond.code ({ cls := "KinderTownsModel", name := "isEarlier", desc := "(II)Z" } : Jvm.MethodName) prog_7_method_12_code (4 : Nat) (Option.some Jvm.ClassFile.FieldType.boolean)) ∈ kt_GW := kt_q2g 164 rfl rfl
theorem tw_645 : (Jvm.Cond.methodLink "KinderTownsLaw" (22 : Nat) ({ cls := "KinderTownsModel", name := "deliver", desc := "(III)I" } : Jvm.MethodName)) ∈ kt_GW := kt_q2g 165 rfl rfl
theorem tw_646 : (Jvm.Cond.instanceMethod ({ cls := "KinderTownsModel", name := "deliver", desc := "(III)I" } : Jvm.MethodName)) ∈ kt_GW := kt_q2g 166 rfl rfl
theorem tw_647 : (Jvm.Cond.selects "KinderTownsModel" ({ cls := "KinderTownsModel", name := "deliver", desc := "(III)I" } : Jvm.MethodName) ({ cls := "KinderTownsModel", name := "deliver", desc := "(III)I" } : Jvm.MethodName)) ∈ kt_GW := kt_q2g 167 rfl rfl
theorem tw_648 : (Jvm.Cond.code ({ cls := "KinderTownsModel", name := "deliver", desc := "(III)I" } : Jvm.MethodName) prog_7_method_23_code (4 : Nat) (Option.some Jvm.ClassFile.FieldType.int)) ∈ kt_GW := kt_q2g 168 rfl rfl
theorem tw_649 : (Jvm.Cond.methodLink "KinderTownsModel" (103 : Nat) ({ cls := "KinderTownsModel", name := "isTown", desc := "(I)Z" } : Jvm.MethodName)) ∈ kt_GW := kt_q2g 169 rfl rfl
theorem tw_651 : (Jvm.Cond.instanceMethod ({ cls := "KinderTownsModel", name := "isTown", desc := "(I)Z" } : Jvm.MethodName)) ∈ kt_GW := kt_q2g 171 rfl rfl
theorem tw_652 : (Jvm.Cond.code ({ cls := "KinderTownsModel", name := "isTown", desc := "(I)Z" } : Jvm.MethodName) prog_7_method_7_code (2 : Nat) (Option.some Jvm.ClassFile.FieldType.boolean)) ∈ kt_GW := kt_q2g 172 rfl rfl
theorem tw_653 : (Jvm.Cond.methodLink "KinderTownsModel" (107 : Nat) ({ cls := "KinderTownsModel", name := "in", desc := "(III)Z" } : Jvm.MethodName)) ∈ kt_GW := kt_q2g 173 rfl rfl
theorem tw_654 : (Jvm.Cond.static ({ cls := "KinderTownsModel", name := "in", desc := "(III)Z" } : Jvm.MethodName)) ∈ kt_GW := kt_q2g 174 rfl rfl
theorem tw_655 : (Jvm.Cond.code ({ cls := "KinderTownsModel", name := "in", desc := "(III)Z" } : Jvm.MethodName) prog_7_method_3_code (3 : Nat) (Option.some Jvm.ClassFile.FieldType.boolean)) ∈ kt_GW := kt_q2g 175 rfl rfl
theorem tw_656 : (Jvm.Cond.methodLink "KinderTownsModel" (111 : Nat) ({ cls := "KinderTownsModel", name := "makes", desc := "(IIIIII)I" } : Jvm.MethodName)) ∈ kt_GW := kt_q2g 176 rfl rfl
theorem tw_658 : (Jvm.Cond.instanceMethod ({ cls := "KinderTownsModel", name := "makes", desc := "(IIIIII)I" } : Jvm.MethodName)) ∈ kt_GW := kt_q2g 178 rfl rfl
theorem tw_659 : (Jvm.Cond.code ({ cls := "KinderTownsModel", name := "makes", desc := "(IIIIII)I" } : Jvm.MethodName) prog_7_method_22_code (8 : Nat) (Option.some Jvm.ClassFile.FieldType.int)) ∈ kt_GW := kt_q2g 179 rfl rfl
theorem tw_660 : (Jvm.Cond.methodLink "KinderTownsModel" (79 : Nat) ({ cls := "KinderTownsModel", name := "puts", desc := "(III)V" } : Jvm.MethodName)) ∈ kt_GW := kt_q2g 180 rfl rfl
theorem tw_662 : (Jvm.Cond.instanceMethod ({ cls := "KinderTownsModel", name := "puts", desc := "(III)V" } : Jvm.MethodName)) ∈ kt_GW := kt_q2g 182 rfl rfl
theorem tw_663 : (Jvm.Cond.code ({ cls := "KinderTownsModel", name := "puts", desc := "(III)V" } : Jvm.MethodName) prog_7_method_6_code (4 : Nat) (Option.none : Option Jvm.ClassFile.FieldType)) ∈ kt_GW := kt_q2g 183 rfl rfl
theorem tw_664 : (Jvm.Cond.methodLink "KinderTownsModel" (99 : Nat) ({ cls := "KinderTownsModel", name := "apologizes", desc := "(I)I" } : Jvm.MethodName)) ∈ kt_GW := kt_q2g 184 rfl rfl
theorem tw_666 : (Jvm.Cond.instanceMethod ({ cls := "KinderTownsModel", name := "apologizes", desc := "(I)I" } : Jvm.MethodName)) ∈ kt_GW := kt_q2g 186 rfl rfl
theorem tw_667 : (Jvm.Cond.code ({ cls := "KinderTownsModel", name := "apologizes", desc := "(I)I" } : Jvm.MethodName) prog_7_method_18_code (5 : Nat) (Option.some Jvm.ClassFile.FieldType.int)) ∈ kt_GW := kt_q2g 187 rfl rfl
theorem tw_668 : (Jvm.Cond.methodLink "KinderTownsLaw" (27 : Nat) ({ cls := "KinderTownsModel", name := "order", desc := "(IIII)I" } : Jvm.MethodName)) ∈ kt_GW := kt_q2g 188 rfl rfl
theorem tw_669 : (Jvm.Cond.instanceMethod ({ cls := "KinderTownsModel", name := "order", desc := "(IIII)I" } : Jvm.MethodName)) ∈ kt_GW := kt_q2g 189 rfl rfl
theorem tw_670 : (Jvm.Cond.selects "KinderTownsModel" ({ cls := "KinderTownsModel", name := "order", desc := "(IIII)I" } : Jvm.MethodName) ({ cls := "KinderTownsModel", name := "order", desc := "(IIII)I" } : Jvm.MethodName)) ∈ kt_GW := kt_q2g 190 rfl rfl
theorem tw_671 : (Jvm.Cond.code ({ cls := "KinderTownsModel", name := "order", desc := "(IIII)I" } : Jvm.MethodName) prog_7_method_24_code (5 : Nat) (Option.some Jvm.ClassFile.FieldType.int)) ∈ kt_GW := kt_q2g 191 rfl rfl
theorem tw_672 : (Jvm.Cond.methodLink "KinderTownsLaw" (32 : Nat) ({ cls := "KinderTownsModel", name := "cancel", desc := "(II)I" } : Jvm.MethodName)) ∈ kt_GW := kt_q2g 192 rfl rfl
theorem tw_673 : (Jvm.Cond.instanceMethod ({ cls := "KinderTownsModel", name := "cancel", desc := "(II)I" } : Jvm.MethodName)) ∈ kt_GW := kt_q2g 193 rfl rfl
theorem tw_674 : (Jvm.Cond.selects "KinderTownsModel" ({ cls := "KinderTownsModel", name := "cancel", desc := "(II)I" } : Jvm.MethodName) ({ cls := "KinderTownsModel", name := "cancel", desc := "(II)I" } : Jvm.MethodName)) ∈ kt_GW := kt_q2g 194 rfl rfl
theorem tw_675 : (Jvm.Cond.code ({ cls := "KinderTownsModel", name := "cancel", desc := "(II)I" } : Jvm.MethodName) prog_7_method_25_code (3 : Nat) (Option.some Jvm.ClassFile.FieldType.int)) ∈ kt_GW := kt_q2g 195 rfl rfl
theorem tw_676 : (Jvm.Cond.methodLink "KinderTownsModel" (115 : Nat) ({ cls := "KinderTownsModel", name := "isEvent", desc := "(I)Z" } : Jvm.MethodName)) ∈ kt_GW := kt_q2g 196 rfl rfl
theorem tw_678 : (Jvm.Cond.instanceMethod ({ cls := "KinderTownsModel", name := "isEvent", desc := "(I)Z" } : Jvm.MethodName)) ∈ kt_GW := kt_q2g 198 rfl rfl
theorem tw_679 : (Jvm.Cond.code ({ cls := "KinderTownsModel", name := "isEvent", desc := "(I)Z" } : Jvm.MethodName) prog_7_method_8_code (2 : Nat) (Option.some Jvm.ClassFile.FieldType.boolean)) ∈ kt_GW := kt_q2g 199 rfl rfl
theorem tw_680 : (Jvm.Cond.methodLink "KinderTownsLaw" (36 : Nat) ({ cls := "KinderTownsModel", name := "meet", desc := "(II)I" } : Jvm.MethodName)) ∈ kt_GW := kt_q2g 200 rfl rfl
theorem tw_681 : (Jvm.Cond.instanceMethod ({ cls := "KinderTownsModel", name := "meet", desc := "(II)I" } : Jvm.MethodName)) ∈ kt_GW := kt_q2g 201 rfl rfl
theorem tw_682 : (Jvm.Cond.selects "KinderTownsModel" ({ cls := "KinderTownsModel", name := "meet", desc := "(II)I" } : Jvm.MethodName) ({ cls := "KinderTownsModel", name := "meet", desc := "(II)I" } : Jvm.MethodName)) ∈ kt_GW := kt_q2g 202 rfl rfl
theorem tw_683 : (Jvm.Cond.code ({ cls := "KinderTownsModel", name := "meet", desc := "(II)I" } : Jvm.MethodName) prog_7_method_27_code (4 : Nat) (Option.some Jvm.ClassFile.FieldType.int)) ∈ kt_GW := kt_q2g 203 rfl rfl
theorem tw_684 : (Jvm.Cond.methodLink "KinderTownsModel" (118 : Nat) ({ cls := "KinderTownsModel", name := "hears", desc := "(IIZ)I" } : Jvm.MethodName)) ∈ kt_GW := kt_q2g 204 rfl rfl
theorem tw_686 : (Jvm.Cond.instanceMethod ({ cls := "KinderTownsModel", name := "hears", desc := "(IIZ)I" } : Jvm.MethodName)) ∈ kt_GW := kt_q2g 206 rfl rfl
theorem tw_687 : (Jvm.Cond.code ({ cls := "KinderTownsModel", name := "hears", desc := "(IIZ)I" } : Jvm.MethodName) prog_7_method_26_code (10 : Nat) (Option.some Jvm.ClassFile.FieldType.int)) ∈ kt_GW := kt_q2g 207 rfl rfl
theorem tw_688 : (Jvm.Cond.methodLink "KinderTownsLaw" (40 : Nat) ({ cls := "KinderTownsModel", name := "hear", desc := "(II)I" } : Jvm.MethodName)) ∈ kt_GW := kt_q2g 208 rfl rfl
theorem tw_689 : (Jvm.Cond.instanceMethod ({ cls := "KinderTownsModel", name := "hear", desc := "(II)I" } : Jvm.MethodName)) ∈ kt_GW := kt_q2g 209 rfl rfl
theorem tw_690 : (Jvm.Cond.selects "KinderTownsModel" ({ cls := "KinderTownsModel", name := "hear", desc := "(II)I" } : Jvm.MethodName) ({ cls := "KinderTownsModel", name := "hear", desc := "(II)I" } : Jvm.MethodName)) ∈ kt_GW := kt_q2g 210 rfl rfl
theorem tw_691 : (Jvm.Cond.code ({ cls := "KinderTownsModel", name := "hear", desc := "(II)I" } : Jvm.MethodName) prog_7_method_28_code (4 : Nat) (Option.some Jvm.ClassFile.FieldType.int)) ∈ kt_GW := kt_q2g 211 rfl rfl
theorem tw_692 : (Jvm.Cond.methodLink "KinderTownsLaw" (45 : Nat) ({ cls := "KinderTownsModel", name := "rule", desc := "(I)I" } : Jvm.MethodName)) ∈ kt_GW := kt_q2g 212 rfl rfl
theorem tw_693 : (Jvm.Cond.instanceMethod ({ cls := "KinderTownsModel", name := "rule", desc := "(I)I" } : Jvm.MethodName)) ∈ kt_GW := kt_q2g 213 rfl rfl
theorem tw_694 : (Jvm.Cond.selects "KinderTownsModel" ({ cls := "KinderTownsModel", name := "rule", desc := "(I)I" } : Jvm.MethodName) ({ cls := "KinderTownsModel", name := "rule", desc := "(I)I" } : Jvm.MethodName)) ∈ kt_GW := kt_q2g 214 rfl rfl
theorem tw_695 : (Jvm.Cond.code ({ cls := "KinderTownsModel", name := "rule", desc := "(I)I" } : Jvm.MethodName) prog_7_method_29_code (3 : Nat) (Option.some Jvm.ClassFile.FieldType.int)) ∈ kt_GW := kt_q2g 215 rfl rfl
theorem tw_696 : (Jvm.Cond.methodLink "KinderTownsLaw" (49 : Nat) ({ cls := "KinderTownsModel", name := "eventOf", desc := "(II)I" } : Jvm.MethodName)) ∈ kt_GW := kt_q2g 216 rfl rfl
theorem tw_697 : (Jvm.Cond.instanceMethod ({ cls := "KinderTownsModel", name := "eventOf", desc := "(II)I" } : Jvm.MethodName)) ∈ kt_GW := kt_q2g 217 rfl rfl
theorem tw_698 : (Jvm.Cond.selects "KinderTownsModel" ({ cls := "KinderTownsModel", name := "eventOf", desc := "(II)I" } : Jvm.MethodName) ({ cls := "KinderTownsModel", name := "eventOf", desc := "(II)I" } : Jvm.MethodName)) ∈ kt_GW := kt_q2g 218 rfl rfl
theorem tw_699 : (Jvm.Cond.code ({ cls := "KinderTownsModel", name := "eventOf", desc := "(II)I" } : Jvm.MethodName) prog_7_method_30_code (3 : Nat) (Option.some Jvm.ClassFile.FieldType.int)) ∈ kt_GW := kt_q2g 219 rfl rfl
theorem tw_700 : (Jvm.Cond.methodLink "KinderTownsLaw" (53 : Nat) ({ cls := "KinderTownsModel", name := "thinks", desc := "(II)I" } : Jvm.MethodName)) ∈ kt_GW := kt_q2g 220 rfl rfl
theorem tw_701 : (Jvm.Cond.instanceMethod ({ cls := "KinderTownsModel", name := "thinks", desc := "(II)I" } : Jvm.MethodName)) ∈ kt_GW := kt_q2g 221 rfl rfl
theorem tw_702 : (Jvm.Cond.selects "KinderTownsModel" ({ cls := "KinderTownsModel", name := "thinks", desc := "(II)I" } : Jvm.MethodName) ({ cls := "KinderTownsModel", name := "thinks", desc := "(II)I" } : Jvm.MethodName)) ∈ kt_GW := kt_q2g 222 rfl rfl
theorem tw_703 : (Jvm.Cond.code ({ cls := "KinderTownsModel", name := "thinks", desc := "(II)I" } : Jvm.MethodName) prog_7_method_31_code (3 : Nat) (Option.some Jvm.ClassFile.FieldType.int)) ∈ kt_GW := kt_q2g 223 rfl rfl
theorem tw_704 : (Jvm.Cond.methodLink "KinderTownsLaw" (57 : Nat) ({ cls := "KinderTownsModel", name := "townOf", desc := "(II)I" } : Jvm.MethodName)) ∈ kt_GW := kt_q2g 224 rfl rfl
theorem tw_705 : (Jvm.Cond.instanceMethod ({ cls := "KinderTownsModel", name := "townOf", desc := "(II)I" } : Jvm.MethodName)) ∈ kt_GW := kt_q2g 225 rfl rfl
theorem tw_706 : (Jvm.Cond.selects "KinderTownsModel" ({ cls := "KinderTownsModel", name := "townOf", desc := "(II)I" } : Jvm.MethodName) ({ cls := "KinderTownsModel", name := "townOf", desc := "(II)I" } : Jvm.MethodName)) ∈ kt_GW := kt_q2g 226 rfl rfl
theorem tw_707 : (Jvm.Cond.code ({ cls := "KinderTownsModel", name := "townOf", desc := "(II)I" } : Jvm.MethodName) prog_7_method_37_code (3 : Nat) (Option.some Jvm.ClassFile.FieldType.int)) ∈ kt_GW := kt_q2g 227 rfl rfl
theorem tw_708 : (Jvm.Cond.methodLink "KinderTownsModel" (122 : Nat) ({ cls := "KinderTownsModel", name := "knownBy", desc := "(I)I" } : Jvm.MethodName)) ∈ kt_GW := kt_q2g 228 rfl rfl
theorem tw_710 : (Jvm.Cond.instanceMethod ({ cls := "KinderTownsModel", name := "knownBy", desc := "(I)I" } : Jvm.MethodName)) ∈ kt_GW := kt_q2g 230 rfl rfl
theorem tw_711 : (Jvm.Cond.code ({ cls := "KinderTownsModel", name := "knownBy", desc := "(I)I" } : Jvm.MethodName) prog_7_method_33_code (4 : Nat) (Option.some Jvm.ClassFile.FieldType.int)) ∈ kt_GW := kt_q2g 231 rfl rfl
theorem tw_712 : (Jvm.Cond.methodLink "KinderTownsModel" (125 : Nat) ({ cls := "KinderTownsModel", name := "withStatus", desc := "(II)I" } : Jvm.MethodName)) ∈ kt_GW := kt_q2g 232 rfl rfl
theorem tw_714 : (Jvm.Cond.instanceMethod ({ cls := "KinderTownsModel", name := "withStatus", desc := "(II)I" } : Jvm.MethodName)) ∈ kt_GW := kt_q2g 234 rfl rfl
theorem tw_715 : (Jvm.Cond.code ({ cls := "KinderTownsModel", name := "withStatus", desc := "(II)I" } : Jvm.MethodName) prog_7_method_35_code (5 : Nat) (Option.some Jvm.ClassFile.FieldType.int)) ∈ kt_GW := kt_q2g 235 rfl rfl
theorem tw_716 : (Jvm.Cond.methodLink "KinderTownsModel" (128 : Nat) ({ cls := "KinderTownsModel", name := "\x73orry", desc := "(I)I" } : Jvm.MethodName)) ∈ kt_GW := kt_q2g 236 rfl rfl
theorem tw_718 : (Jvm.Cond.instanceMethod ({ cls := "KinderTownsModel", name := "\x73orry", desc := "(I)I" } : Jvm.MethodName)) ∈ kt_GW := kt_q2g 238 rfl rfl
theorem tw_719 : (Jvm.Cond.code ({ cls := "KinderTownsModel", name := "\x73orry", desc := "(I)I" } : Jvm.MethodName) prog_7_method_32_code (4 : Nat) (Option.some Jvm.ClassFile.FieldType.int)) ∈ kt_GW := kt_q2g 239 rfl rfl
theorem tw_720 : (Jvm.Cond.methodLink "KinderTownsModel" (131 : Nat) ({ cls := "KinderTownsModel", name := "madeIn", desc := "(I)I" } : Jvm.MethodName)) ∈ kt_GW := kt_q3g 0 rfl rfl
theorem tw_722 : (Jvm.Cond.instanceMethod ({ cls := "KinderTownsModel", name := "madeIn", desc := "(I)I" } : Jvm.MethodName)) ∈ kt_GW := kt_q3g 2 rfl rfl
theorem tw_723 : (Jvm.Cond.code ({ cls := "KinderTownsModel", name := "madeIn", desc := "(I)I" } : Jvm.MethodName) prog_7_method_34_code (4 : Nat) (Option.some Jvm.ClassFile.FieldType.int)) ∈ kt_GW := kt_q3g 3 rfl rfl
theorem tw_724 : (Jvm.Cond.methodLink "KinderTownsModel" (134 : Nat) ({ cls := "KinderTownsModel", name := "likes", desc := "(I)I" } : Jvm.MethodName)) ∈ kt_GW := kt_q3g 4 rfl rfl
theorem tw_726 : (Jvm.Cond.instanceMethod ({ cls := "KinderTownsModel", name := "likes", desc := "(I)I" } : Jvm.MethodName)) ∈ kt_GW := kt_q3g 6 rfl rfl
theorem tw_727 : (Jvm.Cond.code ({ cls := "KinderTownsModel", name := "likes", desc := "(I)I" } : Jvm.MethodName) prog_7_method_36_code (6 : Nat) (Option.some Jvm.ClassFile.FieldType.int)) ∈ kt_GW := kt_q3g 7 rfl rfl
theorem tw_728 : (Jvm.Cond.methodLink "KinderTownsLaw" (61 : Nat) ({ cls := "KinderTownsModel", name := "goodOf", desc := "(III)I" } : Jvm.MethodName)) ∈ kt_GW := kt_q3g 8 rfl rfl
theorem tw_729 : (Jvm.Cond.instanceMethod ({ cls := "KinderTownsModel", name := "goodOf", desc := "(III)I" } : Jvm.MethodName)) ∈ kt_GW := kt_q3g 9 rfl rfl
theorem tw_730 : (Jvm.Cond.selects "KinderTownsModel" ({ cls := "KinderTownsModel", name := "goodOf", desc := "(III)I" } : Jvm.MethodName) ({ cls := "KinderTownsModel", name := "goodOf", desc := "(III)I" } : Jvm.MethodName)) ∈ kt_GW := kt_q3g 10 rfl rfl
theorem tw_731 : (Jvm.Cond.code ({ cls := "KinderTownsModel", name := "goodOf", desc := "(III)I" } : Jvm.MethodName) prog_7_method_38_code (7 : Nat) (Option.some Jvm.ClassFile.FieldType.int)) ∈ kt_GW := kt_q3g 11 rfl rfl
theorem tw_732 : (Jvm.Cond.methodLink "KinderTownsLaw" (65 : Nat) ({ cls := "KinderTownsModel", name := "lookedAt", desc := "(III)I" } : Jvm.MethodName)) ∈ kt_GW := kt_q3g 12 rfl rfl
theorem tw_733 : (Jvm.Cond.instanceMethod ({ cls := "KinderTownsModel", name := "lookedAt", desc := "(III)I" } : Jvm.MethodName)) ∈ kt_GW := kt_q3g 13 rfl rfl
theorem tw_734 : (Jvm.Cond.selects "KinderTownsModel" ({ cls := "KinderTownsModel", name := "lookedAt", desc := "(III)I" } : Jvm.MethodName) ({ cls := "KinderTownsModel", name := "lookedAt", desc := "(III)I" } : Jvm.MethodName)) ∈ kt_GW := kt_q3g 14 rfl rfl
theorem tw_735 : (Jvm.Cond.code ({ cls := "KinderTownsModel", name := "lookedAt", desc := "(III)I" } : Jvm.MethodName) prog_7_method_39_code (4 : Nat) (Option.some Jvm.ClassFile.FieldType.int)) ∈ kt_GW := kt_q3g 15 rfl rfl
theorem tw_736 : (Jvm.Cond.methodLink "KinderTownsLaw" (69 : Nat) ({ cls := "KinderTownsModel", name := "personOf", desc := "(III)I" } : Jvm.MethodName)) ∈ kt_GW := kt_q3g 16 rfl rfl
theorem tw_737 : (Jvm.Cond.instanceMethod ({ cls := "KinderTownsModel", name := "personOf", desc := "(III)I" } : Jvm.MethodName)) ∈ kt_GW := kt_q3g 17 rfl rfl
theorem tw_738 : (Jvm.Cond.selects "KinderTownsModel" ({ cls := "KinderTownsModel", name := "personOf", desc := "(III)I" } : Jvm.MethodName) ({ cls := "KinderTownsModel", name := "personOf", desc := "(III)I" } : Jvm.MethodName)) ∈ kt_GW := kt_q3g 18 rfl rfl
theorem tw_739 : (Jvm.Cond.code ({ cls := "KinderTownsModel", name := "personOf", desc := "(III)I" } : Jvm.MethodName) prog_7_method_41_code (7 : Nat) (Option.some Jvm.ClassFile.FieldType.int)) ∈ kt_GW := kt_q3g 19 rfl rfl
theorem tw_740 : (Jvm.Cond.methodLink "KinderTownsModel" (137 : Nat) ({ cls := "KinderTownsModel", name := "bits", desc := "(I)I" } : Jvm.MethodName)) ∈ kt_GW := kt_q3g 20 rfl rfl
theorem tw_741 : (Jvm.Cond.static ({ cls := "KinderTownsModel", name := "bits", desc := "(I)I" } : Jvm.MethodName)) ∈ kt_GW := kt_q3g 21 rfl rfl
theorem tw_742 : (Jvm.Cond.code ({ cls := "KinderTownsModel", name := "bits", desc := "(I)I" } : Jvm.MethodName) prog_7_method_40_code (3 : Nat) (Option.some Jvm.ClassFile.FieldType.int)) ∈ kt_GW := kt_q3g 22 rfl rfl
theorem tw_743 : (Jvm.Cond.methodLink "KinderTownsLaw" (73 : Nat) ({ cls := "KinderTownsModel", name := "unheard", desc := "(II)I" } : Jvm.MethodName)) ∈ kt_GW := kt_q3g 23 rfl rfl
theorem tw_744 : (Jvm.Cond.instanceMethod ({ cls := "KinderTownsModel", name := "unheard", desc := "(II)I" } : Jvm.MethodName)) ∈ kt_GW := kt_q3g 24 rfl rfl
theorem tw_745 : (Jvm.Cond.selects "KinderTownsModel" ({ cls := "KinderTownsModel", name := "unheard", desc := "(II)I" } : Jvm.MethodName) ({ cls := "KinderTownsModel", name := "unheard", desc := "(II)I" } : Jvm.MethodName)) ∈ kt_GW := kt_q3g 25 rfl rfl
theorem tw_746 : (Jvm.Cond.code ({ cls := "KinderTownsModel", name := "unheard", desc := "(II)I" } : Jvm.MethodName) prog_7_method_42_code (5 : Nat) (Option.some Jvm.ClassFile.FieldType.int)) ∈ kt_GW := kt_q3g 26 rfl rfl
theorem tw_747 : (Jvm.Cond.methodLink "KinderTownsLaw" (77 : Nat) ({ cls := "KinderTownsModel", name := "count", desc := "(I)I" } : Jvm.MethodName)) ∈ kt_GW := kt_q3g 27 rfl rfl
theorem tw_748 : (Jvm.Cond.instanceMethod ({ cls := "KinderTownsModel", name := "count", desc := "(I)I" } : Jvm.MethodName)) ∈ kt_GW := kt_q3g 28 rfl rfl
theorem tw_749 : (Jvm.Cond.selects "KinderTownsModel" ({ cls := "KinderTownsModel", name := "count", desc := "(I)I" } : Jvm.MethodName) ({ cls := "KinderTownsModel", name := "count", desc := "(I)I" } : Jvm.MethodName)) ∈ kt_GW := kt_q3g 29 rfl rfl
theorem tw_750 : (Jvm.Cond.code ({ cls := "KinderTownsModel", name := "count", desc := "(I)I" } : Jvm.MethodName) prog_7_method_47_code (2 : Nat) (Option.some Jvm.ClassFile.FieldType.int)) ∈ kt_GW := kt_q3g 30 rfl rfl
theorem tw_751 : (Jvm.Cond.methodLink "KinderTownsModel" (140 : Nat) ({ cls := "KinderTownsModel", name := "ofKind", desc := "(I)I" } : Jvm.MethodName)) ∈ kt_GW := kt_q3g 31 rfl rfl
theorem tw_753 : (Jvm.Cond.instanceMethod ({ cls := "KinderTownsModel", name := "ofKind", desc := "(I)I" } : Jvm.MethodName)) ∈ kt_GW := kt_q3g 33 rfl rfl
theorem tw_754 : (Jvm.Cond.code ({ cls := "KinderTownsModel", name := "ofKind", desc := "(I)I" } : Jvm.MethodName) prog_7_method_43_code (4 : Nat) (Option.some Jvm.ClassFile.FieldType.int)) ∈ kt_GW := kt_q3g 34 rfl rfl
theorem tw_755 : (Jvm.Cond.methodLink "KinderTownsModel" (143 : Nat) ({ cls := "KinderTownsModel", name := "sorries", desc := "()I" } : Jvm.MethodName)) ∈ kt_GW := kt_q3g 35 rfl rfl
theorem tw_757 : (Jvm.Cond.instanceMethod ({ cls := "KinderTownsModel", name := "sorries", desc := "()I" } : Jvm.MethodName)) ∈ kt_GW := kt_q3g 37 rfl rfl
theorem tw_758 : (Jvm.Cond.code ({ cls := "KinderTownsModel", name := "sorries", desc := "()I" } : Jvm.MethodName) prog_7_method_45_code (3 : Nat) (Option.some Jvm.ClassFile.FieldType.int)) ∈ kt_GW := kt_q3g 38 rfl rfl
theorem tw_759 : (Jvm.Cond.methodLink "KinderTownsModel" (147 : Nat) ({ cls := "KinderTownsModel", name := "everyone", desc := "()I" } : Jvm.MethodName)) ∈ kt_GW := kt_q3g 39 rfl rfl
theorem tw_761 : (Jvm.Cond.instanceMethod ({ cls := "KinderTownsModel", name := "everyone", desc := "()I" } : Jvm.MethodName)) ∈ kt_GW := kt_q3g 41 rfl rfl
theorem tw_762 : (Jvm.Cond.code ({ cls := "KinderTownsModel", name := "everyone", desc := "()I" } : Jvm.MethodName) prog_7_method_46_code (1 : Nat) (Option.some Jvm.ClassFile.FieldType.int)) ∈ kt_GW := kt_q3g 42 rfl rfl
theorem tw_763 : (Jvm.Cond.methodLink "KinderTownsModel" (150 : Nat) ({ cls := "KinderTownsModel", name := "known", desc := "(I)I" } : Jvm.MethodName)) ∈ kt_GW := kt_q3g 43 rfl rfl
theorem tw_765 : (Jvm.Cond.instanceMethod ({ cls := "KinderTownsModel", name := "known", desc := "(I)I" } : Jvm.MethodName)) ∈ kt_GW := kt_q3g 45 rfl rfl
theorem tw_766 : (Jvm.Cond.code ({ cls := "KinderTownsModel", name := "known", desc := "(I)I" } : Jvm.MethodName) prog_7_method_44_code (4 : Nat) (Option.some Jvm.ClassFile.FieldType.int)) ∈ kt_GW := kt_q3g 46 rfl rfl
theorem tw_767 : (Jvm.Cond.methodLink "KinderTownsLaw" (81 : Nat) ({ cls := "KinderTownsModel", name := "would", desc := "(III)I" } : Jvm.MethodName)) ∈ kt_GW := kt_q3g 47 rfl rfl
theorem tw_768 : (Jvm.Cond.instanceMethod ({ cls := "KinderTownsModel", name := "would", desc := "(III)I" } : Jvm.MethodName)) ∈ kt_GW := kt_q3g 48 rfl rfl
theorem tw_769 : (Jvm.Cond.selects "KinderTownsModel" ({ cls := "KinderTownsModel", name := "would", desc := "(III)I" } : Jvm.MethodName) ({ cls := "KinderTownsModel", name := "would", desc := "(III)I" } : Jvm.MethodName)) ∈ kt_GW := kt_q3g 49 rfl rfl
theorem tw_770 : (Jvm.Cond.code ({ cls := "KinderTownsModel", name := "would", desc := "(III)I" } : Jvm.MethodName) prog_7_method_50_code (7 : Nat) (Option.some Jvm.ClassFile.FieldType.int)) ∈ kt_GW := kt_q3g 50 rfl rfl
theorem tw_771 : (Jvm.Cond.methodLink "KinderTownsModel" (156 : Nat) ({ cls := "KinderTownsModel", name := "copies", desc := "([I[I)V" } : Jvm.MethodName)) ∈ kt_GW := kt_q3g 51 rfl rfl
theorem tw_772 : (Jvm.Cond.static ({ cls := "KinderTownsModel", name := "copies", desc := "([I[I)V" } : Jvm.MethodName)) ∈ kt_GW := kt_q3g 52 rfl rfl
theorem tw_773 : (Jvm.Cond.code ({ cls := "KinderTownsModel", name := "copies", desc := "([I[I)V" } : Jvm.MethodName) prog_7_method_4_code (3 : Nat) (Option.none : Option Jvm.ClassFile.FieldType)) ∈ kt_GW := kt_q3g 53 rfl rfl
theorem tw_774 : (Jvm.Cond.methodLink "KinderTownsModel" (160 : Nat) ({ cls := "KinderTownsModel", name := "thinksBoth", desc := "(II)V" } : Jvm.MethodName)) ∈ kt_GW := kt_q3g 54 rfl rfl
theorem tw_776 : (Jvm.Cond.instanceMethod ({ cls := "KinderTownsModel", name := "thinksBoth", desc := "(II)V" } : Jvm.MethodName)) ∈ kt_GW := kt_q3g 56 rfl rfl
theorem tw_777 : (Jvm.Cond.code ({ cls := "KinderTownsModel", name := "thinksBoth", desc := "(II)V" } : Jvm.MethodName) prog_7_method_48_code (5 : Nat) (Option.none : Option Jvm.ClassFile.FieldType)) ∈ kt_GW := kt_q3g 57 rfl rfl
theorem tw_778 : (Jvm.Cond.methodLink "KinderTownsModel" (163 : Nat) ({ cls := "KinderTownsModel", name := "others", desc := "(II)I" } : Jvm.MethodName)) ∈ kt_GW := kt_q3g 58 rfl rfl
theorem tw_780 : (Jvm.Cond.instanceMethod ({ cls := "KinderTownsModel", name := "others", desc := "(II)I" } : Jvm.MethodName)) ∈ kt_GW := kt_q3g 60 rfl rfl
theorem tw_781 : (Jvm.Cond.code ({ cls := "KinderTownsModel", name := "others", desc := "(II)I" } : Jvm.MethodName) prog_7_method_49_code (8 : Nat) (Option.some Jvm.ClassFile.FieldType.int)) ∈ kt_GW := kt_q3g 61 rfl rfl
theorem tw_782 : (Jvm.Cond.methodLink "KinderTownsLaw" (85 : Nat) ({ cls := "KinderTownsModel", name := "wouldRule", desc := "(I)I" } : Jvm.MethodName)) ∈ kt_GW := kt_q3g 62 rfl rfl
theorem tw_783 : (Jvm.Cond.instanceMethod ({ cls := "KinderTownsModel", name := "wouldRule", desc := "(I)I" } : Jvm.MethodName)) ∈ kt_GW := kt_q3g 63 rfl rfl
theorem tw_784 : (Jvm.Cond.selects "KinderTownsModel" ({ cls := "KinderTownsModel", name := "wouldRule", desc := "(I)I" } : Jvm.MethodName) ({ cls := "KinderTownsModel", name := "wouldRule", desc := "(I)I" } : Jvm.MethodName)) ∈ kt_GW := kt_q3g 64 rfl rfl
theorem tw_785 : (Jvm.Cond.code ({ cls := "KinderTownsModel", name := "wouldRule", desc := "(I)I" } : Jvm.MethodName) prog_7_method_51_code (3 : Nat) (Option.some Jvm.ClassFile.FieldType.int)) ∈ kt_GW := kt_q3g 65 rfl rfl
theorem tw_786 : (Jvm.Cond.methodLink "KinderTownsLaw" (89 : Nat) ({ cls := "KinderTownsModel", name := "kindest", desc := "(I)I" } : Jvm.MethodName)) ∈ kt_GW := kt_q3g 66 rfl rfl
theorem tw_787 : (Jvm.Cond.instanceMethod ({ cls := "KinderTownsModel", name := "kindest", desc := "(I)I" } : Jvm.MethodName)) ∈ kt_GW := kt_q3g 67 rfl rfl
theorem tw_788 : (Jvm.Cond.selects "KinderTownsModel" ({ cls := "KinderTownsModel", name := "kindest", desc := "(I)I" } : Jvm.MethodName) ({ cls := "KinderTownsModel", name := "kindest", desc := "(I)I" } : Jvm.MethodName)) ∈ kt_GW := kt_q3g 68 rfl rfl
theorem tw_789 : (Jvm.Cond.code ({ cls := "KinderTownsModel", name := "kindest", desc := "(I)I" } : Jvm.MethodName) prog_7_method_53_code (7 : Nat) (Option.some Jvm.ClassFile.FieldType.int)) ∈ kt_GW := kt_q3g 69 rfl rfl
theorem tw_790 : (Jvm.Cond.methodLink "KinderTownsModel" (166 : Nat) ({ cls := "KinderTownsModel", name := "happy", desc := "()I" } : Jvm.MethodName)) ∈ kt_GW := kt_q3g 70 rfl rfl
theorem tw_792 : (Jvm.Cond.instanceMethod ({ cls := "KinderTownsModel", name := "happy", desc := "()I" } : Jvm.MethodName)) ∈ kt_GW := kt_q3g 72 rfl rfl
theorem tw_793 : (Jvm.Cond.code ({ cls := "KinderTownsModel", name := "happy", desc := "()I" } : Jvm.MethodName) prog_7_method_52_code (4 : Nat) (Option.some Jvm.ClassFile.FieldType.int)) ∈ kt_GW := kt_q3g 73 rfl rfl
theorem tw_794 : (Jvm.Cond.methodLink "KinderTownsLaw" (93 : Nat) ({ cls := "KinderTownsModel", name := "rounds", desc := "()I" } : Jvm.MethodName)) ∈ kt_GW := kt_q3g 74 rfl rfl
theorem tw_795 : (Jvm.Cond.instanceMethod ({ cls := "KinderTownsModel", name := "rounds", desc := "()I" } : Jvm.MethodName)) ∈ kt_GW := kt_q3g 75 rfl rfl
theorem tw_796 : (Jvm.Cond.selects "KinderTownsModel" ({ cls := "KinderTownsModel", name := "rounds", desc := "()I" } : Jvm.MethodName) ({ cls := "KinderTownsModel", name := "rounds", desc := "()I" } : Jvm.MethodName)) ∈ kt_GW := kt_q3g 76 rfl rfl
theorem tw_797 : (Jvm.Cond.code ({ cls := "KinderTownsModel", name := "rounds", desc := "()I" } : Jvm.MethodName) prog_7_method_54_code (3 : Nat) (Option.some Jvm.ClassFile.FieldType.int)) ∈ kt_GW := kt_q3g 77 rfl rfl
theorem tw_798 : (Jvm.Cond.methodLink "KinderTownsLaw" (97 : Nat) ({ cls := "KinderTownsModel", name := "undo", desc := "()I" } : Jvm.MethodName)) ∈ kt_GW := kt_q3g 78 rfl rfl
theorem tw_799 : (Jvm.Cond.instanceMethod ({ cls := "KinderTownsModel", name := "undo", desc := "()I" } : Jvm.MethodName)) ∈ kt_GW := kt_q3g 79 rfl rfl
theorem tw_800 : (Jvm.Cond.selects "KinderTownsModel" ({ cls := "KinderTownsModel", name := "undo", desc := "()I" } : Jvm.MethodName) ({ cls := "KinderTownsModel", name := "undo", desc := "()I" } : Jvm.MethodName)) ∈ kt_GW := kt_q3g 80 rfl rfl
theorem tw_801 : (Jvm.Cond.code ({ cls := "KinderTownsModel", name := "undo", desc := "()I" } : Jvm.MethodName) prog_7_method_55_code (2 : Nat) (Option.some Jvm.ClassFile.FieldType.int)) ∈ kt_GW := kt_q3g 81 rfl rfl
theorem tw_802 : (Jvm.Cond.methodLink "KinderTownsLaw" (101 : Nat) ({ cls := "KinderTownsModel", name := "type", desc := "(I)I" } : Jvm.MethodName)) ∈ kt_GW := kt_q3g 82 rfl rfl
theorem tw_803 : (Jvm.Cond.instanceMethod ({ cls := "KinderTownsModel", name := "type", desc := "(I)I" } : Jvm.MethodName)) ∈ kt_GW := kt_q3g 83 rfl rfl
theorem tw_804 : (Jvm.Cond.selects "KinderTownsModel" ({ cls := "KinderTownsModel", name := "type", desc := "(I)I" } : Jvm.MethodName) ({ cls := "KinderTownsModel", name := "type", desc := "(I)I" } : Jvm.MethodName)) ∈ kt_GW := kt_q3g 84 rfl rfl
theorem tw_805 : (Jvm.Cond.code ({ cls := "KinderTownsModel", name := "type", desc := "(I)I" } : Jvm.MethodName) prog_7_method_56_code (2 : Nat) (Option.some Jvm.ClassFile.FieldType.int)) ∈ kt_GW := kt_q3g 85 rfl rfl
theorem tw_806 : (Jvm.Cond.methodLink "KinderTownsLaw" (105 : Nat) ({ cls := "KinderTownsModel", name := "clearText", desc := "()I" } : Jvm.MethodName)) ∈ kt_GW := kt_q3g 86 rfl rfl
theorem tw_807 : (Jvm.Cond.instanceMethod ({ cls := "KinderTownsModel", name := "clearText", desc := "()I" } : Jvm.MethodName)) ∈ kt_GW := kt_q3g 87 rfl rfl
theorem tw_808 : (Jvm.Cond.selects "KinderTownsModel" ({ cls := "KinderTownsModel", name := "clearText", desc := "()I" } : Jvm.MethodName) ({ cls := "KinderTownsModel", name := "clearText", desc := "()I" } : Jvm.MethodName)) ∈ kt_GW := kt_q3g 88 rfl rfl
theorem tw_809 : (Jvm.Cond.code ({ cls := "KinderTownsModel", name := "clearText", desc := "()I" } : Jvm.MethodName) prog_7_method_57_code (2 : Nat) (Option.some Jvm.ClassFile.FieldType.int)) ∈ kt_GW := kt_q3g 89 rfl rfl
theorem tw_810 : (Jvm.Cond.methodLink "KinderTownsLaw" (109 : Nat) ({ cls := "KinderTownsModel", name := "fault", desc := "(I)I" } : Jvm.MethodName)) ∈ kt_GW := kt_q3g 90 rfl rfl
theorem tw_811 : (Jvm.Cond.instanceMethod ({ cls := "KinderTownsModel", name := "fault", desc := "(I)I" } : Jvm.MethodName)) ∈ kt_GW := kt_q3g 91 rfl rfl
theorem tw_812 : (Jvm.Cond.selects "KinderTownsModel" ({ cls := "KinderTownsModel", name := "fault", desc := "(I)I" } : Jvm.MethodName) ({ cls := "KinderTownsModel", name := "fault", desc := "(I)I" } : Jvm.MethodName)) ∈ kt_GW := kt_q3g 92 rfl rfl
theorem tw_813 : (Jvm.Cond.code ({ cls := "KinderTownsModel", name := "fault", desc := "(I)I" } : Jvm.MethodName) prog_7_method_63_code (3 : Nat) (Option.some Jvm.ClassFile.FieldType.int)) ∈ kt_GW := kt_q3g 93 rfl rfl
theorem tw_814 : (Jvm.Cond.methodLink "KinderTownsModel" (210 : Nat) ({ cls := "KinderTownsModel", name := "plays", desc := "()I" } : Jvm.MethodName)) ∈ kt_GW := kt_q3g 94 rfl rfl
theorem tw_816 : (Jvm.Cond.instanceMethod ({ cls := "KinderTownsModel", name := "plays", desc := "()I" } : Jvm.MethodName)) ∈ kt_GW := kt_q3g 96 rfl rfl
theorem tw_817 : (Jvm.Cond.code ({ cls := "KinderTownsModel", name := "plays", desc := "()I" } : Jvm.MethodName) prog_7_method_62_code (6 : Nat) (Option.some Jvm.ClassFile.FieldType.int)) ∈ kt_GW := kt_q3g 97 rfl rfl
theorem tw_818 : (Jvm.Cond.methodLink "KinderTownsModel" (201 : Nat) ({ cls := "KinderTownsModel", name := "numbersOf", desc := "(I)I" } : Jvm.MethodName)) ∈ kt_GW := kt_q3g 98 rfl rfl
theorem tw_819 : (Jvm.Cond.static ({ cls := "KinderTownsModel", name := "numbersOf", desc := "(I)I" } : Jvm.MethodName)) ∈ kt_GW := kt_q3g 99 rfl rfl
theorem tw_820 : (Jvm.Cond.code ({ cls := "KinderTownsModel", name := "numbersOf", desc := "(I)I" } : Jvm.MethodName) prog_7_method_60_code (1 : Nat) (Option.some Jvm.ClassFile.FieldType.int)) ∈ kt_GW := kt_q3g 100 rfl rfl
theorem tw_821 : (Jvm.Cond.methodLink "KinderTownsModel" (204 : Nat) ({ cls := "KinderTownsModel", name := "number", desc := "(II)Z" } : Jvm.MethodName)) ∈ kt_GW := kt_q3g 101 rfl rfl
theorem tw_823 : (Jvm.Cond.instanceMethod ({ cls := "KinderTownsModel", name := "number", desc := "(II)Z" } : Jvm.MethodName)) ∈ kt_GW := kt_q3g 103 rfl rfl
theorem tw_824 : (Jvm.Cond.code ({ cls := "KinderTownsModel", name := "number", desc := "(II)Z" } : Jvm.MethodName) prog_7_method_59_code (5 : Nat) (Option.some Jvm.ClassFile.FieldType.boolean)) ∈ kt_GW := kt_q3g 104 rfl rfl
theorem tw_825 : (Jvm.Cond.methodLink "KinderTownsModel" (172 : Nat) ({ cls := "KinderTownsModel", name := "isAt", desc := "(II)Z" } : Jvm.MethodName)) ∈ kt_GW := kt_q3g 105 rfl rfl
theorem tw_827 : (Jvm.Cond.instanceMethod ({ cls := "KinderTownsModel", name := "isAt", desc := "(II)Z" } : Jvm.MethodName)) ∈ kt_GW := kt_q3g 107 rfl rfl
theorem tw_828 : (Jvm.Cond.code ({ cls := "KinderTownsModel", name := "isAt", desc := "(II)Z" } : Jvm.MethodName) prog_7_method_58_code (3 : Nat) (Option.some Jvm.ClassFile.FieldType.boolean)) ∈ kt_GW := kt_q3g 108 rfl rfl
theorem tw_829 : (Jvm.Cond.methodLink "KinderTownsModel" (207 : Nat) ({ cls := "KinderTownsModel", name := "calls", desc := "(I)I" } : Jvm.MethodName)) ∈ kt_GW := kt_q3g 109 rfl rfl
theorem tw_831 : (Jvm.Cond.instanceMethod ({ cls := "KinderTownsModel", name := "calls", desc := "(I)I" } : Jvm.MethodName)) ∈ kt_GW := kt_q3g 111 rfl rfl
theorem tw_832 : (Jvm.Cond.code ({ cls := "KinderTownsModel", name := "calls", desc := "(I)I" } : Jvm.MethodName) prog_7_method_61_code (2 : Nat) (Option.some Jvm.ClassFile.FieldType.int)) ∈ kt_GW := kt_q3g 112 rfl rfl
theorem tw_833 : (Jvm.Cond.methodLink "KinderTownsModel" (175 : Nat) ({ cls := "KinderTownsModel", name := "deliver", desc := "(III)I" } : Jvm.MethodName)) ∈ kt_GW := kt_q3g 113 rfl rfl
theorem tw_834 : (Jvm.Cond.methodLink "KinderTownsModel" (179 : Nat) ({ cls := "KinderTownsModel", name := "order", desc := "(IIII)I" } : Jvm.MethodName)) ∈ kt_GW := kt_q3g 114 rfl rfl
theorem tw_835 : (Jvm.Cond.methodLink "KinderTownsModel" (183 : Nat) ({ cls := "KinderTownsModel", name := "cancel", desc := "(II)I" } : Jvm.MethodName)) ∈ kt_GW := kt_q3g 115 rfl rfl
theorem tw_836 : (Jvm.Cond.methodLink "KinderTownsModel" (186 : Nat) ({ cls := "KinderTownsModel", name := "meet", desc := "(II)I" } : Jvm.MethodName)) ∈ kt_GW := kt_q3g 116 rfl rfl
theorem tw_837 : (Jvm.Cond.methodLink "KinderTownsModel" (189 : Nat) ({ cls := "KinderTownsModel", name := "hear", desc := "(II)I" } : Jvm.MethodName)) ∈ kt_GW := kt_q3g 117 rfl rfl
theorem tw_838 : (Jvm.Cond.methodLink "KinderTownsModel" (192 : Nat) ({ cls := "KinderTownsModel", name := "rule", desc := "(I)I" } : Jvm.MethodName)) ∈ kt_GW := kt_q3g 118 rfl rfl
theorem tw_839 : (Jvm.Cond.methodLink "KinderTownsLaw" (113 : Nat) ({ cls := "KinderTownsModel", name := "play", desc := "()I" } : Jvm.MethodName)) ∈ kt_GW := kt_q3g 119 rfl rfl
theorem tw_840 : (Jvm.Cond.instanceMethod ({ cls := "KinderTownsModel", name := "play", desc := "()I" } : Jvm.MethodName)) ∈ kt_GW := kt_q3g 120 rfl rfl
theorem tw_841 : (Jvm.Cond.selects "KinderTownsModel" ({ cls := "KinderTownsModel", name := "play", desc := "()I" } : Jvm.MethodName) ({ cls := "KinderTownsModel", name := "play", desc := "()I" } : Jvm.MethodName)) ∈ kt_GW := kt_q3g 121 rfl rfl
theorem tw_842 : (Jvm.Cond.code ({ cls := "KinderTownsModel", name := "play", desc := "()I" } : Jvm.MethodName) prog_7_method_64_code (2 : Nat) (Option.some Jvm.ClassFile.FieldType.int)) ∈ kt_GW := kt_q3g 122 rfl rfl
theorem tp_0 : Cond.selects "KinderTowns$Country" ⟨"KinderTowns$Country", "copyFrom", "(LKinderTowns$Country;)V"⟩ ⟨"KinderTowns$Country", "copyFrom", "(LKinderTowns$Country;)V"⟩ ∈ kt_GW := kt_gw 0 rfl rfl
theorem tp_1 : Cond.selects "KinderTowns$Events" ⟨"KinderTowns$Events", "copyFrom", "(LKinderTowns$Events;)V"⟩ ⟨"KinderTowns$Events", "copyFrom", "(LKinderTowns$Events;)V"⟩ ∈ kt_GW := kt_gw 1 rfl rfl
theorem tp_2 : Cond.selects "KinderTowns$Country" ⟨"KinderTowns$Country", "addTown", "()I"⟩ ⟨"KinderTowns$Country", "addTown", "()I"⟩ ∈ kt_GW := kt_gw 2 rfl rfl
theorem tp_3 : Cond.selects "KinderTowns" ⟨"KinderTowns", "recorded", "(I)I"⟩ ⟨"KinderTowns", "recorded", "(I)I"⟩ ∈ kt_GW := kt_gw 3 rfl rfl
theorem tp_4 : Cond.selects "KinderTowns$Country" ⟨"KinderTowns$Country", "thinkAnew", "()V"⟩ ⟨"KinderTowns$Country", "thinkAnew", "()V"⟩ ∈ kt_GW := kt_gw 4 rfl rfl
theorem tp_5 : Cond.selects "KinderTowns$Looking" ⟨"KinderTowns$Looking", "lookAtAll", "(LKinderTowns$Events;JI)V"⟩ ⟨"KinderTowns$Looking", "lookAtAll", "(LKinderTowns$Events;JI)V"⟩ ∈ kt_GW := kt_gw 5 rfl rfl
theorem tp_6 : Cond.selects "KinderTowns$Events" ⟨"KinderTowns$Events", "standingIn", "(J)J"⟩ ⟨"KinderTowns$Events", "standingIn", "(J)J"⟩ ∈ kt_GW := kt_gw 6 rfl rfl
theorem tp_7 : Cond.selects "KinderTowns$Events" ⟨"KinderTowns$Events", "cancelledIn", "(J)J"⟩ ⟨"KinderTowns$Events", "cancelledIn", "(J)J"⟩ ∈ kt_GW := kt_gw 7 rfl rfl
theorem tp_8 : Cond.selects "KinderTowns$Looking" ⟨"KinderTowns$Looking", "lookAtGood", "(LKinderTowns$Events;JII)V"⟩ ⟨"KinderTowns$Looking", "lookAtGood", "(LKinderTowns$Events;JII)V"⟩ ∈ kt_GW := kt_gw 8 rfl rfl
theorem tp_9 : Cond.selects "KinderTowns$Looking" ⟨"KinderTowns$Looking", "gather", "(LKinderTowns$Events;JI)V"⟩ ⟨"KinderTowns$Looking", "gather", "(LKinderTowns$Events;JI)V"⟩ ∈ kt_GW := kt_gw 9 rfl rfl
theorem tp_10 : Cond.selects "KinderTowns$Looking" ⟨"KinderTowns$Looking", "nextPlace", "(LKinderTowns$Events;II)I"⟩ ⟨"KinderTowns$Looking", "nextPlace", "(LKinderTowns$Events;II)I"⟩ ∈ kt_GW := kt_gw 10 rfl rfl
theorem tp_11 : Cond.selects "KinderTowns$Looking" ⟨"KinderTowns$Looking", "weight", "(LKinderTowns$Events;II)I"⟩ ⟨"KinderTowns$Looking", "weight", "(LKinderTowns$Events;II)I"⟩ ∈ kt_GW := kt_gw 11 rfl rfl
theorem tp_12 : Cond.selects "KinderTowns$Looking" ⟨"KinderTowns$Looking", "decide", "(III)V"⟩ ⟨"KinderTowns$Looking", "decide", "(III)V"⟩ ∈ kt_GW := kt_gw 12 rfl rfl
theorem tp_13 : Cond.selects "KinderTowns" ⟨"KinderTowns", "keepSpare", "()V"⟩ ⟨"KinderTowns", "keepSpare", "()V"⟩ ∈ kt_GW := kt_gw 13 rfl rfl
theorem tp_14 : Cond.selects "KinderTowns$Country" ⟨"KinderTowns$Country", "makeDelivery", "(III)I"⟩ ⟨"KinderTowns$Country", "makeDelivery", "(III)I"⟩ ∈ kt_GW := kt_gw 14 rfl rfl
theorem tp_15 : Cond.selects "KinderTowns$Country" ⟨"KinderTowns$Country", "isTown", "(I)Z"⟩ ⟨"KinderTowns$Country", "isTown", "(I)Z"⟩ ∈ kt_GW := kt_gw 15 rfl rfl
theorem tp_16 : Cond.selects "KinderTowns$Country" ⟨"KinderTowns$Country", "make", "(IIII)I"⟩ ⟨"KinderTowns$Country", "make", "(IIII)I"⟩ ∈ kt_GW := kt_gw 16 rfl rfl
theorem tp_17 : Cond.selects "KinderTowns$Events" ⟨"KinderTowns$Events", "add", "(IIIII)I"⟩ ⟨"KinderTowns$Events", "add", "(IIIII)I"⟩ ∈ kt_GW := kt_gw 17 rfl rfl
theorem tp_18 : Cond.selects "KinderTowns$Country" ⟨"KinderTowns$Country", "makeOrder", "(IIII)I"⟩ ⟨"KinderTowns$Country", "makeOrder", "(IIII)I"⟩ ∈ kt_GW := kt_gw 18 rfl rfl
theorem tp_19 : Cond.selects "KinderTowns$Country" ⟨"KinderTowns$Country", "makeCancellation", "(II)I"⟩ ⟨"KinderTowns$Country", "makeCancellation", "(II)I"⟩ ∈ kt_GW := kt_gw 19 rfl rfl
theorem tp_20 : Cond.selects "KinderTowns$Events" ⟨"KinderTowns$Events", "isOrder", "(I)Z"⟩ ⟨"KinderTowns$Events", "isOrder", "(I)Z"⟩ ∈ kt_GW := kt_gw 20 rfl rfl
theorem tp_21 : Cond.selects "KinderTowns$Country" ⟨"KinderTowns$Country", "letMeet", "(II)I"⟩ ⟨"KinderTowns$Country", "letMeet", "(II)I"⟩ ∈ kt_GW := kt_gw 21 rfl rfl
theorem tp_22 : Cond.selects "KinderTowns$Country" ⟨"KinderTowns$Country", "letHear", "(II)I"⟩ ⟨"KinderTowns$Country", "letHear", "(II)I"⟩ ∈ kt_GW := kt_gw 22 rfl rfl
theorem tp_23 : Cond.selects "KinderTowns$Country" ⟨"KinderTowns$Country", "newsFor", "(IJ)I"⟩ ⟨"KinderTowns$Country", "newsFor", "(IJ)I"⟩ ∈ kt_GW := kt_gw 23 rfl rfl
theorem tp_24 : Cond.selects "KinderTowns$Country" ⟨"KinderTowns$Country", "setRule", "(I)I"⟩ ⟨"KinderTowns$Country", "setRule", "(I)I"⟩ ∈ kt_GW := kt_gw 24 rfl rfl
theorem tp_25 : Cond.selects "KinderTowns$Country" ⟨"KinderTowns$Country", "townsWith", "([JI)I"⟩ ⟨"KinderTowns$Country", "townsWith", "([JI)I"⟩ ∈ kt_GW := kt_gw 25 rfl rfl
theorem tp_26 : Cond.selects "KinderTowns$Events" ⟨"KinderTowns$Events", "having", "([II)J"⟩ ⟨"KinderTowns$Events", "having", "([II)J"⟩ ∈ kt_GW := kt_gw 26 rfl rfl
theorem tp_27 : Cond.selects "KinderTowns$Country" ⟨"KinderTowns$Country", "townsThatKnow", "(J)I"⟩ ⟨"KinderTowns$Country", "townsThatKnow", "(J)I"⟩ ∈ kt_GW := kt_gw 27 rfl rfl
theorem tp_28 : Cond.selects "KinderTowns$Events" ⟨"KinderTowns$Events", "piecesOf", "(J)I"⟩ ⟨"KinderTowns$Events", "piecesOf", "(J)I"⟩ ∈ kt_GW := kt_gw 28 rfl rfl
theorem tp_29 : Cond.selects "KinderTowns$Country" ⟨"KinderTowns$Country", "apologiesFor", "(J)I"⟩ ⟨"KinderTowns$Country", "apologiesFor", "(J)I"⟩ ∈ kt_GW := kt_gw 29 rfl rfl
theorem tp_30 : Cond.selects "KinderTowns$Events" ⟨"KinderTowns$Events", "all", "()J"⟩ ⟨"KinderTowns$Events", "all", "()J"⟩ ∈ kt_GW := kt_gw 30 rfl rfl
theorem tp_31 : Cond.selects "KinderTowns$Country" ⟨"KinderTowns$Country", "knownByAll", "()J"⟩ ⟨"KinderTowns$Country", "knownByAll", "()J"⟩ ∈ kt_GW := kt_gw 31 rfl rfl
theorem tp_32 : Cond.selects "KinderTowns$Country" ⟨"KinderTowns$Country", "allKnowTheSame", "()Z"⟩ ⟨"KinderTowns$Country", "allKnowTheSame", "()Z"⟩ ∈ kt_GW := kt_gw 32 rfl rfl
theorem tp_33 : Cond.selects "KinderTowns" ⟨"KinderTowns", "newApologies", "()I"⟩ ⟨"KinderTowns", "newApologies", "()I"⟩ ∈ kt_GW := kt_gw 33 rfl rfl
theorem tp_34 : Cond.selects "KinderTowns" ⟨"KinderTowns", "otherThoughts", "(I)J"⟩ ⟨"KinderTowns", "otherThoughts", "(I)J"⟩ ∈ kt_GW := kt_gw 34 rfl rfl
theorem tp_35 : Cond.selects "KinderTowns$Events" ⟨"KinderTowns$Events", "goodsOf", "(J)I"⟩ ⟨"KinderTowns$Events", "goodsOf", "(J)I"⟩ ∈ kt_GW := kt_gw 35 rfl rfl
theorem tp_36 : Cond.selects "KinderTowns$Events" ⟨"KinderTowns$Events", "personsIn", "(J)I"⟩ ⟨"KinderTowns$Events", "personsIn", "(J)I"⟩ ∈ kt_GW := kt_gw 36 rfl rfl
theorem tp_37 : Cond.selects "KinderTowns$Country" ⟨"KinderTowns$Country", "meetInTurn", "()V"⟩ ⟨"KinderTowns$Country", "meetInTurn", "()V"⟩ ∈ kt_GW := kt_gw 37 rfl rfl
theorem tp_38 : Cond.selects "KinderTowns$Script" ⟨"KinderTowns$Script", "runOn", "(LKinderTowns$Country;)V"⟩ ⟨"KinderTowns$Script", "runOn", "(LKinderTowns$Country;)V"⟩ ∈ kt_GW := kt_gw 38 rfl rfl
theorem tp_39 : Cond.selects "KinderTowns$Script" ⟨"KinderTowns$Script", "read", "(I)I"⟩ ⟨"KinderTowns$Script", "read", "(I)I"⟩ ∈ kt_GW := kt_gw 39 rfl rfl
theorem tp_40 : Cond.selects "KinderTowns$Script" ⟨"KinderTowns$Script", "signAt", "(I)I"⟩ ⟨"KinderTowns$Script", "signAt", "(I)I"⟩ ∈ kt_GW := kt_gw 40 rfl rfl
theorem tp_41 : Cond.selects "KinderTowns$Script" ⟨"KinderTowns$Script", "digitsAt", "(I)I"⟩ ⟨"KinderTowns$Script", "digitsAt", "(I)I"⟩ ∈ kt_GW := kt_gw 41 rfl rfl
theorem tp_42 : Cond.selects "KinderTowns$Script" ⟨"KinderTowns$Script", "isDigit", "(I)Z"⟩ ⟨"KinderTowns$Script", "isDigit", "(I)Z"⟩ ∈ kt_GW := kt_gw 42 rfl rfl
theorem tp_43 : Cond.selects "KinderTowns$Script" ⟨"KinderTowns$Script", "digit", "(I)I"⟩ ⟨"KinderTowns$Script", "digit", "(I)I"⟩ ∈ kt_GW := kt_gw 43 rfl rfl
theorem tp_44 : Cond.selects "KinderTowns$Script" ⟨"KinderTowns$Script", "doCommand", "(LKinderTowns$Country;I)I"⟩ ⟨"KinderTowns$Script", "doCommand", "(LKinderTowns$Country;I)I"⟩ ∈ kt_GW := kt_gw 44 rfl rfl
theorem tp_45 : Cond.selects "KinderTownsModel" ⟨"KinderTownsModel", "changes", "()V"⟩ ⟨"KinderTownsModel", "changes", "()V"⟩ ∈ kt_GW := kt_gw 45 rfl rfl
theorem tp_46 : Cond.selects "KinderTownsModel" ⟨"KinderTownsModel", "records", "()V"⟩ ⟨"KinderTownsModel", "records", "()V"⟩ ∈ kt_GW := kt_gw 46 rfl rfl
theorem tp_47 : Cond.selects "KinderTownsModel" ⟨"KinderTownsModel", "remembers", "()V"⟩ ⟨"KinderTownsModel", "remembers", "()V"⟩ ∈ kt_GW := kt_gw 47 rfl rfl
theorem tp_48 : Cond.selects "KinderTownsModel" ⟨"KinderTownsModel", "thinksAll", "(I)V"⟩ ⟨"KinderTownsModel", "thinksAll", "(I)V"⟩ ∈ kt_GW := kt_gw 48 rfl rfl
theorem tp_49 : Cond.selects "KinderTownsModel" ⟨"KinderTownsModel", "thinksOf", "(I)V"⟩ ⟨"KinderTownsModel", "thinksOf", "(I)V"⟩ ∈ kt_GW := kt_gw 49 rfl rfl
theorem tp_50 : Cond.selects "KinderTownsModel" ⟨"KinderTownsModel", "of", "(II)I"⟩ ⟨"KinderTownsModel", "of", "(II)I"⟩ ∈ kt_GW := kt_gw 50 rfl rfl
theorem tp_51 : Cond.selects "KinderTownsModel" ⟨"KinderTownsModel", "knows", "(II)Z"⟩ ⟨"KinderTownsModel", "knows", "(II)Z"⟩ ∈ kt_GW := kt_gw 51 rfl rfl
theorem tp_52 : Cond.selects "KinderTownsModel" ⟨"KinderTownsModel", "isCancelled", "(II)Z"⟩ ⟨"KinderTownsModel", "isCancelled", "(II)Z"⟩ ∈ kt_GW := kt_gw 52 rfl rfl
theorem tp_53 : Cond.selects "KinderTownsModel" ⟨"KinderTownsModel", "looks", "(II)V"⟩ ⟨"KinderTownsModel", "looks", "(II)V"⟩ ∈ kt_GW := kt_gw 53 rfl rfl
theorem tp_54 : Cond.selects "KinderTownsModel" ⟨"KinderTownsModel", "stock", "(II)I"⟩ ⟨"KinderTownsModel", "stock", "(II)I"⟩ ∈ kt_GW := kt_gw 54 rfl rfl
theorem tp_55 : Cond.selects "KinderTownsModel" ⟨"KinderTownsModel", "isAhead", "(II)Z"⟩ ⟨"KinderTownsModel", "isAhead", "(II)Z"⟩ ∈ kt_GW := kt_gw 55 rfl rfl
theorem tp_56 : Cond.selects "KinderTownsModel" ⟨"KinderTownsModel", "isEarlier", "(II)Z"⟩ ⟨"KinderTownsModel", "isEarlier", "(II)Z"⟩ ∈ kt_GW := kt_gw 56 rfl rfl
theorem tp_57 : Cond.selects "KinderTownsModel" ⟨"KinderTownsModel", "isTown", "(I)Z"⟩ ⟨"KinderTownsModel", "isTown", "(I)Z"⟩ ∈ kt_GW := kt_gw 57 rfl rfl
theorem tp_58 : Cond.selects "KinderTownsModel" ⟨"KinderTownsModel", "makes", "(IIIIII)I"⟩ ⟨"KinderTownsModel", "makes", "(IIIIII)I"⟩ ∈ kt_GW := kt_gw 58 rfl rfl
theorem tp_59 : Cond.selects "KinderTownsModel" ⟨"KinderTownsModel", "puts", "(III)V"⟩ ⟨"KinderTownsModel", "puts", "(III)V"⟩ ∈ kt_GW := kt_gw 59 rfl rfl
theorem tp_60 : Cond.selects "KinderTownsModel" ⟨"KinderTownsModel", "apologizes", "(I)I"⟩ ⟨"KinderTownsModel", "apologizes", "(I)I"⟩ ∈ kt_GW := kt_gw 60 rfl rfl
theorem tp_61 : Cond.selects "KinderTownsModel" ⟨"KinderTownsModel", "isEvent", "(I)Z"⟩ ⟨"KinderTownsModel", "isEvent", "(I)Z"⟩ ∈ kt_GW := kt_gw 61 rfl rfl
theorem tp_62 : Cond.selects "KinderTownsModel" ⟨"KinderTownsModel", "hears", "(IIZ)I"⟩ ⟨"KinderTownsModel", "hears", "(IIZ)I"⟩ ∈ kt_GW := kt_gw 62 rfl rfl
theorem tp_63 : Cond.selects "KinderTownsModel" ⟨"KinderTownsModel", "knownBy", "(I)I"⟩ ⟨"KinderTownsModel", "knownBy", "(I)I"⟩ ∈ kt_GW := kt_gw 63 rfl rfl
theorem tp_64 : Cond.selects "KinderTownsModel" ⟨"KinderTownsModel", "withStatus", "(II)I"⟩ ⟨"KinderTownsModel", "withStatus", "(II)I"⟩ ∈ kt_GW := kt_gw 64 rfl rfl
theorem tp_65 : Cond.selects "KinderTownsModel" ⟨"KinderTownsModel", "\x73orry", "(I)I"⟩ ⟨"KinderTownsModel", "\x73orry", "(I)I"⟩ ∈ kt_GW := kt_gw 65 rfl rfl
theorem tp_66 : Cond.selects "KinderTownsModel" ⟨"KinderTownsModel", "madeIn", "(I)I"⟩ ⟨"KinderTownsModel", "madeIn", "(I)I"⟩ ∈ kt_GW := kt_gw 66 rfl rfl
theorem tp_67 : Cond.selects "KinderTownsModel" ⟨"KinderTownsModel", "likes", "(I)I"⟩ ⟨"KinderTownsModel", "likes", "(I)I"⟩ ∈ kt_GW := kt_gw 67 rfl rfl
theorem tp_68 : Cond.selects "KinderTownsModel" ⟨"KinderTownsModel", "ofKind", "(I)I"⟩ ⟨"KinderTownsModel", "ofKind", "(I)I"⟩ ∈ kt_GW := kt_gw 68 rfl rfl
theorem tp_69 : Cond.selects "KinderTownsModel" ⟨"KinderTownsModel", "sorries", "()I"⟩ ⟨"KinderTownsModel", "sorries", "()I"⟩ ∈ kt_GW := kt_gw 69 rfl rfl
theorem tp_70 : Cond.selects "KinderTownsModel" ⟨"KinderTownsModel", "everyone", "()I"⟩ ⟨"KinderTownsModel", "everyone", "()I"⟩ ∈ kt_GW := kt_gw 70 rfl rfl
theorem tp_71 : Cond.selects "KinderTownsModel" ⟨"KinderTownsModel", "known", "(I)I"⟩ ⟨"KinderTownsModel", "known", "(I)I"⟩ ∈ kt_GW := kt_gw 71 rfl rfl
theorem tp_72 : Cond.selects "KinderTownsModel" ⟨"KinderTownsModel", "thinksBoth", "(II)V"⟩ ⟨"KinderTownsModel", "thinksBoth", "(II)V"⟩ ∈ kt_GW := kt_gw 72 rfl rfl
theorem tp_73 : Cond.selects "KinderTownsModel" ⟨"KinderTownsModel", "others", "(II)I"⟩ ⟨"KinderTownsModel", "others", "(II)I"⟩ ∈ kt_GW := kt_gw 73 rfl rfl
theorem tp_74 : Cond.selects "KinderTownsModel" ⟨"KinderTownsModel", "happy", "()I"⟩ ⟨"KinderTownsModel", "happy", "()I"⟩ ∈ kt_GW := kt_gw 74 rfl rfl
theorem tp_75 : Cond.selects "KinderTownsModel" ⟨"KinderTownsModel", "plays", "()I"⟩ ⟨"KinderTownsModel", "plays", "()I"⟩ ∈ kt_GW := kt_gw 75 rfl rfl
theorem tp_76 : Cond.selects "KinderTownsModel" ⟨"KinderTownsModel", "number", "(II)Z"⟩ ⟨"KinderTownsModel", "number", "(II)Z"⟩ ∈ kt_GW := kt_gw 76 rfl rfl
theorem tp_77 : Cond.selects "KinderTownsModel" ⟨"KinderTownsModel", "isAt", "(II)Z"⟩ ⟨"KinderTownsModel", "isAt", "(II)Z"⟩ ∈ kt_GW := kt_gw 77 rfl rfl
theorem tp_78 : Cond.selects "KinderTownsModel" ⟨"KinderTownsModel", "calls", "(I)I"⟩ ⟨"KinderTownsModel", "calls", "(I)I"⟩ ∈ kt_GW := kt_gw 78 rfl rfl
theorem j_K_init : kt_JO i_K_init 0 := ⟨tw_15, tw_1, by decide, by decide, by decide, by decide +kernel⟩
theorem j_L_init : kt_JO i_L_init 0 := ⟨tw_25, tw_2, by decide, by decide, by decide, by decide +kernel⟩
theorem j_S_init : kt_JO i_S_init 0 := ⟨tw_56, tw_3, by decide, by decide, by decide, by decide +kernel⟩
theorem j_C_init : kt_JO i_C_init 1 := ⟨tw_85, tw_4, by decide, by decide, by decide, by decide +kernel⟩
theorem j_E_init : kt_JO i_E_init 0 := ⟨tw_91, tw_5, by decide, by decide, by decide, by decide +kernel⟩
theorem j_K_town : kt_JO i_K_town 0 := ⟨tw_203, tw_1, by decide, by decide, by decide, by decide +kernel⟩
theorem j_C_copyFrom : kt_JO i_C_copyFrom 1 := ⟨tw_207, tw_4, by decide, by decide, by decide, by decide +kernel⟩
theorem j_E_copyFrom : kt_JO i_E_copyFrom 1 := ⟨tw_211, tw_5, by decide, by decide, by decide, by decide +kernel⟩
theorem j_C_addTown : kt_JO i_C_addTown 0 := ⟨tw_219, tw_4, by decide, by decide, by decide, by decide +kernel⟩
theorem j_K_isBelow : kt_JO i_K_isBelow 2 := ⟨tw_222, tw_1, by decide, by decide, by decide, by decide +kernel⟩
theorem j_K_recorded : kt_JO i_K_recorded 1 := ⟨tw_226, tw_1, by decide, by decide, by decide, by decide +kernel⟩
theorem j_C_thinkAnew : kt_JO i_C_thinkAnew 0 := ⟨tw_230, tw_4, by decide, by decide, by decide, by decide +kernel⟩
theorem j_L_lookAtAll : kt_JO i_L_lookAtAll 3 := ⟨tw_234, tw_2, by decide, by decide, by decide, by decide +kernel⟩
theorem j_E_standingIn : kt_JO i_E_standingIn 1 := ⟨tw_238, tw_5, by decide, by decide, by decide, by decide +kernel⟩
theorem j_E_cancelledIn : kt_JO i_E_cancelledIn 1 := ⟨tw_242, tw_5, by decide, by decide, by decide, by decide +kernel⟩
theorem j_K_has : kt_JO i_K_has 2 := ⟨tw_245, tw_1, by decide, by decide, by decide, by decide +kernel⟩
theorem j_L_lookAtGood : kt_JO i_L_lookAtGood 4 := ⟨tw_250, tw_2, by decide, by decide, by decide, by decide +kernel⟩
theorem j_L_gather : kt_JO i_L_gather 3 := ⟨tw_254, tw_2, by decide, by decide, by decide, by decide +kernel⟩
theorem j_J_fill : kt_JO i_J_fill 2 := ⟨tw_258, tw_8, by decide, by decide, by decide, by decide +kernel⟩
theorem j_L_nextPlace : kt_JO i_L_nextPlace 3 := ⟨tw_262, tw_2, by decide, by decide, by decide, by decide +kernel⟩
theorem j_L_weight : kt_JO i_L_weight 3 := ⟨tw_266, tw_2, by decide, by decide, by decide, by decide +kernel⟩
theorem j_L_decide : kt_JO i_L_decide 3 := ⟨tw_270, tw_2, by decide, by decide, by decide, by decide +kernel⟩
theorem j_K_keepSpare : kt_JO i_K_keepSpare 0 := ⟨tw_275, tw_1, by decide, by decide, by decide, by decide +kernel⟩
theorem j_K_deliver : kt_JO i_K_deliver 3 := ⟨tw_280, tw_1, by decide, by decide, by decide, by decide +kernel⟩
theorem j_C_makeDelivery : kt_JO i_C_makeDelivery 3 := ⟨tw_284, tw_4, by decide, by decide, by decide, by decide +kernel⟩
theorem j_C_isTown : kt_JO i_C_isTown 1 := ⟨tw_288, tw_4, by decide, by decide, by decide, by decide +kernel⟩
theorem j_C_make : kt_JO i_C_make 4 := ⟨tw_292, tw_4, by decide, by decide, by decide, by decide +kernel⟩
theorem j_E_add : kt_JO i_E_add 5 := ⟨tw_296, tw_5, by decide, by decide, by decide, by decide +kernel⟩
theorem j_K_order : kt_JO i_K_order 4 := ⟨tw_301, tw_1, by decide, by decide, by decide, by decide +kernel⟩
theorem j_C_makeOrder : kt_JO i_C_makeOrder 4 := ⟨tw_305, tw_4, by decide, by decide, by decide, by decide +kernel⟩
theorem j_K_cancel : kt_JO i_K_cancel 2 := ⟨tw_309, tw_1, by decide, by decide, by decide, by decide +kernel⟩
theorem j_C_makeCancellation : kt_JO i_C_makeCancellation 2 := ⟨tw_313, tw_4, by decide, by decide, by decide, by decide +kernel⟩
theorem j_E_isOrder : kt_JO i_E_isOrder 1 := ⟨tw_317, tw_5, by decide, by decide, by decide, by decide +kernel⟩
theorem j_K_meet : kt_JO i_K_meet 2 := ⟨tw_323, tw_1, by decide, by decide, by decide, by decide +kernel⟩
theorem j_C_letMeet : kt_JO i_C_letMeet 2 := ⟨tw_327, tw_4, by decide, by decide, by decide, by decide +kernel⟩
theorem j_C_letHear : kt_JO i_C_letHear 2 := ⟨tw_331, tw_4, by decide, by decide, by decide, by decide +kernel⟩
theorem j_C_newsFor : kt_JO i_C_newsFor 2 := ⟨tw_335, tw_4, by decide, by decide, by decide, by decide +kernel⟩
theorem j_J_bitCount : kt_JO i_J_bitCount 1 := ⟨tw_339, tw_9, by decide, by decide, by decide, by decide +kernel⟩
theorem j_K_hear : kt_JO i_K_hear 2 := ⟨tw_349, tw_1, by decide, by decide, by decide, by decide +kernel⟩
theorem j_K_rule : kt_JO i_K_rule 1 := ⟨tw_354, tw_1, by decide, by decide, by decide, by decide +kernel⟩
theorem j_C_setRule : kt_JO i_C_setRule 1 := ⟨tw_358, tw_4, by decide, by decide, by decide, by decide +kernel⟩
theorem j_K_eventOf : kt_JO i_K_eventOf 2 := ⟨tw_362, tw_1, by decide, by decide, by decide, by decide +kernel⟩
theorem j_C_townsWith : kt_JO i_C_townsWith 2 := ⟨tw_366, tw_4, by decide, by decide, by decide, by decide +kernel⟩
theorem j_K_thinks : kt_JO i_K_thinks 2 := ⟨tw_370, tw_1, by decide, by decide, by decide, by decide +kernel⟩
theorem j_K_townOf : kt_JO i_K_townOf 2 := ⟨tw_376, tw_1, by decide, by decide, by decide, by decide +kernel⟩
theorem j_E_having : kt_JO i_E_having 2 := ⟨tw_382, tw_5, by decide, by decide, by decide, by decide +kernel⟩
theorem j_C_townsThatKnow : kt_JO i_C_townsThatKnow 1 := ⟨tw_386, tw_4, by decide, by decide, by decide, by decide +kernel⟩
theorem j_K_goodOf : kt_JO i_K_goodOf 3 := ⟨tw_390, tw_1, by decide, by decide, by decide, by decide +kernel⟩
theorem j_E_piecesOf : kt_JO i_E_piecesOf 1 := ⟨tw_394, tw_5, by decide, by decide, by decide, by decide +kernel⟩
theorem j_K_lookedAt : kt_JO i_K_lookedAt 3 := ⟨tw_398, tw_1, by decide, by decide, by decide, by decide +kernel⟩
theorem j_K_personOf : kt_JO i_K_personOf 3 := ⟨tw_404, tw_1, by decide, by decide, by decide, by decide +kernel⟩
theorem j_C_apologiesFor : kt_JO i_C_apologiesFor 1 := ⟨tw_408, tw_4, by decide, by decide, by decide, by decide +kernel⟩
theorem j_K_unheard : kt_JO i_K_unheard 2 := ⟨tw_412, tw_1, by decide, by decide, by decide, by decide +kernel⟩
theorem j_K_count : kt_JO i_K_count 1 := ⟨tw_417, tw_1, by decide, by decide, by decide, by decide +kernel⟩
theorem j_E_all : kt_JO i_E_all 0 := ⟨tw_421, tw_5, by decide, by decide, by decide, by decide +kernel⟩
theorem j_C_knownByAll : kt_JO i_C_knownByAll 0 := ⟨tw_425, tw_4, by decide, by decide, by decide, by decide +kernel⟩
theorem j_C_allKnowTheSame : kt_JO i_C_allKnowTheSame 0 := ⟨tw_430, tw_4, by decide, by decide, by decide, by decide +kernel⟩
theorem j_K_would : kt_JO i_K_would 3 := ⟨tw_434, tw_1, by decide, by decide, by decide, by decide +kernel⟩
theorem j_K_newApologies : kt_JO i_K_newApologies 0 := ⟨tw_438, tw_1, by decide, by decide, by decide, by decide +kernel⟩
theorem j_K_otherThoughts : kt_JO i_K_otherThoughts 1 := ⟨tw_442, tw_1, by decide, by decide, by decide, by decide +kernel⟩
theorem j_E_goodsOf : kt_JO i_E_goodsOf 1 := ⟨tw_446, tw_5, by decide, by decide, by decide, by decide +kernel⟩
theorem j_K_wouldRule : kt_JO i_K_wouldRule 1 := ⟨tw_450, tw_1, by decide, by decide, by decide, by decide +kernel⟩
theorem j_K_kindest : kt_JO i_K_kindest 1 := ⟨tw_454, tw_1, by decide, by decide, by decide, by decide +kernel⟩
theorem j_E_personsIn : kt_JO i_E_personsIn 1 := ⟨tw_459, tw_5, by decide, by decide, by decide, by decide +kernel⟩
theorem j_K_rounds : kt_JO i_K_rounds 0 := ⟨tw_464, tw_1, by decide, by decide, by decide, by decide +kernel⟩
theorem j_C_meetInTurn : kt_JO i_C_meetInTurn 0 := ⟨tw_468, tw_4, by decide, by decide, by decide, by decide +kernel⟩
theorem j_K_undo : kt_JO i_K_undo 0 := ⟨tw_472, tw_1, by decide, by decide, by decide, by decide +kernel⟩
theorem j_K_type : kt_JO i_K_type 1 := ⟨tw_476, tw_1, by decide, by decide, by decide, by decide +kernel⟩
theorem j_K_clearText : kt_JO i_K_clearText 0 := ⟨tw_480, tw_1, by decide, by decide, by decide, by decide +kernel⟩
theorem j_K_fault : kt_JO i_K_fault 1 := ⟨tw_484, tw_1, by decide, by decide, by decide, by decide +kernel⟩
theorem j_S_runOn : kt_JO i_S_runOn 1 := ⟨tw_488, tw_3, by decide, by decide, by decide, by decide +kernel⟩
theorem j_S_read : kt_JO i_S_read 1 := ⟨tw_492, tw_3, by decide, by decide, by decide, by decide +kernel⟩
theorem j_S_signAt : kt_JO i_S_signAt 1 := ⟨tw_496, tw_3, by decide, by decide, by decide, by decide +kernel⟩
theorem j_S_numbersBehind : kt_JO i_S_numbersBehind 1 := ⟨tw_500, tw_3, by decide, by decide, by decide, by decide +kernel⟩
theorem j_S_digitsAt : kt_JO i_S_digitsAt 1 := ⟨tw_504, tw_3, by decide, by decide, by decide, by decide +kernel⟩
theorem j_S_isDigit : kt_JO i_S_isDigit 1 := ⟨tw_508, tw_3, by decide, by decide, by decide, by decide +kernel⟩
theorem j_S_digit : kt_JO i_S_digit 1 := ⟨tw_512, tw_3, by decide, by decide, by decide, by decide +kernel⟩
theorem j_S_doCommand : kt_JO i_S_doCommand 2 := ⟨tw_516, tw_3, by decide, by decide, by decide, by decide +kernel⟩
theorem j_S_reasonOf : kt_JO i_S_reasonOf 1 := ⟨tw_525, tw_3, by decide, by decide, by decide, by decide +kernel⟩
theorem j_K_play : kt_JO i_K_play 0 := ⟨tw_530, tw_1, by decide, by decide, by decide, by decide +kernel⟩
theorem j_M_init : kt_JO i_M_init 0 := ⟨tw_535, tw_6, by decide, by decide, by decide, by decide +kernel⟩
theorem j_M_town : kt_JO i_M_town 0 := ⟨tw_596, tw_6, by decide, by decide, by decide, by decide +kernel⟩
theorem j_M_changes : kt_JO i_M_changes 0 := ⟨tw_600, tw_6, by decide, by decide, by decide, by decide +kernel⟩
theorem j_M_records : kt_JO i_M_records 0 := ⟨tw_604, tw_6, by decide, by decide, by decide, by decide +kernel⟩
theorem j_M_remembers : kt_JO i_M_remembers 0 := ⟨tw_608, tw_6, by decide, by decide, by decide, by decide +kernel⟩
theorem j_M_thinksAll : kt_JO i_M_thinksAll 1 := ⟨tw_612, tw_6, by decide, by decide, by decide, by decide +kernel⟩
theorem j_M_thinksOf : kt_JO i_M_thinksOf 1 := ⟨tw_616, tw_6, by decide, by decide, by decide, by decide +kernel⟩
theorem j_M_of : kt_JO i_M_of 2 := ⟨tw_620, tw_6, by decide, by decide, by decide, by decide +kernel⟩
theorem j_M_knows : kt_JO i_M_knows 2 := ⟨tw_624, tw_6, by decide, by decide, by decide, by decide +kernel⟩
theorem j_M_isCancelled : kt_JO i_M_isCancelled 2 := ⟨tw_628, tw_6, by decide, by decide, by decide, by decide +kernel⟩
theorem j_M_looks : kt_JO i_M_looks 2 := ⟨tw_632, tw_6, by decide, by decide, by decide, by decide +kernel⟩
theorem j_M_stock : kt_JO i_M_stock 2 := ⟨tw_636, tw_6, by decide, by decide, by decide, by decide +kernel⟩
theorem j_M_isAhead : kt_JO i_M_isAhead 2 := ⟨tw_640, tw_6, by decide, by decide, by decide, by decide +kernel⟩
theorem j_M_isEarlier : kt_JO i_M_isEarlier 2 := ⟨tw_644, tw_6, by decide, by decide, by decide, by decide +kernel⟩
theorem j_M_deliver : kt_JO i_M_deliver 3 := ⟨tw_648, tw_6, by decide, by decide, by decide, by decide +kernel⟩
theorem j_M_isTown : kt_JO i_M_isTown 1 := ⟨tw_652, tw_6, by decide, by decide, by decide, by decide +kernel⟩
theorem j_M_in : kt_JO i_M_in 3 := ⟨tw_655, tw_6, by decide, by decide, by decide, by decide +kernel⟩
theorem j_M_makes : kt_JO i_M_makes 6 := ⟨tw_659, tw_6, by decide, by decide, by decide, by decide +kernel⟩
theorem j_M_puts : kt_JO i_M_puts 3 := ⟨tw_663, tw_6, by decide, by decide, by decide, by decide +kernel⟩
theorem j_M_apologizes : kt_JO i_M_apologizes 1 := ⟨tw_667, tw_6, by decide, by decide, by decide, by decide +kernel⟩
theorem j_M_order : kt_JO i_M_order 4 := ⟨tw_671, tw_6, by decide, by decide, by decide, by decide +kernel⟩
theorem j_M_cancel : kt_JO i_M_cancel 2 := ⟨tw_675, tw_6, by decide, by decide, by decide, by decide +kernel⟩
theorem j_M_isEvent : kt_JO i_M_isEvent 1 := ⟨tw_679, tw_6, by decide, by decide, by decide, by decide +kernel⟩
theorem j_M_meet : kt_JO i_M_meet 2 := ⟨tw_683, tw_6, by decide, by decide, by decide, by decide +kernel⟩
theorem j_M_hears : kt_JO i_M_hears 3 := ⟨tw_687, tw_6, by decide, by decide, by decide, by decide +kernel⟩
theorem j_M_hear : kt_JO i_M_hear 2 := ⟨tw_691, tw_6, by decide, by decide, by decide, by decide +kernel⟩
theorem j_M_rule : kt_JO i_M_rule 1 := ⟨tw_695, tw_6, by decide, by decide, by decide, by decide +kernel⟩
theorem j_M_eventOf : kt_JO i_M_eventOf 2 := ⟨tw_699, tw_6, by decide, by decide, by decide, by decide +kernel⟩
theorem j_M_thinks : kt_JO i_M_thinks 2 := ⟨tw_703, tw_6, by decide, by decide, by decide, by decide +kernel⟩
theorem j_M_townOf : kt_JO i_M_townOf 2 := ⟨tw_707, tw_6, by decide, by decide, by decide, by decide +kernel⟩
theorem j_M_knownBy : kt_JO i_M_knownBy 1 := ⟨tw_711, tw_6, by decide, by decide, by decide, by decide +kernel⟩
theorem j_M_withStatus : kt_JO i_M_withStatus 2 := ⟨tw_715, tw_6, by decide, by decide, by decide, by decide +kernel⟩
theorem j_M_sorry : kt_JO i_M_sorry 1 := ⟨tw_719, tw_6, by decide, by decide, by decide, by decide +kernel⟩
theorem j_M_madeIn : kt_JO i_M_madeIn 1 := ⟨tw_723, tw_6, by decide, by decide, by decide, by decide +kernel⟩
theorem j_M_likes : kt_JO i_M_likes 1 := ⟨tw_727, tw_6, by decide, by decide, by decide, by decide +kernel⟩
theorem j_M_goodOf : kt_JO i_M_goodOf 3 := ⟨tw_731, tw_6, by decide, by decide, by decide, by decide +kernel⟩
theorem j_M_lookedAt : kt_JO i_M_lookedAt 3 := ⟨tw_735, tw_6, by decide, by decide, by decide, by decide +kernel⟩
theorem j_M_personOf : kt_JO i_M_personOf 3 := ⟨tw_739, tw_6, by decide, by decide, by decide, by decide +kernel⟩
theorem j_M_bits : kt_JO i_M_bits 1 := ⟨tw_742, tw_6, by decide, by decide, by decide, by decide +kernel⟩
theorem j_M_unheard : kt_JO i_M_unheard 2 := ⟨tw_746, tw_6, by decide, by decide, by decide, by decide +kernel⟩
theorem j_M_count : kt_JO i_M_count 1 := ⟨tw_750, tw_6, by decide, by decide, by decide, by decide +kernel⟩
theorem j_M_ofKind : kt_JO i_M_ofKind 1 := ⟨tw_754, tw_6, by decide, by decide, by decide, by decide +kernel⟩
theorem j_M_sorries : kt_JO i_M_sorries 0 := ⟨tw_758, tw_6, by decide, by decide, by decide, by decide +kernel⟩
theorem j_M_everyone : kt_JO i_M_everyone 0 := ⟨tw_762, tw_6, by decide, by decide, by decide, by decide +kernel⟩
theorem j_M_known : kt_JO i_M_known 1 := ⟨tw_766, tw_6, by decide, by decide, by decide, by decide +kernel⟩
theorem j_M_would : kt_JO i_M_would 3 := ⟨tw_770, tw_6, by decide, by decide, by decide, by decide +kernel⟩
theorem j_M_copies : kt_JO i_M_copies 2 := ⟨tw_773, tw_6, by decide, by decide, by decide, by decide +kernel⟩
theorem j_M_thinksBoth : kt_JO i_M_thinksBoth 2 := ⟨tw_777, tw_6, by decide, by decide, by decide, by decide +kernel⟩
theorem j_M_others : kt_JO i_M_others 2 := ⟨tw_781, tw_6, by decide, by decide, by decide, by decide +kernel⟩
theorem j_M_wouldRule : kt_JO i_M_wouldRule 1 := ⟨tw_785, tw_6, by decide, by decide, by decide, by decide +kernel⟩
theorem j_M_kindest : kt_JO i_M_kindest 1 := ⟨tw_789, tw_6, by decide, by decide, by decide, by decide +kernel⟩
theorem j_M_happy : kt_JO i_M_happy 0 := ⟨tw_793, tw_6, by decide, by decide, by decide, by decide +kernel⟩
theorem j_M_rounds : kt_JO i_M_rounds 0 := ⟨tw_797, tw_6, by decide, by decide, by decide, by decide +kernel⟩
theorem j_M_undo : kt_JO i_M_undo 0 := ⟨tw_801, tw_6, by decide, by decide, by decide, by decide +kernel⟩
theorem j_M_type : kt_JO i_M_type 1 := ⟨tw_805, tw_6, by decide, by decide, by decide, by decide +kernel⟩
theorem j_M_clearText : kt_JO i_M_clearText 0 := ⟨tw_809, tw_6, by decide, by decide, by decide, by decide +kernel⟩
theorem j_M_fault : kt_JO i_M_fault 1 := ⟨tw_813, tw_6, by decide, by decide, by decide, by decide +kernel⟩
theorem j_M_plays : kt_JO i_M_plays 0 := ⟨tw_817, tw_6, by decide, by decide, by decide, by decide +kernel⟩
theorem j_M_numbersOf : kt_JO i_M_numbersOf 1 := ⟨tw_820, tw_6, by decide, by decide, by decide, by decide +kernel⟩
theorem j_M_number : kt_JO i_M_number 2 := ⟨tw_824, tw_6, by decide, by decide, by decide, by decide +kernel⟩
theorem j_M_isAt : kt_JO i_M_isAt 2 := ⟨tw_828, tw_6, by decide, by decide, by decide, by decide +kernel⟩
theorem j_M_calls : kt_JO i_M_calls 1 := ⟨tw_832, tw_6, by decide, by decide, by decide, by decide +kernel⟩
theorem j_M_play : kt_JO i_M_play 0 := ⟨tw_842, tw_6, by decide, by decide, by decide, by decide +kernel⟩
end
section
theorem x_L_init_0 : kt_dc i_L_init 0 (.aload_n 0) 1 1 := ⟨by decide +kernel, rfl⟩
theorem x_L_init_1 : kt_dc i_L_init 1 (.invokespecial 3) 3 4 ∧ Cond.methodLink (kt_ow i_L_init) 3 Lib.objectInit ∈ kt_GW := ⟨⟨by decide +kernel, rfl⟩, tw_26⟩
theorem x_L_init_4 : kt_dc i_L_init 4 (.aload_n 0) 1 5 := ⟨by decide +kernel, rfl⟩
theorem x_L_init_5 : kt_dc i_L_init 5 (.bipush 60) 2 7 ∧ (Int8.ofInt (60)).toInt32 = (60 : Int32) := ⟨⟨by decide +kernel, rfl⟩, by decide⟩
theorem x_L_init_7 : kt_dc i_L_init 7 (.newarray .int) 2 9 ∧ Cond.arrayClass .int ∈ kt_GW := ⟨⟨by decide +kernel, rfl⟩, tw_51⟩
theorem x_L_init_9 : kt_sP i_L_init 9 2 0 2 12 := ⟨9, RX2, TX2, 6, tyX2 0, ⟨by decide +kernel, rfl⟩, rfl, by decide, rfl, by decide, by decide +kernel, rfl, Or.inr ⟨rfl, rfl, rfl, tw_27⟩⟩
theorem x_L_init_12 : kt_dc i_L_init 12 (.aload_n 0) 1 13 := ⟨by decide +kernel, rfl⟩
theorem x_L_init_13 : kt_dc i_L_init 13 (.bipush 10) 2 15 ∧ (Int8.ofInt (10)).toInt32 = (10 : Int32) := ⟨⟨by decide +kernel, rfl⟩, by decide⟩
theorem x_L_init_15 : kt_dc i_L_init 15 (.newarray .int) 2 17 ∧ Cond.arrayClass .int ∈ kt_GW := ⟨⟨by decide +kernel, rfl⟩, tw_51⟩
theorem x_L_init_17 : kt_sP i_L_init 17 2 3 2 20 := ⟨15, RX2, TX2, 6, tyX2 3, ⟨by decide +kernel, rfl⟩, rfl, by decide, rfl, by decide, by decide +kernel, rfl, Or.inr ⟨rfl, rfl, rfl, tw_32⟩⟩
theorem x_L_init_20 : kt_dc i_L_init 20 (.return_) 1 21 ∧ kt_rt i_L_init = none := ⟨⟨by decide +kernel, rfl⟩, rfl⟩
theorem x_S_init_0 : kt_dc i_S_init 0 (.aload_n 0) 1 1 := ⟨by decide +kernel, rfl⟩
theorem x_S_init_1 : kt_dc i_S_init 1 (.invokespecial 3) 3 4 ∧ Cond.methodLink (kt_ow i_S_init) 3 Lib.objectInit ∈ kt_GW := ⟨⟨by decide +kernel, rfl⟩, tw_57⟩
theorem x_S_init_4 : kt_dc i_S_init 4 (.aload_n 0) 1 5 := ⟨by decide +kernel, rfl⟩
theorem x_S_init_5 : kt_dc i_S_init 5 (.bipush 80) 2 7 ∧ (Int8.ofInt (80)).toInt32 = (80 : Int32) := ⟨⟨by decide +kernel, rfl⟩, by decide⟩
theorem x_S_init_7 : kt_dc i_S_init 7 (.newarray .int) 2 9 ∧ Cond.arrayClass .int ∈ kt_GW := ⟨⟨by decide +kernel, rfl⟩, tw_51⟩
theorem x_S_init_9 : kt_sP i_S_init 9 3 0 2 12 := ⟨9, RX3, TX3, 6, tyX3 0, ⟨by decide +kernel, rfl⟩, rfl, by decide, rfl, by decide, by decide +kernel, rfl, Or.inr ⟨rfl, rfl, rfl, tw_58⟩⟩
theorem x_S_init_12 : kt_dc i_S_init 12 (.aload_n 0) 1 13 := ⟨by decide +kernel, rfl⟩
theorem x_S_init_13 : kt_dc i_S_init 13 (.iconst 4) 1 14 ∧ Int32.ofInt (4) = (4 : Int32) := ⟨⟨by decide +kernel, rfl⟩, by decide⟩
theorem x_S_init_14 : kt_dc i_S_init 14 (.newarray .int) 2 16 ∧ Cond.arrayClass .int ∈ kt_GW := ⟨⟨by decide +kernel, rfl⟩, tw_51⟩
theorem x_S_init_16 : kt_sP i_S_init 16 3 2 2 19 := ⟨15, RX3, TX3, 6, tyX3 2, ⟨by decide +kernel, rfl⟩, rfl, by decide, rfl, by decide, by decide +kernel, rfl, Or.inr ⟨rfl, rfl, rfl, tw_62⟩⟩
theorem x_S_init_19 : kt_dc i_S_init 19 (.return_) 1 20 ∧ kt_rt i_S_init = none := ⟨⟨by decide +kernel, rfl⟩, rfl⟩
theorem x_C_init_0 : kt_dc i_C_init 0 (.aload_n 0) 1 1 := ⟨by decide +kernel, rfl⟩
theorem x_C_init_1 : kt_dc i_C_init 1 (.invokespecial 3) 3 4 ∧ Cond.methodLink (kt_ow i_C_init) 3 Lib.objectInit ∈ kt_GW := ⟨⟨by decide +kernel, rfl⟩, tw_86⟩
theorem x_C_init_4 : kt_dc i_C_init 4 (.aload_n 0) 1 5 := ⟨by decide +kernel, rfl⟩
theorem x_C_init_5 : kt_dc i_C_init 5 (.new 9) 3 8 ∧ ∃ (C : String) (T : u_T) (Nf : Nat), vwCl[1]? = some (C, T, Nf) ∧ Cond.classLink (kt_ow i_C_init) 9 C ∈ kt_GW ∧ Cond.instantiable C Nf ∈ kt_GW ∧ Cond.initialized C ∈ kt_GW := ⟨⟨by decide +kernel, rfl⟩, RX1, TX1, 8, rfl, tw_87, tw_88, tw_5⟩
theorem x_C_init_8 : kt_dc i_C_init 8 (.dup) 1 9 := ⟨by decide +kernel, rfl⟩
theorem x_C_init_9 : kt_sI i_C_init 9 i_E_init 0 12 := ⟨11, ⟨by decide +kernel, rfl⟩, Or.inr ⟨"KinderTowns", tw_89⟩, j_E_init, tw_90, rfl, rfl, rfl⟩
theorem c_C_init_9 {P : kt_P} {NM : Nat} {L : List (Option Value)} {rest : List Value} {N : Nat} {I : kt_I} {J : kt_J} {R : kt_R} {Q : Option Value → kt_I → kt_J → kt_R → Prop} {b : Nat} {N' : Nat} (hN : N ≤ N' ∧ N' ≤ NM) (hrest : (rest.map fun v => v.category).sum ≤ 8) (kk : KW P i_E_init N' 0 [some (.ref b)] [] N I J R (fun v I' J' R' => KW P i_C_init NM 12 L (kt_pu v rest) N' I' J' R' Q)) : KW P i_C_init NM 9 L (.ref b :: rest) N I J R Q := kw_callI x_C_init_9 (As := []) rfl rfl (Nat.le_of_ble_eq_true rfl) hrest hN.1 (fun _ => hN.2) kk
theorem x_C_init_12 : kt_sP i_C_init 12 0 1 2 15 := ⟨12, RX0, TX0, 11, tyX0 1, ⟨by decide +kernel, rfl⟩, rfl, by decide, rfl, by decide, by decide +kernel, rfl, Or.inr ⟨rfl, rfl, rfl, tw_139⟩⟩
theorem x_C_init_15 : kt_dc i_C_init 15 (.aload_n 0) 1 16 := ⟨by decide +kernel, rfl⟩
theorem x_C_init_16 : kt_dc i_C_init 16 (.iconst 5) 1 17 ∧ Int32.ofInt (5) = (5 : Int32) := ⟨⟨by decide +kernel, rfl⟩, by decide⟩
theorem x_C_init_17 : kt_dc i_C_init 17 (.newarray .int) 2 19 ∧ Cond.arrayClass .int ∈ kt_GW := ⟨⟨by decide +kernel, rfl⟩, tw_51⟩
theorem x_C_init_19 : kt_sP i_C_init 19 0 4 2 22 := ⟨18, RX0, TX0, 11, tyX0 4, ⟨by decide +kernel, rfl⟩, rfl, by decide, rfl, by decide, by decide +kernel, rfl, Or.inr ⟨rfl, rfl, rfl, tw_145⟩⟩
theorem x_C_init_22 : kt_dc i_C_init 22 (.aload_n 0) 1 23 := ⟨by decide +kernel, rfl⟩
theorem x_C_init_23 : kt_dc i_C_init 23 (.iconst 5) 1 24 ∧ Int32.ofInt (5) = (5 : Int32) := ⟨⟨by decide +kernel, rfl⟩, by decide⟩
theorem x_C_init_24 : kt_dc i_C_init 24 (.newarray .long) 2 26 ∧ Cond.arrayClass .long ∈ kt_GW := ⟨⟨by decide +kernel, rfl⟩, tw_180⟩
theorem x_C_init_26 : kt_sP i_C_init 26 0 5 2 29 := ⟨22, RX0, TX0, 11, tyX0 5, ⟨by decide +kernel, rfl⟩, rfl, by decide, rfl, by decide, by decide +kernel, rfl, Or.inr ⟨rfl, rfl, rfl, tw_147⟩⟩
theorem x_C_init_29 : kt_dc i_C_init 29 (.aload_n 0) 1 30 := ⟨by decide +kernel, rfl⟩
theorem x_C_init_30 : kt_dc i_C_init 30 (.iconst 5) 1 31 ∧ Int32.ofInt (5) = (5 : Int32) := ⟨⟨by decide +kernel, rfl⟩, by decide⟩
theorem x_C_init_31 : kt_dc i_C_init 31 (.newarray .long) 2 33 ∧ Cond.arrayClass .long ∈ kt_GW := ⟨⟨by decide +kernel, rfl⟩, tw_180⟩
theorem x_C_init_33 : kt_sP i_C_init 33 0 6 2 36 := ⟨26, RX0, TX0, 11, tyX0 6, ⟨by decide +kernel, rfl⟩, rfl, by decide, rfl, by decide, by decide +kernel, rfl, Or.inr ⟨rfl, rfl, rfl, tw_149⟩⟩
theorem x_C_init_36 : kt_dc i_C_init 36 (.aload_n 0) 1 37 := ⟨by decide +kernel, rfl⟩
theorem x_C_init_37 : kt_dc i_C_init 37 (.iconst 5) 1 38 ∧ Int32.ofInt (5) = (5 : Int32) := ⟨⟨by decide +kernel, rfl⟩, by decide⟩
theorem x_C_init_38 : kt_dc i_C_init 38 (.newarray .long) 2 40 ∧ Cond.arrayClass .long ∈ kt_GW := ⟨⟨by decide +kernel, rfl⟩, tw_180⟩
theorem x_C_init_40 : kt_sP i_C_init 40 0 7 2 43 := ⟨29, RX0, TX0, 11, tyX0 7, ⟨by decide +kernel, rfl⟩, rfl, by decide, rfl, by decide, by decide +kernel, rfl, Or.inr ⟨rfl, rfl, rfl, tw_151⟩⟩
theorem x_C_init_43 : kt_dc i_C_init 43 (.aload_n 0) 1 44 := ⟨by decide +kernel, rfl⟩
theorem x_C_init_44 : kt_dc i_C_init 44 (.iconst 5) 1 45 ∧ Int32.ofInt (5) = (5 : Int32) := ⟨⟨by decide +kernel, rfl⟩, by decide⟩
theorem x_C_init_45 : kt_dc i_C_init 45 (.newarray .long) 2 47 ∧ Cond.arrayClass .long ∈ kt_GW := ⟨⟨by decide +kernel, rfl⟩, tw_180⟩
theorem x_C_init_47 : kt_sP i_C_init 47 0 8 2 50 := ⟨32, RX0, TX0, 11, tyX0 8, ⟨by decide +kernel, rfl⟩, rfl, by decide, rfl, by decide, by decide +kernel, rfl, Or.inr ⟨rfl, rfl, rfl, tw_153⟩⟩
theorem x_C_init_50 : kt_dc i_C_init 50 (.aload_n 0) 1 51 := ⟨by decide +kernel, rfl⟩
theorem x_C_init_51 : kt_dc i_C_init 51 (.iconst 5) 1 52 ∧ Int32.ofInt (5) = (5 : Int32) := ⟨⟨by decide +kernel, rfl⟩, by decide⟩
theorem x_C_init_52 : kt_dc i_C_init 52 (.newarray .long) 2 54 ∧ Cond.arrayClass .long ∈ kt_GW := ⟨⟨by decide +kernel, rfl⟩, tw_180⟩
theorem x_C_init_54 : kt_sP i_C_init 54 0 9 2 57 := ⟨35, RX0, TX0, 11, tyX0 9, ⟨by decide +kernel, rfl⟩, rfl, by decide, rfl, by decide, by decide +kernel, rfl, Or.inr ⟨rfl, rfl, rfl, tw_155⟩⟩
theorem x_C_init_57 : kt_dc i_C_init 57 (.aload_n 0) 1 58 := ⟨by decide +kernel, rfl⟩
theorem x_C_init_58 : kt_dc i_C_init 58 (.aload_n 1) 1 59 := ⟨by decide +kernel, rfl⟩
theorem x_C_init_59 : kt_sP i_C_init 59 0 0 2 62 := ⟨38, RX0, TX0, 11, tyX0 0, ⟨by decide +kernel, rfl⟩, rfl, by decide, rfl, by decide, by decide +kernel, rfl, Or.inr ⟨rfl, rfl, rfl, tw_138⟩⟩
theorem x_C_init_62 : kt_dc i_C_init 62 (.return_) 1 63 ∧ kt_rt i_C_init = none := ⟨⟨by decide +kernel, rfl⟩, rfl⟩
theorem x_E_init_0 : kt_dc i_E_init 0 (.aload_n 0) 1 1 := ⟨by decide +kernel, rfl⟩
theorem x_E_init_1 : kt_dc i_E_init 1 (.invokespecial 3) 3 4 ∧ Cond.methodLink (kt_ow i_E_init) 3 Lib.objectInit ∈ kt_GW := ⟨⟨by decide +kernel, rfl⟩, tw_92⟩
theorem x_E_init_4 : kt_dc i_E_init 4 (.aload_n 0) 1 5 := ⟨by decide +kernel, rfl⟩
theorem x_E_init_5 : kt_dc i_E_init 5 (.bipush 60) 2 7 ∧ (Int8.ofInt (60)).toInt32 = (60 : Int32) := ⟨⟨by decide +kernel, rfl⟩, by decide⟩
theorem x_E_init_7 : kt_dc i_E_init 7 (.newarray .int) 2 9 ∧ Cond.arrayClass .int ∈ kt_GW := ⟨⟨by decide +kernel, rfl⟩, tw_51⟩
theorem x_E_init_9 : kt_sP i_E_init 9 1 1 2 12 := ⟨9, RX1, TX1, 8, tyX1 1, ⟨by decide +kernel, rfl⟩, rfl, by decide, rfl, by decide, by decide +kernel, rfl, Or.inr ⟨rfl, rfl, rfl, tw_97⟩⟩
theorem x_E_init_12 : kt_dc i_E_init 12 (.aload_n 0) 1 13 := ⟨by decide +kernel, rfl⟩
theorem x_E_init_13 : kt_dc i_E_init 13 (.bipush 60) 2 15 ∧ (Int8.ofInt (60)).toInt32 = (60 : Int32) := ⟨⟨by decide +kernel, rfl⟩, by decide⟩
theorem x_E_init_15 : kt_dc i_E_init 15 (.newarray .int) 2 17 ∧ Cond.arrayClass .int ∈ kt_GW := ⟨⟨by decide +kernel, rfl⟩, tw_51⟩
theorem x_E_init_17 : kt_sP i_E_init 17 1 2 2 20 := ⟨15, RX1, TX1, 8, tyX1 2, ⟨by decide +kernel, rfl⟩, rfl, by decide, rfl, by decide, by decide +kernel, rfl, Or.inr ⟨rfl, rfl, rfl, tw_100⟩⟩
theorem x_E_init_20 : kt_dc i_E_init 20 (.aload_n 0) 1 21 := ⟨by decide +kernel, rfl⟩
theorem x_E_init_21 : kt_dc i_E_init 21 (.bipush 60) 2 23 ∧ (Int8.ofInt (60)).toInt32 = (60 : Int32) := ⟨⟨by decide +kernel, rfl⟩, by decide⟩
theorem x_E_init_23 : kt_dc i_E_init 23 (.newarray .int) 2 25 ∧ Cond.arrayClass .int ∈ kt_GW := ⟨⟨by decide +kernel, rfl⟩, tw_51⟩
theorem x_E_init_25 : kt_sP i_E_init 25 1 3 2 28 := ⟨18, RX1, TX1, 8, tyX1 3, ⟨by decide +kernel, rfl⟩, rfl, by decide, rfl, by decide, by decide +kernel, rfl, Or.inr ⟨rfl, rfl, rfl, tw_103⟩⟩
theorem x_E_init_28 : kt_dc i_E_init 28 (.aload_n 0) 1 29 := ⟨by decide +kernel, rfl⟩
theorem x_E_init_29 : kt_dc i_E_init 29 (.bipush 60) 2 31 ∧ (Int8.ofInt (60)).toInt32 = (60 : Int32) := ⟨⟨by decide +kernel, rfl⟩, by decide⟩
theorem x_E_init_31 : kt_dc i_E_init 31 (.newarray .int) 2 33 ∧ Cond.arrayClass .int ∈ kt_GW := ⟨⟨by decide +kernel, rfl⟩, tw_51⟩
theorem x_E_init_33 : kt_sP i_E_init 33 1 4 2 36 := ⟨21, RX1, TX1, 8, tyX1 4, ⟨by decide +kernel, rfl⟩, rfl, by decide, rfl, by decide, by decide +kernel, rfl, Or.inr ⟨rfl, rfl, rfl, tw_106⟩⟩
theorem x_E_init_36 : kt_dc i_E_init 36 (.aload_n 0) 1 37 := ⟨by decide +kernel, rfl⟩
theorem x_E_init_37 : kt_dc i_E_init 37 (.bipush 60) 2 39 ∧ (Int8.ofInt (60)).toInt32 = (60 : Int32) := ⟨⟨by decide +kernel, rfl⟩, by decide⟩
theorem x_E_init_39 : kt_dc i_E_init 39 (.newarray .int) 2 41 ∧ Cond.arrayClass .int ∈ kt_GW := ⟨⟨by decide +kernel, rfl⟩, tw_51⟩
theorem x_E_init_41 : kt_sP i_E_init 41 1 5 2 44 := ⟨24, RX1, TX1, 8, tyX1 5, ⟨by decide +kernel, rfl⟩, rfl, by decide, rfl, by decide, by decide +kernel, rfl, Or.inr ⟨rfl, rfl, rfl, tw_110⟩⟩
theorem x_E_init_44 : kt_dc i_E_init 44 (.aload_n 0) 1 45 := ⟨by decide +kernel, rfl⟩
theorem x_E_init_45 : kt_dc i_E_init 45 (.bipush 60) 2 47 ∧ (Int8.ofInt (60)).toInt32 = (60 : Int32) := ⟨⟨by decide +kernel, rfl⟩, by decide⟩
theorem x_E_init_47 : kt_dc i_E_init 47 (.newarray .int) 2 49 ∧ Cond.arrayClass .int ∈ kt_GW := ⟨⟨by decide +kernel, rfl⟩, tw_51⟩
theorem x_E_init_49 : kt_sP i_E_init 49 1 6 2 52 := ⟨27, RX1, TX1, 8, tyX1 6, ⟨by decide +kernel, rfl⟩, rfl, by decide, rfl, by decide, by decide +kernel, rfl, Or.inr ⟨rfl, rfl, rfl, tw_114⟩⟩
theorem x_E_init_52 : kt_dc i_E_init 52 (.aload_n 0) 1 53 := ⟨by decide +kernel, rfl⟩
theorem x_E_init_53 : kt_dc i_E_init 53 (.bipush 60) 2 55 ∧ (Int8.ofInt (60)).toInt32 = (60 : Int32) := ⟨⟨by decide +kernel, rfl⟩, by decide⟩
theorem x_E_init_55 : kt_dc i_E_init 55 (.newarray .int) 2 57 ∧ Cond.arrayClass .int ∈ kt_GW := ⟨⟨by decide +kernel, rfl⟩, tw_51⟩
theorem x_E_init_57 : kt_sP i_E_init 57 1 7 2 60 := ⟨30, RX1, TX1, 8, tyX1 7, ⟨by decide +kernel, rfl⟩, rfl, by decide, rfl, by decide, by decide +kernel, rfl, Or.inr ⟨rfl, rfl, rfl, tw_118⟩⟩
theorem x_E_init_60 : kt_dc i_E_init 60 (.return_) 1 61 ∧ kt_rt i_E_init = none := ⟨⟨by decide +kernel, rfl⟩, rfl⟩
theorem x_C_copyFrom_0 : kt_dc i_C_copyFrom 0 (.aload_n 0) 1 1 := ⟨by decide +kernel, rfl⟩
theorem x_C_copyFrom_1 : kt_sG i_C_copyFrom 1 0 1 2 4 := ⟨12, RX0, TX0, 11, ⟨by decide +kernel, rfl⟩, rfl, by decide, rfl, by decide, Or.inl (tw_139)⟩
theorem x_C_copyFrom_4 : kt_dc i_C_copyFrom 4 (.aload_n 1) 1 5 := ⟨by decide +kernel, rfl⟩
theorem x_C_copyFrom_5 : kt_sG i_C_copyFrom 5 0 1 2 8 := ⟨12, RX0, TX0, 11, ⟨by decide +kernel, rfl⟩, rfl, by decide, rfl, by decide, Or.inl (tw_139)⟩
theorem x_C_copyFrom_8 : kt_sV i_C_copyFrom 8 i_E_copyFrom 1 1 11 := ⟨42, ⟨by decide +kernel, rfl⟩, Or.inr ⟨"KinderTowns", tw_208⟩, j_E_copyFrom, ⟨tw_210, tp_1⟩, ⟨TX1, 8, rfl⟩, by decide, rfl⟩
theorem c_C_copyFrom_8 {P : kt_P} {NM : Nat} {L : List (Option Value)} {rest : List Value} {N : Nat} {I : kt_I} {J : kt_J} {R : kt_R} {Q : Option Value → kt_I → kt_J → kt_R → Prop} {b : Nat} {x0 : Nat} (hkd : (kt_kd P N b).1 = 1) (hrest : (rest.map fun v => v.category).sum ≤ 8) (kk : KW P i_E_copyFrom N 0 [some (.ref b), some (.ref x0)] [] N I J R (fun v I' J' R' => KW P i_C_copyFrom NM 11 L (kt_pu v rest) N I' J' R' Q)) : KW P i_C_copyFrom NM 8 L (.ref x0 :: .ref b :: rest) N I J R Q := kw_callV x_C_copyFrom_8 (As := [.ref x0]) rfl rfl (Nat.le_of_ble_eq_true rfl) hrest hkd (Nat.le_refl N) (fun h => h) kk
theorem x_C_copyFrom_11 : kt_dc i_C_copyFrom 11 (.aload_n 0) 1 12 := ⟨by decide +kernel, rfl⟩
theorem x_C_copyFrom_12 : kt_dc i_C_copyFrom 12 (.aload_n 1) 1 13 := ⟨by decide +kernel, rfl⟩
theorem x_C_copyFrom_13 : kt_sG i_C_copyFrom 13 0 2 0 16 := ⟨46, RX0, TX0, 11, ⟨by decide +kernel, rfl⟩, rfl, by decide, rfl, by decide, Or.inl (tw_141)⟩
theorem x_C_copyFrom_16 : kt_sP i_C_copyFrom 16 0 2 0 19 := ⟨46, RX0, TX0, 11, tyX0 2, ⟨by decide +kernel, rfl⟩, rfl, by decide, rfl, by decide, by decide +kernel, rfl, Or.inl ⟨rfl, Or.inl (tw_141)⟩⟩
theorem x_C_copyFrom_19 : kt_dc i_C_copyFrom 19 (.aload_n 0) 1 20 := ⟨by decide +kernel, rfl⟩
theorem x_C_copyFrom_20 : kt_dc i_C_copyFrom 20 (.aload_n 1) 1 21 := ⟨by decide +kernel, rfl⟩
theorem x_C_copyFrom_21 : kt_sG i_C_copyFrom 21 0 3 0 24 := ⟨50, RX0, TX0, 11, ⟨by decide +kernel, rfl⟩, rfl, by decide, rfl, by decide, Or.inl (tw_143)⟩
theorem x_C_copyFrom_24 : kt_sP i_C_copyFrom 24 0 3 0 27 := ⟨50, RX0, TX0, 11, tyX0 3, ⟨by decide +kernel, rfl⟩, rfl, by decide, rfl, by decide, by decide +kernel, rfl, Or.inl ⟨rfl, Or.inl (tw_143)⟩⟩
theorem x_C_copyFrom_27 : kt_dc i_C_copyFrom 27 (.aload_n 0) 1 28 := ⟨by decide +kernel, rfl⟩
theorem x_C_copyFrom_28 : kt_dc i_C_copyFrom 28 (.aload_n 1) 1 29 := ⟨by decide +kernel, rfl⟩
theorem x_C_copyFrom_29 : kt_sG i_C_copyFrom 29 0 10 0 32 := ⟨53, RX0, TX0, 11, ⟨by decide +kernel, rfl⟩, rfl, by decide, rfl, by decide, Or.inl (tw_156)⟩
theorem x_C_copyFrom_32 : kt_sP i_C_copyFrom 32 0 10 0 35 := ⟨53, RX0, TX0, 11, tyX0 10, ⟨by decide +kernel, rfl⟩, rfl, by decide, rfl, by decide, by decide +kernel, rfl, Or.inl ⟨rfl, Or.inl (tw_156)⟩⟩
theorem x_C_copyFrom_35 : kt_dc i_C_copyFrom 35 (.aload_n 1) 1 36 := ⟨by decide +kernel, rfl⟩
theorem x_C_copyFrom_36 : kt_sG i_C_copyFrom 36 0 4 2 39 := ⟨18, RX0, TX0, 11, ⟨by decide +kernel, rfl⟩, rfl, by decide, rfl, by decide, Or.inl (tw_145)⟩
theorem x_C_copyFrom_39 : kt_dc i_C_copyFrom 39 (.iconst 0) 1 40 ∧ Int32.ofInt (0) = (0 : Int32) := ⟨⟨by decide +kernel, rfl⟩, by decide⟩
theorem x_C_copyFrom_40 : kt_dc i_C_copyFrom 40 (.aload_n 0) 1 41 := ⟨by decide +kernel, rfl⟩
theorem x_C_copyFrom_41 : kt_sG i_C_copyFrom 41 0 4 2 44 := ⟨18, RX0, TX0, 11, ⟨by decide +kernel, rfl⟩, rfl, by decide, rfl, by decide, Or.inl (tw_145)⟩
theorem x_C_copyFrom_44 : kt_dc i_C_copyFrom 44 (.iconst 0) 1 45 ∧ Int32.ofInt (0) = (0 : Int32) := ⟨⟨by decide +kernel, rfl⟩, by decide⟩
theorem x_C_copyFrom_45 : kt_dc i_C_copyFrom 45 (.iconst 5) 1 46 ∧ Int32.ofInt (5) = (5 : Int32) := ⟨⟨by decide +kernel, rfl⟩, by decide⟩
theorem x_C_copyFrom_46 : kt_cpw i_C_copyFrom 46 49 := ⟨56, ⟨by decide +kernel, rfl⟩, tw_215, by decide, by decide⟩
theorem x_C_copyFrom_49 : kt_dc i_C_copyFrom 49 (.aload_n 1) 1 50 := ⟨by decide +kernel, rfl⟩
theorem x_C_copyFrom_50 : kt_sG i_C_copyFrom 50 0 5 2 53 := ⟨22, RX0, TX0, 11, ⟨by decide +kernel, rfl⟩, rfl, by decide, rfl, by decide, Or.inl (tw_147)⟩
theorem x_C_copyFrom_53 : kt_dc i_C_copyFrom 53 (.iconst 0) 1 54 ∧ Int32.ofInt (0) = (0 : Int32) := ⟨⟨by decide +kernel, rfl⟩, by decide⟩
theorem x_C_copyFrom_54 : kt_dc i_C_copyFrom 54 (.aload_n 0) 1 55 := ⟨by decide +kernel, rfl⟩
theorem x_C_copyFrom_55 : kt_sG i_C_copyFrom 55 0 5 2 58 := ⟨22, RX0, TX0, 11, ⟨by decide +kernel, rfl⟩, rfl, by decide, rfl, by decide, Or.inl (tw_147)⟩
theorem x_C_copyFrom_58 : kt_dc i_C_copyFrom 58 (.iconst 0) 1 59 ∧ Int32.ofInt (0) = (0 : Int32) := ⟨⟨by decide +kernel, rfl⟩, by decide⟩
theorem x_C_copyFrom_59 : kt_dc i_C_copyFrom 59 (.iconst 5) 1 60 ∧ Int32.ofInt (5) = (5 : Int32) := ⟨⟨by decide +kernel, rfl⟩, by decide⟩
theorem x_C_copyFrom_60 : kt_cpw i_C_copyFrom 60 63 := ⟨56, ⟨by decide +kernel, rfl⟩, tw_215, by decide, by decide⟩
theorem x_C_copyFrom_63 : kt_dc i_C_copyFrom 63 (.aload_n 1) 1 64 := ⟨by decide +kernel, rfl⟩
theorem x_C_copyFrom_64 : kt_sG i_C_copyFrom 64 0 6 2 67 := ⟨26, RX0, TX0, 11, ⟨by decide +kernel, rfl⟩, rfl, by decide, rfl, by decide, Or.inl (tw_149)⟩
theorem x_C_copyFrom_67 : kt_dc i_C_copyFrom 67 (.iconst 0) 1 68 ∧ Int32.ofInt (0) = (0 : Int32) := ⟨⟨by decide +kernel, rfl⟩, by decide⟩
theorem x_C_copyFrom_68 : kt_dc i_C_copyFrom 68 (.aload_n 0) 1 69 := ⟨by decide +kernel, rfl⟩
theorem x_C_copyFrom_69 : kt_sG i_C_copyFrom 69 0 6 2 72 := ⟨26, RX0, TX0, 11, ⟨by decide +kernel, rfl⟩, rfl, by decide, rfl, by decide, Or.inl (tw_149)⟩
theorem x_C_copyFrom_72 : kt_dc i_C_copyFrom 72 (.iconst 0) 1 73 ∧ Int32.ofInt (0) = (0 : Int32) := ⟨⟨by decide +kernel, rfl⟩, by decide⟩
theorem x_C_copyFrom_73 : kt_dc i_C_copyFrom 73 (.iconst 5) 1 74 ∧ Int32.ofInt (5) = (5 : Int32) := ⟨⟨by decide +kernel, rfl⟩, by decide⟩
theorem x_C_copyFrom_74 : kt_cpw i_C_copyFrom 74 77 := ⟨56, ⟨by decide +kernel, rfl⟩, tw_215, by decide, by decide⟩
theorem x_C_copyFrom_77 : kt_dc i_C_copyFrom 77 (.aload_n 1) 1 78 := ⟨by decide +kernel, rfl⟩
theorem x_C_copyFrom_78 : kt_sG i_C_copyFrom 78 0 7 2 81 := ⟨29, RX0, TX0, 11, ⟨by decide +kernel, rfl⟩, rfl, by decide, rfl, by decide, Or.inl (tw_151)⟩
theorem x_C_copyFrom_81 : kt_dc i_C_copyFrom 81 (.iconst 0) 1 82 ∧ Int32.ofInt (0) = (0 : Int32) := ⟨⟨by decide +kernel, rfl⟩, by decide⟩
theorem x_C_copyFrom_82 : kt_dc i_C_copyFrom 82 (.aload_n 0) 1 83 := ⟨by decide +kernel, rfl⟩
theorem x_C_copyFrom_83 : kt_sG i_C_copyFrom 83 0 7 2 86 := ⟨29, RX0, TX0, 11, ⟨by decide +kernel, rfl⟩, rfl, by decide, rfl, by decide, Or.inl (tw_151)⟩
theorem x_C_copyFrom_86 : kt_dc i_C_copyFrom 86 (.iconst 0) 1 87 ∧ Int32.ofInt (0) = (0 : Int32) := ⟨⟨by decide +kernel, rfl⟩, by decide⟩
theorem x_C_copyFrom_87 : kt_dc i_C_copyFrom 87 (.iconst 5) 1 88 ∧ Int32.ofInt (5) = (5 : Int32) := ⟨⟨by decide +kernel, rfl⟩, by decide⟩
theorem x_C_copyFrom_88 : kt_cpw i_C_copyFrom 88 91 := ⟨56, ⟨by decide +kernel, rfl⟩, tw_215, by decide, by decide⟩
theorem x_C_copyFrom_91 : kt_dc i_C_copyFrom 91 (.aload_n 1) 1 92 := ⟨by decide +kernel, rfl⟩
theorem x_C_copyFrom_92 : kt_sG i_C_copyFrom 92 0 8 2 95 := ⟨32, RX0, TX0, 11, ⟨by decide +kernel, rfl⟩, rfl, by decide, rfl, by decide, Or.inl (tw_153)⟩
theorem x_C_copyFrom_95 : kt_dc i_C_copyFrom 95 (.iconst 0) 1 96 ∧ Int32.ofInt (0) = (0 : Int32) := ⟨⟨by decide +kernel, rfl⟩, by decide⟩
theorem x_C_copyFrom_96 : kt_dc i_C_copyFrom 96 (.aload_n 0) 1 97 := ⟨by decide +kernel, rfl⟩
theorem x_C_copyFrom_97 : kt_sG i_C_copyFrom 97 0 8 2 100 := ⟨32, RX0, TX0, 11, ⟨by decide +kernel, rfl⟩, rfl, by decide, rfl, by decide, Or.inl (tw_153)⟩
theorem x_C_copyFrom_100 : kt_dc i_C_copyFrom 100 (.iconst 0) 1 101 ∧ Int32.ofInt (0) = (0 : Int32) := ⟨⟨by decide +kernel, rfl⟩, by decide⟩
theorem x_C_copyFrom_101 : kt_dc i_C_copyFrom 101 (.iconst 5) 1 102 ∧ Int32.ofInt (5) = (5 : Int32) := ⟨⟨by decide +kernel, rfl⟩, by decide⟩
theorem x_C_copyFrom_102 : kt_cpw i_C_copyFrom 102 105 := ⟨56, ⟨by decide +kernel, rfl⟩, tw_215, by decide, by decide⟩
theorem x_C_copyFrom_105 : kt_dc i_C_copyFrom 105 (.aload_n 1) 1 106 := ⟨by decide +kernel, rfl⟩
theorem x_C_copyFrom_106 : kt_sG i_C_copyFrom 106 0 9 2 109 := ⟨35, RX0, TX0, 11, ⟨by decide +kernel, rfl⟩, rfl, by decide, rfl, by decide, Or.inl (tw_155)⟩
theorem x_C_copyFrom_109 : kt_dc i_C_copyFrom 109 (.iconst 0) 1 110 ∧ Int32.ofInt (0) = (0 : Int32) := ⟨⟨by decide +kernel, rfl⟩, by decide⟩
theorem x_C_copyFrom_110 : kt_dc i_C_copyFrom 110 (.aload_n 0) 1 111 := ⟨by decide +kernel, rfl⟩
theorem x_C_copyFrom_111 : kt_sG i_C_copyFrom 111 0 9 2 114 := ⟨35, RX0, TX0, 11, ⟨by decide +kernel, rfl⟩, rfl, by decide, rfl, by decide, Or.inl (tw_155)⟩
theorem x_C_copyFrom_114 : kt_dc i_C_copyFrom 114 (.iconst 0) 1 115 ∧ Int32.ofInt (0) = (0 : Int32) := ⟨⟨by decide +kernel, rfl⟩, by decide⟩
theorem x_C_copyFrom_115 : kt_dc i_C_copyFrom 115 (.iconst 5) 1 116 ∧ Int32.ofInt (5) = (5 : Int32) := ⟨⟨by decide +kernel, rfl⟩, by decide⟩
theorem x_C_copyFrom_116 : kt_cpw i_C_copyFrom 116 119 := ⟨56, ⟨by decide +kernel, rfl⟩, tw_215, by decide, by decide⟩
theorem x_C_copyFrom_119 : kt_dc i_C_copyFrom 119 (.return_) 1 120 ∧ kt_rt i_C_copyFrom = none := ⟨⟨by decide +kernel, rfl⟩, rfl⟩
theorem x_E_copyFrom_0 : kt_dc i_E_copyFrom 0 (.aload_n 0) 1 1 := ⟨by decide +kernel, rfl⟩
theorem x_E_copyFrom_1 : kt_dc i_E_copyFrom 1 (.aload_n 1) 1 2 := ⟨by decide +kernel, rfl⟩
theorem x_E_copyFrom_2 : kt_sG i_E_copyFrom 2 1 0 0 5 := ⟨33, RX1, TX1, 8, ⟨by decide +kernel, rfl⟩, rfl, by decide, rfl, by decide, Or.inl (tw_93)⟩
theorem x_E_copyFrom_5 : kt_sP i_E_copyFrom 5 1 0 0 8 := ⟨33, RX1, TX1, 8, tyX1 0, ⟨by decide +kernel, rfl⟩, rfl, by decide, rfl, by decide, by decide +kernel, rfl, Or.inl ⟨rfl, Or.inl (tw_93)⟩⟩
theorem x_E_copyFrom_8 : kt_dc i_E_copyFrom 8 (.aload_n 1) 1 9 := ⟨by decide +kernel, rfl⟩
theorem x_E_copyFrom_9 : kt_sG i_E_copyFrom 9 1 1 2 12 := ⟨9, RX1, TX1, 8, ⟨by decide +kernel, rfl⟩, rfl, by decide, rfl, by decide, Or.inl (tw_97)⟩
theorem x_E_copyFrom_12 : kt_dc i_E_copyFrom 12 (.iconst 0) 1 13 ∧ Int32.ofInt (0) = (0 : Int32) := ⟨⟨by decide +kernel, rfl⟩, by decide⟩
theorem x_E_copyFrom_13 : kt_dc i_E_copyFrom 13 (.aload_n 0) 1 14 := ⟨by decide +kernel, rfl⟩
theorem x_E_copyFrom_14 : kt_sG i_E_copyFrom 14 1 1 2 17 := ⟨9, RX1, TX1, 8, ⟨by decide +kernel, rfl⟩, rfl, by decide, rfl, by decide, Or.inl (tw_97)⟩
theorem x_E_copyFrom_17 : kt_dc i_E_copyFrom 17 (.iconst 0) 1 18 ∧ Int32.ofInt (0) = (0 : Int32) := ⟨⟨by decide +kernel, rfl⟩, by decide⟩
theorem x_E_copyFrom_18 : kt_dc i_E_copyFrom 18 (.aload_n 0) 1 19 := ⟨by decide +kernel, rfl⟩
theorem x_E_copyFrom_19 : kt_sG i_E_copyFrom 19 1 0 0 22 := ⟨33, RX1, TX1, 8, ⟨by decide +kernel, rfl⟩, rfl, by decide, rfl, by decide, Or.inl (tw_93)⟩
theorem x_E_copyFrom_22 : kt_cpw i_E_copyFrom 22 25 := ⟨37, ⟨by decide +kernel, rfl⟩, tw_212, by decide, by decide⟩
theorem x_E_copyFrom_25 : kt_dc i_E_copyFrom 25 (.aload_n 1) 1 26 := ⟨by decide +kernel, rfl⟩
theorem x_E_copyFrom_26 : kt_sG i_E_copyFrom 26 1 2 2 29 := ⟨15, RX1, TX1, 8, ⟨by decide +kernel, rfl⟩, rfl, by decide, rfl, by decide, Or.inl (tw_100)⟩
theorem x_E_copyFrom_29 : kt_dc i_E_copyFrom 29 (.iconst 0) 1 30 ∧ Int32.ofInt (0) = (0 : Int32) := ⟨⟨by decide +kernel, rfl⟩, by decide⟩
theorem x_E_copyFrom_30 : kt_dc i_E_copyFrom 30 (.aload_n 0) 1 31 := ⟨by decide +kernel, rfl⟩
theorem x_E_copyFrom_31 : kt_sG i_E_copyFrom 31 1 2 2 34 := ⟨15, RX1, TX1, 8, ⟨by decide +kernel, rfl⟩, rfl, by decide, rfl, by decide, Or.inl (tw_100)⟩
theorem x_E_copyFrom_34 : kt_dc i_E_copyFrom 34 (.iconst 0) 1 35 ∧ Int32.ofInt (0) = (0 : Int32) := ⟨⟨by decide +kernel, rfl⟩, by decide⟩
theorem x_E_copyFrom_35 : kt_dc i_E_copyFrom 35 (.aload_n 0) 1 36 := ⟨by decide +kernel, rfl⟩
theorem x_E_copyFrom_36 : kt_sG i_E_copyFrom 36 1 0 0 39 := ⟨33, RX1, TX1, 8, ⟨by decide +kernel, rfl⟩, rfl, by decide, rfl, by decide, Or.inl (tw_93)⟩
theorem x_E_copyFrom_39 : kt_cpw i_E_copyFrom 39 42 := ⟨37, ⟨by decide +kernel, rfl⟩, tw_212, by decide, by decide⟩
theorem x_E_copyFrom_42 : kt_dc i_E_copyFrom 42 (.aload_n 1) 1 43 := ⟨by decide +kernel, rfl⟩
theorem x_E_copyFrom_43 : kt_sG i_E_copyFrom 43 1 3 2 46 := ⟨18, RX1, TX1, 8, ⟨by decide +kernel, rfl⟩, rfl, by decide, rfl, by decide, Or.inl (tw_103)⟩
theorem x_E_copyFrom_46 : kt_dc i_E_copyFrom 46 (.iconst 0) 1 47 ∧ Int32.ofInt (0) = (0 : Int32) := ⟨⟨by decide +kernel, rfl⟩, by decide⟩
theorem x_E_copyFrom_47 : kt_dc i_E_copyFrom 47 (.aload_n 0) 1 48 := ⟨by decide +kernel, rfl⟩
theorem x_E_copyFrom_48 : kt_sG i_E_copyFrom 48 1 3 2 51 := ⟨18, RX1, TX1, 8, ⟨by decide +kernel, rfl⟩, rfl, by decide, rfl, by decide, Or.inl (tw_103)⟩
theorem x_E_copyFrom_51 : kt_dc i_E_copyFrom 51 (.iconst 0) 1 52 ∧ Int32.ofInt (0) = (0 : Int32) := ⟨⟨by decide +kernel, rfl⟩, by decide⟩
theorem x_E_copyFrom_52 : kt_dc i_E_copyFrom 52 (.aload_n 0) 1 53 := ⟨by decide +kernel, rfl⟩
theorem x_E_copyFrom_53 : kt_sG i_E_copyFrom 53 1 0 0 56 := ⟨33, RX1, TX1, 8, ⟨by decide +kernel, rfl⟩, rfl, by decide, rfl, by decide, Or.inl (tw_93)⟩
theorem x_E_copyFrom_56 : kt_cpw i_E_copyFrom 56 59 := ⟨37, ⟨by decide +kernel, rfl⟩, tw_212, by decide, by decide⟩
theorem x_E_copyFrom_59 : kt_dc i_E_copyFrom 59 (.aload_n 1) 1 60 := ⟨by decide +kernel, rfl⟩
theorem x_E_copyFrom_60 : kt_sG i_E_copyFrom 60 1 4 2 63 := ⟨21, RX1, TX1, 8, ⟨by decide +kernel, rfl⟩, rfl, by decide, rfl, by decide, Or.inl (tw_106)⟩
theorem x_E_copyFrom_63 : kt_dc i_E_copyFrom 63 (.iconst 0) 1 64 ∧ Int32.ofInt (0) = (0 : Int32) := ⟨⟨by decide +kernel, rfl⟩, by decide⟩
theorem x_E_copyFrom_64 : kt_dc i_E_copyFrom 64 (.aload_n 0) 1 65 := ⟨by decide +kernel, rfl⟩
theorem x_E_copyFrom_65 : kt_sG i_E_copyFrom 65 1 4 2 68 := ⟨21, RX1, TX1, 8, ⟨by decide +kernel, rfl⟩, rfl, by decide, rfl, by decide, Or.inl (tw_106)⟩
theorem x_E_copyFrom_68 : kt_dc i_E_copyFrom 68 (.iconst 0) 1 69 ∧ Int32.ofInt (0) = (0 : Int32) := ⟨⟨by decide +kernel, rfl⟩, by decide⟩
theorem x_E_copyFrom_69 : kt_dc i_E_copyFrom 69 (.aload_n 0) 1 70 := ⟨by decide +kernel, rfl⟩
theorem x_E_copyFrom_70 : kt_sG i_E_copyFrom 70 1 0 0 73 := ⟨33, RX1, TX1, 8, ⟨by decide +kernel, rfl⟩, rfl, by decide, rfl, by decide, Or.inl (tw_93)⟩
theorem x_E_copyFrom_73 : kt_cpw i_E_copyFrom 73 76 := ⟨37, ⟨by decide +kernel, rfl⟩, tw_212, by decide, by decide⟩
theorem x_E_copyFrom_76 : kt_dc i_E_copyFrom 76 (.aload_n 1) 1 77 := ⟨by decide +kernel, rfl⟩
theorem x_E_copyFrom_77 : kt_sG i_E_copyFrom 77 1 5 2 80 := ⟨24, RX1, TX1, 8, ⟨by decide +kernel, rfl⟩, rfl, by decide, rfl, by decide, Or.inl (tw_110)⟩
theorem x_E_copyFrom_80 : kt_dc i_E_copyFrom 80 (.iconst 0) 1 81 ∧ Int32.ofInt (0) = (0 : Int32) := ⟨⟨by decide +kernel, rfl⟩, by decide⟩
theorem x_E_copyFrom_81 : kt_dc i_E_copyFrom 81 (.aload_n 0) 1 82 := ⟨by decide +kernel, rfl⟩
theorem x_E_copyFrom_82 : kt_sG i_E_copyFrom 82 1 5 2 85 := ⟨24, RX1, TX1, 8, ⟨by decide +kernel, rfl⟩, rfl, by decide, rfl, by decide, Or.inl (tw_110)⟩
theorem x_E_copyFrom_85 : kt_dc i_E_copyFrom 85 (.iconst 0) 1 86 ∧ Int32.ofInt (0) = (0 : Int32) := ⟨⟨by decide +kernel, rfl⟩, by decide⟩
theorem x_E_copyFrom_86 : kt_dc i_E_copyFrom 86 (.aload_n 0) 1 87 := ⟨by decide +kernel, rfl⟩
theorem x_E_copyFrom_87 : kt_sG i_E_copyFrom 87 1 0 0 90 := ⟨33, RX1, TX1, 8, ⟨by decide +kernel, rfl⟩, rfl, by decide, rfl, by decide, Or.inl (tw_93)⟩
theorem x_E_copyFrom_90 : kt_cpw i_E_copyFrom 90 93 := ⟨37, ⟨by decide +kernel, rfl⟩, tw_212, by decide, by decide⟩
theorem x_E_copyFrom_93 : kt_dc i_E_copyFrom 93 (.aload_n 1) 1 94 := ⟨by decide +kernel, rfl⟩
theorem x_E_copyFrom_94 : kt_sG i_E_copyFrom 94 1 6 2 97 := ⟨27, RX1, TX1, 8, ⟨by decide +kernel, rfl⟩, rfl, by decide, rfl, by decide, Or.inl (tw_114)⟩
theorem x_E_copyFrom_97 : kt_dc i_E_copyFrom 97 (.iconst 0) 1 98 ∧ Int32.ofInt (0) = (0 : Int32) := ⟨⟨by decide +kernel, rfl⟩, by decide⟩
theorem x_E_copyFrom_98 : kt_dc i_E_copyFrom 98 (.aload_n 0) 1 99 := ⟨by decide +kernel, rfl⟩
theorem x_E_copyFrom_99 : kt_sG i_E_copyFrom 99 1 6 2 102 := ⟨27, RX1, TX1, 8, ⟨by decide +kernel, rfl⟩, rfl, by decide, rfl, by decide, Or.inl (tw_114)⟩
theorem x_E_copyFrom_102 : kt_dc i_E_copyFrom 102 (.iconst 0) 1 103 ∧ Int32.ofInt (0) = (0 : Int32) := ⟨⟨by decide +kernel, rfl⟩, by decide⟩
theorem x_E_copyFrom_103 : kt_dc i_E_copyFrom 103 (.aload_n 0) 1 104 := ⟨by decide +kernel, rfl⟩
theorem x_E_copyFrom_104 : kt_sG i_E_copyFrom 104 1 0 0 107 := ⟨33, RX1, TX1, 8, ⟨by decide +kernel, rfl⟩, rfl, by decide, rfl, by decide, Or.inl (tw_93)⟩
theorem x_E_copyFrom_107 : kt_cpw i_E_copyFrom 107 110 := ⟨37, ⟨by decide +kernel, rfl⟩, tw_212, by decide, by decide⟩
theorem x_E_copyFrom_110 : kt_dc i_E_copyFrom 110 (.aload_n 1) 1 111 := ⟨by decide +kernel, rfl⟩
theorem x_E_copyFrom_111 : kt_sG i_E_copyFrom 111 1 7 2 114 := ⟨30, RX1, TX1, 8, ⟨by decide +kernel, rfl⟩, rfl, by decide, rfl, by decide, Or.inl (tw_118)⟩
theorem x_E_copyFrom_114 : kt_dc i_E_copyFrom 114 (.iconst 0) 1 115 ∧ Int32.ofInt (0) = (0 : Int32) := ⟨⟨by decide +kernel, rfl⟩, by decide⟩
theorem x_E_copyFrom_115 : kt_dc i_E_copyFrom 115 (.aload_n 0) 1 116 := ⟨by decide +kernel, rfl⟩
theorem x_E_copyFrom_116 : kt_sG i_E_copyFrom 116 1 7 2 119 := ⟨30, RX1, TX1, 8, ⟨by decide +kernel, rfl⟩, rfl, by decide, rfl, by decide, Or.inl (tw_118)⟩
theorem x_E_copyFrom_119 : kt_dc i_E_copyFrom 119 (.iconst 0) 1 120 ∧ Int32.ofInt (0) = (0 : Int32) := ⟨⟨by decide +kernel, rfl⟩, by decide⟩
theorem x_E_copyFrom_120 : kt_dc i_E_copyFrom 120 (.aload_n 0) 1 121 := ⟨by decide +kernel, rfl⟩
theorem x_E_copyFrom_121 : kt_sG i_E_copyFrom 121 1 0 0 124 := ⟨33, RX1, TX1, 8, ⟨by decide +kernel, rfl⟩, rfl, by decide, rfl, by decide, Or.inl (tw_93)⟩
theorem x_E_copyFrom_124 : kt_cpw i_E_copyFrom 124 127 := ⟨37, ⟨by decide +kernel, rfl⟩, tw_212, by decide, by decide⟩
theorem x_E_copyFrom_127 : kt_dc i_E_copyFrom 127 (.return_) 1 128 ∧ kt_rt i_E_copyFrom = none := ⟨⟨by decide +kernel, rfl⟩, rfl⟩
theorem x_C_addTown_0 : kt_dc i_C_addTown 0 (.aload_n 0) 1 1 := ⟨by decide +kernel, rfl⟩
theorem x_C_addTown_1 : kt_sG i_C_addTown 1 0 2 0 4 := ⟨46, RX0, TX0, 11, ⟨by decide +kernel, rfl⟩, rfl, by decide, rfl, by decide, Or.inl (tw_141)⟩
theorem x_C_addTown_4 : kt_dc i_C_addTown 4 (.iconst 5) 1 5 ∧ Int32.ofInt (5) = (5 : Int32) := ⟨⟨by decide +kernel, rfl⟩, by decide⟩
theorem x_C_addTown_5 : kt_sS i_C_addTown 5 i_K_isBelow 2 8 := ⟨62, ⟨by decide +kernel, rfl⟩, Or.inr ⟨"KinderTowns", tw_220⟩, j_K_isBelow, tw_221, rfl⟩
theorem c_C_addTown_5 {P : kt_P} {NM : Nat} {L : List (Option Value)} {rest : List Value} {N : Nat} {I : kt_I} {J : kt_J} {R : kt_R} {Q : Option Value → kt_I → kt_J → kt_R → Prop} {x0 : Int32} {x1 : Int32} (hrest : (rest.map fun v => v.category).sum ≤ 8) (kk : KW P i_K_isBelow N 0 [some (.int x0), some (.int x1)] [] N I J R (fun v I' J' R' => KW P i_C_addTown NM 8 L (kt_pu v rest) N I' J' R' Q)) : KW P i_C_addTown NM 5 L (.int x1 :: .int x0 :: rest) N I J R Q := kw_callS x_C_addTown_5 (As := [.int x0, .int x1]) rfl rfl (Nat.le_of_ble_eq_true rfl) hrest (Nat.le_refl N) (fun h => h) kk
theorem x_C_addTown_8 : kt_dj i_C_addTown 8 (.ifCond .ne) 14 11 := ⟨6, by decide +kernel, by decide, rfl⟩
theorem x_C_addTown_11 : kt_dc i_C_addTown 11 (.bipush (-3)) 2 13 ∧ (Int8.ofInt (-3)).toInt32 = (-3 : Int32) := ⟨⟨by decide +kernel, rfl⟩, by decide⟩
theorem x_C_addTown_13 : kt_dc i_C_addTown 13 (.ireturn) 1 14 ∧ kt_rt i_C_addTown = (some .int) := ⟨⟨by decide +kernel, rfl⟩, rfl⟩
theorem x_C_addTown_14 : kt_dc i_C_addTown 14 (.aload_n 0) 1 15 := ⟨by decide +kernel, rfl⟩
theorem x_C_addTown_15 : kt_dc i_C_addTown 15 (.dup) 1 16 := ⟨by decide +kernel, rfl⟩
theorem x_C_addTown_16 : kt_sG i_C_addTown 16 0 2 0 19 := ⟨46, RX0, TX0, 11, ⟨by decide +kernel, rfl⟩, rfl, by decide, rfl, by decide, Or.inl (tw_141)⟩
theorem x_C_addTown_19 : kt_dc i_C_addTown 19 (.iconst 1) 1 20 ∧ Int32.ofInt (1) = (1 : Int32) := ⟨⟨by decide +kernel, rfl⟩, by decide⟩
theorem x_C_addTown_20 : kt_dc i_C_addTown 20 (.iadd) 1 21 := ⟨by decide +kernel, rfl⟩
theorem x_C_addTown_21 : kt_sP i_C_addTown 21 0 2 0 24 := ⟨46, RX0, TX0, 11, tyX0 2, ⟨by decide +kernel, rfl⟩, rfl, by decide, rfl, by decide, by decide +kernel, rfl, Or.inl ⟨rfl, Or.inl (tw_141)⟩⟩
theorem x_C_addTown_24 : kt_dc i_C_addTown 24 (.aload_n 0) 1 25 := ⟨by decide +kernel, rfl⟩
theorem x_C_addTown_25 : kt_sG i_C_addTown 25 0 2 0 28 := ⟨46, RX0, TX0, 11, ⟨by decide +kernel, rfl⟩, rfl, by decide, rfl, by decide, Or.inl (tw_141)⟩
theorem x_C_addTown_28 : kt_dc i_C_addTown 28 (.iconst 1) 1 29 ∧ Int32.ofInt (1) = (1 : Int32) := ⟨⟨by decide +kernel, rfl⟩, by decide⟩
theorem x_C_addTown_29 : kt_dc i_C_addTown 29 (.isub) 1 30 := ⟨by decide +kernel, rfl⟩
theorem x_C_addTown_30 : kt_dc i_C_addTown 30 (.ireturn) 1 31 ∧ kt_rt i_C_addTown = (some .int) := ⟨⟨by decide +kernel, rfl⟩, rfl⟩
theorem x_C_thinkAnew_0 : kt_dc i_C_thinkAnew 0 (.iconst 0) 1 1 ∧ Int32.ofInt (0) = (0 : Int32) := ⟨⟨by decide +kernel, rfl⟩, by decide⟩
theorem x_C_thinkAnew_1 : kt_dc i_C_thinkAnew 1 (.istore_n 1) 1 2 := ⟨by decide +kernel, rfl⟩
theorem x_C_thinkAnew_2 : kt_dc i_C_thinkAnew 2 (.iload_n 1) 1 3 := ⟨by decide +kernel, rfl⟩
theorem x_C_thinkAnew_3 : kt_dc i_C_thinkAnew 3 (.aload_n 0) 1 4 := ⟨by decide +kernel, rfl⟩
theorem x_C_thinkAnew_4 : kt_sG i_C_thinkAnew 4 0 2 0 7 := ⟨46, RX0, TX0, 11, ⟨by decide +kernel, rfl⟩, rfl, by decide, rfl, by decide, Or.inl (tw_141)⟩
theorem x_C_thinkAnew_7 : kt_dj i_C_thinkAnew 7 (.if_icmp .ge) 125 10 := ⟨118, by decide +kernel, by decide, rfl⟩
theorem x_C_thinkAnew_10 : kt_dc i_C_thinkAnew 10 (.aload_n 0) 1 11 := ⟨by decide +kernel, rfl⟩
theorem x_C_thinkAnew_11 : kt_sG i_C_thinkAnew 11 0 10 0 14 := ⟨53, RX0, TX0, 11, ⟨by decide +kernel, rfl⟩, rfl, by decide, rfl, by decide, Or.inl (tw_156)⟩
theorem x_C_thinkAnew_14 : kt_dc i_C_thinkAnew 14 (.aload_n 0) 1 15 := ⟨by decide +kernel, rfl⟩
theorem x_C_thinkAnew_15 : kt_sG i_C_thinkAnew 15 0 3 0 18 := ⟨50, RX0, TX0, 11, ⟨by decide +kernel, rfl⟩, rfl, by decide, rfl, by decide, Or.inl (tw_143)⟩
theorem x_C_thinkAnew_18 : kt_dj i_C_thinkAnew 18 (.if_icmp .ne) 37 21 := ⟨19, by decide +kernel, by decide, rfl⟩
theorem x_C_thinkAnew_21 : kt_dc i_C_thinkAnew 21 (.aload_n 0) 1 22 := ⟨by decide +kernel, rfl⟩
theorem x_C_thinkAnew_22 : kt_sG i_C_thinkAnew 22 0 9 2 25 := ⟨35, RX0, TX0, 11, ⟨by decide +kernel, rfl⟩, rfl, by decide, rfl, by decide, Or.inl (tw_155)⟩
theorem x_C_thinkAnew_25 : kt_dc i_C_thinkAnew 25 (.iload_n 1) 1 26 := ⟨by decide +kernel, rfl⟩
theorem x_C_thinkAnew_26 : kt_dc i_C_thinkAnew 26 (.laload) 1 27 := ⟨by decide +kernel, rfl⟩
theorem x_C_thinkAnew_27 : kt_dc i_C_thinkAnew 27 (.aload_n 0) 1 28 := ⟨by decide +kernel, rfl⟩
theorem x_C_thinkAnew_28 : kt_sG i_C_thinkAnew 28 0 5 2 31 := ⟨22, RX0, TX0, 11, ⟨by decide +kernel, rfl⟩, rfl, by decide, rfl, by decide, Or.inl (tw_147)⟩
theorem x_C_thinkAnew_31 : kt_dc i_C_thinkAnew 31 (.iload_n 1) 1 32 := ⟨by decide +kernel, rfl⟩
theorem x_C_thinkAnew_32 : kt_dc i_C_thinkAnew 32 (.laload) 1 33 := ⟨by decide +kernel, rfl⟩
theorem x_C_thinkAnew_33 : kt_dc i_C_thinkAnew 33 (.lcmp) 1 34 := ⟨by decide +kernel, rfl⟩
theorem x_C_thinkAnew_34 : kt_dj i_C_thinkAnew 34 (.ifCond .eq) 119 37 := ⟨85, by decide +kernel, by decide, rfl⟩
theorem x_C_thinkAnew_37 : kt_dc i_C_thinkAnew 37 (.aload_n 0) 1 38 := ⟨by decide +kernel, rfl⟩
theorem x_C_thinkAnew_38 : kt_sG i_C_thinkAnew 38 0 0 2 41 := ⟨38, RX0, TX0, 11, ⟨by decide +kernel, rfl⟩, rfl, by decide, rfl, by decide, Or.inl (tw_138)⟩
theorem x_C_thinkAnew_41 : kt_dc i_C_thinkAnew 41 (.aload_n 0) 1 42 := ⟨by decide +kernel, rfl⟩
theorem x_C_thinkAnew_42 : kt_sG i_C_thinkAnew 42 0 1 2 45 := ⟨12, RX0, TX0, 11, ⟨by decide +kernel, rfl⟩, rfl, by decide, rfl, by decide, Or.inl (tw_139)⟩
theorem x_C_thinkAnew_45 : kt_dc i_C_thinkAnew 45 (.aload_n 0) 1 46 := ⟨by decide +kernel, rfl⟩
theorem x_C_thinkAnew_46 : kt_sG i_C_thinkAnew 46 0 5 2 49 := ⟨22, RX0, TX0, 11, ⟨by decide +kernel, rfl⟩, rfl, by decide, rfl, by decide, Or.inl (tw_147)⟩
theorem x_C_thinkAnew_49 : kt_dc i_C_thinkAnew 49 (.iload_n 1) 1 50 := ⟨by decide +kernel, rfl⟩
theorem x_C_thinkAnew_50 : kt_dc i_C_thinkAnew 50 (.laload) 1 51 := ⟨by decide +kernel, rfl⟩
theorem x_C_thinkAnew_51 : kt_dc i_C_thinkAnew 51 (.aload_n 0) 1 52 := ⟨by decide +kernel, rfl⟩
theorem x_C_thinkAnew_52 : kt_sG i_C_thinkAnew 52 0 3 0 55 := ⟨50, RX0, TX0, 11, ⟨by decide +kernel, rfl⟩, rfl, by decide, rfl, by decide, Or.inl (tw_143)⟩
theorem x_C_thinkAnew_55 : kt_sV i_C_thinkAnew 55 i_L_lookAtAll 2 3 58 := ⟨117, ⟨by decide +kernel, rfl⟩, Or.inr ⟨"KinderTowns", tw_231⟩, j_L_lookAtAll, ⟨tw_233, tp_5⟩, ⟨TX2, 6, rfl⟩, by decide, rfl⟩
theorem c_C_thinkAnew_55 {P : kt_P} {NM : Nat} {L : List (Option Value)} {rest : List Value} {N : Nat} {I : kt_I} {J : kt_J} {R : kt_R} {Q : Option Value → kt_I → kt_J → kt_R → Prop} {b : Nat} {x0 : Nat} {x1 : Int64} {x2 : Int32} (hkd : (kt_kd P N b).1 = 2) (hrest : (rest.map fun v => v.category).sum ≤ 8) (kk : KW P i_L_lookAtAll N 0 [some (.ref b), some (.ref x0), some (.long x1), none, some (.int x2), none, none, none] [] N I J R (fun v I' J' R' => KW P i_C_thinkAnew NM 58 L (kt_pu v rest) N I' J' R' Q)) : KW P i_C_thinkAnew NM 55 L (.int x2 :: .long x1 :: .ref x0 :: .ref b :: rest) N I J R Q := kw_callV x_C_thinkAnew_55 (As := [.ref x0, .long x1, .int x2]) rfl rfl (Nat.le_of_ble_eq_true rfl) hrest hkd (Nat.le_refl N) (fun h => h) kk
theorem x_C_thinkAnew_58 : kt_dc i_C_thinkAnew 58 (.aload_n 0) 1 59 := ⟨by decide +kernel, rfl⟩
theorem x_C_thinkAnew_59 : kt_sG i_C_thinkAnew 59 0 8 2 62 := ⟨32, RX0, TX0, 11, ⟨by decide +kernel, rfl⟩, rfl, by decide, rfl, by decide, Or.inl (tw_153)⟩
theorem x_C_thinkAnew_62 : kt_dc i_C_thinkAnew 62 (.iload_n 1) 1 63 := ⟨by decide +kernel, rfl⟩
theorem x_C_thinkAnew_63 : kt_dc i_C_thinkAnew 63 (.dup2) 1 64 := ⟨by decide +kernel, rfl⟩
theorem x_C_thinkAnew_64 : kt_dc i_C_thinkAnew 64 (.laload) 1 65 := ⟨by decide +kernel, rfl⟩
theorem x_C_thinkAnew_65 : kt_dc i_C_thinkAnew 65 (.aload_n 0) 1 66 := ⟨by decide +kernel, rfl⟩
theorem x_C_thinkAnew_66 : kt_sG i_C_thinkAnew 66 0 6 2 69 := ⟨26, RX0, TX0, 11, ⟨by decide +kernel, rfl⟩, rfl, by decide, rfl, by decide, Or.inl (tw_149)⟩
theorem x_C_thinkAnew_69 : kt_dc i_C_thinkAnew 69 (.iload_n 1) 1 70 := ⟨by decide +kernel, rfl⟩
theorem x_C_thinkAnew_70 : kt_dc i_C_thinkAnew 70 (.laload) 1 71 := ⟨by decide +kernel, rfl⟩
theorem x_C_thinkAnew_71 : kt_dc i_C_thinkAnew 71 (.aload_n 0) 1 72 := ⟨by decide +kernel, rfl⟩
theorem x_C_thinkAnew_72 : kt_sG i_C_thinkAnew 72 0 0 2 75 := ⟨38, RX0, TX0, 11, ⟨by decide +kernel, rfl⟩, rfl, by decide, rfl, by decide, Or.inl (tw_138)⟩
theorem x_C_thinkAnew_75 : kt_sG i_C_thinkAnew 75 2 5 1 78 := ⟨123, RX2, TX2, 6, ⟨by decide +kernel, rfl⟩, rfl, by decide, rfl, by decide, Or.inr ⟨"KinderTowns", tw_37⟩⟩
theorem x_C_thinkAnew_78 : kt_dc i_C_thinkAnew 78 (.land) 1 79 := ⟨by decide +kernel, rfl⟩
theorem x_C_thinkAnew_79 : kt_dc i_C_thinkAnew 79 (.lor) 1 80 := ⟨by decide +kernel, rfl⟩
theorem x_C_thinkAnew_80 : kt_dc i_C_thinkAnew 80 (.lastore) 1 81 := ⟨by decide +kernel, rfl⟩
theorem x_C_thinkAnew_81 : kt_dc i_C_thinkAnew 81 (.aload_n 0) 1 82 := ⟨by decide +kernel, rfl⟩
theorem x_C_thinkAnew_82 : kt_sG i_C_thinkAnew 82 0 6 2 85 := ⟨26, RX0, TX0, 11, ⟨by decide +kernel, rfl⟩, rfl, by decide, rfl, by decide, Or.inl (tw_149)⟩
theorem x_C_thinkAnew_85 : kt_dc i_C_thinkAnew 85 (.iload_n 1) 1 86 := ⟨by decide +kernel, rfl⟩
theorem x_C_thinkAnew_86 : kt_dc i_C_thinkAnew 86 (.aload_n 0) 1 87 := ⟨by decide +kernel, rfl⟩
theorem x_C_thinkAnew_87 : kt_sG i_C_thinkAnew 87 0 0 2 90 := ⟨38, RX0, TX0, 11, ⟨by decide +kernel, rfl⟩, rfl, by decide, rfl, by decide, Or.inl (tw_138)⟩
theorem x_C_thinkAnew_90 : kt_sG i_C_thinkAnew 90 2 4 1 93 := ⟨126, RX2, TX2, 6, ⟨by decide +kernel, rfl⟩, rfl, by decide, rfl, by decide, Or.inr ⟨"KinderTowns", tw_34⟩⟩
theorem x_C_thinkAnew_93 : kt_dc i_C_thinkAnew 93 (.lastore) 1 94 := ⟨by decide +kernel, rfl⟩
theorem x_C_thinkAnew_94 : kt_dc i_C_thinkAnew 94 (.aload_n 0) 1 95 := ⟨by decide +kernel, rfl⟩
theorem x_C_thinkAnew_95 : kt_sG i_C_thinkAnew 95 0 7 2 98 := ⟨29, RX0, TX0, 11, ⟨by decide +kernel, rfl⟩, rfl, by decide, rfl, by decide, Or.inl (tw_151)⟩
theorem x_C_thinkAnew_98 : kt_dc i_C_thinkAnew 98 (.iload_n 1) 1 99 := ⟨by decide +kernel, rfl⟩
theorem x_C_thinkAnew_99 : kt_dc i_C_thinkAnew 99 (.aload_n 0) 1 100 := ⟨by decide +kernel, rfl⟩
theorem x_C_thinkAnew_100 : kt_sG i_C_thinkAnew 100 0 0 2 103 := ⟨38, RX0, TX0, 11, ⟨by decide +kernel, rfl⟩, rfl, by decide, rfl, by decide, Or.inl (tw_138)⟩
theorem x_C_thinkAnew_103 : kt_sG i_C_thinkAnew 103 2 5 1 106 := ⟨123, RX2, TX2, 6, ⟨by decide +kernel, rfl⟩, rfl, by decide, rfl, by decide, Or.inr ⟨"KinderTowns", tw_37⟩⟩
theorem x_C_thinkAnew_106 : kt_dc i_C_thinkAnew 106 (.lastore) 1 107 := ⟨by decide +kernel, rfl⟩
theorem x_C_thinkAnew_107 : kt_dc i_C_thinkAnew 107 (.aload_n 0) 1 108 := ⟨by decide +kernel, rfl⟩
theorem x_C_thinkAnew_108 : kt_sG i_C_thinkAnew 108 0 9 2 111 := ⟨35, RX0, TX0, 11, ⟨by decide +kernel, rfl⟩, rfl, by decide, rfl, by decide, Or.inl (tw_155)⟩
theorem x_C_thinkAnew_111 : kt_dc i_C_thinkAnew 111 (.iload_n 1) 1 112 := ⟨by decide +kernel, rfl⟩
theorem x_C_thinkAnew_112 : kt_dc i_C_thinkAnew 112 (.aload_n 0) 1 113 := ⟨by decide +kernel, rfl⟩
theorem x_C_thinkAnew_113 : kt_sG i_C_thinkAnew 113 0 5 2 116 := ⟨22, RX0, TX0, 11, ⟨by decide +kernel, rfl⟩, rfl, by decide, rfl, by decide, Or.inl (tw_147)⟩
theorem x_C_thinkAnew_116 : kt_dc i_C_thinkAnew 116 (.iload_n 1) 1 117 := ⟨by decide +kernel, rfl⟩
theorem x_C_thinkAnew_117 : kt_dc i_C_thinkAnew 117 (.laload) 1 118 := ⟨by decide +kernel, rfl⟩
theorem x_C_thinkAnew_118 : kt_dc i_C_thinkAnew 118 (.lastore) 1 119 := ⟨by decide +kernel, rfl⟩
theorem x_C_thinkAnew_119 : kt_dc i_C_thinkAnew 119 (.iinc 1 1) 3 122 ∧ Int32.ofInt (1) = (1 : Int32) := ⟨⟨by decide +kernel, rfl⟩, by decide⟩
theorem x_C_thinkAnew_122 : kt_dj i_C_thinkAnew 122 .goto 2 125 := ⟨-120, by decide +kernel, by decide, rfl⟩
theorem x_C_thinkAnew_125 : kt_dc i_C_thinkAnew 125 (.aload_n 0) 1 126 := ⟨by decide +kernel, rfl⟩
theorem x_C_thinkAnew_126 : kt_dc i_C_thinkAnew 126 (.aload_n 0) 1 127 := ⟨by decide +kernel, rfl⟩
theorem x_C_thinkAnew_127 : kt_sG i_C_thinkAnew 127 0 3 0 130 := ⟨50, RX0, TX0, 11, ⟨by decide +kernel, rfl⟩, rfl, by decide, rfl, by decide, Or.inl (tw_143)⟩
theorem x_C_thinkAnew_130 : kt_sP i_C_thinkAnew 130 0 10 0 133 := ⟨53, RX0, TX0, 11, tyX0 10, ⟨by decide +kernel, rfl⟩, rfl, by decide, rfl, by decide, by decide +kernel, rfl, Or.inl ⟨rfl, Or.inl (tw_156)⟩⟩
theorem x_C_thinkAnew_133 : kt_dc i_C_thinkAnew 133 (.return_) 1 134 ∧ kt_rt i_C_thinkAnew = none := ⟨⟨by decide +kernel, rfl⟩, rfl⟩
theorem x_L_lookAtAll_0 : kt_dc i_L_lookAtAll 0 (.aload_n 0) 1 1 := ⟨by decide +kernel, rfl⟩
theorem x_L_lookAtAll_1 : kt_dc i_L_lookAtAll 1 (.lconst 0) 1 2 ∧ Int64.ofNat ((0 : Fin 2) : Nat) = (0 : Int64) := ⟨⟨by decide +kernel, rfl⟩, rfl⟩
theorem x_L_lookAtAll_2 : kt_sP i_L_lookAtAll 2 2 4 1 5 := ⟨18, RX2, TX2, 6, tyX2 4, ⟨by decide +kernel, rfl⟩, rfl, by decide, rfl, by decide, by decide +kernel, rfl, Or.inl ⟨rfl, Or.inl (tw_33)⟩⟩
theorem x_L_lookAtAll_5 : kt_dc i_L_lookAtAll 5 (.aload_n 0) 1 6 := ⟨by decide +kernel, rfl⟩
theorem x_L_lookAtAll_6 : kt_dc i_L_lookAtAll 6 (.lconst 0) 1 7 ∧ Int64.ofNat ((0 : Fin 2) : Nat) = (0 : Int64) := ⟨⟨by decide +kernel, rfl⟩, rfl⟩
theorem x_L_lookAtAll_7 : kt_sP i_L_lookAtAll 7 2 5 1 10 := ⟨22, RX2, TX2, 6, tyX2 5, ⟨by decide +kernel, rfl⟩, rfl, by decide, rfl, by decide, by decide +kernel, rfl, Or.inl ⟨rfl, Or.inl (tw_36)⟩⟩
theorem x_L_lookAtAll_10 : kt_dc i_L_lookAtAll 10 (.aload_n 1) 1 11 := ⟨by decide +kernel, rfl⟩
theorem x_L_lookAtAll_11 : kt_dc i_L_lookAtAll 11 (.lload_n 2) 1 12 := ⟨by decide +kernel, rfl⟩
theorem x_L_lookAtAll_12 : kt_sV i_L_lookAtAll 12 i_E_standingIn 1 1 15 := ⟨25, ⟨by decide +kernel, rfl⟩, Or.inr ⟨"KinderTowns", tw_235⟩, j_E_standingIn, ⟨tw_237, tp_6⟩, ⟨TX1, 8, rfl⟩, by decide, rfl⟩
theorem c_L_lookAtAll_12 {P : kt_P} {NM : Nat} {L : List (Option Value)} {rest : List Value} {N : Nat} {I : kt_I} {J : kt_J} {R : kt_R} {Q : Option Value → kt_I → kt_J → kt_R → Prop} {b : Nat} {x0 : Int64} (hkd : (kt_kd P N b).1 = 1) (hrest : (rest.map fun v => v.category).sum ≤ 8) (kk : KW P i_E_standingIn N 0 [some (.ref b), some (.long x0), none] [] N I J R (fun v I' J' R' => KW P i_L_lookAtAll NM 15 L (kt_pu v rest) N I' J' R' Q)) : KW P i_L_lookAtAll NM 12 L (.long x0 :: .ref b :: rest) N I J R Q := kw_callV x_L_lookAtAll_12 (As := [.long x0]) rfl rfl (Nat.le_of_ble_eq_true rfl) hrest hkd (Nat.le_refl N) (fun h => h) kk
theorem x_L_lookAtAll_15 : kt_dc i_L_lookAtAll 15 (.lstore 5) 2 17 := ⟨by decide +kernel, rfl⟩
theorem x_L_lookAtAll_17 : kt_dc i_L_lookAtAll 17 (.iconst 0) 1 18 ∧ Int32.ofInt (0) = (0 : Int32) := ⟨⟨by decide +kernel, rfl⟩, by decide⟩
theorem x_L_lookAtAll_18 : kt_dc i_L_lookAtAll 18 (.istore 7) 2 20 := ⟨by decide +kernel, rfl⟩
theorem x_L_lookAtAll_20 : kt_dc i_L_lookAtAll 20 (.iload 7) 2 22 := ⟨by decide +kernel, rfl⟩
theorem x_L_lookAtAll_22 : kt_dc i_L_lookAtAll 22 (.bipush 6) 2 24 ∧ (Int8.ofInt (6)).toInt32 = (6 : Int32) := ⟨⟨by decide +kernel, rfl⟩, by decide⟩
theorem x_L_lookAtAll_24 : kt_dj i_L_lookAtAll 24 (.if_icmp .ge) 44 27 := ⟨20, by decide +kernel, by decide, rfl⟩
theorem x_L_lookAtAll_27 : kt_dc i_L_lookAtAll 27 (.aload_n 0) 1 28 := ⟨by decide +kernel, rfl⟩
theorem x_L_lookAtAll_28 : kt_dc i_L_lookAtAll 28 (.aload_n 1) 1 29 := ⟨by decide +kernel, rfl⟩
theorem x_L_lookAtAll_29 : kt_dc i_L_lookAtAll 29 (.lload 5) 2 31 := ⟨by decide +kernel, rfl⟩
theorem x_L_lookAtAll_31 : kt_dc i_L_lookAtAll 31 (.iload 4) 2 33 := ⟨by decide +kernel, rfl⟩
theorem x_L_lookAtAll_33 : kt_dc i_L_lookAtAll 33 (.iload 7) 2 35 := ⟨by decide +kernel, rfl⟩
theorem x_L_lookAtAll_35 : kt_sV i_L_lookAtAll 35 i_L_lookAtGood 2 4 38 := ⟨31, ⟨by decide +kernel, rfl⟩, Or.inl (tw_247), j_L_lookAtGood, ⟨tw_249, tp_8⟩, ⟨TX2, 6, rfl⟩, by decide, rfl⟩
theorem c_L_lookAtAll_35 {P : kt_P} {NM : Nat} {L : List (Option Value)} {rest : List Value} {N : Nat} {I : kt_I} {J : kt_J} {R : kt_R} {Q : Option Value → kt_I → kt_J → kt_R → Prop} {b : Nat} {x0 : Nat} {x1 : Int64} {x2 : Int32} {x3 : Int32} (hkd : (kt_kd P N b).1 = 2) (hrest : (rest.map fun v => v.category).sum ≤ 8) (kk : KW P i_L_lookAtGood N 0 [some (.ref b), some (.ref x0), some (.long x1), none, some (.int x2), some (.int x3), none, none, none] [] N I J R (fun v I' J' R' => KW P i_L_lookAtAll NM 38 L (kt_pu v rest) N I' J' R' Q)) : KW P i_L_lookAtAll NM 35 L (.int x3 :: .int x2 :: .long x1 :: .ref x0 :: .ref b :: rest) N I J R Q := kw_callV x_L_lookAtAll_35 (As := [.ref x0, .long x1, .int x2, .int x3]) rfl rfl (Nat.le_of_ble_eq_true rfl) hrest hkd (Nat.le_refl N) (fun h => h) kk
theorem x_L_lookAtAll_38 : kt_dc i_L_lookAtAll 38 (.iinc 7 1) 3 41 ∧ Int32.ofInt (1) = (1 : Int32) := ⟨⟨by decide +kernel, rfl⟩, by decide⟩
theorem x_L_lookAtAll_41 : kt_dj i_L_lookAtAll 41 .goto 20 44 := ⟨-21, by decide +kernel, by decide, rfl⟩
theorem x_L_lookAtAll_44 : kt_dc i_L_lookAtAll 44 (.return_) 1 45 ∧ kt_rt i_L_lookAtAll = none := ⟨⟨by decide +kernel, rfl⟩, rfl⟩
theorem x_E_standingIn_0 : kt_dc i_E_standingIn 0 (.lload_n 1) 1 1 := ⟨by decide +kernel, rfl⟩
theorem x_E_standingIn_1 : kt_dc i_E_standingIn 1 (.aload_n 0) 1 2 := ⟨by decide +kernel, rfl⟩
theorem x_E_standingIn_2 : kt_dc i_E_standingIn 2 (.lload_n 1) 1 3 := ⟨by decide +kernel, rfl⟩
theorem x_E_standingIn_3 : kt_sV i_E_standingIn 3 i_E_cancelledIn 1 1 6 := ⟨51, ⟨by decide +kernel, rfl⟩, Or.inl (tw_239), j_E_cancelledIn, ⟨tw_241, tp_7⟩, ⟨TX1, 8, rfl⟩, by decide, rfl⟩
theorem c_E_standingIn_3 {P : kt_P} {NM : Nat} {L : List (Option Value)} {rest : List Value} {N : Nat} {I : kt_I} {J : kt_J} {R : kt_R} {Q : Option Value → kt_I → kt_J → kt_R → Prop} {b : Nat} {x0 : Int64} (hkd : (kt_kd P N b).1 = 1) (hrest : (rest.map fun v => v.category).sum ≤ 8) (kk : KW P i_E_cancelledIn N 0 [some (.ref b), some (.long x0), none, none, none, none] [] N I J R (fun v I' J' R' => KW P i_E_standingIn NM 6 L (kt_pu v rest) N I' J' R' Q)) : KW P i_E_standingIn NM 3 L (.long x0 :: .ref b :: rest) N I J R Q := kw_callV x_E_standingIn_3 (As := [.long x0]) rfl rfl (Nat.le_of_ble_eq_true rfl) hrest hkd (Nat.le_refl N) (fun h => h) kk
theorem x_E_standingIn_6 : kt_dc i_E_standingIn 6 (.ldc2_w 55) 3 9 ∧ Cond.constantLong (kt_ow i_E_standingIn) 55 (-1) ∈ kt_GW := ⟨⟨by decide +kernel, rfl⟩, tw_246⟩
theorem x_E_standingIn_9 : kt_dc i_E_standingIn 9 (.lxor) 1 10 := ⟨by decide +kernel, rfl⟩
theorem x_E_standingIn_10 : kt_dc i_E_standingIn 10 (.land) 1 11 := ⟨by decide +kernel, rfl⟩
theorem x_E_standingIn_11 : kt_dc i_E_standingIn 11 (.lreturn) 1 12 ∧ kt_rt i_E_standingIn = (some .long) := ⟨⟨by decide +kernel, rfl⟩, rfl⟩
theorem x_E_cancelledIn_0 : kt_dc i_E_cancelledIn 0 (.lconst 0) 1 1 ∧ Int64.ofNat ((0 : Fin 2) : Nat) = (0 : Int64) := ⟨⟨by decide +kernel, rfl⟩, rfl⟩
theorem x_E_cancelledIn_1 : kt_dc i_E_cancelledIn 1 (.lstore_n 3) 1 2 := ⟨by decide +kernel, rfl⟩
theorem x_E_cancelledIn_2 : kt_dc i_E_cancelledIn 2 (.iconst 0) 1 3 ∧ Int32.ofInt (0) = (0 : Int32) := ⟨⟨by decide +kernel, rfl⟩, by decide⟩
theorem x_E_cancelledIn_3 : kt_dc i_E_cancelledIn 3 (.istore 5) 2 5 := ⟨by decide +kernel, rfl⟩
theorem x_E_cancelledIn_5 : kt_dc i_E_cancelledIn 5 (.iload 5) 2 7 := ⟨by decide +kernel, rfl⟩
theorem x_E_cancelledIn_7 : kt_dc i_E_cancelledIn 7 (.aload_n 0) 1 8 := ⟨by decide +kernel, rfl⟩
theorem x_E_cancelledIn_8 : kt_sG i_E_cancelledIn 8 1 0 0 11 := ⟨33, RX1, TX1, 8, ⟨by decide +kernel, rfl⟩, rfl, by decide, rfl, by decide, Or.inl (tw_93)⟩
theorem x_E_cancelledIn_11 : kt_dj i_E_cancelledIn 11 (.if_icmp .ge) 52 14 := ⟨41, by decide +kernel, by decide, rfl⟩
theorem x_E_cancelledIn_14 : kt_dc i_E_cancelledIn 14 (.lload_n 1) 1 15 := ⟨by decide +kernel, rfl⟩
theorem x_E_cancelledIn_15 : kt_dc i_E_cancelledIn 15 (.iload 5) 2 17 := ⟨by decide +kernel, rfl⟩
theorem x_E_cancelledIn_17 : kt_sS i_E_cancelledIn 17 i_K_has 2 20 := ⟨47, ⟨by decide +kernel, rfl⟩, Or.inr ⟨"KinderTowns", tw_243⟩, j_K_has, tw_244, rfl⟩
theorem c_E_cancelledIn_17 {P : kt_P} {NM : Nat} {L : List (Option Value)} {rest : List Value} {N : Nat} {I : kt_I} {J : kt_J} {R : kt_R} {Q : Option Value → kt_I → kt_J → kt_R → Prop} {x0 : Int64} {x1 : Int32} (hrest : (rest.map fun v => v.category).sum ≤ 8) (kk : KW P i_K_has N 0 [some (.long x0), none, some (.int x1)] [] N I J R (fun v I' J' R' => KW P i_E_cancelledIn NM 20 L (kt_pu v rest) N I' J' R' Q)) : KW P i_E_cancelledIn NM 17 L (.int x1 :: .long x0 :: rest) N I J R Q := kw_callS x_E_cancelledIn_17 (As := [.long x0, .int x1]) rfl rfl (Nat.le_of_ble_eq_true rfl) hrest (Nat.le_refl N) (fun h => h) kk
theorem x_E_cancelledIn_20 : kt_dj i_E_cancelledIn 20 (.ifCond .eq) 46 23 := ⟨26, by decide +kernel, by decide, rfl⟩
theorem x_E_cancelledIn_23 : kt_dc i_E_cancelledIn 23 (.aload_n 0) 1 24 := ⟨by decide +kernel, rfl⟩
theorem x_E_cancelledIn_24 : kt_sG i_E_cancelledIn 24 1 1 2 27 := ⟨9, RX1, TX1, 8, ⟨by decide +kernel, rfl⟩, rfl, by decide, rfl, by decide, Or.inl (tw_97)⟩
theorem x_E_cancelledIn_27 : kt_dc i_E_cancelledIn 27 (.iload 5) 2 29 := ⟨by decide +kernel, rfl⟩
theorem x_E_cancelledIn_29 : kt_dc i_E_cancelledIn 29 (.iaload) 1 30 := ⟨by decide +kernel, rfl⟩
theorem x_E_cancelledIn_30 : kt_dc i_E_cancelledIn 30 (.iconst 2) 1 31 ∧ Int32.ofInt (2) = (2 : Int32) := ⟨⟨by decide +kernel, rfl⟩, by decide⟩
theorem x_E_cancelledIn_31 : kt_dj i_E_cancelledIn 31 (.if_icmp .ne) 46 34 := ⟨15, by decide +kernel, by decide, rfl⟩
theorem x_E_cancelledIn_34 : kt_dc i_E_cancelledIn 34 (.lload_n 3) 1 35 := ⟨by decide +kernel, rfl⟩
theorem x_E_cancelledIn_35 : kt_dc i_E_cancelledIn 35 (.lconst 1) 1 36 ∧ Int64.ofNat ((1 : Fin 2) : Nat) = (1 : Int64) := ⟨⟨by decide +kernel, rfl⟩, rfl⟩
theorem x_E_cancelledIn_36 : kt_dc i_E_cancelledIn 36 (.aload_n 0) 1 37 := ⟨by decide +kernel, rfl⟩
theorem x_E_cancelledIn_37 : kt_sG i_E_cancelledIn 37 1 7 2 40 := ⟨30, RX1, TX1, 8, ⟨by decide +kernel, rfl⟩, rfl, by decide, rfl, by decide, Or.inl (tw_118)⟩
theorem x_E_cancelledIn_40 : kt_dc i_E_cancelledIn 40 (.iload 5) 2 42 := ⟨by decide +kernel, rfl⟩
theorem x_E_cancelledIn_42 : kt_dc i_E_cancelledIn 42 (.iaload) 1 43 := ⟨by decide +kernel, rfl⟩
theorem x_E_cancelledIn_43 : kt_dc i_E_cancelledIn 43 (.lshl) 1 44 := ⟨by decide +kernel, rfl⟩
theorem x_E_cancelledIn_44 : kt_dc i_E_cancelledIn 44 (.lor) 1 45 := ⟨by decide +kernel, rfl⟩
theorem x_E_cancelledIn_45 : kt_dc i_E_cancelledIn 45 (.lstore_n 3) 1 46 := ⟨by decide +kernel, rfl⟩
theorem x_E_cancelledIn_46 : kt_dc i_E_cancelledIn 46 (.iinc 5 1) 3 49 ∧ Int32.ofInt (1) = (1 : Int32) := ⟨⟨by decide +kernel, rfl⟩, by decide⟩
theorem x_E_cancelledIn_49 : kt_dj i_E_cancelledIn 49 .goto 5 52 := ⟨-44, by decide +kernel, by decide, rfl⟩
theorem x_E_cancelledIn_52 : kt_dc i_E_cancelledIn 52 (.lload_n 3) 1 53 := ⟨by decide +kernel, rfl⟩
theorem x_E_cancelledIn_53 : kt_dc i_E_cancelledIn 53 (.lreturn) 1 54 ∧ kt_rt i_E_cancelledIn = (some .long) := ⟨⟨by decide +kernel, rfl⟩, rfl⟩
theorem x_L_lookAtGood_0 : kt_dc i_L_lookAtGood 0 (.aload_n 0) 1 1 := ⟨by decide +kernel, rfl⟩
theorem x_L_lookAtGood_1 : kt_dc i_L_lookAtGood 1 (.aload_n 1) 1 2 := ⟨by decide +kernel, rfl⟩
theorem x_L_lookAtGood_2 : kt_dc i_L_lookAtGood 2 (.lload_n 2) 1 3 := ⟨by decide +kernel, rfl⟩
theorem x_L_lookAtGood_3 : kt_dc i_L_lookAtGood 3 (.iload 5) 2 5 := ⟨by decide +kernel, rfl⟩
theorem x_L_lookAtGood_5 : kt_sV i_L_lookAtGood 5 i_L_gather 2 3 8 := ⟨35, ⟨by decide +kernel, rfl⟩, Or.inl (tw_251), j_L_gather, ⟨tw_253, tp_9⟩, ⟨TX2, 6, rfl⟩, by decide, rfl⟩
theorem c_L_lookAtGood_5 {P : kt_P} {NM : Nat} {L : List (Option Value)} {rest : List Value} {N : Nat} {I : kt_I} {J : kt_J} {R : kt_R} {Q : Option Value → kt_I → kt_J → kt_R → Prop} {b : Nat} {x0 : Nat} {x1 : Int64} {x2 : Int32} (hkd : (kt_kd P N b).1 = 2) (hrest : (rest.map fun v => v.category).sum ≤ 8) (kk : KW P i_L_gather N 0 [some (.ref b), some (.ref x0), some (.long x1), none, some (.int x2), none] [] N I J R (fun v I' J' R' => KW P i_L_lookAtGood NM 8 L (kt_pu v rest) N I' J' R' Q)) : KW P i_L_lookAtGood NM 5 L (.int x2 :: .long x1 :: .ref x0 :: .ref b :: rest) N I J R Q := kw_callV x_L_lookAtGood_5 (As := [.ref x0, .long x1, .int x2]) rfl rfl (Nat.le_of_ble_eq_true rfl) hrest hkd (Nat.le_refl N) (fun h => h) kk
theorem x_L_lookAtGood_8 : kt_dc i_L_lookAtGood 8 (.aload_n 0) 1 9 := ⟨by decide +kernel, rfl⟩
theorem x_L_lookAtGood_9 : kt_sG i_L_lookAtGood 9 2 3 2 12 := ⟨15, RX2, TX2, 6, ⟨by decide +kernel, rfl⟩, rfl, by decide, rfl, by decide, Or.inl (tw_32)⟩
theorem x_L_lookAtGood_12 : kt_dc i_L_lookAtGood 12 (.iconst 0) 1 13 ∧ Int32.ofInt (0) = (0 : Int32) := ⟨⟨by decide +kernel, rfl⟩, by decide⟩
theorem x_L_lookAtGood_13 : kt_sS i_L_lookAtGood 13 i_J_fill 2 16 := ⟨39, ⟨by decide +kernel, rfl⟩, Or.inl (tw_256), j_J_fill, tw_257, rfl⟩
theorem c_L_lookAtGood_13 {P : kt_P} {NM : Nat} {L : List (Option Value)} {rest : List Value} {N : Nat} {I : kt_I} {J : kt_J} {R : kt_R} {Q : Option Value → kt_I → kt_J → kt_R → Prop} {x0 : Nat} {x1 : Int32} (hrest : (rest.map fun v => v.category).sum ≤ 8) (kk : KW P i_J_fill N 0 [some (.ref x0), some (.int x1), none, none] [] N I J R (fun v I' J' R' => KW P i_L_lookAtGood NM 16 L (kt_pu v rest) N I' J' R' Q)) : KW P i_L_lookAtGood NM 13 L (.int x1 :: .ref x0 :: rest) N I J R Q := kw_callS x_L_lookAtGood_13 (As := [.ref x0, .int x1]) rfl rfl (Nat.le_of_ble_eq_true rfl) hrest (Nat.le_refl N) (fun h => h) kk
theorem x_L_lookAtGood_16 : kt_dc i_L_lookAtGood 16 (.iconst 0) 1 17 ∧ Int32.ofInt (0) = (0 : Int32) := ⟨⟨by decide +kernel, rfl⟩, by decide⟩
theorem x_L_lookAtGood_17 : kt_dc i_L_lookAtGood 17 (.istore 6) 2 19 := ⟨by decide +kernel, rfl⟩
theorem x_L_lookAtGood_19 : kt_dc i_L_lookAtGood 19 (.iload 6) 2 21 := ⟨by decide +kernel, rfl⟩
theorem x_L_lookAtGood_21 : kt_dc i_L_lookAtGood 21 (.aload_n 0) 1 22 := ⟨by decide +kernel, rfl⟩
theorem x_L_lookAtGood_22 : kt_sG i_L_lookAtGood 22 2 1 0 25 := ⟨45, RX2, TX2, 6, ⟨by decide +kernel, rfl⟩, rfl, by decide, rfl, by decide, Or.inl (tw_29)⟩
theorem x_L_lookAtGood_25 : kt_dj i_L_lookAtGood 25 (.if_icmp .ge) 97 28 := ⟨72, by decide +kernel, by decide, rfl⟩
theorem x_L_lookAtGood_28 : kt_dc i_L_lookAtGood 28 (.aload_n 0) 1 29 := ⟨by decide +kernel, rfl⟩
theorem x_L_lookAtGood_29 : kt_dc i_L_lookAtGood 29 (.aload_n 1) 1 30 := ⟨by decide +kernel, rfl⟩
theorem x_L_lookAtGood_30 : kt_dc i_L_lookAtGood 30 (.iload 4) 2 32 := ⟨by decide +kernel, rfl⟩
theorem x_L_lookAtGood_32 : kt_dc i_L_lookAtGood 32 (.iload 6) 2 34 := ⟨by decide +kernel, rfl⟩
theorem x_L_lookAtGood_34 : kt_sV i_L_lookAtGood 34 i_L_nextPlace 2 3 37 := ⟨49, ⟨by decide +kernel, rfl⟩, Or.inl (tw_259), j_L_nextPlace, ⟨tw_261, tp_10⟩, ⟨TX2, 6, rfl⟩, by decide, rfl⟩
theorem c_L_lookAtGood_34 {P : kt_P} {NM : Nat} {L : List (Option Value)} {rest : List Value} {N : Nat} {I : kt_I} {J : kt_J} {R : kt_R} {Q : Option Value → kt_I → kt_J → kt_R → Prop} {b : Nat} {x0 : Nat} {x1 : Int32} {x2 : Int32} (hkd : (kt_kd P N b).1 = 2) (hrest : (rest.map fun v => v.category).sum ≤ 8) (kk : KW P i_L_nextPlace N 0 [some (.ref b), some (.ref x0), some (.int x1), some (.int x2), none, none, none, none] [] N I J R (fun v I' J' R' => KW P i_L_lookAtGood NM 37 L (kt_pu v rest) N I' J' R' Q)) : KW P i_L_lookAtGood NM 34 L (.int x2 :: .int x1 :: .ref x0 :: .ref b :: rest) N I J R Q := kw_callV x_L_lookAtGood_34 (As := [.ref x0, .int x1, .int x2]) rfl rfl (Nat.le_of_ble_eq_true rfl) hrest hkd (Nat.le_refl N) (fun h => h) kk
theorem x_L_lookAtGood_37 : kt_dc i_L_lookAtGood 37 (.istore 7) 2 39 := ⟨by decide +kernel, rfl⟩
theorem x_L_lookAtGood_39 : kt_dc i_L_lookAtGood 39 (.aload_n 0) 1 40 := ⟨by decide +kernel, rfl⟩
theorem x_L_lookAtGood_40 : kt_sG i_L_lookAtGood 40 2 0 2 43 := ⟨9, RX2, TX2, 6, ⟨by decide +kernel, rfl⟩, rfl, by decide, rfl, by decide, Or.inl (tw_27)⟩
theorem x_L_lookAtGood_43 : kt_dc i_L_lookAtGood 43 (.iload 7) 2 45 := ⟨by decide +kernel, rfl⟩
theorem x_L_lookAtGood_45 : kt_dc i_L_lookAtGood 45 (.iaload) 1 46 := ⟨by decide +kernel, rfl⟩
theorem x_L_lookAtGood_46 : kt_dc i_L_lookAtGood 46 (.istore 8) 2 48 := ⟨by decide +kernel, rfl⟩
theorem x_L_lookAtGood_48 : kt_dc i_L_lookAtGood 48 (.aload_n 0) 1 49 := ⟨by decide +kernel, rfl⟩
theorem x_L_lookAtGood_49 : kt_sG i_L_lookAtGood 49 2 0 2 52 := ⟨9, RX2, TX2, 6, ⟨by decide +kernel, rfl⟩, rfl, by decide, rfl, by decide, Or.inl (tw_27)⟩
theorem x_L_lookAtGood_52 : kt_dc i_L_lookAtGood 52 (.iload 7) 2 54 := ⟨by decide +kernel, rfl⟩
theorem x_L_lookAtGood_54 : kt_dc i_L_lookAtGood 54 (.aload_n 0) 1 55 := ⟨by decide +kernel, rfl⟩
theorem x_L_lookAtGood_55 : kt_sG i_L_lookAtGood 55 2 0 2 58 := ⟨9, RX2, TX2, 6, ⟨by decide +kernel, rfl⟩, rfl, by decide, rfl, by decide, Or.inl (tw_27)⟩
theorem x_L_lookAtGood_58 : kt_dc i_L_lookAtGood 58 (.iload 6) 2 60 := ⟨by decide +kernel, rfl⟩
theorem x_L_lookAtGood_60 : kt_dc i_L_lookAtGood 60 (.iaload) 1 61 := ⟨by decide +kernel, rfl⟩
theorem x_L_lookAtGood_61 : kt_dc i_L_lookAtGood 61 (.iastore) 1 62 := ⟨by decide +kernel, rfl⟩
theorem x_L_lookAtGood_62 : kt_dc i_L_lookAtGood 62 (.aload_n 0) 1 63 := ⟨by decide +kernel, rfl⟩
theorem x_L_lookAtGood_63 : kt_sG i_L_lookAtGood 63 2 0 2 66 := ⟨9, RX2, TX2, 6, ⟨by decide +kernel, rfl⟩, rfl, by decide, rfl, by decide, Or.inl (tw_27)⟩
theorem x_L_lookAtGood_66 : kt_dc i_L_lookAtGood 66 (.iload 6) 2 68 := ⟨by decide +kernel, rfl⟩
theorem x_L_lookAtGood_68 : kt_dc i_L_lookAtGood 68 (.iload 8) 2 70 := ⟨by decide +kernel, rfl⟩
theorem x_L_lookAtGood_70 : kt_dc i_L_lookAtGood 70 (.iastore) 1 71 := ⟨by decide +kernel, rfl⟩
theorem x_L_lookAtGood_71 : kt_dc i_L_lookAtGood 71 (.aload_n 0) 1 72 := ⟨by decide +kernel, rfl⟩
theorem x_L_lookAtGood_72 : kt_dc i_L_lookAtGood 72 (.iload 8) 2 74 := ⟨by decide +kernel, rfl⟩
theorem x_L_lookAtGood_74 : kt_dc i_L_lookAtGood 74 (.aload_n 1) 1 75 := ⟨by decide +kernel, rfl⟩
theorem x_L_lookAtGood_75 : kt_sG i_L_lookAtGood 75 1 5 2 78 := ⟨53, RX1, TX1, 8, ⟨by decide +kernel, rfl⟩, rfl, by decide, rfl, by decide, Or.inr ⟨"KinderTowns", tw_111⟩⟩
theorem x_L_lookAtGood_78 : kt_dc i_L_lookAtGood 78 (.iload 8) 2 80 := ⟨by decide +kernel, rfl⟩
theorem x_L_lookAtGood_80 : kt_dc i_L_lookAtGood 80 (.iaload) 1 81 := ⟨by decide +kernel, rfl⟩
theorem x_L_lookAtGood_81 : kt_dc i_L_lookAtGood 81 (.aload_n 1) 1 82 := ⟨by decide +kernel, rfl⟩
theorem x_L_lookAtGood_82 : kt_sG i_L_lookAtGood 82 1 6 2 85 := ⟨56, RX1, TX1, 8, ⟨by decide +kernel, rfl⟩, rfl, by decide, rfl, by decide, Or.inr ⟨"KinderTowns", tw_115⟩⟩
theorem x_L_lookAtGood_85 : kt_dc i_L_lookAtGood 85 (.iload 8) 2 87 := ⟨by decide +kernel, rfl⟩
theorem x_L_lookAtGood_87 : kt_dc i_L_lookAtGood 87 (.iaload) 1 88 := ⟨by decide +kernel, rfl⟩
theorem x_L_lookAtGood_88 : kt_sV i_L_lookAtGood 88 i_L_decide 2 3 91 := ⟨59, ⟨by decide +kernel, rfl⟩, Or.inl (tw_267), j_L_decide, ⟨tw_269, tp_12⟩, ⟨TX2, 6, rfl⟩, by decide, rfl⟩
theorem c_L_lookAtGood_88 {P : kt_P} {NM : Nat} {L : List (Option Value)} {rest : List Value} {N : Nat} {I : kt_I} {J : kt_J} {R : kt_R} {Q : Option Value → kt_I → kt_J → kt_R → Prop} {b : Nat} {x0 : Int32} {x1 : Int32} {x2 : Int32} (hkd : (kt_kd P N b).1 = 2) (hrest : (rest.map fun v => v.category).sum ≤ 8) (kk : KW P i_L_decide N 0 [some (.ref b), some (.int x0), some (.int x1), some (.int x2)] [] N I J R (fun v I' J' R' => KW P i_L_lookAtGood NM 91 L (kt_pu v rest) N I' J' R' Q)) : KW P i_L_lookAtGood NM 88 L (.int x2 :: .int x1 :: .int x0 :: .ref b :: rest) N I J R Q := kw_callV x_L_lookAtGood_88 (As := [.int x0, .int x1, .int x2]) rfl rfl (Nat.le_of_ble_eq_true rfl) hrest hkd (Nat.le_refl N) (fun h => h) kk
theorem x_L_lookAtGood_91 : kt_dc i_L_lookAtGood 91 (.iinc 6 1) 3 94 ∧ Int32.ofInt (1) = (1 : Int32) := ⟨⟨by decide +kernel, rfl⟩, by decide⟩
theorem x_L_lookAtGood_94 : kt_dj i_L_lookAtGood 94 .goto 19 97 := ⟨-75, by decide +kernel, by decide, rfl⟩
theorem x_L_lookAtGood_97 : kt_dc i_L_lookAtGood 97 (.return_) 1 98 ∧ kt_rt i_L_lookAtGood = none := ⟨⟨by decide +kernel, rfl⟩, rfl⟩
theorem x_L_gather_0 : kt_dc i_L_gather 0 (.aload_n 0) 1 1 := ⟨by decide +kernel, rfl⟩
theorem x_L_gather_1 : kt_dc i_L_gather 1 (.iconst 0) 1 2 ∧ Int32.ofInt (0) = (0 : Int32) := ⟨⟨by decide +kernel, rfl⟩, by decide⟩
theorem x_L_gather_2 : kt_sP i_L_gather 2 2 1 0 5 := ⟨45, RX2, TX2, 6, tyX2 1, ⟨by decide +kernel, rfl⟩, rfl, by decide, rfl, by decide, by decide +kernel, rfl, Or.inl ⟨rfl, Or.inl (tw_29)⟩⟩
theorem x_L_gather_5 : kt_dc i_L_gather 5 (.aload_n 0) 1 6 := ⟨by decide +kernel, rfl⟩
theorem x_L_gather_6 : kt_dc i_L_gather 6 (.iconst 0) 1 7 ∧ Int32.ofInt (0) = (0 : Int32) := ⟨⟨by decide +kernel, rfl⟩, by decide⟩
theorem x_L_gather_7 : kt_sP i_L_gather 7 2 2 0 10 := ⟨63, RX2, TX2, 6, tyX2 2, ⟨by decide +kernel, rfl⟩, rfl, by decide, rfl, by decide, by decide +kernel, rfl, Or.inl ⟨rfl, Or.inl (tw_31)⟩⟩
theorem x_L_gather_10 : kt_dc i_L_gather 10 (.iconst 0) 1 11 ∧ Int32.ofInt (0) = (0 : Int32) := ⟨⟨by decide +kernel, rfl⟩, by decide⟩
theorem x_L_gather_11 : kt_dc i_L_gather 11 (.istore 5) 2 13 := ⟨by decide +kernel, rfl⟩
theorem x_L_gather_13 : kt_dc i_L_gather 13 (.iload 5) 2 15 := ⟨by decide +kernel, rfl⟩
theorem x_L_gather_15 : kt_dc i_L_gather 15 (.aload_n 1) 1 16 := ⟨by decide +kernel, rfl⟩
theorem x_L_gather_16 : kt_sG i_L_gather 16 1 0 0 19 := ⟨66, RX1, TX1, 8, ⟨by decide +kernel, rfl⟩, rfl, by decide, rfl, by decide, Or.inr ⟨"KinderTowns", tw_94⟩⟩
theorem x_L_gather_19 : kt_dj i_L_gather 19 (.if_icmp .ge) 113 22 := ⟨94, by decide +kernel, by decide, rfl⟩
theorem x_L_gather_22 : kt_dc i_L_gather 22 (.lload_n 2) 1 23 := ⟨by decide +kernel, rfl⟩
theorem x_L_gather_23 : kt_dc i_L_gather 23 (.iload 5) 2 25 := ⟨by decide +kernel, rfl⟩
theorem x_L_gather_25 : kt_sS i_L_gather 25 i_K_has 2 28 := ⟨69, ⟨by decide +kernel, rfl⟩, Or.inr ⟨"KinderTowns", tw_255⟩, j_K_has, tw_244, rfl⟩
theorem c_L_gather_25 {P : kt_P} {NM : Nat} {L : List (Option Value)} {rest : List Value} {N : Nat} {I : kt_I} {J : kt_J} {R : kt_R} {Q : Option Value → kt_I → kt_J → kt_R → Prop} {x0 : Int64} {x1 : Int32} (hrest : (rest.map fun v => v.category).sum ≤ 8) (kk : KW P i_K_has N 0 [some (.long x0), none, some (.int x1)] [] N I J R (fun v I' J' R' => KW P i_L_gather NM 28 L (kt_pu v rest) N I' J' R' Q)) : KW P i_L_gather NM 25 L (.int x1 :: .long x0 :: rest) N I J R Q := kw_callS x_L_gather_25 (As := [.long x0, .int x1]) rfl rfl (Nat.le_of_ble_eq_true rfl) hrest (Nat.le_refl N) (fun h => h) kk
theorem x_L_gather_28 : kt_dj i_L_gather 28 (.ifCond .eq) 107 31 := ⟨79, by decide +kernel, by decide, rfl⟩
theorem x_L_gather_31 : kt_dc i_L_gather 31 (.aload_n 1) 1 32 := ⟨by decide +kernel, rfl⟩
theorem x_L_gather_32 : kt_sG i_L_gather 32 1 4 2 35 := ⟨73, RX1, TX1, 8, ⟨by decide +kernel, rfl⟩, rfl, by decide, rfl, by decide, Or.inr ⟨"KinderTowns", tw_107⟩⟩
theorem x_L_gather_35 : kt_dc i_L_gather 35 (.iload 5) 2 37 := ⟨by decide +kernel, rfl⟩
theorem x_L_gather_37 : kt_dc i_L_gather 37 (.iaload) 1 38 := ⟨by decide +kernel, rfl⟩
theorem x_L_gather_38 : kt_dc i_L_gather 38 (.iload 4) 2 40 := ⟨by decide +kernel, rfl⟩
theorem x_L_gather_40 : kt_dj i_L_gather 40 (.if_icmp .eq) 46 43 := ⟨6, by decide +kernel, by decide, rfl⟩
theorem x_L_gather_43 : kt_dj i_L_gather 43 .goto 107 46 := ⟨64, by decide +kernel, by decide, rfl⟩
theorem x_L_gather_46 : kt_dc i_L_gather 46 (.aload_n 1) 1 47 := ⟨by decide +kernel, rfl⟩
theorem x_L_gather_47 : kt_sG i_L_gather 47 1 1 2 50 := ⟨76, RX1, TX1, 8, ⟨by decide +kernel, rfl⟩, rfl, by decide, rfl, by decide, Or.inr ⟨"KinderTowns", tw_98⟩⟩
theorem x_L_gather_50 : kt_dc i_L_gather 50 (.iload 5) 2 52 := ⟨by decide +kernel, rfl⟩
theorem x_L_gather_52 : kt_dc i_L_gather 52 (.iaload) 1 53 := ⟨by decide +kernel, rfl⟩
theorem x_L_gather_53 : kt_dj i_L_gather 53 (.ifCond .ne) 75 56 := ⟨22, by decide +kernel, by decide, rfl⟩
theorem x_L_gather_56 : kt_dc i_L_gather 56 (.aload_n 0) 1 57 := ⟨by decide +kernel, rfl⟩
theorem x_L_gather_57 : kt_dc i_L_gather 57 (.dup) 1 58 := ⟨by decide +kernel, rfl⟩
theorem x_L_gather_58 : kt_sG i_L_gather 58 2 2 0 61 := ⟨63, RX2, TX2, 6, ⟨by decide +kernel, rfl⟩, rfl, by decide, rfl, by decide, Or.inl (tw_31)⟩
theorem x_L_gather_61 : kt_dc i_L_gather 61 (.aload_n 1) 1 62 := ⟨by decide +kernel, rfl⟩
theorem x_L_gather_62 : kt_sG i_L_gather 62 1 5 2 65 := ⟨53, RX1, TX1, 8, ⟨by decide +kernel, rfl⟩, rfl, by decide, rfl, by decide, Or.inr ⟨"KinderTowns", tw_111⟩⟩
theorem x_L_gather_65 : kt_dc i_L_gather 65 (.iload 5) 2 67 := ⟨by decide +kernel, rfl⟩
theorem x_L_gather_67 : kt_dc i_L_gather 67 (.iaload) 1 68 := ⟨by decide +kernel, rfl⟩
theorem x_L_gather_68 : kt_dc i_L_gather 68 (.iadd) 1 69 := ⟨by decide +kernel, rfl⟩
theorem x_L_gather_69 : kt_sP i_L_gather 69 2 2 0 72 := ⟨63, RX2, TX2, 6, tyX2 2, ⟨by decide +kernel, rfl⟩, rfl, by decide, rfl, by decide, by decide +kernel, rfl, Or.inl ⟨rfl, Or.inl (tw_31)⟩⟩
theorem x_L_gather_72 : kt_dj i_L_gather 72 .goto 107 75 := ⟨35, by decide +kernel, by decide, rfl⟩
theorem x_L_gather_75 : kt_dc i_L_gather 75 (.aload_n 1) 1 76 := ⟨by decide +kernel, rfl⟩
theorem x_L_gather_76 : kt_sG i_L_gather 76 1 1 2 79 := ⟨76, RX1, TX1, 8, ⟨by decide +kernel, rfl⟩, rfl, by decide, rfl, by decide, Or.inr ⟨"KinderTowns", tw_98⟩⟩
theorem x_L_gather_79 : kt_dc i_L_gather 79 (.iload 5) 2 81 := ⟨by decide +kernel, rfl⟩
theorem x_L_gather_81 : kt_dc i_L_gather 81 (.iaload) 1 82 := ⟨by decide +kernel, rfl⟩
theorem x_L_gather_82 : kt_dc i_L_gather 82 (.iconst 1) 1 83 ∧ Int32.ofInt (1) = (1 : Int32) := ⟨⟨by decide +kernel, rfl⟩, by decide⟩
theorem x_L_gather_83 : kt_dj i_L_gather 83 (.if_icmp .ne) 107 86 := ⟨24, by decide +kernel, by decide, rfl⟩
theorem x_L_gather_86 : kt_dc i_L_gather 86 (.aload_n 0) 1 87 := ⟨by decide +kernel, rfl⟩
theorem x_L_gather_87 : kt_sG i_L_gather 87 2 0 2 90 := ⟨9, RX2, TX2, 6, ⟨by decide +kernel, rfl⟩, rfl, by decide, rfl, by decide, Or.inl (tw_27)⟩
theorem x_L_gather_90 : kt_dc i_L_gather 90 (.aload_n 0) 1 91 := ⟨by decide +kernel, rfl⟩
theorem x_L_gather_91 : kt_sG i_L_gather 91 2 1 0 94 := ⟨45, RX2, TX2, 6, ⟨by decide +kernel, rfl⟩, rfl, by decide, rfl, by decide, Or.inl (tw_29)⟩
theorem x_L_gather_94 : kt_dc i_L_gather 94 (.iload 5) 2 96 := ⟨by decide +kernel, rfl⟩
theorem x_L_gather_96 : kt_dc i_L_gather 96 (.iastore) 1 97 := ⟨by decide +kernel, rfl⟩
theorem x_L_gather_97 : kt_dc i_L_gather 97 (.aload_n 0) 1 98 := ⟨by decide +kernel, rfl⟩
theorem x_L_gather_98 : kt_dc i_L_gather 98 (.dup) 1 99 := ⟨by decide +kernel, rfl⟩
theorem x_L_gather_99 : kt_sG i_L_gather 99 2 1 0 102 := ⟨45, RX2, TX2, 6, ⟨by decide +kernel, rfl⟩, rfl, by decide, rfl, by decide, Or.inl (tw_29)⟩
theorem x_L_gather_102 : kt_dc i_L_gather 102 (.iconst 1) 1 103 ∧ Int32.ofInt (1) = (1 : Int32) := ⟨⟨by decide +kernel, rfl⟩, by decide⟩
theorem x_L_gather_103 : kt_dc i_L_gather 103 (.iadd) 1 104 := ⟨by decide +kernel, rfl⟩
theorem x_L_gather_104 : kt_sP i_L_gather 104 2 1 0 107 := ⟨45, RX2, TX2, 6, tyX2 1, ⟨by decide +kernel, rfl⟩, rfl, by decide, rfl, by decide, by decide +kernel, rfl, Or.inl ⟨rfl, Or.inl (tw_29)⟩⟩
theorem x_L_gather_107 : kt_dc i_L_gather 107 (.iinc 5 1) 3 110 ∧ Int32.ofInt (1) = (1 : Int32) := ⟨⟨by decide +kernel, rfl⟩, by decide⟩
theorem x_L_gather_110 : kt_dj i_L_gather 110 .goto 13 113 := ⟨-97, by decide +kernel, by decide, rfl⟩
theorem x_L_gather_113 : kt_dc i_L_gather 113 (.return_) 1 114 ∧ kt_rt i_L_gather = none := ⟨⟨by decide +kernel, rfl⟩, rfl⟩
theorem x_J_fill_0 : kt_dc i_J_fill 0 (.iconst 0) 1 1 ∧ Int32.ofInt (0) = (0 : Int32) := ⟨⟨by decide +kernel, rfl⟩, by decide⟩
theorem x_J_fill_1 : kt_dc i_J_fill 1 (.istore_n 2) 1 2 := ⟨by decide +kernel, rfl⟩
theorem x_J_fill_2 : kt_dc i_J_fill 2 (.aload_n 0) 1 3 := ⟨by decide +kernel, rfl⟩
theorem x_J_fill_3 : kt_dc i_J_fill 3 (.arraylength) 1 4 := ⟨by decide +kernel, rfl⟩
theorem x_J_fill_4 : kt_dc i_J_fill 4 (.istore_n 3) 1 5 := ⟨by decide +kernel, rfl⟩
theorem x_J_fill_5 : kt_dc i_J_fill 5 (.iload_n 2) 1 6 := ⟨by decide +kernel, rfl⟩
theorem x_J_fill_6 : kt_dc i_J_fill 6 (.iload_n 3) 1 7 := ⟨by decide +kernel, rfl⟩
theorem x_J_fill_7 : kt_dj i_J_fill 7 (.if_icmp .ge) 20 10 := ⟨13, by decide +kernel, by decide, rfl⟩
theorem x_J_fill_10 : kt_dc i_J_fill 10 (.aload_n 0) 1 11 := ⟨by decide +kernel, rfl⟩
theorem x_J_fill_11 : kt_dc i_J_fill 11 (.iload_n 2) 1 12 := ⟨by decide +kernel, rfl⟩
theorem x_J_fill_12 : kt_dc i_J_fill 12 (.iload_n 1) 1 13 := ⟨by decide +kernel, rfl⟩
theorem x_J_fill_13 : kt_dc i_J_fill 13 (.iastore) 1 14 := ⟨by decide +kernel, rfl⟩
theorem x_J_fill_14 : kt_dc i_J_fill 14 (.iinc 2 1) 3 17 ∧ Int32.ofInt (1) = (1 : Int32) := ⟨⟨by decide +kernel, rfl⟩, by decide⟩
theorem x_J_fill_17 : kt_dj i_J_fill 17 .goto 5 20 := ⟨-12, by decide +kernel, by decide, rfl⟩
theorem x_J_fill_20 : kt_dc i_J_fill 20 (.return_) 1 21 ∧ kt_rt i_J_fill = none := ⟨⟨by decide +kernel, rfl⟩, rfl⟩
theorem x_L_nextPlace_0 : kt_dc i_L_nextPlace 0 (.iload_n 3) 1 1 := ⟨by decide +kernel, rfl⟩
theorem x_L_nextPlace_1 : kt_dc i_L_nextPlace 1 (.istore 4) 2 3 := ⟨by decide +kernel, rfl⟩
theorem x_L_nextPlace_3 : kt_dc i_L_nextPlace 3 (.aload_n 0) 1 4 := ⟨by decide +kernel, rfl⟩
theorem x_L_nextPlace_4 : kt_dc i_L_nextPlace 4 (.aload_n 1) 1 5 := ⟨by decide +kernel, rfl⟩
theorem x_L_nextPlace_5 : kt_dc i_L_nextPlace 5 (.iload_n 2) 1 6 := ⟨by decide +kernel, rfl⟩
theorem x_L_nextPlace_6 : kt_dc i_L_nextPlace 6 (.aload_n 0) 1 7 := ⟨by decide +kernel, rfl⟩
theorem x_L_nextPlace_7 : kt_sG i_L_nextPlace 7 2 0 2 10 := ⟨9, RX2, TX2, 6, ⟨by decide +kernel, rfl⟩, rfl, by decide, rfl, by decide, Or.inl (tw_27)⟩
theorem x_L_nextPlace_10 : kt_dc i_L_nextPlace 10 (.iload_n 3) 1 11 := ⟨by decide +kernel, rfl⟩
theorem x_L_nextPlace_11 : kt_dc i_L_nextPlace 11 (.iaload) 1 12 := ⟨by decide +kernel, rfl⟩
theorem x_L_nextPlace_12 : kt_sV i_L_nextPlace 12 i_L_weight 2 3 15 := ⟨79, ⟨by decide +kernel, rfl⟩, Or.inl (tw_263), j_L_weight, ⟨tw_265, tp_11⟩, ⟨TX2, 6, rfl⟩, by decide, rfl⟩
theorem c_L_nextPlace_12 {P : kt_P} {NM : Nat} {L : List (Option Value)} {rest : List Value} {N : Nat} {I : kt_I} {J : kt_J} {R : kt_R} {Q : Option Value → kt_I → kt_J → kt_R → Prop} {b : Nat} {x0 : Nat} {x1 : Int32} {x2 : Int32} (hkd : (kt_kd P N b).1 = 2) (hrest : (rest.map fun v => v.category).sum ≤ 8) (kk : KW P i_L_weight N 0 [some (.ref b), some (.ref x0), some (.int x1), some (.int x2), none, none] [] N I J R (fun v I' J' R' => KW P i_L_nextPlace NM 15 L (kt_pu v rest) N I' J' R' Q)) : KW P i_L_nextPlace NM 12 L (.int x2 :: .int x1 :: .ref x0 :: .ref b :: rest) N I J R Q := kw_callV x_L_nextPlace_12 (As := [.ref x0, .int x1, .int x2]) rfl rfl (Nat.le_of_ble_eq_true rfl) hrest hkd (Nat.le_refl N) (fun h => h) kk
theorem x_L_nextPlace_15 : kt_dc i_L_nextPlace 15 (.istore 5) 2 17 := ⟨by decide +kernel, rfl⟩
theorem x_L_nextPlace_17 : kt_dc i_L_nextPlace 17 (.iload_n 3) 1 18 := ⟨by decide +kernel, rfl⟩
theorem x_L_nextPlace_18 : kt_dc i_L_nextPlace 18 (.iconst 1) 1 19 ∧ Int32.ofInt (1) = (1 : Int32) := ⟨⟨by decide +kernel, rfl⟩, by decide⟩
theorem x_L_nextPlace_19 : kt_dc i_L_nextPlace 19 (.iadd) 1 20 := ⟨by decide +kernel, rfl⟩
theorem x_L_nextPlace_20 : kt_dc i_L_nextPlace 20 (.istore 6) 2 22 := ⟨by decide +kernel, rfl⟩
theorem x_L_nextPlace_22 : kt_dc i_L_nextPlace 22 (.iload 6) 2 24 := ⟨by decide +kernel, rfl⟩
theorem x_L_nextPlace_24 : kt_dc i_L_nextPlace 24 (.aload_n 0) 1 25 := ⟨by decide +kernel, rfl⟩
theorem x_L_nextPlace_25 : kt_sG i_L_nextPlace 25 2 1 0 28 := ⟨45, RX2, TX2, 6, ⟨by decide +kernel, rfl⟩, rfl, by decide, rfl, by decide, Or.inl (tw_29)⟩
theorem x_L_nextPlace_28 : kt_dj i_L_nextPlace 28 (.if_icmp .ge) 67 31 := ⟨39, by decide +kernel, by decide, rfl⟩
theorem x_L_nextPlace_31 : kt_dc i_L_nextPlace 31 (.aload_n 0) 1 32 := ⟨by decide +kernel, rfl⟩
theorem x_L_nextPlace_32 : kt_dc i_L_nextPlace 32 (.aload_n 1) 1 33 := ⟨by decide +kernel, rfl⟩
theorem x_L_nextPlace_33 : kt_dc i_L_nextPlace 33 (.iload_n 2) 1 34 := ⟨by decide +kernel, rfl⟩
theorem x_L_nextPlace_34 : kt_dc i_L_nextPlace 34 (.aload_n 0) 1 35 := ⟨by decide +kernel, rfl⟩
theorem x_L_nextPlace_35 : kt_sG i_L_nextPlace 35 2 0 2 38 := ⟨9, RX2, TX2, 6, ⟨by decide +kernel, rfl⟩, rfl, by decide, rfl, by decide, Or.inl (tw_27)⟩
theorem x_L_nextPlace_38 : kt_dc i_L_nextPlace 38 (.iload 6) 2 40 := ⟨by decide +kernel, rfl⟩
theorem x_L_nextPlace_40 : kt_dc i_L_nextPlace 40 (.iaload) 1 41 := ⟨by decide +kernel, rfl⟩
theorem x_L_nextPlace_41 : kt_sV i_L_nextPlace 41 i_L_weight 2 3 44 := ⟨79, ⟨by decide +kernel, rfl⟩, Or.inl (tw_263), j_L_weight, ⟨tw_265, tp_11⟩, ⟨TX2, 6, rfl⟩, by decide, rfl⟩
theorem c_L_nextPlace_41 {P : kt_P} {NM : Nat} {L : List (Option Value)} {rest : List Value} {N : Nat} {I : kt_I} {J : kt_J} {R : kt_R} {Q : Option Value → kt_I → kt_J → kt_R → Prop} {b : Nat} {x0 : Nat} {x1 : Int32} {x2 : Int32} (hkd : (kt_kd P N b).1 = 2) (hrest : (rest.map fun v => v.category).sum ≤ 8) (kk : KW P i_L_weight N 0 [some (.ref b), some (.ref x0), some (.int x1), some (.int x2), none, none] [] N I J R (fun v I' J' R' => KW P i_L_nextPlace NM 44 L (kt_pu v rest) N I' J' R' Q)) : KW P i_L_nextPlace NM 41 L (.int x2 :: .int x1 :: .ref x0 :: .ref b :: rest) N I J R Q := kw_callV x_L_nextPlace_41 (As := [.ref x0, .int x1, .int x2]) rfl rfl (Nat.le_of_ble_eq_true rfl) hrest hkd (Nat.le_refl N) (fun h => h) kk
theorem x_L_nextPlace_44 : kt_dc i_L_nextPlace 44 (.istore 7) 2 46 := ⟨by decide +kernel, rfl⟩
theorem x_L_nextPlace_46 : kt_dc i_L_nextPlace 46 (.iload 7) 2 48 := ⟨by decide +kernel, rfl⟩
theorem x_L_nextPlace_48 : kt_dc i_L_nextPlace 48 (.iload 5) 2 50 := ⟨by decide +kernel, rfl⟩
theorem x_L_nextPlace_50 : kt_dj i_L_nextPlace 50 (.if_icmp .ge) 61 53 := ⟨11, by decide +kernel, by decide, rfl⟩
theorem x_L_nextPlace_53 : kt_dc i_L_nextPlace 53 (.iload 7) 2 55 := ⟨by decide +kernel, rfl⟩
theorem x_L_nextPlace_55 : kt_dc i_L_nextPlace 55 (.istore 5) 2 57 := ⟨by decide +kernel, rfl⟩
theorem x_L_nextPlace_57 : kt_dc i_L_nextPlace 57 (.iload 6) 2 59 := ⟨by decide +kernel, rfl⟩
theorem x_L_nextPlace_59 : kt_dc i_L_nextPlace 59 (.istore 4) 2 61 := ⟨by decide +kernel, rfl⟩
theorem x_L_nextPlace_61 : kt_dc i_L_nextPlace 61 (.iinc 6 1) 3 64 ∧ Int32.ofInt (1) = (1 : Int32) := ⟨⟨by decide +kernel, rfl⟩, by decide⟩
theorem x_L_nextPlace_64 : kt_dj i_L_nextPlace 64 .goto 22 67 := ⟨-42, by decide +kernel, by decide, rfl⟩
theorem x_L_nextPlace_67 : kt_dc i_L_nextPlace 67 (.iload 4) 2 69 := ⟨by decide +kernel, rfl⟩
theorem x_L_nextPlace_69 : kt_dc i_L_nextPlace 69 (.ireturn) 1 70 ∧ kt_rt i_L_nextPlace = (some .int) := ⟨⟨by decide +kernel, rfl⟩, rfl⟩
theorem x_L_weight_0 : kt_dc i_L_weight 0 (.aload_n 1) 1 1 := ⟨by decide +kernel, rfl⟩
theorem x_L_weight_1 : kt_sG i_L_weight 1 1 6 2 4 := ⟨56, RX1, TX1, 8, ⟨by decide +kernel, rfl⟩, rfl, by decide, rfl, by decide, Or.inr ⟨"KinderTowns", tw_115⟩⟩
theorem x_L_weight_4 : kt_dc i_L_weight 4 (.iload_n 3) 1 5 := ⟨by decide +kernel, rfl⟩
theorem x_L_weight_5 : kt_dc i_L_weight 5 (.iaload) 1 6 := ⟨by decide +kernel, rfl⟩
theorem x_L_weight_6 : kt_dc i_L_weight 6 (.istore 4) 2 8 := ⟨by decide +kernel, rfl⟩
theorem x_L_weight_8 : kt_dc i_L_weight 8 (.iconst 0) 1 9 ∧ Int32.ofInt (0) = (0 : Int32) := ⟨⟨by decide +kernel, rfl⟩, by decide⟩
theorem x_L_weight_9 : kt_dc i_L_weight 9 (.istore 5) 2 11 := ⟨by decide +kernel, rfl⟩
theorem x_L_weight_11 : kt_dc i_L_weight 11 (.iload_n 2) 1 12 := ⟨by decide +kernel, rfl⟩
theorem x_L_weight_12 : kt_dc i_L_weight 12 (.iconst 1) 1 13 ∧ Int32.ofInt (1) = (1 : Int32) := ⟨⟨by decide +kernel, rfl⟩, by decide⟩
theorem x_L_weight_13 : kt_dj i_L_weight 13 (.if_icmp .ne) 27 16 := ⟨14, by decide +kernel, by decide, rfl⟩
theorem x_L_weight_16 : kt_dc i_L_weight 16 (.aload_n 1) 1 17 := ⟨by decide +kernel, rfl⟩
theorem x_L_weight_17 : kt_sG i_L_weight 17 1 5 2 20 := ⟨53, RX1, TX1, 8, ⟨by decide +kernel, rfl⟩, rfl, by decide, rfl, by decide, Or.inr ⟨"KinderTowns", tw_111⟩⟩
theorem x_L_weight_20 : kt_dc i_L_weight 20 (.iload_n 3) 1 21 := ⟨by decide +kernel, rfl⟩
theorem x_L_weight_21 : kt_dc i_L_weight 21 (.iaload) 1 22 := ⟨by decide +kernel, rfl⟩
theorem x_L_weight_22 : kt_dc i_L_weight 22 (.istore 5) 2 24 := ⟨by decide +kernel, rfl⟩
theorem x_L_weight_24 : kt_dj i_L_weight 24 .goto 53 27 := ⟨29, by decide +kernel, by decide, rfl⟩
theorem x_L_weight_27 : kt_dc i_L_weight 27 (.iload_n 2) 1 28 := ⟨by decide +kernel, rfl⟩
theorem x_L_weight_28 : kt_dc i_L_weight 28 (.iconst 2) 1 29 ∧ Int32.ofInt (2) = (2 : Int32) := ⟨⟨by decide +kernel, rfl⟩, by decide⟩
theorem x_L_weight_29 : kt_dj i_L_weight 29 (.if_icmp .ne) 53 32 := ⟨24, by decide +kernel, by decide, rfl⟩
theorem x_L_weight_32 : kt_dc i_L_weight 32 (.iload 4) 2 34 := ⟨by decide +kernel, rfl⟩
theorem x_L_weight_34 : kt_dj i_L_weight 34 (.ifCond .lt) 53 37 := ⟨19, by decide +kernel, by decide, rfl⟩
theorem x_L_weight_37 : kt_dc i_L_weight 37 (.iload 4) 2 39 := ⟨by decide +kernel, rfl⟩
theorem x_L_weight_39 : kt_dc i_L_weight 39 (.bipush 10) 2 41 ∧ (Int8.ofInt (10)).toInt32 = (10 : Int32) := ⟨⟨by decide +kernel, rfl⟩, by decide⟩
theorem x_L_weight_41 : kt_dj i_L_weight 41 (.if_icmp .ge) 53 44 := ⟨12, by decide +kernel, by decide, rfl⟩
theorem x_L_weight_44 : kt_dc i_L_weight 44 (.aload_n 0) 1 45 := ⟨by decide +kernel, rfl⟩
theorem x_L_weight_45 : kt_sG i_L_weight 45 2 3 2 48 := ⟨15, RX2, TX2, 6, ⟨by decide +kernel, rfl⟩, rfl, by decide, rfl, by decide, Or.inl (tw_32)⟩
theorem x_L_weight_48 : kt_dc i_L_weight 48 (.iload 4) 2 50 := ⟨by decide +kernel, rfl⟩
theorem x_L_weight_50 : kt_dc i_L_weight 50 (.iaload) 1 51 := ⟨by decide +kernel, rfl⟩
theorem x_L_weight_51 : kt_dc i_L_weight 51 (.istore 5) 2 53 := ⟨by decide +kernel, rfl⟩
theorem x_L_weight_53 : kt_dc i_L_weight 53 (.iload 5) 2 55 := ⟨by decide +kernel, rfl⟩
theorem x_L_weight_55 : kt_dc i_L_weight 55 (.sipush 305) 3 58 ∧ (Int16.ofInt (305)).toInt32 = (305 : Int32) := ⟨⟨by decide +kernel, rfl⟩, by decide⟩
theorem x_L_weight_58 : kt_dc i_L_weight 58 (.imul) 1 59 := ⟨by decide +kernel, rfl⟩
theorem x_L_weight_59 : kt_dc i_L_weight 59 (.aload_n 1) 1 60 := ⟨by decide +kernel, rfl⟩
theorem x_L_weight_60 : kt_sG i_L_weight 60 1 3 2 63 := ⟨82, RX1, TX1, 8, ⟨by decide +kernel, rfl⟩, rfl, by decide, rfl, by decide, Or.inr ⟨"KinderTowns", tw_104⟩⟩
theorem x_L_weight_63 : kt_dc i_L_weight 63 (.iload_n 3) 1 64 := ⟨by decide +kernel, rfl⟩
theorem x_L_weight_64 : kt_dc i_L_weight 64 (.iaload) 1 65 := ⟨by decide +kernel, rfl⟩
theorem x_L_weight_65 : kt_dc i_L_weight 65 (.iconst 5) 1 66 ∧ Int32.ofInt (5) = (5 : Int32) := ⟨⟨by decide +kernel, rfl⟩, by decide⟩
theorem x_L_weight_66 : kt_dc i_L_weight 66 (.imul) 1 67 := ⟨by decide +kernel, rfl⟩
theorem x_L_weight_67 : kt_dc i_L_weight 67 (.iadd) 1 68 := ⟨by decide +kernel, rfl⟩
theorem x_L_weight_68 : kt_dc i_L_weight 68 (.aload_n 1) 1 69 := ⟨by decide +kernel, rfl⟩
theorem x_L_weight_69 : kt_sG i_L_weight 69 1 2 2 72 := ⟨85, RX1, TX1, 8, ⟨by decide +kernel, rfl⟩, rfl, by decide, rfl, by decide, Or.inr ⟨"KinderTowns", tw_101⟩⟩
theorem x_L_weight_72 : kt_dc i_L_weight 72 (.iload_n 3) 1 73 := ⟨by decide +kernel, rfl⟩
theorem x_L_weight_73 : kt_dc i_L_weight 73 (.iaload) 1 74 := ⟨by decide +kernel, rfl⟩
theorem x_L_weight_74 : kt_dc i_L_weight 74 (.iadd) 1 75 := ⟨by decide +kernel, rfl⟩
theorem x_L_weight_75 : kt_dc i_L_weight 75 (.ireturn) 1 76 ∧ kt_rt i_L_weight = (some .int) := ⟨⟨by decide +kernel, rfl⟩, rfl⟩
theorem x_L_decide_0 : kt_dc i_L_decide 0 (.iload_n 2) 1 1 := ⟨by decide +kernel, rfl⟩
theorem x_L_decide_1 : kt_dc i_L_decide 1 (.aload_n 0) 1 2 := ⟨by decide +kernel, rfl⟩
theorem x_L_decide_2 : kt_sG i_L_decide 2 2 2 0 5 := ⟨63, RX2, TX2, 6, ⟨by decide +kernel, rfl⟩, rfl, by decide, rfl, by decide, Or.inl (tw_31)⟩
theorem x_L_decide_5 : kt_dj i_L_decide 5 (.if_icmp .le) 21 8 := ⟨16, by decide +kernel, by decide, rfl⟩
theorem x_L_decide_8 : kt_dc i_L_decide 8 (.aload_n 0) 1 9 := ⟨by decide +kernel, rfl⟩
theorem x_L_decide_9 : kt_dc i_L_decide 9 (.dup) 1 10 := ⟨by decide +kernel, rfl⟩
theorem x_L_decide_10 : kt_sG i_L_decide 10 2 5 1 13 := ⟨22, RX2, TX2, 6, ⟨by decide +kernel, rfl⟩, rfl, by decide, rfl, by decide, Or.inl (tw_36)⟩
theorem x_L_decide_13 : kt_dc i_L_decide 13 (.lconst 1) 1 14 ∧ Int64.ofNat ((1 : Fin 2) : Nat) = (1 : Int64) := ⟨⟨by decide +kernel, rfl⟩, rfl⟩
theorem x_L_decide_14 : kt_dc i_L_decide 14 (.iload_n 1) 1 15 := ⟨by decide +kernel, rfl⟩
theorem x_L_decide_15 : kt_dc i_L_decide 15 (.lshl) 1 16 := ⟨by decide +kernel, rfl⟩
theorem x_L_decide_16 : kt_dc i_L_decide 16 (.lor) 1 17 := ⟨by decide +kernel, rfl⟩
theorem x_L_decide_17 : kt_sP i_L_decide 17 2 5 1 20 := ⟨22, RX2, TX2, 6, tyX2 5, ⟨by decide +kernel, rfl⟩, rfl, by decide, rfl, by decide, by decide +kernel, rfl, Or.inl ⟨rfl, Or.inl (tw_36)⟩⟩
theorem x_L_decide_20 : kt_dc i_L_decide 20 (.return_) 1 21 ∧ kt_rt i_L_decide = none := ⟨⟨by decide +kernel, rfl⟩, rfl⟩
theorem x_L_decide_21 : kt_dc i_L_decide 21 (.aload_n 0) 1 22 := ⟨by decide +kernel, rfl⟩
theorem x_L_decide_22 : kt_dc i_L_decide 22 (.dup) 1 23 := ⟨by decide +kernel, rfl⟩
theorem x_L_decide_23 : kt_sG i_L_decide 23 2 4 1 26 := ⟨18, RX2, TX2, 6, ⟨by decide +kernel, rfl⟩, rfl, by decide, rfl, by decide, Or.inl (tw_33)⟩
theorem x_L_decide_26 : kt_dc i_L_decide 26 (.lconst 1) 1 27 ∧ Int64.ofNat ((1 : Fin 2) : Nat) = (1 : Int64) := ⟨⟨by decide +kernel, rfl⟩, rfl⟩
theorem x_L_decide_27 : kt_dc i_L_decide 27 (.iload_n 1) 1 28 := ⟨by decide +kernel, rfl⟩
theorem x_L_decide_28 : kt_dc i_L_decide 28 (.lshl) 1 29 := ⟨by decide +kernel, rfl⟩
theorem x_L_decide_29 : kt_dc i_L_decide 29 (.lor) 1 30 := ⟨by decide +kernel, rfl⟩
theorem x_L_decide_30 : kt_sP i_L_decide 30 2 4 1 33 := ⟨18, RX2, TX2, 6, tyX2 4, ⟨by decide +kernel, rfl⟩, rfl, by decide, rfl, by decide, by decide +kernel, rfl, Or.inl ⟨rfl, Or.inl (tw_33)⟩⟩
theorem x_L_decide_33 : kt_dc i_L_decide 33 (.aload_n 0) 1 34 := ⟨by decide +kernel, rfl⟩
theorem x_L_decide_34 : kt_dc i_L_decide 34 (.dup) 1 35 := ⟨by decide +kernel, rfl⟩
theorem x_L_decide_35 : kt_sG i_L_decide 35 2 2 0 38 := ⟨63, RX2, TX2, 6, ⟨by decide +kernel, rfl⟩, rfl, by decide, rfl, by decide, Or.inl (tw_31)⟩
theorem x_L_decide_38 : kt_dc i_L_decide 38 (.iload_n 2) 1 39 := ⟨by decide +kernel, rfl⟩
theorem x_L_decide_39 : kt_dc i_L_decide 39 (.isub) 1 40 := ⟨by decide +kernel, rfl⟩
theorem x_L_decide_40 : kt_sP i_L_decide 40 2 2 0 43 := ⟨63, RX2, TX2, 6, tyX2 2, ⟨by decide +kernel, rfl⟩, rfl, by decide, rfl, by decide, by decide +kernel, rfl, Or.inl ⟨rfl, Or.inl (tw_31)⟩⟩
theorem x_L_decide_43 : kt_dc i_L_decide 43 (.iload_n 3) 1 44 := ⟨by decide +kernel, rfl⟩
theorem x_L_decide_44 : kt_dc i_L_decide 44 (.bipush 10) 2 46 ∧ (Int8.ofInt (10)).toInt32 = (10 : Int32) := ⟨⟨by decide +kernel, rfl⟩, by decide⟩
theorem x_L_decide_46 : kt_sS i_L_decide 46 i_K_isBelow 2 49 := ⟨88, ⟨by decide +kernel, rfl⟩, Or.inr ⟨"KinderTowns", tw_271⟩, j_K_isBelow, tw_221, rfl⟩
theorem c_L_decide_46 {P : kt_P} {NM : Nat} {L : List (Option Value)} {rest : List Value} {N : Nat} {I : kt_I} {J : kt_J} {R : kt_R} {Q : Option Value → kt_I → kt_J → kt_R → Prop} {x0 : Int32} {x1 : Int32} (hrest : (rest.map fun v => v.category).sum ≤ 8) (kk : KW P i_K_isBelow N 0 [some (.int x0), some (.int x1)] [] N I J R (fun v I' J' R' => KW P i_L_decide NM 49 L (kt_pu v rest) N I' J' R' Q)) : KW P i_L_decide NM 46 L (.int x1 :: .int x0 :: rest) N I J R Q := kw_callS x_L_decide_46 (As := [.int x0, .int x1]) rfl rfl (Nat.le_of_ble_eq_true rfl) hrest (Nat.le_refl N) (fun h => h) kk
theorem x_L_decide_49 : kt_dj i_L_decide 49 (.ifCond .eq) 62 52 := ⟨13, by decide +kernel, by decide, rfl⟩
theorem x_L_decide_52 : kt_dc i_L_decide 52 (.aload_n 0) 1 53 := ⟨by decide +kernel, rfl⟩
theorem x_L_decide_53 : kt_sG i_L_decide 53 2 3 2 56 := ⟨15, RX2, TX2, 6, ⟨by decide +kernel, rfl⟩, rfl, by decide, rfl, by decide, Or.inl (tw_32)⟩
theorem x_L_decide_56 : kt_dc i_L_decide 56 (.iload_n 3) 1 57 := ⟨by decide +kernel, rfl⟩
theorem x_L_decide_57 : kt_dc i_L_decide 57 (.dup2) 1 58 := ⟨by decide +kernel, rfl⟩
theorem x_L_decide_58 : kt_dc i_L_decide 58 (.iaload) 1 59 := ⟨by decide +kernel, rfl⟩
theorem x_L_decide_59 : kt_dc i_L_decide 59 (.iload_n 2) 1 60 := ⟨by decide +kernel, rfl⟩
theorem x_L_decide_60 : kt_dc i_L_decide 60 (.iadd) 1 61 := ⟨by decide +kernel, rfl⟩
theorem x_L_decide_61 : kt_dc i_L_decide 61 (.iastore) 1 62 := ⟨by decide +kernel, rfl⟩
theorem x_L_decide_62 : kt_dc i_L_decide 62 (.return_) 1 63 ∧ kt_rt i_L_decide = none := ⟨⟨by decide +kernel, rfl⟩, rfl⟩
theorem x_C_makeDelivery_0 : kt_dc i_C_makeDelivery 0 (.aload_n 0) 1 1 := ⟨by decide +kernel, rfl⟩
theorem x_C_makeDelivery_1 : kt_dc i_C_makeDelivery 1 (.iload_n 1) 1 2 := ⟨by decide +kernel, rfl⟩
theorem x_C_makeDelivery_2 : kt_sV i_C_makeDelivery 2 i_C_isTown 0 1 5 := ⟨66, ⟨by decide +kernel, rfl⟩, Or.inl (tw_285), j_C_isTown, ⟨tw_287, tp_15⟩, ⟨TX0, 11, rfl⟩, by decide, rfl⟩
theorem c_C_makeDelivery_2 {P : kt_P} {NM : Nat} {L : List (Option Value)} {rest : List Value} {N : Nat} {I : kt_I} {J : kt_J} {R : kt_R} {Q : Option Value → kt_I → kt_J → kt_R → Prop} {b : Nat} {x0 : Int32} (hkd : (kt_kd P N b).1 = 0) (hrest : (rest.map fun v => v.category).sum ≤ 8) (kk : KW P i_C_isTown N 0 [some (.ref b), some (.int x0)] [] N I J R (fun v I' J' R' => KW P i_C_makeDelivery NM 5 L (kt_pu v rest) N I' J' R' Q)) : KW P i_C_makeDelivery NM 2 L (.int x0 :: .ref b :: rest) N I J R Q := kw_callV x_C_makeDelivery_2 (As := [.int x0]) rfl rfl (Nat.le_of_ble_eq_true rfl) hrest hkd (Nat.le_refl N) (fun h => h) kk
theorem x_C_makeDelivery_5 : kt_dj i_C_makeDelivery 5 (.ifCond .eq) 28 8 := ⟨23, by decide +kernel, by decide, rfl⟩
theorem x_C_makeDelivery_8 : kt_dc i_C_makeDelivery 8 (.iload_n 2) 1 9 := ⟨by decide +kernel, rfl⟩
theorem x_C_makeDelivery_9 : kt_dc i_C_makeDelivery 9 (.bipush 6) 2 11 ∧ (Int8.ofInt (6)).toInt32 = (6 : Int32) := ⟨⟨by decide +kernel, rfl⟩, by decide⟩
theorem x_C_makeDelivery_11 : kt_sS i_C_makeDelivery 11 i_K_isBelow 2 14 := ⟨62, ⟨by decide +kernel, rfl⟩, Or.inr ⟨"KinderTowns", tw_220⟩, j_K_isBelow, tw_221, rfl⟩
theorem c_C_makeDelivery_11 {P : kt_P} {NM : Nat} {L : List (Option Value)} {rest : List Value} {N : Nat} {I : kt_I} {J : kt_J} {R : kt_R} {Q : Option Value → kt_I → kt_J → kt_R → Prop} {x0 : Int32} {x1 : Int32} (hrest : (rest.map fun v => v.category).sum ≤ 8) (kk : KW P i_K_isBelow N 0 [some (.int x0), some (.int x1)] [] N I J R (fun v I' J' R' => KW P i_C_makeDelivery NM 14 L (kt_pu v rest) N I' J' R' Q)) : KW P i_C_makeDelivery NM 11 L (.int x1 :: .int x0 :: rest) N I J R Q := kw_callS x_C_makeDelivery_11 (As := [.int x0, .int x1]) rfl rfl (Nat.le_of_ble_eq_true rfl) hrest (Nat.le_refl N) (fun h => h) kk
theorem x_C_makeDelivery_14 : kt_dj i_C_makeDelivery 14 (.ifCond .eq) 28 17 := ⟨14, by decide +kernel, by decide, rfl⟩
theorem x_C_makeDelivery_17 : kt_dc i_C_makeDelivery 17 (.iload_n 3) 1 18 := ⟨by decide +kernel, rfl⟩
theorem x_C_makeDelivery_18 : kt_dc i_C_makeDelivery 18 (.iconst 1) 1 19 ∧ Int32.ofInt (1) = (1 : Int32) := ⟨⟨by decide +kernel, rfl⟩, by decide⟩
theorem x_C_makeDelivery_19 : kt_dc i_C_makeDelivery 19 (.isub) 1 20 := ⟨by decide +kernel, rfl⟩
theorem x_C_makeDelivery_20 : kt_dc i_C_makeDelivery 20 (.bipush 99) 2 22 ∧ (Int8.ofInt (99)).toInt32 = (99 : Int32) := ⟨⟨by decide +kernel, rfl⟩, by decide⟩
theorem x_C_makeDelivery_22 : kt_sS i_C_makeDelivery 22 i_K_isBelow 2 25 := ⟨62, ⟨by decide +kernel, rfl⟩, Or.inr ⟨"KinderTowns", tw_220⟩, j_K_isBelow, tw_221, rfl⟩
theorem c_C_makeDelivery_22 {P : kt_P} {NM : Nat} {L : List (Option Value)} {rest : List Value} {N : Nat} {I : kt_I} {J : kt_J} {R : kt_R} {Q : Option Value → kt_I → kt_J → kt_R → Prop} {x0 : Int32} {x1 : Int32} (hrest : (rest.map fun v => v.category).sum ≤ 8) (kk : KW P i_K_isBelow N 0 [some (.int x0), some (.int x1)] [] N I J R (fun v I' J' R' => KW P i_C_makeDelivery NM 25 L (kt_pu v rest) N I' J' R' Q)) : KW P i_C_makeDelivery NM 22 L (.int x1 :: .int x0 :: rest) N I J R Q := kw_callS x_C_makeDelivery_22 (As := [.int x0, .int x1]) rfl rfl (Nat.le_of_ble_eq_true rfl) hrest (Nat.le_refl N) (fun h => h) kk
theorem x_C_makeDelivery_25 : kt_dj i_C_makeDelivery 25 (.ifCond .ne) 30 28 := ⟨5, by decide +kernel, by decide, rfl⟩
theorem x_C_makeDelivery_28 : kt_dc i_C_makeDelivery 28 (.iconst (-1)) 1 29 ∧ Int32.ofInt (-1) = (-1 : Int32) := ⟨⟨by decide +kernel, rfl⟩, by decide⟩
theorem x_C_makeDelivery_29 : kt_dc i_C_makeDelivery 29 (.ireturn) 1 30 ∧ kt_rt i_C_makeDelivery = (some .int) := ⟨⟨by decide +kernel, rfl⟩, rfl⟩
theorem x_C_makeDelivery_30 : kt_dc i_C_makeDelivery 30 (.aload_n 0) 1 31 := ⟨by decide +kernel, rfl⟩
theorem x_C_makeDelivery_31 : kt_dc i_C_makeDelivery 31 (.iconst 0) 1 32 ∧ Int32.ofInt (0) = (0 : Int32) := ⟨⟨by decide +kernel, rfl⟩, by decide⟩
theorem x_C_makeDelivery_32 : kt_dc i_C_makeDelivery 32 (.iload_n 1) 1 33 := ⟨by decide +kernel, rfl⟩
theorem x_C_makeDelivery_33 : kt_dc i_C_makeDelivery 33 (.iload_n 2) 1 34 := ⟨by decide +kernel, rfl⟩
theorem x_C_makeDelivery_34 : kt_dc i_C_makeDelivery 34 (.iload_n 3) 1 35 := ⟨by decide +kernel, rfl⟩
theorem x_C_makeDelivery_35 : kt_sV i_C_makeDelivery 35 i_C_make 0 4 38 := ⟨70, ⟨by decide +kernel, rfl⟩, Or.inl (tw_289), j_C_make, ⟨tw_291, tp_16⟩, ⟨TX0, 11, rfl⟩, by decide, rfl⟩
theorem c_C_makeDelivery_35 {P : kt_P} {NM : Nat} {L : List (Option Value)} {rest : List Value} {N : Nat} {I : kt_I} {J : kt_J} {R : kt_R} {Q : Option Value → kt_I → kt_J → kt_R → Prop} {b : Nat} {x0 : Int32} {x1 : Int32} {x2 : Int32} {x3 : Int32} (hkd : (kt_kd P N b).1 = 0) (hrest : (rest.map fun v => v.category).sum ≤ 8) (kk : KW P i_C_make N 0 [some (.ref b), some (.int x0), some (.int x1), some (.int x2), some (.int x3), none] [] N I J R (fun v I' J' R' => KW P i_C_makeDelivery NM 38 L (kt_pu v rest) N I' J' R' Q)) : KW P i_C_makeDelivery NM 35 L (.int x3 :: .int x2 :: .int x1 :: .int x0 :: .ref b :: rest) N I J R Q := kw_callV x_C_makeDelivery_35 (As := [.int x0, .int x1, .int x2, .int x3]) rfl rfl (Nat.le_of_ble_eq_true rfl) hrest hkd (Nat.le_refl N) (fun h => h) kk
theorem x_C_makeDelivery_38 : kt_dc i_C_makeDelivery 38 (.ireturn) 1 39 ∧ kt_rt i_C_makeDelivery = (some .int) := ⟨⟨by decide +kernel, rfl⟩, rfl⟩
theorem x_C_isTown_0 : kt_dc i_C_isTown 0 (.iload_n 1) 1 1 := ⟨by decide +kernel, rfl⟩
theorem x_C_isTown_1 : kt_dc i_C_isTown 1 (.aload_n 0) 1 2 := ⟨by decide +kernel, rfl⟩
theorem x_C_isTown_2 : kt_sG i_C_isTown 2 0 2 0 5 := ⟨46, RX0, TX0, 11, ⟨by decide +kernel, rfl⟩, rfl, by decide, rfl, by decide, Or.inl (tw_141)⟩
theorem x_C_isTown_5 : kt_sS i_C_isTown 5 i_K_isBelow 2 8 := ⟨62, ⟨by decide +kernel, rfl⟩, Or.inr ⟨"KinderTowns", tw_220⟩, j_K_isBelow, tw_221, rfl⟩
theorem c_C_isTown_5 {P : kt_P} {NM : Nat} {L : List (Option Value)} {rest : List Value} {N : Nat} {I : kt_I} {J : kt_J} {R : kt_R} {Q : Option Value → kt_I → kt_J → kt_R → Prop} {x0 : Int32} {x1 : Int32} (hrest : (rest.map fun v => v.category).sum ≤ 8) (kk : KW P i_K_isBelow N 0 [some (.int x0), some (.int x1)] [] N I J R (fun v I' J' R' => KW P i_C_isTown NM 8 L (kt_pu v rest) N I' J' R' Q)) : KW P i_C_isTown NM 5 L (.int x1 :: .int x0 :: rest) N I J R Q := kw_callS x_C_isTown_5 (As := [.int x0, .int x1]) rfl rfl (Nat.le_of_ble_eq_true rfl) hrest (Nat.le_refl N) (fun h => h) kk
theorem x_C_isTown_8 : kt_dc i_C_isTown 8 (.ireturn) 1 9 ∧ kt_rt i_C_isTown = (some .boolean) := ⟨⟨by decide +kernel, rfl⟩, rfl⟩
theorem x_C_make_0 : kt_dc i_C_make 0 (.aload_n 0) 1 1 := ⟨by decide +kernel, rfl⟩
theorem x_C_make_1 : kt_sG i_C_make 1 0 1 2 4 := ⟨12, RX0, TX0, 11, ⟨by decide +kernel, rfl⟩, rfl, by decide, rfl, by decide, Or.inl (tw_139)⟩
theorem x_C_make_4 : kt_dc i_C_make 4 (.iload_n 1) 1 5 := ⟨by decide +kernel, rfl⟩
theorem x_C_make_5 : kt_dc i_C_make 5 (.iload_n 2) 1 6 := ⟨by decide +kernel, rfl⟩
theorem x_C_make_6 : kt_dc i_C_make 6 (.aload_n 0) 1 7 := ⟨by decide +kernel, rfl⟩
theorem x_C_make_7 : kt_sG i_C_make 7 0 4 2 10 := ⟨18, RX0, TX0, 11, ⟨by decide +kernel, rfl⟩, rfl, by decide, rfl, by decide, Or.inl (tw_145)⟩
theorem x_C_make_10 : kt_dc i_C_make 10 (.iload_n 2) 1 11 := ⟨by decide +kernel, rfl⟩
theorem x_C_make_11 : kt_dc i_C_make 11 (.iaload) 1 12 := ⟨by decide +kernel, rfl⟩
theorem x_C_make_12 : kt_dc i_C_make 12 (.iconst 1) 1 13 ∧ Int32.ofInt (1) = (1 : Int32) := ⟨⟨by decide +kernel, rfl⟩, by decide⟩
theorem x_C_make_13 : kt_dc i_C_make 13 (.iadd) 1 14 := ⟨by decide +kernel, rfl⟩
theorem x_C_make_14 : kt_dc i_C_make 14 (.iload_n 3) 1 15 := ⟨by decide +kernel, rfl⟩
theorem x_C_make_15 : kt_dc i_C_make 15 (.iload 4) 2 17 := ⟨by decide +kernel, rfl⟩
theorem x_C_make_17 : kt_sV i_C_make 17 i_E_add 1 5 20 := ⟨100, ⟨by decide +kernel, rfl⟩, Or.inr ⟨"KinderTowns", tw_293⟩, j_E_add, ⟨tw_295, tp_17⟩, ⟨TX1, 8, rfl⟩, by decide, rfl⟩
theorem c_C_make_17 {P : kt_P} {NM : Nat} {L : List (Option Value)} {rest : List Value} {N : Nat} {I : kt_I} {J : kt_J} {R : kt_R} {Q : Option Value → kt_I → kt_J → kt_R → Prop} {b : Nat} {x0 : Int32} {x1 : Int32} {x2 : Int32} {x3 : Int32} {x4 : Int32} (hkd : (kt_kd P N b).1 = 1) (hrest : (rest.map fun v => v.category).sum ≤ 8) (kk : KW P i_E_add N 0 [some (.ref b), some (.int x0), some (.int x1), some (.int x2), some (.int x3), some (.int x4)] [] N I J R (fun v I' J' R' => KW P i_C_make NM 20 L (kt_pu v rest) N I' J' R' Q)) : KW P i_C_make NM 17 L (.int x4 :: .int x3 :: .int x2 :: .int x1 :: .int x0 :: .ref b :: rest) N I J R Q := kw_callV x_C_make_17 (As := [.int x0, .int x1, .int x2, .int x3, .int x4]) rfl rfl (Nat.le_of_ble_eq_true rfl) hrest hkd (Nat.le_refl N) (fun h => h) kk
theorem x_C_make_20 : kt_dc i_C_make 20 (.istore 5) 2 22 := ⟨by decide +kernel, rfl⟩
theorem x_C_make_22 : kt_dc i_C_make 22 (.iload 5) 2 24 := ⟨by decide +kernel, rfl⟩
theorem x_C_make_24 : kt_dj i_C_make 24 (.ifCond .lt) 50 27 := ⟨26, by decide +kernel, by decide, rfl⟩
theorem x_C_make_27 : kt_dc i_C_make 27 (.aload_n 0) 1 28 := ⟨by decide +kernel, rfl⟩
theorem x_C_make_28 : kt_sG i_C_make 28 0 4 2 31 := ⟨18, RX0, TX0, 11, ⟨by decide +kernel, rfl⟩, rfl, by decide, rfl, by decide, Or.inl (tw_145)⟩
theorem x_C_make_31 : kt_dc i_C_make 31 (.iload_n 2) 1 32 := ⟨by decide +kernel, rfl⟩
theorem x_C_make_32 : kt_dc i_C_make 32 (.dup2) 1 33 := ⟨by decide +kernel, rfl⟩
theorem x_C_make_33 : kt_dc i_C_make 33 (.iaload) 1 34 := ⟨by decide +kernel, rfl⟩
theorem x_C_make_34 : kt_dc i_C_make 34 (.iconst 1) 1 35 ∧ Int32.ofInt (1) = (1 : Int32) := ⟨⟨by decide +kernel, rfl⟩, by decide⟩
theorem x_C_make_35 : kt_dc i_C_make 35 (.iadd) 1 36 := ⟨by decide +kernel, rfl⟩
theorem x_C_make_36 : kt_dc i_C_make 36 (.iastore) 1 37 := ⟨by decide +kernel, rfl⟩
theorem x_C_make_37 : kt_dc i_C_make 37 (.aload_n 0) 1 38 := ⟨by decide +kernel, rfl⟩
theorem x_C_make_38 : kt_sG i_C_make 38 0 5 2 41 := ⟨22, RX0, TX0, 11, ⟨by decide +kernel, rfl⟩, rfl, by decide, rfl, by decide, Or.inl (tw_147)⟩
theorem x_C_make_41 : kt_dc i_C_make 41 (.iload_n 2) 1 42 := ⟨by decide +kernel, rfl⟩
theorem x_C_make_42 : kt_dc i_C_make 42 (.dup2) 1 43 := ⟨by decide +kernel, rfl⟩
theorem x_C_make_43 : kt_dc i_C_make 43 (.laload) 1 44 := ⟨by decide +kernel, rfl⟩
theorem x_C_make_44 : kt_dc i_C_make 44 (.lconst 1) 1 45 ∧ Int64.ofNat ((1 : Fin 2) : Nat) = (1 : Int64) := ⟨⟨by decide +kernel, rfl⟩, rfl⟩
theorem x_C_make_45 : kt_dc i_C_make 45 (.iload 5) 2 47 := ⟨by decide +kernel, rfl⟩
theorem x_C_make_47 : kt_dc i_C_make 47 (.lshl) 1 48 := ⟨by decide +kernel, rfl⟩
theorem x_C_make_48 : kt_dc i_C_make 48 (.lor) 1 49 := ⟨by decide +kernel, rfl⟩
theorem x_C_make_49 : kt_dc i_C_make 49 (.lastore) 1 50 := ⟨by decide +kernel, rfl⟩
theorem x_C_make_50 : kt_dc i_C_make 50 (.iload 5) 2 52 := ⟨by decide +kernel, rfl⟩
theorem x_C_make_52 : kt_dc i_C_make 52 (.ireturn) 1 53 ∧ kt_rt i_C_make = (some .int) := ⟨⟨by decide +kernel, rfl⟩, rfl⟩
theorem x_E_add_0 : kt_dc i_E_add 0 (.aload_n 0) 1 1 := ⟨by decide +kernel, rfl⟩
theorem x_E_add_1 : kt_sG i_E_add 1 1 0 0 4 := ⟨33, RX1, TX1, 8, ⟨by decide +kernel, rfl⟩, rfl, by decide, rfl, by decide, Or.inl (tw_93)⟩
theorem x_E_add_4 : kt_dc i_E_add 4 (.bipush 60) 2 6 ∧ (Int8.ofInt (60)).toInt32 = (60 : Int32) := ⟨⟨by decide +kernel, rfl⟩, by decide⟩
theorem x_E_add_6 : kt_sS i_E_add 6 i_K_isBelow 2 9 := ⟨43, ⟨by decide +kernel, rfl⟩, Or.inr ⟨"KinderTowns", tw_297⟩, j_K_isBelow, tw_221, rfl⟩
theorem c_E_add_6 {P : kt_P} {NM : Nat} {L : List (Option Value)} {rest : List Value} {N : Nat} {I : kt_I} {J : kt_J} {R : kt_R} {Q : Option Value → kt_I → kt_J → kt_R → Prop} {x0 : Int32} {x1 : Int32} (hrest : (rest.map fun v => v.category).sum ≤ 8) (kk : KW P i_K_isBelow N 0 [some (.int x0), some (.int x1)] [] N I J R (fun v I' J' R' => KW P i_E_add NM 9 L (kt_pu v rest) N I' J' R' Q)) : KW P i_E_add NM 6 L (.int x1 :: .int x0 :: rest) N I J R Q := kw_callS x_E_add_6 (As := [.int x0, .int x1]) rfl rfl (Nat.le_of_ble_eq_true rfl) hrest (Nat.le_refl N) (fun h => h) kk
theorem x_E_add_9 : kt_dj i_E_add 9 (.ifCond .ne) 15 12 := ⟨6, by decide +kernel, by decide, rfl⟩
theorem x_E_add_12 : kt_dc i_E_add 12 (.bipush (-3)) 2 14 ∧ (Int8.ofInt (-3)).toInt32 = (-3 : Int32) := ⟨⟨by decide +kernel, rfl⟩, by decide⟩
theorem x_E_add_14 : kt_dc i_E_add 14 (.ireturn) 1 15 ∧ kt_rt i_E_add = (some .int) := ⟨⟨by decide +kernel, rfl⟩, rfl⟩
theorem x_E_add_15 : kt_dc i_E_add 15 (.aload_n 0) 1 16 := ⟨by decide +kernel, rfl⟩
theorem x_E_add_16 : kt_sG i_E_add 16 1 1 2 19 := ⟨9, RX1, TX1, 8, ⟨by decide +kernel, rfl⟩, rfl, by decide, rfl, by decide, Or.inl (tw_97)⟩
theorem x_E_add_19 : kt_dc i_E_add 19 (.aload_n 0) 1 20 := ⟨by decide +kernel, rfl⟩
theorem x_E_add_20 : kt_sG i_E_add 20 1 0 0 23 := ⟨33, RX1, TX1, 8, ⟨by decide +kernel, rfl⟩, rfl, by decide, rfl, by decide, Or.inl (tw_93)⟩
theorem x_E_add_23 : kt_dc i_E_add 23 (.iload_n 1) 1 24 := ⟨by decide +kernel, rfl⟩
theorem x_E_add_24 : kt_dc i_E_add 24 (.iastore) 1 25 := ⟨by decide +kernel, rfl⟩
theorem x_E_add_25 : kt_dc i_E_add 25 (.aload_n 0) 1 26 := ⟨by decide +kernel, rfl⟩
theorem x_E_add_26 : kt_sG i_E_add 26 1 2 2 29 := ⟨15, RX1, TX1, 8, ⟨by decide +kernel, rfl⟩, rfl, by decide, rfl, by decide, Or.inl (tw_100)⟩
theorem x_E_add_29 : kt_dc i_E_add 29 (.aload_n 0) 1 30 := ⟨by decide +kernel, rfl⟩
theorem x_E_add_30 : kt_sG i_E_add 30 1 0 0 33 := ⟨33, RX1, TX1, 8, ⟨by decide +kernel, rfl⟩, rfl, by decide, rfl, by decide, Or.inl (tw_93)⟩
theorem x_E_add_33 : kt_dc i_E_add 33 (.iload_n 2) 1 34 := ⟨by decide +kernel, rfl⟩
theorem x_E_add_34 : kt_dc i_E_add 34 (.iastore) 1 35 := ⟨by decide +kernel, rfl⟩
theorem x_E_add_35 : kt_dc i_E_add 35 (.aload_n 0) 1 36 := ⟨by decide +kernel, rfl⟩
theorem x_E_add_36 : kt_sG i_E_add 36 1 3 2 39 := ⟨18, RX1, TX1, 8, ⟨by decide +kernel, rfl⟩, rfl, by decide, rfl, by decide, Or.inl (tw_103)⟩
theorem x_E_add_39 : kt_dc i_E_add 39 (.aload_n 0) 1 40 := ⟨by decide +kernel, rfl⟩
theorem x_E_add_40 : kt_sG i_E_add 40 1 0 0 43 := ⟨33, RX1, TX1, 8, ⟨by decide +kernel, rfl⟩, rfl, by decide, rfl, by decide, Or.inl (tw_93)⟩
theorem x_E_add_43 : kt_dc i_E_add 43 (.iload_n 3) 1 44 := ⟨by decide +kernel, rfl⟩
theorem x_E_add_44 : kt_dc i_E_add 44 (.iastore) 1 45 := ⟨by decide +kernel, rfl⟩
theorem x_E_add_45 : kt_dc i_E_add 45 (.aload_n 0) 1 46 := ⟨by decide +kernel, rfl⟩
theorem x_E_add_46 : kt_sG i_E_add 46 1 4 2 49 := ⟨21, RX1, TX1, 8, ⟨by decide +kernel, rfl⟩, rfl, by decide, rfl, by decide, Or.inl (tw_106)⟩
theorem x_E_add_49 : kt_dc i_E_add 49 (.aload_n 0) 1 50 := ⟨by decide +kernel, rfl⟩
theorem x_E_add_50 : kt_sG i_E_add 50 1 0 0 53 := ⟨33, RX1, TX1, 8, ⟨by decide +kernel, rfl⟩, rfl, by decide, rfl, by decide, Or.inl (tw_93)⟩
theorem x_E_add_53 : kt_dc i_E_add 53 (.iload 4) 2 55 := ⟨by decide +kernel, rfl⟩
theorem x_E_add_55 : kt_dc i_E_add 55 (.iastore) 1 56 := ⟨by decide +kernel, rfl⟩
theorem x_E_add_56 : kt_dc i_E_add 56 (.aload_n 0) 1 57 := ⟨by decide +kernel, rfl⟩
theorem x_E_add_57 : kt_sG i_E_add 57 1 5 2 60 := ⟨24, RX1, TX1, 8, ⟨by decide +kernel, rfl⟩, rfl, by decide, rfl, by decide, Or.inl (tw_110)⟩
theorem x_E_add_60 : kt_dc i_E_add 60 (.aload_n 0) 1 61 := ⟨by decide +kernel, rfl⟩
theorem x_E_add_61 : kt_sG i_E_add 61 1 0 0 64 := ⟨33, RX1, TX1, 8, ⟨by decide +kernel, rfl⟩, rfl, by decide, rfl, by decide, Or.inl (tw_93)⟩
theorem x_E_add_64 : kt_dc i_E_add 64 (.iload 5) 2 66 := ⟨by decide +kernel, rfl⟩
theorem x_E_add_66 : kt_dc i_E_add 66 (.iastore) 1 67 := ⟨by decide +kernel, rfl⟩
theorem x_E_add_67 : kt_dc i_E_add 67 (.aload_n 0) 1 68 := ⟨by decide +kernel, rfl⟩
theorem x_E_add_68 : kt_sG i_E_add 68 1 6 2 71 := ⟨27, RX1, TX1, 8, ⟨by decide +kernel, rfl⟩, rfl, by decide, rfl, by decide, Or.inl (tw_114)⟩
theorem x_E_add_71 : kt_dc i_E_add 71 (.aload_n 0) 1 72 := ⟨by decide +kernel, rfl⟩
theorem x_E_add_72 : kt_sG i_E_add 72 1 0 0 75 := ⟨33, RX1, TX1, 8, ⟨by decide +kernel, rfl⟩, rfl, by decide, rfl, by decide, Or.inl (tw_93)⟩
theorem x_E_add_75 : kt_dc i_E_add 75 (.bipush (-4)) 2 77 ∧ (Int8.ofInt (-4)).toInt32 = (-4 : Int32) := ⟨⟨by decide +kernel, rfl⟩, by decide⟩
theorem x_E_add_77 : kt_dc i_E_add 77 (.iastore) 1 78 := ⟨by decide +kernel, rfl⟩
theorem x_E_add_78 : kt_dc i_E_add 78 (.aload_n 0) 1 79 := ⟨by decide +kernel, rfl⟩
theorem x_E_add_79 : kt_sG i_E_add 79 1 7 2 82 := ⟨30, RX1, TX1, 8, ⟨by decide +kernel, rfl⟩, rfl, by decide, rfl, by decide, Or.inl (tw_118)⟩
theorem x_E_add_82 : kt_dc i_E_add 82 (.aload_n 0) 1 83 := ⟨by decide +kernel, rfl⟩
theorem x_E_add_83 : kt_sG i_E_add 83 1 0 0 86 := ⟨33, RX1, TX1, 8, ⟨by decide +kernel, rfl⟩, rfl, by decide, rfl, by decide, Or.inl (tw_93)⟩
theorem x_E_add_86 : kt_dc i_E_add 86 (.bipush (-4)) 2 88 ∧ (Int8.ofInt (-4)).toInt32 = (-4 : Int32) := ⟨⟨by decide +kernel, rfl⟩, by decide⟩
theorem x_E_add_88 : kt_dc i_E_add 88 (.iastore) 1 89 := ⟨by decide +kernel, rfl⟩
theorem x_E_add_89 : kt_dc i_E_add 89 (.aload_n 0) 1 90 := ⟨by decide +kernel, rfl⟩
theorem x_E_add_90 : kt_dc i_E_add 90 (.dup) 1 91 := ⟨by decide +kernel, rfl⟩
theorem x_E_add_91 : kt_sG i_E_add 91 1 0 0 94 := ⟨33, RX1, TX1, 8, ⟨by decide +kernel, rfl⟩, rfl, by decide, rfl, by decide, Or.inl (tw_93)⟩
theorem x_E_add_94 : kt_dc i_E_add 94 (.iconst 1) 1 95 ∧ Int32.ofInt (1) = (1 : Int32) := ⟨⟨by decide +kernel, rfl⟩, by decide⟩
theorem x_E_add_95 : kt_dc i_E_add 95 (.iadd) 1 96 := ⟨by decide +kernel, rfl⟩
theorem x_E_add_96 : kt_sP i_E_add 96 1 0 0 99 := ⟨33, RX1, TX1, 8, tyX1 0, ⟨by decide +kernel, rfl⟩, rfl, by decide, rfl, by decide, by decide +kernel, rfl, Or.inl ⟨rfl, Or.inl (tw_93)⟩⟩
theorem x_E_add_99 : kt_dc i_E_add 99 (.aload_n 0) 1 100 := ⟨by decide +kernel, rfl⟩
theorem x_E_add_100 : kt_sG i_E_add 100 1 0 0 103 := ⟨33, RX1, TX1, 8, ⟨by decide +kernel, rfl⟩, rfl, by decide, rfl, by decide, Or.inl (tw_93)⟩
theorem x_E_add_103 : kt_dc i_E_add 103 (.iconst 1) 1 104 ∧ Int32.ofInt (1) = (1 : Int32) := ⟨⟨by decide +kernel, rfl⟩, by decide⟩
theorem x_E_add_104 : kt_dc i_E_add 104 (.isub) 1 105 := ⟨by decide +kernel, rfl⟩
theorem x_E_add_105 : kt_dc i_E_add 105 (.ireturn) 1 106 ∧ kt_rt i_E_add = (some .int) := ⟨⟨by decide +kernel, rfl⟩, rfl⟩
theorem x_C_makeOrder_0 : kt_dc i_C_makeOrder 0 (.aload_n 0) 1 1 := ⟨by decide +kernel, rfl⟩
theorem x_C_makeOrder_1 : kt_dc i_C_makeOrder 1 (.iload_n 1) 1 2 := ⟨by decide +kernel, rfl⟩
theorem x_C_makeOrder_2 : kt_sV i_C_makeOrder 2 i_C_isTown 0 1 5 := ⟨66, ⟨by decide +kernel, rfl⟩, Or.inl (tw_285), j_C_isTown, ⟨tw_287, tp_15⟩, ⟨TX0, 11, rfl⟩, by decide, rfl⟩
theorem c_C_makeOrder_2 {P : kt_P} {NM : Nat} {L : List (Option Value)} {rest : List Value} {N : Nat} {I : kt_I} {J : kt_J} {R : kt_R} {Q : Option Value → kt_I → kt_J → kt_R → Prop} {b : Nat} {x0 : Int32} (hkd : (kt_kd P N b).1 = 0) (hrest : (rest.map fun v => v.category).sum ≤ 8) (kk : KW P i_C_isTown N 0 [some (.ref b), some (.int x0)] [] N I J R (fun v I' J' R' => KW P i_C_makeOrder NM 5 L (kt_pu v rest) N I' J' R' Q)) : KW P i_C_makeOrder NM 2 L (.int x0 :: .ref b :: rest) N I J R Q := kw_callV x_C_makeOrder_2 (As := [.int x0]) rfl rfl (Nat.le_of_ble_eq_true rfl) hrest hkd (Nat.le_refl N) (fun h => h) kk
theorem x_C_makeOrder_5 : kt_dj i_C_makeOrder 5 (.ifCond .eq) 38 8 := ⟨33, by decide +kernel, by decide, rfl⟩
theorem x_C_makeOrder_8 : kt_dc i_C_makeOrder 8 (.iload_n 2) 1 9 := ⟨by decide +kernel, rfl⟩
theorem x_C_makeOrder_9 : kt_dc i_C_makeOrder 9 (.bipush 10) 2 11 ∧ (Int8.ofInt (10)).toInt32 = (10 : Int32) := ⟨⟨by decide +kernel, rfl⟩, by decide⟩
theorem x_C_makeOrder_11 : kt_sS i_C_makeOrder 11 i_K_isBelow 2 14 := ⟨62, ⟨by decide +kernel, rfl⟩, Or.inr ⟨"KinderTowns", tw_220⟩, j_K_isBelow, tw_221, rfl⟩
theorem c_C_makeOrder_11 {P : kt_P} {NM : Nat} {L : List (Option Value)} {rest : List Value} {N : Nat} {I : kt_I} {J : kt_J} {R : kt_R} {Q : Option Value → kt_I → kt_J → kt_R → Prop} {x0 : Int32} {x1 : Int32} (hrest : (rest.map fun v => v.category).sum ≤ 8) (kk : KW P i_K_isBelow N 0 [some (.int x0), some (.int x1)] [] N I J R (fun v I' J' R' => KW P i_C_makeOrder NM 14 L (kt_pu v rest) N I' J' R' Q)) : KW P i_C_makeOrder NM 11 L (.int x1 :: .int x0 :: rest) N I J R Q := kw_callS x_C_makeOrder_11 (As := [.int x0, .int x1]) rfl rfl (Nat.le_of_ble_eq_true rfl) hrest (Nat.le_refl N) (fun h => h) kk
theorem x_C_makeOrder_14 : kt_dj i_C_makeOrder 14 (.ifCond .eq) 38 17 := ⟨24, by decide +kernel, by decide, rfl⟩
theorem x_C_makeOrder_17 : kt_dc i_C_makeOrder 17 (.iload_n 3) 1 18 := ⟨by decide +kernel, rfl⟩
theorem x_C_makeOrder_18 : kt_dc i_C_makeOrder 18 (.bipush 6) 2 20 ∧ (Int8.ofInt (6)).toInt32 = (6 : Int32) := ⟨⟨by decide +kernel, rfl⟩, by decide⟩
theorem x_C_makeOrder_20 : kt_sS i_C_makeOrder 20 i_K_isBelow 2 23 := ⟨62, ⟨by decide +kernel, rfl⟩, Or.inr ⟨"KinderTowns", tw_220⟩, j_K_isBelow, tw_221, rfl⟩
theorem c_C_makeOrder_20 {P : kt_P} {NM : Nat} {L : List (Option Value)} {rest : List Value} {N : Nat} {I : kt_I} {J : kt_J} {R : kt_R} {Q : Option Value → kt_I → kt_J → kt_R → Prop} {x0 : Int32} {x1 : Int32} (hrest : (rest.map fun v => v.category).sum ≤ 8) (kk : KW P i_K_isBelow N 0 [some (.int x0), some (.int x1)] [] N I J R (fun v I' J' R' => KW P i_C_makeOrder NM 23 L (kt_pu v rest) N I' J' R' Q)) : KW P i_C_makeOrder NM 20 L (.int x1 :: .int x0 :: rest) N I J R Q := kw_callS x_C_makeOrder_20 (As := [.int x0, .int x1]) rfl rfl (Nat.le_of_ble_eq_true rfl) hrest (Nat.le_refl N) (fun h => h) kk
theorem x_C_makeOrder_23 : kt_dj i_C_makeOrder 23 (.ifCond .eq) 38 26 := ⟨15, by decide +kernel, by decide, rfl⟩
theorem x_C_makeOrder_26 : kt_dc i_C_makeOrder 26 (.iload 4) 2 28 := ⟨by decide +kernel, rfl⟩
theorem x_C_makeOrder_28 : kt_dc i_C_makeOrder 28 (.iconst 1) 1 29 ∧ Int32.ofInt (1) = (1 : Int32) := ⟨⟨by decide +kernel, rfl⟩, by decide⟩
theorem x_C_makeOrder_29 : kt_dc i_C_makeOrder 29 (.isub) 1 30 := ⟨by decide +kernel, rfl⟩
theorem x_C_makeOrder_30 : kt_dc i_C_makeOrder 30 (.bipush 99) 2 32 ∧ (Int8.ofInt (99)).toInt32 = (99 : Int32) := ⟨⟨by decide +kernel, rfl⟩, by decide⟩
theorem x_C_makeOrder_32 : kt_sS i_C_makeOrder 32 i_K_isBelow 2 35 := ⟨62, ⟨by decide +kernel, rfl⟩, Or.inr ⟨"KinderTowns", tw_220⟩, j_K_isBelow, tw_221, rfl⟩
theorem c_C_makeOrder_32 {P : kt_P} {NM : Nat} {L : List (Option Value)} {rest : List Value} {N : Nat} {I : kt_I} {J : kt_J} {R : kt_R} {Q : Option Value → kt_I → kt_J → kt_R → Prop} {x0 : Int32} {x1 : Int32} (hrest : (rest.map fun v => v.category).sum ≤ 8) (kk : KW P i_K_isBelow N 0 [some (.int x0), some (.int x1)] [] N I J R (fun v I' J' R' => KW P i_C_makeOrder NM 35 L (kt_pu v rest) N I' J' R' Q)) : KW P i_C_makeOrder NM 32 L (.int x1 :: .int x0 :: rest) N I J R Q := kw_callS x_C_makeOrder_32 (As := [.int x0, .int x1]) rfl rfl (Nat.le_of_ble_eq_true rfl) hrest (Nat.le_refl N) (fun h => h) kk
theorem x_C_makeOrder_35 : kt_dj i_C_makeOrder 35 (.ifCond .ne) 40 38 := ⟨5, by decide +kernel, by decide, rfl⟩
theorem x_C_makeOrder_38 : kt_dc i_C_makeOrder 38 (.iconst (-1)) 1 39 ∧ Int32.ofInt (-1) = (-1 : Int32) := ⟨⟨by decide +kernel, rfl⟩, by decide⟩
theorem x_C_makeOrder_39 : kt_dc i_C_makeOrder 39 (.ireturn) 1 40 ∧ kt_rt i_C_makeOrder = (some .int) := ⟨⟨by decide +kernel, rfl⟩, rfl⟩
theorem x_C_makeOrder_40 : kt_dc i_C_makeOrder 40 (.aload_n 0) 1 41 := ⟨by decide +kernel, rfl⟩
theorem x_C_makeOrder_41 : kt_dc i_C_makeOrder 41 (.iconst 1) 1 42 ∧ Int32.ofInt (1) = (1 : Int32) := ⟨⟨by decide +kernel, rfl⟩, by decide⟩
theorem x_C_makeOrder_42 : kt_dc i_C_makeOrder 42 (.iload_n 1) 1 43 := ⟨by decide +kernel, rfl⟩
theorem x_C_makeOrder_43 : kt_dc i_C_makeOrder 43 (.iload_n 3) 1 44 := ⟨by decide +kernel, rfl⟩
theorem x_C_makeOrder_44 : kt_dc i_C_makeOrder 44 (.iload 4) 2 46 := ⟨by decide +kernel, rfl⟩
theorem x_C_makeOrder_46 : kt_sV i_C_makeOrder 46 i_C_make 0 4 49 := ⟨70, ⟨by decide +kernel, rfl⟩, Or.inl (tw_289), j_C_make, ⟨tw_291, tp_16⟩, ⟨TX0, 11, rfl⟩, by decide, rfl⟩
theorem c_C_makeOrder_46 {P : kt_P} {NM : Nat} {L : List (Option Value)} {rest : List Value} {N : Nat} {I : kt_I} {J : kt_J} {R : kt_R} {Q : Option Value → kt_I → kt_J → kt_R → Prop} {b : Nat} {x0 : Int32} {x1 : Int32} {x2 : Int32} {x3 : Int32} (hkd : (kt_kd P N b).1 = 0) (hrest : (rest.map fun v => v.category).sum ≤ 8) (kk : KW P i_C_make N 0 [some (.ref b), some (.int x0), some (.int x1), some (.int x2), some (.int x3), none] [] N I J R (fun v I' J' R' => KW P i_C_makeOrder NM 49 L (kt_pu v rest) N I' J' R' Q)) : KW P i_C_makeOrder NM 46 L (.int x3 :: .int x2 :: .int x1 :: .int x0 :: .ref b :: rest) N I J R Q := kw_callV x_C_makeOrder_46 (As := [.int x0, .int x1, .int x2, .int x3]) rfl rfl (Nat.le_of_ble_eq_true rfl) hrest hkd (Nat.le_refl N) (fun h => h) kk
theorem x_C_makeOrder_49 : kt_dc i_C_makeOrder 49 (.istore 5) 2 51 := ⟨by decide +kernel, rfl⟩
theorem x_C_makeOrder_51 : kt_dc i_C_makeOrder 51 (.iload 5) 2 53 := ⟨by decide +kernel, rfl⟩
theorem x_C_makeOrder_53 : kt_dj i_C_makeOrder 53 (.ifCond .lt) 67 56 := ⟨14, by decide +kernel, by decide, rfl⟩
theorem x_C_makeOrder_56 : kt_dc i_C_makeOrder 56 (.aload_n 0) 1 57 := ⟨by decide +kernel, rfl⟩
theorem x_C_makeOrder_57 : kt_sG i_C_makeOrder 57 0 1 2 60 := ⟨12, RX0, TX0, 11, ⟨by decide +kernel, rfl⟩, rfl, by decide, rfl, by decide, Or.inl (tw_139)⟩
theorem x_C_makeOrder_60 : kt_sG i_C_makeOrder 60 1 6 2 63 := ⟨74, RX1, TX1, 8, ⟨by decide +kernel, rfl⟩, rfl, by decide, rfl, by decide, Or.inr ⟨"KinderTowns", tw_116⟩⟩
theorem x_C_makeOrder_63 : kt_dc i_C_makeOrder 63 (.iload 5) 2 65 := ⟨by decide +kernel, rfl⟩
theorem x_C_makeOrder_65 : kt_dc i_C_makeOrder 65 (.iload_n 2) 1 66 := ⟨by decide +kernel, rfl⟩
theorem x_C_makeOrder_66 : kt_dc i_C_makeOrder 66 (.iastore) 1 67 := ⟨by decide +kernel, rfl⟩
theorem x_C_makeOrder_67 : kt_dc i_C_makeOrder 67 (.iload 5) 2 69 := ⟨by decide +kernel, rfl⟩
theorem x_C_makeOrder_69 : kt_dc i_C_makeOrder 69 (.ireturn) 1 70 ∧ kt_rt i_C_makeOrder = (some .int) := ⟨⟨by decide +kernel, rfl⟩, rfl⟩
theorem x_C_makeCancellation_0 : kt_dc i_C_makeCancellation 0 (.aload_n 0) 1 1 := ⟨by decide +kernel, rfl⟩
theorem x_C_makeCancellation_1 : kt_dc i_C_makeCancellation 1 (.iload_n 1) 1 2 := ⟨by decide +kernel, rfl⟩
theorem x_C_makeCancellation_2 : kt_sV i_C_makeCancellation 2 i_C_isTown 0 1 5 := ⟨66, ⟨by decide +kernel, rfl⟩, Or.inl (tw_285), j_C_isTown, ⟨tw_287, tp_15⟩, ⟨TX0, 11, rfl⟩, by decide, rfl⟩
theorem c_C_makeCancellation_2 {P : kt_P} {NM : Nat} {L : List (Option Value)} {rest : List Value} {N : Nat} {I : kt_I} {J : kt_J} {R : kt_R} {Q : Option Value → kt_I → kt_J → kt_R → Prop} {b : Nat} {x0 : Int32} (hkd : (kt_kd P N b).1 = 0) (hrest : (rest.map fun v => v.category).sum ≤ 8) (kk : KW P i_C_isTown N 0 [some (.ref b), some (.int x0)] [] N I J R (fun v I' J' R' => KW P i_C_makeCancellation NM 5 L (kt_pu v rest) N I' J' R' Q)) : KW P i_C_makeCancellation NM 2 L (.int x0 :: .ref b :: rest) N I J R Q := kw_callV x_C_makeCancellation_2 (As := [.int x0]) rfl rfl (Nat.le_of_ble_eq_true rfl) hrest hkd (Nat.le_refl N) (fun h => h) kk
theorem x_C_makeCancellation_5 : kt_dj i_C_makeCancellation 5 (.ifCond .eq) 22 8 := ⟨17, by decide +kernel, by decide, rfl⟩
theorem x_C_makeCancellation_8 : kt_dc i_C_makeCancellation 8 (.iload_n 2) 1 9 := ⟨by decide +kernel, rfl⟩
theorem x_C_makeCancellation_9 : kt_dc i_C_makeCancellation 9 (.aload_n 0) 1 10 := ⟨by decide +kernel, rfl⟩
theorem x_C_makeCancellation_10 : kt_sG i_C_makeCancellation 10 0 1 2 13 := ⟨12, RX0, TX0, 11, ⟨by decide +kernel, rfl⟩, rfl, by decide, rfl, by decide, Or.inl (tw_139)⟩
theorem x_C_makeCancellation_13 : kt_sG i_C_makeCancellation 13 1 0 0 16 := ⟨77, RX1, TX1, 8, ⟨by decide +kernel, rfl⟩, rfl, by decide, rfl, by decide, Or.inr ⟨"KinderTowns", tw_95⟩⟩
theorem x_C_makeCancellation_16 : kt_sS i_C_makeCancellation 16 i_K_isBelow 2 19 := ⟨62, ⟨by decide +kernel, rfl⟩, Or.inr ⟨"KinderTowns", tw_220⟩, j_K_isBelow, tw_221, rfl⟩
theorem c_C_makeCancellation_16 {P : kt_P} {NM : Nat} {L : List (Option Value)} {rest : List Value} {N : Nat} {I : kt_I} {J : kt_J} {R : kt_R} {Q : Option Value → kt_I → kt_J → kt_R → Prop} {x0 : Int32} {x1 : Int32} (hrest : (rest.map fun v => v.category).sum ≤ 8) (kk : KW P i_K_isBelow N 0 [some (.int x0), some (.int x1)] [] N I J R (fun v I' J' R' => KW P i_C_makeCancellation NM 19 L (kt_pu v rest) N I' J' R' Q)) : KW P i_C_makeCancellation NM 16 L (.int x1 :: .int x0 :: rest) N I J R Q := kw_callS x_C_makeCancellation_16 (As := [.int x0, .int x1]) rfl rfl (Nat.le_of_ble_eq_true rfl) hrest (Nat.le_refl N) (fun h => h) kk
theorem x_C_makeCancellation_19 : kt_dj i_C_makeCancellation 19 (.ifCond .ne) 24 22 := ⟨5, by decide +kernel, by decide, rfl⟩
theorem x_C_makeCancellation_22 : kt_dc i_C_makeCancellation 22 (.iconst (-1)) 1 23 ∧ Int32.ofInt (-1) = (-1 : Int32) := ⟨⟨by decide +kernel, rfl⟩, by decide⟩
theorem x_C_makeCancellation_23 : kt_dc i_C_makeCancellation 23 (.ireturn) 1 24 ∧ kt_rt i_C_makeCancellation = (some .int) := ⟨⟨by decide +kernel, rfl⟩, rfl⟩
theorem x_C_makeCancellation_24 : kt_dc i_C_makeCancellation 24 (.aload_n 0) 1 25 := ⟨by decide +kernel, rfl⟩
theorem x_C_makeCancellation_25 : kt_sG i_C_makeCancellation 25 0 1 2 28 := ⟨12, RX0, TX0, 11, ⟨by decide +kernel, rfl⟩, rfl, by decide, rfl, by decide, Or.inl (tw_139)⟩
theorem x_C_makeCancellation_28 : kt_dc i_C_makeCancellation 28 (.iload_n 2) 1 29 := ⟨by decide +kernel, rfl⟩
theorem x_C_makeCancellation_29 : kt_sV i_C_makeCancellation 29 i_E_isOrder 1 1 32 := ⟨80, ⟨by decide +kernel, rfl⟩, Or.inr ⟨"KinderTowns", tw_314⟩, j_E_isOrder, ⟨tw_316, tp_20⟩, ⟨TX1, 8, rfl⟩, by decide, rfl⟩
theorem c_C_makeCancellation_29 {P : kt_P} {NM : Nat} {L : List (Option Value)} {rest : List Value} {N : Nat} {I : kt_I} {J : kt_J} {R : kt_R} {Q : Option Value → kt_I → kt_J → kt_R → Prop} {b : Nat} {x0 : Int32} (hkd : (kt_kd P N b).1 = 1) (hrest : (rest.map fun v => v.category).sum ≤ 8) (kk : KW P i_E_isOrder N 0 [some (.ref b), some (.int x0)] [] N I J R (fun v I' J' R' => KW P i_C_makeCancellation NM 32 L (kt_pu v rest) N I' J' R' Q)) : KW P i_C_makeCancellation NM 29 L (.int x0 :: .ref b :: rest) N I J R Q := kw_callV x_C_makeCancellation_29 (As := [.int x0]) rfl rfl (Nat.le_of_ble_eq_true rfl) hrest hkd (Nat.le_refl N) (fun h => h) kk
theorem x_C_makeCancellation_32 : kt_dj i_C_makeCancellation 32 (.ifCond .eq) 55 35 := ⟨23, by decide +kernel, by decide, rfl⟩
theorem x_C_makeCancellation_35 : kt_dc i_C_makeCancellation 35 (.aload_n 0) 1 36 := ⟨by decide +kernel, rfl⟩
theorem x_C_makeCancellation_36 : kt_sG i_C_makeCancellation 36 0 1 2 39 := ⟨12, RX0, TX0, 11, ⟨by decide +kernel, rfl⟩, rfl, by decide, rfl, by decide, Or.inl (tw_139)⟩
theorem x_C_makeCancellation_39 : kt_dc i_C_makeCancellation 39 (.aload_n 0) 1 40 := ⟨by decide +kernel, rfl⟩
theorem x_C_makeCancellation_40 : kt_sG i_C_makeCancellation 40 0 5 2 43 := ⟨22, RX0, TX0, 11, ⟨by decide +kernel, rfl⟩, rfl, by decide, rfl, by decide, Or.inl (tw_147)⟩
theorem x_C_makeCancellation_43 : kt_dc i_C_makeCancellation 43 (.iload_n 1) 1 44 := ⟨by decide +kernel, rfl⟩
theorem x_C_makeCancellation_44 : kt_dc i_C_makeCancellation 44 (.laload) 1 45 := ⟨by decide +kernel, rfl⟩
theorem x_C_makeCancellation_45 : kt_sV i_C_makeCancellation 45 i_E_standingIn 1 1 48 := ⟨83, ⟨by decide +kernel, rfl⟩, Or.inr ⟨"KinderTowns", tw_318⟩, j_E_standingIn, ⟨tw_237, tp_6⟩, ⟨TX1, 8, rfl⟩, by decide, rfl⟩
theorem c_C_makeCancellation_45 {P : kt_P} {NM : Nat} {L : List (Option Value)} {rest : List Value} {N : Nat} {I : kt_I} {J : kt_J} {R : kt_R} {Q : Option Value → kt_I → kt_J → kt_R → Prop} {b : Nat} {x0 : Int64} (hkd : (kt_kd P N b).1 = 1) (hrest : (rest.map fun v => v.category).sum ≤ 8) (kk : KW P i_E_standingIn N 0 [some (.ref b), some (.long x0), none] [] N I J R (fun v I' J' R' => KW P i_C_makeCancellation NM 48 L (kt_pu v rest) N I' J' R' Q)) : KW P i_C_makeCancellation NM 45 L (.long x0 :: .ref b :: rest) N I J R Q := kw_callV x_C_makeCancellation_45 (As := [.long x0]) rfl rfl (Nat.le_of_ble_eq_true rfl) hrest hkd (Nat.le_refl N) (fun h => h) kk
theorem x_C_makeCancellation_48 : kt_dc i_C_makeCancellation 48 (.iload_n 2) 1 49 := ⟨by decide +kernel, rfl⟩
theorem x_C_makeCancellation_49 : kt_sS i_C_makeCancellation 49 i_K_has 2 52 := ⟨87, ⟨by decide +kernel, rfl⟩, Or.inr ⟨"KinderTowns", tw_319⟩, j_K_has, tw_244, rfl⟩
theorem c_C_makeCancellation_49 {P : kt_P} {NM : Nat} {L : List (Option Value)} {rest : List Value} {N : Nat} {I : kt_I} {J : kt_J} {R : kt_R} {Q : Option Value → kt_I → kt_J → kt_R → Prop} {x0 : Int64} {x1 : Int32} (hrest : (rest.map fun v => v.category).sum ≤ 8) (kk : KW P i_K_has N 0 [some (.long x0), none, some (.int x1)] [] N I J R (fun v I' J' R' => KW P i_C_makeCancellation NM 52 L (kt_pu v rest) N I' J' R' Q)) : KW P i_C_makeCancellation NM 49 L (.int x1 :: .long x0 :: rest) N I J R Q := kw_callS x_C_makeCancellation_49 (As := [.long x0, .int x1]) rfl rfl (Nat.le_of_ble_eq_true rfl) hrest (Nat.le_refl N) (fun h => h) kk
theorem x_C_makeCancellation_52 : kt_dj i_C_makeCancellation 52 (.ifCond .ne) 58 55 := ⟨6, by decide +kernel, by decide, rfl⟩
theorem x_C_makeCancellation_55 : kt_dc i_C_makeCancellation 55 (.bipush (-2)) 2 57 ∧ (Int8.ofInt (-2)).toInt32 = (-2 : Int32) := ⟨⟨by decide +kernel, rfl⟩, by decide⟩
theorem x_C_makeCancellation_57 : kt_dc i_C_makeCancellation 57 (.ireturn) 1 58 ∧ kt_rt i_C_makeCancellation = (some .int) := ⟨⟨by decide +kernel, rfl⟩, rfl⟩
theorem x_C_makeCancellation_58 : kt_dc i_C_makeCancellation 58 (.aload_n 0) 1 59 := ⟨by decide +kernel, rfl⟩
theorem x_C_makeCancellation_59 : kt_dc i_C_makeCancellation 59 (.iconst 2) 1 60 ∧ Int32.ofInt (2) = (2 : Int32) := ⟨⟨by decide +kernel, rfl⟩, by decide⟩
theorem x_C_makeCancellation_60 : kt_dc i_C_makeCancellation 60 (.iload_n 1) 1 61 := ⟨by decide +kernel, rfl⟩
theorem x_C_makeCancellation_61 : kt_dc i_C_makeCancellation 61 (.aload_n 0) 1 62 := ⟨by decide +kernel, rfl⟩
theorem x_C_makeCancellation_62 : kt_sG i_C_makeCancellation 62 0 1 2 65 := ⟨12, RX0, TX0, 11, ⟨by decide +kernel, rfl⟩, rfl, by decide, rfl, by decide, Or.inl (tw_139)⟩
theorem x_C_makeCancellation_65 : kt_sG i_C_makeCancellation 65 1 4 2 68 := ⟨91, RX1, TX1, 8, ⟨by decide +kernel, rfl⟩, rfl, by decide, rfl, by decide, Or.inr ⟨"KinderTowns", tw_108⟩⟩
theorem x_C_makeCancellation_68 : kt_dc i_C_makeCancellation 68 (.iload_n 2) 1 69 := ⟨by decide +kernel, rfl⟩
theorem x_C_makeCancellation_69 : kt_dc i_C_makeCancellation 69 (.iaload) 1 70 := ⟨by decide +kernel, rfl⟩
theorem x_C_makeCancellation_70 : kt_dc i_C_makeCancellation 70 (.aload_n 0) 1 71 := ⟨by decide +kernel, rfl⟩
theorem x_C_makeCancellation_71 : kt_sG i_C_makeCancellation 71 0 1 2 74 := ⟨12, RX0, TX0, 11, ⟨by decide +kernel, rfl⟩, rfl, by decide, rfl, by decide, Or.inl (tw_139)⟩
theorem x_C_makeCancellation_74 : kt_sG i_C_makeCancellation 74 1 5 2 77 := ⟨94, RX1, TX1, 8, ⟨by decide +kernel, rfl⟩, rfl, by decide, rfl, by decide, Or.inr ⟨"KinderTowns", tw_112⟩⟩
theorem x_C_makeCancellation_77 : kt_dc i_C_makeCancellation 77 (.iload_n 2) 1 78 := ⟨by decide +kernel, rfl⟩
theorem x_C_makeCancellation_78 : kt_dc i_C_makeCancellation 78 (.iaload) 1 79 := ⟨by decide +kernel, rfl⟩
theorem x_C_makeCancellation_79 : kt_sV i_C_makeCancellation 79 i_C_make 0 4 82 := ⟨70, ⟨by decide +kernel, rfl⟩, Or.inl (tw_289), j_C_make, ⟨tw_291, tp_16⟩, ⟨TX0, 11, rfl⟩, by decide, rfl⟩
theorem c_C_makeCancellation_79 {P : kt_P} {NM : Nat} {L : List (Option Value)} {rest : List Value} {N : Nat} {I : kt_I} {J : kt_J} {R : kt_R} {Q : Option Value → kt_I → kt_J → kt_R → Prop} {b : Nat} {x0 : Int32} {x1 : Int32} {x2 : Int32} {x3 : Int32} (hkd : (kt_kd P N b).1 = 0) (hrest : (rest.map fun v => v.category).sum ≤ 8) (kk : KW P i_C_make N 0 [some (.ref b), some (.int x0), some (.int x1), some (.int x2), some (.int x3), none] [] N I J R (fun v I' J' R' => KW P i_C_makeCancellation NM 82 L (kt_pu v rest) N I' J' R' Q)) : KW P i_C_makeCancellation NM 79 L (.int x3 :: .int x2 :: .int x1 :: .int x0 :: .ref b :: rest) N I J R Q := kw_callV x_C_makeCancellation_79 (As := [.int x0, .int x1, .int x2, .int x3]) rfl rfl (Nat.le_of_ble_eq_true rfl) hrest hkd (Nat.le_refl N) (fun h => h) kk
theorem x_C_makeCancellation_82 : kt_dc i_C_makeCancellation 82 (.istore_n 3) 1 83 := ⟨by decide +kernel, rfl⟩
theorem x_C_makeCancellation_83 : kt_dc i_C_makeCancellation 83 (.iload_n 3) 1 84 := ⟨by decide +kernel, rfl⟩
theorem x_C_makeCancellation_84 : kt_dj i_C_makeCancellation 84 (.ifCond .lt) 115 87 := ⟨31, by decide +kernel, by decide, rfl⟩
theorem x_C_makeCancellation_87 : kt_dc i_C_makeCancellation 87 (.aload_n 0) 1 88 := ⟨by decide +kernel, rfl⟩
theorem x_C_makeCancellation_88 : kt_sG i_C_makeCancellation 88 0 1 2 91 := ⟨12, RX0, TX0, 11, ⟨by decide +kernel, rfl⟩, rfl, by decide, rfl, by decide, Or.inl (tw_139)⟩
theorem x_C_makeCancellation_91 : kt_sG i_C_makeCancellation 91 1 6 2 94 := ⟨74, RX1, TX1, 8, ⟨by decide +kernel, rfl⟩, rfl, by decide, rfl, by decide, Or.inr ⟨"KinderTowns", tw_116⟩⟩
theorem x_C_makeCancellation_94 : kt_dc i_C_makeCancellation 94 (.iload_n 3) 1 95 := ⟨by decide +kernel, rfl⟩
theorem x_C_makeCancellation_95 : kt_dc i_C_makeCancellation 95 (.aload_n 0) 1 96 := ⟨by decide +kernel, rfl⟩
theorem x_C_makeCancellation_96 : kt_sG i_C_makeCancellation 96 0 1 2 99 := ⟨12, RX0, TX0, 11, ⟨by decide +kernel, rfl⟩, rfl, by decide, rfl, by decide, Or.inl (tw_139)⟩
theorem x_C_makeCancellation_99 : kt_sG i_C_makeCancellation 99 1 6 2 102 := ⟨74, RX1, TX1, 8, ⟨by decide +kernel, rfl⟩, rfl, by decide, rfl, by decide, Or.inr ⟨"KinderTowns", tw_116⟩⟩
theorem x_C_makeCancellation_102 : kt_dc i_C_makeCancellation 102 (.iload_n 2) 1 103 := ⟨by decide +kernel, rfl⟩
theorem x_C_makeCancellation_103 : kt_dc i_C_makeCancellation 103 (.iaload) 1 104 := ⟨by decide +kernel, rfl⟩
theorem x_C_makeCancellation_104 : kt_dc i_C_makeCancellation 104 (.iastore) 1 105 := ⟨by decide +kernel, rfl⟩
theorem x_C_makeCancellation_105 : kt_dc i_C_makeCancellation 105 (.aload_n 0) 1 106 := ⟨by decide +kernel, rfl⟩
theorem x_C_makeCancellation_106 : kt_sG i_C_makeCancellation 106 0 1 2 109 := ⟨12, RX0, TX0, 11, ⟨by decide +kernel, rfl⟩, rfl, by decide, rfl, by decide, Or.inl (tw_139)⟩
theorem x_C_makeCancellation_109 : kt_sG i_C_makeCancellation 109 1 7 2 112 := ⟨97, RX1, TX1, 8, ⟨by decide +kernel, rfl⟩, rfl, by decide, rfl, by decide, Or.inr ⟨"KinderTowns", tw_119⟩⟩
theorem x_C_makeCancellation_112 : kt_dc i_C_makeCancellation 112 (.iload_n 3) 1 113 := ⟨by decide +kernel, rfl⟩
theorem x_C_makeCancellation_113 : kt_dc i_C_makeCancellation 113 (.iload_n 2) 1 114 := ⟨by decide +kernel, rfl⟩
theorem x_C_makeCancellation_114 : kt_dc i_C_makeCancellation 114 (.iastore) 1 115 := ⟨by decide +kernel, rfl⟩
theorem x_C_makeCancellation_115 : kt_dc i_C_makeCancellation 115 (.iload_n 3) 1 116 := ⟨by decide +kernel, rfl⟩
theorem x_C_makeCancellation_116 : kt_dc i_C_makeCancellation 116 (.ireturn) 1 117 ∧ kt_rt i_C_makeCancellation = (some .int) := ⟨⟨by decide +kernel, rfl⟩, rfl⟩
theorem x_E_isOrder_0 : kt_dc i_E_isOrder 0 (.iload_n 1) 1 1 := ⟨by decide +kernel, rfl⟩
theorem x_E_isOrder_1 : kt_dc i_E_isOrder 1 (.aload_n 0) 1 2 := ⟨by decide +kernel, rfl⟩
theorem x_E_isOrder_2 : kt_sG i_E_isOrder 2 1 0 0 5 := ⟨33, RX1, TX1, 8, ⟨by decide +kernel, rfl⟩, rfl, by decide, rfl, by decide, Or.inl (tw_93)⟩
theorem x_E_isOrder_5 : kt_sS i_E_isOrder 5 i_K_isBelow 2 8 := ⟨43, ⟨by decide +kernel, rfl⟩, Or.inr ⟨"KinderTowns", tw_297⟩, j_K_isBelow, tw_221, rfl⟩
theorem c_E_isOrder_5 {P : kt_P} {NM : Nat} {L : List (Option Value)} {rest : List Value} {N : Nat} {I : kt_I} {J : kt_J} {R : kt_R} {Q : Option Value → kt_I → kt_J → kt_R → Prop} {x0 : Int32} {x1 : Int32} (hrest : (rest.map fun v => v.category).sum ≤ 8) (kk : KW P i_K_isBelow N 0 [some (.int x0), some (.int x1)] [] N I J R (fun v I' J' R' => KW P i_E_isOrder NM 8 L (kt_pu v rest) N I' J' R' Q)) : KW P i_E_isOrder NM 5 L (.int x1 :: .int x0 :: rest) N I J R Q := kw_callS x_E_isOrder_5 (As := [.int x0, .int x1]) rfl rfl (Nat.le_of_ble_eq_true rfl) hrest (Nat.le_refl N) (fun h => h) kk
theorem x_E_isOrder_8 : kt_dj i_E_isOrder 8 (.ifCond .eq) 25 11 := ⟨17, by decide +kernel, by decide, rfl⟩
theorem x_E_isOrder_11 : kt_dc i_E_isOrder 11 (.aload_n 0) 1 12 := ⟨by decide +kernel, rfl⟩
theorem x_E_isOrder_12 : kt_sG i_E_isOrder 12 1 1 2 15 := ⟨9, RX1, TX1, 8, ⟨by decide +kernel, rfl⟩, rfl, by decide, rfl, by decide, Or.inl (tw_97)⟩
theorem x_E_isOrder_15 : kt_dc i_E_isOrder 15 (.iload_n 1) 1 16 := ⟨by decide +kernel, rfl⟩
theorem x_E_isOrder_16 : kt_dc i_E_isOrder 16 (.iaload) 1 17 := ⟨by decide +kernel, rfl⟩
theorem x_E_isOrder_17 : kt_dc i_E_isOrder 17 (.iconst 1) 1 18 ∧ Int32.ofInt (1) = (1 : Int32) := ⟨⟨by decide +kernel, rfl⟩, by decide⟩
theorem x_E_isOrder_18 : kt_dj i_E_isOrder 18 (.if_icmp .ne) 25 21 := ⟨7, by decide +kernel, by decide, rfl⟩
theorem x_E_isOrder_21 : kt_dc i_E_isOrder 21 (.iconst 1) 1 22 ∧ Int32.ofInt (1) = (1 : Int32) := ⟨⟨by decide +kernel, rfl⟩, by decide⟩
theorem x_E_isOrder_22 : kt_dj i_E_isOrder 22 .goto 26 25 := ⟨4, by decide +kernel, by decide, rfl⟩
theorem x_E_isOrder_25 : kt_dc i_E_isOrder 25 (.iconst 0) 1 26 ∧ Int32.ofInt (0) = (0 : Int32) := ⟨⟨by decide +kernel, rfl⟩, by decide⟩
theorem x_E_isOrder_26 : kt_dc i_E_isOrder 26 (.ireturn) 1 27 ∧ kt_rt i_E_isOrder = (some .boolean) := ⟨⟨by decide +kernel, rfl⟩, rfl⟩
theorem x_C_letMeet_0 : kt_dc i_C_letMeet 0 (.aload_n 0) 1 1 := ⟨by decide +kernel, rfl⟩
theorem x_C_letMeet_1 : kt_dc i_C_letMeet 1 (.iload_n 1) 1 2 := ⟨by decide +kernel, rfl⟩
theorem x_C_letMeet_2 : kt_dc i_C_letMeet 2 (.iload_n 2) 1 3 := ⟨by decide +kernel, rfl⟩
theorem x_C_letMeet_3 : kt_sV i_C_letMeet 3 i_C_letHear 0 2 6 := ⟨104, ⟨by decide +kernel, rfl⟩, Or.inl (tw_328), j_C_letHear, ⟨tw_330, tp_22⟩, ⟨TX0, 11, rfl⟩, by decide, rfl⟩
theorem c_C_letMeet_3 {P : kt_P} {NM : Nat} {L : List (Option Value)} {rest : List Value} {N : Nat} {I : kt_I} {J : kt_J} {R : kt_R} {Q : Option Value → kt_I → kt_J → kt_R → Prop} {b : Nat} {x0 : Int32} {x1 : Int32} (hkd : (kt_kd P N b).1 = 0) (hrest : (rest.map fun v => v.category).sum ≤ 8) (kk : KW P i_C_letHear N 0 [some (.ref b), some (.int x0), some (.int x1), none] [] N I J R (fun v I' J' R' => KW P i_C_letMeet NM 6 L (kt_pu v rest) N I' J' R' Q)) : KW P i_C_letMeet NM 3 L (.int x1 :: .int x0 :: .ref b :: rest) N I J R Q := kw_callV x_C_letMeet_3 (As := [.int x0, .int x1]) rfl rfl (Nat.le_of_ble_eq_true rfl) hrest hkd (Nat.le_refl N) (fun h => h) kk
theorem x_C_letMeet_6 : kt_dc i_C_letMeet 6 (.istore_n 3) 1 7 := ⟨by decide +kernel, rfl⟩
theorem x_C_letMeet_7 : kt_dc i_C_letMeet 7 (.iload_n 3) 1 8 := ⟨by decide +kernel, rfl⟩
theorem x_C_letMeet_8 : kt_dj i_C_letMeet 8 (.ifCond .ge) 15 11 := ⟨7, by decide +kernel, by decide, rfl⟩
theorem x_C_letMeet_11 : kt_dc i_C_letMeet 11 (.iload_n 3) 1 12 := ⟨by decide +kernel, rfl⟩
theorem x_C_letMeet_12 : kt_dj i_C_letMeet 12 .goto 23 15 := ⟨11, by decide +kernel, by decide, rfl⟩
theorem x_C_letMeet_15 : kt_dc i_C_letMeet 15 (.iload_n 3) 1 16 := ⟨by decide +kernel, rfl⟩
theorem x_C_letMeet_16 : kt_dc i_C_letMeet 16 (.aload_n 0) 1 17 := ⟨by decide +kernel, rfl⟩
theorem x_C_letMeet_17 : kt_dc i_C_letMeet 17 (.iload_n 2) 1 18 := ⟨by decide +kernel, rfl⟩
theorem x_C_letMeet_18 : kt_dc i_C_letMeet 18 (.iload_n 1) 1 19 := ⟨by decide +kernel, rfl⟩
theorem x_C_letMeet_19 : kt_sV i_C_letMeet 19 i_C_letHear 0 2 22 := ⟨104, ⟨by decide +kernel, rfl⟩, Or.inl (tw_328), j_C_letHear, ⟨tw_330, tp_22⟩, ⟨TX0, 11, rfl⟩, by decide, rfl⟩
theorem c_C_letMeet_19 {P : kt_P} {NM : Nat} {L : List (Option Value)} {rest : List Value} {N : Nat} {I : kt_I} {J : kt_J} {R : kt_R} {Q : Option Value → kt_I → kt_J → kt_R → Prop} {b : Nat} {x0 : Int32} {x1 : Int32} (hkd : (kt_kd P N b).1 = 0) (hrest : (rest.map fun v => v.category).sum ≤ 8) (kk : KW P i_C_letHear N 0 [some (.ref b), some (.int x0), some (.int x1), none] [] N I J R (fun v I' J' R' => KW P i_C_letMeet NM 22 L (kt_pu v rest) N I' J' R' Q)) : KW P i_C_letMeet NM 19 L (.int x1 :: .int x0 :: .ref b :: rest) N I J R Q := kw_callV x_C_letMeet_19 (As := [.int x0, .int x1]) rfl rfl (Nat.le_of_ble_eq_true rfl) hrest hkd (Nat.le_refl N) (fun h => h) kk
theorem x_C_letMeet_22 : kt_dc i_C_letMeet 22 (.iadd) 1 23 := ⟨by decide +kernel, rfl⟩
theorem x_C_letMeet_23 : kt_dc i_C_letMeet 23 (.ireturn) 1 24 ∧ kt_rt i_C_letMeet = (some .int) := ⟨⟨by decide +kernel, rfl⟩, rfl⟩
theorem x_C_letHear_0 : kt_dc i_C_letHear 0 (.aload_n 0) 1 1 := ⟨by decide +kernel, rfl⟩
theorem x_C_letHear_1 : kt_dc i_C_letHear 1 (.iload_n 1) 1 2 := ⟨by decide +kernel, rfl⟩
theorem x_C_letHear_2 : kt_sV i_C_letHear 2 i_C_isTown 0 1 5 := ⟨66, ⟨by decide +kernel, rfl⟩, Or.inl (tw_285), j_C_isTown, ⟨tw_287, tp_15⟩, ⟨TX0, 11, rfl⟩, by decide, rfl⟩
theorem c_C_letHear_2 {P : kt_P} {NM : Nat} {L : List (Option Value)} {rest : List Value} {N : Nat} {I : kt_I} {J : kt_J} {R : kt_R} {Q : Option Value → kt_I → kt_J → kt_R → Prop} {b : Nat} {x0 : Int32} (hkd : (kt_kd P N b).1 = 0) (hrest : (rest.map fun v => v.category).sum ≤ 8) (kk : KW P i_C_isTown N 0 [some (.ref b), some (.int x0)] [] N I J R (fun v I' J' R' => KW P i_C_letHear NM 5 L (kt_pu v rest) N I' J' R' Q)) : KW P i_C_letHear NM 2 L (.int x0 :: .ref b :: rest) N I J R Q := kw_callV x_C_letHear_2 (As := [.int x0]) rfl rfl (Nat.le_of_ble_eq_true rfl) hrest hkd (Nat.le_refl N) (fun h => h) kk
theorem x_C_letHear_5 : kt_dj i_C_letHear 5 (.ifCond .eq) 21 8 := ⟨16, by decide +kernel, by decide, rfl⟩
theorem x_C_letHear_8 : kt_dc i_C_letHear 8 (.aload_n 0) 1 9 := ⟨by decide +kernel, rfl⟩
theorem x_C_letHear_9 : kt_dc i_C_letHear 9 (.iload_n 2) 1 10 := ⟨by decide +kernel, rfl⟩
theorem x_C_letHear_10 : kt_sV i_C_letHear 10 i_C_isTown 0 1 13 := ⟨66, ⟨by decide +kernel, rfl⟩, Or.inl (tw_285), j_C_isTown, ⟨tw_287, tp_15⟩, ⟨TX0, 11, rfl⟩, by decide, rfl⟩
theorem c_C_letHear_10 {P : kt_P} {NM : Nat} {L : List (Option Value)} {rest : List Value} {N : Nat} {I : kt_I} {J : kt_J} {R : kt_R} {Q : Option Value → kt_I → kt_J → kt_R → Prop} {b : Nat} {x0 : Int32} (hkd : (kt_kd P N b).1 = 0) (hrest : (rest.map fun v => v.category).sum ≤ 8) (kk : KW P i_C_isTown N 0 [some (.ref b), some (.int x0)] [] N I J R (fun v I' J' R' => KW P i_C_letHear NM 13 L (kt_pu v rest) N I' J' R' Q)) : KW P i_C_letHear NM 10 L (.int x0 :: .ref b :: rest) N I J R Q := kw_callV x_C_letHear_10 (As := [.int x0]) rfl rfl (Nat.le_of_ble_eq_true rfl) hrest hkd (Nat.le_refl N) (fun h => h) kk
theorem x_C_letHear_13 : kt_dj i_C_letHear 13 (.ifCond .eq) 21 16 := ⟨8, by decide +kernel, by decide, rfl⟩
theorem x_C_letHear_16 : kt_dc i_C_letHear 16 (.iload_n 1) 1 17 := ⟨by decide +kernel, rfl⟩
theorem x_C_letHear_17 : kt_dc i_C_letHear 17 (.iload_n 2) 1 18 := ⟨by decide +kernel, rfl⟩
theorem x_C_letHear_18 : kt_dj i_C_letHear 18 (.if_icmp .ne) 23 21 := ⟨5, by decide +kernel, by decide, rfl⟩
theorem x_C_letHear_21 : kt_dc i_C_letHear 21 (.iconst (-1)) 1 22 ∧ Int32.ofInt (-1) = (-1 : Int32) := ⟨⟨by decide +kernel, rfl⟩, by decide⟩
theorem x_C_letHear_22 : kt_dc i_C_letHear 22 (.ireturn) 1 23 ∧ kt_rt i_C_letHear = (some .int) := ⟨⟨by decide +kernel, rfl⟩, rfl⟩
theorem x_C_letHear_23 : kt_dc i_C_letHear 23 (.aload_n 0) 1 24 := ⟨by decide +kernel, rfl⟩
theorem x_C_letHear_24 : kt_dc i_C_letHear 24 (.iload_n 1) 1 25 := ⟨by decide +kernel, rfl⟩
theorem x_C_letHear_25 : kt_dc i_C_letHear 25 (.aload_n 0) 1 26 := ⟨by decide +kernel, rfl⟩
theorem x_C_letHear_26 : kt_sG i_C_letHear 26 0 5 2 29 := ⟨22, RX0, TX0, 11, ⟨by decide +kernel, rfl⟩, rfl, by decide, rfl, by decide, Or.inl (tw_147)⟩
theorem x_C_letHear_29 : kt_dc i_C_letHear 29 (.iload_n 2) 1 30 := ⟨by decide +kernel, rfl⟩
theorem x_C_letHear_30 : kt_dc i_C_letHear 30 (.laload) 1 31 := ⟨by decide +kernel, rfl⟩
theorem x_C_letHear_31 : kt_sV i_C_letHear 31 i_C_newsFor 0 2 34 := ⟨108, ⟨by decide +kernel, rfl⟩, Or.inl (tw_332), j_C_newsFor, ⟨tw_334, tp_23⟩, ⟨TX0, 11, rfl⟩, by decide, rfl⟩
theorem c_C_letHear_31 {P : kt_P} {NM : Nat} {L : List (Option Value)} {rest : List Value} {N : Nat} {I : kt_I} {J : kt_J} {R : kt_R} {Q : Option Value → kt_I → kt_J → kt_R → Prop} {b : Nat} {x0 : Int32} {x1 : Int64} (hkd : (kt_kd P N b).1 = 0) (hrest : (rest.map fun v => v.category).sum ≤ 8) (kk : KW P i_C_newsFor N 0 [some (.ref b), some (.int x0), some (.long x1), none] [] N I J R (fun v I' J' R' => KW P i_C_letHear NM 34 L (kt_pu v rest) N I' J' R' Q)) : KW P i_C_letHear NM 31 L (.long x1 :: .int x0 :: .ref b :: rest) N I J R Q := kw_callV x_C_letHear_31 (As := [.int x0, .long x1]) rfl rfl (Nat.le_of_ble_eq_true rfl) hrest hkd (Nat.le_refl N) (fun h => h) kk
theorem x_C_letHear_34 : kt_dc i_C_letHear 34 (.istore_n 3) 1 35 := ⟨by decide +kernel, rfl⟩
theorem x_C_letHear_35 : kt_dc i_C_letHear 35 (.aload_n 0) 1 36 := ⟨by decide +kernel, rfl⟩
theorem x_C_letHear_36 : kt_sG i_C_letHear 36 0 5 2 39 := ⟨22, RX0, TX0, 11, ⟨by decide +kernel, rfl⟩, rfl, by decide, rfl, by decide, Or.inl (tw_147)⟩
theorem x_C_letHear_39 : kt_dc i_C_letHear 39 (.iload_n 1) 1 40 := ⟨by decide +kernel, rfl⟩
theorem x_C_letHear_40 : kt_dc i_C_letHear 40 (.dup2) 1 41 := ⟨by decide +kernel, rfl⟩
theorem x_C_letHear_41 : kt_dc i_C_letHear 41 (.laload) 1 42 := ⟨by decide +kernel, rfl⟩
theorem x_C_letHear_42 : kt_dc i_C_letHear 42 (.aload_n 0) 1 43 := ⟨by decide +kernel, rfl⟩
theorem x_C_letHear_43 : kt_sG i_C_letHear 43 0 5 2 46 := ⟨22, RX0, TX0, 11, ⟨by decide +kernel, rfl⟩, rfl, by decide, rfl, by decide, Or.inl (tw_147)⟩
theorem x_C_letHear_46 : kt_dc i_C_letHear 46 (.iload_n 2) 1 47 := ⟨by decide +kernel, rfl⟩
theorem x_C_letHear_47 : kt_dc i_C_letHear 47 (.laload) 1 48 := ⟨by decide +kernel, rfl⟩
theorem x_C_letHear_48 : kt_dc i_C_letHear 48 (.lor) 1 49 := ⟨by decide +kernel, rfl⟩
theorem x_C_letHear_49 : kt_dc i_C_letHear 49 (.lastore) 1 50 := ⟨by decide +kernel, rfl⟩
theorem x_C_letHear_50 : kt_dc i_C_letHear 50 (.aload_n 0) 1 51 := ⟨by decide +kernel, rfl⟩
theorem x_C_letHear_51 : kt_sG i_C_letHear 51 0 4 2 54 := ⟨18, RX0, TX0, 11, ⟨by decide +kernel, rfl⟩, rfl, by decide, rfl, by decide, Or.inl (tw_145)⟩
theorem x_C_letHear_54 : kt_dc i_C_letHear 54 (.iload_n 1) 1 55 := ⟨by decide +kernel, rfl⟩
theorem x_C_letHear_55 : kt_dc i_C_letHear 55 (.aload_n 0) 1 56 := ⟨by decide +kernel, rfl⟩
theorem x_C_letHear_56 : kt_sG i_C_letHear 56 0 4 2 59 := ⟨18, RX0, TX0, 11, ⟨by decide +kernel, rfl⟩, rfl, by decide, rfl, by decide, Or.inl (tw_145)⟩
theorem x_C_letHear_59 : kt_dc i_C_letHear 59 (.iload_n 1) 1 60 := ⟨by decide +kernel, rfl⟩
theorem x_C_letHear_60 : kt_dc i_C_letHear 60 (.iaload) 1 61 := ⟨by decide +kernel, rfl⟩
theorem x_C_letHear_61 : kt_dc i_C_letHear 61 (.aload_n 0) 1 62 := ⟨by decide +kernel, rfl⟩
theorem x_C_letHear_62 : kt_sG i_C_letHear 62 0 4 2 65 := ⟨18, RX0, TX0, 11, ⟨by decide +kernel, rfl⟩, rfl, by decide, rfl, by decide, Or.inl (tw_145)⟩
theorem x_C_letHear_65 : kt_dc i_C_letHear 65 (.iload_n 2) 1 66 := ⟨by decide +kernel, rfl⟩
theorem x_C_letHear_66 : kt_dc i_C_letHear 66 (.iaload) 1 67 := ⟨by decide +kernel, rfl⟩
theorem x_C_letHear_67 : kt_dc i_C_letHear 67 (.invokestatic 112) 3 70 ∧ Cond.methodLink (kt_ow i_C_letHear) 112 Lib.Math.max.name ∈ kt_GW ∧ 1 ≤ kt_fr i_C_letHear ∧ 40 ≤ kt_lo i_C_letHear := ⟨⟨by decide +kernel, rfl⟩, tw_343, by decide, by decide⟩
theorem x_C_letHear_70 : kt_dc i_C_letHear 70 (.iastore) 1 71 := ⟨by decide +kernel, rfl⟩
theorem x_C_letHear_71 : kt_dc i_C_letHear 71 (.iload_n 3) 1 72 := ⟨by decide +kernel, rfl⟩
theorem x_C_letHear_72 : kt_dc i_C_letHear 72 (.ireturn) 1 73 ∧ kt_rt i_C_letHear = (some .int) := ⟨⟨by decide +kernel, rfl⟩, rfl⟩
theorem x_C_newsFor_0 : kt_dc i_C_newsFor 0 (.lload_n 2) 1 1 := ⟨by decide +kernel, rfl⟩
theorem x_C_newsFor_1 : kt_dc i_C_newsFor 1 (.aload_n 0) 1 2 := ⟨by decide +kernel, rfl⟩
theorem x_C_newsFor_2 : kt_sG i_C_newsFor 2 0 5 2 5 := ⟨22, RX0, TX0, 11, ⟨by decide +kernel, rfl⟩, rfl, by decide, rfl, by decide, Or.inl (tw_147)⟩
theorem x_C_newsFor_5 : kt_dc i_C_newsFor 5 (.iload_n 1) 1 6 := ⟨by decide +kernel, rfl⟩
theorem x_C_newsFor_6 : kt_dc i_C_newsFor 6 (.laload) 1 7 := ⟨by decide +kernel, rfl⟩
theorem x_C_newsFor_7 : kt_dc i_C_newsFor 7 (.ldc2_w 128) 3 10 ∧ Cond.constantLong (kt_ow i_C_newsFor) 128 (-1) ∈ kt_GW := ⟨⟨by decide +kernel, rfl⟩, tw_336⟩
theorem x_C_newsFor_10 : kt_dc i_C_newsFor 10 (.lxor) 1 11 := ⟨by decide +kernel, rfl⟩
theorem x_C_newsFor_11 : kt_dc i_C_newsFor 11 (.land) 1 12 := ⟨by decide +kernel, rfl⟩
theorem x_C_newsFor_12 : kt_sS i_C_newsFor 12 i_J_bitCount 1 15 := ⟨130, ⟨by decide +kernel, rfl⟩, Or.inl (tw_337), j_J_bitCount, tw_338, rfl⟩
theorem c_C_newsFor_12 {P : kt_P} {NM : Nat} {L : List (Option Value)} {rest : List Value} {N : Nat} {I : kt_I} {J : kt_J} {R : kt_R} {Q : Option Value → kt_I → kt_J → kt_R → Prop} {x0 : Int64} (hrest : (rest.map fun v => v.category).sum ≤ 8) (kk : KW P i_J_bitCount N 0 [some (.long x0), none] [] N I J R (fun v I' J' R' => KW P i_C_newsFor NM 15 L (kt_pu v rest) N I' J' R' Q)) : KW P i_C_newsFor NM 12 L (.long x0 :: rest) N I J R Q := kw_callS x_C_newsFor_12 (As := [.long x0]) rfl rfl (Nat.le_of_ble_eq_true rfl) hrest (Nat.le_refl N) (fun h => h) kk
theorem x_C_newsFor_15 : kt_dc i_C_newsFor 15 (.ireturn) 1 16 ∧ kt_rt i_C_newsFor = (some .int) := ⟨⟨by decide +kernel, rfl⟩, rfl⟩
theorem x_J_bitCount_0 : kt_dc i_J_bitCount 0 (.lload_n 0) 1 1 := ⟨by decide +kernel, rfl⟩
theorem x_J_bitCount_1 : kt_dc i_J_bitCount 1 (.lload_n 0) 1 2 := ⟨by decide +kernel, rfl⟩
theorem x_J_bitCount_2 : kt_dc i_J_bitCount 2 (.iconst 1) 1 3 ∧ Int32.ofInt (1) = (1 : Int32) := ⟨⟨by decide +kernel, rfl⟩, by decide⟩
theorem x_J_bitCount_3 : kt_dc i_J_bitCount 3 (.lushr) 1 4 := ⟨by decide +kernel, rfl⟩
theorem x_J_bitCount_4 : kt_dc i_J_bitCount 4 (.ldc2_w 314) 3 7 ∧ Cond.constantLong (kt_ow i_J_bitCount) 314 (6148914691236517205) ∈ kt_GW := ⟨⟨by decide +kernel, rfl⟩, tw_340⟩
theorem x_J_bitCount_7 : kt_dc i_J_bitCount 7 (.land) 1 8 := ⟨by decide +kernel, rfl⟩
theorem x_J_bitCount_8 : kt_dc i_J_bitCount 8 (.lsub) 1 9 := ⟨by decide +kernel, rfl⟩
theorem x_J_bitCount_9 : kt_dc i_J_bitCount 9 (.lstore_n 0) 1 10 := ⟨by decide +kernel, rfl⟩
theorem x_J_bitCount_10 : kt_dc i_J_bitCount 10 (.lload_n 0) 1 11 := ⟨by decide +kernel, rfl⟩
theorem x_J_bitCount_11 : kt_dc i_J_bitCount 11 (.ldc2_w 316) 3 14 ∧ Cond.constantLong (kt_ow i_J_bitCount) 316 (3689348814741910323) ∈ kt_GW := ⟨⟨by decide +kernel, rfl⟩, tw_341⟩
theorem x_J_bitCount_14 : kt_dc i_J_bitCount 14 (.land) 1 15 := ⟨by decide +kernel, rfl⟩
theorem x_J_bitCount_15 : kt_dc i_J_bitCount 15 (.lload_n 0) 1 16 := ⟨by decide +kernel, rfl⟩
theorem x_J_bitCount_16 : kt_dc i_J_bitCount 16 (.iconst 2) 1 17 ∧ Int32.ofInt (2) = (2 : Int32) := ⟨⟨by decide +kernel, rfl⟩, by decide⟩
theorem x_J_bitCount_17 : kt_dc i_J_bitCount 17 (.lushr) 1 18 := ⟨by decide +kernel, rfl⟩
theorem x_J_bitCount_18 : kt_dc i_J_bitCount 18 (.ldc2_w 316) 3 21 ∧ Cond.constantLong (kt_ow i_J_bitCount) 316 (3689348814741910323) ∈ kt_GW := ⟨⟨by decide +kernel, rfl⟩, tw_341⟩
theorem x_J_bitCount_21 : kt_dc i_J_bitCount 21 (.land) 1 22 := ⟨by decide +kernel, rfl⟩
theorem x_J_bitCount_22 : kt_dc i_J_bitCount 22 (.ladd) 1 23 := ⟨by decide +kernel, rfl⟩
theorem x_J_bitCount_23 : kt_dc i_J_bitCount 23 (.lstore_n 0) 1 24 := ⟨by decide +kernel, rfl⟩
theorem x_J_bitCount_24 : kt_dc i_J_bitCount 24 (.lload_n 0) 1 25 := ⟨by decide +kernel, rfl⟩
theorem x_J_bitCount_25 : kt_dc i_J_bitCount 25 (.lload_n 0) 1 26 := ⟨by decide +kernel, rfl⟩
theorem x_J_bitCount_26 : kt_dc i_J_bitCount 26 (.iconst 4) 1 27 ∧ Int32.ofInt (4) = (4 : Int32) := ⟨⟨by decide +kernel, rfl⟩, by decide⟩
theorem x_J_bitCount_27 : kt_dc i_J_bitCount 27 (.lushr) 1 28 := ⟨by decide +kernel, rfl⟩
theorem x_J_bitCount_28 : kt_dc i_J_bitCount 28 (.ladd) 1 29 := ⟨by decide +kernel, rfl⟩
theorem x_J_bitCount_29 : kt_dc i_J_bitCount 29 (.ldc2_w 318) 3 32 ∧ Cond.constantLong (kt_ow i_J_bitCount) 318 (1085102592571150095) ∈ kt_GW := ⟨⟨by decide +kernel, rfl⟩, tw_342⟩
theorem x_J_bitCount_32 : kt_dc i_J_bitCount 32 (.land) 1 33 := ⟨by decide +kernel, rfl⟩
theorem x_J_bitCount_33 : kt_dc i_J_bitCount 33 (.lstore_n 0) 1 34 := ⟨by decide +kernel, rfl⟩
theorem x_J_bitCount_34 : kt_dc i_J_bitCount 34 (.lload_n 0) 1 35 := ⟨by decide +kernel, rfl⟩
theorem x_J_bitCount_35 : kt_dc i_J_bitCount 35 (.lload_n 0) 1 36 := ⟨by decide +kernel, rfl⟩
theorem x_J_bitCount_36 : kt_dc i_J_bitCount 36 (.bipush 8) 2 38 ∧ (Int8.ofInt (8)).toInt32 = (8 : Int32) := ⟨⟨by decide +kernel, rfl⟩, by decide⟩
theorem x_J_bitCount_38 : kt_dc i_J_bitCount 38 (.lushr) 1 39 := ⟨by decide +kernel, rfl⟩
theorem x_J_bitCount_39 : kt_dc i_J_bitCount 39 (.ladd) 1 40 := ⟨by decide +kernel, rfl⟩
theorem x_J_bitCount_40 : kt_dc i_J_bitCount 40 (.lstore_n 0) 1 41 := ⟨by decide +kernel, rfl⟩
theorem x_J_bitCount_41 : kt_dc i_J_bitCount 41 (.lload_n 0) 1 42 := ⟨by decide +kernel, rfl⟩
theorem x_J_bitCount_42 : kt_dc i_J_bitCount 42 (.lload_n 0) 1 43 := ⟨by decide +kernel, rfl⟩
theorem x_J_bitCount_43 : kt_dc i_J_bitCount 43 (.bipush 16) 2 45 ∧ (Int8.ofInt (16)).toInt32 = (16 : Int32) := ⟨⟨by decide +kernel, rfl⟩, by decide⟩
theorem x_J_bitCount_45 : kt_dc i_J_bitCount 45 (.lushr) 1 46 := ⟨by decide +kernel, rfl⟩
theorem x_J_bitCount_46 : kt_dc i_J_bitCount 46 (.ladd) 1 47 := ⟨by decide +kernel, rfl⟩
theorem x_J_bitCount_47 : kt_dc i_J_bitCount 47 (.lstore_n 0) 1 48 := ⟨by decide +kernel, rfl⟩
theorem x_J_bitCount_48 : kt_dc i_J_bitCount 48 (.lload_n 0) 1 49 := ⟨by decide +kernel, rfl⟩
theorem x_J_bitCount_49 : kt_dc i_J_bitCount 49 (.lload_n 0) 1 50 := ⟨by decide +kernel, rfl⟩
theorem x_J_bitCount_50 : kt_dc i_J_bitCount 50 (.bipush 32) 2 52 ∧ (Int8.ofInt (32)).toInt32 = (32 : Int32) := ⟨⟨by decide +kernel, rfl⟩, by decide⟩
theorem x_J_bitCount_52 : kt_dc i_J_bitCount 52 (.lushr) 1 53 := ⟨by decide +kernel, rfl⟩
theorem x_J_bitCount_53 : kt_dc i_J_bitCount 53 (.ladd) 1 54 := ⟨by decide +kernel, rfl⟩
theorem x_J_bitCount_54 : kt_dc i_J_bitCount 54 (.lstore_n 0) 1 55 := ⟨by decide +kernel, rfl⟩
theorem x_J_bitCount_55 : kt_dc i_J_bitCount 55 (.lload_n 0) 1 56 := ⟨by decide +kernel, rfl⟩
theorem x_J_bitCount_56 : kt_dc i_J_bitCount 56 (.l2i) 1 57 := ⟨by decide +kernel, rfl⟩
theorem x_J_bitCount_57 : kt_dc i_J_bitCount 57 (.bipush 127) 2 59 ∧ (Int8.ofInt (127)).toInt32 = (127 : Int32) := ⟨⟨by decide +kernel, rfl⟩, by decide⟩
theorem x_J_bitCount_59 : kt_dc i_J_bitCount 59 (.iand) 1 60 := ⟨by decide +kernel, rfl⟩
theorem x_J_bitCount_60 : kt_dc i_J_bitCount 60 (.ireturn) 1 61 ∧ kt_rt i_J_bitCount = (some .int) := ⟨⟨by decide +kernel, rfl⟩, rfl⟩
theorem x_J_max_0 : kt_dc i_J_max 0 (.iload_n 0) 1 1 := ⟨by decide +kernel, rfl⟩
theorem x_J_max_1 : kt_dc i_J_max 1 (.iload_n 1) 1 2 := ⟨by decide +kernel, rfl⟩
theorem x_J_max_2 : kt_dj i_J_max 2 (.if_icmp .lt) 9 5 := ⟨7, by decide +kernel, by decide, rfl⟩
theorem x_J_max_5 : kt_dc i_J_max 5 (.iload_n 0) 1 6 := ⟨by decide +kernel, rfl⟩
theorem x_J_max_6 : kt_dj i_J_max 6 .goto 10 9 := ⟨4, by decide +kernel, by decide, rfl⟩
theorem x_J_max_9 : kt_dc i_J_max 9 (.iload_n 1) 1 10 := ⟨by decide +kernel, rfl⟩
theorem x_J_max_10 : kt_dc i_J_max 10 (.ireturn) 1 11 ∧ kt_rt i_J_max = (some .int) := ⟨⟨by decide +kernel, rfl⟩, rfl⟩
theorem x_C_setRule_0 : kt_dc i_C_setRule 0 (.iload_n 1) 1 1 := ⟨by decide +kernel, rfl⟩
theorem x_C_setRule_1 : kt_dc i_C_setRule 1 (.iconst 3) 1 2 ∧ Int32.ofInt (3) = (3 : Int32) := ⟨⟨by decide +kernel, rfl⟩, by decide⟩
theorem x_C_setRule_2 : kt_sS i_C_setRule 2 i_K_isBelow 2 5 := ⟨62, ⟨by decide +kernel, rfl⟩, Or.inr ⟨"KinderTowns", tw_220⟩, j_K_isBelow, tw_221, rfl⟩
theorem c_C_setRule_2 {P : kt_P} {NM : Nat} {L : List (Option Value)} {rest : List Value} {N : Nat} {I : kt_I} {J : kt_J} {R : kt_R} {Q : Option Value → kt_I → kt_J → kt_R → Prop} {x0 : Int32} {x1 : Int32} (hrest : (rest.map fun v => v.category).sum ≤ 8) (kk : KW P i_K_isBelow N 0 [some (.int x0), some (.int x1)] [] N I J R (fun v I' J' R' => KW P i_C_setRule NM 5 L (kt_pu v rest) N I' J' R' Q)) : KW P i_C_setRule NM 2 L (.int x1 :: .int x0 :: rest) N I J R Q := kw_callS x_C_setRule_2 (As := [.int x0, .int x1]) rfl rfl (Nat.le_of_ble_eq_true rfl) hrest (Nat.le_refl N) (fun h => h) kk
theorem x_C_setRule_5 : kt_dj i_C_setRule 5 (.ifCond .ne) 10 8 := ⟨5, by decide +kernel, by decide, rfl⟩
theorem x_C_setRule_8 : kt_dc i_C_setRule 8 (.iconst (-1)) 1 9 ∧ Int32.ofInt (-1) = (-1 : Int32) := ⟨⟨by decide +kernel, rfl⟩, by decide⟩
theorem x_C_setRule_9 : kt_dc i_C_setRule 9 (.ireturn) 1 10 ∧ kt_rt i_C_setRule = (some .int) := ⟨⟨by decide +kernel, rfl⟩, rfl⟩
theorem x_C_setRule_10 : kt_dc i_C_setRule 10 (.aload_n 0) 1 11 := ⟨by decide +kernel, rfl⟩
theorem x_C_setRule_11 : kt_sG i_C_setRule 11 0 3 0 14 := ⟨50, RX0, TX0, 11, ⟨by decide +kernel, rfl⟩, rfl, by decide, rfl, by decide, Or.inl (tw_143)⟩
theorem x_C_setRule_14 : kt_dc i_C_setRule 14 (.istore_n 2) 1 15 := ⟨by decide +kernel, rfl⟩
theorem x_C_setRule_15 : kt_dc i_C_setRule 15 (.aload_n 0) 1 16 := ⟨by decide +kernel, rfl⟩
theorem x_C_setRule_16 : kt_dc i_C_setRule 16 (.iload_n 1) 1 17 := ⟨by decide +kernel, rfl⟩
theorem x_C_setRule_17 : kt_sP i_C_setRule 17 0 3 0 20 := ⟨50, RX0, TX0, 11, tyX0 3, ⟨by decide +kernel, rfl⟩, rfl, by decide, rfl, by decide, by decide +kernel, rfl, Or.inl ⟨rfl, Or.inl (tw_143)⟩⟩
theorem x_C_setRule_20 : kt_dc i_C_setRule 20 (.iload_n 2) 1 21 := ⟨by decide +kernel, rfl⟩
theorem x_C_setRule_21 : kt_dc i_C_setRule 21 (.ireturn) 1 22 ∧ kt_rt i_C_setRule = (some .int) := ⟨⟨by decide +kernel, rfl⟩, rfl⟩
theorem x_C_townsWith_0 : kt_dc i_C_townsWith 0 (.iconst 0) 1 1 ∧ Int32.ofInt (0) = (0 : Int32) := ⟨⟨by decide +kernel, rfl⟩, by decide⟩
theorem x_C_townsWith_1 : kt_dc i_C_townsWith 1 (.istore_n 3) 1 2 := ⟨by decide +kernel, rfl⟩
theorem x_C_townsWith_2 : kt_dc i_C_townsWith 2 (.iconst 0) 1 3 ∧ Int32.ofInt (0) = (0 : Int32) := ⟨⟨by decide +kernel, rfl⟩, by decide⟩
theorem x_C_townsWith_3 : kt_dc i_C_townsWith 3 (.istore 4) 2 5 := ⟨by decide +kernel, rfl⟩
theorem x_C_townsWith_5 : kt_dc i_C_townsWith 5 (.iload 4) 2 7 := ⟨by decide +kernel, rfl⟩
theorem x_C_townsWith_7 : kt_dc i_C_townsWith 7 (.aload_n 0) 1 8 := ⟨by decide +kernel, rfl⟩
theorem x_C_townsWith_8 : kt_sG i_C_townsWith 8 0 2 0 11 := ⟨46, RX0, TX0, 11, ⟨by decide +kernel, rfl⟩, rfl, by decide, rfl, by decide, Or.inl (tw_141)⟩
theorem x_C_townsWith_11 : kt_dj i_C_townsWith 11 (.if_icmp .ge) 38 14 := ⟨27, by decide +kernel, by decide, rfl⟩
theorem x_C_townsWith_14 : kt_dc i_C_townsWith 14 (.aload_n 1) 1 15 := ⟨by decide +kernel, rfl⟩
theorem x_C_townsWith_15 : kt_dc i_C_townsWith 15 (.iload 4) 2 17 := ⟨by decide +kernel, rfl⟩
theorem x_C_townsWith_17 : kt_dc i_C_townsWith 17 (.laload) 1 18 := ⟨by decide +kernel, rfl⟩
theorem x_C_townsWith_18 : kt_dc i_C_townsWith 18 (.iload_n 2) 1 19 := ⟨by decide +kernel, rfl⟩
theorem x_C_townsWith_19 : kt_sS i_C_townsWith 19 i_K_has 2 22 := ⟨87, ⟨by decide +kernel, rfl⟩, Or.inr ⟨"KinderTowns", tw_319⟩, j_K_has, tw_244, rfl⟩
theorem c_C_townsWith_19 {P : kt_P} {NM : Nat} {L : List (Option Value)} {rest : List Value} {N : Nat} {I : kt_I} {J : kt_J} {R : kt_R} {Q : Option Value → kt_I → kt_J → kt_R → Prop} {x0 : Int64} {x1 : Int32} (hrest : (rest.map fun v => v.category).sum ≤ 8) (kk : KW P i_K_has N 0 [some (.long x0), none, some (.int x1)] [] N I J R (fun v I' J' R' => KW P i_C_townsWith NM 22 L (kt_pu v rest) N I' J' R' Q)) : KW P i_C_townsWith NM 19 L (.int x1 :: .long x0 :: rest) N I J R Q := kw_callS x_C_townsWith_19 (As := [.long x0, .int x1]) rfl rfl (Nat.le_of_ble_eq_true rfl) hrest (Nat.le_refl N) (fun h => h) kk
theorem x_C_townsWith_22 : kt_dj i_C_townsWith 22 (.ifCond .eq) 32 25 := ⟨10, by decide +kernel, by decide, rfl⟩
theorem x_C_townsWith_25 : kt_dc i_C_townsWith 25 (.iload_n 3) 1 26 := ⟨by decide +kernel, rfl⟩
theorem x_C_townsWith_26 : kt_dc i_C_townsWith 26 (.iconst 1) 1 27 ∧ Int32.ofInt (1) = (1 : Int32) := ⟨⟨by decide +kernel, rfl⟩, by decide⟩
theorem x_C_townsWith_27 : kt_dc i_C_townsWith 27 (.iload 4) 2 29 := ⟨by decide +kernel, rfl⟩
theorem x_C_townsWith_29 : kt_dc i_C_townsWith 29 (.ishl) 1 30 := ⟨by decide +kernel, rfl⟩
theorem x_C_townsWith_30 : kt_dc i_C_townsWith 30 (.ior) 1 31 := ⟨by decide +kernel, rfl⟩
theorem x_C_townsWith_31 : kt_dc i_C_townsWith 31 (.istore_n 3) 1 32 := ⟨by decide +kernel, rfl⟩
theorem x_C_townsWith_32 : kt_dc i_C_townsWith 32 (.iinc 4 1) 3 35 ∧ Int32.ofInt (1) = (1 : Int32) := ⟨⟨by decide +kernel, rfl⟩, by decide⟩
theorem x_C_townsWith_35 : kt_dj i_C_townsWith 35 .goto 5 38 := ⟨-30, by decide +kernel, by decide, rfl⟩
theorem x_C_townsWith_38 : kt_dc i_C_townsWith 38 (.iload_n 3) 1 39 := ⟨by decide +kernel, rfl⟩
theorem x_C_townsWith_39 : kt_dc i_C_townsWith 39 (.ireturn) 1 40 ∧ kt_rt i_C_townsWith = (some .int) := ⟨⟨by decide +kernel, rfl⟩, rfl⟩
theorem x_E_having_0 : kt_dc i_E_having 0 (.lconst 0) 1 1 ∧ Int64.ofNat ((0 : Fin 2) : Nat) = (0 : Int64) := ⟨⟨by decide +kernel, rfl⟩, rfl⟩
theorem x_E_having_1 : kt_dc i_E_having 1 (.lstore_n 3) 1 2 := ⟨by decide +kernel, rfl⟩
theorem x_E_having_2 : kt_dc i_E_having 2 (.iconst 0) 1 3 ∧ Int32.ofInt (0) = (0 : Int32) := ⟨⟨by decide +kernel, rfl⟩, by decide⟩
theorem x_E_having_3 : kt_dc i_E_having 3 (.istore 5) 2 5 := ⟨by decide +kernel, rfl⟩
theorem x_E_having_5 : kt_dc i_E_having 5 (.iload 5) 2 7 := ⟨by decide +kernel, rfl⟩
theorem x_E_having_7 : kt_dc i_E_having 7 (.aload_n 0) 1 8 := ⟨by decide +kernel, rfl⟩
theorem x_E_having_8 : kt_sG i_E_having 8 1 0 0 11 := ⟨33, RX1, TX1, 8, ⟨by decide +kernel, rfl⟩, rfl, by decide, rfl, by decide, Or.inl (tw_93)⟩
theorem x_E_having_11 : kt_dj i_E_having 11 (.if_icmp .ge) 35 14 := ⟨24, by decide +kernel, by decide, rfl⟩
theorem x_E_having_14 : kt_dc i_E_having 14 (.aload_n 1) 1 15 := ⟨by decide +kernel, rfl⟩
theorem x_E_having_15 : kt_dc i_E_having 15 (.iload 5) 2 17 := ⟨by decide +kernel, rfl⟩
theorem x_E_having_17 : kt_dc i_E_having 17 (.iaload) 1 18 := ⟨by decide +kernel, rfl⟩
theorem x_E_having_18 : kt_dc i_E_having 18 (.iload_n 2) 1 19 := ⟨by decide +kernel, rfl⟩
theorem x_E_having_19 : kt_dj i_E_having 19 (.if_icmp .ne) 29 22 := ⟨10, by decide +kernel, by decide, rfl⟩
theorem x_E_having_22 : kt_dc i_E_having 22 (.lload_n 3) 1 23 := ⟨by decide +kernel, rfl⟩
theorem x_E_having_23 : kt_dc i_E_having 23 (.lconst 1) 1 24 ∧ Int64.ofNat ((1 : Fin 2) : Nat) = (1 : Int64) := ⟨⟨by decide +kernel, rfl⟩, rfl⟩
theorem x_E_having_24 : kt_dc i_E_having 24 (.iload 5) 2 26 := ⟨by decide +kernel, rfl⟩
theorem x_E_having_26 : kt_dc i_E_having 26 (.lshl) 1 27 := ⟨by decide +kernel, rfl⟩
theorem x_E_having_27 : kt_dc i_E_having 27 (.lor) 1 28 := ⟨by decide +kernel, rfl⟩
theorem x_E_having_28 : kt_dc i_E_having 28 (.lstore_n 3) 1 29 := ⟨by decide +kernel, rfl⟩
theorem x_E_having_29 : kt_dc i_E_having 29 (.iinc 5 1) 3 32 ∧ Int32.ofInt (1) = (1 : Int32) := ⟨⟨by decide +kernel, rfl⟩, by decide⟩
theorem x_E_having_32 : kt_dj i_E_having 32 .goto 5 35 := ⟨-27, by decide +kernel, by decide, rfl⟩
theorem x_E_having_35 : kt_dc i_E_having 35 (.lload_n 3) 1 36 := ⟨by decide +kernel, rfl⟩
theorem x_E_having_36 : kt_dc i_E_having 36 (.lreturn) 1 37 ∧ kt_rt i_E_having = (some .long) := ⟨⟨by decide +kernel, rfl⟩, rfl⟩
theorem x_C_townsThatKnow_0 : kt_dc i_C_townsThatKnow 0 (.iconst 0) 1 1 ∧ Int32.ofInt (0) = (0 : Int32) := ⟨⟨by decide +kernel, rfl⟩, by decide⟩
theorem x_C_townsThatKnow_1 : kt_dc i_C_townsThatKnow 1 (.istore_n 3) 1 2 := ⟨by decide +kernel, rfl⟩
theorem x_C_townsThatKnow_2 : kt_dc i_C_townsThatKnow 2 (.iconst 0) 1 3 ∧ Int32.ofInt (0) = (0 : Int32) := ⟨⟨by decide +kernel, rfl⟩, by decide⟩
theorem x_C_townsThatKnow_3 : kt_dc i_C_townsThatKnow 3 (.istore 4) 2 5 := ⟨by decide +kernel, rfl⟩
theorem x_C_townsThatKnow_5 : kt_dc i_C_townsThatKnow 5 (.iload 4) 2 7 := ⟨by decide +kernel, rfl⟩
theorem x_C_townsThatKnow_7 : kt_dc i_C_townsThatKnow 7 (.aload_n 0) 1 8 := ⟨by decide +kernel, rfl⟩
theorem x_C_townsThatKnow_8 : kt_sG i_C_townsThatKnow 8 0 2 0 11 := ⟨46, RX0, TX0, 11, ⟨by decide +kernel, rfl⟩, rfl, by decide, rfl, by decide, Or.inl (tw_141)⟩
theorem x_C_townsThatKnow_11 : kt_dj i_C_townsThatKnow 11 (.if_icmp .ge) 39 14 := ⟨28, by decide +kernel, by decide, rfl⟩
theorem x_C_townsThatKnow_14 : kt_dc i_C_townsThatKnow 14 (.aload_n 0) 1 15 := ⟨by decide +kernel, rfl⟩
theorem x_C_townsThatKnow_15 : kt_sG i_C_townsThatKnow 15 0 5 2 18 := ⟨22, RX0, TX0, 11, ⟨by decide +kernel, rfl⟩, rfl, by decide, rfl, by decide, Or.inl (tw_147)⟩
theorem x_C_townsThatKnow_18 : kt_dc i_C_townsThatKnow 18 (.iload 4) 2 20 := ⟨by decide +kernel, rfl⟩
theorem x_C_townsThatKnow_20 : kt_dc i_C_townsThatKnow 20 (.laload) 1 21 := ⟨by decide +kernel, rfl⟩
theorem x_C_townsThatKnow_21 : kt_dc i_C_townsThatKnow 21 (.lload_n 1) 1 22 := ⟨by decide +kernel, rfl⟩
theorem x_C_townsThatKnow_22 : kt_dc i_C_townsThatKnow 22 (.lcmp) 1 23 := ⟨by decide +kernel, rfl⟩
theorem x_C_townsThatKnow_23 : kt_dj i_C_townsThatKnow 23 (.ifCond .ne) 33 26 := ⟨10, by decide +kernel, by decide, rfl⟩
theorem x_C_townsThatKnow_26 : kt_dc i_C_townsThatKnow 26 (.iload_n 3) 1 27 := ⟨by decide +kernel, rfl⟩
theorem x_C_townsThatKnow_27 : kt_dc i_C_townsThatKnow 27 (.iconst 1) 1 28 ∧ Int32.ofInt (1) = (1 : Int32) := ⟨⟨by decide +kernel, rfl⟩, by decide⟩
theorem x_C_townsThatKnow_28 : kt_dc i_C_townsThatKnow 28 (.iload 4) 2 30 := ⟨by decide +kernel, rfl⟩
theorem x_C_townsThatKnow_30 : kt_dc i_C_townsThatKnow 30 (.ishl) 1 31 := ⟨by decide +kernel, rfl⟩
theorem x_C_townsThatKnow_31 : kt_dc i_C_townsThatKnow 31 (.ior) 1 32 := ⟨by decide +kernel, rfl⟩
theorem x_C_townsThatKnow_32 : kt_dc i_C_townsThatKnow 32 (.istore_n 3) 1 33 := ⟨by decide +kernel, rfl⟩
theorem x_C_townsThatKnow_33 : kt_dc i_C_townsThatKnow 33 (.iinc 4 1) 3 36 ∧ Int32.ofInt (1) = (1 : Int32) := ⟨⟨by decide +kernel, rfl⟩, by decide⟩
theorem x_C_townsThatKnow_36 : kt_dj i_C_townsThatKnow 36 .goto 5 39 := ⟨-31, by decide +kernel, by decide, rfl⟩
theorem x_C_townsThatKnow_39 : kt_dc i_C_townsThatKnow 39 (.iload_n 3) 1 40 := ⟨by decide +kernel, rfl⟩
theorem x_C_townsThatKnow_40 : kt_dc i_C_townsThatKnow 40 (.ireturn) 1 41 ∧ kt_rt i_C_townsThatKnow = (some .int) := ⟨⟨by decide +kernel, rfl⟩, rfl⟩
theorem x_E_piecesOf_0 : kt_dc i_E_piecesOf 0 (.iconst 0) 1 1 ∧ Int32.ofInt (0) = (0 : Int32) := ⟨⟨by decide +kernel, rfl⟩, by decide⟩
theorem x_E_piecesOf_1 : kt_dc i_E_piecesOf 1 (.istore_n 3) 1 2 := ⟨by decide +kernel, rfl⟩
theorem x_E_piecesOf_2 : kt_dc i_E_piecesOf 2 (.iconst 0) 1 3 ∧ Int32.ofInt (0) = (0 : Int32) := ⟨⟨by decide +kernel, rfl⟩, by decide⟩
theorem x_E_piecesOf_3 : kt_dc i_E_piecesOf 3 (.istore 4) 2 5 := ⟨by decide +kernel, rfl⟩
theorem x_E_piecesOf_5 : kt_dc i_E_piecesOf 5 (.iload 4) 2 7 := ⟨by decide +kernel, rfl⟩
theorem x_E_piecesOf_7 : kt_dc i_E_piecesOf 7 (.aload_n 0) 1 8 := ⟨by decide +kernel, rfl⟩
theorem x_E_piecesOf_8 : kt_sG i_E_piecesOf 8 1 0 0 11 := ⟨33, RX1, TX1, 8, ⟨by decide +kernel, rfl⟩, rfl, by decide, rfl, by decide, Or.inl (tw_93)⟩
theorem x_E_piecesOf_11 : kt_dj i_E_piecesOf 11 (.if_icmp .ge) 39 14 := ⟨28, by decide +kernel, by decide, rfl⟩
theorem x_E_piecesOf_14 : kt_dc i_E_piecesOf 14 (.lload_n 1) 1 15 := ⟨by decide +kernel, rfl⟩
theorem x_E_piecesOf_15 : kt_dc i_E_piecesOf 15 (.iload 4) 2 17 := ⟨by decide +kernel, rfl⟩
theorem x_E_piecesOf_17 : kt_sS i_E_piecesOf 17 i_K_has 2 20 := ⟨47, ⟨by decide +kernel, rfl⟩, Or.inr ⟨"KinderTowns", tw_243⟩, j_K_has, tw_244, rfl⟩
theorem c_E_piecesOf_17 {P : kt_P} {NM : Nat} {L : List (Option Value)} {rest : List Value} {N : Nat} {I : kt_I} {J : kt_J} {R : kt_R} {Q : Option Value → kt_I → kt_J → kt_R → Prop} {x0 : Int64} {x1 : Int32} (hrest : (rest.map fun v => v.category).sum ≤ 8) (kk : KW P i_K_has N 0 [some (.long x0), none, some (.int x1)] [] N I J R (fun v I' J' R' => KW P i_E_piecesOf NM 20 L (kt_pu v rest) N I' J' R' Q)) : KW P i_E_piecesOf NM 17 L (.int x1 :: .long x0 :: rest) N I J R Q := kw_callS x_E_piecesOf_17 (As := [.long x0, .int x1]) rfl rfl (Nat.le_of_ble_eq_true rfl) hrest (Nat.le_refl N) (fun h => h) kk
theorem x_E_piecesOf_20 : kt_dj i_E_piecesOf 20 (.ifCond .eq) 33 23 := ⟨13, by decide +kernel, by decide, rfl⟩
theorem x_E_piecesOf_23 : kt_dc i_E_piecesOf 23 (.iload_n 3) 1 24 := ⟨by decide +kernel, rfl⟩
theorem x_E_piecesOf_24 : kt_dc i_E_piecesOf 24 (.aload_n 0) 1 25 := ⟨by decide +kernel, rfl⟩
theorem x_E_piecesOf_25 : kt_sG i_E_piecesOf 25 1 5 2 28 := ⟨24, RX1, TX1, 8, ⟨by decide +kernel, rfl⟩, rfl, by decide, rfl, by decide, Or.inl (tw_110)⟩
theorem x_E_piecesOf_28 : kt_dc i_E_piecesOf 28 (.iload 4) 2 30 := ⟨by decide +kernel, rfl⟩
theorem x_E_piecesOf_30 : kt_dc i_E_piecesOf 30 (.iaload) 1 31 := ⟨by decide +kernel, rfl⟩
theorem x_E_piecesOf_31 : kt_dc i_E_piecesOf 31 (.iadd) 1 32 := ⟨by decide +kernel, rfl⟩
theorem x_E_piecesOf_32 : kt_dc i_E_piecesOf 32 (.istore_n 3) 1 33 := ⟨by decide +kernel, rfl⟩
theorem x_E_piecesOf_33 : kt_dc i_E_piecesOf 33 (.iinc 4 1) 3 36 ∧ Int32.ofInt (1) = (1 : Int32) := ⟨⟨by decide +kernel, rfl⟩, by decide⟩
theorem x_E_piecesOf_36 : kt_dj i_E_piecesOf 36 .goto 5 39 := ⟨-31, by decide +kernel, by decide, rfl⟩
theorem x_E_piecesOf_39 : kt_dc i_E_piecesOf 39 (.iload_n 3) 1 40 := ⟨by decide +kernel, rfl⟩
theorem x_E_piecesOf_40 : kt_dc i_E_piecesOf 40 (.ireturn) 1 41 ∧ kt_rt i_E_piecesOf = (some .int) := ⟨⟨by decide +kernel, rfl⟩, rfl⟩
theorem x_C_apologiesFor_0 : kt_dc i_C_apologiesFor 0 (.iconst 0) 1 1 ∧ Int32.ofInt (0) = (0 : Int32) := ⟨⟨by decide +kernel, rfl⟩, by decide⟩
theorem x_C_apologiesFor_1 : kt_dc i_C_apologiesFor 1 (.istore_n 3) 1 2 := ⟨by decide +kernel, rfl⟩
theorem x_C_apologiesFor_2 : kt_dc i_C_apologiesFor 2 (.iconst 0) 1 3 ∧ Int32.ofInt (0) = (0 : Int32) := ⟨⟨by decide +kernel, rfl⟩, by decide⟩
theorem x_C_apologiesFor_3 : kt_dc i_C_apologiesFor 3 (.istore 4) 2 5 := ⟨by decide +kernel, rfl⟩
theorem x_C_apologiesFor_5 : kt_dc i_C_apologiesFor 5 (.iload 4) 2 7 := ⟨by decide +kernel, rfl⟩
theorem x_C_apologiesFor_7 : kt_dc i_C_apologiesFor 7 (.aload_n 0) 1 8 := ⟨by decide +kernel, rfl⟩
theorem x_C_apologiesFor_8 : kt_sG i_C_apologiesFor 8 0 2 0 11 := ⟨46, RX0, TX0, 11, ⟨by decide +kernel, rfl⟩, rfl, by decide, rfl, by decide, Or.inl (tw_141)⟩
theorem x_C_apologiesFor_11 : kt_dj i_C_apologiesFor 11 (.if_icmp .ge) 35 14 := ⟨24, by decide +kernel, by decide, rfl⟩
theorem x_C_apologiesFor_14 : kt_dc i_C_apologiesFor 14 (.iload_n 3) 1 15 := ⟨by decide +kernel, rfl⟩
theorem x_C_apologiesFor_15 : kt_dc i_C_apologiesFor 15 (.aload_n 0) 1 16 := ⟨by decide +kernel, rfl⟩
theorem x_C_apologiesFor_16 : kt_sG i_C_apologiesFor 16 0 8 2 19 := ⟨32, RX0, TX0, 11, ⟨by decide +kernel, rfl⟩, rfl, by decide, rfl, by decide, Or.inl (tw_153)⟩
theorem x_C_apologiesFor_19 : kt_dc i_C_apologiesFor 19 (.iload 4) 2 21 := ⟨by decide +kernel, rfl⟩
theorem x_C_apologiesFor_21 : kt_dc i_C_apologiesFor 21 (.laload) 1 22 := ⟨by decide +kernel, rfl⟩
theorem x_C_apologiesFor_22 : kt_dc i_C_apologiesFor 22 (.lload_n 1) 1 23 := ⟨by decide +kernel, rfl⟩
theorem x_C_apologiesFor_23 : kt_dc i_C_apologiesFor 23 (.land) 1 24 := ⟨by decide +kernel, rfl⟩
theorem x_C_apologiesFor_24 : kt_sS i_C_apologiesFor 24 i_J_bitCount 1 27 := ⟨130, ⟨by decide +kernel, rfl⟩, Or.inl (tw_337), j_J_bitCount, tw_338, rfl⟩
theorem c_C_apologiesFor_24 {P : kt_P} {NM : Nat} {L : List (Option Value)} {rest : List Value} {N : Nat} {I : kt_I} {J : kt_J} {R : kt_R} {Q : Option Value → kt_I → kt_J → kt_R → Prop} {x0 : Int64} (hrest : (rest.map fun v => v.category).sum ≤ 8) (kk : KW P i_J_bitCount N 0 [some (.long x0), none] [] N I J R (fun v I' J' R' => KW P i_C_apologiesFor NM 27 L (kt_pu v rest) N I' J' R' Q)) : KW P i_C_apologiesFor NM 24 L (.long x0 :: rest) N I J R Q := kw_callS x_C_apologiesFor_24 (As := [.long x0]) rfl rfl (Nat.le_of_ble_eq_true rfl) hrest (Nat.le_refl N) (fun h => h) kk
theorem x_C_apologiesFor_27 : kt_dc i_C_apologiesFor 27 (.iadd) 1 28 := ⟨by decide +kernel, rfl⟩
theorem x_C_apologiesFor_28 : kt_dc i_C_apologiesFor 28 (.istore_n 3) 1 29 := ⟨by decide +kernel, rfl⟩
theorem x_C_apologiesFor_29 : kt_dc i_C_apologiesFor 29 (.iinc 4 1) 3 32 ∧ Int32.ofInt (1) = (1 : Int32) := ⟨⟨by decide +kernel, rfl⟩, by decide⟩
theorem x_C_apologiesFor_32 : kt_dj i_C_apologiesFor 32 .goto 5 35 := ⟨-27, by decide +kernel, by decide, rfl⟩
theorem x_C_apologiesFor_35 : kt_dc i_C_apologiesFor 35 (.iload_n 3) 1 36 := ⟨by decide +kernel, rfl⟩
theorem x_C_apologiesFor_36 : kt_dc i_C_apologiesFor 36 (.ireturn) 1 37 ∧ kt_rt i_C_apologiesFor = (some .int) := ⟨⟨by decide +kernel, rfl⟩, rfl⟩
theorem x_E_all_0 : kt_dc i_E_all 0 (.lconst 1) 1 1 ∧ Int64.ofNat ((1 : Fin 2) : Nat) = (1 : Int64) := ⟨⟨by decide +kernel, rfl⟩, rfl⟩
theorem x_E_all_1 : kt_dc i_E_all 1 (.aload_n 0) 1 2 := ⟨by decide +kernel, rfl⟩
theorem x_E_all_2 : kt_sG i_E_all 2 1 0 0 5 := ⟨33, RX1, TX1, 8, ⟨by decide +kernel, rfl⟩, rfl, by decide, rfl, by decide, Or.inl (tw_93)⟩
theorem x_E_all_5 : kt_dc i_E_all 5 (.lshl) 1 6 := ⟨by decide +kernel, rfl⟩
theorem x_E_all_6 : kt_dc i_E_all 6 (.lconst 1) 1 7 ∧ Int64.ofNat ((1 : Fin 2) : Nat) = (1 : Int64) := ⟨⟨by decide +kernel, rfl⟩, rfl⟩
theorem x_E_all_7 : kt_dc i_E_all 7 (.lsub) 1 8 := ⟨by decide +kernel, rfl⟩
theorem x_E_all_8 : kt_dc i_E_all 8 (.lreturn) 1 9 ∧ kt_rt i_E_all = (some .long) := ⟨⟨by decide +kernel, rfl⟩, rfl⟩
theorem x_C_knownByAll_0 : kt_dc i_C_knownByAll 0 (.aload_n 0) 1 1 := ⟨by decide +kernel, rfl⟩
theorem x_C_knownByAll_1 : kt_sG i_C_knownByAll 1 0 1 2 4 := ⟨12, RX0, TX0, 11, ⟨by decide +kernel, rfl⟩, rfl, by decide, rfl, by decide, Or.inl (tw_139)⟩
theorem x_C_knownByAll_4 : kt_sV i_C_knownByAll 4 i_E_all 1 0 7 := ⟨136, ⟨by decide +kernel, rfl⟩, Or.inr ⟨"KinderTowns", tw_426⟩, j_E_all, ⟨tw_420, tp_30⟩, ⟨TX1, 8, rfl⟩, by decide, rfl⟩
theorem c_C_knownByAll_4 {P : kt_P} {NM : Nat} {L : List (Option Value)} {rest : List Value} {N : Nat} {I : kt_I} {J : kt_J} {R : kt_R} {Q : Option Value → kt_I → kt_J → kt_R → Prop} {b : Nat} (hkd : (kt_kd P N b).1 = 1) (hrest : (rest.map fun v => v.category).sum ≤ 8) (kk : KW P i_E_all N 0 [some (.ref b)] [] N I J R (fun v I' J' R' => KW P i_C_knownByAll NM 7 L (kt_pu v rest) N I' J' R' Q)) : KW P i_C_knownByAll NM 4 L (.ref b :: rest) N I J R Q := kw_callV x_C_knownByAll_4 (As := []) rfl rfl (Nat.le_of_ble_eq_true rfl) hrest hkd (Nat.le_refl N) (fun h => h) kk
theorem x_C_knownByAll_7 : kt_dc i_C_knownByAll 7 (.lstore_n 1) 1 8 := ⟨by decide +kernel, rfl⟩
theorem x_C_knownByAll_8 : kt_dc i_C_knownByAll 8 (.iconst 0) 1 9 ∧ Int32.ofInt (0) = (0 : Int32) := ⟨⟨by decide +kernel, rfl⟩, by decide⟩
theorem x_C_knownByAll_9 : kt_dc i_C_knownByAll 9 (.istore_n 3) 1 10 := ⟨by decide +kernel, rfl⟩
theorem x_C_knownByAll_10 : kt_dc i_C_knownByAll 10 (.iload_n 3) 1 11 := ⟨by decide +kernel, rfl⟩
theorem x_C_knownByAll_11 : kt_dc i_C_knownByAll 11 (.aload_n 0) 1 12 := ⟨by decide +kernel, rfl⟩
theorem x_C_knownByAll_12 : kt_sG i_C_knownByAll 12 0 2 0 15 := ⟨46, RX0, TX0, 11, ⟨by decide +kernel, rfl⟩, rfl, by decide, rfl, by decide, Or.inl (tw_141)⟩
theorem x_C_knownByAll_15 : kt_dj i_C_knownByAll 15 (.if_icmp .ge) 33 18 := ⟨18, by decide +kernel, by decide, rfl⟩
theorem x_C_knownByAll_18 : kt_dc i_C_knownByAll 18 (.lload_n 1) 1 19 := ⟨by decide +kernel, rfl⟩
theorem x_C_knownByAll_19 : kt_dc i_C_knownByAll 19 (.aload_n 0) 1 20 := ⟨by decide +kernel, rfl⟩
theorem x_C_knownByAll_20 : kt_sG i_C_knownByAll 20 0 5 2 23 := ⟨22, RX0, TX0, 11, ⟨by decide +kernel, rfl⟩, rfl, by decide, rfl, by decide, Or.inl (tw_147)⟩
theorem x_C_knownByAll_23 : kt_dc i_C_knownByAll 23 (.iload_n 3) 1 24 := ⟨by decide +kernel, rfl⟩
theorem x_C_knownByAll_24 : kt_dc i_C_knownByAll 24 (.laload) 1 25 := ⟨by decide +kernel, rfl⟩
theorem x_C_knownByAll_25 : kt_dc i_C_knownByAll 25 (.land) 1 26 := ⟨by decide +kernel, rfl⟩
theorem x_C_knownByAll_26 : kt_dc i_C_knownByAll 26 (.lstore_n 1) 1 27 := ⟨by decide +kernel, rfl⟩
theorem x_C_knownByAll_27 : kt_dc i_C_knownByAll 27 (.iinc 3 1) 3 30 ∧ Int32.ofInt (1) = (1 : Int32) := ⟨⟨by decide +kernel, rfl⟩, by decide⟩
theorem x_C_knownByAll_30 : kt_dj i_C_knownByAll 30 .goto 10 33 := ⟨-20, by decide +kernel, by decide, rfl⟩
theorem x_C_knownByAll_33 : kt_dc i_C_knownByAll 33 (.lload_n 1) 1 34 := ⟨by decide +kernel, rfl⟩
theorem x_C_knownByAll_34 : kt_dc i_C_knownByAll 34 (.lreturn) 1 35 ∧ kt_rt i_C_knownByAll = (some .long) := ⟨⟨by decide +kernel, rfl⟩, rfl⟩
theorem x_C_allKnowTheSame_0 : kt_dc i_C_allKnowTheSame 0 (.iconst 1) 1 1 ∧ Int32.ofInt (1) = (1 : Int32) := ⟨⟨by decide +kernel, rfl⟩, by decide⟩
theorem x_C_allKnowTheSame_1 : kt_dc i_C_allKnowTheSame 1 (.istore_n 1) 1 2 := ⟨by decide +kernel, rfl⟩
theorem x_C_allKnowTheSame_2 : kt_dc i_C_allKnowTheSame 2 (.iload_n 1) 1 3 := ⟨by decide +kernel, rfl⟩
theorem x_C_allKnowTheSame_3 : kt_dc i_C_allKnowTheSame 3 (.aload_n 0) 1 4 := ⟨by decide +kernel, rfl⟩
theorem x_C_allKnowTheSame_4 : kt_sG i_C_allKnowTheSame 4 0 2 0 7 := ⟨46, RX0, TX0, 11, ⟨by decide +kernel, rfl⟩, rfl, by decide, rfl, by decide, Or.inl (tw_141)⟩
theorem x_C_allKnowTheSame_7 : kt_dj i_C_allKnowTheSame 7 (.if_icmp .ge) 34 10 := ⟨27, by decide +kernel, by decide, rfl⟩
theorem x_C_allKnowTheSame_10 : kt_dc i_C_allKnowTheSame 10 (.aload_n 0) 1 11 := ⟨by decide +kernel, rfl⟩
theorem x_C_allKnowTheSame_11 : kt_sG i_C_allKnowTheSame 11 0 5 2 14 := ⟨22, RX0, TX0, 11, ⟨by decide +kernel, rfl⟩, rfl, by decide, rfl, by decide, Or.inl (tw_147)⟩
theorem x_C_allKnowTheSame_14 : kt_dc i_C_allKnowTheSame 14 (.iload_n 1) 1 15 := ⟨by decide +kernel, rfl⟩
theorem x_C_allKnowTheSame_15 : kt_dc i_C_allKnowTheSame 15 (.laload) 1 16 := ⟨by decide +kernel, rfl⟩
theorem x_C_allKnowTheSame_16 : kt_dc i_C_allKnowTheSame 16 (.aload_n 0) 1 17 := ⟨by decide +kernel, rfl⟩
theorem x_C_allKnowTheSame_17 : kt_sG i_C_allKnowTheSame 17 0 5 2 20 := ⟨22, RX0, TX0, 11, ⟨by decide +kernel, rfl⟩, rfl, by decide, rfl, by decide, Or.inl (tw_147)⟩
theorem x_C_allKnowTheSame_20 : kt_dc i_C_allKnowTheSame 20 (.iconst 0) 1 21 ∧ Int32.ofInt (0) = (0 : Int32) := ⟨⟨by decide +kernel, rfl⟩, by decide⟩
theorem x_C_allKnowTheSame_21 : kt_dc i_C_allKnowTheSame 21 (.laload) 1 22 := ⟨by decide +kernel, rfl⟩
theorem x_C_allKnowTheSame_22 : kt_dc i_C_allKnowTheSame 22 (.lcmp) 1 23 := ⟨by decide +kernel, rfl⟩
theorem x_C_allKnowTheSame_23 : kt_dj i_C_allKnowTheSame 23 (.ifCond .eq) 28 26 := ⟨5, by decide +kernel, by decide, rfl⟩
theorem x_C_allKnowTheSame_26 : kt_dc i_C_allKnowTheSame 26 (.iconst 0) 1 27 ∧ Int32.ofInt (0) = (0 : Int32) := ⟨⟨by decide +kernel, rfl⟩, by decide⟩
theorem x_C_allKnowTheSame_27 : kt_dc i_C_allKnowTheSame 27 (.ireturn) 1 28 ∧ kt_rt i_C_allKnowTheSame = (some .boolean) := ⟨⟨by decide +kernel, rfl⟩, rfl⟩
theorem x_C_allKnowTheSame_28 : kt_dc i_C_allKnowTheSame 28 (.iinc 1 1) 3 31 ∧ Int32.ofInt (1) = (1 : Int32) := ⟨⟨by decide +kernel, rfl⟩, by decide⟩
theorem x_C_allKnowTheSame_31 : kt_dj i_C_allKnowTheSame 31 .goto 2 34 := ⟨-29, by decide +kernel, by decide, rfl⟩
theorem x_C_allKnowTheSame_34 : kt_dc i_C_allKnowTheSame 34 (.iconst 1) 1 35 ∧ Int32.ofInt (1) = (1 : Int32) := ⟨⟨by decide +kernel, rfl⟩, by decide⟩
theorem x_C_allKnowTheSame_35 : kt_dc i_C_allKnowTheSame 35 (.ireturn) 1 36 ∧ kt_rt i_C_allKnowTheSame = (some .boolean) := ⟨⟨by decide +kernel, rfl⟩, rfl⟩
theorem x_E_goodsOf_0 : kt_dc i_E_goodsOf 0 (.iconst 0) 1 1 ∧ Int32.ofInt (0) = (0 : Int32) := ⟨⟨by decide +kernel, rfl⟩, by decide⟩
theorem x_E_goodsOf_1 : kt_dc i_E_goodsOf 1 (.istore_n 3) 1 2 := ⟨by decide +kernel, rfl⟩
theorem x_E_goodsOf_2 : kt_dc i_E_goodsOf 2 (.iconst 0) 1 3 ∧ Int32.ofInt (0) = (0 : Int32) := ⟨⟨by decide +kernel, rfl⟩, by decide⟩
theorem x_E_goodsOf_3 : kt_dc i_E_goodsOf 3 (.istore 4) 2 5 := ⟨by decide +kernel, rfl⟩
theorem x_E_goodsOf_5 : kt_dc i_E_goodsOf 5 (.iload 4) 2 7 := ⟨by decide +kernel, rfl⟩
theorem x_E_goodsOf_7 : kt_dc i_E_goodsOf 7 (.aload_n 0) 1 8 := ⟨by decide +kernel, rfl⟩
theorem x_E_goodsOf_8 : kt_sG i_E_goodsOf 8 1 0 0 11 := ⟨33, RX1, TX1, 8, ⟨by decide +kernel, rfl⟩, rfl, by decide, rfl, by decide, Or.inl (tw_93)⟩
theorem x_E_goodsOf_11 : kt_dj i_E_goodsOf 11 (.if_icmp .ge) 41 14 := ⟨30, by decide +kernel, by decide, rfl⟩
theorem x_E_goodsOf_14 : kt_dc i_E_goodsOf 14 (.lload_n 1) 1 15 := ⟨by decide +kernel, rfl⟩
theorem x_E_goodsOf_15 : kt_dc i_E_goodsOf 15 (.iload 4) 2 17 := ⟨by decide +kernel, rfl⟩
theorem x_E_goodsOf_17 : kt_sS i_E_goodsOf 17 i_K_has 2 20 := ⟨47, ⟨by decide +kernel, rfl⟩, Or.inr ⟨"KinderTowns", tw_243⟩, j_K_has, tw_244, rfl⟩
theorem c_E_goodsOf_17 {P : kt_P} {NM : Nat} {L : List (Option Value)} {rest : List Value} {N : Nat} {I : kt_I} {J : kt_J} {R : kt_R} {Q : Option Value → kt_I → kt_J → kt_R → Prop} {x0 : Int64} {x1 : Int32} (hrest : (rest.map fun v => v.category).sum ≤ 8) (kk : KW P i_K_has N 0 [some (.long x0), none, some (.int x1)] [] N I J R (fun v I' J' R' => KW P i_E_goodsOf NM 20 L (kt_pu v rest) N I' J' R' Q)) : KW P i_E_goodsOf NM 17 L (.int x1 :: .long x0 :: rest) N I J R Q := kw_callS x_E_goodsOf_17 (As := [.long x0, .int x1]) rfl rfl (Nat.le_of_ble_eq_true rfl) hrest (Nat.le_refl N) (fun h => h) kk
theorem x_E_goodsOf_20 : kt_dj i_E_goodsOf 20 (.ifCond .eq) 35 23 := ⟨15, by decide +kernel, by decide, rfl⟩
theorem x_E_goodsOf_23 : kt_dc i_E_goodsOf 23 (.iload_n 3) 1 24 := ⟨by decide +kernel, rfl⟩
theorem x_E_goodsOf_24 : kt_dc i_E_goodsOf 24 (.iconst 1) 1 25 ∧ Int32.ofInt (1) = (1 : Int32) := ⟨⟨by decide +kernel, rfl⟩, by decide⟩
theorem x_E_goodsOf_25 : kt_dc i_E_goodsOf 25 (.aload_n 0) 1 26 := ⟨by decide +kernel, rfl⟩
theorem x_E_goodsOf_26 : kt_sG i_E_goodsOf 26 1 4 2 29 := ⟨21, RX1, TX1, 8, ⟨by decide +kernel, rfl⟩, rfl, by decide, rfl, by decide, Or.inl (tw_106)⟩
theorem x_E_goodsOf_29 : kt_dc i_E_goodsOf 29 (.iload 4) 2 31 := ⟨by decide +kernel, rfl⟩
theorem x_E_goodsOf_31 : kt_dc i_E_goodsOf 31 (.iaload) 1 32 := ⟨by decide +kernel, rfl⟩
theorem x_E_goodsOf_32 : kt_dc i_E_goodsOf 32 (.ishl) 1 33 := ⟨by decide +kernel, rfl⟩
theorem x_E_goodsOf_33 : kt_dc i_E_goodsOf 33 (.ior) 1 34 := ⟨by decide +kernel, rfl⟩
theorem x_E_goodsOf_34 : kt_dc i_E_goodsOf 34 (.istore_n 3) 1 35 := ⟨by decide +kernel, rfl⟩
theorem x_E_goodsOf_35 : kt_dc i_E_goodsOf 35 (.iinc 4 1) 3 38 ∧ Int32.ofInt (1) = (1 : Int32) := ⟨⟨by decide +kernel, rfl⟩, by decide⟩
theorem x_E_goodsOf_38 : kt_dj i_E_goodsOf 38 .goto 5 41 := ⟨-33, by decide +kernel, by decide, rfl⟩
theorem x_E_goodsOf_41 : kt_dc i_E_goodsOf 41 (.iload_n 3) 1 42 := ⟨by decide +kernel, rfl⟩
theorem x_E_goodsOf_42 : kt_dc i_E_goodsOf 42 (.ireturn) 1 43 ∧ kt_rt i_E_goodsOf = (some .int) := ⟨⟨by decide +kernel, rfl⟩, rfl⟩
theorem x_E_personsIn_0 : kt_dc i_E_personsIn 0 (.iconst 0) 1 1 ∧ Int32.ofInt (0) = (0 : Int32) := ⟨⟨by decide +kernel, rfl⟩, by decide⟩
theorem x_E_personsIn_1 : kt_dc i_E_personsIn 1 (.istore_n 3) 1 2 := ⟨by decide +kernel, rfl⟩
theorem x_E_personsIn_2 : kt_dc i_E_personsIn 2 (.iconst 0) 1 3 ∧ Int32.ofInt (0) = (0 : Int32) := ⟨⟨by decide +kernel, rfl⟩, by decide⟩
theorem x_E_personsIn_3 : kt_dc i_E_personsIn 3 (.istore 4) 2 5 := ⟨by decide +kernel, rfl⟩
theorem x_E_personsIn_5 : kt_dc i_E_personsIn 5 (.iload 4) 2 7 := ⟨by decide +kernel, rfl⟩
theorem x_E_personsIn_7 : kt_dc i_E_personsIn 7 (.bipush 10) 2 9 ∧ (Int8.ofInt (10)).toInt32 = (10 : Int32) := ⟨⟨by decide +kernel, rfl⟩, by decide⟩
theorem x_E_personsIn_9 : kt_dj i_E_personsIn 9 (.if_icmp .ge) 38 12 := ⟨29, by decide +kernel, by decide, rfl⟩
theorem x_E_personsIn_12 : kt_dc i_E_personsIn 12 (.lload_n 1) 1 13 := ⟨by decide +kernel, rfl⟩
theorem x_E_personsIn_13 : kt_dc i_E_personsIn 13 (.aload_n 0) 1 14 := ⟨by decide +kernel, rfl⟩
theorem x_E_personsIn_14 : kt_dc i_E_personsIn 14 (.aload_n 0) 1 15 := ⟨by decide +kernel, rfl⟩
theorem x_E_personsIn_15 : kt_sG i_E_personsIn 15 1 6 2 18 := ⟨27, RX1, TX1, 8, ⟨by decide +kernel, rfl⟩, rfl, by decide, rfl, by decide, Or.inl (tw_114)⟩
theorem x_E_personsIn_18 : kt_dc i_E_personsIn 18 (.iload 4) 2 20 := ⟨by decide +kernel, rfl⟩
theorem x_E_personsIn_20 : kt_sV i_E_personsIn 20 i_E_having 1 2 23 := ⟨57, ⟨by decide +kernel, rfl⟩, Or.inl (tw_460), j_E_having, ⟨tw_381, tp_26⟩, ⟨TX1, 8, rfl⟩, by decide, rfl⟩
theorem c_E_personsIn_20 {P : kt_P} {NM : Nat} {L : List (Option Value)} {rest : List Value} {N : Nat} {I : kt_I} {J : kt_J} {R : kt_R} {Q : Option Value → kt_I → kt_J → kt_R → Prop} {b : Nat} {x0 : Nat} {x1 : Int32} (hkd : (kt_kd P N b).1 = 1) (hrest : (rest.map fun v => v.category).sum ≤ 8) (kk : KW P i_E_having N 0 [some (.ref b), some (.ref x0), some (.int x1), none, none, none] [] N I J R (fun v I' J' R' => KW P i_E_personsIn NM 23 L (kt_pu v rest) N I' J' R' Q)) : KW P i_E_personsIn NM 20 L (.int x1 :: .ref x0 :: .ref b :: rest) N I J R Q := kw_callV x_E_personsIn_20 (As := [.ref x0, .int x1]) rfl rfl (Nat.le_of_ble_eq_true rfl) hrest hkd (Nat.le_refl N) (fun h => h) kk
theorem x_E_personsIn_23 : kt_dc i_E_personsIn 23 (.land) 1 24 := ⟨by decide +kernel, rfl⟩
theorem x_E_personsIn_24 : kt_dc i_E_personsIn 24 (.lconst 0) 1 25 ∧ Int64.ofNat ((0 : Fin 2) : Nat) = (0 : Int64) := ⟨⟨by decide +kernel, rfl⟩, rfl⟩
theorem x_E_personsIn_25 : kt_dc i_E_personsIn 25 (.lcmp) 1 26 := ⟨by decide +kernel, rfl⟩
theorem x_E_personsIn_26 : kt_dj i_E_personsIn 26 (.ifCond .eq) 32 29 := ⟨6, by decide +kernel, by decide, rfl⟩
theorem x_E_personsIn_29 : kt_dc i_E_personsIn 29 (.iinc 3 1) 3 32 ∧ Int32.ofInt (1) = (1 : Int32) := ⟨⟨by decide +kernel, rfl⟩, by decide⟩
theorem x_E_personsIn_32 : kt_dc i_E_personsIn 32 (.iinc 4 1) 3 35 ∧ Int32.ofInt (1) = (1 : Int32) := ⟨⟨by decide +kernel, rfl⟩, by decide⟩
theorem x_E_personsIn_35 : kt_dj i_E_personsIn 35 .goto 5 38 := ⟨-30, by decide +kernel, by decide, rfl⟩
theorem x_E_personsIn_38 : kt_dc i_E_personsIn 38 (.iload_n 3) 1 39 := ⟨by decide +kernel, rfl⟩
theorem x_E_personsIn_39 : kt_dc i_E_personsIn 39 (.ireturn) 1 40 ∧ kt_rt i_E_personsIn = (some .int) := ⟨⟨by decide +kernel, rfl⟩, rfl⟩
theorem x_C_meetInTurn_0 : kt_dc i_C_meetInTurn 0 (.iconst 1) 1 1 ∧ Int32.ofInt (1) = (1 : Int32) := ⟨⟨by decide +kernel, rfl⟩, by decide⟩
theorem x_C_meetInTurn_1 : kt_dc i_C_meetInTurn 1 (.istore_n 1) 1 2 := ⟨by decide +kernel, rfl⟩
theorem x_C_meetInTurn_2 : kt_dc i_C_meetInTurn 2 (.iload_n 1) 1 3 := ⟨by decide +kernel, rfl⟩
theorem x_C_meetInTurn_3 : kt_dc i_C_meetInTurn 3 (.aload_n 0) 1 4 := ⟨by decide +kernel, rfl⟩
theorem x_C_meetInTurn_4 : kt_sG i_C_meetInTurn 4 0 2 0 7 := ⟨46, RX0, TX0, 11, ⟨by decide +kernel, rfl⟩, rfl, by decide, rfl, by decide, Or.inl (tw_141)⟩
theorem x_C_meetInTurn_7 : kt_dj i_C_meetInTurn 7 (.if_icmp .ge) 48 10 := ⟨41, by decide +kernel, by decide, rfl⟩
theorem x_C_meetInTurn_10 : kt_dc i_C_meetInTurn 10 (.aload_n 0) 1 11 := ⟨by decide +kernel, rfl⟩
theorem x_C_meetInTurn_11 : kt_sG i_C_meetInTurn 11 0 5 2 14 := ⟨22, RX0, TX0, 11, ⟨by decide +kernel, rfl⟩, rfl, by decide, rfl, by decide, Or.inl (tw_147)⟩
theorem x_C_meetInTurn_14 : kt_dc i_C_meetInTurn 14 (.iload_n 1) 1 15 := ⟨by decide +kernel, rfl⟩
theorem x_C_meetInTurn_15 : kt_dc i_C_meetInTurn 15 (.iconst 1) 1 16 ∧ Int32.ofInt (1) = (1 : Int32) := ⟨⟨by decide +kernel, rfl⟩, by decide⟩
theorem x_C_meetInTurn_16 : kt_dc i_C_meetInTurn 16 (.isub) 1 17 := ⟨by decide +kernel, rfl⟩
theorem x_C_meetInTurn_17 : kt_dc i_C_meetInTurn 17 (.laload) 1 18 := ⟨by decide +kernel, rfl⟩
theorem x_C_meetInTurn_18 : kt_dc i_C_meetInTurn 18 (.aload_n 0) 1 19 := ⟨by decide +kernel, rfl⟩
theorem x_C_meetInTurn_19 : kt_sG i_C_meetInTurn 19 0 5 2 22 := ⟨22, RX0, TX0, 11, ⟨by decide +kernel, rfl⟩, rfl, by decide, rfl, by decide, Or.inl (tw_147)⟩
theorem x_C_meetInTurn_22 : kt_dc i_C_meetInTurn 22 (.iload_n 1) 1 23 := ⟨by decide +kernel, rfl⟩
theorem x_C_meetInTurn_23 : kt_dc i_C_meetInTurn 23 (.laload) 1 24 := ⟨by decide +kernel, rfl⟩
theorem x_C_meetInTurn_24 : kt_dc i_C_meetInTurn 24 (.lor) 1 25 := ⟨by decide +kernel, rfl⟩
theorem x_C_meetInTurn_25 : kt_dc i_C_meetInTurn 25 (.lstore_n 2) 1 26 := ⟨by decide +kernel, rfl⟩
theorem x_C_meetInTurn_26 : kt_dc i_C_meetInTurn 26 (.aload_n 0) 1 27 := ⟨by decide +kernel, rfl⟩
theorem x_C_meetInTurn_27 : kt_sG i_C_meetInTurn 27 0 5 2 30 := ⟨22, RX0, TX0, 11, ⟨by decide +kernel, rfl⟩, rfl, by decide, rfl, by decide, Or.inl (tw_147)⟩
theorem x_C_meetInTurn_30 : kt_dc i_C_meetInTurn 30 (.iload_n 1) 1 31 := ⟨by decide +kernel, rfl⟩
theorem x_C_meetInTurn_31 : kt_dc i_C_meetInTurn 31 (.iconst 1) 1 32 ∧ Int32.ofInt (1) = (1 : Int32) := ⟨⟨by decide +kernel, rfl⟩, by decide⟩
theorem x_C_meetInTurn_32 : kt_dc i_C_meetInTurn 32 (.isub) 1 33 := ⟨by decide +kernel, rfl⟩
theorem x_C_meetInTurn_33 : kt_dc i_C_meetInTurn 33 (.lload_n 2) 1 34 := ⟨by decide +kernel, rfl⟩
theorem x_C_meetInTurn_34 : kt_dc i_C_meetInTurn 34 (.lastore) 1 35 := ⟨by decide +kernel, rfl⟩
theorem x_C_meetInTurn_35 : kt_dc i_C_meetInTurn 35 (.aload_n 0) 1 36 := ⟨by decide +kernel, rfl⟩
theorem x_C_meetInTurn_36 : kt_sG i_C_meetInTurn 36 0 5 2 39 := ⟨22, RX0, TX0, 11, ⟨by decide +kernel, rfl⟩, rfl, by decide, rfl, by decide, Or.inl (tw_147)⟩
theorem x_C_meetInTurn_39 : kt_dc i_C_meetInTurn 39 (.iload_n 1) 1 40 := ⟨by decide +kernel, rfl⟩
theorem x_C_meetInTurn_40 : kt_dc i_C_meetInTurn 40 (.lload_n 2) 1 41 := ⟨by decide +kernel, rfl⟩
theorem x_C_meetInTurn_41 : kt_dc i_C_meetInTurn 41 (.lastore) 1 42 := ⟨by decide +kernel, rfl⟩
theorem x_C_meetInTurn_42 : kt_dc i_C_meetInTurn 42 (.iinc 1 1) 3 45 ∧ Int32.ofInt (1) = (1 : Int32) := ⟨⟨by decide +kernel, rfl⟩, by decide⟩
theorem x_C_meetInTurn_45 : kt_dj i_C_meetInTurn 45 .goto 2 48 := ⟨-43, by decide +kernel, by decide, rfl⟩
theorem x_C_meetInTurn_48 : kt_dc i_C_meetInTurn 48 (.return_) 1 49 ∧ kt_rt i_C_meetInTurn = none := ⟨⟨by decide +kernel, rfl⟩, rfl⟩
theorem x_S_runOn_0 : kt_dc i_S_runOn 0 (.aload_n 0) 1 1 := ⟨by decide +kernel, rfl⟩
theorem x_S_runOn_1 : kt_dc i_S_runOn 1 (.iconst 0) 1 2 ∧ Int32.ofInt (0) = (0 : Int32) := ⟨⟨by decide +kernel, rfl⟩, by decide⟩
theorem x_S_runOn_2 : kt_sP i_S_runOn 2 3 3 0 5 := ⟨18, RX3, TX3, 6, tyX3 3, ⟨by decide +kernel, rfl⟩, rfl, by decide, rfl, by decide, by decide +kernel, rfl, Or.inl ⟨rfl, Or.inl (tw_63)⟩⟩
theorem x_S_runOn_5 : kt_dc i_S_runOn 5 (.aload_n 0) 1 6 := ⟨by decide +kernel, rfl⟩
theorem x_S_runOn_6 : kt_dc i_S_runOn 6 (.iconst 0) 1 7 ∧ Int32.ofInt (0) = (0 : Int32) := ⟨⟨by decide +kernel, rfl⟩, by decide⟩
theorem x_S_runOn_7 : kt_sP i_S_runOn 7 3 4 0 10 := ⟨22, RX3, TX3, 6, tyX3 4, ⟨by decide +kernel, rfl⟩, rfl, by decide, rfl, by decide, by decide +kernel, rfl, Or.inl ⟨rfl, Or.inl (tw_65)⟩⟩
theorem x_S_runOn_10 : kt_dc i_S_runOn 10 (.aload_n 0) 1 11 := ⟨by decide +kernel, rfl⟩
theorem x_S_runOn_11 : kt_dc i_S_runOn 11 (.iconst 0) 1 12 ∧ Int32.ofInt (0) = (0 : Int32) := ⟨⟨by decide +kernel, rfl⟩, by decide⟩
theorem x_S_runOn_12 : kt_sP i_S_runOn 12 3 5 0 15 := ⟨25, RX3, TX3, 6, tyX3 5, ⟨by decide +kernel, rfl⟩, rfl, by decide, rfl, by decide, by decide +kernel, rfl, Or.inl ⟨rfl, Or.inl (tw_67)⟩⟩
theorem x_S_runOn_15 : kt_dc i_S_runOn 15 (.aload_n 0) 1 16 := ⟨by decide +kernel, rfl⟩
theorem x_S_runOn_16 : kt_sG i_S_runOn 16 3 3 0 19 := ⟨18, RX3, TX3, 6, ⟨by decide +kernel, rfl⟩, rfl, by decide, rfl, by decide, Or.inl (tw_63)⟩
theorem x_S_runOn_19 : kt_dc i_S_runOn 19 (.bipush 80) 2 21 ∧ (Int8.ofInt (80)).toInt32 = (80 : Int32) := ⟨⟨by decide +kernel, rfl⟩, by decide⟩
theorem x_S_runOn_21 : kt_dj i_S_runOn 21 (.if_icmp .ge) 103 24 := ⟨82, by decide +kernel, by decide, rfl⟩
theorem x_S_runOn_24 : kt_dc i_S_runOn 24 (.aload_n 0) 1 25 := ⟨by decide +kernel, rfl⟩
theorem x_S_runOn_25 : kt_sG i_S_runOn 25 3 4 0 28 := ⟨22, RX3, TX3, 6, ⟨by decide +kernel, rfl⟩, rfl, by decide, rfl, by decide, Or.inl (tw_65)⟩
theorem x_S_runOn_28 : kt_dc i_S_runOn 28 (.aload_n 0) 1 29 := ⟨by decide +kernel, rfl⟩
theorem x_S_runOn_29 : kt_sG i_S_runOn 29 3 1 0 32 := ⟨28, RX3, TX3, 6, ⟨by decide +kernel, rfl⟩, rfl, by decide, rfl, by decide, Or.inl (tw_60)⟩
theorem x_S_runOn_32 : kt_dj i_S_runOn 32 (.if_icmp .ge) 103 35 := ⟨71, by decide +kernel, by decide, rfl⟩
theorem x_S_runOn_35 : kt_dc i_S_runOn 35 (.aload_n 0) 1 36 := ⟨by decide +kernel, rfl⟩
theorem x_S_runOn_36 : kt_dc i_S_runOn 36 (.aload_n 0) 1 37 := ⟨by decide +kernel, rfl⟩
theorem x_S_runOn_37 : kt_sG i_S_runOn 37 3 4 0 40 := ⟨22, RX3, TX3, 6, ⟨by decide +kernel, rfl⟩, rfl, by decide, rfl, by decide, Or.inl (tw_65)⟩
theorem x_S_runOn_40 : kt_sV i_S_runOn 40 i_S_read 3 1 43 := ⟨31, ⟨by decide +kernel, rfl⟩, Or.inl (tw_489), j_S_read, ⟨tw_491, tp_39⟩, ⟨TX3, 6, rfl⟩, by decide, rfl⟩
theorem c_S_runOn_40 {P : kt_P} {NM : Nat} {L : List (Option Value)} {rest : List Value} {N : Nat} {I : kt_I} {J : kt_J} {R : kt_R} {Q : Option Value → kt_I → kt_J → kt_R → Prop} {b : Nat} {x0 : Int32} (hkd : (kt_kd P N b).1 = 3) (hrest : (rest.map fun v => v.category).sum ≤ 8) (kk : KW P i_S_read N 0 [some (.ref b), some (.int x0), none, none, none, none] [] N I J R (fun v I' J' R' => KW P i_S_runOn NM 43 L (kt_pu v rest) N I' J' R' Q)) : KW P i_S_runOn NM 40 L (.int x0 :: .ref b :: rest) N I J R Q := kw_callV x_S_runOn_40 (As := [.int x0]) rfl rfl (Nat.le_of_ble_eq_true rfl) hrest hkd (Nat.le_refl N) (fun h => h) kk
theorem x_S_runOn_43 : kt_dc i_S_runOn 43 (.istore_n 2) 1 44 := ⟨by decide +kernel, rfl⟩
theorem x_S_runOn_44 : kt_dc i_S_runOn 44 (.aload_n 0) 1 45 := ⟨by decide +kernel, rfl⟩
theorem x_S_runOn_45 : kt_dc i_S_runOn 45 (.iload_n 2) 1 46 := ⟨by decide +kernel, rfl⟩
theorem x_S_runOn_46 : kt_dj i_S_runOn 46 (.ifCond .ge) 53 49 := ⟨7, by decide +kernel, by decide, rfl⟩
theorem x_S_runOn_49 : kt_dc i_S_runOn 49 (.iconst 1) 1 50 ∧ Int32.ofInt (1) = (1 : Int32) := ⟨⟨by decide +kernel, rfl⟩, by decide⟩
theorem x_S_runOn_50 : kt_dj i_S_runOn 50 .goto 70 53 := ⟨20, by decide +kernel, by decide, rfl⟩
theorem x_S_runOn_53 : kt_dc i_S_runOn 53 (.aload_n 0) 1 54 := ⟨by decide +kernel, rfl⟩
theorem x_S_runOn_54 : kt_dc i_S_runOn 54 (.aload_n 1) 1 55 := ⟨by decide +kernel, rfl⟩
theorem x_S_runOn_55 : kt_dc i_S_runOn 55 (.aload_n 0) 1 56 := ⟨by decide +kernel, rfl⟩
theorem x_S_runOn_56 : kt_sG i_S_runOn 56 3 0 2 59 := ⟨9, RX3, TX3, 6, ⟨by decide +kernel, rfl⟩, rfl, by decide, rfl, by decide, Or.inl (tw_58)⟩
theorem x_S_runOn_59 : kt_dc i_S_runOn 59 (.aload_n 0) 1 60 := ⟨by decide +kernel, rfl⟩
theorem x_S_runOn_60 : kt_sG i_S_runOn 60 3 4 0 63 := ⟨22, RX3, TX3, 6, ⟨by decide +kernel, rfl⟩, rfl, by decide, rfl, by decide, Or.inl (tw_65)⟩
theorem x_S_runOn_63 : kt_dc i_S_runOn 63 (.iaload) 1 64 := ⟨by decide +kernel, rfl⟩
theorem x_S_runOn_64 : kt_sV i_S_runOn 64 i_S_doCommand 3 2 67 := ⟨35, ⟨by decide +kernel, rfl⟩, Or.inl (tw_513), j_S_doCommand, ⟨tw_515, tp_44⟩, ⟨TX3, 6, rfl⟩, by decide, rfl⟩
theorem c_S_runOn_64 {P : kt_P} {NM : Nat} {L : List (Option Value)} {rest : List Value} {N : Nat} {I : kt_I} {J : kt_J} {R : kt_R} {Q : Option Value → kt_I → kt_J → kt_R → Prop} {b : Nat} {x0 : Nat} {x1 : Int32} (hkd : (kt_kd P N b).1 = 3) (hrest : (rest.map fun v => v.category).sum ≤ 8) (kk : KW P i_S_doCommand N 0 [some (.ref b), some (.ref x0), some (.int x1)] [] N I J R (fun v I' J' R' => KW P i_S_runOn NM 67 L (kt_pu v rest) N I' J' R' Q)) : KW P i_S_runOn NM 64 L (.int x1 :: .ref x0 :: .ref b :: rest) N I J R Q := kw_callV x_S_runOn_64 (As := [.ref x0, .int x1]) rfl rfl (Nat.le_of_ble_eq_true rfl) hrest hkd (Nat.le_refl N) (fun h => h) kk
theorem x_S_runOn_67 : kt_sS i_S_runOn 67 i_S_reasonOf 1 70 := ⟨39, ⟨by decide +kernel, rfl⟩, Or.inl (tw_523), j_S_reasonOf, tw_524, rfl⟩
theorem c_S_runOn_67 {P : kt_P} {NM : Nat} {L : List (Option Value)} {rest : List Value} {N : Nat} {I : kt_I} {J : kt_J} {R : kt_R} {Q : Option Value → kt_I → kt_J → kt_R → Prop} {x0 : Int32} (hrest : (rest.map fun v => v.category).sum ≤ 8) (kk : KW P i_S_reasonOf N 0 [some (.int x0)] [] N I J R (fun v I' J' R' => KW P i_S_runOn NM 70 L (kt_pu v rest) N I' J' R' Q)) : KW P i_S_runOn NM 67 L (.int x0 :: rest) N I J R Q := kw_callS x_S_runOn_67 (As := [.int x0]) rfl rfl (Nat.le_of_ble_eq_true rfl) hrest (Nat.le_refl N) (fun h => h) kk
theorem x_S_runOn_70 : kt_sP i_S_runOn 70 3 5 0 73 := ⟨25, RX3, TX3, 6, tyX3 5, ⟨by decide +kernel, rfl⟩, rfl, by decide, rfl, by decide, by decide +kernel, rfl, Or.inl ⟨rfl, Or.inl (tw_67)⟩⟩
theorem x_S_runOn_73 : kt_dc i_S_runOn 73 (.aload_n 0) 1 74 := ⟨by decide +kernel, rfl⟩
theorem x_S_runOn_74 : kt_sG i_S_runOn 74 3 5 0 77 := ⟨25, RX3, TX3, 6, ⟨by decide +kernel, rfl⟩, rfl, by decide, rfl, by decide, Or.inl (tw_67)⟩
theorem x_S_runOn_77 : kt_dj i_S_runOn 77 (.ifCond .eq) 81 80 := ⟨4, by decide +kernel, by decide, rfl⟩
theorem x_S_runOn_80 : kt_dc i_S_runOn 80 (.return_) 1 81 ∧ kt_rt i_S_runOn = none := ⟨⟨by decide +kernel, rfl⟩, rfl⟩
theorem x_S_runOn_81 : kt_dc i_S_runOn 81 (.aload_n 1) 1 82 := ⟨by decide +kernel, rfl⟩
theorem x_S_runOn_82 : kt_sV i_S_runOn 82 i_C_thinkAnew 0 0 85 := ⟨42, ⟨by decide +kernel, rfl⟩, Or.inr ⟨"KinderTowns", tw_526⟩, j_C_thinkAnew, ⟨tw_229, tp_4⟩, ⟨TX0, 11, rfl⟩, by decide, rfl⟩
theorem c_S_runOn_82 {P : kt_P} {NM : Nat} {L : List (Option Value)} {rest : List Value} {N : Nat} {I : kt_I} {J : kt_J} {R : kt_R} {Q : Option Value → kt_I → kt_J → kt_R → Prop} {b : Nat} (hkd : (kt_kd P N b).1 = 0) (hrest : (rest.map fun v => v.category).sum ≤ 8) (kk : KW P i_C_thinkAnew N 0 [some (.ref b), none] [] N I J R (fun v I' J' R' => KW P i_S_runOn NM 85 L (kt_pu v rest) N I' J' R' Q)) : KW P i_S_runOn NM 82 L (.ref b :: rest) N I J R Q := kw_callV x_S_runOn_82 (As := []) rfl rfl (Nat.le_of_ble_eq_true rfl) hrest hkd (Nat.le_refl N) (fun h => h) kk
theorem x_S_runOn_85 : kt_dc i_S_runOn 85 (.aload_n 0) 1 86 := ⟨by decide +kernel, rfl⟩
theorem x_S_runOn_86 : kt_dc i_S_runOn 86 (.dup) 1 87 := ⟨by decide +kernel, rfl⟩
theorem x_S_runOn_87 : kt_sG i_S_runOn 87 3 3 0 90 := ⟨18, RX3, TX3, 6, ⟨by decide +kernel, rfl⟩, rfl, by decide, rfl, by decide, Or.inl (tw_63)⟩
theorem x_S_runOn_90 : kt_dc i_S_runOn 90 (.iconst 1) 1 91 ∧ Int32.ofInt (1) = (1 : Int32) := ⟨⟨by decide +kernel, rfl⟩, by decide⟩
theorem x_S_runOn_91 : kt_dc i_S_runOn 91 (.iadd) 1 92 := ⟨by decide +kernel, rfl⟩
theorem x_S_runOn_92 : kt_sP i_S_runOn 92 3 3 0 95 := ⟨18, RX3, TX3, 6, tyX3 3, ⟨by decide +kernel, rfl⟩, rfl, by decide, rfl, by decide, by decide +kernel, rfl, Or.inl ⟨rfl, Or.inl (tw_63)⟩⟩
theorem x_S_runOn_95 : kt_dc i_S_runOn 95 (.aload_n 0) 1 96 := ⟨by decide +kernel, rfl⟩
theorem x_S_runOn_96 : kt_dc i_S_runOn 96 (.iload_n 2) 1 97 := ⟨by decide +kernel, rfl⟩
theorem x_S_runOn_97 : kt_sP i_S_runOn 97 3 4 0 100 := ⟨22, RX3, TX3, 6, tyX3 4, ⟨by decide +kernel, rfl⟩, rfl, by decide, rfl, by decide, by decide +kernel, rfl, Or.inl ⟨rfl, Or.inl (tw_65)⟩⟩
theorem x_S_runOn_100 : kt_dj i_S_runOn 100 .goto 15 103 := ⟨-85, by decide +kernel, by decide, rfl⟩
theorem x_S_runOn_103 : kt_dc i_S_runOn 103 (.return_) 1 104 ∧ kt_rt i_S_runOn = none := ⟨⟨by decide +kernel, rfl⟩, rfl⟩
theorem x_S_read_0 : kt_dc i_S_read 0 (.iload_n 1) 1 1 := ⟨by decide +kernel, rfl⟩
theorem x_S_read_1 : kt_dc i_S_read 1 (.iconst 1) 1 2 ∧ Int32.ofInt (1) = (1 : Int32) := ⟨⟨by decide +kernel, rfl⟩, by decide⟩
theorem x_S_read_2 : kt_dc i_S_read 2 (.iadd) 1 3 := ⟨by decide +kernel, rfl⟩
theorem x_S_read_3 : kt_dc i_S_read 3 (.istore_n 2) 1 4 := ⟨by decide +kernel, rfl⟩
theorem x_S_read_4 : kt_dc i_S_read 4 (.aload_n 0) 1 5 := ⟨by decide +kernel, rfl⟩
theorem x_S_read_5 : kt_dc i_S_read 5 (.iload_n 1) 1 6 := ⟨by decide +kernel, rfl⟩
theorem x_S_read_6 : kt_sV i_S_read 6 i_S_signAt 3 1 9 := ⟨47, ⟨by decide +kernel, rfl⟩, Or.inl (tw_493), j_S_signAt, ⟨tw_495, tp_40⟩, ⟨TX3, 6, rfl⟩, by decide, rfl⟩
theorem c_S_read_6 {P : kt_P} {NM : Nat} {L : List (Option Value)} {rest : List Value} {N : Nat} {I : kt_I} {J : kt_J} {R : kt_R} {Q : Option Value → kt_I → kt_J → kt_R → Prop} {b : Nat} {x0 : Int32} (hkd : (kt_kd P N b).1 = 3) (hrest : (rest.map fun v => v.category).sum ≤ 8) (kk : KW P i_S_signAt N 0 [some (.ref b), some (.int x0)] [] N I J R (fun v I' J' R' => KW P i_S_read NM 9 L (kt_pu v rest) N I' J' R' Q)) : KW P i_S_read NM 6 L (.int x0 :: .ref b :: rest) N I J R Q := kw_callV x_S_read_6 (As := [.int x0]) rfl rfl (Nat.le_of_ble_eq_true rfl) hrest hkd (Nat.le_refl N) (fun h => h) kk
theorem x_S_read_9 : kt_sS i_S_read 9 i_S_numbersBehind 1 12 := ⟨50, ⟨by decide +kernel, rfl⟩, Or.inl (tw_498), j_S_numbersBehind, tw_499, rfl⟩
theorem c_S_read_9 {P : kt_P} {NM : Nat} {L : List (Option Value)} {rest : List Value} {N : Nat} {I : kt_I} {J : kt_J} {R : kt_R} {Q : Option Value → kt_I → kt_J → kt_R → Prop} {x0 : Int32} (hrest : (rest.map fun v => v.category).sum ≤ 8) (kk : KW P i_S_numbersBehind N 0 [some (.int x0)] [] N I J R (fun v I' J' R' => KW P i_S_read NM 12 L (kt_pu v rest) N I' J' R' Q)) : KW P i_S_read NM 9 L (.int x0 :: rest) N I J R Q := kw_callS x_S_read_9 (As := [.int x0]) rfl rfl (Nat.le_of_ble_eq_true rfl) hrest (Nat.le_refl N) (fun h => h) kk
theorem x_S_read_12 : kt_dc i_S_read 12 (.istore_n 3) 1 13 := ⟨by decide +kernel, rfl⟩
theorem x_S_read_13 : kt_dc i_S_read 13 (.iconst 0) 1 14 ∧ Int32.ofInt (0) = (0 : Int32) := ⟨⟨by decide +kernel, rfl⟩, by decide⟩
theorem x_S_read_14 : kt_dc i_S_read 14 (.istore 4) 2 16 := ⟨by decide +kernel, rfl⟩
theorem x_S_read_16 : kt_dc i_S_read 16 (.iload 4) 2 18 := ⟨by decide +kernel, rfl⟩
theorem x_S_read_18 : kt_dc i_S_read 18 (.iload_n 3) 1 19 := ⟨by decide +kernel, rfl⟩
theorem x_S_read_19 : kt_dj i_S_read 19 (.if_icmp .ge) 113 22 := ⟨94, by decide +kernel, by decide, rfl⟩
theorem x_S_read_22 : kt_dc i_S_read 22 (.aload_n 0) 1 23 := ⟨by decide +kernel, rfl⟩
theorem x_S_read_23 : kt_dc i_S_read 23 (.iload_n 2) 1 24 := ⟨by decide +kernel, rfl⟩
theorem x_S_read_24 : kt_sV i_S_read 24 i_S_digitsAt 3 1 27 := ⟨53, ⟨by decide +kernel, rfl⟩, Or.inl (tw_501), j_S_digitsAt, ⟨tw_503, tp_41⟩, ⟨TX3, 6, rfl⟩, by decide, rfl⟩
theorem c_S_read_24 {P : kt_P} {NM : Nat} {L : List (Option Value)} {rest : List Value} {N : Nat} {I : kt_I} {J : kt_J} {R : kt_R} {Q : Option Value → kt_I → kt_J → kt_R → Prop} {b : Nat} {x0 : Int32} (hkd : (kt_kd P N b).1 = 3) (hrest : (rest.map fun v => v.category).sum ≤ 8) (kk : KW P i_S_digitsAt N 0 [some (.ref b), some (.int x0)] [] N I J R (fun v I' J' R' => KW P i_S_read NM 27 L (kt_pu v rest) N I' J' R' Q)) : KW P i_S_read NM 24 L (.int x0 :: .ref b :: rest) N I J R Q := kw_callV x_S_read_24 (As := [.int x0]) rfl rfl (Nat.le_of_ble_eq_true rfl) hrest hkd (Nat.le_refl N) (fun h => h) kk
theorem x_S_read_27 : kt_dc i_S_read 27 (.istore 5) 2 29 := ⟨by decide +kernel, rfl⟩
theorem x_S_read_29 : kt_dc i_S_read 29 (.iload 5) 2 31 := ⟨by decide +kernel, rfl⟩
theorem x_S_read_31 : kt_dj i_S_read 31 (.ifCond .ne) 36 34 := ⟨5, by decide +kernel, by decide, rfl⟩
theorem x_S_read_34 : kt_dc i_S_read 34 (.iconst (-1)) 1 35 ∧ Int32.ofInt (-1) = (-1 : Int32) := ⟨⟨by decide +kernel, rfl⟩, by decide⟩
theorem x_S_read_35 : kt_dc i_S_read 35 (.ireturn) 1 36 ∧ kt_rt i_S_read = (some .int) := ⟨⟨by decide +kernel, rfl⟩, rfl⟩
theorem x_S_read_36 : kt_dc i_S_read 36 (.aload_n 0) 1 37 := ⟨by decide +kernel, rfl⟩
theorem x_S_read_37 : kt_sG i_S_read 37 3 2 2 40 := ⟨15, RX3, TX3, 6, ⟨by decide +kernel, rfl⟩, rfl, by decide, rfl, by decide, Or.inl (tw_62)⟩
theorem x_S_read_40 : kt_dc i_S_read 40 (.iload 4) 2 42 := ⟨by decide +kernel, rfl⟩
theorem x_S_read_42 : kt_dc i_S_read 42 (.iload 5) 2 44 := ⟨by decide +kernel, rfl⟩
theorem x_S_read_44 : kt_dc i_S_read 44 (.iconst 1) 1 45 ∧ Int32.ofInt (1) = (1 : Int32) := ⟨⟨by decide +kernel, rfl⟩, by decide⟩
theorem x_S_read_45 : kt_dj i_S_read 45 (.if_icmp .ne) 56 48 := ⟨11, by decide +kernel, by decide, rfl⟩
theorem x_S_read_48 : kt_dc i_S_read 48 (.aload_n 0) 1 49 := ⟨by decide +kernel, rfl⟩
theorem x_S_read_49 : kt_dc i_S_read 49 (.iload_n 2) 1 50 := ⟨by decide +kernel, rfl⟩
theorem x_S_read_50 : kt_sV i_S_read 50 i_S_digit 3 1 53 := ⟨56, ⟨by decide +kernel, rfl⟩, Or.inl (tw_509), j_S_digit, ⟨tw_511, tp_43⟩, ⟨TX3, 6, rfl⟩, by decide, rfl⟩
theorem c_S_read_50 {P : kt_P} {NM : Nat} {L : List (Option Value)} {rest : List Value} {N : Nat} {I : kt_I} {J : kt_J} {R : kt_R} {Q : Option Value → kt_I → kt_J → kt_R → Prop} {b : Nat} {x0 : Int32} (hkd : (kt_kd P N b).1 = 3) (hrest : (rest.map fun v => v.category).sum ≤ 8) (kk : KW P i_S_digit N 0 [some (.ref b), some (.int x0)] [] N I J R (fun v I' J' R' => KW P i_S_read NM 53 L (kt_pu v rest) N I' J' R' Q)) : KW P i_S_read NM 50 L (.int x0 :: .ref b :: rest) N I J R Q := kw_callV x_S_read_50 (As := [.int x0]) rfl rfl (Nat.le_of_ble_eq_true rfl) hrest hkd (Nat.le_refl N) (fun h => h) kk
theorem x_S_read_53 : kt_dj i_S_read 53 .goto 72 56 := ⟨19, by decide +kernel, by decide, rfl⟩
theorem x_S_read_56 : kt_dc i_S_read 56 (.aload_n 0) 1 57 := ⟨by decide +kernel, rfl⟩
theorem x_S_read_57 : kt_dc i_S_read 57 (.iload_n 2) 1 58 := ⟨by decide +kernel, rfl⟩
theorem x_S_read_58 : kt_sV i_S_read 58 i_S_digit 3 1 61 := ⟨56, ⟨by decide +kernel, rfl⟩, Or.inl (tw_509), j_S_digit, ⟨tw_511, tp_43⟩, ⟨TX3, 6, rfl⟩, by decide, rfl⟩
theorem c_S_read_58 {P : kt_P} {NM : Nat} {L : List (Option Value)} {rest : List Value} {N : Nat} {I : kt_I} {J : kt_J} {R : kt_R} {Q : Option Value → kt_I → kt_J → kt_R → Prop} {b : Nat} {x0 : Int32} (hkd : (kt_kd P N b).1 = 3) (hrest : (rest.map fun v => v.category).sum ≤ 8) (kk : KW P i_S_digit N 0 [some (.ref b), some (.int x0)] [] N I J R (fun v I' J' R' => KW P i_S_read NM 61 L (kt_pu v rest) N I' J' R' Q)) : KW P i_S_read NM 58 L (.int x0 :: .ref b :: rest) N I J R Q := kw_callV x_S_read_58 (As := [.int x0]) rfl rfl (Nat.le_of_ble_eq_true rfl) hrest hkd (Nat.le_refl N) (fun h => h) kk
theorem x_S_read_61 : kt_dc i_S_read 61 (.bipush 10) 2 63 ∧ (Int8.ofInt (10)).toInt32 = (10 : Int32) := ⟨⟨by decide +kernel, rfl⟩, by decide⟩
theorem x_S_read_63 : kt_dc i_S_read 63 (.imul) 1 64 := ⟨by decide +kernel, rfl⟩
theorem x_S_read_64 : kt_dc i_S_read 64 (.aload_n 0) 1 65 := ⟨by decide +kernel, rfl⟩
theorem x_S_read_65 : kt_dc i_S_read 65 (.iload_n 2) 1 66 := ⟨by decide +kernel, rfl⟩
theorem x_S_read_66 : kt_dc i_S_read 66 (.iconst 1) 1 67 ∧ Int32.ofInt (1) = (1 : Int32) := ⟨⟨by decide +kernel, rfl⟩, by decide⟩
theorem x_S_read_67 : kt_dc i_S_read 67 (.iadd) 1 68 := ⟨by decide +kernel, rfl⟩
theorem x_S_read_68 : kt_sV i_S_read 68 i_S_digit 3 1 71 := ⟨56, ⟨by decide +kernel, rfl⟩, Or.inl (tw_509), j_S_digit, ⟨tw_511, tp_43⟩, ⟨TX3, 6, rfl⟩, by decide, rfl⟩
theorem c_S_read_68 {P : kt_P} {NM : Nat} {L : List (Option Value)} {rest : List Value} {N : Nat} {I : kt_I} {J : kt_J} {R : kt_R} {Q : Option Value → kt_I → kt_J → kt_R → Prop} {b : Nat} {x0 : Int32} (hkd : (kt_kd P N b).1 = 3) (hrest : (rest.map fun v => v.category).sum ≤ 8) (kk : KW P i_S_digit N 0 [some (.ref b), some (.int x0)] [] N I J R (fun v I' J' R' => KW P i_S_read NM 71 L (kt_pu v rest) N I' J' R' Q)) : KW P i_S_read NM 68 L (.int x0 :: .ref b :: rest) N I J R Q := kw_callV x_S_read_68 (As := [.int x0]) rfl rfl (Nat.le_of_ble_eq_true rfl) hrest hkd (Nat.le_refl N) (fun h => h) kk
theorem x_S_read_71 : kt_dc i_S_read 71 (.iadd) 1 72 := ⟨by decide +kernel, rfl⟩
theorem x_S_read_72 : kt_dc i_S_read 72 (.iastore) 1 73 := ⟨by decide +kernel, rfl⟩
theorem x_S_read_73 : kt_dc i_S_read 73 (.iload_n 2) 1 74 := ⟨by decide +kernel, rfl⟩
theorem x_S_read_74 : kt_dc i_S_read 74 (.iload 5) 2 76 := ⟨by decide +kernel, rfl⟩
theorem x_S_read_76 : kt_dc i_S_read 76 (.iconst 1) 1 77 ∧ Int32.ofInt (1) = (1 : Int32) := ⟨⟨by decide +kernel, rfl⟩, by decide⟩
theorem x_S_read_77 : kt_dc i_S_read 77 (.iadd) 1 78 := ⟨by decide +kernel, rfl⟩
theorem x_S_read_78 : kt_dc i_S_read 78 (.iadd) 1 79 := ⟨by decide +kernel, rfl⟩
theorem x_S_read_79 : kt_dc i_S_read 79 (.istore_n 2) 1 80 := ⟨by decide +kernel, rfl⟩
theorem x_S_read_80 : kt_dc i_S_read 80 (.aload_n 0) 1 81 := ⟨by decide +kernel, rfl⟩
theorem x_S_read_81 : kt_dc i_S_read 81 (.iload_n 2) 1 82 := ⟨by decide +kernel, rfl⟩
theorem x_S_read_82 : kt_dc i_S_read 82 (.iconst 1) 1 83 ∧ Int32.ofInt (1) = (1 : Int32) := ⟨⟨by decide +kernel, rfl⟩, by decide⟩
theorem x_S_read_83 : kt_dc i_S_read 83 (.isub) 1 84 := ⟨by decide +kernel, rfl⟩
theorem x_S_read_84 : kt_sV i_S_read 84 i_S_signAt 3 1 87 := ⟨47, ⟨by decide +kernel, rfl⟩, Or.inl (tw_493), j_S_signAt, ⟨tw_495, tp_40⟩, ⟨TX3, 6, rfl⟩, by decide, rfl⟩
theorem c_S_read_84 {P : kt_P} {NM : Nat} {L : List (Option Value)} {rest : List Value} {N : Nat} {I : kt_I} {J : kt_J} {R : kt_R} {Q : Option Value → kt_I → kt_J → kt_R → Prop} {b : Nat} {x0 : Int32} (hkd : (kt_kd P N b).1 = 3) (hrest : (rest.map fun v => v.category).sum ≤ 8) (kk : KW P i_S_signAt N 0 [some (.ref b), some (.int x0)] [] N I J R (fun v I' J' R' => KW P i_S_read NM 87 L (kt_pu v rest) N I' J' R' Q)) : KW P i_S_read NM 84 L (.int x0 :: .ref b :: rest) N I J R Q := kw_callV x_S_read_84 (As := [.int x0]) rfl rfl (Nat.le_of_ble_eq_true rfl) hrest hkd (Nat.le_refl N) (fun h => h) kk
theorem x_S_read_87 : kt_dc i_S_read 87 (.iload 4) 2 89 := ⟨by decide +kernel, rfl⟩
theorem x_S_read_89 : kt_dc i_S_read 89 (.iconst 1) 1 90 ∧ Int32.ofInt (1) = (1 : Int32) := ⟨⟨by decide +kernel, rfl⟩, by decide⟩
theorem x_S_read_90 : kt_dc i_S_read 90 (.iadd) 1 91 := ⟨by decide +kernel, rfl⟩
theorem x_S_read_91 : kt_dc i_S_read 91 (.iload_n 3) 1 92 := ⟨by decide +kernel, rfl⟩
theorem x_S_read_92 : kt_dj i_S_read 92 (.if_icmp .ge) 100 95 := ⟨8, by decide +kernel, by decide, rfl⟩
theorem x_S_read_95 : kt_dc i_S_read 95 (.bipush 44) 2 97 ∧ (Int8.ofInt (44)).toInt32 = (44 : Int32) := ⟨⟨by decide +kernel, rfl⟩, by decide⟩
theorem x_S_read_97 : kt_dj i_S_read 97 .goto 102 100 := ⟨5, by decide +kernel, by decide, rfl⟩
theorem x_S_read_100 : kt_dc i_S_read 100 (.bipush 59) 2 102 ∧ (Int8.ofInt (59)).toInt32 = (59 : Int32) := ⟨⟨by decide +kernel, rfl⟩, by decide⟩
theorem x_S_read_102 : kt_dj i_S_read 102 (.if_icmp .eq) 107 105 := ⟨5, by decide +kernel, by decide, rfl⟩
theorem x_S_read_105 : kt_dc i_S_read 105 (.iconst (-1)) 1 106 ∧ Int32.ofInt (-1) = (-1 : Int32) := ⟨⟨by decide +kernel, rfl⟩, by decide⟩
theorem x_S_read_106 : kt_dc i_S_read 106 (.ireturn) 1 107 ∧ kt_rt i_S_read = (some .int) := ⟨⟨by decide +kernel, rfl⟩, rfl⟩
theorem x_S_read_107 : kt_dc i_S_read 107 (.iinc 4 1) 3 110 ∧ Int32.ofInt (1) = (1 : Int32) := ⟨⟨by decide +kernel, rfl⟩, by decide⟩
theorem x_S_read_110 : kt_dj i_S_read 110 .goto 16 113 := ⟨-94, by decide +kernel, by decide, rfl⟩
theorem x_S_read_113 : kt_dc i_S_read 113 (.iload_n 3) 1 114 := ⟨by decide +kernel, rfl⟩
theorem x_S_read_114 : kt_dj i_S_read 114 (.ifCond .ne) 121 117 := ⟨7, by decide +kernel, by decide, rfl⟩
theorem x_S_read_117 : kt_dc i_S_read 117 (.iconst (-1)) 1 118 ∧ Int32.ofInt (-1) = (-1 : Int32) := ⟨⟨by decide +kernel, rfl⟩, by decide⟩
theorem x_S_read_118 : kt_dj i_S_read 118 .goto 122 121 := ⟨4, by decide +kernel, by decide, rfl⟩
theorem x_S_read_121 : kt_dc i_S_read 121 (.iload_n 2) 1 122 := ⟨by decide +kernel, rfl⟩
theorem x_S_read_122 : kt_dc i_S_read 122 (.ireturn) 1 123 ∧ kt_rt i_S_read = (some .int) := ⟨⟨by decide +kernel, rfl⟩, rfl⟩
theorem x_S_signAt_0 : kt_dc i_S_signAt 0 (.iload_n 1) 1 1 := ⟨by decide +kernel, rfl⟩
theorem x_S_signAt_1 : kt_dc i_S_signAt 1 (.aload_n 0) 1 2 := ⟨by decide +kernel, rfl⟩
theorem x_S_signAt_2 : kt_sG i_S_signAt 2 3 1 0 5 := ⟨28, RX3, TX3, 6, ⟨by decide +kernel, rfl⟩, rfl, by decide, rfl, by decide, Or.inl (tw_60)⟩
theorem x_S_signAt_5 : kt_sS i_S_signAt 5 i_K_isBelow 2 8 := ⟨80, ⟨by decide +kernel, rfl⟩, Or.inr ⟨"KinderTowns", tw_497⟩, j_K_isBelow, tw_221, rfl⟩
theorem c_S_signAt_5 {P : kt_P} {NM : Nat} {L : List (Option Value)} {rest : List Value} {N : Nat} {I : kt_I} {J : kt_J} {R : kt_R} {Q : Option Value → kt_I → kt_J → kt_R → Prop} {x0 : Int32} {x1 : Int32} (hrest : (rest.map fun v => v.category).sum ≤ 8) (kk : KW P i_K_isBelow N 0 [some (.int x0), some (.int x1)] [] N I J R (fun v I' J' R' => KW P i_S_signAt NM 8 L (kt_pu v rest) N I' J' R' Q)) : KW P i_S_signAt NM 5 L (.int x1 :: .int x0 :: rest) N I J R Q := kw_callS x_S_signAt_5 (As := [.int x0, .int x1]) rfl rfl (Nat.le_of_ble_eq_true rfl) hrest (Nat.le_refl N) (fun h => h) kk
theorem x_S_signAt_8 : kt_dj i_S_signAt 8 (.ifCond .eq) 20 11 := ⟨12, by decide +kernel, by decide, rfl⟩
theorem x_S_signAt_11 : kt_dc i_S_signAt 11 (.aload_n 0) 1 12 := ⟨by decide +kernel, rfl⟩
theorem x_S_signAt_12 : kt_sG i_S_signAt 12 3 0 2 15 := ⟨9, RX3, TX3, 6, ⟨by decide +kernel, rfl⟩, rfl, by decide, rfl, by decide, Or.inl (tw_58)⟩
theorem x_S_signAt_15 : kt_dc i_S_signAt 15 (.iload_n 1) 1 16 := ⟨by decide +kernel, rfl⟩
theorem x_S_signAt_16 : kt_dc i_S_signAt 16 (.iaload) 1 17 := ⟨by decide +kernel, rfl⟩
theorem x_S_signAt_17 : kt_dj i_S_signAt 17 .goto 21 20 := ⟨4, by decide +kernel, by decide, rfl⟩
theorem x_S_signAt_20 : kt_dc i_S_signAt 20 (.iconst 0) 1 21 ∧ Int32.ofInt (0) = (0 : Int32) := ⟨⟨by decide +kernel, rfl⟩, by decide⟩
theorem x_S_signAt_21 : kt_dc i_S_signAt 21 (.ireturn) 1 22 ∧ kt_rt i_S_signAt = (some .int) := ⟨⟨by decide +kernel, rfl⟩, rfl⟩
theorem x_S_numbersBehind_0 : kt_dc i_S_numbersBehind 0 (.iload_n 0) 1 1 := ⟨by decide +kernel, rfl⟩
theorem x_S_numbersBehind_1 : kt_dt i_S_numbersBehind 1 99 [84, 80, 88, 88, 88, 84, 88, 88, 88, 88, 84, 88, 82, 88, 88, 86] 88 := ⟨87, 114, #[83, 79, 87, 87, 87, 83, 87, 87, 87, 87, 83, 87, 81, 87, 87, 85], 79, by decide +kernel, by decide, by decide, by decide⟩
theorem s_S_numbersBehind_1 {P : kt_P} {NM : Nat} {L : List (Option Value)} {st : List Value} {N : Nat} {I : kt_I} {J : kt_J} {R : kt_R} {Q : Option Value → kt_I → kt_J → kt_R → Prop} {x : Int32} (h0 : x = (99 : Int32) → KW P i_S_numbersBehind NM 84 L st N I J R Q) (h1 : x = (100 : Int32) → KW P i_S_numbersBehind NM 80 L st N I J R Q) (h2 : x = (101 : Int32) → KW P i_S_numbersBehind NM 88 L st N I J R Q) (h3 : x = (102 : Int32) → KW P i_S_numbersBehind NM 88 L st N I J R Q) (h4 : x = (103 : Int32) → KW P i_S_numbersBehind NM 88 L st N I J R Q) (h5 : x = (104 : Int32) → KW P i_S_numbersBehind NM 84 L st N I J R Q) (h6 : x = (105 : Int32) → KW P i_S_numbersBehind NM 88 L st N I J R Q) (h7 : x = (106 : Int32) → KW P i_S_numbersBehind NM 88 L st N I J R Q) (h8 : x = (107 : Int32) → KW P i_S_numbersBehind NM 88 L st N I J R Q) (h9 : x = (108 : Int32) → KW P i_S_numbersBehind NM 88 L st N I J R Q) (h10 : x = (109 : Int32) → KW P i_S_numbersBehind NM 84 L st N I J R Q) (h11 : x = (110 : Int32) → KW P i_S_numbersBehind NM 88 L st N I J R Q) (h12 : x = (111 : Int32) → KW P i_S_numbersBehind NM 82 L st N I J R Q) (h13 : x = (112 : Int32) → KW P i_S_numbersBehind NM 88 L st N I J R Q) (h14 : x = (113 : Int32) → KW P i_S_numbersBehind NM 88 L st N I J R Q) (h15 : x = (114 : Int32) → KW P i_S_numbersBehind NM 86 L st N I J R Q) (hd : ¬ x = (99 : Int32) → ¬ x = (100 : Int32) → ¬ x = (101 : Int32) → ¬ x = (102 : Int32) → ¬ x = (103 : Int32) → ¬ x = (104 : Int32) → ¬ x = (105 : Int32) → ¬ x = (106 : Int32) → ¬ x = (107 : Int32) → ¬ x = (108 : Int32) → ¬ x = (109 : Int32) → ¬ x = (110 : Int32) → ¬ x = (111 : Int32) → ¬ x = (112 : Int32) → ¬ x = (113 : Int32) → ¬ x = (114 : Int32) → KW P i_S_numbersBehind NM 88 L st N I J R Q) : KW P i_S_numbersBehind NM 1 L (.int x :: st) N I J R Q :=
  kw_tsw x_S_numbersBehind_1 (fun j t hj hx => by
    match j, hj, hx with
    | 0, hj, hx => cases hj; exact h0 (Int32.toInt_inj.mp (hx.trans (by decide)))
    | 1, hj, hx => cases hj; exact h1 (Int32.toInt_inj.mp (hx.trans (by decide)))
    | 2, hj, hx => cases hj; exact h2 (Int32.toInt_inj.mp (hx.trans (by decide)))
    | 3, hj, hx => cases hj; exact h3 (Int32.toInt_inj.mp (hx.trans (by decide)))
    | 4, hj, hx => cases hj; exact h4 (Int32.toInt_inj.mp (hx.trans (by decide)))
    | 5, hj, hx => cases hj; exact h5 (Int32.toInt_inj.mp (hx.trans (by decide)))
    | 6, hj, hx => cases hj; exact h6 (Int32.toInt_inj.mp (hx.trans (by decide)))
    | 7, hj, hx => cases hj; exact h7 (Int32.toInt_inj.mp (hx.trans (by decide)))
    | 8, hj, hx => cases hj; exact h8 (Int32.toInt_inj.mp (hx.trans (by decide)))
    | 9, hj, hx => cases hj; exact h9 (Int32.toInt_inj.mp (hx.trans (by decide)))
    | 10, hj, hx => cases hj; exact h10 (Int32.toInt_inj.mp (hx.trans (by decide)))
    | 11, hj, hx => cases hj; exact h11 (Int32.toInt_inj.mp (hx.trans (by decide)))
    | 12, hj, hx => cases hj; exact h12 (Int32.toInt_inj.mp (hx.trans (by decide)))
    | 13, hj, hx => cases hj; exact h13 (Int32.toInt_inj.mp (hx.trans (by decide)))
    | 14, hj, hx => cases hj; exact h14 (Int32.toInt_inj.mp (hx.trans (by decide)))
    | 15, hj, hx => cases hj; exact h15 (Int32.toInt_inj.mp (hx.trans (by decide)))
    | n + 16, hj, hx => simp at hj)
    (fun h => hd (fun e => by subst e; revert h; decide) (fun e => by subst e; revert h; decide) (fun e => by subst e; revert h; decide) (fun e => by subst e; revert h; decide) (fun e => by subst e; revert h; decide) (fun e => by subst e; revert h; decide) (fun e => by subst e; revert h; decide) (fun e => by subst e; revert h; decide) (fun e => by subst e; revert h; decide) (fun e => by subst e; revert h; decide) (fun e => by subst e; revert h; decide) (fun e => by subst e; revert h; decide) (fun e => by subst e; revert h; decide) (fun e => by subst e; revert h; decide) (fun e => by subst e; revert h; decide) (fun e => by subst e; revert h; decide))
theorem x_S_numbersBehind_80 : kt_dc i_S_numbersBehind 80 (.iconst 3) 1 81 ∧ Int32.ofInt (3) = (3 : Int32) := ⟨⟨by decide +kernel, rfl⟩, by decide⟩
theorem x_S_numbersBehind_81 : kt_dc i_S_numbersBehind 81 (.ireturn) 1 82 ∧ kt_rt i_S_numbersBehind = (some .int) := ⟨⟨by decide +kernel, rfl⟩, rfl⟩
theorem x_S_numbersBehind_82 : kt_dc i_S_numbersBehind 82 (.iconst 4) 1 83 ∧ Int32.ofInt (4) = (4 : Int32) := ⟨⟨by decide +kernel, rfl⟩, by decide⟩
theorem x_S_numbersBehind_83 : kt_dc i_S_numbersBehind 83 (.ireturn) 1 84 ∧ kt_rt i_S_numbersBehind = (some .int) := ⟨⟨by decide +kernel, rfl⟩, rfl⟩
theorem x_S_numbersBehind_84 : kt_dc i_S_numbersBehind 84 (.iconst 2) 1 85 ∧ Int32.ofInt (2) = (2 : Int32) := ⟨⟨by decide +kernel, rfl⟩, by decide⟩
theorem x_S_numbersBehind_85 : kt_dc i_S_numbersBehind 85 (.ireturn) 1 86 ∧ kt_rt i_S_numbersBehind = (some .int) := ⟨⟨by decide +kernel, rfl⟩, rfl⟩
theorem x_S_numbersBehind_86 : kt_dc i_S_numbersBehind 86 (.iconst 1) 1 87 ∧ Int32.ofInt (1) = (1 : Int32) := ⟨⟨by decide +kernel, rfl⟩, by decide⟩
theorem x_S_numbersBehind_87 : kt_dc i_S_numbersBehind 87 (.ireturn) 1 88 ∧ kt_rt i_S_numbersBehind = (some .int) := ⟨⟨by decide +kernel, rfl⟩, rfl⟩
theorem x_S_numbersBehind_88 : kt_dc i_S_numbersBehind 88 (.iconst 0) 1 89 ∧ Int32.ofInt (0) = (0 : Int32) := ⟨⟨by decide +kernel, rfl⟩, by decide⟩
theorem x_S_numbersBehind_89 : kt_dc i_S_numbersBehind 89 (.ireturn) 1 90 ∧ kt_rt i_S_numbersBehind = (some .int) := ⟨⟨by decide +kernel, rfl⟩, rfl⟩
theorem x_S_digitsAt_0 : kt_dc i_S_digitsAt 0 (.aload_n 0) 1 1 := ⟨by decide +kernel, rfl⟩
theorem x_S_digitsAt_1 : kt_dc i_S_digitsAt 1 (.iload_n 1) 1 2 := ⟨by decide +kernel, rfl⟩
theorem x_S_digitsAt_2 : kt_sV i_S_digitsAt 2 i_S_isDigit 3 1 5 := ⟨84, ⟨by decide +kernel, rfl⟩, Or.inl (tw_505), j_S_isDigit, ⟨tw_507, tp_42⟩, ⟨TX3, 6, rfl⟩, by decide, rfl⟩
theorem c_S_digitsAt_2 {P : kt_P} {NM : Nat} {L : List (Option Value)} {rest : List Value} {N : Nat} {I : kt_I} {J : kt_J} {R : kt_R} {Q : Option Value → kt_I → kt_J → kt_R → Prop} {b : Nat} {x0 : Int32} (hkd : (kt_kd P N b).1 = 3) (hrest : (rest.map fun v => v.category).sum ≤ 8) (kk : KW P i_S_isDigit N 0 [some (.ref b), some (.int x0)] [] N I J R (fun v I' J' R' => KW P i_S_digitsAt NM 5 L (kt_pu v rest) N I' J' R' Q)) : KW P i_S_digitsAt NM 2 L (.int x0 :: .ref b :: rest) N I J R Q := kw_callV x_S_digitsAt_2 (As := [.int x0]) rfl rfl (Nat.le_of_ble_eq_true rfl) hrest hkd (Nat.le_refl N) (fun h => h) kk
theorem x_S_digitsAt_5 : kt_dj i_S_digitsAt 5 (.ifCond .ne) 10 8 := ⟨5, by decide +kernel, by decide, rfl⟩
theorem x_S_digitsAt_8 : kt_dc i_S_digitsAt 8 (.iconst 0) 1 9 ∧ Int32.ofInt (0) = (0 : Int32) := ⟨⟨by decide +kernel, rfl⟩, by decide⟩
theorem x_S_digitsAt_9 : kt_dc i_S_digitsAt 9 (.ireturn) 1 10 ∧ kt_rt i_S_digitsAt = (some .int) := ⟨⟨by decide +kernel, rfl⟩, rfl⟩
theorem x_S_digitsAt_10 : kt_dc i_S_digitsAt 10 (.aload_n 0) 1 11 := ⟨by decide +kernel, rfl⟩
theorem x_S_digitsAt_11 : kt_dc i_S_digitsAt 11 (.iload_n 1) 1 12 := ⟨by decide +kernel, rfl⟩
theorem x_S_digitsAt_12 : kt_dc i_S_digitsAt 12 (.iconst 1) 1 13 ∧ Int32.ofInt (1) = (1 : Int32) := ⟨⟨by decide +kernel, rfl⟩, by decide⟩
theorem x_S_digitsAt_13 : kt_dc i_S_digitsAt 13 (.iadd) 1 14 := ⟨by decide +kernel, rfl⟩
theorem x_S_digitsAt_14 : kt_sV i_S_digitsAt 14 i_S_isDigit 3 1 17 := ⟨84, ⟨by decide +kernel, rfl⟩, Or.inl (tw_505), j_S_isDigit, ⟨tw_507, tp_42⟩, ⟨TX3, 6, rfl⟩, by decide, rfl⟩
theorem c_S_digitsAt_14 {P : kt_P} {NM : Nat} {L : List (Option Value)} {rest : List Value} {N : Nat} {I : kt_I} {J : kt_J} {R : kt_R} {Q : Option Value → kt_I → kt_J → kt_R → Prop} {b : Nat} {x0 : Int32} (hkd : (kt_kd P N b).1 = 3) (hrest : (rest.map fun v => v.category).sum ≤ 8) (kk : KW P i_S_isDigit N 0 [some (.ref b), some (.int x0)] [] N I J R (fun v I' J' R' => KW P i_S_digitsAt NM 17 L (kt_pu v rest) N I' J' R' Q)) : KW P i_S_digitsAt NM 14 L (.int x0 :: .ref b :: rest) N I J R Q := kw_callV x_S_digitsAt_14 (As := [.int x0]) rfl rfl (Nat.le_of_ble_eq_true rfl) hrest hkd (Nat.le_refl N) (fun h => h) kk
theorem x_S_digitsAt_17 : kt_dj i_S_digitsAt 17 (.ifCond .eq) 24 20 := ⟨7, by decide +kernel, by decide, rfl⟩
theorem x_S_digitsAt_20 : kt_dc i_S_digitsAt 20 (.iconst 2) 1 21 ∧ Int32.ofInt (2) = (2 : Int32) := ⟨⟨by decide +kernel, rfl⟩, by decide⟩
theorem x_S_digitsAt_21 : kt_dj i_S_digitsAt 21 .goto 25 24 := ⟨4, by decide +kernel, by decide, rfl⟩
theorem x_S_digitsAt_24 : kt_dc i_S_digitsAt 24 (.iconst 1) 1 25 ∧ Int32.ofInt (1) = (1 : Int32) := ⟨⟨by decide +kernel, rfl⟩, by decide⟩
theorem x_S_digitsAt_25 : kt_dc i_S_digitsAt 25 (.ireturn) 1 26 ∧ kt_rt i_S_digitsAt = (some .int) := ⟨⟨by decide +kernel, rfl⟩, rfl⟩
theorem x_S_isDigit_0 : kt_dc i_S_isDigit 0 (.aload_n 0) 1 1 := ⟨by decide +kernel, rfl⟩
theorem x_S_isDigit_1 : kt_dc i_S_isDigit 1 (.iload_n 1) 1 2 := ⟨by decide +kernel, rfl⟩
theorem x_S_isDigit_2 : kt_sV i_S_isDigit 2 i_S_signAt 3 1 5 := ⟨47, ⟨by decide +kernel, rfl⟩, Or.inl (tw_493), j_S_signAt, ⟨tw_495, tp_40⟩, ⟨TX3, 6, rfl⟩, by decide, rfl⟩
theorem c_S_isDigit_2 {P : kt_P} {NM : Nat} {L : List (Option Value)} {rest : List Value} {N : Nat} {I : kt_I} {J : kt_J} {R : kt_R} {Q : Option Value → kt_I → kt_J → kt_R → Prop} {b : Nat} {x0 : Int32} (hkd : (kt_kd P N b).1 = 3) (hrest : (rest.map fun v => v.category).sum ≤ 8) (kk : KW P i_S_signAt N 0 [some (.ref b), some (.int x0)] [] N I J R (fun v I' J' R' => KW P i_S_isDigit NM 5 L (kt_pu v rest) N I' J' R' Q)) : KW P i_S_isDigit NM 2 L (.int x0 :: .ref b :: rest) N I J R Q := kw_callV x_S_isDigit_2 (As := [.int x0]) rfl rfl (Nat.le_of_ble_eq_true rfl) hrest hkd (Nat.le_refl N) (fun h => h) kk
theorem x_S_isDigit_5 : kt_dc i_S_isDigit 5 (.bipush 48) 2 7 ∧ (Int8.ofInt (48)).toInt32 = (48 : Int32) := ⟨⟨by decide +kernel, rfl⟩, by decide⟩
theorem x_S_isDigit_7 : kt_dj i_S_isDigit 7 (.if_icmp .lt) 24 10 := ⟨17, by decide +kernel, by decide, rfl⟩
theorem x_S_isDigit_10 : kt_dc i_S_isDigit 10 (.aload_n 0) 1 11 := ⟨by decide +kernel, rfl⟩
theorem x_S_isDigit_11 : kt_dc i_S_isDigit 11 (.iload_n 1) 1 12 := ⟨by decide +kernel, rfl⟩
theorem x_S_isDigit_12 : kt_sV i_S_isDigit 12 i_S_signAt 3 1 15 := ⟨47, ⟨by decide +kernel, rfl⟩, Or.inl (tw_493), j_S_signAt, ⟨tw_495, tp_40⟩, ⟨TX3, 6, rfl⟩, by decide, rfl⟩
theorem c_S_isDigit_12 {P : kt_P} {NM : Nat} {L : List (Option Value)} {rest : List Value} {N : Nat} {I : kt_I} {J : kt_J} {R : kt_R} {Q : Option Value → kt_I → kt_J → kt_R → Prop} {b : Nat} {x0 : Int32} (hkd : (kt_kd P N b).1 = 3) (hrest : (rest.map fun v => v.category).sum ≤ 8) (kk : KW P i_S_signAt N 0 [some (.ref b), some (.int x0)] [] N I J R (fun v I' J' R' => KW P i_S_isDigit NM 15 L (kt_pu v rest) N I' J' R' Q)) : KW P i_S_isDigit NM 12 L (.int x0 :: .ref b :: rest) N I J R Q := kw_callV x_S_isDigit_12 (As := [.int x0]) rfl rfl (Nat.le_of_ble_eq_true rfl) hrest hkd (Nat.le_refl N) (fun h => h) kk
theorem x_S_isDigit_15 : kt_dc i_S_isDigit 15 (.bipush 57) 2 17 ∧ (Int8.ofInt (57)).toInt32 = (57 : Int32) := ⟨⟨by decide +kernel, rfl⟩, by decide⟩
theorem x_S_isDigit_17 : kt_dj i_S_isDigit 17 (.if_icmp .gt) 24 20 := ⟨7, by decide +kernel, by decide, rfl⟩
theorem x_S_isDigit_20 : kt_dc i_S_isDigit 20 (.iconst 1) 1 21 ∧ Int32.ofInt (1) = (1 : Int32) := ⟨⟨by decide +kernel, rfl⟩, by decide⟩
theorem x_S_isDigit_21 : kt_dj i_S_isDigit 21 .goto 25 24 := ⟨4, by decide +kernel, by decide, rfl⟩
theorem x_S_isDigit_24 : kt_dc i_S_isDigit 24 (.iconst 0) 1 25 ∧ Int32.ofInt (0) = (0 : Int32) := ⟨⟨by decide +kernel, rfl⟩, by decide⟩
theorem x_S_isDigit_25 : kt_dc i_S_isDigit 25 (.ireturn) 1 26 ∧ kt_rt i_S_isDigit = (some .boolean) := ⟨⟨by decide +kernel, rfl⟩, rfl⟩
theorem x_S_digit_0 : kt_dc i_S_digit 0 (.aload_n 0) 1 1 := ⟨by decide +kernel, rfl⟩
theorem x_S_digit_1 : kt_dc i_S_digit 1 (.iload_n 1) 1 2 := ⟨by decide +kernel, rfl⟩
theorem x_S_digit_2 : kt_sV i_S_digit 2 i_S_signAt 3 1 5 := ⟨47, ⟨by decide +kernel, rfl⟩, Or.inl (tw_493), j_S_signAt, ⟨tw_495, tp_40⟩, ⟨TX3, 6, rfl⟩, by decide, rfl⟩
theorem c_S_digit_2 {P : kt_P} {NM : Nat} {L : List (Option Value)} {rest : List Value} {N : Nat} {I : kt_I} {J : kt_J} {R : kt_R} {Q : Option Value → kt_I → kt_J → kt_R → Prop} {b : Nat} {x0 : Int32} (hkd : (kt_kd P N b).1 = 3) (hrest : (rest.map fun v => v.category).sum ≤ 8) (kk : KW P i_S_signAt N 0 [some (.ref b), some (.int x0)] [] N I J R (fun v I' J' R' => KW P i_S_digit NM 5 L (kt_pu v rest) N I' J' R' Q)) : KW P i_S_digit NM 2 L (.int x0 :: .ref b :: rest) N I J R Q := kw_callV x_S_digit_2 (As := [.int x0]) rfl rfl (Nat.le_of_ble_eq_true rfl) hrest hkd (Nat.le_refl N) (fun h => h) kk
theorem x_S_digit_5 : kt_dc i_S_digit 5 (.bipush 48) 2 7 ∧ (Int8.ofInt (48)).toInt32 = (48 : Int32) := ⟨⟨by decide +kernel, rfl⟩, by decide⟩
theorem x_S_digit_7 : kt_dc i_S_digit 7 (.isub) 1 8 := ⟨by decide +kernel, rfl⟩
theorem x_S_digit_8 : kt_dc i_S_digit 8 (.ireturn) 1 9 ∧ kt_rt i_S_digit = (some .int) := ⟨⟨by decide +kernel, rfl⟩, rfl⟩
theorem x_S_doCommand_0 : kt_dc i_S_doCommand 0 (.iload_n 2) 1 1 := ⟨by decide +kernel, rfl⟩
theorem x_S_doCommand_1 : kt_dt i_S_doCommand 1 99 [120, 68, 171, 171, 171, 154, 171, 171, 171, 171, 137, 171, 91] 171 := ⟨170, 111, #[119, 67, 170, 170, 170, 153, 170, 170, 170, 170, 136, 170, 90], 67, by decide +kernel, by decide, by decide, by decide⟩
theorem s_S_doCommand_1 {P : kt_P} {NM : Nat} {L : List (Option Value)} {st : List Value} {N : Nat} {I : kt_I} {J : kt_J} {R : kt_R} {Q : Option Value → kt_I → kt_J → kt_R → Prop} {x : Int32} (h0 : x = (99 : Int32) → KW P i_S_doCommand NM 120 L st N I J R Q) (h1 : x = (100 : Int32) → KW P i_S_doCommand NM 68 L st N I J R Q) (h2 : x = (101 : Int32) → KW P i_S_doCommand NM 171 L st N I J R Q) (h3 : x = (102 : Int32) → KW P i_S_doCommand NM 171 L st N I J R Q) (h4 : x = (103 : Int32) → KW P i_S_doCommand NM 171 L st N I J R Q) (h5 : x = (104 : Int32) → KW P i_S_doCommand NM 154 L st N I J R Q) (h6 : x = (105 : Int32) → KW P i_S_doCommand NM 171 L st N I J R Q) (h7 : x = (106 : Int32) → KW P i_S_doCommand NM 171 L st N I J R Q) (h8 : x = (107 : Int32) → KW P i_S_doCommand NM 171 L st N I J R Q) (h9 : x = (108 : Int32) → KW P i_S_doCommand NM 171 L st N I J R Q) (h10 : x = (109 : Int32) → KW P i_S_doCommand NM 137 L st N I J R Q) (h11 : x = (110 : Int32) → KW P i_S_doCommand NM 171 L st N I J R Q) (h12 : x = (111 : Int32) → KW P i_S_doCommand NM 91 L st N I J R Q) (hd : ¬ x = (99 : Int32) → ¬ x = (100 : Int32) → ¬ x = (101 : Int32) → ¬ x = (102 : Int32) → ¬ x = (103 : Int32) → ¬ x = (104 : Int32) → ¬ x = (105 : Int32) → ¬ x = (106 : Int32) → ¬ x = (107 : Int32) → ¬ x = (108 : Int32) → ¬ x = (109 : Int32) → ¬ x = (110 : Int32) → ¬ x = (111 : Int32) → KW P i_S_doCommand NM 171 L st N I J R Q) : KW P i_S_doCommand NM 1 L (.int x :: st) N I J R Q :=
  kw_tsw x_S_doCommand_1 (fun j t hj hx => by
    match j, hj, hx with
    | 0, hj, hx => cases hj; exact h0 (Int32.toInt_inj.mp (hx.trans (by decide)))
    | 1, hj, hx => cases hj; exact h1 (Int32.toInt_inj.mp (hx.trans (by decide)))
    | 2, hj, hx => cases hj; exact h2 (Int32.toInt_inj.mp (hx.trans (by decide)))
    | 3, hj, hx => cases hj; exact h3 (Int32.toInt_inj.mp (hx.trans (by decide)))
    | 4, hj, hx => cases hj; exact h4 (Int32.toInt_inj.mp (hx.trans (by decide)))
    | 5, hj, hx => cases hj; exact h5 (Int32.toInt_inj.mp (hx.trans (by decide)))
    | 6, hj, hx => cases hj; exact h6 (Int32.toInt_inj.mp (hx.trans (by decide)))
    | 7, hj, hx => cases hj; exact h7 (Int32.toInt_inj.mp (hx.trans (by decide)))
    | 8, hj, hx => cases hj; exact h8 (Int32.toInt_inj.mp (hx.trans (by decide)))
    | 9, hj, hx => cases hj; exact h9 (Int32.toInt_inj.mp (hx.trans (by decide)))
    | 10, hj, hx => cases hj; exact h10 (Int32.toInt_inj.mp (hx.trans (by decide)))
    | 11, hj, hx => cases hj; exact h11 (Int32.toInt_inj.mp (hx.trans (by decide)))
    | 12, hj, hx => cases hj; exact h12 (Int32.toInt_inj.mp (hx.trans (by decide)))
    | n + 13, hj, hx => simp at hj)
    (fun h => hd (fun e => by subst e; revert h; decide) (fun e => by subst e; revert h; decide) (fun e => by subst e; revert h; decide) (fun e => by subst e; revert h; decide) (fun e => by subst e; revert h; decide) (fun e => by subst e; revert h; decide) (fun e => by subst e; revert h; decide) (fun e => by subst e; revert h; decide) (fun e => by subst e; revert h; decide) (fun e => by subst e; revert h; decide) (fun e => by subst e; revert h; decide) (fun e => by subst e; revert h; decide) (fun e => by subst e; revert h; decide))
theorem x_S_doCommand_68 : kt_dc i_S_doCommand 68 (.aload_n 1) 1 69 := ⟨by decide +kernel, rfl⟩
theorem x_S_doCommand_69 : kt_dc i_S_doCommand 69 (.aload_n 0) 1 70 := ⟨by decide +kernel, rfl⟩
theorem x_S_doCommand_70 : kt_sG i_S_doCommand 70 3 2 2 73 := ⟨15, RX3, TX3, 6, ⟨by decide +kernel, rfl⟩, rfl, by decide, rfl, by decide, Or.inl (tw_62)⟩
theorem x_S_doCommand_73 : kt_dc i_S_doCommand 73 (.iconst 0) 1 74 ∧ Int32.ofInt (0) = (0 : Int32) := ⟨⟨by decide +kernel, rfl⟩, by decide⟩
theorem x_S_doCommand_74 : kt_dc i_S_doCommand 74 (.iaload) 1 75 := ⟨by decide +kernel, rfl⟩
theorem x_S_doCommand_75 : kt_dc i_S_doCommand 75 (.aload_n 0) 1 76 := ⟨by decide +kernel, rfl⟩
theorem x_S_doCommand_76 : kt_sG i_S_doCommand 76 3 2 2 79 := ⟨15, RX3, TX3, 6, ⟨by decide +kernel, rfl⟩, rfl, by decide, rfl, by decide, Or.inl (tw_62)⟩
theorem x_S_doCommand_79 : kt_dc i_S_doCommand 79 (.iconst 1) 1 80 ∧ Int32.ofInt (1) = (1 : Int32) := ⟨⟨by decide +kernel, rfl⟩, by decide⟩
theorem x_S_doCommand_80 : kt_dc i_S_doCommand 80 (.iaload) 1 81 := ⟨by decide +kernel, rfl⟩
theorem x_S_doCommand_81 : kt_dc i_S_doCommand 81 (.aload_n 0) 1 82 := ⟨by decide +kernel, rfl⟩
theorem x_S_doCommand_82 : kt_sG i_S_doCommand 82 3 2 2 85 := ⟨15, RX3, TX3, 6, ⟨by decide +kernel, rfl⟩, rfl, by decide, rfl, by decide, Or.inl (tw_62)⟩
theorem x_S_doCommand_85 : kt_dc i_S_doCommand 85 (.iconst 2) 1 86 ∧ Int32.ofInt (2) = (2 : Int32) := ⟨⟨by decide +kernel, rfl⟩, by decide⟩
theorem x_S_doCommand_86 : kt_dc i_S_doCommand 86 (.iaload) 1 87 := ⟨by decide +kernel, rfl⟩
theorem x_S_doCommand_87 : kt_sV i_S_doCommand 87 i_C_makeDelivery 0 3 90 := ⟨59, ⟨by decide +kernel, rfl⟩, Or.inr ⟨"KinderTowns", tw_517⟩, j_C_makeDelivery, ⟨tw_283, tp_14⟩, ⟨TX0, 11, rfl⟩, by decide, rfl⟩
theorem c_S_doCommand_87 {P : kt_P} {NM : Nat} {L : List (Option Value)} {rest : List Value} {N : Nat} {I : kt_I} {J : kt_J} {R : kt_R} {Q : Option Value → kt_I → kt_J → kt_R → Prop} {b : Nat} {x0 : Int32} {x1 : Int32} {x2 : Int32} (hkd : (kt_kd P N b).1 = 0) (hrest : (rest.map fun v => v.category).sum ≤ 8) (kk : KW P i_C_makeDelivery N 0 [some (.ref b), some (.int x0), some (.int x1), some (.int x2)] [] N I J R (fun v I' J' R' => KW P i_S_doCommand NM 90 L (kt_pu v rest) N I' J' R' Q)) : KW P i_S_doCommand NM 87 L (.int x2 :: .int x1 :: .int x0 :: .ref b :: rest) N I J R Q := kw_callV x_S_doCommand_87 (As := [.int x0, .int x1, .int x2]) rfl rfl (Nat.le_of_ble_eq_true rfl) hrest hkd (Nat.le_refl N) (fun h => h) kk
theorem x_S_doCommand_90 : kt_dc i_S_doCommand 90 (.ireturn) 1 91 ∧ kt_rt i_S_doCommand = (some .int) := ⟨⟨by decide +kernel, rfl⟩, rfl⟩
theorem x_S_doCommand_91 : kt_dc i_S_doCommand 91 (.aload_n 1) 1 92 := ⟨by decide +kernel, rfl⟩
theorem x_S_doCommand_92 : kt_dc i_S_doCommand 92 (.aload_n 0) 1 93 := ⟨by decide +kernel, rfl⟩
theorem x_S_doCommand_93 : kt_sG i_S_doCommand 93 3 2 2 96 := ⟨15, RX3, TX3, 6, ⟨by decide +kernel, rfl⟩, rfl, by decide, rfl, by decide, Or.inl (tw_62)⟩
theorem x_S_doCommand_96 : kt_dc i_S_doCommand 96 (.iconst 0) 1 97 ∧ Int32.ofInt (0) = (0 : Int32) := ⟨⟨by decide +kernel, rfl⟩, by decide⟩
theorem x_S_doCommand_97 : kt_dc i_S_doCommand 97 (.iaload) 1 98 := ⟨by decide +kernel, rfl⟩
theorem x_S_doCommand_98 : kt_dc i_S_doCommand 98 (.aload_n 0) 1 99 := ⟨by decide +kernel, rfl⟩
theorem x_S_doCommand_99 : kt_sG i_S_doCommand 99 3 2 2 102 := ⟨15, RX3, TX3, 6, ⟨by decide +kernel, rfl⟩, rfl, by decide, rfl, by decide, Or.inl (tw_62)⟩
theorem x_S_doCommand_102 : kt_dc i_S_doCommand 102 (.iconst 1) 1 103 ∧ Int32.ofInt (1) = (1 : Int32) := ⟨⟨by decide +kernel, rfl⟩, by decide⟩
theorem x_S_doCommand_103 : kt_dc i_S_doCommand 103 (.iaload) 1 104 := ⟨by decide +kernel, rfl⟩
theorem x_S_doCommand_104 : kt_dc i_S_doCommand 104 (.aload_n 0) 1 105 := ⟨by decide +kernel, rfl⟩
theorem x_S_doCommand_105 : kt_sG i_S_doCommand 105 3 2 2 108 := ⟨15, RX3, TX3, 6, ⟨by decide +kernel, rfl⟩, rfl, by decide, rfl, by decide, Or.inl (tw_62)⟩
theorem x_S_doCommand_108 : kt_dc i_S_doCommand 108 (.iconst 2) 1 109 ∧ Int32.ofInt (2) = (2 : Int32) := ⟨⟨by decide +kernel, rfl⟩, by decide⟩
theorem x_S_doCommand_109 : kt_dc i_S_doCommand 109 (.iaload) 1 110 := ⟨by decide +kernel, rfl⟩
theorem x_S_doCommand_110 : kt_dc i_S_doCommand 110 (.aload_n 0) 1 111 := ⟨by decide +kernel, rfl⟩
theorem x_S_doCommand_111 : kt_sG i_S_doCommand 111 3 2 2 114 := ⟨15, RX3, TX3, 6, ⟨by decide +kernel, rfl⟩, rfl, by decide, rfl, by decide, Or.inl (tw_62)⟩
theorem x_S_doCommand_114 : kt_dc i_S_doCommand 114 (.iconst 3) 1 115 ∧ Int32.ofInt (3) = (3 : Int32) := ⟨⟨by decide +kernel, rfl⟩, by decide⟩
theorem x_S_doCommand_115 : kt_dc i_S_doCommand 115 (.iaload) 1 116 := ⟨by decide +kernel, rfl⟩
theorem x_S_doCommand_116 : kt_sV i_S_doCommand 116 i_C_makeOrder 0 4 119 := ⟨63, ⟨by decide +kernel, rfl⟩, Or.inr ⟨"KinderTowns", tw_518⟩, j_C_makeOrder, ⟨tw_304, tp_18⟩, ⟨TX0, 11, rfl⟩, by decide, rfl⟩
theorem c_S_doCommand_116 {P : kt_P} {NM : Nat} {L : List (Option Value)} {rest : List Value} {N : Nat} {I : kt_I} {J : kt_J} {R : kt_R} {Q : Option Value → kt_I → kt_J → kt_R → Prop} {b : Nat} {x0 : Int32} {x1 : Int32} {x2 : Int32} {x3 : Int32} (hkd : (kt_kd P N b).1 = 0) (hrest : (rest.map fun v => v.category).sum ≤ 8) (kk : KW P i_C_makeOrder N 0 [some (.ref b), some (.int x0), some (.int x1), some (.int x2), some (.int x3), none] [] N I J R (fun v I' J' R' => KW P i_S_doCommand NM 119 L (kt_pu v rest) N I' J' R' Q)) : KW P i_S_doCommand NM 116 L (.int x3 :: .int x2 :: .int x1 :: .int x0 :: .ref b :: rest) N I J R Q := kw_callV x_S_doCommand_116 (As := [.int x0, .int x1, .int x2, .int x3]) rfl rfl (Nat.le_of_ble_eq_true rfl) hrest hkd (Nat.le_refl N) (fun h => h) kk
theorem x_S_doCommand_119 : kt_dc i_S_doCommand 119 (.ireturn) 1 120 ∧ kt_rt i_S_doCommand = (some .int) := ⟨⟨by decide +kernel, rfl⟩, rfl⟩
theorem x_S_doCommand_120 : kt_dc i_S_doCommand 120 (.aload_n 1) 1 121 := ⟨by decide +kernel, rfl⟩
theorem x_S_doCommand_121 : kt_dc i_S_doCommand 121 (.aload_n 0) 1 122 := ⟨by decide +kernel, rfl⟩
theorem x_S_doCommand_122 : kt_sG i_S_doCommand 122 3 2 2 125 := ⟨15, RX3, TX3, 6, ⟨by decide +kernel, rfl⟩, rfl, by decide, rfl, by decide, Or.inl (tw_62)⟩
theorem x_S_doCommand_125 : kt_dc i_S_doCommand 125 (.iconst 0) 1 126 ∧ Int32.ofInt (0) = (0 : Int32) := ⟨⟨by decide +kernel, rfl⟩, by decide⟩
theorem x_S_doCommand_126 : kt_dc i_S_doCommand 126 (.iaload) 1 127 := ⟨by decide +kernel, rfl⟩
theorem x_S_doCommand_127 : kt_dc i_S_doCommand 127 (.aload_n 0) 1 128 := ⟨by decide +kernel, rfl⟩
theorem x_S_doCommand_128 : kt_sG i_S_doCommand 128 3 2 2 131 := ⟨15, RX3, TX3, 6, ⟨by decide +kernel, rfl⟩, rfl, by decide, rfl, by decide, Or.inl (tw_62)⟩
theorem x_S_doCommand_131 : kt_dc i_S_doCommand 131 (.iconst 1) 1 132 ∧ Int32.ofInt (1) = (1 : Int32) := ⟨⟨by decide +kernel, rfl⟩, by decide⟩
theorem x_S_doCommand_132 : kt_dc i_S_doCommand 132 (.iaload) 1 133 := ⟨by decide +kernel, rfl⟩
theorem x_S_doCommand_133 : kt_sV i_S_doCommand 133 i_C_makeCancellation 0 2 136 := ⟨67, ⟨by decide +kernel, rfl⟩, Or.inr ⟨"KinderTowns", tw_519⟩, j_C_makeCancellation, ⟨tw_312, tp_19⟩, ⟨TX0, 11, rfl⟩, by decide, rfl⟩
theorem c_S_doCommand_133 {P : kt_P} {NM : Nat} {L : List (Option Value)} {rest : List Value} {N : Nat} {I : kt_I} {J : kt_J} {R : kt_R} {Q : Option Value → kt_I → kt_J → kt_R → Prop} {b : Nat} {x0 : Int32} {x1 : Int32} (hkd : (kt_kd P N b).1 = 0) (hrest : (rest.map fun v => v.category).sum ≤ 8) (kk : KW P i_C_makeCancellation N 0 [some (.ref b), some (.int x0), some (.int x1), none] [] N I J R (fun v I' J' R' => KW P i_S_doCommand NM 136 L (kt_pu v rest) N I' J' R' Q)) : KW P i_S_doCommand NM 133 L (.int x1 :: .int x0 :: .ref b :: rest) N I J R Q := kw_callV x_S_doCommand_133 (As := [.int x0, .int x1]) rfl rfl (Nat.le_of_ble_eq_true rfl) hrest hkd (Nat.le_refl N) (fun h => h) kk
theorem x_S_doCommand_136 : kt_dc i_S_doCommand 136 (.ireturn) 1 137 ∧ kt_rt i_S_doCommand = (some .int) := ⟨⟨by decide +kernel, rfl⟩, rfl⟩
theorem x_S_doCommand_137 : kt_dc i_S_doCommand 137 (.aload_n 1) 1 138 := ⟨by decide +kernel, rfl⟩
theorem x_S_doCommand_138 : kt_dc i_S_doCommand 138 (.aload_n 0) 1 139 := ⟨by decide +kernel, rfl⟩
theorem x_S_doCommand_139 : kt_sG i_S_doCommand 139 3 2 2 142 := ⟨15, RX3, TX3, 6, ⟨by decide +kernel, rfl⟩, rfl, by decide, rfl, by decide, Or.inl (tw_62)⟩
theorem x_S_doCommand_142 : kt_dc i_S_doCommand 142 (.iconst 0) 1 143 ∧ Int32.ofInt (0) = (0 : Int32) := ⟨⟨by decide +kernel, rfl⟩, by decide⟩
theorem x_S_doCommand_143 : kt_dc i_S_doCommand 143 (.iaload) 1 144 := ⟨by decide +kernel, rfl⟩
theorem x_S_doCommand_144 : kt_dc i_S_doCommand 144 (.aload_n 0) 1 145 := ⟨by decide +kernel, rfl⟩
theorem x_S_doCommand_145 : kt_sG i_S_doCommand 145 3 2 2 148 := ⟨15, RX3, TX3, 6, ⟨by decide +kernel, rfl⟩, rfl, by decide, rfl, by decide, Or.inl (tw_62)⟩
theorem x_S_doCommand_148 : kt_dc i_S_doCommand 148 (.iconst 1) 1 149 ∧ Int32.ofInt (1) = (1 : Int32) := ⟨⟨by decide +kernel, rfl⟩, by decide⟩
theorem x_S_doCommand_149 : kt_dc i_S_doCommand 149 (.iaload) 1 150 := ⟨by decide +kernel, rfl⟩
theorem x_S_doCommand_150 : kt_sV i_S_doCommand 150 i_C_letMeet 0 2 153 := ⟨71, ⟨by decide +kernel, rfl⟩, Or.inr ⟨"KinderTowns", tw_520⟩, j_C_letMeet, ⟨tw_326, tp_21⟩, ⟨TX0, 11, rfl⟩, by decide, rfl⟩
theorem c_S_doCommand_150 {P : kt_P} {NM : Nat} {L : List (Option Value)} {rest : List Value} {N : Nat} {I : kt_I} {J : kt_J} {R : kt_R} {Q : Option Value → kt_I → kt_J → kt_R → Prop} {b : Nat} {x0 : Int32} {x1 : Int32} (hkd : (kt_kd P N b).1 = 0) (hrest : (rest.map fun v => v.category).sum ≤ 8) (kk : KW P i_C_letMeet N 0 [some (.ref b), some (.int x0), some (.int x1), none] [] N I J R (fun v I' J' R' => KW P i_S_doCommand NM 153 L (kt_pu v rest) N I' J' R' Q)) : KW P i_S_doCommand NM 150 L (.int x1 :: .int x0 :: .ref b :: rest) N I J R Q := kw_callV x_S_doCommand_150 (As := [.int x0, .int x1]) rfl rfl (Nat.le_of_ble_eq_true rfl) hrest hkd (Nat.le_refl N) (fun h => h) kk
theorem x_S_doCommand_153 : kt_dc i_S_doCommand 153 (.ireturn) 1 154 ∧ kt_rt i_S_doCommand = (some .int) := ⟨⟨by decide +kernel, rfl⟩, rfl⟩
theorem x_S_doCommand_154 : kt_dc i_S_doCommand 154 (.aload_n 1) 1 155 := ⟨by decide +kernel, rfl⟩
theorem x_S_doCommand_155 : kt_dc i_S_doCommand 155 (.aload_n 0) 1 156 := ⟨by decide +kernel, rfl⟩
theorem x_S_doCommand_156 : kt_sG i_S_doCommand 156 3 2 2 159 := ⟨15, RX3, TX3, 6, ⟨by decide +kernel, rfl⟩, rfl, by decide, rfl, by decide, Or.inl (tw_62)⟩
theorem x_S_doCommand_159 : kt_dc i_S_doCommand 159 (.iconst 0) 1 160 ∧ Int32.ofInt (0) = (0 : Int32) := ⟨⟨by decide +kernel, rfl⟩, by decide⟩
theorem x_S_doCommand_160 : kt_dc i_S_doCommand 160 (.iaload) 1 161 := ⟨by decide +kernel, rfl⟩
theorem x_S_doCommand_161 : kt_dc i_S_doCommand 161 (.aload_n 0) 1 162 := ⟨by decide +kernel, rfl⟩
theorem x_S_doCommand_162 : kt_sG i_S_doCommand 162 3 2 2 165 := ⟨15, RX3, TX3, 6, ⟨by decide +kernel, rfl⟩, rfl, by decide, rfl, by decide, Or.inl (tw_62)⟩
theorem x_S_doCommand_165 : kt_dc i_S_doCommand 165 (.iconst 1) 1 166 ∧ Int32.ofInt (1) = (1 : Int32) := ⟨⟨by decide +kernel, rfl⟩, by decide⟩
theorem x_S_doCommand_166 : kt_dc i_S_doCommand 166 (.iaload) 1 167 := ⟨by decide +kernel, rfl⟩
theorem x_S_doCommand_167 : kt_sV i_S_doCommand 167 i_C_letHear 0 2 170 := ⟨74, ⟨by decide +kernel, rfl⟩, Or.inr ⟨"KinderTowns", tw_521⟩, j_C_letHear, ⟨tw_330, tp_22⟩, ⟨TX0, 11, rfl⟩, by decide, rfl⟩
theorem c_S_doCommand_167 {P : kt_P} {NM : Nat} {L : List (Option Value)} {rest : List Value} {N : Nat} {I : kt_I} {J : kt_J} {R : kt_R} {Q : Option Value → kt_I → kt_J → kt_R → Prop} {b : Nat} {x0 : Int32} {x1 : Int32} (hkd : (kt_kd P N b).1 = 0) (hrest : (rest.map fun v => v.category).sum ≤ 8) (kk : KW P i_C_letHear N 0 [some (.ref b), some (.int x0), some (.int x1), none] [] N I J R (fun v I' J' R' => KW P i_S_doCommand NM 170 L (kt_pu v rest) N I' J' R' Q)) : KW P i_S_doCommand NM 167 L (.int x1 :: .int x0 :: .ref b :: rest) N I J R Q := kw_callV x_S_doCommand_167 (As := [.int x0, .int x1]) rfl rfl (Nat.le_of_ble_eq_true rfl) hrest hkd (Nat.le_refl N) (fun h => h) kk
theorem x_S_doCommand_170 : kt_dc i_S_doCommand 170 (.ireturn) 1 171 ∧ kt_rt i_S_doCommand = (some .int) := ⟨⟨by decide +kernel, rfl⟩, rfl⟩
theorem x_S_doCommand_171 : kt_dc i_S_doCommand 171 (.aload_n 1) 1 172 := ⟨by decide +kernel, rfl⟩
theorem x_S_doCommand_172 : kt_dc i_S_doCommand 172 (.aload_n 0) 1 173 := ⟨by decide +kernel, rfl⟩
theorem x_S_doCommand_173 : kt_sG i_S_doCommand 173 3 2 2 176 := ⟨15, RX3, TX3, 6, ⟨by decide +kernel, rfl⟩, rfl, by decide, rfl, by decide, Or.inl (tw_62)⟩
theorem x_S_doCommand_176 : kt_dc i_S_doCommand 176 (.iconst 0) 1 177 ∧ Int32.ofInt (0) = (0 : Int32) := ⟨⟨by decide +kernel, rfl⟩, by decide⟩
theorem x_S_doCommand_177 : kt_dc i_S_doCommand 177 (.iaload) 1 178 := ⟨by decide +kernel, rfl⟩
theorem x_S_doCommand_178 : kt_sV i_S_doCommand 178 i_C_setRule 0 1 181 := ⟨77, ⟨by decide +kernel, rfl⟩, Or.inr ⟨"KinderTowns", tw_522⟩, j_C_setRule, ⟨tw_357, tp_24⟩, ⟨TX0, 11, rfl⟩, by decide, rfl⟩
theorem c_S_doCommand_178 {P : kt_P} {NM : Nat} {L : List (Option Value)} {rest : List Value} {N : Nat} {I : kt_I} {J : kt_J} {R : kt_R} {Q : Option Value → kt_I → kt_J → kt_R → Prop} {b : Nat} {x0 : Int32} (hkd : (kt_kd P N b).1 = 0) (hrest : (rest.map fun v => v.category).sum ≤ 8) (kk : KW P i_C_setRule N 0 [some (.ref b), some (.int x0), none] [] N I J R (fun v I' J' R' => KW P i_S_doCommand NM 181 L (kt_pu v rest) N I' J' R' Q)) : KW P i_S_doCommand NM 178 L (.int x0 :: .ref b :: rest) N I J R Q := kw_callV x_S_doCommand_178 (As := [.int x0]) rfl rfl (Nat.le_of_ble_eq_true rfl) hrest hkd (Nat.le_refl N) (fun h => h) kk
theorem x_S_doCommand_181 : kt_dc i_S_doCommand 181 (.ireturn) 1 182 ∧ kt_rt i_S_doCommand = (some .int) := ⟨⟨by decide +kernel, rfl⟩, rfl⟩
theorem x_S_reasonOf_0 : kt_dc i_S_reasonOf 0 (.iload_n 0) 1 1 := ⟨by decide +kernel, rfl⟩
theorem x_S_reasonOf_1 : kt_dj i_S_reasonOf 1 (.ifCond .lt) 6 4 := ⟨5, by decide +kernel, by decide, rfl⟩
theorem x_S_reasonOf_4 : kt_dc i_S_reasonOf 4 (.iconst 0) 1 5 ∧ Int32.ofInt (0) = (0 : Int32) := ⟨⟨by decide +kernel, rfl⟩, by decide⟩
theorem x_S_reasonOf_5 : kt_dc i_S_reasonOf 5 (.ireturn) 1 6 ∧ kt_rt i_S_reasonOf = (some .int) := ⟨⟨by decide +kernel, rfl⟩, rfl⟩
theorem x_S_reasonOf_6 : kt_dc i_S_reasonOf 6 (.iload_n 0) 1 7 := ⟨by decide +kernel, rfl⟩
theorem x_S_reasonOf_7 : kt_dc i_S_reasonOf 7 (.iconst (-1)) 1 8 ∧ Int32.ofInt (-1) = (-1 : Int32) := ⟨⟨by decide +kernel, rfl⟩, by decide⟩
theorem x_S_reasonOf_8 : kt_dj i_S_reasonOf 8 (.if_icmp .ne) 15 11 := ⟨7, by decide +kernel, by decide, rfl⟩
theorem x_S_reasonOf_11 : kt_dc i_S_reasonOf 11 (.iconst 2) 1 12 ∧ Int32.ofInt (2) = (2 : Int32) := ⟨⟨by decide +kernel, rfl⟩, by decide⟩
theorem x_S_reasonOf_12 : kt_dj i_S_reasonOf 12 .goto 16 15 := ⟨4, by decide +kernel, by decide, rfl⟩
theorem x_S_reasonOf_15 : kt_dc i_S_reasonOf 15 (.iconst 3) 1 16 ∧ Int32.ofInt (3) = (3 : Int32) := ⟨⟨by decide +kernel, rfl⟩, by decide⟩
theorem x_S_reasonOf_16 : kt_dc i_S_reasonOf 16 (.ireturn) 1 17 ∧ kt_rt i_S_reasonOf = (some .int) := ⟨⟨by decide +kernel, rfl⟩, rfl⟩
end
