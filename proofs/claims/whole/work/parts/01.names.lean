def lw_okq (q : MethodName × Nat) : Prop := (q.1.cls ≠ "java/lang/invoke/MethodHandle" ∧ q.1.cls ≠ "java/lang/invoke/VarHandle") ∧ Cond.instantiable q.1.cls q.2 ∈ tables_1 ∧ Cond.privateMethod q.1 ∈ tables_1 ∧ Cond.instanceMethod q.1 ∈ tables_1
theorem lw_p0 : lw_okq (⟨"WeaveHall$Weaver", "firstAct", "()V"⟩, 16) := ⟨⟨by decide +kernel, by decide +kernel⟩, List.mem_of_getElem? (i := 83) (by decide +kernel), List.mem_of_getElem? (i := 242) (by decide +kernel), List.mem_of_getElem? (i := 243) (by decide +kernel)⟩
theorem lw_p1 : lw_okq (⟨"WeaveHall$Weaver", "sourceGoesOn", "()V"⟩, 16) := ⟨⟨by decide +kernel, by decide +kernel⟩, List.mem_of_getElem? (i := 83) (by decide +kernel), List.mem_of_getElem? (i := 246) (by decide +kernel), List.mem_of_getElem? (i := 247) (by decide +kernel)⟩
theorem lw_p2 : lw_okq (⟨"WeaveHall$Weaver", "toWrite", "(IJ)V"⟩, 16) := ⟨⟨by decide +kernel, by decide +kernel⟩, List.mem_of_getElem? (i := 83) (by decide +kernel), List.mem_of_getElem? (i := 254) (by decide +kernel), List.mem_of_getElem? (i := 255) (by decide +kernel)⟩
theorem lw_p3 : lw_okq (⟨"WeaveHall$Weaver", "tearGoesOn", "()V"⟩, 16) := ⟨⟨by decide +kernel, by decide +kernel⟩, List.mem_of_getElem? (i := 83) (by decide +kernel), List.mem_of_getElem? (i := 258) (by decide +kernel), List.mem_of_getElem? (i := 259) (by decide +kernel)⟩
theorem lw_p4 : lw_okq (⟨"WeaveHall$Weaver", "toFail", "(I)V"⟩, 16) := ⟨⟨by decide +kernel, by decide +kernel⟩, List.mem_of_getElem? (i := 83) (by decide +kernel), List.mem_of_getElem? (i := 262) (by decide +kernel), List.mem_of_getElem? (i := 263) (by decide +kernel)⟩
theorem lw_p5 : lw_okq (⟨"WeaveHall$Weaver", "toRead", "(I)V"⟩, 16) := ⟨⟨by decide +kernel, by decide +kernel⟩, List.mem_of_getElem? (i := 83) (by decide +kernel), List.mem_of_getElem? (i := 266) (by decide +kernel), List.mem_of_getElem? (i := 267) (by decide +kernel)⟩
theorem lw_p6 : lw_okq (⟨"WeaveHall$Weaver", "askScript", "()V"⟩, 16) := ⟨⟨by decide +kernel, by decide +kernel⟩, List.mem_of_getElem? (i := 83) (by decide +kernel), List.mem_of_getElem? (i := 270) (by decide +kernel), List.mem_of_getElem? (i := 271) (by decide +kernel)⟩
theorem lw_p7 : lw_okq (⟨"WeaveHall$Script", "goTo", "(I)V"⟩, 6) := ⟨⟨by decide +kernel, by decide +kernel⟩, List.mem_of_getElem? (i := 127) (by decide +kernel), List.mem_of_getElem? (i := 278) (by decide +kernel), List.mem_of_getElem? (i := 279) (by decide +kernel)⟩
theorem lw_p8 : lw_okq (⟨"WeaveHall$Script", "reckon", "(III)V"⟩, 6) := ⟨⟨by decide +kernel, by decide +kernel⟩, List.mem_of_getElem? (i := 127) (by decide +kernel), List.mem_of_getElem? (i := 282) (by decide +kernel), List.mem_of_getElem? (i := 283) (by decide +kernel)⟩
theorem lw_p9 : lw_okq (⟨"WeaveHall", "weaverAt", "(I)LWeaveHall$Weaver;"⟩, 10) := ⟨⟨by decide +kernel, by decide +kernel⟩, List.mem_of_getElem? (i := 13) (by decide +kernel), List.mem_of_getElem? (i := 302) (by decide +kernel), List.mem_of_getElem? (i := 303) (by decide +kernel)⟩
theorem lw_p10 : lw_okq (⟨"WeaveHall", "bandAt", "(I)LWeaveHall$Band;"⟩, 10) := ⟨⟨by decide +kernel, by decide +kernel⟩, List.mem_of_getElem? (i := 13) (by decide +kernel), List.mem_of_getElem? (i := 420) (by decide +kernel), List.mem_of_getElem? (i := 421) (by decide +kernel)⟩
theorem lw_p11 : lw_okq (⟨"WeaveHall", "forgetRun", "()V"⟩, 10) := ⟨⟨by decide +kernel, by decide +kernel⟩, List.mem_of_getElem? (i := 13) (by decide +kernel), List.mem_of_getElem? (i := 429) (by decide +kernel), List.mem_of_getElem? (i := 430) (by decide +kernel)⟩
theorem lw_p12 : lw_okq (⟨"WeaveHall", "restartAll", "()V"⟩, 10) := ⟨⟨by decide +kernel, by decide +kernel⟩, List.mem_of_getElem? (i := 13) (by decide +kernel), List.mem_of_getElem? (i := 438) (by decide +kernel), List.mem_of_getElem? (i := 439) (by decide +kernel)⟩
theorem lw_p13 : lw_okq (⟨"WeaveHall", "doActs", "(III)I"⟩, 10) := ⟨⟨by decide +kernel, by decide +kernel⟩, List.mem_of_getElem? (i := 13) (by decide +kernel), List.mem_of_getElem? (i := 443) (by decide +kernel), List.mem_of_getElem? (i := 444) (by decide +kernel)⟩
theorem lw_p14 : lw_okq (⟨"WeaveHall", "firstAble", "(II)I"⟩, 10) := ⟨⟨by decide +kernel, by decide +kernel⟩, List.mem_of_getElem? (i := 13) (by decide +kernel), List.mem_of_getElem? (i := 448) (by decide +kernel), List.mem_of_getElem? (i := 449) (by decide +kernel)⟩
theorem lw_p15 : lw_okq (⟨"WeaveHall", "widenTightest", "()Z"⟩, 10) := ⟨⟨by decide +kernel, by decide +kernel⟩, List.mem_of_getElem? (i := 13) (by decide +kernel), List.mem_of_getElem? (i := 468) (by decide +kernel), List.mem_of_getElem? (i := 469) (by decide +kernel)⟩
def lw_privs_1 : List (MethodName × Nat) := [(⟨"WeaveHall$Weaver", "firstAct", "()V"⟩, 16), (⟨"WeaveHall$Weaver", "sourceGoesOn", "()V"⟩, 16), (⟨"WeaveHall$Weaver", "toWrite", "(IJ)V"⟩, 16), (⟨"WeaveHall$Weaver", "tearGoesOn", "()V"⟩, 16), (⟨"WeaveHall$Weaver", "toFail", "(I)V"⟩, 16), (⟨"WeaveHall$Weaver", "toRead", "(I)V"⟩, 16), (⟨"WeaveHall$Weaver", "askScript", "()V"⟩, 16), (⟨"WeaveHall$Script", "goTo", "(I)V"⟩, 6), (⟨"WeaveHall$Script", "reckon", "(III)V"⟩, 6), (⟨"WeaveHall", "weaverAt", "(I)LWeaveHall$Weaver;"⟩, 10), (⟨"WeaveHall", "bandAt", "(I)LWeaveHall$Band;"⟩, 10), (⟨"WeaveHall", "forgetRun", "()V"⟩, 10), (⟨"WeaveHall", "restartAll", "()V"⟩, 10), (⟨"WeaveHall", "doActs", "(III)I"⟩, 10), (⟨"WeaveHall", "firstAble", "(II)I"⟩, 10), (⟨"WeaveHall", "widenTightest", "()Z"⟩, 10)]
theorem lw_r1 : ∀ q ∈ lw_privs_1, lw_okq q := List.forall_mem_cons.mpr ⟨lw_p0, List.forall_mem_cons.mpr ⟨lw_p1, List.forall_mem_cons.mpr ⟨lw_p2, List.forall_mem_cons.mpr ⟨lw_p3, List.forall_mem_cons.mpr ⟨lw_p4, List.forall_mem_cons.mpr ⟨lw_p5, List.forall_mem_cons.mpr ⟨lw_p6, List.forall_mem_cons.mpr ⟨lw_p7, List.forall_mem_cons.mpr ⟨lw_p8, List.forall_mem_cons.mpr ⟨lw_p9, List.forall_mem_cons.mpr ⟨lw_p10, List.forall_mem_cons.mpr ⟨lw_p11, List.forall_mem_cons.mpr ⟨lw_p12, List.forall_mem_cons.mpr ⟨lw_p13, List.forall_mem_cons.mpr ⟨lw_p14, List.forall_mem_cons.mpr ⟨lw_p15, fun _ h => absurd h List.not_mem_nil⟩⟩⟩⟩⟩⟩⟩⟩⟩⟩⟩⟩⟩⟩⟩⟩
theorem lw_p16 : lw_okq (⟨"WeaveHall", "tightest", "()LWeaveHall$Band;"⟩, 10) := ⟨⟨by decide +kernel, by decide +kernel⟩, List.mem_of_getElem? (i := 13) (by decide +kernel), List.mem_of_getElem? (i := 472) (by decide +kernel), List.mem_of_getElem? (i := 473) (by decide +kernel)⟩
theorem lw_p17 : lw_okq (⟨"WeaveHall", "stillness", "()I"⟩, 10) := ⟨⟨by decide +kernel, by decide +kernel⟩, List.mem_of_getElem? (i := 13) (by decide +kernel), List.mem_of_getElem? (i := 485) (by decide +kernel), List.mem_of_getElem? (i := 486) (by decide +kernel)⟩
theorem lw_p18 : lw_okq (⟨"WeaveHall$Weaver", "readOff", "(LWeaveHall$Band;)V"⟩, 16) := ⟨⟨by decide +kernel, by decide +kernel⟩, List.mem_of_getElem? (i := 83) (by decide +kernel), List.mem_of_getElem? (i := 493) (by decide +kernel), List.mem_of_getElem? (i := 494) (by decide +kernel)⟩
theorem lw_p19 : lw_okq (⟨"WeaveHall$Weaver", "afterPattern", "(J)V"⟩, 16) := ⟨⟨by decide +kernel, by decide +kernel⟩, List.mem_of_getElem? (i := 83) (by decide +kernel), List.mem_of_getElem? (i := 501) (by decide +kernel), List.mem_of_getElem? (i := 502) (by decide +kernel)⟩
theorem lw_p20 : lw_okq (⟨"WeaveHall$Weaver", "repeatGoesOn", "(J)V"⟩, 16) := ⟨⟨by decide +kernel, by decide +kernel⟩, List.mem_of_getElem? (i := 83) (by decide +kernel), List.mem_of_getElem? (i := 505) (by decide +kernel), List.mem_of_getElem? (i := 506) (by decide +kernel)⟩
theorem lw_p21 : lw_okq (⟨"WeaveHall$Weaver", "mergeGoesOn", "()V"⟩, 16) := ⟨⟨by decide +kernel, by decide +kernel⟩, List.mem_of_getElem? (i := 83) (by decide +kernel), List.mem_of_getElem? (i := 513) (by decide +kernel), List.mem_of_getElem? (i := 514) (by decide +kernel)⟩
theorem lw_p22 : lw_okq (⟨"WeaveHall$Weaver", "sumGoesOn", "(J)V"⟩, 16) := ⟨⟨by decide +kernel, by decide +kernel⟩, List.mem_of_getElem? (i := 83) (by decide +kernel), List.mem_of_getElem? (i := 529) (by decide +kernel), List.mem_of_getElem? (i := 530) (by decide +kernel)⟩
theorem lw_p23 : lw_okq (⟨"WeaveHall$Weaver", "selectGoesOn", "(J)V"⟩, 16) := ⟨⟨by decide +kernel, by decide +kernel⟩, List.mem_of_getElem? (i := 83) (by decide +kernel), List.mem_of_getElem? (i := 533) (by decide +kernel), List.mem_of_getElem? (i := 534) (by decide +kernel)⟩
theorem lw_p24 : lw_okq (⟨"WeaveHall$Weaver", "sortGoesOn", "(Z)V"⟩, 16) := ⟨⟨by decide +kernel, by decide +kernel⟩, List.mem_of_getElem? (i := 83) (by decide +kernel), List.mem_of_getElem? (i := 542) (by decide +kernel), List.mem_of_getElem? (i := 543) (by decide +kernel)⟩
theorem lw_p25 : lw_okq (⟨"WeaveHall$Weaver", "afterEnd", "()V"⟩, 16) := ⟨⟨by decide +kernel, by decide +kernel⟩, List.mem_of_getElem? (i := 83) (by decide +kernel), List.mem_of_getElem? (i := 567) (by decide +kernel), List.mem_of_getElem? (i := 568) (by decide +kernel)⟩
theorem lw_p26 : lw_okq (⟨"WeaveHall$Weaver", "writeTo", "(LWeaveHall$Band;)V"⟩, 16) := ⟨⟨by decide +kernel, by decide +kernel⟩, List.mem_of_getElem? (i := 83) (by decide +kernel), List.mem_of_getElem? (i := 575) (by decide +kernel), List.mem_of_getElem? (i := 576) (by decide +kernel)⟩
theorem lw_p27 : lw_okq (⟨"WeaveHall$Band", "lay", "(J)V"⟩, 12) := ⟨⟨by decide +kernel, by decide +kernel⟩, List.mem_of_getElem? (i := 347) (by decide +kernel), List.mem_of_getElem? (i := 585) (by decide +kernel), List.mem_of_getElem? (i := 586) (by decide +kernel)⟩
theorem lw_p28 : lw_okq (⟨"WeaveHall$Band", "growRing", "()V"⟩, 12) := ⟨⟨by decide +kernel, by decide +kernel⟩, List.mem_of_getElem? (i := 347) (by decide +kernel), List.mem_of_getElem? (i := 589) (by decide +kernel), List.mem_of_getElem? (i := 590) (by decide +kernel)⟩
theorem lw_p29 : lw_okq (⟨"WeaveHall$Weaver", "afterWriting", "()V"⟩, 16) := ⟨⟨by decide +kernel, by decide +kernel⟩, List.mem_of_getElem? (i := 83) (by decide +kernel), List.mem_of_getElem? (i := 597) (by decide +kernel), List.mem_of_getElem? (i := 598) (by decide +kernel)⟩
theorem lw_p30 : lw_okq (⟨"WeaveHall$Weaver", "copyGoesOn", "()V"⟩, 16) := ⟨⟨by decide +kernel, by decide +kernel⟩, List.mem_of_getElem? (i := 83) (by decide +kernel), List.mem_of_getElem? (i := 601) (by decide +kernel), List.mem_of_getElem? (i := 602) (by decide +kernel)⟩
theorem lw_p31 : lw_okq (⟨"WeaveHall", "isFixed", "()Z"⟩, 10) := ⟨⟨by decide +kernel, by decide +kernel⟩, List.mem_of_getElem? (i := 13) (by decide +kernel), List.mem_of_getElem? (i := 655) (by decide +kernel), List.mem_of_getElem? (i := 656) (by decide +kernel)⟩
def lw_privs_2 : List (MethodName × Nat) := [(⟨"WeaveHall", "tightest", "()LWeaveHall$Band;"⟩, 10), (⟨"WeaveHall", "stillness", "()I"⟩, 10), (⟨"WeaveHall$Weaver", "readOff", "(LWeaveHall$Band;)V"⟩, 16), (⟨"WeaveHall$Weaver", "afterPattern", "(J)V"⟩, 16), (⟨"WeaveHall$Weaver", "repeatGoesOn", "(J)V"⟩, 16), (⟨"WeaveHall$Weaver", "mergeGoesOn", "()V"⟩, 16), (⟨"WeaveHall$Weaver", "sumGoesOn", "(J)V"⟩, 16), (⟨"WeaveHall$Weaver", "selectGoesOn", "(J)V"⟩, 16), (⟨"WeaveHall$Weaver", "sortGoesOn", "(Z)V"⟩, 16), (⟨"WeaveHall$Weaver", "afterEnd", "()V"⟩, 16), (⟨"WeaveHall$Weaver", "writeTo", "(LWeaveHall$Band;)V"⟩, 16), (⟨"WeaveHall$Band", "lay", "(J)V"⟩, 12), (⟨"WeaveHall$Band", "growRing", "()V"⟩, 12), (⟨"WeaveHall$Weaver", "afterWriting", "()V"⟩, 16), (⟨"WeaveHall$Weaver", "copyGoesOn", "()V"⟩, 16), (⟨"WeaveHall", "isFixed", "()Z"⟩, 10)]
theorem lw_r2 : ∀ q ∈ lw_privs_2, lw_okq q := List.forall_mem_cons.mpr ⟨lw_p16, List.forall_mem_cons.mpr ⟨lw_p17, List.forall_mem_cons.mpr ⟨lw_p18, List.forall_mem_cons.mpr ⟨lw_p19, List.forall_mem_cons.mpr ⟨lw_p20, List.forall_mem_cons.mpr ⟨lw_p21, List.forall_mem_cons.mpr ⟨lw_p22, List.forall_mem_cons.mpr ⟨lw_p23, List.forall_mem_cons.mpr ⟨lw_p24, List.forall_mem_cons.mpr ⟨lw_p25, List.forall_mem_cons.mpr ⟨lw_p26, List.forall_mem_cons.mpr ⟨lw_p27, List.forall_mem_cons.mpr ⟨lw_p28, List.forall_mem_cons.mpr ⟨lw_p29, List.forall_mem_cons.mpr ⟨lw_p30, List.forall_mem_cons.mpr ⟨lw_p31, fun _ h => absurd h List.not_mem_nil⟩⟩⟩⟩⟩⟩⟩⟩⟩⟩⟩⟩⟩⟩⟩⟩
theorem lw_p32 : lw_okq (⟨"WeaveHall$Rates", "drawTogether", "(II)Z"⟩, 4) := ⟨⟨by decide +kernel, by decide +kernel⟩, List.mem_of_getElem? (i := 25) (by decide +kernel), List.mem_of_getElem? (i := 670) (by decide +kernel), List.mem_of_getElem? (i := 671) (by decide +kernel)⟩
theorem lw_p33 : lw_okq (⟨"WeaveHall$Rates", "spread", "(LWeaveHall$Band;)Z"⟩, 4) := ⟨⟨by decide +kernel, by decide +kernel⟩, List.mem_of_getElem? (i := 25) (by decide +kernel), List.mem_of_getElem? (i := 675) (by decide +kernel), List.mem_of_getElem? (i := 676) (by decide +kernel)⟩
theorem lw_p34 : lw_okq (⟨"WeaveHall$Rates", "setFraction", "(IJJ)V"⟩, 4) := ⟨⟨by decide +kernel, by decide +kernel⟩, List.mem_of_getElem? (i := 25) (by decide +kernel), List.mem_of_getElem? (i := 682) (by decide +kernel), List.mem_of_getElem? (i := 683) (by decide +kernel)⟩
theorem lw_p35 : lw_okq (⟨"WeaveHall$Rates", "agreesWithAll", "([LWeaveHall$Band;I)Z"⟩, 4) := ⟨⟨by decide +kernel, by decide +kernel⟩, List.mem_of_getElem? (i := 25) (by decide +kernel), List.mem_of_getElem? (i := 690) (by decide +kernel), List.mem_of_getElem? (i := 691) (by decide +kernel)⟩
theorem lw_p36 : lw_okq (⟨"WeaveHall$Rates", "makeWhole", "(I)Z"⟩, 4) := ⟨⟨by decide +kernel, by decide +kernel⟩, List.mem_of_getElem? (i := 25) (by decide +kernel), List.mem_of_getElem? (i := 694) (by decide +kernel), List.mem_of_getElem? (i := 695) (by decide +kernel)⟩
theorem lw_p37 : lw_okq (⟨"WeaveHall$Rates", "makePartWhole", "(II)Z"⟩, 4) := ⟨⟨by decide +kernel, by decide +kernel⟩, List.mem_of_getElem? (i := 25) (by decide +kernel), List.mem_of_getElem? (i := 698) (by decide +kernel), List.mem_of_getElem? (i := 699) (by decide +kernel)⟩
theorem lw_p38 : lw_okq (⟨"WeaveHallModel", "isWeaver", "(I)Z"⟩, 55) := ⟨⟨by decide +kernel, by decide +kernel⟩, List.mem_of_getElem? (i := 711) (by decide +kernel), List.mem_of_getElem? (i := 899) (by decide +kernel), List.mem_of_getElem? (i := 900) (by decide +kernel)⟩
theorem lw_p39 : lw_okq (⟨"WeaveHallModel", "isBand", "(I)Z"⟩, 55) := ⟨⟨by decide +kernel, by decide +kernel⟩, List.mem_of_getElem? (i := 711) (by decide +kernel), List.mem_of_getElem? (i := 927) (by decide +kernel), List.mem_of_getElem? (i := 928) (by decide +kernel)⟩
theorem lw_p40 : lw_okq (⟨"WeaveHallModel", "isWhole", "()Z"⟩, 55) := ⟨⟨by decide +kernel, by decide +kernel⟩, List.mem_of_getElem? (i := 711) (by decide +kernel), List.mem_of_getElem? (i := 940) (by decide +kernel), List.mem_of_getElem? (i := 941) (by decide +kernel)⟩
theorem lw_p41 : lw_okq (⟨"WeaveHallModel", "begin", "()V"⟩, 55) := ⟨⟨by decide +kernel, by decide +kernel⟩, List.mem_of_getElem? (i := 711) (by decide +kernel), List.mem_of_getElem? (i := 944) (by decide +kernel), List.mem_of_getElem? (i := 945) (by decide +kernel)⟩
theorem lw_p42 : lw_okq (⟨"WeaveHallModel", "canAny", "()Z"⟩, 55) := ⟨⟨by decide +kernel, by decide +kernel⟩, List.mem_of_getElem? (i := 711) (by decide +kernel), List.mem_of_getElem? (i := 950) (by decide +kernel), List.mem_of_getElem? (i := 951) (by decide +kernel)⟩
theorem lw_p43 : lw_okq (⟨"WeaveHallModel", "stateOf", "(I)I"⟩, 55) := ⟨⟨by decide +kernel, by decide +kernel⟩, List.mem_of_getElem? (i := 711) (by decide +kernel), List.mem_of_getElem? (i := 954) (by decide +kernel), List.mem_of_getElem? (i := 955) (by decide +kernel)⟩
theorem lw_p44 : lw_okq (⟨"WeaveHallModel", "isOver", "(I)Z"⟩, 55) := ⟨⟨by decide +kernel, by decide +kernel⟩, List.mem_of_getElem? (i := 711) (by decide +kernel), List.mem_of_getElem? (i := 958) (by decide +kernel), List.mem_of_getElem? (i := 959) (by decide +kernel)⟩
theorem lw_p45 : lw_okq (⟨"WeaveHallModel", "look", "(I)V"⟩, 55) := ⟨⟨by decide +kernel, by decide +kernel⟩, List.mem_of_getElem? (i := 711) (by decide +kernel), List.mem_of_getElem? (i := 962) (by decide +kernel), List.mem_of_getElem? (i := 963) (by decide +kernel)⟩
theorem lw_p46 : lw_okq (⟨"WeaveHallModel", "toFail", "(I)V"⟩, 55) := ⟨⟨by decide +kernel, by decide +kernel⟩, List.mem_of_getElem? (i := 711) (by decide +kernel), List.mem_of_getElem? (i := 966) (by decide +kernel), List.mem_of_getElem? (i := 967) (by decide +kernel)⟩
theorem lw_p47 : lw_okq (⟨"WeaveHallModel", "find", "(I)V"⟩, 55) := ⟨⟨by decide +kernel, by decide +kernel⟩, List.mem_of_getElem? (i := 711) (by decide +kernel), List.mem_of_getElem? (i := 970) (by decide +kernel), List.mem_of_getElem? (i := 971) (by decide +kernel)⟩
def lw_privs_3 : List (MethodName × Nat) := [(⟨"WeaveHall$Rates", "drawTogether", "(II)Z"⟩, 4), (⟨"WeaveHall$Rates", "spread", "(LWeaveHall$Band;)Z"⟩, 4), (⟨"WeaveHall$Rates", "setFraction", "(IJJ)V"⟩, 4), (⟨"WeaveHall$Rates", "agreesWithAll", "([LWeaveHall$Band;I)Z"⟩, 4), (⟨"WeaveHall$Rates", "makeWhole", "(I)Z"⟩, 4), (⟨"WeaveHall$Rates", "makePartWhole", "(II)Z"⟩, 4), (⟨"WeaveHallModel", "isWeaver", "(I)Z"⟩, 55), (⟨"WeaveHallModel", "isBand", "(I)Z"⟩, 55), (⟨"WeaveHallModel", "isWhole", "()Z"⟩, 55), (⟨"WeaveHallModel", "begin", "()V"⟩, 55), (⟨"WeaveHallModel", "canAny", "()Z"⟩, 55), (⟨"WeaveHallModel", "stateOf", "(I)I"⟩, 55), (⟨"WeaveHallModel", "isOver", "(I)Z"⟩, 55), (⟨"WeaveHallModel", "look", "(I)V"⟩, 55), (⟨"WeaveHallModel", "toFail", "(I)V"⟩, 55), (⟨"WeaveHallModel", "find", "(I)V"⟩, 55)]
theorem lw_r3 : ∀ q ∈ lw_privs_3, lw_okq q := List.forall_mem_cons.mpr ⟨lw_p32, List.forall_mem_cons.mpr ⟨lw_p33, List.forall_mem_cons.mpr ⟨lw_p34, List.forall_mem_cons.mpr ⟨lw_p35, List.forall_mem_cons.mpr ⟨lw_p36, List.forall_mem_cons.mpr ⟨lw_p37, List.forall_mem_cons.mpr ⟨lw_p38, List.forall_mem_cons.mpr ⟨lw_p39, List.forall_mem_cons.mpr ⟨lw_p40, List.forall_mem_cons.mpr ⟨lw_p41, List.forall_mem_cons.mpr ⟨lw_p42, List.forall_mem_cons.mpr ⟨lw_p43, List.forall_mem_cons.mpr ⟨lw_p44, List.forall_mem_cons.mpr ⟨lw_p45, List.forall_mem_cons.mpr ⟨lw_p46, List.forall_mem_cons.mpr ⟨lw_p47, fun _ h => absurd h List.not_mem_nil⟩⟩⟩⟩⟩⟩⟩⟩⟩⟩⟩⟩⟩⟩⟩⟩
theorem lw_p48 : lw_okq (⟨"WeaveHallModel", "toWrite", "(IJ)V"⟩, 55) := ⟨⟨by decide +kernel, by decide +kernel⟩, List.mem_of_getElem? (i := 711) (by decide +kernel), List.mem_of_getElem? (i := 974) (by decide +kernel), List.mem_of_getElem? (i := 975) (by decide +kernel)⟩
theorem lw_p49 : lw_okq (⟨"WeaveHallModel", "toRead", "(I)V"⟩, 55) := ⟨⟨by decide +kernel, by decide +kernel⟩, List.mem_of_getElem? (i := 711) (by decide +kernel), List.mem_of_getElem? (i := 978) (by decide +kernel), List.mem_of_getElem? (i := 979) (by decide +kernel)⟩
theorem lw_p50 : lw_okq (⟨"WeaveHallModel", "findMerge", "(II)V"⟩, 55) := ⟨⟨by decide +kernel, by decide +kernel⟩, List.mem_of_getElem? (i := 711) (by decide +kernel), List.mem_of_getElem? (i := 982) (by decide +kernel), List.mem_of_getElem? (i := 983) (by decide +kernel)⟩
theorem lw_p51 : lw_okq (⟨"WeaveHallModel", "findSort", "(II)V"⟩, 55) := ⟨⟨by decide +kernel, by decide +kernel⟩, List.mem_of_getElem? (i := 711) (by decide +kernel), List.mem_of_getElem? (i := 986) (by decide +kernel), List.mem_of_getElem? (i := 987) (by decide +kernel)⟩
theorem lw_p52 : lw_okq (⟨"WeaveHallModel", "findScript", "(I)V"⟩, 55) := ⟨⟨by decide +kernel, by decide +kernel⟩, List.mem_of_getElem? (i := 711) (by decide +kernel), List.mem_of_getElem? (i := 990) (by decide +kernel), List.mem_of_getElem? (i := 991) (by decide +kernel)⟩
theorem lw_p53 : lw_okq (⟨"WeaveHallModel", "bandAt", "(I)I"⟩, 55) := ⟨⟨by decide +kernel, by decide +kernel⟩, List.mem_of_getElem? (i := 711) (by decide +kernel), List.mem_of_getElem? (i := 994) (by decide +kernel), List.mem_of_getElem? (i := 995) (by decide +kernel)⟩
theorem lw_p54 : lw_okq (⟨"WeaveHallModel", "narrow", "()I"⟩, 55) := ⟨⟨by decide +kernel, by decide +kernel⟩, List.mem_of_getElem? (i := 711) (by decide +kernel), List.mem_of_getElem? (i := 998) (by decide +kernel), List.mem_of_getElem? (i := 999) (by decide +kernel)⟩
theorem lw_p55 : lw_okq (⟨"WeaveHallModel", "widen", "(I)V"⟩, 55) := ⟨⟨by decide +kernel, by decide +kernel⟩, List.mem_of_getElem? (i := 711) (by decide +kernel), List.mem_of_getElem? (i := 1002) (by decide +kernel), List.mem_of_getElem? (i := 1003) (by decide +kernel)⟩
theorem lw_p56 : lw_okq (⟨"WeaveHallModel", "doAct", "(I)V"⟩, 55) := ⟨⟨by decide +kernel, by decide +kernel⟩, List.mem_of_getElem? (i := 711) (by decide +kernel), List.mem_of_getElem? (i := 1007) (by decide +kernel), List.mem_of_getElem? (i := 1008) (by decide +kernel)⟩
theorem lw_p57 : lw_okq (⟨"WeaveHallModel", "doRead", "(I)V"⟩, 55) := ⟨⟨by decide +kernel, by decide +kernel⟩, List.mem_of_getElem? (i := 711) (by decide +kernel), List.mem_of_getElem? (i := 1011) (by decide +kernel), List.mem_of_getElem? (i := 1012) (by decide +kernel)⟩
theorem lw_p58 : lw_okq (⟨"WeaveHallModel", "got", "(IJ)V"⟩, 55) := ⟨⟨by decide +kernel, by decide +kernel⟩, List.mem_of_getElem? (i := 711) (by decide +kernel), List.mem_of_getElem? (i := 1015) (by decide +kernel), List.mem_of_getElem? (i := 1016) (by decide +kernel)⟩
theorem lw_p59 : lw_okq (⟨"WeaveHallModel", "insert", "(IJ)V"⟩, 55) := ⟨⟨by decide +kernel, by decide +kernel⟩, List.mem_of_getElem? (i := 711) (by decide +kernel), List.mem_of_getElem? (i := 1019) (by decide +kernel), List.mem_of_getElem? (i := 1020) (by decide +kernel)⟩
theorem lw_p60 : lw_okq (⟨"WeaveHallModel", "end", "(IIII)V"⟩, 55) := ⟨⟨by decide +kernel, by decide +kernel⟩, List.mem_of_getElem? (i := 711) (by decide +kernel), List.mem_of_getElem? (i := 1023) (by decide +kernel), List.mem_of_getElem? (i := 1024) (by decide +kernel)⟩
theorem lw_p61 : lw_okq (⟨"WeaveHallModel", "gotEnd", "(I)V"⟩, 55) := ⟨⟨by decide +kernel, by decide +kernel⟩, List.mem_of_getElem? (i := 711) (by decide +kernel), List.mem_of_getElem? (i := 1027) (by decide +kernel), List.mem_of_getElem? (i := 1028) (by decide +kernel)⟩
theorem lw_p62 : lw_okq (⟨"WeaveHallModel", "doWrite", "(I)V"⟩, 55) := ⟨⟨by decide +kernel, by decide +kernel⟩, List.mem_of_getElem? (i := 711) (by decide +kernel), List.mem_of_getElem? (i := 1031) (by decide +kernel), List.mem_of_getElem? (i := 1032) (by decide +kernel)⟩
theorem lw_p63 : lw_okq (⟨"WeaveHallModel", "gave", "(I)V"⟩, 55) := ⟨⟨by decide +kernel, by decide +kernel⟩, List.mem_of_getElem? (i := 711) (by decide +kernel), List.mem_of_getElem? (i := 1036) (by decide +kernel), List.mem_of_getElem? (i := 1037) (by decide +kernel)⟩
def lw_privs_4 : List (MethodName × Nat) := [(⟨"WeaveHallModel", "toWrite", "(IJ)V"⟩, 55), (⟨"WeaveHallModel", "toRead", "(I)V"⟩, 55), (⟨"WeaveHallModel", "findMerge", "(II)V"⟩, 55), (⟨"WeaveHallModel", "findSort", "(II)V"⟩, 55), (⟨"WeaveHallModel", "findScript", "(I)V"⟩, 55), (⟨"WeaveHallModel", "bandAt", "(I)I"⟩, 55), (⟨"WeaveHallModel", "narrow", "()I"⟩, 55), (⟨"WeaveHallModel", "widen", "(I)V"⟩, 55), (⟨"WeaveHallModel", "doAct", "(I)V"⟩, 55), (⟨"WeaveHallModel", "doRead", "(I)V"⟩, 55), (⟨"WeaveHallModel", "got", "(IJ)V"⟩, 55), (⟨"WeaveHallModel", "insert", "(IJ)V"⟩, 55), (⟨"WeaveHallModel", "end", "(IIII)V"⟩, 55), (⟨"WeaveHallModel", "gotEnd", "(I)V"⟩, 55), (⟨"WeaveHallModel", "doWrite", "(I)V"⟩, 55), (⟨"WeaveHallModel", "gave", "(I)V"⟩, 55)]
theorem lw_r4 : ∀ q ∈ lw_privs_4, lw_okq q := List.forall_mem_cons.mpr ⟨lw_p48, List.forall_mem_cons.mpr ⟨lw_p49, List.forall_mem_cons.mpr ⟨lw_p50, List.forall_mem_cons.mpr ⟨lw_p51, List.forall_mem_cons.mpr ⟨lw_p52, List.forall_mem_cons.mpr ⟨lw_p53, List.forall_mem_cons.mpr ⟨lw_p54, List.forall_mem_cons.mpr ⟨lw_p55, List.forall_mem_cons.mpr ⟨lw_p56, List.forall_mem_cons.mpr ⟨lw_p57, List.forall_mem_cons.mpr ⟨lw_p58, List.forall_mem_cons.mpr ⟨lw_p59, List.forall_mem_cons.mpr ⟨lw_p60, List.forall_mem_cons.mpr ⟨lw_p61, List.forall_mem_cons.mpr ⟨lw_p62, List.forall_mem_cons.mpr ⟨lw_p63, fun _ h => absurd h List.not_mem_nil⟩⟩⟩⟩⟩⟩⟩⟩⟩⟩⟩⟩⟩⟩⟩⟩
theorem lw_p64 : lw_okq (⟨"WeaveHallModel", "patternOf", "(II)J"⟩, 55) := ⟨⟨by decide +kernel, by decide +kernel⟩, List.mem_of_getElem? (i := 711) (by decide +kernel), List.mem_of_getElem? (i := 1054) (by decide +kernel), List.mem_of_getElem? (i := 1055) (by decide +kernel)⟩
theorem lw_p65 : lw_okq (⟨"WeaveHallModel", "endOf", "(I)I"⟩, 55) := ⟨⟨by decide +kernel, by decide +kernel⟩, List.mem_of_getElem? (i := 711) (by decide +kernel), List.mem_of_getElem? (i := 1062) (by decide +kernel), List.mem_of_getElem? (i := 1063) (by decide +kernel)⟩
theorem lw_p66 : lw_okq (⟨"WeaveHallModel", "isFixed", "()Z"⟩, 55) := ⟨⟨by decide +kernel, by decide +kernel⟩, List.mem_of_getElem? (i := 711) (by decide +kernel), List.mem_of_getElem? (i := 1086) (by decide +kernel), List.mem_of_getElem? (i := 1087) (by decide +kernel)⟩
theorem lw_p67 : lw_okq (⟨"WeaveHallModel", "findParts", "()V"⟩, 55) := ⟨⟨by decide +kernel, by decide +kernel⟩, List.mem_of_getElem? (i := 711) (by decide +kernel), List.mem_of_getElem? (i := 1090) (by decide +kernel), List.mem_of_getElem? (i := 1091) (by decide +kernel)⟩
theorem lw_p68 : lw_okq (⟨"WeaveHallModel", "findRates", "()Z"⟩, 55) := ⟨⟨by decide +kernel, by decide +kernel⟩, List.mem_of_getElem? (i := 711) (by decide +kernel), List.mem_of_getElem? (i := 1094) (by decide +kernel), List.mem_of_getElem? (i := 1095) (by decide +kernel)⟩
theorem lw_p69 : lw_okq (⟨"WeaveHallModel", "writesOf", "(I)I"⟩, 55) := ⟨⟨by decide +kernel, by decide +kernel⟩, List.mem_of_getElem? (i := 711) (by decide +kernel), List.mem_of_getElem? (i := 1098) (by decide +kernel), List.mem_of_getElem? (i := 1099) (by decide +kernel)⟩
theorem lw_p70 : lw_okq (⟨"WeaveHallModel", "rate", "(IIJJ)Z"⟩, 55) := ⟨⟨by decide +kernel, by decide +kernel⟩, List.mem_of_getElem? (i := 711) (by decide +kernel), List.mem_of_getElem? (i := 1102) (by decide +kernel), List.mem_of_getElem? (i := 1103) (by decide +kernel)⟩
theorem lw_p71 : lw_okq (⟨"WeaveHallModel", "findFirings", "()Z"⟩, 55) := ⟨⟨by decide +kernel, by decide +kernel⟩, List.mem_of_getElem? (i := 711) (by decide +kernel), List.mem_of_getElem? (i := 1110) (by decide +kernel), List.mem_of_getElem? (i := 1111) (by decide +kernel)⟩
def lw_privs_5 : List (MethodName × Nat) := [(⟨"WeaveHallModel", "patternOf", "(II)J"⟩, 55), (⟨"WeaveHallModel", "endOf", "(I)I"⟩, 55), (⟨"WeaveHallModel", "isFixed", "()Z"⟩, 55), (⟨"WeaveHallModel", "findParts", "()V"⟩, 55), (⟨"WeaveHallModel", "findRates", "()Z"⟩, 55), (⟨"WeaveHallModel", "writesOf", "(I)I"⟩, 55), (⟨"WeaveHallModel", "rate", "(IIJJ)Z"⟩, 55), (⟨"WeaveHallModel", "findFirings", "()Z"⟩, 55)]
theorem lw_r5 : ∀ q ∈ lw_privs_5, lw_okq q := List.forall_mem_cons.mpr ⟨lw_p64, List.forall_mem_cons.mpr ⟨lw_p65, List.forall_mem_cons.mpr ⟨lw_p66, List.forall_mem_cons.mpr ⟨lw_p67, List.forall_mem_cons.mpr ⟨lw_p68, List.forall_mem_cons.mpr ⟨lw_p69, List.forall_mem_cons.mpr ⟨lw_p70, List.forall_mem_cons.mpr ⟨lw_p71, fun _ h => absurd h List.not_mem_nil⟩⟩⟩⟩⟩⟩⟩⟩
def lw_privs : List (MethodName × Nat) := lw_privs_1 ++ (lw_privs_2 ++ (lw_privs_3 ++ (lw_privs_4 ++ (lw_privs_5))))
def lw_tbl : List Cond := k2_sels lw_privs ++ tables_1
theorem lw_privs_ok : ∀ q ∈ lw_privs, lw_okq q := by
  show ∀ q ∈ lw_privs_1 ++ (lw_privs_2 ++ (lw_privs_3 ++ (lw_privs_4 ++ (lw_privs_5)))), lw_okq q
  exact List.forall_mem_append.mpr ⟨lw_r1, List.forall_mem_append.mpr ⟨lw_r2, List.forall_mem_append.mpr ⟨lw_r3, List.forall_mem_append.mpr ⟨lw_r4, lw_r5⟩⟩⟩⟩
def RX0 : String := "WeaveHall$Band"
def TX0 : u_T := fun k => match k with
  | 0 => ("WeaveHall$Band", "number", "I", true)
  | 1 => ("WeaveHall$Band", "past", "LWeaveHall$Row;", true)
  | 2 => ("WeaveHall$Band", "from", "LWeaveHall$Weaver;", false)
  | 3 => ("WeaveHall$Band", "to", "LWeaveHall$Weaver;", false)
  | 4 => ("WeaveHall$Band", "toldWidth", "I", false)
  | 5 => ("WeaveHall$Band", "widthNow", "I", false)
  | 6 => ("WeaveHall$Band", "timesWidened", "I", false)
  | 7 => ("WeaveHall$Band", "ring", "[J", false)
  | 8 => ("WeaveHall$Band", "head", "I", false)
  | 9 => ("WeaveHall$Band", "load", "I", false)
  | 10 => ("WeaveHall$Band", "mostLoad", "I", false)
  | _ => ("WeaveHall$Band", "mark", "J", false)
def tyX0 : Nat → FieldType := fun k => match k with
  | 0 => .int
  | 1 => .object "WeaveHall$Row"
  | 2 => .object "WeaveHall$Weaver"
  | 3 => .object "WeaveHall$Weaver"
  | 4 => .int
  | 5 => .int
  | 6 => .int
  | 7 => .array .long
  | 8 => .int
  | 9 => .int
  | 10 => .int
  | _ => .long
abbrev wsX00 : List Cond := u_ws RX0 TX0 12
theorem nmX0 : ∀ a, a < 12 → ∀ b, b < 12 → a ≠ b → (TX0 a).2.1 ≠ (TX0 b).2.1 := by decide +kernel
theorem tyX0_ok : ∀ k, k < 12 → parseFieldDescriptor (TX0 k).2.2.1 = some (tyX0 k) := by decide +kernel
abbrev cX0_init : ByteArray := prog_2_method_1_code
def yX0_init : MethodName := ⟨RX0, "<init>", "(I)V"⟩
abbrev cX0_join : ByteArray := prog_2_method_2_code
def yX0_join : MethodName := ⟨RX0, "join", "(LWeaveHall$Weaver;LWeaveHall$Weaver;I)V"⟩
abbrev cX0_restart : ByteArray := prog_2_method_3_code
def yX0_restart : MethodName := ⟨RX0, "restart", "()V"⟩
abbrev cX0_canBeRead : ByteArray := prog_2_method_4_code
def yX0_canBeRead : MethodName := ⟨RX0, "canBeRead", "()Z"⟩
abbrev cX0_canBeWritten : ByteArray := prog_2_method_5_code
def yX0_canBeWritten : MethodName := ⟨RX0, "canBeWritten", "()Z"⟩
abbrev cX0_ending : ByteArray := prog_2_method_6_code
def yX0_ending : MethodName := ⟨RX0, "ending", "()I"⟩
abbrev cX0_isTighterThan : ByteArray := prog_2_method_7_code
def yX0_isTighterThan : MethodName := ⟨RX0, "isTighterThan", "(LWeaveHall$Band;)Z"⟩
abbrev cX0_widen : ByteArray := prog_2_method_8_code
def yX0_widen : MethodName := ⟨RX0, "widen", "()V"⟩
abbrev cX0_put : ByteArray := prog_2_method_9_code
def yX0_put : MethodName := ⟨RX0, "put", "(J)V"⟩
abbrev cX0_lay : ByteArray := prog_2_method_10_code
def yX0_lay : MethodName := ⟨RX0, "lay", "(J)V"⟩
abbrev cX0_growRing : ByteArray := prog_2_method_11_code
def yX0_growRing : MethodName := ⟨RX0, "growRing", "()V"⟩
abbrev cX0_take : ByteArray := prog_2_method_12_code
def yX0_take : MethodName := ⟨RX0, "take", "()J"⟩
def RX1 : String := "WeaveHall$Hand"
def TX1 : u_T := fun k => match k with
  | 0 => ("WeaveHall$Hand", "held", "[J", true)
  | 1 => ("WeaveHall$Hand", "holds", "[Z", true)
  | 2 => ("WeaveHall$Hand", "over", "[Z", true)
  | _ => ("WeaveHall$Hand", "size", "I", false)
def tyX1 : Nat → FieldType := fun k => match k with
  | 0 => .array .long
  | 1 => .array .boolean
  | 2 => .array .boolean
  | _ => .int
abbrev wsX10 : List Cond := u_ws RX1 TX1 4
theorem nmX1 : ∀ a, a < 4 → ∀ b, b < 4 → a ≠ b → (TX1 a).2.1 ≠ (TX1 b).2.1 := by decide +kernel
theorem tyX1_ok : ∀ k, k < 4 → parseFieldDescriptor (TX1 k).2.2.1 = some (tyX1 k) := by decide +kernel
abbrev cX1_init : ByteArray := prog_3_method_1_code
def yX1_init : MethodName := ⟨RX1, "<init>", "()V"⟩
abbrev cX1_empty : ByteArray := prog_3_method_2_code
def yX1_empty : MethodName := ⟨RX1, "empty", "()V"⟩
abbrev cX1_hold : ByteArray := prog_3_method_3_code
def yX1_hold : MethodName := ⟨RX1, "hold", "(IJ)V"⟩
abbrev cX1_close : ByteArray := prog_3_method_4_code
def yX1_close : MethodName := ⟨RX1, "close", "(I)V"⟩
abbrev cX1_portToRead : ByteArray := prog_3_method_5_code
def yX1_portToRead : MethodName := ⟨RX1, "portToRead", "()I"⟩
abbrev cX1_portOfLesser : ByteArray := prog_3_method_6_code
def yX1_portOfLesser : MethodName := ⟨RX1, "portOfLesser", "()I"⟩
abbrev cX1_giveOf : ByteArray := prog_3_method_7_code
def yX1_giveOf : MethodName := ⟨RX1, "giveOf", "(I)J"⟩
abbrev cX1_sortIn : ByteArray := prog_3_method_8_code
def yX1_sortIn : MethodName := ⟨RX1, "sortIn", "(J)V"⟩
abbrev cX1_giveLeast : ByteArray := prog_3_method_9_code
def yX1_giveLeast : MethodName := ⟨RX1, "giveLeast", "()J"⟩
def RX2 : String := "WeaveHall$Rates"
def TX2 : u_T := fun k => match k with
  | 0 => ("WeaveHall$Rates", "part", "[I", true)
  | 1 => ("WeaveHall$Rates", "above", "[J", true)
  | 2 => ("WeaveHall$Rates", "below", "[J", true)
  | _ => ("WeaveHall$Rates", "hopeless", "Z", false)
def tyX2 : Nat → FieldType := fun k => match k with
  | 0 => .array .int
  | 1 => .array .long
  | 2 => .array .long
  | _ => .boolean
abbrev wsX20 : List Cond := u_ws RX2 TX2 4
theorem nmX2 : ∀ a, a < 4 → ∀ b, b < 4 → a ≠ b → (TX2 a).2.1 ≠ (TX2 b).2.1 := by decide +kernel
theorem tyX2_ok : ∀ k, k < 4 → parseFieldDescriptor (TX2 k).2.2.1 = some (tyX2 k) := by decide +kernel
abbrev cX2_init : ByteArray := prog_4_method_1_code
def yX2_init : MethodName := ⟨RX2, "<init>", "()V"⟩
abbrev cX2_findParts : ByteArray := prog_4_method_2_code
def yX2_findParts : MethodName := ⟨RX2, "findParts", "(I[LWeaveHall$Band;I)I"⟩
abbrev cX2_drawTogether : ByteArray := prog_4_method_3_code
def yX2_drawTogether : MethodName := ⟨RX2, "drawTogether", "(II)Z"⟩
abbrev cX2_solve : ByteArray := prog_4_method_4_code
def yX2_solve : MethodName := ⟨RX2, "solve", "(I[LWeaveHall$Band;I)Z"⟩
abbrev cX2_firingsOf : ByteArray := prog_4_method_5_code
def yX2_firingsOf : MethodName := ⟨RX2, "firingsOf", "(I)I"⟩
abbrev cX2_writtenByFiring : ByteArray := prog_4_method_6_code
def yX2_writtenByFiring : MethodName := ⟨RX2, "writtenByFiring", "(LWeaveHall$Weaver;)J"⟩
abbrev cX2_spread : ByteArray := prog_4_method_7_code
def yX2_spread : MethodName := ⟨RX2, "spread", "(LWeaveHall$Band;)Z"⟩
abbrev cX2_setFraction : ByteArray := prog_4_method_8_code
def yX2_setFraction : MethodName := ⟨RX2, "setFraction", "(IJJ)V"⟩
abbrev cX2_agreesWithAll : ByteArray := prog_4_method_9_code
def yX2_agreesWithAll : MethodName := ⟨RX2, "agreesWithAll", "([LWeaveHall$Band;I)Z"⟩
abbrev cX2_makeWhole : ByteArray := prog_4_method_10_code
def yX2_makeWhole : MethodName := ⟨RX2, "makeWhole", "(I)Z"⟩
abbrev cX2_makePartWhole : ByteArray := prog_4_method_11_code
def yX2_makePartWhole : MethodName := ⟨RX2, "makePartWhole", "(II)Z"⟩
abbrev cX2_greatestDivisor : ByteArray := prog_4_method_12_code
def yX2_greatestDivisor : MethodName := ⟨RX2, "greatestDivisor", "(JJ)J"⟩
def RX3 : String := "WeaveHall$Row"
def TX3 : u_T := fun k => match k with
  | 0 => ("WeaveHall$Row", "cells", "[J", false)
  | _ => ("WeaveHall$Row", "size", "I", false)
def tyX3 : Nat → FieldType := fun k => match k with
  | 0 => .array .long
  | _ => .int
abbrev wsX30 : List Cond := u_ws RX3 TX3 2
theorem nmX3 : ∀ a, a < 2 → ∀ b, b < 2 → a ≠ b → (TX3 a).2.1 ≠ (TX3 b).2.1 := by decide +kernel
theorem tyX3_ok : ∀ k, k < 2 → parseFieldDescriptor (TX3 k).2.2.1 = some (tyX3 k) := by decide +kernel
abbrev cX3_init : ByteArray := prog_5_method_1_code
def yX3_init : MethodName := ⟨RX3, "<init>", "()V"⟩
abbrev cX3_empty : ByteArray := prog_5_method_2_code
def yX3_empty : MethodName := ⟨RX3, "empty", "()V"⟩
abbrev cX3_append : ByteArray := prog_5_method_3_code
def yX3_append : MethodName := ⟨RX3, "append", "(J)V"⟩
abbrev cX3_at : ByteArray := prog_5_method_4_code
def yX3_at : MethodName := ⟨RX3, "at", "(I)J"⟩
def RX4 : String := "WeaveHall$Script"
def TX4 : u_T := fun k => match k with
  | 0 => ("WeaveHall$Script", "steps", "[I", true)
  | 1 => ("WeaveHall$Script", "as", "[I", true)
  | 2 => ("WeaveHall$Script", "bs", "[I", true)
  | 3 => ("WeaveHall$Script", "registers", "[J", true)
  | 4 => ("WeaveHall$Script", "size", "I", false)
  | _ => ("WeaveHall$Script", "at", "I", false)
def tyX4 : Nat → FieldType := fun k => match k with
  | 0 => .array .int
  | 1 => .array .int
  | 2 => .array .int
  | 3 => .array .long
  | 4 => .int
  | _ => .int
abbrev wsX40 : List Cond := u_ws RX4 TX4 6
theorem nmX4 : ∀ a, a < 6 → ∀ b, b < 6 → a ≠ b → (TX4 a).2.1 ≠ (TX4 b).2.1 := by decide +kernel
theorem tyX4_ok : ∀ k, k < 6 → parseFieldDescriptor (TX4 k).2.2.1 = some (tyX4 k) := by decide +kernel
abbrev cX4_init : ByteArray := prog_6_method_1_code
def yX4_init : MethodName := ⟨RX4, "<init>", "()V"⟩
abbrev cX4_append : ByteArray := prog_6_method_2_code
def yX4_append : MethodName := ⟨RX4, "append", "(III)V"⟩
abbrev cX4_restart : ByteArray := prog_6_method_3_code
def yX4_restart : MethodName := ⟨RX4, "restart", "()V"⟩
abbrev cX4_nextAct : ByteArray := prog_6_method_4_code
def yX4_nextAct : MethodName := ⟨RX4, "nextAct", "()I"⟩
abbrev cX4_reckon : ByteArray := prog_6_method_5_code
def yX4_reckon : MethodName := ⟨RX4, "reckon", "(III)V"⟩
abbrev cX4_goTo : ByteArray := prog_6_method_6_code
def yX4_goTo : MethodName := ⟨RX4, "goTo", "(I)V"⟩
abbrev cX4_isAtTry : ByteArray := prog_6_method_7_code
def yX4_isAtTry : MethodName := ⟨RX4, "isAtTry", "()Z"⟩
abbrev cX4_portNow : ByteArray := prog_6_method_8_code
def yX4_portNow : MethodName := ⟨RX4, "portNow", "()I"⟩
abbrev cX4_registerNow : ByteArray := prog_6_method_9_code
def yX4_registerNow : MethodName := ⟨RX4, "registerNow", "()J"⟩
abbrev cX4_keep : ByteArray := prog_6_method_10_code
def yX4_keep : MethodName := ⟨RX4, "keep", "(J)V"⟩
abbrev cX4_goOn : ByteArray := prog_6_method_11_code
def yX4_goOn : MethodName := ⟨RX4, "goOn", "()V"⟩
abbrev cX4_passOver : ByteArray := prog_6_method_12_code
def yX4_passOver : MethodName := ⟨RX4, "passOver", "()V"⟩
def RX5 : String := "WeaveHall$Weaver"
def TX5 : u_T := fun k => match k with
  | 0 => ("WeaveHall$Weaver", "number", "I", true)
  | 1 => ("WeaveHall$Weaver", "ins", "[LWeaveHall$Band;", true)
  | 2 => ("WeaveHall$Weaver", "outs", "[LWeaveHall$Band;", true)
  | 3 => ("WeaveHall$Weaver", "row", "LWeaveHall$Row;", true)
  | 4 => ("WeaveHall$Weaver", "hand", "LWeaveHall$Hand;", true)
  | 5 => ("WeaveHall$Weaver", "script", "LWeaveHall$Script;", true)
  | 6 => ("WeaveHall$Weaver", "kind", "I", false)
  | 7 => ("WeaveHall$Weaver", "a", "I", false)
  | 8 => ("WeaveHall$Weaver", "next", "I", false)
  | 9 => ("WeaveHall$Weaver", "port", "I", false)
  | 10 => ("WeaveHall$Weaver", "value", "J", false)
  | 11 => ("WeaveHall$Weaver", "place", "I", false)
  | 12 => ("WeaveHall$Weaver", "reads", "I", false)
  | 13 => ("WeaveHall$Weaver", "writes", "I", false)
  | 14 => ("WeaveHall$Weaver", "origin", "I", false)
  | _ => ("WeaveHall$Weaver", "why", "I", false)
def tyX5 : Nat → FieldType := fun k => match k with
  | 0 => .int
  | 1 => .array (.object "WeaveHall$Band")
  | 2 => .array (.object "WeaveHall$Band")
  | 3 => .object "WeaveHall$Row"
  | 4 => .object "WeaveHall$Hand"
  | 5 => .object "WeaveHall$Script"
  | 6 => .int
  | 7 => .int
  | 8 => .int
  | 9 => .int
  | 10 => .long
  | 11 => .int
  | 12 => .int
  | 13 => .int
  | 14 => .int
  | _ => .int
abbrev wsX50 : List Cond := u_ws RX5 TX5 16
theorem nmX5 : ∀ a, a < 16 → ∀ b, b < 16 → a ≠ b → (TX5 a).2.1 ≠ (TX5 b).2.1 := by decide +kernel
theorem tyX5_ok : ∀ k, k < 16 → parseFieldDescriptor (TX5 k).2.2.1 = some (tyX5 k) := by decide +kernel
abbrev cX5_init : ByteArray := prog_7_method_1_code
def yX5_init : MethodName := ⟨RX5, "<init>", "(I)V"⟩
abbrev cX5_become : ByteArray := prog_7_method_2_code
def yX5_become : MethodName := ⟨RX5, "become", "(II)V"⟩
abbrev cX5_restart : ByteArray := prog_7_method_3_code
def yX5_restart : MethodName := ⟨RX5, "restart", "()V"⟩
abbrev cX5_stock : ByteArray := prog_7_method_4_code
def yX5_stock : MethodName := ⟨RX5, "stock", "()I"⟩
abbrev cX5_isOver : ByteArray := prog_7_method_5_code
def yX5_isOver : MethodName := ⟨RX5, "isOver", "()Z"⟩
abbrev cX5_doing : ByteArray := prog_7_method_6_code
def yX5_doing : MethodName := ⟨RX5, "doing", "()I"⟩
abbrev cX5_waits : ByteArray := prog_7_method_7_code
def yX5_waits : MethodName := ⟨RX5, "waits", "()Z"⟩
abbrev cX5_act : ByteArray := prog_7_method_8_code
def yX5_act : MethodName := ⟨RX5, "act", "()V"⟩
abbrev cX5_readOff : ByteArray := prog_7_method_9_code
def yX5_readOff : MethodName := ⟨RX5, "readOff", "(LWeaveHall$Band;)V"⟩
abbrev cX5_writeTo : ByteArray := prog_7_method_10_code
def yX5_writeTo : MethodName := ⟨RX5, "writeTo", "(LWeaveHall$Band;)V"⟩
abbrev cX5_toRead : ByteArray := prog_7_method_11_code
def yX5_toRead : MethodName := ⟨RX5, "toRead", "(I)V"⟩
abbrev cX5_toWrite : ByteArray := prog_7_method_12_code
def yX5_toWrite : MethodName := ⟨RX5, "toWrite", "(IJ)V"⟩
abbrev cX5_toFail : ByteArray := prog_7_method_13_code
def yX5_toFail : MethodName := ⟨RX5, "toFail", "(I)V"⟩
abbrev cX5_firstAct : ByteArray := prog_7_method_14_code
def yX5_firstAct : MethodName := ⟨RX5, "firstAct", "()V"⟩
abbrev cX5_afterPattern : ByteArray := prog_7_method_15_code
def yX5_afterPattern : MethodName := ⟨RX5, "afterPattern", "(J)V"⟩
abbrev cX5_afterWriting : ByteArray := prog_7_method_16_code
def yX5_afterWriting : MethodName := ⟨RX5, "afterWriting", "()V"⟩
abbrev cX5_afterEnd : ByteArray := prog_7_method_17_code
def yX5_afterEnd : MethodName := ⟨RX5, "afterEnd", "()V"⟩
abbrev cX5_sourceGoesOn : ByteArray := prog_7_method_18_code
def yX5_sourceGoesOn : MethodName := ⟨RX5, "sourceGoesOn", "()V"⟩
abbrev cX5_repeatGoesOn : ByteArray := prog_7_method_19_code
def yX5_repeatGoesOn : MethodName := ⟨RX5, "repeatGoesOn", "(J)V"⟩
abbrev cX5_mergeGoesOn : ByteArray := prog_7_method_20_code
def yX5_mergeGoesOn : MethodName := ⟨RX5, "mergeGoesOn", "()V"⟩
abbrev cX5_sumGoesOn : ByteArray := prog_7_method_21_code
def yX5_sumGoesOn : MethodName := ⟨RX5, "sumGoesOn", "(J)V"⟩
abbrev cX5_selectGoesOn : ByteArray := prog_7_method_22_code
def yX5_selectGoesOn : MethodName := ⟨RX5, "selectGoesOn", "(J)V"⟩
abbrev cX5_copyGoesOn : ByteArray := prog_7_method_23_code
def yX5_copyGoesOn : MethodName := ⟨RX5, "copyGoesOn", "()V"⟩
abbrev cX5_sortGoesOn : ByteArray := prog_7_method_24_code
def yX5_sortGoesOn : MethodName := ⟨RX5, "sortGoesOn", "(Z)V"⟩
abbrev cX5_tearGoesOn : ByteArray := prog_7_method_25_code
def yX5_tearGoesOn : MethodName := ⟨RX5, "tearGoesOn", "()V"⟩
abbrev cX5_askScript : ByteArray := prog_7_method_26_code
def yX5_askScript : MethodName := ⟨RX5, "askScript", "()V"⟩
def RX6 : String := "WeaveHall"
def TX6 : u_T := fun k => match k with
  | 0 => ("WeaveHall", "weavers", "[LWeaveHall$Weaver;", true)
  | 1 => ("WeaveHall", "bands", "[LWeaveHall$Band;", true)
  | 2 => ("WeaveHall", "widenings", "[I", true)
  | 3 => ("WeaveHall", "rates", "LWeaveHall$Rates;", true)
  | 4 => ("WeaveHall", "weaverCount", "I", false)
  | 5 => ("WeaveHall", "bandCount", "I", false)
  | 6 => ("WeaveHall", "openPorts", "I", false)
  | 7 => ("WeaveHall", "wideningCount", "I", false)
  | 8 => ("WeaveHall", "actCount", "I", false)
  | _ => ("WeaveHall", "begun", "Z", false)
def tyX6 : Nat → FieldType := fun k => match k with
  | 0 => .array (.object "WeaveHall$Weaver")
  | 1 => .array (.object "WeaveHall$Band")
  | 2 => .array .int
  | 3 => .object "WeaveHall$Rates"
  | 4 => .int
  | 5 => .int
  | 6 => .int
  | 7 => .int
  | 8 => .int
  | _ => .boolean
abbrev wsX60 : List Cond := u_ws RX6 TX6 10
theorem nmX6 : ∀ a, a < 10 → ∀ b, b < 10 → a ≠ b → (TX6 a).2.1 ≠ (TX6 b).2.1 := by decide +kernel
theorem tyX6_ok : ∀ k, k < 10 → parseFieldDescriptor (TX6 k).2.2.1 = some (tyX6 k) := by decide +kernel
abbrev cX6_init : ByteArray := prog_1_method_1_code
def yX6_init : MethodName := ⟨RX6, "<init>", "()V"⟩
abbrev cX6_weaver : ByteArray := prog_1_method_2_code
def yX6_weaver : MethodName := ⟨RX6, "weaver", "(II)I"⟩
abbrev cX6_feed : ByteArray := prog_1_method_3_code
def yX6_feed : MethodName := ⟨RX6, "feed", "(IJ)I"⟩
abbrev cX6_step : ByteArray := prog_1_method_4_code
def yX6_step : MethodName := ⟨RX6, "step", "(IIII)I"⟩
abbrev cX6_band : ByteArray := prog_1_method_5_code
def yX6_band : MethodName := ⟨RX6, "band", "(IIIII)I"⟩
abbrev cX6_width : ByteArray := prog_1_method_6_code
def yX6_width : MethodName := ⟨RX6, "width", "(II)I"⟩
abbrev cX6_clear : ByteArray := prog_1_method_7_code
def yX6_clear : MethodName := ⟨RX6, "clear", "()I"⟩
abbrev cX6_run : ByteArray := prog_1_method_8_code
def yX6_run : MethodName := ⟨RX6, "run", "(III)I"⟩
abbrev cX6_reset : ByteArray := prog_1_method_9_code
def yX6_reset : MethodName := ⟨RX6, "reset", "()I"⟩
abbrev cX6_told : ByteArray := prog_1_method_10_code
def yX6_told : MethodName := ⟨RX6, "told", "(II)I"⟩
abbrev cX6_woven : ByteArray := prog_1_method_11_code
def yX6_woven : MethodName := ⟨RX6, "woven", "(II)J"⟩
abbrev cX6_bandTold : ByteArray := prog_1_method_12_code
def yX6_bandTold : MethodName := ⟨RX6, "bandTold", "(II)I"⟩
abbrev cX6_history : ByteArray := prog_1_method_13_code
def yX6_history : MethodName := ⟨RX6, "history", "(II)J"⟩
abbrev cX6_digest : ByteArray := prog_1_method_14_code
def yX6_digest : MethodName := ⟨RX6, "digest", "(I)J"⟩
abbrev cX6_widened : ByteArray := prog_1_method_15_code
def yX6_widened : MethodName := ⟨RX6, "widened", "(I)I"⟩
abbrev cX6_failure : ByteArray := prog_1_method_16_code
def yX6_failure : MethodName := ⟨RX6, "failure", "(II)I"⟩
abbrev cX6_balance : ByteArray := prog_1_method_17_code
def yX6_balance : MethodName := ⟨RX6, "balance", "(I)I"⟩
abbrev cX6_count : ByteArray := prog_1_method_18_code
def yX6_count : MethodName := ⟨RX6, "count", "(I)I"⟩
abbrev cX6_weaverAt : ByteArray := prog_1_method_19_code
def yX6_weaverAt : MethodName := ⟨RX6, "weaverAt", "(I)LWeaveHall$Weaver;"⟩
abbrev cX6_bandAt : ByteArray := prog_1_method_20_code
def yX6_bandAt : MethodName := ⟨RX6, "bandAt", "(I)LWeaveHall$Band;"⟩
abbrev cX6_isToldWidth : ByteArray := prog_1_method_21_code
def yX6_isToldWidth : MethodName := ⟨RX6, "isToldWidth", "(I)Z"⟩
abbrev cX6_suits : ByteArray := prog_1_method_22_code
def yX6_suits : MethodName := ⟨RX6, "suits", "(II)Z"⟩
abbrev cX6_isStep : ByteArray := prog_1_method_23_code
def yX6_isStep : MethodName := ⟨RX6, "isStep", "(III)Z"⟩
abbrev cX6_isRegister : ByteArray := prog_1_method_24_code
def yX6_isRegister : MethodName := ⟨RX6, "isRegister", "(I)Z"⟩
abbrev cX6_forgetRun : ByteArray := prog_1_method_25_code
def yX6_forgetRun : MethodName := ⟨RX6, "forgetRun", "()V"⟩
abbrev cX6_restartAll : ByteArray := prog_1_method_26_code
def yX6_restartAll : MethodName := ⟨RX6, "restartAll", "()V"⟩
abbrev cX6_doActs : ByteArray := prog_1_method_27_code
def yX6_doActs : MethodName := ⟨RX6, "doActs", "(III)I"⟩
abbrev cX6_firstAble : ByteArray := prog_1_method_28_code
def yX6_firstAble : MethodName := ⟨RX6, "firstAble", "(II)I"⟩
abbrev cX6_stillness : ByteArray := prog_1_method_29_code
def yX6_stillness : MethodName := ⟨RX6, "stillness", "()I"⟩
abbrev cX6_widenTightest : ByteArray := prog_1_method_30_code
def yX6_widenTightest : MethodName := ⟨RX6, "widenTightest", "()Z"⟩
abbrev cX6_tightest : ByteArray := prog_1_method_31_code
def yX6_tightest : MethodName := ⟨RX6, "tightest", "()LWeaveHall$Band;"⟩
abbrev cX6_isFixed : ByteArray := prog_1_method_32_code
def yX6_isFixed : MethodName := ⟨RX6, "isFixed", "()Z"⟩
abbrev cX6_hasFixedRates : ByteArray := prog_1_method_33_code
def yX6_hasFixedRates : MethodName := ⟨RX6, "hasFixedRates", "(I)Z"⟩
def RX7 : String := "WeaveHallModel"
def TX7 : u_T := fun k => match k with
  | 0 => ("WeaveHallModel", "weavers", "I", false)
  | 1 => ("WeaveHallModel", "kinds", "[I", true)
  | 2 => ("WeaveHallModel", "numbers", "[I", true)
  | 3 => ("WeaveHallModel", "ins", "[I", true)
  | 4 => ("WeaveHallModel", "outs", "[I", true)
  | 5 => ("WeaveHallModel", "fed", "[I", true)
  | 6 => ("WeaveHallModel", "feeds", "[J", true)
  | 7 => ("WeaveHallModel", "stepMany", "[I", true)
  | 8 => ("WeaveHallModel", "stepKind", "[I", true)
  | 9 => ("WeaveHallModel", "stepA", "[I", true)
  | 10 => ("WeaveHallModel", "stepB", "[I", true)
  | 11 => ("WeaveHallModel", "bands", "I", false)
  | 12 => ("WeaveHallModel", "bandFrom", "[I", true)
  | 13 => ("WeaveHallModel", "bandTo", "[I", true)
  | 14 => ("WeaveHallModel", "bandOut", "[I", true)
  | 15 => ("WeaveHallModel", "bandIn", "[I", true)
  | 16 => ("WeaveHallModel", "widths", "[I", true)
  | 17 => ("WeaveHallModel", "running", "Z", false)
  | 18 => ("WeaveHallModel", "widthNow", "[I", true)
  | 19 => ("WeaveHallModel", "on", "[I", true)
  | 20 => ("WeaveHallModel", "mostOn", "[I", true)
  | 21 => ("WeaveHallModel", "written", "[I", true)
  | 22 => ("WeaveHallModel", "widenedTimes", "[I", true)
  | 23 => ("WeaveHallModel", "digests", "[J", true)
  | 24 => ("WeaveHallModel", "firstCell", "[I", true)
  | 25 => ("WeaveHallModel", "lastCell", "[I", true)
  | 26 => ("WeaveHallModel", "nextCell", "[I", true)
  | 27 => ("WeaveHallModel", "cellValue", "[J", true)
  | 28 => ("WeaveHallModel", "cellNext", "[I", true)
  | 29 => ("WeaveHallModel", "cells", "I", false)
  | 30 => ("WeaveHallModel", "state", "[I", true)
  | 31 => ("WeaveHallModel", "phase", "[I", true)
  | 32 => ("WeaveHallModel", "held", "[J", true)
  | 33 => ("WeaveHallModel", "other", "[J", true)
  | 34 => ("WeaveHallModel", "hasRead", "[I", true)
  | 35 => ("WeaveHallModel", "hasWritten", "[I", true)
  | 36 => ("WeaveHallModel", "origin", "[I", true)
  | 37 => ("WeaveHallModel", "reason", "[I", true)
  | 38 => ("WeaveHallModel", "registers", "[J", true)
  | 39 => ("WeaveHallModel", "sorting", "[J", true)
  | 40 => ("WeaveHallModel", "sorted", "[I", true)
  | 41 => ("WeaveHallModel", "sortedOut", "[I", true)
  | 42 => ("WeaveHallModel", "acts", "I", false)
  | 43 => ("WeaveHallModel", "widenings", "I", false)
  | 44 => ("WeaveHallModel", "widenedBand", "[I", true)
  | 45 => ("WeaveHallModel", "act", "I", false)
  | 46 => ("WeaveHallModel", "port", "I", false)
  | 47 => ("WeaveHallModel", "value", "J", false)
  | 48 => ("WeaveHallModel", "why", "I", false)
  | 49 => ("WeaveHallModel", "isSpent", "[Z", true)
  | 50 => ("WeaveHallModel", "up", "[J", true)
  | 51 => ("WeaveHallModel", "down", "[J", true)
  | 52 => ("WeaveHallModel", "part", "[I", true)
  | 53 => ("WeaveHallModel", "parts", "I", false)
  | _ => ("WeaveHallModel", "firings", "[J", true)
def tyX7 : Nat → FieldType := fun k => match k with
  | 0 => .int
  | 1 => .array .int
  | 2 => .array .int
  | 3 => .array .int
  | 4 => .array .int
  | 5 => .array .int
  | 6 => .array .long
  | 7 => .array .int
  | 8 => .array .int
  | 9 => .array .int
  | 10 => .array .int
  | 11 => .int
  | 12 => .array .int
  | 13 => .array .int
  | 14 => .array .int
  | 15 => .array .int
  | 16 => .array .int
  | 17 => .boolean
  | 18 => .array .int
  | 19 => .array .int
  | 20 => .array .int
  | 21 => .array .int
  | 22 => .array .int
  | 23 => .array .long
  | 24 => .array .int
  | 25 => .array .int
  | 26 => .array .int
  | 27 => .array .long
  | 28 => .array .int
  | 29 => .int
  | 30 => .array .int
  | 31 => .array .int
  | 32 => .array .long
  | 33 => .array .long
  | 34 => .array .int
  | 35 => .array .int
  | 36 => .array .int
  | 37 => .array .int
  | 38 => .array .long
  | 39 => .array .long
  | 40 => .array .int
  | 41 => .array .int
  | 42 => .int
  | 43 => .int
  | 44 => .array .int
  | 45 => .int
  | 46 => .int
  | 47 => .long
  | 48 => .int
  | 49 => .array .boolean
  | 50 => .array .long
  | 51 => .array .long
  | 52 => .array .int
  | 53 => .int
  | _ => .array .long
abbrev wsX70 : List Cond := u_ws RX7 TX7 55
theorem nmX7 : ∀ a, a < 55 → ∀ b, b < 55 → a ≠ b → (TX7 a).2.1 ≠ (TX7 b).2.1 := by decide +kernel
theorem tyX7_ok : ∀ k, k < 55 → parseFieldDescriptor (TX7 k).2.2.1 = some (tyX7 k) := by decide +kernel
abbrev cX7_init : ByteArray := prog_9_method_1_code
def yX7_init : MethodName := ⟨RX7, "<init>", "()V"⟩
abbrev cX7_in : ByteArray := prog_9_method_2_code
def yX7_in : MethodName := ⟨RX7, "in", "(JJJ)Z"⟩
abbrev cX7_insOf : ByteArray := prog_9_method_3_code
def yX7_insOf : MethodName := ⟨RX7, "insOf", "(I)I"⟩
abbrev cX7_outsOf : ByteArray := prog_9_method_4_code
def yX7_outsOf : MethodName := ⟨RX7, "outsOf", "(I)I"⟩
abbrev cX7_isWeaver : ByteArray := prog_9_method_5_code
def yX7_isWeaver : MethodName := ⟨RX7, "isWeaver", "(I)Z"⟩
abbrev cX7_weaver : ByteArray := prog_9_method_6_code
def yX7_weaver : MethodName := ⟨RX7, "weaver", "(II)I"⟩
abbrev cX7_feed : ByteArray := prog_9_method_7_code
def yX7_feed : MethodName := ⟨RX7, "feed", "(IJ)I"⟩
abbrev cX7_isStep : ByteArray := prog_9_method_8_code
def yX7_isStep : MethodName := ⟨RX7, "isStep", "(III)Z"⟩
abbrev cX7_step : ByteArray := prog_9_method_9_code
def yX7_step : MethodName := ⟨RX7, "step", "(IIII)I"⟩
abbrev cX7_band : ByteArray := prog_9_method_10_code
def yX7_band : MethodName := ⟨RX7, "band", "(IIIII)I"⟩
abbrev cX7_isBand : ByteArray := prog_9_method_11_code
def yX7_isBand : MethodName := ⟨RX7, "isBand", "(I)Z"⟩
abbrev cX7_width : ByteArray := prog_9_method_12_code
def yX7_width : MethodName := ⟨RX7, "width", "(II)I"⟩
abbrev cX7_clear : ByteArray := prog_9_method_13_code
def yX7_clear : MethodName := ⟨RX7, "clear", "()I"⟩
abbrev cX7_isWhole : ByteArray := prog_9_method_14_code
def yX7_isWhole : MethodName := ⟨RX7, "isWhole", "()Z"⟩
abbrev cX7_begin : ByteArray := prog_9_method_15_code
def yX7_begin : MethodName := ⟨RX7, "begin", "()V"⟩
abbrev cX7_toRead : ByteArray := prog_9_method_16_code
def yX7_toRead : MethodName := ⟨RX7, "toRead", "(I)V"⟩
abbrev cX7_toWrite : ByteArray := prog_9_method_17_code
def yX7_toWrite : MethodName := ⟨RX7, "toWrite", "(IJ)V"⟩
abbrev cX7_toFail : ByteArray := prog_9_method_18_code
def yX7_toFail : MethodName := ⟨RX7, "toFail", "(I)V"⟩
abbrev cX7_find : ByteArray := prog_9_method_19_code
def yX7_find : MethodName := ⟨RX7, "find", "(I)V"⟩
abbrev cX7_findMerge : ByteArray := prog_9_method_20_code
def yX7_findMerge : MethodName := ⟨RX7, "findMerge", "(II)V"⟩
abbrev cX7_findSort : ByteArray := prog_9_method_21_code
def yX7_findSort : MethodName := ⟨RX7, "findSort", "(II)V"⟩
abbrev cX7_findScript : ByteArray := prog_9_method_22_code
def yX7_findScript : MethodName := ⟨RX7, "findScript", "(I)V"⟩
abbrev cX7_look : ByteArray := prog_9_method_23_code
def yX7_look : MethodName := ⟨RX7, "look", "(I)V"⟩
abbrev cX7_bandAt : ByteArray := prog_9_method_24_code
def yX7_bandAt : MethodName := ⟨RX7, "bandAt", "(I)I"⟩
abbrev cX7_isOver : ByteArray := prog_9_method_25_code
def yX7_isOver : MethodName := ⟨RX7, "isOver", "(I)Z"⟩
abbrev cX7_stateOf : ByteArray := prog_9_method_26_code
def yX7_stateOf : MethodName := ⟨RX7, "stateOf", "(I)I"⟩
abbrev cX7_end : ByteArray := prog_9_method_27_code
def yX7_end : MethodName := ⟨RX7, "end", "(IIII)V"⟩
abbrev cX7_got : ByteArray := prog_9_method_28_code
def yX7_got : MethodName := ⟨RX7, "got", "(IJ)V"⟩
abbrev cX7_insert : ByteArray := prog_9_method_29_code
def yX7_insert : MethodName := ⟨RX7, "insert", "(IJ)V"⟩
abbrev cX7_gotEnd : ByteArray := prog_9_method_30_code
def yX7_gotEnd : MethodName := ⟨RX7, "gotEnd", "(I)V"⟩
abbrev cX7_doRead : ByteArray := prog_9_method_31_code
def yX7_doRead : MethodName := ⟨RX7, "doRead", "(I)V"⟩
abbrev cX7_gave : ByteArray := prog_9_method_32_code
def yX7_gave : MethodName := ⟨RX7, "gave", "(I)V"⟩
abbrev cX7_doWrite : ByteArray := prog_9_method_33_code
def yX7_doWrite : MethodName := ⟨RX7, "doWrite", "(I)V"⟩
abbrev cX7_doAct : ByteArray := prog_9_method_34_code
def yX7_doAct : MethodName := ⟨RX7, "doAct", "(I)V"⟩
abbrev cX7_canAny : ByteArray := prog_9_method_35_code
def yX7_canAny : MethodName := ⟨RX7, "canAny", "()Z"⟩
abbrev cX7_narrow : ByteArray := prog_9_method_36_code
def yX7_narrow : MethodName := ⟨RX7, "narrow", "()I"⟩
abbrev cX7_widen : ByteArray := prog_9_method_37_code
def yX7_widen : MethodName := ⟨RX7, "widen", "(I)V"⟩
abbrev cX7_run : ByteArray := prog_9_method_38_code
def yX7_run : MethodName := ⟨RX7, "run", "(III)I"⟩
abbrev cX7_reset : ByteArray := prog_9_method_39_code
def yX7_reset : MethodName := ⟨RX7, "reset", "()I"⟩
abbrev cX7_told : ByteArray := prog_9_method_40_code
def yX7_told : MethodName := ⟨RX7, "told", "(II)I"⟩
abbrev cX7_patternOf : ByteArray := prog_9_method_41_code
def yX7_patternOf : MethodName := ⟨RX7, "patternOf", "(II)J"⟩
abbrev cX7_woven : ByteArray := prog_9_method_42_code
def yX7_woven : MethodName := ⟨RX7, "woven", "(II)J"⟩
abbrev cX7_endOf : ByteArray := prog_9_method_43_code
def yX7_endOf : MethodName := ⟨RX7, "endOf", "(I)I"⟩
abbrev cX7_bandTold : ByteArray := prog_9_method_44_code
def yX7_bandTold : MethodName := ⟨RX7, "bandTold", "(II)I"⟩
abbrev cX7_history : ByteArray := prog_9_method_45_code
def yX7_history : MethodName := ⟨RX7, "history", "(II)J"⟩
abbrev cX7_digest : ByteArray := prog_9_method_46_code
def yX7_digest : MethodName := ⟨RX7, "digest", "(I)J"⟩
abbrev cX7_widened : ByteArray := prog_9_method_47_code
def yX7_widened : MethodName := ⟨RX7, "widened", "(I)I"⟩
abbrev cX7_failure : ByteArray := prog_9_method_48_code
def yX7_failure : MethodName := ⟨RX7, "failure", "(II)I"⟩
abbrev cX7_common : ByteArray := prog_9_method_49_code
def yX7_common : MethodName := ⟨RX7, "common", "(JJ)J"⟩
abbrev cX7_findParts : ByteArray := prog_9_method_50_code
def yX7_findParts : MethodName := ⟨RX7, "findParts", "()V"⟩
abbrev cX7_isFixed : ByteArray := prog_9_method_51_code
def yX7_isFixed : MethodName := ⟨RX7, "isFixed", "()Z"⟩
abbrev cX7_writesOf : ByteArray := prog_9_method_52_code
def yX7_writesOf : MethodName := ⟨RX7, "writesOf", "(I)I"⟩
abbrev cX7_rate : ByteArray := prog_9_method_53_code
def yX7_rate : MethodName := ⟨RX7, "rate", "(IIJJ)Z"⟩
abbrev cX7_findRates : ByteArray := prog_9_method_54_code
def yX7_findRates : MethodName := ⟨RX7, "findRates", "()Z"⟩
abbrev cX7_findFirings : ByteArray := prog_9_method_55_code
def yX7_findFirings : MethodName := ⟨RX7, "findFirings", "()Z"⟩
abbrev cX7_balance : ByteArray := prog_9_method_56_code
def yX7_balance : MethodName := ⟨RX7, "balance", "(I)I"⟩
abbrev cX7_count : ByteArray := prog_9_method_57_code
def yX7_count : MethodName := ⟨RX7, "count", "(I)I"⟩
def RJ9 : String := "java/lang/Math"
abbrev cJ9_max_7cf53 : ByteArray := prog_11_method_65_code
def yJ9_max_7cf53 : MethodName := ⟨RJ9, "max", "(II)I"⟩
abbrev cJ9_min_7cf53 : ByteArray := prog_11_method_69_code
def yJ9_min_7cf53 : MethodName := ⟨RJ9, "min", "(II)I"⟩
def RJ10 : String := "java/lang/System"
def RJ7 : String := "java/util/Arrays"
abbrev cJ7_fill_d0a16 : ByteArray := prog_13_method_101_code
def yJ7_fill_d0a16 : MethodName := ⟨RJ7, "fill", "([JJ)V"⟩
abbrev cJ7_copyOf_c38d5 : ByteArray := prog_13_method_124_code
def yJ7_copyOf_c38d5 : MethodName := ⟨RJ7, "copyOf", "([JI)[J"⟩
def RL : String := "WeaveHallLaw"
abbrev cL_law : ByteArray := code
def yL_law : MethodName := ⟨RL, "law", "([I)Z"⟩
abbrev vwCl : List vw_C := [(RX0, TX0, 12), (RX1, TX1, 4), (RX2, TX2, 4), (RX3, TX3, 2), (RX4, TX4, 6), (RX5, TX5, 16), (RX6, TX6, 10), (RX7, TX7, 55)]
def am_tbl : List Cond := lw_tbl.filter goodWord
theorem am_tbl_at {w : Cond} (p : Nat) (h : lw_tbl[p]? = some w) (hg : goodWord w = true) : w ∈ am_tbl := List.mem_filter.mpr ⟨List.mem_of_getElem? h, hg⟩
theorem am_tbl_of {ws : List Cond} (h : ws.all (fun w => decide (w ∈ lw_tbl) && goodWord w) = true) : ∀ w ∈ ws, w ∈ am_tbl := by
  intro w hw
  have h1 := List.all_eq_true.mp h w hw
  simp only [Bool.and_eq_true, decide_eq_true_eq] at h1
  exact List.mem_filter.mpr h1
theorem am_in0 : ∀ w ∈ u_ws RX0 TX0 12, w ∈ am_tbl := am_tbl_of (by decide +kernel)
theorem am_in1 : ∀ w ∈ u_ws RX1 TX1 4, w ∈ am_tbl := am_tbl_of (by decide +kernel)
theorem am_in2 : ∀ w ∈ u_ws RX2 TX2 4, w ∈ am_tbl := am_tbl_of (by decide +kernel)
theorem am_in3 : ∀ w ∈ u_ws RX3 TX3 2, w ∈ am_tbl := am_tbl_of (by decide +kernel)
theorem am_in4 : ∀ w ∈ u_ws RX4 TX4 6, w ∈ am_tbl := am_tbl_of (by decide +kernel)
theorem am_in5 : ∀ w ∈ u_ws RX5 TX5 16, w ∈ am_tbl := am_tbl_of (by decide +kernel)
theorem am_in6 : ∀ w ∈ u_ws RX6 TX6 10, w ∈ am_tbl := am_tbl_of (by decide +kernel)
theorem am_in7 : ∀ w ∈ u_ws RX7 TX7 55, w ∈ am_tbl := am_tbl_of (by decide +kernel)
