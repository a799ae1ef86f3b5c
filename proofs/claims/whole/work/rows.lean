section
-- ===== PART A: goes FIRST, ahead of the names: the tables' words, and 'selects' of the private methods out of them =====
/-- a private method of a class that the tables say can be made, by its rows of tables_1 -/
def lw_okq (q : MethodName × Nat) : Prop := (q.1.cls ≠ "java/lang/invoke/MethodHandle" ∧ q.1.cls ≠ "java/lang/invoke/VarHandle") ∧ Cond.instantiable q.1.cls q.2 ∈ tables_1 ∧ Cond.privateMethod q.1 ∈ tables_1 ∧ Cond.instanceMethod q.1 ∈ tables_1
theorem lw_p0 : lw_okq (⟨"ToldNineTimes$Script", "append", "(I)V"⟩, 2) := ⟨⟨by decide +kernel, by decide +kernel⟩, List.mem_of_getElem? (i := 22) (by decide +kernel), List.mem_of_getElem? (i := 206) (by decide +kernel), List.mem_of_getElem? (i := 207) (by decide +kernel)⟩
theorem lw_p1 : lw_okq (⟨"ToldNineTimes$Script", "readInto", "(LToldNineTimes$Day;)I"⟩, 2) := ⟨⟨by decide +kernel, by decide +kernel⟩, List.mem_of_getElem? (i := 22) (by decide +kernel), List.mem_of_getElem? (i := 218) (by decide +kernel), List.mem_of_getElem? (i := 219) (by decide +kernel)⟩
theorem lw_p2 : lw_okq (⟨"ToldNineTimes$Day", "clear", "()V"⟩, 8) := ⟨⟨by decide +kernel, by decide +kernel⟩, List.mem_of_getElem? (i := 98) (by decide +kernel), List.mem_of_getElem? (i := 222) (by decide +kernel), List.mem_of_getElem? (i := 223) (by decide +kernel)⟩
theorem lw_p3 : lw_okq (⟨"ToldNineTimes$Script", "signAt", "(I)I"⟩, 2) := ⟨⟨by decide +kernel, by decide +kernel⟩, List.mem_of_getElem? (i := 22) (by decide +kernel), List.mem_of_getElem? (i := 229) (by decide +kernel), List.mem_of_getElem? (i := 230) (by decide +kernel)⟩
theorem lw_p4 : lw_okq (⟨"ToldNineTimes$Script", "figureAt", "(II)I"⟩, 2) := ⟨⟨by decide +kernel, by decide +kernel⟩, List.mem_of_getElem? (i := 22) (by decide +kernel), List.mem_of_getElem? (i := 233) (by decide +kernel), List.mem_of_getElem? (i := 234) (by decide +kernel)⟩
theorem lw_p5 : lw_okq (⟨"ToldNineTimes$Script", "readPart", "(LToldNineTimes$Day;I)I"⟩, 2) := ⟨⟨by decide +kernel, by decide +kernel⟩, List.mem_of_getElem? (i := 22) (by decide +kernel), List.mem_of_getElem? (i := 237) (by decide +kernel), List.mem_of_getElem? (i := 238) (by decide +kernel)⟩
theorem lw_p6 : lw_okq (⟨"ToldNineTimes$Script", "readPerson", "(LToldNineTimes$Day;I)I"⟩, 2) := ⟨⟨by decide +kernel, by decide +kernel⟩, List.mem_of_getElem? (i := 22) (by decide +kernel), List.mem_of_getElem? (i := 241) (by decide +kernel), List.mem_of_getElem? (i := 242) (by decide +kernel)⟩
theorem lw_p7 : lw_okq (⟨"ToldNineTimes$Day", "put", "(III)V"⟩, 8) := ⟨⟨by decide +kernel, by decide +kernel⟩, List.mem_of_getElem? (i := 98) (by decide +kernel), List.mem_of_getElem? (i := 245) (by decide +kernel), List.mem_of_getElem? (i := 246) (by decide +kernel)⟩
theorem lw_p8 : lw_okq (⟨"ToldNineTimes$Script", "readNews", "(LToldNineTimes$Day;I)I"⟩, 2) := ⟨⟨by decide +kernel, by decide +kernel⟩, List.mem_of_getElem? (i := 22) (by decide +kernel), List.mem_of_getElem? (i := 252) (by decide +kernel), List.mem_of_getElem? (i := 253) (by decide +kernel)⟩
theorem lw_p9 : lw_okq (⟨"ToldNineTimes$Standing", "beginWith", "(LToldNineTimes$Day;)V"⟩, 6) := ⟨⟨by decide +kernel, by decide +kernel⟩, List.mem_of_getElem? (i := 37) (by decide +kernel), List.mem_of_getElem? (i := 266) (by decide +kernel), List.mem_of_getElem? (i := 267) (by decide +kernel)⟩
theorem lw_p10 : lw_okq (⟨"ToldNineTimes", "tellingsOfAll", "()I"⟩, 9) := ⟨⟨by decide +kernel, by decide +kernel⟩, List.mem_of_getElem? (i := 14) (by decide +kernel), List.mem_of_getElem? (i := 278) (by decide +kernel), List.mem_of_getElem? (i := 279) (by decide +kernel)⟩
theorem lw_p11 : lw_okq (⟨"ToldNineTimes$Standing", "tellingsOf", "(I)I"⟩, 6) := ⟨⟨by decide +kernel, by decide +kernel⟩, List.mem_of_getElem? (i := 37) (by decide +kernel), List.mem_of_getElem? (i := 282) (by decide +kernel), List.mem_of_getElem? (i := 283) (by decide +kernel)⟩
theorem lw_p12 : lw_okq (⟨"ToldNineTimes", "worthOfAll", "()I"⟩, 9) := ⟨⟨by decide +kernel, by decide +kernel⟩, List.mem_of_getElem? (i := 14) (by decide +kernel), List.mem_of_getElem? (i := 286) (by decide +kernel), List.mem_of_getElem? (i := 287) (by decide +kernel)⟩
theorem lw_p13 : lw_okq (⟨"ToldNineTimes", "isPerson", "(I)Z"⟩, 9) := ⟨⟨by decide +kernel, by decide +kernel⟩, List.mem_of_getElem? (i := 14) (by decide +kernel), List.mem_of_getElem? (i := 300) (by decide +kernel), List.mem_of_getElem? (i := 301) (by decide +kernel)⟩
theorem lw_p14 : lw_okq (⟨"ToldNineTimes$Day", "placeOf", "(II)I"⟩, 8) := ⟨⟨by decide +kernel, by decide +kernel⟩, List.mem_of_getElem? (i := 98) (by decide +kernel), List.mem_of_getElem? (i := 307) (by decide +kernel), List.mem_of_getElem? (i := 308) (by decide +kernel)⟩
theorem lw_p15 : lw_okq (⟨"ToldNineTimes", "isNews", "(I)Z"⟩, 9) := ⟨⟨by decide +kernel, by decide +kernel⟩, List.mem_of_getElem? (i := 14) (by decide +kernel), List.mem_of_getElem? (i := 315) (by decide +kernel), List.mem_of_getElem? (i := 316) (by decide +kernel)⟩
def lw_privs_1 : List (MethodName × Nat) := [(⟨"ToldNineTimes$Script", "append", "(I)V"⟩, 2), (⟨"ToldNineTimes$Script", "readInto", "(LToldNineTimes$Day;)I"⟩, 2), (⟨"ToldNineTimes$Day", "clear", "()V"⟩, 8), (⟨"ToldNineTimes$Script", "signAt", "(I)I"⟩, 2), (⟨"ToldNineTimes$Script", "figureAt", "(II)I"⟩, 2), (⟨"ToldNineTimes$Script", "readPart", "(LToldNineTimes$Day;I)I"⟩, 2), (⟨"ToldNineTimes$Script", "readPerson", "(LToldNineTimes$Day;I)I"⟩, 2), (⟨"ToldNineTimes$Day", "put", "(III)V"⟩, 8), (⟨"ToldNineTimes$Script", "readNews", "(LToldNineTimes$Day;I)I"⟩, 2), (⟨"ToldNineTimes$Standing", "beginWith", "(LToldNineTimes$Day;)V"⟩, 6), (⟨"ToldNineTimes", "tellingsOfAll", "()I"⟩, 9), (⟨"ToldNineTimes$Standing", "tellingsOf", "(I)I"⟩, 6), (⟨"ToldNineTimes", "worthOfAll", "()I"⟩, 9), (⟨"ToldNineTimes", "isPerson", "(I)Z"⟩, 9), (⟨"ToldNineTimes$Day", "placeOf", "(II)I"⟩, 8), (⟨"ToldNineTimes", "isNews", "(I)Z"⟩, 9)]
theorem lw_r1 : ∀ q ∈ lw_privs_1, lw_okq q := List.forall_mem_cons.mpr ⟨lw_p0, List.forall_mem_cons.mpr ⟨lw_p1, List.forall_mem_cons.mpr ⟨lw_p2, List.forall_mem_cons.mpr ⟨lw_p3, List.forall_mem_cons.mpr ⟨lw_p4, List.forall_mem_cons.mpr ⟨lw_p5, List.forall_mem_cons.mpr ⟨lw_p6, List.forall_mem_cons.mpr ⟨lw_p7, List.forall_mem_cons.mpr ⟨lw_p8, List.forall_mem_cons.mpr ⟨lw_p9, List.forall_mem_cons.mpr ⟨lw_p10, List.forall_mem_cons.mpr ⟨lw_p11, List.forall_mem_cons.mpr ⟨lw_p12, List.forall_mem_cons.mpr ⟨lw_p13, List.forall_mem_cons.mpr ⟨lw_p14, List.forall_mem_cons.mpr ⟨lw_p15, fun _ h => absurd h List.not_mem_nil⟩⟩⟩⟩⟩⟩⟩⟩⟩⟩⟩⟩⟩⟩⟩⟩
theorem lw_p16 : lw_okq (⟨"ToldNineTimes$Standing", "knows", "(II)Z"⟩, 6) := ⟨⟨by decide +kernel, by decide +kernel⟩, List.mem_of_getElem? (i := 37) (by decide +kernel), List.mem_of_getElem? (i := 327) (by decide +kernel), List.mem_of_getElem? (i := 328) (by decide +kernel)⟩
theorem lw_p17 : lw_okq (⟨"ToldNineTimes$Standing", "allows", "(LToldNineTimes$Day;II)Z"⟩, 6) := ⟨⟨by decide +kernel, by decide +kernel⟩, List.mem_of_getElem? (i := 37) (by decide +kernel), List.mem_of_getElem? (i := 335) (by decide +kernel), List.mem_of_getElem? (i := 336) (by decide +kernel)⟩
theorem lw_p18 : lw_okq (⟨"ToldNineTimes$Day", "group", "(II)I"⟩, 8) := ⟨⟨by decide +kernel, by decide +kernel⟩, List.mem_of_getElem? (i := 98) (by decide +kernel), List.mem_of_getElem? (i := 341) (by decide +kernel), List.mem_of_getElem? (i := 342) (by decide +kernel)⟩
theorem lw_p19 : lw_okq (⟨"ToldNineTimes$Standing", "packedKnown", "()I"⟩, 6) := ⟨⟨by decide +kernel, by decide +kernel⟩, List.mem_of_getElem? (i := 37) (by decide +kernel), List.mem_of_getElem? (i := 354) (by decide +kernel), List.mem_of_getElem? (i := 355) (by decide +kernel)⟩
theorem lw_p20 : lw_okq (⟨"ToldNineTimes$Acts", "append", "(I)V"⟩, 2) := ⟨⟨by decide +kernel, by decide +kernel⟩, List.mem_of_getElem? (i := 67) (by decide +kernel), List.mem_of_getElem? (i := 361) (by decide +kernel), List.mem_of_getElem? (i := 362) (by decide +kernel)⟩
theorem lw_p21 : lw_okq (⟨"ToldNineTimes$Standing", "spread", "(LToldNineTimes$Day;II)I"⟩, 6) := ⟨⟨by decide +kernel, by decide +kernel⟩, List.mem_of_getElem? (i := 37) (by decide +kernel), List.mem_of_getElem? (i := 366) (by decide +kernel), List.mem_of_getElem? (i := 367) (by decide +kernel)⟩
theorem lw_p22 : lw_okq (⟨"ToldNineTimes$Standing", "count", "(LToldNineTimes$Day;III)V"⟩, 6) := ⟨⟨by decide +kernel, by decide +kernel⟩, List.mem_of_getElem? (i := 37) (by decide +kernel), List.mem_of_getElem? (i := 371) (by decide +kernel), List.mem_of_getElem? (i := 372) (by decide +kernel)⟩
theorem lw_p23 : lw_okq (⟨"ToldNineTimes$Acts", "takeLast", "()I"⟩, 2) := ⟨⟨by decide +kernel, by decide +kernel⟩, List.mem_of_getElem? (i := 67) (by decide +kernel), List.mem_of_getElem? (i := 384) (by decide +kernel), List.mem_of_getElem? (i := 385) (by decide +kernel)⟩
theorem lw_p24 : lw_okq (⟨"ToldNineTimes$Standing", "unpackKnown", "(I)V"⟩, 6) := ⟨⟨by decide +kernel, by decide +kernel⟩, List.mem_of_getElem? (i := 37) (by decide +kernel), List.mem_of_getElem? (i := 402) (by decide +kernel), List.mem_of_getElem? (i := 403) (by decide +kernel)⟩
theorem lw_p25 : lw_okq (⟨"ToldNineTimes$Standing", "copyFrom", "(LToldNineTimes$Standing;)V"⟩, 6) := ⟨⟨by decide +kernel, by decide +kernel⟩, List.mem_of_getElem? (i := 37) (by decide +kernel), List.mem_of_getElem? (i := 413) (by decide +kernel), List.mem_of_getElem? (i := 414) (by decide +kernel)⟩
theorem lw_p26 : lw_okq (⟨"ToldNineTimes", "triedFigure", "(II)Z"⟩, 9) := ⟨⟨by decide +kernel, by decide +kernel⟩, List.mem_of_getElem? (i := 14) (by decide +kernel), List.mem_of_getElem? (i := 420) (by decide +kernel), List.mem_of_getElem? (i := 421) (by decide +kernel)⟩
theorem lw_p27 : lw_okq (⟨"ToldNineTimes", "refusalOfPlan", "(II)I"⟩, 9) := ⟨⟨by decide +kernel, by decide +kernel⟩, List.mem_of_getElem? (i := 14) (by decide +kernel), List.mem_of_getElem? (i := 428) (by decide +kernel), List.mem_of_getElem? (i := 429) (by decide +kernel)⟩
theorem lw_p28 : lw_okq (⟨"ToldNineTimes", "leastTellings", "(II)I"⟩, 9) := ⟨⟨by decide +kernel, by decide +kernel⟩, List.mem_of_getElem? (i := 14) (by decide +kernel), List.mem_of_getElem? (i := 432) (by decide +kernel), List.mem_of_getElem? (i := 433) (by decide +kernel)⟩
theorem lw_p29 : lw_okq (⟨"ToldNineTimes$Outlook", "want", "(LToldNineTimes$Day;I)V"⟩, 7) := ⟨⟨by decide +kernel, by decide +kernel⟩, List.mem_of_getElem? (i := 146) (by decide +kernel), List.mem_of_getElem? (i := 436) (by decide +kernel), List.mem_of_getElem? (i := 437) (by decide +kernel)⟩
theorem lw_p30 : lw_okq (⟨"ToldNineTimes$Outlook", "need", "(II)I"⟩, 7) := ⟨⟨by decide +kernel, by decide +kernel⟩, List.mem_of_getElem? (i := 146) (by decide +kernel), List.mem_of_getElem? (i := 441) (by decide +kernel), List.mem_of_getElem? (i := 442) (by decide +kernel)⟩
theorem lw_p31 : lw_okq (⟨"ToldNineTimes$Outlook", "needBy", "(III)I"⟩, 7) := ⟨⟨by decide +kernel, by decide +kernel⟩, List.mem_of_getElem? (i := 146) (by decide +kernel), List.mem_of_getElem? (i := 445) (by decide +kernel), List.mem_of_getElem? (i := 446) (by decide +kernel)⟩
def lw_privs_2 : List (MethodName × Nat) := [(⟨"ToldNineTimes$Standing", "knows", "(II)Z"⟩, 6), (⟨"ToldNineTimes$Standing", "allows", "(LToldNineTimes$Day;II)Z"⟩, 6), (⟨"ToldNineTimes$Day", "group", "(II)I"⟩, 8), (⟨"ToldNineTimes$Standing", "packedKnown", "()I"⟩, 6), (⟨"ToldNineTimes$Acts", "append", "(I)V"⟩, 2), (⟨"ToldNineTimes$Standing", "spread", "(LToldNineTimes$Day;II)I"⟩, 6), (⟨"ToldNineTimes$Standing", "count", "(LToldNineTimes$Day;III)V"⟩, 6), (⟨"ToldNineTimes$Acts", "takeLast", "()I"⟩, 2), (⟨"ToldNineTimes$Standing", "unpackKnown", "(I)V"⟩, 6), (⟨"ToldNineTimes$Standing", "copyFrom", "(LToldNineTimes$Standing;)V"⟩, 6), (⟨"ToldNineTimes", "triedFigure", "(II)Z"⟩, 9), (⟨"ToldNineTimes", "refusalOfPlan", "(II)I"⟩, 9), (⟨"ToldNineTimes", "leastTellings", "(II)I"⟩, 9), (⟨"ToldNineTimes$Outlook", "want", "(LToldNineTimes$Day;I)V"⟩, 7), (⟨"ToldNineTimes$Outlook", "need", "(II)I"⟩, 7), (⟨"ToldNineTimes$Outlook", "needBy", "(III)I"⟩, 7)]
theorem lw_r2 : ∀ q ∈ lw_privs_2, lw_okq q := List.forall_mem_cons.mpr ⟨lw_p16, List.forall_mem_cons.mpr ⟨lw_p17, List.forall_mem_cons.mpr ⟨lw_p18, List.forall_mem_cons.mpr ⟨lw_p19, List.forall_mem_cons.mpr ⟨lw_p20, List.forall_mem_cons.mpr ⟨lw_p21, List.forall_mem_cons.mpr ⟨lw_p22, List.forall_mem_cons.mpr ⟨lw_p23, List.forall_mem_cons.mpr ⟨lw_p24, List.forall_mem_cons.mpr ⟨lw_p25, List.forall_mem_cons.mpr ⟨lw_p26, List.forall_mem_cons.mpr ⟨lw_p27, List.forall_mem_cons.mpr ⟨lw_p28, List.forall_mem_cons.mpr ⟨lw_p29, List.forall_mem_cons.mpr ⟨lw_p30, List.forall_mem_cons.mpr ⟨lw_p31, fun _ h => absurd h List.not_mem_nil⟩⟩⟩⟩⟩⟩⟩⟩⟩⟩⟩⟩⟩⟩⟩⟩
theorem lw_p32 : lw_okq (⟨"ToldNineTimes$Outlook", "behind", "(III)I"⟩, 7) := ⟨⟨by decide +kernel, by decide +kernel⟩, List.mem_of_getElem? (i := 146) (by decide +kernel), List.mem_of_getElem? (i := 449) (by decide +kernel), List.mem_of_getElem? (i := 450) (by decide +kernel)⟩
theorem lw_p33 : lw_okq (⟨"ToldNineTimes", "leftOf", "(I)I"⟩, 9) := ⟨⟨by decide +kernel, by decide +kernel⟩, List.mem_of_getElem? (i := 14) (by decide +kernel), List.mem_of_getElem? (i := 460) (by decide +kernel), List.mem_of_getElem? (i := 461) (by decide +kernel)⟩
theorem lw_p34 : lw_okq (⟨"ToldNineTimes$Outlook", "planned", "(III)I"⟩, 7) := ⟨⟨by decide +kernel, by decide +kernel⟩, List.mem_of_getElem? (i := 146) (by decide +kernel), List.mem_of_getElem? (i := 468) (by decide +kernel), List.mem_of_getElem? (i := 469) (by decide +kernel)⟩
theorem lw_p35 : lw_okq (⟨"ToldNineTimes$Outlook", "firstOfLeast", "(II)I"⟩, 7) := ⟨⟨by decide +kernel, by decide +kernel⟩, List.mem_of_getElem? (i := 146) (by decide +kernel), List.mem_of_getElem? (i := 472) (by decide +kernel), List.mem_of_getElem? (i := 473) (by decide +kernel)⟩
theorem lw_p36 : lw_okq (⟨"ToldNineTimes$Outlook", "lookFrom", "(LToldNineTimes$Day;II)V"⟩, 7) := ⟨⟨by decide +kernel, by decide +kernel⟩, List.mem_of_getElem? (i := 146) (by decide +kernel), List.mem_of_getElem? (i := 480) (by decide +kernel), List.mem_of_getElem? (i := 481) (by decide +kernel)⟩
theorem lw_p37 : lw_okq (⟨"ToldNineTimes$Outlook", "goThrough", "(II)V"⟩, 7) := ⟨⟨by decide +kernel, by decide +kernel⟩, List.mem_of_getElem? (i := 146) (by decide +kernel), List.mem_of_getElem? (i := 484) (by decide +kernel), List.mem_of_getElem? (i := 485) (by decide +kernel)⟩
theorem lw_p38 : lw_okq (⟨"ToldNineTimes$Outlook", "mostKnowing", "()I"⟩, 7) := ⟨⟨by decide +kernel, by decide +kernel⟩, List.mem_of_getElem? (i := 146) (by decide +kernel), List.mem_of_getElem? (i := 488) (by decide +kernel), List.mem_of_getElem? (i := 489) (by decide +kernel)⟩
theorem lw_p39 : lw_okq (⟨"ToldNineTimes$Outlook", "canBeSpent", "()Z"⟩, 7) := ⟨⟨by decide +kernel, by decide +kernel⟩, List.mem_of_getElem? (i := 146) (by decide +kernel), List.mem_of_getElem? (i := 497) (by decide +kernel), List.mem_of_getElem? (i := 498) (by decide +kernel)⟩
theorem lw_p40 : lw_okq (⟨"ToldNineTimes$Outlook", "wonBy", "(II)I"⟩, 7) := ⟨⟨by decide +kernel, by decide +kernel⟩, List.mem_of_getElem? (i := 146) (by decide +kernel), List.mem_of_getElem? (i := 505) (by decide +kernel), List.mem_of_getElem? (i := 506) (by decide +kernel)⟩
theorem lw_p41 : lw_okq (⟨"ToldNineTimes$Outlook", "wonByChoice", "(III)I"⟩, 7) := ⟨⟨by decide +kernel, by decide +kernel⟩, List.mem_of_getElem? (i := 146) (by decide +kernel), List.mem_of_getElem? (i := 511) (by decide +kernel), List.mem_of_getElem? (i := 512) (by decide +kernel)⟩
theorem lw_p42 : lw_okq (⟨"ToldNineTimes", "hoursOfHearing", "(III)I"⟩, 9) := ⟨⟨by decide +kernel, by decide +kernel⟩, List.mem_of_getElem? (i := 14) (by decide +kernel), List.mem_of_getElem? (i := 522) (by decide +kernel), List.mem_of_getElem? (i := 523) (by decide +kernel)⟩
theorem lw_p43 : lw_okq (⟨"ToldNineTimes$Sights", "see", "(IIZ)V"⟩, 3) := ⟨⟨by decide +kernel, by decide +kernel⟩, List.mem_of_getElem? (i := 81) (by decide +kernel), List.mem_of_getElem? (i := 534) (by decide +kernel), List.mem_of_getElem? (i := 535) (by decide +kernel)⟩
theorem lw_p44 : lw_okq (⟨"ToldNineTimes$Sights", "forget", "()V"⟩, 3) := ⟨⟨by decide +kernel, by decide +kernel⟩, List.mem_of_getElem? (i := 81) (by decide +kernel), List.mem_of_getElem? (i := 542) (by decide +kernel), List.mem_of_getElem? (i := 543) (by decide +kernel)⟩
theorem lw_p45 : lw_okq (⟨"ToldNineTimes$Outlook", "countFrom", "(LToldNineTimes$Day;II)V"⟩, 7) := ⟨⟨by decide +kernel, by decide +kernel⟩, List.mem_of_getElem? (i := 146) (by decide +kernel), List.mem_of_getElem? (i := 551) (by decide +kernel), List.mem_of_getElem? (i := 552) (by decide +kernel)⟩
theorem lw_p46 : lw_okq (⟨"ToldNineTimes$Outlook", "countThrough", "(I)V"⟩, 7) := ⟨⟨by decide +kernel, by decide +kernel⟩, List.mem_of_getElem? (i := 146) (by decide +kernel), List.mem_of_getElem? (i := 555) (by decide +kernel), List.mem_of_getElem? (i := 556) (by decide +kernel)⟩
theorem lw_p47 : lw_okq (⟨"ToldNineTimes$Outlook", "isReached", "(I)Z"⟩, 7) := ⟨⟨by decide +kernel, by decide +kernel⟩, List.mem_of_getElem? (i := 146) (by decide +kernel), List.mem_of_getElem? (i := 559) (by decide +kernel), List.mem_of_getElem? (i := 560) (by decide +kernel)⟩
def lw_privs_3 : List (MethodName × Nat) := [(⟨"ToldNineTimes$Outlook", "behind", "(III)I"⟩, 7), (⟨"ToldNineTimes", "leftOf", "(I)I"⟩, 9), (⟨"ToldNineTimes$Outlook", "planned", "(III)I"⟩, 7), (⟨"ToldNineTimes$Outlook", "firstOfLeast", "(II)I"⟩, 7), (⟨"ToldNineTimes$Outlook", "lookFrom", "(LToldNineTimes$Day;II)V"⟩, 7), (⟨"ToldNineTimes$Outlook", "goThrough", "(II)V"⟩, 7), (⟨"ToldNineTimes$Outlook", "mostKnowing", "()I"⟩, 7), (⟨"ToldNineTimes$Outlook", "canBeSpent", "()Z"⟩, 7), (⟨"ToldNineTimes$Outlook", "wonBy", "(II)I"⟩, 7), (⟨"ToldNineTimes$Outlook", "wonByChoice", "(III)I"⟩, 7), (⟨"ToldNineTimes", "hoursOfHearing", "(III)I"⟩, 9), (⟨"ToldNineTimes$Sights", "see", "(IIZ)V"⟩, 3), (⟨"ToldNineTimes$Sights", "forget", "()V"⟩, 3), (⟨"ToldNineTimes$Outlook", "countFrom", "(LToldNineTimes$Day;II)V"⟩, 7), (⟨"ToldNineTimes$Outlook", "countThrough", "(I)V"⟩, 7), (⟨"ToldNineTimes$Outlook", "isReached", "(I)Z"⟩, 7)]
theorem lw_r3 : ∀ q ∈ lw_privs_3, lw_okq q := List.forall_mem_cons.mpr ⟨lw_p32, List.forall_mem_cons.mpr ⟨lw_p33, List.forall_mem_cons.mpr ⟨lw_p34, List.forall_mem_cons.mpr ⟨lw_p35, List.forall_mem_cons.mpr ⟨lw_p36, List.forall_mem_cons.mpr ⟨lw_p37, List.forall_mem_cons.mpr ⟨lw_p38, List.forall_mem_cons.mpr ⟨lw_p39, List.forall_mem_cons.mpr ⟨lw_p40, List.forall_mem_cons.mpr ⟨lw_p41, List.forall_mem_cons.mpr ⟨lw_p42, List.forall_mem_cons.mpr ⟨lw_p43, List.forall_mem_cons.mpr ⟨lw_p44, List.forall_mem_cons.mpr ⟨lw_p45, List.forall_mem_cons.mpr ⟨lw_p46, List.forall_mem_cons.mpr ⟨lw_p47, fun _ h => absurd h List.not_mem_nil⟩⟩⟩⟩⟩⟩⟩⟩⟩⟩⟩⟩⟩⟩⟩⟩
theorem lw_p48 : lw_okq (⟨"ToldNineTimes$Outlook", "findNexts", "(II)V"⟩, 7) := ⟨⟨by decide +kernel, by decide +kernel⟩, List.mem_of_getElem? (i := 146) (by decide +kernel), List.mem_of_getElem? (i := 563) (by decide +kernel), List.mem_of_getElem? (i := 564) (by decide +kernel)⟩
theorem lw_p49 : lw_okq (⟨"ToldNineTimes$Outlook", "countOn", "(II)V"⟩, 7) := ⟨⟨by decide +kernel, by decide +kernel⟩, List.mem_of_getElem? (i := 146) (by decide +kernel), List.mem_of_getElem? (i := 567) (by decide +kernel), List.mem_of_getElem? (i := 568) (by decide +kernel)⟩
theorem lw_p50 : lw_okq (⟨"ToldNineTimes$Outlook", "strikeUnseen", "(ILToldNineTimes$Sights;)V"⟩, 7) := ⟨⟨by decide +kernel, by decide +kernel⟩, List.mem_of_getElem? (i := 146) (by decide +kernel), List.mem_of_getElem? (i := 571) (by decide +kernel), List.mem_of_getElem? (i := 572) (by decide +kernel)⟩
theorem lw_p51 : lw_okq (⟨"ToldNineTimes$Sights", "fit", "(II)Z"⟩, 3) := ⟨⟨by decide +kernel, by decide +kernel⟩, List.mem_of_getElem? (i := 81) (by decide +kernel), List.mem_of_getElem? (i := 575) (by decide +kernel), List.mem_of_getElem? (i := 576) (by decide +kernel)⟩
theorem lw_p52 : lw_okq (⟨"ToldNineTimes$Outlook", "counted", "()I"⟩, 7) := ⟨⟨by decide +kernel, by decide +kernel⟩, List.mem_of_getElem? (i := 146) (by decide +kernel), List.mem_of_getElem? (i := 579) (by decide +kernel), List.mem_of_getElem? (i := 580) (by decide +kernel)⟩
theorem lw_p53 : lw_okq (⟨"ToldNineTimesModel", "readDay", "()I"⟩, 34) := ⟨⟨by decide +kernel, by decide +kernel⟩, List.mem_of_getElem? (i := 591) (by decide +kernel), List.mem_of_getElem? (i := 717) (by decide +kernel), List.mem_of_getElem? (i := 718) (by decide +kernel)⟩
theorem lw_p54 : lw_okq (⟨"ToldNineTimesModel", "figure", "(II)I"⟩, 34) := ⟨⟨by decide +kernel, by decide +kernel⟩, List.mem_of_getElem? (i := 591) (by decide +kernel), List.mem_of_getElem? (i := 721) (by decide +kernel), List.mem_of_getElem? (i := 722) (by decide +kernel)⟩
theorem lw_p55 : lw_okq (⟨"ToldNineTimesModel", "readPerson", "()Z"⟩, 34) := ⟨⟨by decide +kernel, by decide +kernel⟩, List.mem_of_getElem? (i := 591) (by decide +kernel), List.mem_of_getElem? (i := 725) (by decide +kernel), List.mem_of_getElem? (i := 726) (by decide +kernel)⟩
theorem lw_p56 : lw_okq (⟨"ToldNineTimesModel", "readNews", "()Z"⟩, 34) := ⟨⟨by decide +kernel, by decide +kernel⟩, List.mem_of_getElem? (i := 591) (by decide +kernel), List.mem_of_getElem? (i := 729) (by decide +kernel), List.mem_of_getElem? (i := 730) (by decide +kernel)⟩
theorem lw_p57 : lw_okq (⟨"ToldNineTimesModel", "readKnows", "(I)Z"⟩, 34) := ⟨⟨by decide +kernel, by decide +kernel⟩, List.mem_of_getElem? (i := 591) (by decide +kernel), List.mem_of_getElem? (i := 733) (by decide +kernel), List.mem_of_getElem? (i := 734) (by decide +kernel)⟩
theorem lw_p58 : lw_okq (⟨"ToldNineTimesModel", "halve", "([I)V"⟩, 34) := ⟨⟨by decide +kernel, by decide +kernel⟩, List.mem_of_getElem? (i := 591) (by decide +kernel), List.mem_of_getElem? (i := 744) (by decide +kernel), List.mem_of_getElem? (i := 745) (by decide +kernel)⟩
theorem lw_p59 : lw_okq (⟨"ToldNineTimesModel", "noOne", "(I)Z"⟩, 34) := ⟨⟨by decide +kernel, by decide +kernel⟩, List.mem_of_getElem? (i := 591) (by decide +kernel), List.mem_of_getElem? (i := 759) (by decide +kernel), List.mem_of_getElem? (i := 760) (by decide +kernel)⟩
theorem lw_p60 : lw_okq (⟨"ToldNineTimesModel", "noNews", "(I)Z"⟩, 34) := ⟨⟨by decide +kernel, by decide +kernel⟩, List.mem_of_getElem? (i := 591) (by decide +kernel), List.mem_of_getElem? (i := 768) (by decide +kernel), List.mem_of_getElem? (i := 769) (by decide +kernel)⟩
theorem lw_p61 : lw_okq (⟨"ToldNineTimesModel", "mayTell", "([IIII)Z"⟩, 34) := ⟨⟨by decide +kernel, by decide +kernel⟩, List.mem_of_getElem? (i := 591) (by decide +kernel), List.mem_of_getElem? (i := 784) (by decide +kernel), List.mem_of_getElem? (i := 785) (by decide +kernel)⟩
theorem lw_p62 : lw_okq (⟨"ToldNineTimesModel", "those", "(II)I"⟩, 34) := ⟨⟨by decide +kernel, by decide +kernel⟩, List.mem_of_getElem? (i := 591) (by decide +kernel), List.mem_of_getElem? (i := 788) (by decide +kernel), List.mem_of_getElem? (i := 789) (by decide +kernel)⟩
theorem lw_p63 : lw_okq (⟨"ToldNineTimesModel", "note", "()V"⟩, 34) := ⟨⟨by decide +kernel, by decide +kernel⟩, List.mem_of_getElem? (i := 591) (by decide +kernel), List.mem_of_getElem? (i := 796) (by decide +kernel), List.mem_of_getElem? (i := 797) (by decide +kernel)⟩
def lw_privs_4 : List (MethodName × Nat) := [(⟨"ToldNineTimes$Outlook", "findNexts", "(II)V"⟩, 7), (⟨"ToldNineTimes$Outlook", "countOn", "(II)V"⟩, 7), (⟨"ToldNineTimes$Outlook", "strikeUnseen", "(ILToldNineTimes$Sights;)V"⟩, 7), (⟨"ToldNineTimes$Sights", "fit", "(II)Z"⟩, 3), (⟨"ToldNineTimes$Outlook", "counted", "()I"⟩, 7), (⟨"ToldNineTimesModel", "readDay", "()I"⟩, 34), (⟨"ToldNineTimesModel", "figure", "(II)I"⟩, 34), (⟨"ToldNineTimesModel", "readPerson", "()Z"⟩, 34), (⟨"ToldNineTimesModel", "readNews", "()Z"⟩, 34), (⟨"ToldNineTimesModel", "readKnows", "(I)Z"⟩, 34), (⟨"ToldNineTimesModel", "halve", "([I)V"⟩, 34), (⟨"ToldNineTimesModel", "noOne", "(I)Z"⟩, 34), (⟨"ToldNineTimesModel", "noNews", "(I)Z"⟩, 34), (⟨"ToldNineTimesModel", "mayTell", "([IIII)Z"⟩, 34), (⟨"ToldNineTimesModel", "those", "(II)I"⟩, 34), (⟨"ToldNineTimesModel", "note", "()V"⟩, 34)]
theorem lw_r4 : ∀ q ∈ lw_privs_4, lw_okq q := List.forall_mem_cons.mpr ⟨lw_p48, List.forall_mem_cons.mpr ⟨lw_p49, List.forall_mem_cons.mpr ⟨lw_p50, List.forall_mem_cons.mpr ⟨lw_p51, List.forall_mem_cons.mpr ⟨lw_p52, List.forall_mem_cons.mpr ⟨lw_p53, List.forall_mem_cons.mpr ⟨lw_p54, List.forall_mem_cons.mpr ⟨lw_p55, List.forall_mem_cons.mpr ⟨lw_p56, List.forall_mem_cons.mpr ⟨lw_p57, List.forall_mem_cons.mpr ⟨lw_p58, List.forall_mem_cons.mpr ⟨lw_p59, List.forall_mem_cons.mpr ⟨lw_p60, List.forall_mem_cons.mpr ⟨lw_p61, List.forall_mem_cons.mpr ⟨lw_p62, List.forall_mem_cons.mpr ⟨lw_p63, fun _ h => absurd h List.not_mem_nil⟩⟩⟩⟩⟩⟩⟩⟩⟩⟩⟩⟩⟩⟩⟩⟩
theorem lw_p64 : lw_okq (⟨"ToldNineTimesModel", "layPage", "([II)V"⟩, 34) := ⟨⟨by decide +kernel, by decide +kernel⟩, List.mem_of_getElem? (i := 591) (by decide +kernel), List.mem_of_getElem? (i := 800) (by decide +kernel), List.mem_of_getElem? (i := 801) (by decide +kernel)⟩
theorem lw_p65 : lw_okq (⟨"ToldNineTimesModel", "tellIt", "([IIII)V"⟩, 34) := ⟨⟨by decide +kernel, by decide +kernel⟩, List.mem_of_getElem? (i := 591) (by decide +kernel), List.mem_of_getElem? (i := 804) (by decide +kernel), List.mem_of_getElem? (i := 805) (by decide +kernel)⟩
theorem lw_p66 : lw_okq (⟨"ToldNineTimesModel", "takePage", "([II)V"⟩, 34) := ⟨⟨by decide +kernel, by decide +kernel⟩, List.mem_of_getElem? (i := 591) (by decide +kernel), List.mem_of_getElem? (i := 816) (by decide +kernel), List.mem_of_getElem? (i := 817) (by decide +kernel)⟩
theorem lw_p67 : lw_okq (⟨"ToldNineTimesModel", "noPlan", "(II)I"⟩, 34) := ⟨⟨by decide +kernel, by decide +kernel⟩, List.mem_of_getElem? (i := 591) (by decide +kernel), List.mem_of_getElem? (i := 828) (by decide +kernel), List.mem_of_getElem? (i := 829) (by decide +kernel)⟩
theorem lw_p68 : lw_okq (⟨"ToldNineTimesModel", "findFewest", "(II)I"⟩, 34) := ⟨⟨by decide +kernel, by decide +kernel⟩, List.mem_of_getElem? (i := 591) (by decide +kernel), List.mem_of_getElem? (i := 832) (by decide +kernel), List.mem_of_getElem? (i := 833) (by decide +kernel)⟩
theorem lw_p69 : lw_okq (⟨"ToldNineTimesModel", "layNeed", "(I)V"⟩, 34) := ⟨⟨by decide +kernel, by decide +kernel⟩, List.mem_of_getElem? (i := 591) (by decide +kernel), List.mem_of_getElem? (i := 836) (by decide +kernel), List.mem_of_getElem? (i := 837) (by decide +kernel)⟩
theorem lw_p70 : lw_okq (⟨"ToldNineTimesModel", "behind", "(III)I"⟩, 34) := ⟨⟨by decide +kernel, by decide +kernel⟩, List.mem_of_getElem? (i := 591) (by decide +kernel), List.mem_of_getElem? (i := 840) (by decide +kernel), List.mem_of_getElem? (i := 841) (by decide +kernel)⟩
theorem lw_p71 : lw_okq (⟨"ToldNineTimesModel", "canAt", "(III)Z"⟩, 34) := ⟨⟨by decide +kernel, by decide +kernel⟩, List.mem_of_getElem? (i := 591) (by decide +kernel), List.mem_of_getElem? (i := 844) (by decide +kernel), List.mem_of_getElem? (i := 845) (by decide +kernel)⟩
theorem lw_p72 : lw_okq (⟨"ToldNineTimesModel", "leftOf", "(I)I"⟩, 34) := ⟨⟨by decide +kernel, by decide +kernel⟩, List.mem_of_getElem? (i := 591) (by decide +kernel), List.mem_of_getElem? (i := 848) (by decide +kernel), List.mem_of_getElem? (i := 849) (by decide +kernel)⟩
theorem lw_p73 : lw_okq (⟨"ToldNineTimesModel", "goWays", "(II)V"⟩, 34) := ⟨⟨by decide +kernel, by decide +kernel⟩, List.mem_of_getElem? (i := 591) (by decide +kernel), List.mem_of_getElem? (i := 864) (by decide +kernel), List.mem_of_getElem? (i := 865) (by decide +kernel)⟩
theorem lw_p74 : lw_okq (⟨"ToldNineTimesModel", "hasIt", "(III)Z"⟩, 34) := ⟨⟨by decide +kernel, by decide +kernel⟩, List.mem_of_getElem? (i := 591) (by decide +kernel), List.mem_of_getElem? (i := 872) (by decide +kernel), List.mem_of_getElem? (i := 873) (by decide +kernel)⟩
theorem lw_p75 : lw_okq (⟨"ToldNineTimesModel", "both", "(IIII)I"⟩, 34) := ⟨⟨by decide +kernel, by decide +kernel⟩, List.mem_of_getElem? (i := 591) (by decide +kernel), List.mem_of_getElem? (i := 876) (by decide +kernel), List.mem_of_getElem? (i := 877) (by decide +kernel)⟩
theorem lw_p76 : lw_okq (⟨"ToldNineTimesModel", "isSeen", "(II)Z"⟩, 34) := ⟨⟨by decide +kernel, by decide +kernel⟩, List.mem_of_getElem? (i := 591) (by decide +kernel), List.mem_of_getElem? (i := 903) (by decide +kernel), List.mem_of_getElem? (i := 904) (by decide +kernel)⟩
def lw_privs_5 : List (MethodName × Nat) := [(⟨"ToldNineTimesModel", "layPage", "([II)V"⟩, 34), (⟨"ToldNineTimesModel", "tellIt", "([IIII)V"⟩, 34), (⟨"ToldNineTimesModel", "takePage", "([II)V"⟩, 34), (⟨"ToldNineTimesModel", "noPlan", "(II)I"⟩, 34), (⟨"ToldNineTimesModel", "findFewest", "(II)I"⟩, 34), (⟨"ToldNineTimesModel", "layNeed", "(I)V"⟩, 34), (⟨"ToldNineTimesModel", "behind", "(III)I"⟩, 34), (⟨"ToldNineTimesModel", "canAt", "(III)Z"⟩, 34), (⟨"ToldNineTimesModel", "leftOf", "(I)I"⟩, 34), (⟨"ToldNineTimesModel", "goWays", "(II)V"⟩, 34), (⟨"ToldNineTimesModel", "hasIt", "(III)Z"⟩, 34), (⟨"ToldNineTimesModel", "both", "(IIII)I"⟩, 34), (⟨"ToldNineTimesModel", "isSeen", "(II)Z"⟩, 34)]
theorem lw_r5 : ∀ q ∈ lw_privs_5, lw_okq q := List.forall_mem_cons.mpr ⟨lw_p64, List.forall_mem_cons.mpr ⟨lw_p65, List.forall_mem_cons.mpr ⟨lw_p66, List.forall_mem_cons.mpr ⟨lw_p67, List.forall_mem_cons.mpr ⟨lw_p68, List.forall_mem_cons.mpr ⟨lw_p69, List.forall_mem_cons.mpr ⟨lw_p70, List.forall_mem_cons.mpr ⟨lw_p71, List.forall_mem_cons.mpr ⟨lw_p72, List.forall_mem_cons.mpr ⟨lw_p73, List.forall_mem_cons.mpr ⟨lw_p74, List.forall_mem_cons.mpr ⟨lw_p75, List.forall_mem_cons.mpr ⟨lw_p76, fun _ h => absurd h List.not_mem_nil⟩⟩⟩⟩⟩⟩⟩⟩⟩⟩⟩⟩⟩
def lw_privs : List (MethodName × Nat) := lw_privs_1 ++ (lw_privs_2 ++ (lw_privs_3 ++ (lw_privs_4 ++ (lw_privs_5))))
def lw_tbl : List Cond := k2_sels lw_privs ++ tables_1
theorem lw_privs_ok : ∀ q ∈ lw_privs, lw_okq q := by
  show ∀ q ∈ lw_privs_1 ++ (lw_privs_2 ++ (lw_privs_3 ++ (lw_privs_4 ++ (lw_privs_5)))), lw_okq q
  exact List.forall_mem_append.mpr ⟨lw_r1, List.forall_mem_append.mpr ⟨lw_r2, List.forall_mem_append.mpr ⟨lw_r3, List.forall_mem_append.mpr ⟨lw_r4, lw_r5⟩⟩⟩⟩
end
section
def RX0 : String := "ToldNineTimes$Acts"
def TX0 : u_T := fun k => match k with
  | 0 => ("ToldNineTimes$Acts", "row", "[I", true)
  | _ => ("ToldNineTimes$Acts", "count", "I", false)
def tyX0 : Nat → FieldType := fun k => match k with
  | 0 => .array .int
  | _ => .int
theorem nmX0 : ∀ a, a < 2 → ∀ b, b < 2 → a ≠ b → (TX0 a).2.1 ≠ (TX0 b).2.1 := by decide +kernel
theorem tyX0_ok : ∀ k, k < 2 → parseFieldDescriptor (TX0 k).2.2.1 = some (tyX0 k) := by decide +kernel
abbrev cX0_init : ByteArray := prog_2_method_1_code
def yX0_init : MethodName := ⟨RX0, "<init>", "()V"⟩
abbrev cX0_telling : ByteArray := prog_2_method_2_code
def yX0_telling : MethodName := ⟨RX0, "telling", "(III)I"⟩
abbrev cX0_teller : ByteArray := prog_2_method_3_code
def yX0_teller : MethodName := ⟨RX0, "teller", "(I)I"⟩
abbrev cX0_newsOf : ByteArray := prog_2_method_4_code
def yX0_newsOf : MethodName := ⟨RX0, "newsOf", "(I)I"⟩
abbrev cX0_packedKnown : ByteArray := prog_2_method_5_code
def yX0_packedKnown : MethodName := ⟨RX0, "packedKnown", "(I)I"⟩
abbrev cX0_append : ByteArray := prog_2_method_6_code
def yX0_append : MethodName := ⟨RX0, "append", "(I)V"⟩
abbrev cX0_takeLast : ByteArray := prog_2_method_7_code
def yX0_takeLast : MethodName := ⟨RX0, "takeLast", "()I"⟩
def RX1 : String := "ToldNineTimes$Day"
def TX1 : u_T := fun k => match k with
  | 0 => ("ToldNineTimes$Day", "places", "[I", true)
  | 1 => ("ToldNineTimes$Day", "groups", "[I", true)
  | 2 => ("ToldNineTimes$Day", "limits", "[I", true)
  | 3 => ("ToldNineTimes$Day", "worths", "[I", true)
  | 4 => ("ToldNineTimes$Day", "firsts", "[I", true)
  | 5 => ("ToldNineTimes$Day", "people", "I", false)
  | 6 => ("ToldNineTimes$Day", "newsCount", "I", false)
  | _ => ("ToldNineTimes$Day", "law", "I", false)
def tyX1 : Nat → FieldType := fun k => match k with
  | 0 => .array .int
  | 1 => .array .int
  | 2 => .array .int
  | 3 => .array .int
  | 4 => .array .int
  | 5 => .int
  | 6 => .int
  | _ => .int
theorem nmX1 : ∀ a, a < 8 → ∀ b, b < 8 → a ≠ b → (TX1 a).2.1 ≠ (TX1 b).2.1 := by decide +kernel
theorem tyX1_ok : ∀ k, k < 8 → parseFieldDescriptor (TX1 k).2.2.1 = some (tyX1 k) := by decide +kernel
abbrev cX1_init : ByteArray := prog_3_method_1_code
def yX1_init : MethodName := ⟨RX1, "<init>", "()V"⟩
abbrev cX1_clear : ByteArray := prog_3_method_2_code
def yX1_clear : MethodName := ⟨RX1, "clear", "()V"⟩
abbrev cX1_put : ByteArray := prog_3_method_3_code
def yX1_put : MethodName := ⟨RX1, "put", "(III)V"⟩
abbrev cX1_placeOf : ByteArray := prog_3_method_4_code
def yX1_placeOf : MethodName := ⟨RX1, "placeOf", "(II)I"⟩
abbrev cX1_group : ByteArray := prog_3_method_5_code
def yX1_group : MethodName := ⟨RX1, "group", "(II)I"⟩
abbrev cX1_isCompany : ByteArray := prog_3_method_6_code
def yX1_isCompany : MethodName := ⟨RX1, "isCompany", "(I)Z"⟩
def RX2 : String := "ToldNineTimes$Outlook"
def TX2 : u_T := fun k => match k with
  | 0 => ("ToldNineTimes$Outlook", "memo", "[I", true)
  | 1 => ("ToldNineTimes$Outlook", "lefts", "[I", true)
  | 2 => ("ToldNineTimes$Outlook", "ways", "[I", true)
  | 3 => ("ToldNineTimes$Outlook", "nexts", "[I", true)
  | 4 => ("ToldNineTimes$Outlook", "day", "LToldNineTimes$Day;", false)
  | 5 => ("ToldNineTimes$Outlook", "wanted", "I", false)
  | _ => ("ToldNineTimes$Outlook", "limit", "I", false)
def tyX2 : Nat → FieldType := fun k => match k with
  | 0 => .array .int
  | 1 => .array .int
  | 2 => .array .int
  | 3 => .array .int
  | 4 => .object "ToldNineTimes$Day"
  | 5 => .int
  | _ => .int
theorem nmX2 : ∀ a, a < 7 → ∀ b, b < 7 → a ≠ b → (TX2 a).2.1 ≠ (TX2 b).2.1 := by decide +kernel
theorem tyX2_ok : ∀ k, k < 7 → parseFieldDescriptor (TX2 k).2.2.1 = some (tyX2 k) := by decide +kernel
abbrev cX2_init : ByteArray := prog_4_method_1_code
def yX2_init : MethodName := ⟨RX2, "<init>", "(LToldNineTimes$Day;)V"⟩
abbrev cX2_behind : ByteArray := prog_4_method_2_code
def yX2_behind : MethodName := ⟨RX2, "behind", "(III)I"⟩
abbrev cX2_findNexts : ByteArray := prog_4_method_3_code
def yX2_findNexts : MethodName := ⟨RX2, "findNexts", "(II)V"⟩
abbrev cX2_want : ByteArray := prog_4_method_4_code
def yX2_want : MethodName := ⟨RX2, "want", "(LToldNineTimes$Day;I)V"⟩
abbrev cX2_need : ByteArray := prog_4_method_5_code
def yX2_need : MethodName := ⟨RX2, "need", "(II)I"⟩
abbrev cX2_needBy : ByteArray := prog_4_method_6_code
def yX2_needBy : MethodName := ⟨RX2, "needBy", "(III)I"⟩
abbrev cX2_planned : ByteArray := prog_4_method_7_code
def yX2_planned : MethodName := ⟨RX2, "planned", "(III)I"⟩
abbrev cX2_firstOfLeast : ByteArray := prog_4_method_8_code
def yX2_firstOfLeast : MethodName := ⟨RX2, "firstOfLeast", "(II)I"⟩
abbrev cX2_wonBy : ByteArray := prog_4_method_9_code
def yX2_wonBy : MethodName := ⟨RX2, "wonBy", "(II)I"⟩
abbrev cX2_wonByChoice : ByteArray := prog_4_method_10_code
def yX2_wonByChoice : MethodName := ⟨RX2, "wonByChoice", "(III)I"⟩
abbrev cX2_lookFrom : ByteArray := prog_4_method_11_code
def yX2_lookFrom : MethodName := ⟨RX2, "lookFrom", "(LToldNineTimes$Day;II)V"⟩
abbrev cX2_goThrough : ByteArray := prog_4_method_12_code
def yX2_goThrough : MethodName := ⟨RX2, "goThrough", "(II)V"⟩
abbrev cX2_canBeSpent : ByteArray := prog_4_method_13_code
def yX2_canBeSpent : MethodName := ⟨RX2, "canBeSpent", "()Z"⟩
abbrev cX2_mostKnowing : ByteArray := prog_4_method_14_code
def yX2_mostKnowing : MethodName := ⟨RX2, "mostKnowing", "()I"⟩
abbrev cX2_countFrom : ByteArray := prog_4_method_15_code
def yX2_countFrom : MethodName := ⟨RX2, "countFrom", "(LToldNineTimes$Day;II)V"⟩
abbrev cX2_countThrough : ByteArray := prog_4_method_16_code
def yX2_countThrough : MethodName := ⟨RX2, "countThrough", "(I)V"⟩
abbrev cX2_countOn : ByteArray := prog_4_method_17_code
def yX2_countOn : MethodName := ⟨RX2, "countOn", "(II)V"⟩
abbrev cX2_isReached : ByteArray := prog_4_method_18_code
def yX2_isReached : MethodName := ⟨RX2, "isReached", "(I)Z"⟩
abbrev cX2_strikeUnseen : ByteArray := prog_4_method_19_code
def yX2_strikeUnseen : MethodName := ⟨RX2, "strikeUnseen", "(ILToldNineTimes$Sights;)V"⟩
abbrev cX2_counted : ByteArray := prog_4_method_20_code
def yX2_counted : MethodName := ⟨RX2, "counted", "()I"⟩
def RX3 : String := "ToldNineTimes$Script"
def TX3 : u_T := fun k => match k with
  | 0 => ("ToldNineTimes$Script", "bytes", "[I", true)
  | _ => ("ToldNineTimes$Script", "length", "I", false)
def tyX3 : Nat → FieldType := fun k => match k with
  | 0 => .array .int
  | _ => .int
theorem nmX3 : ∀ a, a < 2 → ∀ b, b < 2 → a ≠ b → (TX3 a).2.1 ≠ (TX3 b).2.1 := by decide +kernel
theorem tyX3_ok : ∀ k, k < 2 → parseFieldDescriptor (TX3 k).2.2.1 = some (tyX3 k) := by decide +kernel
abbrev cX3_init : ByteArray := prog_5_method_1_code
def yX3_init : MethodName := ⟨RX3, "<init>", "()V"⟩
abbrev cX3_append : ByteArray := prog_5_method_2_code
def yX3_append : MethodName := ⟨RX3, "append", "(I)V"⟩
abbrev cX3_signAt : ByteArray := prog_5_method_3_code
def yX3_signAt : MethodName := ⟨RX3, "signAt", "(I)I"⟩
abbrev cX3_figureAt : ByteArray := prog_5_method_4_code
def yX3_figureAt : MethodName := ⟨RX3, "figureAt", "(II)I"⟩
abbrev cX3_readInto : ByteArray := prog_5_method_5_code
def yX3_readInto : MethodName := ⟨RX3, "readInto", "(LToldNineTimes$Day;)I"⟩
abbrev cX3_faultAt : ByteArray := prog_5_method_6_code
def yX3_faultAt : MethodName := ⟨RX3, "faultAt", "(I)I"⟩
abbrev cX3_faultOf : ByteArray := prog_5_method_7_code
def yX3_faultOf : MethodName := ⟨RX3, "faultOf", "(I)I"⟩
abbrev cX3_readPart : ByteArray := prog_5_method_8_code
def yX3_readPart : MethodName := ⟨RX3, "readPart", "(LToldNineTimes$Day;I)I"⟩
abbrev cX3_readPerson : ByteArray := prog_5_method_9_code
def yX3_readPerson : MethodName := ⟨RX3, "readPerson", "(LToldNineTimes$Day;I)I"⟩
abbrev cX3_readNews : ByteArray := prog_5_method_10_code
def yX3_readNews : MethodName := ⟨RX3, "readNews", "(LToldNineTimes$Day;I)I"⟩
def RX4 : String := "ToldNineTimes$Sights"
def TX4 : u_T := fun k => match k with
  | 0 => ("ToldNineTimes$Sights", "knowing", "[I", true)
  | 1 => ("ToldNineTimes$Sights", "unknowing", "[I", true)
  | _ => ("ToldNineTimes$Sights", "count", "I", false)
def tyX4 : Nat → FieldType := fun k => match k with
  | 0 => .array .int
  | 1 => .array .int
  | _ => .int
theorem nmX4 : ∀ a, a < 3 → ∀ b, b < 3 → a ≠ b → (TX4 a).2.1 ≠ (TX4 b).2.1 := by decide +kernel
theorem tyX4_ok : ∀ k, k < 3 → parseFieldDescriptor (TX4 k).2.2.1 = some (tyX4 k) := by decide +kernel
abbrev cX4_init : ByteArray := prog_6_method_1_code
def yX4_init : MethodName := ⟨RX4, "<init>", "()V"⟩
abbrev cX4_see : ByteArray := prog_6_method_2_code
def yX4_see : MethodName := ⟨RX4, "see", "(IIZ)V"⟩
abbrev cX4_forget : ByteArray := prog_6_method_3_code
def yX4_forget : MethodName := ⟨RX4, "forget", "()V"⟩
abbrev cX4_fit : ByteArray := prog_6_method_4_code
def yX4_fit : MethodName := ⟨RX4, "fit", "(II)Z"⟩
def RX5 : String := "ToldNineTimes$Standing"
def TX5 : u_T := fun k => match k with
  | 0 => ("ToldNineTimes$Standing", "known", "[I", true)
  | 1 => ("ToldNineTimes$Standing", "tellings", "[I", true)
  | 2 => ("ToldNineTimes$Standing", "attended", "[I", true)
  | 3 => ("ToldNineTimes$Standing", "atPlaces", "[I", true)
  | 4 => ("ToldNineTimes$Standing", "hour", "I", false)
  | _ => ("ToldNineTimes$Standing", "kept", "Z", false)
def tyX5 : Nat → FieldType := fun k => match k with
  | 0 => .array .int
  | 1 => .array .int
  | 2 => .array .int
  | 3 => .array .int
  | 4 => .int
  | _ => .boolean
theorem nmX5 : ∀ a, a < 6 → ∀ b, b < 6 → a ≠ b → (TX5 a).2.1 ≠ (TX5 b).2.1 := by decide +kernel
theorem tyX5_ok : ∀ k, k < 6 → parseFieldDescriptor (TX5 k).2.2.1 = some (tyX5 k) := by decide +kernel
abbrev cX5_init : ByteArray := prog_7_method_1_code
def yX5_init : MethodName := ⟨RX5, "<init>", "()V"⟩
abbrev cX5_beginWith : ByteArray := prog_7_method_2_code
def yX5_beginWith : MethodName := ⟨RX5, "beginWith", "(LToldNineTimes$Day;)V"⟩
abbrev cX5_copyFrom : ByteArray := prog_7_method_3_code
def yX5_copyFrom : MethodName := ⟨RX5, "copyFrom", "(LToldNineTimes$Standing;)V"⟩
abbrev cX5_knows : ByteArray := prog_7_method_4_code
def yX5_knows : MethodName := ⟨RX5, "knows", "(II)Z"⟩
abbrev cX5_tellingsOf : ByteArray := prog_7_method_5_code
def yX5_tellingsOf : MethodName := ⟨RX5, "tellingsOf", "(I)I"⟩
abbrev cX5_allows : ByteArray := prog_7_method_6_code
def yX5_allows : MethodName := ⟨RX5, "allows", "(LToldNineTimes$Day;II)Z"⟩
abbrev cX5_spread : ByteArray := prog_7_method_7_code
def yX5_spread : MethodName := ⟨RX5, "spread", "(LToldNineTimes$Day;II)I"⟩
abbrev cX5_count : ByteArray := prog_7_method_8_code
def yX5_count : MethodName := ⟨RX5, "count", "(LToldNineTimes$Day;III)V"⟩
abbrev cX5_packedKnown : ByteArray := prog_7_method_9_code
def yX5_packedKnown : MethodName := ⟨RX5, "packedKnown", "()I"⟩
abbrev cX5_unpackKnown : ByteArray := prog_7_method_10_code
def yX5_unpackKnown : MethodName := ⟨RX5, "unpackKnown", "(I)V"⟩
def RX6 : String := "ToldNineTimes"
def TX6 : u_T := fun k => match k with
  | 0 => ("ToldNineTimes", "script", "LToldNineTimes$Script;", true)
  | 1 => ("ToldNineTimes", "now", "LToldNineTimes$Standing;", true)
  | 2 => ("ToldNineTimes", "trial", "LToldNineTimes$Standing;", true)
  | 3 => ("ToldNineTimes", "slots", "[LToldNineTimes$Standing;", true)
  | 4 => ("ToldNineTimes", "acts", "LToldNineTimes$Acts;", true)
  | 5 => ("ToldNineTimes", "sights", "LToldNineTimes$Sights;", true)
  | 6 => ("ToldNineTimes", "outlook", "LToldNineTimes$Outlook;", true)
  | 7 => ("ToldNineTimes", "today", "LToldNineTimes$Day;", false)
  | _ => ("ToldNineTimes", "draft", "LToldNineTimes$Day;", false)
def tyX6 : Nat → FieldType := fun k => match k with
  | 0 => .object "ToldNineTimes$Script"
  | 1 => .object "ToldNineTimes$Standing"
  | 2 => .object "ToldNineTimes$Standing"
  | 3 => .array (.object "ToldNineTimes$Standing")
  | 4 => .object "ToldNineTimes$Acts"
  | 5 => .object "ToldNineTimes$Sights"
  | 6 => .object "ToldNineTimes$Outlook"
  | 7 => .object "ToldNineTimes$Day"
  | _ => .object "ToldNineTimes$Day"
theorem nmX6 : ∀ a, a < 9 → ∀ b, b < 9 → a ≠ b → (TX6 a).2.1 ≠ (TX6 b).2.1 := by decide +kernel
theorem tyX6_ok : ∀ k, k < 9 → parseFieldDescriptor (TX6 k).2.2.1 = some (tyX6 k) := by decide +kernel
abbrev cX6_init : ByteArray := prog_1_method_1_code
def yX6_init : MethodName := ⟨RX6, "<init>", "()V"⟩
abbrev cX6_write : ByteArray := prog_1_method_2_code
def yX6_write : MethodName := ⟨RX6, "write", "(IJ)I"⟩
abbrev cX6_wipe : ByteArray := prog_1_method_3_code
def yX6_wipe : MethodName := ⟨RX6, "wipe", "()I"⟩
abbrev cX6_fault : ByteArray := prog_1_method_4_code
def yX6_fault : MethodName := ⟨RX6, "fault", "()I"⟩
abbrev cX6_day : ByteArray := prog_1_method_5_code
def yX6_day : MethodName := ⟨RX6, "day", "()I"⟩
abbrev cX6_about : ByteArray := prog_1_method_6_code
def yX6_about : MethodName := ⟨RX6, "about", "(I)I"⟩
abbrev cX6_where : ByteArray := prog_1_method_7_code
def yX6_where : MethodName := ⟨RX6, "where", "(II)I"⟩
abbrev cX6_news : ByteArray := prog_1_method_8_code
def yX6_news : MethodName := ⟨RX6, "news", "(II)I"⟩
abbrev cX6_told : ByteArray := prog_1_method_9_code
def yX6_told : MethodName := ⟨RX6, "told", "(II)I"⟩
abbrev cX6_left : ByteArray := prog_1_method_10_code
def yX6_left : MethodName := ⟨RX6, "left", "(II)I"⟩
abbrev cX6_may : ByteArray := prog_1_method_11_code
def yX6_may : MethodName := ⟨RX6, "may", "(II)I"⟩
abbrev cX6_tell : ByteArray := prog_1_method_12_code
def yX6_tell : MethodName := ⟨RX6, "tell", "(II)I"⟩
abbrev cX6_hour : ByteArray := prog_1_method_13_code
def yX6_hour : MethodName := ⟨RX6, "hour", "()I"⟩
abbrev cX6_undo : ByteArray := prog_1_method_14_code
def yX6_undo : MethodName := ⟨RX6, "undo", "()I"⟩
abbrev cX6_judge : ByteArray := prog_1_method_15_code
def yX6_judge : MethodName := ⟨RX6, "judge", "(III)I"⟩
abbrev cX6_fewest : ByteArray := prog_1_method_16_code
def yX6_fewest : MethodName := ⟨RX6, "fewest", "(II)I"⟩
abbrev cX6_planAt : ByteArray := prog_1_method_17_code
def yX6_planAt : MethodName := ⟨RX6, "planAt", "(III)I"⟩
abbrev cX6_most : ByteArray := prog_1_method_18_code
def yX6_most : MethodName := ⟨RX6, "most", "(I)I"⟩
abbrev cX6_spent : ByteArray := prog_1_method_19_code
def yX6_spent : MethodName := ⟨RX6, "spent", "(II)I"⟩
abbrev cX6_duel : ByteArray := prog_1_method_20_code
def yX6_duel : MethodName := ⟨RX6, "duel", "(II)I"⟩
abbrev cX6_chance : ByteArray := prog_1_method_21_code
def yX6_chance : MethodName := ⟨RX6, "chance", "(IIIIZ)J"⟩
abbrev cX6_sight : ByteArray := prog_1_method_22_code
def yX6_sight : MethodName := ⟨RX6, "sight", "(IIZ)I"⟩
abbrev cX6_unsee : ByteArray := prog_1_method_23_code
def yX6_unsee : MethodName := ⟨RX6, "unsee", "()I"⟩
abbrev cX6_rows : ByteArray := prog_1_method_24_code
def yX6_rows : MethodName := ⟨RX6, "rows", "(I)I"⟩
abbrev cX6_keep : ByteArray := prog_1_method_25_code
def yX6_keep : MethodName := ⟨RX6, "keep", "(I)I"⟩
abbrev cX6_again : ByteArray := prog_1_method_26_code
def yX6_again : MethodName := ⟨RX6, "again", "(I)I"⟩
abbrev cX6_isPerson : ByteArray := prog_1_method_27_code
def yX6_isPerson : MethodName := ⟨RX6, "isPerson", "(I)Z"⟩
abbrev cX6_isNews : ByteArray := prog_1_method_28_code
def yX6_isNews : MethodName := ⟨RX6, "isNews", "(I)Z"⟩
abbrev cX6_isHour : ByteArray := prog_1_method_29_code
def yX6_isHour : MethodName := ⟨RX6, "isHour", "(I)Z"⟩
abbrev cX6_leftOf : ByteArray := prog_1_method_30_code
def yX6_leftOf : MethodName := ⟨RX6, "leftOf", "(I)I"⟩
abbrev cX6_tellingsOfAll : ByteArray := prog_1_method_31_code
def yX6_tellingsOfAll : MethodName := ⟨RX6, "tellingsOfAll", "()I"⟩
abbrev cX6_worthOfAll : ByteArray := prog_1_method_32_code
def yX6_worthOfAll : MethodName := ⟨RX6, "worthOfAll", "()I"⟩
abbrev cX6_triedFigure : ByteArray := prog_1_method_33_code
def yX6_triedFigure : MethodName := ⟨RX6, "triedFigure", "(II)Z"⟩
abbrev cX6_refusalOfPlan : ByteArray := prog_1_method_34_code
def yX6_refusalOfPlan : MethodName := ⟨RX6, "refusalOfPlan", "(II)I"⟩
abbrev cX6_leastTellings : ByteArray := prog_1_method_35_code
def yX6_leastTellings : MethodName := ⟨RX6, "leastTellings", "(II)I"⟩
abbrev cX6_hoursOfHearing : ByteArray := prog_1_method_36_code
def yX6_hoursOfHearing : MethodName := ⟨RX6, "hoursOfHearing", "(III)I"⟩
abbrev cX6_powerOf : ByteArray := prog_1_method_37_code
def yX6_powerOf : MethodName := ⟨RX6, "powerOf", "(II)I"⟩
abbrev cX6_figureOf : ByteArray := prog_1_method_38_code
def yX6_figureOf : MethodName := ⟨RX6, "figureOf", "(II)I"⟩
abbrev cX6_fraction : ByteArray := prog_1_method_39_code
def yX6_fraction : MethodName := ⟨RX6, "fraction", "(IIZ)I"⟩
abbrev cX6_joinHalves : ByteArray := prog_1_method_40_code
def yX6_joinHalves : MethodName := ⟨RX6, "joinHalves", "([II)V"⟩
def RX7 : String := "ToldNineTimesModel"
def TX7 : u_T := fun k => match k with
  | 0 => ("ToldNineTimesModel", "thrown", "I", false)
  | 1 => ("ToldNineTimesModel", "text", "[I", true)
  | 2 => ("ToldNineTimesModel", "textSize", "I", false)
  | 3 => ("ToldNineTimesModel", "place", "I", false)
  | 4 => ("ToldNineTimesModel", "people", "I", false)
  | 5 => ("ToldNineTimesModel", "news", "I", false)
  | 6 => ("ToldNineTimesModel", "law", "I", false)
  | 7 => ("ToldNineTimesModel", "where", "[I", true)
  | 8 => ("ToldNineTimesModel", "may", "[I", true)
  | 9 => ("ToldNineTimesModel", "worth", "[I", true)
  | 10 => ("ToldNineTimesModel", "first", "[I", true)
  | 11 => ("ToldNineTimesModel", "hour", "I", false)
  | 12 => ("ToldNineTimesModel", "now", "[I", true)
  | 13 => ("ToldNineTimesModel", "readPeople", "I", false)
  | 14 => ("ToldNineTimesModel", "readNews", "I", false)
  | 15 => ("ToldNineTimesModel", "readLaw", "I", false)
  | 16 => ("ToldNineTimesModel", "readWhere", "[I", true)
  | 17 => ("ToldNineTimesModel", "readMay", "[I", true)
  | 18 => ("ToldNineTimesModel", "readWorth", "[I", true)
  | 19 => ("ToldNineTimesModel", "readFirst", "[I", true)
  | 20 => ("ToldNineTimesModel", "book", "[I", true)
  | 21 => ("ToldNineTimesModel", "acts", "I", false)
  | 22 => ("ToldNineTimesModel", "kept", "[I", true)
  | 23 => ("ToldNineTimesModel", "isKept", "[Z", true)
  | 24 => ("ToldNineTimesModel", "tried", "[I", true)
  | 25 => ("ToldNineTimesModel", "sights", "I", false)
  | 26 => ("ToldNineTimesModel", "sightHour", "[I", true)
  | 27 => ("ToldNineTimesModel", "sightWho", "[I", true)
  | 28 => ("ToldNineTimesModel", "sightKnew", "[Z", true)
  | 29 => ("ToldNineTimesModel", "need", "[I", true)
  | 30 => ("ToldNineTimesModel", "ways", "[I", true)
  | 31 => ("ToldNineTimesModel", "then", "[I", true)
  | 32 => ("ToldNineTimesModel", "wins", "[Z", true)
  | _ => ("ToldNineTimesModel", "winsThen", "[Z", true)
def tyX7 : Nat → FieldType := fun k => match k with
  | 0 => .int
  | 1 => .array .int
  | 2 => .int
  | 3 => .int
  | 4 => .int
  | 5 => .int
  | 6 => .int
  | 7 => .array .int
  | 8 => .array .int
  | 9 => .array .int
  | 10 => .array .int
  | 11 => .int
  | 12 => .array .int
  | 13 => .int
  | 14 => .int
  | 15 => .int
  | 16 => .array .int
  | 17 => .array .int
  | 18 => .array .int
  | 19 => .array .int
  | 20 => .array .int
  | 21 => .int
  | 22 => .array .int
  | 23 => .array .boolean
  | 24 => .array .int
  | 25 => .int
  | 26 => .array .int
  | 27 => .array .int
  | 28 => .array .boolean
  | 29 => .array .int
  | 30 => .array .int
  | 31 => .array .int
  | 32 => .array .boolean
  | _ => .array .boolean
theorem nmX7 : ∀ a, a < 34 → ∀ b, b < 34 → a ≠ b → (TX7 a).2.1 ≠ (TX7 b).2.1 := by decide +kernel
theorem tyX7_ok : ∀ k, k < 34 → parseFieldDescriptor (TX7 k).2.2.1 = some (tyX7 k) := by decide +kernel
abbrev cX7_init : ByteArray := prog_9_method_1_code
def yX7_init : MethodName := ⟨RX7, "<init>", "()V"⟩
abbrev cX7_in : ByteArray := prog_9_method_3_code
def yX7_in : MethodName := ⟨RX7, "in", "(JJJ)Z"⟩
abbrev cX7_has : ByteArray := prog_9_method_4_code
def yX7_has : MethodName := ⟨RX7, "has", "(II)Z"⟩
abbrev cX7_many : ByteArray := prog_9_method_5_code
def yX7_many : MethodName := ⟨RX7, "many", "(I)I"⟩
abbrev cX7_noOne : ByteArray := prog_9_method_6_code
def yX7_noOne : MethodName := ⟨RX7, "noOne", "(I)Z"⟩
abbrev cX7_noNews : ByteArray := prog_9_method_7_code
def yX7_noNews : MethodName := ⟨RX7, "noNews", "(I)Z"⟩
abbrev cX7_write : ByteArray := prog_9_method_8_code
def yX7_write : MethodName := ⟨RX7, "write", "(IJ)I"⟩
abbrev cX7_wipe : ByteArray := prog_9_method_9_code
def yX7_wipe : MethodName := ⟨RX7, "wipe", "()I"⟩
abbrev cX7_figure : ByteArray := prog_9_method_10_code
def yX7_figure : MethodName := ⟨RX7, "figure", "(II)I"⟩
abbrev cX7_readPerson : ByteArray := prog_9_method_11_code
def yX7_readPerson : MethodName := ⟨RX7, "readPerson", "()Z"⟩
abbrev cX7_readNews : ByteArray := prog_9_method_12_code
def yX7_readNews : MethodName := ⟨RX7, "readNews", "()Z"⟩
abbrev cX7_readKnows : ByteArray := prog_9_method_13_code
def yX7_readKnows : MethodName := ⟨RX7, "readKnows", "(I)Z"⟩
abbrev cX7_readDay : ByteArray := prog_9_method_14_code
def yX7_readDay : MethodName := ⟨RX7, "readDay", "()I"⟩
abbrev cX7_fault : ByteArray := prog_9_method_15_code
def yX7_fault : MethodName := ⟨RX7, "fault", "()I"⟩
abbrev cX7_day : ByteArray := prog_9_method_16_code
def yX7_day : MethodName := ⟨RX7, "day", "()I"⟩
abbrev cX7_halve : ByteArray := prog_9_method_17_code
def yX7_halve : MethodName := ⟨RX7, "halve", "([I)V"⟩
abbrev cX7_about : ByteArray := prog_9_method_18_code
def yX7_about : MethodName := ⟨RX7, "about", "(I)I"⟩
abbrev cX7_where : ByteArray := prog_9_method_19_code
def yX7_where : MethodName := ⟨RX7, "where", "(II)I"⟩
abbrev cX7_news : ByteArray := prog_9_method_20_code
def yX7_news : MethodName := ⟨RX7, "news", "(II)I"⟩
abbrev cX7_told : ByteArray := prog_9_method_21_code
def yX7_told : MethodName := ⟨RX7, "told", "(II)I"⟩
abbrev cX7_left : ByteArray := prog_9_method_22_code
def yX7_left : MethodName := ⟨RX7, "left", "(II)I"⟩
abbrev cX7_those : ByteArray := prog_9_method_23_code
def yX7_those : MethodName := ⟨RX7, "those", "(II)I"⟩
abbrev cX7_mayTell : ByteArray := prog_9_method_24_code
def yX7_mayTell : MethodName := ⟨RX7, "mayTell", "([IIII)Z"⟩
abbrev cX7_tellIt : ByteArray := prog_9_method_25_code
def yX7_tellIt : MethodName := ⟨RX7, "tellIt", "([IIII)V"⟩
abbrev cX7_may : ByteArray := prog_9_method_26_code
def yX7_may : MethodName := ⟨RX7, "may", "(II)I"⟩
abbrev cX7_layPage : ByteArray := prog_9_method_27_code
def yX7_layPage : MethodName := ⟨RX7, "layPage", "([II)V"⟩
abbrev cX7_takePage : ByteArray := prog_9_method_28_code
def yX7_takePage : MethodName := ⟨RX7, "takePage", "([II)V"⟩
abbrev cX7_note : ByteArray := prog_9_method_29_code
def yX7_note : MethodName := ⟨RX7, "note", "()V"⟩
abbrev cX7_tell : ByteArray := prog_9_method_30_code
def yX7_tell : MethodName := ⟨RX7, "tell", "(II)I"⟩
abbrev cX7_hour : ByteArray := prog_9_method_31_code
def yX7_hour : MethodName := ⟨RX7, "hour", "()I"⟩
abbrev cX7_undo : ByteArray := prog_9_method_32_code
def yX7_undo : MethodName := ⟨RX7, "undo", "()I"⟩
abbrev cX7_judge : ByteArray := prog_9_method_33_code
def yX7_judge : MethodName := ⟨RX7, "judge", "(III)I"⟩
abbrev cX7_canAt : ByteArray := prog_9_method_34_code
def yX7_canAt : MethodName := ⟨RX7, "canAt", "(III)Z"⟩
abbrev cX7_behind : ByteArray := prog_9_method_35_code
def yX7_behind : MethodName := ⟨RX7, "behind", "(III)I"⟩
abbrev cX7_leftOf : ByteArray := prog_9_method_36_code
def yX7_leftOf : MethodName := ⟨RX7, "leftOf", "(I)I"⟩
abbrev cX7_layNeed : ByteArray := prog_9_method_37_code
def yX7_layNeed : MethodName := ⟨RX7, "layNeed", "(I)V"⟩
abbrev cX7_noPlan : ByteArray := prog_9_method_38_code
def yX7_noPlan : MethodName := ⟨RX7, "noPlan", "(II)I"⟩
abbrev cX7_findFewest : ByteArray := prog_9_method_39_code
def yX7_findFewest : MethodName := ⟨RX7, "findFewest", "(II)I"⟩
abbrev cX7_fewest : ByteArray := prog_9_method_40_code
def yX7_fewest : MethodName := ⟨RX7, "fewest", "(II)I"⟩
abbrev cX7_planAt : ByteArray := prog_9_method_41_code
def yX7_planAt : MethodName := ⟨RX7, "planAt", "(III)I"⟩
abbrev cX7_most : ByteArray := prog_9_method_42_code
def yX7_most : MethodName := ⟨RX7, "most", "(I)I"⟩
abbrev cX7_goWays : ByteArray := prog_9_method_43_code
def yX7_goWays : MethodName := ⟨RX7, "goWays", "(II)V"⟩
abbrev cX7_spent : ByteArray := prog_9_method_44_code
def yX7_spent : MethodName := ⟨RX7, "spent", "(II)I"⟩
abbrev cX7_both : ByteArray := prog_9_method_45_code
def yX7_both : MethodName := ⟨RX7, "both", "(IIII)I"⟩
abbrev cX7_hasIt : ByteArray := prog_9_method_46_code
def yX7_hasIt : MethodName := ⟨RX7, "hasIt", "(III)Z"⟩
abbrev cX7_duel : ByteArray := prog_9_method_47_code
def yX7_duel : MethodName := ⟨RX7, "duel", "(II)I"⟩
abbrev cX7_divisor : ByteArray := prog_9_method_48_code
def yX7_divisor : MethodName := ⟨RX7, "divisor", "(JJ)J"⟩
abbrev cX7_chance : ByteArray := prog_9_method_49_code
def yX7_chance : MethodName := ⟨RX7, "chance", "(IIIIZ)J"⟩
abbrev cX7_sight : ByteArray := prog_9_method_50_code
def yX7_sight : MethodName := ⟨RX7, "sight", "(IIZ)I"⟩
abbrev cX7_unsee : ByteArray := prog_9_method_51_code
def yX7_unsee : MethodName := ⟨RX7, "unsee", "()I"⟩
abbrev cX7_isSeen : ByteArray := prog_9_method_52_code
def yX7_isSeen : MethodName := ⟨RX7, "isSeen", "(II)Z"⟩
abbrev cX7_rows : ByteArray := prog_9_method_53_code
def yX7_rows : MethodName := ⟨RX7, "rows", "(I)I"⟩
abbrev cX7_keep : ByteArray := prog_9_method_54_code
def yX7_keep : MethodName := ⟨RX7, "keep", "(I)I"⟩
abbrev cX7_again : ByteArray := prog_9_method_55_code
def yX7_again : MethodName := ⟨RX7, "again", "(I)I"⟩
def RJ6 : String := "java/lang/Integer"
abbrev cJ6_bitCount_0f7a4 : ByteArray := prog_10_method_49_code
def yJ6_bitCount_0f7a4 : MethodName := ⟨RJ6, "bitCount", "(I)I"⟩
def RJ9 : String := "java/lang/Math"
abbrev cJ9_max_7cf53 : ByteArray := prog_11_method_65_code
def yJ9_max_7cf53 : MethodName := ⟨RJ9, "max", "(II)I"⟩
abbrev cJ9_min_7cf53 : ByteArray := prog_11_method_69_code
def yJ9_min_7cf53 : MethodName := ⟨RJ9, "min", "(II)I"⟩
def RJ10 : String := "java/lang/System"
def RJ7 : String := "java/util/Arrays"
abbrev cJ7_fill_53178 : ByteArray := prog_13_method_103_code
def yJ7_fill_53178 : MethodName := ⟨RJ7, "fill", "([II)V"⟩
def RL : String := "ToldNineTimesLaw"
abbrev cL_law : ByteArray := code
def yL_law : MethodName := ⟨RL, "law", "([I)Z"⟩
abbrev vwCl : List vw_C := [(RX0, TX0, 2), (RX1, TX1, 8), (RX2, TX2, 7), (RX3, TX3, 2), (RX4, TX4, 3), (RX5, TX5, 6), (RX6, TX6, 9), (RX7, TX7, 34)]
end
section
theorem dX0_init_0 : decode cX0_init 0 = .ok (.aload_n 0, 1) := by decide +kernel
theorem dX0_init_1 : decode cX0_init 1 = .ok (.invokespecial 3, 3) := by decide +kernel
theorem dX0_init_4 : decode cX0_init 4 = .ok (.aload_n 0, 1) := by decide +kernel
theorem dX0_init_5 : decode cX0_init 5 = .ok (.bipush 16, 2) := by decide +kernel
theorem dX0_init_7 : decode cX0_init 7 = .ok (.newarray .int, 2) := by decide +kernel
theorem dX0_init_9 : decode cX0_init 9 = .ok (.putfield 9, 3) := by decide +kernel
theorem dX0_init_12 : decode cX0_init 12 = .ok (.return_, 1) := by decide +kernel
theorem dX0_telling_0 : decode cX0_telling 0 = .ok (.iload_n 1, 1) := by decide +kernel
theorem dX0_telling_1 : decode cX0_telling 1 = .ok (.iconst 3, 1) := by decide +kernel
theorem dX0_telling_2 : decode cX0_telling 2 = .ok (.ishl, 1) := by decide +kernel
theorem dX0_telling_3 : decode cX0_telling 3 = .ok (.iload_n 0, 1) := by decide +kernel
theorem dX0_telling_4 : decode cX0_telling 4 = .ok (.ior, 1) := by decide +kernel
theorem dX0_telling_5 : decode cX0_telling 5 = .ok (.bipush 18, 2) := by decide +kernel
theorem dX0_telling_7 : decode cX0_telling 7 = .ok (.ishl, 1) := by decide +kernel
theorem dX0_telling_8 : decode cX0_telling 8 = .ok (.iload_n 2, 1) := by decide +kernel
theorem dX0_telling_9 : decode cX0_telling 9 = .ok (.ior, 1) := by decide +kernel
theorem dX0_telling_10 : decode cX0_telling 10 = .ok (.ireturn, 1) := by decide +kernel
theorem dX0_teller_0 : decode cX0_teller 0 = .ok (.iload_n 0, 1) := by decide +kernel
theorem dX0_teller_1 : decode cX0_teller 1 = .ok (.bipush 18, 2) := by decide +kernel
theorem dX0_teller_3 : decode cX0_teller 3 = .ok (.ishr, 1) := by decide +kernel
theorem dX0_teller_4 : decode cX0_teller 4 = .ok (.bipush 7, 2) := by decide +kernel
theorem dX0_teller_6 : decode cX0_teller 6 = .ok (.iand, 1) := by decide +kernel
theorem dX0_teller_7 : decode cX0_teller 7 = .ok (.ireturn, 1) := by decide +kernel
theorem dX0_newsOf_0 : decode cX0_newsOf 0 = .ok (.iload_n 0, 1) := by decide +kernel
theorem dX0_newsOf_1 : decode cX0_newsOf 1 = .ok (.bipush 21, 2) := by decide +kernel
theorem dX0_newsOf_3 : decode cX0_newsOf 3 = .ok (.ishr, 1) := by decide +kernel
theorem dX0_newsOf_4 : decode cX0_newsOf 4 = .ok (.ireturn, 1) := by decide +kernel
theorem dX0_packedKnown_0 : decode cX0_packedKnown 0 = .ok (.iload_n 0, 1) := by decide +kernel
theorem dX0_packedKnown_1 : decode cX0_packedKnown 1 = .ok (.ldc 15, 2) := by decide +kernel
theorem dX0_packedKnown_3 : decode cX0_packedKnown 3 = .ok (.iand, 1) := by decide +kernel
theorem dX0_packedKnown_4 : decode cX0_packedKnown 4 = .ok (.ireturn, 1) := by decide +kernel
theorem dX0_append_0 : decode cX0_append 0 = .ok (.aload_n 0, 1) := by decide +kernel
theorem dX0_append_1 : decode cX0_append 1 = .ok (.getfield 16, 3) := by decide +kernel
theorem dX0_append_4 : decode cX0_append 4 = .ok (.bipush 16, 2) := by decide +kernel
theorem dX0_append_6 : decode cX0_append 6 = .ok (.if_icmp .lt 24, 3) := by decide +kernel
theorem dX0_append_9 : decode cX0_append 9 = .ok (.aload_n 0, 1) := by decide +kernel
theorem dX0_append_10 : decode cX0_append 10 = .ok (.getfield 9, 3) := by decide +kernel
theorem dX0_append_13 : decode cX0_append 13 = .ok (.iconst 1, 1) := by decide +kernel
theorem dX0_append_14 : decode cX0_append 14 = .ok (.aload_n 0, 1) := by decide +kernel
theorem dX0_append_15 : decode cX0_append 15 = .ok (.getfield 9, 3) := by decide +kernel
theorem dX0_append_18 : decode cX0_append 18 = .ok (.iconst 0, 1) := by decide +kernel
theorem dX0_append_19 : decode cX0_append 19 = .ok (.bipush 15, 2) := by decide +kernel
theorem dX0_append_21 : decode cX0_append 21 = .ok (.invokestatic 20, 3) := by decide +kernel
theorem dX0_append_24 : decode cX0_append 24 = .ok (.aload_n 0, 1) := by decide +kernel
theorem dX0_append_25 : decode cX0_append 25 = .ok (.bipush 15, 2) := by decide +kernel
theorem dX0_append_27 : decode cX0_append 27 = .ok (.putfield 16, 3) := by decide +kernel
theorem dX0_append_30 : decode cX0_append 30 = .ok (.aload_n 0, 1) := by decide +kernel
theorem dX0_append_31 : decode cX0_append 31 = .ok (.getfield 9, 3) := by decide +kernel
theorem dX0_append_34 : decode cX0_append 34 = .ok (.aload_n 0, 1) := by decide +kernel
theorem dX0_append_35 : decode cX0_append 35 = .ok (.getfield 16, 3) := by decide +kernel
theorem dX0_append_38 : decode cX0_append 38 = .ok (.iload_n 1, 1) := by decide +kernel
theorem dX0_append_39 : decode cX0_append 39 = .ok (.iastore, 1) := by decide +kernel
theorem dX0_append_40 : decode cX0_append 40 = .ok (.aload_n 0, 1) := by decide +kernel
theorem dX0_append_41 : decode cX0_append 41 = .ok (.dup, 1) := by decide +kernel
theorem dX0_append_42 : decode cX0_append 42 = .ok (.getfield 16, 3) := by decide +kernel
theorem dX0_append_45 : decode cX0_append 45 = .ok (.iconst 1, 1) := by decide +kernel
theorem dX0_append_46 : decode cX0_append 46 = .ok (.iadd, 1) := by decide +kernel
theorem dX0_append_47 : decode cX0_append 47 = .ok (.putfield 16, 3) := by decide +kernel
theorem dX0_append_50 : decode cX0_append 50 = .ok (.return_, 1) := by decide +kernel
theorem dX0_takeLast_0 : decode cX0_takeLast 0 = .ok (.aload_n 0, 1) := by decide +kernel
theorem dX0_takeLast_1 : decode cX0_takeLast 1 = .ok (.aload_n 0, 1) := by decide +kernel
theorem dX0_takeLast_2 : decode cX0_takeLast 2 = .ok (.getfield 16, 3) := by decide +kernel
theorem dX0_takeLast_5 : decode cX0_takeLast 5 = .ok (.iconst 1, 1) := by decide +kernel
theorem dX0_takeLast_6 : decode cX0_takeLast 6 = .ok (.isub, 1) := by decide +kernel
theorem dX0_takeLast_7 : decode cX0_takeLast 7 = .ok (.iconst 0, 1) := by decide +kernel
theorem dX0_takeLast_8 : decode cX0_takeLast 8 = .ok (.invokestatic 26, 3) := by decide +kernel
theorem dX0_takeLast_11 : decode cX0_takeLast 11 = .ok (.putfield 16, 3) := by decide +kernel
theorem dX0_takeLast_14 : decode cX0_takeLast 14 = .ok (.aload_n 0, 1) := by decide +kernel
theorem dX0_takeLast_15 : decode cX0_takeLast 15 = .ok (.getfield 9, 3) := by decide +kernel
theorem dX0_takeLast_18 : decode cX0_takeLast 18 = .ok (.aload_n 0, 1) := by decide +kernel
theorem dX0_takeLast_19 : decode cX0_takeLast 19 = .ok (.getfield 16, 3) := by decide +kernel
theorem dX0_takeLast_22 : decode cX0_takeLast 22 = .ok (.iaload, 1) := by decide +kernel
theorem dX0_takeLast_23 : decode cX0_takeLast 23 = .ok (.ireturn, 1) := by decide +kernel
theorem dX1_init_0 : decode cX1_init 0 = .ok (.aload_n 0, 1) := by decide +kernel
theorem dX1_init_1 : decode cX1_init 1 = .ok (.invokespecial 3, 3) := by decide +kernel
theorem dX1_init_4 : decode cX1_init 4 = .ok (.aload_n 0, 1) := by decide +kernel
theorem dX1_init_5 : decode cX1_init 5 = .ok (.bipush 36, 2) := by decide +kernel
theorem dX1_init_7 : decode cX1_init 7 = .ok (.newarray .int, 2) := by decide +kernel
theorem dX1_init_9 : decode cX1_init 9 = .ok (.putfield 9, 3) := by decide +kernel
theorem dX1_init_12 : decode cX1_init 12 = .ok (.aload_n 0, 1) := by decide +kernel
theorem dX1_init_13 : decode cX1_init 13 = .ok (.bipush 18, 2) := by decide +kernel
theorem dX1_init_15 : decode cX1_init 15 = .ok (.newarray .int, 2) := by decide +kernel
theorem dX1_init_17 : decode cX1_init 17 = .ok (.putfield 15, 3) := by decide +kernel
theorem dX1_init_20 : decode cX1_init 20 = .ok (.aload_n 0, 1) := by decide +kernel
theorem dX1_init_21 : decode cX1_init 21 = .ok (.iconst 3, 1) := by decide +kernel
theorem dX1_init_22 : decode cX1_init 22 = .ok (.newarray .int, 2) := by decide +kernel
theorem dX1_init_24 : decode cX1_init 24 = .ok (.putfield 18, 3) := by decide +kernel
theorem dX1_init_27 : decode cX1_init 27 = .ok (.aload_n 0, 1) := by decide +kernel
theorem dX1_init_28 : decode cX1_init 28 = .ok (.iconst 3, 1) := by decide +kernel
theorem dX1_init_29 : decode cX1_init 29 = .ok (.newarray .int, 2) := by decide +kernel
theorem dX1_init_31 : decode cX1_init 31 = .ok (.putfield 21, 3) := by decide +kernel
theorem dX1_init_34 : decode cX1_init 34 = .ok (.aload_n 0, 1) := by decide +kernel
theorem dX1_init_35 : decode cX1_init 35 = .ok (.iconst 3, 1) := by decide +kernel
theorem dX1_init_36 : decode cX1_init 36 = .ok (.newarray .int, 2) := by decide +kernel
theorem dX1_init_38 : decode cX1_init 38 = .ok (.putfield 24, 3) := by decide +kernel
theorem dX1_init_41 : decode cX1_init 41 = .ok (.return_, 1) := by decide +kernel
theorem dX1_clear_0 : decode cX1_clear 0 = .ok (.aload_n 0, 1) := by decide +kernel
theorem dX1_clear_1 : decode cX1_clear 1 = .ok (.getfield 9, 3) := by decide +kernel
theorem dX1_clear_4 : decode cX1_clear 4 = .ok (.bipush (-9), 2) := by decide +kernel
theorem dX1_clear_6 : decode cX1_clear 6 = .ok (.invokestatic 27, 3) := by decide +kernel
theorem dX1_clear_9 : decode cX1_clear 9 = .ok (.aload_n 0, 1) := by decide +kernel
theorem dX1_clear_10 : decode cX1_clear 10 = .ok (.getfield 15, 3) := by decide +kernel
theorem dX1_clear_13 : decode cX1_clear 13 = .ok (.iconst 0, 1) := by decide +kernel
theorem dX1_clear_14 : decode cX1_clear 14 = .ok (.invokestatic 27, 3) := by decide +kernel
theorem dX1_clear_17 : decode cX1_clear 17 = .ok (.aload_n 0, 1) := by decide +kernel
theorem dX1_clear_18 : decode cX1_clear 18 = .ok (.getfield 18, 3) := by decide +kernel
theorem dX1_clear_21 : decode cX1_clear 21 = .ok (.iconst 0, 1) := by decide +kernel
theorem dX1_clear_22 : decode cX1_clear 22 = .ok (.invokestatic 27, 3) := by decide +kernel
theorem dX1_clear_25 : decode cX1_clear 25 = .ok (.aload_n 0, 1) := by decide +kernel
theorem dX1_clear_26 : decode cX1_clear 26 = .ok (.getfield 21, 3) := by decide +kernel
theorem dX1_clear_29 : decode cX1_clear 29 = .ok (.iconst 0, 1) := by decide +kernel
theorem dX1_clear_30 : decode cX1_clear 30 = .ok (.invokestatic 27, 3) := by decide +kernel
theorem dX1_clear_33 : decode cX1_clear 33 = .ok (.aload_n 0, 1) := by decide +kernel
theorem dX1_clear_34 : decode cX1_clear 34 = .ok (.getfield 24, 3) := by decide +kernel
theorem dX1_clear_37 : decode cX1_clear 37 = .ok (.iconst 0, 1) := by decide +kernel
theorem dX1_clear_38 : decode cX1_clear 38 = .ok (.invokestatic 27, 3) := by decide +kernel
theorem dX1_clear_41 : decode cX1_clear 41 = .ok (.aload_n 0, 1) := by decide +kernel
theorem dX1_clear_42 : decode cX1_clear 42 = .ok (.iconst 0, 1) := by decide +kernel
theorem dX1_clear_43 : decode cX1_clear 43 = .ok (.putfield 33, 3) := by decide +kernel
theorem dX1_clear_46 : decode cX1_clear 46 = .ok (.aload_n 0, 1) := by decide +kernel
theorem dX1_clear_47 : decode cX1_clear 47 = .ok (.iconst 0, 1) := by decide +kernel
theorem dX1_clear_48 : decode cX1_clear 48 = .ok (.putfield 37, 3) := by decide +kernel
theorem dX1_clear_51 : decode cX1_clear 51 = .ok (.aload_n 0, 1) := by decide +kernel
theorem dX1_clear_52 : decode cX1_clear 52 = .ok (.iconst 0, 1) := by decide +kernel
theorem dX1_clear_53 : decode cX1_clear 53 = .ok (.putfield 40, 3) := by decide +kernel
theorem dX1_clear_56 : decode cX1_clear 56 = .ok (.return_, 1) := by decide +kernel
theorem dX1_put_0 : decode cX1_put 0 = .ok (.aload_n 0, 1) := by decide +kernel
theorem dX1_put_1 : decode cX1_put 1 = .ok (.getfield 9, 3) := by decide +kernel
theorem dX1_put_4 : decode cX1_put 4 = .ok (.iload_n 1, 1) := by decide +kernel
theorem dX1_put_5 : decode cX1_put 5 = .ok (.bipush 6, 2) := by decide +kernel
theorem dX1_put_7 : decode cX1_put 7 = .ok (.imul, 1) := by decide +kernel
theorem dX1_put_8 : decode cX1_put 8 = .ok (.iload_n 2, 1) := by decide +kernel
theorem dX1_put_9 : decode cX1_put 9 = .ok (.iadd, 1) := by decide +kernel
theorem dX1_put_10 : decode cX1_put 10 = .ok (.iload_n 3, 1) := by decide +kernel
theorem dX1_put_11 : decode cX1_put 11 = .ok (.iastore, 1) := by decide +kernel
theorem dX1_put_12 : decode cX1_put 12 = .ok (.aload_n 0, 1) := by decide +kernel
theorem dX1_put_13 : decode cX1_put 13 = .ok (.getfield 15, 3) := by decide +kernel
theorem dX1_put_16 : decode cX1_put 16 = .ok (.iload_n 2, 1) := by decide +kernel
theorem dX1_put_17 : decode cX1_put 17 = .ok (.iconst 3, 1) := by decide +kernel
theorem dX1_put_18 : decode cX1_put 18 = .ok (.imul, 1) := by decide +kernel
theorem dX1_put_19 : decode cX1_put 19 = .ok (.iload_n 3, 1) := by decide +kernel
theorem dX1_put_20 : decode cX1_put 20 = .ok (.iadd, 1) := by decide +kernel
theorem dX1_put_21 : decode cX1_put 21 = .ok (.dup2, 1) := by decide +kernel
theorem dX1_put_22 : decode cX1_put 22 = .ok (.iaload, 1) := by decide +kernel
theorem dX1_put_23 : decode cX1_put 23 = .ok (.iconst 1, 1) := by decide +kernel
theorem dX1_put_24 : decode cX1_put 24 = .ok (.iload_n 1, 1) := by decide +kernel
theorem dX1_put_25 : decode cX1_put 25 = .ok (.ishl, 1) := by decide +kernel
theorem dX1_put_26 : decode cX1_put 26 = .ok (.ior, 1) := by decide +kernel
theorem dX1_put_27 : decode cX1_put 27 = .ok (.iastore, 1) := by decide +kernel
theorem dX1_put_28 : decode cX1_put 28 = .ok (.return_, 1) := by decide +kernel
theorem dX1_placeOf_0 : decode cX1_placeOf 0 = .ok (.aload_n 0, 1) := by decide +kernel
theorem dX1_placeOf_1 : decode cX1_placeOf 1 = .ok (.getfield 9, 3) := by decide +kernel
theorem dX1_placeOf_4 : decode cX1_placeOf 4 = .ok (.iload_n 1, 1) := by decide +kernel
theorem dX1_placeOf_5 : decode cX1_placeOf 5 = .ok (.bipush 6, 2) := by decide +kernel
theorem dX1_placeOf_7 : decode cX1_placeOf 7 = .ok (.imul, 1) := by decide +kernel
theorem dX1_placeOf_8 : decode cX1_placeOf 8 = .ok (.iload_n 2, 1) := by decide +kernel
theorem dX1_placeOf_9 : decode cX1_placeOf 9 = .ok (.iadd, 1) := by decide +kernel
theorem dX1_placeOf_10 : decode cX1_placeOf 10 = .ok (.iaload, 1) := by decide +kernel
theorem dX1_placeOf_11 : decode cX1_placeOf 11 = .ok (.ireturn, 1) := by decide +kernel
theorem dX1_group_0 : decode cX1_group 0 = .ok (.iload_n 2, 1) := by decide +kernel
theorem dX1_group_1 : decode cX1_group 1 = .ok (.ifCond .lt 21, 3) := by decide +kernel
theorem dX1_group_4 : decode cX1_group 4 = .ok (.iload_n 2, 1) := by decide +kernel
theorem dX1_group_5 : decode cX1_group 5 = .ok (.iconst 3, 1) := by decide +kernel
theorem dX1_group_6 : decode cX1_group 6 = .ok (.if_icmp .ge 16, 3) := by decide +kernel
theorem dX1_group_9 : decode cX1_group 9 = .ok (.aload_n 0, 1) := by decide +kernel
theorem dX1_group_10 : decode cX1_group 10 = .ok (.getfield 15, 3) := by decide +kernel
theorem dX1_group_13 : decode cX1_group 13 = .ok (.iload_n 1, 1) := by decide +kernel
theorem dX1_group_14 : decode cX1_group 14 = .ok (.iconst 3, 1) := by decide +kernel
theorem dX1_group_15 : decode cX1_group 15 = .ok (.imul, 1) := by decide +kernel
theorem dX1_group_16 : decode cX1_group 16 = .ok (.iload_n 2, 1) := by decide +kernel
theorem dX1_group_17 : decode cX1_group 17 = .ok (.iadd, 1) := by decide +kernel
theorem dX1_group_18 : decode cX1_group 18 = .ok (.iaload, 1) := by decide +kernel
theorem dX1_group_19 : decode cX1_group 19 = .ok (.goto 4, 3) := by decide +kernel
theorem dX1_group_22 : decode cX1_group 22 = .ok (.iconst 0, 1) := by decide +kernel
theorem dX1_group_23 : decode cX1_group 23 = .ok (.ireturn, 1) := by decide +kernel
theorem dX1_isCompany_0 : decode cX1_isCompany 0 = .ok (.iload_n 0, 1) := by decide +kernel
theorem dX1_isCompany_1 : decode cX1_isCompany 1 = .ok (.invokestatic 43, 3) := by decide +kernel
theorem dX1_isCompany_4 : decode cX1_isCompany 4 = .ok (.iconst 1, 1) := by decide +kernel
theorem dX1_isCompany_5 : decode cX1_isCompany 5 = .ok (.if_icmp .le 7, 3) := by decide +kernel
theorem dX1_isCompany_8 : decode cX1_isCompany 8 = .ok (.iconst 1, 1) := by decide +kernel
theorem dX1_isCompany_9 : decode cX1_isCompany 9 = .ok (.goto 4, 3) := by decide +kernel
theorem dX1_isCompany_12 : decode cX1_isCompany 12 = .ok (.iconst 0, 1) := by decide +kernel
theorem dX1_isCompany_13 : decode cX1_isCompany 13 = .ok (.ireturn, 1) := by decide +kernel
theorem dX2_init_0 : decode cX2_init 0 = .ok (.aload_n 0, 1) := by decide +kernel
theorem dX2_init_1 : decode cX2_init 1 = .ok (.invokespecial 3, 3) := by decide +kernel
theorem dX2_init_4 : decode cX2_init 4 = .ok (.aload_n 0, 1) := by decide +kernel
theorem dX2_init_5 : decode cX2_init 5 = .ok (.sipush 384, 3) := by decide +kernel
theorem dX2_init_8 : decode cX2_init 8 = .ok (.newarray .int, 2) := by decide +kernel
theorem dX2_init_10 : decode cX2_init 10 = .ok (.putfield 9, 3) := by decide +kernel
theorem dX2_init_13 : decode cX2_init 13 = .ok (.aload_n 0, 1) := by decide +kernel
theorem dX2_init_14 : decode cX2_init 14 = .ok (.bipush 64, 2) := by decide +kernel
theorem dX2_init_16 : decode cX2_init 16 = .ok (.newarray .int, 2) := by decide +kernel
theorem dX2_init_18 : decode cX2_init 18 = .ok (.putfield 15, 3) := by decide +kernel
theorem dX2_init_21 : decode cX2_init 21 = .ok (.aload_n 0, 1) := by decide +kernel
theorem dX2_init_22 : decode cX2_init 22 = .ok (.sipush 640, 3) := by decide +kernel
theorem dX2_init_25 : decode cX2_init 25 = .ok (.newarray .int, 2) := by decide +kernel
theorem dX2_init_27 : decode cX2_init 27 = .ok (.putfield 18, 3) := by decide +kernel
theorem dX2_init_30 : decode cX2_init 30 = .ok (.aload_n 0, 1) := by decide +kernel
theorem dX2_init_31 : decode cX2_init 31 = .ok (.bipush 8, 2) := by decide +kernel
theorem dX2_init_33 : decode cX2_init 33 = .ok (.newarray .int, 2) := by decide +kernel
theorem dX2_init_35 : decode cX2_init 35 = .ok (.putfield 21, 3) := by decide +kernel
theorem dX2_init_38 : decode cX2_init 38 = .ok (.aload_n 0, 1) := by decide +kernel
theorem dX2_init_39 : decode cX2_init 39 = .ok (.aload_n 1, 1) := by decide +kernel
theorem dX2_init_40 : decode cX2_init 40 = .ok (.putfield 24, 3) := by decide +kernel
theorem dX2_init_43 : decode cX2_init 43 = .ok (.return_, 1) := by decide +kernel
theorem dX2_behind_0 : decode cX2_behind 0 = .ok (.iload_n 3, 1) := by decide +kernel
theorem dX2_behind_1 : decode cX2_behind 1 = .ok (.istore 4, 2) := by decide +kernel
theorem dX2_behind_3 : decode cX2_behind 3 = .ok (.iconst 0, 1) := by decide +kernel
theorem dX2_behind_4 : decode cX2_behind 4 = .ok (.istore 5, 2) := by decide +kernel
theorem dX2_behind_6 : decode cX2_behind 6 = .ok (.iload 5, 2) := by decide +kernel
theorem dX2_behind_8 : decode cX2_behind 8 = .ok (.iconst 3, 1) := by decide +kernel
theorem dX2_behind_9 : decode cX2_behind 9 = .ok (.if_icmp .ge 54, 3) := by decide +kernel
theorem dX2_behind_12 : decode cX2_behind 12 = .ok (.iload_n 2, 1) := by decide +kernel
theorem dX2_behind_13 : decode cX2_behind 13 = .ok (.iload 5, 2) := by decide +kernel
theorem dX2_behind_15 : decode cX2_behind 15 = .ok (.ishr, 1) := by decide +kernel
theorem dX2_behind_16 : decode cX2_behind 16 = .ok (.iconst 1, 1) := by decide +kernel
theorem dX2_behind_17 : decode cX2_behind 17 = .ok (.iand, 1) := by decide +kernel
theorem dX2_behind_18 : decode cX2_behind 18 = .ok (.ifCond .eq 39, 3) := by decide +kernel
theorem dX2_behind_21 : decode cX2_behind 21 = .ok (.aload_n 0, 1) := by decide +kernel
theorem dX2_behind_22 : decode cX2_behind 22 = .ok (.getfield 24, 3) := by decide +kernel
theorem dX2_behind_25 : decode cX2_behind 25 = .ok (.iload_n 1, 1) := by decide +kernel
theorem dX2_behind_26 : decode cX2_behind 26 = .ok (.iload 5, 2) := by decide +kernel
theorem dX2_behind_28 : decode cX2_behind 28 = .ok (.invokevirtual 28, 3) := by decide +kernel
theorem dX2_behind_31 : decode cX2_behind 31 = .ok (.istore 6, 2) := by decide +kernel
theorem dX2_behind_33 : decode cX2_behind 33 = .ok (.iload 6, 2) := by decide +kernel
theorem dX2_behind_35 : decode cX2_behind 35 = .ok (.iload_n 3, 1) := by decide +kernel
theorem dX2_behind_36 : decode cX2_behind 36 = .ok (.iand, 1) := by decide +kernel
theorem dX2_behind_37 : decode cX2_behind 37 = .ok (.ifCond .eq 11, 3) := by decide +kernel
theorem dX2_behind_40 : decode cX2_behind 40 = .ok (.iload 6, 2) := by decide +kernel
theorem dX2_behind_42 : decode cX2_behind 42 = .ok (.invokestatic 34, 3) := by decide +kernel
theorem dX2_behind_45 : decode cX2_behind 45 = .ok (.ifCond .ne 5, 3) := by decide +kernel
theorem dX2_behind_48 : decode cX2_behind 48 = .ok (.iconst (-1), 1) := by decide +kernel
theorem dX2_behind_49 : decode cX2_behind 49 = .ok (.ireturn, 1) := by decide +kernel
theorem dX2_behind_50 : decode cX2_behind 50 = .ok (.iload 4, 2) := by decide +kernel
theorem dX2_behind_52 : decode cX2_behind 52 = .ok (.iload 6, 2) := by decide +kernel
theorem dX2_behind_54 : decode cX2_behind 54 = .ok (.ior, 1) := by decide +kernel
theorem dX2_behind_55 : decode cX2_behind 55 = .ok (.istore 4, 2) := by decide +kernel
theorem dX2_behind_57 : decode cX2_behind 57 = .ok (.iinc 5 1, 3) := by decide +kernel
theorem dX2_behind_60 : decode cX2_behind 60 = .ok (.goto (-54), 3) := by decide +kernel
theorem dX2_behind_63 : decode cX2_behind 63 = .ok (.iload 4, 2) := by decide +kernel
theorem dX2_behind_65 : decode cX2_behind 65 = .ok (.ireturn, 1) := by decide +kernel
theorem dX2_findNexts_0 : decode cX2_findNexts 0 = .ok (.iconst 0, 1) := by decide +kernel
theorem dX2_findNexts_1 : decode cX2_findNexts 1 = .ok (.istore_n 3, 1) := by decide +kernel
theorem dX2_findNexts_2 : decode cX2_findNexts 2 = .ok (.iload_n 3, 1) := by decide +kernel
theorem dX2_findNexts_3 : decode cX2_findNexts 3 = .ok (.bipush 8, 2) := by decide +kernel
theorem dX2_findNexts_5 : decode cX2_findNexts 5 = .ok (.if_icmp .ge 22, 3) := by decide +kernel
theorem dX2_findNexts_8 : decode cX2_findNexts 8 = .ok (.aload_n 0, 1) := by decide +kernel
theorem dX2_findNexts_9 : decode cX2_findNexts 9 = .ok (.getfield 21, 3) := by decide +kernel
theorem dX2_findNexts_12 : decode cX2_findNexts 12 = .ok (.iload_n 3, 1) := by decide +kernel
theorem dX2_findNexts_13 : decode cX2_findNexts 13 = .ok (.aload_n 0, 1) := by decide +kernel
theorem dX2_findNexts_14 : decode cX2_findNexts 14 = .ok (.iload_n 1, 1) := by decide +kernel
theorem dX2_findNexts_15 : decode cX2_findNexts 15 = .ok (.iload_n 3, 1) := by decide +kernel
theorem dX2_findNexts_16 : decode cX2_findNexts 16 = .ok (.iload_n 2, 1) := by decide +kernel
theorem dX2_findNexts_17 : decode cX2_findNexts 17 = .ok (.invokevirtual 38, 3) := by decide +kernel
theorem dX2_findNexts_20 : decode cX2_findNexts 20 = .ok (.iastore, 1) := by decide +kernel
theorem dX2_findNexts_21 : decode cX2_findNexts 21 = .ok (.iinc 3 1, 3) := by decide +kernel
theorem dX2_findNexts_24 : decode cX2_findNexts 24 = .ok (.goto (-22), 3) := by decide +kernel
theorem dX2_findNexts_27 : decode cX2_findNexts 27 = .ok (.return_, 1) := by decide +kernel
theorem dX2_want_0 : decode cX2_want 0 = .ok (.aload_n 0, 1) := by decide +kernel
theorem dX2_want_1 : decode cX2_want 1 = .ok (.aload_n 1, 1) := by decide +kernel
theorem dX2_want_2 : decode cX2_want 2 = .ok (.putfield 24, 3) := by decide +kernel
theorem dX2_want_5 : decode cX2_want 5 = .ok (.aload_n 0, 1) := by decide +kernel
theorem dX2_want_6 : decode cX2_want 6 = .ok (.iload_n 2, 1) := by decide +kernel
theorem dX2_want_7 : decode cX2_want 7 = .ok (.putfield 42, 3) := by decide +kernel
theorem dX2_want_10 : decode cX2_want 10 = .ok (.aload_n 0, 1) := by decide +kernel
theorem dX2_want_11 : decode cX2_want 11 = .ok (.getfield 9, 3) := by decide +kernel
theorem dX2_want_14 : decode cX2_want 14 = .ok (.iconst (-1), 1) := by decide +kernel
theorem dX2_want_15 : decode cX2_want 15 = .ok (.invokestatic 46, 3) := by decide +kernel
theorem dX2_want_18 : decode cX2_want 18 = .ok (.return_, 1) := by decide +kernel
theorem dX2_need_0 : decode cX2_need 0 = .ok (.aload_n 0, 1) := by decide +kernel
theorem dX2_need_1 : decode cX2_need 1 = .ok (.getfield 42, 3) := by decide +kernel
theorem dX2_need_4 : decode cX2_need 4 = .ok (.iload_n 2, 1) := by decide +kernel
theorem dX2_need_5 : decode cX2_need 5 = .ok (.iconst (-1), 1) := by decide +kernel
theorem dX2_need_6 : decode cX2_need 6 = .ok (.ixor, 1) := by decide +kernel
theorem dX2_need_7 : decode cX2_need 7 = .ok (.iand, 1) := by decide +kernel
theorem dX2_need_8 : decode cX2_need 8 = .ok (.ifCond .ne 5, 3) := by decide +kernel
theorem dX2_need_11 : decode cX2_need 11 = .ok (.iconst 0, 1) := by decide +kernel
theorem dX2_need_12 : decode cX2_need 12 = .ok (.ireturn, 1) := by decide +kernel
theorem dX2_need_13 : decode cX2_need 13 = .ok (.iload_n 1, 1) := by decide +kernel
theorem dX2_need_14 : decode cX2_need 14 = .ok (.bipush 6, 2) := by decide +kernel
theorem dX2_need_16 : decode cX2_need 16 = .ok (.if_icmp .lt 6, 3) := by decide +kernel
theorem dX2_need_19 : decode cX2_need 19 = .ok (.bipush 99, 2) := by decide +kernel
theorem dX2_need_21 : decode cX2_need 21 = .ok (.ireturn, 1) := by decide +kernel
theorem dX2_need_22 : decode cX2_need 22 = .ok (.iload_n 1, 1) := by decide +kernel
theorem dX2_need_23 : decode cX2_need 23 = .ok (.bipush 64, 2) := by decide +kernel
theorem dX2_need_25 : decode cX2_need 25 = .ok (.imul, 1) := by decide +kernel
theorem dX2_need_26 : decode cX2_need 26 = .ok (.iload_n 2, 1) := by decide +kernel
theorem dX2_need_27 : decode cX2_need 27 = .ok (.iadd, 1) := by decide +kernel
theorem dX2_need_28 : decode cX2_need 28 = .ok (.istore_n 3, 1) := by decide +kernel
theorem dX2_need_29 : decode cX2_need 29 = .ok (.aload_n 0, 1) := by decide +kernel
theorem dX2_need_30 : decode cX2_need 30 = .ok (.getfield 9, 3) := by decide +kernel
theorem dX2_need_33 : decode cX2_need 33 = .ok (.iload_n 3, 1) := by decide +kernel
theorem dX2_need_34 : decode cX2_need 34 = .ok (.iaload, 1) := by decide +kernel
theorem dX2_need_35 : decode cX2_need 35 = .ok (.iconst (-1), 1) := by decide +kernel
theorem dX2_need_36 : decode cX2_need 36 = .ok (.if_icmp .ne 46, 3) := by decide +kernel
theorem dX2_need_39 : decode cX2_need 39 = .ok (.bipush 99, 2) := by decide +kernel
theorem dX2_need_41 : decode cX2_need 41 = .ok (.istore 4, 2) := by decide +kernel
theorem dX2_need_43 : decode cX2_need 43 = .ok (.iconst 0, 1) := by decide +kernel
theorem dX2_need_44 : decode cX2_need 44 = .ok (.istore 5, 2) := by decide +kernel
theorem dX2_need_46 : decode cX2_need 46 = .ok (.iload 5, 2) := by decide +kernel
theorem dX2_need_48 : decode cX2_need 48 = .ok (.bipush 8, 2) := by decide +kernel
theorem dX2_need_50 : decode cX2_need 50 = .ok (.if_icmp .ge 24, 3) := by decide +kernel
theorem dX2_need_53 : decode cX2_need 53 = .ok (.iload 4, 2) := by decide +kernel
theorem dX2_need_55 : decode cX2_need 55 = .ok (.aload_n 0, 1) := by decide +kernel
theorem dX2_need_56 : decode cX2_need 56 = .ok (.iload_n 1, 1) := by decide +kernel
theorem dX2_need_57 : decode cX2_need 57 = .ok (.iload_n 2, 1) := by decide +kernel
theorem dX2_need_58 : decode cX2_need 58 = .ok (.iload 5, 2) := by decide +kernel
theorem dX2_need_60 : decode cX2_need 60 = .ok (.invokevirtual 52, 3) := by decide +kernel
theorem dX2_need_63 : decode cX2_need 63 = .ok (.invokestatic 55, 3) := by decide +kernel
theorem dX2_need_66 : decode cX2_need 66 = .ok (.istore 4, 2) := by decide +kernel
theorem dX2_need_68 : decode cX2_need 68 = .ok (.iinc 5 1, 3) := by decide +kernel
theorem dX2_need_71 : decode cX2_need 71 = .ok (.goto (-25), 3) := by decide +kernel
theorem dX2_need_74 : decode cX2_need 74 = .ok (.aload_n 0, 1) := by decide +kernel
theorem dX2_need_75 : decode cX2_need 75 = .ok (.getfield 9, 3) := by decide +kernel
theorem dX2_need_78 : decode cX2_need 78 = .ok (.iload_n 3, 1) := by decide +kernel
theorem dX2_need_79 : decode cX2_need 79 = .ok (.iload 4, 2) := by decide +kernel
theorem dX2_need_81 : decode cX2_need 81 = .ok (.iastore, 1) := by decide +kernel
theorem dX2_need_82 : decode cX2_need 82 = .ok (.aload_n 0, 1) := by decide +kernel
theorem dX2_need_83 : decode cX2_need 83 = .ok (.getfield 9, 3) := by decide +kernel
theorem dX2_need_86 : decode cX2_need 86 = .ok (.iload_n 3, 1) := by decide +kernel
theorem dX2_need_87 : decode cX2_need 87 = .ok (.iaload, 1) := by decide +kernel
theorem dX2_need_88 : decode cX2_need 88 = .ok (.ireturn, 1) := by decide +kernel
theorem dX2_needBy_0 : decode cX2_needBy 0 = .ok (.aload_n 0, 1) := by decide +kernel
theorem dX2_needBy_1 : decode cX2_needBy 1 = .ok (.iload_n 1, 1) := by decide +kernel
theorem dX2_needBy_2 : decode cX2_needBy 2 = .ok (.iload_n 3, 1) := by decide +kernel
theorem dX2_needBy_3 : decode cX2_needBy 3 = .ok (.iload_n 2, 1) := by decide +kernel
theorem dX2_needBy_4 : decode cX2_needBy 4 = .ok (.invokevirtual 38, 3) := by decide +kernel
theorem dX2_needBy_7 : decode cX2_needBy 7 = .ok (.istore 4, 2) := by decide +kernel
theorem dX2_needBy_9 : decode cX2_needBy 9 = .ok (.iload 4, 2) := by decide +kernel
theorem dX2_needBy_11 : decode cX2_needBy 11 = .ok (.ifCond .ge 6, 3) := by decide +kernel
theorem dX2_needBy_14 : decode cX2_needBy 14 = .ok (.bipush 99, 2) := by decide +kernel
theorem dX2_needBy_16 : decode cX2_needBy 16 = .ok (.ireturn, 1) := by decide +kernel
theorem dX2_needBy_17 : decode cX2_needBy 17 = .ok (.bipush 99, 2) := by decide +kernel
theorem dX2_needBy_19 : decode cX2_needBy 19 = .ok (.iload_n 3, 1) := by decide +kernel
theorem dX2_needBy_20 : decode cX2_needBy 20 = .ok (.invokestatic 60, 3) := by decide +kernel
theorem dX2_needBy_23 : decode cX2_needBy 23 = .ok (.aload_n 0, 1) := by decide +kernel
theorem dX2_needBy_24 : decode cX2_needBy 24 = .ok (.iload_n 1, 1) := by decide +kernel
theorem dX2_needBy_25 : decode cX2_needBy 25 = .ok (.iconst 1, 1) := by decide +kernel
theorem dX2_needBy_26 : decode cX2_needBy 26 = .ok (.iadd, 1) := by decide +kernel
theorem dX2_needBy_27 : decode cX2_needBy 27 = .ok (.iload 4, 2) := by decide +kernel
theorem dX2_needBy_29 : decode cX2_needBy 29 = .ok (.invokevirtual 66, 3) := by decide +kernel
theorem dX2_needBy_32 : decode cX2_needBy 32 = .ok (.iadd, 1) := by decide +kernel
theorem dX2_needBy_33 : decode cX2_needBy 33 = .ok (.invokestatic 55, 3) := by decide +kernel
theorem dX2_needBy_36 : decode cX2_needBy 36 = .ok (.ireturn, 1) := by decide +kernel
theorem dX2_planned_0 : decode cX2_planned 0 = .ok (.iload_n 2, 1) := by decide +kernel
theorem dX2_planned_1 : decode cX2_planned 1 = .ok (.istore 4, 2) := by decide +kernel
theorem dX2_planned_3 : decode cX2_planned 3 = .ok (.iconst 0, 1) := by decide +kernel
theorem dX2_planned_4 : decode cX2_planned 4 = .ok (.istore 5, 2) := by decide +kernel
theorem dX2_planned_6 : decode cX2_planned 6 = .ok (.iload_n 1, 1) := by decide +kernel
theorem dX2_planned_7 : decode cX2_planned 7 = .ok (.istore 6, 2) := by decide +kernel
theorem dX2_planned_9 : decode cX2_planned 9 = .ok (.iload 6, 2) := by decide +kernel
theorem dX2_planned_11 : decode cX2_planned 11 = .ok (.iload_n 1, 1) := by decide +kernel
theorem dX2_planned_12 : decode cX2_planned 12 = .ok (.iload_n 3, 1) := by decide +kernel
theorem dX2_planned_13 : decode cX2_planned 13 = .ok (.iadd, 1) := by decide +kernel
theorem dX2_planned_14 : decode cX2_planned 14 = .ok (.if_icmp .gt 38, 3) := by decide +kernel
theorem dX2_planned_17 : decode cX2_planned 17 = .ok (.iload 6, 2) := by decide +kernel
theorem dX2_planned_19 : decode cX2_planned 19 = .ok (.bipush 6, 2) := by decide +kernel
theorem dX2_planned_21 : decode cX2_planned 21 = .ok (.if_icmp .ge 31, 3) := by decide +kernel
theorem dX2_planned_24 : decode cX2_planned 24 = .ok (.aload_n 0, 1) := by decide +kernel
theorem dX2_planned_25 : decode cX2_planned 25 = .ok (.iload 6, 2) := by decide +kernel
theorem dX2_planned_27 : decode cX2_planned 27 = .ok (.iload 4, 2) := by decide +kernel
theorem dX2_planned_29 : decode cX2_planned 29 = .ok (.invokevirtual 69, 3) := by decide +kernel
theorem dX2_planned_32 : decode cX2_planned 32 = .ok (.istore 5, 2) := by decide +kernel
theorem dX2_planned_34 : decode cX2_planned 34 = .ok (.aload_n 0, 1) := by decide +kernel
theorem dX2_planned_35 : decode cX2_planned 35 = .ok (.iload 6, 2) := by decide +kernel
theorem dX2_planned_37 : decode cX2_planned 37 = .ok (.iload 5, 2) := by decide +kernel
theorem dX2_planned_39 : decode cX2_planned 39 = .ok (.iload 4, 2) := by decide +kernel
theorem dX2_planned_41 : decode cX2_planned 41 = .ok (.invokevirtual 38, 3) := by decide +kernel
theorem dX2_planned_44 : decode cX2_planned 44 = .ok (.istore 4, 2) := by decide +kernel
theorem dX2_planned_46 : decode cX2_planned 46 = .ok (.iinc 6 1, 3) := by decide +kernel
theorem dX2_planned_49 : decode cX2_planned 49 = .ok (.goto (-40), 3) := by decide +kernel
theorem dX2_planned_52 : decode cX2_planned 52 = .ok (.iload 5, 2) := by decide +kernel
theorem dX2_planned_54 : decode cX2_planned 54 = .ok (.ireturn, 1) := by decide +kernel
theorem dX2_firstOfLeast_0 : decode cX2_firstOfLeast 0 = .ok (.aload_n 0, 1) := by decide +kernel
theorem dX2_firstOfLeast_1 : decode cX2_firstOfLeast 1 = .ok (.iload_n 1, 1) := by decide +kernel
theorem dX2_firstOfLeast_2 : decode cX2_firstOfLeast 2 = .ok (.iload_n 2, 1) := by decide +kernel
theorem dX2_firstOfLeast_3 : decode cX2_firstOfLeast 3 = .ok (.invokevirtual 66, 3) := by decide +kernel
theorem dX2_firstOfLeast_6 : decode cX2_firstOfLeast 6 = .ok (.istore_n 3, 1) := by decide +kernel
theorem dX2_firstOfLeast_7 : decode cX2_firstOfLeast 7 = .ok (.iconst 0, 1) := by decide +kernel
theorem dX2_firstOfLeast_8 : decode cX2_firstOfLeast 8 = .ok (.istore 4, 2) := by decide +kernel
theorem dX2_firstOfLeast_10 : decode cX2_firstOfLeast 10 = .ok (.iload 4, 2) := by decide +kernel
theorem dX2_firstOfLeast_12 : decode cX2_firstOfLeast 12 = .ok (.bipush 8, 2) := by decide +kernel
theorem dX2_firstOfLeast_14 : decode cX2_firstOfLeast 14 = .ok (.if_icmp .ge 35, 3) := by decide +kernel
theorem dX2_firstOfLeast_17 : decode cX2_firstOfLeast 17 = .ok (.aload_n 0, 1) := by decide +kernel
theorem dX2_firstOfLeast_18 : decode cX2_firstOfLeast 18 = .ok (.iload_n 1, 1) := by decide +kernel
theorem dX2_firstOfLeast_19 : decode cX2_firstOfLeast 19 = .ok (.iload_n 2, 1) := by decide +kernel
theorem dX2_firstOfLeast_20 : decode cX2_firstOfLeast 20 = .ok (.iload 4, 2) := by decide +kernel
theorem dX2_firstOfLeast_22 : decode cX2_firstOfLeast 22 = .ok (.invokevirtual 52, 3) := by decide +kernel
theorem dX2_firstOfLeast_25 : decode cX2_firstOfLeast 25 = .ok (.iload_n 3, 1) := by decide +kernel
theorem dX2_firstOfLeast_26 : decode cX2_firstOfLeast 26 = .ok (.if_icmp .ne 17, 3) := by decide +kernel
theorem dX2_firstOfLeast_29 : decode cX2_firstOfLeast 29 = .ok (.aload_n 0, 1) := by decide +kernel
theorem dX2_firstOfLeast_30 : decode cX2_firstOfLeast 30 = .ok (.iload_n 1, 1) := by decide +kernel
theorem dX2_firstOfLeast_31 : decode cX2_firstOfLeast 31 = .ok (.iload 4, 2) := by decide +kernel
theorem dX2_firstOfLeast_33 : decode cX2_firstOfLeast 33 = .ok (.iload_n 2, 1) := by decide +kernel
theorem dX2_firstOfLeast_34 : decode cX2_firstOfLeast 34 = .ok (.invokevirtual 38, 3) := by decide +kernel
theorem dX2_firstOfLeast_37 : decode cX2_firstOfLeast 37 = .ok (.ifCond .lt 6, 3) := by decide +kernel
theorem dX2_firstOfLeast_40 : decode cX2_firstOfLeast 40 = .ok (.iload 4, 2) := by decide +kernel
theorem dX2_firstOfLeast_42 : decode cX2_firstOfLeast 42 = .ok (.ireturn, 1) := by decide +kernel
theorem dX2_firstOfLeast_43 : decode cX2_firstOfLeast 43 = .ok (.iinc 4 1, 3) := by decide +kernel
theorem dX2_firstOfLeast_46 : decode cX2_firstOfLeast 46 = .ok (.goto (-36), 3) := by decide +kernel
theorem dX2_firstOfLeast_49 : decode cX2_firstOfLeast 49 = .ok (.iconst 0, 1) := by decide +kernel
theorem dX2_firstOfLeast_50 : decode cX2_firstOfLeast 50 = .ok (.ireturn, 1) := by decide +kernel
theorem dX2_wonBy_0 : decode cX2_wonBy 0 = .ok (.aload_n 0, 1) := by decide +kernel
theorem dX2_wonBy_1 : decode cX2_wonBy 1 = .ok (.getfield 42, 3) := by decide +kernel
theorem dX2_wonBy_4 : decode cX2_wonBy 4 = .ok (.iload_n 2, 1) := by decide +kernel
theorem dX2_wonBy_5 : decode cX2_wonBy 5 = .ok (.iand, 1) := by decide +kernel
theorem dX2_wonBy_6 : decode cX2_wonBy 6 = .ok (.ifCond .eq 7, 3) := by decide +kernel
theorem dX2_wonBy_9 : decode cX2_wonBy 9 = .ok (.sipush 1023, 3) := by decide +kernel
theorem dX2_wonBy_12 : decode cX2_wonBy 12 = .ok (.ireturn, 1) := by decide +kernel
theorem dX2_wonBy_13 : decode cX2_wonBy 13 = .ok (.iload_n 1, 1) := by decide +kernel
theorem dX2_wonBy_14 : decode cX2_wonBy 14 = .ok (.bipush 6, 2) := by decide +kernel
theorem dX2_wonBy_16 : decode cX2_wonBy 16 = .ok (.if_icmp .lt 5, 3) := by decide +kernel
theorem dX2_wonBy_19 : decode cX2_wonBy 19 = .ok (.iconst 0, 1) := by decide +kernel
theorem dX2_wonBy_20 : decode cX2_wonBy 20 = .ok (.ireturn, 1) := by decide +kernel
theorem dX2_wonBy_21 : decode cX2_wonBy 21 = .ok (.iload_n 1, 1) := by decide +kernel
theorem dX2_wonBy_22 : decode cX2_wonBy 22 = .ok (.bipush 64, 2) := by decide +kernel
theorem dX2_wonBy_24 : decode cX2_wonBy 24 = .ok (.imul, 1) := by decide +kernel
theorem dX2_wonBy_25 : decode cX2_wonBy 25 = .ok (.iload_n 2, 1) := by decide +kernel
theorem dX2_wonBy_26 : decode cX2_wonBy 26 = .ok (.iadd, 1) := by decide +kernel
theorem dX2_wonBy_27 : decode cX2_wonBy 27 = .ok (.istore_n 3, 1) := by decide +kernel
theorem dX2_wonBy_28 : decode cX2_wonBy 28 = .ok (.aload_n 0, 1) := by decide +kernel
theorem dX2_wonBy_29 : decode cX2_wonBy 29 = .ok (.getfield 9, 3) := by decide +kernel
theorem dX2_wonBy_32 : decode cX2_wonBy 32 = .ok (.iload_n 3, 1) := by decide +kernel
theorem dX2_wonBy_33 : decode cX2_wonBy 33 = .ok (.iaload, 1) := by decide +kernel
theorem dX2_wonBy_34 : decode cX2_wonBy 34 = .ok (.iconst (-1), 1) := by decide +kernel
theorem dX2_wonBy_35 : decode cX2_wonBy 35 = .ok (.if_icmp .ne 60, 3) := by decide +kernel
theorem dX2_wonBy_38 : decode cX2_wonBy 38 = .ok (.iconst 0, 1) := by decide +kernel
theorem dX2_wonBy_39 : decode cX2_wonBy 39 = .ok (.istore 4, 2) := by decide +kernel
theorem dX2_wonBy_41 : decode cX2_wonBy 41 = .ok (.getstatic 72, 3) := by decide +kernel
theorem dX2_wonBy_44 : decode cX2_wonBy 44 = .ok (.astore 5, 2) := by decide +kernel
theorem dX2_wonBy_46 : decode cX2_wonBy 46 = .ok (.aload 5, 2) := by decide +kernel
theorem dX2_wonBy_48 : decode cX2_wonBy 48 = .ok (.arraylength, 1) := by decide +kernel
theorem dX2_wonBy_49 : decode cX2_wonBy 49 = .ok (.istore 6, 2) := by decide +kernel
theorem dX2_wonBy_51 : decode cX2_wonBy 51 = .ok (.iconst 0, 1) := by decide +kernel
theorem dX2_wonBy_52 : decode cX2_wonBy 52 = .ok (.istore 7, 2) := by decide +kernel
theorem dX2_wonBy_54 : decode cX2_wonBy 54 = .ok (.iload 7, 2) := by decide +kernel
theorem dX2_wonBy_56 : decode cX2_wonBy 56 = .ok (.iload 6, 2) := by decide +kernel
theorem dX2_wonBy_58 : decode cX2_wonBy 58 = .ok (.if_icmp .ge 29, 3) := by decide +kernel
theorem dX2_wonBy_61 : decode cX2_wonBy 61 = .ok (.aload 5, 2) := by decide +kernel
theorem dX2_wonBy_63 : decode cX2_wonBy 63 = .ok (.iload 7, 2) := by decide +kernel
theorem dX2_wonBy_65 : decode cX2_wonBy 65 = .ok (.iaload, 1) := by decide +kernel
theorem dX2_wonBy_66 : decode cX2_wonBy 66 = .ok (.istore 8, 2) := by decide +kernel
theorem dX2_wonBy_68 : decode cX2_wonBy 68 = .ok (.iload 4, 2) := by decide +kernel
theorem dX2_wonBy_70 : decode cX2_wonBy 70 = .ok (.aload_n 0, 1) := by decide +kernel
theorem dX2_wonBy_71 : decode cX2_wonBy 71 = .ok (.iload_n 1, 1) := by decide +kernel
theorem dX2_wonBy_72 : decode cX2_wonBy 72 = .ok (.iload_n 2, 1) := by decide +kernel
theorem dX2_wonBy_73 : decode cX2_wonBy 73 = .ok (.iload 8, 2) := by decide +kernel
theorem dX2_wonBy_75 : decode cX2_wonBy 75 = .ok (.invokevirtual 75, 3) := by decide +kernel
theorem dX2_wonBy_78 : decode cX2_wonBy 78 = .ok (.ior, 1) := by decide +kernel
theorem dX2_wonBy_79 : decode cX2_wonBy 79 = .ok (.istore 4, 2) := by decide +kernel
theorem dX2_wonBy_81 : decode cX2_wonBy 81 = .ok (.iinc 7 1, 3) := by decide +kernel
theorem dX2_wonBy_84 : decode cX2_wonBy 84 = .ok (.goto (-30), 3) := by decide +kernel
theorem dX2_wonBy_87 : decode cX2_wonBy 87 = .ok (.aload_n 0, 1) := by decide +kernel
theorem dX2_wonBy_88 : decode cX2_wonBy 88 = .ok (.getfield 9, 3) := by decide +kernel
theorem dX2_wonBy_91 : decode cX2_wonBy 91 = .ok (.iload_n 3, 1) := by decide +kernel
theorem dX2_wonBy_92 : decode cX2_wonBy 92 = .ok (.iload 4, 2) := by decide +kernel
theorem dX2_wonBy_94 : decode cX2_wonBy 94 = .ok (.iastore, 1) := by decide +kernel
theorem dX2_wonBy_95 : decode cX2_wonBy 95 = .ok (.aload_n 0, 1) := by decide +kernel
theorem dX2_wonBy_96 : decode cX2_wonBy 96 = .ok (.getfield 9, 3) := by decide +kernel
theorem dX2_wonBy_99 : decode cX2_wonBy 99 = .ok (.iload_n 3, 1) := by decide +kernel
theorem dX2_wonBy_100 : decode cX2_wonBy 100 = .ok (.iaload, 1) := by decide +kernel
theorem dX2_wonBy_101 : decode cX2_wonBy 101 = .ok (.ireturn, 1) := by decide +kernel
theorem dX2_wonByChoice_0 : decode cX2_wonByChoice 0 = .ok (.aload_n 0, 1) := by decide +kernel
theorem dX2_wonByChoice_1 : decode cX2_wonByChoice 1 = .ok (.iload_n 1, 1) := by decide +kernel
theorem dX2_wonByChoice_2 : decode cX2_wonByChoice 2 = .ok (.iload_n 3, 1) := by decide +kernel
theorem dX2_wonByChoice_3 : decode cX2_wonByChoice 3 = .ok (.iload_n 2, 1) := by decide +kernel
theorem dX2_wonByChoice_4 : decode cX2_wonByChoice 4 = .ok (.invokevirtual 38, 3) := by decide +kernel
theorem dX2_wonByChoice_7 : decode cX2_wonByChoice 7 = .ok (.ifCond .ge 5, 3) := by decide +kernel
theorem dX2_wonByChoice_10 : decode cX2_wonByChoice 10 = .ok (.iconst 0, 1) := by decide +kernel
theorem dX2_wonByChoice_11 : decode cX2_wonByChoice 11 = .ok (.ireturn, 1) := by decide +kernel
theorem dX2_wonByChoice_12 : decode cX2_wonByChoice 12 = .ok (.iload_n 3, 1) := by decide +kernel
theorem dX2_wonByChoice_13 : decode cX2_wonByChoice 13 = .ok (.ifCond .ne 9, 3) := by decide +kernel
theorem dX2_wonByChoice_16 : decode cX2_wonByChoice 16 = .ok (.sipush 1023, 3) := by decide +kernel
theorem dX2_wonByChoice_19 : decode cX2_wonByChoice 19 = .ok (.goto 6, 3) := by decide +kernel
theorem dX2_wonByChoice_22 : decode cX2_wonByChoice 22 = .ok (.sipush 1022, 3) := by decide +kernel
theorem dX2_wonByChoice_25 : decode cX2_wonByChoice 25 = .ok (.istore 4, 2) := by decide +kernel
theorem dX2_wonByChoice_27 : decode cX2_wonByChoice 27 = .ok (.getstatic 72, 3) := by decide +kernel
theorem dX2_wonByChoice_30 : decode cX2_wonByChoice 30 = .ok (.astore 5, 2) := by decide +kernel
theorem dX2_wonByChoice_32 : decode cX2_wonByChoice 32 = .ok (.aload 5, 2) := by decide +kernel
theorem dX2_wonByChoice_34 : decode cX2_wonByChoice 34 = .ok (.arraylength, 1) := by decide +kernel
theorem dX2_wonByChoice_35 : decode cX2_wonByChoice 35 = .ok (.istore 6, 2) := by decide +kernel
theorem dX2_wonByChoice_37 : decode cX2_wonByChoice 37 = .ok (.iconst 0, 1) := by decide +kernel
theorem dX2_wonByChoice_38 : decode cX2_wonByChoice 38 = .ok (.istore 7, 2) := by decide +kernel
theorem dX2_wonByChoice_40 : decode cX2_wonByChoice 40 = .ok (.iload 7, 2) := by decide +kernel
theorem dX2_wonByChoice_42 : decode cX2_wonByChoice 42 = .ok (.iload 6, 2) := by decide +kernel
theorem dX2_wonByChoice_44 : decode cX2_wonByChoice 44 = .ok (.if_icmp .ge 73, 3) := by decide +kernel
theorem dX2_wonByChoice_47 : decode cX2_wonByChoice 47 = .ok (.aload 5, 2) := by decide +kernel
theorem dX2_wonByChoice_49 : decode cX2_wonByChoice 49 = .ok (.iload 7, 2) := by decide +kernel
theorem dX2_wonByChoice_51 : decode cX2_wonByChoice 51 = .ok (.iaload, 1) := by decide +kernel
theorem dX2_wonByChoice_52 : decode cX2_wonByChoice 52 = .ok (.istore 8, 2) := by decide +kernel
theorem dX2_wonByChoice_54 : decode cX2_wonByChoice 54 = .ok (.aload_n 0, 1) := by decide +kernel
theorem dX2_wonByChoice_55 : decode cX2_wonByChoice 55 = .ok (.iload_n 1, 1) := by decide +kernel
theorem dX2_wonByChoice_56 : decode cX2_wonByChoice 56 = .ok (.iload_n 3, 1) := by decide +kernel
theorem dX2_wonByChoice_57 : decode cX2_wonByChoice 57 = .ok (.iload 8, 2) := by decide +kernel
theorem dX2_wonByChoice_59 : decode cX2_wonByChoice 59 = .ok (.ior, 1) := by decide +kernel
theorem dX2_wonByChoice_60 : decode cX2_wonByChoice 60 = .ok (.iload_n 2, 1) := by decide +kernel
theorem dX2_wonByChoice_61 : decode cX2_wonByChoice 61 = .ok (.invokevirtual 38, 3) := by decide +kernel
theorem dX2_wonByChoice_64 : decode cX2_wonByChoice 64 = .ok (.istore 9, 2) := by decide +kernel
theorem dX2_wonByChoice_66 : decode cX2_wonByChoice 66 = .ok (.iload 9, 2) := by decide +kernel
theorem dX2_wonByChoice_68 : decode cX2_wonByChoice 68 = .ok (.ifCond .lt 43, 3) := by decide +kernel
theorem dX2_wonByChoice_71 : decode cX2_wonByChoice 71 = .ok (.iload_n 3, 1) := by decide +kernel
theorem dX2_wonByChoice_72 : decode cX2_wonByChoice 72 = .ok (.iload 8, 2) := by decide +kernel
theorem dX2_wonByChoice_74 : decode cX2_wonByChoice 74 = .ok (.iand, 1) := by decide +kernel
theorem dX2_wonByChoice_75 : decode cX2_wonByChoice 75 = .ok (.ifCond .ne 36, 3) := by decide +kernel
theorem dX2_wonByChoice_78 : decode cX2_wonByChoice 78 = .ok (.iload_n 3, 1) := by decide +kernel
theorem dX2_wonByChoice_79 : decode cX2_wonByChoice 79 = .ok (.iload 8, 2) := by decide +kernel
theorem dX2_wonByChoice_81 : decode cX2_wonByChoice 81 = .ok (.ior, 1) := by decide +kernel
theorem dX2_wonByChoice_82 : decode cX2_wonByChoice 82 = .ok (.invokestatic 60, 3) := by decide +kernel
theorem dX2_wonByChoice_85 : decode cX2_wonByChoice 85 = .ok (.istore 10, 2) := by decide +kernel
theorem dX2_wonByChoice_87 : decode cX2_wonByChoice 87 = .ok (.iload 4, 2) := by decide +kernel
theorem dX2_wonByChoice_89 : decode cX2_wonByChoice 89 = .ok (.aload_n 0, 1) := by decide +kernel
theorem dX2_wonByChoice_90 : decode cX2_wonByChoice 90 = .ok (.iload_n 1, 1) := by decide +kernel
theorem dX2_wonByChoice_91 : decode cX2_wonByChoice 91 = .ok (.iconst 1, 1) := by decide +kernel
theorem dX2_wonByChoice_92 : decode cX2_wonByChoice 92 = .ok (.iadd, 1) := by decide +kernel
theorem dX2_wonByChoice_93 : decode cX2_wonByChoice 93 = .ok (.iload 9, 2) := by decide +kernel
theorem dX2_wonByChoice_95 : decode cX2_wonByChoice 95 = .ok (.invokevirtual 78, 3) := by decide +kernel
theorem dX2_wonByChoice_98 : decode cX2_wonByChoice 98 = .ok (.iload 10, 2) := by decide +kernel
theorem dX2_wonByChoice_100 : decode cX2_wonByChoice 100 = .ok (.ishl, 1) := by decide +kernel
theorem dX2_wonByChoice_101 : decode cX2_wonByChoice 101 = .ok (.iconst 1, 1) := by decide +kernel
theorem dX2_wonByChoice_102 : decode cX2_wonByChoice 102 = .ok (.iload 10, 2) := by decide +kernel
theorem dX2_wonByChoice_104 : decode cX2_wonByChoice 104 = .ok (.ishl, 1) := by decide +kernel
theorem dX2_wonByChoice_105 : decode cX2_wonByChoice 105 = .ok (.iconst 1, 1) := by decide +kernel
theorem dX2_wonByChoice_106 : decode cX2_wonByChoice 106 = .ok (.isub, 1) := by decide +kernel
theorem dX2_wonByChoice_107 : decode cX2_wonByChoice 107 = .ok (.ior, 1) := by decide +kernel
theorem dX2_wonByChoice_108 : decode cX2_wonByChoice 108 = .ok (.iand, 1) := by decide +kernel
theorem dX2_wonByChoice_109 : decode cX2_wonByChoice 109 = .ok (.istore 4, 2) := by decide +kernel
theorem dX2_wonByChoice_111 : decode cX2_wonByChoice 111 = .ok (.iinc 7 1, 3) := by decide +kernel
theorem dX2_wonByChoice_114 : decode cX2_wonByChoice 114 = .ok (.goto (-74), 3) := by decide +kernel
theorem dX2_wonByChoice_117 : decode cX2_wonByChoice 117 = .ok (.iload 4, 2) := by decide +kernel
theorem dX2_wonByChoice_119 : decode cX2_wonByChoice 119 = .ok (.ireturn, 1) := by decide +kernel
theorem dX2_lookFrom_0 : decode cX2_lookFrom 0 = .ok (.aload_n 0, 1) := by decide +kernel
theorem dX2_lookFrom_1 : decode cX2_lookFrom 1 = .ok (.aload_n 1, 1) := by decide +kernel
theorem dX2_lookFrom_2 : decode cX2_lookFrom 2 = .ok (.putfield 24, 3) := by decide +kernel
theorem dX2_lookFrom_5 : decode cX2_lookFrom 5 = .ok (.aload_n 0, 1) := by decide +kernel
theorem dX2_lookFrom_6 : decode cX2_lookFrom 6 = .ok (.getfield 15, 3) := by decide +kernel
theorem dX2_lookFrom_9 : decode cX2_lookFrom 9 = .ok (.iconst 0, 1) := by decide +kernel
theorem dX2_lookFrom_10 : decode cX2_lookFrom 10 = .ok (.invokestatic 46, 3) := by decide +kernel
theorem dX2_lookFrom_13 : decode cX2_lookFrom 13 = .ok (.aload_n 0, 1) := by decide +kernel
theorem dX2_lookFrom_14 : decode cX2_lookFrom 14 = .ok (.getfield 15, 3) := by decide +kernel
theorem dX2_lookFrom_17 : decode cX2_lookFrom 17 = .ok (.iload_n 2, 1) := by decide +kernel
theorem dX2_lookFrom_18 : decode cX2_lookFrom 18 = .ok (.iconst 1, 1) := by decide +kernel
theorem dX2_lookFrom_19 : decode cX2_lookFrom 19 = .ok (.iload_n 3, 1) := by decide +kernel
theorem dX2_lookFrom_20 : decode cX2_lookFrom 20 = .ok (.ishl, 1) := by decide +kernel
theorem dX2_lookFrom_21 : decode cX2_lookFrom 21 = .ok (.iastore, 1) := by decide +kernel
theorem dX2_lookFrom_22 : decode cX2_lookFrom 22 = .ok (.return_, 1) := by decide +kernel
theorem dX2_goThrough_0 : decode cX2_goThrough 0 = .ok (.bipush 63, 2) := by decide +kernel
theorem dX2_goThrough_2 : decode cX2_goThrough 2 = .ok (.istore_n 3, 1) := by decide +kernel
theorem dX2_goThrough_3 : decode cX2_goThrough 3 = .ok (.iload_n 3, 1) := by decide +kernel
theorem dX2_goThrough_4 : decode cX2_goThrough 4 = .ok (.ifCond .lt 78, 3) := by decide +kernel
theorem dX2_goThrough_7 : decode cX2_goThrough 7 = .ok (.aload_n 0, 1) := by decide +kernel
theorem dX2_goThrough_8 : decode cX2_goThrough 8 = .ok (.getfield 15, 3) := by decide +kernel
theorem dX2_goThrough_11 : decode cX2_goThrough 11 = .ok (.iload_n 3, 1) := by decide +kernel
theorem dX2_goThrough_12 : decode cX2_goThrough 12 = .ok (.iaload, 1) := by decide +kernel
theorem dX2_goThrough_13 : decode cX2_goThrough 13 = .ok (.istore 4, 2) := by decide +kernel
theorem dX2_goThrough_15 : decode cX2_goThrough 15 = .ok (.iconst 1, 1) := by decide +kernel
theorem dX2_goThrough_16 : decode cX2_goThrough 16 = .ok (.istore 5, 2) := by decide +kernel
theorem dX2_goThrough_18 : decode cX2_goThrough 18 = .ok (.iload 4, 2) := by decide +kernel
theorem dX2_goThrough_20 : decode cX2_goThrough 20 = .ok (.ifCond .eq 56, 3) := by decide +kernel
theorem dX2_goThrough_23 : decode cX2_goThrough 23 = .ok (.iload 5, 2) := by decide +kernel
theorem dX2_goThrough_25 : decode cX2_goThrough 25 = .ok (.bipush 8, 2) := by decide +kernel
theorem dX2_goThrough_27 : decode cX2_goThrough 27 = .ok (.if_icmp .ge 49, 3) := by decide +kernel
theorem dX2_goThrough_30 : decode cX2_goThrough 30 = .ok (.aload_n 0, 1) := by decide +kernel
theorem dX2_goThrough_31 : decode cX2_goThrough 31 = .ok (.iload_n 1, 1) := by decide +kernel
theorem dX2_goThrough_32 : decode cX2_goThrough 32 = .ok (.iload 5, 2) := by decide +kernel
theorem dX2_goThrough_34 : decode cX2_goThrough 34 = .ok (.iload_n 3, 1) := by decide +kernel
theorem dX2_goThrough_35 : decode cX2_goThrough 35 = .ok (.invokevirtual 38, 3) := by decide +kernel
theorem dX2_goThrough_38 : decode cX2_goThrough 38 = .ok (.istore 6, 2) := by decide +kernel
theorem dX2_goThrough_40 : decode cX2_goThrough 40 = .ok (.iload 6, 2) := by decide +kernel
theorem dX2_goThrough_42 : decode cX2_goThrough 42 = .ok (.ifCond .lt 28, 3) := by decide +kernel
theorem dX2_goThrough_45 : decode cX2_goThrough 45 = .ok (.iload 6, 2) := by decide +kernel
theorem dX2_goThrough_47 : decode cX2_goThrough 47 = .ok (.iload_n 2, 1) := by decide +kernel
theorem dX2_goThrough_48 : decode cX2_goThrough 48 = .ok (.iand, 1) := by decide +kernel
theorem dX2_goThrough_49 : decode cX2_goThrough 49 = .ok (.ifCond .ne 21, 3) := by decide +kernel
theorem dX2_goThrough_52 : decode cX2_goThrough 52 = .ok (.aload_n 0, 1) := by decide +kernel
theorem dX2_goThrough_53 : decode cX2_goThrough 53 = .ok (.getfield 15, 3) := by decide +kernel
theorem dX2_goThrough_56 : decode cX2_goThrough 56 = .ok (.iload 6, 2) := by decide +kernel
theorem dX2_goThrough_58 : decode cX2_goThrough 58 = .ok (.dup2, 1) := by decide +kernel
theorem dX2_goThrough_59 : decode cX2_goThrough 59 = .ok (.iaload, 1) := by decide +kernel
theorem dX2_goThrough_60 : decode cX2_goThrough 60 = .ok (.iload 4, 2) := by decide +kernel
theorem dX2_goThrough_62 : decode cX2_goThrough 62 = .ok (.iload 5, 2) := by decide +kernel
theorem dX2_goThrough_64 : decode cX2_goThrough 64 = .ok (.invokestatic 60, 3) := by decide +kernel
theorem dX2_goThrough_67 : decode cX2_goThrough 67 = .ok (.ishr, 1) := by decide +kernel
theorem dX2_goThrough_68 : decode cX2_goThrough 68 = .ok (.ior, 1) := by decide +kernel
theorem dX2_goThrough_69 : decode cX2_goThrough 69 = .ok (.iastore, 1) := by decide +kernel
theorem dX2_goThrough_70 : decode cX2_goThrough 70 = .ok (.iinc 5 1, 3) := by decide +kernel
theorem dX2_goThrough_73 : decode cX2_goThrough 73 = .ok (.goto (-55), 3) := by decide +kernel
theorem dX2_goThrough_76 : decode cX2_goThrough 76 = .ok (.iinc 3 (-1), 3) := by decide +kernel
theorem dX2_goThrough_79 : decode cX2_goThrough 79 = .ok (.goto (-76), 3) := by decide +kernel
theorem dX2_goThrough_82 : decode cX2_goThrough 82 = .ok (.return_, 1) := by decide +kernel
theorem dX2_canBeSpent_0 : decode cX2_canBeSpent 0 = .ok (.iconst 0, 1) := by decide +kernel
theorem dX2_canBeSpent_1 : decode cX2_canBeSpent 1 = .ok (.istore_n 1, 1) := by decide +kernel
theorem dX2_canBeSpent_2 : decode cX2_canBeSpent 2 = .ok (.iload_n 1, 1) := by decide +kernel
theorem dX2_canBeSpent_3 : decode cX2_canBeSpent 3 = .ok (.bipush 64, 2) := by decide +kernel
theorem dX2_canBeSpent_5 : decode cX2_canBeSpent 5 = .ok (.if_icmp .ge 22, 3) := by decide +kernel
theorem dX2_canBeSpent_8 : decode cX2_canBeSpent 8 = .ok (.aload_n 0, 1) := by decide +kernel
theorem dX2_canBeSpent_9 : decode cX2_canBeSpent 9 = .ok (.getfield 15, 3) := by decide +kernel
theorem dX2_canBeSpent_12 : decode cX2_canBeSpent 12 = .ok (.iload_n 1, 1) := by decide +kernel
theorem dX2_canBeSpent_13 : decode cX2_canBeSpent 13 = .ok (.iaload, 1) := by decide +kernel
theorem dX2_canBeSpent_14 : decode cX2_canBeSpent 14 = .ok (.iconst 1, 1) := by decide +kernel
theorem dX2_canBeSpent_15 : decode cX2_canBeSpent 15 = .ok (.iand, 1) := by decide +kernel
theorem dX2_canBeSpent_16 : decode cX2_canBeSpent 16 = .ok (.ifCond .eq 5, 3) := by decide +kernel
theorem dX2_canBeSpent_19 : decode cX2_canBeSpent 19 = .ok (.iconst 1, 1) := by decide +kernel
theorem dX2_canBeSpent_20 : decode cX2_canBeSpent 20 = .ok (.ireturn, 1) := by decide +kernel
theorem dX2_canBeSpent_21 : decode cX2_canBeSpent 21 = .ok (.iinc 1 1, 3) := by decide +kernel
theorem dX2_canBeSpent_24 : decode cX2_canBeSpent 24 = .ok (.goto (-22), 3) := by decide +kernel
theorem dX2_canBeSpent_27 : decode cX2_canBeSpent 27 = .ok (.iconst 0, 1) := by decide +kernel
theorem dX2_canBeSpent_28 : decode cX2_canBeSpent 28 = .ok (.ireturn, 1) := by decide +kernel
theorem dX2_mostKnowing_0 : decode cX2_mostKnowing 0 = .ok (.iconst 0, 1) := by decide +kernel
theorem dX2_mostKnowing_1 : decode cX2_mostKnowing 1 = .ok (.istore_n 1, 1) := by decide +kernel
theorem dX2_mostKnowing_2 : decode cX2_mostKnowing 2 = .ok (.iconst 0, 1) := by decide +kernel
theorem dX2_mostKnowing_3 : decode cX2_mostKnowing 3 = .ok (.istore_n 2, 1) := by decide +kernel
theorem dX2_mostKnowing_4 : decode cX2_mostKnowing 4 = .ok (.iload_n 2, 1) := by decide +kernel
theorem dX2_mostKnowing_5 : decode cX2_mostKnowing 5 = .ok (.bipush 64, 2) := by decide +kernel
theorem dX2_mostKnowing_7 : decode cX2_mostKnowing 7 = .ok (.if_icmp .ge 27, 3) := by decide +kernel
theorem dX2_mostKnowing_10 : decode cX2_mostKnowing 10 = .ok (.aload_n 0, 1) := by decide +kernel
theorem dX2_mostKnowing_11 : decode cX2_mostKnowing 11 = .ok (.getfield 15, 3) := by decide +kernel
theorem dX2_mostKnowing_14 : decode cX2_mostKnowing 14 = .ok (.iload_n 2, 1) := by decide +kernel
theorem dX2_mostKnowing_15 : decode cX2_mostKnowing 15 = .ok (.iaload, 1) := by decide +kernel
theorem dX2_mostKnowing_16 : decode cX2_mostKnowing 16 = .ok (.ifCond .eq 12, 3) := by decide +kernel
theorem dX2_mostKnowing_19 : decode cX2_mostKnowing 19 = .ok (.iload_n 1, 1) := by decide +kernel
theorem dX2_mostKnowing_20 : decode cX2_mostKnowing 20 = .ok (.iload_n 2, 1) := by decide +kernel
theorem dX2_mostKnowing_21 : decode cX2_mostKnowing 21 = .ok (.invokestatic 60, 3) := by decide +kernel
theorem dX2_mostKnowing_24 : decode cX2_mostKnowing 24 = .ok (.invokestatic 81, 3) := by decide +kernel
theorem dX2_mostKnowing_27 : decode cX2_mostKnowing 27 = .ok (.istore_n 1, 1) := by decide +kernel
theorem dX2_mostKnowing_28 : decode cX2_mostKnowing 28 = .ok (.iinc 2 1, 3) := by decide +kernel
theorem dX2_mostKnowing_31 : decode cX2_mostKnowing 31 = .ok (.goto (-27), 3) := by decide +kernel
theorem dX2_mostKnowing_34 : decode cX2_mostKnowing 34 = .ok (.iload_n 1, 1) := by decide +kernel
theorem dX2_mostKnowing_35 : decode cX2_mostKnowing 35 = .ok (.ireturn, 1) := by decide +kernel
theorem dX2_countFrom_0 : decode cX2_countFrom 0 = .ok (.aload_n 0, 1) := by decide +kernel
theorem dX2_countFrom_1 : decode cX2_countFrom 1 = .ok (.aload_n 1, 1) := by decide +kernel
theorem dX2_countFrom_2 : decode cX2_countFrom 2 = .ok (.putfield 24, 3) := by decide +kernel
theorem dX2_countFrom_5 : decode cX2_countFrom 5 = .ok (.aload_n 0, 1) := by decide +kernel
theorem dX2_countFrom_6 : decode cX2_countFrom 6 = .ok (.iload_n 3, 1) := by decide +kernel
theorem dX2_countFrom_7 : decode cX2_countFrom 7 = .ok (.putfield 84, 3) := by decide +kernel
theorem dX2_countFrom_10 : decode cX2_countFrom 10 = .ok (.aload_n 0, 1) := by decide +kernel
theorem dX2_countFrom_11 : decode cX2_countFrom 11 = .ok (.getfield 18, 3) := by decide +kernel
theorem dX2_countFrom_14 : decode cX2_countFrom 14 = .ok (.iconst 0, 1) := by decide +kernel
theorem dX2_countFrom_15 : decode cX2_countFrom 15 = .ok (.invokestatic 46, 3) := by decide +kernel
theorem dX2_countFrom_18 : decode cX2_countFrom 18 = .ok (.aload_n 0, 1) := by decide +kernel
theorem dX2_countFrom_19 : decode cX2_countFrom 19 = .ok (.getfield 18, 3) := by decide +kernel
theorem dX2_countFrom_22 : decode cX2_countFrom 22 = .ok (.iload_n 2, 1) := by decide +kernel
theorem dX2_countFrom_23 : decode cX2_countFrom 23 = .ok (.bipush 10, 2) := by decide +kernel
theorem dX2_countFrom_25 : decode cX2_countFrom 25 = .ok (.imul, 1) := by decide +kernel
theorem dX2_countFrom_26 : decode cX2_countFrom 26 = .ok (.iconst 1, 1) := by decide +kernel
theorem dX2_countFrom_27 : decode cX2_countFrom 27 = .ok (.iastore, 1) := by decide +kernel
theorem dX2_countFrom_28 : decode cX2_countFrom 28 = .ok (.return_, 1) := by decide +kernel
theorem dX2_countThrough_0 : decode cX2_countThrough 0 = .ok (.bipush 63, 2) := by decide +kernel
theorem dX2_countThrough_2 : decode cX2_countThrough 2 = .ok (.istore_n 2, 1) := by decide +kernel
theorem dX2_countThrough_3 : decode cX2_countThrough 3 = .ok (.iload_n 2, 1) := by decide +kernel
theorem dX2_countThrough_4 : decode cX2_countThrough 4 = .ok (.ifCond .lt 54, 3) := by decide +kernel
theorem dX2_countThrough_7 : decode cX2_countThrough 7 = .ok (.aload_n 0, 1) := by decide +kernel
theorem dX2_countThrough_8 : decode cX2_countThrough 8 = .ok (.iload_n 2, 1) := by decide +kernel
theorem dX2_countThrough_9 : decode cX2_countThrough 9 = .ok (.invokevirtual 87, 3) := by decide +kernel
theorem dX2_countThrough_12 : decode cX2_countThrough 12 = .ok (.ifCond .eq 40, 3) := by decide +kernel
theorem dX2_countThrough_15 : decode cX2_countThrough 15 = .ok (.aload_n 0, 1) := by decide +kernel
theorem dX2_countThrough_16 : decode cX2_countThrough 16 = .ok (.iload_n 1, 1) := by decide +kernel
theorem dX2_countThrough_17 : decode cX2_countThrough 17 = .ok (.iload_n 2, 1) := by decide +kernel
theorem dX2_countThrough_18 : decode cX2_countThrough 18 = .ok (.invokevirtual 90, 3) := by decide +kernel
theorem dX2_countThrough_21 : decode cX2_countThrough 21 = .ok (.aload_n 0, 1) := by decide +kernel
theorem dX2_countThrough_22 : decode cX2_countThrough 22 = .ok (.getfield 84, 3) := by decide +kernel
theorem dX2_countThrough_25 : decode cX2_countThrough 25 = .ok (.istore_n 3, 1) := by decide +kernel
theorem dX2_countThrough_26 : decode cX2_countThrough 26 = .ok (.iload_n 3, 1) := by decide +kernel
theorem dX2_countThrough_27 : decode cX2_countThrough 27 = .ok (.ifCond .lt 25, 3) := by decide +kernel
theorem dX2_countThrough_30 : decode cX2_countThrough 30 = .ok (.aload_n 0, 1) := by decide +kernel
theorem dX2_countThrough_31 : decode cX2_countThrough 31 = .ok (.aload_n 0, 1) := by decide +kernel
theorem dX2_countThrough_32 : decode cX2_countThrough 32 = .ok (.getfield 18, 3) := by decide +kernel
theorem dX2_countThrough_35 : decode cX2_countThrough 35 = .ok (.iload_n 2, 1) := by decide +kernel
theorem dX2_countThrough_36 : decode cX2_countThrough 36 = .ok (.bipush 10, 2) := by decide +kernel
theorem dX2_countThrough_38 : decode cX2_countThrough 38 = .ok (.imul, 1) := by decide +kernel
theorem dX2_countThrough_39 : decode cX2_countThrough 39 = .ok (.iload_n 3, 1) := by decide +kernel
theorem dX2_countThrough_40 : decode cX2_countThrough 40 = .ok (.iadd, 1) := by decide +kernel
theorem dX2_countThrough_41 : decode cX2_countThrough 41 = .ok (.iaload, 1) := by decide +kernel
theorem dX2_countThrough_42 : decode cX2_countThrough 42 = .ok (.iload_n 3, 1) := by decide +kernel
theorem dX2_countThrough_43 : decode cX2_countThrough 43 = .ok (.invokevirtual 94, 3) := by decide +kernel
theorem dX2_countThrough_46 : decode cX2_countThrough 46 = .ok (.iinc 3 (-1), 3) := by decide +kernel
theorem dX2_countThrough_49 : decode cX2_countThrough 49 = .ok (.goto (-23), 3) := by decide +kernel
theorem dX2_countThrough_52 : decode cX2_countThrough 52 = .ok (.iinc 2 (-1), 3) := by decide +kernel
theorem dX2_countThrough_55 : decode cX2_countThrough 55 = .ok (.goto (-52), 3) := by decide +kernel
theorem dX2_countThrough_58 : decode cX2_countThrough 58 = .ok (.return_, 1) := by decide +kernel
theorem dX2_countOn_0 : decode cX2_countOn 0 = .ok (.iconst 1, 1) := by decide +kernel
theorem dX2_countOn_1 : decode cX2_countOn 1 = .ok (.istore_n 3, 1) := by decide +kernel
theorem dX2_countOn_2 : decode cX2_countOn 2 = .ok (.iload_n 1, 1) := by decide +kernel
theorem dX2_countOn_3 : decode cX2_countOn 3 = .ok (.ifCond .eq 62, 3) := by decide +kernel
theorem dX2_countOn_6 : decode cX2_countOn 6 = .ok (.iload_n 3, 1) := by decide +kernel
theorem dX2_countOn_7 : decode cX2_countOn 7 = .ok (.bipush 8, 2) := by decide +kernel
theorem dX2_countOn_9 : decode cX2_countOn 9 = .ok (.if_icmp .ge 56, 3) := by decide +kernel
theorem dX2_countOn_12 : decode cX2_countOn 12 = .ok (.iload_n 2, 1) := by decide +kernel
theorem dX2_countOn_13 : decode cX2_countOn 13 = .ok (.iload_n 3, 1) := by decide +kernel
theorem dX2_countOn_14 : decode cX2_countOn 14 = .ok (.invokestatic 60, 3) := by decide +kernel
theorem dX2_countOn_17 : decode cX2_countOn 17 = .ok (.iadd, 1) := by decide +kernel
theorem dX2_countOn_18 : decode cX2_countOn 18 = .ok (.istore 4, 2) := by decide +kernel
theorem dX2_countOn_20 : decode cX2_countOn 20 = .ok (.aload_n 0, 1) := by decide +kernel
theorem dX2_countOn_21 : decode cX2_countOn 21 = .ok (.getfield 21, 3) := by decide +kernel
theorem dX2_countOn_24 : decode cX2_countOn 24 = .ok (.iload_n 3, 1) := by decide +kernel
theorem dX2_countOn_25 : decode cX2_countOn 25 = .ok (.iaload, 1) := by decide +kernel
theorem dX2_countOn_26 : decode cX2_countOn 26 = .ok (.ifCond .lt 33, 3) := by decide +kernel
theorem dX2_countOn_29 : decode cX2_countOn 29 = .ok (.iload 4, 2) := by decide +kernel
theorem dX2_countOn_31 : decode cX2_countOn 31 = .ok (.aload_n 0, 1) := by decide +kernel
theorem dX2_countOn_32 : decode cX2_countOn 32 = .ok (.getfield 84, 3) := by decide +kernel
theorem dX2_countOn_35 : decode cX2_countOn 35 = .ok (.if_icmp .gt 24, 3) := by decide +kernel
theorem dX2_countOn_38 : decode cX2_countOn 38 = .ok (.aload_n 0, 1) := by decide +kernel
theorem dX2_countOn_39 : decode cX2_countOn 39 = .ok (.getfield 18, 3) := by decide +kernel
theorem dX2_countOn_42 : decode cX2_countOn 42 = .ok (.aload_n 0, 1) := by decide +kernel
theorem dX2_countOn_43 : decode cX2_countOn 43 = .ok (.getfield 21, 3) := by decide +kernel
theorem dX2_countOn_46 : decode cX2_countOn 46 = .ok (.iload_n 3, 1) := by decide +kernel
theorem dX2_countOn_47 : decode cX2_countOn 47 = .ok (.iaload, 1) := by decide +kernel
theorem dX2_countOn_48 : decode cX2_countOn 48 = .ok (.bipush 10, 2) := by decide +kernel
theorem dX2_countOn_50 : decode cX2_countOn 50 = .ok (.imul, 1) := by decide +kernel
theorem dX2_countOn_51 : decode cX2_countOn 51 = .ok (.iload 4, 2) := by decide +kernel
theorem dX2_countOn_53 : decode cX2_countOn 53 = .ok (.iadd, 1) := by decide +kernel
theorem dX2_countOn_54 : decode cX2_countOn 54 = .ok (.dup2, 1) := by decide +kernel
theorem dX2_countOn_55 : decode cX2_countOn 55 = .ok (.iaload, 1) := by decide +kernel
theorem dX2_countOn_56 : decode cX2_countOn 56 = .ok (.iload_n 1, 1) := by decide +kernel
theorem dX2_countOn_57 : decode cX2_countOn 57 = .ok (.iadd, 1) := by decide +kernel
theorem dX2_countOn_58 : decode cX2_countOn 58 = .ok (.iastore, 1) := by decide +kernel
theorem dX2_countOn_59 : decode cX2_countOn 59 = .ok (.iinc 3 1, 3) := by decide +kernel
theorem dX2_countOn_62 : decode cX2_countOn 62 = .ok (.goto (-60), 3) := by decide +kernel
theorem dX2_countOn_65 : decode cX2_countOn 65 = .ok (.return_, 1) := by decide +kernel
theorem dX2_isReached_0 : decode cX2_isReached 0 = .ok (.iconst 0, 1) := by decide +kernel
theorem dX2_isReached_1 : decode cX2_isReached 1 = .ok (.istore_n 2, 1) := by decide +kernel
theorem dX2_isReached_2 : decode cX2_isReached 2 = .ok (.iload_n 2, 1) := by decide +kernel
theorem dX2_isReached_3 : decode cX2_isReached 3 = .ok (.aload_n 0, 1) := by decide +kernel
theorem dX2_isReached_4 : decode cX2_isReached 4 = .ok (.getfield 84, 3) := by decide +kernel
theorem dX2_isReached_7 : decode cX2_isReached 7 = .ok (.if_icmp .gt 25, 3) := by decide +kernel
theorem dX2_isReached_10 : decode cX2_isReached 10 = .ok (.aload_n 0, 1) := by decide +kernel
theorem dX2_isReached_11 : decode cX2_isReached 11 = .ok (.getfield 18, 3) := by decide +kernel
theorem dX2_isReached_14 : decode cX2_isReached 14 = .ok (.iload_n 1, 1) := by decide +kernel
theorem dX2_isReached_15 : decode cX2_isReached 15 = .ok (.bipush 10, 2) := by decide +kernel
theorem dX2_isReached_17 : decode cX2_isReached 17 = .ok (.imul, 1) := by decide +kernel
theorem dX2_isReached_18 : decode cX2_isReached 18 = .ok (.iload_n 2, 1) := by decide +kernel
theorem dX2_isReached_19 : decode cX2_isReached 19 = .ok (.iadd, 1) := by decide +kernel
theorem dX2_isReached_20 : decode cX2_isReached 20 = .ok (.iaload, 1) := by decide +kernel
theorem dX2_isReached_21 : decode cX2_isReached 21 = .ok (.ifCond .eq 5, 3) := by decide +kernel
theorem dX2_isReached_24 : decode cX2_isReached 24 = .ok (.iconst 1, 1) := by decide +kernel
theorem dX2_isReached_25 : decode cX2_isReached 25 = .ok (.ireturn, 1) := by decide +kernel
theorem dX2_isReached_26 : decode cX2_isReached 26 = .ok (.iinc 2 1, 3) := by decide +kernel
theorem dX2_isReached_29 : decode cX2_isReached 29 = .ok (.goto (-27), 3) := by decide +kernel
theorem dX2_isReached_32 : decode cX2_isReached 32 = .ok (.iconst 0, 1) := by decide +kernel
theorem dX2_isReached_33 : decode cX2_isReached 33 = .ok (.ireturn, 1) := by decide +kernel
theorem dX2_strikeUnseen_0 : decode cX2_strikeUnseen 0 = .ok (.iconst 0, 1) := by decide +kernel
theorem dX2_strikeUnseen_1 : decode cX2_strikeUnseen 1 = .ok (.istore_n 3, 1) := by decide +kernel
theorem dX2_strikeUnseen_2 : decode cX2_strikeUnseen 2 = .ok (.iload_n 3, 1) := by decide +kernel
theorem dX2_strikeUnseen_3 : decode cX2_strikeUnseen 3 = .ok (.bipush 64, 2) := by decide +kernel
theorem dX2_strikeUnseen_5 : decode cX2_strikeUnseen 5 = .ok (.if_icmp .ge 53, 3) := by decide +kernel
theorem dX2_strikeUnseen_8 : decode cX2_strikeUnseen 8 = .ok (.aload_n 2, 1) := by decide +kernel
theorem dX2_strikeUnseen_9 : decode cX2_strikeUnseen 9 = .ok (.iload_n 1, 1) := by decide +kernel
theorem dX2_strikeUnseen_10 : decode cX2_strikeUnseen 10 = .ok (.iload_n 3, 1) := by decide +kernel
theorem dX2_strikeUnseen_11 : decode cX2_strikeUnseen 11 = .ok (.invokevirtual 97, 3) := by decide +kernel
theorem dX2_strikeUnseen_14 : decode cX2_strikeUnseen 14 = .ok (.istore 4, 2) := by decide +kernel
theorem dX2_strikeUnseen_16 : decode cX2_strikeUnseen 16 = .ok (.iconst 0, 1) := by decide +kernel
theorem dX2_strikeUnseen_17 : decode cX2_strikeUnseen 17 = .ok (.istore 5, 2) := by decide +kernel
theorem dX2_strikeUnseen_19 : decode cX2_strikeUnseen 19 = .ok (.iload 4, 2) := by decide +kernel
theorem dX2_strikeUnseen_21 : decode cX2_strikeUnseen 21 = .ok (.ifCond .ne 31, 3) := by decide +kernel
theorem dX2_strikeUnseen_24 : decode cX2_strikeUnseen 24 = .ok (.iload 5, 2) := by decide +kernel
theorem dX2_strikeUnseen_26 : decode cX2_strikeUnseen 26 = .ok (.aload_n 0, 1) := by decide +kernel
theorem dX2_strikeUnseen_27 : decode cX2_strikeUnseen 27 = .ok (.getfield 84, 3) := by decide +kernel
theorem dX2_strikeUnseen_30 : decode cX2_strikeUnseen 30 = .ok (.if_icmp .gt 22, 3) := by decide +kernel
theorem dX2_strikeUnseen_33 : decode cX2_strikeUnseen 33 = .ok (.aload_n 0, 1) := by decide +kernel
theorem dX2_strikeUnseen_34 : decode cX2_strikeUnseen 34 = .ok (.getfield 18, 3) := by decide +kernel
theorem dX2_strikeUnseen_37 : decode cX2_strikeUnseen 37 = .ok (.iload_n 3, 1) := by decide +kernel
theorem dX2_strikeUnseen_38 : decode cX2_strikeUnseen 38 = .ok (.bipush 10, 2) := by decide +kernel
theorem dX2_strikeUnseen_40 : decode cX2_strikeUnseen 40 = .ok (.imul, 1) := by decide +kernel
theorem dX2_strikeUnseen_41 : decode cX2_strikeUnseen 41 = .ok (.iload 5, 2) := by decide +kernel
theorem dX2_strikeUnseen_43 : decode cX2_strikeUnseen 43 = .ok (.iadd, 1) := by decide +kernel
theorem dX2_strikeUnseen_44 : decode cX2_strikeUnseen 44 = .ok (.iconst 0, 1) := by decide +kernel
theorem dX2_strikeUnseen_45 : decode cX2_strikeUnseen 45 = .ok (.iastore, 1) := by decide +kernel
theorem dX2_strikeUnseen_46 : decode cX2_strikeUnseen 46 = .ok (.iinc 5 1, 3) := by decide +kernel
theorem dX2_strikeUnseen_49 : decode cX2_strikeUnseen 49 = .ok (.goto (-30), 3) := by decide +kernel
theorem dX2_strikeUnseen_52 : decode cX2_strikeUnseen 52 = .ok (.iinc 3 1, 3) := by decide +kernel
theorem dX2_strikeUnseen_55 : decode cX2_strikeUnseen 55 = .ok (.goto (-53), 3) := by decide +kernel
theorem dX2_strikeUnseen_58 : decode cX2_strikeUnseen 58 = .ok (.return_, 1) := by decide +kernel
theorem dX2_counted_0 : decode cX2_counted 0 = .ok (.iconst 0, 1) := by decide +kernel
theorem dX2_counted_1 : decode cX2_counted 1 = .ok (.istore_n 1, 1) := by decide +kernel
theorem dX2_counted_2 : decode cX2_counted 2 = .ok (.iconst 0, 1) := by decide +kernel
theorem dX2_counted_3 : decode cX2_counted 3 = .ok (.istore_n 2, 1) := by decide +kernel
theorem dX2_counted_4 : decode cX2_counted 4 = .ok (.iload_n 2, 1) := by decide +kernel
theorem dX2_counted_5 : decode cX2_counted 5 = .ok (.aload_n 0, 1) := by decide +kernel
theorem dX2_counted_6 : decode cX2_counted 6 = .ok (.getfield 18, 3) := by decide +kernel
theorem dX2_counted_9 : decode cX2_counted 9 = .ok (.arraylength, 1) := by decide +kernel
theorem dX2_counted_10 : decode cX2_counted 10 = .ok (.if_icmp .ge 18, 3) := by decide +kernel
theorem dX2_counted_13 : decode cX2_counted 13 = .ok (.iload_n 1, 1) := by decide +kernel
theorem dX2_counted_14 : decode cX2_counted 14 = .ok (.aload_n 0, 1) := by decide +kernel
theorem dX2_counted_15 : decode cX2_counted 15 = .ok (.getfield 18, 3) := by decide +kernel
theorem dX2_counted_18 : decode cX2_counted 18 = .ok (.iload_n 2, 1) := by decide +kernel
theorem dX2_counted_19 : decode cX2_counted 19 = .ok (.iaload, 1) := by decide +kernel
theorem dX2_counted_20 : decode cX2_counted 20 = .ok (.iadd, 1) := by decide +kernel
theorem dX2_counted_21 : decode cX2_counted 21 = .ok (.istore_n 1, 1) := by decide +kernel
theorem dX2_counted_22 : decode cX2_counted 22 = .ok (.iinc 2 1, 3) := by decide +kernel
theorem dX2_counted_25 : decode cX2_counted 25 = .ok (.goto (-21), 3) := by decide +kernel
theorem dX2_counted_28 : decode cX2_counted 28 = .ok (.iload_n 1, 1) := by decide +kernel
theorem dX2_counted_29 : decode cX2_counted 29 = .ok (.ireturn, 1) := by decide +kernel
theorem dX3_init_0 : decode cX3_init 0 = .ok (.aload_n 0, 1) := by decide +kernel
theorem dX3_init_1 : decode cX3_init 1 = .ok (.invokespecial 3, 3) := by decide +kernel
theorem dX3_init_4 : decode cX3_init 4 = .ok (.aload_n 0, 1) := by decide +kernel
theorem dX3_init_5 : decode cX3_init 5 = .ok (.bipush 72, 2) := by decide +kernel
theorem dX3_init_7 : decode cX3_init 7 = .ok (.newarray .int, 2) := by decide +kernel
theorem dX3_init_9 : decode cX3_init 9 = .ok (.putfield 9, 3) := by decide +kernel
theorem dX3_init_12 : decode cX3_init 12 = .ok (.return_, 1) := by decide +kernel
theorem dX3_append_0 : decode cX3_append 0 = .ok (.aload_n 0, 1) := by decide +kernel
theorem dX3_append_1 : decode cX3_append 1 = .ok (.getfield 15, 3) := by decide +kernel
theorem dX3_append_4 : decode cX3_append 4 = .ok (.bipush 72, 2) := by decide +kernel
theorem dX3_append_6 : decode cX3_append 6 = .ok (.if_icmp .ge 23, 3) := by decide +kernel
theorem dX3_append_9 : decode cX3_append 9 = .ok (.aload_n 0, 1) := by decide +kernel
theorem dX3_append_10 : decode cX3_append 10 = .ok (.getfield 9, 3) := by decide +kernel
theorem dX3_append_13 : decode cX3_append 13 = .ok (.aload_n 0, 1) := by decide +kernel
theorem dX3_append_14 : decode cX3_append 14 = .ok (.getfield 15, 3) := by decide +kernel
theorem dX3_append_17 : decode cX3_append 17 = .ok (.iload_n 1, 1) := by decide +kernel
theorem dX3_append_18 : decode cX3_append 18 = .ok (.iastore, 1) := by decide +kernel
theorem dX3_append_19 : decode cX3_append 19 = .ok (.aload_n 0, 1) := by decide +kernel
theorem dX3_append_20 : decode cX3_append 20 = .ok (.dup, 1) := by decide +kernel
theorem dX3_append_21 : decode cX3_append 21 = .ok (.getfield 15, 3) := by decide +kernel
theorem dX3_append_24 : decode cX3_append 24 = .ok (.iconst 1, 1) := by decide +kernel
theorem dX3_append_25 : decode cX3_append 25 = .ok (.iadd, 1) := by decide +kernel
theorem dX3_append_26 : decode cX3_append 26 = .ok (.putfield 15, 3) := by decide +kernel
theorem dX3_append_29 : decode cX3_append 29 = .ok (.return_, 1) := by decide +kernel
theorem dX3_signAt_0 : decode cX3_signAt 0 = .ok (.iload_n 1, 1) := by decide +kernel
theorem dX3_signAt_1 : decode cX3_signAt 1 = .ok (.ifCond .lt 26, 3) := by decide +kernel
theorem dX3_signAt_4 : decode cX3_signAt 4 = .ok (.iload_n 1, 1) := by decide +kernel
theorem dX3_signAt_5 : decode cX3_signAt 5 = .ok (.aload_n 0, 1) := by decide +kernel
theorem dX3_signAt_6 : decode cX3_signAt 6 = .ok (.getfield 15, 3) := by decide +kernel
theorem dX3_signAt_9 : decode cX3_signAt 9 = .ok (.if_icmp .ge 18, 3) := by decide +kernel
theorem dX3_signAt_12 : decode cX3_signAt 12 = .ok (.iload_n 1, 1) := by decide +kernel
theorem dX3_signAt_13 : decode cX3_signAt 13 = .ok (.bipush 72, 2) := by decide +kernel
theorem dX3_signAt_15 : decode cX3_signAt 15 = .ok (.if_icmp .ge 12, 3) := by decide +kernel
theorem dX3_signAt_18 : decode cX3_signAt 18 = .ok (.aload_n 0, 1) := by decide +kernel
theorem dX3_signAt_19 : decode cX3_signAt 19 = .ok (.getfield 9, 3) := by decide +kernel
theorem dX3_signAt_22 : decode cX3_signAt 22 = .ok (.iload_n 1, 1) := by decide +kernel
theorem dX3_signAt_23 : decode cX3_signAt 23 = .ok (.iaload, 1) := by decide +kernel
theorem dX3_signAt_24 : decode cX3_signAt 24 = .ok (.goto 4, 3) := by decide +kernel
theorem dX3_signAt_27 : decode cX3_signAt 27 = .ok (.iconst (-1), 1) := by decide +kernel
theorem dX3_signAt_28 : decode cX3_signAt 28 = .ok (.ireturn, 1) := by decide +kernel
theorem dX3_figureAt_0 : decode cX3_figureAt 0 = .ok (.aload_n 0, 1) := by decide +kernel
theorem dX3_figureAt_1 : decode cX3_figureAt 1 = .ok (.iload_n 1, 1) := by decide +kernel
theorem dX3_figureAt_2 : decode cX3_figureAt 2 = .ok (.invokevirtual 19, 3) := by decide +kernel
theorem dX3_figureAt_5 : decode cX3_figureAt 5 = .ok (.bipush 48, 2) := by decide +kernel
theorem dX3_figureAt_7 : decode cX3_figureAt 7 = .ok (.isub, 1) := by decide +kernel
theorem dX3_figureAt_8 : decode cX3_figureAt 8 = .ok (.istore_n 3, 1) := by decide +kernel
theorem dX3_figureAt_9 : decode cX3_figureAt 9 = .ok (.iload_n 3, 1) := by decide +kernel
theorem dX3_figureAt_10 : decode cX3_figureAt 10 = .ok (.ifCond .lt 12, 3) := by decide +kernel
theorem dX3_figureAt_13 : decode cX3_figureAt 13 = .ok (.iload_n 3, 1) := by decide +kernel
theorem dX3_figureAt_14 : decode cX3_figureAt 14 = .ok (.iload_n 2, 1) := by decide +kernel
theorem dX3_figureAt_15 : decode cX3_figureAt 15 = .ok (.if_icmp .ge 7, 3) := by decide +kernel
theorem dX3_figureAt_18 : decode cX3_figureAt 18 = .ok (.iload_n 3, 1) := by decide +kernel
theorem dX3_figureAt_19 : decode cX3_figureAt 19 = .ok (.goto 4, 3) := by decide +kernel
theorem dX3_figureAt_22 : decode cX3_figureAt 22 = .ok (.iconst (-1), 1) := by decide +kernel
theorem dX3_figureAt_23 : decode cX3_figureAt 23 = .ok (.ireturn, 1) := by decide +kernel
theorem dX3_readInto_0 : decode cX3_readInto 0 = .ok (.aload_n 1, 1) := by decide +kernel
theorem dX3_readInto_1 : decode cX3_readInto 1 = .ok (.invokevirtual 23, 3) := by decide +kernel
theorem dX3_readInto_4 : decode cX3_readInto 4 = .ok (.aload_n 0, 1) := by decide +kernel
theorem dX3_readInto_5 : decode cX3_readInto 5 = .ok (.iconst 0, 1) := by decide +kernel
theorem dX3_readInto_6 : decode cX3_readInto 6 = .ok (.invokevirtual 19, 3) := by decide +kernel
theorem dX3_readInto_9 : decode cX3_readInto 9 = .ok (.bipush 68, 2) := by decide +kernel
theorem dX3_readInto_11 : decode cX3_readInto 11 = .ok (.if_icmp .eq 5, 3) := by decide +kernel
theorem dX3_readInto_14 : decode cX3_readInto 14 = .ok (.iconst 0, 1) := by decide +kernel
theorem dX3_readInto_15 : decode cX3_readInto 15 = .ok (.ireturn, 1) := by decide +kernel
theorem dX3_readInto_16 : decode cX3_readInto 16 = .ok (.aload_n 1, 1) := by decide +kernel
theorem dX3_readInto_17 : decode cX3_readInto 17 = .ok (.aload_n 0, 1) := by decide +kernel
theorem dX3_readInto_18 : decode cX3_readInto 18 = .ok (.iconst 1, 1) := by decide +kernel
theorem dX3_readInto_19 : decode cX3_readInto 19 = .ok (.iconst 3, 1) := by decide +kernel
theorem dX3_readInto_20 : decode cX3_readInto 20 = .ok (.invokevirtual 28, 3) := by decide +kernel
theorem dX3_readInto_23 : decode cX3_readInto 23 = .ok (.putfield 32, 3) := by decide +kernel
theorem dX3_readInto_26 : decode cX3_readInto 26 = .ok (.aload_n 1, 1) := by decide +kernel
theorem dX3_readInto_27 : decode cX3_readInto 27 = .ok (.getfield 32, 3) := by decide +kernel
theorem dX3_readInto_30 : decode cX3_readInto 30 = .ok (.ifCond .ge 5, 3) := by decide +kernel
theorem dX3_readInto_33 : decode cX3_readInto 33 = .ok (.iconst 1, 1) := by decide +kernel
theorem dX3_readInto_34 : decode cX3_readInto 34 = .ok (.ireturn, 1) := by decide +kernel
theorem dX3_readInto_35 : decode cX3_readInto 35 = .ok (.iconst 2, 1) := by decide +kernel
theorem dX3_readInto_36 : decode cX3_readInto 36 = .ok (.istore_n 2, 1) := by decide +kernel
theorem dX3_readInto_37 : decode cX3_readInto 37 = .ok (.iconst 0, 1) := by decide +kernel
theorem dX3_readInto_38 : decode cX3_readInto 38 = .ok (.istore_n 3, 1) := by decide +kernel
theorem dX3_readInto_39 : decode cX3_readInto 39 = .ok (.iload_n 3, 1) := by decide +kernel
theorem dX3_readInto_40 : decode cX3_readInto 40 = .ok (.bipush 72, 2) := by decide +kernel
theorem dX3_readInto_42 : decode cX3_readInto 42 = .ok (.if_icmp .ge 39, 3) := by decide +kernel
theorem dX3_readInto_45 : decode cX3_readInto 45 = .ok (.iload_n 2, 1) := by decide +kernel
theorem dX3_readInto_46 : decode cX3_readInto 46 = .ok (.aload_n 0, 1) := by decide +kernel
theorem dX3_readInto_47 : decode cX3_readInto 47 = .ok (.getfield 15, 3) := by decide +kernel
theorem dX3_readInto_50 : decode cX3_readInto 50 = .ok (.if_icmp .ge 31, 3) := by decide +kernel
theorem dX3_readInto_53 : decode cX3_readInto 53 = .ok (.aload_n 0, 1) := by decide +kernel
theorem dX3_readInto_54 : decode cX3_readInto 54 = .ok (.aload_n 1, 1) := by decide +kernel
theorem dX3_readInto_55 : decode cX3_readInto 55 = .ok (.iload_n 2, 1) := by decide +kernel
theorem dX3_readInto_56 : decode cX3_readInto 56 = .ok (.invokevirtual 35, 3) := by decide +kernel
theorem dX3_readInto_59 : decode cX3_readInto 59 = .ok (.istore 4, 2) := by decide +kernel
theorem dX3_readInto_61 : decode cX3_readInto 61 = .ok (.iload 4, 2) := by decide +kernel
theorem dX3_readInto_63 : decode cX3_readInto 63 = .ok (.ifCond .ge 9, 3) := by decide +kernel
theorem dX3_readInto_66 : decode cX3_readInto 66 = .ok (.iload 4, 2) := by decide +kernel
theorem dX3_readInto_68 : decode cX3_readInto 68 = .ok (.invokestatic 39, 3) := by decide +kernel
theorem dX3_readInto_71 : decode cX3_readInto 71 = .ok (.ireturn, 1) := by decide +kernel
theorem dX3_readInto_72 : decode cX3_readInto 72 = .ok (.iload 4, 2) := by decide +kernel
theorem dX3_readInto_74 : decode cX3_readInto 74 = .ok (.istore_n 2, 1) := by decide +kernel
theorem dX3_readInto_75 : decode cX3_readInto 75 = .ok (.iinc 3 1, 3) := by decide +kernel
theorem dX3_readInto_78 : decode cX3_readInto 78 = .ok (.goto (-39), 3) := by decide +kernel
theorem dX3_readInto_81 : decode cX3_readInto 81 = .ok (.aload_n 1, 1) := by decide +kernel
theorem dX3_readInto_82 : decode cX3_readInto 82 = .ok (.getfield 42, 3) := by decide +kernel
theorem dX3_readInto_85 : decode cX3_readInto 85 = .ok (.aload_n 1, 1) := by decide +kernel
theorem dX3_readInto_86 : decode cX3_readInto 86 = .ok (.getfield 45, 3) := by decide +kernel
theorem dX3_readInto_89 : decode cX3_readInto 89 = .ok (.invokestatic 48, 3) := by decide +kernel
theorem dX3_readInto_92 : decode cX3_readInto 92 = .ok (.bipush (-9), 2) := by decide +kernel
theorem dX3_readInto_94 : decode cX3_readInto 94 = .ok (.ireturn, 1) := by decide +kernel
theorem dX3_faultAt_0 : decode cX3_faultAt 0 = .ok (.iconst (-1), 1) := by decide +kernel
theorem dX3_faultAt_1 : decode cX3_faultAt 1 = .ok (.iload_n 0, 1) := by decide +kernel
theorem dX3_faultAt_2 : decode cX3_faultAt 2 = .ok (.isub, 1) := by decide +kernel
theorem dX3_faultAt_3 : decode cX3_faultAt 3 = .ok (.ireturn, 1) := by decide +kernel
theorem dX3_faultOf_0 : decode cX3_faultOf 0 = .ok (.iconst (-1), 1) := by decide +kernel
theorem dX3_faultOf_1 : decode cX3_faultOf 1 = .ok (.iload_n 0, 1) := by decide +kernel
theorem dX3_faultOf_2 : decode cX3_faultOf 2 = .ok (.isub, 1) := by decide +kernel
theorem dX3_faultOf_3 : decode cX3_faultOf 3 = .ok (.ireturn, 1) := by decide +kernel
theorem dX3_readPart_0 : decode cX3_readPart 0 = .ok (.aload_n 0, 1) := by decide +kernel
theorem dX3_readPart_1 : decode cX3_readPart 1 = .ok (.iload_n 2, 1) := by decide +kernel
theorem dX3_readPart_2 : decode cX3_readPart 2 = .ok (.invokevirtual 19, 3) := by decide +kernel
theorem dX3_readPart_5 : decode cX3_readPart 5 = .ok (.istore_n 3, 1) := by decide +kernel
theorem dX3_readPart_6 : decode cX3_readPart 6 = .ok (.iload_n 3, 1) := by decide +kernel
theorem dX3_readPart_7 : decode cX3_readPart 7 = .ok (.bipush 80, 2) := by decide +kernel
theorem dX3_readPart_9 : decode cX3_readPart 9 = .ok (.if_icmp .ne 21, 3) := by decide +kernel
theorem dX3_readPart_12 : decode cX3_readPart 12 = .ok (.aload_n 1, 1) := by decide +kernel
theorem dX3_readPart_13 : decode cX3_readPart 13 = .ok (.getfield 52, 3) := by decide +kernel
theorem dX3_readPart_16 : decode cX3_readPart 16 = .ok (.bipush 6, 2) := by decide +kernel
theorem dX3_readPart_18 : decode cX3_readPart 18 = .ok (.if_icmp .ge 12, 3) := by decide +kernel
theorem dX3_readPart_21 : decode cX3_readPart 21 = .ok (.aload_n 0, 1) := by decide +kernel
theorem dX3_readPart_22 : decode cX3_readPart 22 = .ok (.aload_n 1, 1) := by decide +kernel
theorem dX3_readPart_23 : decode cX3_readPart 23 = .ok (.iload_n 2, 1) := by decide +kernel
theorem dX3_readPart_24 : decode cX3_readPart 24 = .ok (.iconst 1, 1) := by decide +kernel
theorem dX3_readPart_25 : decode cX3_readPart 25 = .ok (.iadd, 1) := by decide +kernel
theorem dX3_readPart_26 : decode cX3_readPart 26 = .ok (.invokevirtual 55, 3) := by decide +kernel
theorem dX3_readPart_29 : decode cX3_readPart 29 = .ok (.ireturn, 1) := by decide +kernel
theorem dX3_readPart_30 : decode cX3_readPart 30 = .ok (.iload_n 3, 1) := by decide +kernel
theorem dX3_readPart_31 : decode cX3_readPart 31 = .ok (.bipush 78, 2) := by decide +kernel
theorem dX3_readPart_33 : decode cX3_readPart 33 = .ok (.if_icmp .ne 20, 3) := by decide +kernel
theorem dX3_readPart_36 : decode cX3_readPart 36 = .ok (.aload_n 1, 1) := by decide +kernel
theorem dX3_readPart_37 : decode cX3_readPart 37 = .ok (.getfield 45, 3) := by decide +kernel
theorem dX3_readPart_40 : decode cX3_readPart 40 = .ok (.iconst 3, 1) := by decide +kernel
theorem dX3_readPart_41 : decode cX3_readPart 41 = .ok (.if_icmp .ge 12, 3) := by decide +kernel
theorem dX3_readPart_44 : decode cX3_readPart 44 = .ok (.aload_n 0, 1) := by decide +kernel
theorem dX3_readPart_45 : decode cX3_readPart 45 = .ok (.aload_n 1, 1) := by decide +kernel
theorem dX3_readPart_46 : decode cX3_readPart 46 = .ok (.iload_n 2, 1) := by decide +kernel
theorem dX3_readPart_47 : decode cX3_readPart 47 = .ok (.iconst 1, 1) := by decide +kernel
theorem dX3_readPart_48 : decode cX3_readPart 48 = .ok (.iadd, 1) := by decide +kernel
theorem dX3_readPart_49 : decode cX3_readPart 49 = .ok (.invokevirtual 58, 3) := by decide +kernel
theorem dX3_readPart_52 : decode cX3_readPart 52 = .ok (.ireturn, 1) := by decide +kernel
theorem dX3_readPart_53 : decode cX3_readPart 53 = .ok (.iload_n 2, 1) := by decide +kernel
theorem dX3_readPart_54 : decode cX3_readPart 54 = .ok (.invokestatic 61, 3) := by decide +kernel
theorem dX3_readPart_57 : decode cX3_readPart 57 = .ok (.ireturn, 1) := by decide +kernel
theorem dX3_readPerson_0 : decode cX3_readPerson 0 = .ok (.iconst 0, 1) := by decide +kernel
theorem dX3_readPerson_1 : decode cX3_readPerson 1 = .ok (.istore_n 3, 1) := by decide +kernel
theorem dX3_readPerson_2 : decode cX3_readPerson 2 = .ok (.iload_n 3, 1) := by decide +kernel
theorem dX3_readPerson_3 : decode cX3_readPerson 3 = .ok (.bipush 6, 2) := by decide +kernel
theorem dX3_readPerson_5 : decode cX3_readPerson 5 = .ok (.if_icmp .ge 59, 3) := by decide +kernel
theorem dX3_readPerson_8 : decode cX3_readPerson 8 = .ok (.iload_n 2, 1) := by decide +kernel
theorem dX3_readPerson_9 : decode cX3_readPerson 9 = .ok (.iload_n 3, 1) := by decide +kernel
theorem dX3_readPerson_10 : decode cX3_readPerson 10 = .ok (.iadd, 1) := by decide +kernel
theorem dX3_readPerson_11 : decode cX3_readPerson 11 = .ok (.istore 4, 2) := by decide +kernel
theorem dX3_readPerson_13 : decode cX3_readPerson 13 = .ok (.aload_n 0, 1) := by decide +kernel
theorem dX3_readPerson_14 : decode cX3_readPerson 14 = .ok (.iload 4, 2) := by decide +kernel
theorem dX3_readPerson_16 : decode cX3_readPerson 16 = .ok (.iconst 3, 1) := by decide +kernel
theorem dX3_readPerson_17 : decode cX3_readPerson 17 = .ok (.invokevirtual 28, 3) := by decide +kernel
theorem dX3_readPerson_20 : decode cX3_readPerson 20 = .ok (.istore 5, 2) := by decide +kernel
theorem dX3_readPerson_22 : decode cX3_readPerson 22 = .ok (.iload 5, 2) := by decide +kernel
theorem dX3_readPerson_24 : decode cX3_readPerson 24 = .ok (.ifCond .lt 17, 3) := by decide +kernel
theorem dX3_readPerson_27 : decode cX3_readPerson 27 = .ok (.aload_n 1, 1) := by decide +kernel
theorem dX3_readPerson_28 : decode cX3_readPerson 28 = .ok (.aload_n 1, 1) := by decide +kernel
theorem dX3_readPerson_29 : decode cX3_readPerson 29 = .ok (.getfield 52, 3) := by decide +kernel
theorem dX3_readPerson_32 : decode cX3_readPerson 32 = .ok (.iload_n 3, 1) := by decide +kernel
theorem dX3_readPerson_33 : decode cX3_readPerson 33 = .ok (.iload 5, 2) := by decide +kernel
theorem dX3_readPerson_35 : decode cX3_readPerson 35 = .ok (.invokevirtual 64, 3) := by decide +kernel
theorem dX3_readPerson_38 : decode cX3_readPerson 38 = .ok (.goto 20, 3) := by decide +kernel
theorem dX3_readPerson_41 : decode cX3_readPerson 41 = .ok (.aload_n 0, 1) := by decide +kernel
theorem dX3_readPerson_42 : decode cX3_readPerson 42 = .ok (.iload 4, 2) := by decide +kernel
theorem dX3_readPerson_44 : decode cX3_readPerson 44 = .ok (.invokevirtual 19, 3) := by decide +kernel
theorem dX3_readPerson_47 : decode cX3_readPerson 47 = .ok (.bipush 45, 2) := by decide +kernel
theorem dX3_readPerson_49 : decode cX3_readPerson 49 = .ok (.if_icmp .eq 9, 3) := by decide +kernel
theorem dX3_readPerson_52 : decode cX3_readPerson 52 = .ok (.iload 4, 2) := by decide +kernel
theorem dX3_readPerson_54 : decode cX3_readPerson 54 = .ok (.invokestatic 61, 3) := by decide +kernel
theorem dX3_readPerson_57 : decode cX3_readPerson 57 = .ok (.ireturn, 1) := by decide +kernel
theorem dX3_readPerson_58 : decode cX3_readPerson 58 = .ok (.iinc 3 1, 3) := by decide +kernel
theorem dX3_readPerson_61 : decode cX3_readPerson 61 = .ok (.goto (-59), 3) := by decide +kernel
theorem dX3_readPerson_64 : decode cX3_readPerson 64 = .ok (.aload_n 1, 1) := by decide +kernel
theorem dX3_readPerson_65 : decode cX3_readPerson 65 = .ok (.dup, 1) := by decide +kernel
theorem dX3_readPerson_66 : decode cX3_readPerson 66 = .ok (.getfield 52, 3) := by decide +kernel
theorem dX3_readPerson_69 : decode cX3_readPerson 69 = .ok (.iconst 1, 1) := by decide +kernel
theorem dX3_readPerson_70 : decode cX3_readPerson 70 = .ok (.iadd, 1) := by decide +kernel
theorem dX3_readPerson_71 : decode cX3_readPerson 71 = .ok (.putfield 52, 3) := by decide +kernel
theorem dX3_readPerson_74 : decode cX3_readPerson 74 = .ok (.iload_n 2, 1) := by decide +kernel
theorem dX3_readPerson_75 : decode cX3_readPerson 75 = .ok (.bipush 6, 2) := by decide +kernel
theorem dX3_readPerson_77 : decode cX3_readPerson 77 = .ok (.iadd, 1) := by decide +kernel
theorem dX3_readPerson_78 : decode cX3_readPerson 78 = .ok (.ireturn, 1) := by decide +kernel
theorem dX3_readNews_0 : decode cX3_readNews 0 = .ok (.aload_n 0, 1) := by decide +kernel
theorem dX3_readNews_1 : decode cX3_readNews 1 = .ok (.iload_n 2, 1) := by decide +kernel
theorem dX3_readNews_2 : decode cX3_readNews 2 = .ok (.bipush 10, 2) := by decide +kernel
theorem dX3_readNews_4 : decode cX3_readNews 4 = .ok (.invokevirtual 28, 3) := by decide +kernel
theorem dX3_readNews_7 : decode cX3_readNews 7 = .ok (.istore_n 3, 1) := by decide +kernel
theorem dX3_readNews_8 : decode cX3_readNews 8 = .ok (.iload_n 3, 1) := by decide +kernel
theorem dX3_readNews_9 : decode cX3_readNews 9 = .ok (.ifCond .ge 8, 3) := by decide +kernel
theorem dX3_readNews_12 : decode cX3_readNews 12 = .ok (.iload_n 2, 1) := by decide +kernel
theorem dX3_readNews_13 : decode cX3_readNews 13 = .ok (.invokestatic 61, 3) := by decide +kernel
theorem dX3_readNews_16 : decode cX3_readNews 16 = .ok (.ireturn, 1) := by decide +kernel
theorem dX3_readNews_17 : decode cX3_readNews 17 = .ok (.aload_n 0, 1) := by decide +kernel
theorem dX3_readNews_18 : decode cX3_readNews 18 = .ok (.iload_n 2, 1) := by decide +kernel
theorem dX3_readNews_19 : decode cX3_readNews 19 = .ok (.iconst 1, 1) := by decide +kernel
theorem dX3_readNews_20 : decode cX3_readNews 20 = .ok (.iadd, 1) := by decide +kernel
theorem dX3_readNews_21 : decode cX3_readNews 21 = .ok (.bipush 10, 2) := by decide +kernel
theorem dX3_readNews_23 : decode cX3_readNews 23 = .ok (.invokevirtual 28, 3) := by decide +kernel
theorem dX3_readNews_26 : decode cX3_readNews 26 = .ok (.istore 4, 2) := by decide +kernel
theorem dX3_readNews_28 : decode cX3_readNews 28 = .ok (.iload 4, 2) := by decide +kernel
theorem dX3_readNews_30 : decode cX3_readNews 30 = .ok (.ifCond .ge 10, 3) := by decide +kernel
theorem dX3_readNews_33 : decode cX3_readNews 33 = .ok (.iload_n 2, 1) := by decide +kernel
theorem dX3_readNews_34 : decode cX3_readNews 34 = .ok (.iconst 1, 1) := by decide +kernel
theorem dX3_readNews_35 : decode cX3_readNews 35 = .ok (.iadd, 1) := by decide +kernel
theorem dX3_readNews_36 : decode cX3_readNews 36 = .ok (.invokestatic 61, 3) := by decide +kernel
theorem dX3_readNews_39 : decode cX3_readNews 39 = .ok (.ireturn, 1) := by decide +kernel
theorem dX3_readNews_40 : decode cX3_readNews 40 = .ok (.iload_n 2, 1) := by decide +kernel
theorem dX3_readNews_41 : decode cX3_readNews 41 = .ok (.iconst 2, 1) := by decide +kernel
theorem dX3_readNews_42 : decode cX3_readNews 42 = .ok (.iadd, 1) := by decide +kernel
theorem dX3_readNews_43 : decode cX3_readNews 43 = .ok (.istore 5, 2) := by decide +kernel
theorem dX3_readNews_45 : decode cX3_readNews 45 = .ok (.iconst 0, 1) := by decide +kernel
theorem dX3_readNews_46 : decode cX3_readNews 46 = .ok (.istore 6, 2) := by decide +kernel
theorem dX3_readNews_48 : decode cX3_readNews 48 = .ok (.iconst 0, 1) := by decide +kernel
theorem dX3_readNews_49 : decode cX3_readNews 49 = .ok (.istore 7, 2) := by decide +kernel
theorem dX3_readNews_51 : decode cX3_readNews 51 = .ok (.iload 7, 2) := by decide +kernel
theorem dX3_readNews_53 : decode cX3_readNews 53 = .ok (.bipush 6, 2) := by decide +kernel
theorem dX3_readNews_55 : decode cX3_readNews 55 = .ok (.if_icmp .ge 51, 3) := by decide +kernel
theorem dX3_readNews_58 : decode cX3_readNews 58 = .ok (.aload_n 0, 1) := by decide +kernel
theorem dX3_readNews_59 : decode cX3_readNews 59 = .ok (.iload 5, 2) := by decide +kernel
theorem dX3_readNews_61 : decode cX3_readNews 61 = .ok (.aload_n 1, 1) := by decide +kernel
theorem dX3_readNews_62 : decode cX3_readNews 62 = .ok (.getfield 52, 3) := by decide +kernel
theorem dX3_readNews_65 : decode cX3_readNews 65 = .ok (.invokevirtual 28, 3) := by decide +kernel
theorem dX3_readNews_68 : decode cX3_readNews 68 = .ok (.istore 8, 2) := by decide +kernel
theorem dX3_readNews_70 : decode cX3_readNews 70 = .ok (.iload 8, 2) := by decide +kernel
theorem dX3_readNews_72 : decode cX3_readNews 72 = .ok (.ifCond .lt 34, 3) := by decide +kernel
theorem dX3_readNews_75 : decode cX3_readNews 75 = .ok (.iload 6, 2) := by decide +kernel
theorem dX3_readNews_77 : decode cX3_readNews 77 = .ok (.iload 8, 2) := by decide +kernel
theorem dX3_readNews_79 : decode cX3_readNews 79 = .ok (.ishr, 1) := by decide +kernel
theorem dX3_readNews_80 : decode cX3_readNews 80 = .ok (.iconst 1, 1) := by decide +kernel
theorem dX3_readNews_81 : decode cX3_readNews 81 = .ok (.iand, 1) := by decide +kernel
theorem dX3_readNews_82 : decode cX3_readNews 82 = .ok (.ifCond .eq 6, 3) := by decide +kernel
theorem dX3_readNews_85 : decode cX3_readNews 85 = .ok (.goto 21, 3) := by decide +kernel
theorem dX3_readNews_88 : decode cX3_readNews 88 = .ok (.iload 6, 2) := by decide +kernel
theorem dX3_readNews_90 : decode cX3_readNews 90 = .ok (.iconst 1, 1) := by decide +kernel
theorem dX3_readNews_91 : decode cX3_readNews 91 = .ok (.iload 8, 2) := by decide +kernel
theorem dX3_readNews_93 : decode cX3_readNews 93 = .ok (.ishl, 1) := by decide +kernel
theorem dX3_readNews_94 : decode cX3_readNews 94 = .ok (.ior, 1) := by decide +kernel
theorem dX3_readNews_95 : decode cX3_readNews 95 = .ok (.istore 6, 2) := by decide +kernel
theorem dX3_readNews_97 : decode cX3_readNews 97 = .ok (.iinc 5 1, 3) := by decide +kernel
theorem dX3_readNews_100 : decode cX3_readNews 100 = .ok (.iinc 7 1, 3) := by decide +kernel
theorem dX3_readNews_103 : decode cX3_readNews 103 = .ok (.goto (-52), 3) := by decide +kernel
theorem dX3_readNews_106 : decode cX3_readNews 106 = .ok (.aload_n 1, 1) := by decide +kernel
theorem dX3_readNews_107 : decode cX3_readNews 107 = .ok (.getfield 68, 3) := by decide +kernel
theorem dX3_readNews_110 : decode cX3_readNews 110 = .ok (.aload_n 1, 1) := by decide +kernel
theorem dX3_readNews_111 : decode cX3_readNews 111 = .ok (.getfield 45, 3) := by decide +kernel
theorem dX3_readNews_114 : decode cX3_readNews 114 = .ok (.iload_n 3, 1) := by decide +kernel
theorem dX3_readNews_115 : decode cX3_readNews 115 = .ok (.iastore, 1) := by decide +kernel
theorem dX3_readNews_116 : decode cX3_readNews 116 = .ok (.aload_n 1, 1) := by decide +kernel
theorem dX3_readNews_117 : decode cX3_readNews 117 = .ok (.getfield 71, 3) := by decide +kernel
theorem dX3_readNews_120 : decode cX3_readNews 120 = .ok (.aload_n 1, 1) := by decide +kernel
theorem dX3_readNews_121 : decode cX3_readNews 121 = .ok (.getfield 45, 3) := by decide +kernel
theorem dX3_readNews_124 : decode cX3_readNews 124 = .ok (.iload 4, 2) := by decide +kernel
theorem dX3_readNews_126 : decode cX3_readNews 126 = .ok (.iastore, 1) := by decide +kernel
theorem dX3_readNews_127 : decode cX3_readNews 127 = .ok (.aload_n 1, 1) := by decide +kernel
theorem dX3_readNews_128 : decode cX3_readNews 128 = .ok (.getfield 42, 3) := by decide +kernel
theorem dX3_readNews_131 : decode cX3_readNews 131 = .ok (.aload_n 1, 1) := by decide +kernel
theorem dX3_readNews_132 : decode cX3_readNews 132 = .ok (.getfield 45, 3) := by decide +kernel
theorem dX3_readNews_135 : decode cX3_readNews 135 = .ok (.iload 6, 2) := by decide +kernel
theorem dX3_readNews_137 : decode cX3_readNews 137 = .ok (.iastore, 1) := by decide +kernel
theorem dX3_readNews_138 : decode cX3_readNews 138 = .ok (.aload_n 1, 1) := by decide +kernel
theorem dX3_readNews_139 : decode cX3_readNews 139 = .ok (.dup, 1) := by decide +kernel
theorem dX3_readNews_140 : decode cX3_readNews 140 = .ok (.getfield 45, 3) := by decide +kernel
theorem dX3_readNews_143 : decode cX3_readNews 143 = .ok (.iconst 1, 1) := by decide +kernel
theorem dX3_readNews_144 : decode cX3_readNews 144 = .ok (.iadd, 1) := by decide +kernel
theorem dX3_readNews_145 : decode cX3_readNews 145 = .ok (.putfield 45, 3) := by decide +kernel
theorem dX3_readNews_148 : decode cX3_readNews 148 = .ok (.iload 5, 2) := by decide +kernel
theorem dX3_readNews_150 : decode cX3_readNews 150 = .ok (.ireturn, 1) := by decide +kernel
theorem dX4_init_0 : decode cX4_init 0 = .ok (.aload_n 0, 1) := by decide +kernel
theorem dX4_init_1 : decode cX4_init 1 = .ok (.invokespecial 3, 3) := by decide +kernel
theorem dX4_init_4 : decode cX4_init 4 = .ok (.aload_n 0, 1) := by decide +kernel
theorem dX4_init_5 : decode cX4_init 5 = .ok (.bipush 6, 2) := by decide +kernel
theorem dX4_init_7 : decode cX4_init 7 = .ok (.newarray .int, 2) := by decide +kernel
theorem dX4_init_9 : decode cX4_init 9 = .ok (.putfield 9, 3) := by decide +kernel
theorem dX4_init_12 : decode cX4_init 12 = .ok (.aload_n 0, 1) := by decide +kernel
theorem dX4_init_13 : decode cX4_init 13 = .ok (.bipush 6, 2) := by decide +kernel
theorem dX4_init_15 : decode cX4_init 15 = .ok (.newarray .int, 2) := by decide +kernel
theorem dX4_init_17 : decode cX4_init 17 = .ok (.putfield 15, 3) := by decide +kernel
theorem dX4_init_20 : decode cX4_init 20 = .ok (.return_, 1) := by decide +kernel
theorem dX4_see_0 : decode cX4_see 0 = .ok (.iload_n 3, 1) := by decide +kernel
theorem dX4_see_1 : decode cX4_see 1 = .ok (.ifCond .eq 18, 3) := by decide +kernel
theorem dX4_see_4 : decode cX4_see 4 = .ok (.aload_n 0, 1) := by decide +kernel
theorem dX4_see_5 : decode cX4_see 5 = .ok (.getfield 9, 3) := by decide +kernel
theorem dX4_see_8 : decode cX4_see 8 = .ok (.iload_n 1, 1) := by decide +kernel
theorem dX4_see_9 : decode cX4_see 9 = .ok (.dup2, 1) := by decide +kernel
theorem dX4_see_10 : decode cX4_see 10 = .ok (.iaload, 1) := by decide +kernel
theorem dX4_see_11 : decode cX4_see 11 = .ok (.iconst 1, 1) := by decide +kernel
theorem dX4_see_12 : decode cX4_see 12 = .ok (.iload_n 2, 1) := by decide +kernel
theorem dX4_see_13 : decode cX4_see 13 = .ok (.ishl, 1) := by decide +kernel
theorem dX4_see_14 : decode cX4_see 14 = .ok (.ior, 1) := by decide +kernel
theorem dX4_see_15 : decode cX4_see 15 = .ok (.iastore, 1) := by decide +kernel
theorem dX4_see_16 : decode cX4_see 16 = .ok (.goto 15, 3) := by decide +kernel
theorem dX4_see_19 : decode cX4_see 19 = .ok (.aload_n 0, 1) := by decide +kernel
theorem dX4_see_20 : decode cX4_see 20 = .ok (.getfield 15, 3) := by decide +kernel
theorem dX4_see_23 : decode cX4_see 23 = .ok (.iload_n 1, 1) := by decide +kernel
theorem dX4_see_24 : decode cX4_see 24 = .ok (.dup2, 1) := by decide +kernel
theorem dX4_see_25 : decode cX4_see 25 = .ok (.iaload, 1) := by decide +kernel
theorem dX4_see_26 : decode cX4_see 26 = .ok (.iconst 1, 1) := by decide +kernel
theorem dX4_see_27 : decode cX4_see 27 = .ok (.iload_n 2, 1) := by decide +kernel
theorem dX4_see_28 : decode cX4_see 28 = .ok (.ishl, 1) := by decide +kernel
theorem dX4_see_29 : decode cX4_see 29 = .ok (.ior, 1) := by decide +kernel
theorem dX4_see_30 : decode cX4_see 30 = .ok (.iastore, 1) := by decide +kernel
theorem dX4_see_31 : decode cX4_see 31 = .ok (.aload_n 0, 1) := by decide +kernel
theorem dX4_see_32 : decode cX4_see 32 = .ok (.dup, 1) := by decide +kernel
theorem dX4_see_33 : decode cX4_see 33 = .ok (.getfield 18, 3) := by decide +kernel
theorem dX4_see_36 : decode cX4_see 36 = .ok (.iconst 1, 1) := by decide +kernel
theorem dX4_see_37 : decode cX4_see 37 = .ok (.iadd, 1) := by decide +kernel
theorem dX4_see_38 : decode cX4_see 38 = .ok (.putfield 18, 3) := by decide +kernel
theorem dX4_see_41 : decode cX4_see 41 = .ok (.return_, 1) := by decide +kernel
theorem dX4_forget_0 : decode cX4_forget 0 = .ok (.aload_n 0, 1) := by decide +kernel
theorem dX4_forget_1 : decode cX4_forget 1 = .ok (.getfield 9, 3) := by decide +kernel
theorem dX4_forget_4 : decode cX4_forget 4 = .ok (.iconst 0, 1) := by decide +kernel
theorem dX4_forget_5 : decode cX4_forget 5 = .ok (.invokestatic 22, 3) := by decide +kernel
theorem dX4_forget_8 : decode cX4_forget 8 = .ok (.aload_n 0, 1) := by decide +kernel
theorem dX4_forget_9 : decode cX4_forget 9 = .ok (.getfield 15, 3) := by decide +kernel
theorem dX4_forget_12 : decode cX4_forget 12 = .ok (.iconst 0, 1) := by decide +kernel
theorem dX4_forget_13 : decode cX4_forget 13 = .ok (.invokestatic 22, 3) := by decide +kernel
theorem dX4_forget_16 : decode cX4_forget 16 = .ok (.aload_n 0, 1) := by decide +kernel
theorem dX4_forget_17 : decode cX4_forget 17 = .ok (.iconst 0, 1) := by decide +kernel
theorem dX4_forget_18 : decode cX4_forget 18 = .ok (.putfield 18, 3) := by decide +kernel
theorem dX4_forget_21 : decode cX4_forget 21 = .ok (.return_, 1) := by decide +kernel
theorem dX4_fit_0 : decode cX4_fit 0 = .ok (.aload_n 0, 1) := by decide +kernel
theorem dX4_fit_1 : decode cX4_fit 1 = .ok (.getfield 9, 3) := by decide +kernel
theorem dX4_fit_4 : decode cX4_fit 4 = .ok (.iload_n 1, 1) := by decide +kernel
theorem dX4_fit_5 : decode cX4_fit 5 = .ok (.iaload, 1) := by decide +kernel
theorem dX4_fit_6 : decode cX4_fit 6 = .ok (.iload_n 2, 1) := by decide +kernel
theorem dX4_fit_7 : decode cX4_fit 7 = .ok (.iconst (-1), 1) := by decide +kernel
theorem dX4_fit_8 : decode cX4_fit 8 = .ok (.ixor, 1) := by decide +kernel
theorem dX4_fit_9 : decode cX4_fit 9 = .ok (.iand, 1) := by decide +kernel
theorem dX4_fit_10 : decode cX4_fit 10 = .ok (.ifCond .ne 18, 3) := by decide +kernel
theorem dX4_fit_13 : decode cX4_fit 13 = .ok (.aload_n 0, 1) := by decide +kernel
theorem dX4_fit_14 : decode cX4_fit 14 = .ok (.getfield 15, 3) := by decide +kernel
theorem dX4_fit_17 : decode cX4_fit 17 = .ok (.iload_n 1, 1) := by decide +kernel
theorem dX4_fit_18 : decode cX4_fit 18 = .ok (.iaload, 1) := by decide +kernel
theorem dX4_fit_19 : decode cX4_fit 19 = .ok (.iload_n 2, 1) := by decide +kernel
theorem dX4_fit_20 : decode cX4_fit 20 = .ok (.iand, 1) := by decide +kernel
theorem dX4_fit_21 : decode cX4_fit 21 = .ok (.ifCond .ne 7, 3) := by decide +kernel
theorem dX4_fit_24 : decode cX4_fit 24 = .ok (.iconst 1, 1) := by decide +kernel
theorem dX4_fit_25 : decode cX4_fit 25 = .ok (.goto 4, 3) := by decide +kernel
theorem dX4_fit_28 : decode cX4_fit 28 = .ok (.iconst 0, 1) := by decide +kernel
theorem dX4_fit_29 : decode cX4_fit 29 = .ok (.ireturn, 1) := by decide +kernel
theorem dX5_init_0 : decode cX5_init 0 = .ok (.aload_n 0, 1) := by decide +kernel
theorem dX5_init_1 : decode cX5_init 1 = .ok (.invokespecial 3, 3) := by decide +kernel
theorem dX5_init_4 : decode cX5_init 4 = .ok (.aload_n 0, 1) := by decide +kernel
theorem dX5_init_5 : decode cX5_init 5 = .ok (.iconst 3, 1) := by decide +kernel
theorem dX5_init_6 : decode cX5_init 6 = .ok (.newarray .int, 2) := by decide +kernel
theorem dX5_init_8 : decode cX5_init 8 = .ok (.putfield 9, 3) := by decide +kernel
theorem dX5_init_11 : decode cX5_init 11 = .ok (.aload_n 0, 1) := by decide +kernel
theorem dX5_init_12 : decode cX5_init 12 = .ok (.bipush 18, 2) := by decide +kernel
theorem dX5_init_14 : decode cX5_init 14 = .ok (.newarray .int, 2) := by decide +kernel
theorem dX5_init_16 : decode cX5_init 16 = .ok (.putfield 15, 3) := by decide +kernel
theorem dX5_init_19 : decode cX5_init 19 = .ok (.aload_n 0, 1) := by decide +kernel
theorem dX5_init_20 : decode cX5_init 20 = .ok (.bipush 18, 2) := by decide +kernel
theorem dX5_init_22 : decode cX5_init 22 = .ok (.newarray .int, 2) := by decide +kernel
theorem dX5_init_24 : decode cX5_init 24 = .ok (.putfield 18, 3) := by decide +kernel
theorem dX5_init_27 : decode cX5_init 27 = .ok (.aload_n 0, 1) := by decide +kernel
theorem dX5_init_28 : decode cX5_init 28 = .ok (.bipush 9, 2) := by decide +kernel
theorem dX5_init_30 : decode cX5_init 30 = .ok (.newarray .int, 2) := by decide +kernel
theorem dX5_init_32 : decode cX5_init 32 = .ok (.putfield 21, 3) := by decide +kernel
theorem dX5_init_35 : decode cX5_init 35 = .ok (.return_, 1) := by decide +kernel
theorem dX5_beginWith_0 : decode cX5_beginWith 0 = .ok (.aload_n 1, 1) := by decide +kernel
theorem dX5_beginWith_1 : decode cX5_beginWith 1 = .ok (.getfield 24, 3) := by decide +kernel
theorem dX5_beginWith_4 : decode cX5_beginWith 4 = .ok (.iconst 0, 1) := by decide +kernel
theorem dX5_beginWith_5 : decode cX5_beginWith 5 = .ok (.aload_n 0, 1) := by decide +kernel
theorem dX5_beginWith_6 : decode cX5_beginWith 6 = .ok (.getfield 9, 3) := by decide +kernel
theorem dX5_beginWith_9 : decode cX5_beginWith 9 = .ok (.iconst 0, 1) := by decide +kernel
theorem dX5_beginWith_10 : decode cX5_beginWith 10 = .ok (.iconst 3, 1) := by decide +kernel
theorem dX5_beginWith_11 : decode cX5_beginWith 11 = .ok (.invokestatic 29, 3) := by decide +kernel
theorem dX5_beginWith_14 : decode cX5_beginWith 14 = .ok (.aload_n 0, 1) := by decide +kernel
theorem dX5_beginWith_15 : decode cX5_beginWith 15 = .ok (.getfield 15, 3) := by decide +kernel
theorem dX5_beginWith_18 : decode cX5_beginWith 18 = .ok (.iconst 0, 1) := by decide +kernel
theorem dX5_beginWith_19 : decode cX5_beginWith 19 = .ok (.invokestatic 35, 3) := by decide +kernel
theorem dX5_beginWith_22 : decode cX5_beginWith 22 = .ok (.aload_n 0, 1) := by decide +kernel
theorem dX5_beginWith_23 : decode cX5_beginWith 23 = .ok (.getfield 18, 3) := by decide +kernel
theorem dX5_beginWith_26 : decode cX5_beginWith 26 = .ok (.iconst 0, 1) := by decide +kernel
theorem dX5_beginWith_27 : decode cX5_beginWith 27 = .ok (.invokestatic 35, 3) := by decide +kernel
theorem dX5_beginWith_30 : decode cX5_beginWith 30 = .ok (.aload_n 0, 1) := by decide +kernel
theorem dX5_beginWith_31 : decode cX5_beginWith 31 = .ok (.getfield 21, 3) := by decide +kernel
theorem dX5_beginWith_34 : decode cX5_beginWith 34 = .ok (.iconst 0, 1) := by decide +kernel
theorem dX5_beginWith_35 : decode cX5_beginWith 35 = .ok (.invokestatic 35, 3) := by decide +kernel
theorem dX5_beginWith_38 : decode cX5_beginWith 38 = .ok (.aload_n 0, 1) := by decide +kernel
theorem dX5_beginWith_39 : decode cX5_beginWith 39 = .ok (.iconst 0, 1) := by decide +kernel
theorem dX5_beginWith_40 : decode cX5_beginWith 40 = .ok (.putfield 41, 3) := by decide +kernel
theorem dX5_beginWith_43 : decode cX5_beginWith 43 = .ok (.return_, 1) := by decide +kernel
theorem dX5_copyFrom_0 : decode cX5_copyFrom 0 = .ok (.aload_n 1, 1) := by decide +kernel
theorem dX5_copyFrom_1 : decode cX5_copyFrom 1 = .ok (.getfield 9, 3) := by decide +kernel
theorem dX5_copyFrom_4 : decode cX5_copyFrom 4 = .ok (.iconst 0, 1) := by decide +kernel
theorem dX5_copyFrom_5 : decode cX5_copyFrom 5 = .ok (.aload_n 0, 1) := by decide +kernel
theorem dX5_copyFrom_6 : decode cX5_copyFrom 6 = .ok (.getfield 9, 3) := by decide +kernel
theorem dX5_copyFrom_9 : decode cX5_copyFrom 9 = .ok (.iconst 0, 1) := by decide +kernel
theorem dX5_copyFrom_10 : decode cX5_copyFrom 10 = .ok (.iconst 3, 1) := by decide +kernel
theorem dX5_copyFrom_11 : decode cX5_copyFrom 11 = .ok (.invokestatic 29, 3) := by decide +kernel
theorem dX5_copyFrom_14 : decode cX5_copyFrom 14 = .ok (.aload_n 1, 1) := by decide +kernel
theorem dX5_copyFrom_15 : decode cX5_copyFrom 15 = .ok (.getfield 15, 3) := by decide +kernel
theorem dX5_copyFrom_18 : decode cX5_copyFrom 18 = .ok (.iconst 0, 1) := by decide +kernel
theorem dX5_copyFrom_19 : decode cX5_copyFrom 19 = .ok (.aload_n 0, 1) := by decide +kernel
theorem dX5_copyFrom_20 : decode cX5_copyFrom 20 = .ok (.getfield 15, 3) := by decide +kernel
theorem dX5_copyFrom_23 : decode cX5_copyFrom 23 = .ok (.iconst 0, 1) := by decide +kernel
theorem dX5_copyFrom_24 : decode cX5_copyFrom 24 = .ok (.aload_n 0, 1) := by decide +kernel
theorem dX5_copyFrom_25 : decode cX5_copyFrom 25 = .ok (.getfield 15, 3) := by decide +kernel
theorem dX5_copyFrom_28 : decode cX5_copyFrom 28 = .ok (.arraylength, 1) := by decide +kernel
theorem dX5_copyFrom_29 : decode cX5_copyFrom 29 = .ok (.invokestatic 29, 3) := by decide +kernel
theorem dX5_copyFrom_32 : decode cX5_copyFrom 32 = .ok (.aload_n 1, 1) := by decide +kernel
theorem dX5_copyFrom_33 : decode cX5_copyFrom 33 = .ok (.getfield 18, 3) := by decide +kernel
theorem dX5_copyFrom_36 : decode cX5_copyFrom 36 = .ok (.iconst 0, 1) := by decide +kernel
theorem dX5_copyFrom_37 : decode cX5_copyFrom 37 = .ok (.aload_n 0, 1) := by decide +kernel
theorem dX5_copyFrom_38 : decode cX5_copyFrom 38 = .ok (.getfield 18, 3) := by decide +kernel
theorem dX5_copyFrom_41 : decode cX5_copyFrom 41 = .ok (.iconst 0, 1) := by decide +kernel
theorem dX5_copyFrom_42 : decode cX5_copyFrom 42 = .ok (.aload_n 0, 1) := by decide +kernel
theorem dX5_copyFrom_43 : decode cX5_copyFrom 43 = .ok (.getfield 18, 3) := by decide +kernel
theorem dX5_copyFrom_46 : decode cX5_copyFrom 46 = .ok (.arraylength, 1) := by decide +kernel
theorem dX5_copyFrom_47 : decode cX5_copyFrom 47 = .ok (.invokestatic 29, 3) := by decide +kernel
theorem dX5_copyFrom_50 : decode cX5_copyFrom 50 = .ok (.aload_n 1, 1) := by decide +kernel
theorem dX5_copyFrom_51 : decode cX5_copyFrom 51 = .ok (.getfield 21, 3) := by decide +kernel
theorem dX5_copyFrom_54 : decode cX5_copyFrom 54 = .ok (.iconst 0, 1) := by decide +kernel
theorem dX5_copyFrom_55 : decode cX5_copyFrom 55 = .ok (.aload_n 0, 1) := by decide +kernel
theorem dX5_copyFrom_56 : decode cX5_copyFrom 56 = .ok (.getfield 21, 3) := by decide +kernel
theorem dX5_copyFrom_59 : decode cX5_copyFrom 59 = .ok (.iconst 0, 1) := by decide +kernel
theorem dX5_copyFrom_60 : decode cX5_copyFrom 60 = .ok (.aload_n 0, 1) := by decide +kernel
theorem dX5_copyFrom_61 : decode cX5_copyFrom 61 = .ok (.getfield 21, 3) := by decide +kernel
theorem dX5_copyFrom_64 : decode cX5_copyFrom 64 = .ok (.arraylength, 1) := by decide +kernel
theorem dX5_copyFrom_65 : decode cX5_copyFrom 65 = .ok (.invokestatic 29, 3) := by decide +kernel
theorem dX5_copyFrom_68 : decode cX5_copyFrom 68 = .ok (.aload_n 0, 1) := by decide +kernel
theorem dX5_copyFrom_69 : decode cX5_copyFrom 69 = .ok (.aload_n 1, 1) := by decide +kernel
theorem dX5_copyFrom_70 : decode cX5_copyFrom 70 = .ok (.getfield 41, 3) := by decide +kernel
theorem dX5_copyFrom_73 : decode cX5_copyFrom 73 = .ok (.putfield 41, 3) := by decide +kernel
theorem dX5_copyFrom_76 : decode cX5_copyFrom 76 = .ok (.return_, 1) := by decide +kernel
theorem dX5_knows_0 : decode cX5_knows 0 = .ok (.aload_n 0, 1) := by decide +kernel
theorem dX5_knows_1 : decode cX5_knows 1 = .ok (.getfield 9, 3) := by decide +kernel
theorem dX5_knows_4 : decode cX5_knows 4 = .ok (.iload_n 2, 1) := by decide +kernel
theorem dX5_knows_5 : decode cX5_knows 5 = .ok (.iaload, 1) := by decide +kernel
theorem dX5_knows_6 : decode cX5_knows 6 = .ok (.iload_n 1, 1) := by decide +kernel
theorem dX5_knows_7 : decode cX5_knows 7 = .ok (.ishr, 1) := by decide +kernel
theorem dX5_knows_8 : decode cX5_knows 8 = .ok (.iconst 1, 1) := by decide +kernel
theorem dX5_knows_9 : decode cX5_knows 9 = .ok (.iand, 1) := by decide +kernel
theorem dX5_knows_10 : decode cX5_knows 10 = .ok (.ifCond .eq 7, 3) := by decide +kernel
theorem dX5_knows_13 : decode cX5_knows 13 = .ok (.iconst 1, 1) := by decide +kernel
theorem dX5_knows_14 : decode cX5_knows 14 = .ok (.goto 4, 3) := by decide +kernel
theorem dX5_knows_17 : decode cX5_knows 17 = .ok (.iconst 0, 1) := by decide +kernel
theorem dX5_knows_18 : decode cX5_knows 18 = .ok (.ireturn, 1) := by decide +kernel
theorem dX5_tellingsOf_0 : decode cX5_tellingsOf 0 = .ok (.iconst 0, 1) := by decide +kernel
theorem dX5_tellingsOf_1 : decode cX5_tellingsOf 1 = .ok (.istore_n 2, 1) := by decide +kernel
theorem dX5_tellingsOf_2 : decode cX5_tellingsOf 2 = .ok (.iconst 0, 1) := by decide +kernel
theorem dX5_tellingsOf_3 : decode cX5_tellingsOf 3 = .ok (.istore_n 3, 1) := by decide +kernel
theorem dX5_tellingsOf_4 : decode cX5_tellingsOf 4 = .ok (.iload_n 3, 1) := by decide +kernel
theorem dX5_tellingsOf_5 : decode cX5_tellingsOf 5 = .ok (.iconst 3, 1) := by decide +kernel
theorem dX5_tellingsOf_6 : decode cX5_tellingsOf 6 = .ok (.if_icmp .ge 22, 3) := by decide +kernel
theorem dX5_tellingsOf_9 : decode cX5_tellingsOf 9 = .ok (.iload_n 2, 1) := by decide +kernel
theorem dX5_tellingsOf_10 : decode cX5_tellingsOf 10 = .ok (.aload_n 0, 1) := by decide +kernel
theorem dX5_tellingsOf_11 : decode cX5_tellingsOf 11 = .ok (.getfield 21, 3) := by decide +kernel
theorem dX5_tellingsOf_14 : decode cX5_tellingsOf 14 = .ok (.iload_n 1, 1) := by decide +kernel
theorem dX5_tellingsOf_15 : decode cX5_tellingsOf 15 = .ok (.iconst 3, 1) := by decide +kernel
theorem dX5_tellingsOf_16 : decode cX5_tellingsOf 16 = .ok (.imul, 1) := by decide +kernel
theorem dX5_tellingsOf_17 : decode cX5_tellingsOf 17 = .ok (.iload_n 3, 1) := by decide +kernel
theorem dX5_tellingsOf_18 : decode cX5_tellingsOf 18 = .ok (.iadd, 1) := by decide +kernel
theorem dX5_tellingsOf_19 : decode cX5_tellingsOf 19 = .ok (.iaload, 1) := by decide +kernel
theorem dX5_tellingsOf_20 : decode cX5_tellingsOf 20 = .ok (.iadd, 1) := by decide +kernel
theorem dX5_tellingsOf_21 : decode cX5_tellingsOf 21 = .ok (.istore_n 2, 1) := by decide +kernel
theorem dX5_tellingsOf_22 : decode cX5_tellingsOf 22 = .ok (.iinc 3 1, 3) := by decide +kernel
theorem dX5_tellingsOf_25 : decode cX5_tellingsOf 25 = .ok (.goto (-21), 3) := by decide +kernel
theorem dX5_tellingsOf_28 : decode cX5_tellingsOf 28 = .ok (.iload_n 2, 1) := by decide +kernel
theorem dX5_tellingsOf_29 : decode cX5_tellingsOf 29 = .ok (.ireturn, 1) := by decide +kernel
theorem dX5_allows_0 : decode cX5_allows 0 = .ok (.aload_n 1, 1) := by decide +kernel
theorem dX5_allows_1 : decode cX5_allows 1 = .ok (.iload_n 2, 1) := by decide +kernel
theorem dX5_allows_2 : decode cX5_allows 2 = .ok (.aload_n 0, 1) := by decide +kernel
theorem dX5_allows_3 : decode cX5_allows 3 = .ok (.getfield 41, 3) := by decide +kernel
theorem dX5_allows_6 : decode cX5_allows 6 = .ok (.invokevirtual 45, 3) := by decide +kernel
theorem dX5_allows_9 : decode cX5_allows 9 = .ok (.istore 4, 2) := by decide +kernel
theorem dX5_allows_11 : decode cX5_allows 11 = .ok (.aload_n 0, 1) := by decide +kernel
theorem dX5_allows_12 : decode cX5_allows 12 = .ok (.iload_n 2, 1) := by decide +kernel
theorem dX5_allows_13 : decode cX5_allows 13 = .ok (.iload_n 3, 1) := by decide +kernel
theorem dX5_allows_14 : decode cX5_allows 14 = .ok (.invokevirtual 49, 3) := by decide +kernel
theorem dX5_allows_17 : decode cX5_allows 17 = .ok (.ifCond .eq 19, 3) := by decide +kernel
theorem dX5_allows_20 : decode cX5_allows 20 = .ok (.aload_n 1, 1) := by decide +kernel
theorem dX5_allows_21 : decode cX5_allows 21 = .ok (.aload_n 0, 1) := by decide +kernel
theorem dX5_allows_22 : decode cX5_allows 22 = .ok (.getfield 41, 3) := by decide +kernel
theorem dX5_allows_25 : decode cX5_allows 25 = .ok (.iload 4, 2) := by decide +kernel
theorem dX5_allows_27 : decode cX5_allows 27 = .ok (.invokevirtual 53, 3) := by decide +kernel
theorem dX5_allows_30 : decode cX5_allows 30 = .ok (.invokestatic 56, 3) := by decide +kernel
theorem dX5_allows_33 : decode cX5_allows 33 = .ok (.ifCond .ne 5, 3) := by decide +kernel
theorem dX5_allows_36 : decode cX5_allows 36 = .ok (.iconst 0, 1) := by decide +kernel
theorem dX5_allows_37 : decode cX5_allows 37 = .ok (.ireturn, 1) := by decide +kernel
theorem dX5_allows_38 : decode cX5_allows 38 = .ok (.aload_n 0, 1) := by decide +kernel
theorem dX5_allows_39 : decode cX5_allows 39 = .ok (.iload_n 3, 1) := by decide +kernel
theorem dX5_allows_40 : decode cX5_allows 40 = .ok (.invokevirtual 60, 3) := by decide +kernel
theorem dX5_allows_43 : decode cX5_allows 43 = .ok (.aload_n 1, 1) := by decide +kernel
theorem dX5_allows_44 : decode cX5_allows 44 = .ok (.getfield 64, 3) := by decide +kernel
theorem dX5_allows_47 : decode cX5_allows 47 = .ok (.iload_n 3, 1) := by decide +kernel
theorem dX5_allows_48 : decode cX5_allows 48 = .ok (.iaload, 1) := by decide +kernel
theorem dX5_allows_49 : decode cX5_allows 49 = .ok (.if_icmp .lt 5, 3) := by decide +kernel
theorem dX5_allows_52 : decode cX5_allows 52 = .ok (.iconst 0, 1) := by decide +kernel
theorem dX5_allows_53 : decode cX5_allows 53 = .ok (.ireturn, 1) := by decide +kernel
theorem dX5_allows_54 : decode cX5_allows 54 = .ok (.aload_n 1, 1) := by decide +kernel
theorem dX5_allows_55 : decode cX5_allows 55 = .ok (.getfield 67, 3) := by decide +kernel
theorem dX5_allows_58 : decode cX5_allows 58 = .ok (.lookupswitch 71 #[(1, 26), (2, 45)], 26) := by decide +kernel
theorem dX5_allows_84 : decode cX5_allows 84 = .ok (.aload_n 0, 1) := by decide +kernel
theorem dX5_allows_85 : decode cX5_allows 85 = .ok (.getfield 15, 3) := by decide +kernel
theorem dX5_allows_88 : decode cX5_allows 88 = .ok (.iload_n 2, 1) := by decide +kernel
theorem dX5_allows_89 : decode cX5_allows 89 = .ok (.iconst 3, 1) := by decide +kernel
theorem dX5_allows_90 : decode cX5_allows 90 = .ok (.imul, 1) := by decide +kernel
theorem dX5_allows_91 : decode cX5_allows 91 = .ok (.iload_n 3, 1) := by decide +kernel
theorem dX5_allows_92 : decode cX5_allows 92 = .ok (.iadd, 1) := by decide +kernel
theorem dX5_allows_93 : decode cX5_allows 93 = .ok (.iaload, 1) := by decide +kernel
theorem dX5_allows_94 : decode cX5_allows 94 = .ok (.ifCond .ne 7, 3) := by decide +kernel
theorem dX5_allows_97 : decode cX5_allows 97 = .ok (.iconst 1, 1) := by decide +kernel
theorem dX5_allows_98 : decode cX5_allows 98 = .ok (.goto 4, 3) := by decide +kernel
theorem dX5_allows_101 : decode cX5_allows 101 = .ok (.iconst 0, 1) := by decide +kernel
theorem dX5_allows_102 : decode cX5_allows 102 = .ok (.ireturn, 1) := by decide +kernel
theorem dX5_allows_103 : decode cX5_allows 103 = .ok (.iload 4, 2) := by decide +kernel
theorem dX5_allows_105 : decode cX5_allows 105 = .ok (.ifCond .lt 22, 3) := by decide +kernel
theorem dX5_allows_108 : decode cX5_allows 108 = .ok (.aload_n 0, 1) := by decide +kernel
theorem dX5_allows_109 : decode cX5_allows 109 = .ok (.getfield 21, 3) := by decide +kernel
theorem dX5_allows_112 : decode cX5_allows 112 = .ok (.iload_n 3, 1) := by decide +kernel
theorem dX5_allows_113 : decode cX5_allows 113 = .ok (.iconst 3, 1) := by decide +kernel
theorem dX5_allows_114 : decode cX5_allows 114 = .ok (.imul, 1) := by decide +kernel
theorem dX5_allows_115 : decode cX5_allows 115 = .ok (.iload 4, 2) := by decide +kernel
theorem dX5_allows_117 : decode cX5_allows 117 = .ok (.iadd, 1) := by decide +kernel
theorem dX5_allows_118 : decode cX5_allows 118 = .ok (.iaload, 1) := by decide +kernel
theorem dX5_allows_119 : decode cX5_allows 119 = .ok (.iconst 3, 1) := by decide +kernel
theorem dX5_allows_120 : decode cX5_allows 120 = .ok (.if_icmp .ge 7, 3) := by decide +kernel
theorem dX5_allows_123 : decode cX5_allows 123 = .ok (.iconst 1, 1) := by decide +kernel
theorem dX5_allows_124 : decode cX5_allows 124 = .ok (.goto 4, 3) := by decide +kernel
theorem dX5_allows_127 : decode cX5_allows 127 = .ok (.iconst 0, 1) := by decide +kernel
theorem dX5_allows_128 : decode cX5_allows 128 = .ok (.ireturn, 1) := by decide +kernel
theorem dX5_allows_129 : decode cX5_allows 129 = .ok (.iconst 1, 1) := by decide +kernel
theorem dX5_allows_130 : decode cX5_allows 130 = .ok (.ireturn, 1) := by decide +kernel
theorem dX5_spread_0 : decode cX5_spread 0 = .ok (.aload_n 1, 1) := by decide +kernel
theorem dX5_spread_1 : decode cX5_spread 1 = .ok (.aload_n 0, 1) := by decide +kernel
theorem dX5_spread_2 : decode cX5_spread 2 = .ok (.getfield 41, 3) := by decide +kernel
theorem dX5_spread_5 : decode cX5_spread 5 = .ok (.aload_n 1, 1) := by decide +kernel
theorem dX5_spread_6 : decode cX5_spread 6 = .ok (.iload_n 2, 1) := by decide +kernel
theorem dX5_spread_7 : decode cX5_spread 7 = .ok (.aload_n 0, 1) := by decide +kernel
theorem dX5_spread_8 : decode cX5_spread 8 = .ok (.getfield 41, 3) := by decide +kernel
theorem dX5_spread_11 : decode cX5_spread 11 = .ok (.invokevirtual 45, 3) := by decide +kernel
theorem dX5_spread_14 : decode cX5_spread 14 = .ok (.invokevirtual 53, 3) := by decide +kernel
theorem dX5_spread_17 : decode cX5_spread 17 = .ok (.istore 4, 2) := by decide +kernel
theorem dX5_spread_19 : decode cX5_spread 19 = .ok (.iload 4, 2) := by decide +kernel
theorem dX5_spread_21 : decode cX5_spread 21 = .ok (.aload_n 0, 1) := by decide +kernel
theorem dX5_spread_22 : decode cX5_spread 22 = .ok (.getfield 9, 3) := by decide +kernel
theorem dX5_spread_25 : decode cX5_spread 25 = .ok (.iload_n 3, 1) := by decide +kernel
theorem dX5_spread_26 : decode cX5_spread 26 = .ok (.iaload, 1) := by decide +kernel
theorem dX5_spread_27 : decode cX5_spread 27 = .ok (.iconst (-1), 1) := by decide +kernel
theorem dX5_spread_28 : decode cX5_spread 28 = .ok (.ixor, 1) := by decide +kernel
theorem dX5_spread_29 : decode cX5_spread 29 = .ok (.iand, 1) := by decide +kernel
theorem dX5_spread_30 : decode cX5_spread 30 = .ok (.invokestatic 70, 3) := by decide +kernel
theorem dX5_spread_33 : decode cX5_spread 33 = .ok (.istore 5, 2) := by decide +kernel
theorem dX5_spread_35 : decode cX5_spread 35 = .ok (.aload_n 0, 1) := by decide +kernel
theorem dX5_spread_36 : decode cX5_spread 36 = .ok (.aload_n 1, 1) := by decide +kernel
theorem dX5_spread_37 : decode cX5_spread 37 = .ok (.iload_n 2, 1) := by decide +kernel
theorem dX5_spread_38 : decode cX5_spread 38 = .ok (.iload_n 3, 1) := by decide +kernel
theorem dX5_spread_39 : decode cX5_spread 39 = .ok (.iconst 1, 1) := by decide +kernel
theorem dX5_spread_40 : decode cX5_spread 40 = .ok (.invokevirtual 75, 3) := by decide +kernel
theorem dX5_spread_43 : decode cX5_spread 43 = .ok (.aload_n 0, 1) := by decide +kernel
theorem dX5_spread_44 : decode cX5_spread 44 = .ok (.getfield 9, 3) := by decide +kernel
theorem dX5_spread_47 : decode cX5_spread 47 = .ok (.iload_n 3, 1) := by decide +kernel
theorem dX5_spread_48 : decode cX5_spread 48 = .ok (.dup2, 1) := by decide +kernel
theorem dX5_spread_49 : decode cX5_spread 49 = .ok (.iaload, 1) := by decide +kernel
theorem dX5_spread_50 : decode cX5_spread 50 = .ok (.iload 4, 2) := by decide +kernel
theorem dX5_spread_52 : decode cX5_spread 52 = .ok (.ior, 1) := by decide +kernel
theorem dX5_spread_53 : decode cX5_spread 53 = .ok (.iastore, 1) := by decide +kernel
theorem dX5_spread_54 : decode cX5_spread 54 = .ok (.aload_n 0, 1) := by decide +kernel
theorem dX5_spread_55 : decode cX5_spread 55 = .ok (.getfield 9, 3) := by decide +kernel
theorem dX5_spread_58 : decode cX5_spread 58 = .ok (.aload_n 1, 1) := by decide +kernel
theorem dX5_spread_59 : decode cX5_spread 59 = .ok (.getfield 79, 3) := by decide +kernel
theorem dX5_spread_62 : decode cX5_spread 62 = .ok (.invokestatic 82, 3) := by decide +kernel
theorem dX5_spread_65 : decode cX5_spread 65 = .ok (.iload 5, 2) := by decide +kernel
theorem dX5_spread_67 : decode cX5_spread 67 = .ok (.ireturn, 1) := by decide +kernel
theorem dX5_count_0 : decode cX5_count 0 = .ok (.aload_n 1, 1) := by decide +kernel
theorem dX5_count_1 : decode cX5_count 1 = .ok (.iload_n 2, 1) := by decide +kernel
theorem dX5_count_2 : decode cX5_count 2 = .ok (.aload_n 0, 1) := by decide +kernel
theorem dX5_count_3 : decode cX5_count 3 = .ok (.getfield 41, 3) := by decide +kernel
theorem dX5_count_6 : decode cX5_count 6 = .ok (.invokevirtual 45, 3) := by decide +kernel
theorem dX5_count_9 : decode cX5_count 9 = .ok (.istore 5, 2) := by decide +kernel
theorem dX5_count_11 : decode cX5_count 11 = .ok (.iload 5, 2) := by decide +kernel
theorem dX5_count_13 : decode cX5_count 13 = .ok (.ifCond .ge 4, 3) := by decide +kernel
theorem dX5_count_16 : decode cX5_count 16 = .ok (.return_, 1) := by decide +kernel
theorem dX5_count_17 : decode cX5_count 17 = .ok (.aload_n 0, 1) := by decide +kernel
theorem dX5_count_18 : decode cX5_count 18 = .ok (.getfield 15, 3) := by decide +kernel
theorem dX5_count_21 : decode cX5_count 21 = .ok (.iload_n 2, 1) := by decide +kernel
theorem dX5_count_22 : decode cX5_count 22 = .ok (.iconst 3, 1) := by decide +kernel
theorem dX5_count_23 : decode cX5_count 23 = .ok (.imul, 1) := by decide +kernel
theorem dX5_count_24 : decode cX5_count 24 = .ok (.iload_n 3, 1) := by decide +kernel
theorem dX5_count_25 : decode cX5_count 25 = .ok (.iadd, 1) := by decide +kernel
theorem dX5_count_26 : decode cX5_count 26 = .ok (.dup2, 1) := by decide +kernel
theorem dX5_count_27 : decode cX5_count 27 = .ok (.iaload, 1) := by decide +kernel
theorem dX5_count_28 : decode cX5_count 28 = .ok (.iload 4, 2) := by decide +kernel
theorem dX5_count_30 : decode cX5_count 30 = .ok (.iadd, 1) := by decide +kernel
theorem dX5_count_31 : decode cX5_count 31 = .ok (.iastore, 1) := by decide +kernel
theorem dX5_count_32 : decode cX5_count 32 = .ok (.aload_n 0, 1) := by decide +kernel
theorem dX5_count_33 : decode cX5_count 33 = .ok (.getfield 21, 3) := by decide +kernel
theorem dX5_count_36 : decode cX5_count 36 = .ok (.iload_n 3, 1) := by decide +kernel
theorem dX5_count_37 : decode cX5_count 37 = .ok (.iconst 3, 1) := by decide +kernel
theorem dX5_count_38 : decode cX5_count 38 = .ok (.imul, 1) := by decide +kernel
theorem dX5_count_39 : decode cX5_count 39 = .ok (.iload 5, 2) := by decide +kernel
theorem dX5_count_41 : decode cX5_count 41 = .ok (.iadd, 1) := by decide +kernel
theorem dX5_count_42 : decode cX5_count 42 = .ok (.dup2, 1) := by decide +kernel
theorem dX5_count_43 : decode cX5_count 43 = .ok (.iaload, 1) := by decide +kernel
theorem dX5_count_44 : decode cX5_count 44 = .ok (.iload 4, 2) := by decide +kernel
theorem dX5_count_46 : decode cX5_count 46 = .ok (.iadd, 1) := by decide +kernel
theorem dX5_count_47 : decode cX5_count 47 = .ok (.iastore, 1) := by decide +kernel
theorem dX5_count_48 : decode cX5_count 48 = .ok (.aload_n 1, 1) := by decide +kernel
theorem dX5_count_49 : decode cX5_count 49 = .ok (.aload_n 0, 1) := by decide +kernel
theorem dX5_count_50 : decode cX5_count 50 = .ok (.getfield 41, 3) := by decide +kernel
theorem dX5_count_53 : decode cX5_count 53 = .ok (.iload 5, 2) := by decide +kernel
theorem dX5_count_55 : decode cX5_count 55 = .ok (.invokevirtual 53, 3) := by decide +kernel
theorem dX5_count_58 : decode cX5_count 58 = .ok (.istore 6, 2) := by decide +kernel
theorem dX5_count_60 : decode cX5_count 60 = .ok (.iconst 0, 1) := by decide +kernel
theorem dX5_count_61 : decode cX5_count 61 = .ok (.istore 7, 2) := by decide +kernel
theorem dX5_count_63 : decode cX5_count 63 = .ok (.iload 7, 2) := by decide +kernel
theorem dX5_count_65 : decode cX5_count 65 = .ok (.aload_n 1, 1) := by decide +kernel
theorem dX5_count_66 : decode cX5_count 66 = .ok (.getfield 85, 3) := by decide +kernel
theorem dX5_count_69 : decode cX5_count 69 = .ok (.if_icmp .ge 33, 3) := by decide +kernel
theorem dX5_count_72 : decode cX5_count 72 = .ok (.aload_n 0, 1) := by decide +kernel
theorem dX5_count_73 : decode cX5_count 73 = .ok (.getfield 18, 3) := by decide +kernel
theorem dX5_count_76 : decode cX5_count 76 = .ok (.iload 7, 2) := by decide +kernel
theorem dX5_count_78 : decode cX5_count 78 = .ok (.iconst 3, 1) := by decide +kernel
theorem dX5_count_79 : decode cX5_count 79 = .ok (.imul, 1) := by decide +kernel
theorem dX5_count_80 : decode cX5_count 80 = .ok (.iload_n 3, 1) := by decide +kernel
theorem dX5_count_81 : decode cX5_count 81 = .ok (.iadd, 1) := by decide +kernel
theorem dX5_count_82 : decode cX5_count 82 = .ok (.dup2, 1) := by decide +kernel
theorem dX5_count_83 : decode cX5_count 83 = .ok (.iaload, 1) := by decide +kernel
theorem dX5_count_84 : decode cX5_count 84 = .ok (.iload 6, 2) := by decide +kernel
theorem dX5_count_86 : decode cX5_count 86 = .ok (.iload 7, 2) := by decide +kernel
theorem dX5_count_88 : decode cX5_count 88 = .ok (.ishr, 1) := by decide +kernel
theorem dX5_count_89 : decode cX5_count 89 = .ok (.iconst 1, 1) := by decide +kernel
theorem dX5_count_90 : decode cX5_count 90 = .ok (.iand, 1) := by decide +kernel
theorem dX5_count_91 : decode cX5_count 91 = .ok (.iload 4, 2) := by decide +kernel
theorem dX5_count_93 : decode cX5_count 93 = .ok (.imul, 1) := by decide +kernel
theorem dX5_count_94 : decode cX5_count 94 = .ok (.iadd, 1) := by decide +kernel
theorem dX5_count_95 : decode cX5_count 95 = .ok (.iastore, 1) := by decide +kernel
theorem dX5_count_96 : decode cX5_count 96 = .ok (.iinc 7 1, 3) := by decide +kernel
theorem dX5_count_99 : decode cX5_count 99 = .ok (.goto (-36), 3) := by decide +kernel
theorem dX5_count_102 : decode cX5_count 102 = .ok (.return_, 1) := by decide +kernel
theorem dX5_packedKnown_0 : decode cX5_packedKnown 0 = .ok (.iconst 0, 1) := by decide +kernel
theorem dX5_packedKnown_1 : decode cX5_packedKnown 1 = .ok (.istore_n 1, 1) := by decide +kernel
theorem dX5_packedKnown_2 : decode cX5_packedKnown 2 = .ok (.iconst 0, 1) := by decide +kernel
theorem dX5_packedKnown_3 : decode cX5_packedKnown 3 = .ok (.istore_n 2, 1) := by decide +kernel
theorem dX5_packedKnown_4 : decode cX5_packedKnown 4 = .ok (.iload_n 2, 1) := by decide +kernel
theorem dX5_packedKnown_5 : decode cX5_packedKnown 5 = .ok (.iconst 3, 1) := by decide +kernel
theorem dX5_packedKnown_6 : decode cX5_packedKnown 6 = .ok (.if_icmp .ge 23, 3) := by decide +kernel
theorem dX5_packedKnown_9 : decode cX5_packedKnown 9 = .ok (.iload_n 1, 1) := by decide +kernel
theorem dX5_packedKnown_10 : decode cX5_packedKnown 10 = .ok (.aload_n 0, 1) := by decide +kernel
theorem dX5_packedKnown_11 : decode cX5_packedKnown 11 = .ok (.getfield 9, 3) := by decide +kernel
theorem dX5_packedKnown_14 : decode cX5_packedKnown 14 = .ok (.iload_n 2, 1) := by decide +kernel
theorem dX5_packedKnown_15 : decode cX5_packedKnown 15 = .ok (.iaload, 1) := by decide +kernel
theorem dX5_packedKnown_16 : decode cX5_packedKnown 16 = .ok (.iload_n 2, 1) := by decide +kernel
theorem dX5_packedKnown_17 : decode cX5_packedKnown 17 = .ok (.bipush 6, 2) := by decide +kernel
theorem dX5_packedKnown_19 : decode cX5_packedKnown 19 = .ok (.imul, 1) := by decide +kernel
theorem dX5_packedKnown_20 : decode cX5_packedKnown 20 = .ok (.ishl, 1) := by decide +kernel
theorem dX5_packedKnown_21 : decode cX5_packedKnown 21 = .ok (.ior, 1) := by decide +kernel
theorem dX5_packedKnown_22 : decode cX5_packedKnown 22 = .ok (.istore_n 1, 1) := by decide +kernel
theorem dX5_packedKnown_23 : decode cX5_packedKnown 23 = .ok (.iinc 2 1, 3) := by decide +kernel
theorem dX5_packedKnown_26 : decode cX5_packedKnown 26 = .ok (.goto (-22), 3) := by decide +kernel
theorem dX5_packedKnown_29 : decode cX5_packedKnown 29 = .ok (.iload_n 1, 1) := by decide +kernel
theorem dX5_packedKnown_30 : decode cX5_packedKnown 30 = .ok (.ireturn, 1) := by decide +kernel
theorem dX5_unpackKnown_0 : decode cX5_unpackKnown 0 = .ok (.iconst 0, 1) := by decide +kernel
theorem dX5_unpackKnown_1 : decode cX5_unpackKnown 1 = .ok (.istore_n 2, 1) := by decide +kernel
theorem dX5_unpackKnown_2 : decode cX5_unpackKnown 2 = .ok (.iload_n 2, 1) := by decide +kernel
theorem dX5_unpackKnown_3 : decode cX5_unpackKnown 3 = .ok (.iconst 3, 1) := by decide +kernel
theorem dX5_unpackKnown_4 : decode cX5_unpackKnown 4 = .ok (.if_icmp .ge 24, 3) := by decide +kernel
theorem dX5_unpackKnown_7 : decode cX5_unpackKnown 7 = .ok (.aload_n 0, 1) := by decide +kernel
theorem dX5_unpackKnown_8 : decode cX5_unpackKnown 8 = .ok (.getfield 9, 3) := by decide +kernel
theorem dX5_unpackKnown_11 : decode cX5_unpackKnown 11 = .ok (.iload_n 2, 1) := by decide +kernel
theorem dX5_unpackKnown_12 : decode cX5_unpackKnown 12 = .ok (.iload_n 1, 1) := by decide +kernel
theorem dX5_unpackKnown_13 : decode cX5_unpackKnown 13 = .ok (.iload_n 2, 1) := by decide +kernel
theorem dX5_unpackKnown_14 : decode cX5_unpackKnown 14 = .ok (.bipush 6, 2) := by decide +kernel
theorem dX5_unpackKnown_16 : decode cX5_unpackKnown 16 = .ok (.imul, 1) := by decide +kernel
theorem dX5_unpackKnown_17 : decode cX5_unpackKnown 17 = .ok (.ishr, 1) := by decide +kernel
theorem dX5_unpackKnown_18 : decode cX5_unpackKnown 18 = .ok (.bipush 63, 2) := by decide +kernel
theorem dX5_unpackKnown_20 : decode cX5_unpackKnown 20 = .ok (.iand, 1) := by decide +kernel
theorem dX5_unpackKnown_21 : decode cX5_unpackKnown 21 = .ok (.iastore, 1) := by decide +kernel
theorem dX5_unpackKnown_22 : decode cX5_unpackKnown 22 = .ok (.iinc 2 1, 3) := by decide +kernel
theorem dX5_unpackKnown_25 : decode cX5_unpackKnown 25 = .ok (.goto (-23), 3) := by decide +kernel
theorem dX5_unpackKnown_28 : decode cX5_unpackKnown 28 = .ok (.return_, 1) := by decide +kernel
theorem dX6_init_0 : decode cX6_init 0 = .ok (.aload_n 0, 1) := by decide +kernel
theorem dX6_init_1 : decode cX6_init 1 = .ok (.invokespecial 3, 3) := by decide +kernel
theorem dX6_init_4 : decode cX6_init 4 = .ok (.aload_n 0, 1) := by decide +kernel
theorem dX6_init_5 : decode cX6_init 5 = .ok (.new 9, 3) := by decide +kernel
theorem dX6_init_8 : decode cX6_init 8 = .ok (.dup, 1) := by decide +kernel
theorem dX6_init_9 : decode cX6_init 9 = .ok (.invokespecial 11, 3) := by decide +kernel
theorem dX6_init_12 : decode cX6_init 12 = .ok (.putfield 12, 3) := by decide +kernel
theorem dX6_init_15 : decode cX6_init 15 = .ok (.aload_n 0, 1) := by decide +kernel
theorem dX6_init_16 : decode cX6_init 16 = .ok (.new 16, 3) := by decide +kernel
theorem dX6_init_19 : decode cX6_init 19 = .ok (.dup, 1) := by decide +kernel
theorem dX6_init_20 : decode cX6_init 20 = .ok (.invokespecial 18, 3) := by decide +kernel
theorem dX6_init_23 : decode cX6_init 23 = .ok (.putfield 19, 3) := by decide +kernel
theorem dX6_init_26 : decode cX6_init 26 = .ok (.aload_n 0, 1) := by decide +kernel
theorem dX6_init_27 : decode cX6_init 27 = .ok (.new 16, 3) := by decide +kernel
theorem dX6_init_30 : decode cX6_init 30 = .ok (.dup, 1) := by decide +kernel
theorem dX6_init_31 : decode cX6_init 31 = .ok (.invokespecial 18, 3) := by decide +kernel
theorem dX6_init_34 : decode cX6_init 34 = .ok (.putfield 23, 3) := by decide +kernel
theorem dX6_init_37 : decode cX6_init 37 = .ok (.aload_n 0, 1) := by decide +kernel
theorem dX6_init_38 : decode cX6_init 38 = .ok (.iconst 2, 1) := by decide +kernel
theorem dX6_init_39 : decode cX6_init 39 = .ok (.anewarray 16, 3) := by decide +kernel
theorem dX6_init_42 : decode cX6_init 42 = .ok (.putfield 26, 3) := by decide +kernel
theorem dX6_init_45 : decode cX6_init 45 = .ok (.iconst 0, 1) := by decide +kernel
theorem dX6_init_46 : decode cX6_init 46 = .ok (.istore_n 1, 1) := by decide +kernel
theorem dX6_init_47 : decode cX6_init 47 = .ok (.iload_n 1, 1) := by decide +kernel
theorem dX6_init_48 : decode cX6_init 48 = .ok (.iconst 2, 1) := by decide +kernel
end
section
theorem dX6_init_49 : decode cX6_init 49 = .ok (.if_icmp .ge 22, 3) := by decide +kernel
theorem dX6_init_52 : decode cX6_init 52 = .ok (.aload_n 0, 1) := by decide +kernel
theorem dX6_init_53 : decode cX6_init 53 = .ok (.getfield 26, 3) := by decide +kernel
theorem dX6_init_56 : decode cX6_init 56 = .ok (.iload_n 1, 1) := by decide +kernel
theorem dX6_init_57 : decode cX6_init 57 = .ok (.new 16, 3) := by decide +kernel
theorem dX6_init_60 : decode cX6_init 60 = .ok (.dup, 1) := by decide +kernel
theorem dX6_init_61 : decode cX6_init 61 = .ok (.invokespecial 18, 3) := by decide +kernel
theorem dX6_init_64 : decode cX6_init 64 = .ok (.aastore, 1) := by decide +kernel
theorem dX6_init_65 : decode cX6_init 65 = .ok (.iinc 1 1, 3) := by decide +kernel
theorem dX6_init_68 : decode cX6_init 68 = .ok (.goto (-21), 3) := by decide +kernel
theorem dX6_init_71 : decode cX6_init 71 = .ok (.aload_n 0, 1) := by decide +kernel
theorem dX6_init_72 : decode cX6_init 72 = .ok (.new 30, 3) := by decide +kernel
theorem dX6_init_75 : decode cX6_init 75 = .ok (.dup, 1) := by decide +kernel
theorem dX6_init_76 : decode cX6_init 76 = .ok (.invokespecial 32, 3) := by decide +kernel
theorem dX6_init_79 : decode cX6_init 79 = .ok (.putfield 33, 3) := by decide +kernel
theorem dX6_init_82 : decode cX6_init 82 = .ok (.aload_n 0, 1) := by decide +kernel
theorem dX6_init_83 : decode cX6_init 83 = .ok (.new 37, 3) := by decide +kernel
theorem dX6_init_86 : decode cX6_init 86 = .ok (.dup, 1) := by decide +kernel
theorem dX6_init_87 : decode cX6_init 87 = .ok (.invokespecial 39, 3) := by decide +kernel
theorem dX6_init_90 : decode cX6_init 90 = .ok (.putfield 40, 3) := by decide +kernel
theorem dX6_init_93 : decode cX6_init 93 = .ok (.aload_n 0, 1) := by decide +kernel
theorem dX6_init_94 : decode cX6_init 94 = .ok (.new 44, 3) := by decide +kernel
theorem dX6_init_97 : decode cX6_init 97 = .ok (.dup, 1) := by decide +kernel
theorem dX6_init_98 : decode cX6_init 98 = .ok (.invokespecial 46, 3) := by decide +kernel
theorem dX6_init_101 : decode cX6_init 101 = .ok (.putfield 47, 3) := by decide +kernel
theorem dX6_init_104 : decode cX6_init 104 = .ok (.aload_n 0, 1) := by decide +kernel
theorem dX6_init_105 : decode cX6_init 105 = .ok (.new 44, 3) := by decide +kernel
theorem dX6_init_108 : decode cX6_init 108 = .ok (.dup, 1) := by decide +kernel
theorem dX6_init_109 : decode cX6_init 109 = .ok (.invokespecial 46, 3) := by decide +kernel
theorem dX6_init_112 : decode cX6_init 112 = .ok (.putfield 51, 3) := by decide +kernel
theorem dX6_init_115 : decode cX6_init 115 = .ok (.aload_n 0, 1) := by decide +kernel
theorem dX6_init_116 : decode cX6_init 116 = .ok (.new 54, 3) := by decide +kernel
theorem dX6_init_119 : decode cX6_init 119 = .ok (.dup, 1) := by decide +kernel
theorem dX6_init_120 : decode cX6_init 120 = .ok (.aload_n 0, 1) := by decide +kernel
theorem dX6_init_121 : decode cX6_init 121 = .ok (.getfield 47, 3) := by decide +kernel
theorem dX6_init_124 : decode cX6_init 124 = .ok (.invokespecial 56, 3) := by decide +kernel
theorem dX6_init_127 : decode cX6_init 127 = .ok (.putfield 59, 3) := by decide +kernel
theorem dX6_init_130 : decode cX6_init 130 = .ok (.return_, 1) := by decide +kernel
theorem dX6_write_0 : decode cX6_write 0 = .ok (.iload_n 1, 1) := by decide +kernel
theorem dX6_write_1 : decode cX6_write 1 = .ok (.iconst 1, 1) := by decide +kernel
theorem dX6_write_2 : decode cX6_write 2 = .ok (.if_icmp .lt 9, 3) := by decide +kernel
theorem dX6_write_5 : decode cX6_write 5 = .ok (.iload_n 1, 1) := by decide +kernel
theorem dX6_write_6 : decode cX6_write 6 = .ok (.bipush 8, 2) := by decide +kernel
theorem dX6_write_8 : decode cX6_write 8 = .ok (.if_icmp .le 6, 3) := by decide +kernel
theorem dX6_write_11 : decode cX6_write 11 = .ok (.bipush (-2), 2) := by decide +kernel
theorem dX6_write_13 : decode cX6_write 13 = .ok (.ireturn, 1) := by decide +kernel
theorem dX6_write_14 : decode cX6_write 14 = .ok (.aload_n 0, 1) := by decide +kernel
theorem dX6_write_15 : decode cX6_write 15 = .ok (.getfield 12, 3) := by decide +kernel
theorem dX6_write_18 : decode cX6_write 18 = .ok (.getfield 63, 3) := by decide +kernel
theorem dX6_write_21 : decode cX6_write 21 = .ok (.iload_n 1, 1) := by decide +kernel
theorem dX6_write_22 : decode cX6_write 22 = .ok (.iadd, 1) := by decide +kernel
theorem dX6_write_23 : decode cX6_write 23 = .ok (.bipush 72, 2) := by decide +kernel
theorem dX6_write_25 : decode cX6_write 25 = .ok (.if_icmp .le 6, 3) := by decide +kernel
theorem dX6_write_28 : decode cX6_write 28 = .ok (.bipush (-4), 2) := by decide +kernel
theorem dX6_write_30 : decode cX6_write 30 = .ok (.ireturn, 1) := by decide +kernel
theorem dX6_write_31 : decode cX6_write 31 = .ok (.iload_n 1, 1) := by decide +kernel
theorem dX6_write_32 : decode cX6_write 32 = .ok (.iconst 1, 1) := by decide +kernel
theorem dX6_write_33 : decode cX6_write 33 = .ok (.isub, 1) := by decide +kernel
theorem dX6_write_34 : decode cX6_write 34 = .ok (.istore 4, 2) := by decide +kernel
theorem dX6_write_36 : decode cX6_write 36 = .ok (.iload 4, 2) := by decide +kernel
theorem dX6_write_38 : decode cX6_write 38 = .ok (.ifCond .lt 28, 3) := by decide +kernel
theorem dX6_write_41 : decode cX6_write 41 = .ok (.aload_n 0, 1) := by decide +kernel
theorem dX6_write_42 : decode cX6_write 42 = .ok (.getfield 12, 3) := by decide +kernel
theorem dX6_write_45 : decode cX6_write 45 = .ok (.lload_n 2, 1) := by decide +kernel
theorem dX6_write_46 : decode cX6_write 46 = .ok (.bipush 8, 2) := by decide +kernel
theorem dX6_write_48 : decode cX6_write 48 = .ok (.iload 4, 2) := by decide +kernel
theorem dX6_write_50 : decode cX6_write 50 = .ok (.imul, 1) := by decide +kernel
theorem dX6_write_51 : decode cX6_write 51 = .ok (.lushr, 1) := by decide +kernel
theorem dX6_write_52 : decode cX6_write 52 = .ok (.l2i, 1) := by decide +kernel
theorem dX6_write_53 : decode cX6_write 53 = .ok (.sipush 255, 3) := by decide +kernel
theorem dX6_write_56 : decode cX6_write 56 = .ok (.iand, 1) := by decide +kernel
theorem dX6_write_57 : decode cX6_write 57 = .ok (.invokevirtual 67, 3) := by decide +kernel
theorem dX6_write_60 : decode cX6_write 60 = .ok (.iinc 4 (-1), 3) := by decide +kernel
theorem dX6_write_63 : decode cX6_write 63 = .ok (.goto (-27), 3) := by decide +kernel
theorem dX6_write_66 : decode cX6_write 66 = .ok (.aload_n 0, 1) := by decide +kernel
theorem dX6_write_67 : decode cX6_write 67 = .ok (.getfield 12, 3) := by decide +kernel
theorem dX6_write_70 : decode cX6_write 70 = .ok (.getfield 63, 3) := by decide +kernel
theorem dX6_write_73 : decode cX6_write 73 = .ok (.ireturn, 1) := by decide +kernel
theorem dX6_wipe_0 : decode cX6_wipe 0 = .ok (.aload_n 0, 1) := by decide +kernel
theorem dX6_wipe_1 : decode cX6_wipe 1 = .ok (.getfield 12, 3) := by decide +kernel
theorem dX6_wipe_4 : decode cX6_wipe 4 = .ok (.getfield 63, 3) := by decide +kernel
theorem dX6_wipe_7 : decode cX6_wipe 7 = .ok (.istore_n 1, 1) := by decide +kernel
theorem dX6_wipe_8 : decode cX6_wipe 8 = .ok (.aload_n 0, 1) := by decide +kernel
theorem dX6_wipe_9 : decode cX6_wipe 9 = .ok (.getfield 12, 3) := by decide +kernel
theorem dX6_wipe_12 : decode cX6_wipe 12 = .ok (.iconst 0, 1) := by decide +kernel
theorem dX6_wipe_13 : decode cX6_wipe 13 = .ok (.putfield 63, 3) := by decide +kernel
theorem dX6_wipe_16 : decode cX6_wipe 16 = .ok (.iload_n 1, 1) := by decide +kernel
theorem dX6_wipe_17 : decode cX6_wipe 17 = .ok (.ireturn, 1) := by decide +kernel
theorem dX6_fault_0 : decode cX6_fault 0 = .ok (.aload_n 0, 1) := by decide +kernel
theorem dX6_fault_1 : decode cX6_fault 1 = .ok (.getfield 12, 3) := by decide +kernel
theorem dX6_fault_4 : decode cX6_fault 4 = .ok (.aload_n 0, 1) := by decide +kernel
theorem dX6_fault_5 : decode cX6_fault 5 = .ok (.getfield 51, 3) := by decide +kernel
theorem dX6_fault_8 : decode cX6_fault 8 = .ok (.invokevirtual 71, 3) := by decide +kernel
theorem dX6_fault_11 : decode cX6_fault 11 = .ok (.ireturn, 1) := by decide +kernel
theorem dX6_day_0 : decode cX6_day 0 = .ok (.aload_n 0, 1) := by decide +kernel
theorem dX6_day_1 : decode cX6_day 1 = .ok (.getfield 12, 3) := by decide +kernel
theorem dX6_day_4 : decode cX6_day 4 = .ok (.aload_n 0, 1) := by decide +kernel
theorem dX6_day_5 : decode cX6_day 5 = .ok (.getfield 51, 3) := by decide +kernel
theorem dX6_day_8 : decode cX6_day 8 = .ok (.invokevirtual 71, 3) := by decide +kernel
theorem dX6_day_11 : decode cX6_day 11 = .ok (.bipush (-9), 2) := by decide +kernel
theorem dX6_day_13 : decode cX6_day 13 = .ok (.if_icmp .eq 6, 3) := by decide +kernel
theorem dX6_day_16 : decode cX6_day 16 = .ok (.bipush (-3), 2) := by decide +kernel
theorem dX6_day_18 : decode cX6_day 18 = .ok (.ireturn, 1) := by decide +kernel
theorem dX6_day_19 : decode cX6_day 19 = .ok (.aload_n 0, 1) := by decide +kernel
theorem dX6_day_20 : decode cX6_day 20 = .ok (.getfield 51, 3) := by decide +kernel
theorem dX6_day_23 : decode cX6_day 23 = .ok (.astore_n 1, 1) := by decide +kernel
theorem dX6_day_24 : decode cX6_day 24 = .ok (.aload_n 0, 1) := by decide +kernel
theorem dX6_day_25 : decode cX6_day 25 = .ok (.aload_n 0, 1) := by decide +kernel
theorem dX6_day_26 : decode cX6_day 26 = .ok (.getfield 47, 3) := by decide +kernel
theorem dX6_day_29 : decode cX6_day 29 = .ok (.putfield 51, 3) := by decide +kernel
theorem dX6_day_32 : decode cX6_day 32 = .ok (.aload_n 0, 1) := by decide +kernel
theorem dX6_day_33 : decode cX6_day 33 = .ok (.aload_n 1, 1) := by decide +kernel
theorem dX6_day_34 : decode cX6_day 34 = .ok (.putfield 47, 3) := by decide +kernel
theorem dX6_day_37 : decode cX6_day 37 = .ok (.aload_n 0, 1) := by decide +kernel
theorem dX6_day_38 : decode cX6_day 38 = .ok (.getfield 19, 3) := by decide +kernel
theorem dX6_day_41 : decode cX6_day 41 = .ok (.aload_n 0, 1) := by decide +kernel
theorem dX6_day_42 : decode cX6_day 42 = .ok (.getfield 47, 3) := by decide +kernel
theorem dX6_day_45 : decode cX6_day 45 = .ok (.invokevirtual 75, 3) := by decide +kernel
theorem dX6_day_48 : decode cX6_day 48 = .ok (.aload_n 0, 1) := by decide +kernel
theorem dX6_day_49 : decode cX6_day 49 = .ok (.getfield 33, 3) := by decide +kernel
theorem dX6_day_52 : decode cX6_day 52 = .ok (.iconst 0, 1) := by decide +kernel
theorem dX6_day_53 : decode cX6_day 53 = .ok (.putfield 78, 3) := by decide +kernel
theorem dX6_day_56 : decode cX6_day 56 = .ok (.iconst 0, 1) := by decide +kernel
theorem dX6_day_57 : decode cX6_day 57 = .ok (.istore_n 2, 1) := by decide +kernel
theorem dX6_day_58 : decode cX6_day 58 = .ok (.iload_n 2, 1) := by decide +kernel
theorem dX6_day_59 : decode cX6_day 59 = .ok (.iconst 2, 1) := by decide +kernel
theorem dX6_day_60 : decode cX6_day 60 = .ok (.if_icmp .ge 19, 3) := by decide +kernel
theorem dX6_day_63 : decode cX6_day 63 = .ok (.aload_n 0, 1) := by decide +kernel
theorem dX6_day_64 : decode cX6_day 64 = .ok (.getfield 26, 3) := by decide +kernel
theorem dX6_day_67 : decode cX6_day 67 = .ok (.iload_n 2, 1) := by decide +kernel
theorem dX6_day_68 : decode cX6_day 68 = .ok (.aaload, 1) := by decide +kernel
theorem dX6_day_69 : decode cX6_day 69 = .ok (.iconst 0, 1) := by decide +kernel
theorem dX6_day_70 : decode cX6_day 70 = .ok (.putfield 81, 3) := by decide +kernel
theorem dX6_day_73 : decode cX6_day 73 = .ok (.iinc 2 1, 3) := by decide +kernel
theorem dX6_day_76 : decode cX6_day 76 = .ok (.goto (-18), 3) := by decide +kernel
theorem dX6_day_79 : decode cX6_day 79 = .ok (.aload_n 0, 1) := by decide +kernel
theorem dX6_day_80 : decode cX6_day 80 = .ok (.getfield 47, 3) := by decide +kernel
theorem dX6_day_83 : decode cX6_day 83 = .ok (.getfield 85, 3) := by decide +kernel
theorem dX6_day_86 : decode cX6_day 86 = .ok (.ireturn, 1) := by decide +kernel
theorem dX6_about_0 : decode cX6_about 0 = .ok (.iload_n 1, 1) := by decide +kernel
theorem dX6_about_1 : decode cX6_about 1 = .ok (.tableswitch 117 0 8 #[51, 59, 67, 75, 83, 91, 96, 101, 109], 51) := by decide +kernel
theorem dX6_about_52 : decode cX6_about 52 = .ok (.aload_n 0, 1) := by decide +kernel
theorem dX6_about_53 : decode cX6_about 53 = .ok (.getfield 47, 3) := by decide +kernel
theorem dX6_about_56 : decode cX6_about 56 = .ok (.getfield 85, 3) := by decide +kernel
theorem dX6_about_59 : decode cX6_about 59 = .ok (.ireturn, 1) := by decide +kernel
theorem dX6_about_60 : decode cX6_about 60 = .ok (.aload_n 0, 1) := by decide +kernel
theorem dX6_about_61 : decode cX6_about 61 = .ok (.getfield 47, 3) := by decide +kernel
theorem dX6_about_64 : decode cX6_about 64 = .ok (.getfield 88, 3) := by decide +kernel
theorem dX6_about_67 : decode cX6_about 67 = .ok (.ireturn, 1) := by decide +kernel
theorem dX6_about_68 : decode cX6_about 68 = .ok (.aload_n 0, 1) := by decide +kernel
theorem dX6_about_69 : decode cX6_about 69 = .ok (.getfield 47, 3) := by decide +kernel
theorem dX6_about_72 : decode cX6_about 72 = .ok (.getfield 91, 3) := by decide +kernel
theorem dX6_about_75 : decode cX6_about 75 = .ok (.ireturn, 1) := by decide +kernel
theorem dX6_about_76 : decode cX6_about 76 = .ok (.aload_n 0, 1) := by decide +kernel
theorem dX6_about_77 : decode cX6_about 77 = .ok (.getfield 19, 3) := by decide +kernel
theorem dX6_about_80 : decode cX6_about 80 = .ok (.getfield 94, 3) := by decide +kernel
theorem dX6_about_83 : decode cX6_about 83 = .ok (.ireturn, 1) := by decide +kernel
theorem dX6_about_84 : decode cX6_about 84 = .ok (.aload_n 0, 1) := by decide +kernel
theorem dX6_about_85 : decode cX6_about 85 = .ok (.getfield 33, 3) := by decide +kernel
theorem dX6_about_88 : decode cX6_about 88 = .ok (.getfield 78, 3) := by decide +kernel
theorem dX6_about_91 : decode cX6_about 91 = .ok (.ireturn, 1) := by decide +kernel
theorem dX6_about_92 : decode cX6_about 92 = .ok (.aload_n 0, 1) := by decide +kernel
theorem dX6_about_93 : decode cX6_about 93 = .ok (.invokevirtual 97, 3) := by decide +kernel
theorem dX6_about_96 : decode cX6_about 96 = .ok (.ireturn, 1) := by decide +kernel
theorem dX6_about_97 : decode cX6_about 97 = .ok (.aload_n 0, 1) := by decide +kernel
theorem dX6_about_98 : decode cX6_about 98 = .ok (.invokevirtual 101, 3) := by decide +kernel
theorem dX6_about_101 : decode cX6_about 101 = .ok (.ireturn, 1) := by decide +kernel
theorem dX6_about_102 : decode cX6_about 102 = .ok (.aload_n 0, 1) := by decide +kernel
theorem dX6_about_103 : decode cX6_about 103 = .ok (.getfield 40, 3) := by decide +kernel
theorem dX6_about_106 : decode cX6_about 106 = .ok (.getfield 104, 3) := by decide +kernel
theorem dX6_about_109 : decode cX6_about 109 = .ok (.ireturn, 1) := by decide +kernel
theorem dX6_about_110 : decode cX6_about 110 = .ok (.aload_n 0, 1) := by decide +kernel
theorem dX6_about_111 : decode cX6_about 111 = .ok (.getfield 12, 3) := by decide +kernel
theorem dX6_about_114 : decode cX6_about 114 = .ok (.getfield 63, 3) := by decide +kernel
theorem dX6_about_117 : decode cX6_about 117 = .ok (.ireturn, 1) := by decide +kernel
theorem dX6_about_118 : decode cX6_about 118 = .ok (.bipush (-2), 2) := by decide +kernel
theorem dX6_about_120 : decode cX6_about 120 = .ok (.ireturn, 1) := by decide +kernel
theorem dX6_where_0 : decode cX6_where 0 = .ok (.aload_n 0, 1) := by decide +kernel
theorem dX6_where_1 : decode cX6_where 1 = .ok (.iload_n 1, 1) := by decide +kernel
theorem dX6_where_2 : decode cX6_where 2 = .ok (.invokevirtual 105, 3) := by decide +kernel
theorem dX6_where_5 : decode cX6_where 5 = .ok (.ifCond .ne 5, 3) := by decide +kernel
theorem dX6_where_8 : decode cX6_where 8 = .ok (.iconst (-1), 1) := by decide +kernel
theorem dX6_where_9 : decode cX6_where 9 = .ok (.ireturn, 1) := by decide +kernel
theorem dX6_where_10 : decode cX6_where 10 = .ok (.iload_n 2, 1) := by decide +kernel
theorem dX6_where_11 : decode cX6_where 11 = .ok (.invokestatic 109, 3) := by decide +kernel
theorem dX6_where_14 : decode cX6_where 14 = .ok (.ifCond .eq 15, 3) := by decide +kernel
theorem dX6_where_17 : decode cX6_where 17 = .ok (.aload_n 0, 1) := by decide +kernel
theorem dX6_where_18 : decode cX6_where 18 = .ok (.getfield 47, 3) := by decide +kernel
theorem dX6_where_21 : decode cX6_where 21 = .ok (.iload_n 1, 1) := by decide +kernel
theorem dX6_where_22 : decode cX6_where 22 = .ok (.iload_n 2, 1) := by decide +kernel
theorem dX6_where_23 : decode cX6_where 23 = .ok (.invokevirtual 112, 3) := by decide +kernel
theorem dX6_where_26 : decode cX6_where 26 = .ok (.goto 5, 3) := by decide +kernel
theorem dX6_where_29 : decode cX6_where 29 = .ok (.bipush (-2), 2) := by decide +kernel
theorem dX6_where_31 : decode cX6_where 31 = .ok (.ireturn, 1) := by decide +kernel
theorem dX6_news_0 : decode cX6_news 0 = .ok (.aload_n 0, 1) := by decide +kernel
theorem dX6_news_1 : decode cX6_news 1 = .ok (.iload_n 1, 1) := by decide +kernel
theorem dX6_news_2 : decode cX6_news 2 = .ok (.invokevirtual 116, 3) := by decide +kernel
theorem dX6_news_5 : decode cX6_news 5 = .ok (.ifCond .ne 5, 3) := by decide +kernel
theorem dX6_news_8 : decode cX6_news 8 = .ok (.iconst (-1), 1) := by decide +kernel
theorem dX6_news_9 : decode cX6_news 9 = .ok (.ireturn, 1) := by decide +kernel
theorem dX6_news_10 : decode cX6_news 10 = .ok (.iload_n 2, 1) := by decide +kernel
theorem dX6_news_11 : decode cX6_news 11 = .ok (.tableswitch 82 0 4 #[33, 43, 53, 62, 72], 33) := by decide +kernel
theorem dX6_news_44 : decode cX6_news 44 = .ok (.aload_n 0, 1) := by decide +kernel
theorem dX6_news_45 : decode cX6_news 45 = .ok (.getfield 47, 3) := by decide +kernel
theorem dX6_news_48 : decode cX6_news 48 = .ok (.getfield 119, 3) := by decide +kernel
theorem dX6_news_51 : decode cX6_news 51 = .ok (.iload_n 1, 1) := by decide +kernel
theorem dX6_news_52 : decode cX6_news 52 = .ok (.iaload, 1) := by decide +kernel
theorem dX6_news_53 : decode cX6_news 53 = .ok (.ireturn, 1) := by decide +kernel
theorem dX6_news_54 : decode cX6_news 54 = .ok (.aload_n 0, 1) := by decide +kernel
theorem dX6_news_55 : decode cX6_news 55 = .ok (.getfield 47, 3) := by decide +kernel
theorem dX6_news_58 : decode cX6_news 58 = .ok (.getfield 123, 3) := by decide +kernel
theorem dX6_news_61 : decode cX6_news 61 = .ok (.iload_n 1, 1) := by decide +kernel
theorem dX6_news_62 : decode cX6_news 62 = .ok (.iaload, 1) := by decide +kernel
theorem dX6_news_63 : decode cX6_news 63 = .ok (.ireturn, 1) := by decide +kernel
theorem dX6_news_64 : decode cX6_news 64 = .ok (.aload_n 0, 1) := by decide +kernel
theorem dX6_news_65 : decode cX6_news 65 = .ok (.getfield 19, 3) := by decide +kernel
theorem dX6_news_68 : decode cX6_news 68 = .ok (.iload_n 1, 1) := by decide +kernel
theorem dX6_news_69 : decode cX6_news 69 = .ok (.invokevirtual 126, 3) := by decide +kernel
theorem dX6_news_72 : decode cX6_news 72 = .ok (.ireturn, 1) := by decide +kernel
theorem dX6_news_73 : decode cX6_news 73 = .ok (.aload_n 0, 1) := by decide +kernel
theorem dX6_news_74 : decode cX6_news 74 = .ok (.getfield 19, 3) := by decide +kernel
theorem dX6_news_77 : decode cX6_news 77 = .ok (.getfield 130, 3) := by decide +kernel
theorem dX6_news_80 : decode cX6_news 80 = .ok (.iload_n 1, 1) := by decide +kernel
theorem dX6_news_81 : decode cX6_news 81 = .ok (.iaload, 1) := by decide +kernel
theorem dX6_news_82 : decode cX6_news 82 = .ok (.ireturn, 1) := by decide +kernel
theorem dX6_news_83 : decode cX6_news 83 = .ok (.aload_n 0, 1) := by decide +kernel
theorem dX6_news_84 : decode cX6_news 84 = .ok (.getfield 47, 3) := by decide +kernel
theorem dX6_news_87 : decode cX6_news 87 = .ok (.getfield 133, 3) := by decide +kernel
theorem dX6_news_90 : decode cX6_news 90 = .ok (.iload_n 1, 1) := by decide +kernel
theorem dX6_news_91 : decode cX6_news 91 = .ok (.iaload, 1) := by decide +kernel
theorem dX6_news_92 : decode cX6_news 92 = .ok (.ireturn, 1) := by decide +kernel
theorem dX6_news_93 : decode cX6_news 93 = .ok (.bipush (-2), 2) := by decide +kernel
theorem dX6_news_95 : decode cX6_news 95 = .ok (.ireturn, 1) := by decide +kernel
theorem dX6_told_0 : decode cX6_told 0 = .ok (.aload_n 0, 1) := by decide +kernel
theorem dX6_told_1 : decode cX6_told 1 = .ok (.iload_n 1, 1) := by decide +kernel
theorem dX6_told_2 : decode cX6_told 2 = .ok (.invokevirtual 105, 3) := by decide +kernel
theorem dX6_told_5 : decode cX6_told 5 = .ok (.ifCond .eq 11, 3) := by decide +kernel
theorem dX6_told_8 : decode cX6_told 8 = .ok (.aload_n 0, 1) := by decide +kernel
theorem dX6_told_9 : decode cX6_told 9 = .ok (.iload_n 2, 1) := by decide +kernel
theorem dX6_told_10 : decode cX6_told 10 = .ok (.invokevirtual 116, 3) := by decide +kernel
theorem dX6_told_13 : decode cX6_told 13 = .ok (.ifCond .ne 5, 3) := by decide +kernel
theorem dX6_told_16 : decode cX6_told 16 = .ok (.iconst (-1), 1) := by decide +kernel
theorem dX6_told_17 : decode cX6_told 17 = .ok (.ireturn, 1) := by decide +kernel
theorem dX6_told_18 : decode cX6_told 18 = .ok (.aload_n 0, 1) := by decide +kernel
theorem dX6_told_19 : decode cX6_told 19 = .ok (.getfield 19, 3) := by decide +kernel
theorem dX6_told_22 : decode cX6_told 22 = .ok (.getfield 136, 3) := by decide +kernel
theorem dX6_told_25 : decode cX6_told 25 = .ok (.iload_n 1, 1) := by decide +kernel
theorem dX6_told_26 : decode cX6_told 26 = .ok (.iconst 3, 1) := by decide +kernel
theorem dX6_told_27 : decode cX6_told 27 = .ok (.imul, 1) := by decide +kernel
theorem dX6_told_28 : decode cX6_told 28 = .ok (.iload_n 2, 1) := by decide +kernel
theorem dX6_told_29 : decode cX6_told 29 = .ok (.iadd, 1) := by decide +kernel
theorem dX6_told_30 : decode cX6_told 30 = .ok (.iaload, 1) := by decide +kernel
theorem dX6_told_31 : decode cX6_told 31 = .ok (.ireturn, 1) := by decide +kernel
theorem dX6_left_0 : decode cX6_left 0 = .ok (.aload_n 0, 1) := by decide +kernel
theorem dX6_left_1 : decode cX6_left 1 = .ok (.iload_n 1, 1) := by decide +kernel
theorem dX6_left_2 : decode cX6_left 2 = .ok (.invokevirtual 105, 3) := by decide +kernel
theorem dX6_left_5 : decode cX6_left 5 = .ok (.ifCond .eq 11, 3) := by decide +kernel
theorem dX6_left_8 : decode cX6_left 8 = .ok (.aload_n 0, 1) := by decide +kernel
theorem dX6_left_9 : decode cX6_left 9 = .ok (.iload_n 2, 1) := by decide +kernel
theorem dX6_left_10 : decode cX6_left 10 = .ok (.invokevirtual 116, 3) := by decide +kernel
theorem dX6_left_13 : decode cX6_left 13 = .ok (.ifCond .ne 5, 3) := by decide +kernel
theorem dX6_left_16 : decode cX6_left 16 = .ok (.iconst (-1), 1) := by decide +kernel
theorem dX6_left_17 : decode cX6_left 17 = .ok (.ireturn, 1) := by decide +kernel
theorem dX6_left_18 : decode cX6_left 18 = .ok (.aload_n 0, 1) := by decide +kernel
theorem dX6_left_19 : decode cX6_left 19 = .ok (.getfield 19, 3) := by decide +kernel
theorem dX6_left_22 : decode cX6_left 22 = .ok (.iload_n 1, 1) := by decide +kernel
theorem dX6_left_23 : decode cX6_left 23 = .ok (.iload_n 2, 1) := by decide +kernel
theorem dX6_left_24 : decode cX6_left 24 = .ok (.invokevirtual 139, 3) := by decide +kernel
theorem dX6_left_27 : decode cX6_left 27 = .ok (.ifCond .ne 6, 3) := by decide +kernel
theorem dX6_left_30 : decode cX6_left 30 = .ok (.bipush (-3), 2) := by decide +kernel
theorem dX6_left_32 : decode cX6_left 32 = .ok (.ireturn, 1) := by decide +kernel
theorem dX6_left_33 : decode cX6_left 33 = .ok (.aload_n 0, 1) := by decide +kernel
theorem dX6_left_34 : decode cX6_left 34 = .ok (.getfield 47, 3) := by decide +kernel
theorem dX6_left_37 : decode cX6_left 37 = .ok (.getfield 119, 3) := by decide +kernel
theorem dX6_left_40 : decode cX6_left 40 = .ok (.iload_n 2, 1) := by decide +kernel
theorem dX6_left_41 : decode cX6_left 41 = .ok (.iaload, 1) := by decide +kernel
theorem dX6_left_42 : decode cX6_left 42 = .ok (.aload_n 0, 1) := by decide +kernel
theorem dX6_left_43 : decode cX6_left 43 = .ok (.getfield 19, 3) := by decide +kernel
theorem dX6_left_46 : decode cX6_left 46 = .ok (.getfield 143, 3) := by decide +kernel
theorem dX6_left_49 : decode cX6_left 49 = .ok (.iload_n 1, 1) := by decide +kernel
theorem dX6_left_50 : decode cX6_left 50 = .ok (.iconst 3, 1) := by decide +kernel
theorem dX6_left_51 : decode cX6_left 51 = .ok (.imul, 1) := by decide +kernel
theorem dX6_left_52 : decode cX6_left 52 = .ok (.iload_n 2, 1) := by decide +kernel
theorem dX6_left_53 : decode cX6_left 53 = .ok (.iadd, 1) := by decide +kernel
theorem dX6_left_54 : decode cX6_left 54 = .ok (.iaload, 1) := by decide +kernel
theorem dX6_left_55 : decode cX6_left 55 = .ok (.isub, 1) := by decide +kernel
theorem dX6_left_56 : decode cX6_left 56 = .ok (.ireturn, 1) := by decide +kernel
theorem dX6_may_0 : decode cX6_may 0 = .ok (.aload_n 0, 1) := by decide +kernel
theorem dX6_may_1 : decode cX6_may 1 = .ok (.iload_n 1, 1) := by decide +kernel
theorem dX6_may_2 : decode cX6_may 2 = .ok (.invokevirtual 105, 3) := by decide +kernel
theorem dX6_may_5 : decode cX6_may 5 = .ok (.ifCond .eq 11, 3) := by decide +kernel
theorem dX6_may_8 : decode cX6_may 8 = .ok (.aload_n 0, 1) := by decide +kernel
theorem dX6_may_9 : decode cX6_may 9 = .ok (.iload_n 2, 1) := by decide +kernel
theorem dX6_may_10 : decode cX6_may 10 = .ok (.invokevirtual 116, 3) := by decide +kernel
theorem dX6_may_13 : decode cX6_may 13 = .ok (.ifCond .ne 5, 3) := by decide +kernel
theorem dX6_may_16 : decode cX6_may 16 = .ok (.iconst (-1), 1) := by decide +kernel
theorem dX6_may_17 : decode cX6_may 17 = .ok (.ireturn, 1) := by decide +kernel
theorem dX6_may_18 : decode cX6_may 18 = .ok (.aload_n 0, 1) := by decide +kernel
theorem dX6_may_19 : decode cX6_may 19 = .ok (.getfield 19, 3) := by decide +kernel
theorem dX6_may_22 : decode cX6_may 22 = .ok (.aload_n 0, 1) := by decide +kernel
theorem dX6_may_23 : decode cX6_may 23 = .ok (.getfield 47, 3) := by decide +kernel
theorem dX6_may_26 : decode cX6_may 26 = .ok (.iload_n 1, 1) := by decide +kernel
theorem dX6_may_27 : decode cX6_may 27 = .ok (.iload_n 2, 1) := by decide +kernel
theorem dX6_may_28 : decode cX6_may 28 = .ok (.invokevirtual 146, 3) := by decide +kernel
theorem dX6_may_31 : decode cX6_may 31 = .ok (.ifCond .eq 7, 3) := by decide +kernel
theorem dX6_may_34 : decode cX6_may 34 = .ok (.iconst 1, 1) := by decide +kernel
theorem dX6_may_35 : decode cX6_may 35 = .ok (.goto 4, 3) := by decide +kernel
theorem dX6_may_38 : decode cX6_may 38 = .ok (.iconst 0, 1) := by decide +kernel
theorem dX6_may_39 : decode cX6_may 39 = .ok (.ireturn, 1) := by decide +kernel
theorem dX6_tell_0 : decode cX6_tell 0 = .ok (.aload_n 0, 1) := by decide +kernel
theorem dX6_tell_1 : decode cX6_tell 1 = .ok (.iload_n 1, 1) := by decide +kernel
theorem dX6_tell_2 : decode cX6_tell 2 = .ok (.invokevirtual 105, 3) := by decide +kernel
theorem dX6_tell_5 : decode cX6_tell 5 = .ok (.ifCond .eq 11, 3) := by decide +kernel
theorem dX6_tell_8 : decode cX6_tell 8 = .ok (.aload_n 0, 1) := by decide +kernel
theorem dX6_tell_9 : decode cX6_tell 9 = .ok (.iload_n 2, 1) := by decide +kernel
theorem dX6_tell_10 : decode cX6_tell 10 = .ok (.invokevirtual 116, 3) := by decide +kernel
theorem dX6_tell_13 : decode cX6_tell 13 = .ok (.ifCond .ne 5, 3) := by decide +kernel
theorem dX6_tell_16 : decode cX6_tell 16 = .ok (.iconst (-1), 1) := by decide +kernel
theorem dX6_tell_17 : decode cX6_tell 17 = .ok (.ireturn, 1) := by decide +kernel
theorem dX6_tell_18 : decode cX6_tell 18 = .ok (.aload_n 0, 1) := by decide +kernel
theorem dX6_tell_19 : decode cX6_tell 19 = .ok (.getfield 19, 3) := by decide +kernel
theorem dX6_tell_22 : decode cX6_tell 22 = .ok (.aload_n 0, 1) := by decide +kernel
theorem dX6_tell_23 : decode cX6_tell 23 = .ok (.getfield 47, 3) := by decide +kernel
theorem dX6_tell_26 : decode cX6_tell 26 = .ok (.iload_n 1, 1) := by decide +kernel
theorem dX6_tell_27 : decode cX6_tell 27 = .ok (.iload_n 2, 1) := by decide +kernel
theorem dX6_tell_28 : decode cX6_tell 28 = .ok (.invokevirtual 146, 3) := by decide +kernel
theorem dX6_tell_31 : decode cX6_tell 31 = .ok (.ifCond .ne 6, 3) := by decide +kernel
theorem dX6_tell_34 : decode cX6_tell 34 = .ok (.bipush (-3), 2) := by decide +kernel
theorem dX6_tell_36 : decode cX6_tell 36 = .ok (.ireturn, 1) := by decide +kernel
theorem dX6_tell_37 : decode cX6_tell 37 = .ok (.aload_n 0, 1) := by decide +kernel
theorem dX6_tell_38 : decode cX6_tell 38 = .ok (.getfield 33, 3) := by decide +kernel
theorem dX6_tell_41 : decode cX6_tell 41 = .ok (.iload_n 1, 1) := by decide +kernel
theorem dX6_tell_42 : decode cX6_tell 42 = .ok (.iload_n 2, 1) := by decide +kernel
theorem dX6_tell_43 : decode cX6_tell 43 = .ok (.aload_n 0, 1) := by decide +kernel
theorem dX6_tell_44 : decode cX6_tell 44 = .ok (.getfield 19, 3) := by decide +kernel
theorem dX6_tell_47 : decode cX6_tell 47 = .ok (.invokevirtual 150, 3) := by decide +kernel
theorem dX6_tell_50 : decode cX6_tell 50 = .ok (.invokestatic 153, 3) := by decide +kernel
theorem dX6_tell_53 : decode cX6_tell 53 = .ok (.invokevirtual 157, 3) := by decide +kernel
theorem dX6_tell_56 : decode cX6_tell 56 = .ok (.aload_n 0, 1) := by decide +kernel
theorem dX6_tell_57 : decode cX6_tell 57 = .ok (.getfield 19, 3) := by decide +kernel
theorem dX6_tell_60 : decode cX6_tell 60 = .ok (.aload_n 0, 1) := by decide +kernel
theorem dX6_tell_61 : decode cX6_tell 61 = .ok (.getfield 47, 3) := by decide +kernel
theorem dX6_tell_64 : decode cX6_tell 64 = .ok (.iload_n 1, 1) := by decide +kernel
theorem dX6_tell_65 : decode cX6_tell 65 = .ok (.iload_n 2, 1) := by decide +kernel
theorem dX6_tell_66 : decode cX6_tell 66 = .ok (.invokevirtual 158, 3) := by decide +kernel
theorem dX6_tell_69 : decode cX6_tell 69 = .ok (.ireturn, 1) := by decide +kernel
theorem dX6_hour_0 : decode cX6_hour 0 = .ok (.aload_n 0, 1) := by decide +kernel
theorem dX6_hour_1 : decode cX6_hour 1 = .ok (.getfield 19, 3) := by decide +kernel
theorem dX6_hour_4 : decode cX6_hour 4 = .ok (.getfield 94, 3) := by decide +kernel
theorem dX6_hour_7 : decode cX6_hour 7 = .ok (.iconst 5, 1) := by decide +kernel
theorem dX6_hour_8 : decode cX6_hour 8 = .ok (.if_icmp .lt 6, 3) := by decide +kernel
theorem dX6_hour_11 : decode cX6_hour 11 = .ok (.bipush (-3), 2) := by decide +kernel
theorem dX6_hour_13 : decode cX6_hour 13 = .ok (.ireturn, 1) := by decide +kernel
theorem dX6_hour_14 : decode cX6_hour 14 = .ok (.aload_n 0, 1) := by decide +kernel
theorem dX6_hour_15 : decode cX6_hour 15 = .ok (.getfield 33, 3) := by decide +kernel
theorem dX6_hour_18 : decode cX6_hour 18 = .ok (.iconst (-1), 1) := by decide +kernel
theorem dX6_hour_19 : decode cX6_hour 19 = .ok (.invokevirtual 157, 3) := by decide +kernel
theorem dX6_hour_22 : decode cX6_hour 22 = .ok (.aload_n 0, 1) := by decide +kernel
theorem dX6_hour_23 : decode cX6_hour 23 = .ok (.getfield 19, 3) := by decide +kernel
theorem dX6_hour_26 : decode cX6_hour 26 = .ok (.dup, 1) := by decide +kernel
theorem dX6_hour_27 : decode cX6_hour 27 = .ok (.getfield 94, 3) := by decide +kernel
theorem dX6_hour_30 : decode cX6_hour 30 = .ok (.iconst 1, 1) := by decide +kernel
theorem dX6_hour_31 : decode cX6_hour 31 = .ok (.iadd, 1) := by decide +kernel
theorem dX6_hour_32 : decode cX6_hour 32 = .ok (.putfield 94, 3) := by decide +kernel
theorem dX6_hour_35 : decode cX6_hour 35 = .ok (.aload_n 0, 1) := by decide +kernel
theorem dX6_hour_36 : decode cX6_hour 36 = .ok (.getfield 19, 3) := by decide +kernel
theorem dX6_hour_39 : decode cX6_hour 39 = .ok (.getfield 94, 3) := by decide +kernel
theorem dX6_hour_42 : decode cX6_hour 42 = .ok (.ireturn, 1) := by decide +kernel
theorem dX6_undo_0 : decode cX6_undo 0 = .ok (.aload_n 0, 1) := by decide +kernel
theorem dX6_undo_1 : decode cX6_undo 1 = .ok (.getfield 33, 3) := by decide +kernel
theorem dX6_undo_4 : decode cX6_undo 4 = .ok (.getfield 78, 3) := by decide +kernel
theorem dX6_undo_7 : decode cX6_undo 7 = .ok (.ifCond .ne 6, 3) := by decide +kernel
theorem dX6_undo_10 : decode cX6_undo 10 = .ok (.bipush (-3), 2) := by decide +kernel
theorem dX6_undo_12 : decode cX6_undo 12 = .ok (.ireturn, 1) := by decide +kernel
theorem dX6_undo_13 : decode cX6_undo 13 = .ok (.aload_n 0, 1) := by decide +kernel
theorem dX6_undo_14 : decode cX6_undo 14 = .ok (.getfield 33, 3) := by decide +kernel
theorem dX6_undo_17 : decode cX6_undo 17 = .ok (.invokevirtual 162, 3) := by decide +kernel
theorem dX6_undo_20 : decode cX6_undo 20 = .ok (.istore_n 1, 1) := by decide +kernel
theorem dX6_undo_21 : decode cX6_undo 21 = .ok (.iload_n 1, 1) := by decide +kernel
theorem dX6_undo_22 : decode cX6_undo 22 = .ok (.iconst (-1), 1) := by decide +kernel
theorem dX6_undo_23 : decode cX6_undo 23 = .ok (.if_icmp .ne 19, 3) := by decide +kernel
theorem dX6_undo_26 : decode cX6_undo 26 = .ok (.aload_n 0, 1) := by decide +kernel
theorem dX6_undo_27 : decode cX6_undo 27 = .ok (.getfield 19, 3) := by decide +kernel
theorem dX6_undo_30 : decode cX6_undo 30 = .ok (.dup, 1) := by decide +kernel
theorem dX6_undo_31 : decode cX6_undo 31 = .ok (.getfield 94, 3) := by decide +kernel
theorem dX6_undo_34 : decode cX6_undo 34 = .ok (.iconst 1, 1) := by decide +kernel
theorem dX6_undo_35 : decode cX6_undo 35 = .ok (.isub, 1) := by decide +kernel
theorem dX6_undo_36 : decode cX6_undo 36 = .ok (.putfield 94, 3) := by decide +kernel
theorem dX6_undo_39 : decode cX6_undo 39 = .ok (.goto 34, 3) := by decide +kernel
theorem dX6_undo_42 : decode cX6_undo 42 = .ok (.aload_n 0, 1) := by decide +kernel
theorem dX6_undo_43 : decode cX6_undo 43 = .ok (.getfield 19, 3) := by decide +kernel
theorem dX6_undo_46 : decode cX6_undo 46 = .ok (.aload_n 0, 1) := by decide +kernel
theorem dX6_undo_47 : decode cX6_undo 47 = .ok (.getfield 47, 3) := by decide +kernel
theorem dX6_undo_50 : decode cX6_undo 50 = .ok (.iload_n 1, 1) := by decide +kernel
theorem dX6_undo_51 : decode cX6_undo 51 = .ok (.invokestatic 165, 3) := by decide +kernel
theorem dX6_undo_54 : decode cX6_undo 54 = .ok (.iload_n 1, 1) := by decide +kernel
theorem dX6_undo_55 : decode cX6_undo 55 = .ok (.invokestatic 168, 3) := by decide +kernel
theorem dX6_undo_58 : decode cX6_undo 58 = .ok (.iconst (-1), 1) := by decide +kernel
theorem dX6_undo_59 : decode cX6_undo 59 = .ok (.invokevirtual 171, 3) := by decide +kernel
theorem dX6_undo_62 : decode cX6_undo 62 = .ok (.aload_n 0, 1) := by decide +kernel
theorem dX6_undo_63 : decode cX6_undo 63 = .ok (.getfield 19, 3) := by decide +kernel
theorem dX6_undo_66 : decode cX6_undo 66 = .ok (.iload_n 1, 1) := by decide +kernel
theorem dX6_undo_67 : decode cX6_undo 67 = .ok (.invokestatic 174, 3) := by decide +kernel
theorem dX6_undo_70 : decode cX6_undo 70 = .ok (.invokevirtual 176, 3) := by decide +kernel
theorem dX6_undo_73 : decode cX6_undo 73 = .ok (.aload_n 0, 1) := by decide +kernel
theorem dX6_undo_74 : decode cX6_undo 74 = .ok (.getfield 33, 3) := by decide +kernel
theorem dX6_undo_77 : decode cX6_undo 77 = .ok (.getfield 78, 3) := by decide +kernel
theorem dX6_undo_80 : decode cX6_undo 80 = .ok (.ireturn, 1) := by decide +kernel
theorem dX6_judge_0 : decode cX6_judge 0 = .ok (.aload_n 0, 1) := by decide +kernel
theorem dX6_judge_1 : decode cX6_judge 1 = .ok (.iload_n 1, 1) := by decide +kernel
theorem dX6_judge_2 : decode cX6_judge 2 = .ok (.invokevirtual 116, 3) := by decide +kernel
theorem dX6_judge_5 : decode cX6_judge 5 = .ok (.ifCond .ne 5, 3) := by decide +kernel
theorem dX6_judge_8 : decode cX6_judge 8 = .ok (.iconst (-1), 1) := by decide +kernel
theorem dX6_judge_9 : decode cX6_judge 9 = .ok (.ireturn, 1) := by decide +kernel
theorem dX6_judge_10 : decode cX6_judge 10 = .ok (.iload_n 2, 1) := by decide +kernel
theorem dX6_judge_11 : decode cX6_judge 11 = .ok (.iconst 1, 1) := by decide +kernel
theorem dX6_judge_12 : decode cX6_judge 12 = .ok (.if_icmp .lt 22, 3) := by decide +kernel
theorem dX6_judge_15 : decode cX6_judge 15 = .ok (.iload_n 2, 1) := by decide +kernel
theorem dX6_judge_16 : decode cX6_judge 16 = .ok (.iconst 4, 1) := by decide +kernel
theorem dX6_judge_17 : decode cX6_judge 17 = .ok (.if_icmp .gt 17, 3) := by decide +kernel
theorem dX6_judge_20 : decode cX6_judge 20 = .ok (.iload_n 3, 1) := by decide +kernel
theorem dX6_judge_21 : decode cX6_judge 21 = .ok (.ifCond .lt 13, 3) := by decide +kernel
theorem dX6_judge_24 : decode cX6_judge 24 = .ok (.iload_n 3, 1) := by decide +kernel
theorem dX6_judge_25 : decode cX6_judge 25 = .ok (.bipush 10, 2) := by decide +kernel
theorem dX6_judge_27 : decode cX6_judge 27 = .ok (.iload_n 2, 1) := by decide +kernel
theorem dX6_judge_28 : decode cX6_judge 28 = .ok (.invokestatic 179, 3) := by decide +kernel
theorem dX6_judge_31 : decode cX6_judge 31 = .ok (.if_icmp .lt 6, 3) := by decide +kernel
theorem dX6_judge_34 : decode cX6_judge 34 = .ok (.bipush (-2), 2) := by decide +kernel
theorem dX6_judge_36 : decode cX6_judge 36 = .ok (.ireturn, 1) := by decide +kernel
theorem dX6_judge_37 : decode cX6_judge 37 = .ok (.aload_n 0, 1) := by decide +kernel
theorem dX6_judge_38 : decode cX6_judge 38 = .ok (.getfield 23, 3) := by decide +kernel
theorem dX6_judge_41 : decode cX6_judge 41 = .ok (.aload_n 0, 1) := by decide +kernel
theorem dX6_judge_42 : decode cX6_judge 42 = .ok (.getfield 19, 3) := by decide +kernel
theorem dX6_judge_45 : decode cX6_judge 45 = .ok (.invokevirtual 182, 3) := by decide +kernel
theorem dX6_judge_48 : decode cX6_judge 48 = .ok (.iconst 0, 1) := by decide +kernel
theorem dX6_judge_49 : decode cX6_judge 49 = .ok (.istore 4, 2) := by decide +kernel
theorem dX6_judge_51 : decode cX6_judge 51 = .ok (.iload 4, 2) := by decide +kernel
theorem dX6_judge_53 : decode cX6_judge 53 = .ok (.iload_n 2, 1) := by decide +kernel
theorem dX6_judge_54 : decode cX6_judge 54 = .ok (.if_icmp .ge 30, 3) := by decide +kernel
theorem dX6_judge_57 : decode cX6_judge 57 = .ok (.aload_n 0, 1) := by decide +kernel
theorem dX6_judge_58 : decode cX6_judge 58 = .ok (.iload_n 1, 1) := by decide +kernel
theorem dX6_judge_59 : decode cX6_judge 59 = .ok (.iload_n 3, 1) := by decide +kernel
theorem dX6_judge_60 : decode cX6_judge 60 = .ok (.iload_n 2, 1) := by decide +kernel
theorem dX6_judge_61 : decode cX6_judge 61 = .ok (.iconst 1, 1) := by decide +kernel
theorem dX6_judge_62 : decode cX6_judge 62 = .ok (.isub, 1) := by decide +kernel
theorem dX6_judge_63 : decode cX6_judge 63 = .ok (.iload 4, 2) := by decide +kernel
theorem dX6_judge_65 : decode cX6_judge 65 = .ok (.isub, 1) := by decide +kernel
theorem dX6_judge_66 : decode cX6_judge 66 = .ok (.invokestatic 186, 3) := by decide +kernel
theorem dX6_judge_69 : decode cX6_judge 69 = .ok (.invokevirtual 189, 3) := by decide +kernel
theorem dX6_judge_72 : decode cX6_judge 72 = .ok (.ifCond .ne 6, 3) := by decide +kernel
theorem dX6_judge_75 : decode cX6_judge 75 = .ok (.iload 4, 2) := by decide +kernel
theorem dX6_judge_77 : decode cX6_judge 77 = .ok (.ireturn, 1) := by decide +kernel
theorem dX6_judge_78 : decode cX6_judge 78 = .ok (.iinc 4 1, 3) := by decide +kernel
theorem dX6_judge_81 : decode cX6_judge 81 = .ok (.goto (-30), 3) := by decide +kernel
theorem dX6_judge_84 : decode cX6_judge 84 = .ok (.bipush (-9), 2) := by decide +kernel
theorem dX6_judge_86 : decode cX6_judge 86 = .ok (.ireturn, 1) := by decide +kernel
theorem dX6_fewest_0 : decode cX6_fewest 0 = .ok (.aload_n 0, 1) := by decide +kernel
theorem dX6_fewest_1 : decode cX6_fewest 1 = .ok (.iload_n 1, 1) := by decide +kernel
theorem dX6_fewest_2 : decode cX6_fewest 2 = .ok (.iload_n 2, 1) := by decide +kernel
theorem dX6_fewest_3 : decode cX6_fewest 3 = .ok (.invokevirtual 192, 3) := by decide +kernel
theorem dX6_fewest_6 : decode cX6_fewest 6 = .ok (.istore_n 3, 1) := by decide +kernel
theorem dX6_fewest_7 : decode cX6_fewest 7 = .ok (.iload_n 3, 1) := by decide +kernel
theorem dX6_fewest_8 : decode cX6_fewest 8 = .ok (.ifCond .eq 7, 3) := by decide +kernel
theorem dX6_fewest_11 : decode cX6_fewest 11 = .ok (.iload_n 3, 1) := by decide +kernel
theorem dX6_fewest_12 : decode cX6_fewest 12 = .ok (.goto 9, 3) := by decide +kernel
theorem dX6_fewest_15 : decode cX6_fewest 15 = .ok (.aload_n 0, 1) := by decide +kernel
theorem dX6_fewest_16 : decode cX6_fewest 16 = .ok (.iload_n 1, 1) := by decide +kernel
theorem dX6_fewest_17 : decode cX6_fewest 17 = .ok (.iload_n 2, 1) := by decide +kernel
theorem dX6_fewest_18 : decode cX6_fewest 18 = .ok (.invokevirtual 195, 3) := by decide +kernel
theorem dX6_fewest_21 : decode cX6_fewest 21 = .ok (.ireturn, 1) := by decide +kernel
theorem dX6_planAt_0 : decode cX6_planAt 0 = .ok (.aload_n 0, 1) := by decide +kernel
theorem dX6_planAt_1 : decode cX6_planAt 1 = .ok (.iload_n 1, 1) := by decide +kernel
theorem dX6_planAt_2 : decode cX6_planAt 2 = .ok (.iload_n 2, 1) := by decide +kernel
theorem dX6_planAt_3 : decode cX6_planAt 3 = .ok (.invokevirtual 192, 3) := by decide +kernel
theorem dX6_planAt_6 : decode cX6_planAt 6 = .ok (.istore 4, 2) := by decide +kernel
theorem dX6_planAt_8 : decode cX6_planAt 8 = .ok (.iload 4, 2) := by decide +kernel
theorem dX6_planAt_10 : decode cX6_planAt 10 = .ok (.ifCond .eq 6, 3) := by decide +kernel
theorem dX6_planAt_13 : decode cX6_planAt 13 = .ok (.iload 4, 2) := by decide +kernel
theorem dX6_planAt_15 : decode cX6_planAt 15 = .ok (.ireturn, 1) := by decide +kernel
theorem dX6_planAt_16 : decode cX6_planAt 16 = .ok (.iload_n 3, 1) := by decide +kernel
theorem dX6_planAt_17 : decode cX6_planAt 17 = .ok (.ifCond .lt 27, 3) := by decide +kernel
theorem dX6_planAt_20 : decode cX6_planAt 20 = .ok (.iload_n 3, 1) := by decide +kernel
theorem dX6_planAt_21 : decode cX6_planAt 21 = .ok (.iconst 5, 1) := by decide +kernel
theorem dX6_planAt_22 : decode cX6_planAt 22 = .ok (.aload_n 0, 1) := by decide +kernel
theorem dX6_planAt_23 : decode cX6_planAt 23 = .ok (.getfield 19, 3) := by decide +kernel
theorem dX6_planAt_26 : decode cX6_planAt 26 = .ok (.getfield 94, 3) := by decide +kernel
theorem dX6_planAt_29 : decode cX6_planAt 29 = .ok (.isub, 1) := by decide +kernel
theorem dX6_planAt_30 : decode cX6_planAt 30 = .ok (.if_icmp .gt 14, 3) := by decide +kernel
theorem dX6_planAt_33 : decode cX6_planAt 33 = .ok (.aload_n 0, 1) := by decide +kernel
theorem dX6_planAt_34 : decode cX6_planAt 34 = .ok (.iload_n 1, 1) := by decide +kernel
theorem dX6_planAt_35 : decode cX6_planAt 35 = .ok (.iload_n 2, 1) := by decide +kernel
theorem dX6_planAt_36 : decode cX6_planAt 36 = .ok (.invokevirtual 195, 3) := by decide +kernel
theorem dX6_planAt_39 : decode cX6_planAt 39 = .ok (.bipush (-9), 2) := by decide +kernel
theorem dX6_planAt_41 : decode cX6_planAt 41 = .ok (.if_icmp .ne 6, 3) := by decide +kernel
theorem dX6_planAt_44 : decode cX6_planAt 44 = .ok (.bipush (-9), 2) := by decide +kernel
theorem dX6_planAt_46 : decode cX6_planAt 46 = .ok (.ireturn, 1) := by decide +kernel
theorem dX6_planAt_47 : decode cX6_planAt 47 = .ok (.aload_n 0, 1) := by decide +kernel
theorem dX6_planAt_48 : decode cX6_planAt 48 = .ok (.getfield 59, 3) := by decide +kernel
theorem dX6_planAt_51 : decode cX6_planAt 51 = .ok (.aload_n 0, 1) := by decide +kernel
theorem dX6_planAt_52 : decode cX6_planAt 52 = .ok (.getfield 19, 3) := by decide +kernel
theorem dX6_planAt_55 : decode cX6_planAt 55 = .ok (.getfield 94, 3) := by decide +kernel
theorem dX6_planAt_58 : decode cX6_planAt 58 = .ok (.aload_n 0, 1) := by decide +kernel
theorem dX6_planAt_59 : decode cX6_planAt 59 = .ok (.getfield 19, 3) := by decide +kernel
theorem dX6_planAt_62 : decode cX6_planAt 62 = .ok (.getfield 130, 3) := by decide +kernel
theorem dX6_planAt_65 : decode cX6_planAt 65 = .ok (.iload_n 1, 1) := by decide +kernel
theorem dX6_planAt_66 : decode cX6_planAt 66 = .ok (.iaload, 1) := by decide +kernel
theorem dX6_planAt_67 : decode cX6_planAt 67 = .ok (.iload_n 3, 1) := by decide +kernel
theorem dX6_planAt_68 : decode cX6_planAt 68 = .ok (.invokevirtual 198, 3) := by decide +kernel
theorem dX6_planAt_71 : decode cX6_planAt 71 = .ok (.ireturn, 1) := by decide +kernel
theorem dX6_most_0 : decode cX6_most 0 = .ok (.aload_n 0, 1) := by decide +kernel
theorem dX6_most_1 : decode cX6_most 1 = .ok (.iload_n 1, 1) := by decide +kernel
theorem dX6_most_2 : decode cX6_most 2 = .ok (.invokevirtual 116, 3) := by decide +kernel
theorem dX6_most_5 : decode cX6_most 5 = .ok (.ifCond .ne 5, 3) := by decide +kernel
theorem dX6_most_8 : decode cX6_most 8 = .ok (.iconst (-1), 1) := by decide +kernel
theorem dX6_most_9 : decode cX6_most 9 = .ok (.ireturn, 1) := by decide +kernel
theorem dX6_most_10 : decode cX6_most 10 = .ok (.aload_n 0, 1) := by decide +kernel
theorem dX6_most_11 : decode cX6_most 11 = .ok (.getfield 47, 3) := by decide +kernel
theorem dX6_most_14 : decode cX6_most 14 = .ok (.getfield 91, 3) := by decide +kernel
theorem dX6_most_17 : decode cX6_most 17 = .ok (.ifCond .eq 6, 3) := by decide +kernel
theorem dX6_most_20 : decode cX6_most 20 = .ok (.bipush (-3), 2) := by decide +kernel
theorem dX6_most_22 : decode cX6_most 22 = .ok (.ireturn, 1) := by decide +kernel
theorem dX6_most_23 : decode cX6_most 23 = .ok (.aload_n 0, 1) := by decide +kernel
theorem dX6_most_24 : decode cX6_most 24 = .ok (.getfield 59, 3) := by decide +kernel
theorem dX6_most_27 : decode cX6_most 27 = .ok (.aload_n 0, 1) := by decide +kernel
theorem dX6_most_28 : decode cX6_most 28 = .ok (.getfield 47, 3) := by decide +kernel
theorem dX6_most_31 : decode cX6_most 31 = .ok (.aload_n 0, 1) := by decide +kernel
theorem dX6_most_32 : decode cX6_most 32 = .ok (.getfield 19, 3) := by decide +kernel
theorem dX6_most_35 : decode cX6_most 35 = .ok (.getfield 130, 3) := by decide +kernel
theorem dX6_most_38 : decode cX6_most 38 = .ok (.iload_n 1, 1) := by decide +kernel
theorem dX6_most_39 : decode cX6_most 39 = .ok (.iaload, 1) := by decide +kernel
theorem dX6_most_40 : decode cX6_most 40 = .ok (.aload_n 0, 1) := by decide +kernel
theorem dX6_most_41 : decode cX6_most 41 = .ok (.iload_n 1, 1) := by decide +kernel
theorem dX6_most_42 : decode cX6_most 42 = .ok (.invokevirtual 201, 3) := by decide +kernel
theorem dX6_most_45 : decode cX6_most 45 = .ok (.invokevirtual 204, 3) := by decide +kernel
theorem dX6_most_48 : decode cX6_most 48 = .ok (.aload_n 0, 1) := by decide +kernel
theorem dX6_most_49 : decode cX6_most 49 = .ok (.getfield 19, 3) := by decide +kernel
theorem dX6_most_52 : decode cX6_most 52 = .ok (.getfield 94, 3) := by decide +kernel
theorem dX6_most_55 : decode cX6_most 55 = .ok (.istore_n 2, 1) := by decide +kernel
theorem dX6_most_56 : decode cX6_most 56 = .ok (.iload_n 2, 1) := by decide +kernel
theorem dX6_most_57 : decode cX6_most 57 = .ok (.bipush 6, 2) := by decide +kernel
theorem dX6_most_59 : decode cX6_most 59 = .ok (.if_icmp .ge 18, 3) := by decide +kernel
theorem dX6_most_62 : decode cX6_most 62 = .ok (.aload_n 0, 1) := by decide +kernel
theorem dX6_most_63 : decode cX6_most 63 = .ok (.getfield 59, 3) := by decide +kernel
theorem dX6_most_66 : decode cX6_most 66 = .ok (.iload_n 2, 1) := by decide +kernel
theorem dX6_most_67 : decode cX6_most 67 = .ok (.iconst 0, 1) := by decide +kernel
theorem dX6_most_68 : decode cX6_most 68 = .ok (.invokevirtual 208, 3) := by decide +kernel
theorem dX6_most_71 : decode cX6_most 71 = .ok (.iinc 2 1, 3) := by decide +kernel
theorem dX6_most_74 : decode cX6_most 74 = .ok (.goto (-18), 3) := by decide +kernel
theorem dX6_most_77 : decode cX6_most 77 = .ok (.aload_n 0, 1) := by decide +kernel
theorem dX6_most_78 : decode cX6_most 78 = .ok (.getfield 59, 3) := by decide +kernel
theorem dX6_most_81 : decode cX6_most 81 = .ok (.invokevirtual 212, 3) := by decide +kernel
theorem dX6_most_84 : decode cX6_most 84 = .ok (.ireturn, 1) := by decide +kernel
theorem dX6_spent_0 : decode cX6_spent 0 = .ok (.aload_n 0, 1) := by decide +kernel
theorem dX6_spent_1 : decode cX6_spent 1 = .ok (.iload_n 2, 1) := by decide +kernel
theorem dX6_spent_2 : decode cX6_spent 2 = .ok (.invokevirtual 105, 3) := by decide +kernel
theorem dX6_spent_5 : decode cX6_spent 5 = .ok (.ifCond .eq 11, 3) := by decide +kernel
theorem dX6_spent_8 : decode cX6_spent 8 = .ok (.aload_n 0, 1) := by decide +kernel
theorem dX6_spent_9 : decode cX6_spent 9 = .ok (.iload_n 1, 1) := by decide +kernel
theorem dX6_spent_10 : decode cX6_spent 10 = .ok (.invokevirtual 116, 3) := by decide +kernel
theorem dX6_spent_13 : decode cX6_spent 13 = .ok (.ifCond .ne 5, 3) := by decide +kernel
theorem dX6_spent_16 : decode cX6_spent 16 = .ok (.iconst (-1), 1) := by decide +kernel
theorem dX6_spent_17 : decode cX6_spent 17 = .ok (.ireturn, 1) := by decide +kernel
theorem dX6_spent_18 : decode cX6_spent 18 = .ok (.aload_n 0, 1) := by decide +kernel
theorem dX6_spent_19 : decode cX6_spent 19 = .ok (.getfield 47, 3) := by decide +kernel
theorem dX6_spent_22 : decode cX6_spent 22 = .ok (.getfield 91, 3) := by decide +kernel
theorem dX6_spent_25 : decode cX6_spent 25 = .ok (.ifCond .eq 6, 3) := by decide +kernel
theorem dX6_spent_28 : decode cX6_spent 28 = .ok (.bipush (-3), 2) := by decide +kernel
theorem dX6_spent_30 : decode cX6_spent 30 = .ok (.ireturn, 1) := by decide +kernel
theorem dX6_spent_31 : decode cX6_spent 31 = .ok (.aload_n 0, 1) := by decide +kernel
theorem dX6_spent_32 : decode cX6_spent 32 = .ok (.getfield 19, 3) := by decide +kernel
theorem dX6_spent_35 : decode cX6_spent 35 = .ok (.iload_n 2, 1) := by decide +kernel
theorem dX6_spent_36 : decode cX6_spent 36 = .ok (.iload_n 1, 1) := by decide +kernel
theorem dX6_spent_37 : decode cX6_spent 37 = .ok (.invokevirtual 139, 3) := by decide +kernel
theorem dX6_spent_40 : decode cX6_spent 40 = .ok (.ifCond .eq 6, 3) := by decide +kernel
theorem dX6_spent_43 : decode cX6_spent 43 = .ok (.bipush (-9), 2) := by decide +kernel
theorem dX6_spent_45 : decode cX6_spent 45 = .ok (.ireturn, 1) := by decide +kernel
theorem dX6_spent_46 : decode cX6_spent 46 = .ok (.aload_n 0, 1) := by decide +kernel
theorem dX6_spent_47 : decode cX6_spent 47 = .ok (.getfield 59, 3) := by decide +kernel
theorem dX6_spent_50 : decode cX6_spent 50 = .ok (.aload_n 0, 1) := by decide +kernel
theorem dX6_spent_51 : decode cX6_spent 51 = .ok (.getfield 47, 3) := by decide +kernel
theorem dX6_spent_54 : decode cX6_spent 54 = .ok (.aload_n 0, 1) := by decide +kernel
theorem dX6_spent_55 : decode cX6_spent 55 = .ok (.getfield 19, 3) := by decide +kernel
theorem dX6_spent_58 : decode cX6_spent 58 = .ok (.getfield 130, 3) := by decide +kernel
theorem dX6_spent_61 : decode cX6_spent 61 = .ok (.iload_n 1, 1) := by decide +kernel
theorem dX6_spent_62 : decode cX6_spent 62 = .ok (.iaload, 1) := by decide +kernel
theorem dX6_spent_63 : decode cX6_spent 63 = .ok (.aload_n 0, 1) := by decide +kernel
theorem dX6_spent_64 : decode cX6_spent 64 = .ok (.iload_n 1, 1) := by decide +kernel
theorem dX6_spent_65 : decode cX6_spent 65 = .ok (.invokevirtual 201, 3) := by decide +kernel
theorem dX6_spent_68 : decode cX6_spent 68 = .ok (.invokevirtual 204, 3) := by decide +kernel
theorem dX6_spent_71 : decode cX6_spent 71 = .ok (.aload_n 0, 1) := by decide +kernel
theorem dX6_spent_72 : decode cX6_spent 72 = .ok (.getfield 59, 3) := by decide +kernel
theorem dX6_spent_75 : decode cX6_spent 75 = .ok (.invokevirtual 215, 3) := by decide +kernel
theorem dX6_spent_78 : decode cX6_spent 78 = .ok (.ifCond .eq 5, 3) := by decide +kernel
theorem dX6_spent_81 : decode cX6_spent 81 = .ok (.iconst 0, 1) := by decide +kernel
theorem dX6_spent_82 : decode cX6_spent 82 = .ok (.ireturn, 1) := by decide +kernel
theorem dX6_spent_83 : decode cX6_spent 83 = .ok (.aload_n 0, 1) := by decide +kernel
theorem dX6_spent_84 : decode cX6_spent 84 = .ok (.getfield 19, 3) := by decide +kernel
theorem dX6_spent_87 : decode cX6_spent 87 = .ok (.getfield 94, 3) := by decide +kernel
theorem dX6_spent_90 : decode cX6_spent 90 = .ok (.istore_n 3, 1) := by decide +kernel
theorem dX6_spent_91 : decode cX6_spent 91 = .ok (.iload_n 3, 1) := by decide +kernel
theorem dX6_spent_92 : decode cX6_spent 92 = .ok (.bipush 6, 2) := by decide +kernel
theorem dX6_spent_94 : decode cX6_spent 94 = .ok (.if_icmp .ge 42, 3) := by decide +kernel
theorem dX6_spent_97 : decode cX6_spent 97 = .ok (.aload_n 0, 1) := by decide +kernel
theorem dX6_spent_98 : decode cX6_spent 98 = .ok (.getfield 59, 3) := by decide +kernel
theorem dX6_spent_101 : decode cX6_spent 101 = .ok (.iload_n 3, 1) := by decide +kernel
theorem dX6_spent_102 : decode cX6_spent 102 = .ok (.iconst 1, 1) := by decide +kernel
theorem dX6_spent_103 : decode cX6_spent 103 = .ok (.iload_n 2, 1) := by decide +kernel
theorem dX6_spent_104 : decode cX6_spent 104 = .ok (.ishl, 1) := by decide +kernel
theorem dX6_spent_105 : decode cX6_spent 105 = .ok (.invokevirtual 208, 3) := by decide +kernel
theorem dX6_spent_108 : decode cX6_spent 108 = .ok (.aload_n 0, 1) := by decide +kernel
theorem dX6_spent_109 : decode cX6_spent 109 = .ok (.getfield 59, 3) := by decide +kernel
theorem dX6_spent_112 : decode cX6_spent 112 = .ok (.invokevirtual 215, 3) := by decide +kernel
theorem dX6_spent_115 : decode cX6_spent 115 = .ok (.ifCond .eq 15, 3) := by decide +kernel
theorem dX6_spent_118 : decode cX6_spent 118 = .ok (.iload_n 3, 1) := by decide +kernel
theorem dX6_spent_119 : decode cX6_spent 119 = .ok (.iconst 1, 1) := by decide +kernel
theorem dX6_spent_120 : decode cX6_spent 120 = .ok (.iadd, 1) := by decide +kernel
theorem dX6_spent_121 : decode cX6_spent 121 = .ok (.aload_n 0, 1) := by decide +kernel
theorem dX6_spent_122 : decode cX6_spent 122 = .ok (.getfield 19, 3) := by decide +kernel
theorem dX6_spent_125 : decode cX6_spent 125 = .ok (.getfield 94, 3) := by decide +kernel
theorem dX6_spent_128 : decode cX6_spent 128 = .ok (.isub, 1) := by decide +kernel
theorem dX6_spent_129 : decode cX6_spent 129 = .ok (.ireturn, 1) := by decide +kernel
theorem dX6_spent_130 : decode cX6_spent 130 = .ok (.iinc 3 1, 3) := by decide +kernel
theorem dX6_spent_133 : decode cX6_spent 133 = .ok (.goto (-42), 3) := by decide +kernel
theorem dX6_spent_136 : decode cX6_spent 136 = .ok (.bipush (-9), 2) := by decide +kernel
theorem dX6_spent_138 : decode cX6_spent 138 = .ok (.ireturn, 1) := by decide +kernel
theorem dX6_duel_0 : decode cX6_duel 0 = .ok (.aload_n 0, 1) := by decide +kernel
theorem dX6_duel_1 : decode cX6_duel 1 = .ok (.iload_n 2, 1) := by decide +kernel
theorem dX6_duel_2 : decode cX6_duel 2 = .ok (.invokevirtual 105, 3) := by decide +kernel
theorem dX6_duel_5 : decode cX6_duel 5 = .ok (.ifCond .eq 11, 3) := by decide +kernel
theorem dX6_duel_8 : decode cX6_duel 8 = .ok (.aload_n 0, 1) := by decide +kernel
theorem dX6_duel_9 : decode cX6_duel 9 = .ok (.iload_n 1, 1) := by decide +kernel
theorem dX6_duel_10 : decode cX6_duel 10 = .ok (.invokevirtual 116, 3) := by decide +kernel
theorem dX6_duel_13 : decode cX6_duel 13 = .ok (.ifCond .ne 5, 3) := by decide +kernel
theorem dX6_duel_16 : decode cX6_duel 16 = .ok (.iconst (-1), 1) := by decide +kernel
theorem dX6_duel_17 : decode cX6_duel 17 = .ok (.ireturn, 1) := by decide +kernel
theorem dX6_duel_18 : decode cX6_duel 18 = .ok (.aload_n 0, 1) := by decide +kernel
theorem dX6_duel_19 : decode cX6_duel 19 = .ok (.getfield 47, 3) := by decide +kernel
theorem dX6_duel_22 : decode cX6_duel 22 = .ok (.getfield 91, 3) := by decide +kernel
theorem dX6_duel_25 : decode cX6_duel 25 = .ok (.ifCond .eq 6, 3) := by decide +kernel
theorem dX6_duel_28 : decode cX6_duel 28 = .ok (.bipush (-3), 2) := by decide +kernel
theorem dX6_duel_30 : decode cX6_duel 30 = .ok (.ireturn, 1) := by decide +kernel
theorem dX6_duel_31 : decode cX6_duel 31 = .ok (.aload_n 0, 1) := by decide +kernel
theorem dX6_duel_32 : decode cX6_duel 32 = .ok (.getfield 59, 3) := by decide +kernel
theorem dX6_duel_35 : decode cX6_duel 35 = .ok (.aload_n 0, 1) := by decide +kernel
theorem dX6_duel_36 : decode cX6_duel 36 = .ok (.getfield 47, 3) := by decide +kernel
theorem dX6_duel_39 : decode cX6_duel 39 = .ok (.iconst 1, 1) := by decide +kernel
theorem dX6_duel_40 : decode cX6_duel 40 = .ok (.iload_n 2, 1) := by decide +kernel
theorem dX6_duel_41 : decode cX6_duel 41 = .ok (.ishl, 1) := by decide +kernel
theorem dX6_duel_42 : decode cX6_duel 42 = .ok (.invokevirtual 219, 3) := by decide +kernel
theorem dX6_duel_45 : decode cX6_duel 45 = .ok (.aload_n 0, 1) := by decide +kernel
theorem dX6_duel_46 : decode cX6_duel 46 = .ok (.getfield 59, 3) := by decide +kernel
theorem dX6_duel_49 : decode cX6_duel 49 = .ok (.aload_n 0, 1) := by decide +kernel
theorem dX6_duel_50 : decode cX6_duel 50 = .ok (.getfield 19, 3) := by decide +kernel
theorem dX6_duel_53 : decode cX6_duel 53 = .ok (.getfield 94, 3) := by decide +kernel
theorem dX6_duel_56 : decode cX6_duel 56 = .ok (.aload_n 0, 1) := by decide +kernel
theorem dX6_duel_57 : decode cX6_duel 57 = .ok (.getfield 19, 3) := by decide +kernel
theorem dX6_duel_60 : decode cX6_duel 60 = .ok (.getfield 130, 3) := by decide +kernel
theorem dX6_duel_63 : decode cX6_duel 63 = .ok (.iload_n 1, 1) := by decide +kernel
theorem dX6_duel_64 : decode cX6_duel 64 = .ok (.iaload, 1) := by decide +kernel
theorem dX6_duel_65 : decode cX6_duel 65 = .ok (.invokevirtual 223, 3) := by decide +kernel
theorem dX6_duel_68 : decode cX6_duel 68 = .ok (.aload_n 0, 1) := by decide +kernel
theorem dX6_duel_69 : decode cX6_duel 69 = .ok (.iload_n 1, 1) := by decide +kernel
theorem dX6_duel_70 : decode cX6_duel 70 = .ok (.invokevirtual 201, 3) := by decide +kernel
theorem dX6_duel_73 : decode cX6_duel 73 = .ok (.ishr, 1) := by decide +kernel
theorem dX6_duel_74 : decode cX6_duel 74 = .ok (.iconst 1, 1) := by decide +kernel
theorem dX6_duel_75 : decode cX6_duel 75 = .ok (.iand, 1) := by decide +kernel
theorem dX6_duel_76 : decode cX6_duel 76 = .ok (.ireturn, 1) := by decide +kernel
theorem dX6_chance_0 : decode cX6_chance 0 = .ok (.aload_n 0, 1) := by decide +kernel
theorem dX6_chance_1 : decode cX6_chance 1 = .ok (.iload_n 1, 1) := by decide +kernel
theorem dX6_chance_2 : decode cX6_chance 2 = .ok (.invokevirtual 116, 3) := by decide +kernel
theorem dX6_chance_5 : decode cX6_chance 5 = .ok (.ifCond .eq 20, 3) := by decide +kernel
theorem dX6_chance_8 : decode cX6_chance 8 = .ok (.aload_n 0, 1) := by decide +kernel
theorem dX6_chance_9 : decode cX6_chance 9 = .ok (.iload_n 2, 1) := by decide +kernel
theorem dX6_chance_10 : decode cX6_chance 10 = .ok (.invokevirtual 105, 3) := by decide +kernel
theorem dX6_chance_13 : decode cX6_chance 13 = .ok (.ifCond .eq 12, 3) := by decide +kernel
theorem dX6_chance_16 : decode cX6_chance 16 = .ok (.iload_n 3, 1) := by decide +kernel
theorem dX6_chance_17 : decode cX6_chance 17 = .ok (.ifCond .lt 8, 3) := by decide +kernel
theorem dX6_chance_20 : decode cX6_chance 20 = .ok (.iload_n 3, 1) := by decide +kernel
theorem dX6_chance_21 : decode cX6_chance 21 = .ok (.iconst 3, 1) := by decide +kernel
theorem dX6_chance_22 : decode cX6_chance 22 = .ok (.if_icmp .lt 7, 3) := by decide +kernel
theorem dX6_chance_25 : decode cX6_chance 25 = .ok (.ldc2_w 226, 3) := by decide +kernel
theorem dX6_chance_28 : decode cX6_chance 28 = .ok (.lreturn, 1) := by decide +kernel
theorem dX6_chance_29 : decode cX6_chance 29 = .ok (.iload 4, 2) := by decide +kernel
theorem dX6_chance_31 : decode cX6_chance 31 = .ok (.ifCond .lt 10, 3) := by decide +kernel
theorem dX6_chance_34 : decode cX6_chance 34 = .ok (.iload 4, 2) := by decide +kernel
theorem dX6_chance_36 : decode cX6_chance 36 = .ok (.bipush 10, 2) := by decide +kernel
theorem dX6_chance_38 : decode cX6_chance 38 = .ok (.if_icmp .le 7, 3) := by decide +kernel
theorem dX6_chance_41 : decode cX6_chance 41 = .ok (.ldc2_w 228, 3) := by decide +kernel
theorem dX6_chance_44 : decode cX6_chance 44 = .ok (.lreturn, 1) := by decide +kernel
theorem dX6_chance_45 : decode cX6_chance 45 = .ok (.aload_n 0, 1) := by decide +kernel
theorem dX6_chance_46 : decode cX6_chance 46 = .ok (.getfield 19, 3) := by decide +kernel
theorem dX6_chance_49 : decode cX6_chance 49 = .ok (.iload_n 2, 1) := by decide +kernel
theorem dX6_chance_50 : decode cX6_chance 50 = .ok (.iload_n 1, 1) := by decide +kernel
theorem dX6_chance_51 : decode cX6_chance 51 = .ok (.invokevirtual 139, 3) := by decide +kernel
theorem dX6_chance_54 : decode cX6_chance 54 = .ok (.ifCond .eq 5, 3) := by decide +kernel
theorem dX6_chance_57 : decode cX6_chance 57 = .ok (.lconst 1, 1) := by decide +kernel
theorem dX6_chance_58 : decode cX6_chance 58 = .ok (.lreturn, 1) := by decide +kernel
theorem dX6_chance_59 : decode cX6_chance 59 = .ok (.bipush 10, 2) := by decide +kernel
theorem dX6_chance_61 : decode cX6_chance 61 = .ok (.iload 4, 2) := by decide +kernel
theorem dX6_chance_63 : decode cX6_chance 63 = .ok (.isub, 1) := by decide +kernel
theorem dX6_chance_64 : decode cX6_chance 64 = .ok (.aload_n 0, 1) := by decide +kernel
theorem dX6_chance_65 : decode cX6_chance 65 = .ok (.iload_n 1, 1) := by decide +kernel
theorem dX6_chance_66 : decode cX6_chance 66 = .ok (.iload_n 2, 1) := by decide +kernel
theorem dX6_chance_67 : decode cX6_chance 67 = .ok (.iload_n 3, 1) := by decide +kernel
theorem dX6_chance_68 : decode cX6_chance 68 = .ok (.invokevirtual 230, 3) := by decide +kernel
theorem dX6_chance_71 : decode cX6_chance 71 = .ok (.iload 5, 2) := by decide +kernel
theorem dX6_chance_73 : decode cX6_chance 73 = .ok (.invokestatic 233, 3) := by decide +kernel
theorem dX6_chance_76 : decode cX6_chance 76 = .ok (.i2l, 1) := by decide +kernel
theorem dX6_chance_77 : decode cX6_chance 77 = .ok (.lreturn, 1) := by decide +kernel
theorem dX6_sight_0 : decode cX6_sight 0 = .ok (.aload_n 0, 1) := by decide +kernel
theorem dX6_sight_1 : decode cX6_sight 1 = .ok (.iload_n 2, 1) := by decide +kernel
theorem dX6_sight_2 : decode cX6_sight 2 = .ok (.invokevirtual 105, 3) := by decide +kernel
theorem dX6_sight_5 : decode cX6_sight 5 = .ok (.ifCond .ne 5, 3) := by decide +kernel
theorem dX6_sight_8 : decode cX6_sight 8 = .ok (.iconst (-1), 1) := by decide +kernel
theorem dX6_sight_9 : decode cX6_sight 9 = .ok (.ireturn, 1) := by decide +kernel
theorem dX6_sight_10 : decode cX6_sight 10 = .ok (.iload_n 1, 1) := by decide +kernel
theorem dX6_sight_11 : decode cX6_sight 11 = .ok (.invokestatic 109, 3) := by decide +kernel
theorem dX6_sight_14 : decode cX6_sight 14 = .ok (.ifCond .ne 6, 3) := by decide +kernel
theorem dX6_sight_17 : decode cX6_sight 17 = .ok (.bipush (-2), 2) := by decide +kernel
theorem dX6_sight_19 : decode cX6_sight 19 = .ok (.ireturn, 1) := by decide +kernel
theorem dX6_sight_20 : decode cX6_sight 20 = .ok (.aload_n 0, 1) := by decide +kernel
theorem dX6_sight_21 : decode cX6_sight 21 = .ok (.getfield 40, 3) := by decide +kernel
theorem dX6_sight_24 : decode cX6_sight 24 = .ok (.getfield 104, 3) := by decide +kernel
theorem dX6_sight_27 : decode cX6_sight 27 = .ok (.bipush 8, 2) := by decide +kernel
theorem dX6_sight_29 : decode cX6_sight 29 = .ok (.if_icmp .lt 6, 3) := by decide +kernel
theorem dX6_sight_32 : decode cX6_sight 32 = .ok (.bipush (-4), 2) := by decide +kernel
theorem dX6_sight_34 : decode cX6_sight 34 = .ok (.ireturn, 1) := by decide +kernel
theorem dX6_sight_35 : decode cX6_sight 35 = .ok (.aload_n 0, 1) := by decide +kernel
theorem dX6_sight_36 : decode cX6_sight 36 = .ok (.getfield 40, 3) := by decide +kernel
theorem dX6_sight_39 : decode cX6_sight 39 = .ok (.iload_n 1, 1) := by decide +kernel
theorem dX6_sight_40 : decode cX6_sight 40 = .ok (.iload_n 2, 1) := by decide +kernel
theorem dX6_sight_41 : decode cX6_sight 41 = .ok (.iload_n 3, 1) := by decide +kernel
theorem dX6_sight_42 : decode cX6_sight 42 = .ok (.invokevirtual 237, 3) := by decide +kernel
theorem dX6_sight_45 : decode cX6_sight 45 = .ok (.aload_n 0, 1) := by decide +kernel
theorem dX6_sight_46 : decode cX6_sight 46 = .ok (.getfield 40, 3) := by decide +kernel
theorem dX6_sight_49 : decode cX6_sight 49 = .ok (.getfield 104, 3) := by decide +kernel
theorem dX6_sight_52 : decode cX6_sight 52 = .ok (.ireturn, 1) := by decide +kernel
theorem dX6_unsee_0 : decode cX6_unsee 0 = .ok (.aload_n 0, 1) := by decide +kernel
theorem dX6_unsee_1 : decode cX6_unsee 1 = .ok (.getfield 40, 3) := by decide +kernel
theorem dX6_unsee_4 : decode cX6_unsee 4 = .ok (.getfield 104, 3) := by decide +kernel
theorem dX6_unsee_7 : decode cX6_unsee 7 = .ok (.istore_n 1, 1) := by decide +kernel
theorem dX6_unsee_8 : decode cX6_unsee 8 = .ok (.aload_n 0, 1) := by decide +kernel
theorem dX6_unsee_9 : decode cX6_unsee 9 = .ok (.getfield 40, 3) := by decide +kernel
theorem dX6_unsee_12 : decode cX6_unsee 12 = .ok (.invokevirtual 241, 3) := by decide +kernel
theorem dX6_unsee_15 : decode cX6_unsee 15 = .ok (.iload_n 1, 1) := by decide +kernel
theorem dX6_unsee_16 : decode cX6_unsee 16 = .ok (.ireturn, 1) := by decide +kernel
theorem dX6_rows_0 : decode cX6_rows 0 = .ok (.aload_n 0, 1) := by decide +kernel
theorem dX6_rows_1 : decode cX6_rows 1 = .ok (.iload_n 1, 1) := by decide +kernel
theorem dX6_rows_2 : decode cX6_rows 2 = .ok (.invokevirtual 116, 3) := by decide +kernel
theorem dX6_rows_5 : decode cX6_rows 5 = .ok (.ifCond .ne 5, 3) := by decide +kernel
theorem dX6_rows_8 : decode cX6_rows 8 = .ok (.iconst (-1), 1) := by decide +kernel
theorem dX6_rows_9 : decode cX6_rows 9 = .ok (.ireturn, 1) := by decide +kernel
theorem dX6_rows_10 : decode cX6_rows 10 = .ok (.aload_n 0, 1) := by decide +kernel
theorem dX6_rows_11 : decode cX6_rows 11 = .ok (.getfield 59, 3) := by decide +kernel
theorem dX6_rows_14 : decode cX6_rows 14 = .ok (.aload_n 0, 1) := by decide +kernel
theorem dX6_rows_15 : decode cX6_rows 15 = .ok (.getfield 47, 3) := by decide +kernel
theorem dX6_rows_18 : decode cX6_rows 18 = .ok (.aload_n 0, 1) := by decide +kernel
theorem dX6_rows_19 : decode cX6_rows 19 = .ok (.getfield 47, 3) := by decide +kernel
theorem dX6_rows_22 : decode cX6_rows 22 = .ok (.getfield 133, 3) := by decide +kernel
theorem dX6_rows_25 : decode cX6_rows 25 = .ok (.iload_n 1, 1) := by decide +kernel
theorem dX6_rows_26 : decode cX6_rows 26 = .ok (.iaload, 1) := by decide +kernel
theorem dX6_rows_27 : decode cX6_rows 27 = .ok (.aload_n 0, 1) := by decide +kernel
theorem dX6_rows_28 : decode cX6_rows 28 = .ok (.getfield 47, 3) := by decide +kernel
theorem dX6_rows_31 : decode cX6_rows 31 = .ok (.getfield 119, 3) := by decide +kernel
theorem dX6_rows_34 : decode cX6_rows 34 = .ok (.iload_n 1, 1) := by decide +kernel
theorem dX6_rows_35 : decode cX6_rows 35 = .ok (.iaload, 1) := by decide +kernel
theorem dX6_rows_36 : decode cX6_rows 36 = .ok (.invokevirtual 244, 3) := by decide +kernel
theorem dX6_rows_39 : decode cX6_rows 39 = .ok (.iconst 0, 1) := by decide +kernel
theorem dX6_rows_40 : decode cX6_rows 40 = .ok (.istore_n 2, 1) := by decide +kernel
theorem dX6_rows_41 : decode cX6_rows 41 = .ok (.iload_n 2, 1) := by decide +kernel
theorem dX6_rows_42 : decode cX6_rows 42 = .ok (.bipush 6, 2) := by decide +kernel
theorem dX6_rows_44 : decode cX6_rows 44 = .ok (.if_icmp .ge 29, 3) := by decide +kernel
theorem dX6_rows_47 : decode cX6_rows 47 = .ok (.aload_n 0, 1) := by decide +kernel
theorem dX6_rows_48 : decode cX6_rows 48 = .ok (.getfield 59, 3) := by decide +kernel
theorem dX6_rows_51 : decode cX6_rows 51 = .ok (.iload_n 2, 1) := by decide +kernel
theorem dX6_rows_52 : decode cX6_rows 52 = .ok (.invokevirtual 247, 3) := by decide +kernel
theorem dX6_rows_55 : decode cX6_rows 55 = .ok (.aload_n 0, 1) := by decide +kernel
theorem dX6_rows_56 : decode cX6_rows 56 = .ok (.getfield 59, 3) := by decide +kernel
theorem dX6_rows_59 : decode cX6_rows 59 = .ok (.iload_n 2, 1) := by decide +kernel
theorem dX6_rows_60 : decode cX6_rows 60 = .ok (.aload_n 0, 1) := by decide +kernel
theorem dX6_rows_61 : decode cX6_rows 61 = .ok (.getfield 40, 3) := by decide +kernel
theorem dX6_rows_64 : decode cX6_rows 64 = .ok (.invokevirtual 250, 3) := by decide +kernel
theorem dX6_rows_67 : decode cX6_rows 67 = .ok (.iinc 2 1, 3) := by decide +kernel
theorem dX6_rows_70 : decode cX6_rows 70 = .ok (.goto (-29), 3) := by decide +kernel
theorem dX6_rows_73 : decode cX6_rows 73 = .ok (.aload_n 0, 1) := by decide +kernel
theorem dX6_rows_74 : decode cX6_rows 74 = .ok (.getfield 59, 3) := by decide +kernel
theorem dX6_rows_77 : decode cX6_rows 77 = .ok (.invokevirtual 254, 3) := by decide +kernel
theorem dX6_rows_80 : decode cX6_rows 80 = .ok (.ireturn, 1) := by decide +kernel
theorem dX6_keep_0 : decode cX6_keep 0 = .ok (.iload_n 1, 1) := by decide +kernel
theorem dX6_keep_1 : decode cX6_keep 1 = .ok (.ifCond .lt 8, 3) := by decide +kernel
theorem dX6_keep_4 : decode cX6_keep 4 = .ok (.iload_n 1, 1) := by decide +kernel
theorem dX6_keep_5 : decode cX6_keep 5 = .ok (.iconst 2, 1) := by decide +kernel
theorem dX6_keep_6 : decode cX6_keep 6 = .ok (.if_icmp .lt 5, 3) := by decide +kernel
theorem dX6_keep_9 : decode cX6_keep 9 = .ok (.iconst (-1), 1) := by decide +kernel
theorem dX6_keep_10 : decode cX6_keep 10 = .ok (.ireturn, 1) := by decide +kernel
theorem dX6_keep_11 : decode cX6_keep 11 = .ok (.aload_n 0, 1) := by decide +kernel
theorem dX6_keep_12 : decode cX6_keep 12 = .ok (.getfield 26, 3) := by decide +kernel
theorem dX6_keep_15 : decode cX6_keep 15 = .ok (.iload_n 1, 1) := by decide +kernel
theorem dX6_keep_16 : decode cX6_keep 16 = .ok (.aaload, 1) := by decide +kernel
theorem dX6_keep_17 : decode cX6_keep 17 = .ok (.aload_n 0, 1) := by decide +kernel
theorem dX6_keep_18 : decode cX6_keep 18 = .ok (.getfield 19, 3) := by decide +kernel
theorem dX6_keep_21 : decode cX6_keep 21 = .ok (.invokevirtual 182, 3) := by decide +kernel
theorem dX6_keep_24 : decode cX6_keep 24 = .ok (.aload_n 0, 1) := by decide +kernel
theorem dX6_keep_25 : decode cX6_keep 25 = .ok (.getfield 26, 3) := by decide +kernel
theorem dX6_keep_28 : decode cX6_keep 28 = .ok (.iload_n 1, 1) := by decide +kernel
theorem dX6_keep_29 : decode cX6_keep 29 = .ok (.aaload, 1) := by decide +kernel
theorem dX6_keep_30 : decode cX6_keep 30 = .ok (.iconst 1, 1) := by decide +kernel
theorem dX6_keep_31 : decode cX6_keep 31 = .ok (.putfield 81, 3) := by decide +kernel
theorem dX6_keep_34 : decode cX6_keep 34 = .ok (.aload_n 0, 1) := by decide +kernel
theorem dX6_keep_35 : decode cX6_keep 35 = .ok (.getfield 19, 3) := by decide +kernel
theorem dX6_keep_38 : decode cX6_keep 38 = .ok (.getfield 94, 3) := by decide +kernel
theorem dX6_keep_41 : decode cX6_keep 41 = .ok (.ireturn, 1) := by decide +kernel
theorem dX6_again_0 : decode cX6_again 0 = .ok (.iload_n 1, 1) := by decide +kernel
theorem dX6_again_1 : decode cX6_again 1 = .ok (.ifCond .lt 8, 3) := by decide +kernel
theorem dX6_again_4 : decode cX6_again 4 = .ok (.iload_n 1, 1) := by decide +kernel
theorem dX6_again_5 : decode cX6_again 5 = .ok (.iconst 2, 1) := by decide +kernel
theorem dX6_again_6 : decode cX6_again 6 = .ok (.if_icmp .lt 5, 3) := by decide +kernel
theorem dX6_again_9 : decode cX6_again 9 = .ok (.iconst (-1), 1) := by decide +kernel
theorem dX6_again_10 : decode cX6_again 10 = .ok (.ireturn, 1) := by decide +kernel
theorem dX6_again_11 : decode cX6_again 11 = .ok (.aload_n 0, 1) := by decide +kernel
theorem dX6_again_12 : decode cX6_again 12 = .ok (.getfield 26, 3) := by decide +kernel
theorem dX6_again_15 : decode cX6_again 15 = .ok (.iload_n 1, 1) := by decide +kernel
theorem dX6_again_16 : decode cX6_again 16 = .ok (.aaload, 1) := by decide +kernel
theorem dX6_again_17 : decode cX6_again 17 = .ok (.getfield 81, 3) := by decide +kernel
theorem dX6_again_20 : decode cX6_again 20 = .ok (.ifCond .ne 6, 3) := by decide +kernel
theorem dX6_again_23 : decode cX6_again 23 = .ok (.bipush (-3), 2) := by decide +kernel
theorem dX6_again_25 : decode cX6_again 25 = .ok (.ireturn, 1) := by decide +kernel
theorem dX6_again_26 : decode cX6_again 26 = .ok (.aload_n 0, 1) := by decide +kernel
theorem dX6_again_27 : decode cX6_again 27 = .ok (.getfield 19, 3) := by decide +kernel
theorem dX6_again_30 : decode cX6_again 30 = .ok (.aload_n 0, 1) := by decide +kernel
theorem dX6_again_31 : decode cX6_again 31 = .ok (.getfield 26, 3) := by decide +kernel
theorem dX6_again_34 : decode cX6_again 34 = .ok (.iload_n 1, 1) := by decide +kernel
theorem dX6_again_35 : decode cX6_again 35 = .ok (.aaload, 1) := by decide +kernel
theorem dX6_again_36 : decode cX6_again 36 = .ok (.invokevirtual 182, 3) := by decide +kernel
theorem dX6_again_39 : decode cX6_again 39 = .ok (.aload_n 0, 1) := by decide +kernel
theorem dX6_again_40 : decode cX6_again 40 = .ok (.getfield 33, 3) := by decide +kernel
theorem dX6_again_43 : decode cX6_again 43 = .ok (.iconst 0, 1) := by decide +kernel
theorem dX6_again_44 : decode cX6_again 44 = .ok (.putfield 78, 3) := by decide +kernel
theorem dX6_again_47 : decode cX6_again 47 = .ok (.aload_n 0, 1) := by decide +kernel
theorem dX6_again_48 : decode cX6_again 48 = .ok (.getfield 19, 3) := by decide +kernel
theorem dX6_again_51 : decode cX6_again 51 = .ok (.getfield 94, 3) := by decide +kernel
theorem dX6_again_54 : decode cX6_again 54 = .ok (.ireturn, 1) := by decide +kernel
theorem dX6_isPerson_0 : decode cX6_isPerson 0 = .ok (.iload_n 1, 1) := by decide +kernel
theorem dX6_isPerson_1 : decode cX6_isPerson 1 = .ok (.ifCond .lt 18, 3) := by decide +kernel
theorem dX6_isPerson_4 : decode cX6_isPerson 4 = .ok (.iload_n 1, 1) := by decide +kernel
theorem dX6_isPerson_5 : decode cX6_isPerson 5 = .ok (.aload_n 0, 1) := by decide +kernel
theorem dX6_isPerson_6 : decode cX6_isPerson 6 = .ok (.getfield 47, 3) := by decide +kernel
theorem dX6_isPerson_9 : decode cX6_isPerson 9 = .ok (.getfield 85, 3) := by decide +kernel
theorem dX6_isPerson_12 : decode cX6_isPerson 12 = .ok (.if_icmp .ge 7, 3) := by decide +kernel
theorem dX6_isPerson_15 : decode cX6_isPerson 15 = .ok (.iconst 1, 1) := by decide +kernel
theorem dX6_isPerson_16 : decode cX6_isPerson 16 = .ok (.goto 4, 3) := by decide +kernel
theorem dX6_isPerson_19 : decode cX6_isPerson 19 = .ok (.iconst 0, 1) := by decide +kernel
theorem dX6_isPerson_20 : decode cX6_isPerson 20 = .ok (.ireturn, 1) := by decide +kernel
theorem dX6_isNews_0 : decode cX6_isNews 0 = .ok (.iload_n 1, 1) := by decide +kernel
theorem dX6_isNews_1 : decode cX6_isNews 1 = .ok (.ifCond .lt 18, 3) := by decide +kernel
theorem dX6_isNews_4 : decode cX6_isNews 4 = .ok (.iload_n 1, 1) := by decide +kernel
theorem dX6_isNews_5 : decode cX6_isNews 5 = .ok (.aload_n 0, 1) := by decide +kernel
theorem dX6_isNews_6 : decode cX6_isNews 6 = .ok (.getfield 47, 3) := by decide +kernel
theorem dX6_isNews_9 : decode cX6_isNews 9 = .ok (.getfield 88, 3) := by decide +kernel
theorem dX6_isNews_12 : decode cX6_isNews 12 = .ok (.if_icmp .ge 7, 3) := by decide +kernel
theorem dX6_isNews_15 : decode cX6_isNews 15 = .ok (.iconst 1, 1) := by decide +kernel
theorem dX6_isNews_16 : decode cX6_isNews 16 = .ok (.goto 4, 3) := by decide +kernel
theorem dX6_isNews_19 : decode cX6_isNews 19 = .ok (.iconst 0, 1) := by decide +kernel
theorem dX6_isNews_20 : decode cX6_isNews 20 = .ok (.ireturn, 1) := by decide +kernel
theorem dX6_isHour_0 : decode cX6_isHour 0 = .ok (.iload_n 0, 1) := by decide +kernel
theorem dX6_isHour_1 : decode cX6_isHour 1 = .ok (.ifCond .lt 13, 3) := by decide +kernel
theorem dX6_isHour_4 : decode cX6_isHour 4 = .ok (.iload_n 0, 1) := by decide +kernel
theorem dX6_isHour_5 : decode cX6_isHour 5 = .ok (.bipush 6, 2) := by decide +kernel
theorem dX6_isHour_7 : decode cX6_isHour 7 = .ok (.if_icmp .ge 7, 3) := by decide +kernel
theorem dX6_isHour_10 : decode cX6_isHour 10 = .ok (.iconst 1, 1) := by decide +kernel
theorem dX6_isHour_11 : decode cX6_isHour 11 = .ok (.goto 4, 3) := by decide +kernel
theorem dX6_isHour_14 : decode cX6_isHour 14 = .ok (.iconst 0, 1) := by decide +kernel
theorem dX6_isHour_15 : decode cX6_isHour 15 = .ok (.ireturn, 1) := by decide +kernel
theorem dX6_leftOf_0 : decode cX6_leftOf 0 = .ok (.aload_n 0, 1) := by decide +kernel
theorem dX6_leftOf_1 : decode cX6_leftOf 1 = .ok (.getfield 47, 3) := by decide +kernel
theorem dX6_leftOf_4 : decode cX6_leftOf 4 = .ok (.getfield 119, 3) := by decide +kernel
theorem dX6_leftOf_7 : decode cX6_leftOf 7 = .ok (.iload_n 1, 1) := by decide +kernel
theorem dX6_leftOf_8 : decode cX6_leftOf 8 = .ok (.iaload, 1) := by decide +kernel
theorem dX6_leftOf_9 : decode cX6_leftOf 9 = .ok (.aload_n 0, 1) := by decide +kernel
theorem dX6_leftOf_10 : decode cX6_leftOf 10 = .ok (.getfield 19, 3) := by decide +kernel
theorem dX6_leftOf_13 : decode cX6_leftOf 13 = .ok (.iload_n 1, 1) := by decide +kernel
theorem dX6_leftOf_14 : decode cX6_leftOf 14 = .ok (.invokevirtual 126, 3) := by decide +kernel
theorem dX6_leftOf_17 : decode cX6_leftOf 17 = .ok (.isub, 1) := by decide +kernel
theorem dX6_leftOf_18 : decode cX6_leftOf 18 = .ok (.ireturn, 1) := by decide +kernel
theorem dX6_tellingsOfAll_0 : decode cX6_tellingsOfAll 0 = .ok (.iconst 0, 1) := by decide +kernel
theorem dX6_tellingsOfAll_1 : decode cX6_tellingsOfAll 1 = .ok (.istore_n 1, 1) := by decide +kernel
theorem dX6_tellingsOfAll_2 : decode cX6_tellingsOfAll 2 = .ok (.iconst 0, 1) := by decide +kernel
theorem dX6_tellingsOfAll_3 : decode cX6_tellingsOfAll 3 = .ok (.istore_n 2, 1) := by decide +kernel
theorem dX6_tellingsOfAll_4 : decode cX6_tellingsOfAll 4 = .ok (.iload_n 2, 1) := by decide +kernel
theorem dX6_tellingsOfAll_5 : decode cX6_tellingsOfAll 5 = .ok (.aload_n 0, 1) := by decide +kernel
theorem dX6_tellingsOfAll_6 : decode cX6_tellingsOfAll 6 = .ok (.getfield 47, 3) := by decide +kernel
theorem dX6_tellingsOfAll_9 : decode cX6_tellingsOfAll 9 = .ok (.getfield 88, 3) := by decide +kernel
theorem dX6_tellingsOfAll_12 : decode cX6_tellingsOfAll 12 = .ok (.if_icmp .ge 20, 3) := by decide +kernel
theorem dX6_tellingsOfAll_15 : decode cX6_tellingsOfAll 15 = .ok (.iload_n 1, 1) := by decide +kernel
theorem dX6_tellingsOfAll_16 : decode cX6_tellingsOfAll 16 = .ok (.aload_n 0, 1) := by decide +kernel
theorem dX6_tellingsOfAll_17 : decode cX6_tellingsOfAll 17 = .ok (.getfield 19, 3) := by decide +kernel
theorem dX6_tellingsOfAll_20 : decode cX6_tellingsOfAll 20 = .ok (.iload_n 2, 1) := by decide +kernel
theorem dX6_tellingsOfAll_21 : decode cX6_tellingsOfAll 21 = .ok (.invokevirtual 126, 3) := by decide +kernel
theorem dX6_tellingsOfAll_24 : decode cX6_tellingsOfAll 24 = .ok (.iadd, 1) := by decide +kernel
theorem dX6_tellingsOfAll_25 : decode cX6_tellingsOfAll 25 = .ok (.istore_n 1, 1) := by decide +kernel
theorem dX6_tellingsOfAll_26 : decode cX6_tellingsOfAll 26 = .ok (.iinc 2 1, 3) := by decide +kernel
theorem dX6_tellingsOfAll_29 : decode cX6_tellingsOfAll 29 = .ok (.goto (-25), 3) := by decide +kernel
theorem dX6_tellingsOfAll_32 : decode cX6_tellingsOfAll 32 = .ok (.iload_n 1, 1) := by decide +kernel
theorem dX6_tellingsOfAll_33 : decode cX6_tellingsOfAll 33 = .ok (.ireturn, 1) := by decide +kernel
theorem dX6_worthOfAll_0 : decode cX6_worthOfAll 0 = .ok (.iconst 0, 1) := by decide +kernel
theorem dX6_worthOfAll_1 : decode cX6_worthOfAll 1 = .ok (.istore_n 1, 1) := by decide +kernel
theorem dX6_worthOfAll_2 : decode cX6_worthOfAll 2 = .ok (.iconst 0, 1) := by decide +kernel
theorem dX6_worthOfAll_3 : decode cX6_worthOfAll 3 = .ok (.istore_n 2, 1) := by decide +kernel
theorem dX6_worthOfAll_4 : decode cX6_worthOfAll 4 = .ok (.iload_n 2, 1) := by decide +kernel
theorem dX6_worthOfAll_5 : decode cX6_worthOfAll 5 = .ok (.aload_n 0, 1) := by decide +kernel
theorem dX6_worthOfAll_6 : decode cX6_worthOfAll 6 = .ok (.getfield 47, 3) := by decide +kernel
theorem dX6_worthOfAll_9 : decode cX6_worthOfAll 9 = .ok (.getfield 88, 3) := by decide +kernel
theorem dX6_worthOfAll_12 : decode cX6_worthOfAll 12 = .ok (.if_icmp .ge 34, 3) := by decide +kernel
theorem dX6_worthOfAll_15 : decode cX6_worthOfAll 15 = .ok (.iload_n 1, 1) := by decide +kernel
theorem dX6_worthOfAll_16 : decode cX6_worthOfAll 16 = .ok (.aload_n 0, 1) := by decide +kernel
theorem dX6_worthOfAll_17 : decode cX6_worthOfAll 17 = .ok (.getfield 47, 3) := by decide +kernel
theorem dX6_worthOfAll_20 : decode cX6_worthOfAll 20 = .ok (.getfield 123, 3) := by decide +kernel
theorem dX6_worthOfAll_23 : decode cX6_worthOfAll 23 = .ok (.iload_n 2, 1) := by decide +kernel
theorem dX6_worthOfAll_24 : decode cX6_worthOfAll 24 = .ok (.iaload, 1) := by decide +kernel
theorem dX6_worthOfAll_25 : decode cX6_worthOfAll 25 = .ok (.aload_n 0, 1) := by decide +kernel
theorem dX6_worthOfAll_26 : decode cX6_worthOfAll 26 = .ok (.getfield 19, 3) := by decide +kernel
theorem dX6_worthOfAll_29 : decode cX6_worthOfAll 29 = .ok (.getfield 130, 3) := by decide +kernel
theorem dX6_worthOfAll_32 : decode cX6_worthOfAll 32 = .ok (.iload_n 2, 1) := by decide +kernel
theorem dX6_worthOfAll_33 : decode cX6_worthOfAll 33 = .ok (.iaload, 1) := by decide +kernel
theorem dX6_worthOfAll_34 : decode cX6_worthOfAll 34 = .ok (.invokestatic 257, 3) := by decide +kernel
theorem dX6_worthOfAll_37 : decode cX6_worthOfAll 37 = .ok (.imul, 1) := by decide +kernel
theorem dX6_worthOfAll_38 : decode cX6_worthOfAll 38 = .ok (.iadd, 1) := by decide +kernel
theorem dX6_worthOfAll_39 : decode cX6_worthOfAll 39 = .ok (.istore_n 1, 1) := by decide +kernel
theorem dX6_worthOfAll_40 : decode cX6_worthOfAll 40 = .ok (.iinc 2 1, 3) := by decide +kernel
theorem dX6_worthOfAll_43 : decode cX6_worthOfAll 43 = .ok (.goto (-39), 3) := by decide +kernel
theorem dX6_worthOfAll_46 : decode cX6_worthOfAll 46 = .ok (.iload_n 1, 1) := by decide +kernel
theorem dX6_worthOfAll_47 : decode cX6_worthOfAll 47 = .ok (.ireturn, 1) := by decide +kernel
theorem dX6_triedFigure_0 : decode cX6_triedFigure 0 = .ok (.iload_n 2, 1) := by decide +kernel
theorem dX6_triedFigure_1 : decode cX6_triedFigure 1 = .ok (.bipush 9, 2) := by decide +kernel
theorem dX6_triedFigure_3 : decode cX6_triedFigure 3 = .ok (.if_icmp .ne 31, 3) := by decide +kernel
theorem dX6_triedFigure_6 : decode cX6_triedFigure 6 = .ok (.aload_n 0, 1) := by decide +kernel
theorem dX6_triedFigure_7 : decode cX6_triedFigure 7 = .ok (.getfield 23, 3) := by decide +kernel
theorem dX6_triedFigure_10 : decode cX6_triedFigure 10 = .ok (.getfield 94, 3) := by decide +kernel
theorem dX6_triedFigure_13 : decode cX6_triedFigure 13 = .ok (.iconst 5, 1) := by decide +kernel
theorem dX6_triedFigure_14 : decode cX6_triedFigure 14 = .ok (.if_icmp .lt 5, 3) := by decide +kernel
theorem dX6_triedFigure_17 : decode cX6_triedFigure 17 = .ok (.iconst 0, 1) := by decide +kernel
theorem dX6_triedFigure_18 : decode cX6_triedFigure 18 = .ok (.ireturn, 1) := by decide +kernel
theorem dX6_triedFigure_19 : decode cX6_triedFigure 19 = .ok (.aload_n 0, 1) := by decide +kernel
theorem dX6_triedFigure_20 : decode cX6_triedFigure 20 = .ok (.getfield 23, 3) := by decide +kernel
theorem dX6_triedFigure_23 : decode cX6_triedFigure 23 = .ok (.dup, 1) := by decide +kernel
theorem dX6_triedFigure_24 : decode cX6_triedFigure 24 = .ok (.getfield 94, 3) := by decide +kernel
theorem dX6_triedFigure_27 : decode cX6_triedFigure 27 = .ok (.iconst 1, 1) := by decide +kernel
theorem dX6_triedFigure_28 : decode cX6_triedFigure 28 = .ok (.iadd, 1) := by decide +kernel
theorem dX6_triedFigure_29 : decode cX6_triedFigure 29 = .ok (.putfield 94, 3) := by decide +kernel
theorem dX6_triedFigure_32 : decode cX6_triedFigure 32 = .ok (.iconst 1, 1) := by decide +kernel
theorem dX6_triedFigure_33 : decode cX6_triedFigure 33 = .ok (.ireturn, 1) := by decide +kernel
theorem dX6_triedFigure_34 : decode cX6_triedFigure 34 = .ok (.aload_n 0, 1) := by decide +kernel
theorem dX6_triedFigure_35 : decode cX6_triedFigure 35 = .ok (.iload_n 2, 1) := by decide +kernel
theorem dX6_triedFigure_36 : decode cX6_triedFigure 36 = .ok (.invokevirtual 105, 3) := by decide +kernel
theorem dX6_triedFigure_39 : decode cX6_triedFigure 39 = .ok (.ifCond .eq 19, 3) := by decide +kernel
theorem dX6_triedFigure_42 : decode cX6_triedFigure 42 = .ok (.aload_n 0, 1) := by decide +kernel
theorem dX6_triedFigure_43 : decode cX6_triedFigure 43 = .ok (.getfield 23, 3) := by decide +kernel
theorem dX6_triedFigure_46 : decode cX6_triedFigure 46 = .ok (.aload_n 0, 1) := by decide +kernel
theorem dX6_triedFigure_47 : decode cX6_triedFigure 47 = .ok (.getfield 47, 3) := by decide +kernel
theorem dX6_triedFigure_50 : decode cX6_triedFigure 50 = .ok (.iload_n 2, 1) := by decide +kernel
theorem dX6_triedFigure_51 : decode cX6_triedFigure 51 = .ok (.iload_n 1, 1) := by decide +kernel
theorem dX6_triedFigure_52 : decode cX6_triedFigure 52 = .ok (.invokevirtual 146, 3) := by decide +kernel
theorem dX6_triedFigure_55 : decode cX6_triedFigure 55 = .ok (.ifCond .ne 5, 3) := by decide +kernel
theorem dX6_triedFigure_58 : decode cX6_triedFigure 58 = .ok (.iconst 0, 1) := by decide +kernel
theorem dX6_triedFigure_59 : decode cX6_triedFigure 59 = .ok (.ireturn, 1) := by decide +kernel
theorem dX6_triedFigure_60 : decode cX6_triedFigure 60 = .ok (.aload_n 0, 1) := by decide +kernel
theorem dX6_triedFigure_61 : decode cX6_triedFigure 61 = .ok (.getfield 23, 3) := by decide +kernel
theorem dX6_triedFigure_64 : decode cX6_triedFigure 64 = .ok (.aload_n 0, 1) := by decide +kernel
theorem dX6_triedFigure_65 : decode cX6_triedFigure 65 = .ok (.getfield 47, 3) := by decide +kernel
theorem dX6_triedFigure_68 : decode cX6_triedFigure 68 = .ok (.iload_n 2, 1) := by decide +kernel
theorem dX6_triedFigure_69 : decode cX6_triedFigure 69 = .ok (.iload_n 1, 1) := by decide +kernel
theorem dX6_triedFigure_70 : decode cX6_triedFigure 70 = .ok (.invokevirtual 158, 3) := by decide +kernel
theorem dX6_triedFigure_73 : decode cX6_triedFigure 73 = .ok (.pop, 1) := by decide +kernel
theorem dX6_triedFigure_74 : decode cX6_triedFigure 74 = .ok (.iconst 1, 1) := by decide +kernel
theorem dX6_triedFigure_75 : decode cX6_triedFigure 75 = .ok (.ireturn, 1) := by decide +kernel
theorem dX6_refusalOfPlan_0 : decode cX6_refusalOfPlan 0 = .ok (.aload_n 0, 1) := by decide +kernel
theorem dX6_refusalOfPlan_1 : decode cX6_refusalOfPlan 1 = .ok (.iload_n 1, 1) := by decide +kernel
theorem dX6_refusalOfPlan_2 : decode cX6_refusalOfPlan 2 = .ok (.invokevirtual 116, 3) := by decide +kernel
theorem dX6_refusalOfPlan_5 : decode cX6_refusalOfPlan 5 = .ok (.ifCond .ne 5, 3) := by decide +kernel
theorem dX6_refusalOfPlan_8 : decode cX6_refusalOfPlan 8 = .ok (.iconst (-1), 1) := by decide +kernel
theorem dX6_refusalOfPlan_9 : decode cX6_refusalOfPlan 9 = .ok (.ireturn, 1) := by decide +kernel
theorem dX6_refusalOfPlan_10 : decode cX6_refusalOfPlan 10 = .ok (.iload_n 2, 1) := by decide +kernel
theorem dX6_refusalOfPlan_11 : decode cX6_refusalOfPlan 11 = .ok (.ifCond .lt 16, 3) := by decide +kernel
theorem dX6_refusalOfPlan_14 : decode cX6_refusalOfPlan 14 = .ok (.iload_n 2, 1) := by decide +kernel
theorem dX6_refusalOfPlan_15 : decode cX6_refusalOfPlan 15 = .ok (.iconst 1, 1) := by decide +kernel
theorem dX6_refusalOfPlan_16 : decode cX6_refusalOfPlan 16 = .ok (.aload_n 0, 1) := by decide +kernel
theorem dX6_refusalOfPlan_17 : decode cX6_refusalOfPlan 17 = .ok (.getfield 47, 3) := by decide +kernel
theorem dX6_refusalOfPlan_20 : decode cX6_refusalOfPlan 20 = .ok (.getfield 85, 3) := by decide +kernel
theorem dX6_refusalOfPlan_23 : decode cX6_refusalOfPlan 23 = .ok (.ishl, 1) := by decide +kernel
theorem dX6_refusalOfPlan_24 : decode cX6_refusalOfPlan 24 = .ok (.if_icmp .lt 6, 3) := by decide +kernel
theorem dX6_refusalOfPlan_27 : decode cX6_refusalOfPlan 27 = .ok (.bipush (-2), 2) := by decide +kernel
theorem dX6_refusalOfPlan_29 : decode cX6_refusalOfPlan 29 = .ok (.ireturn, 1) := by decide +kernel
theorem dX6_refusalOfPlan_30 : decode cX6_refusalOfPlan 30 = .ok (.aload_n 0, 1) := by decide +kernel
theorem dX6_refusalOfPlan_31 : decode cX6_refusalOfPlan 31 = .ok (.getfield 47, 3) := by decide +kernel
theorem dX6_refusalOfPlan_34 : decode cX6_refusalOfPlan 34 = .ok (.getfield 91, 3) := by decide +kernel
theorem dX6_refusalOfPlan_37 : decode cX6_refusalOfPlan 37 = .ok (.ifCond .eq 8, 3) := by decide +kernel
theorem dX6_refusalOfPlan_40 : decode cX6_refusalOfPlan 40 = .ok (.bipush (-3), 2) := by decide +kernel
theorem dX6_refusalOfPlan_42 : decode cX6_refusalOfPlan 42 = .ok (.goto 4, 3) := by decide +kernel
theorem dX6_refusalOfPlan_45 : decode cX6_refusalOfPlan 45 = .ok (.iconst 0, 1) := by decide +kernel
theorem dX6_refusalOfPlan_46 : decode cX6_refusalOfPlan 46 = .ok (.ireturn, 1) := by decide +kernel
theorem dX6_leastTellings_0 : decode cX6_leastTellings 0 = .ok (.aload_n 0, 1) := by decide +kernel
theorem dX6_leastTellings_1 : decode cX6_leastTellings 1 = .ok (.getfield 59, 3) := by decide +kernel
theorem dX6_leastTellings_4 : decode cX6_leastTellings 4 = .ok (.aload_n 0, 1) := by decide +kernel
theorem dX6_leastTellings_5 : decode cX6_leastTellings 5 = .ok (.getfield 47, 3) := by decide +kernel
theorem dX6_leastTellings_8 : decode cX6_leastTellings 8 = .ok (.iload_n 2, 1) := by decide +kernel
theorem dX6_leastTellings_9 : decode cX6_leastTellings 9 = .ok (.invokevirtual 219, 3) := by decide +kernel
theorem dX6_leastTellings_12 : decode cX6_leastTellings 12 = .ok (.aload_n 0, 1) := by decide +kernel
theorem dX6_leastTellings_13 : decode cX6_leastTellings 13 = .ok (.getfield 59, 3) := by decide +kernel
theorem dX6_leastTellings_16 : decode cX6_leastTellings 16 = .ok (.aload_n 0, 1) := by decide +kernel
theorem dX6_leastTellings_17 : decode cX6_leastTellings 17 = .ok (.getfield 19, 3) := by decide +kernel
theorem dX6_leastTellings_20 : decode cX6_leastTellings 20 = .ok (.getfield 94, 3) := by decide +kernel
theorem dX6_leastTellings_23 : decode cX6_leastTellings 23 = .ok (.aload_n 0, 1) := by decide +kernel
theorem dX6_leastTellings_24 : decode cX6_leastTellings 24 = .ok (.getfield 19, 3) := by decide +kernel
theorem dX6_leastTellings_27 : decode cX6_leastTellings 27 = .ok (.getfield 130, 3) := by decide +kernel
theorem dX6_leastTellings_30 : decode cX6_leastTellings 30 = .ok (.iload_n 1, 1) := by decide +kernel
theorem dX6_leastTellings_31 : decode cX6_leastTellings 31 = .ok (.iaload, 1) := by decide +kernel
theorem dX6_leastTellings_32 : decode cX6_leastTellings 32 = .ok (.invokevirtual 262, 3) := by decide +kernel
theorem dX6_leastTellings_35 : decode cX6_leastTellings 35 = .ok (.istore_n 3, 1) := by decide +kernel
theorem dX6_leastTellings_36 : decode cX6_leastTellings 36 = .ok (.iload_n 3, 1) := by decide +kernel
theorem dX6_leastTellings_37 : decode cX6_leastTellings 37 = .ok (.aload_n 0, 1) := by decide +kernel
theorem dX6_leastTellings_38 : decode cX6_leastTellings 38 = .ok (.iload_n 1, 1) := by decide +kernel
theorem dX6_leastTellings_39 : decode cX6_leastTellings 39 = .ok (.invokevirtual 201, 3) := by decide +kernel
theorem dX6_leastTellings_42 : decode cX6_leastTellings 42 = .ok (.if_icmp .gt 7, 3) := by decide +kernel
theorem dX6_leastTellings_45 : decode cX6_leastTellings 45 = .ok (.iload_n 3, 1) := by decide +kernel
theorem dX6_leastTellings_46 : decode cX6_leastTellings 46 = .ok (.goto 5, 3) := by decide +kernel
theorem dX6_leastTellings_49 : decode cX6_leastTellings 49 = .ok (.bipush (-9), 2) := by decide +kernel
theorem dX6_leastTellings_51 : decode cX6_leastTellings 51 = .ok (.ireturn, 1) := by decide +kernel
theorem dX6_hoursOfHearing_0 : decode cX6_hoursOfHearing 0 = .ok (.iconst 0, 1) := by decide +kernel
theorem dX6_hoursOfHearing_1 : decode cX6_hoursOfHearing 1 = .ok (.istore 4, 2) := by decide +kernel
theorem dX6_hoursOfHearing_3 : decode cX6_hoursOfHearing 3 = .ok (.aload_n 0, 1) := by decide +kernel
theorem dX6_hoursOfHearing_4 : decode cX6_hoursOfHearing 4 = .ok (.getfield 19, 3) := by decide +kernel
theorem dX6_hoursOfHearing_7 : decode cX6_hoursOfHearing 7 = .ok (.getfield 94, 3) := by decide +kernel
theorem dX6_hoursOfHearing_10 : decode cX6_hoursOfHearing 10 = .ok (.istore 5, 2) := by decide +kernel
theorem dX6_hoursOfHearing_12 : decode cX6_hoursOfHearing 12 = .ok (.iload 5, 2) := by decide +kernel
theorem dX6_hoursOfHearing_14 : decode cX6_hoursOfHearing 14 = .ok (.bipush 6, 2) := by decide +kernel
theorem dX6_hoursOfHearing_16 : decode cX6_hoursOfHearing 16 = .ok (.if_icmp .ge 59, 3) := by decide +kernel
theorem dX6_hoursOfHearing_19 : decode cX6_hoursOfHearing 19 = .ok (.aload_n 0, 1) := by decide +kernel
theorem dX6_hoursOfHearing_20 : decode cX6_hoursOfHearing 20 = .ok (.getfield 47, 3) := by decide +kernel
theorem dX6_hoursOfHearing_23 : decode cX6_hoursOfHearing 23 = .ok (.iload 5, 2) := by decide +kernel
theorem dX6_hoursOfHearing_25 : decode cX6_hoursOfHearing 25 = .ok (.iload_n 3, 1) := by decide +kernel
theorem dX6_hoursOfHearing_26 : decode cX6_hoursOfHearing 26 = .ok (.invokevirtual 265, 3) := by decide +kernel
theorem dX6_hoursOfHearing_29 : decode cX6_hoursOfHearing 29 = .ok (.aload_n 0, 1) := by decide +kernel
theorem dX6_hoursOfHearing_30 : decode cX6_hoursOfHearing 30 = .ok (.getfield 19, 3) := by decide +kernel
theorem dX6_hoursOfHearing_33 : decode cX6_hoursOfHearing 33 = .ok (.getfield 130, 3) := by decide +kernel
theorem dX6_hoursOfHearing_36 : decode cX6_hoursOfHearing 36 = .ok (.iload_n 1, 1) := by decide +kernel
theorem dX6_hoursOfHearing_37 : decode cX6_hoursOfHearing 37 = .ok (.iaload, 1) := by decide +kernel
theorem dX6_hoursOfHearing_38 : decode cX6_hoursOfHearing 38 = .ok (.iand, 1) := by decide +kernel
theorem dX6_hoursOfHearing_39 : decode cX6_hoursOfHearing 39 = .ok (.iconst 1, 1) := by decide +kernel
theorem dX6_hoursOfHearing_40 : decode cX6_hoursOfHearing 40 = .ok (.iload_n 2, 1) := by decide +kernel
theorem dX6_hoursOfHearing_41 : decode cX6_hoursOfHearing 41 = .ok (.ishl, 1) := by decide +kernel
theorem dX6_hoursOfHearing_42 : decode cX6_hoursOfHearing 42 = .ok (.iconst (-1), 1) := by decide +kernel
theorem dX6_hoursOfHearing_43 : decode cX6_hoursOfHearing 43 = .ok (.ixor, 1) := by decide +kernel
theorem dX6_hoursOfHearing_44 : decode cX6_hoursOfHearing 44 = .ok (.iand, 1) := by decide +kernel
theorem dX6_hoursOfHearing_45 : decode cX6_hoursOfHearing 45 = .ok (.istore 6, 2) := by decide +kernel
theorem dX6_hoursOfHearing_47 : decode cX6_hoursOfHearing 47 = .ok (.aload_n 0, 1) := by decide +kernel
theorem dX6_hoursOfHearing_48 : decode cX6_hoursOfHearing 48 = .ok (.getfield 47, 3) := by decide +kernel
theorem dX6_hoursOfHearing_51 : decode cX6_hoursOfHearing 51 = .ok (.iload_n 2, 1) := by decide +kernel
theorem dX6_hoursOfHearing_52 : decode cX6_hoursOfHearing 52 = .ok (.iload 5, 2) := by decide +kernel
theorem dX6_hoursOfHearing_54 : decode cX6_hoursOfHearing 54 = .ok (.invokevirtual 112, 3) := by decide +kernel
theorem dX6_hoursOfHearing_57 : decode cX6_hoursOfHearing 57 = .ok (.iload_n 3, 1) := by decide +kernel
theorem dX6_hoursOfHearing_58 : decode cX6_hoursOfHearing 58 = .ok (.if_icmp .ne 11, 3) := by decide +kernel
theorem dX6_hoursOfHearing_61 : decode cX6_hoursOfHearing 61 = .ok (.iload 6, 2) := by decide +kernel
theorem dX6_hoursOfHearing_63 : decode cX6_hoursOfHearing 63 = .ok (.ifCond .eq 6, 3) := by decide +kernel
theorem dX6_hoursOfHearing_66 : decode cX6_hoursOfHearing 66 = .ok (.iinc 4 1, 3) := by decide +kernel
theorem dX6_hoursOfHearing_69 : decode cX6_hoursOfHearing 69 = .ok (.iinc 5 1, 3) := by decide +kernel
theorem dX6_hoursOfHearing_72 : decode cX6_hoursOfHearing 72 = .ok (.goto (-60), 3) := by decide +kernel
theorem dX6_hoursOfHearing_75 : decode cX6_hoursOfHearing 75 = .ok (.iload 4, 2) := by decide +kernel
theorem dX6_hoursOfHearing_77 : decode cX6_hoursOfHearing 77 = .ok (.ireturn, 1) := by decide +kernel
theorem dX6_powerOf_0 : decode cX6_powerOf 0 = .ok (.iconst 1, 1) := by decide +kernel
theorem dX6_powerOf_1 : decode cX6_powerOf 1 = .ok (.istore_n 2, 1) := by decide +kernel
theorem dX6_powerOf_2 : decode cX6_powerOf 2 = .ok (.iconst 0, 1) := by decide +kernel
theorem dX6_powerOf_3 : decode cX6_powerOf 3 = .ok (.istore_n 3, 1) := by decide +kernel
theorem dX6_powerOf_4 : decode cX6_powerOf 4 = .ok (.iload_n 3, 1) := by decide +kernel
theorem dX6_powerOf_5 : decode cX6_powerOf 5 = .ok (.iload_n 1, 1) := by decide +kernel
theorem dX6_powerOf_6 : decode cX6_powerOf 6 = .ok (.if_icmp .ge 13, 3) := by decide +kernel
theorem dX6_powerOf_9 : decode cX6_powerOf 9 = .ok (.iload_n 2, 1) := by decide +kernel
theorem dX6_powerOf_10 : decode cX6_powerOf 10 = .ok (.iload_n 0, 1) := by decide +kernel
theorem dX6_powerOf_11 : decode cX6_powerOf 11 = .ok (.imul, 1) := by decide +kernel
theorem dX6_powerOf_12 : decode cX6_powerOf 12 = .ok (.istore_n 2, 1) := by decide +kernel
theorem dX6_powerOf_13 : decode cX6_powerOf 13 = .ok (.iinc 3 1, 3) := by decide +kernel
theorem dX6_powerOf_16 : decode cX6_powerOf 16 = .ok (.goto (-12), 3) := by decide +kernel
theorem dX6_powerOf_19 : decode cX6_powerOf 19 = .ok (.iload_n 2, 1) := by decide +kernel
theorem dX6_powerOf_20 : decode cX6_powerOf 20 = .ok (.ireturn, 1) := by decide +kernel
theorem dX6_figureOf_0 : decode cX6_figureOf 0 = .ok (.iload_n 0, 1) := by decide +kernel
theorem dX6_figureOf_1 : decode cX6_figureOf 1 = .ok (.istore_n 2, 1) := by decide +kernel
theorem dX6_figureOf_2 : decode cX6_figureOf 2 = .ok (.iconst 0, 1) := by decide +kernel
theorem dX6_figureOf_3 : decode cX6_figureOf 3 = .ok (.istore_n 3, 1) := by decide +kernel
theorem dX6_figureOf_4 : decode cX6_figureOf 4 = .ok (.iload_n 3, 1) := by decide +kernel
theorem dX6_figureOf_5 : decode cX6_figureOf 5 = .ok (.iload_n 1, 1) := by decide +kernel
theorem dX6_figureOf_6 : decode cX6_figureOf 6 = .ok (.if_icmp .ge 14, 3) := by decide +kernel
theorem dX6_figureOf_9 : decode cX6_figureOf 9 = .ok (.iload_n 2, 1) := by decide +kernel
theorem dX6_figureOf_10 : decode cX6_figureOf 10 = .ok (.bipush 10, 2) := by decide +kernel
theorem dX6_figureOf_12 : decode cX6_figureOf 12 = .ok (.idiv, 1) := by decide +kernel
theorem dX6_figureOf_13 : decode cX6_figureOf 13 = .ok (.istore_n 2, 1) := by decide +kernel
theorem dX6_figureOf_14 : decode cX6_figureOf 14 = .ok (.iinc 3 1, 3) := by decide +kernel
theorem dX6_figureOf_17 : decode cX6_figureOf 17 = .ok (.goto (-13), 3) := by decide +kernel
theorem dX6_figureOf_20 : decode cX6_figureOf 20 = .ok (.iload_n 2, 1) := by decide +kernel
theorem dX6_figureOf_21 : decode cX6_figureOf 21 = .ok (.bipush 10, 2) := by decide +kernel
theorem dX6_figureOf_23 : decode cX6_figureOf 23 = .ok (.irem, 1) := by decide +kernel
theorem dX6_figureOf_24 : decode cX6_figureOf 24 = .ok (.ireturn, 1) := by decide +kernel
theorem dX6_fraction_0 : decode cX6_fraction 0 = .ok (.bipush 10, 2) := by decide +kernel
theorem dX6_fraction_2 : decode cX6_fraction 2 = .ok (.iload_n 1, 1) := by decide +kernel
theorem dX6_fraction_3 : decode cX6_fraction 3 = .ok (.invokestatic 179, 3) := by decide +kernel
theorem dX6_fraction_6 : decode cX6_fraction 6 = .ok (.istore_n 3, 1) := by decide +kernel
theorem dX6_fraction_7 : decode cX6_fraction 7 = .ok (.iload_n 3, 1) := by decide +kernel
theorem dX6_fraction_8 : decode cX6_fraction 8 = .ok (.iload_n 0, 1) := by decide +kernel
theorem dX6_fraction_9 : decode cX6_fraction 9 = .ok (.iload_n 1, 1) := by decide +kernel
theorem dX6_fraction_10 : decode cX6_fraction 10 = .ok (.invokestatic 179, 3) := by decide +kernel
theorem dX6_fraction_13 : decode cX6_fraction 13 = .ok (.isub, 1) := by decide +kernel
theorem dX6_fraction_14 : decode cX6_fraction 14 = .ok (.istore 4, 2) := by decide +kernel
theorem dX6_fraction_16 : decode cX6_fraction 16 = .ok (.iconst 0, 1) := by decide +kernel
theorem dX6_fraction_17 : decode cX6_fraction 17 = .ok (.istore 5, 2) := by decide +kernel
theorem dX6_fraction_19 : decode cX6_fraction 19 = .ok (.iload 5, 2) := by decide +kernel
theorem dX6_fraction_21 : decode cX6_fraction 21 = .ok (.iload_n 1, 1) := by decide +kernel
theorem dX6_fraction_22 : decode cX6_fraction 22 = .ok (.if_icmp .ge 55, 3) := by decide +kernel
theorem dX6_fraction_25 : decode cX6_fraction 25 = .ok (.iload 4, 2) := by decide +kernel
theorem dX6_fraction_27 : decode cX6_fraction 27 = .ok (.iconst 2, 1) := by decide +kernel
theorem dX6_fraction_28 : decode cX6_fraction 28 = .ok (.irem, 1) := by decide +kernel
theorem dX6_fraction_29 : decode cX6_fraction 29 = .ok (.ifCond .ne 19, 3) := by decide +kernel
theorem dX6_fraction_32 : decode cX6_fraction 32 = .ok (.iload_n 3, 1) := by decide +kernel
theorem dX6_fraction_33 : decode cX6_fraction 33 = .ok (.iconst 2, 1) := by decide +kernel
theorem dX6_fraction_34 : decode cX6_fraction 34 = .ok (.irem, 1) := by decide +kernel
theorem dX6_fraction_35 : decode cX6_fraction 35 = .ok (.ifCond .ne 13, 3) := by decide +kernel
theorem dX6_fraction_38 : decode cX6_fraction 38 = .ok (.iload 4, 2) := by decide +kernel
theorem dX6_fraction_40 : decode cX6_fraction 40 = .ok (.iconst 2, 1) := by decide +kernel
theorem dX6_fraction_41 : decode cX6_fraction 41 = .ok (.idiv, 1) := by decide +kernel
theorem dX6_fraction_42 : decode cX6_fraction 42 = .ok (.istore 4, 2) := by decide +kernel
theorem dX6_fraction_44 : decode cX6_fraction 44 = .ok (.iload_n 3, 1) := by decide +kernel
theorem dX6_fraction_45 : decode cX6_fraction 45 = .ok (.iconst 2, 1) := by decide +kernel
theorem dX6_fraction_46 : decode cX6_fraction 46 = .ok (.idiv, 1) := by decide +kernel
theorem dX6_fraction_47 : decode cX6_fraction 47 = .ok (.istore_n 3, 1) := by decide +kernel
theorem dX6_fraction_48 : decode cX6_fraction 48 = .ok (.iload 4, 2) := by decide +kernel
theorem dX6_fraction_50 : decode cX6_fraction 50 = .ok (.iconst 5, 1) := by decide +kernel
theorem dX6_fraction_51 : decode cX6_fraction 51 = .ok (.irem, 1) := by decide +kernel
theorem dX6_fraction_52 : decode cX6_fraction 52 = .ok (.ifCond .ne 19, 3) := by decide +kernel
theorem dX6_fraction_55 : decode cX6_fraction 55 = .ok (.iload_n 3, 1) := by decide +kernel
theorem dX6_fraction_56 : decode cX6_fraction 56 = .ok (.iconst 5, 1) := by decide +kernel
theorem dX6_fraction_57 : decode cX6_fraction 57 = .ok (.irem, 1) := by decide +kernel
theorem dX6_fraction_58 : decode cX6_fraction 58 = .ok (.ifCond .ne 13, 3) := by decide +kernel
theorem dX6_fraction_61 : decode cX6_fraction 61 = .ok (.iload 4, 2) := by decide +kernel
theorem dX6_fraction_63 : decode cX6_fraction 63 = .ok (.iconst 5, 1) := by decide +kernel
theorem dX6_fraction_64 : decode cX6_fraction 64 = .ok (.idiv, 1) := by decide +kernel
theorem dX6_fraction_65 : decode cX6_fraction 65 = .ok (.istore 4, 2) := by decide +kernel
theorem dX6_fraction_67 : decode cX6_fraction 67 = .ok (.iload_n 3, 1) := by decide +kernel
theorem dX6_fraction_68 : decode cX6_fraction 68 = .ok (.iconst 5, 1) := by decide +kernel
theorem dX6_fraction_69 : decode cX6_fraction 69 = .ok (.idiv, 1) := by decide +kernel
theorem dX6_fraction_70 : decode cX6_fraction 70 = .ok (.istore_n 3, 1) := by decide +kernel
theorem dX6_fraction_71 : decode cX6_fraction 71 = .ok (.iinc 5 1, 3) := by decide +kernel
theorem dX6_fraction_74 : decode cX6_fraction 74 = .ok (.goto (-55), 3) := by decide +kernel
theorem dX6_fraction_77 : decode cX6_fraction 77 = .ok (.iload_n 2, 1) := by decide +kernel
theorem dX6_fraction_78 : decode cX6_fraction 78 = .ok (.ifCond .eq 8, 3) := by decide +kernel
theorem dX6_fraction_81 : decode cX6_fraction 81 = .ok (.iload 4, 2) := by decide +kernel
theorem dX6_fraction_83 : decode cX6_fraction 83 = .ok (.goto 4, 3) := by decide +kernel
theorem dX6_fraction_86 : decode cX6_fraction 86 = .ok (.iload_n 3, 1) := by decide +kernel
theorem dX6_fraction_87 : decode cX6_fraction 87 = .ok (.ireturn, 1) := by decide +kernel
theorem dX6_joinHalves_0 : decode cX6_joinHalves 0 = .ok (.iload_n 1, 1) := by decide +kernel
theorem dX6_joinHalves_1 : decode cX6_joinHalves 1 = .ok (.iconst 3, 1) := by decide +kernel
theorem dX6_joinHalves_2 : decode cX6_joinHalves 2 = .ok (.if_icmp .ne 16, 3) := by decide +kernel
theorem dX6_joinHalves_5 : decode cX6_joinHalves 5 = .ok (.aload_n 0, 1) := by decide +kernel
theorem dX6_joinHalves_6 : decode cX6_joinHalves 6 = .ok (.iconst 2, 1) := by decide +kernel
theorem dX6_joinHalves_7 : decode cX6_joinHalves 7 = .ok (.dup2, 1) := by decide +kernel
theorem dX6_joinHalves_8 : decode cX6_joinHalves 8 = .ok (.iaload, 1) := by decide +kernel
theorem dX6_joinHalves_9 : decode cX6_joinHalves 9 = .ok (.aload_n 0, 1) := by decide +kernel
theorem dX6_joinHalves_10 : decode cX6_joinHalves 10 = .ok (.iconst 0, 1) := by decide +kernel
theorem dX6_joinHalves_11 : decode cX6_joinHalves 11 = .ok (.iaload, 1) := by decide +kernel
theorem dX6_joinHalves_12 : decode cX6_joinHalves 12 = .ok (.aload_n 0, 1) := by decide +kernel
theorem dX6_joinHalves_13 : decode cX6_joinHalves 13 = .ok (.iconst 1, 1) := by decide +kernel
theorem dX6_joinHalves_14 : decode cX6_joinHalves 14 = .ok (.iaload, 1) := by decide +kernel
theorem dX6_joinHalves_15 : decode cX6_joinHalves 15 = .ok (.iand, 1) := by decide +kernel
theorem dX6_joinHalves_16 : decode cX6_joinHalves 16 = .ok (.ior, 1) := by decide +kernel
theorem dX6_joinHalves_17 : decode cX6_joinHalves 17 = .ok (.iastore, 1) := by decide +kernel
theorem dX6_joinHalves_18 : decode cX6_joinHalves 18 = .ok (.return_, 1) := by decide +kernel
theorem dX7_init_0 : decode cX7_init 0 = .ok (.aload_n 0, 1) := by decide +kernel
theorem dX7_init_1 : decode cX7_init 1 = .ok (.invokespecial 1, 3) := by decide +kernel
theorem dX7_init_4 : decode cX7_init 4 = .ok (.aload_n 0, 1) := by decide +kernel
theorem dX7_init_5 : decode cX7_init 5 = .ok (.bipush 72, 2) := by decide +kernel
theorem dX7_init_7 : decode cX7_init 7 = .ok (.newarray .int, 2) := by decide +kernel
theorem dX7_init_9 : decode cX7_init 9 = .ok (.putfield 7, 3) := by decide +kernel
theorem dX7_init_12 : decode cX7_init 12 = .ok (.aload_n 0, 1) := by decide +kernel
theorem dX7_init_13 : decode cX7_init 13 = .ok (.bipush 36, 2) := by decide +kernel
theorem dX7_init_15 : decode cX7_init 15 = .ok (.newarray .int, 2) := by decide +kernel
theorem dX7_init_17 : decode cX7_init 17 = .ok (.putfield 13, 3) := by decide +kernel
theorem dX7_init_20 : decode cX7_init 20 = .ok (.aload_n 0, 1) := by decide +kernel
theorem dX7_init_21 : decode cX7_init 21 = .ok (.iconst 3, 1) := by decide +kernel
theorem dX7_init_22 : decode cX7_init 22 = .ok (.newarray .int, 2) := by decide +kernel
theorem dX7_init_24 : decode cX7_init 24 = .ok (.putfield 16, 3) := by decide +kernel
theorem dX7_init_27 : decode cX7_init 27 = .ok (.aload_n 0, 1) := by decide +kernel
theorem dX7_init_28 : decode cX7_init 28 = .ok (.iconst 3, 1) := by decide +kernel
theorem dX7_init_29 : decode cX7_init 29 = .ok (.newarray .int, 2) := by decide +kernel
theorem dX7_init_31 : decode cX7_init 31 = .ok (.putfield 19, 3) := by decide +kernel
theorem dX7_init_34 : decode cX7_init 34 = .ok (.aload_n 0, 1) := by decide +kernel
theorem dX7_init_35 : decode cX7_init 35 = .ok (.iconst 3, 1) := by decide +kernel
theorem dX7_init_36 : decode cX7_init 36 = .ok (.newarray .int, 2) := by decide +kernel
theorem dX7_init_38 : decode cX7_init 38 = .ok (.putfield 22, 3) := by decide +kernel
theorem dX7_init_41 : decode cX7_init 41 = .ok (.aload_n 0, 1) := by decide +kernel
theorem dX7_init_42 : decode cX7_init 42 = .ok (.bipush 58, 2) := by decide +kernel
theorem dX7_init_44 : decode cX7_init 44 = .ok (.newarray .int, 2) := by decide +kernel
theorem dX7_init_46 : decode cX7_init 46 = .ok (.putfield 25, 3) := by decide +kernel
theorem dX7_init_49 : decode cX7_init 49 = .ok (.aload_n 0, 1) := by decide +kernel
theorem dX7_init_50 : decode cX7_init 50 = .ok (.bipush 36, 2) := by decide +kernel
theorem dX7_init_52 : decode cX7_init 52 = .ok (.newarray .int, 2) := by decide +kernel
theorem dX7_init_54 : decode cX7_init 54 = .ok (.putfield 28, 3) := by decide +kernel
theorem dX7_init_57 : decode cX7_init 57 = .ok (.aload_n 0, 1) := by decide +kernel
theorem dX7_init_58 : decode cX7_init 58 = .ok (.iconst 3, 1) := by decide +kernel
theorem dX7_init_59 : decode cX7_init 59 = .ok (.newarray .int, 2) := by decide +kernel
theorem dX7_init_61 : decode cX7_init 61 = .ok (.putfield 31, 3) := by decide +kernel
theorem dX7_init_64 : decode cX7_init 64 = .ok (.aload_n 0, 1) := by decide +kernel
theorem dX7_init_65 : decode cX7_init 65 = .ok (.iconst 3, 1) := by decide +kernel
theorem dX7_init_66 : decode cX7_init 66 = .ok (.newarray .int, 2) := by decide +kernel
theorem dX7_init_68 : decode cX7_init 68 = .ok (.putfield 34, 3) := by decide +kernel
theorem dX7_init_71 : decode cX7_init 71 = .ok (.aload_n 0, 1) := by decide +kernel
theorem dX7_init_72 : decode cX7_init 72 = .ok (.iconst 3, 1) := by decide +kernel
theorem dX7_init_73 : decode cX7_init 73 = .ok (.newarray .int, 2) := by decide +kernel
theorem dX7_init_75 : decode cX7_init 75 = .ok (.putfield 37, 3) := by decide +kernel
theorem dX7_init_78 : decode cX7_init 78 = .ok (.aload_n 0, 1) := by decide +kernel
theorem dX7_init_79 : decode cX7_init 79 = .ok (.sipush 928, 3) := by decide +kernel
theorem dX7_init_82 : decode cX7_init 82 = .ok (.newarray .int, 2) := by decide +kernel
theorem dX7_init_84 : decode cX7_init 84 = .ok (.putfield 40, 3) := by decide +kernel
theorem dX7_init_87 : decode cX7_init 87 = .ok (.aload_n 0, 1) := by decide +kernel
theorem dX7_init_88 : decode cX7_init 88 = .ok (.bipush 116, 2) := by decide +kernel
theorem dX7_init_90 : decode cX7_init 90 = .ok (.newarray .int, 2) := by decide +kernel
theorem dX7_init_92 : decode cX7_init 92 = .ok (.putfield 43, 3) := by decide +kernel
theorem dX7_init_95 : decode cX7_init 95 = .ok (.aload_n 0, 1) := by decide +kernel
theorem dX7_init_96 : decode cX7_init 96 = .ok (.iconst 2, 1) := by decide +kernel
theorem dX7_init_97 : decode cX7_init 97 = .ok (.newarray .boolean, 2) := by decide +kernel
theorem dX7_init_99 : decode cX7_init 99 = .ok (.putfield 46, 3) := by decide +kernel
theorem dX7_init_102 : decode cX7_init 102 = .ok (.aload_n 0, 1) := by decide +kernel
theorem dX7_init_103 : decode cX7_init 103 = .ok (.bipush 58, 2) := by decide +kernel
theorem dX7_init_105 : decode cX7_init 105 = .ok (.newarray .int, 2) := by decide +kernel
theorem dX7_init_107 : decode cX7_init 107 = .ok (.putfield 50, 3) := by decide +kernel
theorem dX7_init_110 : decode cX7_init 110 = .ok (.aload_n 0, 1) := by decide +kernel
theorem dX7_init_111 : decode cX7_init 111 = .ok (.bipush 8, 2) := by decide +kernel
theorem dX7_init_113 : decode cX7_init 113 = .ok (.newarray .int, 2) := by decide +kernel
theorem dX7_init_115 : decode cX7_init 115 = .ok (.putfield 53, 3) := by decide +kernel
theorem dX7_init_118 : decode cX7_init 118 = .ok (.aload_n 0, 1) := by decide +kernel
theorem dX7_init_119 : decode cX7_init 119 = .ok (.bipush 8, 2) := by decide +kernel
theorem dX7_init_121 : decode cX7_init 121 = .ok (.newarray .int, 2) := by decide +kernel
theorem dX7_init_123 : decode cX7_init 123 = .ok (.putfield 56, 3) := by decide +kernel
theorem dX7_init_126 : decode cX7_init 126 = .ok (.aload_n 0, 1) := by decide +kernel
theorem dX7_init_127 : decode cX7_init 127 = .ok (.bipush 8, 2) := by decide +kernel
theorem dX7_init_129 : decode cX7_init 129 = .ok (.newarray .boolean, 2) := by decide +kernel
theorem dX7_init_131 : decode cX7_init 131 = .ok (.putfield 59, 3) := by decide +kernel
theorem dX7_init_134 : decode cX7_init 134 = .ok (.aload_n 0, 1) := by decide +kernel
theorem dX7_init_135 : decode cX7_init 135 = .ok (.sipush 448, 3) := by decide +kernel
theorem dX7_init_138 : decode cX7_init 138 = .ok (.newarray .int, 2) := by decide +kernel
theorem dX7_init_140 : decode cX7_init 140 = .ok (.putfield 62, 3) := by decide +kernel
theorem dX7_init_143 : decode cX7_init 143 = .ok (.aload_n 0, 1) := by decide +kernel
theorem dX7_init_144 : decode cX7_init 144 = .ok (.sipush 640, 3) := by decide +kernel
theorem dX7_init_147 : decode cX7_init 147 = .ok (.newarray .int, 2) := by decide +kernel
theorem dX7_init_149 : decode cX7_init 149 = .ok (.putfield 65, 3) := by decide +kernel
theorem dX7_init_152 : decode cX7_init 152 = .ok (.aload_n 0, 1) := by decide +kernel
theorem dX7_init_153 : decode cX7_init 153 = .ok (.sipush 640, 3) := by decide +kernel
theorem dX7_init_156 : decode cX7_init 156 = .ok (.newarray .int, 2) := by decide +kernel
theorem dX7_init_158 : decode cX7_init 158 = .ok (.putfield 68, 3) := by decide +kernel
theorem dX7_init_161 : decode cX7_init 161 = .ok (.aload_n 0, 1) := by decide +kernel
theorem dX7_init_162 : decode cX7_init 162 = .ok (.sipush 640, 3) := by decide +kernel
theorem dX7_init_165 : decode cX7_init 165 = .ok (.newarray .boolean, 2) := by decide +kernel
theorem dX7_init_167 : decode cX7_init 167 = .ok (.putfield 71, 3) := by decide +kernel
theorem dX7_init_170 : decode cX7_init 170 = .ok (.aload_n 0, 1) := by decide +kernel
theorem dX7_init_171 : decode cX7_init 171 = .ok (.sipush 640, 3) := by decide +kernel
theorem dX7_init_174 : decode cX7_init 174 = .ok (.newarray .boolean, 2) := by decide +kernel
theorem dX7_init_176 : decode cX7_init 176 = .ok (.putfield 74, 3) := by decide +kernel
theorem dX7_init_179 : decode cX7_init 179 = .ok (.return_, 1) := by decide +kernel
theorem dX7_in_0 : decode cX7_in 0 = .ok (.lload_n 0, 1) := by decide +kernel
theorem dX7_in_1 : decode cX7_in 1 = .ok (.lload_n 2, 1) := by decide +kernel
theorem dX7_in_2 : decode cX7_in 2 = .ok (.lcmp, 1) := by decide +kernel
theorem dX7_in_3 : decode cX7_in 3 = .ok (.ifCond .lt 14, 3) := by decide +kernel
theorem dX7_in_6 : decode cX7_in 6 = .ok (.lload_n 0, 1) := by decide +kernel
theorem dX7_in_7 : decode cX7_in 7 = .ok (.lload 4, 2) := by decide +kernel
theorem dX7_in_9 : decode cX7_in 9 = .ok (.lcmp, 1) := by decide +kernel
theorem dX7_in_10 : decode cX7_in 10 = .ok (.ifCond .gt 7, 3) := by decide +kernel
theorem dX7_in_13 : decode cX7_in 13 = .ok (.iconst 1, 1) := by decide +kernel
theorem dX7_in_14 : decode cX7_in 14 = .ok (.goto 4, 3) := by decide +kernel
theorem dX7_in_17 : decode cX7_in 17 = .ok (.iconst 0, 1) := by decide +kernel
theorem dX7_in_18 : decode cX7_in 18 = .ok (.ireturn, 1) := by decide +kernel
theorem dX7_has_0 : decode cX7_has 0 = .ok (.iload_n 0, 1) := by decide +kernel
theorem dX7_has_1 : decode cX7_has 1 = .ok (.iload_n 1, 1) := by decide +kernel
theorem dX7_has_2 : decode cX7_has 2 = .ok (.ishr, 1) := by decide +kernel
theorem dX7_has_3 : decode cX7_has 3 = .ok (.iconst 1, 1) := by decide +kernel
theorem dX7_has_4 : decode cX7_has 4 = .ok (.iand, 1) := by decide +kernel
theorem dX7_has_5 : decode cX7_has 5 = .ok (.iconst 1, 1) := by decide +kernel
theorem dX7_has_6 : decode cX7_has 6 = .ok (.if_icmp .ne 7, 3) := by decide +kernel
theorem dX7_has_9 : decode cX7_has 9 = .ok (.iconst 1, 1) := by decide +kernel
theorem dX7_has_10 : decode cX7_has 10 = .ok (.goto 4, 3) := by decide +kernel
theorem dX7_has_13 : decode cX7_has 13 = .ok (.iconst 0, 1) := by decide +kernel
theorem dX7_has_14 : decode cX7_has 14 = .ok (.ireturn, 1) := by decide +kernel
theorem dX7_many_0 : decode cX7_many 0 = .ok (.iconst 0, 1) := by decide +kernel
theorem dX7_many_1 : decode cX7_many 1 = .ok (.istore_n 1, 1) := by decide +kernel
theorem dX7_many_2 : decode cX7_many 2 = .ok (.iconst 0, 1) := by decide +kernel
theorem dX7_many_3 : decode cX7_many 3 = .ok (.istore_n 2, 1) := by decide +kernel
theorem dX7_many_4 : decode cX7_many 4 = .ok (.iload_n 2, 1) := by decide +kernel
theorem dX7_many_5 : decode cX7_many 5 = .ok (.bipush 6, 2) := by decide +kernel
theorem dX7_many_7 : decode cX7_many 7 = .ok (.if_icmp .ge 17, 3) := by decide +kernel
theorem dX7_many_10 : decode cX7_many 10 = .ok (.iload_n 1, 1) := by decide +kernel
theorem dX7_many_11 : decode cX7_many 11 = .ok (.iload_n 0, 1) := by decide +kernel
theorem dX7_many_12 : decode cX7_many 12 = .ok (.iload_n 2, 1) := by decide +kernel
theorem dX7_many_13 : decode cX7_many 13 = .ok (.ishr, 1) := by decide +kernel
theorem dX7_many_14 : decode cX7_many 14 = .ok (.iconst 1, 1) := by decide +kernel
theorem dX7_many_15 : decode cX7_many 15 = .ok (.iand, 1) := by decide +kernel
theorem dX7_many_16 : decode cX7_many 16 = .ok (.iadd, 1) := by decide +kernel
theorem dX7_many_17 : decode cX7_many 17 = .ok (.istore_n 1, 1) := by decide +kernel
theorem dX7_many_18 : decode cX7_many 18 = .ok (.iinc 2 1, 3) := by decide +kernel
theorem dX7_many_21 : decode cX7_many 21 = .ok (.goto (-17), 3) := by decide +kernel
theorem dX7_many_24 : decode cX7_many 24 = .ok (.iload_n 1, 1) := by decide +kernel
theorem dX7_many_25 : decode cX7_many 25 = .ok (.ireturn, 1) := by decide +kernel
theorem dX7_noOne_0 : decode cX7_noOne 0 = .ok (.iload_n 1, 1) := by decide +kernel
theorem dX7_noOne_1 : decode cX7_noOne 1 = .ok (.i2l, 1) := by decide +kernel
theorem dX7_noOne_2 : decode cX7_noOne 2 = .ok (.lconst 0, 1) := by decide +kernel
theorem dX7_noOne_3 : decode cX7_noOne 3 = .ok (.aload_n 0, 1) := by decide +kernel
theorem dX7_noOne_4 : decode cX7_noOne 4 = .ok (.getfield 81, 3) := by decide +kernel
theorem dX7_noOne_7 : decode cX7_noOne 7 = .ok (.iconst 1, 1) := by decide +kernel
theorem dX7_noOne_8 : decode cX7_noOne 8 = .ok (.isub, 1) := by decide +kernel
theorem dX7_noOne_9 : decode cX7_noOne 9 = .ok (.i2l, 1) := by decide +kernel
theorem dX7_noOne_10 : decode cX7_noOne 10 = .ok (.invokestatic 84, 3) := by decide +kernel
theorem dX7_noOne_13 : decode cX7_noOne 13 = .ok (.ifCond .ne 7, 3) := by decide +kernel
theorem dX7_noOne_16 : decode cX7_noOne 16 = .ok (.iconst 1, 1) := by decide +kernel
theorem dX7_noOne_17 : decode cX7_noOne 17 = .ok (.goto 4, 3) := by decide +kernel
theorem dX7_noOne_20 : decode cX7_noOne 20 = .ok (.iconst 0, 1) := by decide +kernel
theorem dX7_noOne_21 : decode cX7_noOne 21 = .ok (.ireturn, 1) := by decide +kernel
theorem dX7_noNews_0 : decode cX7_noNews 0 = .ok (.iload_n 1, 1) := by decide +kernel
theorem dX7_noNews_1 : decode cX7_noNews 1 = .ok (.i2l, 1) := by decide +kernel
theorem dX7_noNews_2 : decode cX7_noNews 2 = .ok (.lconst 0, 1) := by decide +kernel
theorem dX7_noNews_3 : decode cX7_noNews 3 = .ok (.aload_n 0, 1) := by decide +kernel
theorem dX7_noNews_4 : decode cX7_noNews 4 = .ok (.getfield 88, 3) := by decide +kernel
theorem dX7_noNews_7 : decode cX7_noNews 7 = .ok (.iconst 1, 1) := by decide +kernel
theorem dX7_noNews_8 : decode cX7_noNews 8 = .ok (.isub, 1) := by decide +kernel
theorem dX7_noNews_9 : decode cX7_noNews 9 = .ok (.i2l, 1) := by decide +kernel
theorem dX7_noNews_10 : decode cX7_noNews 10 = .ok (.invokestatic 84, 3) := by decide +kernel
theorem dX7_noNews_13 : decode cX7_noNews 13 = .ok (.ifCond .ne 7, 3) := by decide +kernel
theorem dX7_noNews_16 : decode cX7_noNews 16 = .ok (.iconst 1, 1) := by decide +kernel
theorem dX7_noNews_17 : decode cX7_noNews 17 = .ok (.goto 4, 3) := by decide +kernel
theorem dX7_noNews_20 : decode cX7_noNews 20 = .ok (.iconst 0, 1) := by decide +kernel
theorem dX7_noNews_21 : decode cX7_noNews 21 = .ok (.ireturn, 1) := by decide +kernel
theorem dX7_write_0 : decode cX7_write 0 = .ok (.aload_n 0, 1) := by decide +kernel
theorem dX7_write_1 : decode cX7_write 1 = .ok (.iconst 0, 1) := by decide +kernel
theorem dX7_write_2 : decode cX7_write 2 = .ok (.putfield 77, 3) := by decide +kernel
theorem dX7_write_5 : decode cX7_write 5 = .ok (.iload_n 1, 1) := by decide +kernel
theorem dX7_write_6 : decode cX7_write 6 = .ok (.i2l, 1) := by decide +kernel
theorem dX7_write_7 : decode cX7_write 7 = .ok (.lconst 1, 1) := by decide +kernel
theorem dX7_write_8 : decode cX7_write 8 = .ok (.ldc2_w 91, 3) := by decide +kernel
theorem dX7_write_11 : decode cX7_write 11 = .ok (.invokestatic 84, 3) := by decide +kernel
theorem dX7_write_14 : decode cX7_write 14 = .ok (.ifCond .ne 6, 3) := by decide +kernel
theorem dX7_write_17 : decode cX7_write 17 = .ok (.bipush (-2), 2) := by decide +kernel
theorem dX7_write_19 : decode cX7_write 19 = .ok (.ireturn, 1) := by decide +kernel
theorem dX7_write_20 : decode cX7_write 20 = .ok (.aload_n 0, 1) := by decide +kernel
theorem dX7_write_21 : decode cX7_write 21 = .ok (.getfield 93, 3) := by decide +kernel
theorem dX7_write_24 : decode cX7_write 24 = .ok (.iload_n 1, 1) := by decide +kernel
theorem dX7_write_25 : decode cX7_write 25 = .ok (.iadd, 1) := by decide +kernel
theorem dX7_write_26 : decode cX7_write 26 = .ok (.bipush 72, 2) := by decide +kernel
theorem dX7_write_28 : decode cX7_write 28 = .ok (.if_icmp .le 6, 3) := by decide +kernel
theorem dX7_write_31 : decode cX7_write 31 = .ok (.bipush (-4), 2) := by decide +kernel
theorem dX7_write_33 : decode cX7_write 33 = .ok (.ireturn, 1) := by decide +kernel
theorem dX7_write_34 : decode cX7_write 34 = .ok (.iload_n 1, 1) := by decide +kernel
theorem dX7_write_35 : decode cX7_write 35 = .ok (.iconst 1, 1) := by decide +kernel
theorem dX7_write_36 : decode cX7_write 36 = .ok (.isub, 1) := by decide +kernel
theorem dX7_write_37 : decode cX7_write 37 = .ok (.istore 4, 2) := by decide +kernel
theorem dX7_write_39 : decode cX7_write 39 = .ok (.iload 4, 2) := by decide +kernel
theorem dX7_write_41 : decode cX7_write 41 = .ok (.ifCond .lt 40, 3) := by decide +kernel
theorem dX7_write_44 : decode cX7_write 44 = .ok (.aload_n 0, 1) := by decide +kernel
theorem dX7_write_45 : decode cX7_write 45 = .ok (.getfield 7, 3) := by decide +kernel
theorem dX7_write_48 : decode cX7_write 48 = .ok (.aload_n 0, 1) := by decide +kernel
theorem dX7_write_49 : decode cX7_write 49 = .ok (.getfield 93, 3) := by decide +kernel
theorem dX7_write_52 : decode cX7_write 52 = .ok (.lload_n 2, 1) := by decide +kernel
theorem dX7_write_53 : decode cX7_write 53 = .ok (.bipush 8, 2) := by decide +kernel
theorem dX7_write_55 : decode cX7_write 55 = .ok (.iload 4, 2) := by decide +kernel
theorem dX7_write_57 : decode cX7_write 57 = .ok (.imul, 1) := by decide +kernel
theorem dX7_write_58 : decode cX7_write 58 = .ok (.lshr, 1) := by decide +kernel
theorem dX7_write_59 : decode cX7_write 59 = .ok (.l2i, 1) := by decide +kernel
theorem dX7_write_60 : decode cX7_write 60 = .ok (.sipush 255, 3) := by decide +kernel
theorem dX7_write_63 : decode cX7_write 63 = .ok (.iand, 1) := by decide +kernel
theorem dX7_write_64 : decode cX7_write 64 = .ok (.iastore, 1) := by decide +kernel
theorem dX7_write_65 : decode cX7_write 65 = .ok (.aload_n 0, 1) := by decide +kernel
theorem dX7_write_66 : decode cX7_write 66 = .ok (.dup, 1) := by decide +kernel
theorem dX7_write_67 : decode cX7_write 67 = .ok (.getfield 93, 3) := by decide +kernel
theorem dX7_write_70 : decode cX7_write 70 = .ok (.iconst 1, 1) := by decide +kernel
theorem dX7_write_71 : decode cX7_write 71 = .ok (.iadd, 1) := by decide +kernel
theorem dX7_write_72 : decode cX7_write 72 = .ok (.putfield 93, 3) := by decide +kernel
theorem dX7_write_75 : decode cX7_write 75 = .ok (.iinc 4 (-1), 3) := by decide +kernel
theorem dX7_write_78 : decode cX7_write 78 = .ok (.goto (-39), 3) := by decide +kernel
theorem dX7_write_81 : decode cX7_write 81 = .ok (.aload_n 0, 1) := by decide +kernel
theorem dX7_write_82 : decode cX7_write 82 = .ok (.getfield 93, 3) := by decide +kernel
theorem dX7_write_85 : decode cX7_write 85 = .ok (.ireturn, 1) := by decide +kernel
theorem dX7_wipe_0 : decode cX7_wipe 0 = .ok (.aload_n 0, 1) := by decide +kernel
theorem dX7_wipe_1 : decode cX7_wipe 1 = .ok (.iconst 0, 1) := by decide +kernel
theorem dX7_wipe_2 : decode cX7_wipe 2 = .ok (.putfield 77, 3) := by decide +kernel
theorem dX7_wipe_5 : decode cX7_wipe 5 = .ok (.aload_n 0, 1) := by decide +kernel
theorem dX7_wipe_6 : decode cX7_wipe 6 = .ok (.getfield 93, 3) := by decide +kernel
theorem dX7_wipe_9 : decode cX7_wipe 9 = .ok (.istore_n 1, 1) := by decide +kernel
theorem dX7_wipe_10 : decode cX7_wipe 10 = .ok (.aload_n 0, 1) := by decide +kernel
theorem dX7_wipe_11 : decode cX7_wipe 11 = .ok (.iconst 0, 1) := by decide +kernel
theorem dX7_wipe_12 : decode cX7_wipe 12 = .ok (.putfield 93, 3) := by decide +kernel
theorem dX7_wipe_15 : decode cX7_wipe 15 = .ok (.iload_n 1, 1) := by decide +kernel
theorem dX7_wipe_16 : decode cX7_wipe 16 = .ok (.ireturn, 1) := by decide +kernel
theorem dX7_figure_0 : decode cX7_figure 0 = .ok (.aload_n 0, 1) := by decide +kernel
theorem dX7_figure_1 : decode cX7_figure 1 = .ok (.getfield 96, 3) := by decide +kernel
theorem dX7_figure_4 : decode cX7_figure 4 = .ok (.aload_n 0, 1) := by decide +kernel
theorem dX7_figure_5 : decode cX7_figure 5 = .ok (.getfield 93, 3) := by decide +kernel
theorem dX7_figure_8 : decode cX7_figure 8 = .ok (.if_icmp .eq 26, 3) := by decide +kernel
theorem dX7_figure_11 : decode cX7_figure 11 = .ok (.aload_n 0, 1) := by decide +kernel
theorem dX7_figure_12 : decode cX7_figure 12 = .ok (.getfield 7, 3) := by decide +kernel
theorem dX7_figure_15 : decode cX7_figure 15 = .ok (.aload_n 0, 1) := by decide +kernel
theorem dX7_figure_16 : decode cX7_figure 16 = .ok (.getfield 96, 3) := by decide +kernel
theorem dX7_figure_19 : decode cX7_figure 19 = .ok (.iaload, 1) := by decide +kernel
theorem dX7_figure_20 : decode cX7_figure 20 = .ok (.bipush 48, 2) := by decide +kernel
theorem dX7_figure_22 : decode cX7_figure 22 = .ok (.isub, 1) := by decide +kernel
theorem dX7_figure_23 : decode cX7_figure 23 = .ok (.i2l, 1) := by decide +kernel
theorem dX7_figure_24 : decode cX7_figure 24 = .ok (.iload_n 1, 1) := by decide +kernel
theorem dX7_figure_25 : decode cX7_figure 25 = .ok (.i2l, 1) := by decide +kernel
theorem dX7_figure_26 : decode cX7_figure 26 = .ok (.iload_n 2, 1) := by decide +kernel
theorem dX7_figure_27 : decode cX7_figure 27 = .ok (.i2l, 1) := by decide +kernel
theorem dX7_figure_28 : decode cX7_figure 28 = .ok (.invokestatic 84, 3) := by decide +kernel
theorem dX7_figure_31 : decode cX7_figure 31 = .ok (.ifCond .ne 6, 3) := by decide +kernel
theorem dX7_figure_34 : decode cX7_figure 34 = .ok (.bipush (-9), 2) := by decide +kernel
theorem dX7_figure_36 : decode cX7_figure 36 = .ok (.ireturn, 1) := by decide +kernel
theorem dX7_figure_37 : decode cX7_figure 37 = .ok (.aload_n 0, 1) := by decide +kernel
theorem dX7_figure_38 : decode cX7_figure 38 = .ok (.dup, 1) := by decide +kernel
theorem dX7_figure_39 : decode cX7_figure 39 = .ok (.getfield 96, 3) := by decide +kernel
theorem dX7_figure_42 : decode cX7_figure 42 = .ok (.iconst 1, 1) := by decide +kernel
theorem dX7_figure_43 : decode cX7_figure 43 = .ok (.iadd, 1) := by decide +kernel
theorem dX7_figure_44 : decode cX7_figure 44 = .ok (.putfield 96, 3) := by decide +kernel
theorem dX7_figure_47 : decode cX7_figure 47 = .ok (.aload_n 0, 1) := by decide +kernel
theorem dX7_figure_48 : decode cX7_figure 48 = .ok (.getfield 7, 3) := by decide +kernel
theorem dX7_figure_51 : decode cX7_figure 51 = .ok (.aload_n 0, 1) := by decide +kernel
theorem dX7_figure_52 : decode cX7_figure 52 = .ok (.getfield 96, 3) := by decide +kernel
theorem dX7_figure_55 : decode cX7_figure 55 = .ok (.iconst 1, 1) := by decide +kernel
theorem dX7_figure_56 : decode cX7_figure 56 = .ok (.isub, 1) := by decide +kernel
theorem dX7_figure_57 : decode cX7_figure 57 = .ok (.iaload, 1) := by decide +kernel
theorem dX7_figure_58 : decode cX7_figure 58 = .ok (.bipush 48, 2) := by decide +kernel
theorem dX7_figure_60 : decode cX7_figure 60 = .ok (.isub, 1) := by decide +kernel
theorem dX7_figure_61 : decode cX7_figure 61 = .ok (.ireturn, 1) := by decide +kernel
theorem dX7_readPerson_0 : decode cX7_readPerson 0 = .ok (.iconst 0, 1) := by decide +kernel
theorem dX7_readPerson_1 : decode cX7_readPerson 1 = .ok (.istore_n 1, 1) := by decide +kernel
theorem dX7_readPerson_2 : decode cX7_readPerson 2 = .ok (.iload_n 1, 1) := by decide +kernel
theorem dX7_readPerson_3 : decode cX7_readPerson 3 = .ok (.bipush 6, 2) := by decide +kernel
theorem dX7_readPerson_5 : decode cX7_readPerson 5 = .ok (.if_icmp .ge 101, 3) := by decide +kernel
theorem dX7_readPerson_8 : decode cX7_readPerson 8 = .ok (.aload_n 0, 1) := by decide +kernel
theorem dX7_readPerson_9 : decode cX7_readPerson 9 = .ok (.getfield 96, 3) := by decide +kernel
theorem dX7_readPerson_12 : decode cX7_readPerson 12 = .ok (.aload_n 0, 1) := by decide +kernel
theorem dX7_readPerson_13 : decode cX7_readPerson 13 = .ok (.getfield 93, 3) := by decide +kernel
theorem dX7_readPerson_16 : decode cX7_readPerson 16 = .ok (.if_icmp .ge 21, 3) := by decide +kernel
theorem dX7_readPerson_19 : decode cX7_readPerson 19 = .ok (.aload_n 0, 1) := by decide +kernel
theorem dX7_readPerson_20 : decode cX7_readPerson 20 = .ok (.getfield 7, 3) := by decide +kernel
theorem dX7_readPerson_23 : decode cX7_readPerson 23 = .ok (.aload_n 0, 1) := by decide +kernel
theorem dX7_readPerson_24 : decode cX7_readPerson 24 = .ok (.getfield 96, 3) := by decide +kernel
theorem dX7_readPerson_27 : decode cX7_readPerson 27 = .ok (.iaload, 1) := by decide +kernel
theorem dX7_readPerson_28 : decode cX7_readPerson 28 = .ok (.bipush 45, 2) := by decide +kernel
theorem dX7_readPerson_30 : decode cX7_readPerson 30 = .ok (.if_icmp .ne 7, 3) := by decide +kernel
theorem dX7_readPerson_33 : decode cX7_readPerson 33 = .ok (.iconst 1, 1) := by decide +kernel
theorem dX7_readPerson_34 : decode cX7_readPerson 34 = .ok (.goto 4, 3) := by decide +kernel
theorem dX7_readPerson_37 : decode cX7_readPerson 37 = .ok (.iconst 0, 1) := by decide +kernel
theorem dX7_readPerson_38 : decode cX7_readPerson 38 = .ok (.istore_n 2, 1) := by decide +kernel
theorem dX7_readPerson_39 : decode cX7_readPerson 39 = .ok (.aload_n 0, 1) := by decide +kernel
theorem dX7_readPerson_40 : decode cX7_readPerson 40 = .ok (.dup, 1) := by decide +kernel
theorem dX7_readPerson_41 : decode cX7_readPerson 41 = .ok (.getfield 96, 3) := by decide +kernel
theorem dX7_readPerson_44 : decode cX7_readPerson 44 = .ok (.iload_n 2, 1) := by decide +kernel
theorem dX7_readPerson_45 : decode cX7_readPerson 45 = .ok (.ifCond .eq 7, 3) := by decide +kernel
theorem dX7_readPerson_48 : decode cX7_readPerson 48 = .ok (.iconst 1, 1) := by decide +kernel
theorem dX7_readPerson_49 : decode cX7_readPerson 49 = .ok (.goto 4, 3) := by decide +kernel
theorem dX7_readPerson_52 : decode cX7_readPerson 52 = .ok (.iconst 0, 1) := by decide +kernel
theorem dX7_readPerson_53 : decode cX7_readPerson 53 = .ok (.iadd, 1) := by decide +kernel
theorem dX7_readPerson_54 : decode cX7_readPerson 54 = .ok (.putfield 96, 3) := by decide +kernel
theorem dX7_readPerson_57 : decode cX7_readPerson 57 = .ok (.iload_n 2, 1) := by decide +kernel
theorem dX7_readPerson_58 : decode cX7_readPerson 58 = .ok (.ifCond .eq 8, 3) := by decide +kernel
theorem dX7_readPerson_61 : decode cX7_readPerson 61 = .ok (.bipush (-9), 2) := by decide +kernel
theorem dX7_readPerson_63 : decode cX7_readPerson 63 = .ok (.goto 9, 3) := by decide +kernel
theorem dX7_readPerson_66 : decode cX7_readPerson 66 = .ok (.aload_n 0, 1) := by decide +kernel
theorem dX7_readPerson_67 : decode cX7_readPerson 67 = .ok (.iconst 0, 1) := by decide +kernel
theorem dX7_readPerson_68 : decode cX7_readPerson 68 = .ok (.iconst 2, 1) := by decide +kernel
theorem dX7_readPerson_69 : decode cX7_readPerson 69 = .ok (.invokevirtual 99, 3) := by decide +kernel
theorem dX7_readPerson_72 : decode cX7_readPerson 72 = .ok (.istore_n 3, 1) := by decide +kernel
theorem dX7_readPerson_73 : decode cX7_readPerson 73 = .ok (.iload_n 2, 1) := by decide +kernel
theorem dX7_readPerson_74 : decode cX7_readPerson 74 = .ok (.ifCond .ne 11, 3) := by decide +kernel
theorem dX7_readPerson_77 : decode cX7_readPerson 77 = .ok (.iload_n 3, 1) := by decide +kernel
theorem dX7_readPerson_78 : decode cX7_readPerson 78 = .ok (.bipush (-9), 2) := by decide +kernel
theorem dX7_readPerson_80 : decode cX7_readPerson 80 = .ok (.if_icmp .ne 5, 3) := by decide +kernel
theorem dX7_readPerson_83 : decode cX7_readPerson 83 = .ok (.iconst 0, 1) := by decide +kernel
theorem dX7_readPerson_84 : decode cX7_readPerson 84 = .ok (.ireturn, 1) := by decide +kernel
theorem dX7_readPerson_85 : decode cX7_readPerson 85 = .ok (.aload_n 0, 1) := by decide +kernel
theorem dX7_readPerson_86 : decode cX7_readPerson 86 = .ok (.getfield 28, 3) := by decide +kernel
theorem dX7_readPerson_89 : decode cX7_readPerson 89 = .ok (.bipush 6, 2) := by decide +kernel
theorem dX7_readPerson_91 : decode cX7_readPerson 91 = .ok (.aload_n 0, 1) := by decide +kernel
theorem dX7_readPerson_92 : decode cX7_readPerson 92 = .ok (.getfield 103, 3) := by decide +kernel
theorem dX7_readPerson_95 : decode cX7_readPerson 95 = .ok (.imul, 1) := by decide +kernel
theorem dX7_readPerson_96 : decode cX7_readPerson 96 = .ok (.iload_n 1, 1) := by decide +kernel
theorem dX7_readPerson_97 : decode cX7_readPerson 97 = .ok (.iadd, 1) := by decide +kernel
theorem dX7_readPerson_98 : decode cX7_readPerson 98 = .ok (.iload_n 3, 1) := by decide +kernel
theorem dX7_readPerson_99 : decode cX7_readPerson 99 = .ok (.iastore, 1) := by decide +kernel
theorem dX7_readPerson_100 : decode cX7_readPerson 100 = .ok (.iinc 1 1, 3) := by decide +kernel
theorem dX7_readPerson_103 : decode cX7_readPerson 103 = .ok (.goto (-101), 3) := by decide +kernel
theorem dX7_readPerson_106 : decode cX7_readPerson 106 = .ok (.aload_n 0, 1) := by decide +kernel
theorem dX7_readPerson_107 : decode cX7_readPerson 107 = .ok (.dup, 1) := by decide +kernel
theorem dX7_readPerson_108 : decode cX7_readPerson 108 = .ok (.getfield 103, 3) := by decide +kernel
theorem dX7_readPerson_111 : decode cX7_readPerson 111 = .ok (.iconst 1, 1) := by decide +kernel
theorem dX7_readPerson_112 : decode cX7_readPerson 112 = .ok (.iadd, 1) := by decide +kernel
theorem dX7_readPerson_113 : decode cX7_readPerson 113 = .ok (.putfield 103, 3) := by decide +kernel
theorem dX7_readPerson_116 : decode cX7_readPerson 116 = .ok (.iconst 1, 1) := by decide +kernel
theorem dX7_readPerson_117 : decode cX7_readPerson 117 = .ok (.ireturn, 1) := by decide +kernel
theorem dX7_readNews_0 : decode cX7_readNews 0 = .ok (.aload_n 0, 1) := by decide +kernel
theorem dX7_readNews_1 : decode cX7_readNews 1 = .ok (.iconst 0, 1) := by decide +kernel
theorem dX7_readNews_2 : decode cX7_readNews 2 = .ok (.bipush 9, 2) := by decide +kernel
end
section
theorem dX7_readNews_4 : decode cX7_readNews 4 = .ok (.invokevirtual 99, 3) := by decide +kernel
theorem dX7_readNews_7 : decode cX7_readNews 7 = .ok (.istore_n 1, 1) := by decide +kernel
theorem dX7_readNews_8 : decode cX7_readNews 8 = .ok (.iload_n 1, 1) := by decide +kernel
theorem dX7_readNews_9 : decode cX7_readNews 9 = .ok (.bipush (-9), 2) := by decide +kernel
theorem dX7_readNews_11 : decode cX7_readNews 11 = .ok (.if_icmp .ne 8, 3) := by decide +kernel
theorem dX7_readNews_14 : decode cX7_readNews 14 = .ok (.bipush (-9), 2) := by decide +kernel
theorem dX7_readNews_16 : decode cX7_readNews 16 = .ok (.goto 10, 3) := by decide +kernel
theorem dX7_readNews_19 : decode cX7_readNews 19 = .ok (.aload_n 0, 1) := by decide +kernel
theorem dX7_readNews_20 : decode cX7_readNews 20 = .ok (.iconst 0, 1) := by decide +kernel
theorem dX7_readNews_21 : decode cX7_readNews 21 = .ok (.bipush 9, 2) := by decide +kernel
theorem dX7_readNews_23 : decode cX7_readNews 23 = .ok (.invokevirtual 99, 3) := by decide +kernel
theorem dX7_readNews_26 : decode cX7_readNews 26 = .ok (.istore_n 2, 1) := by decide +kernel
theorem dX7_readNews_27 : decode cX7_readNews 27 = .ok (.iload_n 2, 1) := by decide +kernel
theorem dX7_readNews_28 : decode cX7_readNews 28 = .ok (.bipush (-9), 2) := by decide +kernel
theorem dX7_readNews_30 : decode cX7_readNews 30 = .ok (.if_icmp .ne 5, 3) := by decide +kernel
theorem dX7_readNews_33 : decode cX7_readNews 33 = .ok (.iconst 0, 1) := by decide +kernel
theorem dX7_readNews_34 : decode cX7_readNews 34 = .ok (.ireturn, 1) := by decide +kernel
theorem dX7_readNews_35 : decode cX7_readNews 35 = .ok (.aload_n 0, 1) := by decide +kernel
theorem dX7_readNews_36 : decode cX7_readNews 36 = .ok (.getfield 31, 3) := by decide +kernel
theorem dX7_readNews_39 : decode cX7_readNews 39 = .ok (.aload_n 0, 1) := by decide +kernel
theorem dX7_readNews_40 : decode cX7_readNews 40 = .ok (.getfield 106, 3) := by decide +kernel
theorem dX7_readNews_43 : decode cX7_readNews 43 = .ok (.iload_n 1, 1) := by decide +kernel
theorem dX7_readNews_44 : decode cX7_readNews 44 = .ok (.iastore, 1) := by decide +kernel
theorem dX7_readNews_45 : decode cX7_readNews 45 = .ok (.aload_n 0, 1) := by decide +kernel
theorem dX7_readNews_46 : decode cX7_readNews 46 = .ok (.getfield 34, 3) := by decide +kernel
theorem dX7_readNews_49 : decode cX7_readNews 49 = .ok (.aload_n 0, 1) := by decide +kernel
theorem dX7_readNews_50 : decode cX7_readNews 50 = .ok (.getfield 106, 3) := by decide +kernel
theorem dX7_readNews_53 : decode cX7_readNews 53 = .ok (.iload_n 2, 1) := by decide +kernel
theorem dX7_readNews_54 : decode cX7_readNews 54 = .ok (.iastore, 1) := by decide +kernel
theorem dX7_readNews_55 : decode cX7_readNews 55 = .ok (.aload_n 0, 1) := by decide +kernel
theorem dX7_readNews_56 : decode cX7_readNews 56 = .ok (.getfield 37, 3) := by decide +kernel
theorem dX7_readNews_59 : decode cX7_readNews 59 = .ok (.aload_n 0, 1) := by decide +kernel
theorem dX7_readNews_60 : decode cX7_readNews 60 = .ok (.getfield 106, 3) := by decide +kernel
theorem dX7_readNews_63 : decode cX7_readNews 63 = .ok (.iconst 0, 1) := by decide +kernel
theorem dX7_readNews_64 : decode cX7_readNews 64 = .ok (.iastore, 1) := by decide +kernel
theorem dX7_readNews_65 : decode cX7_readNews 65 = .ok (.aload_n 0, 1) := by decide +kernel
theorem dX7_readNews_66 : decode cX7_readNews 66 = .ok (.dup, 1) := by decide +kernel
theorem dX7_readNews_67 : decode cX7_readNews 67 = .ok (.getfield 106, 3) := by decide +kernel
theorem dX7_readNews_70 : decode cX7_readNews 70 = .ok (.iconst 1, 1) := by decide +kernel
theorem dX7_readNews_71 : decode cX7_readNews 71 = .ok (.iadd, 1) := by decide +kernel
theorem dX7_readNews_72 : decode cX7_readNews 72 = .ok (.putfield 106, 3) := by decide +kernel
theorem dX7_readNews_75 : decode cX7_readNews 75 = .ok (.iconst 1, 1) := by decide +kernel
theorem dX7_readNews_76 : decode cX7_readNews 76 = .ok (.ireturn, 1) := by decide +kernel
theorem dX7_readKnows_0 : decode cX7_readKnows 0 = .ok (.iload_n 1, 1) := by decide +kernel
theorem dX7_readKnows_1 : decode cX7_readKnows 1 = .ok (.bipush 48, 2) := by decide +kernel
theorem dX7_readKnows_3 : decode cX7_readKnows 3 = .ok (.isub, 1) := by decide +kernel
theorem dX7_readKnows_4 : decode cX7_readKnows 4 = .ok (.istore_n 2, 1) := by decide +kernel
theorem dX7_readKnows_5 : decode cX7_readKnows 5 = .ok (.aload_n 0, 1) := by decide +kernel
theorem dX7_readKnows_6 : decode cX7_readKnows 6 = .ok (.getfield 106, 3) := by decide +kernel
theorem dX7_readKnows_9 : decode cX7_readKnows 9 = .ok (.ifCond .eq 37, 3) := by decide +kernel
theorem dX7_readKnows_12 : decode cX7_readKnows 12 = .ok (.iload_n 2, 1) := by decide +kernel
theorem dX7_readKnows_13 : decode cX7_readKnows 13 = .ok (.i2l, 1) := by decide +kernel
theorem dX7_readKnows_14 : decode cX7_readKnows 14 = .ok (.lconst 0, 1) := by decide +kernel
theorem dX7_readKnows_15 : decode cX7_readKnows 15 = .ok (.aload_n 0, 1) := by decide +kernel
theorem dX7_readKnows_16 : decode cX7_readKnows 16 = .ok (.getfield 103, 3) := by decide +kernel
theorem dX7_readKnows_19 : decode cX7_readKnows 19 = .ok (.iconst 1, 1) := by decide +kernel
theorem dX7_readKnows_20 : decode cX7_readKnows 20 = .ok (.isub, 1) := by decide +kernel
theorem dX7_readKnows_21 : decode cX7_readKnows 21 = .ok (.i2l, 1) := by decide +kernel
theorem dX7_readKnows_22 : decode cX7_readKnows 22 = .ok (.invokestatic 84, 3) := by decide +kernel
theorem dX7_readKnows_25 : decode cX7_readKnows 25 = .ok (.ifCond .eq 21, 3) := by decide +kernel
theorem dX7_readKnows_28 : decode cX7_readKnows 28 = .ok (.aload_n 0, 1) := by decide +kernel
theorem dX7_readKnows_29 : decode cX7_readKnows 29 = .ok (.getfield 37, 3) := by decide +kernel
theorem dX7_readKnows_32 : decode cX7_readKnows 32 = .ok (.aload_n 0, 1) := by decide +kernel
theorem dX7_readKnows_33 : decode cX7_readKnows 33 = .ok (.getfield 106, 3) := by decide +kernel
theorem dX7_readKnows_36 : decode cX7_readKnows 36 = .ok (.iconst 1, 1) := by decide +kernel
theorem dX7_readKnows_37 : decode cX7_readKnows 37 = .ok (.isub, 1) := by decide +kernel
theorem dX7_readKnows_38 : decode cX7_readKnows 38 = .ok (.iaload, 1) := by decide +kernel
theorem dX7_readKnows_39 : decode cX7_readKnows 39 = .ok (.iload_n 2, 1) := by decide +kernel
theorem dX7_readKnows_40 : decode cX7_readKnows 40 = .ok (.invokestatic 109, 3) := by decide +kernel
theorem dX7_readKnows_43 : decode cX7_readKnows 43 = .ok (.ifCond .eq 5, 3) := by decide +kernel
theorem dX7_readKnows_46 : decode cX7_readKnows 46 = .ok (.iconst 0, 1) := by decide +kernel
theorem dX7_readKnows_47 : decode cX7_readKnows 47 = .ok (.ireturn, 1) := by decide +kernel
theorem dX7_readKnows_48 : decode cX7_readKnows 48 = .ok (.aload_n 0, 1) := by decide +kernel
theorem dX7_readKnows_49 : decode cX7_readKnows 49 = .ok (.getfield 37, 3) := by decide +kernel
theorem dX7_readKnows_52 : decode cX7_readKnows 52 = .ok (.aload_n 0, 1) := by decide +kernel
theorem dX7_readKnows_53 : decode cX7_readKnows 53 = .ok (.getfield 106, 3) := by decide +kernel
theorem dX7_readKnows_56 : decode cX7_readKnows 56 = .ok (.iconst 1, 1) := by decide +kernel
theorem dX7_readKnows_57 : decode cX7_readKnows 57 = .ok (.isub, 1) := by decide +kernel
theorem dX7_readKnows_58 : decode cX7_readKnows 58 = .ok (.dup2, 1) := by decide +kernel
theorem dX7_readKnows_59 : decode cX7_readKnows 59 = .ok (.iaload, 1) := by decide +kernel
theorem dX7_readKnows_60 : decode cX7_readKnows 60 = .ok (.iconst 1, 1) := by decide +kernel
theorem dX7_readKnows_61 : decode cX7_readKnows 61 = .ok (.iload_n 2, 1) := by decide +kernel
theorem dX7_readKnows_62 : decode cX7_readKnows 62 = .ok (.ishl, 1) := by decide +kernel
theorem dX7_readKnows_63 : decode cX7_readKnows 63 = .ok (.ior, 1) := by decide +kernel
theorem dX7_readKnows_64 : decode cX7_readKnows 64 = .ok (.iastore, 1) := by decide +kernel
theorem dX7_readKnows_65 : decode cX7_readKnows 65 = .ok (.aload_n 0, 1) := by decide +kernel
theorem dX7_readKnows_66 : decode cX7_readKnows 66 = .ok (.dup, 1) := by decide +kernel
theorem dX7_readKnows_67 : decode cX7_readKnows 67 = .ok (.getfield 96, 3) := by decide +kernel
theorem dX7_readKnows_70 : decode cX7_readKnows 70 = .ok (.iconst 1, 1) := by decide +kernel
theorem dX7_readKnows_71 : decode cX7_readKnows 71 = .ok (.iadd, 1) := by decide +kernel
theorem dX7_readKnows_72 : decode cX7_readKnows 72 = .ok (.putfield 96, 3) := by decide +kernel
theorem dX7_readKnows_75 : decode cX7_readKnows 75 = .ok (.iconst 1, 1) := by decide +kernel
theorem dX7_readKnows_76 : decode cX7_readKnows 76 = .ok (.ireturn, 1) := by decide +kernel
theorem dX7_readDay_0 : decode cX7_readDay 0 = .ok (.aload_n 0, 1) := by decide +kernel
theorem dX7_readDay_1 : decode cX7_readDay 1 = .ok (.iconst 0, 1) := by decide +kernel
theorem dX7_readDay_2 : decode cX7_readDay 2 = .ok (.putfield 96, 3) := by decide +kernel
theorem dX7_readDay_5 : decode cX7_readDay 5 = .ok (.aload_n 0, 1) := by decide +kernel
theorem dX7_readDay_6 : decode cX7_readDay 6 = .ok (.iconst 0, 1) := by decide +kernel
theorem dX7_readDay_7 : decode cX7_readDay 7 = .ok (.putfield 103, 3) := by decide +kernel
theorem dX7_readDay_10 : decode cX7_readDay 10 = .ok (.aload_n 0, 1) := by decide +kernel
theorem dX7_readDay_11 : decode cX7_readDay 11 = .ok (.iconst 0, 1) := by decide +kernel
theorem dX7_readDay_12 : decode cX7_readDay 12 = .ok (.putfield 106, 3) := by decide +kernel
theorem dX7_readDay_15 : decode cX7_readDay 15 = .ok (.aload_n 0, 1) := by decide +kernel
theorem dX7_readDay_16 : decode cX7_readDay 16 = .ok (.getfield 93, 3) := by decide +kernel
theorem dX7_readDay_19 : decode cX7_readDay 19 = .ok (.ifCond .eq 14, 3) := by decide +kernel
theorem dX7_readDay_22 : decode cX7_readDay 22 = .ok (.aload_n 0, 1) := by decide +kernel
theorem dX7_readDay_23 : decode cX7_readDay 23 = .ok (.getfield 7, 3) := by decide +kernel
theorem dX7_readDay_26 : decode cX7_readDay 26 = .ok (.iconst 0, 1) := by decide +kernel
theorem dX7_readDay_27 : decode cX7_readDay 27 = .ok (.iaload, 1) := by decide +kernel
theorem dX7_readDay_28 : decode cX7_readDay 28 = .ok (.bipush 68, 2) := by decide +kernel
theorem dX7_readDay_30 : decode cX7_readDay 30 = .ok (.if_icmp .eq 5, 3) := by decide +kernel
theorem dX7_readDay_33 : decode cX7_readDay 33 = .ok (.iconst 0, 1) := by decide +kernel
theorem dX7_readDay_34 : decode cX7_readDay 34 = .ok (.ireturn, 1) := by decide +kernel
theorem dX7_readDay_35 : decode cX7_readDay 35 = .ok (.aload_n 0, 1) := by decide +kernel
theorem dX7_readDay_36 : decode cX7_readDay 36 = .ok (.iconst 1, 1) := by decide +kernel
theorem dX7_readDay_37 : decode cX7_readDay 37 = .ok (.putfield 96, 3) := by decide +kernel
theorem dX7_readDay_40 : decode cX7_readDay 40 = .ok (.aload_n 0, 1) := by decide +kernel
theorem dX7_readDay_41 : decode cX7_readDay 41 = .ok (.aload_n 0, 1) := by decide +kernel
theorem dX7_readDay_42 : decode cX7_readDay 42 = .ok (.iconst 0, 1) := by decide +kernel
theorem dX7_readDay_43 : decode cX7_readDay 43 = .ok (.iconst 2, 1) := by decide +kernel
theorem dX7_readDay_44 : decode cX7_readDay 44 = .ok (.invokevirtual 99, 3) := by decide +kernel
theorem dX7_readDay_47 : decode cX7_readDay 47 = .ok (.putfield 113, 3) := by decide +kernel
theorem dX7_readDay_50 : decode cX7_readDay 50 = .ok (.aload_n 0, 1) := by decide +kernel
theorem dX7_readDay_51 : decode cX7_readDay 51 = .ok (.getfield 113, 3) := by decide +kernel
theorem dX7_readDay_54 : decode cX7_readDay 54 = .ok (.bipush (-9), 2) := by decide +kernel
theorem dX7_readDay_56 : decode cX7_readDay 56 = .ok (.if_icmp .ne 5, 3) := by decide +kernel
theorem dX7_readDay_59 : decode cX7_readDay 59 = .ok (.iconst 1, 1) := by decide +kernel
theorem dX7_readDay_60 : decode cX7_readDay 60 = .ok (.ireturn, 1) := by decide +kernel
theorem dX7_readDay_61 : decode cX7_readDay 61 = .ok (.iconst 0, 1) := by decide +kernel
theorem dX7_readDay_62 : decode cX7_readDay 62 = .ok (.istore_n 1, 1) := by decide +kernel
theorem dX7_readDay_63 : decode cX7_readDay 63 = .ok (.aload_n 0, 1) := by decide +kernel
theorem dX7_readDay_64 : decode cX7_readDay 64 = .ok (.getfield 96, 3) := by decide +kernel
theorem dX7_readDay_67 : decode cX7_readDay 67 = .ok (.aload_n 0, 1) := by decide +kernel
theorem dX7_readDay_68 : decode cX7_readDay 68 = .ok (.getfield 93, 3) := by decide +kernel
theorem dX7_readDay_71 : decode cX7_readDay 71 = .ok (.if_icmp .ge 114, 3) := by decide +kernel
theorem dX7_readDay_74 : decode cX7_readDay 74 = .ok (.aload_n 0, 1) := by decide +kernel
theorem dX7_readDay_75 : decode cX7_readDay 75 = .ok (.getfield 7, 3) := by decide +kernel
theorem dX7_readDay_78 : decode cX7_readDay 78 = .ok (.aload_n 0, 1) := by decide +kernel
theorem dX7_readDay_79 : decode cX7_readDay 79 = .ok (.getfield 96, 3) := by decide +kernel
theorem dX7_readDay_82 : decode cX7_readDay 82 = .ok (.iaload, 1) := by decide +kernel
theorem dX7_readDay_83 : decode cX7_readDay 83 = .ok (.istore_n 2, 1) := by decide +kernel
theorem dX7_readDay_84 : decode cX7_readDay 84 = .ok (.iconst 0, 1) := by decide +kernel
theorem dX7_readDay_85 : decode cX7_readDay 85 = .ok (.istore_n 3, 1) := by decide +kernel
theorem dX7_readDay_86 : decode cX7_readDay 86 = .ok (.iload_n 2, 1) := by decide +kernel
theorem dX7_readDay_87 : decode cX7_readDay 87 = .ok (.bipush 80, 2) := by decide +kernel
theorem dX7_readDay_89 : decode cX7_readDay 89 = .ok (.if_icmp .ne 32, 3) := by decide +kernel
theorem dX7_readDay_92 : decode cX7_readDay 92 = .ok (.aload_n 0, 1) := by decide +kernel
theorem dX7_readDay_93 : decode cX7_readDay 93 = .ok (.getfield 103, 3) := by decide +kernel
theorem dX7_readDay_96 : decode cX7_readDay 96 = .ok (.bipush 6, 2) := by decide +kernel
theorem dX7_readDay_98 : decode cX7_readDay 98 = .ok (.if_icmp .ge 23, 3) := by decide +kernel
theorem dX7_readDay_101 : decode cX7_readDay 101 = .ok (.aload_n 0, 1) := by decide +kernel
theorem dX7_readDay_102 : decode cX7_readDay 102 = .ok (.dup, 1) := by decide +kernel
theorem dX7_readDay_103 : decode cX7_readDay 103 = .ok (.getfield 96, 3) := by decide +kernel
theorem dX7_readDay_106 : decode cX7_readDay 106 = .ok (.iconst 1, 1) := by decide +kernel
theorem dX7_readDay_107 : decode cX7_readDay 107 = .ok (.iadd, 1) := by decide +kernel
theorem dX7_readDay_108 : decode cX7_readDay 108 = .ok (.putfield 96, 3) := by decide +kernel
theorem dX7_readDay_111 : decode cX7_readDay 111 = .ok (.iconst 0, 1) := by decide +kernel
theorem dX7_readDay_112 : decode cX7_readDay 112 = .ok (.istore_n 1, 1) := by decide +kernel
theorem dX7_readDay_113 : decode cX7_readDay 113 = .ok (.aload_n 0, 1) := by decide +kernel
theorem dX7_readDay_114 : decode cX7_readDay 114 = .ok (.invokevirtual 116, 3) := by decide +kernel
theorem dX7_readDay_117 : decode cX7_readDay 117 = .ok (.istore_n 3, 1) := by decide +kernel
theorem dX7_readDay_118 : decode cX7_readDay 118 = .ok (.goto 55, 3) := by decide +kernel
theorem dX7_readDay_121 : decode cX7_readDay 121 = .ok (.iload_n 2, 1) := by decide +kernel
theorem dX7_readDay_122 : decode cX7_readDay 122 = .ok (.bipush 78, 2) := by decide +kernel
theorem dX7_readDay_124 : decode cX7_readDay 124 = .ok (.if_icmp .ne 31, 3) := by decide +kernel
theorem dX7_readDay_127 : decode cX7_readDay 127 = .ok (.aload_n 0, 1) := by decide +kernel
theorem dX7_readDay_128 : decode cX7_readDay 128 = .ok (.getfield 106, 3) := by decide +kernel
theorem dX7_readDay_131 : decode cX7_readDay 131 = .ok (.iconst 3, 1) := by decide +kernel
theorem dX7_readDay_132 : decode cX7_readDay 132 = .ok (.if_icmp .ge 23, 3) := by decide +kernel
theorem dX7_readDay_135 : decode cX7_readDay 135 = .ok (.aload_n 0, 1) := by decide +kernel
theorem dX7_readDay_136 : decode cX7_readDay 136 = .ok (.dup, 1) := by decide +kernel
theorem dX7_readDay_137 : decode cX7_readDay 137 = .ok (.getfield 96, 3) := by decide +kernel
theorem dX7_readDay_140 : decode cX7_readDay 140 = .ok (.iconst 1, 1) := by decide +kernel
theorem dX7_readDay_141 : decode cX7_readDay 141 = .ok (.iadd, 1) := by decide +kernel
theorem dX7_readDay_142 : decode cX7_readDay 142 = .ok (.putfield 96, 3) := by decide +kernel
theorem dX7_readDay_145 : decode cX7_readDay 145 = .ok (.iconst 1, 1) := by decide +kernel
theorem dX7_readDay_146 : decode cX7_readDay 146 = .ok (.istore_n 1, 1) := by decide +kernel
theorem dX7_readDay_147 : decode cX7_readDay 147 = .ok (.aload_n 0, 1) := by decide +kernel
theorem dX7_readDay_148 : decode cX7_readDay 148 = .ok (.invokevirtual 120, 3) := by decide +kernel
theorem dX7_readDay_151 : decode cX7_readDay 151 = .ok (.istore_n 3, 1) := by decide +kernel
theorem dX7_readDay_152 : decode cX7_readDay 152 = .ok (.goto 21, 3) := by decide +kernel
theorem dX7_readDay_155 : decode cX7_readDay 155 = .ok (.iload_n 1, 1) := by decide +kernel
theorem dX7_readDay_156 : decode cX7_readDay 156 = .ok (.ifCond .eq 15, 3) := by decide +kernel
theorem dX7_readDay_159 : decode cX7_readDay 159 = .ok (.aload_n 0, 1) := by decide +kernel
theorem dX7_readDay_160 : decode cX7_readDay 160 = .ok (.iload_n 2, 1) := by decide +kernel
theorem dX7_readDay_161 : decode cX7_readDay 161 = .ok (.invokevirtual 122, 3) := by decide +kernel
theorem dX7_readDay_164 : decode cX7_readDay 164 = .ok (.ifCond .eq 7, 3) := by decide +kernel
theorem dX7_readDay_167 : decode cX7_readDay 167 = .ok (.iconst 1, 1) := by decide +kernel
theorem dX7_readDay_168 : decode cX7_readDay 168 = .ok (.goto 4, 3) := by decide +kernel
theorem dX7_readDay_171 : decode cX7_readDay 171 = .ok (.iconst 0, 1) := by decide +kernel
theorem dX7_readDay_172 : decode cX7_readDay 172 = .ok (.istore_n 3, 1) := by decide +kernel
theorem dX7_readDay_173 : decode cX7_readDay 173 = .ok (.iload_n 3, 1) := by decide +kernel
theorem dX7_readDay_174 : decode cX7_readDay 174 = .ok (.ifCond .ne 8, 3) := by decide +kernel
theorem dX7_readDay_177 : decode cX7_readDay 177 = .ok (.aload_n 0, 1) := by decide +kernel
theorem dX7_readDay_178 : decode cX7_readDay 178 = .ok (.getfield 96, 3) := by decide +kernel
theorem dX7_readDay_181 : decode cX7_readDay 181 = .ok (.ireturn, 1) := by decide +kernel
theorem dX7_readDay_182 : decode cX7_readDay 182 = .ok (.goto (-119), 3) := by decide +kernel
theorem dX7_readDay_185 : decode cX7_readDay 185 = .ok (.bipush (-9), 2) := by decide +kernel
theorem dX7_readDay_187 : decode cX7_readDay 187 = .ok (.ireturn, 1) := by decide +kernel
theorem dX7_fault_0 : decode cX7_fault 0 = .ok (.aload_n 0, 1) := by decide +kernel
theorem dX7_fault_1 : decode cX7_fault 1 = .ok (.iconst 0, 1) := by decide +kernel
theorem dX7_fault_2 : decode cX7_fault 2 = .ok (.putfield 77, 3) := by decide +kernel
theorem dX7_fault_5 : decode cX7_fault 5 = .ok (.aload_n 0, 1) := by decide +kernel
theorem dX7_fault_6 : decode cX7_fault 6 = .ok (.invokevirtual 126, 3) := by decide +kernel
theorem dX7_fault_9 : decode cX7_fault 9 = .ok (.ireturn, 1) := by decide +kernel
theorem dX7_day_0 : decode cX7_day 0 = .ok (.aload_n 0, 1) := by decide +kernel
theorem dX7_day_1 : decode cX7_day 1 = .ok (.iconst 0, 1) := by decide +kernel
theorem dX7_day_2 : decode cX7_day 2 = .ok (.putfield 77, 3) := by decide +kernel
theorem dX7_day_5 : decode cX7_day 5 = .ok (.aload_n 0, 1) := by decide +kernel
theorem dX7_day_6 : decode cX7_day 6 = .ok (.invokevirtual 126, 3) := by decide +kernel
theorem dX7_day_9 : decode cX7_day 9 = .ok (.bipush (-9), 2) := by decide +kernel
theorem dX7_day_11 : decode cX7_day 11 = .ok (.if_icmp .eq 6, 3) := by decide +kernel
theorem dX7_day_14 : decode cX7_day 14 = .ok (.bipush (-3), 2) := by decide +kernel
theorem dX7_day_16 : decode cX7_day 16 = .ok (.ireturn, 1) := by decide +kernel
theorem dX7_day_17 : decode cX7_day 17 = .ok (.aload_n 0, 1) := by decide +kernel
theorem dX7_day_18 : decode cX7_day 18 = .ok (.aload_n 0, 1) := by decide +kernel
theorem dX7_day_19 : decode cX7_day 19 = .ok (.getfield 103, 3) := by decide +kernel
theorem dX7_day_22 : decode cX7_day 22 = .ok (.putfield 81, 3) := by decide +kernel
theorem dX7_day_25 : decode cX7_day 25 = .ok (.aload_n 0, 1) := by decide +kernel
theorem dX7_day_26 : decode cX7_day 26 = .ok (.aload_n 0, 1) := by decide +kernel
theorem dX7_day_27 : decode cX7_day 27 = .ok (.getfield 106, 3) := by decide +kernel
theorem dX7_day_30 : decode cX7_day 30 = .ok (.putfield 88, 3) := by decide +kernel
theorem dX7_day_33 : decode cX7_day 33 = .ok (.aload_n 0, 1) := by decide +kernel
theorem dX7_day_34 : decode cX7_day 34 = .ok (.aload_n 0, 1) := by decide +kernel
theorem dX7_day_35 : decode cX7_day 35 = .ok (.getfield 113, 3) := by decide +kernel
theorem dX7_day_38 : decode cX7_day 38 = .ok (.putfield 130, 3) := by decide +kernel
theorem dX7_day_41 : decode cX7_day 41 = .ok (.iconst 0, 1) := by decide +kernel
theorem dX7_day_42 : decode cX7_day 42 = .ok (.istore_n 1, 1) := by decide +kernel
theorem dX7_day_43 : decode cX7_day 43 = .ok (.iload_n 1, 1) := by decide +kernel
theorem dX7_day_44 : decode cX7_day 44 = .ok (.bipush 6, 2) := by decide +kernel
theorem dX7_day_46 : decode cX7_day 46 = .ok (.aload_n 0, 1) := by decide +kernel
theorem dX7_day_47 : decode cX7_day 47 = .ok (.getfield 81, 3) := by decide +kernel
theorem dX7_day_50 : decode cX7_day 50 = .ok (.imul, 1) := by decide +kernel
theorem dX7_day_51 : decode cX7_day 51 = .ok (.if_icmp .ge 21, 3) := by decide +kernel
theorem dX7_day_54 : decode cX7_day 54 = .ok (.aload_n 0, 1) := by decide +kernel
theorem dX7_day_55 : decode cX7_day 55 = .ok (.getfield 13, 3) := by decide +kernel
theorem dX7_day_58 : decode cX7_day 58 = .ok (.iload_n 1, 1) := by decide +kernel
theorem dX7_day_59 : decode cX7_day 59 = .ok (.aload_n 0, 1) := by decide +kernel
theorem dX7_day_60 : decode cX7_day 60 = .ok (.getfield 28, 3) := by decide +kernel
theorem dX7_day_63 : decode cX7_day 63 = .ok (.iload_n 1, 1) := by decide +kernel
theorem dX7_day_64 : decode cX7_day 64 = .ok (.iaload, 1) := by decide +kernel
theorem dX7_day_65 : decode cX7_day 65 = .ok (.iastore, 1) := by decide +kernel
theorem dX7_day_66 : decode cX7_day 66 = .ok (.iinc 1 1, 3) := by decide +kernel
theorem dX7_day_69 : decode cX7_day 69 = .ok (.goto (-26), 3) := by decide +kernel
theorem dX7_day_72 : decode cX7_day 72 = .ok (.iconst 0, 1) := by decide +kernel
theorem dX7_day_73 : decode cX7_day 73 = .ok (.istore_n 1, 1) := by decide +kernel
theorem dX7_day_74 : decode cX7_day 74 = .ok (.iload_n 1, 1) := by decide +kernel
theorem dX7_day_75 : decode cX7_day 75 = .ok (.bipush 58, 2) := by decide +kernel
theorem dX7_day_77 : decode cX7_day 77 = .ok (.if_icmp .ge 16, 3) := by decide +kernel
theorem dX7_day_80 : decode cX7_day 80 = .ok (.aload_n 0, 1) := by decide +kernel
theorem dX7_day_81 : decode cX7_day 81 = .ok (.getfield 25, 3) := by decide +kernel
theorem dX7_day_84 : decode cX7_day 84 = .ok (.iload_n 1, 1) := by decide +kernel
theorem dX7_day_85 : decode cX7_day 85 = .ok (.iconst 0, 1) := by decide +kernel
theorem dX7_day_86 : decode cX7_day 86 = .ok (.iastore, 1) := by decide +kernel
theorem dX7_day_87 : decode cX7_day 87 = .ok (.iinc 1 1, 3) := by decide +kernel
theorem dX7_day_90 : decode cX7_day 90 = .ok (.goto (-16), 3) := by decide +kernel
theorem dX7_day_93 : decode cX7_day 93 = .ok (.iconst 0, 1) := by decide +kernel
theorem dX7_day_94 : decode cX7_day 94 = .ok (.istore_n 1, 1) := by decide +kernel
theorem dX7_day_95 : decode cX7_day 95 = .ok (.iload_n 1, 1) := by decide +kernel
theorem dX7_day_96 : decode cX7_day 96 = .ok (.aload_n 0, 1) := by decide +kernel
theorem dX7_day_97 : decode cX7_day 97 = .ok (.getfield 88, 3) := by decide +kernel
theorem dX7_day_100 : decode cX7_day 100 = .ok (.if_icmp .ge 59, 3) := by decide +kernel
theorem dX7_day_103 : decode cX7_day 103 = .ok (.aload_n 0, 1) := by decide +kernel
theorem dX7_day_104 : decode cX7_day 104 = .ok (.getfield 16, 3) := by decide +kernel
theorem dX7_day_107 : decode cX7_day 107 = .ok (.iload_n 1, 1) := by decide +kernel
theorem dX7_day_108 : decode cX7_day 108 = .ok (.aload_n 0, 1) := by decide +kernel
theorem dX7_day_109 : decode cX7_day 109 = .ok (.getfield 31, 3) := by decide +kernel
theorem dX7_day_112 : decode cX7_day 112 = .ok (.iload_n 1, 1) := by decide +kernel
theorem dX7_day_113 : decode cX7_day 113 = .ok (.iaload, 1) := by decide +kernel
theorem dX7_day_114 : decode cX7_day 114 = .ok (.iastore, 1) := by decide +kernel
theorem dX7_day_115 : decode cX7_day 115 = .ok (.aload_n 0, 1) := by decide +kernel
theorem dX7_day_116 : decode cX7_day 116 = .ok (.getfield 19, 3) := by decide +kernel
theorem dX7_day_119 : decode cX7_day 119 = .ok (.iload_n 1, 1) := by decide +kernel
theorem dX7_day_120 : decode cX7_day 120 = .ok (.aload_n 0, 1) := by decide +kernel
theorem dX7_day_121 : decode cX7_day 121 = .ok (.getfield 34, 3) := by decide +kernel
theorem dX7_day_124 : decode cX7_day 124 = .ok (.iload_n 1, 1) := by decide +kernel
theorem dX7_day_125 : decode cX7_day 125 = .ok (.iaload, 1) := by decide +kernel
theorem dX7_day_126 : decode cX7_day 126 = .ok (.iastore, 1) := by decide +kernel
theorem dX7_day_127 : decode cX7_day 127 = .ok (.aload_n 0, 1) := by decide +kernel
theorem dX7_day_128 : decode cX7_day 128 = .ok (.getfield 22, 3) := by decide +kernel
theorem dX7_day_131 : decode cX7_day 131 = .ok (.iload_n 1, 1) := by decide +kernel
theorem dX7_day_132 : decode cX7_day 132 = .ok (.aload_n 0, 1) := by decide +kernel
theorem dX7_day_133 : decode cX7_day 133 = .ok (.getfield 37, 3) := by decide +kernel
theorem dX7_day_136 : decode cX7_day 136 = .ok (.iload_n 1, 1) := by decide +kernel
theorem dX7_day_137 : decode cX7_day 137 = .ok (.iaload, 1) := by decide +kernel
theorem dX7_day_138 : decode cX7_day 138 = .ok (.iastore, 1) := by decide +kernel
theorem dX7_day_139 : decode cX7_day 139 = .ok (.aload_n 0, 1) := by decide +kernel
theorem dX7_day_140 : decode cX7_day 140 = .ok (.getfield 25, 3) := by decide +kernel
theorem dX7_day_143 : decode cX7_day 143 = .ok (.iconst 3, 1) := by decide +kernel
theorem dX7_day_144 : decode cX7_day 144 = .ok (.iload_n 1, 1) := by decide +kernel
theorem dX7_day_145 : decode cX7_day 145 = .ok (.iadd, 1) := by decide +kernel
theorem dX7_day_146 : decode cX7_day 146 = .ok (.aload_n 0, 1) := by decide +kernel
theorem dX7_day_147 : decode cX7_day 147 = .ok (.getfield 22, 3) := by decide +kernel
theorem dX7_day_150 : decode cX7_day 150 = .ok (.iload_n 1, 1) := by decide +kernel
theorem dX7_day_151 : decode cX7_day 151 = .ok (.iaload, 1) := by decide +kernel
theorem dX7_day_152 : decode cX7_day 152 = .ok (.iastore, 1) := by decide +kernel
theorem dX7_day_153 : decode cX7_day 153 = .ok (.iinc 1 1, 3) := by decide +kernel
theorem dX7_day_156 : decode cX7_day 156 = .ok (.goto (-61), 3) := by decide +kernel
theorem dX7_day_159 : decode cX7_day 159 = .ok (.aload_n 0, 1) := by decide +kernel
theorem dX7_day_160 : decode cX7_day 160 = .ok (.aload_n 0, 1) := by decide +kernel
theorem dX7_day_161 : decode cX7_day 161 = .ok (.getfield 25, 3) := by decide +kernel
theorem dX7_day_164 : decode cX7_day 164 = .ok (.invokevirtual 133, 3) := by decide +kernel
theorem dX7_day_167 : decode cX7_day 167 = .ok (.aload_n 0, 1) := by decide +kernel
theorem dX7_day_168 : decode cX7_day 168 = .ok (.getfield 22, 3) := by decide +kernel
theorem dX7_day_171 : decode cX7_day 171 = .ok (.iconst 2, 1) := by decide +kernel
theorem dX7_day_172 : decode cX7_day 172 = .ok (.aload_n 0, 1) := by decide +kernel
theorem dX7_day_173 : decode cX7_day 173 = .ok (.getfield 25, 3) := by decide +kernel
theorem dX7_day_176 : decode cX7_day 176 = .ok (.iconst 5, 1) := by decide +kernel
theorem dX7_day_177 : decode cX7_day 177 = .ok (.iaload, 1) := by decide +kernel
theorem dX7_day_178 : decode cX7_day 178 = .ok (.iastore, 1) := by decide +kernel
theorem dX7_day_179 : decode cX7_day 179 = .ok (.aload_n 0, 1) := by decide +kernel
theorem dX7_day_180 : decode cX7_day 180 = .ok (.iconst 0, 1) := by decide +kernel
theorem dX7_day_181 : decode cX7_day 181 = .ok (.putfield 137, 3) := by decide +kernel
theorem dX7_day_184 : decode cX7_day 184 = .ok (.aload_n 0, 1) := by decide +kernel
theorem dX7_day_185 : decode cX7_day 185 = .ok (.iconst 0, 1) := by decide +kernel
theorem dX7_day_186 : decode cX7_day 186 = .ok (.putfield 140, 3) := by decide +kernel
theorem dX7_day_189 : decode cX7_day 189 = .ok (.aload_n 0, 1) := by decide +kernel
theorem dX7_day_190 : decode cX7_day 190 = .ok (.getfield 46, 3) := by decide +kernel
theorem dX7_day_193 : decode cX7_day 193 = .ok (.iconst 0, 1) := by decide +kernel
theorem dX7_day_194 : decode cX7_day 194 = .ok (.iconst 0, 1) := by decide +kernel
theorem dX7_day_195 : decode cX7_day 195 = .ok (.bastore, 1) := by decide +kernel
theorem dX7_day_196 : decode cX7_day 196 = .ok (.aload_n 0, 1) := by decide +kernel
theorem dX7_day_197 : decode cX7_day 197 = .ok (.getfield 46, 3) := by decide +kernel
theorem dX7_day_200 : decode cX7_day 200 = .ok (.iconst 1, 1) := by decide +kernel
theorem dX7_day_201 : decode cX7_day 201 = .ok (.iconst 0, 1) := by decide +kernel
theorem dX7_day_202 : decode cX7_day 202 = .ok (.bastore, 1) := by decide +kernel
theorem dX7_day_203 : decode cX7_day 203 = .ok (.aload_n 0, 1) := by decide +kernel
theorem dX7_day_204 : decode cX7_day 204 = .ok (.getfield 81, 3) := by decide +kernel
theorem dX7_day_207 : decode cX7_day 207 = .ok (.ireturn, 1) := by decide +kernel
theorem dX7_halve_0 : decode cX7_halve 0 = .ok (.aload_n 1, 1) := by decide +kernel
theorem dX7_halve_1 : decode cX7_halve 1 = .ok (.iconst 5, 1) := by decide +kernel
theorem dX7_halve_2 : decode cX7_halve 2 = .ok (.dup2, 1) := by decide +kernel
theorem dX7_halve_3 : decode cX7_halve 3 = .ok (.iaload, 1) := by decide +kernel
theorem dX7_halve_4 : decode cX7_halve 4 = .ok (.aload_n 0, 1) := by decide +kernel
theorem dX7_halve_5 : decode cX7_halve 5 = .ok (.getfield 88, 3) := by decide +kernel
theorem dX7_halve_8 : decode cX7_halve 8 = .ok (.iconst 3, 1) := by decide +kernel
theorem dX7_halve_9 : decode cX7_halve 9 = .ok (.if_icmp .ne 13, 3) := by decide +kernel
theorem dX7_halve_12 : decode cX7_halve 12 = .ok (.aload_n 1, 1) := by decide +kernel
theorem dX7_halve_13 : decode cX7_halve 13 = .ok (.iconst 3, 1) := by decide +kernel
theorem dX7_halve_14 : decode cX7_halve 14 = .ok (.iaload, 1) := by decide +kernel
theorem dX7_halve_15 : decode cX7_halve 15 = .ok (.aload_n 1, 1) := by decide +kernel
theorem dX7_halve_16 : decode cX7_halve 16 = .ok (.iconst 4, 1) := by decide +kernel
theorem dX7_halve_17 : decode cX7_halve 17 = .ok (.iaload, 1) := by decide +kernel
theorem dX7_halve_18 : decode cX7_halve 18 = .ok (.iand, 1) := by decide +kernel
theorem dX7_halve_19 : decode cX7_halve 19 = .ok (.goto 4, 3) := by decide +kernel
theorem dX7_halve_22 : decode cX7_halve 22 = .ok (.iconst 0, 1) := by decide +kernel
theorem dX7_halve_23 : decode cX7_halve 23 = .ok (.ior, 1) := by decide +kernel
theorem dX7_halve_24 : decode cX7_halve 24 = .ok (.iastore, 1) := by decide +kernel
theorem dX7_halve_25 : decode cX7_halve 25 = .ok (.return_, 1) := by decide +kernel
theorem dX7_about_0 : decode cX7_about 0 = .ok (.aload_n 0, 1) := by decide +kernel
theorem dX7_about_1 : decode cX7_about 1 = .ok (.iconst 0, 1) := by decide +kernel
theorem dX7_about_2 : decode cX7_about 2 = .ok (.putfield 77, 3) := by decide +kernel
theorem dX7_about_5 : decode cX7_about 5 = .ok (.iconst 0, 1) := by decide +kernel
theorem dX7_about_6 : decode cX7_about 6 = .ok (.istore_n 2, 1) := by decide +kernel
theorem dX7_about_7 : decode cX7_about 7 = .ok (.iconst 0, 1) := by decide +kernel
theorem dX7_about_8 : decode cX7_about 8 = .ok (.istore_n 3, 1) := by decide +kernel
theorem dX7_about_9 : decode cX7_about 9 = .ok (.iconst 0, 1) := by decide +kernel
theorem dX7_about_10 : decode cX7_about 10 = .ok (.istore 4, 2) := by decide +kernel
theorem dX7_about_12 : decode cX7_about 12 = .ok (.iload 4, 2) := by decide +kernel
theorem dX7_about_14 : decode cX7_about 14 = .ok (.aload_n 0, 1) := by decide +kernel
theorem dX7_about_15 : decode cX7_about 15 = .ok (.getfield 88, 3) := by decide +kernel
theorem dX7_about_18 : decode cX7_about 18 = .ok (.if_icmp .ge 42, 3) := by decide +kernel
theorem dX7_about_21 : decode cX7_about 21 = .ok (.iload_n 2, 1) := by decide +kernel
theorem dX7_about_22 : decode cX7_about 22 = .ok (.aload_n 0, 1) := by decide +kernel
theorem dX7_about_23 : decode cX7_about 23 = .ok (.getfield 25, 3) := by decide +kernel
theorem dX7_about_26 : decode cX7_about 26 = .ok (.iload 4, 2) := by decide +kernel
theorem dX7_about_28 : decode cX7_about 28 = .ok (.iaload, 1) := by decide +kernel
theorem dX7_about_29 : decode cX7_about 29 = .ok (.iadd, 1) := by decide +kernel
theorem dX7_about_30 : decode cX7_about 30 = .ok (.istore_n 2, 1) := by decide +kernel
theorem dX7_about_31 : decode cX7_about 31 = .ok (.iload_n 3, 1) := by decide +kernel
theorem dX7_about_32 : decode cX7_about 32 = .ok (.aload_n 0, 1) := by decide +kernel
theorem dX7_about_33 : decode cX7_about 33 = .ok (.getfield 19, 3) := by decide +kernel
theorem dX7_about_36 : decode cX7_about 36 = .ok (.iload 4, 2) := by decide +kernel
theorem dX7_about_38 : decode cX7_about 38 = .ok (.iaload, 1) := by decide +kernel
theorem dX7_about_39 : decode cX7_about 39 = .ok (.aload_n 0, 1) := by decide +kernel
theorem dX7_about_40 : decode cX7_about 40 = .ok (.getfield 25, 3) := by decide +kernel
theorem dX7_about_43 : decode cX7_about 43 = .ok (.iconst 3, 1) := by decide +kernel
theorem dX7_about_44 : decode cX7_about 44 = .ok (.iload 4, 2) := by decide +kernel
theorem dX7_about_46 : decode cX7_about 46 = .ok (.iadd, 1) := by decide +kernel
theorem dX7_about_47 : decode cX7_about 47 = .ok (.iaload, 1) := by decide +kernel
theorem dX7_about_48 : decode cX7_about 48 = .ok (.invokestatic 143, 3) := by decide +kernel
theorem dX7_about_51 : decode cX7_about 51 = .ok (.imul, 1) := by decide +kernel
theorem dX7_about_52 : decode cX7_about 52 = .ok (.iadd, 1) := by decide +kernel
theorem dX7_about_53 : decode cX7_about 53 = .ok (.istore_n 3, 1) := by decide +kernel
theorem dX7_about_54 : decode cX7_about 54 = .ok (.iinc 4 1, 3) := by decide +kernel
theorem dX7_about_57 : decode cX7_about 57 = .ok (.goto (-45), 3) := by decide +kernel
theorem dX7_about_60 : decode cX7_about 60 = .ok (.iload_n 1, 1) := by decide +kernel
theorem dX7_about_61 : decode cX7_about 61 = .ok (.tableswitch 90 0 8 #[51, 56, 61, 66, 71, 76, 78, 80, 85], 51) := by decide +kernel
theorem dX7_about_112 : decode cX7_about 112 = .ok (.aload_n 0, 1) := by decide +kernel
theorem dX7_about_113 : decode cX7_about 113 = .ok (.getfield 81, 3) := by decide +kernel
theorem dX7_about_116 : decode cX7_about 116 = .ok (.ireturn, 1) := by decide +kernel
theorem dX7_about_117 : decode cX7_about 117 = .ok (.aload_n 0, 1) := by decide +kernel
theorem dX7_about_118 : decode cX7_about 118 = .ok (.getfield 88, 3) := by decide +kernel
theorem dX7_about_121 : decode cX7_about 121 = .ok (.ireturn, 1) := by decide +kernel
theorem dX7_about_122 : decode cX7_about 122 = .ok (.aload_n 0, 1) := by decide +kernel
theorem dX7_about_123 : decode cX7_about 123 = .ok (.getfield 130, 3) := by decide +kernel
theorem dX7_about_126 : decode cX7_about 126 = .ok (.ireturn, 1) := by decide +kernel
theorem dX7_about_127 : decode cX7_about 127 = .ok (.aload_n 0, 1) := by decide +kernel
theorem dX7_about_128 : decode cX7_about 128 = .ok (.getfield 137, 3) := by decide +kernel
theorem dX7_about_131 : decode cX7_about 131 = .ok (.ireturn, 1) := by decide +kernel
theorem dX7_about_132 : decode cX7_about 132 = .ok (.aload_n 0, 1) := by decide +kernel
theorem dX7_about_133 : decode cX7_about 133 = .ok (.getfield 140, 3) := by decide +kernel
theorem dX7_about_136 : decode cX7_about 136 = .ok (.ireturn, 1) := by decide +kernel
theorem dX7_about_137 : decode cX7_about 137 = .ok (.iload_n 2, 1) := by decide +kernel
theorem dX7_about_138 : decode cX7_about 138 = .ok (.ireturn, 1) := by decide +kernel
theorem dX7_about_139 : decode cX7_about 139 = .ok (.iload_n 3, 1) := by decide +kernel
theorem dX7_about_140 : decode cX7_about 140 = .ok (.ireturn, 1) := by decide +kernel
theorem dX7_about_141 : decode cX7_about 141 = .ok (.aload_n 0, 1) := by decide +kernel
theorem dX7_about_142 : decode cX7_about 142 = .ok (.getfield 147, 3) := by decide +kernel
theorem dX7_about_145 : decode cX7_about 145 = .ok (.ireturn, 1) := by decide +kernel
theorem dX7_about_146 : decode cX7_about 146 = .ok (.aload_n 0, 1) := by decide +kernel
theorem dX7_about_147 : decode cX7_about 147 = .ok (.getfield 93, 3) := by decide +kernel
theorem dX7_about_150 : decode cX7_about 150 = .ok (.ireturn, 1) := by decide +kernel
theorem dX7_about_151 : decode cX7_about 151 = .ok (.bipush (-2), 2) := by decide +kernel
theorem dX7_about_153 : decode cX7_about 153 = .ok (.ireturn, 1) := by decide +kernel
theorem dX7_where_0 : decode cX7_where 0 = .ok (.aload_n 0, 1) := by decide +kernel
theorem dX7_where_1 : decode cX7_where 1 = .ok (.iconst 0, 1) := by decide +kernel
theorem dX7_where_2 : decode cX7_where 2 = .ok (.putfield 77, 3) := by decide +kernel
theorem dX7_where_5 : decode cX7_where 5 = .ok (.aload_n 0, 1) := by decide +kernel
theorem dX7_where_6 : decode cX7_where 6 = .ok (.iload_n 1, 1) := by decide +kernel
theorem dX7_where_7 : decode cX7_where 7 = .ok (.invokevirtual 150, 3) := by decide +kernel
theorem dX7_where_10 : decode cX7_where 10 = .ok (.ifCond .eq 5, 3) := by decide +kernel
theorem dX7_where_13 : decode cX7_where 13 = .ok (.iconst (-1), 1) := by decide +kernel
theorem dX7_where_14 : decode cX7_where 14 = .ok (.ireturn, 1) := by decide +kernel
theorem dX7_where_15 : decode cX7_where 15 = .ok (.iload_n 2, 1) := by decide +kernel
theorem dX7_where_16 : decode cX7_where 16 = .ok (.i2l, 1) := by decide +kernel
theorem dX7_where_17 : decode cX7_where 17 = .ok (.lconst 0, 1) := by decide +kernel
theorem dX7_where_18 : decode cX7_where 18 = .ok (.ldc2_w 153, 3) := by decide +kernel
theorem dX7_where_21 : decode cX7_where 21 = .ok (.invokestatic 84, 3) := by decide +kernel
theorem dX7_where_24 : decode cX7_where 24 = .ok (.ifCond .eq 17, 3) := by decide +kernel
theorem dX7_where_27 : decode cX7_where 27 = .ok (.aload_n 0, 1) := by decide +kernel
theorem dX7_where_28 : decode cX7_where 28 = .ok (.getfield 13, 3) := by decide +kernel
theorem dX7_where_31 : decode cX7_where 31 = .ok (.bipush 6, 2) := by decide +kernel
theorem dX7_where_33 : decode cX7_where 33 = .ok (.iload_n 1, 1) := by decide +kernel
theorem dX7_where_34 : decode cX7_where 34 = .ok (.imul, 1) := by decide +kernel
theorem dX7_where_35 : decode cX7_where 35 = .ok (.iload_n 2, 1) := by decide +kernel
theorem dX7_where_36 : decode cX7_where 36 = .ok (.iadd, 1) := by decide +kernel
theorem dX7_where_37 : decode cX7_where 37 = .ok (.iaload, 1) := by decide +kernel
theorem dX7_where_38 : decode cX7_where 38 = .ok (.goto 5, 3) := by decide +kernel
theorem dX7_where_41 : decode cX7_where 41 = .ok (.bipush (-2), 2) := by decide +kernel
theorem dX7_where_43 : decode cX7_where 43 = .ok (.ireturn, 1) := by decide +kernel
theorem dX7_news_0 : decode cX7_news 0 = .ok (.aload_n 0, 1) := by decide +kernel
theorem dX7_news_1 : decode cX7_news 1 = .ok (.iconst 0, 1) := by decide +kernel
theorem dX7_news_2 : decode cX7_news 2 = .ok (.putfield 77, 3) := by decide +kernel
theorem dX7_news_5 : decode cX7_news 5 = .ok (.aload_n 0, 1) := by decide +kernel
theorem dX7_news_6 : decode cX7_news 6 = .ok (.iload_n 1, 1) := by decide +kernel
theorem dX7_news_7 : decode cX7_news 7 = .ok (.invokevirtual 155, 3) := by decide +kernel
theorem dX7_news_10 : decode cX7_news 10 = .ok (.ifCond .eq 5, 3) := by decide +kernel
theorem dX7_news_13 : decode cX7_news 13 = .ok (.iconst (-1), 1) := by decide +kernel
theorem dX7_news_14 : decode cX7_news 14 = .ok (.ireturn, 1) := by decide +kernel
theorem dX7_news_15 : decode cX7_news 15 = .ok (.iload_n 2, 1) := by decide +kernel
theorem dX7_news_16 : decode cX7_news 16 = .ok (.tableswitch 73 0 4 #[36, 43, 50, 57, 66], 36) := by decide +kernel
theorem dX7_news_52 : decode cX7_news 52 = .ok (.aload_n 0, 1) := by decide +kernel
theorem dX7_news_53 : decode cX7_news 53 = .ok (.getfield 16, 3) := by decide +kernel
theorem dX7_news_56 : decode cX7_news 56 = .ok (.iload_n 1, 1) := by decide +kernel
theorem dX7_news_57 : decode cX7_news 57 = .ok (.iaload, 1) := by decide +kernel
theorem dX7_news_58 : decode cX7_news 58 = .ok (.ireturn, 1) := by decide +kernel
theorem dX7_news_59 : decode cX7_news 59 = .ok (.aload_n 0, 1) := by decide +kernel
theorem dX7_news_60 : decode cX7_news 60 = .ok (.getfield 19, 3) := by decide +kernel
theorem dX7_news_63 : decode cX7_news 63 = .ok (.iload_n 1, 1) := by decide +kernel
theorem dX7_news_64 : decode cX7_news 64 = .ok (.iaload, 1) := by decide +kernel
theorem dX7_news_65 : decode cX7_news 65 = .ok (.ireturn, 1) := by decide +kernel
theorem dX7_news_66 : decode cX7_news 66 = .ok (.aload_n 0, 1) := by decide +kernel
theorem dX7_news_67 : decode cX7_news 67 = .ok (.getfield 25, 3) := by decide +kernel
theorem dX7_news_70 : decode cX7_news 70 = .ok (.iload_n 1, 1) := by decide +kernel
theorem dX7_news_71 : decode cX7_news 71 = .ok (.iaload, 1) := by decide +kernel
theorem dX7_news_72 : decode cX7_news 72 = .ok (.ireturn, 1) := by decide +kernel
theorem dX7_news_73 : decode cX7_news 73 = .ok (.aload_n 0, 1) := by decide +kernel
theorem dX7_news_74 : decode cX7_news 74 = .ok (.getfield 25, 3) := by decide +kernel
theorem dX7_news_77 : decode cX7_news 77 = .ok (.iconst 3, 1) := by decide +kernel
theorem dX7_news_78 : decode cX7_news 78 = .ok (.iload_n 1, 1) := by decide +kernel
theorem dX7_news_79 : decode cX7_news 79 = .ok (.iadd, 1) := by decide +kernel
theorem dX7_news_80 : decode cX7_news 80 = .ok (.iaload, 1) := by decide +kernel
theorem dX7_news_81 : decode cX7_news 81 = .ok (.ireturn, 1) := by decide +kernel
theorem dX7_news_82 : decode cX7_news 82 = .ok (.aload_n 0, 1) := by decide +kernel
theorem dX7_news_83 : decode cX7_news 83 = .ok (.getfield 22, 3) := by decide +kernel
theorem dX7_news_86 : decode cX7_news 86 = .ok (.iload_n 1, 1) := by decide +kernel
theorem dX7_news_87 : decode cX7_news 87 = .ok (.iaload, 1) := by decide +kernel
theorem dX7_news_88 : decode cX7_news 88 = .ok (.ireturn, 1) := by decide +kernel
theorem dX7_news_89 : decode cX7_news 89 = .ok (.bipush (-2), 2) := by decide +kernel
theorem dX7_news_91 : decode cX7_news 91 = .ok (.ireturn, 1) := by decide +kernel
theorem dX7_told_0 : decode cX7_told 0 = .ok (.aload_n 0, 1) := by decide +kernel
theorem dX7_told_1 : decode cX7_told 1 = .ok (.iconst 0, 1) := by decide +kernel
theorem dX7_told_2 : decode cX7_told 2 = .ok (.putfield 77, 3) := by decide +kernel
theorem dX7_told_5 : decode cX7_told 5 = .ok (.aload_n 0, 1) := by decide +kernel
theorem dX7_told_6 : decode cX7_told 6 = .ok (.iload_n 1, 1) := by decide +kernel
theorem dX7_told_7 : decode cX7_told 7 = .ok (.invokevirtual 150, 3) := by decide +kernel
theorem dX7_told_10 : decode cX7_told 10 = .ok (.ifCond .ne 11, 3) := by decide +kernel
theorem dX7_told_13 : decode cX7_told 13 = .ok (.aload_n 0, 1) := by decide +kernel
theorem dX7_told_14 : decode cX7_told 14 = .ok (.iload_n 2, 1) := by decide +kernel
theorem dX7_told_15 : decode cX7_told 15 = .ok (.invokevirtual 155, 3) := by decide +kernel
theorem dX7_told_18 : decode cX7_told 18 = .ok (.ifCond .eq 7, 3) := by decide +kernel
theorem dX7_told_21 : decode cX7_told 21 = .ok (.iconst (-1), 1) := by decide +kernel
theorem dX7_told_22 : decode cX7_told 22 = .ok (.goto 17, 3) := by decide +kernel
theorem dX7_told_25 : decode cX7_told 25 = .ok (.aload_n 0, 1) := by decide +kernel
theorem dX7_told_26 : decode cX7_told 26 = .ok (.getfield 25, 3) := by decide +kernel
theorem dX7_told_29 : decode cX7_told 29 = .ok (.bipush 6, 2) := by decide +kernel
theorem dX7_told_31 : decode cX7_told 31 = .ok (.bipush 6, 2) := by decide +kernel
theorem dX7_told_33 : decode cX7_told 33 = .ok (.iload_n 2, 1) := by decide +kernel
theorem dX7_told_34 : decode cX7_told 34 = .ok (.imul, 1) := by decide +kernel
theorem dX7_told_35 : decode cX7_told 35 = .ok (.iadd, 1) := by decide +kernel
theorem dX7_told_36 : decode cX7_told 36 = .ok (.iload_n 1, 1) := by decide +kernel
theorem dX7_told_37 : decode cX7_told 37 = .ok (.iadd, 1) := by decide +kernel
theorem dX7_told_38 : decode cX7_told 38 = .ok (.iaload, 1) := by decide +kernel
theorem dX7_told_39 : decode cX7_told 39 = .ok (.ireturn, 1) := by decide +kernel
theorem dX7_left_0 : decode cX7_left 0 = .ok (.aload_n 0, 1) := by decide +kernel
theorem dX7_left_1 : decode cX7_left 1 = .ok (.iconst 0, 1) := by decide +kernel
theorem dX7_left_2 : decode cX7_left 2 = .ok (.putfield 77, 3) := by decide +kernel
theorem dX7_left_5 : decode cX7_left 5 = .ok (.aload_n 0, 1) := by decide +kernel
theorem dX7_left_6 : decode cX7_left 6 = .ok (.iload_n 1, 1) := by decide +kernel
theorem dX7_left_7 : decode cX7_left 7 = .ok (.invokevirtual 150, 3) := by decide +kernel
theorem dX7_left_10 : decode cX7_left 10 = .ok (.ifCond .ne 11, 3) := by decide +kernel
theorem dX7_left_13 : decode cX7_left 13 = .ok (.aload_n 0, 1) := by decide +kernel
theorem dX7_left_14 : decode cX7_left 14 = .ok (.iload_n 2, 1) := by decide +kernel
theorem dX7_left_15 : decode cX7_left 15 = .ok (.invokevirtual 155, 3) := by decide +kernel
theorem dX7_left_18 : decode cX7_left 18 = .ok (.ifCond .eq 5, 3) := by decide +kernel
theorem dX7_left_21 : decode cX7_left 21 = .ok (.iconst (-1), 1) := by decide +kernel
theorem dX7_left_22 : decode cX7_left 22 = .ok (.ireturn, 1) := by decide +kernel
theorem dX7_left_23 : decode cX7_left 23 = .ok (.aload_n 0, 1) := by decide +kernel
theorem dX7_left_24 : decode cX7_left 24 = .ok (.getfield 25, 3) := by decide +kernel
theorem dX7_left_27 : decode cX7_left 27 = .ok (.iconst 3, 1) := by decide +kernel
theorem dX7_left_28 : decode cX7_left 28 = .ok (.iload_n 2, 1) := by decide +kernel
theorem dX7_left_29 : decode cX7_left 29 = .ok (.iadd, 1) := by decide +kernel
theorem dX7_left_30 : decode cX7_left 30 = .ok (.iaload, 1) := by decide +kernel
theorem dX7_left_31 : decode cX7_left 31 = .ok (.iload_n 1, 1) := by decide +kernel
theorem dX7_left_32 : decode cX7_left 32 = .ok (.invokestatic 109, 3) := by decide +kernel
theorem dX7_left_35 : decode cX7_left 35 = .ok (.ifCond .eq 27, 3) := by decide +kernel
theorem dX7_left_38 : decode cX7_left 38 = .ok (.aload_n 0, 1) := by decide +kernel
theorem dX7_left_39 : decode cX7_left 39 = .ok (.getfield 16, 3) := by decide +kernel
theorem dX7_left_42 : decode cX7_left 42 = .ok (.iload_n 2, 1) := by decide +kernel
theorem dX7_left_43 : decode cX7_left 43 = .ok (.iaload, 1) := by decide +kernel
theorem dX7_left_44 : decode cX7_left 44 = .ok (.aload_n 0, 1) := by decide +kernel
theorem dX7_left_45 : decode cX7_left 45 = .ok (.getfield 25, 3) := by decide +kernel
theorem dX7_left_48 : decode cX7_left 48 = .ok (.bipush 24, 2) := by decide +kernel
theorem dX7_left_50 : decode cX7_left 50 = .ok (.bipush 6, 2) := by decide +kernel
theorem dX7_left_52 : decode cX7_left 52 = .ok (.iload_n 2, 1) := by decide +kernel
theorem dX7_left_53 : decode cX7_left 53 = .ok (.imul, 1) := by decide +kernel
theorem dX7_left_54 : decode cX7_left 54 = .ok (.iadd, 1) := by decide +kernel
theorem dX7_left_55 : decode cX7_left 55 = .ok (.iload_n 1, 1) := by decide +kernel
theorem dX7_left_56 : decode cX7_left 56 = .ok (.iadd, 1) := by decide +kernel
theorem dX7_left_57 : decode cX7_left 57 = .ok (.iaload, 1) := by decide +kernel
theorem dX7_left_58 : decode cX7_left 58 = .ok (.isub, 1) := by decide +kernel
theorem dX7_left_59 : decode cX7_left 59 = .ok (.goto 5, 3) := by decide +kernel
theorem dX7_left_62 : decode cX7_left 62 = .ok (.bipush (-3), 2) := by decide +kernel
theorem dX7_left_64 : decode cX7_left 64 = .ok (.ireturn, 1) := by decide +kernel
theorem dX7_those_0 : decode cX7_those 0 = .ok (.iconst 0, 1) := by decide +kernel
theorem dX7_those_1 : decode cX7_those 1 = .ok (.istore_n 3, 1) := by decide +kernel
theorem dX7_those_2 : decode cX7_those 2 = .ok (.iconst 0, 1) := by decide +kernel
theorem dX7_those_3 : decode cX7_those 3 = .ok (.istore 4, 2) := by decide +kernel
theorem dX7_those_5 : decode cX7_those 5 = .ok (.iload 4, 2) := by decide +kernel
theorem dX7_those_7 : decode cX7_those 7 = .ok (.aload_n 0, 1) := by decide +kernel
theorem dX7_those_8 : decode cX7_those 8 = .ok (.getfield 81, 3) := by decide +kernel
theorem dX7_those_11 : decode cX7_those 11 = .ok (.if_icmp .ge 36, 3) := by decide +kernel
theorem dX7_those_14 : decode cX7_those 14 = .ok (.iload_n 3, 1) := by decide +kernel
theorem dX7_those_15 : decode cX7_those 15 = .ok (.aload_n 0, 1) := by decide +kernel
theorem dX7_those_16 : decode cX7_those 16 = .ok (.getfield 13, 3) := by decide +kernel
theorem dX7_those_19 : decode cX7_those 19 = .ok (.bipush 6, 2) := by decide +kernel
theorem dX7_those_21 : decode cX7_those 21 = .ok (.iload 4, 2) := by decide +kernel
theorem dX7_those_23 : decode cX7_those 23 = .ok (.imul, 1) := by decide +kernel
theorem dX7_those_24 : decode cX7_those 24 = .ok (.iload_n 2, 1) := by decide +kernel
theorem dX7_those_25 : decode cX7_those 25 = .ok (.iadd, 1) := by decide +kernel
theorem dX7_those_26 : decode cX7_those 26 = .ok (.iaload, 1) := by decide +kernel
theorem dX7_those_27 : decode cX7_those 27 = .ok (.iload_n 1, 1) := by decide +kernel
theorem dX7_those_28 : decode cX7_those 28 = .ok (.if_icmp .ne 10, 3) := by decide +kernel
theorem dX7_those_31 : decode cX7_those 31 = .ok (.iconst 1, 1) := by decide +kernel
theorem dX7_those_32 : decode cX7_those 32 = .ok (.iload 4, 2) := by decide +kernel
theorem dX7_those_34 : decode cX7_those 34 = .ok (.ishl, 1) := by decide +kernel
theorem dX7_those_35 : decode cX7_those 35 = .ok (.goto 4, 3) := by decide +kernel
theorem dX7_those_38 : decode cX7_those 38 = .ok (.iconst 0, 1) := by decide +kernel
theorem dX7_those_39 : decode cX7_those 39 = .ok (.ior, 1) := by decide +kernel
theorem dX7_those_40 : decode cX7_those 40 = .ok (.istore_n 3, 1) := by decide +kernel
theorem dX7_those_41 : decode cX7_those 41 = .ok (.iinc 4 1, 3) := by decide +kernel
theorem dX7_those_44 : decode cX7_those 44 = .ok (.goto (-39), 3) := by decide +kernel
theorem dX7_those_47 : decode cX7_those 47 = .ok (.iload_n 3, 1) := by decide +kernel
theorem dX7_those_48 : decode cX7_those 48 = .ok (.ireturn, 1) := by decide +kernel
theorem dX7_mayTell_0 : decode cX7_mayTell 0 = .ok (.aload_n 0, 1) := by decide +kernel
theorem dX7_mayTell_1 : decode cX7_mayTell 1 = .ok (.getfield 13, 3) := by decide +kernel
theorem dX7_mayTell_4 : decode cX7_mayTell 4 = .ok (.bipush 6, 2) := by decide +kernel
theorem dX7_mayTell_6 : decode cX7_mayTell 6 = .ok (.iload_n 3, 1) := by decide +kernel
theorem dX7_mayTell_7 : decode cX7_mayTell 7 = .ok (.imul, 1) := by decide +kernel
theorem dX7_mayTell_8 : decode cX7_mayTell 8 = .ok (.iload_n 2, 1) := by decide +kernel
theorem dX7_mayTell_9 : decode cX7_mayTell 9 = .ok (.iadd, 1) := by decide +kernel
theorem dX7_mayTell_10 : decode cX7_mayTell 10 = .ok (.iaload, 1) := by decide +kernel
theorem dX7_mayTell_11 : decode cX7_mayTell 11 = .ok (.istore 5, 2) := by decide +kernel
theorem dX7_mayTell_13 : decode cX7_mayTell 13 = .ok (.aload_n 1, 1) := by decide +kernel
theorem dX7_mayTell_14 : decode cX7_mayTell 14 = .ok (.iconst 3, 1) := by decide +kernel
theorem dX7_mayTell_15 : decode cX7_mayTell 15 = .ok (.iload 4, 2) := by decide +kernel
theorem dX7_mayTell_17 : decode cX7_mayTell 17 = .ok (.iadd, 1) := by decide +kernel
theorem dX7_mayTell_18 : decode cX7_mayTell 18 = .ok (.iaload, 1) := by decide +kernel
theorem dX7_mayTell_19 : decode cX7_mayTell 19 = .ok (.iload_n 3, 1) := by decide +kernel
theorem dX7_mayTell_20 : decode cX7_mayTell 20 = .ok (.invokestatic 109, 3) := by decide +kernel
theorem dX7_mayTell_23 : decode cX7_mayTell 23 = .ok (.ifCond .eq 38, 3) := by decide +kernel
theorem dX7_mayTell_26 : decode cX7_mayTell 26 = .ok (.iload 5, 2) := by decide +kernel
theorem dX7_mayTell_28 : decode cX7_mayTell 28 = .ok (.bipush (-9), 2) := by decide +kernel
theorem dX7_mayTell_30 : decode cX7_mayTell 30 = .ok (.if_icmp .eq 31, 3) := by decide +kernel
theorem dX7_mayTell_33 : decode cX7_mayTell 33 = .ok (.aload_n 0, 1) := by decide +kernel
theorem dX7_mayTell_34 : decode cX7_mayTell 34 = .ok (.iload 5, 2) := by decide +kernel
theorem dX7_mayTell_36 : decode cX7_mayTell 36 = .ok (.iload_n 2, 1) := by decide +kernel
theorem dX7_mayTell_37 : decode cX7_mayTell 37 = .ok (.invokevirtual 158, 3) := by decide +kernel
theorem dX7_mayTell_40 : decode cX7_mayTell 40 = .ok (.invokestatic 143, 3) := by decide +kernel
theorem dX7_mayTell_43 : decode cX7_mayTell 43 = .ok (.iconst 2, 1) := by decide +kernel
theorem dX7_mayTell_44 : decode cX7_mayTell 44 = .ok (.if_icmp .lt 17, 3) := by decide +kernel
theorem dX7_mayTell_47 : decode cX7_mayTell 47 = .ok (.aload_n 1, 1) := by decide +kernel
theorem dX7_mayTell_48 : decode cX7_mayTell 48 = .ok (.iload 4, 2) := by decide +kernel
theorem dX7_mayTell_50 : decode cX7_mayTell 50 = .ok (.iaload, 1) := by decide +kernel
theorem dX7_mayTell_51 : decode cX7_mayTell 51 = .ok (.aload_n 0, 1) := by decide +kernel
theorem dX7_mayTell_52 : decode cX7_mayTell 52 = .ok (.getfield 16, 3) := by decide +kernel
theorem dX7_mayTell_55 : decode cX7_mayTell 55 = .ok (.iload 4, 2) := by decide +kernel
theorem dX7_mayTell_57 : decode cX7_mayTell 57 = .ok (.iaload, 1) := by decide +kernel
theorem dX7_mayTell_58 : decode cX7_mayTell 58 = .ok (.if_icmp .lt 5, 3) := by decide +kernel
theorem dX7_mayTell_61 : decode cX7_mayTell 61 = .ok (.iconst 0, 1) := by decide +kernel
theorem dX7_mayTell_62 : decode cX7_mayTell 62 = .ok (.ireturn, 1) := by decide +kernel
theorem dX7_mayTell_63 : decode cX7_mayTell 63 = .ok (.aload_n 0, 1) := by decide +kernel
theorem dX7_mayTell_64 : decode cX7_mayTell 64 = .ok (.getfield 130, 3) := by decide +kernel
theorem dX7_mayTell_67 : decode cX7_mayTell 67 = .ok (.iconst 1, 1) := by decide +kernel
theorem dX7_mayTell_68 : decode cX7_mayTell 68 = .ok (.if_icmp .ne 24, 3) := by decide +kernel
theorem dX7_mayTell_71 : decode cX7_mayTell 71 = .ok (.aload_n 1, 1) := by decide +kernel
theorem dX7_mayTell_72 : decode cX7_mayTell 72 = .ok (.bipush 6, 2) := by decide +kernel
theorem dX7_mayTell_74 : decode cX7_mayTell 74 = .ok (.bipush 6, 2) := by decide +kernel
theorem dX7_mayTell_76 : decode cX7_mayTell 76 = .ok (.iload 4, 2) := by decide +kernel
theorem dX7_mayTell_78 : decode cX7_mayTell 78 = .ok (.imul, 1) := by decide +kernel
theorem dX7_mayTell_79 : decode cX7_mayTell 79 = .ok (.iadd, 1) := by decide +kernel
theorem dX7_mayTell_80 : decode cX7_mayTell 80 = .ok (.iload_n 3, 1) := by decide +kernel
theorem dX7_mayTell_81 : decode cX7_mayTell 81 = .ok (.iadd, 1) := by decide +kernel
theorem dX7_mayTell_82 : decode cX7_mayTell 82 = .ok (.iaload, 1) := by decide +kernel
theorem dX7_mayTell_83 : decode cX7_mayTell 83 = .ok (.ifCond .ne 7, 3) := by decide +kernel
theorem dX7_mayTell_86 : decode cX7_mayTell 86 = .ok (.iconst 1, 1) := by decide +kernel
theorem dX7_mayTell_87 : decode cX7_mayTell 87 = .ok (.goto 4, 3) := by decide +kernel
theorem dX7_mayTell_90 : decode cX7_mayTell 90 = .ok (.iconst 0, 1) := by decide +kernel
theorem dX7_mayTell_91 : decode cX7_mayTell 91 = .ok (.ireturn, 1) := by decide +kernel
theorem dX7_mayTell_92 : decode cX7_mayTell 92 = .ok (.aload_n 0, 1) := by decide +kernel
theorem dX7_mayTell_93 : decode cX7_mayTell 93 = .ok (.getfield 130, 3) := by decide +kernel
theorem dX7_mayTell_96 : decode cX7_mayTell 96 = .ok (.iconst 2, 1) := by decide +kernel
theorem dX7_mayTell_97 : decode cX7_mayTell 97 = .ok (.if_icmp .ne 19, 3) := by decide +kernel
theorem dX7_mayTell_100 : decode cX7_mayTell 100 = .ok (.aload_n 1, 1) := by decide +kernel
theorem dX7_mayTell_101 : decode cX7_mayTell 101 = .ok (.bipush 42, 2) := by decide +kernel
theorem dX7_mayTell_103 : decode cX7_mayTell 103 = .ok (.iconst 3, 1) := by decide +kernel
theorem dX7_mayTell_104 : decode cX7_mayTell 104 = .ok (.iload 4, 2) := by decide +kernel
theorem dX7_mayTell_106 : decode cX7_mayTell 106 = .ok (.imul, 1) := by decide +kernel
theorem dX7_mayTell_107 : decode cX7_mayTell 107 = .ok (.iadd, 1) := by decide +kernel
theorem dX7_mayTell_108 : decode cX7_mayTell 108 = .ok (.iload 5, 2) := by decide +kernel
theorem dX7_mayTell_110 : decode cX7_mayTell 110 = .ok (.iadd, 1) := by decide +kernel
theorem dX7_mayTell_111 : decode cX7_mayTell 111 = .ok (.iaload, 1) := by decide +kernel
theorem dX7_mayTell_112 : decode cX7_mayTell 112 = .ok (.iconst 3, 1) := by decide +kernel
theorem dX7_mayTell_113 : decode cX7_mayTell 113 = .ok (.if_icmp .ge 7, 3) := by decide +kernel
theorem dX7_mayTell_116 : decode cX7_mayTell 116 = .ok (.iconst 1, 1) := by decide +kernel
theorem dX7_mayTell_117 : decode cX7_mayTell 117 = .ok (.goto 4, 3) := by decide +kernel
theorem dX7_mayTell_120 : decode cX7_mayTell 120 = .ok (.iconst 0, 1) := by decide +kernel
theorem dX7_mayTell_121 : decode cX7_mayTell 121 = .ok (.ireturn, 1) := by decide +kernel
theorem dX7_tellIt_0 : decode cX7_tellIt 0 = .ok (.aload_n 0, 1) := by decide +kernel
theorem dX7_tellIt_1 : decode cX7_tellIt 1 = .ok (.getfield 13, 3) := by decide +kernel
theorem dX7_tellIt_4 : decode cX7_tellIt 4 = .ok (.bipush 6, 2) := by decide +kernel
theorem dX7_tellIt_6 : decode cX7_tellIt 6 = .ok (.iload_n 3, 1) := by decide +kernel
theorem dX7_tellIt_7 : decode cX7_tellIt 7 = .ok (.imul, 1) := by decide +kernel
theorem dX7_tellIt_8 : decode cX7_tellIt 8 = .ok (.iload_n 2, 1) := by decide +kernel
theorem dX7_tellIt_9 : decode cX7_tellIt 9 = .ok (.iadd, 1) := by decide +kernel
theorem dX7_tellIt_10 : decode cX7_tellIt 10 = .ok (.iaload, 1) := by decide +kernel
theorem dX7_tellIt_11 : decode cX7_tellIt 11 = .ok (.istore 5, 2) := by decide +kernel
theorem dX7_tellIt_13 : decode cX7_tellIt 13 = .ok (.aload_n 0, 1) := by decide +kernel
theorem dX7_tellIt_14 : decode cX7_tellIt 14 = .ok (.iload 5, 2) := by decide +kernel
theorem dX7_tellIt_16 : decode cX7_tellIt 16 = .ok (.iload_n 2, 1) := by decide +kernel
theorem dX7_tellIt_17 : decode cX7_tellIt 17 = .ok (.invokevirtual 158, 3) := by decide +kernel
theorem dX7_tellIt_20 : decode cX7_tellIt 20 = .ok (.istore 6, 2) := by decide +kernel
theorem dX7_tellIt_22 : decode cX7_tellIt 22 = .ok (.aload_n 1, 1) := by decide +kernel
theorem dX7_tellIt_23 : decode cX7_tellIt 23 = .ok (.iload 4, 2) := by decide +kernel
theorem dX7_tellIt_25 : decode cX7_tellIt 25 = .ok (.dup2, 1) := by decide +kernel
theorem dX7_tellIt_26 : decode cX7_tellIt 26 = .ok (.iaload, 1) := by decide +kernel
theorem dX7_tellIt_27 : decode cX7_tellIt 27 = .ok (.iconst 1, 1) := by decide +kernel
theorem dX7_tellIt_28 : decode cX7_tellIt 28 = .ok (.iadd, 1) := by decide +kernel
theorem dX7_tellIt_29 : decode cX7_tellIt 29 = .ok (.iastore, 1) := by decide +kernel
theorem dX7_tellIt_30 : decode cX7_tellIt 30 = .ok (.aload_n 1, 1) := by decide +kernel
theorem dX7_tellIt_31 : decode cX7_tellIt 31 = .ok (.iconst 3, 1) := by decide +kernel
theorem dX7_tellIt_32 : decode cX7_tellIt 32 = .ok (.iload 4, 2) := by decide +kernel
theorem dX7_tellIt_34 : decode cX7_tellIt 34 = .ok (.iadd, 1) := by decide +kernel
theorem dX7_tellIt_35 : decode cX7_tellIt 35 = .ok (.dup2, 1) := by decide +kernel
theorem dX7_tellIt_36 : decode cX7_tellIt 36 = .ok (.iaload, 1) := by decide +kernel
theorem dX7_tellIt_37 : decode cX7_tellIt 37 = .ok (.iload 6, 2) := by decide +kernel
theorem dX7_tellIt_39 : decode cX7_tellIt 39 = .ok (.ior, 1) := by decide +kernel
theorem dX7_tellIt_40 : decode cX7_tellIt 40 = .ok (.iastore, 1) := by decide +kernel
theorem dX7_tellIt_41 : decode cX7_tellIt 41 = .ok (.aload_n 1, 1) := by decide +kernel
theorem dX7_tellIt_42 : decode cX7_tellIt 42 = .ok (.bipush 6, 2) := by decide +kernel
theorem dX7_tellIt_44 : decode cX7_tellIt 44 = .ok (.bipush 6, 2) := by decide +kernel
theorem dX7_tellIt_46 : decode cX7_tellIt 46 = .ok (.iload 4, 2) := by decide +kernel
theorem dX7_tellIt_48 : decode cX7_tellIt 48 = .ok (.imul, 1) := by decide +kernel
theorem dX7_tellIt_49 : decode cX7_tellIt 49 = .ok (.iadd, 1) := by decide +kernel
theorem dX7_tellIt_50 : decode cX7_tellIt 50 = .ok (.iload_n 3, 1) := by decide +kernel
theorem dX7_tellIt_51 : decode cX7_tellIt 51 = .ok (.iadd, 1) := by decide +kernel
theorem dX7_tellIt_52 : decode cX7_tellIt 52 = .ok (.dup2, 1) := by decide +kernel
theorem dX7_tellIt_53 : decode cX7_tellIt 53 = .ok (.iaload, 1) := by decide +kernel
theorem dX7_tellIt_54 : decode cX7_tellIt 54 = .ok (.iconst 1, 1) := by decide +kernel
theorem dX7_tellIt_55 : decode cX7_tellIt 55 = .ok (.iadd, 1) := by decide +kernel
theorem dX7_tellIt_56 : decode cX7_tellIt 56 = .ok (.iastore, 1) := by decide +kernel
theorem dX7_tellIt_57 : decode cX7_tellIt 57 = .ok (.iconst 0, 1) := by decide +kernel
theorem dX7_tellIt_58 : decode cX7_tellIt 58 = .ok (.istore 7, 2) := by decide +kernel
theorem dX7_tellIt_60 : decode cX7_tellIt 60 = .ok (.iload 7, 2) := by decide +kernel
theorem dX7_tellIt_62 : decode cX7_tellIt 62 = .ok (.aload_n 0, 1) := by decide +kernel
theorem dX7_tellIt_63 : decode cX7_tellIt 63 = .ok (.getfield 81, 3) := by decide +kernel
theorem dX7_tellIt_66 : decode cX7_tellIt 66 = .ok (.if_icmp .ge 40, 3) := by decide +kernel
theorem dX7_tellIt_69 : decode cX7_tellIt 69 = .ok (.aload_n 1, 1) := by decide +kernel
theorem dX7_tellIt_70 : decode cX7_tellIt 70 = .ok (.bipush 24, 2) := by decide +kernel
theorem dX7_tellIt_72 : decode cX7_tellIt 72 = .ok (.bipush 6, 2) := by decide +kernel
theorem dX7_tellIt_74 : decode cX7_tellIt 74 = .ok (.iload 4, 2) := by decide +kernel
theorem dX7_tellIt_76 : decode cX7_tellIt 76 = .ok (.imul, 1) := by decide +kernel
theorem dX7_tellIt_77 : decode cX7_tellIt 77 = .ok (.iadd, 1) := by decide +kernel
theorem dX7_tellIt_78 : decode cX7_tellIt 78 = .ok (.iload 7, 2) := by decide +kernel
theorem dX7_tellIt_80 : decode cX7_tellIt 80 = .ok (.iadd, 1) := by decide +kernel
theorem dX7_tellIt_81 : decode cX7_tellIt 81 = .ok (.dup2, 1) := by decide +kernel
theorem dX7_tellIt_82 : decode cX7_tellIt 82 = .ok (.iaload, 1) := by decide +kernel
theorem dX7_tellIt_83 : decode cX7_tellIt 83 = .ok (.iload 6, 2) := by decide +kernel
theorem dX7_tellIt_85 : decode cX7_tellIt 85 = .ok (.iload 7, 2) := by decide +kernel
theorem dX7_tellIt_87 : decode cX7_tellIt 87 = .ok (.invokestatic 109, 3) := by decide +kernel
theorem dX7_tellIt_90 : decode cX7_tellIt 90 = .ok (.ifCond .eq 7, 3) := by decide +kernel
theorem dX7_tellIt_93 : decode cX7_tellIt 93 = .ok (.iconst 1, 1) := by decide +kernel
theorem dX7_tellIt_94 : decode cX7_tellIt 94 = .ok (.goto 4, 3) := by decide +kernel
theorem dX7_tellIt_97 : decode cX7_tellIt 97 = .ok (.iconst 0, 1) := by decide +kernel
theorem dX7_tellIt_98 : decode cX7_tellIt 98 = .ok (.iadd, 1) := by decide +kernel
theorem dX7_tellIt_99 : decode cX7_tellIt 99 = .ok (.iastore, 1) := by decide +kernel
theorem dX7_tellIt_100 : decode cX7_tellIt 100 = .ok (.iinc 7 1, 3) := by decide +kernel
theorem dX7_tellIt_103 : decode cX7_tellIt 103 = .ok (.goto (-43), 3) := by decide +kernel
theorem dX7_tellIt_106 : decode cX7_tellIt 106 = .ok (.aload_n 1, 1) := by decide +kernel
theorem dX7_tellIt_107 : decode cX7_tellIt 107 = .ok (.bipush 42, 2) := by decide +kernel
theorem dX7_tellIt_109 : decode cX7_tellIt 109 = .ok (.iconst 3, 1) := by decide +kernel
theorem dX7_tellIt_110 : decode cX7_tellIt 110 = .ok (.iload 4, 2) := by decide +kernel
theorem dX7_tellIt_112 : decode cX7_tellIt 112 = .ok (.imul, 1) := by decide +kernel
theorem dX7_tellIt_113 : decode cX7_tellIt 113 = .ok (.iadd, 1) := by decide +kernel
theorem dX7_tellIt_114 : decode cX7_tellIt 114 = .ok (.iload 5, 2) := by decide +kernel
theorem dX7_tellIt_116 : decode cX7_tellIt 116 = .ok (.iadd, 1) := by decide +kernel
theorem dX7_tellIt_117 : decode cX7_tellIt 117 = .ok (.dup2, 1) := by decide +kernel
theorem dX7_tellIt_118 : decode cX7_tellIt 118 = .ok (.iaload, 1) := by decide +kernel
theorem dX7_tellIt_119 : decode cX7_tellIt 119 = .ok (.iconst 1, 1) := by decide +kernel
theorem dX7_tellIt_120 : decode cX7_tellIt 120 = .ok (.iadd, 1) := by decide +kernel
theorem dX7_tellIt_121 : decode cX7_tellIt 121 = .ok (.iastore, 1) := by decide +kernel
theorem dX7_tellIt_122 : decode cX7_tellIt 122 = .ok (.aload_n 0, 1) := by decide +kernel
theorem dX7_tellIt_123 : decode cX7_tellIt 123 = .ok (.aload_n 1, 1) := by decide +kernel
theorem dX7_tellIt_124 : decode cX7_tellIt 124 = .ok (.invokevirtual 133, 3) := by decide +kernel
theorem dX7_tellIt_127 : decode cX7_tellIt 127 = .ok (.return_, 1) := by decide +kernel
theorem dX7_may_0 : decode cX7_may 0 = .ok (.aload_n 0, 1) := by decide +kernel
theorem dX7_may_1 : decode cX7_may 1 = .ok (.iconst 0, 1) := by decide +kernel
theorem dX7_may_2 : decode cX7_may 2 = .ok (.putfield 77, 3) := by decide +kernel
theorem dX7_may_5 : decode cX7_may 5 = .ok (.aload_n 0, 1) := by decide +kernel
theorem dX7_may_6 : decode cX7_may 6 = .ok (.iload_n 1, 1) := by decide +kernel
theorem dX7_may_7 : decode cX7_may 7 = .ok (.invokevirtual 150, 3) := by decide +kernel
theorem dX7_may_10 : decode cX7_may 10 = .ok (.ifCond .ne 11, 3) := by decide +kernel
theorem dX7_may_13 : decode cX7_may 13 = .ok (.aload_n 0, 1) := by decide +kernel
theorem dX7_may_14 : decode cX7_may 14 = .ok (.iload_n 2, 1) := by decide +kernel
theorem dX7_may_15 : decode cX7_may 15 = .ok (.invokevirtual 155, 3) := by decide +kernel
theorem dX7_may_18 : decode cX7_may 18 = .ok (.ifCond .eq 7, 3) := by decide +kernel
theorem dX7_may_21 : decode cX7_may 21 = .ok (.iconst (-1), 1) := by decide +kernel
theorem dX7_may_22 : decode cX7_may 22 = .ok (.goto 25, 3) := by decide +kernel
theorem dX7_may_25 : decode cX7_may 25 = .ok (.aload_n 0, 1) := by decide +kernel
theorem dX7_may_26 : decode cX7_may 26 = .ok (.aload_n 0, 1) := by decide +kernel
theorem dX7_may_27 : decode cX7_may 27 = .ok (.getfield 25, 3) := by decide +kernel
theorem dX7_may_30 : decode cX7_may 30 = .ok (.aload_n 0, 1) := by decide +kernel
theorem dX7_may_31 : decode cX7_may 31 = .ok (.getfield 137, 3) := by decide +kernel
theorem dX7_may_34 : decode cX7_may 34 = .ok (.iload_n 1, 1) := by decide +kernel
theorem dX7_may_35 : decode cX7_may 35 = .ok (.iload_n 2, 1) := by decide +kernel
theorem dX7_may_36 : decode cX7_may 36 = .ok (.invokevirtual 161, 3) := by decide +kernel
theorem dX7_may_39 : decode cX7_may 39 = .ok (.ifCond .eq 7, 3) := by decide +kernel
theorem dX7_may_42 : decode cX7_may 42 = .ok (.iconst 1, 1) := by decide +kernel
theorem dX7_may_43 : decode cX7_may 43 = .ok (.goto 4, 3) := by decide +kernel
theorem dX7_may_46 : decode cX7_may 46 = .ok (.iconst 0, 1) := by decide +kernel
theorem dX7_may_47 : decode cX7_may 47 = .ok (.ireturn, 1) := by decide +kernel
theorem dX7_layPage_0 : decode cX7_layPage 0 = .ok (.iconst 0, 1) := by decide +kernel
theorem dX7_layPage_1 : decode cX7_layPage 1 = .ok (.istore_n 3, 1) := by decide +kernel
theorem dX7_layPage_2 : decode cX7_layPage 2 = .ok (.iload_n 3, 1) := by decide +kernel
theorem dX7_layPage_3 : decode cX7_layPage 3 = .ok (.bipush 58, 2) := by decide +kernel
theorem dX7_layPage_5 : decode cX7_layPage 5 = .ok (.if_icmp .ge 20, 3) := by decide +kernel
theorem dX7_layPage_8 : decode cX7_layPage 8 = .ok (.aload_n 1, 1) := by decide +kernel
theorem dX7_layPage_9 : decode cX7_layPage 9 = .ok (.iload_n 2, 1) := by decide +kernel
theorem dX7_layPage_10 : decode cX7_layPage 10 = .ok (.iload_n 3, 1) := by decide +kernel
theorem dX7_layPage_11 : decode cX7_layPage 11 = .ok (.iadd, 1) := by decide +kernel
theorem dX7_layPage_12 : decode cX7_layPage 12 = .ok (.aload_n 0, 1) := by decide +kernel
theorem dX7_layPage_13 : decode cX7_layPage 13 = .ok (.getfield 25, 3) := by decide +kernel
theorem dX7_layPage_16 : decode cX7_layPage 16 = .ok (.iload_n 3, 1) := by decide +kernel
theorem dX7_layPage_17 : decode cX7_layPage 17 = .ok (.iaload, 1) := by decide +kernel
theorem dX7_layPage_18 : decode cX7_layPage 18 = .ok (.iastore, 1) := by decide +kernel
theorem dX7_layPage_19 : decode cX7_layPage 19 = .ok (.iinc 3 1, 3) := by decide +kernel
theorem dX7_layPage_22 : decode cX7_layPage 22 = .ok (.goto (-20), 3) := by decide +kernel
theorem dX7_layPage_25 : decode cX7_layPage 25 = .ok (.aload_n 1, 1) := by decide +kernel
theorem dX7_layPage_26 : decode cX7_layPage 26 = .ok (.iload_n 2, 1) := by decide +kernel
theorem dX7_layPage_27 : decode cX7_layPage 27 = .ok (.bipush 57, 2) := by decide +kernel
theorem dX7_layPage_29 : decode cX7_layPage 29 = .ok (.iadd, 1) := by decide +kernel
theorem dX7_layPage_30 : decode cX7_layPage 30 = .ok (.aload_n 0, 1) := by decide +kernel
theorem dX7_layPage_31 : decode cX7_layPage 31 = .ok (.getfield 137, 3) := by decide +kernel
theorem dX7_layPage_34 : decode cX7_layPage 34 = .ok (.iastore, 1) := by decide +kernel
theorem dX7_layPage_35 : decode cX7_layPage 35 = .ok (.return_, 1) := by decide +kernel
theorem dX7_takePage_0 : decode cX7_takePage 0 = .ok (.iconst 0, 1) := by decide +kernel
theorem dX7_takePage_1 : decode cX7_takePage 1 = .ok (.istore_n 3, 1) := by decide +kernel
theorem dX7_takePage_2 : decode cX7_takePage 2 = .ok (.iload_n 3, 1) := by decide +kernel
theorem dX7_takePage_3 : decode cX7_takePage 3 = .ok (.bipush 58, 2) := by decide +kernel
theorem dX7_takePage_5 : decode cX7_takePage 5 = .ok (.if_icmp .ge 20, 3) := by decide +kernel
theorem dX7_takePage_8 : decode cX7_takePage 8 = .ok (.aload_n 0, 1) := by decide +kernel
theorem dX7_takePage_9 : decode cX7_takePage 9 = .ok (.getfield 25, 3) := by decide +kernel
theorem dX7_takePage_12 : decode cX7_takePage 12 = .ok (.iload_n 3, 1) := by decide +kernel
theorem dX7_takePage_13 : decode cX7_takePage 13 = .ok (.aload_n 1, 1) := by decide +kernel
theorem dX7_takePage_14 : decode cX7_takePage 14 = .ok (.iload_n 2, 1) := by decide +kernel
theorem dX7_takePage_15 : decode cX7_takePage 15 = .ok (.iload_n 3, 1) := by decide +kernel
theorem dX7_takePage_16 : decode cX7_takePage 16 = .ok (.iadd, 1) := by decide +kernel
theorem dX7_takePage_17 : decode cX7_takePage 17 = .ok (.iaload, 1) := by decide +kernel
theorem dX7_takePage_18 : decode cX7_takePage 18 = .ok (.iastore, 1) := by decide +kernel
theorem dX7_takePage_19 : decode cX7_takePage 19 = .ok (.iinc 3 1, 3) := by decide +kernel
theorem dX7_takePage_22 : decode cX7_takePage 22 = .ok (.goto (-20), 3) := by decide +kernel
theorem dX7_takePage_25 : decode cX7_takePage 25 = .ok (.aload_n 0, 1) := by decide +kernel
theorem dX7_takePage_26 : decode cX7_takePage 26 = .ok (.aload_n 1, 1) := by decide +kernel
theorem dX7_takePage_27 : decode cX7_takePage 27 = .ok (.iload_n 2, 1) := by decide +kernel
theorem dX7_takePage_28 : decode cX7_takePage 28 = .ok (.bipush 57, 2) := by decide +kernel
theorem dX7_takePage_30 : decode cX7_takePage 30 = .ok (.iadd, 1) := by decide +kernel
theorem dX7_takePage_31 : decode cX7_takePage 31 = .ok (.iaload, 1) := by decide +kernel
theorem dX7_takePage_32 : decode cX7_takePage 32 = .ok (.putfield 137, 3) := by decide +kernel
theorem dX7_takePage_35 : decode cX7_takePage 35 = .ok (.return_, 1) := by decide +kernel
theorem dX7_note_0 : decode cX7_note 0 = .ok (.aload_n 0, 1) := by decide +kernel
theorem dX7_note_1 : decode cX7_note 1 = .ok (.getfield 140, 3) := by decide +kernel
theorem dX7_note_4 : decode cX7_note 4 = .ok (.bipush 16, 2) := by decide +kernel
theorem dX7_note_6 : decode cX7_note 6 = .ok (.if_icmp .ne 43, 3) := by decide +kernel
theorem dX7_note_9 : decode cX7_note 9 = .ok (.iconst 0, 1) := by decide +kernel
theorem dX7_note_10 : decode cX7_note 10 = .ok (.istore_n 1, 1) := by decide +kernel
theorem dX7_note_11 : decode cX7_note 11 = .ok (.iload_n 1, 1) := by decide +kernel
theorem dX7_note_12 : decode cX7_note 12 = .ok (.sipush 870, 3) := by decide +kernel
theorem dX7_note_15 : decode cX7_note 15 = .ok (.if_icmp .ge 24, 3) := by decide +kernel
theorem dX7_note_18 : decode cX7_note 18 = .ok (.aload_n 0, 1) := by decide +kernel
theorem dX7_note_19 : decode cX7_note 19 = .ok (.getfield 40, 3) := by decide +kernel
theorem dX7_note_22 : decode cX7_note 22 = .ok (.iload_n 1, 1) := by decide +kernel
theorem dX7_note_23 : decode cX7_note 23 = .ok (.aload_n 0, 1) := by decide +kernel
theorem dX7_note_24 : decode cX7_note 24 = .ok (.getfield 40, 3) := by decide +kernel
theorem dX7_note_27 : decode cX7_note 27 = .ok (.iload_n 1, 1) := by decide +kernel
theorem dX7_note_28 : decode cX7_note 28 = .ok (.bipush 58, 2) := by decide +kernel
theorem dX7_note_30 : decode cX7_note 30 = .ok (.iadd, 1) := by decide +kernel
theorem dX7_note_31 : decode cX7_note 31 = .ok (.iaload, 1) := by decide +kernel
theorem dX7_note_32 : decode cX7_note 32 = .ok (.iastore, 1) := by decide +kernel
theorem dX7_note_33 : decode cX7_note 33 = .ok (.iinc 1 1, 3) := by decide +kernel
theorem dX7_note_36 : decode cX7_note 36 = .ok (.goto (-25), 3) := by decide +kernel
theorem dX7_note_39 : decode cX7_note 39 = .ok (.aload_n 0, 1) := by decide +kernel
theorem dX7_note_40 : decode cX7_note 40 = .ok (.dup, 1) := by decide +kernel
theorem dX7_note_41 : decode cX7_note 41 = .ok (.getfield 140, 3) := by decide +kernel
theorem dX7_note_44 : decode cX7_note 44 = .ok (.iconst 1, 1) := by decide +kernel
theorem dX7_note_45 : decode cX7_note 45 = .ok (.isub, 1) := by decide +kernel
theorem dX7_note_46 : decode cX7_note 46 = .ok (.putfield 140, 3) := by decide +kernel
theorem dX7_note_49 : decode cX7_note 49 = .ok (.aload_n 0, 1) := by decide +kernel
theorem dX7_note_50 : decode cX7_note 50 = .ok (.aload_n 0, 1) := by decide +kernel
theorem dX7_note_51 : decode cX7_note 51 = .ok (.getfield 40, 3) := by decide +kernel
theorem dX7_note_54 : decode cX7_note 54 = .ok (.bipush 58, 2) := by decide +kernel
theorem dX7_note_56 : decode cX7_note 56 = .ok (.aload_n 0, 1) := by decide +kernel
theorem dX7_note_57 : decode cX7_note 57 = .ok (.getfield 140, 3) := by decide +kernel
theorem dX7_note_60 : decode cX7_note 60 = .ok (.imul, 1) := by decide +kernel
theorem dX7_note_61 : decode cX7_note 61 = .ok (.invokevirtual 165, 3) := by decide +kernel
theorem dX7_note_64 : decode cX7_note 64 = .ok (.aload_n 0, 1) := by decide +kernel
theorem dX7_note_65 : decode cX7_note 65 = .ok (.dup, 1) := by decide +kernel
theorem dX7_note_66 : decode cX7_note 66 = .ok (.getfield 140, 3) := by decide +kernel
theorem dX7_note_69 : decode cX7_note 69 = .ok (.iconst 1, 1) := by decide +kernel
theorem dX7_note_70 : decode cX7_note 70 = .ok (.iadd, 1) := by decide +kernel
theorem dX7_note_71 : decode cX7_note 71 = .ok (.putfield 140, 3) := by decide +kernel
theorem dX7_note_74 : decode cX7_note 74 = .ok (.return_, 1) := by decide +kernel
theorem dX7_tell_0 : decode cX7_tell 0 = .ok (.aload_n 0, 1) := by decide +kernel
theorem dX7_tell_1 : decode cX7_tell 1 = .ok (.iconst 0, 1) := by decide +kernel
theorem dX7_tell_2 : decode cX7_tell 2 = .ok (.putfield 77, 3) := by decide +kernel
theorem dX7_tell_5 : decode cX7_tell 5 = .ok (.aload_n 0, 1) := by decide +kernel
theorem dX7_tell_6 : decode cX7_tell 6 = .ok (.iload_n 1, 1) := by decide +kernel
theorem dX7_tell_7 : decode cX7_tell 7 = .ok (.invokevirtual 150, 3) := by decide +kernel
theorem dX7_tell_10 : decode cX7_tell 10 = .ok (.ifCond .ne 11, 3) := by decide +kernel
theorem dX7_tell_13 : decode cX7_tell 13 = .ok (.aload_n 0, 1) := by decide +kernel
theorem dX7_tell_14 : decode cX7_tell 14 = .ok (.iload_n 2, 1) := by decide +kernel
theorem dX7_tell_15 : decode cX7_tell 15 = .ok (.invokevirtual 155, 3) := by decide +kernel
theorem dX7_tell_18 : decode cX7_tell 18 = .ok (.ifCond .eq 5, 3) := by decide +kernel
theorem dX7_tell_21 : decode cX7_tell 21 = .ok (.iconst (-1), 1) := by decide +kernel
theorem dX7_tell_22 : decode cX7_tell 22 = .ok (.ireturn, 1) := by decide +kernel
theorem dX7_tell_23 : decode cX7_tell 23 = .ok (.aload_n 0, 1) := by decide +kernel
theorem dX7_tell_24 : decode cX7_tell 24 = .ok (.aload_n 0, 1) := by decide +kernel
theorem dX7_tell_25 : decode cX7_tell 25 = .ok (.getfield 25, 3) := by decide +kernel
theorem dX7_tell_28 : decode cX7_tell 28 = .ok (.aload_n 0, 1) := by decide +kernel
theorem dX7_tell_29 : decode cX7_tell 29 = .ok (.getfield 137, 3) := by decide +kernel
theorem dX7_tell_32 : decode cX7_tell 32 = .ok (.iload_n 1, 1) := by decide +kernel
theorem dX7_tell_33 : decode cX7_tell 33 = .ok (.iload_n 2, 1) := by decide +kernel
theorem dX7_tell_34 : decode cX7_tell 34 = .ok (.invokevirtual 161, 3) := by decide +kernel
theorem dX7_tell_37 : decode cX7_tell 37 = .ok (.ifCond .ne 6, 3) := by decide +kernel
theorem dX7_tell_40 : decode cX7_tell 40 = .ok (.bipush (-3), 2) := by decide +kernel
theorem dX7_tell_42 : decode cX7_tell 42 = .ok (.ireturn, 1) := by decide +kernel
theorem dX7_tell_43 : decode cX7_tell 43 = .ok (.aload_n 0, 1) := by decide +kernel
theorem dX7_tell_44 : decode cX7_tell 44 = .ok (.invokevirtual 169, 3) := by decide +kernel
theorem dX7_tell_47 : decode cX7_tell 47 = .ok (.aload_n 0, 1) := by decide +kernel
theorem dX7_tell_48 : decode cX7_tell 48 = .ok (.getfield 25, 3) := by decide +kernel
theorem dX7_tell_51 : decode cX7_tell 51 = .ok (.iconst 3, 1) := by decide +kernel
theorem dX7_tell_52 : decode cX7_tell 52 = .ok (.iload_n 2, 1) := by decide +kernel
theorem dX7_tell_53 : decode cX7_tell 53 = .ok (.iadd, 1) := by decide +kernel
theorem dX7_tell_54 : decode cX7_tell 54 = .ok (.iaload, 1) := by decide +kernel
theorem dX7_tell_55 : decode cX7_tell 55 = .ok (.invokestatic 143, 3) := by decide +kernel
theorem dX7_tell_58 : decode cX7_tell 58 = .ok (.istore_n 3, 1) := by decide +kernel
theorem dX7_tell_59 : decode cX7_tell 59 = .ok (.aload_n 0, 1) := by decide +kernel
theorem dX7_tell_60 : decode cX7_tell 60 = .ok (.aload_n 0, 1) := by decide +kernel
theorem dX7_tell_61 : decode cX7_tell 61 = .ok (.getfield 25, 3) := by decide +kernel
theorem dX7_tell_64 : decode cX7_tell 64 = .ok (.aload_n 0, 1) := by decide +kernel
theorem dX7_tell_65 : decode cX7_tell 65 = .ok (.getfield 137, 3) := by decide +kernel
theorem dX7_tell_68 : decode cX7_tell 68 = .ok (.iload_n 1, 1) := by decide +kernel
theorem dX7_tell_69 : decode cX7_tell 69 = .ok (.iload_n 2, 1) := by decide +kernel
theorem dX7_tell_70 : decode cX7_tell 70 = .ok (.invokevirtual 172, 3) := by decide +kernel
theorem dX7_tell_73 : decode cX7_tell 73 = .ok (.aload_n 0, 1) := by decide +kernel
theorem dX7_tell_74 : decode cX7_tell 74 = .ok (.getfield 25, 3) := by decide +kernel
theorem dX7_tell_77 : decode cX7_tell 77 = .ok (.iconst 3, 1) := by decide +kernel
theorem dX7_tell_78 : decode cX7_tell 78 = .ok (.iload_n 2, 1) := by decide +kernel
theorem dX7_tell_79 : decode cX7_tell 79 = .ok (.iadd, 1) := by decide +kernel
theorem dX7_tell_80 : decode cX7_tell 80 = .ok (.iaload, 1) := by decide +kernel
theorem dX7_tell_81 : decode cX7_tell 81 = .ok (.invokestatic 143, 3) := by decide +kernel
theorem dX7_tell_84 : decode cX7_tell 84 = .ok (.iload_n 3, 1) := by decide +kernel
theorem dX7_tell_85 : decode cX7_tell 85 = .ok (.isub, 1) := by decide +kernel
theorem dX7_tell_86 : decode cX7_tell 86 = .ok (.ireturn, 1) := by decide +kernel
theorem dX7_hour_0 : decode cX7_hour 0 = .ok (.aload_n 0, 1) := by decide +kernel
theorem dX7_hour_1 : decode cX7_hour 1 = .ok (.iconst 0, 1) := by decide +kernel
theorem dX7_hour_2 : decode cX7_hour 2 = .ok (.putfield 77, 3) := by decide +kernel
theorem dX7_hour_5 : decode cX7_hour 5 = .ok (.aload_n 0, 1) := by decide +kernel
theorem dX7_hour_6 : decode cX7_hour 6 = .ok (.getfield 137, 3) := by decide +kernel
theorem dX7_hour_9 : decode cX7_hour 9 = .ok (.iconst 5, 1) := by decide +kernel
theorem dX7_hour_10 : decode cX7_hour 10 = .ok (.if_icmp .ne 6, 3) := by decide +kernel
theorem dX7_hour_13 : decode cX7_hour 13 = .ok (.bipush (-3), 2) := by decide +kernel
theorem dX7_hour_15 : decode cX7_hour 15 = .ok (.ireturn, 1) := by decide +kernel
theorem dX7_hour_16 : decode cX7_hour 16 = .ok (.aload_n 0, 1) := by decide +kernel
theorem dX7_hour_17 : decode cX7_hour 17 = .ok (.invokevirtual 169, 3) := by decide +kernel
theorem dX7_hour_20 : decode cX7_hour 20 = .ok (.aload_n 0, 1) := by decide +kernel
theorem dX7_hour_21 : decode cX7_hour 21 = .ok (.dup, 1) := by decide +kernel
theorem dX7_hour_22 : decode cX7_hour 22 = .ok (.getfield 137, 3) := by decide +kernel
theorem dX7_hour_25 : decode cX7_hour 25 = .ok (.iconst 1, 1) := by decide +kernel
theorem dX7_hour_26 : decode cX7_hour 26 = .ok (.iadd, 1) := by decide +kernel
theorem dX7_hour_27 : decode cX7_hour 27 = .ok (.putfield 137, 3) := by decide +kernel
theorem dX7_hour_30 : decode cX7_hour 30 = .ok (.aload_n 0, 1) := by decide +kernel
theorem dX7_hour_31 : decode cX7_hour 31 = .ok (.getfield 137, 3) := by decide +kernel
theorem dX7_hour_34 : decode cX7_hour 34 = .ok (.ireturn, 1) := by decide +kernel
theorem dX7_undo_0 : decode cX7_undo 0 = .ok (.aload_n 0, 1) := by decide +kernel
theorem dX7_undo_1 : decode cX7_undo 1 = .ok (.iconst 0, 1) := by decide +kernel
theorem dX7_undo_2 : decode cX7_undo 2 = .ok (.putfield 77, 3) := by decide +kernel
theorem dX7_undo_5 : decode cX7_undo 5 = .ok (.aload_n 0, 1) := by decide +kernel
theorem dX7_undo_6 : decode cX7_undo 6 = .ok (.getfield 140, 3) := by decide +kernel
theorem dX7_undo_9 : decode cX7_undo 9 = .ok (.ifCond .ne 6, 3) := by decide +kernel
theorem dX7_undo_12 : decode cX7_undo 12 = .ok (.bipush (-3), 2) := by decide +kernel
theorem dX7_undo_14 : decode cX7_undo 14 = .ok (.ireturn, 1) := by decide +kernel
theorem dX7_undo_15 : decode cX7_undo 15 = .ok (.aload_n 0, 1) := by decide +kernel
theorem dX7_undo_16 : decode cX7_undo 16 = .ok (.dup, 1) := by decide +kernel
theorem dX7_undo_17 : decode cX7_undo 17 = .ok (.getfield 140, 3) := by decide +kernel
theorem dX7_undo_20 : decode cX7_undo 20 = .ok (.iconst 1, 1) := by decide +kernel
theorem dX7_undo_21 : decode cX7_undo 21 = .ok (.isub, 1) := by decide +kernel
theorem dX7_undo_22 : decode cX7_undo 22 = .ok (.putfield 140, 3) := by decide +kernel
theorem dX7_undo_25 : decode cX7_undo 25 = .ok (.aload_n 0, 1) := by decide +kernel
theorem dX7_undo_26 : decode cX7_undo 26 = .ok (.aload_n 0, 1) := by decide +kernel
theorem dX7_undo_27 : decode cX7_undo 27 = .ok (.getfield 40, 3) := by decide +kernel
theorem dX7_undo_30 : decode cX7_undo 30 = .ok (.bipush 58, 2) := by decide +kernel
theorem dX7_undo_32 : decode cX7_undo 32 = .ok (.aload_n 0, 1) := by decide +kernel
theorem dX7_undo_33 : decode cX7_undo 33 = .ok (.getfield 140, 3) := by decide +kernel
theorem dX7_undo_36 : decode cX7_undo 36 = .ok (.imul, 1) := by decide +kernel
theorem dX7_undo_37 : decode cX7_undo 37 = .ok (.invokevirtual 176, 3) := by decide +kernel
theorem dX7_undo_40 : decode cX7_undo 40 = .ok (.aload_n 0, 1) := by decide +kernel
theorem dX7_undo_41 : decode cX7_undo 41 = .ok (.getfield 140, 3) := by decide +kernel
theorem dX7_undo_44 : decode cX7_undo 44 = .ok (.ireturn, 1) := by decide +kernel
theorem dX7_judge_0 : decode cX7_judge 0 = .ok (.aload_n 0, 1) := by decide +kernel
theorem dX7_judge_1 : decode cX7_judge 1 = .ok (.iconst 0, 1) := by decide +kernel
theorem dX7_judge_2 : decode cX7_judge 2 = .ok (.putfield 77, 3) := by decide +kernel
theorem dX7_judge_5 : decode cX7_judge 5 = .ok (.aload_n 0, 1) := by decide +kernel
theorem dX7_judge_6 : decode cX7_judge 6 = .ok (.iload_n 1, 1) := by decide +kernel
theorem dX7_judge_7 : decode cX7_judge 7 = .ok (.invokevirtual 155, 3) := by decide +kernel
theorem dX7_judge_10 : decode cX7_judge 10 = .ok (.ifCond .eq 5, 3) := by decide +kernel
theorem dX7_judge_13 : decode cX7_judge 13 = .ok (.iconst (-1), 1) := by decide +kernel
theorem dX7_judge_14 : decode cX7_judge 14 = .ok (.ireturn, 1) := by decide +kernel
theorem dX7_judge_15 : decode cX7_judge 15 = .ok (.iload_n 2, 1) := by decide +kernel
theorem dX7_judge_16 : decode cX7_judge 16 = .ok (.iconst 1, 1) := by decide +kernel
theorem dX7_judge_17 : decode cX7_judge 17 = .ok (.if_icmp .ne 8, 3) := by decide +kernel
theorem dX7_judge_20 : decode cX7_judge 20 = .ok (.bipush 10, 2) := by decide +kernel
theorem dX7_judge_22 : decode cX7_judge 22 = .ok (.goto 36, 3) := by decide +kernel
theorem dX7_judge_25 : decode cX7_judge 25 = .ok (.iload_n 2, 1) := by decide +kernel
theorem dX7_judge_26 : decode cX7_judge 26 = .ok (.iconst 2, 1) := by decide +kernel
theorem dX7_judge_27 : decode cX7_judge 27 = .ok (.if_icmp .ne 8, 3) := by decide +kernel
theorem dX7_judge_30 : decode cX7_judge 30 = .ok (.bipush 100, 2) := by decide +kernel
theorem dX7_judge_32 : decode cX7_judge 32 = .ok (.goto 26, 3) := by decide +kernel
theorem dX7_judge_35 : decode cX7_judge 35 = .ok (.iload_n 2, 1) := by decide +kernel
theorem dX7_judge_36 : decode cX7_judge 36 = .ok (.iconst 3, 1) := by decide +kernel
theorem dX7_judge_37 : decode cX7_judge 37 = .ok (.if_icmp .ne 9, 3) := by decide +kernel
theorem dX7_judge_40 : decode cX7_judge 40 = .ok (.sipush 1000, 3) := by decide +kernel
theorem dX7_judge_43 : decode cX7_judge 43 = .ok (.goto 15, 3) := by decide +kernel
theorem dX7_judge_46 : decode cX7_judge 46 = .ok (.iload_n 2, 1) := by decide +kernel
theorem dX7_judge_47 : decode cX7_judge 47 = .ok (.iconst 4, 1) := by decide +kernel
theorem dX7_judge_48 : decode cX7_judge 48 = .ok (.if_icmp .ne 9, 3) := by decide +kernel
theorem dX7_judge_51 : decode cX7_judge 51 = .ok (.sipush 10000, 3) := by decide +kernel
theorem dX7_judge_54 : decode cX7_judge 54 = .ok (.goto 4, 3) := by decide +kernel
theorem dX7_judge_57 : decode cX7_judge 57 = .ok (.iconst 0, 1) := by decide +kernel
theorem dX7_judge_58 : decode cX7_judge 58 = .ok (.istore 4, 2) := by decide +kernel
theorem dX7_judge_60 : decode cX7_judge 60 = .ok (.iload_n 3, 1) := by decide +kernel
theorem dX7_judge_61 : decode cX7_judge 61 = .ok (.i2l, 1) := by decide +kernel
theorem dX7_judge_62 : decode cX7_judge 62 = .ok (.lconst 0, 1) := by decide +kernel
theorem dX7_judge_63 : decode cX7_judge 63 = .ok (.iload 4, 2) := by decide +kernel
theorem dX7_judge_65 : decode cX7_judge 65 = .ok (.iconst 1, 1) := by decide +kernel
theorem dX7_judge_66 : decode cX7_judge 66 = .ok (.isub, 1) := by decide +kernel
theorem dX7_judge_67 : decode cX7_judge 67 = .ok (.i2l, 1) := by decide +kernel
theorem dX7_judge_68 : decode cX7_judge 68 = .ok (.invokestatic 84, 3) := by decide +kernel
theorem dX7_judge_71 : decode cX7_judge 71 = .ok (.ifCond .ne 6, 3) := by decide +kernel
theorem dX7_judge_74 : decode cX7_judge 74 = .ok (.bipush (-2), 2) := by decide +kernel
theorem dX7_judge_76 : decode cX7_judge 76 = .ok (.ireturn, 1) := by decide +kernel
theorem dX7_judge_77 : decode cX7_judge 77 = .ok (.iconst 0, 1) := by decide +kernel
theorem dX7_judge_78 : decode cX7_judge 78 = .ok (.istore 5, 2) := by decide +kernel
theorem dX7_judge_80 : decode cX7_judge 80 = .ok (.iload 5, 2) := by decide +kernel
theorem dX7_judge_82 : decode cX7_judge 82 = .ok (.bipush 58, 2) := by decide +kernel
theorem dX7_judge_84 : decode cX7_judge 84 = .ok (.if_icmp .ge 23, 3) := by decide +kernel
theorem dX7_judge_87 : decode cX7_judge 87 = .ok (.aload_n 0, 1) := by decide +kernel
theorem dX7_judge_88 : decode cX7_judge 88 = .ok (.getfield 50, 3) := by decide +kernel
theorem dX7_judge_91 : decode cX7_judge 91 = .ok (.iload 5, 2) := by decide +kernel
theorem dX7_judge_93 : decode cX7_judge 93 = .ok (.aload_n 0, 1) := by decide +kernel
theorem dX7_judge_94 : decode cX7_judge 94 = .ok (.getfield 25, 3) := by decide +kernel
theorem dX7_judge_97 : decode cX7_judge 97 = .ok (.iload 5, 2) := by decide +kernel
theorem dX7_judge_99 : decode cX7_judge 99 = .ok (.iaload, 1) := by decide +kernel
theorem dX7_judge_100 : decode cX7_judge 100 = .ok (.iastore, 1) := by decide +kernel
theorem dX7_judge_101 : decode cX7_judge 101 = .ok (.iinc 5 1, 3) := by decide +kernel
theorem dX7_judge_104 : decode cX7_judge 104 = .ok (.goto (-24), 3) := by decide +kernel
theorem dX7_judge_107 : decode cX7_judge 107 = .ok (.aload_n 0, 1) := by decide +kernel
theorem dX7_judge_108 : decode cX7_judge 108 = .ok (.getfield 137, 3) := by decide +kernel
theorem dX7_judge_111 : decode cX7_judge 111 = .ok (.istore 5, 2) := by decide +kernel
theorem dX7_judge_113 : decode cX7_judge 113 = .ok (.iconst 0, 1) := by decide +kernel
theorem dX7_judge_114 : decode cX7_judge 114 = .ok (.istore 6, 2) := by decide +kernel
theorem dX7_judge_116 : decode cX7_judge 116 = .ok (.iload 6, 2) := by decide +kernel
theorem dX7_judge_118 : decode cX7_judge 118 = .ok (.iload_n 2, 1) := by decide +kernel
theorem dX7_judge_119 : decode cX7_judge 119 = .ok (.if_icmp .ge 112, 3) := by decide +kernel
theorem dX7_judge_122 : decode cX7_judge 122 = .ok (.iload 4, 2) := by decide +kernel
theorem dX7_judge_124 : decode cX7_judge 124 = .ok (.bipush 10, 2) := by decide +kernel
theorem dX7_judge_126 : decode cX7_judge 126 = .ok (.idiv, 1) := by decide +kernel
theorem dX7_judge_127 : decode cX7_judge 127 = .ok (.istore 4, 2) := by decide +kernel
theorem dX7_judge_129 : decode cX7_judge 129 = .ok (.iload_n 3, 1) := by decide +kernel
theorem dX7_judge_130 : decode cX7_judge 130 = .ok (.iload 4, 2) := by decide +kernel
theorem dX7_judge_132 : decode cX7_judge 132 = .ok (.idiv, 1) := by decide +kernel
theorem dX7_judge_133 : decode cX7_judge 133 = .ok (.bipush 10, 2) := by decide +kernel
theorem dX7_judge_135 : decode cX7_judge 135 = .ok (.irem, 1) := by decide +kernel
theorem dX7_judge_136 : decode cX7_judge 136 = .ok (.istore 7, 2) := by decide +kernel
theorem dX7_judge_138 : decode cX7_judge 138 = .ok (.iload 7, 2) := by decide +kernel
theorem dX7_judge_140 : decode cX7_judge 140 = .ok (.bipush 9, 2) := by decide +kernel
theorem dX7_judge_142 : decode cX7_judge 142 = .ok (.if_icmp .ne 17, 3) := by decide +kernel
theorem dX7_judge_145 : decode cX7_judge 145 = .ok (.iload 5, 2) := by decide +kernel
theorem dX7_judge_147 : decode cX7_judge 147 = .ok (.iconst 5, 1) := by decide +kernel
theorem dX7_judge_148 : decode cX7_judge 148 = .ok (.if_icmp .ge 7, 3) := by decide +kernel
theorem dX7_judge_151 : decode cX7_judge 151 = .ok (.iconst 1, 1) := by decide +kernel
theorem dX7_judge_152 : decode cX7_judge 152 = .ok (.goto 37, 3) := by decide +kernel
theorem dX7_judge_155 : decode cX7_judge 155 = .ok (.iconst 0, 1) := by decide +kernel
theorem dX7_judge_156 : decode cX7_judge 156 = .ok (.goto 33, 3) := by decide +kernel
theorem dX7_judge_159 : decode cX7_judge 159 = .ok (.aload_n 0, 1) := by decide +kernel
theorem dX7_judge_160 : decode cX7_judge 160 = .ok (.iload 7, 2) := by decide +kernel
theorem dX7_judge_162 : decode cX7_judge 162 = .ok (.invokevirtual 150, 3) := by decide +kernel
theorem dX7_judge_165 : decode cX7_judge 165 = .ok (.ifCond .ne 23, 3) := by decide +kernel
theorem dX7_judge_168 : decode cX7_judge 168 = .ok (.aload_n 0, 1) := by decide +kernel
theorem dX7_judge_169 : decode cX7_judge 169 = .ok (.aload_n 0, 1) := by decide +kernel
theorem dX7_judge_170 : decode cX7_judge 170 = .ok (.getfield 50, 3) := by decide +kernel
theorem dX7_judge_173 : decode cX7_judge 173 = .ok (.iload 5, 2) := by decide +kernel
theorem dX7_judge_175 : decode cX7_judge 175 = .ok (.iload 7, 2) := by decide +kernel
theorem dX7_judge_177 : decode cX7_judge 177 = .ok (.iload_n 1, 1) := by decide +kernel
theorem dX7_judge_178 : decode cX7_judge 178 = .ok (.invokevirtual 161, 3) := by decide +kernel
theorem dX7_judge_181 : decode cX7_judge 181 = .ok (.ifCond .eq 7, 3) := by decide +kernel
theorem dX7_judge_184 : decode cX7_judge 184 = .ok (.iconst 1, 1) := by decide +kernel
theorem dX7_judge_185 : decode cX7_judge 185 = .ok (.goto 4, 3) := by decide +kernel
theorem dX7_judge_188 : decode cX7_judge 188 = .ok (.iconst 0, 1) := by decide +kernel
theorem dX7_judge_189 : decode cX7_judge 189 = .ok (.istore 8, 2) := by decide +kernel
theorem dX7_judge_191 : decode cX7_judge 191 = .ok (.iload 8, 2) := by decide +kernel
theorem dX7_judge_193 : decode cX7_judge 193 = .ok (.ifCond .ne 6, 3) := by decide +kernel
theorem dX7_judge_196 : decode cX7_judge 196 = .ok (.iload 6, 2) := by decide +kernel
theorem dX7_judge_198 : decode cX7_judge 198 = .ok (.ireturn, 1) := by decide +kernel
theorem dX7_judge_199 : decode cX7_judge 199 = .ok (.iload 7, 2) := by decide +kernel
theorem dX7_judge_201 : decode cX7_judge 201 = .ok (.bipush 9, 2) := by decide +kernel
theorem dX7_judge_203 : decode cX7_judge 203 = .ok (.if_icmp .ne 9, 3) := by decide +kernel
theorem dX7_judge_206 : decode cX7_judge 206 = .ok (.iinc 5 1, 3) := by decide +kernel
theorem dX7_judge_209 : decode cX7_judge 209 = .ok (.goto 16, 3) := by decide +kernel
theorem dX7_judge_212 : decode cX7_judge 212 = .ok (.aload_n 0, 1) := by decide +kernel
theorem dX7_judge_213 : decode cX7_judge 213 = .ok (.aload_n 0, 1) := by decide +kernel
theorem dX7_judge_214 : decode cX7_judge 214 = .ok (.getfield 50, 3) := by decide +kernel
theorem dX7_judge_217 : decode cX7_judge 217 = .ok (.iload 5, 2) := by decide +kernel
theorem dX7_judge_219 : decode cX7_judge 219 = .ok (.iload 7, 2) := by decide +kernel
theorem dX7_judge_221 : decode cX7_judge 221 = .ok (.iload_n 1, 1) := by decide +kernel
theorem dX7_judge_222 : decode cX7_judge 222 = .ok (.invokevirtual 172, 3) := by decide +kernel
theorem dX7_judge_225 : decode cX7_judge 225 = .ok (.iinc 6 1, 3) := by decide +kernel
theorem dX7_judge_228 : decode cX7_judge 228 = .ok (.goto (-112), 3) := by decide +kernel
theorem dX7_judge_231 : decode cX7_judge 231 = .ok (.bipush (-9), 2) := by decide +kernel
theorem dX7_judge_233 : decode cX7_judge 233 = .ok (.ireturn, 1) := by decide +kernel
theorem dX7_canAt_0 : decode cX7_canAt 0 = .ok (.aload_n 0, 1) := by decide +kernel
theorem dX7_canAt_1 : decode cX7_canAt 1 = .ok (.iload_n 1, 1) := by decide +kernel
theorem dX7_canAt_2 : decode cX7_canAt 2 = .ok (.iload_n 2, 1) := by decide +kernel
theorem dX7_canAt_3 : decode cX7_canAt 3 = .ok (.invokevirtual 158, 3) := by decide +kernel
theorem dX7_canAt_6 : decode cX7_canAt 6 = .ok (.istore 4, 2) := by decide +kernel
theorem dX7_canAt_8 : decode cX7_canAt 8 = .ok (.iload 4, 2) := by decide +kernel
theorem dX7_canAt_10 : decode cX7_canAt 10 = .ok (.invokestatic 143, 3) := by decide +kernel
theorem dX7_canAt_13 : decode cX7_canAt 13 = .ok (.iconst 1, 1) := by decide +kernel
theorem dX7_canAt_14 : decode cX7_canAt 14 = .ok (.if_icmp .le 14, 3) := by decide +kernel
theorem dX7_canAt_17 : decode cX7_canAt 17 = .ok (.iload 4, 2) := by decide +kernel
theorem dX7_canAt_19 : decode cX7_canAt 19 = .ok (.iload_n 3, 1) := by decide +kernel
theorem dX7_canAt_20 : decode cX7_canAt 20 = .ok (.iand, 1) := by decide +kernel
theorem dX7_canAt_21 : decode cX7_canAt 21 = .ok (.ifCond .eq 7, 3) := by decide +kernel
theorem dX7_canAt_24 : decode cX7_canAt 24 = .ok (.iconst 1, 1) := by decide +kernel
theorem dX7_canAt_25 : decode cX7_canAt 25 = .ok (.goto 4, 3) := by decide +kernel
theorem dX7_canAt_28 : decode cX7_canAt 28 = .ok (.iconst 0, 1) := by decide +kernel
theorem dX7_canAt_29 : decode cX7_canAt 29 = .ok (.ireturn, 1) := by decide +kernel
theorem dX7_behind_0 : decode cX7_behind 0 = .ok (.iload_n 3, 1) := by decide +kernel
theorem dX7_behind_1 : decode cX7_behind 1 = .ok (.istore 4, 2) := by decide +kernel
theorem dX7_behind_3 : decode cX7_behind 3 = .ok (.iconst 0, 1) := by decide +kernel
theorem dX7_behind_4 : decode cX7_behind 4 = .ok (.istore 5, 2) := by decide +kernel
theorem dX7_behind_6 : decode cX7_behind 6 = .ok (.iload 5, 2) := by decide +kernel
theorem dX7_behind_8 : decode cX7_behind 8 = .ok (.iconst 3, 1) := by decide +kernel
theorem dX7_behind_9 : decode cX7_behind 9 = .ok (.if_icmp .ge 44, 3) := by decide +kernel
theorem dX7_behind_12 : decode cX7_behind 12 = .ok (.iload_n 1, 1) := by decide +kernel
theorem dX7_behind_13 : decode cX7_behind 13 = .ok (.iload 5, 2) := by decide +kernel
theorem dX7_behind_15 : decode cX7_behind 15 = .ok (.invokestatic 109, 3) := by decide +kernel
theorem dX7_behind_18 : decode cX7_behind 18 = .ok (.ifCond .eq 29, 3) := by decide +kernel
theorem dX7_behind_21 : decode cX7_behind 21 = .ok (.aload_n 0, 1) := by decide +kernel
theorem dX7_behind_22 : decode cX7_behind 22 = .ok (.iload 5, 2) := by decide +kernel
theorem dX7_behind_24 : decode cX7_behind 24 = .ok (.iload_n 2, 1) := by decide +kernel
theorem dX7_behind_25 : decode cX7_behind 25 = .ok (.iload_n 3, 1) := by decide +kernel
theorem dX7_behind_26 : decode cX7_behind 26 = .ok (.invokevirtual 179, 3) := by decide +kernel
theorem dX7_behind_29 : decode cX7_behind 29 = .ok (.ifCond .ne 6, 3) := by decide +kernel
theorem dX7_behind_32 : decode cX7_behind 32 = .ok (.bipush (-9), 2) := by decide +kernel
theorem dX7_behind_34 : decode cX7_behind 34 = .ok (.ireturn, 1) := by decide +kernel
theorem dX7_behind_35 : decode cX7_behind 35 = .ok (.iload 4, 2) := by decide +kernel
theorem dX7_behind_37 : decode cX7_behind 37 = .ok (.aload_n 0, 1) := by decide +kernel
theorem dX7_behind_38 : decode cX7_behind 38 = .ok (.iload 5, 2) := by decide +kernel
theorem dX7_behind_40 : decode cX7_behind 40 = .ok (.iload_n 2, 1) := by decide +kernel
theorem dX7_behind_41 : decode cX7_behind 41 = .ok (.invokevirtual 158, 3) := by decide +kernel
theorem dX7_behind_44 : decode cX7_behind 44 = .ok (.ior, 1) := by decide +kernel
theorem dX7_behind_45 : decode cX7_behind 45 = .ok (.istore 4, 2) := by decide +kernel
theorem dX7_behind_47 : decode cX7_behind 47 = .ok (.iinc 5 1, 3) := by decide +kernel
theorem dX7_behind_50 : decode cX7_behind 50 = .ok (.goto (-44), 3) := by decide +kernel
theorem dX7_behind_53 : decode cX7_behind 53 = .ok (.iload 4, 2) := by decide +kernel
theorem dX7_behind_55 : decode cX7_behind 55 = .ok (.ireturn, 1) := by decide +kernel
theorem dX7_leftOf_0 : decode cX7_leftOf 0 = .ok (.aload_n 0, 1) := by decide +kernel
theorem dX7_leftOf_1 : decode cX7_leftOf 1 = .ok (.getfield 16, 3) := by decide +kernel
theorem dX7_leftOf_4 : decode cX7_leftOf 4 = .ok (.iload_n 1, 1) := by decide +kernel
theorem dX7_leftOf_5 : decode cX7_leftOf 5 = .ok (.iaload, 1) := by decide +kernel
theorem dX7_leftOf_6 : decode cX7_leftOf 6 = .ok (.aload_n 0, 1) := by decide +kernel
theorem dX7_leftOf_7 : decode cX7_leftOf 7 = .ok (.getfield 25, 3) := by decide +kernel
theorem dX7_leftOf_10 : decode cX7_leftOf 10 = .ok (.iload_n 1, 1) := by decide +kernel
theorem dX7_leftOf_11 : decode cX7_leftOf 11 = .ok (.iaload, 1) := by decide +kernel
theorem dX7_leftOf_12 : decode cX7_leftOf 12 = .ok (.isub, 1) := by decide +kernel
theorem dX7_leftOf_13 : decode cX7_leftOf 13 = .ok (.ireturn, 1) := by decide +kernel
theorem dX7_layNeed_0 : decode cX7_layNeed 0 = .ok (.iconst 0, 1) := by decide +kernel
theorem dX7_layNeed_1 : decode cX7_layNeed 1 = .ok (.istore_n 2, 1) := by decide +kernel
theorem dX7_layNeed_2 : decode cX7_layNeed 2 = .ok (.iload_n 2, 1) := by decide +kernel
theorem dX7_layNeed_3 : decode cX7_layNeed 3 = .ok (.bipush 64, 2) := by decide +kernel
theorem dX7_layNeed_5 : decode cX7_layNeed 5 = .ok (.if_icmp .ge 33, 3) := by decide +kernel
theorem dX7_layNeed_8 : decode cX7_layNeed 8 = .ok (.aload_n 0, 1) := by decide +kernel
theorem dX7_layNeed_9 : decode cX7_layNeed 9 = .ok (.getfield 62, 3) := by decide +kernel
theorem dX7_layNeed_12 : decode cX7_layNeed 12 = .ok (.sipush 384, 3) := by decide +kernel
theorem dX7_layNeed_15 : decode cX7_layNeed 15 = .ok (.iload_n 2, 1) := by decide +kernel
theorem dX7_layNeed_16 : decode cX7_layNeed 16 = .ok (.iadd, 1) := by decide +kernel
theorem dX7_layNeed_17 : decode cX7_layNeed 17 = .ok (.iload_n 2, 1) := by decide +kernel
theorem dX7_layNeed_18 : decode cX7_layNeed 18 = .ok (.iload_n 1, 1) := by decide +kernel
theorem dX7_layNeed_19 : decode cX7_layNeed 19 = .ok (.iand, 1) := by decide +kernel
theorem dX7_layNeed_20 : decode cX7_layNeed 20 = .ok (.iload_n 1, 1) := by decide +kernel
theorem dX7_layNeed_21 : decode cX7_layNeed 21 = .ok (.if_icmp .ne 7, 3) := by decide +kernel
theorem dX7_layNeed_24 : decode cX7_layNeed 24 = .ok (.iconst 0, 1) := by decide +kernel
theorem dX7_layNeed_25 : decode cX7_layNeed 25 = .ok (.goto 6, 3) := by decide +kernel
theorem dX7_layNeed_28 : decode cX7_layNeed 28 = .ok (.sipush 999, 3) := by decide +kernel
theorem dX7_layNeed_31 : decode cX7_layNeed 31 = .ok (.iastore, 1) := by decide +kernel
theorem dX7_layNeed_32 : decode cX7_layNeed 32 = .ok (.iinc 2 1, 3) := by decide +kernel
theorem dX7_layNeed_35 : decode cX7_layNeed 35 = .ok (.goto (-33), 3) := by decide +kernel
theorem dX7_layNeed_38 : decode cX7_layNeed 38 = .ok (.iconst 5, 1) := by decide +kernel
theorem dX7_layNeed_39 : decode cX7_layNeed 39 = .ok (.istore_n 2, 1) := by decide +kernel
theorem dX7_layNeed_40 : decode cX7_layNeed 40 = .ok (.iload_n 2, 1) := by decide +kernel
theorem dX7_layNeed_41 : decode cX7_layNeed 41 = .ok (.aload_n 0, 1) := by decide +kernel
theorem dX7_layNeed_42 : decode cX7_layNeed 42 = .ok (.getfield 137, 3) := by decide +kernel
theorem dX7_layNeed_45 : decode cX7_layNeed 45 = .ok (.if_icmp .lt 141, 3) := by decide +kernel
theorem dX7_layNeed_48 : decode cX7_layNeed 48 = .ok (.iconst 0, 1) := by decide +kernel
theorem dX7_layNeed_49 : decode cX7_layNeed 49 = .ok (.istore_n 3, 1) := by decide +kernel
theorem dX7_layNeed_50 : decode cX7_layNeed 50 = .ok (.iload_n 3, 1) := by decide +kernel
theorem dX7_layNeed_51 : decode cX7_layNeed 51 = .ok (.bipush 64, 2) := by decide +kernel
theorem dX7_layNeed_53 : decode cX7_layNeed 53 = .ok (.if_icmp .ge 127, 3) := by decide +kernel
theorem dX7_layNeed_56 : decode cX7_layNeed 56 = .ok (.aload_n 0, 1) := by decide +kernel
theorem dX7_layNeed_57 : decode cX7_layNeed 57 = .ok (.getfield 62, 3) := by decide +kernel
theorem dX7_layNeed_60 : decode cX7_layNeed 60 = .ok (.bipush 64, 2) := by decide +kernel
theorem dX7_layNeed_62 : decode cX7_layNeed 62 = .ok (.iload_n 2, 1) := by decide +kernel
theorem dX7_layNeed_63 : decode cX7_layNeed 63 = .ok (.imul, 1) := by decide +kernel
theorem dX7_layNeed_64 : decode cX7_layNeed 64 = .ok (.iload_n 3, 1) := by decide +kernel
theorem dX7_layNeed_65 : decode cX7_layNeed 65 = .ok (.iadd, 1) := by decide +kernel
theorem dX7_layNeed_66 : decode cX7_layNeed 66 = .ok (.sipush 999, 3) := by decide +kernel
theorem dX7_layNeed_69 : decode cX7_layNeed 69 = .ok (.iastore, 1) := by decide +kernel
theorem dX7_layNeed_70 : decode cX7_layNeed 70 = .ok (.iconst 0, 1) := by decide +kernel
theorem dX7_layNeed_71 : decode cX7_layNeed 71 = .ok (.istore 4, 2) := by decide +kernel
theorem dX7_layNeed_73 : decode cX7_layNeed 73 = .ok (.iload 4, 2) := by decide +kernel
theorem dX7_layNeed_75 : decode cX7_layNeed 75 = .ok (.bipush 8, 2) := by decide +kernel
theorem dX7_layNeed_77 : decode cX7_layNeed 77 = .ok (.if_icmp .ge 97, 3) := by decide +kernel
theorem dX7_layNeed_80 : decode cX7_layNeed 80 = .ok (.aload_n 0, 1) := by decide +kernel
theorem dX7_layNeed_81 : decode cX7_layNeed 81 = .ok (.iload 4, 2) := by decide +kernel
theorem dX7_layNeed_83 : decode cX7_layNeed 83 = .ok (.iload_n 2, 1) := by decide +kernel
theorem dX7_layNeed_84 : decode cX7_layNeed 84 = .ok (.iload_n 3, 1) := by decide +kernel
theorem dX7_layNeed_85 : decode cX7_layNeed 85 = .ok (.invokevirtual 183, 3) := by decide +kernel
theorem dX7_layNeed_88 : decode cX7_layNeed 88 = .ok (.istore 5, 2) := by decide +kernel
theorem dX7_layNeed_90 : decode cX7_layNeed 90 = .ok (.iload 5, 2) := by decide +kernel
theorem dX7_layNeed_92 : decode cX7_layNeed 92 = .ok (.bipush (-9), 2) := by decide +kernel
theorem dX7_layNeed_94 : decode cX7_layNeed 94 = .ok (.if_icmp .ne 9, 3) := by decide +kernel
theorem dX7_layNeed_97 : decode cX7_layNeed 97 = .ok (.sipush 999, 3) := by decide +kernel
theorem dX7_layNeed_100 : decode cX7_layNeed 100 = .ok (.goto 23, 3) := by decide +kernel
theorem dX7_layNeed_103 : decode cX7_layNeed 103 = .ok (.iload 4, 2) := by decide +kernel
theorem dX7_layNeed_105 : decode cX7_layNeed 105 = .ok (.invokestatic 143, 3) := by decide +kernel
theorem dX7_layNeed_108 : decode cX7_layNeed 108 = .ok (.aload_n 0, 1) := by decide +kernel
theorem dX7_layNeed_109 : decode cX7_layNeed 109 = .ok (.getfield 62, 3) := by decide +kernel
theorem dX7_layNeed_112 : decode cX7_layNeed 112 = .ok (.bipush 64, 2) := by decide +kernel
theorem dX7_layNeed_114 : decode cX7_layNeed 114 = .ok (.iload_n 2, 1) := by decide +kernel
theorem dX7_layNeed_115 : decode cX7_layNeed 115 = .ok (.iconst 1, 1) := by decide +kernel
theorem dX7_layNeed_116 : decode cX7_layNeed 116 = .ok (.iadd, 1) := by decide +kernel
theorem dX7_layNeed_117 : decode cX7_layNeed 117 = .ok (.imul, 1) := by decide +kernel
theorem dX7_layNeed_118 : decode cX7_layNeed 118 = .ok (.iload 5, 2) := by decide +kernel
theorem dX7_layNeed_120 : decode cX7_layNeed 120 = .ok (.iadd, 1) := by decide +kernel
theorem dX7_layNeed_121 : decode cX7_layNeed 121 = .ok (.iaload, 1) := by decide +kernel
theorem dX7_layNeed_122 : decode cX7_layNeed 122 = .ok (.iadd, 1) := by decide +kernel
theorem dX7_layNeed_123 : decode cX7_layNeed 123 = .ok (.istore 6, 2) := by decide +kernel
theorem dX7_layNeed_125 : decode cX7_layNeed 125 = .ok (.aload_n 0, 1) := by decide +kernel
theorem dX7_layNeed_126 : decode cX7_layNeed 126 = .ok (.getfield 62, 3) := by decide +kernel
theorem dX7_layNeed_129 : decode cX7_layNeed 129 = .ok (.bipush 64, 2) := by decide +kernel
theorem dX7_layNeed_131 : decode cX7_layNeed 131 = .ok (.iload_n 2, 1) := by decide +kernel
theorem dX7_layNeed_132 : decode cX7_layNeed 132 = .ok (.imul, 1) := by decide +kernel
theorem dX7_layNeed_133 : decode cX7_layNeed 133 = .ok (.iload_n 3, 1) := by decide +kernel
theorem dX7_layNeed_134 : decode cX7_layNeed 134 = .ok (.iadd, 1) := by decide +kernel
theorem dX7_layNeed_135 : decode cX7_layNeed 135 = .ok (.iload 6, 2) := by decide +kernel
theorem dX7_layNeed_137 : decode cX7_layNeed 137 = .ok (.aload_n 0, 1) := by decide +kernel
theorem dX7_layNeed_138 : decode cX7_layNeed 138 = .ok (.getfield 62, 3) := by decide +kernel
theorem dX7_layNeed_141 : decode cX7_layNeed 141 = .ok (.bipush 64, 2) := by decide +kernel
theorem dX7_layNeed_143 : decode cX7_layNeed 143 = .ok (.iload_n 2, 1) := by decide +kernel
theorem dX7_layNeed_144 : decode cX7_layNeed 144 = .ok (.imul, 1) := by decide +kernel
theorem dX7_layNeed_145 : decode cX7_layNeed 145 = .ok (.iload_n 3, 1) := by decide +kernel
theorem dX7_layNeed_146 : decode cX7_layNeed 146 = .ok (.iadd, 1) := by decide +kernel
theorem dX7_layNeed_147 : decode cX7_layNeed 147 = .ok (.iaload, 1) := by decide +kernel
theorem dX7_layNeed_148 : decode cX7_layNeed 148 = .ok (.if_icmp .ge 8, 3) := by decide +kernel
theorem dX7_layNeed_151 : decode cX7_layNeed 151 = .ok (.iload 6, 2) := by decide +kernel
theorem dX7_layNeed_153 : decode cX7_layNeed 153 = .ok (.goto 14, 3) := by decide +kernel
theorem dX7_layNeed_156 : decode cX7_layNeed 156 = .ok (.aload_n 0, 1) := by decide +kernel
theorem dX7_layNeed_157 : decode cX7_layNeed 157 = .ok (.getfield 62, 3) := by decide +kernel
theorem dX7_layNeed_160 : decode cX7_layNeed 160 = .ok (.bipush 64, 2) := by decide +kernel
theorem dX7_layNeed_162 : decode cX7_layNeed 162 = .ok (.iload_n 2, 1) := by decide +kernel
theorem dX7_layNeed_163 : decode cX7_layNeed 163 = .ok (.imul, 1) := by decide +kernel
theorem dX7_layNeed_164 : decode cX7_layNeed 164 = .ok (.iload_n 3, 1) := by decide +kernel
theorem dX7_layNeed_165 : decode cX7_layNeed 165 = .ok (.iadd, 1) := by decide +kernel
theorem dX7_layNeed_166 : decode cX7_layNeed 166 = .ok (.iaload, 1) := by decide +kernel
theorem dX7_layNeed_167 : decode cX7_layNeed 167 = .ok (.iastore, 1) := by decide +kernel
theorem dX7_layNeed_168 : decode cX7_layNeed 168 = .ok (.iinc 4 1, 3) := by decide +kernel
theorem dX7_layNeed_171 : decode cX7_layNeed 171 = .ok (.goto (-98), 3) := by decide +kernel
theorem dX7_layNeed_174 : decode cX7_layNeed 174 = .ok (.iinc 3 1, 3) := by decide +kernel
theorem dX7_layNeed_177 : decode cX7_layNeed 177 = .ok (.goto (-127), 3) := by decide +kernel
theorem dX7_layNeed_180 : decode cX7_layNeed 180 = .ok (.iinc 2 (-1), 3) := by decide +kernel
theorem dX7_layNeed_183 : decode cX7_layNeed 183 = .ok (.goto (-143), 3) := by decide +kernel
theorem dX7_layNeed_186 : decode cX7_layNeed 186 = .ok (.return_, 1) := by decide +kernel
theorem dX7_noPlan_0 : decode cX7_noPlan 0 = .ok (.aload_n 0, 1) := by decide +kernel
theorem dX7_noPlan_1 : decode cX7_noPlan 1 = .ok (.iload_n 1, 1) := by decide +kernel
theorem dX7_noPlan_2 : decode cX7_noPlan 2 = .ok (.invokevirtual 155, 3) := by decide +kernel
theorem dX7_noPlan_5 : decode cX7_noPlan 5 = .ok (.ifCond .eq 5, 3) := by decide +kernel
theorem dX7_noPlan_8 : decode cX7_noPlan 8 = .ok (.iconst (-1), 1) := by decide +kernel
theorem dX7_noPlan_9 : decode cX7_noPlan 9 = .ok (.ireturn, 1) := by decide +kernel
theorem dX7_noPlan_10 : decode cX7_noPlan 10 = .ok (.iload_n 2, 1) := by decide +kernel
theorem dX7_noPlan_11 : decode cX7_noPlan 11 = .ok (.i2l, 1) := by decide +kernel
theorem dX7_noPlan_12 : decode cX7_noPlan 12 = .ok (.lconst 0, 1) := by decide +kernel
theorem dX7_noPlan_13 : decode cX7_noPlan 13 = .ok (.iconst 1, 1) := by decide +kernel
theorem dX7_noPlan_14 : decode cX7_noPlan 14 = .ok (.aload_n 0, 1) := by decide +kernel
theorem dX7_noPlan_15 : decode cX7_noPlan 15 = .ok (.getfield 81, 3) := by decide +kernel
theorem dX7_noPlan_18 : decode cX7_noPlan 18 = .ok (.ishl, 1) := by decide +kernel
theorem dX7_noPlan_19 : decode cX7_noPlan 19 = .ok (.iconst 1, 1) := by decide +kernel
theorem dX7_noPlan_20 : decode cX7_noPlan 20 = .ok (.isub, 1) := by decide +kernel
theorem dX7_noPlan_21 : decode cX7_noPlan 21 = .ok (.i2l, 1) := by decide +kernel
theorem dX7_noPlan_22 : decode cX7_noPlan 22 = .ok (.invokestatic 84, 3) := by decide +kernel
theorem dX7_noPlan_25 : decode cX7_noPlan 25 = .ok (.ifCond .ne 8, 3) := by decide +kernel
theorem dX7_noPlan_28 : decode cX7_noPlan 28 = .ok (.bipush (-2), 2) := by decide +kernel
theorem dX7_noPlan_30 : decode cX7_noPlan 30 = .ok (.goto 16, 3) := by decide +kernel
theorem dX7_noPlan_33 : decode cX7_noPlan 33 = .ok (.aload_n 0, 1) := by decide +kernel
theorem dX7_noPlan_34 : decode cX7_noPlan 34 = .ok (.getfield 130, 3) := by decide +kernel
theorem dX7_noPlan_37 : decode cX7_noPlan 37 = .ok (.ifCond .eq 8, 3) := by decide +kernel
theorem dX7_noPlan_40 : decode cX7_noPlan 40 = .ok (.bipush (-3), 2) := by decide +kernel
theorem dX7_noPlan_42 : decode cX7_noPlan 42 = .ok (.goto 4, 3) := by decide +kernel
theorem dX7_noPlan_45 : decode cX7_noPlan 45 = .ok (.iconst 0, 1) := by decide +kernel
theorem dX7_noPlan_46 : decode cX7_noPlan 46 = .ok (.ireturn, 1) := by decide +kernel
theorem dX7_findFewest_0 : decode cX7_findFewest 0 = .ok (.aload_n 0, 1) := by decide +kernel
theorem dX7_findFewest_1 : decode cX7_findFewest 1 = .ok (.iload_n 2, 1) := by decide +kernel
theorem dX7_findFewest_2 : decode cX7_findFewest 2 = .ok (.invokevirtual 187, 3) := by decide +kernel
theorem dX7_findFewest_5 : decode cX7_findFewest 5 = .ok (.aload_n 0, 1) := by decide +kernel
theorem dX7_findFewest_6 : decode cX7_findFewest 6 = .ok (.getfield 62, 3) := by decide +kernel
theorem dX7_findFewest_9 : decode cX7_findFewest 9 = .ok (.bipush 64, 2) := by decide +kernel
theorem dX7_findFewest_11 : decode cX7_findFewest 11 = .ok (.aload_n 0, 1) := by decide +kernel
theorem dX7_findFewest_12 : decode cX7_findFewest 12 = .ok (.getfield 137, 3) := by decide +kernel
theorem dX7_findFewest_15 : decode cX7_findFewest 15 = .ok (.imul, 1) := by decide +kernel
theorem dX7_findFewest_16 : decode cX7_findFewest 16 = .ok (.aload_n 0, 1) := by decide +kernel
theorem dX7_findFewest_17 : decode cX7_findFewest 17 = .ok (.getfield 25, 3) := by decide +kernel
theorem dX7_findFewest_20 : decode cX7_findFewest 20 = .ok (.iconst 3, 1) := by decide +kernel
theorem dX7_findFewest_21 : decode cX7_findFewest 21 = .ok (.iload_n 1, 1) := by decide +kernel
theorem dX7_findFewest_22 : decode cX7_findFewest 22 = .ok (.iadd, 1) := by decide +kernel
theorem dX7_findFewest_23 : decode cX7_findFewest 23 = .ok (.iaload, 1) := by decide +kernel
theorem dX7_findFewest_24 : decode cX7_findFewest 24 = .ok (.iadd, 1) := by decide +kernel
theorem dX7_findFewest_25 : decode cX7_findFewest 25 = .ok (.iaload, 1) := by decide +kernel
theorem dX7_findFewest_26 : decode cX7_findFewest 26 = .ok (.istore_n 3, 1) := by decide +kernel
theorem dX7_findFewest_27 : decode cX7_findFewest 27 = .ok (.iload_n 3, 1) := by decide +kernel
theorem dX7_findFewest_28 : decode cX7_findFewest 28 = .ok (.aload_n 0, 1) := by decide +kernel
theorem dX7_findFewest_29 : decode cX7_findFewest 29 = .ok (.iload_n 1, 1) := by decide +kernel
theorem dX7_findFewest_30 : decode cX7_findFewest 30 = .ok (.invokevirtual 191, 3) := by decide +kernel
theorem dX7_findFewest_33 : decode cX7_findFewest 33 = .ok (.if_icmp .le 8, 3) := by decide +kernel
theorem dX7_findFewest_36 : decode cX7_findFewest 36 = .ok (.bipush (-9), 2) := by decide +kernel
theorem dX7_findFewest_38 : decode cX7_findFewest 38 = .ok (.goto 4, 3) := by decide +kernel
theorem dX7_findFewest_41 : decode cX7_findFewest 41 = .ok (.iload_n 3, 1) := by decide +kernel
theorem dX7_findFewest_42 : decode cX7_findFewest 42 = .ok (.ireturn, 1) := by decide +kernel
theorem dX7_fewest_0 : decode cX7_fewest 0 = .ok (.aload_n 0, 1) := by decide +kernel
theorem dX7_fewest_1 : decode cX7_fewest 1 = .ok (.iconst 0, 1) := by decide +kernel
theorem dX7_fewest_2 : decode cX7_fewest 2 = .ok (.putfield 77, 3) := by decide +kernel
theorem dX7_fewest_5 : decode cX7_fewest 5 = .ok (.aload_n 0, 1) := by decide +kernel
theorem dX7_fewest_6 : decode cX7_fewest 6 = .ok (.iload_n 1, 1) := by decide +kernel
theorem dX7_fewest_7 : decode cX7_fewest 7 = .ok (.iload_n 2, 1) := by decide +kernel
theorem dX7_fewest_8 : decode cX7_fewest 8 = .ok (.invokevirtual 194, 3) := by decide +kernel
theorem dX7_fewest_11 : decode cX7_fewest 11 = .ok (.istore_n 3, 1) := by decide +kernel
theorem dX7_fewest_12 : decode cX7_fewest 12 = .ok (.iload_n 3, 1) := by decide +kernel
theorem dX7_fewest_13 : decode cX7_fewest 13 = .ok (.ifCond .eq 7, 3) := by decide +kernel
theorem dX7_fewest_16 : decode cX7_fewest 16 = .ok (.iload_n 3, 1) := by decide +kernel
theorem dX7_fewest_17 : decode cX7_fewest 17 = .ok (.goto 9, 3) := by decide +kernel
theorem dX7_fewest_20 : decode cX7_fewest 20 = .ok (.aload_n 0, 1) := by decide +kernel
theorem dX7_fewest_21 : decode cX7_fewest 21 = .ok (.iload_n 1, 1) := by decide +kernel
theorem dX7_fewest_22 : decode cX7_fewest 22 = .ok (.iload_n 2, 1) := by decide +kernel
theorem dX7_fewest_23 : decode cX7_fewest 23 = .ok (.invokevirtual 197, 3) := by decide +kernel
theorem dX7_fewest_26 : decode cX7_fewest 26 = .ok (.ireturn, 1) := by decide +kernel
theorem dX7_planAt_0 : decode cX7_planAt 0 = .ok (.aload_n 0, 1) := by decide +kernel
theorem dX7_planAt_1 : decode cX7_planAt 1 = .ok (.iconst 0, 1) := by decide +kernel
theorem dX7_planAt_2 : decode cX7_planAt 2 = .ok (.putfield 77, 3) := by decide +kernel
theorem dX7_planAt_5 : decode cX7_planAt 5 = .ok (.aload_n 0, 1) := by decide +kernel
theorem dX7_planAt_6 : decode cX7_planAt 6 = .ok (.iload_n 1, 1) := by decide +kernel
theorem dX7_planAt_7 : decode cX7_planAt 7 = .ok (.iload_n 2, 1) := by decide +kernel
theorem dX7_planAt_8 : decode cX7_planAt 8 = .ok (.invokevirtual 194, 3) := by decide +kernel
theorem dX7_planAt_11 : decode cX7_planAt 11 = .ok (.istore 4, 2) := by decide +kernel
theorem dX7_planAt_13 : decode cX7_planAt 13 = .ok (.iload 4, 2) := by decide +kernel
theorem dX7_planAt_15 : decode cX7_planAt 15 = .ok (.ifCond .eq 6, 3) := by decide +kernel
theorem dX7_planAt_18 : decode cX7_planAt 18 = .ok (.iload 4, 2) := by decide +kernel
theorem dX7_planAt_20 : decode cX7_planAt 20 = .ok (.ireturn, 1) := by decide +kernel
theorem dX7_planAt_21 : decode cX7_planAt 21 = .ok (.aload_n 0, 1) := by decide +kernel
theorem dX7_planAt_22 : decode cX7_planAt 22 = .ok (.iload_n 1, 1) := by decide +kernel
theorem dX7_planAt_23 : decode cX7_planAt 23 = .ok (.iload_n 2, 1) := by decide +kernel
theorem dX7_planAt_24 : decode cX7_planAt 24 = .ok (.invokevirtual 197, 3) := by decide +kernel
theorem dX7_planAt_27 : decode cX7_planAt 27 = .ok (.bipush (-9), 2) := by decide +kernel
theorem dX7_planAt_29 : decode cX7_planAt 29 = .ok (.if_icmp .eq 19, 3) := by decide +kernel
theorem dX7_planAt_32 : decode cX7_planAt 32 = .ok (.iload_n 3, 1) := by decide +kernel
theorem dX7_planAt_33 : decode cX7_planAt 33 = .ok (.i2l, 1) := by decide +kernel
theorem dX7_planAt_34 : decode cX7_planAt 34 = .ok (.lconst 0, 1) := by decide +kernel
theorem dX7_planAt_35 : decode cX7_planAt 35 = .ok (.iconst 5, 1) := by decide +kernel
theorem dX7_planAt_36 : decode cX7_planAt 36 = .ok (.aload_n 0, 1) := by decide +kernel
theorem dX7_planAt_37 : decode cX7_planAt 37 = .ok (.getfield 137, 3) := by decide +kernel
theorem dX7_planAt_40 : decode cX7_planAt 40 = .ok (.isub, 1) := by decide +kernel
theorem dX7_planAt_41 : decode cX7_planAt 41 = .ok (.i2l, 1) := by decide +kernel
theorem dX7_planAt_42 : decode cX7_planAt 42 = .ok (.invokestatic 84, 3) := by decide +kernel
theorem dX7_planAt_45 : decode cX7_planAt 45 = .ok (.ifCond .ne 6, 3) := by decide +kernel
theorem dX7_planAt_48 : decode cX7_planAt 48 = .ok (.bipush (-9), 2) := by decide +kernel
theorem dX7_planAt_50 : decode cX7_planAt 50 = .ok (.ireturn, 1) := by decide +kernel
theorem dX7_planAt_51 : decode cX7_planAt 51 = .ok (.aload_n 0, 1) := by decide +kernel
theorem dX7_planAt_52 : decode cX7_planAt 52 = .ok (.getfield 25, 3) := by decide +kernel
theorem dX7_planAt_55 : decode cX7_planAt 55 = .ok (.iconst 3, 1) := by decide +kernel
theorem dX7_planAt_56 : decode cX7_planAt 56 = .ok (.iload_n 1, 1) := by decide +kernel
theorem dX7_planAt_57 : decode cX7_planAt 57 = .ok (.iadd, 1) := by decide +kernel
theorem dX7_planAt_58 : decode cX7_planAt 58 = .ok (.iaload, 1) := by decide +kernel
theorem dX7_planAt_59 : decode cX7_planAt 59 = .ok (.istore 5, 2) := by decide +kernel
theorem dX7_planAt_61 : decode cX7_planAt 61 = .ok (.iconst 0, 1) := by decide +kernel
theorem dX7_planAt_62 : decode cX7_planAt 62 = .ok (.istore 6, 2) := by decide +kernel
theorem dX7_planAt_64 : decode cX7_planAt 64 = .ok (.iconst 0, 1) := by decide +kernel
theorem dX7_planAt_65 : decode cX7_planAt 65 = .ok (.istore 7, 2) := by decide +kernel
theorem dX7_planAt_67 : decode cX7_planAt 67 = .ok (.iload 7, 2) := by decide +kernel
theorem dX7_planAt_69 : decode cX7_planAt 69 = .ok (.iload_n 3, 1) := by decide +kernel
theorem dX7_planAt_70 : decode cX7_planAt 70 = .ok (.if_icmp .gt 91, 3) := by decide +kernel
theorem dX7_planAt_73 : decode cX7_planAt 73 = .ok (.aload_n 0, 1) := by decide +kernel
theorem dX7_planAt_74 : decode cX7_planAt 74 = .ok (.getfield 137, 3) := by decide +kernel
theorem dX7_planAt_77 : decode cX7_planAt 77 = .ok (.iload 7, 2) := by decide +kernel
theorem dX7_planAt_79 : decode cX7_planAt 79 = .ok (.iadd, 1) := by decide +kernel
theorem dX7_planAt_80 : decode cX7_planAt 80 = .ok (.istore 8, 2) := by decide +kernel
theorem dX7_planAt_82 : decode cX7_planAt 82 = .ok (.iconst 0, 1) := by decide +kernel
theorem dX7_planAt_83 : decode cX7_planAt 83 = .ok (.istore 6, 2) := by decide +kernel
theorem dX7_planAt_85 : decode cX7_planAt 85 = .ok (.iload 5, 2) := by decide +kernel
theorem dX7_planAt_87 : decode cX7_planAt 87 = .ok (.istore 9, 2) := by decide +kernel
theorem dX7_planAt_89 : decode cX7_planAt 89 = .ok (.iload 9, 2) := by decide +kernel
theorem dX7_planAt_91 : decode cX7_planAt 91 = .ok (.bipush (-9), 2) := by decide +kernel
theorem dX7_planAt_93 : decode cX7_planAt 93 = .ok (.if_icmp .eq 40, 3) := by decide +kernel
theorem dX7_planAt_96 : decode cX7_planAt 96 = .ok (.iload 6, 2) := by decide +kernel
theorem dX7_planAt_98 : decode cX7_planAt 98 = .ok (.invokestatic 143, 3) := by decide +kernel
theorem dX7_planAt_101 : decode cX7_planAt 101 = .ok (.aload_n 0, 1) := by decide +kernel
theorem dX7_planAt_102 : decode cX7_planAt 102 = .ok (.getfield 62, 3) := by decide +kernel
theorem dX7_planAt_105 : decode cX7_planAt 105 = .ok (.bipush 64, 2) := by decide +kernel
theorem dX7_planAt_107 : decode cX7_planAt 107 = .ok (.iload 8, 2) := by decide +kernel
theorem dX7_planAt_109 : decode cX7_planAt 109 = .ok (.iconst 1, 1) := by decide +kernel
theorem dX7_planAt_110 : decode cX7_planAt 110 = .ok (.iadd, 1) := by decide +kernel
theorem dX7_planAt_111 : decode cX7_planAt 111 = .ok (.imul, 1) := by decide +kernel
theorem dX7_planAt_112 : decode cX7_planAt 112 = .ok (.iload 9, 2) := by decide +kernel
theorem dX7_planAt_114 : decode cX7_planAt 114 = .ok (.iadd, 1) := by decide +kernel
theorem dX7_planAt_115 : decode cX7_planAt 115 = .ok (.iaload, 1) := by decide +kernel
theorem dX7_planAt_116 : decode cX7_planAt 116 = .ok (.iadd, 1) := by decide +kernel
theorem dX7_planAt_117 : decode cX7_planAt 117 = .ok (.aload_n 0, 1) := by decide +kernel
theorem dX7_planAt_118 : decode cX7_planAt 118 = .ok (.getfield 62, 3) := by decide +kernel
theorem dX7_planAt_121 : decode cX7_planAt 121 = .ok (.bipush 64, 2) := by decide +kernel
theorem dX7_planAt_123 : decode cX7_planAt 123 = .ok (.iload 8, 2) := by decide +kernel
theorem dX7_planAt_125 : decode cX7_planAt 125 = .ok (.imul, 1) := by decide +kernel
theorem dX7_planAt_126 : decode cX7_planAt 126 = .ok (.iload 5, 2) := by decide +kernel
theorem dX7_planAt_128 : decode cX7_planAt 128 = .ok (.iadd, 1) := by decide +kernel
theorem dX7_planAt_129 : decode cX7_planAt 129 = .ok (.iaload, 1) := by decide +kernel
theorem dX7_planAt_130 : decode cX7_planAt 130 = .ok (.if_icmp .eq 21, 3) := by decide +kernel
theorem dX7_planAt_133 : decode cX7_planAt 133 = .ok (.iinc 6 1, 3) := by decide +kernel
theorem dX7_planAt_136 : decode cX7_planAt 136 = .ok (.aload_n 0, 1) := by decide +kernel
theorem dX7_planAt_137 : decode cX7_planAt 137 = .ok (.iload 6, 2) := by decide +kernel
theorem dX7_planAt_139 : decode cX7_planAt 139 = .ok (.iload 8, 2) := by decide +kernel
theorem dX7_planAt_141 : decode cX7_planAt 141 = .ok (.iload 5, 2) := by decide +kernel
theorem dX7_planAt_143 : decode cX7_planAt 143 = .ok (.invokevirtual 183, 3) := by decide +kernel
theorem dX7_planAt_146 : decode cX7_planAt 146 = .ok (.istore 9, 2) := by decide +kernel
theorem dX7_planAt_148 : decode cX7_planAt 148 = .ok (.goto (-59), 3) := by decide +kernel
theorem dX7_planAt_151 : decode cX7_planAt 151 = .ok (.iload 9, 2) := by decide +kernel
theorem dX7_planAt_153 : decode cX7_planAt 153 = .ok (.istore 5, 2) := by decide +kernel
theorem dX7_planAt_155 : decode cX7_planAt 155 = .ok (.iinc 7 1, 3) := by decide +kernel
theorem dX7_planAt_158 : decode cX7_planAt 158 = .ok (.goto (-91), 3) := by decide +kernel
theorem dX7_planAt_161 : decode cX7_planAt 161 = .ok (.iload 6, 2) := by decide +kernel
theorem dX7_planAt_163 : decode cX7_planAt 163 = .ok (.ireturn, 1) := by decide +kernel
theorem dX7_most_0 : decode cX7_most 0 = .ok (.aload_n 0, 1) := by decide +kernel
theorem dX7_most_1 : decode cX7_most 1 = .ok (.iconst 0, 1) := by decide +kernel
theorem dX7_most_2 : decode cX7_most 2 = .ok (.putfield 77, 3) := by decide +kernel
theorem dX7_most_5 : decode cX7_most 5 = .ok (.aload_n 0, 1) := by decide +kernel
theorem dX7_most_6 : decode cX7_most 6 = .ok (.iload_n 1, 1) := by decide +kernel
theorem dX7_most_7 : decode cX7_most 7 = .ok (.invokevirtual 155, 3) := by decide +kernel
theorem dX7_most_10 : decode cX7_most 10 = .ok (.ifCond .eq 5, 3) := by decide +kernel
theorem dX7_most_13 : decode cX7_most 13 = .ok (.iconst (-1), 1) := by decide +kernel
theorem dX7_most_14 : decode cX7_most 14 = .ok (.ireturn, 1) := by decide +kernel
theorem dX7_most_15 : decode cX7_most 15 = .ok (.aload_n 0, 1) := by decide +kernel
theorem dX7_most_16 : decode cX7_most 16 = .ok (.getfield 130, 3) := by decide +kernel
theorem dX7_most_19 : decode cX7_most 19 = .ok (.ifCond .eq 6, 3) := by decide +kernel
theorem dX7_most_22 : decode cX7_most 22 = .ok (.bipush (-3), 2) := by decide +kernel
theorem dX7_most_24 : decode cX7_most 24 = .ok (.ireturn, 1) := by decide +kernel
theorem dX7_most_25 : decode cX7_most 25 = .ok (.iconst 0, 1) := by decide +kernel
theorem dX7_most_26 : decode cX7_most 26 = .ok (.istore_n 2, 1) := by decide +kernel
theorem dX7_most_27 : decode cX7_most 27 = .ok (.iload_n 2, 1) := by decide +kernel
theorem dX7_most_28 : decode cX7_most 28 = .ok (.bipush 64, 2) := by decide +kernel
theorem dX7_most_30 : decode cX7_most 30 = .ok (.if_icmp .ge 34, 3) := by decide +kernel
theorem dX7_most_33 : decode cX7_most 33 = .ok (.aload_n 0, 1) := by decide +kernel
theorem dX7_most_34 : decode cX7_most 34 = .ok (.getfield 65, 3) := by decide +kernel
theorem dX7_most_37 : decode cX7_most 37 = .ok (.iload_n 2, 1) := by decide +kernel
theorem dX7_most_38 : decode cX7_most 38 = .ok (.iload_n 2, 1) := by decide +kernel
theorem dX7_most_39 : decode cX7_most 39 = .ok (.aload_n 0, 1) := by decide +kernel
theorem dX7_most_40 : decode cX7_most 40 = .ok (.getfield 25, 3) := by decide +kernel
theorem dX7_most_43 : decode cX7_most 43 = .ok (.iconst 3, 1) := by decide +kernel
theorem dX7_most_44 : decode cX7_most 44 = .ok (.iload_n 1, 1) := by decide +kernel
theorem dX7_most_45 : decode cX7_most 45 = .ok (.iadd, 1) := by decide +kernel
theorem dX7_most_46 : decode cX7_most 46 = .ok (.iaload, 1) := by decide +kernel
theorem dX7_most_47 : decode cX7_most 47 = .ok (.if_icmp .ne 7, 3) := by decide +kernel
theorem dX7_most_50 : decode cX7_most 50 = .ok (.iconst 0, 1) := by decide +kernel
theorem dX7_most_51 : decode cX7_most 51 = .ok (.goto 6, 3) := by decide +kernel
theorem dX7_most_54 : decode cX7_most 54 = .ok (.sipush 999, 3) := by decide +kernel
theorem dX7_most_57 : decode cX7_most 57 = .ok (.iastore, 1) := by decide +kernel
theorem dX7_most_58 : decode cX7_most 58 = .ok (.iinc 2 1, 3) := by decide +kernel
theorem dX7_most_61 : decode cX7_most 61 = .ok (.goto (-34), 3) := by decide +kernel
theorem dX7_most_64 : decode cX7_most 64 = .ok (.aload_n 0, 1) := by decide +kernel
theorem dX7_most_65 : decode cX7_most 65 = .ok (.getfield 137, 3) := by decide +kernel
theorem dX7_most_68 : decode cX7_most 68 = .ok (.istore_n 2, 1) := by decide +kernel
theorem dX7_most_69 : decode cX7_most 69 = .ok (.iload_n 2, 1) := by decide +kernel
theorem dX7_most_70 : decode cX7_most 70 = .ok (.bipush 6, 2) := by decide +kernel
theorem dX7_most_72 : decode cX7_most 72 = .ok (.if_icmp .ge 165, 3) := by decide +kernel
theorem dX7_most_75 : decode cX7_most 75 = .ok (.iconst 0, 1) := by decide +kernel
theorem dX7_most_76 : decode cX7_most 76 = .ok (.istore_n 3, 1) := by decide +kernel
theorem dX7_most_77 : decode cX7_most 77 = .ok (.iload_n 3, 1) := by decide +kernel
theorem dX7_most_78 : decode cX7_most 78 = .ok (.bipush 64, 2) := by decide +kernel
theorem dX7_most_80 : decode cX7_most 80 = .ok (.if_icmp .ge 18, 3) := by decide +kernel
theorem dX7_most_83 : decode cX7_most 83 = .ok (.aload_n 0, 1) := by decide +kernel
theorem dX7_most_84 : decode cX7_most 84 = .ok (.getfield 68, 3) := by decide +kernel
theorem dX7_most_87 : decode cX7_most 87 = .ok (.iload_n 3, 1) := by decide +kernel
theorem dX7_most_88 : decode cX7_most 88 = .ok (.sipush 999, 3) := by decide +kernel
theorem dX7_most_91 : decode cX7_most 91 = .ok (.iastore, 1) := by decide +kernel
theorem dX7_most_92 : decode cX7_most 92 = .ok (.iinc 3 1, 3) := by decide +kernel
theorem dX7_most_95 : decode cX7_most 95 = .ok (.goto (-18), 3) := by decide +kernel
theorem dX7_most_98 : decode cX7_most 98 = .ok (.iconst 0, 1) := by decide +kernel
theorem dX7_most_99 : decode cX7_most 99 = .ok (.istore_n 3, 1) := by decide +kernel
theorem dX7_most_100 : decode cX7_most 100 = .ok (.iload_n 3, 1) := by decide +kernel
theorem dX7_most_101 : decode cX7_most 101 = .ok (.bipush 64, 2) := by decide +kernel
theorem dX7_most_103 : decode cX7_most 103 = .ok (.if_icmp .ge 102, 3) := by decide +kernel
theorem dX7_most_106 : decode cX7_most 106 = .ok (.iconst 0, 1) := by decide +kernel
theorem dX7_most_107 : decode cX7_most 107 = .ok (.istore 4, 2) := by decide +kernel
theorem dX7_most_109 : decode cX7_most 109 = .ok (.iload 4, 2) := by decide +kernel
theorem dX7_most_111 : decode cX7_most 111 = .ok (.bipush 8, 2) := by decide +kernel
theorem dX7_most_113 : decode cX7_most 113 = .ok (.if_icmp .ge 86, 3) := by decide +kernel
theorem dX7_most_116 : decode cX7_most 116 = .ok (.aload_n 0, 1) := by decide +kernel
theorem dX7_most_117 : decode cX7_most 117 = .ok (.getfield 65, 3) := by decide +kernel
theorem dX7_most_120 : decode cX7_most 120 = .ok (.iload_n 3, 1) := by decide +kernel
theorem dX7_most_121 : decode cX7_most 121 = .ok (.iaload, 1) := by decide +kernel
theorem dX7_most_122 : decode cX7_most 122 = .ok (.sipush 999, 3) := by decide +kernel
theorem dX7_most_125 : decode cX7_most 125 = .ok (.if_icmp .ge 74, 3) := by decide +kernel
theorem dX7_most_128 : decode cX7_most 128 = .ok (.aload_n 0, 1) := by decide +kernel
theorem dX7_most_129 : decode cX7_most 129 = .ok (.iload 4, 2) := by decide +kernel
theorem dX7_most_131 : decode cX7_most 131 = .ok (.iload_n 2, 1) := by decide +kernel
theorem dX7_most_132 : decode cX7_most 132 = .ok (.iload_n 3, 1) := by decide +kernel
theorem dX7_most_133 : decode cX7_most 133 = .ok (.invokevirtual 183, 3) := by decide +kernel
theorem dX7_most_136 : decode cX7_most 136 = .ok (.istore 5, 2) := by decide +kernel
theorem dX7_most_138 : decode cX7_most 138 = .ok (.iload 5, 2) := by decide +kernel
theorem dX7_most_140 : decode cX7_most 140 = .ok (.bipush (-9), 2) := by decide +kernel
theorem dX7_most_142 : decode cX7_most 142 = .ok (.if_icmp .ne 9, 3) := by decide +kernel
theorem dX7_most_145 : decode cX7_most 145 = .ok (.sipush 999, 3) := by decide +kernel
theorem dX7_most_148 : decode cX7_most 148 = .ok (.goto 15, 3) := by decide +kernel
theorem dX7_most_151 : decode cX7_most 151 = .ok (.aload_n 0, 1) := by decide +kernel
theorem dX7_most_152 : decode cX7_most 152 = .ok (.getfield 65, 3) := by decide +kernel
theorem dX7_most_155 : decode cX7_most 155 = .ok (.iload_n 3, 1) := by decide +kernel
theorem dX7_most_156 : decode cX7_most 156 = .ok (.iaload, 1) := by decide +kernel
theorem dX7_most_157 : decode cX7_most 157 = .ok (.iload 4, 2) := by decide +kernel
theorem dX7_most_159 : decode cX7_most 159 = .ok (.invokestatic 143, 3) := by decide +kernel
theorem dX7_most_162 : decode cX7_most 162 = .ok (.iadd, 1) := by decide +kernel
theorem dX7_most_163 : decode cX7_most 163 = .ok (.istore 6, 2) := by decide +kernel
theorem dX7_most_165 : decode cX7_most 165 = .ok (.iload 5, 2) := by decide +kernel
theorem dX7_most_167 : decode cX7_most 167 = .ok (.bipush (-9), 2) := by decide +kernel
theorem dX7_most_169 : decode cX7_most 169 = .ok (.if_icmp .eq 24, 3) := by decide +kernel
theorem dX7_most_172 : decode cX7_most 172 = .ok (.iload 6, 2) := by decide +kernel
theorem dX7_most_174 : decode cX7_most 174 = .ok (.aload_n 0, 1) := by decide +kernel
theorem dX7_most_175 : decode cX7_most 175 = .ok (.getfield 68, 3) := by decide +kernel
theorem dX7_most_178 : decode cX7_most 178 = .ok (.iload 5, 2) := by decide +kernel
theorem dX7_most_180 : decode cX7_most 180 = .ok (.iaload, 1) := by decide +kernel
theorem dX7_most_181 : decode cX7_most 181 = .ok (.if_icmp .ge 12, 3) := by decide +kernel
theorem dX7_most_184 : decode cX7_most 184 = .ok (.aload_n 0, 1) := by decide +kernel
theorem dX7_most_185 : decode cX7_most 185 = .ok (.getfield 68, 3) := by decide +kernel
theorem dX7_most_188 : decode cX7_most 188 = .ok (.iload 5, 2) := by decide +kernel
theorem dX7_most_190 : decode cX7_most 190 = .ok (.iload 6, 2) := by decide +kernel
theorem dX7_most_192 : decode cX7_most 192 = .ok (.iastore, 1) := by decide +kernel
theorem dX7_most_193 : decode cX7_most 193 = .ok (.iinc 4 1, 3) := by decide +kernel
end
section
theorem dX7_most_196 : decode cX7_most 196 = .ok (.goto (-87), 3) := by decide +kernel
theorem dX7_most_199 : decode cX7_most 199 = .ok (.iinc 3 1, 3) := by decide +kernel
theorem dX7_most_202 : decode cX7_most 202 = .ok (.goto (-102), 3) := by decide +kernel
theorem dX7_most_205 : decode cX7_most 205 = .ok (.iconst 0, 1) := by decide +kernel
theorem dX7_most_206 : decode cX7_most 206 = .ok (.istore_n 3, 1) := by decide +kernel
theorem dX7_most_207 : decode cX7_most 207 = .ok (.iload_n 3, 1) := by decide +kernel
theorem dX7_most_208 : decode cX7_most 208 = .ok (.bipush 64, 2) := by decide +kernel
theorem dX7_most_210 : decode cX7_most 210 = .ok (.if_icmp .ge 21, 3) := by decide +kernel
theorem dX7_most_213 : decode cX7_most 213 = .ok (.aload_n 0, 1) := by decide +kernel
theorem dX7_most_214 : decode cX7_most 214 = .ok (.getfield 65, 3) := by decide +kernel
theorem dX7_most_217 : decode cX7_most 217 = .ok (.iload_n 3, 1) := by decide +kernel
theorem dX7_most_218 : decode cX7_most 218 = .ok (.aload_n 0, 1) := by decide +kernel
theorem dX7_most_219 : decode cX7_most 219 = .ok (.getfield 68, 3) := by decide +kernel
theorem dX7_most_222 : decode cX7_most 222 = .ok (.iload_n 3, 1) := by decide +kernel
theorem dX7_most_223 : decode cX7_most 223 = .ok (.iaload, 1) := by decide +kernel
theorem dX7_most_224 : decode cX7_most 224 = .ok (.iastore, 1) := by decide +kernel
theorem dX7_most_225 : decode cX7_most 225 = .ok (.iinc 3 1, 3) := by decide +kernel
theorem dX7_most_228 : decode cX7_most 228 = .ok (.goto (-21), 3) := by decide +kernel
theorem dX7_most_231 : decode cX7_most 231 = .ok (.iinc 2 1, 3) := by decide +kernel
theorem dX7_most_234 : decode cX7_most 234 = .ok (.goto (-165), 3) := by decide +kernel
theorem dX7_most_237 : decode cX7_most 237 = .ok (.iconst 0, 1) := by decide +kernel
theorem dX7_most_238 : decode cX7_most 238 = .ok (.istore_n 2, 1) := by decide +kernel
theorem dX7_most_239 : decode cX7_most 239 = .ok (.iconst 0, 1) := by decide +kernel
theorem dX7_most_240 : decode cX7_most 240 = .ok (.istore_n 3, 1) := by decide +kernel
theorem dX7_most_241 : decode cX7_most 241 = .ok (.iload_n 3, 1) := by decide +kernel
theorem dX7_most_242 : decode cX7_most 242 = .ok (.bipush 64, 2) := by decide +kernel
theorem dX7_most_244 : decode cX7_most 244 = .ok (.if_icmp .ge 40, 3) := by decide +kernel
theorem dX7_most_247 : decode cX7_most 247 = .ok (.aload_n 0, 1) := by decide +kernel
theorem dX7_most_248 : decode cX7_most 248 = .ok (.getfield 65, 3) := by decide +kernel
theorem dX7_most_251 : decode cX7_most 251 = .ok (.iload_n 3, 1) := by decide +kernel
theorem dX7_most_252 : decode cX7_most 252 = .ok (.iaload, 1) := by decide +kernel
theorem dX7_most_253 : decode cX7_most 253 = .ok (.aload_n 0, 1) := by decide +kernel
theorem dX7_most_254 : decode cX7_most 254 = .ok (.iload_n 1, 1) := by decide +kernel
theorem dX7_most_255 : decode cX7_most 255 = .ok (.invokevirtual 191, 3) := by decide +kernel
theorem dX7_most_258 : decode cX7_most 258 = .ok (.if_icmp .gt 18, 3) := by decide +kernel
theorem dX7_most_261 : decode cX7_most 261 = .ok (.iload_n 3, 1) := by decide +kernel
theorem dX7_most_262 : decode cX7_most 262 = .ok (.invokestatic 143, 3) := by decide +kernel
theorem dX7_most_265 : decode cX7_most 265 = .ok (.iload_n 2, 1) := by decide +kernel
theorem dX7_most_266 : decode cX7_most 266 = .ok (.if_icmp .le 10, 3) := by decide +kernel
theorem dX7_most_269 : decode cX7_most 269 = .ok (.iload_n 3, 1) := by decide +kernel
theorem dX7_most_270 : decode cX7_most 270 = .ok (.invokestatic 143, 3) := by decide +kernel
theorem dX7_most_273 : decode cX7_most 273 = .ok (.goto 4, 3) := by decide +kernel
theorem dX7_most_276 : decode cX7_most 276 = .ok (.iload_n 2, 1) := by decide +kernel
theorem dX7_most_277 : decode cX7_most 277 = .ok (.istore_n 2, 1) := by decide +kernel
theorem dX7_most_278 : decode cX7_most 278 = .ok (.iinc 3 1, 3) := by decide +kernel
theorem dX7_most_281 : decode cX7_most 281 = .ok (.goto (-40), 3) := by decide +kernel
theorem dX7_most_284 : decode cX7_most 284 = .ok (.iload_n 2, 1) := by decide +kernel
theorem dX7_most_285 : decode cX7_most 285 = .ok (.ireturn, 1) := by decide +kernel
theorem dX7_goWays_0 : decode cX7_goWays 0 = .ok (.iconst 0, 1) := by decide +kernel
theorem dX7_goWays_1 : decode cX7_goWays 1 = .ok (.istore_n 3, 1) := by decide +kernel
theorem dX7_goWays_2 : decode cX7_goWays 2 = .ok (.iload_n 3, 1) := by decide +kernel
theorem dX7_goWays_3 : decode cX7_goWays 3 = .ok (.sipush 640, 3) := by decide +kernel
theorem dX7_goWays_6 : decode cX7_goWays 6 = .ok (.if_icmp .ge 16, 3) := by decide +kernel
theorem dX7_goWays_9 : decode cX7_goWays 9 = .ok (.aload_n 0, 1) := by decide +kernel
theorem dX7_goWays_10 : decode cX7_goWays 10 = .ok (.getfield 68, 3) := by decide +kernel
theorem dX7_goWays_13 : decode cX7_goWays 13 = .ok (.iload_n 3, 1) := by decide +kernel
theorem dX7_goWays_14 : decode cX7_goWays 14 = .ok (.iconst 0, 1) := by decide +kernel
theorem dX7_goWays_15 : decode cX7_goWays 15 = .ok (.iastore, 1) := by decide +kernel
theorem dX7_goWays_16 : decode cX7_goWays 16 = .ok (.iinc 3 1, 3) := by decide +kernel
theorem dX7_goWays_19 : decode cX7_goWays 19 = .ok (.goto (-17), 3) := by decide +kernel
theorem dX7_goWays_22 : decode cX7_goWays 22 = .ok (.iconst 0, 1) := by decide +kernel
theorem dX7_goWays_23 : decode cX7_goWays 23 = .ok (.istore_n 3, 1) := by decide +kernel
theorem dX7_goWays_24 : decode cX7_goWays 24 = .ok (.iload_n 3, 1) := by decide +kernel
theorem dX7_goWays_25 : decode cX7_goWays 25 = .ok (.sipush 640, 3) := by decide +kernel
theorem dX7_goWays_28 : decode cX7_goWays 28 = .ok (.if_icmp .ge 94, 3) := by decide +kernel
theorem dX7_goWays_31 : decode cX7_goWays 31 = .ok (.iconst 0, 1) := by decide +kernel
theorem dX7_goWays_32 : decode cX7_goWays 32 = .ok (.istore 4, 2) := by decide +kernel
theorem dX7_goWays_34 : decode cX7_goWays 34 = .ok (.iload 4, 2) := by decide +kernel
theorem dX7_goWays_36 : decode cX7_goWays 36 = .ok (.bipush 8, 2) := by decide +kernel
theorem dX7_goWays_38 : decode cX7_goWays 38 = .ok (.if_icmp .ge 78, 3) := by decide +kernel
theorem dX7_goWays_41 : decode cX7_goWays 41 = .ok (.aload_n 0, 1) := by decide +kernel
theorem dX7_goWays_42 : decode cX7_goWays 42 = .ok (.getfield 65, 3) := by decide +kernel
theorem dX7_goWays_45 : decode cX7_goWays 45 = .ok (.iload_n 3, 1) := by decide +kernel
theorem dX7_goWays_46 : decode cX7_goWays 46 = .ok (.iaload, 1) := by decide +kernel
theorem dX7_goWays_47 : decode cX7_goWays 47 = .ok (.ifCond .le 69, 3) := by decide +kernel
theorem dX7_goWays_50 : decode cX7_goWays 50 = .ok (.aload_n 0, 1) := by decide +kernel
theorem dX7_goWays_51 : decode cX7_goWays 51 = .ok (.iload 4, 2) := by decide +kernel
theorem dX7_goWays_53 : decode cX7_goWays 53 = .ok (.iload_n 1, 1) := by decide +kernel
theorem dX7_goWays_54 : decode cX7_goWays 54 = .ok (.iload_n 3, 1) := by decide +kernel
theorem dX7_goWays_55 : decode cX7_goWays 55 = .ok (.bipush 10, 2) := by decide +kernel
theorem dX7_goWays_57 : decode cX7_goWays 57 = .ok (.idiv, 1) := by decide +kernel
theorem dX7_goWays_58 : decode cX7_goWays 58 = .ok (.invokevirtual 183, 3) := by decide +kernel
theorem dX7_goWays_61 : decode cX7_goWays 61 = .ok (.istore 5, 2) := by decide +kernel
theorem dX7_goWays_63 : decode cX7_goWays 63 = .ok (.iload_n 3, 1) := by decide +kernel
theorem dX7_goWays_64 : decode cX7_goWays 64 = .ok (.bipush 10, 2) := by decide +kernel
theorem dX7_goWays_66 : decode cX7_goWays 66 = .ok (.irem, 1) := by decide +kernel
theorem dX7_goWays_67 : decode cX7_goWays 67 = .ok (.iload 4, 2) := by decide +kernel
theorem dX7_goWays_69 : decode cX7_goWays 69 = .ok (.invokestatic 143, 3) := by decide +kernel
theorem dX7_goWays_72 : decode cX7_goWays 72 = .ok (.iadd, 1) := by decide +kernel
theorem dX7_goWays_73 : decode cX7_goWays 73 = .ok (.istore 6, 2) := by decide +kernel
theorem dX7_goWays_75 : decode cX7_goWays 75 = .ok (.iload 5, 2) := by decide +kernel
theorem dX7_goWays_77 : decode cX7_goWays 77 = .ok (.bipush (-9), 2) := by decide +kernel
theorem dX7_goWays_79 : decode cX7_goWays 79 = .ok (.if_icmp .eq 31, 3) := by decide +kernel
theorem dX7_goWays_82 : decode cX7_goWays 82 = .ok (.iload 6, 2) := by decide +kernel
theorem dX7_goWays_84 : decode cX7_goWays 84 = .ok (.iload_n 2, 1) := by decide +kernel
theorem dX7_goWays_85 : decode cX7_goWays 85 = .ok (.if_icmp .gt 25, 3) := by decide +kernel
theorem dX7_goWays_88 : decode cX7_goWays 88 = .ok (.aload_n 0, 1) := by decide +kernel
theorem dX7_goWays_89 : decode cX7_goWays 89 = .ok (.getfield 68, 3) := by decide +kernel
theorem dX7_goWays_92 : decode cX7_goWays 92 = .ok (.bipush 10, 2) := by decide +kernel
theorem dX7_goWays_94 : decode cX7_goWays 94 = .ok (.iload 5, 2) := by decide +kernel
theorem dX7_goWays_96 : decode cX7_goWays 96 = .ok (.imul, 1) := by decide +kernel
theorem dX7_goWays_97 : decode cX7_goWays 97 = .ok (.iload 6, 2) := by decide +kernel
theorem dX7_goWays_99 : decode cX7_goWays 99 = .ok (.iadd, 1) := by decide +kernel
theorem dX7_goWays_100 : decode cX7_goWays 100 = .ok (.dup2, 1) := by decide +kernel
theorem dX7_goWays_101 : decode cX7_goWays 101 = .ok (.iaload, 1) := by decide +kernel
theorem dX7_goWays_102 : decode cX7_goWays 102 = .ok (.aload_n 0, 1) := by decide +kernel
theorem dX7_goWays_103 : decode cX7_goWays 103 = .ok (.getfield 65, 3) := by decide +kernel
theorem dX7_goWays_106 : decode cX7_goWays 106 = .ok (.iload_n 3, 1) := by decide +kernel
theorem dX7_goWays_107 : decode cX7_goWays 107 = .ok (.iaload, 1) := by decide +kernel
theorem dX7_goWays_108 : decode cX7_goWays 108 = .ok (.iadd, 1) := by decide +kernel
theorem dX7_goWays_109 : decode cX7_goWays 109 = .ok (.iastore, 1) := by decide +kernel
theorem dX7_goWays_110 : decode cX7_goWays 110 = .ok (.iinc 4 1, 3) := by decide +kernel
theorem dX7_goWays_113 : decode cX7_goWays 113 = .ok (.goto (-79), 3) := by decide +kernel
theorem dX7_goWays_116 : decode cX7_goWays 116 = .ok (.iinc 3 1, 3) := by decide +kernel
theorem dX7_goWays_119 : decode cX7_goWays 119 = .ok (.goto (-95), 3) := by decide +kernel
theorem dX7_goWays_122 : decode cX7_goWays 122 = .ok (.iconst 0, 1) := by decide +kernel
theorem dX7_goWays_123 : decode cX7_goWays 123 = .ok (.istore_n 3, 1) := by decide +kernel
theorem dX7_goWays_124 : decode cX7_goWays 124 = .ok (.iload_n 3, 1) := by decide +kernel
theorem dX7_goWays_125 : decode cX7_goWays 125 = .ok (.sipush 640, 3) := by decide +kernel
theorem dX7_goWays_128 : decode cX7_goWays 128 = .ok (.if_icmp .ge 21, 3) := by decide +kernel
theorem dX7_goWays_131 : decode cX7_goWays 131 = .ok (.aload_n 0, 1) := by decide +kernel
theorem dX7_goWays_132 : decode cX7_goWays 132 = .ok (.getfield 65, 3) := by decide +kernel
theorem dX7_goWays_135 : decode cX7_goWays 135 = .ok (.iload_n 3, 1) := by decide +kernel
theorem dX7_goWays_136 : decode cX7_goWays 136 = .ok (.aload_n 0, 1) := by decide +kernel
theorem dX7_goWays_137 : decode cX7_goWays 137 = .ok (.getfield 68, 3) := by decide +kernel
theorem dX7_goWays_140 : decode cX7_goWays 140 = .ok (.iload_n 3, 1) := by decide +kernel
theorem dX7_goWays_141 : decode cX7_goWays 141 = .ok (.iaload, 1) := by decide +kernel
theorem dX7_goWays_142 : decode cX7_goWays 142 = .ok (.iastore, 1) := by decide +kernel
theorem dX7_goWays_143 : decode cX7_goWays 143 = .ok (.iinc 3 1, 3) := by decide +kernel
theorem dX7_goWays_146 : decode cX7_goWays 146 = .ok (.goto (-22), 3) := by decide +kernel
theorem dX7_goWays_149 : decode cX7_goWays 149 = .ok (.return_, 1) := by decide +kernel
theorem dX7_spent_0 : decode cX7_spent 0 = .ok (.aload_n 0, 1) := by decide +kernel
theorem dX7_spent_1 : decode cX7_spent 1 = .ok (.iconst 0, 1) := by decide +kernel
theorem dX7_spent_2 : decode cX7_spent 2 = .ok (.putfield 77, 3) := by decide +kernel
theorem dX7_spent_5 : decode cX7_spent 5 = .ok (.aload_n 0, 1) := by decide +kernel
theorem dX7_spent_6 : decode cX7_spent 6 = .ok (.iload_n 2, 1) := by decide +kernel
theorem dX7_spent_7 : decode cX7_spent 7 = .ok (.invokevirtual 150, 3) := by decide +kernel
theorem dX7_spent_10 : decode cX7_spent 10 = .ok (.ifCond .ne 11, 3) := by decide +kernel
theorem dX7_spent_13 : decode cX7_spent 13 = .ok (.aload_n 0, 1) := by decide +kernel
theorem dX7_spent_14 : decode cX7_spent 14 = .ok (.iload_n 1, 1) := by decide +kernel
theorem dX7_spent_15 : decode cX7_spent 15 = .ok (.invokevirtual 155, 3) := by decide +kernel
theorem dX7_spent_18 : decode cX7_spent 18 = .ok (.ifCond .eq 5, 3) := by decide +kernel
theorem dX7_spent_21 : decode cX7_spent 21 = .ok (.iconst (-1), 1) := by decide +kernel
theorem dX7_spent_22 : decode cX7_spent 22 = .ok (.ireturn, 1) := by decide +kernel
theorem dX7_spent_23 : decode cX7_spent 23 = .ok (.aload_n 0, 1) := by decide +kernel
theorem dX7_spent_24 : decode cX7_spent 24 = .ok (.getfield 130, 3) := by decide +kernel
theorem dX7_spent_27 : decode cX7_spent 27 = .ok (.ifCond .eq 6, 3) := by decide +kernel
theorem dX7_spent_30 : decode cX7_spent 30 = .ok (.bipush (-3), 2) := by decide +kernel
theorem dX7_spent_32 : decode cX7_spent 32 = .ok (.ireturn, 1) := by decide +kernel
theorem dX7_spent_33 : decode cX7_spent 33 = .ok (.aload_n 0, 1) := by decide +kernel
theorem dX7_spent_34 : decode cX7_spent 34 = .ok (.iload_n 1, 1) := by decide +kernel
theorem dX7_spent_35 : decode cX7_spent 35 = .ok (.invokevirtual 191, 3) := by decide +kernel
theorem dX7_spent_38 : decode cX7_spent 38 = .ok (.istore_n 3, 1) := by decide +kernel
theorem dX7_spent_39 : decode cX7_spent 39 = .ok (.iconst 0, 1) := by decide +kernel
theorem dX7_spent_40 : decode cX7_spent 40 = .ok (.istore 4, 2) := by decide +kernel
theorem dX7_spent_42 : decode cX7_spent 42 = .ok (.iload 4, 2) := by decide +kernel
theorem dX7_spent_44 : decode cX7_spent 44 = .ok (.sipush 640, 3) := by decide +kernel
theorem dX7_spent_47 : decode cX7_spent 47 = .ok (.if_icmp .ge 37, 3) := by decide +kernel
theorem dX7_spent_50 : decode cX7_spent 50 = .ok (.aload_n 0, 1) := by decide +kernel
theorem dX7_spent_51 : decode cX7_spent 51 = .ok (.getfield 65, 3) := by decide +kernel
theorem dX7_spent_54 : decode cX7_spent 54 = .ok (.iload 4, 2) := by decide +kernel
theorem dX7_spent_56 : decode cX7_spent 56 = .ok (.iload 4, 2) := by decide +kernel
theorem dX7_spent_58 : decode cX7_spent 58 = .ok (.bipush 10, 2) := by decide +kernel
theorem dX7_spent_60 : decode cX7_spent 60 = .ok (.aload_n 0, 1) := by decide +kernel
theorem dX7_spent_61 : decode cX7_spent 61 = .ok (.getfield 25, 3) := by decide +kernel
theorem dX7_spent_64 : decode cX7_spent 64 = .ok (.iconst 3, 1) := by decide +kernel
theorem dX7_spent_65 : decode cX7_spent 65 = .ok (.iload_n 1, 1) := by decide +kernel
theorem dX7_spent_66 : decode cX7_spent 66 = .ok (.iadd, 1) := by decide +kernel
theorem dX7_spent_67 : decode cX7_spent 67 = .ok (.iaload, 1) := by decide +kernel
theorem dX7_spent_68 : decode cX7_spent 68 = .ok (.imul, 1) := by decide +kernel
theorem dX7_spent_69 : decode cX7_spent 69 = .ok (.if_icmp .ne 7, 3) := by decide +kernel
theorem dX7_spent_72 : decode cX7_spent 72 = .ok (.iconst 1, 1) := by decide +kernel
theorem dX7_spent_73 : decode cX7_spent 73 = .ok (.goto 4, 3) := by decide +kernel
theorem dX7_spent_76 : decode cX7_spent 76 = .ok (.iconst 0, 1) := by decide +kernel
theorem dX7_spent_77 : decode cX7_spent 77 = .ok (.iastore, 1) := by decide +kernel
theorem dX7_spent_78 : decode cX7_spent 78 = .ok (.iinc 4 1, 3) := by decide +kernel
theorem dX7_spent_81 : decode cX7_spent 81 = .ok (.goto (-39), 3) := by decide +kernel
theorem dX7_spent_84 : decode cX7_spent 84 = .ok (.aload_n 0, 1) := by decide +kernel
theorem dX7_spent_85 : decode cX7_spent 85 = .ok (.getfield 137, 3) := by decide +kernel
theorem dX7_spent_88 : decode cX7_spent 88 = .ok (.istore 4, 2) := by decide +kernel
theorem dX7_spent_90 : decode cX7_spent 90 = .ok (.iload 4, 2) := by decide +kernel
theorem dX7_spent_92 : decode cX7_spent 92 = .ok (.bipush 6, 2) := by decide +kernel
theorem dX7_spent_94 : decode cX7_spent 94 = .ok (.if_icmp .gt 101, 3) := by decide +kernel
theorem dX7_spent_97 : decode cX7_spent 97 = .ok (.iconst 0, 1) := by decide +kernel
theorem dX7_spent_98 : decode cX7_spent 98 = .ok (.istore 5, 2) := by decide +kernel
theorem dX7_spent_100 : decode cX7_spent 100 = .ok (.iload 5, 2) := by decide +kernel
theorem dX7_spent_102 : decode cX7_spent 102 = .ok (.sipush 640, 3) := by decide +kernel
theorem dX7_spent_105 : decode cX7_spent 105 = .ok (.if_icmp .ge 70, 3) := by decide +kernel
theorem dX7_spent_108 : decode cX7_spent 108 = .ok (.aload_n 0, 1) := by decide +kernel
theorem dX7_spent_109 : decode cX7_spent 109 = .ok (.getfield 65, 3) := by decide +kernel
theorem dX7_spent_112 : decode cX7_spent 112 = .ok (.iload 5, 2) := by decide +kernel
theorem dX7_spent_114 : decode cX7_spent 114 = .ok (.aload_n 0, 1) := by decide +kernel
theorem dX7_spent_115 : decode cX7_spent 115 = .ok (.getfield 65, 3) := by decide +kernel
theorem dX7_spent_118 : decode cX7_spent 118 = .ok (.iload 5, 2) := by decide +kernel
theorem dX7_spent_120 : decode cX7_spent 120 = .ok (.iaload, 1) := by decide +kernel
theorem dX7_spent_121 : decode cX7_spent 121 = .ok (.ifCond .le 19, 3) := by decide +kernel
theorem dX7_spent_124 : decode cX7_spent 124 = .ok (.iload 5, 2) := by decide +kernel
theorem dX7_spent_126 : decode cX7_spent 126 = .ok (.bipush 10, 2) := by decide +kernel
theorem dX7_spent_128 : decode cX7_spent 128 = .ok (.idiv, 1) := by decide +kernel
theorem dX7_spent_129 : decode cX7_spent 129 = .ok (.iload_n 2, 1) := by decide +kernel
theorem dX7_spent_130 : decode cX7_spent 130 = .ok (.invokestatic 109, 3) := by decide +kernel
theorem dX7_spent_133 : decode cX7_spent 133 = .ok (.ifCond .ne 7, 3) := by decide +kernel
theorem dX7_spent_136 : decode cX7_spent 136 = .ok (.iconst 1, 1) := by decide +kernel
theorem dX7_spent_137 : decode cX7_spent 137 = .ok (.goto 4, 3) := by decide +kernel
theorem dX7_spent_140 : decode cX7_spent 140 = .ok (.iconst 0, 1) := by decide +kernel
theorem dX7_spent_141 : decode cX7_spent 141 = .ok (.iastore, 1) := by decide +kernel
theorem dX7_spent_142 : decode cX7_spent 142 = .ok (.aload_n 0, 1) := by decide +kernel
theorem dX7_spent_143 : decode cX7_spent 143 = .ok (.getfield 65, 3) := by decide +kernel
theorem dX7_spent_146 : decode cX7_spent 146 = .ok (.iload 5, 2) := by decide +kernel
theorem dX7_spent_148 : decode cX7_spent 148 = .ok (.iaload, 1) := by decide +kernel
theorem dX7_spent_149 : decode cX7_spent 149 = .ok (.ifCond .le 20, 3) := by decide +kernel
theorem dX7_spent_152 : decode cX7_spent 152 = .ok (.iload 5, 2) := by decide +kernel
theorem dX7_spent_154 : decode cX7_spent 154 = .ok (.bipush 10, 2) := by decide +kernel
theorem dX7_spent_156 : decode cX7_spent 156 = .ok (.irem, 1) := by decide +kernel
theorem dX7_spent_157 : decode cX7_spent 157 = .ok (.iload_n 3, 1) := by decide +kernel
theorem dX7_spent_158 : decode cX7_spent 158 = .ok (.if_icmp .ne 11, 3) := by decide +kernel
theorem dX7_spent_161 : decode cX7_spent 161 = .ok (.iload 4, 2) := by decide +kernel
theorem dX7_spent_163 : decode cX7_spent 163 = .ok (.aload_n 0, 1) := by decide +kernel
theorem dX7_spent_164 : decode cX7_spent 164 = .ok (.getfield 137, 3) := by decide +kernel
theorem dX7_spent_167 : decode cX7_spent 167 = .ok (.isub, 1) := by decide +kernel
theorem dX7_spent_168 : decode cX7_spent 168 = .ok (.ireturn, 1) := by decide +kernel
theorem dX7_spent_169 : decode cX7_spent 169 = .ok (.iinc 5 1, 3) := by decide +kernel
theorem dX7_spent_172 : decode cX7_spent 172 = .ok (.goto (-72), 3) := by decide +kernel
theorem dX7_spent_175 : decode cX7_spent 175 = .ok (.iload 4, 2) := by decide +kernel
theorem dX7_spent_177 : decode cX7_spent 177 = .ok (.bipush 6, 2) := by decide +kernel
theorem dX7_spent_179 : decode cX7_spent 179 = .ok (.if_icmp .ge 10, 3) := by decide +kernel
theorem dX7_spent_182 : decode cX7_spent 182 = .ok (.aload_n 0, 1) := by decide +kernel
theorem dX7_spent_183 : decode cX7_spent 183 = .ok (.iload 4, 2) := by decide +kernel
theorem dX7_spent_185 : decode cX7_spent 185 = .ok (.iload_n 3, 1) := by decide +kernel
theorem dX7_spent_186 : decode cX7_spent 186 = .ok (.invokevirtual 200, 3) := by decide +kernel
theorem dX7_spent_189 : decode cX7_spent 189 = .ok (.iinc 4 1, 3) := by decide +kernel
theorem dX7_spent_192 : decode cX7_spent 192 = .ok (.goto (-102), 3) := by decide +kernel
theorem dX7_spent_195 : decode cX7_spent 195 = .ok (.bipush (-9), 2) := by decide +kernel
theorem dX7_spent_197 : decode cX7_spent 197 = .ok (.ireturn, 1) := by decide +kernel
theorem dX7_both_0 : decode cX7_both 0 = .ok (.iload 4, 2) := by decide +kernel
theorem dX7_both_2 : decode cX7_both 2 = .ok (.istore 5, 2) := by decide +kernel
theorem dX7_both_4 : decode cX7_both 4 = .ok (.iload 5, 2) := by decide +kernel
theorem dX7_both_6 : decode cX7_both 6 = .ok (.iload_n 1, 1) := by decide +kernel
theorem dX7_both_7 : decode cX7_both 7 = .ok (.iconst 3, 1) := by decide +kernel
theorem dX7_both_8 : decode cX7_both 8 = .ok (.if_icmp .ge 12, 3) := by decide +kernel
theorem dX7_both_11 : decode cX7_both 11 = .ok (.aload_n 0, 1) := by decide +kernel
theorem dX7_both_12 : decode cX7_both 12 = .ok (.iload_n 1, 1) := by decide +kernel
theorem dX7_both_13 : decode cX7_both 13 = .ok (.iload_n 3, 1) := by decide +kernel
theorem dX7_both_14 : decode cX7_both 14 = .ok (.invokevirtual 158, 3) := by decide +kernel
theorem dX7_both_17 : decode cX7_both 17 = .ok (.goto 4, 3) := by decide +kernel
theorem dX7_both_20 : decode cX7_both 20 = .ok (.iconst 0, 1) := by decide +kernel
theorem dX7_both_21 : decode cX7_both 21 = .ok (.ior, 1) := by decide +kernel
theorem dX7_both_22 : decode cX7_both 22 = .ok (.istore 5, 2) := by decide +kernel
theorem dX7_both_24 : decode cX7_both 24 = .ok (.iload 5, 2) := by decide +kernel
theorem dX7_both_26 : decode cX7_both 26 = .ok (.iload_n 2, 1) := by decide +kernel
theorem dX7_both_27 : decode cX7_both 27 = .ok (.iconst 3, 1) := by decide +kernel
theorem dX7_both_28 : decode cX7_both 28 = .ok (.if_icmp .ge 12, 3) := by decide +kernel
theorem dX7_both_31 : decode cX7_both 31 = .ok (.aload_n 0, 1) := by decide +kernel
theorem dX7_both_32 : decode cX7_both 32 = .ok (.iload_n 2, 1) := by decide +kernel
theorem dX7_both_33 : decode cX7_both 33 = .ok (.iload_n 3, 1) := by decide +kernel
theorem dX7_both_34 : decode cX7_both 34 = .ok (.invokevirtual 158, 3) := by decide +kernel
theorem dX7_both_37 : decode cX7_both 37 = .ok (.goto 4, 3) := by decide +kernel
theorem dX7_both_40 : decode cX7_both 40 = .ok (.iconst 0, 1) := by decide +kernel
theorem dX7_both_41 : decode cX7_both 41 = .ok (.ior, 1) := by decide +kernel
theorem dX7_both_42 : decode cX7_both 42 = .ok (.istore 5, 2) := by decide +kernel
theorem dX7_both_44 : decode cX7_both 44 = .ok (.iload 5, 2) := by decide +kernel
theorem dX7_both_46 : decode cX7_both 46 = .ok (.ireturn, 1) := by decide +kernel
theorem dX7_hasIt_0 : decode cX7_hasIt 0 = .ok (.iconst 0, 1) := by decide +kernel
theorem dX7_hasIt_1 : decode cX7_hasIt 1 = .ok (.istore 4, 2) := by decide +kernel
theorem dX7_hasIt_3 : decode cX7_hasIt 3 = .ok (.iconst 0, 1) := by decide +kernel
theorem dX7_hasIt_4 : decode cX7_hasIt 4 = .ok (.istore 5, 2) := by decide +kernel
theorem dX7_hasIt_6 : decode cX7_hasIt 6 = .ok (.iload 5, 2) := by decide +kernel
theorem dX7_hasIt_8 : decode cX7_hasIt 8 = .ok (.iconst 3, 1) := by decide +kernel
theorem dX7_hasIt_9 : decode cX7_hasIt 9 = .ok (.if_icmp .gt 169, 3) := by decide +kernel
theorem dX7_hasIt_12 : decode cX7_hasIt 12 = .ok (.iload 5, 2) := by decide +kernel
theorem dX7_hasIt_14 : decode cX7_hasIt 14 = .ok (.iconst 3, 1) := by decide +kernel
theorem dX7_hasIt_15 : decode cX7_hasIt 15 = .ok (.if_icmp .eq 18, 3) := by decide +kernel
theorem dX7_hasIt_18 : decode cX7_hasIt 18 = .ok (.iload_n 3, 1) := by decide +kernel
theorem dX7_hasIt_19 : decode cX7_hasIt 19 = .ok (.ifCond .le 18, 3) := by decide +kernel
theorem dX7_hasIt_22 : decode cX7_hasIt 22 = .ok (.aload_n 0, 1) := by decide +kernel
theorem dX7_hasIt_23 : decode cX7_hasIt 23 = .ok (.iload 5, 2) := by decide +kernel
theorem dX7_hasIt_25 : decode cX7_hasIt 25 = .ok (.iload_n 1, 1) := by decide +kernel
theorem dX7_hasIt_26 : decode cX7_hasIt 26 = .ok (.iload_n 2, 1) := by decide +kernel
theorem dX7_hasIt_27 : decode cX7_hasIt 27 = .ok (.invokevirtual 179, 3) := by decide +kernel
theorem dX7_hasIt_30 : decode cX7_hasIt 30 = .ok (.ifCond .eq 7, 3) := by decide +kernel
theorem dX7_hasIt_33 : decode cX7_hasIt 33 = .ok (.iconst 1, 1) := by decide +kernel
theorem dX7_hasIt_34 : decode cX7_hasIt 34 = .ok (.goto 4, 3) := by decide +kernel
theorem dX7_hasIt_37 : decode cX7_hasIt 37 = .ok (.iconst 0, 1) := by decide +kernel
theorem dX7_hasIt_38 : decode cX7_hasIt 38 = .ok (.istore 6, 2) := by decide +kernel
theorem dX7_hasIt_40 : decode cX7_hasIt 40 = .ok (.iload 6, 2) := by decide +kernel
theorem dX7_hasIt_42 : decode cX7_hasIt 42 = .ok (.istore 7, 2) := by decide +kernel
theorem dX7_hasIt_44 : decode cX7_hasIt 44 = .ok (.iload_n 3, 1) := by decide +kernel
theorem dX7_hasIt_45 : decode cX7_hasIt 45 = .ok (.iload 5, 2) := by decide +kernel
theorem dX7_hasIt_47 : decode cX7_hasIt 47 = .ok (.iconst 3, 1) := by decide +kernel
theorem dX7_hasIt_48 : decode cX7_hasIt 48 = .ok (.if_icmp .ge 7, 3) := by decide +kernel
theorem dX7_hasIt_51 : decode cX7_hasIt 51 = .ok (.iconst 1, 1) := by decide +kernel
theorem dX7_hasIt_52 : decode cX7_hasIt 52 = .ok (.goto 4, 3) := by decide +kernel
theorem dX7_hasIt_55 : decode cX7_hasIt 55 = .ok (.iconst 0, 1) := by decide +kernel
theorem dX7_hasIt_56 : decode cX7_hasIt 56 = .ok (.isub, 1) := by decide +kernel
theorem dX7_hasIt_57 : decode cX7_hasIt 57 = .ok (.istore 8, 2) := by decide +kernel
theorem dX7_hasIt_59 : decode cX7_hasIt 59 = .ok (.iconst 0, 1) := by decide +kernel
theorem dX7_hasIt_60 : decode cX7_hasIt 60 = .ok (.istore 9, 2) := by decide +kernel
theorem dX7_hasIt_62 : decode cX7_hasIt 62 = .ok (.iload 9, 2) := by decide +kernel
theorem dX7_hasIt_64 : decode cX7_hasIt 64 = .ok (.iconst 3, 1) := by decide +kernel
theorem dX7_hasIt_65 : decode cX7_hasIt 65 = .ok (.if_icmp .gt 90, 3) := by decide +kernel
theorem dX7_hasIt_68 : decode cX7_hasIt 68 = .ok (.iload 7, 2) := by decide +kernel
theorem dX7_hasIt_70 : decode cX7_hasIt 70 = .ok (.ifCond .eq 85, 3) := by decide +kernel
theorem dX7_hasIt_73 : decode cX7_hasIt 73 = .ok (.iload 9, 2) := by decide +kernel
theorem dX7_hasIt_75 : decode cX7_hasIt 75 = .ok (.iconst 3, 1) := by decide +kernel
theorem dX7_hasIt_76 : decode cX7_hasIt 76 = .ok (.if_icmp .eq 26, 3) := by decide +kernel
theorem dX7_hasIt_79 : decode cX7_hasIt 79 = .ok (.iload 9, 2) := by decide +kernel
theorem dX7_hasIt_81 : decode cX7_hasIt 81 = .ok (.iload 5, 2) := by decide +kernel
theorem dX7_hasIt_83 : decode cX7_hasIt 83 = .ok (.if_icmp .eq 23, 3) := by decide +kernel
theorem dX7_hasIt_86 : decode cX7_hasIt 86 = .ok (.iload 8, 2) := by decide +kernel
theorem dX7_hasIt_88 : decode cX7_hasIt 88 = .ok (.ifCond .le 18, 3) := by decide +kernel
theorem dX7_hasIt_91 : decode cX7_hasIt 91 = .ok (.aload_n 0, 1) := by decide +kernel
theorem dX7_hasIt_92 : decode cX7_hasIt 92 = .ok (.iload 9, 2) := by decide +kernel
theorem dX7_hasIt_94 : decode cX7_hasIt 94 = .ok (.iload_n 1, 1) := by decide +kernel
theorem dX7_hasIt_95 : decode cX7_hasIt 95 = .ok (.iload_n 2, 1) := by decide +kernel
theorem dX7_hasIt_96 : decode cX7_hasIt 96 = .ok (.invokevirtual 179, 3) := by decide +kernel
theorem dX7_hasIt_99 : decode cX7_hasIt 99 = .ok (.ifCond .eq 7, 3) := by decide +kernel
theorem dX7_hasIt_102 : decode cX7_hasIt 102 = .ok (.iconst 1, 1) := by decide +kernel
theorem dX7_hasIt_103 : decode cX7_hasIt 103 = .ok (.goto 4, 3) := by decide +kernel
theorem dX7_hasIt_106 : decode cX7_hasIt 106 = .ok (.iconst 0, 1) := by decide +kernel
theorem dX7_hasIt_107 : decode cX7_hasIt 107 = .ok (.istore 10, 2) := by decide +kernel
theorem dX7_hasIt_109 : decode cX7_hasIt 109 = .ok (.iload 10, 2) := by decide +kernel
theorem dX7_hasIt_111 : decode cX7_hasIt 111 = .ok (.ifCond .eq 38, 3) := by decide +kernel
theorem dX7_hasIt_114 : decode cX7_hasIt 114 = .ok (.aload_n 0, 1) := by decide +kernel
theorem dX7_hasIt_115 : decode cX7_hasIt 115 = .ok (.getfield 71, 3) := by decide +kernel
theorem dX7_hasIt_118 : decode cX7_hasIt 118 = .ok (.bipush 10, 2) := by decide +kernel
theorem dX7_hasIt_120 : decode cX7_hasIt 120 = .ok (.aload_n 0, 1) := by decide +kernel
theorem dX7_hasIt_121 : decode cX7_hasIt 121 = .ok (.iload 5, 2) := by decide +kernel
theorem dX7_hasIt_123 : decode cX7_hasIt 123 = .ok (.iload 9, 2) := by decide +kernel
theorem dX7_hasIt_125 : decode cX7_hasIt 125 = .ok (.iload_n 1, 1) := by decide +kernel
theorem dX7_hasIt_126 : decode cX7_hasIt 126 = .ok (.iload_n 2, 1) := by decide +kernel
theorem dX7_hasIt_127 : decode cX7_hasIt 127 = .ok (.invokevirtual 204, 3) := by decide +kernel
theorem dX7_hasIt_130 : decode cX7_hasIt 130 = .ok (.imul, 1) := by decide +kernel
theorem dX7_hasIt_131 : decode cX7_hasIt 131 = .ok (.iload 8, 2) := by decide +kernel
theorem dX7_hasIt_133 : decode cX7_hasIt 133 = .ok (.iadd, 1) := by decide +kernel
theorem dX7_hasIt_134 : decode cX7_hasIt 134 = .ok (.iload 9, 2) := by decide +kernel
theorem dX7_hasIt_136 : decode cX7_hasIt 136 = .ok (.iconst 3, 1) := by decide +kernel
theorem dX7_hasIt_137 : decode cX7_hasIt 137 = .ok (.if_icmp .ge 7, 3) := by decide +kernel
theorem dX7_hasIt_140 : decode cX7_hasIt 140 = .ok (.iconst 1, 1) := by decide +kernel
theorem dX7_hasIt_141 : decode cX7_hasIt 141 = .ok (.goto 4, 3) := by decide +kernel
theorem dX7_hasIt_144 : decode cX7_hasIt 144 = .ok (.iconst 0, 1) := by decide +kernel
theorem dX7_hasIt_145 : decode cX7_hasIt 145 = .ok (.isub, 1) := by decide +kernel
theorem dX7_hasIt_146 : decode cX7_hasIt 146 = .ok (.baload, 1) := by decide +kernel
theorem dX7_hasIt_147 : decode cX7_hasIt 147 = .ok (.istore 7, 2) := by decide +kernel
theorem dX7_hasIt_149 : decode cX7_hasIt 149 = .ok (.iinc 9 1, 3) := by decide +kernel
theorem dX7_hasIt_152 : decode cX7_hasIt 152 = .ok (.goto (-90), 3) := by decide +kernel
theorem dX7_hasIt_155 : decode cX7_hasIt 155 = .ok (.iload 4, 2) := by decide +kernel
theorem dX7_hasIt_157 : decode cX7_hasIt 157 = .ok (.ifCond .ne 8, 3) := by decide +kernel
theorem dX7_hasIt_160 : decode cX7_hasIt 160 = .ok (.iload 7, 2) := by decide +kernel
theorem dX7_hasIt_162 : decode cX7_hasIt 162 = .ok (.ifCond .eq 7, 3) := by decide +kernel
theorem dX7_hasIt_165 : decode cX7_hasIt 165 = .ok (.iconst 1, 1) := by decide +kernel
theorem dX7_hasIt_166 : decode cX7_hasIt 166 = .ok (.goto 4, 3) := by decide +kernel
theorem dX7_hasIt_169 : decode cX7_hasIt 169 = .ok (.iconst 0, 1) := by decide +kernel
theorem dX7_hasIt_170 : decode cX7_hasIt 170 = .ok (.istore 4, 2) := by decide +kernel
theorem dX7_hasIt_172 : decode cX7_hasIt 172 = .ok (.iinc 5 1, 3) := by decide +kernel
theorem dX7_hasIt_175 : decode cX7_hasIt 175 = .ok (.goto (-169), 3) := by decide +kernel
theorem dX7_hasIt_178 : decode cX7_hasIt 178 = .ok (.iload 4, 2) := by decide +kernel
theorem dX7_hasIt_180 : decode cX7_hasIt 180 = .ok (.ireturn, 1) := by decide +kernel
theorem dX7_duel_0 : decode cX7_duel 0 = .ok (.aload_n 0, 1) := by decide +kernel
theorem dX7_duel_1 : decode cX7_duel 1 = .ok (.iconst 0, 1) := by decide +kernel
theorem dX7_duel_2 : decode cX7_duel 2 = .ok (.putfield 77, 3) := by decide +kernel
theorem dX7_duel_5 : decode cX7_duel 5 = .ok (.aload_n 0, 1) := by decide +kernel
theorem dX7_duel_6 : decode cX7_duel 6 = .ok (.iload_n 2, 1) := by decide +kernel
theorem dX7_duel_7 : decode cX7_duel 7 = .ok (.invokevirtual 150, 3) := by decide +kernel
theorem dX7_duel_10 : decode cX7_duel 10 = .ok (.ifCond .ne 11, 3) := by decide +kernel
theorem dX7_duel_13 : decode cX7_duel 13 = .ok (.aload_n 0, 1) := by decide +kernel
theorem dX7_duel_14 : decode cX7_duel 14 = .ok (.iload_n 1, 1) := by decide +kernel
theorem dX7_duel_15 : decode cX7_duel 15 = .ok (.invokevirtual 155, 3) := by decide +kernel
theorem dX7_duel_18 : decode cX7_duel 18 = .ok (.ifCond .eq 5, 3) := by decide +kernel
theorem dX7_duel_21 : decode cX7_duel 21 = .ok (.iconst (-1), 1) := by decide +kernel
theorem dX7_duel_22 : decode cX7_duel 22 = .ok (.ireturn, 1) := by decide +kernel
theorem dX7_duel_23 : decode cX7_duel 23 = .ok (.aload_n 0, 1) := by decide +kernel
theorem dX7_duel_24 : decode cX7_duel 24 = .ok (.getfield 130, 3) := by decide +kernel
theorem dX7_duel_27 : decode cX7_duel 27 = .ok (.ifCond .eq 6, 3) := by decide +kernel
theorem dX7_duel_30 : decode cX7_duel 30 = .ok (.bipush (-3), 2) := by decide +kernel
theorem dX7_duel_32 : decode cX7_duel 32 = .ok (.ireturn, 1) := by decide +kernel
theorem dX7_duel_33 : decode cX7_duel 33 = .ok (.iconst 0, 1) := by decide +kernel
theorem dX7_duel_34 : decode cX7_duel 34 = .ok (.istore_n 3, 1) := by decide +kernel
theorem dX7_duel_35 : decode cX7_duel 35 = .ok (.iload_n 3, 1) := by decide +kernel
theorem dX7_duel_36 : decode cX7_duel 36 = .ok (.sipush 640, 3) := by decide +kernel
theorem dX7_duel_39 : decode cX7_duel 39 = .ok (.if_icmp .ge 23, 3) := by decide +kernel
theorem dX7_duel_42 : decode cX7_duel 42 = .ok (.aload_n 0, 1) := by decide +kernel
theorem dX7_duel_43 : decode cX7_duel 43 = .ok (.getfield 71, 3) := by decide +kernel
theorem dX7_duel_46 : decode cX7_duel 46 = .ok (.iload_n 3, 1) := by decide +kernel
theorem dX7_duel_47 : decode cX7_duel 47 = .ok (.iload_n 3, 1) := by decide +kernel
theorem dX7_duel_48 : decode cX7_duel 48 = .ok (.bipush 10, 2) := by decide +kernel
theorem dX7_duel_50 : decode cX7_duel 50 = .ok (.idiv, 1) := by decide +kernel
theorem dX7_duel_51 : decode cX7_duel 51 = .ok (.iload_n 2, 1) := by decide +kernel
theorem dX7_duel_52 : decode cX7_duel 52 = .ok (.invokestatic 109, 3) := by decide +kernel
theorem dX7_duel_55 : decode cX7_duel 55 = .ok (.bastore, 1) := by decide +kernel
theorem dX7_duel_56 : decode cX7_duel 56 = .ok (.iinc 3 1, 3) := by decide +kernel
theorem dX7_duel_59 : decode cX7_duel 59 = .ok (.goto (-24), 3) := by decide +kernel
theorem dX7_duel_62 : decode cX7_duel 62 = .ok (.iconst 5, 1) := by decide +kernel
theorem dX7_duel_63 : decode cX7_duel 63 = .ok (.istore_n 3, 1) := by decide +kernel
theorem dX7_duel_64 : decode cX7_duel 64 = .ok (.iload_n 3, 1) := by decide +kernel
theorem dX7_duel_65 : decode cX7_duel 65 = .ok (.aload_n 0, 1) := by decide +kernel
theorem dX7_duel_66 : decode cX7_duel 66 = .ok (.getfield 137, 3) := by decide +kernel
theorem dX7_duel_69 : decode cX7_duel 69 = .ok (.if_icmp .lt 79, 3) := by decide +kernel
theorem dX7_duel_72 : decode cX7_duel 72 = .ok (.iconst 0, 1) := by decide +kernel
theorem dX7_duel_73 : decode cX7_duel 73 = .ok (.istore 4, 2) := by decide +kernel
theorem dX7_duel_75 : decode cX7_duel 75 = .ok (.iload 4, 2) := by decide +kernel
theorem dX7_duel_77 : decode cX7_duel 77 = .ok (.sipush 640, 3) := by decide +kernel
theorem dX7_duel_80 : decode cX7_duel 80 = .ok (.if_icmp .ge 31, 3) := by decide +kernel
theorem dX7_duel_83 : decode cX7_duel 83 = .ok (.aload_n 0, 1) := by decide +kernel
theorem dX7_duel_84 : decode cX7_duel 84 = .ok (.getfield 74, 3) := by decide +kernel
theorem dX7_duel_87 : decode cX7_duel 87 = .ok (.iload 4, 2) := by decide +kernel
theorem dX7_duel_89 : decode cX7_duel 89 = .ok (.aload_n 0, 1) := by decide +kernel
theorem dX7_duel_90 : decode cX7_duel 90 = .ok (.iload_n 3, 1) := by decide +kernel
theorem dX7_duel_91 : decode cX7_duel 91 = .ok (.iload 4, 2) := by decide +kernel
theorem dX7_duel_93 : decode cX7_duel 93 = .ok (.bipush 10, 2) := by decide +kernel
theorem dX7_duel_95 : decode cX7_duel 95 = .ok (.idiv, 1) := by decide +kernel
theorem dX7_duel_96 : decode cX7_duel 96 = .ok (.iload 4, 2) := by decide +kernel
theorem dX7_duel_98 : decode cX7_duel 98 = .ok (.bipush 10, 2) := by decide +kernel
theorem dX7_duel_100 : decode cX7_duel 100 = .ok (.irem, 1) := by decide +kernel
theorem dX7_duel_101 : decode cX7_duel 101 = .ok (.invokevirtual 208, 3) := by decide +kernel
theorem dX7_duel_104 : decode cX7_duel 104 = .ok (.bastore, 1) := by decide +kernel
theorem dX7_duel_105 : decode cX7_duel 105 = .ok (.iinc 4 1, 3) := by decide +kernel
theorem dX7_duel_108 : decode cX7_duel 108 = .ok (.goto (-33), 3) := by decide +kernel
theorem dX7_duel_111 : decode cX7_duel 111 = .ok (.iconst 0, 1) := by decide +kernel
theorem dX7_duel_112 : decode cX7_duel 112 = .ok (.istore 4, 2) := by decide +kernel
theorem dX7_duel_114 : decode cX7_duel 114 = .ok (.iload 4, 2) := by decide +kernel
theorem dX7_duel_116 : decode cX7_duel 116 = .ok (.sipush 640, 3) := by decide +kernel
theorem dX7_duel_119 : decode cX7_duel 119 = .ok (.if_icmp .ge 23, 3) := by decide +kernel
theorem dX7_duel_122 : decode cX7_duel 122 = .ok (.aload_n 0, 1) := by decide +kernel
theorem dX7_duel_123 : decode cX7_duel 123 = .ok (.getfield 71, 3) := by decide +kernel
theorem dX7_duel_126 : decode cX7_duel 126 = .ok (.iload 4, 2) := by decide +kernel
theorem dX7_duel_128 : decode cX7_duel 128 = .ok (.aload_n 0, 1) := by decide +kernel
theorem dX7_duel_129 : decode cX7_duel 129 = .ok (.getfield 74, 3) := by decide +kernel
theorem dX7_duel_132 : decode cX7_duel 132 = .ok (.iload 4, 2) := by decide +kernel
theorem dX7_duel_134 : decode cX7_duel 134 = .ok (.baload, 1) := by decide +kernel
theorem dX7_duel_135 : decode cX7_duel 135 = .ok (.bastore, 1) := by decide +kernel
theorem dX7_duel_136 : decode cX7_duel 136 = .ok (.iinc 4 1, 3) := by decide +kernel
theorem dX7_duel_139 : decode cX7_duel 139 = .ok (.goto (-25), 3) := by decide +kernel
theorem dX7_duel_142 : decode cX7_duel 142 = .ok (.iinc 3 (-1), 3) := by decide +kernel
theorem dX7_duel_145 : decode cX7_duel 145 = .ok (.goto (-81), 3) := by decide +kernel
theorem dX7_duel_148 : decode cX7_duel 148 = .ok (.aload_n 0, 1) := by decide +kernel
theorem dX7_duel_149 : decode cX7_duel 149 = .ok (.getfield 71, 3) := by decide +kernel
theorem dX7_duel_152 : decode cX7_duel 152 = .ok (.bipush 10, 2) := by decide +kernel
theorem dX7_duel_154 : decode cX7_duel 154 = .ok (.aload_n 0, 1) := by decide +kernel
theorem dX7_duel_155 : decode cX7_duel 155 = .ok (.getfield 25, 3) := by decide +kernel
theorem dX7_duel_158 : decode cX7_duel 158 = .ok (.iconst 3, 1) := by decide +kernel
theorem dX7_duel_159 : decode cX7_duel 159 = .ok (.iload_n 1, 1) := by decide +kernel
theorem dX7_duel_160 : decode cX7_duel 160 = .ok (.iadd, 1) := by decide +kernel
theorem dX7_duel_161 : decode cX7_duel 161 = .ok (.iaload, 1) := by decide +kernel
theorem dX7_duel_162 : decode cX7_duel 162 = .ok (.imul, 1) := by decide +kernel
theorem dX7_duel_163 : decode cX7_duel 163 = .ok (.aload_n 0, 1) := by decide +kernel
theorem dX7_duel_164 : decode cX7_duel 164 = .ok (.iload_n 1, 1) := by decide +kernel
theorem dX7_duel_165 : decode cX7_duel 165 = .ok (.invokevirtual 191, 3) := by decide +kernel
theorem dX7_duel_168 : decode cX7_duel 168 = .ok (.iadd, 1) := by decide +kernel
theorem dX7_duel_169 : decode cX7_duel 169 = .ok (.baload, 1) := by decide +kernel
theorem dX7_duel_170 : decode cX7_duel 170 = .ok (.ifCond .eq 7, 3) := by decide +kernel
theorem dX7_duel_173 : decode cX7_duel 173 = .ok (.iconst 1, 1) := by decide +kernel
theorem dX7_duel_174 : decode cX7_duel 174 = .ok (.goto 4, 3) := by decide +kernel
theorem dX7_duel_177 : decode cX7_duel 177 = .ok (.iconst 0, 1) := by decide +kernel
theorem dX7_duel_178 : decode cX7_duel 178 = .ok (.ireturn, 1) := by decide +kernel
theorem dX7_divisor_0 : decode cX7_divisor 0 = .ok (.lload_n 0, 1) := by decide +kernel
theorem dX7_divisor_1 : decode cX7_divisor 1 = .ok (.lstore 4, 2) := by decide +kernel
theorem dX7_divisor_3 : decode cX7_divisor 3 = .ok (.lload_n 2, 1) := by decide +kernel
theorem dX7_divisor_4 : decode cX7_divisor 4 = .ok (.lstore 6, 2) := by decide +kernel
theorem dX7_divisor_6 : decode cX7_divisor 6 = .ok (.lload 6, 2) := by decide +kernel
theorem dX7_divisor_8 : decode cX7_divisor 8 = .ok (.lconst 0, 1) := by decide +kernel
theorem dX7_divisor_9 : decode cX7_divisor 9 = .ok (.lcmp, 1) := by decide +kernel
theorem dX7_divisor_10 : decode cX7_divisor 10 = .ok (.ifCond .eq 21, 3) := by decide +kernel
theorem dX7_divisor_13 : decode cX7_divisor 13 = .ok (.lload 4, 2) := by decide +kernel
theorem dX7_divisor_15 : decode cX7_divisor 15 = .ok (.lload 6, 2) := by decide +kernel
theorem dX7_divisor_17 : decode cX7_divisor 17 = .ok (.lrem, 1) := by decide +kernel
theorem dX7_divisor_18 : decode cX7_divisor 18 = .ok (.lstore 8, 2) := by decide +kernel
theorem dX7_divisor_20 : decode cX7_divisor 20 = .ok (.lload 6, 2) := by decide +kernel
theorem dX7_divisor_22 : decode cX7_divisor 22 = .ok (.lstore 4, 2) := by decide +kernel
theorem dX7_divisor_24 : decode cX7_divisor 24 = .ok (.lload 8, 2) := by decide +kernel
theorem dX7_divisor_26 : decode cX7_divisor 26 = .ok (.lstore 6, 2) := by decide +kernel
theorem dX7_divisor_28 : decode cX7_divisor 28 = .ok (.goto (-22), 3) := by decide +kernel
theorem dX7_divisor_31 : decode cX7_divisor 31 = .ok (.lload 4, 2) := by decide +kernel
theorem dX7_divisor_33 : decode cX7_divisor 33 = .ok (.lreturn, 1) := by decide +kernel
theorem dX7_chance_0 : decode cX7_chance 0 = .ok (.aload_n 0, 1) := by decide +kernel
theorem dX7_chance_1 : decode cX7_chance 1 = .ok (.iconst 0, 1) := by decide +kernel
theorem dX7_chance_2 : decode cX7_chance 2 = .ok (.putfield 77, 3) := by decide +kernel
theorem dX7_chance_5 : decode cX7_chance 5 = .ok (.aload_n 0, 1) := by decide +kernel
theorem dX7_chance_6 : decode cX7_chance 6 = .ok (.iload_n 1, 1) := by decide +kernel
theorem dX7_chance_7 : decode cX7_chance 7 = .ok (.invokevirtual 155, 3) := by decide +kernel
theorem dX7_chance_10 : decode cX7_chance 10 = .ok (.ifCond .ne 23, 3) := by decide +kernel
theorem dX7_chance_13 : decode cX7_chance 13 = .ok (.aload_n 0, 1) := by decide +kernel
theorem dX7_chance_14 : decode cX7_chance 14 = .ok (.iload_n 2, 1) := by decide +kernel
theorem dX7_chance_15 : decode cX7_chance 15 = .ok (.invokevirtual 150, 3) := by decide +kernel
theorem dX7_chance_18 : decode cX7_chance 18 = .ok (.ifCond .ne 15, 3) := by decide +kernel
theorem dX7_chance_21 : decode cX7_chance 21 = .ok (.iload_n 3, 1) := by decide +kernel
theorem dX7_chance_22 : decode cX7_chance 22 = .ok (.i2l, 1) := by decide +kernel
theorem dX7_chance_23 : decode cX7_chance 23 = .ok (.lconst 0, 1) := by decide +kernel
theorem dX7_chance_24 : decode cX7_chance 24 = .ok (.ldc2_w 211, 3) := by decide +kernel
theorem dX7_chance_27 : decode cX7_chance 27 = .ok (.invokestatic 84, 3) := by decide +kernel
theorem dX7_chance_30 : decode cX7_chance 30 = .ok (.ifCond .ne 7, 3) := by decide +kernel
theorem dX7_chance_33 : decode cX7_chance 33 = .ok (.ldc2_w 213, 3) := by decide +kernel
theorem dX7_chance_36 : decode cX7_chance 36 = .ok (.lreturn, 1) := by decide +kernel
theorem dX7_chance_37 : decode cX7_chance 37 = .ok (.iload 4, 2) := by decide +kernel
theorem dX7_chance_39 : decode cX7_chance 39 = .ok (.i2l, 1) := by decide +kernel
theorem dX7_chance_40 : decode cX7_chance 40 = .ok (.lconst 0, 1) := by decide +kernel
theorem dX7_chance_41 : decode cX7_chance 41 = .ok (.ldc2_w 215, 3) := by decide +kernel
theorem dX7_chance_44 : decode cX7_chance 44 = .ok (.invokestatic 84, 3) := by decide +kernel
theorem dX7_chance_47 : decode cX7_chance 47 = .ok (.ifCond .ne 7, 3) := by decide +kernel
theorem dX7_chance_50 : decode cX7_chance 50 = .ok (.ldc2_w 217, 3) := by decide +kernel
theorem dX7_chance_53 : decode cX7_chance 53 = .ok (.lreturn, 1) := by decide +kernel
theorem dX7_chance_54 : decode cX7_chance 54 = .ok (.aload_n 0, 1) := by decide +kernel
theorem dX7_chance_55 : decode cX7_chance 55 = .ok (.getfield 25, 3) := by decide +kernel
theorem dX7_chance_58 : decode cX7_chance 58 = .ok (.iconst 3, 1) := by decide +kernel
theorem dX7_chance_59 : decode cX7_chance 59 = .ok (.iload_n 1, 1) := by decide +kernel
theorem dX7_chance_60 : decode cX7_chance 60 = .ok (.iadd, 1) := by decide +kernel
theorem dX7_chance_61 : decode cX7_chance 61 = .ok (.iaload, 1) := by decide +kernel
theorem dX7_chance_62 : decode cX7_chance 62 = .ok (.iload_n 2, 1) := by decide +kernel
theorem dX7_chance_63 : decode cX7_chance 63 = .ok (.invokestatic 109, 3) := by decide +kernel
theorem dX7_chance_66 : decode cX7_chance 66 = .ok (.ifCond .eq 5, 3) := by decide +kernel
theorem dX7_chance_69 : decode cX7_chance 69 = .ok (.lconst 1, 1) := by decide +kernel
theorem dX7_chance_70 : decode cX7_chance 70 = .ok (.lreturn, 1) := by decide +kernel
theorem dX7_chance_71 : decode cX7_chance 71 = .ok (.lconst 1, 1) := by decide +kernel
theorem dX7_chance_72 : decode cX7_chance 72 = .ok (.lstore 6, 2) := by decide +kernel
theorem dX7_chance_74 : decode cX7_chance 74 = .ok (.lconst 1, 1) := by decide +kernel
theorem dX7_chance_75 : decode cX7_chance 75 = .ok (.lstore 8, 2) := by decide +kernel
theorem dX7_chance_77 : decode cX7_chance 77 = .ok (.aload_n 0, 1) := by decide +kernel
theorem dX7_chance_78 : decode cX7_chance 78 = .ok (.getfield 137, 3) := by decide +kernel
theorem dX7_chance_81 : decode cX7_chance 81 = .ok (.istore 10, 2) := by decide +kernel
theorem dX7_chance_83 : decode cX7_chance 83 = .ok (.iload 10, 2) := by decide +kernel
theorem dX7_chance_85 : decode cX7_chance 85 = .ok (.bipush 6, 2) := by decide +kernel
theorem dX7_chance_87 : decode cX7_chance 87 = .ok (.if_icmp .ge 88, 3) := by decide +kernel
theorem dX7_chance_90 : decode cX7_chance 90 = .ok (.aload_n 0, 1) := by decide +kernel
theorem dX7_chance_91 : decode cX7_chance 91 = .ok (.getfield 13, 3) := by decide +kernel
theorem dX7_chance_94 : decode cX7_chance 94 = .ok (.bipush 6, 2) := by decide +kernel
theorem dX7_chance_96 : decode cX7_chance 96 = .ok (.iload_n 2, 1) := by decide +kernel
theorem dX7_chance_97 : decode cX7_chance 97 = .ok (.imul, 1) := by decide +kernel
theorem dX7_chance_98 : decode cX7_chance 98 = .ok (.iload 10, 2) := by decide +kernel
theorem dX7_chance_100 : decode cX7_chance 100 = .ok (.iadd, 1) := by decide +kernel
theorem dX7_chance_101 : decode cX7_chance 101 = .ok (.iaload, 1) := by decide +kernel
theorem dX7_chance_102 : decode cX7_chance 102 = .ok (.iload_n 3, 1) := by decide +kernel
theorem dX7_chance_103 : decode cX7_chance 103 = .ok (.if_icmp .ne 26, 3) := by decide +kernel
theorem dX7_chance_106 : decode cX7_chance 106 = .ok (.aload_n 0, 1) := by decide +kernel
theorem dX7_chance_107 : decode cX7_chance 107 = .ok (.iload_n 3, 1) := by decide +kernel
theorem dX7_chance_108 : decode cX7_chance 108 = .ok (.iload 10, 2) := by decide +kernel
theorem dX7_chance_110 : decode cX7_chance 110 = .ok (.invokevirtual 158, 3) := by decide +kernel
theorem dX7_chance_113 : decode cX7_chance 113 = .ok (.aload_n 0, 1) := by decide +kernel
theorem dX7_chance_114 : decode cX7_chance 114 = .ok (.getfield 25, 3) := by decide +kernel
theorem dX7_chance_117 : decode cX7_chance 117 = .ok (.iconst 3, 1) := by decide +kernel
theorem dX7_chance_118 : decode cX7_chance 118 = .ok (.iload_n 1, 1) := by decide +kernel
theorem dX7_chance_119 : decode cX7_chance 119 = .ok (.iadd, 1) := by decide +kernel
theorem dX7_chance_120 : decode cX7_chance 120 = .ok (.iaload, 1) := by decide +kernel
theorem dX7_chance_121 : decode cX7_chance 121 = .ok (.iand, 1) := by decide +kernel
theorem dX7_chance_122 : decode cX7_chance 122 = .ok (.ifCond .eq 7, 3) := by decide +kernel
theorem dX7_chance_125 : decode cX7_chance 125 = .ok (.iconst 1, 1) := by decide +kernel
theorem dX7_chance_126 : decode cX7_chance 126 = .ok (.goto 4, 3) := by decide +kernel
theorem dX7_chance_129 : decode cX7_chance 129 = .ok (.iconst 0, 1) := by decide +kernel
theorem dX7_chance_130 : decode cX7_chance 130 = .ok (.istore 11, 2) := by decide +kernel
theorem dX7_chance_132 : decode cX7_chance 132 = .ok (.lload 6, 2) := by decide +kernel
theorem dX7_chance_134 : decode cX7_chance 134 = .ok (.iload 11, 2) := by decide +kernel
theorem dX7_chance_136 : decode cX7_chance 136 = .ok (.ifCond .eq 12, 3) := by decide +kernel
theorem dX7_chance_139 : decode cX7_chance 139 = .ok (.bipush 10, 2) := by decide +kernel
theorem dX7_chance_141 : decode cX7_chance 141 = .ok (.iload 4, 2) := by decide +kernel
theorem dX7_chance_143 : decode cX7_chance 143 = .ok (.isub, 1) := by decide +kernel
theorem dX7_chance_144 : decode cX7_chance 144 = .ok (.i2l, 1) := by decide +kernel
theorem dX7_chance_145 : decode cX7_chance 145 = .ok (.goto 4, 3) := by decide +kernel
theorem dX7_chance_148 : decode cX7_chance 148 = .ok (.lconst 1, 1) := by decide +kernel
theorem dX7_chance_149 : decode cX7_chance 149 = .ok (.lmul, 1) := by decide +kernel
theorem dX7_chance_150 : decode cX7_chance 150 = .ok (.lstore 6, 2) := by decide +kernel
theorem dX7_chance_152 : decode cX7_chance 152 = .ok (.lload 8, 2) := by decide +kernel
theorem dX7_chance_154 : decode cX7_chance 154 = .ok (.iload 11, 2) := by decide +kernel
theorem dX7_chance_156 : decode cX7_chance 156 = .ok (.ifCond .eq 9, 3) := by decide +kernel
theorem dX7_chance_159 : decode cX7_chance 159 = .ok (.ldc2_w 215, 3) := by decide +kernel
theorem dX7_chance_162 : decode cX7_chance 162 = .ok (.goto 4, 3) := by decide +kernel
theorem dX7_chance_165 : decode cX7_chance 165 = .ok (.lconst 1, 1) := by decide +kernel
theorem dX7_chance_166 : decode cX7_chance 166 = .ok (.lmul, 1) := by decide +kernel
theorem dX7_chance_167 : decode cX7_chance 167 = .ok (.lstore 8, 2) := by decide +kernel
theorem dX7_chance_169 : decode cX7_chance 169 = .ok (.iinc 10 1, 3) := by decide +kernel
theorem dX7_chance_172 : decode cX7_chance 172 = .ok (.goto (-89), 3) := by decide +kernel
theorem dX7_chance_175 : decode cX7_chance 175 = .ok (.lload 8, 2) := by decide +kernel
theorem dX7_chance_177 : decode cX7_chance 177 = .ok (.lload 6, 2) := by decide +kernel
theorem dX7_chance_179 : decode cX7_chance 179 = .ok (.lsub, 1) := by decide +kernel
theorem dX7_chance_180 : decode cX7_chance 180 = .ok (.lload 8, 2) := by decide +kernel
theorem dX7_chance_182 : decode cX7_chance 182 = .ok (.invokestatic 219, 3) := by decide +kernel
theorem dX7_chance_185 : decode cX7_chance 185 = .ok (.lstore 10, 2) := by decide +kernel
theorem dX7_chance_187 : decode cX7_chance 187 = .ok (.iload 5, 2) := by decide +kernel
theorem dX7_chance_189 : decode cX7_chance 189 = .ok (.ifCond .eq 14, 3) := by decide +kernel
theorem dX7_chance_192 : decode cX7_chance 192 = .ok (.lload 8, 2) := by decide +kernel
theorem dX7_chance_194 : decode cX7_chance 194 = .ok (.lload 6, 2) := by decide +kernel
theorem dX7_chance_196 : decode cX7_chance 196 = .ok (.lsub, 1) := by decide +kernel
theorem dX7_chance_197 : decode cX7_chance 197 = .ok (.lload 10, 2) := by decide +kernel
theorem dX7_chance_199 : decode cX7_chance 199 = .ok (.ldiv, 1) := by decide +kernel
theorem dX7_chance_200 : decode cX7_chance 200 = .ok (.goto 8, 3) := by decide +kernel
theorem dX7_chance_203 : decode cX7_chance 203 = .ok (.lload 8, 2) := by decide +kernel
theorem dX7_chance_205 : decode cX7_chance 205 = .ok (.lload 10, 2) := by decide +kernel
theorem dX7_chance_207 : decode cX7_chance 207 = .ok (.ldiv, 1) := by decide +kernel
theorem dX7_chance_208 : decode cX7_chance 208 = .ok (.lreturn, 1) := by decide +kernel
theorem dX7_sight_0 : decode cX7_sight 0 = .ok (.aload_n 0, 1) := by decide +kernel
theorem dX7_sight_1 : decode cX7_sight 1 = .ok (.iconst 0, 1) := by decide +kernel
theorem dX7_sight_2 : decode cX7_sight 2 = .ok (.putfield 77, 3) := by decide +kernel
theorem dX7_sight_5 : decode cX7_sight 5 = .ok (.aload_n 0, 1) := by decide +kernel
theorem dX7_sight_6 : decode cX7_sight 6 = .ok (.iload_n 2, 1) := by decide +kernel
theorem dX7_sight_7 : decode cX7_sight 7 = .ok (.invokevirtual 150, 3) := by decide +kernel
theorem dX7_sight_10 : decode cX7_sight 10 = .ok (.ifCond .eq 5, 3) := by decide +kernel
theorem dX7_sight_13 : decode cX7_sight 13 = .ok (.iconst (-1), 1) := by decide +kernel
theorem dX7_sight_14 : decode cX7_sight 14 = .ok (.ireturn, 1) := by decide +kernel
theorem dX7_sight_15 : decode cX7_sight 15 = .ok (.iload_n 1, 1) := by decide +kernel
theorem dX7_sight_16 : decode cX7_sight 16 = .ok (.i2l, 1) := by decide +kernel
theorem dX7_sight_17 : decode cX7_sight 17 = .ok (.lconst 0, 1) := by decide +kernel
theorem dX7_sight_18 : decode cX7_sight 18 = .ok (.ldc2_w 153, 3) := by decide +kernel
theorem dX7_sight_21 : decode cX7_sight 21 = .ok (.invokestatic 84, 3) := by decide +kernel
theorem dX7_sight_24 : decode cX7_sight 24 = .ok (.ifCond .ne 6, 3) := by decide +kernel
theorem dX7_sight_27 : decode cX7_sight 27 = .ok (.bipush (-2), 2) := by decide +kernel
theorem dX7_sight_29 : decode cX7_sight 29 = .ok (.ireturn, 1) := by decide +kernel
theorem dX7_sight_30 : decode cX7_sight 30 = .ok (.aload_n 0, 1) := by decide +kernel
theorem dX7_sight_31 : decode cX7_sight 31 = .ok (.getfield 147, 3) := by decide +kernel
theorem dX7_sight_34 : decode cX7_sight 34 = .ok (.bipush 8, 2) := by decide +kernel
theorem dX7_sight_36 : decode cX7_sight 36 = .ok (.if_icmp .ne 6, 3) := by decide +kernel
theorem dX7_sight_39 : decode cX7_sight 39 = .ok (.bipush (-4), 2) := by decide +kernel
theorem dX7_sight_41 : decode cX7_sight 41 = .ok (.ireturn, 1) := by decide +kernel
theorem dX7_sight_42 : decode cX7_sight 42 = .ok (.aload_n 0, 1) := by decide +kernel
theorem dX7_sight_43 : decode cX7_sight 43 = .ok (.getfield 53, 3) := by decide +kernel
theorem dX7_sight_46 : decode cX7_sight 46 = .ok (.aload_n 0, 1) := by decide +kernel
theorem dX7_sight_47 : decode cX7_sight 47 = .ok (.getfield 147, 3) := by decide +kernel
theorem dX7_sight_50 : decode cX7_sight 50 = .ok (.iload_n 1, 1) := by decide +kernel
theorem dX7_sight_51 : decode cX7_sight 51 = .ok (.iastore, 1) := by decide +kernel
theorem dX7_sight_52 : decode cX7_sight 52 = .ok (.aload_n 0, 1) := by decide +kernel
theorem dX7_sight_53 : decode cX7_sight 53 = .ok (.getfield 56, 3) := by decide +kernel
theorem dX7_sight_56 : decode cX7_sight 56 = .ok (.aload_n 0, 1) := by decide +kernel
theorem dX7_sight_57 : decode cX7_sight 57 = .ok (.getfield 147, 3) := by decide +kernel
theorem dX7_sight_60 : decode cX7_sight 60 = .ok (.iload_n 2, 1) := by decide +kernel
theorem dX7_sight_61 : decode cX7_sight 61 = .ok (.iastore, 1) := by decide +kernel
theorem dX7_sight_62 : decode cX7_sight 62 = .ok (.aload_n 0, 1) := by decide +kernel
theorem dX7_sight_63 : decode cX7_sight 63 = .ok (.getfield 59, 3) := by decide +kernel
theorem dX7_sight_66 : decode cX7_sight 66 = .ok (.aload_n 0, 1) := by decide +kernel
theorem dX7_sight_67 : decode cX7_sight 67 = .ok (.getfield 147, 3) := by decide +kernel
theorem dX7_sight_70 : decode cX7_sight 70 = .ok (.iload_n 3, 1) := by decide +kernel
theorem dX7_sight_71 : decode cX7_sight 71 = .ok (.bastore, 1) := by decide +kernel
theorem dX7_sight_72 : decode cX7_sight 72 = .ok (.aload_n 0, 1) := by decide +kernel
theorem dX7_sight_73 : decode cX7_sight 73 = .ok (.dup, 1) := by decide +kernel
theorem dX7_sight_74 : decode cX7_sight 74 = .ok (.getfield 147, 3) := by decide +kernel
theorem dX7_sight_77 : decode cX7_sight 77 = .ok (.iconst 1, 1) := by decide +kernel
theorem dX7_sight_78 : decode cX7_sight 78 = .ok (.iadd, 1) := by decide +kernel
theorem dX7_sight_79 : decode cX7_sight 79 = .ok (.putfield 147, 3) := by decide +kernel
theorem dX7_sight_82 : decode cX7_sight 82 = .ok (.aload_n 0, 1) := by decide +kernel
theorem dX7_sight_83 : decode cX7_sight 83 = .ok (.getfield 147, 3) := by decide +kernel
theorem dX7_sight_86 : decode cX7_sight 86 = .ok (.ireturn, 1) := by decide +kernel
theorem dX7_unsee_0 : decode cX7_unsee 0 = .ok (.aload_n 0, 1) := by decide +kernel
theorem dX7_unsee_1 : decode cX7_unsee 1 = .ok (.iconst 0, 1) := by decide +kernel
theorem dX7_unsee_2 : decode cX7_unsee 2 = .ok (.putfield 77, 3) := by decide +kernel
theorem dX7_unsee_5 : decode cX7_unsee 5 = .ok (.aload_n 0, 1) := by decide +kernel
theorem dX7_unsee_6 : decode cX7_unsee 6 = .ok (.getfield 147, 3) := by decide +kernel
theorem dX7_unsee_9 : decode cX7_unsee 9 = .ok (.istore_n 1, 1) := by decide +kernel
theorem dX7_unsee_10 : decode cX7_unsee 10 = .ok (.aload_n 0, 1) := by decide +kernel
theorem dX7_unsee_11 : decode cX7_unsee 11 = .ok (.iconst 0, 1) := by decide +kernel
theorem dX7_unsee_12 : decode cX7_unsee 12 = .ok (.putfield 147, 3) := by decide +kernel
theorem dX7_unsee_15 : decode cX7_unsee 15 = .ok (.iload_n 1, 1) := by decide +kernel
theorem dX7_unsee_16 : decode cX7_unsee 16 = .ok (.ireturn, 1) := by decide +kernel
theorem dX7_isSeen_0 : decode cX7_isSeen 0 = .ok (.iconst 1, 1) := by decide +kernel
theorem dX7_isSeen_1 : decode cX7_isSeen 1 = .ok (.istore_n 3, 1) := by decide +kernel
theorem dX7_isSeen_2 : decode cX7_isSeen 2 = .ok (.iconst 0, 1) := by decide +kernel
theorem dX7_isSeen_3 : decode cX7_isSeen 3 = .ok (.istore 4, 2) := by decide +kernel
theorem dX7_isSeen_5 : decode cX7_isSeen 5 = .ok (.iload 4, 2) := by decide +kernel
theorem dX7_isSeen_7 : decode cX7_isSeen 7 = .ok (.aload_n 0, 1) := by decide +kernel
theorem dX7_isSeen_8 : decode cX7_isSeen 8 = .ok (.getfield 147, 3) := by decide +kernel
theorem dX7_isSeen_11 : decode cX7_isSeen 11 = .ok (.if_icmp .ge 51, 3) := by decide +kernel
theorem dX7_isSeen_14 : decode cX7_isSeen 14 = .ok (.iload_n 3, 1) := by decide +kernel
theorem dX7_isSeen_15 : decode cX7_isSeen 15 = .ok (.ifCond .eq 39, 3) := by decide +kernel
theorem dX7_isSeen_18 : decode cX7_isSeen 18 = .ok (.aload_n 0, 1) := by decide +kernel
theorem dX7_isSeen_19 : decode cX7_isSeen 19 = .ok (.getfield 53, 3) := by decide +kernel
theorem dX7_isSeen_22 : decode cX7_isSeen 22 = .ok (.iload 4, 2) := by decide +kernel
theorem dX7_isSeen_24 : decode cX7_isSeen 24 = .ok (.iaload, 1) := by decide +kernel
theorem dX7_isSeen_25 : decode cX7_isSeen 25 = .ok (.iload_n 1, 1) := by decide +kernel
theorem dX7_isSeen_26 : decode cX7_isSeen 26 = .ok (.if_icmp .ne 24, 3) := by decide +kernel
theorem dX7_isSeen_29 : decode cX7_isSeen 29 = .ok (.iload_n 2, 1) := by decide +kernel
theorem dX7_isSeen_30 : decode cX7_isSeen 30 = .ok (.aload_n 0, 1) := by decide +kernel
theorem dX7_isSeen_31 : decode cX7_isSeen 31 = .ok (.getfield 56, 3) := by decide +kernel
theorem dX7_isSeen_34 : decode cX7_isSeen 34 = .ok (.iload 4, 2) := by decide +kernel
theorem dX7_isSeen_36 : decode cX7_isSeen 36 = .ok (.iaload, 1) := by decide +kernel
theorem dX7_isSeen_37 : decode cX7_isSeen 37 = .ok (.invokestatic 109, 3) := by decide +kernel
theorem dX7_isSeen_40 : decode cX7_isSeen 40 = .ok (.aload_n 0, 1) := by decide +kernel
theorem dX7_isSeen_41 : decode cX7_isSeen 41 = .ok (.getfield 59, 3) := by decide +kernel
theorem dX7_isSeen_44 : decode cX7_isSeen 44 = .ok (.iload 4, 2) := by decide +kernel
theorem dX7_isSeen_46 : decode cX7_isSeen 46 = .ok (.baload, 1) := by decide +kernel
theorem dX7_isSeen_47 : decode cX7_isSeen 47 = .ok (.if_icmp .ne 7, 3) := by decide +kernel
theorem dX7_isSeen_50 : decode cX7_isSeen 50 = .ok (.iconst 1, 1) := by decide +kernel
theorem dX7_isSeen_51 : decode cX7_isSeen 51 = .ok (.goto 4, 3) := by decide +kernel
theorem dX7_isSeen_54 : decode cX7_isSeen 54 = .ok (.iconst 0, 1) := by decide +kernel
theorem dX7_isSeen_55 : decode cX7_isSeen 55 = .ok (.istore_n 3, 1) := by decide +kernel
theorem dX7_isSeen_56 : decode cX7_isSeen 56 = .ok (.iinc 4 1, 3) := by decide +kernel
theorem dX7_isSeen_59 : decode cX7_isSeen 59 = .ok (.goto (-54), 3) := by decide +kernel
theorem dX7_isSeen_62 : decode cX7_isSeen 62 = .ok (.iload_n 3, 1) := by decide +kernel
theorem dX7_isSeen_63 : decode cX7_isSeen 63 = .ok (.ireturn, 1) := by decide +kernel
theorem dX7_rows_0 : decode cX7_rows 0 = .ok (.aload_n 0, 1) := by decide +kernel
theorem dX7_rows_1 : decode cX7_rows 1 = .ok (.iconst 0, 1) := by decide +kernel
theorem dX7_rows_2 : decode cX7_rows 2 = .ok (.putfield 77, 3) := by decide +kernel
theorem dX7_rows_5 : decode cX7_rows 5 = .ok (.aload_n 0, 1) := by decide +kernel
theorem dX7_rows_6 : decode cX7_rows 6 = .ok (.iload_n 1, 1) := by decide +kernel
theorem dX7_rows_7 : decode cX7_rows 7 = .ok (.invokevirtual 155, 3) := by decide +kernel
theorem dX7_rows_10 : decode cX7_rows 10 = .ok (.ifCond .eq 5, 3) := by decide +kernel
theorem dX7_rows_13 : decode cX7_rows 13 = .ok (.iconst (-1), 1) := by decide +kernel
theorem dX7_rows_14 : decode cX7_rows 14 = .ok (.ireturn, 1) := by decide +kernel
theorem dX7_rows_15 : decode cX7_rows 15 = .ok (.iconst 0, 1) := by decide +kernel
theorem dX7_rows_16 : decode cX7_rows 16 = .ok (.istore_n 2, 1) := by decide +kernel
theorem dX7_rows_17 : decode cX7_rows 17 = .ok (.iload_n 2, 1) := by decide +kernel
theorem dX7_rows_18 : decode cX7_rows 18 = .ok (.sipush 640, 3) := by decide +kernel
theorem dX7_rows_21 : decode cX7_rows 21 = .ok (.if_icmp .ge 33, 3) := by decide +kernel
theorem dX7_rows_24 : decode cX7_rows 24 = .ok (.aload_n 0, 1) := by decide +kernel
theorem dX7_rows_25 : decode cX7_rows 25 = .ok (.getfield 65, 3) := by decide +kernel
theorem dX7_rows_28 : decode cX7_rows 28 = .ok (.iload_n 2, 1) := by decide +kernel
theorem dX7_rows_29 : decode cX7_rows 29 = .ok (.iload_n 2, 1) := by decide +kernel
theorem dX7_rows_30 : decode cX7_rows 30 = .ok (.bipush 10, 2) := by decide +kernel
theorem dX7_rows_32 : decode cX7_rows 32 = .ok (.aload_n 0, 1) := by decide +kernel
theorem dX7_rows_33 : decode cX7_rows 33 = .ok (.getfield 22, 3) := by decide +kernel
theorem dX7_rows_36 : decode cX7_rows 36 = .ok (.iload_n 1, 1) := by decide +kernel
theorem dX7_rows_37 : decode cX7_rows 37 = .ok (.iaload, 1) := by decide +kernel
theorem dX7_rows_38 : decode cX7_rows 38 = .ok (.imul, 1) := by decide +kernel
theorem dX7_rows_39 : decode cX7_rows 39 = .ok (.if_icmp .ne 7, 3) := by decide +kernel
theorem dX7_rows_42 : decode cX7_rows 42 = .ok (.iconst 1, 1) := by decide +kernel
theorem dX7_rows_43 : decode cX7_rows 43 = .ok (.goto 4, 3) := by decide +kernel
theorem dX7_rows_46 : decode cX7_rows 46 = .ok (.iconst 0, 1) := by decide +kernel
theorem dX7_rows_47 : decode cX7_rows 47 = .ok (.iastore, 1) := by decide +kernel
theorem dX7_rows_48 : decode cX7_rows 48 = .ok (.iinc 2 1, 3) := by decide +kernel
theorem dX7_rows_51 : decode cX7_rows 51 = .ok (.goto (-34), 3) := by decide +kernel
theorem dX7_rows_54 : decode cX7_rows 54 = .ok (.iconst 0, 1) := by decide +kernel
theorem dX7_rows_55 : decode cX7_rows 55 = .ok (.istore_n 2, 1) := by decide +kernel
theorem dX7_rows_56 : decode cX7_rows 56 = .ok (.iload_n 2, 1) := by decide +kernel
theorem dX7_rows_57 : decode cX7_rows 57 = .ok (.bipush 6, 2) := by decide +kernel
theorem dX7_rows_59 : decode cX7_rows 59 = .ok (.if_icmp .ge 63, 3) := by decide +kernel
theorem dX7_rows_62 : decode cX7_rows 62 = .ok (.aload_n 0, 1) := by decide +kernel
theorem dX7_rows_63 : decode cX7_rows 63 = .ok (.iload_n 2, 1) := by decide +kernel
theorem dX7_rows_64 : decode cX7_rows 64 = .ok (.aload_n 0, 1) := by decide +kernel
theorem dX7_rows_65 : decode cX7_rows 65 = .ok (.getfield 16, 3) := by decide +kernel
theorem dX7_rows_68 : decode cX7_rows 68 = .ok (.iload_n 1, 1) := by decide +kernel
theorem dX7_rows_69 : decode cX7_rows 69 = .ok (.iaload, 1) := by decide +kernel
theorem dX7_rows_70 : decode cX7_rows 70 = .ok (.invokevirtual 200, 3) := by decide +kernel
theorem dX7_rows_73 : decode cX7_rows 73 = .ok (.iconst 0, 1) := by decide +kernel
theorem dX7_rows_74 : decode cX7_rows 74 = .ok (.istore_n 3, 1) := by decide +kernel
theorem dX7_rows_75 : decode cX7_rows 75 = .ok (.iload_n 3, 1) := by decide +kernel
theorem dX7_rows_76 : decode cX7_rows 76 = .ok (.sipush 640, 3) := by decide +kernel
theorem dX7_rows_79 : decode cX7_rows 79 = .ok (.if_icmp .ge 37, 3) := by decide +kernel
theorem dX7_rows_82 : decode cX7_rows 82 = .ok (.aload_n 0, 1) := by decide +kernel
theorem dX7_rows_83 : decode cX7_rows 83 = .ok (.getfield 65, 3) := by decide +kernel
theorem dX7_rows_86 : decode cX7_rows 86 = .ok (.iload_n 3, 1) := by decide +kernel
theorem dX7_rows_87 : decode cX7_rows 87 = .ok (.aload_n 0, 1) := by decide +kernel
theorem dX7_rows_88 : decode cX7_rows 88 = .ok (.iload_n 2, 1) := by decide +kernel
theorem dX7_rows_89 : decode cX7_rows 89 = .ok (.iload_n 3, 1) := by decide +kernel
theorem dX7_rows_90 : decode cX7_rows 90 = .ok (.bipush 10, 2) := by decide +kernel
theorem dX7_rows_92 : decode cX7_rows 92 = .ok (.idiv, 1) := by decide +kernel
theorem dX7_rows_93 : decode cX7_rows 93 = .ok (.invokevirtual 223, 3) := by decide +kernel
theorem dX7_rows_96 : decode cX7_rows 96 = .ok (.ifCond .eq 12, 3) := by decide +kernel
theorem dX7_rows_99 : decode cX7_rows 99 = .ok (.aload_n 0, 1) := by decide +kernel
theorem dX7_rows_100 : decode cX7_rows 100 = .ok (.getfield 65, 3) := by decide +kernel
theorem dX7_rows_103 : decode cX7_rows 103 = .ok (.iload_n 3, 1) := by decide +kernel
theorem dX7_rows_104 : decode cX7_rows 104 = .ok (.iaload, 1) := by decide +kernel
theorem dX7_rows_105 : decode cX7_rows 105 = .ok (.goto 4, 3) := by decide +kernel
theorem dX7_rows_108 : decode cX7_rows 108 = .ok (.iconst 0, 1) := by decide +kernel
theorem dX7_rows_109 : decode cX7_rows 109 = .ok (.iastore, 1) := by decide +kernel
theorem dX7_rows_110 : decode cX7_rows 110 = .ok (.iinc 3 1, 3) := by decide +kernel
theorem dX7_rows_113 : decode cX7_rows 113 = .ok (.goto (-38), 3) := by decide +kernel
theorem dX7_rows_116 : decode cX7_rows 116 = .ok (.iinc 2 1, 3) := by decide +kernel
theorem dX7_rows_119 : decode cX7_rows 119 = .ok (.goto (-63), 3) := by decide +kernel
theorem dX7_rows_122 : decode cX7_rows 122 = .ok (.iconst 0, 1) := by decide +kernel
theorem dX7_rows_123 : decode cX7_rows 123 = .ok (.istore_n 2, 1) := by decide +kernel
theorem dX7_rows_124 : decode cX7_rows 124 = .ok (.iconst 0, 1) := by decide +kernel
theorem dX7_rows_125 : decode cX7_rows 125 = .ok (.istore_n 3, 1) := by decide +kernel
theorem dX7_rows_126 : decode cX7_rows 126 = .ok (.iload_n 3, 1) := by decide +kernel
theorem dX7_rows_127 : decode cX7_rows 127 = .ok (.sipush 640, 3) := by decide +kernel
theorem dX7_rows_130 : decode cX7_rows 130 = .ok (.if_icmp .ge 18, 3) := by decide +kernel
theorem dX7_rows_133 : decode cX7_rows 133 = .ok (.iload_n 2, 1) := by decide +kernel
theorem dX7_rows_134 : decode cX7_rows 134 = .ok (.aload_n 0, 1) := by decide +kernel
theorem dX7_rows_135 : decode cX7_rows 135 = .ok (.getfield 65, 3) := by decide +kernel
theorem dX7_rows_138 : decode cX7_rows 138 = .ok (.iload_n 3, 1) := by decide +kernel
theorem dX7_rows_139 : decode cX7_rows 139 = .ok (.iaload, 1) := by decide +kernel
theorem dX7_rows_140 : decode cX7_rows 140 = .ok (.iadd, 1) := by decide +kernel
theorem dX7_rows_141 : decode cX7_rows 141 = .ok (.istore_n 2, 1) := by decide +kernel
theorem dX7_rows_142 : decode cX7_rows 142 = .ok (.iinc 3 1, 3) := by decide +kernel
theorem dX7_rows_145 : decode cX7_rows 145 = .ok (.goto (-19), 3) := by decide +kernel
theorem dX7_rows_148 : decode cX7_rows 148 = .ok (.iload_n 2, 1) := by decide +kernel
theorem dX7_rows_149 : decode cX7_rows 149 = .ok (.ireturn, 1) := by decide +kernel
theorem dX7_keep_0 : decode cX7_keep 0 = .ok (.aload_n 0, 1) := by decide +kernel
theorem dX7_keep_1 : decode cX7_keep 1 = .ok (.iconst 0, 1) := by decide +kernel
theorem dX7_keep_2 : decode cX7_keep 2 = .ok (.putfield 77, 3) := by decide +kernel
theorem dX7_keep_5 : decode cX7_keep 5 = .ok (.iload_n 1, 1) := by decide +kernel
theorem dX7_keep_6 : decode cX7_keep 6 = .ok (.i2l, 1) := by decide +kernel
theorem dX7_keep_7 : decode cX7_keep 7 = .ok (.lconst 0, 1) := by decide +kernel
theorem dX7_keep_8 : decode cX7_keep 8 = .ok (.lconst 1, 1) := by decide +kernel
theorem dX7_keep_9 : decode cX7_keep 9 = .ok (.invokestatic 84, 3) := by decide +kernel
theorem dX7_keep_12 : decode cX7_keep 12 = .ok (.ifCond .ne 5, 3) := by decide +kernel
theorem dX7_keep_15 : decode cX7_keep 15 = .ok (.iconst (-1), 1) := by decide +kernel
theorem dX7_keep_16 : decode cX7_keep 16 = .ok (.ireturn, 1) := by decide +kernel
theorem dX7_keep_17 : decode cX7_keep 17 = .ok (.aload_n 0, 1) := by decide +kernel
theorem dX7_keep_18 : decode cX7_keep 18 = .ok (.getfield 46, 3) := by decide +kernel
theorem dX7_keep_21 : decode cX7_keep 21 = .ok (.iload_n 1, 1) := by decide +kernel
theorem dX7_keep_22 : decode cX7_keep 22 = .ok (.iconst 1, 1) := by decide +kernel
theorem dX7_keep_23 : decode cX7_keep 23 = .ok (.bastore, 1) := by decide +kernel
theorem dX7_keep_24 : decode cX7_keep 24 = .ok (.aload_n 0, 1) := by decide +kernel
theorem dX7_keep_25 : decode cX7_keep 25 = .ok (.aload_n 0, 1) := by decide +kernel
theorem dX7_keep_26 : decode cX7_keep 26 = .ok (.getfield 43, 3) := by decide +kernel
theorem dX7_keep_29 : decode cX7_keep 29 = .ok (.bipush 58, 2) := by decide +kernel
theorem dX7_keep_31 : decode cX7_keep 31 = .ok (.iload_n 1, 1) := by decide +kernel
theorem dX7_keep_32 : decode cX7_keep 32 = .ok (.imul, 1) := by decide +kernel
theorem dX7_keep_33 : decode cX7_keep 33 = .ok (.invokevirtual 165, 3) := by decide +kernel
theorem dX7_keep_36 : decode cX7_keep 36 = .ok (.aload_n 0, 1) := by decide +kernel
theorem dX7_keep_37 : decode cX7_keep 37 = .ok (.getfield 137, 3) := by decide +kernel
theorem dX7_keep_40 : decode cX7_keep 40 = .ok (.ireturn, 1) := by decide +kernel
theorem dX7_again_0 : decode cX7_again 0 = .ok (.aload_n 0, 1) := by decide +kernel
theorem dX7_again_1 : decode cX7_again 1 = .ok (.iconst 0, 1) := by decide +kernel
theorem dX7_again_2 : decode cX7_again 2 = .ok (.putfield 77, 3) := by decide +kernel
theorem dX7_again_5 : decode cX7_again 5 = .ok (.iload_n 1, 1) := by decide +kernel
theorem dX7_again_6 : decode cX7_again 6 = .ok (.i2l, 1) := by decide +kernel
theorem dX7_again_7 : decode cX7_again 7 = .ok (.lconst 0, 1) := by decide +kernel
theorem dX7_again_8 : decode cX7_again 8 = .ok (.lconst 1, 1) := by decide +kernel
theorem dX7_again_9 : decode cX7_again 9 = .ok (.invokestatic 84, 3) := by decide +kernel
theorem dX7_again_12 : decode cX7_again 12 = .ok (.ifCond .ne 5, 3) := by decide +kernel
theorem dX7_again_15 : decode cX7_again 15 = .ok (.iconst (-1), 1) := by decide +kernel
theorem dX7_again_16 : decode cX7_again 16 = .ok (.ireturn, 1) := by decide +kernel
theorem dX7_again_17 : decode cX7_again 17 = .ok (.aload_n 0, 1) := by decide +kernel
theorem dX7_again_18 : decode cX7_again 18 = .ok (.getfield 46, 3) := by decide +kernel
theorem dX7_again_21 : decode cX7_again 21 = .ok (.iload_n 1, 1) := by decide +kernel
theorem dX7_again_22 : decode cX7_again 22 = .ok (.baload, 1) := by decide +kernel
theorem dX7_again_23 : decode cX7_again 23 = .ok (.ifCond .ne 6, 3) := by decide +kernel
theorem dX7_again_26 : decode cX7_again 26 = .ok (.bipush (-3), 2) := by decide +kernel
theorem dX7_again_28 : decode cX7_again 28 = .ok (.ireturn, 1) := by decide +kernel
theorem dX7_again_29 : decode cX7_again 29 = .ok (.aload_n 0, 1) := by decide +kernel
theorem dX7_again_30 : decode cX7_again 30 = .ok (.aload_n 0, 1) := by decide +kernel
theorem dX7_again_31 : decode cX7_again 31 = .ok (.getfield 43, 3) := by decide +kernel
theorem dX7_again_34 : decode cX7_again 34 = .ok (.bipush 58, 2) := by decide +kernel
theorem dX7_again_36 : decode cX7_again 36 = .ok (.iload_n 1, 1) := by decide +kernel
theorem dX7_again_37 : decode cX7_again 37 = .ok (.imul, 1) := by decide +kernel
theorem dX7_again_38 : decode cX7_again 38 = .ok (.invokevirtual 176, 3) := by decide +kernel
theorem dX7_again_41 : decode cX7_again 41 = .ok (.aload_n 0, 1) := by decide +kernel
theorem dX7_again_42 : decode cX7_again 42 = .ok (.iconst 0, 1) := by decide +kernel
theorem dX7_again_43 : decode cX7_again 43 = .ok (.putfield 140, 3) := by decide +kernel
theorem dX7_again_46 : decode cX7_again 46 = .ok (.aload_n 0, 1) := by decide +kernel
theorem dX7_again_47 : decode cX7_again 47 = .ok (.getfield 137, 3) := by decide +kernel
theorem dX7_again_50 : decode cX7_again 50 = .ok (.ireturn, 1) := by decide +kernel
theorem dJ6_bitCount_0f7a4_0 : decode cJ6_bitCount_0f7a4 0 = .ok (.iload_n 0, 1) := by decide +kernel
theorem dJ6_bitCount_0f7a4_1 : decode cJ6_bitCount_0f7a4 1 = .ok (.iload_n 0, 1) := by decide +kernel
theorem dJ6_bitCount_0f7a4_2 : decode cJ6_bitCount_0f7a4 2 = .ok (.iconst 1, 1) := by decide +kernel
theorem dJ6_bitCount_0f7a4_3 : decode cJ6_bitCount_0f7a4 3 = .ok (.iushr, 1) := by decide +kernel
theorem dJ6_bitCount_0f7a4_4 : decode cJ6_bitCount_0f7a4 4 = .ok (.ldc_w 265, 3) := by decide +kernel
theorem dJ6_bitCount_0f7a4_7 : decode cJ6_bitCount_0f7a4 7 = .ok (.iand, 1) := by decide +kernel
theorem dJ6_bitCount_0f7a4_8 : decode cJ6_bitCount_0f7a4 8 = .ok (.isub, 1) := by decide +kernel
theorem dJ6_bitCount_0f7a4_9 : decode cJ6_bitCount_0f7a4 9 = .ok (.istore_n 0, 1) := by decide +kernel
theorem dJ6_bitCount_0f7a4_10 : decode cJ6_bitCount_0f7a4 10 = .ok (.iload_n 0, 1) := by decide +kernel
theorem dJ6_bitCount_0f7a4_11 : decode cJ6_bitCount_0f7a4 11 = .ok (.ldc_w 266, 3) := by decide +kernel
theorem dJ6_bitCount_0f7a4_14 : decode cJ6_bitCount_0f7a4 14 = .ok (.iand, 1) := by decide +kernel
theorem dJ6_bitCount_0f7a4_15 : decode cJ6_bitCount_0f7a4 15 = .ok (.iload_n 0, 1) := by decide +kernel
theorem dJ6_bitCount_0f7a4_16 : decode cJ6_bitCount_0f7a4 16 = .ok (.iconst 2, 1) := by decide +kernel
theorem dJ6_bitCount_0f7a4_17 : decode cJ6_bitCount_0f7a4 17 = .ok (.iushr, 1) := by decide +kernel
theorem dJ6_bitCount_0f7a4_18 : decode cJ6_bitCount_0f7a4 18 = .ok (.ldc_w 266, 3) := by decide +kernel
theorem dJ6_bitCount_0f7a4_21 : decode cJ6_bitCount_0f7a4 21 = .ok (.iand, 1) := by decide +kernel
theorem dJ6_bitCount_0f7a4_22 : decode cJ6_bitCount_0f7a4 22 = .ok (.iadd, 1) := by decide +kernel
theorem dJ6_bitCount_0f7a4_23 : decode cJ6_bitCount_0f7a4 23 = .ok (.istore_n 0, 1) := by decide +kernel
theorem dJ6_bitCount_0f7a4_24 : decode cJ6_bitCount_0f7a4 24 = .ok (.iload_n 0, 1) := by decide +kernel
theorem dJ6_bitCount_0f7a4_25 : decode cJ6_bitCount_0f7a4 25 = .ok (.iload_n 0, 1) := by decide +kernel
theorem dJ6_bitCount_0f7a4_26 : decode cJ6_bitCount_0f7a4 26 = .ok (.iconst 4, 1) := by decide +kernel
theorem dJ6_bitCount_0f7a4_27 : decode cJ6_bitCount_0f7a4 27 = .ok (.iushr, 1) := by decide +kernel
theorem dJ6_bitCount_0f7a4_28 : decode cJ6_bitCount_0f7a4 28 = .ok (.iadd, 1) := by decide +kernel
theorem dJ6_bitCount_0f7a4_29 : decode cJ6_bitCount_0f7a4 29 = .ok (.ldc_w 267, 3) := by decide +kernel
theorem dJ6_bitCount_0f7a4_32 : decode cJ6_bitCount_0f7a4 32 = .ok (.iand, 1) := by decide +kernel
theorem dJ6_bitCount_0f7a4_33 : decode cJ6_bitCount_0f7a4 33 = .ok (.istore_n 0, 1) := by decide +kernel
theorem dJ6_bitCount_0f7a4_34 : decode cJ6_bitCount_0f7a4 34 = .ok (.iload_n 0, 1) := by decide +kernel
theorem dJ6_bitCount_0f7a4_35 : decode cJ6_bitCount_0f7a4 35 = .ok (.iload_n 0, 1) := by decide +kernel
theorem dJ6_bitCount_0f7a4_36 : decode cJ6_bitCount_0f7a4 36 = .ok (.bipush 8, 2) := by decide +kernel
theorem dJ6_bitCount_0f7a4_38 : decode cJ6_bitCount_0f7a4 38 = .ok (.iushr, 1) := by decide +kernel
theorem dJ6_bitCount_0f7a4_39 : decode cJ6_bitCount_0f7a4 39 = .ok (.iadd, 1) := by decide +kernel
theorem dJ6_bitCount_0f7a4_40 : decode cJ6_bitCount_0f7a4 40 = .ok (.istore_n 0, 1) := by decide +kernel
theorem dJ6_bitCount_0f7a4_41 : decode cJ6_bitCount_0f7a4 41 = .ok (.iload_n 0, 1) := by decide +kernel
theorem dJ6_bitCount_0f7a4_42 : decode cJ6_bitCount_0f7a4 42 = .ok (.iload_n 0, 1) := by decide +kernel
theorem dJ6_bitCount_0f7a4_43 : decode cJ6_bitCount_0f7a4 43 = .ok (.bipush 16, 2) := by decide +kernel
theorem dJ6_bitCount_0f7a4_45 : decode cJ6_bitCount_0f7a4 45 = .ok (.iushr, 1) := by decide +kernel
theorem dJ6_bitCount_0f7a4_46 : decode cJ6_bitCount_0f7a4 46 = .ok (.iadd, 1) := by decide +kernel
theorem dJ6_bitCount_0f7a4_47 : decode cJ6_bitCount_0f7a4 47 = .ok (.istore_n 0, 1) := by decide +kernel
theorem dJ6_bitCount_0f7a4_48 : decode cJ6_bitCount_0f7a4 48 = .ok (.iload_n 0, 1) := by decide +kernel
theorem dJ6_bitCount_0f7a4_49 : decode cJ6_bitCount_0f7a4 49 = .ok (.bipush 63, 2) := by decide +kernel
theorem dJ6_bitCount_0f7a4_51 : decode cJ6_bitCount_0f7a4 51 = .ok (.iand, 1) := by decide +kernel
theorem dJ6_bitCount_0f7a4_52 : decode cJ6_bitCount_0f7a4 52 = .ok (.ireturn, 1) := by decide +kernel
theorem dJ9_max_7cf53_0 : decode cJ9_max_7cf53 0 = .ok (.iload_n 0, 1) := by decide +kernel
theorem dJ9_max_7cf53_1 : decode cJ9_max_7cf53 1 = .ok (.iload_n 1, 1) := by decide +kernel
theorem dJ9_max_7cf53_2 : decode cJ9_max_7cf53 2 = .ok (.if_icmp .lt 7, 3) := by decide +kernel
theorem dJ9_max_7cf53_5 : decode cJ9_max_7cf53 5 = .ok (.iload_n 0, 1) := by decide +kernel
theorem dJ9_max_7cf53_6 : decode cJ9_max_7cf53 6 = .ok (.goto 4, 3) := by decide +kernel
theorem dJ9_max_7cf53_9 : decode cJ9_max_7cf53 9 = .ok (.iload_n 1, 1) := by decide +kernel
theorem dJ9_max_7cf53_10 : decode cJ9_max_7cf53 10 = .ok (.ireturn, 1) := by decide +kernel
theorem dJ9_min_7cf53_0 : decode cJ9_min_7cf53 0 = .ok (.iload_n 0, 1) := by decide +kernel
theorem dJ9_min_7cf53_1 : decode cJ9_min_7cf53 1 = .ok (.iload_n 1, 1) := by decide +kernel
theorem dJ9_min_7cf53_2 : decode cJ9_min_7cf53 2 = .ok (.if_icmp .gt 7, 3) := by decide +kernel
theorem dJ9_min_7cf53_5 : decode cJ9_min_7cf53 5 = .ok (.iload_n 0, 1) := by decide +kernel
theorem dJ9_min_7cf53_6 : decode cJ9_min_7cf53 6 = .ok (.goto 4, 3) := by decide +kernel
theorem dJ9_min_7cf53_9 : decode cJ9_min_7cf53 9 = .ok (.iload_n 1, 1) := by decide +kernel
theorem dJ9_min_7cf53_10 : decode cJ9_min_7cf53 10 = .ok (.ireturn, 1) := by decide +kernel
theorem dJ7_fill_53178_0 : decode cJ7_fill_53178 0 = .ok (.iconst 0, 1) := by decide +kernel
theorem dJ7_fill_53178_1 : decode cJ7_fill_53178 1 = .ok (.istore_n 2, 1) := by decide +kernel
theorem dJ7_fill_53178_2 : decode cJ7_fill_53178 2 = .ok (.aload_n 0, 1) := by decide +kernel
theorem dJ7_fill_53178_3 : decode cJ7_fill_53178 3 = .ok (.arraylength, 1) := by decide +kernel
theorem dJ7_fill_53178_4 : decode cJ7_fill_53178 4 = .ok (.istore_n 3, 1) := by decide +kernel
theorem dJ7_fill_53178_5 : decode cJ7_fill_53178 5 = .ok (.iload_n 2, 1) := by decide +kernel
theorem dJ7_fill_53178_6 : decode cJ7_fill_53178 6 = .ok (.iload_n 3, 1) := by decide +kernel
theorem dJ7_fill_53178_7 : decode cJ7_fill_53178 7 = .ok (.if_icmp .ge 13, 3) := by decide +kernel
theorem dJ7_fill_53178_10 : decode cJ7_fill_53178 10 = .ok (.aload_n 0, 1) := by decide +kernel
theorem dJ7_fill_53178_11 : decode cJ7_fill_53178 11 = .ok (.iload_n 2, 1) := by decide +kernel
theorem dJ7_fill_53178_12 : decode cJ7_fill_53178 12 = .ok (.iload_n 1, 1) := by decide +kernel
theorem dJ7_fill_53178_13 : decode cJ7_fill_53178 13 = .ok (.iastore, 1) := by decide +kernel
theorem dJ7_fill_53178_14 : decode cJ7_fill_53178 14 = .ok (.iinc 2 1, 3) := by decide +kernel
theorem dJ7_fill_53178_17 : decode cJ7_fill_53178 17 = .ok (.goto (-12), 3) := by decide +kernel
theorem dJ7_fill_53178_20 : decode cJ7_fill_53178 20 = .ok (.return_, 1) := by decide +kernel
theorem dL_law_0 : decode cL_law 0 = .ok (.new 7, 3) := by decide +kernel
theorem dL_law_3 : decode cL_law 3 = .ok (.dup, 1) := by decide +kernel
theorem dL_law_4 : decode cL_law 4 = .ok (.invokespecial 9, 3) := by decide +kernel
theorem dL_law_7 : decode cL_law 7 = .ok (.astore_n 1, 1) := by decide +kernel
theorem dL_law_8 : decode cL_law 8 = .ok (.new 10, 3) := by decide +kernel
theorem dL_law_11 : decode cL_law 11 = .ok (.dup, 1) := by decide +kernel
theorem dL_law_12 : decode cL_law 12 = .ok (.invokespecial 12, 3) := by decide +kernel
theorem dL_law_15 : decode cL_law 15 = .ok (.astore_n 2, 1) := by decide +kernel
theorem dL_law_16 : decode cL_law 16 = .ok (.iconst 0, 1) := by decide +kernel
theorem dL_law_17 : decode cL_law 17 = .ok (.istore_n 3, 1) := by decide +kernel
theorem dL_law_18 : decode cL_law 18 = .ok (.iload_n 3, 1) := by decide +kernel
theorem dL_law_19 : decode cL_law 19 = .ok (.aload_n 0, 1) := by decide +kernel
theorem dL_law_20 : decode cL_law 20 = .ok (.arraylength, 1) := by decide +kernel
theorem dL_law_21 : decode cL_law 21 = .ok (.bipush 6, 2) := by decide +kernel
theorem dL_law_23 : decode cL_law 23 = .ok (.isub, 1) := by decide +kernel
theorem dL_law_24 : decode cL_law 24 = .ok (.if_icmp .gt 908, 3) := by decide +kernel
theorem dL_law_27 : decode cL_law 27 = .ok (.aload_n 0, 1) := by decide +kernel
theorem dL_law_28 : decode cL_law 28 = .ok (.iload_n 3, 1) := by decide +kernel
theorem dL_law_29 : decode cL_law 29 = .ok (.iaload, 1) := by decide +kernel
theorem dL_law_30 : decode cL_law 30 = .ok (.bipush 31, 2) := by decide +kernel
theorem dL_law_32 : decode cL_law 32 = .ok (.iand, 1) := by decide +kernel
theorem dL_law_33 : decode cL_law 33 = .ok (.tableswitch 893 0 24 #[115, 178, 191, 204, 217, 240, 273, 306, 339, 372, 405, 438, 451, 464, 507, 540, 583, 606, 639, 672, 752, 811, 824, 847, 870], 115) := by decide +kernel
theorem dL_law_148 : decode cL_law 148 = .ok (.aload_n 1, 1) := by decide +kernel
theorem dL_law_149 : decode cL_law 149 = .ok (.aload_n 0, 1) := by decide +kernel
theorem dL_law_150 : decode cL_law 150 = .ok (.iload_n 3, 1) := by decide +kernel
theorem dL_law_151 : decode cL_law 151 = .ok (.iconst 1, 1) := by decide +kernel
theorem dL_law_152 : decode cL_law 152 = .ok (.iadd, 1) := by decide +kernel
theorem dL_law_153 : decode cL_law 153 = .ok (.iaload, 1) := by decide +kernel
theorem dL_law_154 : decode cL_law 154 = .ok (.aload_n 0, 1) := by decide +kernel
theorem dL_law_155 : decode cL_law 155 = .ok (.iload_n 3, 1) := by decide +kernel
theorem dL_law_156 : decode cL_law 156 = .ok (.iconst 2, 1) := by decide +kernel
theorem dL_law_157 : decode cL_law 157 = .ok (.iadd, 1) := by decide +kernel
theorem dL_law_158 : decode cL_law 158 = .ok (.iaload, 1) := by decide +kernel
theorem dL_law_159 : decode cL_law 159 = .ok (.i2l, 1) := by decide +kernel
theorem dL_law_160 : decode cL_law 160 = .ok (.bipush 32, 2) := by decide +kernel
theorem dL_law_162 : decode cL_law 162 = .ok (.lshl, 1) := by decide +kernel
theorem dL_law_163 : decode cL_law 163 = .ok (.aload_n 0, 1) := by decide +kernel
theorem dL_law_164 : decode cL_law 164 = .ok (.iload_n 3, 1) := by decide +kernel
theorem dL_law_165 : decode cL_law 165 = .ok (.iconst 3, 1) := by decide +kernel
theorem dL_law_166 : decode cL_law 166 = .ok (.iadd, 1) := by decide +kernel
theorem dL_law_167 : decode cL_law 167 = .ok (.iaload, 1) := by decide +kernel
theorem dL_law_168 : decode cL_law 168 = .ok (.i2l, 1) := by decide +kernel
theorem dL_law_169 : decode cL_law 169 = .ok (.ldc2_w 13, 3) := by decide +kernel
theorem dL_law_172 : decode cL_law 172 = .ok (.land, 1) := by decide +kernel
theorem dL_law_173 : decode cL_law 173 = .ok (.lor, 1) := by decide +kernel
theorem dL_law_174 : decode cL_law 174 = .ok (.invokevirtual 15, 3) := by decide +kernel
theorem dL_law_177 : decode cL_law 177 = .ok (.aload_n 2, 1) := by decide +kernel
theorem dL_law_178 : decode cL_law 178 = .ok (.aload_n 0, 1) := by decide +kernel
theorem dL_law_179 : decode cL_law 179 = .ok (.iload_n 3, 1) := by decide +kernel
theorem dL_law_180 : decode cL_law 180 = .ok (.iconst 1, 1) := by decide +kernel
theorem dL_law_181 : decode cL_law 181 = .ok (.iadd, 1) := by decide +kernel
theorem dL_law_182 : decode cL_law 182 = .ok (.iaload, 1) := by decide +kernel
theorem dL_law_183 : decode cL_law 183 = .ok (.aload_n 0, 1) := by decide +kernel
theorem dL_law_184 : decode cL_law 184 = .ok (.iload_n 3, 1) := by decide +kernel
theorem dL_law_185 : decode cL_law 185 = .ok (.iconst 2, 1) := by decide +kernel
theorem dL_law_186 : decode cL_law 186 = .ok (.iadd, 1) := by decide +kernel
theorem dL_law_187 : decode cL_law 187 = .ok (.iaload, 1) := by decide +kernel
theorem dL_law_188 : decode cL_law 188 = .ok (.i2l, 1) := by decide +kernel
theorem dL_law_189 : decode cL_law 189 = .ok (.bipush 32, 2) := by decide +kernel
theorem dL_law_191 : decode cL_law 191 = .ok (.lshl, 1) := by decide +kernel
theorem dL_law_192 : decode cL_law 192 = .ok (.aload_n 0, 1) := by decide +kernel
theorem dL_law_193 : decode cL_law 193 = .ok (.iload_n 3, 1) := by decide +kernel
theorem dL_law_194 : decode cL_law 194 = .ok (.iconst 3, 1) := by decide +kernel
theorem dL_law_195 : decode cL_law 195 = .ok (.iadd, 1) := by decide +kernel
theorem dL_law_196 : decode cL_law 196 = .ok (.iaload, 1) := by decide +kernel
theorem dL_law_197 : decode cL_law 197 = .ok (.i2l, 1) := by decide +kernel
theorem dL_law_198 : decode cL_law 198 = .ok (.ldc2_w 13, 3) := by decide +kernel
theorem dL_law_201 : decode cL_law 201 = .ok (.land, 1) := by decide +kernel
theorem dL_law_202 : decode cL_law 202 = .ok (.lor, 1) := by decide +kernel
theorem dL_law_203 : decode cL_law 203 = .ok (.invokevirtual 19, 3) := by decide +kernel
theorem dL_law_206 : decode cL_law 206 = .ok (.if_icmp .eq 720, 3) := by decide +kernel
theorem dL_law_209 : decode cL_law 209 = .ok (.iconst 0, 1) := by decide +kernel
theorem dL_law_210 : decode cL_law 210 = .ok (.ireturn, 1) := by decide +kernel
theorem dL_law_211 : decode cL_law 211 = .ok (.aload_n 1, 1) := by decide +kernel
theorem dL_law_212 : decode cL_law 212 = .ok (.invokevirtual 20, 3) := by decide +kernel
theorem dL_law_215 : decode cL_law 215 = .ok (.aload_n 2, 1) := by decide +kernel
theorem dL_law_216 : decode cL_law 216 = .ok (.invokevirtual 24, 3) := by decide +kernel
theorem dL_law_219 : decode cL_law 219 = .ok (.if_icmp .eq 707, 3) := by decide +kernel
theorem dL_law_222 : decode cL_law 222 = .ok (.iconst 0, 1) := by decide +kernel
theorem dL_law_223 : decode cL_law 223 = .ok (.ireturn, 1) := by decide +kernel
theorem dL_law_224 : decode cL_law 224 = .ok (.aload_n 1, 1) := by decide +kernel
theorem dL_law_225 : decode cL_law 225 = .ok (.invokevirtual 25, 3) := by decide +kernel
theorem dL_law_228 : decode cL_law 228 = .ok (.aload_n 2, 1) := by decide +kernel
theorem dL_law_229 : decode cL_law 229 = .ok (.invokevirtual 28, 3) := by decide +kernel
theorem dL_law_232 : decode cL_law 232 = .ok (.if_icmp .eq 694, 3) := by decide +kernel
theorem dL_law_235 : decode cL_law 235 = .ok (.iconst 0, 1) := by decide +kernel
theorem dL_law_236 : decode cL_law 236 = .ok (.ireturn, 1) := by decide +kernel
theorem dL_law_237 : decode cL_law 237 = .ok (.aload_n 1, 1) := by decide +kernel
theorem dL_law_238 : decode cL_law 238 = .ok (.invokevirtual 29, 3) := by decide +kernel
theorem dL_law_241 : decode cL_law 241 = .ok (.aload_n 2, 1) := by decide +kernel
theorem dL_law_242 : decode cL_law 242 = .ok (.invokevirtual 32, 3) := by decide +kernel
theorem dL_law_245 : decode cL_law 245 = .ok (.if_icmp .eq 681, 3) := by decide +kernel
theorem dL_law_248 : decode cL_law 248 = .ok (.iconst 0, 1) := by decide +kernel
theorem dL_law_249 : decode cL_law 249 = .ok (.ireturn, 1) := by decide +kernel
theorem dL_law_250 : decode cL_law 250 = .ok (.aload_n 1, 1) := by decide +kernel
theorem dL_law_251 : decode cL_law 251 = .ok (.aload_n 0, 1) := by decide +kernel
theorem dL_law_252 : decode cL_law 252 = .ok (.iload_n 3, 1) := by decide +kernel
theorem dL_law_253 : decode cL_law 253 = .ok (.iconst 1, 1) := by decide +kernel
theorem dL_law_254 : decode cL_law 254 = .ok (.iadd, 1) := by decide +kernel
theorem dL_law_255 : decode cL_law 255 = .ok (.iaload, 1) := by decide +kernel
theorem dL_law_256 : decode cL_law 256 = .ok (.invokevirtual 33, 3) := by decide +kernel
theorem dL_law_259 : decode cL_law 259 = .ok (.aload_n 2, 1) := by decide +kernel
theorem dL_law_260 : decode cL_law 260 = .ok (.aload_n 0, 1) := by decide +kernel
theorem dL_law_261 : decode cL_law 261 = .ok (.iload_n 3, 1) := by decide +kernel
theorem dL_law_262 : decode cL_law 262 = .ok (.iconst 1, 1) := by decide +kernel
theorem dL_law_263 : decode cL_law 263 = .ok (.iadd, 1) := by decide +kernel
theorem dL_law_264 : decode cL_law 264 = .ok (.iaload, 1) := by decide +kernel
theorem dL_law_265 : decode cL_law 265 = .ok (.invokevirtual 37, 3) := by decide +kernel
theorem dL_law_268 : decode cL_law 268 = .ok (.if_icmp .eq 658, 3) := by decide +kernel
theorem dL_law_271 : decode cL_law 271 = .ok (.iconst 0, 1) := by decide +kernel
theorem dL_law_272 : decode cL_law 272 = .ok (.ireturn, 1) := by decide +kernel
theorem dL_law_273 : decode cL_law 273 = .ok (.aload_n 1, 1) := by decide +kernel
theorem dL_law_274 : decode cL_law 274 = .ok (.aload_n 0, 1) := by decide +kernel
theorem dL_law_275 : decode cL_law 275 = .ok (.iload_n 3, 1) := by decide +kernel
theorem dL_law_276 : decode cL_law 276 = .ok (.iconst 1, 1) := by decide +kernel
theorem dL_law_277 : decode cL_law 277 = .ok (.iadd, 1) := by decide +kernel
theorem dL_law_278 : decode cL_law 278 = .ok (.iaload, 1) := by decide +kernel
theorem dL_law_279 : decode cL_law 279 = .ok (.aload_n 0, 1) := by decide +kernel
theorem dL_law_280 : decode cL_law 280 = .ok (.iload_n 3, 1) := by decide +kernel
theorem dL_law_281 : decode cL_law 281 = .ok (.iconst 2, 1) := by decide +kernel
theorem dL_law_282 : decode cL_law 282 = .ok (.iadd, 1) := by decide +kernel
theorem dL_law_283 : decode cL_law 283 = .ok (.iaload, 1) := by decide +kernel
theorem dL_law_284 : decode cL_law 284 = .ok (.invokevirtual 38, 3) := by decide +kernel
theorem dL_law_287 : decode cL_law 287 = .ok (.aload_n 2, 1) := by decide +kernel
theorem dL_law_288 : decode cL_law 288 = .ok (.aload_n 0, 1) := by decide +kernel
theorem dL_law_289 : decode cL_law 289 = .ok (.iload_n 3, 1) := by decide +kernel
theorem dL_law_290 : decode cL_law 290 = .ok (.iconst 1, 1) := by decide +kernel
theorem dL_law_291 : decode cL_law 291 = .ok (.iadd, 1) := by decide +kernel
theorem dL_law_292 : decode cL_law 292 = .ok (.iaload, 1) := by decide +kernel
theorem dL_law_293 : decode cL_law 293 = .ok (.aload_n 0, 1) := by decide +kernel
theorem dL_law_294 : decode cL_law 294 = .ok (.iload_n 3, 1) := by decide +kernel
theorem dL_law_295 : decode cL_law 295 = .ok (.iconst 2, 1) := by decide +kernel
theorem dL_law_296 : decode cL_law 296 = .ok (.iadd, 1) := by decide +kernel
theorem dL_law_297 : decode cL_law 297 = .ok (.iaload, 1) := by decide +kernel
theorem dL_law_298 : decode cL_law 298 = .ok (.invokevirtual 42, 3) := by decide +kernel
theorem dL_law_301 : decode cL_law 301 = .ok (.if_icmp .eq 625, 3) := by decide +kernel
theorem dL_law_304 : decode cL_law 304 = .ok (.iconst 0, 1) := by decide +kernel
theorem dL_law_305 : decode cL_law 305 = .ok (.ireturn, 1) := by decide +kernel
theorem dL_law_306 : decode cL_law 306 = .ok (.aload_n 1, 1) := by decide +kernel
theorem dL_law_307 : decode cL_law 307 = .ok (.aload_n 0, 1) := by decide +kernel
theorem dL_law_308 : decode cL_law 308 = .ok (.iload_n 3, 1) := by decide +kernel
theorem dL_law_309 : decode cL_law 309 = .ok (.iconst 1, 1) := by decide +kernel
theorem dL_law_310 : decode cL_law 310 = .ok (.iadd, 1) := by decide +kernel
theorem dL_law_311 : decode cL_law 311 = .ok (.iaload, 1) := by decide +kernel
theorem dL_law_312 : decode cL_law 312 = .ok (.aload_n 0, 1) := by decide +kernel
theorem dL_law_313 : decode cL_law 313 = .ok (.iload_n 3, 1) := by decide +kernel
theorem dL_law_314 : decode cL_law 314 = .ok (.iconst 2, 1) := by decide +kernel
theorem dL_law_315 : decode cL_law 315 = .ok (.iadd, 1) := by decide +kernel
theorem dL_law_316 : decode cL_law 316 = .ok (.iaload, 1) := by decide +kernel
theorem dL_law_317 : decode cL_law 317 = .ok (.invokevirtual 43, 3) := by decide +kernel
theorem dL_law_320 : decode cL_law 320 = .ok (.aload_n 2, 1) := by decide +kernel
theorem dL_law_321 : decode cL_law 321 = .ok (.aload_n 0, 1) := by decide +kernel
theorem dL_law_322 : decode cL_law 322 = .ok (.iload_n 3, 1) := by decide +kernel
theorem dL_law_323 : decode cL_law 323 = .ok (.iconst 1, 1) := by decide +kernel
theorem dL_law_324 : decode cL_law 324 = .ok (.iadd, 1) := by decide +kernel
theorem dL_law_325 : decode cL_law 325 = .ok (.iaload, 1) := by decide +kernel
theorem dL_law_326 : decode cL_law 326 = .ok (.aload_n 0, 1) := by decide +kernel
theorem dL_law_327 : decode cL_law 327 = .ok (.iload_n 3, 1) := by decide +kernel
theorem dL_law_328 : decode cL_law 328 = .ok (.iconst 2, 1) := by decide +kernel
theorem dL_law_329 : decode cL_law 329 = .ok (.iadd, 1) := by decide +kernel
theorem dL_law_330 : decode cL_law 330 = .ok (.iaload, 1) := by decide +kernel
theorem dL_law_331 : decode cL_law 331 = .ok (.invokevirtual 46, 3) := by decide +kernel
theorem dL_law_334 : decode cL_law 334 = .ok (.if_icmp .eq 592, 3) := by decide +kernel
theorem dL_law_337 : decode cL_law 337 = .ok (.iconst 0, 1) := by decide +kernel
theorem dL_law_338 : decode cL_law 338 = .ok (.ireturn, 1) := by decide +kernel
theorem dL_law_339 : decode cL_law 339 = .ok (.aload_n 1, 1) := by decide +kernel
theorem dL_law_340 : decode cL_law 340 = .ok (.aload_n 0, 1) := by decide +kernel
theorem dL_law_341 : decode cL_law 341 = .ok (.iload_n 3, 1) := by decide +kernel
theorem dL_law_342 : decode cL_law 342 = .ok (.iconst 1, 1) := by decide +kernel
theorem dL_law_343 : decode cL_law 343 = .ok (.iadd, 1) := by decide +kernel
theorem dL_law_344 : decode cL_law 344 = .ok (.iaload, 1) := by decide +kernel
theorem dL_law_345 : decode cL_law 345 = .ok (.aload_n 0, 1) := by decide +kernel
theorem dL_law_346 : decode cL_law 346 = .ok (.iload_n 3, 1) := by decide +kernel
theorem dL_law_347 : decode cL_law 347 = .ok (.iconst 2, 1) := by decide +kernel
theorem dL_law_348 : decode cL_law 348 = .ok (.iadd, 1) := by decide +kernel
theorem dL_law_349 : decode cL_law 349 = .ok (.iaload, 1) := by decide +kernel
theorem dL_law_350 : decode cL_law 350 = .ok (.invokevirtual 47, 3) := by decide +kernel
theorem dL_law_353 : decode cL_law 353 = .ok (.aload_n 2, 1) := by decide +kernel
theorem dL_law_354 : decode cL_law 354 = .ok (.aload_n 0, 1) := by decide +kernel
theorem dL_law_355 : decode cL_law 355 = .ok (.iload_n 3, 1) := by decide +kernel
theorem dL_law_356 : decode cL_law 356 = .ok (.iconst 1, 1) := by decide +kernel
theorem dL_law_357 : decode cL_law 357 = .ok (.iadd, 1) := by decide +kernel
theorem dL_law_358 : decode cL_law 358 = .ok (.iaload, 1) := by decide +kernel
theorem dL_law_359 : decode cL_law 359 = .ok (.aload_n 0, 1) := by decide +kernel
theorem dL_law_360 : decode cL_law 360 = .ok (.iload_n 3, 1) := by decide +kernel
theorem dL_law_361 : decode cL_law 361 = .ok (.iconst 2, 1) := by decide +kernel
theorem dL_law_362 : decode cL_law 362 = .ok (.iadd, 1) := by decide +kernel
theorem dL_law_363 : decode cL_law 363 = .ok (.iaload, 1) := by decide +kernel
theorem dL_law_364 : decode cL_law 364 = .ok (.invokevirtual 50, 3) := by decide +kernel
theorem dL_law_367 : decode cL_law 367 = .ok (.if_icmp .eq 559, 3) := by decide +kernel
theorem dL_law_370 : decode cL_law 370 = .ok (.iconst 0, 1) := by decide +kernel
theorem dL_law_371 : decode cL_law 371 = .ok (.ireturn, 1) := by decide +kernel
theorem dL_law_372 : decode cL_law 372 = .ok (.aload_n 1, 1) := by decide +kernel
theorem dL_law_373 : decode cL_law 373 = .ok (.aload_n 0, 1) := by decide +kernel
theorem dL_law_374 : decode cL_law 374 = .ok (.iload_n 3, 1) := by decide +kernel
theorem dL_law_375 : decode cL_law 375 = .ok (.iconst 1, 1) := by decide +kernel
theorem dL_law_376 : decode cL_law 376 = .ok (.iadd, 1) := by decide +kernel
theorem dL_law_377 : decode cL_law 377 = .ok (.iaload, 1) := by decide +kernel
theorem dL_law_378 : decode cL_law 378 = .ok (.aload_n 0, 1) := by decide +kernel
theorem dL_law_379 : decode cL_law 379 = .ok (.iload_n 3, 1) := by decide +kernel
theorem dL_law_380 : decode cL_law 380 = .ok (.iconst 2, 1) := by decide +kernel
theorem dL_law_381 : decode cL_law 381 = .ok (.iadd, 1) := by decide +kernel
theorem dL_law_382 : decode cL_law 382 = .ok (.iaload, 1) := by decide +kernel
theorem dL_law_383 : decode cL_law 383 = .ok (.invokevirtual 51, 3) := by decide +kernel
theorem dL_law_386 : decode cL_law 386 = .ok (.aload_n 2, 1) := by decide +kernel
theorem dL_law_387 : decode cL_law 387 = .ok (.aload_n 0, 1) := by decide +kernel
theorem dL_law_388 : decode cL_law 388 = .ok (.iload_n 3, 1) := by decide +kernel
theorem dL_law_389 : decode cL_law 389 = .ok (.iconst 1, 1) := by decide +kernel
theorem dL_law_390 : decode cL_law 390 = .ok (.iadd, 1) := by decide +kernel
theorem dL_law_391 : decode cL_law 391 = .ok (.iaload, 1) := by decide +kernel
theorem dL_law_392 : decode cL_law 392 = .ok (.aload_n 0, 1) := by decide +kernel
theorem dL_law_393 : decode cL_law 393 = .ok (.iload_n 3, 1) := by decide +kernel
theorem dL_law_394 : decode cL_law 394 = .ok (.iconst 2, 1) := by decide +kernel
theorem dL_law_395 : decode cL_law 395 = .ok (.iadd, 1) := by decide +kernel
theorem dL_law_396 : decode cL_law 396 = .ok (.iaload, 1) := by decide +kernel
theorem dL_law_397 : decode cL_law 397 = .ok (.invokevirtual 54, 3) := by decide +kernel
theorem dL_law_400 : decode cL_law 400 = .ok (.if_icmp .eq 526, 3) := by decide +kernel
theorem dL_law_403 : decode cL_law 403 = .ok (.iconst 0, 1) := by decide +kernel
theorem dL_law_404 : decode cL_law 404 = .ok (.ireturn, 1) := by decide +kernel
theorem dL_law_405 : decode cL_law 405 = .ok (.aload_n 1, 1) := by decide +kernel
theorem dL_law_406 : decode cL_law 406 = .ok (.aload_n 0, 1) := by decide +kernel
theorem dL_law_407 : decode cL_law 407 = .ok (.iload_n 3, 1) := by decide +kernel
theorem dL_law_408 : decode cL_law 408 = .ok (.iconst 1, 1) := by decide +kernel
theorem dL_law_409 : decode cL_law 409 = .ok (.iadd, 1) := by decide +kernel
theorem dL_law_410 : decode cL_law 410 = .ok (.iaload, 1) := by decide +kernel
theorem dL_law_411 : decode cL_law 411 = .ok (.aload_n 0, 1) := by decide +kernel
theorem dL_law_412 : decode cL_law 412 = .ok (.iload_n 3, 1) := by decide +kernel
theorem dL_law_413 : decode cL_law 413 = .ok (.iconst 2, 1) := by decide +kernel
theorem dL_law_414 : decode cL_law 414 = .ok (.iadd, 1) := by decide +kernel
theorem dL_law_415 : decode cL_law 415 = .ok (.iaload, 1) := by decide +kernel
theorem dL_law_416 : decode cL_law 416 = .ok (.invokevirtual 55, 3) := by decide +kernel
theorem dL_law_419 : decode cL_law 419 = .ok (.aload_n 2, 1) := by decide +kernel
theorem dL_law_420 : decode cL_law 420 = .ok (.aload_n 0, 1) := by decide +kernel
theorem dL_law_421 : decode cL_law 421 = .ok (.iload_n 3, 1) := by decide +kernel
theorem dL_law_422 : decode cL_law 422 = .ok (.iconst 1, 1) := by decide +kernel
theorem dL_law_423 : decode cL_law 423 = .ok (.iadd, 1) := by decide +kernel
theorem dL_law_424 : decode cL_law 424 = .ok (.iaload, 1) := by decide +kernel
theorem dL_law_425 : decode cL_law 425 = .ok (.aload_n 0, 1) := by decide +kernel
theorem dL_law_426 : decode cL_law 426 = .ok (.iload_n 3, 1) := by decide +kernel
theorem dL_law_427 : decode cL_law 427 = .ok (.iconst 2, 1) := by decide +kernel
theorem dL_law_428 : decode cL_law 428 = .ok (.iadd, 1) := by decide +kernel
theorem dL_law_429 : decode cL_law 429 = .ok (.iaload, 1) := by decide +kernel
theorem dL_law_430 : decode cL_law 430 = .ok (.invokevirtual 58, 3) := by decide +kernel
theorem dL_law_433 : decode cL_law 433 = .ok (.if_icmp .eq 493, 3) := by decide +kernel
theorem dL_law_436 : decode cL_law 436 = .ok (.iconst 0, 1) := by decide +kernel
theorem dL_law_437 : decode cL_law 437 = .ok (.ireturn, 1) := by decide +kernel
theorem dL_law_438 : decode cL_law 438 = .ok (.aload_n 1, 1) := by decide +kernel
theorem dL_law_439 : decode cL_law 439 = .ok (.aload_n 0, 1) := by decide +kernel
theorem dL_law_440 : decode cL_law 440 = .ok (.iload_n 3, 1) := by decide +kernel
theorem dL_law_441 : decode cL_law 441 = .ok (.iconst 1, 1) := by decide +kernel
theorem dL_law_442 : decode cL_law 442 = .ok (.iadd, 1) := by decide +kernel
theorem dL_law_443 : decode cL_law 443 = .ok (.iaload, 1) := by decide +kernel
theorem dL_law_444 : decode cL_law 444 = .ok (.aload_n 0, 1) := by decide +kernel
theorem dL_law_445 : decode cL_law 445 = .ok (.iload_n 3, 1) := by decide +kernel
theorem dL_law_446 : decode cL_law 446 = .ok (.iconst 2, 1) := by decide +kernel
theorem dL_law_447 : decode cL_law 447 = .ok (.iadd, 1) := by decide +kernel
theorem dL_law_448 : decode cL_law 448 = .ok (.iaload, 1) := by decide +kernel
theorem dL_law_449 : decode cL_law 449 = .ok (.invokevirtual 59, 3) := by decide +kernel
theorem dL_law_452 : decode cL_law 452 = .ok (.aload_n 2, 1) := by decide +kernel
theorem dL_law_453 : decode cL_law 453 = .ok (.aload_n 0, 1) := by decide +kernel
theorem dL_law_454 : decode cL_law 454 = .ok (.iload_n 3, 1) := by decide +kernel
theorem dL_law_455 : decode cL_law 455 = .ok (.iconst 1, 1) := by decide +kernel
theorem dL_law_456 : decode cL_law 456 = .ok (.iadd, 1) := by decide +kernel
theorem dL_law_457 : decode cL_law 457 = .ok (.iaload, 1) := by decide +kernel
theorem dL_law_458 : decode cL_law 458 = .ok (.aload_n 0, 1) := by decide +kernel
theorem dL_law_459 : decode cL_law 459 = .ok (.iload_n 3, 1) := by decide +kernel
theorem dL_law_460 : decode cL_law 460 = .ok (.iconst 2, 1) := by decide +kernel
theorem dL_law_461 : decode cL_law 461 = .ok (.iadd, 1) := by decide +kernel
theorem dL_law_462 : decode cL_law 462 = .ok (.iaload, 1) := by decide +kernel
theorem dL_law_463 : decode cL_law 463 = .ok (.invokevirtual 62, 3) := by decide +kernel
theorem dL_law_466 : decode cL_law 466 = .ok (.if_icmp .eq 460, 3) := by decide +kernel
theorem dL_law_469 : decode cL_law 469 = .ok (.iconst 0, 1) := by decide +kernel
theorem dL_law_470 : decode cL_law 470 = .ok (.ireturn, 1) := by decide +kernel
theorem dL_law_471 : decode cL_law 471 = .ok (.aload_n 1, 1) := by decide +kernel
theorem dL_law_472 : decode cL_law 472 = .ok (.invokevirtual 63, 3) := by decide +kernel
theorem dL_law_475 : decode cL_law 475 = .ok (.aload_n 2, 1) := by decide +kernel
theorem dL_law_476 : decode cL_law 476 = .ok (.invokevirtual 66, 3) := by decide +kernel
theorem dL_law_479 : decode cL_law 479 = .ok (.if_icmp .eq 447, 3) := by decide +kernel
theorem dL_law_482 : decode cL_law 482 = .ok (.iconst 0, 1) := by decide +kernel
theorem dL_law_483 : decode cL_law 483 = .ok (.ireturn, 1) := by decide +kernel
theorem dL_law_484 : decode cL_law 484 = .ok (.aload_n 1, 1) := by decide +kernel
theorem dL_law_485 : decode cL_law 485 = .ok (.invokevirtual 67, 3) := by decide +kernel
theorem dL_law_488 : decode cL_law 488 = .ok (.aload_n 2, 1) := by decide +kernel
theorem dL_law_489 : decode cL_law 489 = .ok (.invokevirtual 70, 3) := by decide +kernel
theorem dL_law_492 : decode cL_law 492 = .ok (.if_icmp .eq 434, 3) := by decide +kernel
theorem dL_law_495 : decode cL_law 495 = .ok (.iconst 0, 1) := by decide +kernel
theorem dL_law_496 : decode cL_law 496 = .ok (.ireturn, 1) := by decide +kernel
theorem dL_law_497 : decode cL_law 497 = .ok (.aload_n 1, 1) := by decide +kernel
theorem dL_law_498 : decode cL_law 498 = .ok (.aload_n 0, 1) := by decide +kernel
theorem dL_law_499 : decode cL_law 499 = .ok (.iload_n 3, 1) := by decide +kernel
theorem dL_law_500 : decode cL_law 500 = .ok (.iconst 1, 1) := by decide +kernel
theorem dL_law_501 : decode cL_law 501 = .ok (.iadd, 1) := by decide +kernel
theorem dL_law_502 : decode cL_law 502 = .ok (.iaload, 1) := by decide +kernel
theorem dL_law_503 : decode cL_law 503 = .ok (.aload_n 0, 1) := by decide +kernel
theorem dL_law_504 : decode cL_law 504 = .ok (.iload_n 3, 1) := by decide +kernel
theorem dL_law_505 : decode cL_law 505 = .ok (.iconst 2, 1) := by decide +kernel
theorem dL_law_506 : decode cL_law 506 = .ok (.iadd, 1) := by decide +kernel
theorem dL_law_507 : decode cL_law 507 = .ok (.iaload, 1) := by decide +kernel
theorem dL_law_508 : decode cL_law 508 = .ok (.aload_n 0, 1) := by decide +kernel
theorem dL_law_509 : decode cL_law 509 = .ok (.iload_n 3, 1) := by decide +kernel
theorem dL_law_510 : decode cL_law 510 = .ok (.iconst 3, 1) := by decide +kernel
theorem dL_law_511 : decode cL_law 511 = .ok (.iadd, 1) := by decide +kernel
theorem dL_law_512 : decode cL_law 512 = .ok (.iaload, 1) := by decide +kernel
theorem dL_law_513 : decode cL_law 513 = .ok (.invokevirtual 71, 3) := by decide +kernel
theorem dL_law_516 : decode cL_law 516 = .ok (.aload_n 2, 1) := by decide +kernel
theorem dL_law_517 : decode cL_law 517 = .ok (.aload_n 0, 1) := by decide +kernel
theorem dL_law_518 : decode cL_law 518 = .ok (.iload_n 3, 1) := by decide +kernel
theorem dL_law_519 : decode cL_law 519 = .ok (.iconst 1, 1) := by decide +kernel
theorem dL_law_520 : decode cL_law 520 = .ok (.iadd, 1) := by decide +kernel
theorem dL_law_521 : decode cL_law 521 = .ok (.iaload, 1) := by decide +kernel
theorem dL_law_522 : decode cL_law 522 = .ok (.aload_n 0, 1) := by decide +kernel
theorem dL_law_523 : decode cL_law 523 = .ok (.iload_n 3, 1) := by decide +kernel
theorem dL_law_524 : decode cL_law 524 = .ok (.iconst 2, 1) := by decide +kernel
theorem dL_law_525 : decode cL_law 525 = .ok (.iadd, 1) := by decide +kernel
theorem dL_law_526 : decode cL_law 526 = .ok (.iaload, 1) := by decide +kernel
theorem dL_law_527 : decode cL_law 527 = .ok (.aload_n 0, 1) := by decide +kernel
theorem dL_law_528 : decode cL_law 528 = .ok (.iload_n 3, 1) := by decide +kernel
theorem dL_law_529 : decode cL_law 529 = .ok (.iconst 3, 1) := by decide +kernel
theorem dL_law_530 : decode cL_law 530 = .ok (.iadd, 1) := by decide +kernel
theorem dL_law_531 : decode cL_law 531 = .ok (.iaload, 1) := by decide +kernel
theorem dL_law_532 : decode cL_law 532 = .ok (.invokevirtual 75, 3) := by decide +kernel
theorem dL_law_535 : decode cL_law 535 = .ok (.if_icmp .eq 391, 3) := by decide +kernel
theorem dL_law_538 : decode cL_law 538 = .ok (.iconst 0, 1) := by decide +kernel
theorem dL_law_539 : decode cL_law 539 = .ok (.ireturn, 1) := by decide +kernel
theorem dL_law_540 : decode cL_law 540 = .ok (.aload_n 1, 1) := by decide +kernel
theorem dL_law_541 : decode cL_law 541 = .ok (.aload_n 0, 1) := by decide +kernel
theorem dL_law_542 : decode cL_law 542 = .ok (.iload_n 3, 1) := by decide +kernel
theorem dL_law_543 : decode cL_law 543 = .ok (.iconst 1, 1) := by decide +kernel
theorem dL_law_544 : decode cL_law 544 = .ok (.iadd, 1) := by decide +kernel
theorem dL_law_545 : decode cL_law 545 = .ok (.iaload, 1) := by decide +kernel
theorem dL_law_546 : decode cL_law 546 = .ok (.aload_n 0, 1) := by decide +kernel
theorem dL_law_547 : decode cL_law 547 = .ok (.iload_n 3, 1) := by decide +kernel
theorem dL_law_548 : decode cL_law 548 = .ok (.iconst 2, 1) := by decide +kernel
theorem dL_law_549 : decode cL_law 549 = .ok (.iadd, 1) := by decide +kernel
theorem dL_law_550 : decode cL_law 550 = .ok (.iaload, 1) := by decide +kernel
theorem dL_law_551 : decode cL_law 551 = .ok (.invokevirtual 76, 3) := by decide +kernel
theorem dL_law_554 : decode cL_law 554 = .ok (.aload_n 2, 1) := by decide +kernel
theorem dL_law_555 : decode cL_law 555 = .ok (.aload_n 0, 1) := by decide +kernel
theorem dL_law_556 : decode cL_law 556 = .ok (.iload_n 3, 1) := by decide +kernel
theorem dL_law_557 : decode cL_law 557 = .ok (.iconst 1, 1) := by decide +kernel
theorem dL_law_558 : decode cL_law 558 = .ok (.iadd, 1) := by decide +kernel
theorem dL_law_559 : decode cL_law 559 = .ok (.iaload, 1) := by decide +kernel
theorem dL_law_560 : decode cL_law 560 = .ok (.aload_n 0, 1) := by decide +kernel
theorem dL_law_561 : decode cL_law 561 = .ok (.iload_n 3, 1) := by decide +kernel
theorem dL_law_562 : decode cL_law 562 = .ok (.iconst 2, 1) := by decide +kernel
theorem dL_law_563 : decode cL_law 563 = .ok (.iadd, 1) := by decide +kernel
theorem dL_law_564 : decode cL_law 564 = .ok (.iaload, 1) := by decide +kernel
theorem dL_law_565 : decode cL_law 565 = .ok (.invokevirtual 79, 3) := by decide +kernel
theorem dL_law_568 : decode cL_law 568 = .ok (.if_icmp .eq 358, 3) := by decide +kernel
theorem dL_law_571 : decode cL_law 571 = .ok (.iconst 0, 1) := by decide +kernel
theorem dL_law_572 : decode cL_law 572 = .ok (.ireturn, 1) := by decide +kernel
theorem dL_law_573 : decode cL_law 573 = .ok (.aload_n 1, 1) := by decide +kernel
theorem dL_law_574 : decode cL_law 574 = .ok (.aload_n 0, 1) := by decide +kernel
theorem dL_law_575 : decode cL_law 575 = .ok (.iload_n 3, 1) := by decide +kernel
theorem dL_law_576 : decode cL_law 576 = .ok (.iconst 1, 1) := by decide +kernel
theorem dL_law_577 : decode cL_law 577 = .ok (.iadd, 1) := by decide +kernel
theorem dL_law_578 : decode cL_law 578 = .ok (.iaload, 1) := by decide +kernel
theorem dL_law_579 : decode cL_law 579 = .ok (.aload_n 0, 1) := by decide +kernel
theorem dL_law_580 : decode cL_law 580 = .ok (.iload_n 3, 1) := by decide +kernel
theorem dL_law_581 : decode cL_law 581 = .ok (.iconst 2, 1) := by decide +kernel
theorem dL_law_582 : decode cL_law 582 = .ok (.iadd, 1) := by decide +kernel
theorem dL_law_583 : decode cL_law 583 = .ok (.iaload, 1) := by decide +kernel
theorem dL_law_584 : decode cL_law 584 = .ok (.aload_n 0, 1) := by decide +kernel
theorem dL_law_585 : decode cL_law 585 = .ok (.iload_n 3, 1) := by decide +kernel
theorem dL_law_586 : decode cL_law 586 = .ok (.iconst 3, 1) := by decide +kernel
theorem dL_law_587 : decode cL_law 587 = .ok (.iadd, 1) := by decide +kernel
theorem dL_law_588 : decode cL_law 588 = .ok (.iaload, 1) := by decide +kernel
theorem dL_law_589 : decode cL_law 589 = .ok (.invokevirtual 80, 3) := by decide +kernel
theorem dL_law_592 : decode cL_law 592 = .ok (.aload_n 2, 1) := by decide +kernel
theorem dL_law_593 : decode cL_law 593 = .ok (.aload_n 0, 1) := by decide +kernel
theorem dL_law_594 : decode cL_law 594 = .ok (.iload_n 3, 1) := by decide +kernel
theorem dL_law_595 : decode cL_law 595 = .ok (.iconst 1, 1) := by decide +kernel
theorem dL_law_596 : decode cL_law 596 = .ok (.iadd, 1) := by decide +kernel
theorem dL_law_597 : decode cL_law 597 = .ok (.iaload, 1) := by decide +kernel
theorem dL_law_598 : decode cL_law 598 = .ok (.aload_n 0, 1) := by decide +kernel
theorem dL_law_599 : decode cL_law 599 = .ok (.iload_n 3, 1) := by decide +kernel
theorem dL_law_600 : decode cL_law 600 = .ok (.iconst 2, 1) := by decide +kernel
theorem dL_law_601 : decode cL_law 601 = .ok (.iadd, 1) := by decide +kernel
theorem dL_law_602 : decode cL_law 602 = .ok (.iaload, 1) := by decide +kernel
theorem dL_law_603 : decode cL_law 603 = .ok (.aload_n 0, 1) := by decide +kernel
theorem dL_law_604 : decode cL_law 604 = .ok (.iload_n 3, 1) := by decide +kernel
theorem dL_law_605 : decode cL_law 605 = .ok (.iconst 3, 1) := by decide +kernel
theorem dL_law_606 : decode cL_law 606 = .ok (.iadd, 1) := by decide +kernel
theorem dL_law_607 : decode cL_law 607 = .ok (.iaload, 1) := by decide +kernel
theorem dL_law_608 : decode cL_law 608 = .ok (.invokevirtual 83, 3) := by decide +kernel
theorem dL_law_611 : decode cL_law 611 = .ok (.if_icmp .eq 315, 3) := by decide +kernel
theorem dL_law_614 : decode cL_law 614 = .ok (.iconst 0, 1) := by decide +kernel
theorem dL_law_615 : decode cL_law 615 = .ok (.ireturn, 1) := by decide +kernel
theorem dL_law_616 : decode cL_law 616 = .ok (.aload_n 1, 1) := by decide +kernel
theorem dL_law_617 : decode cL_law 617 = .ok (.aload_n 0, 1) := by decide +kernel
theorem dL_law_618 : decode cL_law 618 = .ok (.iload_n 3, 1) := by decide +kernel
theorem dL_law_619 : decode cL_law 619 = .ok (.iconst 1, 1) := by decide +kernel
theorem dL_law_620 : decode cL_law 620 = .ok (.iadd, 1) := by decide +kernel
theorem dL_law_621 : decode cL_law 621 = .ok (.iaload, 1) := by decide +kernel
theorem dL_law_622 : decode cL_law 622 = .ok (.invokevirtual 84, 3) := by decide +kernel
theorem dL_law_625 : decode cL_law 625 = .ok (.aload_n 2, 1) := by decide +kernel
theorem dL_law_626 : decode cL_law 626 = .ok (.aload_n 0, 1) := by decide +kernel
theorem dL_law_627 : decode cL_law 627 = .ok (.iload_n 3, 1) := by decide +kernel
theorem dL_law_628 : decode cL_law 628 = .ok (.iconst 1, 1) := by decide +kernel
theorem dL_law_629 : decode cL_law 629 = .ok (.iadd, 1) := by decide +kernel
theorem dL_law_630 : decode cL_law 630 = .ok (.iaload, 1) := by decide +kernel
theorem dL_law_631 : decode cL_law 631 = .ok (.invokevirtual 87, 3) := by decide +kernel
theorem dL_law_634 : decode cL_law 634 = .ok (.if_icmp .eq 292, 3) := by decide +kernel
theorem dL_law_637 : decode cL_law 637 = .ok (.iconst 0, 1) := by decide +kernel
theorem dL_law_638 : decode cL_law 638 = .ok (.ireturn, 1) := by decide +kernel
theorem dL_law_639 : decode cL_law 639 = .ok (.aload_n 1, 1) := by decide +kernel
theorem dL_law_640 : decode cL_law 640 = .ok (.aload_n 0, 1) := by decide +kernel
theorem dL_law_641 : decode cL_law 641 = .ok (.iload_n 3, 1) := by decide +kernel
theorem dL_law_642 : decode cL_law 642 = .ok (.iconst 1, 1) := by decide +kernel
theorem dL_law_643 : decode cL_law 643 = .ok (.iadd, 1) := by decide +kernel
theorem dL_law_644 : decode cL_law 644 = .ok (.iaload, 1) := by decide +kernel
theorem dL_law_645 : decode cL_law 645 = .ok (.aload_n 0, 1) := by decide +kernel
theorem dL_law_646 : decode cL_law 646 = .ok (.iload_n 3, 1) := by decide +kernel
theorem dL_law_647 : decode cL_law 647 = .ok (.iconst 2, 1) := by decide +kernel
theorem dL_law_648 : decode cL_law 648 = .ok (.iadd, 1) := by decide +kernel
theorem dL_law_649 : decode cL_law 649 = .ok (.iaload, 1) := by decide +kernel
theorem dL_law_650 : decode cL_law 650 = .ok (.invokevirtual 88, 3) := by decide +kernel
theorem dL_law_653 : decode cL_law 653 = .ok (.aload_n 2, 1) := by decide +kernel
theorem dL_law_654 : decode cL_law 654 = .ok (.aload_n 0, 1) := by decide +kernel
theorem dL_law_655 : decode cL_law 655 = .ok (.iload_n 3, 1) := by decide +kernel
theorem dL_law_656 : decode cL_law 656 = .ok (.iconst 1, 1) := by decide +kernel
theorem dL_law_657 : decode cL_law 657 = .ok (.iadd, 1) := by decide +kernel
theorem dL_law_658 : decode cL_law 658 = .ok (.iaload, 1) := by decide +kernel
theorem dL_law_659 : decode cL_law 659 = .ok (.aload_n 0, 1) := by decide +kernel
theorem dL_law_660 : decode cL_law 660 = .ok (.iload_n 3, 1) := by decide +kernel
theorem dL_law_661 : decode cL_law 661 = .ok (.iconst 2, 1) := by decide +kernel
theorem dL_law_662 : decode cL_law 662 = .ok (.iadd, 1) := by decide +kernel
theorem dL_law_663 : decode cL_law 663 = .ok (.iaload, 1) := by decide +kernel
theorem dL_law_664 : decode cL_law 664 = .ok (.invokevirtual 91, 3) := by decide +kernel
theorem dL_law_667 : decode cL_law 667 = .ok (.if_icmp .eq 259, 3) := by decide +kernel
theorem dL_law_670 : decode cL_law 670 = .ok (.iconst 0, 1) := by decide +kernel
theorem dL_law_671 : decode cL_law 671 = .ok (.ireturn, 1) := by decide +kernel
theorem dL_law_672 : decode cL_law 672 = .ok (.aload_n 1, 1) := by decide +kernel
theorem dL_law_673 : decode cL_law 673 = .ok (.aload_n 0, 1) := by decide +kernel
theorem dL_law_674 : decode cL_law 674 = .ok (.iload_n 3, 1) := by decide +kernel
theorem dL_law_675 : decode cL_law 675 = .ok (.iconst 1, 1) := by decide +kernel
theorem dL_law_676 : decode cL_law 676 = .ok (.iadd, 1) := by decide +kernel
theorem dL_law_677 : decode cL_law 677 = .ok (.iaload, 1) := by decide +kernel
theorem dL_law_678 : decode cL_law 678 = .ok (.aload_n 0, 1) := by decide +kernel
theorem dL_law_679 : decode cL_law 679 = .ok (.iload_n 3, 1) := by decide +kernel
theorem dL_law_680 : decode cL_law 680 = .ok (.iconst 2, 1) := by decide +kernel
theorem dL_law_681 : decode cL_law 681 = .ok (.iadd, 1) := by decide +kernel
theorem dL_law_682 : decode cL_law 682 = .ok (.iaload, 1) := by decide +kernel
theorem dL_law_683 : decode cL_law 683 = .ok (.invokevirtual 92, 3) := by decide +kernel
theorem dL_law_686 : decode cL_law 686 = .ok (.aload_n 2, 1) := by decide +kernel
theorem dL_law_687 : decode cL_law 687 = .ok (.aload_n 0, 1) := by decide +kernel
theorem dL_law_688 : decode cL_law 688 = .ok (.iload_n 3, 1) := by decide +kernel
theorem dL_law_689 : decode cL_law 689 = .ok (.iconst 1, 1) := by decide +kernel
theorem dL_law_690 : decode cL_law 690 = .ok (.iadd, 1) := by decide +kernel
theorem dL_law_691 : decode cL_law 691 = .ok (.iaload, 1) := by decide +kernel
theorem dL_law_692 : decode cL_law 692 = .ok (.aload_n 0, 1) := by decide +kernel
theorem dL_law_693 : decode cL_law 693 = .ok (.iload_n 3, 1) := by decide +kernel
theorem dL_law_694 : decode cL_law 694 = .ok (.iconst 2, 1) := by decide +kernel
theorem dL_law_695 : decode cL_law 695 = .ok (.iadd, 1) := by decide +kernel
theorem dL_law_696 : decode cL_law 696 = .ok (.iaload, 1) := by decide +kernel
theorem dL_law_697 : decode cL_law 697 = .ok (.invokevirtual 95, 3) := by decide +kernel
theorem dL_law_700 : decode cL_law 700 = .ok (.if_icmp .eq 226, 3) := by decide +kernel
theorem dL_law_703 : decode cL_law 703 = .ok (.iconst 0, 1) := by decide +kernel
theorem dL_law_704 : decode cL_law 704 = .ok (.ireturn, 1) := by decide +kernel
theorem dL_law_705 : decode cL_law 705 = .ok (.aload_n 1, 1) := by decide +kernel
theorem dL_law_706 : decode cL_law 706 = .ok (.aload_n 0, 1) := by decide +kernel
theorem dL_law_707 : decode cL_law 707 = .ok (.iload_n 3, 1) := by decide +kernel
theorem dL_law_708 : decode cL_law 708 = .ok (.iconst 1, 1) := by decide +kernel
theorem dL_law_709 : decode cL_law 709 = .ok (.iadd, 1) := by decide +kernel
theorem dL_law_710 : decode cL_law 710 = .ok (.iaload, 1) := by decide +kernel
theorem dL_law_711 : decode cL_law 711 = .ok (.aload_n 0, 1) := by decide +kernel
theorem dL_law_712 : decode cL_law 712 = .ok (.iload_n 3, 1) := by decide +kernel
theorem dL_law_713 : decode cL_law 713 = .ok (.iconst 2, 1) := by decide +kernel
theorem dL_law_714 : decode cL_law 714 = .ok (.iadd, 1) := by decide +kernel
theorem dL_law_715 : decode cL_law 715 = .ok (.iaload, 1) := by decide +kernel
theorem dL_law_716 : decode cL_law 716 = .ok (.aload_n 0, 1) := by decide +kernel
theorem dL_law_717 : decode cL_law 717 = .ok (.iload_n 3, 1) := by decide +kernel
theorem dL_law_718 : decode cL_law 718 = .ok (.iconst 3, 1) := by decide +kernel
theorem dL_law_719 : decode cL_law 719 = .ok (.iadd, 1) := by decide +kernel
theorem dL_law_720 : decode cL_law 720 = .ok (.iaload, 1) := by decide +kernel
theorem dL_law_721 : decode cL_law 721 = .ok (.aload_n 0, 1) := by decide +kernel
theorem dL_law_722 : decode cL_law 722 = .ok (.iload_n 3, 1) := by decide +kernel
theorem dL_law_723 : decode cL_law 723 = .ok (.iconst 4, 1) := by decide +kernel
theorem dL_law_724 : decode cL_law 724 = .ok (.iadd, 1) := by decide +kernel
theorem dL_law_725 : decode cL_law 725 = .ok (.iaload, 1) := by decide +kernel
theorem dL_law_726 : decode cL_law 726 = .ok (.aload_n 0, 1) := by decide +kernel
theorem dL_law_727 : decode cL_law 727 = .ok (.iload_n 3, 1) := by decide +kernel
theorem dL_law_728 : decode cL_law 728 = .ok (.iconst 5, 1) := by decide +kernel
theorem dL_law_729 : decode cL_law 729 = .ok (.iadd, 1) := by decide +kernel
theorem dL_law_730 : decode cL_law 730 = .ok (.iaload, 1) := by decide +kernel
theorem dL_law_731 : decode cL_law 731 = .ok (.ifCond .eq 7, 3) := by decide +kernel
theorem dL_law_734 : decode cL_law 734 = .ok (.iconst 1, 1) := by decide +kernel
theorem dL_law_735 : decode cL_law 735 = .ok (.goto 4, 3) := by decide +kernel
theorem dL_law_738 : decode cL_law 738 = .ok (.iconst 0, 1) := by decide +kernel
theorem dL_law_739 : decode cL_law 739 = .ok (.invokevirtual 96, 3) := by decide +kernel
theorem dL_law_742 : decode cL_law 742 = .ok (.aload_n 2, 1) := by decide +kernel
theorem dL_law_743 : decode cL_law 743 = .ok (.aload_n 0, 1) := by decide +kernel
theorem dL_law_744 : decode cL_law 744 = .ok (.iload_n 3, 1) := by decide +kernel
theorem dL_law_745 : decode cL_law 745 = .ok (.iconst 1, 1) := by decide +kernel
theorem dL_law_746 : decode cL_law 746 = .ok (.iadd, 1) := by decide +kernel
theorem dL_law_747 : decode cL_law 747 = .ok (.iaload, 1) := by decide +kernel
theorem dL_law_748 : decode cL_law 748 = .ok (.aload_n 0, 1) := by decide +kernel
theorem dL_law_749 : decode cL_law 749 = .ok (.iload_n 3, 1) := by decide +kernel
theorem dL_law_750 : decode cL_law 750 = .ok (.iconst 2, 1) := by decide +kernel
theorem dL_law_751 : decode cL_law 751 = .ok (.iadd, 1) := by decide +kernel
theorem dL_law_752 : decode cL_law 752 = .ok (.iaload, 1) := by decide +kernel
theorem dL_law_753 : decode cL_law 753 = .ok (.aload_n 0, 1) := by decide +kernel
theorem dL_law_754 : decode cL_law 754 = .ok (.iload_n 3, 1) := by decide +kernel
theorem dL_law_755 : decode cL_law 755 = .ok (.iconst 3, 1) := by decide +kernel
theorem dL_law_756 : decode cL_law 756 = .ok (.iadd, 1) := by decide +kernel
theorem dL_law_757 : decode cL_law 757 = .ok (.iaload, 1) := by decide +kernel
theorem dL_law_758 : decode cL_law 758 = .ok (.aload_n 0, 1) := by decide +kernel
theorem dL_law_759 : decode cL_law 759 = .ok (.iload_n 3, 1) := by decide +kernel
theorem dL_law_760 : decode cL_law 760 = .ok (.iconst 4, 1) := by decide +kernel
theorem dL_law_761 : decode cL_law 761 = .ok (.iadd, 1) := by decide +kernel
theorem dL_law_762 : decode cL_law 762 = .ok (.iaload, 1) := by decide +kernel
theorem dL_law_763 : decode cL_law 763 = .ok (.aload_n 0, 1) := by decide +kernel
theorem dL_law_764 : decode cL_law 764 = .ok (.iload_n 3, 1) := by decide +kernel
theorem dL_law_765 : decode cL_law 765 = .ok (.iconst 5, 1) := by decide +kernel
theorem dL_law_766 : decode cL_law 766 = .ok (.iadd, 1) := by decide +kernel
theorem dL_law_767 : decode cL_law 767 = .ok (.iaload, 1) := by decide +kernel
theorem dL_law_768 : decode cL_law 768 = .ok (.ifCond .eq 7, 3) := by decide +kernel
theorem dL_law_771 : decode cL_law 771 = .ok (.iconst 1, 1) := by decide +kernel
theorem dL_law_772 : decode cL_law 772 = .ok (.goto 4, 3) := by decide +kernel
theorem dL_law_775 : decode cL_law 775 = .ok (.iconst 0, 1) := by decide +kernel
theorem dL_law_776 : decode cL_law 776 = .ok (.invokevirtual 100, 3) := by decide +kernel
theorem dL_law_779 : decode cL_law 779 = .ok (.lcmp, 1) := by decide +kernel
theorem dL_law_780 : decode cL_law 780 = .ok (.ifCond .eq 146, 3) := by decide +kernel
theorem dL_law_783 : decode cL_law 783 = .ok (.iconst 0, 1) := by decide +kernel
theorem dL_law_784 : decode cL_law 784 = .ok (.ireturn, 1) := by decide +kernel
theorem dL_law_785 : decode cL_law 785 = .ok (.aload_n 1, 1) := by decide +kernel
theorem dL_law_786 : decode cL_law 786 = .ok (.aload_n 0, 1) := by decide +kernel
theorem dL_law_787 : decode cL_law 787 = .ok (.iload_n 3, 1) := by decide +kernel
theorem dL_law_788 : decode cL_law 788 = .ok (.iconst 1, 1) := by decide +kernel
theorem dL_law_789 : decode cL_law 789 = .ok (.iadd, 1) := by decide +kernel
theorem dL_law_790 : decode cL_law 790 = .ok (.iaload, 1) := by decide +kernel
theorem dL_law_791 : decode cL_law 791 = .ok (.aload_n 0, 1) := by decide +kernel
theorem dL_law_792 : decode cL_law 792 = .ok (.iload_n 3, 1) := by decide +kernel
theorem dL_law_793 : decode cL_law 793 = .ok (.iconst 2, 1) := by decide +kernel
theorem dL_law_794 : decode cL_law 794 = .ok (.iadd, 1) := by decide +kernel
theorem dL_law_795 : decode cL_law 795 = .ok (.iaload, 1) := by decide +kernel
theorem dL_law_796 : decode cL_law 796 = .ok (.aload_n 0, 1) := by decide +kernel
theorem dL_law_797 : decode cL_law 797 = .ok (.iload_n 3, 1) := by decide +kernel
theorem dL_law_798 : decode cL_law 798 = .ok (.iconst 3, 1) := by decide +kernel
theorem dL_law_799 : decode cL_law 799 = .ok (.iadd, 1) := by decide +kernel
theorem dL_law_800 : decode cL_law 800 = .ok (.iaload, 1) := by decide +kernel
theorem dL_law_801 : decode cL_law 801 = .ok (.ifCond .eq 7, 3) := by decide +kernel
theorem dL_law_804 : decode cL_law 804 = .ok (.iconst 1, 1) := by decide +kernel
theorem dL_law_805 : decode cL_law 805 = .ok (.goto 4, 3) := by decide +kernel
theorem dL_law_808 : decode cL_law 808 = .ok (.iconst 0, 1) := by decide +kernel
theorem dL_law_809 : decode cL_law 809 = .ok (.invokevirtual 101, 3) := by decide +kernel
theorem dL_law_812 : decode cL_law 812 = .ok (.aload_n 2, 1) := by decide +kernel
theorem dL_law_813 : decode cL_law 813 = .ok (.aload_n 0, 1) := by decide +kernel
theorem dL_law_814 : decode cL_law 814 = .ok (.iload_n 3, 1) := by decide +kernel
theorem dL_law_815 : decode cL_law 815 = .ok (.iconst 1, 1) := by decide +kernel
theorem dL_law_816 : decode cL_law 816 = .ok (.iadd, 1) := by decide +kernel
theorem dL_law_817 : decode cL_law 817 = .ok (.iaload, 1) := by decide +kernel
theorem dL_law_818 : decode cL_law 818 = .ok (.aload_n 0, 1) := by decide +kernel
theorem dL_law_819 : decode cL_law 819 = .ok (.iload_n 3, 1) := by decide +kernel
theorem dL_law_820 : decode cL_law 820 = .ok (.iconst 2, 1) := by decide +kernel
theorem dL_law_821 : decode cL_law 821 = .ok (.iadd, 1) := by decide +kernel
theorem dL_law_822 : decode cL_law 822 = .ok (.iaload, 1) := by decide +kernel
theorem dL_law_823 : decode cL_law 823 = .ok (.aload_n 0, 1) := by decide +kernel
theorem dL_law_824 : decode cL_law 824 = .ok (.iload_n 3, 1) := by decide +kernel
theorem dL_law_825 : decode cL_law 825 = .ok (.iconst 3, 1) := by decide +kernel
theorem dL_law_826 : decode cL_law 826 = .ok (.iadd, 1) := by decide +kernel
theorem dL_law_827 : decode cL_law 827 = .ok (.iaload, 1) := by decide +kernel
theorem dL_law_828 : decode cL_law 828 = .ok (.ifCond .eq 7, 3) := by decide +kernel
theorem dL_law_831 : decode cL_law 831 = .ok (.iconst 1, 1) := by decide +kernel
theorem dL_law_832 : decode cL_law 832 = .ok (.goto 4, 3) := by decide +kernel
theorem dL_law_835 : decode cL_law 835 = .ok (.iconst 0, 1) := by decide +kernel
theorem dL_law_836 : decode cL_law 836 = .ok (.invokevirtual 105, 3) := by decide +kernel
theorem dL_law_839 : decode cL_law 839 = .ok (.if_icmp .eq 87, 3) := by decide +kernel
theorem dL_law_842 : decode cL_law 842 = .ok (.iconst 0, 1) := by decide +kernel
theorem dL_law_843 : decode cL_law 843 = .ok (.ireturn, 1) := by decide +kernel
theorem dL_law_844 : decode cL_law 844 = .ok (.aload_n 1, 1) := by decide +kernel
theorem dL_law_845 : decode cL_law 845 = .ok (.invokevirtual 106, 3) := by decide +kernel
theorem dL_law_848 : decode cL_law 848 = .ok (.aload_n 2, 1) := by decide +kernel
theorem dL_law_849 : decode cL_law 849 = .ok (.invokevirtual 109, 3) := by decide +kernel
theorem dL_law_852 : decode cL_law 852 = .ok (.if_icmp .eq 74, 3) := by decide +kernel
theorem dL_law_855 : decode cL_law 855 = .ok (.iconst 0, 1) := by decide +kernel
theorem dL_law_856 : decode cL_law 856 = .ok (.ireturn, 1) := by decide +kernel
theorem dL_law_857 : decode cL_law 857 = .ok (.aload_n 1, 1) := by decide +kernel
theorem dL_law_858 : decode cL_law 858 = .ok (.aload_n 0, 1) := by decide +kernel
theorem dL_law_859 : decode cL_law 859 = .ok (.iload_n 3, 1) := by decide +kernel
theorem dL_law_860 : decode cL_law 860 = .ok (.iconst 1, 1) := by decide +kernel
theorem dL_law_861 : decode cL_law 861 = .ok (.iadd, 1) := by decide +kernel
theorem dL_law_862 : decode cL_law 862 = .ok (.iaload, 1) := by decide +kernel
theorem dL_law_863 : decode cL_law 863 = .ok (.invokevirtual 110, 3) := by decide +kernel
theorem dL_law_866 : decode cL_law 866 = .ok (.aload_n 2, 1) := by decide +kernel
theorem dL_law_867 : decode cL_law 867 = .ok (.aload_n 0, 1) := by decide +kernel
theorem dL_law_868 : decode cL_law 868 = .ok (.iload_n 3, 1) := by decide +kernel
theorem dL_law_869 : decode cL_law 869 = .ok (.iconst 1, 1) := by decide +kernel
theorem dL_law_870 : decode cL_law 870 = .ok (.iadd, 1) := by decide +kernel
theorem dL_law_871 : decode cL_law 871 = .ok (.iaload, 1) := by decide +kernel
theorem dL_law_872 : decode cL_law 872 = .ok (.invokevirtual 113, 3) := by decide +kernel
theorem dL_law_875 : decode cL_law 875 = .ok (.if_icmp .eq 51, 3) := by decide +kernel
theorem dL_law_878 : decode cL_law 878 = .ok (.iconst 0, 1) := by decide +kernel
theorem dL_law_879 : decode cL_law 879 = .ok (.ireturn, 1) := by decide +kernel
theorem dL_law_880 : decode cL_law 880 = .ok (.aload_n 1, 1) := by decide +kernel
theorem dL_law_881 : decode cL_law 881 = .ok (.aload_n 0, 1) := by decide +kernel
theorem dL_law_882 : decode cL_law 882 = .ok (.iload_n 3, 1) := by decide +kernel
theorem dL_law_883 : decode cL_law 883 = .ok (.iconst 1, 1) := by decide +kernel
theorem dL_law_884 : decode cL_law 884 = .ok (.iadd, 1) := by decide +kernel
theorem dL_law_885 : decode cL_law 885 = .ok (.iaload, 1) := by decide +kernel
theorem dL_law_886 : decode cL_law 886 = .ok (.invokevirtual 114, 3) := by decide +kernel
theorem dL_law_889 : decode cL_law 889 = .ok (.aload_n 2, 1) := by decide +kernel
theorem dL_law_890 : decode cL_law 890 = .ok (.aload_n 0, 1) := by decide +kernel
end
section
theorem dL_law_891 : decode cL_law 891 = .ok (.iload_n 3, 1) := by decide +kernel
theorem dL_law_892 : decode cL_law 892 = .ok (.iconst 1, 1) := by decide +kernel
theorem dL_law_893 : decode cL_law 893 = .ok (.iadd, 1) := by decide +kernel
theorem dL_law_894 : decode cL_law 894 = .ok (.iaload, 1) := by decide +kernel
theorem dL_law_895 : decode cL_law 895 = .ok (.invokevirtual 117, 3) := by decide +kernel
theorem dL_law_898 : decode cL_law 898 = .ok (.if_icmp .eq 28, 3) := by decide +kernel
theorem dL_law_901 : decode cL_law 901 = .ok (.iconst 0, 1) := by decide +kernel
theorem dL_law_902 : decode cL_law 902 = .ok (.ireturn, 1) := by decide +kernel
theorem dL_law_903 : decode cL_law 903 = .ok (.aload_n 1, 1) := by decide +kernel
theorem dL_law_904 : decode cL_law 904 = .ok (.aload_n 0, 1) := by decide +kernel
theorem dL_law_905 : decode cL_law 905 = .ok (.iload_n 3, 1) := by decide +kernel
theorem dL_law_906 : decode cL_law 906 = .ok (.iconst 1, 1) := by decide +kernel
theorem dL_law_907 : decode cL_law 907 = .ok (.iadd, 1) := by decide +kernel
theorem dL_law_908 : decode cL_law 908 = .ok (.iaload, 1) := by decide +kernel
theorem dL_law_909 : decode cL_law 909 = .ok (.invokevirtual 118, 3) := by decide +kernel
theorem dL_law_912 : decode cL_law 912 = .ok (.aload_n 2, 1) := by decide +kernel
theorem dL_law_913 : decode cL_law 913 = .ok (.aload_n 0, 1) := by decide +kernel
theorem dL_law_914 : decode cL_law 914 = .ok (.iload_n 3, 1) := by decide +kernel
theorem dL_law_915 : decode cL_law 915 = .ok (.iconst 1, 1) := by decide +kernel
theorem dL_law_916 : decode cL_law 916 = .ok (.iadd, 1) := by decide +kernel
theorem dL_law_917 : decode cL_law 917 = .ok (.iaload, 1) := by decide +kernel
theorem dL_law_918 : decode cL_law 918 = .ok (.invokevirtual 121, 3) := by decide +kernel
theorem dL_law_921 : decode cL_law 921 = .ok (.if_icmp .eq 5, 3) := by decide +kernel
theorem dL_law_924 : decode cL_law 924 = .ok (.iconst 0, 1) := by decide +kernel
theorem dL_law_925 : decode cL_law 925 = .ok (.ireturn, 1) := by decide +kernel
theorem dL_law_926 : decode cL_law 926 = .ok (.iinc 3 6, 3) := by decide +kernel
theorem dL_law_929 : decode cL_law 929 = .ok (.goto (-911), 3) := by decide +kernel
theorem dL_law_932 : decode cL_law 932 = .ok (.iconst 1, 1) := by decide +kernel
theorem dL_law_933 : decode cL_law 933 = .ok (.ireturn, 1) := by decide +kernel
end
section
/-! THE PURE PICTURE: all cells that the class and the reference own, numbered; a memory of ints; what each cell holds -/
/-- ints by cell and place; the three references that change (0: today, 1: draft, 2: the outlook's day) -/
abbrev gMem : Type := (Nat → Nat → Int32) × (Nat → Nat)
/-- addresses of the cells; class numbers and slots; the classes of int arrays, boolean arrays, arrays of Standing -/
abbrev gOm : Type := (Nat → Nat) × ((Nat → ClassId) × (Nat → Nat → Nat)) × ClassId × ClassId × ClassId
/-- a cell's kind (0 .. 7: an object of that class; 8: ints; 9: booleans; 10: Standings) and how long it is -/
def gK : Nat → Nat × Nat
  | 0 => (6, 9)
  | 1 => (3, 2) | 2 => (8, 72)
  | 3 => (5, 6) | 4 => (8, 3) | 5 => (8, 18) | 6 => (8, 18) | 7 => (8, 9)
  | 8 => (5, 6) | 9 => (8, 3) | 10 => (8, 18) | 11 => (8, 18) | 12 => (8, 9)
  | 13 => (10, 2)
  | 14 => (5, 6) | 15 => (8, 3) | 16 => (8, 18) | 17 => (8, 18) | 18 => (8, 9)
  | 19 => (5, 6) | 20 => (8, 3) | 21 => (8, 18) | 22 => (8, 18) | 23 => (8, 9)
  | 24 => (0, 2) | 25 => (8, 16)
  | 26 => (4, 3) | 27 => (8, 6) | 28 => (8, 6)
  | 29 => (1, 8) | 30 => (8, 36) | 31 => (8, 18) | 32 => (8, 3) | 33 => (8, 3) | 34 => (8, 3)
  | 35 => (1, 8) | 36 => (8, 36) | 37 => (8, 18) | 38 => (8, 3) | 39 => (8, 3) | 40 => (8, 3)
  | 41 => (2, 7) | 42 => (8, 384) | 43 => (8, 64) | 44 => (8, 640) | 45 => (8, 8)
  | 46 => (7, 34)
  | 47 => (8, 72) | 48 => (8, 36) | 49 => (8, 3) | 50 => (8, 3) | 51 => (8, 3) | 52 => (8, 58)
  | 53 => (8, 36) | 54 => (8, 3) | 55 => (8, 3) | 56 => (8, 3) | 57 => (8, 928) | 58 => (8, 116) | 59 => (9, 2) | 60 => (8, 58)
  | 61 => (8, 8) | 62 => (8, 8) | 63 => (9, 8) | 64 => (8, 448) | 65 => (8, 640) | 66 => (8, 640) | 67 => (9, 640) | 68 => (9, 640)
  | _ => (11, 0)
/-- a field: none: an int; a cell for good; or one of the references that change -/
def gfk : Nat → Nat → Option (Nat ⊕ Nat)
  | 0, 0 => some (.inl 1) | 0, 1 => some (.inl 3) | 0, 2 => some (.inl 8) | 0, 3 => some (.inl 13) | 0, 4 => some (.inl 24) | 0, 5 => some (.inl 26) | 0, 6 => some (.inl 41) | 0, 7 => some (.inr 0) | 0, 8 => some (.inr 1)
  | 1, 0 => some (.inl 2)
  | 3, 0 => some (.inl 4) | 3, 1 => some (.inl 5) | 3, 2 => some (.inl 6) | 3, 3 => some (.inl 7)
  | 8, 0 => some (.inl 9) | 8, 1 => some (.inl 10) | 8, 2 => some (.inl 11) | 8, 3 => some (.inl 12)
  | 14, 0 => some (.inl 15) | 14, 1 => some (.inl 16) | 14, 2 => some (.inl 17) | 14, 3 => some (.inl 18)
  | 19, 0 => some (.inl 20) | 19, 1 => some (.inl 21) | 19, 2 => some (.inl 22) | 19, 3 => some (.inl 23)
  | 24, 0 => some (.inl 25)
  | 26, 0 => some (.inl 27) | 26, 1 => some (.inl 28)
  | 29, 0 => some (.inl 30) | 29, 1 => some (.inl 31) | 29, 2 => some (.inl 32) | 29, 3 => some (.inl 33) | 29, 4 => some (.inl 34)
  | 35, 0 => some (.inl 36) | 35, 1 => some (.inl 37) | 35, 2 => some (.inl 38) | 35, 3 => some (.inl 39) | 35, 4 => some (.inl 40)
  | 41, 0 => some (.inl 42) | 41, 1 => some (.inl 43) | 41, 2 => some (.inl 44) | 41, 3 => some (.inl 45) | 41, 4 => some (.inr 2)
  | 46, 1 => some (.inl 47) | 46, 7 => some (.inl 48) | 46, 8 => some (.inl 49) | 46, 9 => some (.inl 50) | 46, 10 => some (.inl 51) | 46, 12 => some (.inl 52)
  | 46, 16 => some (.inl 53) | 46, 17 => some (.inl 54) | 46, 18 => some (.inl 55) | 46, 19 => some (.inl 56) | 46, 20 => some (.inl 57) | 46, 22 => some (.inl 58) | 46, 23 => some (.inl 59) | 46, 24 => some (.inl 60)
  | 46, 26 => some (.inl 61) | 46, 27 => some (.inl 62) | 46, 28 => some (.inl 63) | 46, 29 => some (.inl 64) | 46, 30 => some (.inl 65) | 46, 31 => some (.inl 66) | 46, 32 => some (.inl 67) | 46, 33 => some (.inl 68)
  | _, _ => none
/-- the array of slots -/
def gsl (j : Nat) : Nat := bif j == 0 then 14 else 19
/-- a field's value in the pure picture, and at the machine -/
def gfp (m : gMem) (k j : Nat) : Value := match gfk k j with
  | none => .int (m.1 k j)
  | some (.inl t) => .ref t
  | some (.inr q) => .ref (m.2 q)
def gv (ad : Nat → Nat) : Value → Value
  | .ref a => .ref (ad a)
  | v => v
def gE (O : gOm) (m : gMem) (k : Nat) : va_E :=
  bif (gK k).1 == 8 then .inl (O.2.2.1, (gK k).2, .inl (m.1 k))
  else bif (gK k).1 == 9 then .inl (O.2.2.2.1, (gK k).2, .inl (m.1 k))
  else bif (gK k).1 == 10 then .inl (O.2.2.2.2, (gK k).2, .inr (.inr (.inr (.inr (fun j => some (O.1 (gsl j)))))))
  else .inr ((gK k).1, (List.range (gK k).2).map (fun j => gv O.1 (gfp m k j)))
abbrev gNC : Nat := 69
def gCells (O : gOm) (m : gMem) : va_W := (List.range gNC).map (fun k => (O.1 k, gE O m k))
abbrev gTys (O : gOm) : List (ClassId × FieldType) := [(O.2.2.1, .int), (O.2.2.2.1, .boolean), (O.2.2.2.2, .object RX5)]
/-- the cells that are written -/
def gA (O : gOm) : Nat → Prop := fun q => ∃ k, k < gNC ∧ O.1 k = q
/-- writes -/
def gup (m : gMem) (k i : Nat) (x : Int32) : gMem := (fun k' i' => bif k' == k && i' == i then x else m.1 k' i', m.2)
def gupA (m : gMem) (k : Nat) (f : Nat → Int32) : gMem := (fun k' => bif k' == k then f else m.1 k', m.2)
def gupR (m : gMem) (q t : Nat) : gMem := (m.1, fun q' => bif q' == q then t else m.2 q')
theorem gcat (ad : Nat → Nat) (v : Value) : (gv ad v).category = v.category := by cases v <;> rfl
theorem gCells_at (O : gOm) (m : gMem) {k : Nat} (h : k < gNC) : (gCells O m)[k]? = some (O.1 k, gE O m k) := by
  simp [gCells, h]
theorem gCells_lt (O : gOm) (m : gMem) {k : Nat} {q : Nat × va_E} (h : (gCells O m)[k]? = some q) : k < gNC ∧ q = (O.1 k, gE O m k) := by
  have hk : k < gNC := by
    have h1 := (List.getElem?_eq_some_iff.mp h).1
    simpa [gCells] using h1
  rw [gCells_at O m hk] at h
  exact ⟨hk, (Option.some.inj h).symm⟩
/-- a memory that differs in one cell alone -/
theorem gCells_set (O : gOm) (m m' : gMem) {k : Nat} (h : ∀ k', k' < gNC → k' ≠ k → gE O m' k' = gE O m k') : (gCells O m).set k (O.1 k, gE O m' k) = gCells O m' := by
  apply List.ext_getElem?
  intro i
  by_cases hi : i < gNC
  · rw [gCells_at O m' hi]
    by_cases hik : i = k
    · subst hik
      rw [List.getElem?_set_self (by simpa [gCells] using hi)]
    · rw [List.getElem?_set_ne (Ne.symm hik), gCells_at O m hi, h i hi hik]
  · rw [List.getElem?_eq_none (by simpa [gCells] using hi), List.getElem?_eq_none (by simpa [gCells] using hi)]
theorem gE_int (O : gOm) (m : gMem) {k n : Nat} (h : gK k = (8, n)) : gE O m k = .inl (O.2.2.1, n, .inl (m.1 k)) := by simp [gE, h]
theorem gE_bool (O : gOm) (m : gMem) {k n : Nat} (h : gK k = (9, n)) : gE O m k = .inl (O.2.2.2.1, n, .inl (m.1 k)) := by simp [gE, h]
theorem gE_slots (O : gOm) (m : gMem) {k n : Nat} (h : gK k = (10, n)) : gE O m k = .inl (O.2.2.2.2, n, .inr (.inr (.inr (.inr (fun j => some (O.1 (gsl j))))))) := by simp [gE, h]
theorem gE_obj (O : gOm) (m : gMem) {k ci n : Nat} (h : gK k = (ci, n)) (hc : ci < 8) : gE O m k = .inr (ci, (List.range n).map (fun j => gv O.1 (gfp m k j))) := by
  have h8 : (ci == 8) = false := by simp; omega
  have h9 : (ci == 9) = false := by simp; omega
  have h10 : (ci == 10) = false := by simp; omega
  simp [gE, h, h8, h9, h10]
/-- cells hold alike where the memory is alike in the cell -/
theorem gE_congr (O : gOm) {m m' : gMem} {k : Nat} (h1 : m.1 k = m'.1 k) (h2 : ∀ j q, gfk k j = some (.inr q) → m.2 q = m'.2 q) : gE O m k = gE O m' k := by
  have hf : ∀ j, gfp m k j = gfp m' k j := by
    intro j
    unfold gfp
    cases hg : gfk k j with
    | none => simp [h1]
    | some z =>
      cases z with
      | inl t => rfl
      | inr q => simp [h2 j q hg]
  unfold gE
  simp [h1, hf]
theorem gbeq {a b : Nat} (h : a ≠ b) : (a == b) = false := by simp [h]
theorem gup_cells (O : gOm) (m : gMem) (k i : Nat) (x : Int32) : (gCells O m).set k (O.1 k, gE O (gup m k i x) k) = gCells O (gup m k i x) :=
  gCells_set O m _ (fun k' _ hk => gE_congr O (by funext i'; simp [gup, gbeq hk]) (fun _ _ _ => rfl))
theorem gupA_cells (O : gOm) (m : gMem) (k : Nat) (f : Nat → Int32) : (gCells O m).set k (O.1 k, gE O (gupA m k f) k) = gCells O (gupA m k f) :=
  gCells_set O m _ (fun k' _ hk => gE_congr O (by simp [gupA, gbeq hk]) (fun _ _ _ => rfl))
/-- a reference that changes belongs to one field alone -/
theorem gfk_inr {k j q : Nat} (h : gfk k j = some (.inr q)) : (k = 0 ∧ j = 7 ∧ q = 0) ∨ (k = 0 ∧ j = 8 ∧ q = 1) ∨ (k = 41 ∧ j = 4 ∧ q = 2) := by
  unfold gfk at h
  split at h <;> simp_all
theorem gfk_sole {k j k' j' q : Nat} (h : gfk k j = some (.inr q)) (h' : gfk k' j' = some (.inr q)) : k' = k ∧ j' = j := by
  have a := gfk_inr h
  have b := gfk_inr h'
  omega
theorem gupR_cells (O : gOm) (m : gMem) {k j q : Nat} (t : Nat) (hq : gfk k j = some (.inr q)) : (gCells O m).set k (O.1 k, gE O (gupR m q t) k) = gCells O (gupR m q t) :=
  gCells_set O m _ (fun k' _ hk => gE_congr O rfl (fun j' q' h' => by
    have hne : q' ≠ q := fun e => hk (gfk_sole hq (e ▸ h')).1
    simp [gupR, gbeq hne]))
/-- the fields behind a write -/
theorem gfp_up (m : gMem) (k j j' : Nat) (x : Int32) (h : gfk k j = none) : gfp (gup m k j x) k j' = if j' = j then .int x else gfp m k j' := by
  by_cases hj : j' = j
  · subst hj
    simp [gfp, h, gup]
  · rw [if_neg hj]
    unfold gfp
    cases gfk k j' with
    | none => simp [gup, gbeq hj]
    | some z => cases z <;> rfl
theorem gfp_upR (m : gMem) {k j q : Nat} (j' t : Nat) (h : gfk k j = some (.inr q)) : gfp (gupR m q t) k j' = if j' = j then .ref t else gfp m k j' := by
  by_cases hj : j' = j
  · subst hj
    simp [gfp, h, gupR]
  · rw [if_neg hj]
    unfold gfp
    cases hg : gfk k j' with
    | none => rfl
    | some z =>
      cases z with
      | inl a => rfl
      | inr q' =>
        have hne : q' ≠ q := fun e => hj (gfk_sole h (e ▸ hg)).2
        simp [gupR, gbeq hne]
theorem grow_set {n j : Nat} (f g : Nat → Value) (v : Value) (h : ∀ j', j' < n → g j' = if j' = j then v else f j') : ((List.range n).map f).set j v = (List.range n).map g := by
  apply List.ext_getElem?
  intro i
  by_cases hi : i < n
  · by_cases hij : i = j
    · subst hij
      rw [List.getElem?_set_self (by simpa using hi)]
      simp [hi, h i hi]
    · rw [List.getElem?_set_ne (Ne.symm hij)]
      simp [hi, h i hi, hij]
  · rw [List.getElem?_eq_none (by simpa using hi), List.getElem?_eq_none (by simpa using hi)]
/-- the words that a method may use; those of nest mates -/
def gT : List Cond := lw_tbl.filter goodWord
def gIsNest : Cond → Bool
  | .methodLinkNest .. => true
  | .fieldLinkNest .. => true
  | _ => false
def gN : List Cond := tables_1.filter gIsNest
theorem gT_in {w : Cond} (h : w ∈ lw_tbl) (hg : goodWord w = true) : w ∈ gT := List.mem_filter.mpr ⟨h, hg⟩
theorem gT_of {w : Cond} (i : Nat) (h : tables_1[i]? = some w) (hg : goodWord w = true) : w ∈ gT := gT_in (List.mem_append_right _ (List.mem_of_getElem? h)) hg
theorem gT_sel {w : Cond} (i : Nat) (h : (k2_sels lw_privs)[i]? = some w) (hg : goodWord w = true) : w ∈ gT := gT_in (List.mem_append_left _ (List.mem_of_getElem? h)) hg
theorem gN_of {w : Cond} (i : Nat) (h : tables_1[i]? = some w) (hg : gIsNest w = true) : w ∈ gN := List.mem_filter.mpr ⟨List.mem_of_getElem? h, hg⟩
theorem gT_good {w : Cond} (h : w ∈ gT) : (w.onTables && w.keeps) = true ∨ ∃ ty, w = .arrayClass ty := good_of_word (List.mem_filter.mp h).2
theorem gT_goodIn : GoodIn gT gT := fun _ h => ⟨h, gT_good h⟩
theorem gN_tab {w : Cond} (h : w ∈ gN) : w.onTables = true := by
  have h2 := (List.mem_filter.mp h).2
  cases w <;> first | rfl | (simp [gIsNest] at h2)
theorem gN_warm {w : Cond} (h : w ∈ gN) {s U : State} (hW : s.WarmedH U.vm) (hZ : va_Nw w s) : va_Nw w U := by
  have h2 := (List.mem_filter.mp h).2
  cases w <;> first | exact va_Nw.warmF hW hZ | exact va_Nw.warmM hW hZ | (simp [gIsNest] at h2)
theorem gIn : ∀ q ∈ vwCl, ∀ w ∈ u_ws q.1 q.2.1 q.2.2, w ∈ lw_tbl := by decide +kernel
theorem gInG {ci : Nat} {C : String} {T : u_T} {N : Nat} (h : vwCl[ci]? = some (C, T, N)) : ∀ w ∈ u_ws C T N, w ∈ gT := by
  intro w hw
  refine gT_in (gIn _ (List.mem_of_getElem? h) w hw) ?_
  obtain ⟨j, -, rfl⟩ := List.mem_map.mp hw
  unfold u_lay
  split <;> rfl
/-- a class's number of fields, their types, their names -/
def gTyOf : Nat → Nat → FieldType
  | 0 => tyX0 | 1 => tyX1 | 2 => tyX2 | 3 => tyX3 | 4 => tyX4 | 5 => tyX5 | 6 => tyX6 | _ => tyX7
theorem gTyOk {ci : Nat} {C : String} {T : u_T} {N : Nat} (h : vwCl[ci]? = some (C, T, N)) : ∀ k, k < N → parseFieldDescriptor (T k).2.2.1 = some (gTyOf ci k) := by
  match ci, h with
  | 0, h => cases h; exact tyX0_ok
  | 1, h => cases h; exact tyX1_ok
  | 2, h => cases h; exact tyX2_ok
  | 3, h => cases h; exact tyX3_ok
  | 4, h => cases h; exact tyX4_ok
  | 5, h => cases h; exact tyX5_ok
  | 6, h => cases h; exact tyX6_ok
  | 7, h => cases h; exact tyX7_ok
  | k + 8, h => simp [vwCl] at h
theorem gNm {ci : Nat} {C : String} {T : u_T} {N : Nat} (h : vwCl[ci]? = some (C, T, N)) : ∀ a, a < N → ∀ b, b < N → a ≠ b → (T a).2.1 ≠ (T b).2.1 := by
  match ci, h with
  | 0, h => cases h; exact nmX0
  | 1, h => cases h; exact nmX1
  | 2, h => cases h; exact nmX2
  | 3, h => cases h; exact nmX3
  | 4, h => cases h; exact nmX4
  | 5, h => cases h; exact nmX5
  | 6, h => cases h; exact nmX6
  | 7, h => cases h; exact nmX7
  | k + 8, h => simp [vwCl] at h
/-- an object's kind is its class -/
theorem gK_cls : ∀ k, k < gNC → (gK k).1 < 8 → ∃ q, vwCl[(gK k).1]? = some q ∧ q.2.2 = (gK k).2 := by
  intro k hk h
  have key : ∀ k, k < gNC → (gK k).1 < 8 → ((vwCl.map (fun q => q.2.2))[(gK k).1]?) = some (gK k).2 := by decide +kernel
  have h2 := key k hk h
  rw [List.getElem?_map] at h2
  cases hq : vwCl[(gK k).1]? with
  | none => rw [hq] at h2; cases h2
  | some q => rw [hq] at h2; exact ⟨q, rfl, Option.some.inj h2⟩
end
section
/-! THE JUDGEMENT: from this pc, locals, stack and memory the method comes to its end with answer r and memory m' -/
/-- a method: its name, its bytes, its locals, what it returns -/
abbrev gM : Type := MethodName × ByteArray × Nat × Option FieldType
def gRm (d : Nat) : Room := { frames := d, cells := 0, slots := 0, locals := 64 * d + 64 }
def gch (j : Nat) : Int32 := bif j == 0 then 0 else bif j == 1 then 1 else bif j == 2 then 2 else 4
/-- what holds of the tables and of the cells that nobody writes, at a method's start -/
def gWd (O : gOm) (s : State) : Prop := (∀ w ∈ gN, va_Nw w s) ∧ va_K O.2.1 vwCl (gTys O) s ∧ (∀ i j, i < gNC → j < gNC → O.1 i = O.1 j → i = j) ∧ va_Z "ToldNineTimes$Outlook" "CHOICES" "[I" (.ref (O.1 69)) (gA O) s s.heap ∧ va_T .int (O.1 69) 4 (fun j => .int (gch j)) (gA O) s s.heap
def gCx (O : gOm) (K : gM) (p : Program) (s : State) (mi : MethodId) (args : Array Value) (meth : Method) (c : Code) : Prop :=
  p.tables.exec = Jvm.exec ∧ c.code = K.2.1 ∧ c.maxLocals = K.2.2.1 ∧ meth.sig.returnType = K.2.2.2 ∧ meth.locks = false ∧ s.vm.findClass K.1.cls = some mi.cls ∧ (∀ w ∈ gT, w.before args s = true) ∧ gWd O s
/-- the locals: null stands for what isn't known -/
def gLs (O : gOm) (L : List Value) (nL : Nat) (ls : Array Slot) : Prop := L.length = nL ∧ ls.size = nL ∧ lv_wf ls ∧ ∀ (i : Nat) (v : Value), L[i]? = some v → v ≠ .null → ls[i]? = some (.val (gv O.1 v))
def gQ (O : gOm) (r : Option Value) (m' : gMem) : Array Value → State → Outcome → State → Prop := fun _ st oc t => (oc = .returned (r.map (gv O.1)) ∧ va_P O.2.1 vwCl (gCells O m') t.heap) ∧ va_F (gA O) st t
def Go (O : gOm) (d : Nat) (K : gM) (r : Option Value) (m' : gMem) (pc : Nat) (L st : List Value) (m : gMem) : Prop :=
  ∀ (p : Program) (l : Launch) (e : Env) (s : State) (mi : MethodId) (args : Array Value) (below : List Frame) (meth : Method) (c : Code) (H : Heap) (locs : List Loc) (ls : Array Slot),
    gCx O K p s mi args meth c → va_P O.2.1 vwCl (gCells O m) H → va_S (gA O) s.heap H locs → gLs O L K.2.2.1 ls →
    W p l e (gRm d) s mi args below meth c H locs 0 0 (MQ below (gQ O r m') args s 0 0 (gA O)) (F0 mi pc ls (st.map (gv O.1)))
/-- locals behind a store; at a method's entry -/
def gc2 (v : Value) : Bool := v.category == 2
def gst (L : List Value) (i : Nat) (v : Value) : List Value :=
  (bif (i != 0) && ((L[i - 1]?).any gc2) then L.set (i - 1) .null else L).set i v
def gst2 (L : List Value) (i : Nat) (v : Value) : List Value := (gst L i v).set (i + 1) .null
def gsp : List Value → List Value
  | [] => []
  | v :: vs => bif gc2 v then v :: .null :: gsp vs else v :: gsp vs
def gent (as : List Value) (n : Nat) : List Value := gsp as ++ List.replicate (n - (gsp as).length) .null
def Ca (O : gOm) (d : Nat) (K : gM) (as : List Value) (r : Option Value) (m m' : gMem) : Prop := Go O d K r m' 0 (gent as K.2.2.1) [] m
theorem gD (O : gOm) (m : gMem) (h : ∀ i j, i < gNC → j < gNC → O.1 i = O.1 j → i = j) : va_D (gA O) (gCells O m) := by
  refine ⟨fun i j p q hp hq e => ?_, fun k q hq => ?_⟩
  · obtain ⟨h1, e1⟩ := gCells_lt O m hp
    obtain ⟨h2, e2⟩ := gCells_lt O m hq
    subst e1; subst e2
    exact h i j h1 h2 e
  · obtain ⟨h1, e1⟩ := gCells_lt O m hq
    subst e1
    exact ⟨k, h1, rfl⟩
/-- the kit's list of locals -/
def gLl (O : gOm) (L : List Value) : List (Nat × Value) := (List.range L.length).filterMap (fun i => match L[i]? with
  | some v => if v = .null then none else some (i, gv O.1 v)
  | none => none)
theorem gLl_mem {O : gOm} {L : List Value} {i : Nat} {w : Value} : (i, w) ∈ gLl O L ↔ ∃ v, L[i]? = some v ∧ v ≠ .null ∧ w = gv O.1 v := by
  constructor
  · intro h
    obtain ⟨j, hj, hv⟩ := List.mem_filterMap.mp h
    cases hL : L[j]? with
    | none => rw [hL] at hv; cases hv
    | some v =>
      rw [hL] at hv
      by_cases hn : v = .null
      · simp [hn] at hv
      · simp only [hn, if_false, Option.some.injEq, Prod.mk.injEq] at hv
        obtain ⟨e1, e2⟩ := hv
        subst e1
        exact ⟨v, hL, hn, e2.symm⟩
  · rintro ⟨v, h1, h2, h3⟩
    refine List.mem_filterMap.mpr ⟨i, List.mem_range.mpr (List.getElem?_eq_some_iff.mp h1).1, ?_⟩
    rw [h1]
    simp [h2, h3]
theorem gLs.has {O : gOm} {L : List Value} {nL : Nat} {ls : Array Slot} (h : gLs O L nL ls) : lv_has ls nL (gLl O L) := by
  obtain ⟨_, h1, h2, h3⟩ := h
  refine ⟨h1, h2, fun q hq => ?_⟩
  obtain ⟨i, w⟩ := q
  obtain ⟨v, a, b, c⟩ := gLl_mem.mp hq
  rw [c]
  exact h3 i v a b
theorem gst_len (L : List Value) (i : Nat) (v : Value) : (gst L i v).length = L.length := by
  unfold gst
  cases (i != 0) && ((L[i - 1]?).any gc2) <;> simp
theorem gst2_len (L : List Value) (i : Nat) (v : Value) : (gst2 L i v).length = L.length := by simp [gst2, gst_len]
theorem gst_at {L : List Value} {i j : Nat} {v w : Value} (hj : j ≠ i) (h : (gst L i v)[j]? = some w) (hw : w ≠ .null) : L[j]? = some w ∧ ¬ (j + 1 = i ∧ w.category = 2) := by
  unfold gst at h
  rw [List.getElem?_set_ne (Ne.symm hj)] at h
  cases hc : (i != 0) && ((L[i - 1]?).any gc2) with
  | false =>
    rw [hc] at h
    simp only [cond_false] at h
    refine ⟨h, fun hq => ?_⟩
    have e : i - 1 = j := by omega
    rw [e, h] at hc
    have : (i != 0) = true := by simp; omega
    rw [this] at hc
    simp [gc2, hq.2] at hc
  | true =>
    rw [hc] at h
    simp only [cond_true] at h
    by_cases hq : j = i - 1
    · rw [hq] at h
      rw [List.getElem?_set] at h
      split at h
      · split at h
        · cases h; exact absurd rfl hw
        · cases h
      · rename_i hx; exact absurd rfl hx
    · rw [List.getElem?_set_ne (Ne.symm hq)] at h
      refine ⟨h, fun hz => hq ?_⟩
      omega
theorem gLs.store1 {O : gOm} {L : List Value} {nL i : Nat} {ls ls' : Array Slot} {v : Value} (h : gLs O L nL ls) (hi : i < nL) (h' : lv_has ls' nL ((i, gv O.1 v) :: (gLl O L).filter (fun q => !(q.1 == i) && !(q.1 + 1 == i && q.2.category == 2)))) : gLs O (gst L i v) nL ls' := by
  refine ⟨(gst_len L i v).trans h.1, h'.1, h'.2.1, fun j w hj hw => ?_⟩
  by_cases hji : j = i
  · subst hji
    have e : (gst L j v)[j]? = some v := by
      unfold gst
      rw [List.getElem?_set_self]
      cases (j != 0) && ((L[j - 1]?).any gc2) <;> simp [h.1, hi]
    rw [e] at hj
    cases hj
    exact h'.2.2 (j, gv O.1 v) List.mem_cons_self
  · obtain ⟨a1, a2⟩ := gst_at hji hj hw
    refine h'.2.2 (j, gv O.1 w) (List.mem_cons_of_mem _ (List.mem_filter.mpr ⟨gLl_mem.mpr ⟨w, a1, hw, rfl⟩, ?_⟩))
    simp only [gcat]
    simp [hji]
    by_cases e : j + 1 = i
    · exact Or.inr (fun z => a2 ⟨e, z⟩)
    · exact Or.inl e
theorem gLs.store2 {O : gOm} {L : List Value} {nL i : Nat} {ls ls' : Array Slot} {v : Value} (h : gLs O L nL ls) (hi : i + 1 < nL) (h' : lv_has ls' nL ((i, gv O.1 v) :: (gLl O L).filter (fun q => !(q.1 == i) && (!(q.1 == i + 1) && !(q.1 + 1 == i && q.2.category == 2))))) : gLs O (gst2 L i v) nL ls' := by
  refine ⟨(gst2_len L i v).trans h.1, h'.1, h'.2.1, fun j w hj hw => ?_⟩
  unfold gst2 at hj
  by_cases hj1 : j = i + 1
  · subst hj1
    rw [List.getElem?_set] at hj
    split at hj
    · split at hj
      · cases hj; exact absurd rfl hw
      · cases hj
    · rename_i hx; exact absurd rfl hx
  · rw [List.getElem?_set_ne (Ne.symm hj1)] at hj
    by_cases hji : j = i
    · subst hji
      have e : (gst L j v)[j]? = some v := by
        unfold gst
        rw [List.getElem?_set_self]
        cases (j != 0) && ((L[j - 1]?).any gc2) <;> simp [h.1] <;> omega
      rw [e] at hj
      cases hj
      exact h'.2.2 (j, gv O.1 v) List.mem_cons_self
    · obtain ⟨a1, a2⟩ := gst_at hji hj hw
      refine h'.2.2 (j, gv O.1 w) (List.mem_cons_of_mem _ (List.mem_filter.mpr ⟨gLl_mem.mpr ⟨w, a1, hw, rfl⟩, ?_⟩))
      simp only [gcat]
      simp [hji, hj1]
      by_cases e : j + 1 = i
      · exact Or.inr (fun z => a2 ⟨e, z⟩)
      · exact Or.inl e
theorem gsp_args (O : gOm) : ∀ (as : List Value) (b i : Nat) (v : Value), (gsp as)[i]? = some v → v ≠ .null → (b + i, gv O.1 v) ∈ lv_args b (as.map (gv O.1))
  | [], b, i, v, h, _ => by simp [gsp] at h
  | a :: as, b, i, v, h, hv => by
    simp only [List.map_cons, lv_args, gcat]
    unfold gsp at h
    by_cases hc : a.category = 2
    · simp only [gc2, hc, beq_self_eq_true, cond_true] at h
      rw [if_pos hc]
      match i, h with
      | 0, h => simp at h; subst h; exact List.mem_cons_self
      | 1, h => simp at h; exact absurd h.symm hv
      | i + 2, h =>
        refine List.mem_cons_of_mem _ ?_
        have := gsp_args O as (b + 2) i v (by simpa using h) hv
        rwa [show b + 2 + i = b + (i + 2) by omega] at this
    · have hc' : (a.category == 2) = false := by simp [hc]
      simp only [gc2, hc', cond_false] at h
      rw [if_neg hc]
      match i, h with
      | 0, h => simp at h; subst h; exact List.mem_cons_self
      | i + 1, h =>
        refine List.mem_cons_of_mem _ ?_
        have := gsp_args O as (b + 1) i v (by simpa using h) hv
        rwa [show b + 1 + i = b + (i + 1) by omega] at this
theorem gsp_len (O : gOm) : ∀ as : List Value, (lg_sl (as.map (gv O.1))).length = (gsp as).length
  | [] => rfl
  | a :: as => by
    have ih := gsp_len O as
    unfold lg_sl at ih ⊢
    rw [List.map_cons, List.flatMap_cons, List.length_append, ih, gcat]
    show _ = (bif gc2 a then a :: .null :: gsp as else a :: gsp as).length
    by_cases hc : a.category = 2
    · simp [gc2, hc]; omega
    · have hc' : (a.category == 2) = false := by simp [hc]
      simp only [gc2, hc', cond_false, if_neg hc, List.length_cons, List.length_nil]
      omega
theorem gLs.entry (O : gOm) (as : List Value) {n : Nat} (h : (gsp as).length ≤ n) : gLs O (gent as n) n ((lg_sl (as.map (gv O.1)) ++ List.replicate (n - (lg_sl (as.map (gv O.1))).length) Slot.unset).toArray) := by
  have h0 := lv_entry (as.map (gv O.1)) (n := n) (by rw [gsp_len]; exact h)
  refine ⟨by simp [gent]; omega, h0.1, h0.2.1, fun i v hi hv => ?_⟩
  by_cases hl : i < (gsp as).length
  · unfold gent at hi
    rw [List.getElem?_append_left hl] at hi
    have := gsp_args O as 0 i v hi hv
    rw [Nat.zero_add] at this
    exact h0.2.2 _ this
  · unfold gent at hi
    rw [List.getElem?_append_right (by omega)] at hi
    rw [List.getElem?_replicate] at hi
    split at hi
    · cases hi; exact absurd rfl hv
    · cases hi
section GoRows
variable {O : gOm} {d : Nat} {K : gM} {r : Option Value} {m m' : gMem} {pc : Nat} {L st : List Value}
theorem go_iconst {n : Int} (v : Int32) (hd : decode K.2.1 pc = .ok (.iconst n, 1)) (hv : Int32.ofInt n = v) (k : Go O d K r m' (pc + 1) L (.int v :: st) m) : Go O d K r m' pc L (st) m := fun p l e s mi as bl me c H lo ls hC hP hS hL => lv_iconst hC.1 hC.2.1 hd hv (k p l e s mi as bl me c H lo ls hC hP hS hL)
theorem go_bipush {n : Int} (v : Int32) (hd : decode K.2.1 pc = .ok (.bipush n, 2)) (hv : (Int8.ofInt n).toInt32 = v) (k : Go O d K r m' (pc + 2) L (.int v :: st) m) : Go O d K r m' pc L (st) m := fun p l e s mi as bl me c H lo ls hC hP hS hL => lv_bipush hC.1 hC.2.1 hd hv (k p l e s mi as bl me c H lo ls hC hP hS hL)
theorem go_sipush {n : Int} (v : Int32) (hd : decode K.2.1 pc = .ok (.sipush n, 3)) (hv : (Int16.ofInt n).toInt32 = v) (k : Go O d K r m' (pc + 3) L (.int v :: st) m) : Go O d K r m' pc L (st) m := fun p l e s mi as bl me c H lo ls hC hP hS hL => lv_sipush hC.1 hC.2.1 hd hv (k p l e s mi as bl me c H lo ls hC hP hS hL)
theorem go_lconst {n : Fin 2} (v : Int64) (hd : decode K.2.1 pc = .ok (.lconst n, 1)) (hv : Int64.ofNat (n : Nat) = v) (k : Go O d K r m' (pc + 1) L (.long v :: st) m) : Go O d K r m' pc L (st) m := fun p l e s mi as bl me c H lo ls hC hP hS hL => lv_lconst hC.1 hC.2.1 hd hv (k p l e s mi as bl me c H lo ls hC hP hS hL)
theorem go_ldc {ix : Nat} {v : Int32} (hw : Cond.constant K.1.cls ix v ∈ gT) (hd : decode K.2.1 pc = .ok (.ldc ix, 2)) (k : Go O d K r m' (pc + 2) L (.int v :: st) m) : Go O d K r m' pc L (st) m := fun p l e s mi as bl me c H lo ls hC hP hS hL => lv_ldc hC.1 hC.2.1 hC.2.2.2.2.2.1 (hC.2.2.2.2.2.2.1 _ hw) hd (k p l e s mi as bl me c H lo ls hC hP hS hL)
theorem go_ldcw {ix : Nat} {v : Int32} (hw : Cond.constant K.1.cls ix v ∈ gT) (hd : decode K.2.1 pc = .ok (.ldc_w ix, 3)) (k : Go O d K r m' (pc + 3) L (.int v :: st) m) : Go O d K r m' pc L (st) m := fun p l e s mi as bl me c H lo ls hC hP hS hL => lv_ldcw hC.1 hC.2.1 hC.2.2.2.2.2.1 (hC.2.2.2.2.2.2.1 _ hw) hd (k p l e s mi as bl me c H lo ls hC hP hS hL)
theorem go_ldc2 {ix : Nat} {v : Int64} (hw : Cond.constantLong K.1.cls ix v ∈ gT) (hd : decode K.2.1 pc = .ok (.ldc2_w ix, 3)) (k : Go O d K r m' (pc + 3) L (.long v :: st) m) : Go O d K r m' pc L (st) m := fun p l e s mi as bl me c H lo ls hC hP hS hL => lv_ldc2 hC.1 hC.2.1 hC.2.2.2.2.2.1 (hC.2.2.2.2.2.2.1 _ hw) hd (k p l e s mi as bl me c H lo ls hC hP hS hL)
theorem go_iload_n {i : Fin 4} {x : Int32} (hd : decode K.2.1 pc = .ok (.iload_n i, 1)) (hl : L[(i : Nat)]? = some (.int x)) (k : Go O d K r m' (pc + 1) L (.int x :: st) m) : Go O d K r m' pc L (st) m := fun p l e s mi as bl me c H lo ls hC hP hS hL => lv_iload_n hC.1 hC.2.1 hd rfl (hL.2.2.2 _ _ hl (fun h => by cases h)) (k p l e s mi as bl me c H lo ls hC hP hS hL)
theorem go_iload {i : Nat} {x : Int32} (hd : decode K.2.1 pc = .ok (.iload i, 2)) (hl : L[i]? = some (.int x)) (k : Go O d K r m' (pc + 2) L (.int x :: st) m) : Go O d K r m' pc L (st) m := fun p l e s mi as bl me c H lo ls hC hP hS hL => lv_iload hC.1 hC.2.1 hd (hL.2.2.2 _ _ hl (fun h => by cases h)) (k p l e s mi as bl me c H lo ls hC hP hS hL)
theorem go_istore_n {i : Fin 4} {x : Int32} {L' : List Value} (hd : decode K.2.1 pc = .ok (.istore_n i, 1)) (hi : (i : Nat) < K.2.2.1) (hl : gst L i (.int x) = L') (k : Go O d K r m' (pc + 1) L' st m) : Go O d K r m' pc L (.int x :: st) m := fun p l e s mi as bl me c H lo ls hC hP hS hL => lv_istore_n hC.1 hC.2.1 hd rfl hL.has hi rfl (fun ls' h' => k p l e s mi as bl me c H lo ls' hC hP hS (hl ▸ hL.store1 (v := .int x) hi h'))
theorem go_istore {i : Nat} {x : Int32} {L' : List Value} (hd : decode K.2.1 pc = .ok (.istore i, 2)) (hi : (i : Nat) < K.2.2.1) (hl : gst L i (.int x) = L') (k : Go O d K r m' (pc + 2) L' st m) : Go O d K r m' pc L (.int x :: st) m := fun p l e s mi as bl me c H lo ls hC hP hS hL => lv_istore hC.1 hC.2.1 hd hL.has hi rfl (fun ls' h' => k p l e s mi as bl me c H lo ls' hC hP hS (hl ▸ hL.store1 (v := .int x) hi h'))
theorem go_lload_n {i : Fin 4} {x : Int64} (hd : decode K.2.1 pc = .ok (.lload_n i, 1)) (hl : L[(i : Nat)]? = some (.long x)) (k : Go O d K r m' (pc + 1) L (.long x :: st) m) : Go O d K r m' pc L (st) m := fun p l e s mi as bl me c H lo ls hC hP hS hL => lv_lload_n hC.1 hC.2.1 hd rfl (hL.2.2.2 _ _ hl (fun h => by cases h)) (k p l e s mi as bl me c H lo ls hC hP hS hL)
theorem go_lload {i : Nat} {x : Int64} (hd : decode K.2.1 pc = .ok (.lload i, 2)) (hl : L[i]? = some (.long x)) (k : Go O d K r m' (pc + 2) L (.long x :: st) m) : Go O d K r m' pc L (st) m := fun p l e s mi as bl me c H lo ls hC hP hS hL => lv_lload hC.1 hC.2.1 hd (hL.2.2.2 _ _ hl (fun h => by cases h)) (k p l e s mi as bl me c H lo ls hC hP hS hL)
theorem go_lstore_n {i : Fin 4} {x : Int64} {L' : List Value} (hd : decode K.2.1 pc = .ok (.lstore_n i, 1)) (hi : (i : Nat) + 1 < K.2.2.1) (hl : gst2 L i (.long x) = L') (k : Go O d K r m' (pc + 1) L' st m) : Go O d K r m' pc L (.long x :: st) m := fun p l e s mi as bl me c H lo ls hC hP hS hL => lv_lstore_n hC.1 hC.2.1 hd rfl hL.has hi rfl (fun ls' h' => k p l e s mi as bl me c H lo ls' hC hP hS (hl ▸ hL.store2 (v := .long x) hi h'))
theorem go_lstore {i : Nat} {x : Int64} {L' : List Value} (hd : decode K.2.1 pc = .ok (.lstore i, 2)) (hi : (i : Nat) + 1 < K.2.2.1) (hl : gst2 L i (.long x) = L') (k : Go O d K r m' (pc + 2) L' st m) : Go O d K r m' pc L (.long x :: st) m := fun p l e s mi as bl me c H lo ls hC hP hS hL => lv_lstore hC.1 hC.2.1 hd hL.has hi rfl (fun ls' h' => k p l e s mi as bl me c H lo ls' hC hP hS (hl ▸ hL.store2 (v := .long x) hi h'))
theorem go_aload_n {i : Fin 4} {x : Nat} (hd : decode K.2.1 pc = .ok (.aload_n i, 1)) (hl : L[(i : Nat)]? = some (.ref x)) (k : Go O d K r m' (pc + 1) L (.ref x :: st) m) : Go O d K r m' pc L (st) m := fun p l e s mi as bl me c H lo ls hC hP hS hL => lv_aload_n hC.1 hC.2.1 hd rfl (hL.2.2.2 _ _ hl (fun h => by cases h)) (k p l e s mi as bl me c H lo ls hC hP hS hL)
theorem go_aload {i : Nat} {x : Nat} (hd : decode K.2.1 pc = .ok (.aload i, 2)) (hl : L[i]? = some (.ref x)) (k : Go O d K r m' (pc + 2) L (.ref x :: st) m) : Go O d K r m' pc L (st) m := fun p l e s mi as bl me c H lo ls hC hP hS hL => lv_aload hC.1 hC.2.1 hd (hL.2.2.2 _ _ hl (fun h => by cases h)) (k p l e s mi as bl me c H lo ls hC hP hS hL)
theorem go_astore_n {i : Fin 4} {x : Nat} {L' : List Value} (hd : decode K.2.1 pc = .ok (.astore_n i, 1)) (hi : (i : Nat) < K.2.2.1) (hl : gst L i (.ref x) = L') (k : Go O d K r m' (pc + 1) L' st m) : Go O d K r m' pc L (.ref x :: st) m := fun p l e s mi as bl me c H lo ls hC hP hS hL => lv_astore_n hC.1 hC.2.1 hd rfl hL.has hi rfl (fun ls' h' => k p l e s mi as bl me c H lo ls' hC hP hS (hl ▸ hL.store1 (v := .ref x) hi h'))
theorem go_astore {i : Nat} {x : Nat} {L' : List Value} (hd : decode K.2.1 pc = .ok (.astore i, 2)) (hi : (i : Nat) < K.2.2.1) (hl : gst L i (.ref x) = L') (k : Go O d K r m' (pc + 2) L' st m) : Go O d K r m' pc L (.ref x :: st) m := fun p l e s mi as bl me c H lo ls hC hP hS hL => lv_astore hC.1 hC.2.1 hd hL.has hi rfl (fun ls' h' => k p l e s mi as bl me c H lo ls' hC hP hS (hl ▸ hL.store1 (v := .ref x) hi h'))
theorem go_iinc {i : Nat} {n : Int} {x v : Int32} {L' : List Value} (hd : decode K.2.1 pc = .ok (.iinc i n, 3)) (hx : L[i]? = some (.int x)) (hi : i < K.2.2.1) (hv : x + Int32.ofInt n = v) (hl : gst L i (.int v) = L') (k : Go O d K r m' (pc + 3) L' st m) : Go O d K r m' pc L st m := by
  intro p l e s mi as bl me c H lo ls hC hP hS hL
  obtain ⟨j, hj⟩ := List.getElem?_of_mem (gLl_mem (O := O).mpr ⟨.int x, hx, (fun h => by cases h), rfl⟩)
  exact lv_iinc (k := j) hC.1 hC.2.1 hd hL.has hj hv hi rfl (fun ls' h' => k p l e s mi as bl me c H lo ls' hC hP hS (hl ▸ hL.store1 (v := .int v) hi h'))
theorem go_iadd {x y v : Int32} (hd : decode K.2.1 pc = .ok (.iadd, 1)) (hv : x + y = v) (k : Go O d K r m' (pc + 1) L (.int v :: st) m) : Go O d K r m' pc L (.int y :: .int x :: st) m := fun p l e s mi as bl me c H lo ls hC hP hS hL => lv_iadd hC.1 hC.2.1 hd (hv ▸ (k p l e s mi as bl me c H lo ls hC hP hS hL))
theorem go_isub {x y v : Int32} (hd : decode K.2.1 pc = .ok (.isub, 1)) (hv : x - y = v) (k : Go O d K r m' (pc + 1) L (.int v :: st) m) : Go O d K r m' pc L (.int y :: .int x :: st) m := fun p l e s mi as bl me c H lo ls hC hP hS hL => lv_isub hC.1 hC.2.1 hd (hv ▸ (k p l e s mi as bl me c H lo ls hC hP hS hL))
theorem go_imul {x y v : Int32} (hd : decode K.2.1 pc = .ok (.imul, 1)) (hv : x * y = v) (k : Go O d K r m' (pc + 1) L (.int v :: st) m) : Go O d K r m' pc L (.int y :: .int x :: st) m := fun p l e s mi as bl me c H lo ls hC hP hS hL => lv_imul hC.1 hC.2.1 hd (hv ▸ (k p l e s mi as bl me c H lo ls hC hP hS hL))
theorem go_iand {x y v : Int32} (hd : decode K.2.1 pc = .ok (.iand, 1)) (hv : x &&& y = v) (k : Go O d K r m' (pc + 1) L (.int v :: st) m) : Go O d K r m' pc L (.int y :: .int x :: st) m := fun p l e s mi as bl me c H lo ls hC hP hS hL => lv_iand hC.1 hC.2.1 hd (hv ▸ (k p l e s mi as bl me c H lo ls hC hP hS hL))
theorem go_ior {x y v : Int32} (hd : decode K.2.1 pc = .ok (.ior, 1)) (hv : x ||| y = v) (k : Go O d K r m' (pc + 1) L (.int v :: st) m) : Go O d K r m' pc L (.int y :: .int x :: st) m := fun p l e s mi as bl me c H lo ls hC hP hS hL => lv_ior hC.1 hC.2.1 hd (hv ▸ (k p l e s mi as bl me c H lo ls hC hP hS hL))
theorem go_ixor {x y v : Int32} (hd : decode K.2.1 pc = .ok (.ixor, 1)) (hv : x ^^^ y = v) (k : Go O d K r m' (pc + 1) L (.int v :: st) m) : Go O d K r m' pc L (.int y :: .int x :: st) m := fun p l e s mi as bl me c H lo ls hC hP hS hL => lv_ixor hC.1 hC.2.1 hd (hv ▸ (k p l e s mi as bl me c H lo ls hC hP hS hL))
theorem go_ishl {x y v : Int32} (hd : decode K.2.1 pc = .ok (.ishl, 1)) (hv : x <<< (y &&& 31) = v) (k : Go O d K r m' (pc + 1) L (.int v :: st) m) : Go O d K r m' pc L (.int y :: .int x :: st) m := fun p l e s mi as bl me c H lo ls hC hP hS hL => lv_ishl hC.1 hC.2.1 hd (hv ▸ (k p l e s mi as bl me c H lo ls hC hP hS hL))
theorem go_ishr {x y v : Int32} (hd : decode K.2.1 pc = .ok (.ishr, 1)) (hv : x >>> (y &&& 31) = v) (k : Go O d K r m' (pc + 1) L (.int v :: st) m) : Go O d K r m' pc L (.int y :: .int x :: st) m := fun p l e s mi as bl me c H lo ls hC hP hS hL => lv_ishr hC.1 hC.2.1 hd (hv ▸ (k p l e s mi as bl me c H lo ls hC hP hS hL))
theorem go_idiv {x y v : Int32} (hd : decode K.2.1 pc = .ok (.idiv, 1)) (hne : ¬ y = 0) (hv : x / y = v) (k : Go O d K r m' (pc + 1) L (.int v :: st) m) : Go O d K r m' pc L (.int y :: .int x :: st) m := fun p l e s mi as bl me c H lo ls hC hP hS hL => lv_idiv hC.1 hC.2.1 hd hne (hv ▸ (k p l e s mi as bl me c H lo ls hC hP hS hL))
theorem go_irem {x y v : Int32} (hd : decode K.2.1 pc = .ok (.irem, 1)) (hne : ¬ y = 0) (hv : x - x / y * y = v) (k : Go O d K r m' (pc + 1) L (.int v :: st) m) : Go O d K r m' pc L (.int y :: .int x :: st) m := fun p l e s mi as bl me c H lo ls hC hP hS hL => lv_irem hC.1 hC.2.1 hd hne (hv ▸ (k p l e s mi as bl me c H lo ls hC hP hS hL))
theorem go_iushr {x y v : Int32} (hd : decode K.2.1 pc = .ok (.iushr, 1)) (hv : (x.toUInt32 >>> (y.toUInt32 &&& Int32.toUInt32 31)).toInt32 = v) (k : Go O d K r m' (pc + 1) L (.int v :: st) m) : Go O d K r m' pc L (.int y :: .int x :: st) m := fun p l e s mi as bl me c H lo ls hC hP hS hL => lv_iushr hC.1 hC.2.1 hd hv (k p l e s mi as bl me c H lo ls hC hP hS hL)
theorem go_ladd {x y v : Int64} (hd : decode K.2.1 pc = .ok (.ladd, 1)) (hv : x + y = v) (k : Go O d K r m' (pc + 1) L (.long v :: st) m) : Go O d K r m' pc L (.long y :: .long x :: st) m := fun p l e s mi as bl me c H lo ls hC hP hS hL => lv_ladd hC.1 hC.2.1 hd (hv ▸ (k p l e s mi as bl me c H lo ls hC hP hS hL))
theorem go_lsub {x y v : Int64} (hd : decode K.2.1 pc = .ok (.lsub, 1)) (hv : x - y = v) (k : Go O d K r m' (pc + 1) L (.long v :: st) m) : Go O d K r m' pc L (.long y :: .long x :: st) m := fun p l e s mi as bl me c H lo ls hC hP hS hL => lv_lsub hC.1 hC.2.1 hd (hv ▸ (k p l e s mi as bl me c H lo ls hC hP hS hL))
theorem go_lmul {x y v : Int64} (hd : decode K.2.1 pc = .ok (.lmul, 1)) (hv : x * y = v) (k : Go O d K r m' (pc + 1) L (.long v :: st) m) : Go O d K r m' pc L (.long y :: .long x :: st) m := fun p l e s mi as bl me c H lo ls hC hP hS hL => lv_lmul hC.1 hC.2.1 hd (hv ▸ (k p l e s mi as bl me c H lo ls hC hP hS hL))
theorem go_land {x y v : Int64} (hd : decode K.2.1 pc = .ok (.land, 1)) (hv : x &&& y = v) (k : Go O d K r m' (pc + 1) L (.long v :: st) m) : Go O d K r m' pc L (.long y :: .long x :: st) m := fun p l e s mi as bl me c H lo ls hC hP hS hL => lv_land hC.1 hC.2.1 hd (hv ▸ (k p l e s mi as bl me c H lo ls hC hP hS hL))
theorem go_lor {x y v : Int64} (hd : decode K.2.1 pc = .ok (.lor, 1)) (hv : x ||| y = v) (k : Go O d K r m' (pc + 1) L (.long v :: st) m) : Go O d K r m' pc L (.long y :: .long x :: st) m := fun p l e s mi as bl me c H lo ls hC hP hS hL => lv_lor hC.1 hC.2.1 hd (hv ▸ (k p l e s mi as bl me c H lo ls hC hP hS hL))
theorem go_ldiv {x y v : Int64} (hd : decode K.2.1 pc = .ok (.ldiv, 1)) (hne : ¬ y = 0) (hv : x / y = v) (k : Go O d K r m' (pc + 1) L (.long v :: st) m) : Go O d K r m' pc L (.long y :: .long x :: st) m := fun p l e s mi as bl me c H lo ls hC hP hS hL => lv_ldiv hC.1 hC.2.1 hd hne (hv ▸ (k p l e s mi as bl me c H lo ls hC hP hS hL))
theorem go_lrem {x y v : Int64} (hd : decode K.2.1 pc = .ok (.lrem, 1)) (hne : ¬ y = 0) (hv : x - x / y * y = v) (k : Go O d K r m' (pc + 1) L (.long v :: st) m) : Go O d K r m' pc L (.long y :: .long x :: st) m := fun p l e s mi as bl me c H lo ls hC hP hS hL => lv_lrem hC.1 hC.2.1 hd hne (hv ▸ (k p l e s mi as bl me c H lo ls hC hP hS hL))
theorem go_lushr {x v : Int64} {y : Int32} (hd : decode K.2.1 pc = .ok (.lushr, 1)) (hv : (x.toUInt64 >>> (y.toInt64.toUInt64 &&& Int64.toUInt64 63)).toInt64 = v) (k : Go O d K r m' (pc + 1) L (.long v :: st) m) : Go O d K r m' pc L (.int y :: .long x :: st) m := fun p l e s mi as bl me c H lo ls hC hP hS hL => lv_lushr hC.1 hC.2.1 hd hv (k p l e s mi as bl me c H lo ls hC hP hS hL)
theorem go_lshl {x v : Int64} {y : Int32} (hd : decode K.2.1 pc = .ok (.lshl, 1)) (hv : x <<< (y.toInt64 &&& 63) = v) (k : Go O d K r m' (pc + 1) L (.long v :: st) m) : Go O d K r m' pc L (.int y :: .long x :: st) m := fun p l e s mi as bl me c H lo ls hC hP hS hL => lv_lshl hC.1 hC.2.1 hd hv (k p l e s mi as bl me c H lo ls hC hP hS hL)
theorem go_lshr {x v : Int64} {y : Int32} (hd : decode K.2.1 pc = .ok (.lshr, 1)) (hv : x >>> (y.toInt64 &&& 63) = v) (k : Go O d K r m' (pc + 1) L (.long v :: st) m) : Go O d K r m' pc L (.int y :: .long x :: st) m := fun p l e s mi as bl me c H lo ls hC hP hS hL => lv_lshr hC.1 hC.2.1 hd hv (k p l e s mi as bl me c H lo ls hC hP hS hL)
theorem go_lcmp {x y : Int64} {v : Int32} (hd : decode K.2.1 pc = .ok (.lcmp, 1)) (hv : lg_cmp x y = v) (k : Go O d K r m' (pc + 1) L (.int v :: st) m) : Go O d K r m' pc L (.long y :: .long x :: st) m := fun p l e s mi as bl me c H lo ls hC hP hS hL => W.lcmp hC.1 hC.2.1 hd (hv ▸ (k p l e s mi as bl me c H lo ls hC hP hS hL))
theorem go_i2l {x : Int32} {v : Int64} (hd : decode K.2.1 pc = .ok (.i2l, 1)) (hv : x.toInt64 = v) (k : Go O d K r m' (pc + 1) L (.long v :: st) m) : Go O d K r m' pc L (.int x :: st) m := fun p l e s mi as bl me c H lo ls hC hP hS hL => lv_i2l hC.1 hC.2.1 hd hv (k p l e s mi as bl me c H lo ls hC hP hS hL)
theorem go_l2i {x : Int64} {v : Int32} (hd : decode K.2.1 pc = .ok (.l2i, 1)) (hv : x.toInt32 = v) (k : Go O d K r m' (pc + 1) L (.int v :: st) m) : Go O d K r m' pc L (.long x :: st) m := fun p l e s mi as bl me c H lo ls hC hP hS hL => lv_l2i hC.1 hC.2.1 hd hv (k p l e s mi as bl me c H lo ls hC hP hS hL)
theorem go_dup {v : Value} (hd : decode K.2.1 pc = .ok (.dup, 1)) (hc : v.category = 1) (k : Go O d K r m' (pc + 1) L (v :: v :: st) m) : Go O d K r m' pc L (v :: st) m := fun p l e s mi as bl me c H lo ls hC hP hS hL => lv_dup hC.1 hC.2.1 hd ((gcat O.1 v).trans hc) (k p l e s mi as bl me c H lo ls hC hP hS hL)
theorem go_pop {v : Value} (hd : decode K.2.1 pc = .ok (.pop, 1)) (hc : v.category = 1) (k : Go O d K r m' (pc + 1) L (st) m) : Go O d K r m' pc L (v :: st) m := fun p l e s mi as bl me c H lo ls hC hP hS hL => lv_pop hC.1 hC.2.1 hd ((gcat O.1 v).trans hc) (k p l e s mi as bl me c H lo ls hC hP hS hL)
theorem go_dup2 {v w : Value} (hd : decode K.2.1 pc = .ok (.dup2, 1)) (hc : v.category = 1) (hc2 : w.category = 1) (k : Go O d K r m' (pc + 1) L (v :: w :: v :: w :: st) m) : Go O d K r m' pc L (v :: w :: st) m := fun p l e s mi as bl me c H lo ls hC hP hS hL => lv_dup2_11 hC.1 hC.2.1 hd ((gcat O.1 v).trans hc) ((gcat O.1 w).trans hc2) (k p l e s mi as bl me c H lo ls hC hP hS hL)
theorem go_if_eq {x : Int32} {off : Int} (tgt : Nat) (hd : decode K.2.1 pc = .ok (.ifCond .eq off, 3)) (ht : (pc : Int) + off = (tgt : Int)) (kt : x = 0 → Go O d K r m' tgt L st m) (kf : ¬ x = 0 → Go O d K r m' (pc + 3) L st m) : Go O d K r m' pc L (.int x :: st) m := fun p l e s mi as bl me c H lo ls hC hP hS hL => lv_if_eq hC.1 hC.2.1 hd ht (fun h => kt h p l e s mi as bl me c H lo ls hC hP hS hL) (fun h => kf h p l e s mi as bl me c H lo ls hC hP hS hL)
theorem go_icmp_eq {x y : Int32} {off : Int} (tgt : Nat) (hd : decode K.2.1 pc = .ok (.if_icmp .eq off, 3)) (ht : (pc : Int) + off = (tgt : Int)) (kt : x = y → Go O d K r m' tgt L st m) (kf : ¬ x = y → Go O d K r m' (pc + 3) L st m) : Go O d K r m' pc L (.int y :: .int x :: st) m := fun p l e s mi as bl me c H lo ls hC hP hS hL => lv_icmp_eq hC.1 hC.2.1 hd ht (fun h => kt h p l e s mi as bl me c H lo ls hC hP hS hL) (fun h => kf h p l e s mi as bl me c H lo ls hC hP hS hL)
theorem go_if_ne {x : Int32} {off : Int} (tgt : Nat) (hd : decode K.2.1 pc = .ok (.ifCond .ne off, 3)) (ht : (pc : Int) + off = (tgt : Int)) (kt : ¬ x = 0 → Go O d K r m' tgt L st m) (kf : x = 0 → Go O d K r m' (pc + 3) L st m) : Go O d K r m' pc L (.int x :: st) m := fun p l e s mi as bl me c H lo ls hC hP hS hL => lv_if_ne hC.1 hC.2.1 hd ht (fun h => kt h p l e s mi as bl me c H lo ls hC hP hS hL) (fun h => kf h p l e s mi as bl me c H lo ls hC hP hS hL)
theorem go_icmp_ne {x y : Int32} {off : Int} (tgt : Nat) (hd : decode K.2.1 pc = .ok (.if_icmp .ne off, 3)) (ht : (pc : Int) + off = (tgt : Int)) (kt : ¬ x = y → Go O d K r m' tgt L st m) (kf : x = y → Go O d K r m' (pc + 3) L st m) : Go O d K r m' pc L (.int y :: .int x :: st) m := fun p l e s mi as bl me c H lo ls hC hP hS hL => lv_icmp_ne hC.1 hC.2.1 hd ht (fun h => kt h p l e s mi as bl me c H lo ls hC hP hS hL) (fun h => kf h p l e s mi as bl me c H lo ls hC hP hS hL)
theorem go_if_lt {x : Int32} {off : Int} (tgt : Nat) (hd : decode K.2.1 pc = .ok (.ifCond .lt off, 3)) (ht : (pc : Int) + off = (tgt : Int)) (kt : x < 0 → Go O d K r m' tgt L st m) (kf : ¬ x < 0 → Go O d K r m' (pc + 3) L st m) : Go O d K r m' pc L (.int x :: st) m := fun p l e s mi as bl me c H lo ls hC hP hS hL => lv_if_lt hC.1 hC.2.1 hd ht (fun h => kt h p l e s mi as bl me c H lo ls hC hP hS hL) (fun h => kf h p l e s mi as bl me c H lo ls hC hP hS hL)
theorem go_icmp_lt {x y : Int32} {off : Int} (tgt : Nat) (hd : decode K.2.1 pc = .ok (.if_icmp .lt off, 3)) (ht : (pc : Int) + off = (tgt : Int)) (kt : x < y → Go O d K r m' tgt L st m) (kf : ¬ x < y → Go O d K r m' (pc + 3) L st m) : Go O d K r m' pc L (.int y :: .int x :: st) m := fun p l e s mi as bl me c H lo ls hC hP hS hL => lv_icmp_lt hC.1 hC.2.1 hd ht (fun h => kt h p l e s mi as bl me c H lo ls hC hP hS hL) (fun h => kf h p l e s mi as bl me c H lo ls hC hP hS hL)
theorem go_if_ge {x : Int32} {off : Int} (tgt : Nat) (hd : decode K.2.1 pc = .ok (.ifCond .ge off, 3)) (ht : (pc : Int) + off = (tgt : Int)) (kt : 0 ≤ x → Go O d K r m' tgt L st m) (kf : ¬ 0 ≤ x → Go O d K r m' (pc + 3) L st m) : Go O d K r m' pc L (.int x :: st) m := fun p l e s mi as bl me c H lo ls hC hP hS hL => lv_if_ge hC.1 hC.2.1 hd ht (fun h => kt h p l e s mi as bl me c H lo ls hC hP hS hL) (fun h => kf h p l e s mi as bl me c H lo ls hC hP hS hL)
theorem go_icmp_ge {x y : Int32} {off : Int} (tgt : Nat) (hd : decode K.2.1 pc = .ok (.if_icmp .ge off, 3)) (ht : (pc : Int) + off = (tgt : Int)) (kt : y ≤ x → Go O d K r m' tgt L st m) (kf : ¬ y ≤ x → Go O d K r m' (pc + 3) L st m) : Go O d K r m' pc L (.int y :: .int x :: st) m := fun p l e s mi as bl me c H lo ls hC hP hS hL => lv_icmp_ge hC.1 hC.2.1 hd ht (fun h => kt h p l e s mi as bl me c H lo ls hC hP hS hL) (fun h => kf h p l e s mi as bl me c H lo ls hC hP hS hL)
theorem go_if_gt {x : Int32} {off : Int} (tgt : Nat) (hd : decode K.2.1 pc = .ok (.ifCond .gt off, 3)) (ht : (pc : Int) + off = (tgt : Int)) (kt : 0 < x → Go O d K r m' tgt L st m) (kf : ¬ 0 < x → Go O d K r m' (pc + 3) L st m) : Go O d K r m' pc L (.int x :: st) m := fun p l e s mi as bl me c H lo ls hC hP hS hL => lv_if_gt hC.1 hC.2.1 hd ht (fun h => kt h p l e s mi as bl me c H lo ls hC hP hS hL) (fun h => kf h p l e s mi as bl me c H lo ls hC hP hS hL)
theorem go_icmp_gt {x y : Int32} {off : Int} (tgt : Nat) (hd : decode K.2.1 pc = .ok (.if_icmp .gt off, 3)) (ht : (pc : Int) + off = (tgt : Int)) (kt : y < x → Go O d K r m' tgt L st m) (kf : ¬ y < x → Go O d K r m' (pc + 3) L st m) : Go O d K r m' pc L (.int y :: .int x :: st) m := fun p l e s mi as bl me c H lo ls hC hP hS hL => lv_icmp_gt hC.1 hC.2.1 hd ht (fun h => kt h p l e s mi as bl me c H lo ls hC hP hS hL) (fun h => kf h p l e s mi as bl me c H lo ls hC hP hS hL)
theorem go_if_le {x : Int32} {off : Int} (tgt : Nat) (hd : decode K.2.1 pc = .ok (.ifCond .le off, 3)) (ht : (pc : Int) + off = (tgt : Int)) (kt : x ≤ 0 → Go O d K r m' tgt L st m) (kf : ¬ x ≤ 0 → Go O d K r m' (pc + 3) L st m) : Go O d K r m' pc L (.int x :: st) m := fun p l e s mi as bl me c H lo ls hC hP hS hL => lv_if_le hC.1 hC.2.1 hd ht (fun h => kt h p l e s mi as bl me c H lo ls hC hP hS hL) (fun h => kf h p l e s mi as bl me c H lo ls hC hP hS hL)
theorem go_icmp_le {x y : Int32} {off : Int} (tgt : Nat) (hd : decode K.2.1 pc = .ok (.if_icmp .le off, 3)) (ht : (pc : Int) + off = (tgt : Int)) (kt : x ≤ y → Go O d K r m' tgt L st m) (kf : ¬ x ≤ y → Go O d K r m' (pc + 3) L st m) : Go O d K r m' pc L (.int y :: .int x :: st) m := fun p l e s mi as bl me c H lo ls hC hP hS hL => lv_icmp_le hC.1 hC.2.1 hd ht (fun h => kt h p l e s mi as bl me c H lo ls hC hP hS hL) (fun h => kf h p l e s mi as bl me c H lo ls hC hP hS hL)
theorem go_goto {off : Int} (tgt : Nat) (hd : decode K.2.1 pc = .ok (.goto off, 3)) (ht : (pc : Int) + off = (tgt : Int)) (k : Go O d K r m' tgt L st m) : Go O d K r m' pc L st m := fun p l e s mi as bl me c H lo ls hC hP hS hL => lv_goto hC.1 hC.2.1 hd ht (k p l e s mi as bl me c H lo ls hC hP hS hL)
theorem go_tableOut {dflt lo hi : Int} {offs : Array Int} {len : Nat} {x : Int32} (tgt : Nat) (hd : decode K.2.1 pc = .ok (.tableswitch dflt lo hi offs, len)) (h : x.toInt < lo ∨ hi < x.toInt) (ht : (pc : Int) + dflt = (tgt : Int)) (k : Go O d K r m' tgt L st m) : Go O d K r m' pc L (.int x :: st) m := fun p l e s mi as bl me c H lo' ls hC hP hS hL => lv_tableOut hC.1 hC.2.1 hd h ht (k p l e s mi as bl me c H lo' ls hC hP hS hL)
theorem go_tableIn {dflt lo hi : Int} {offs : Array Int} {len : Nat} {x : Int32} {off : Int} (tgt : Nat) (hd : decode K.2.1 pc = .ok (.tableswitch dflt lo hi offs, len)) (h1 : ¬ x.toInt < lo) (h2 : ¬ hi < x.toInt) (ho : offs[(x.toInt - lo).toNat]? = some off) (ht : (pc : Int) + off = (tgt : Int)) (k : Go O d K r m' tgt L st m) : Go O d K r m' pc L (.int x :: st) m := fun p l e s mi as bl me c H lo' ls hC hP hS hL => lv_tableIn hC.1 hC.2.1 hd h1 h2 ho ht (k p l e s mi as bl me c H lo' ls hC hP hS hL)
theorem go_lookup {dflt : Int} {ps : Array (Int × Int)} {len : Nat} {x : Int32} {off : Int} (tgt : Nat) (hd : decode K.2.1 pc = .ok (.lookupswitch dflt ps, len)) (hp : (ps.toList.zip (ps.toList.drop 1)).all (fun (a, next) => a.1 < next.1) = true) (ho : Op.lookupswitch.offset ps.toList dflt x.toInt = off) (ht : (pc : Int) + off = (tgt : Int)) (k : Go O d K r m' tgt L st m) : Go O d K r m' pc L (.int x :: st) m := fun p l e s mi as bl me c H lo ls hC hP hS hL => lv_lookup hC.1 hC.2.1 hd hp ho ht (k p l e s mi as bl me c H lo ls hC hP hS hL)
theorem go_top {x : Int32} (y : Int32) (h : x = y) (k : Go O d K r m' pc L (.int y :: st) m) : Go O d K r m' pc L (.int x :: st) m := h ▸ k
theorem go_topl {x : Int64} (y : Int64) (h : x = y) (k : Go O d K r m' pc L (.long y :: st) m) : Go O d K r m' pc L (.long x :: st) m := h ▸ k
theorem go_mem {m1 : gMem} (h : m = m1) (k : Go O d K r m' pc L st m1) : Go O d K r m' pc L st m := h ▸ k
theorem go_iret {v : Int32} (hd : decode K.2.1 pc = .ok (.ireturn, 1)) (ht : K.2.2.2 = some .int) (hr : r = some (.int v)) (hm : m' = m) : Go O d K r m' pc L [.int v] m := by
  subst hr; subst hm
  exact fun p l e s mi as bl me c H lo ls hC hP hS hL => W.iret hC.1 hC.2.1 (hC.2.2.2.1.trans ht) (fun t h _ => ⟨⟨rfl, by rw [h]; exact hP⟩, hS.F h⟩) hS.2.2 hd hC.2.2.2.2.1
theorem go_zret {v : Int32} (hd : decode K.2.1 pc = .ok (.ireturn, 1)) (ht : K.2.2.2 = some .boolean) (hz : v = 0 ∨ v = 1) (hr : r = some (.int v)) (hm : m' = m) : Go O d K r m' pc L [.int v] m := by
  subst hr; subst hm
  exact fun p l e s mi as bl me c H lo ls hC hP hS hL => W.zret hC.1 hC.2.1 (hC.2.2.2.1.trans ht) (by rcases hz with rfl | rfl <;> rfl) (fun t h _ => ⟨⟨rfl, by rw [h]; exact hP⟩, hS.F h⟩) hS.2.2 hd hC.2.2.2.2.1
theorem go_lret {v : Int64} (hd : decode K.2.1 pc = .ok (.lreturn, 1)) (ht : K.2.2.2 = some .long) (hr : r = some (.long v)) (hm : m' = m) : Go O d K r m' pc L [.long v] m := by
  subst hr; subst hm
  exact fun p l e s mi as bl me c H lo ls hC hP hS hL => W.lret hC.1 hC.2.1 (hC.2.2.2.1.trans ht) (fun t h _ => ⟨⟨rfl, by rw [h]; exact hP⟩, hS.F h⟩) hS.2.2 hd hC.2.2.2.2.1
theorem go_vret (hd : decode K.2.1 pc = .ok (.return_, 1)) (ht : K.2.2.2 = none) (hr : r = none) (hm : m' = m) : Go O d K r m' pc L [] m := by
  subst hr; subst hm
  exact fun p l e s mi as bl me c H lo ls hC hP hS hL => W.vret hC.1 hC.2.1 (hC.2.2.2.1.trans ht) (fun t h _ => ⟨⟨rfl, by rw [h]; exact hP⟩, hS.F h⟩) hS.2.2 hd hC.2.2.2.2.1
end GoRows
end
section
/-! ROWS OF THE JUDGEMENT that touch the cells -/
/-- a class file's entry names field j of class ci -/
def gFl (own : String) (ix ci j : Nat) : Prop := ∃ (C : String) (T : u_T) (N : Nat), vwCl[ci]? = some (C, T, N) ∧ (Cond.fieldLink own ix (T j).1 (T j).2.1 (T j).2.2.1 ∈ gT ∨ ∃ host, Cond.fieldLinkNest own ix (T j).1 (T j).2.1 (T j).2.2.1 host ∈ gN)
theorem gPinj {O : gOm} {s : State} (h : gWd O s) : ∀ i j, i < gNC → j < gNC → O.1 i = O.1 j → i = j := h.2.2.1
section GoMem
variable {O : gOm} {d : Nat} {K : gM} {r : Option Value} {m m' : gMem} {pc : Nat} {L st : List Value}
theorem go_get {ix ci n k j : Nat} {v : Value} (hd : decode K.2.1 pc = .ok (.getfield ix, 3)) (hF : gFl K.1.cls ix ci j) (hk : gK k = (ci, n)) (hc : ci < 8) (hj : j < n) (hkn : k < gNC) (hv : gfp m k j = v) (kk : Go O d K r m' (pc + 3) L (v :: st) m) : Go O d K r m' pc L (.ref k :: st) m := by
  intro p l e s mi as bl me c H lo ls hC hP hS hL
  subst hv
  obtain ⟨C, T, N, hcl, hlk⟩ := hF
  obtain ⟨q, hq1, hq2⟩ := gK_cls k hkn (by rw [hk]; exact hc)
  rw [hk] at hq1 hq2
  have hN : N = n := by
    have := hcl.symm.trans hq1
    cases this
    exact hq2
  subst hN
  have hat := gCells_at O m hkn
  rw [gE_obj O m hk hc] at hat
  have hfv : ((List.range N).map (fun j => gv O.1 (gfp m k j)))[j]? = some (gv O.1 (gfp m k j)) := by simp [hj]
  rcases hlk with h | ⟨host, h⟩
  · exact va_get hC.1 hC.2.1 hC.2.2.2.2.2.2.1 (gInG hcl) hC.2.2.2.2.2.1 hC.2.2.2.2.2.2.2.2.1 hP k hat hcl j hj (hC.2.2.2.2.2.2.1 _ h) (fun _ h => h) hfv hd (kk p l e s mi as bl me c H lo ls hC hP hS hL)
  · exact va_getN hC.1 hC.2.1 hC.2.2.2.2.2.2.1 (gInG hcl) hC.2.2.2.2.2.1 hC.2.2.2.2.2.2.2.2.1 hP k hat hcl j hj (va_Nw.use (gN_tab h) (hC.2.2.2.2.2.2.2.1 _ h)) (fun _ h => h) hfv hd (kk p l e s mi as bl me c H lo ls hC hP hS hL)
/-- a write of an int field (a boolean's value must be 0 or 1) -/
theorem go_puti {ix ci n k j : Nat} {x : Int32} (hd : decode K.2.1 pc = .ok (.putfield ix, 3)) (hF : gFl K.1.cls ix ci j) (hk : gK k = (ci, n)) (hc : ci < 8) (hj : j < n) (hkn : k < gNC) (hn : gfk k j = none) (hfin : ∀ C T N, vwCl[ci]? = some (C, T, N) → (T j).2.2.2 = false) (hty : gTyOf ci j = .int ∨ (gTyOf ci j = .boolean ∧ (x = 0 ∨ x = 1))) (kk : Go O d K r m' (pc + 3) L st (gup m k j x)) : Go O d K r m' pc L (.int x :: .ref k :: st) m := by
  intro p l e s mi as bl me c H lo ls hC hP hS hL
  obtain ⟨C, T, N, hcl, hlk⟩ := hF
  obtain ⟨q, hq1, hq2⟩ := gK_cls k hkn (by rw [hk]; exact hc)
  rw [hk] at hq1 hq2
  have hN : N = n := by
    have := hcl.symm.trans hq1
    cases this
    exact hq2
  subst hN
  have hD := gD O m (gPinj hC.2.2.2.2.2.2.2)
  have hat := gCells_at O m hkn
  rw [gE_obj O m hk hc] at hat
  have e1 : ((List.range N).map (fun j => gv O.1 (gfp m k j))).set j (.int x) = (List.range N).map (fun j' => gv O.1 (gfp (gup m k j x) k j')) :=
    grow_set _ _ _ (fun j' _ => by rw [gfp_up m k j j' x hn]; by_cases h : j' = j <;> simp [h, gv])
  have e2 : (gCells O m).set k (O.1 k, .inr (ci, ((List.range N).map (fun j => gv O.1 (gfp m k j))).set j (.int x))) = gCells O (gup m k j x) := by
    rw [e1, ← gE_obj O (gup m k j x) hk hc]
    exact gup_cells O m k j x
  have hn1 : narrow (gTyOf ci j) (.int x) = .int x := by
    rcases hty with h | ⟨h, h2⟩
    · rw [h]; rfl
    · rw [h]; rcases h2 with rfl | rfl <;> rfl
  have hf1 : fits (gTyOf ci j) (.int x) = true := by
    rcases hty with h | ⟨h, h2⟩
    · rw [h]; rfl
    · rw [h]; rcases h2 with rfl | rfl <;> rfl
  rcases hlk with h | ⟨host, h⟩
  · refine va_put hC.1 hC.2.1 hC.2.2.2.2.2.2.1 (gInG hcl) (gTyOf ci) (gTyOk hcl) (gNm hcl) hC.2.2.2.2.2.1 hC.2.2.2.2.2.2.2.2.1 hP hD hS k hat hcl j hj (hC.2.2.2.2.2.2.1 _ h) (fun _ h => h) (hfin C T N hcl) (gTyOk hcl j hj) hn1 hf1 (by simpa using hj) hd (fun H1 l1 a1 _ a3 => ?_)
    replace a1 : va_P O.2.1 vwCl (gCells O (gup m k j x)) H1 := by rw [← e2]; exact a1
    exact kk p l e s mi as bl me c H1 l1 ls hC a1 a3 hL
  · refine va_putN hC.1 hC.2.1 hC.2.2.2.2.2.2.1 (gInG hcl) (gTyOf ci) (gTyOk hcl) (gNm hcl) hC.2.2.2.2.2.1 hC.2.2.2.2.2.2.2.2.1 hP hD hS k hat hcl j hj (va_Nw.use (gN_tab h) (hC.2.2.2.2.2.2.2.1 _ h)) (fun _ h => h) (hfin C T N hcl) (gTyOk hcl j hj) hn1 hf1 (by simpa using hj) hd (fun H1 l1 a1 _ a3 => ?_)
    replace a1 : va_P O.2.1 vwCl (gCells O (gup m k j x)) H1 := by rw [← e2]; exact a1
    exact kk p l e s mi as bl me c H1 l1 ls hC a1 a3 hL
/-- a write of a reference that changes -/
theorem go_putr {ix ci n k j q t : Nat} (hd : decode K.2.1 pc = .ok (.putfield ix, 3)) (hF : gFl K.1.cls ix ci j) (hk : gK k = (ci, n)) (hc : ci < 8) (hj : j < n) (hkn : k < gNC) (hn : gfk k j = some (.inr q)) (hfin : ∀ C T N, vwCl[ci]? = some (C, T, N) → (T j).2.2.2 = false) (hty : ∃ C, gTyOf ci j = .object C) (kk : Go O d K r m' (pc + 3) L st (gupR m q t)) : Go O d K r m' pc L (.ref t :: .ref k :: st) m := by
  intro p l e s mi as bl me c H lo ls hC hP hS hL
  obtain ⟨C, T, N, hcl, hlk⟩ := hF
  obtain ⟨q', hq1, hq2⟩ := gK_cls k hkn (by rw [hk]; exact hc)
  rw [hk] at hq1 hq2
  have hN : N = n := by
    have := hcl.symm.trans hq1
    cases this
    exact hq2
  subst hN
  have hD := gD O m (gPinj hC.2.2.2.2.2.2.2)
  have hat := gCells_at O m hkn
  rw [gE_obj O m hk hc] at hat
  have e1 : ((List.range N).map (fun j => gv O.1 (gfp m k j))).set j (.ref (O.1 t)) = (List.range N).map (fun j' => gv O.1 (gfp (gupR m q t) k j')) :=
    grow_set _ _ _ (fun j' _ => by rw [gfp_upR m j' t hn]; by_cases h : j' = j <;> simp [h, gv])
  have e2 : (gCells O m).set k (O.1 k, .inr (ci, ((List.range N).map (fun j => gv O.1 (gfp m k j))).set j (.ref (O.1 t)))) = gCells O (gupR m q t) := by
    rw [e1, ← gE_obj O (gupR m q t) hk hc]
    exact gupR_cells O m t hn
  have hn1 : narrow (gTyOf ci j) (.ref (O.1 t)) = .ref (O.1 t) := by
    obtain ⟨C', h⟩ := hty
    rw [h]; rfl
  have hf1 : fits (gTyOf ci j) (.ref (O.1 t)) = true := by
    obtain ⟨C', h⟩ := hty
    rw [h]; rfl
  rcases hlk with h | ⟨host, h⟩
  · refine va_put hC.1 hC.2.1 hC.2.2.2.2.2.2.1 (gInG hcl) (gTyOf ci) (gTyOk hcl) (gNm hcl) hC.2.2.2.2.2.1 hC.2.2.2.2.2.2.2.2.1 hP hD hS k hat hcl j hj (hC.2.2.2.2.2.2.1 _ h) (fun _ h => h) (hfin C T N hcl) (gTyOk hcl j hj) hn1 hf1 (by simpa using hj) hd (fun H1 l1 a1 _ a3 => ?_)
    replace a1 : va_P O.2.1 vwCl (gCells O (gupR m q t)) H1 := by rw [← e2]; exact a1
    exact kk p l e s mi as bl me c H1 l1 ls hC a1 a3 hL
  · refine va_putN hC.1 hC.2.1 hC.2.2.2.2.2.2.1 (gInG hcl) (gTyOf ci) (gTyOk hcl) (gNm hcl) hC.2.2.2.2.2.1 hC.2.2.2.2.2.2.2.2.1 hP hD hS k hat hcl j hj (va_Nw.use (gN_tab h) (hC.2.2.2.2.2.2.2.1 _ h)) (fun _ h => h) (hfin C T N hcl) (gTyOk hcl j hj) hn1 hf1 (by simpa using hj) hd (fun H1 l1 a1 _ a3 => ?_)
    replace a1 : va_P O.2.1 vwCl (gCells O (gupR m q t)) H1 := by rw [← e2]; exact a1
    exact kk p l e s mi as bl me c H1 l1 ls hC a1 a3 hL
/-- arrays: the place is told as a number -/
theorem go_iald {n k i : Nat} {x v : Int32} (hd : decode K.2.1 pc = .ok (.iaload, 1)) (hk : gK k = (8, n)) (hkn : k < gNC) (hx : x = nI i) (hi : i < n) (hn : n < 1000) (hv : m.1 k i = v) (kk : Go O d K r m' (pc + 1) L (.int v :: st) m) : Go O d K r m' pc L (.int x :: .ref k :: st) m := by
  intro p l e s mi as bl me c H lo ls hC hP hS hL
  subst hx; subst hv
  have hat := gCells_at O m hkn
  rw [gE_int O m hk] at hat
  refine va_iald hC.1 hC.2.1 hC.2.2.2.2.2.2.2.2.1 hP k 0 hat rfl (vp_in_nI hi (by omega)) hd ?_
  rw [nI_clamp (by omega)]
  exact kk p l e s mi as bl me c H lo ls hC hP hS hL
theorem go_zald {n k i : Nat} {x v : Int32} (hd : decode K.2.1 pc = .ok (.baload, 1)) (hk : gK k = (9, n)) (hkn : k < gNC) (hx : x = nI i) (hi : i < n) (hn : n < 1000) (hv : m.1 k i = v) (kk : Go O d K r m' (pc + 1) L (.int v :: st) m) : Go O d K r m' pc L (.int x :: .ref k :: st) m := by
  intro p l e s mi as bl me c H lo ls hC hP hS hL
  subst hx; subst hv
  have hat := gCells_at O m hkn
  rw [gE_bool O m hk] at hat
  refine va_zald hC.1 hC.2.1 hC.2.2.2.2.2.2.2.2.1 hP k 1 hat rfl (vp_in_nI hi (by omega)) hd ?_
  rw [nI_clamp (by omega)]
  exact kk p l e s mi as bl me c H lo ls hC hP hS hL
theorem gupd (m : gMem) (k i : Nat) (x : Int32) : (gup m k i x).1 k = upd (m.1 k) i x := by
  funext j
  by_cases h : j = i
  · simp [gup, upd, h]
  · simp [gup, upd, h, gbeq h]
theorem go_iast {n k i : Nat} {x y : Int32} (hd : decode K.2.1 pc = .ok (.iastore, 1)) (hk : gK k = (8, n)) (hkn : k < gNC) (hx : x = nI i) (hi : i < n) (hn : n < 1000) (kk : Go O d K r m' (pc + 1) L st (gup m k i y)) : Go O d K r m' pc L (.int y :: .int x :: .ref k :: st) m := by
  intro p l e s mi as bl me c H lo ls hC hP hS hL
  subst hx
  have hD := gD O m (gPinj hC.2.2.2.2.2.2.2)
  have hat := gCells_at O m hkn
  rw [gE_int O m hk] at hat
  refine va_iast hC.1 hC.2.1 hC.2.2.2.2.2.2.2.2.1 hP hD hS k 0 hat rfl (vp_in_nI hi (by omega)) hd (fun H1 l1 a1 _ a3 => ?_)
  rw [nI_clamp (by omega), ← gupd, ← gE_int O (gup m k i y) hk, gup_cells] at a1
  exact kk p l e s mi as bl me c H1 l1 ls hC a1 a3 hL
theorem go_zast {n k i : Nat} {x y : Int32} (hd : decode K.2.1 pc = .ok (.bastore, 1)) (hk : gK k = (9, n)) (hkn : k < gNC) (hx : x = nI i) (hi : i < n) (hn : n < 1000) (hy : y = 0 ∨ y = 1) (kk : Go O d K r m' (pc + 1) L st (gup m k i y)) : Go O d K r m' pc L (.int y :: .int x :: .ref k :: st) m := by
  intro p l e s mi as bl me c H lo ls hC hP hS hL
  subst hx
  have hD := gD O m (gPinj hC.2.2.2.2.2.2.2)
  have hat := gCells_at O m hkn
  rw [gE_bool O m hk] at hat
  refine va_zast hC.1 hC.2.1 hC.2.2.2.2.2.2.2.2.1 hP hD hS k 1 hat rfl (vp_in_nI hi (by omega)) hd (fun H1 l1 a1 _ a3 => ?_)
  have hz : vp_nar .boolean y = y := by rcases hy with rfl | rfl <;> rfl
  rw [nI_clamp (by omega), hz, ← gupd, ← gE_bool O (gup m k i y) hk, gup_cells] at a1
  exact kk p l e s mi as bl me c H1 l1 ls hC a1 a3 hL
theorem go_aald {n k i : Nat} {x : Int32} (hd : decode K.2.1 pc = .ok (.aaload, 1)) (hk : gK k = (10, n)) (hkn : k < gNC) (hx : x = nI i) (hi : i < n) (hn : n < 1000) (kk : Go O d K r m' (pc + 1) L (.ref (gsl i) :: st) m) : Go O d K r m' pc L (.int x :: .ref k :: st) m := by
  intro p l e s mi as bl me c H lo ls hC hP hS hL
  subst hx
  have hat := gCells_at O m hkn
  rw [gE_slots O m hk] at hat
  refine va_aldq hC.1 hC.2.1 hC.2.2.2.2.2.2.2.2.1 hP k 2 hat rfl (vp_in_nI hi (by omega)) hd ?_
  rw [nI_clamp (by omega)]
  exact kk p l e s mi as bl me c H lo ls hC hP hS hL
theorem go_alen {n k : Nat} {v : Int32} (hd : decode K.2.1 pc = .ok (.arraylength, 1)) (hk : gK k = (8, n)) (hkn : k < gNC) (hv : nI n = v) (kk : Go O d K r m' (pc + 1) L (.int v :: st) m) : Go O d K r m' pc L (.ref k :: st) m := by
  intro p l e s mi as bl me c H lo ls hC hP hS hL
  subst hv
  have hat := gCells_at O m hkn
  rw [gE_int O m hk] at hat
  exact va_alen hC.1 hC.2.1 hC.2.2.2.2.2.2.2.2.1 hP k 0 hat rfl rfl hd (kk p l e s mi as bl me c H lo ls hC hP hS hL)
/-- the constants' array of the outlook -/
theorem go_gets {ix : Nat} (hd : decode K.2.1 pc = .ok (.getstatic ix, 3)) (hF : Cond.fieldLink K.1.cls ix "ToldNineTimes$Outlook" "CHOICES" "[I" ∈ gT) (kk : Go O d K r m' (pc + 3) L (.ref 69 :: st) m) : Go O d K r m' pc L st m :=
  fun p l e s mi as bl me c H lo ls hC hP hS hL => va_gets hC.1 hC.2.1 hC.2.2.2.2.2.2.2.2.2.2.1 hS hC.2.2.2.2.2.1 (hC.2.2.2.2.2.2.1 _ hF) (fun _ h => h) hd (kk p l e s mi as bl me c H lo ls hC hP hS hL)
theorem go_cald {i : Nat} {x : Int32} (hd : decode K.2.1 pc = .ok (.iaload, 1)) (hx : x = nI i) (hi : i < 4) (kk : Go O d K r m' (pc + 1) L (.int (gch i) :: st) m) : Go O d K r m' pc L (.int x :: .ref 69 :: st) m := by
  intro p l e s mi as bl me c H lo ls hC hP hS hL
  subst hx
  refine va_ti hC.1 hC.2.1 hC.2.2.2.2.2.2.2.2.2.2.2 hS (vp_in_nI hi (by omega)) (v := .int (gch i)) ?_ hd (kk p l e s mi as bl me c H lo ls hC hP hS hL)
  rw [nI_clamp (by omega)]
theorem go_clen (hd : decode K.2.1 pc = .ok (.arraylength, 1)) (kk : Go O d K r m' (pc + 1) L (.int (nI 4) :: st) m) : Go O d K r m' pc L (.ref 69 :: st) m :=
  fun p l e s mi as bl me c H lo ls hC hP hS hL => va_tlen hC.1 hC.2.1 hC.2.2.2.2.2.2.2.2.2.2.2 hS rfl hd (kk p l e s mi as bl me c H lo ls hC hP hS hL)
end GoMem
end
section
/-! CALLS: a callee's judgement at its entry is its contract -/
theorem gWd.blind {O : gOm} {U : State} {g : JFrame} {mk : MethodId} {a : Array Value} (h : gWd O U) : gWd O (U.calling g mk a) :=
  ⟨fun w hw => va_Nw.same (gN_tab hw) (rfl : U.vm = (U.calling g mk a).vm) (h.1 w hw), va_K.moved (u := U) (U := U.calling g mk a) (Vm.Alike.refl U.vm) h.2.1, h.2.2.1, va_Z.moved (u := U) (U := U.calling g mk a) (Vm.Alike.refl U.vm) h.2.2.2.1, va_T.moved (u := U) (U := U.calling g mk a) (Vm.Alike.refl U.vm) h.2.2.2.2⟩
theorem gWd.warm {O : gOm} {s U : State} {H : Heap} {locs : List Loc} (h : gWd O s) (hS : va_S (gA O) s.heap H locs) (hU : U.heap = H) (hW : s.WarmedH U.vm) : gWd O U := by
  have h4 := (va_Z.moved hW.alike h.2.2.2.1).kept (H1 := U.heap) (by rw [hU]; exact hS.2.1)
  have h5 := (va_T.moved hW.alike h.2.2.2.2).kept (H1 := U.heap) (by rw [hU]; exact hS.2.1)
  exact ⟨fun w hw => gN_warm hw hW (h.1 w hw), va_K.moved hW.alike h.2.1, h.2.2.1, h4, h5⟩
abbrev gWs (K : gM) : List Cond := Cond.code K.1 K.2.1 K.2.2.1 K.2.2.2 :: gT
abbrev gPc (O : gOm) (as : List Value) (m : gMem) : Array Value → State → Prop := va_Pc (as.map (gv O.1)) (fun U => gWd O U ∧ va_P O.2.1 vwCl (gCells O m) U.heap)
theorem gPc.blind (O : gOm) (as : List Value) (m : gMem) : FrameBlind (gPc O as m) := fun _ _ _ _ h => ⟨h.1, h.2.1.blind, h.2.2⟩
theorem go_met {O : gOm} {d : Nat} {K : gM} {as : List Value} {r : Option Value} {m m' : gMem} (l : Launch) (hy : plainName K.1.cls = true) (hen : (gsp as).length ≤ K.2.2.1) (h : Ca O d K as r m m') : Met l K.1 (gWs K) (gRm d) (gPc O as m) (gQ O r m') 0 0 (gA O) := by
  refine Met.ofW (cc := K.2.1) (maxL := K.2.2.1) (ret := K.2.2.2) hy rfl ?_
  intro p e s mi args below meth c s₁ B hml hv
  obtain ⟨rfl, hW, hP⟩ := hv
  have hts := atoms_spec (ws := gWs K) B.pre
  rw [lg_entry_eq]
  exact h p l e s mi _ below meth c s.heap [] _ ⟨B.exec, B.bytes, hml, B.returns, B.notSynchronized, findClass_of_methodNamed B.named, fun w hw => hts w (List.mem_cons_of_mem _ hw), hW⟩ hP va_S.rf (gLs.entry O as hen)
/-- what a call needs of the tables -/
def gLc (K : gM) (n : Nat) : Prop := Cond.initialized K.1.cls ∈ gT ∧ Cond.code K.1 K.2.1 K.2.2.1 K.2.2.2 ∈ gT ∧ plainName K.1.cls = true ∧ (K.1.cls ≠ "java/lang/invoke/MethodHandle" ∧ K.1.cls ≠ "java/lang/invoke/VarHandle" ∧ (parseMethodDescriptor K.1.desc).map (fun d => d.parameters.length) = some n) ∧ K.2.2.1 ≤ 45
def gLk (own : String) (ix : Nat) (y : MethodName) : Prop := Cond.methodLink own ix y ∈ gT ∨ ∃ host, Cond.methodLinkNest own ix y host ∈ gN
def gLv (K : gM) (n : Nat) : Prop := Cond.instanceMethod K.1 ∈ gT ∧ Cond.selects K.1.cls K.1 K.1 ∈ gT ∧ gLc K n
def gLt (K : gM) (n : Nat) : Prop := Cond.static K.1 ∈ gT ∧ gLc K n
theorem gWs_good {K : gM} {n : Nat} (h : gLc K n) : GoodIn gT (gWs K) := by
  intro w hw
  rcases List.mem_cons.mp hw with rfl | hw
  · exact ⟨h.2.1, gT_good h.2.1⟩
  · exact ⟨hw, gT_good hw⟩
theorem gRm_ok {K : gM} {n d : Nat} (h : gLc K n) : (gRm d).frames + 1 ≤ (gRm (d + 1)).frames ∧ 8 + (K.2.2.1 + 11) + (gRm d).locals ≤ (gRm (d + 1)).locals := by
  have := h.2.2.2.2
  simp only [gRm]
  omega
section GoCall
variable {p : Program} {l : Launch} {e : Env} {R : Room} {s : State} {mi : MethodId} {args : Array Value} {below : List Frame} {meth : Method} {c : Code} {H : Heap} {locs : List Loc} {cells slots : Nat} {Q : State → Prop}
theorem gv_run {O : gOm} {r1 : Option Value} {m1 : gMem} {pc : Nat} {ls : Array Slot} {rest st0 : List Value} {a : Array Value} (hr : va_Run p l e R s mi args below meth c H locs cells slots 0 0 (F0 mi pc ls st0) rest (gQ O r1 m1 a) (gA O)) (hS : va_S (gA O) s.heap H locs)
    (kk : ∀ (H1 : Heap) (locs1 : List Loc), va_P O.2.1 vwCl (gCells O m1) H1 → va_S (gA O) s.heap H1 locs1 → W p l e R s mi args below meth c H1 locs1 cells slots Q (F0 mi (pc + 3) ls ((r1.map (gv O.1)).toList ++ rest))) : W p l e R s mi args below meth c H locs cells slots Q (F0 mi pc ls st0) := by
  intro T hT X
  obtain ⟨v, st₀, t, T', L, h0, X', hL, e1, e2, ⟨⟨hv, hp⟩, hz, hk⟩, st⟩ := hr T hT X
  cases hv
  rw [h0] at hz hk
  obtain ⟨t2, a1, b1⟩ := kk T'.heap (locs ++ L) (by rw [e1]; exact hp)
    ⟨Nat.le_trans hS.1 (by rw [e1]; exact hz), fun q h1 h2 => by rw [e1, hk q (Nat.lt_of_lt_of_le h1 hS.1) h2]; exact hS.2.1 q h1 h2, fun q hq => by
      rcases List.mem_append.mp hq with h | h
      · exact hS.2.2 q h
      · exact hL q h⟩ T' rfl X'
  exact ⟨t2, st t2 a1, b1⟩
end GoCall
theorem gback {O : gOm} {r1 : Option Value} {st : List Value} : (r1.map (gv O.1)).toList ++ st.map (gv O.1) = (r1.toList ++ st).map (gv O.1) := by cases r1 <;> rfl
theorem gcats {O : gOm} (st : List Value) : ((st.map (gv O.1)).map fun v => v.category).sum = (st.map fun v => v.category).sum := by
  rw [List.map_map]
  congr 1
  exact List.map_congr_left (fun v _ => gcat O.1 v)
section GoCall2
variable {O : gOm} {d : Nat} {K : gM} {r : Option Value} {m m' : gMem} {pc : Nat} {L st : List Value}
theorem go_callV {ix ci nf k n : Nat} {K' : gM} {r1 : Option Value} {m1 : gMem} (as : List Value) {st0 : List Value} (hd : decode K.2.1 pc = .ok (.invokevirtual ix, 3)) (hlk : gLk K.1.cls ix K'.1) (hl : gLv K' n) (hk : gK k = (ci, nf)) (hci : ci < 8) (hcl : (vwCl.map (fun q => q.1))[ci]? = some K'.1.cls) (hkn : k < gNC) (hst : st0 = as.reverse ++ .ref k :: st) (hn : as.length = n) (hW : (st.map fun v => v.category).sum ≤ 8) (hen : (gsp (.ref k :: as)).length ≤ K'.2.2.1)
    (hc : Ca O d K' (.ref k :: as) r1 m m1) (kk : Go O (d + 1) K r m' (pc + 3) L (r1.toList ++ st) m1) : Go O (d + 1) K r m' pc L st0 m := by
  intro p l e s mi args below meth c H lo ls hC hP hS hL
  subst hst
  have hM := go_met l hl.2.2.2.2.1 hen hc
  obtain ⟨q, hq1, hq2⟩ : ∃ q, vwCl[ci]? = some q ∧ q.1 = K'.1.cls := by
    rw [List.getElem?_map] at hcl
    cases hq : vwCl[ci]? with
    | none => rw [hq] at hcl; cases hcl
    | some q => rw [hq] at hcl; exact ⟨q, rfl, Option.some.inj hcl⟩
  have hat := gCells_at O m hkn
  rw [gE_obj O m hk hci] at hat
  have hrec := va_recv hC.2.2.2.2.2.2.2.2.1 hP hq1 hat
  rw [hq2] at hrec
  have hpre : PreV s H K'.1.cls (O.1 k) (gPc O (.ref k :: as) m) (as.map (gv O.1)) := ⟨gPc.blind O _ m, hrec, fun U hU hWm => ⟨rfl, hC.2.2.2.2.2.2.2.warm hS hU hWm, by rw [hU]; exact hP⟩⟩
  have hstk : (as.reverse ++ .ref k :: st).map (gv O.1) = (as.map (gv O.1)).reverse ++ .ref (O.1 k) :: st.map (gv O.1) := by simp [gv, List.map_reverse]
  have hts := hC.2.2.2.2.2.2.1
  have hroom : ((st.map (gv O.1)).map fun v => v.category).sum ≤ 8 := by rw [gcats]; exact hW
  have hkk : ∀ (H1 : Heap) (locs1 : List Loc), va_P O.2.1 vwCl (gCells O m1) H1 → va_S (gA O) s.heap H1 locs1 → W p l e (gRm (d + 1)) s mi args below meth c H1 locs1 0 0 (MQ below (gQ O r m') args s 0 0 (gA O)) (F0 mi (pc + 3) ls ((r1.map (gv O.1)).toList ++ st.map (gv O.1))) := fun H1 l1 h1 h2 => by
    rw [gback]
    exact kk p l e s mi args below meth c H1 l1 ls hC h1 h2 hL
  rw [hstk]
  rcases hlk with h | ⟨host, h⟩
  · exact gv_run (va_runV (C := K'.1.cls) (ws := gWs K') (n := n) (As := as.map (gv O.1)) (rest := st.map (gv O.1)) ⟨hC.1, hC.2.1, hC.2.2.1, hC.2.2.2.2.2.1, hts⟩ hM ⟨callB_of n hts (gWs_good hl.2.2) rfl rfl rfl (hts _ hl.2.2.1) (hts _ h) hl.2.2.2.2.2.1 (gRm_ok hl.2.2), hts _ hl.1, hts _ hl.2.1⟩ hpre rfl (by simpa using hn) hL.2.1 rfl (lv_room hroom) hd ⟨Nat.le_refl _, Nat.le_refl _⟩) hS hkk
  · exact gv_run (va_runVN (C := K'.1.cls) (ws := gWs K') (n := n) (As := as.map (gv O.1)) (rest := st.map (gv O.1)) ⟨hC.1, hC.2.1, hC.2.2.1, hC.2.2.2.2.2.1, hts⟩ hM ⟨va_cnB n hts (gWs_good hl.2.2) rfl rfl rfl (hC.2.2.2.2.2.2.2.1 _ h) (hts _ hl.2.2.1) hl.2.2.2.2.2.1 (gRm_ok hl.2.2), hts _ hl.1, hts _ hl.2.1⟩ hpre rfl (by simpa using hn) hL.2.1 rfl (lv_room hroom) hd ⟨Nat.le_refl _, Nat.le_refl _⟩) hS hkk
theorem go_callS {ix n : Nat} {K' : gM} {r1 : Option Value} {m1 : gMem} (as : List Value) {st0 : List Value} (hd : decode K.2.1 pc = .ok (.invokestatic ix, 3)) (hlk : gLk K.1.cls ix K'.1) (hl : gLt K' n) (hst : st0 = as.reverse ++ st) (hn : as.length = n) (hW : (st.map fun v => v.category).sum ≤ 8) (hen : (gsp as).length ≤ K'.2.2.1)
    (hc : Ca O d K' as r1 m m1) (kk : Go O (d + 1) K r m' (pc + 3) L (r1.toList ++ st) m1) : Go O (d + 1) K r m' pc L st0 m := by
  intro p l e s mi args below meth c H lo ls hC hP hS hL
  subst hst
  have hM := go_met l hl.2.2.2.1 hen hc
  have hpre : PreS s H (gPc O as m) (as.map (gv O.1)) := ⟨gPc.blind O _ m, fun U hU hWm => ⟨rfl, hC.2.2.2.2.2.2.2.warm hS hU hWm, by rw [hU]; exact hP⟩⟩
  have hstk : (as.reverse ++ st).map (gv O.1) = (as.map (gv O.1)).reverse ++ st.map (gv O.1) := by simp [List.map_reverse]
  have hts := hC.2.2.2.2.2.2.1
  have hroom : ((st.map (gv O.1)).map fun v => v.category).sum ≤ 8 := by rw [gcats]; exact hW
  have hkk : ∀ (H1 : Heap) (locs1 : List Loc), va_P O.2.1 vwCl (gCells O m1) H1 → va_S (gA O) s.heap H1 locs1 → W p l e (gRm (d + 1)) s mi args below meth c H1 locs1 0 0 (MQ below (gQ O r m') args s 0 0 (gA O)) (F0 mi (pc + 3) ls ((r1.map (gv O.1)).toList ++ st.map (gv O.1))) := fun H1 l1 h1 h2 => by
    rw [gback]
    exact kk p l e s mi args below meth c H1 l1 ls hC h1 h2 hL
  rw [hstk]
  rcases hlk with h | ⟨host, h⟩
  · exact gv_run (va_runS (ws := gWs K') (n := n) (As := as.map (gv O.1)) (rest := st.map (gv O.1)) ⟨hC.1, hC.2.1, hC.2.2.1, hC.2.2.2.2.2.1, hts⟩ hM ⟨callB_of n hts (gWs_good hl.2) rfl rfl rfl (hts _ hl.2.1) (hts _ h) hl.2.2.2.2.1 (gRm_ok hl.2), hts _ hl.1⟩ hpre rfl (by simpa using hn) hL.2.1 rfl (lv_room hroom) hd ⟨Nat.le_refl _, Nat.le_refl _⟩) hS hkk
  · exact gv_run (va_runSN (ws := gWs K') (n := n) (As := as.map (gv O.1)) (rest := st.map (gv O.1)) ⟨hC.1, hC.2.1, hC.2.2.1, hC.2.2.2.2.2.1, hts⟩ hM ⟨va_cnB n hts (gWs_good hl.2) rfl rfl rfl (hC.2.2.2.2.2.2.2.1 _ h) (hts _ hl.2.1) hl.2.2.2.2.1 (gRm_ok hl.2), hts _ hl.1, trivial⟩ hpre rfl (by simpa using hn) hL.2.1 rfl (lv_room hroom) hd ⟨Nat.le_refl _, Nat.le_refl _⟩) hS hkk
/-- System.arraycopy between int arrays -/
theorem go_copy {ix n0 n1 k0 k1 sp dp n : Nat} {xs xd xn : Int32} (hd : decode K.2.1 pc = .ok (.invokestatic ix, 3)) (hlk : Cond.methodLink K.1.cls ix arraycopyName ∈ gT) (hnat : Cond.native arraycopyName ∈ gT) (hstt : Cond.static arraycopyName ∈ gT) (hini : Cond.initialized "java/lang/System" ∈ gT) (hk0 : gK k0 = (8, n0)) (hk1 : gK k1 = (8, n1)) (hkn0 : k0 < gNC) (hkn1 : k1 < gNC) (hs : xs = nI sp) (hdp : xd = nI dp) (hn : xn = nI n) (h1 : sp + n ≤ n0) (h2 : dp + n ≤ n1) (hn0 : n0 < 1000) (hn1 : n1 < 1000) (hW : (st.map fun v => v.category).sum ≤ 8)
    (kk : Go O (d + 1) K r m' (pc + 3) L st (gupA m k1 (va_cpy (m.1 k0) (m.1 k1) sp dp n))) : Go O (d + 1) K r m' pc L (.int xn :: .int xd :: .ref k1 :: .int xs :: .ref k0 :: st) m := by
  intro p l e s mi args below meth c H lo ls hC hP hS hL
  subst hs; subst hdp; subst hn
  have hts := hC.2.2.2.2.2.2.1
  have hD := gD O m (gPinj hC.2.2.2.2.2.2.2)
  have hat0 := gCells_at O m hkn0
  rw [gE_int O m hk0] at hat0
  have hat1 := gCells_at O m hkn1
  rw [gE_int O m hk1] at hat1
  have hroom : ((st.map (gv O.1)).map fun v => v.category).sum ≤ 8 := by rw [gcats]; exact hW
  have c0 : (nI sp).toNatClampNeg = sp := nI_clamp (by omega)
  have c1 : (nI dp).toNatClampNeg = dp := nI_clamp (by omega)
  have c2 : (nI n).toNatClampNeg = n := nI_clamp (by omega)
  refine va_copyi hC.1 hC.2.1 (hC.2.2.1.trans hL.2.1.symm) hC.2.2.2.2.2.1 (hts _ hlk) (hts _ hnat) (hts _ hstt) (hts _ hini) hC.2.2.2.2.2.2.2.2.1 hP hD hS k0 k1 0 0 hat0 hat1 rfl rfl rfl (nI_pos (by omega)) (nI_pos (by omega)) (nI_pos (by omega)) (by rw [c0, c2]; exact h1) (by rw [c1, c2]; exact h2) (fun _ _ => rfl) (by simp only [gRm]; omega) ?_ hd (fun H1 l1 a1 _ a3 => ?_)
  · have : nativeFrameWords "java/lang/System" "arraycopy" 5 + 11 ≤ 64 := by decide +kernel
    simp only [gRm]
    omega
  · rw [c0, c1, c2] at a1
    have e1 : (gupA m k1 (va_cpy (m.1 k0) (m.1 k1) sp dp n)).1 k1 = va_cpy (m.1 k0) (m.1 k1) sp dp n := by simp [gupA]
    rw [← e1, ← gE_int O (gupA m k1 _) hk1, gupA_cells] at a1
    exact kk p l e s mi args below meth c H1 l1 ls hC a1 a3 hL
end GoCall2
end
section
/-! the words of each method, of each entry of a class file: by their places in the tables -/
abbrev kJ6_bitCount_0f7a4 : gM := (yJ6_bitCount_0f7a4, cJ6_bitCount_0f7a4, 1, some .int)
set_option maxRecDepth 20000 in
theorem lJ6_bitCount_0f7a4 : gLt kJ6_bitCount_0f7a4 1 := ⟨gT_of 290 (by decide +kernel) rfl, ⟨gT_of 11 (by decide +kernel) rfl, gT_of 291 (by rfl) rfl, by decide, by decide +kernel, by decide⟩⟩
abbrev kJ7_fill_53178 : gM := (yJ7_fill_53178, cJ7_fill_53178, 4, none)
set_option maxRecDepth 20000 in
theorem lJ7_fill_53178 : gLt kJ7_fill_53178 2 := ⟨gT_of 226 (by decide +kernel) rfl, ⟨gT_of 9 (by decide +kernel) rfl, gT_of 227 (by rfl) rfl, by decide, by decide +kernel, by decide⟩⟩
abbrev kX0_append : gM := (yX0_append, cX0_append, 2, none)
set_option maxRecDepth 20000 in
theorem lX0_append : gLv kX0_append 1 := ⟨gT_of 362 (by decide +kernel) rfl, gT_sel 20 (by decide +kernel) rfl, ⟨gT_of 4 (by decide +kernel) rfl, gT_of 363 (by rfl) rfl, by decide, by decide +kernel, by decide⟩⟩
abbrev kX0_newsOf : gM := (yX0_newsOf, cX0_newsOf, 1, some .int)
set_option maxRecDepth 20000 in
theorem lX0_newsOf : gLt kX0_newsOf 1 := ⟨gT_of 394 (by decide +kernel) rfl, ⟨gT_of 4 (by decide +kernel) rfl, gT_of 395 (by rfl) rfl, by decide, by decide +kernel, by decide⟩⟩
abbrev kX0_packedKnown : gM := (yX0_packedKnown, cX0_packedKnown, 1, some .int)
set_option maxRecDepth 20000 in
theorem lX0_packedKnown : gLt kX0_packedKnown 1 := ⟨gT_of 398 (by decide +kernel) rfl, ⟨gT_of 4 (by decide +kernel) rfl, gT_of 399 (by rfl) rfl, by decide, by decide +kernel, by decide⟩⟩
abbrev kX0_takeLast : gM := (yX0_takeLast, cX0_takeLast, 1, some .int)
set_option maxRecDepth 20000 in
theorem lX0_takeLast : gLv kX0_takeLast 0 := ⟨gT_of 385 (by decide +kernel) rfl, gT_sel 23 (by decide +kernel) rfl, ⟨gT_of 4 (by decide +kernel) rfl, gT_of 386 (by rfl) rfl, by decide, by decide +kernel, by decide⟩⟩
abbrev kX0_teller : gM := (yX0_teller, cX0_teller, 1, some .int)
set_option maxRecDepth 20000 in
theorem lX0_teller : gLt kX0_teller 1 := ⟨gT_of 391 (by decide +kernel) rfl, ⟨gT_of 4 (by decide +kernel) rfl, gT_of 392 (by rfl) rfl, by decide, by decide +kernel, by decide⟩⟩
abbrev kX0_telling : gM := (yX0_telling, cX0_telling, 3, some .int)
set_option maxRecDepth 20000 in
theorem lX0_telling : gLt kX0_telling 3 := ⟨gT_of 358 (by decide +kernel) rfl, ⟨gT_of 4 (by decide +kernel) rfl, gT_of 359 (by rfl) rfl, by decide, by decide +kernel, by decide⟩⟩
abbrev kX1_clear : gM := (yX1_clear, cX1_clear, 1, none)
set_option maxRecDepth 20000 in
theorem lX1_clear : gLv kX1_clear 0 := ⟨gT_of 223 (by decide +kernel) rfl, gT_sel 2 (by decide +kernel) rfl, ⟨gT_of 6 (by decide +kernel) rfl, gT_of 224 (by rfl) rfl, by decide, by decide +kernel, by decide⟩⟩
abbrev kX1_group : gM := (yX1_group, cX1_group, 3, some .int)
set_option maxRecDepth 20000 in
theorem lX1_group : gLv kX1_group 2 := ⟨gT_of 342 (by decide +kernel) rfl, gT_sel 18 (by decide +kernel) rfl, ⟨gT_of 6 (by decide +kernel) rfl, gT_of 343 (by rfl) rfl, by decide, by decide +kernel, by decide⟩⟩
abbrev kX1_isCompany : gM := (yX1_isCompany, cX1_isCompany, 1, some .boolean)
set_option maxRecDepth 20000 in
theorem lX1_isCompany : gLt kX1_isCompany 1 := ⟨gT_of 345 (by decide +kernel) rfl, ⟨gT_of 6 (by decide +kernel) rfl, gT_of 346 (by rfl) rfl, by decide, by decide +kernel, by decide⟩⟩
abbrev kX1_placeOf : gM := (yX1_placeOf, cX1_placeOf, 3, some .int)
set_option maxRecDepth 20000 in
theorem lX1_placeOf : gLv kX1_placeOf 2 := ⟨gT_of 308 (by decide +kernel) rfl, gT_sel 14 (by decide +kernel) rfl, ⟨gT_of 6 (by decide +kernel) rfl, gT_of 309 (by rfl) rfl, by decide, by decide +kernel, by decide⟩⟩
abbrev kX1_put : gM := (yX1_put, cX1_put, 4, none)
set_option maxRecDepth 20000 in
theorem lX1_put : gLv kX1_put 3 := ⟨gT_of 246 (by decide +kernel) rfl, gT_sel 7 (by decide +kernel) rfl, ⟨gT_of 6 (by decide +kernel) rfl, gT_of 247 (by rfl) rfl, by decide, by decide +kernel, by decide⟩⟩
abbrev kX2_behind : gM := (yX2_behind, cX2_behind, 7, some .int)
set_option maxRecDepth 20000 in
theorem lX2_behind : gLv kX2_behind 3 := ⟨gT_of 450 (by decide +kernel) rfl, gT_sel 32 (by decide +kernel) rfl, ⟨gT_of 7 (by decide +kernel) rfl, gT_of 451 (by rfl) rfl, by decide, by decide +kernel, by decide⟩⟩
abbrev kX2_canBeSpent : gM := (yX2_canBeSpent, cX2_canBeSpent, 2, some .boolean)
set_option maxRecDepth 20000 in
theorem lX2_canBeSpent : gLv kX2_canBeSpent 0 := ⟨gT_of 498 (by decide +kernel) rfl, gT_sel 39 (by decide +kernel) rfl, ⟨gT_of 7 (by decide +kernel) rfl, gT_of 499 (by rfl) rfl, by decide, by decide +kernel, by decide⟩⟩
abbrev kX2_countFrom : gM := (yX2_countFrom, cX2_countFrom, 4, none)
set_option maxRecDepth 20000 in
theorem lX2_countFrom : gLv kX2_countFrom 3 := ⟨gT_of 552 (by decide +kernel) rfl, gT_sel 45 (by decide +kernel) rfl, ⟨gT_of 7 (by decide +kernel) rfl, gT_of 553 (by rfl) rfl, by decide, by decide +kernel, by decide⟩⟩
abbrev kX2_countOn : gM := (yX2_countOn, cX2_countOn, 5, none)
set_option maxRecDepth 20000 in
theorem lX2_countOn : gLv kX2_countOn 2 := ⟨gT_of 568 (by decide +kernel) rfl, gT_sel 49 (by decide +kernel) rfl, ⟨gT_of 7 (by decide +kernel) rfl, gT_of 569 (by rfl) rfl, by decide, by decide +kernel, by decide⟩⟩
abbrev kX2_countThrough : gM := (yX2_countThrough, cX2_countThrough, 4, none)
set_option maxRecDepth 20000 in
theorem lX2_countThrough : gLv kX2_countThrough 1 := ⟨gT_of 556 (by decide +kernel) rfl, gT_sel 46 (by decide +kernel) rfl, ⟨gT_of 7 (by decide +kernel) rfl, gT_of 557 (by rfl) rfl, by decide, by decide +kernel, by decide⟩⟩
abbrev kX2_counted : gM := (yX2_counted, cX2_counted, 3, some .int)
set_option maxRecDepth 20000 in
theorem lX2_counted : gLv kX2_counted 0 := ⟨gT_of 580 (by decide +kernel) rfl, gT_sel 52 (by decide +kernel) rfl, ⟨gT_of 7 (by decide +kernel) rfl, gT_of 581 (by rfl) rfl, by decide, by decide +kernel, by decide⟩⟩
abbrev kX2_findNexts : gM := (yX2_findNexts, cX2_findNexts, 4, none)
set_option maxRecDepth 20000 in
theorem lX2_findNexts : gLv kX2_findNexts 2 := ⟨gT_of 564 (by decide +kernel) rfl, gT_sel 48 (by decide +kernel) rfl, ⟨gT_of 7 (by decide +kernel) rfl, gT_of 565 (by rfl) rfl, by decide, by decide +kernel, by decide⟩⟩
abbrev kX2_firstOfLeast : gM := (yX2_firstOfLeast, cX2_firstOfLeast, 5, some .int)
set_option maxRecDepth 20000 in
theorem lX2_firstOfLeast : gLv kX2_firstOfLeast 2 := ⟨gT_of 473 (by decide +kernel) rfl, gT_sel 35 (by decide +kernel) rfl, ⟨gT_of 7 (by decide +kernel) rfl, gT_of 474 (by rfl) rfl, by decide, by decide +kernel, by decide⟩⟩
abbrev kX2_goThrough : gM := (yX2_goThrough, cX2_goThrough, 7, none)
set_option maxRecDepth 20000 in
theorem lX2_goThrough : gLv kX2_goThrough 2 := ⟨gT_of 485 (by decide +kernel) rfl, gT_sel 37 (by decide +kernel) rfl, ⟨gT_of 7 (by decide +kernel) rfl, gT_of 486 (by rfl) rfl, by decide, by decide +kernel, by decide⟩⟩
abbrev kX2_isReached : gM := (yX2_isReached, cX2_isReached, 3, some .boolean)
set_option maxRecDepth 20000 in
theorem lX2_isReached : gLv kX2_isReached 1 := ⟨gT_of 560 (by decide +kernel) rfl, gT_sel 47 (by decide +kernel) rfl, ⟨gT_of 7 (by decide +kernel) rfl, gT_of 561 (by rfl) rfl, by decide, by decide +kernel, by decide⟩⟩
abbrev kX2_lookFrom : gM := (yX2_lookFrom, cX2_lookFrom, 4, none)
set_option maxRecDepth 20000 in
theorem lX2_lookFrom : gLv kX2_lookFrom 3 := ⟨gT_of 481 (by decide +kernel) rfl, gT_sel 36 (by decide +kernel) rfl, ⟨gT_of 7 (by decide +kernel) rfl, gT_of 482 (by rfl) rfl, by decide, by decide +kernel, by decide⟩⟩
abbrev kX2_mostKnowing : gM := (yX2_mostKnowing, cX2_mostKnowing, 3, some .int)
set_option maxRecDepth 20000 in
theorem lX2_mostKnowing : gLv kX2_mostKnowing 0 := ⟨gT_of 489 (by decide +kernel) rfl, gT_sel 38 (by decide +kernel) rfl, ⟨gT_of 7 (by decide +kernel) rfl, gT_of 490 (by rfl) rfl, by decide, by decide +kernel, by decide⟩⟩
abbrev kX2_need : gM := (yX2_need, cX2_need, 6, some .int)
set_option maxRecDepth 20000 in
theorem lX2_need : gLv kX2_need 2 := ⟨gT_of 442 (by decide +kernel) rfl, gT_sel 30 (by decide +kernel) rfl, ⟨gT_of 7 (by decide +kernel) rfl, gT_of 443 (by rfl) rfl, by decide, by decide +kernel, by decide⟩⟩
abbrev kX2_needBy : gM := (yX2_needBy, cX2_needBy, 5, some .int)
set_option maxRecDepth 20000 in
theorem lX2_needBy : gLv kX2_needBy 3 := ⟨gT_of 446 (by decide +kernel) rfl, gT_sel 31 (by decide +kernel) rfl, ⟨gT_of 7 (by decide +kernel) rfl, gT_of 447 (by rfl) rfl, by decide, by decide +kernel, by decide⟩⟩
abbrev kX2_planned : gM := (yX2_planned, cX2_planned, 7, some .int)
set_option maxRecDepth 20000 in
theorem lX2_planned : gLv kX2_planned 3 := ⟨gT_of 469 (by decide +kernel) rfl, gT_sel 34 (by decide +kernel) rfl, ⟨gT_of 7 (by decide +kernel) rfl, gT_of 470 (by rfl) rfl, by decide, by decide +kernel, by decide⟩⟩
abbrev kX2_strikeUnseen : gM := (yX2_strikeUnseen, cX2_strikeUnseen, 6, none)
set_option maxRecDepth 20000 in
theorem lX2_strikeUnseen : gLv kX2_strikeUnseen 2 := ⟨gT_of 572 (by decide +kernel) rfl, gT_sel 50 (by decide +kernel) rfl, ⟨gT_of 7 (by decide +kernel) rfl, gT_of 573 (by rfl) rfl, by decide, by decide +kernel, by decide⟩⟩
abbrev kX2_want : gM := (yX2_want, cX2_want, 3, none)
set_option maxRecDepth 20000 in
theorem lX2_want : gLv kX2_want 2 := ⟨gT_of 437 (by decide +kernel) rfl, gT_sel 29 (by decide +kernel) rfl, ⟨gT_of 7 (by decide +kernel) rfl, gT_of 438 (by rfl) rfl, by decide, by decide +kernel, by decide⟩⟩
abbrev kX2_wonBy : gM := (yX2_wonBy, cX2_wonBy, 9, some .int)
set_option maxRecDepth 20000 in
theorem lX2_wonBy : gLv kX2_wonBy 2 := ⟨gT_of 506 (by decide +kernel) rfl, gT_sel 40 (by decide +kernel) rfl, ⟨gT_of 7 (by decide +kernel) rfl, gT_of 507 (by rfl) rfl, by decide, by decide +kernel, by decide⟩⟩
abbrev kX2_wonByChoice : gM := (yX2_wonByChoice, cX2_wonByChoice, 11, some .int)
set_option maxRecDepth 20000 in
theorem lX2_wonByChoice : gLv kX2_wonByChoice 3 := ⟨gT_of 512 (by decide +kernel) rfl, gT_sel 41 (by decide +kernel) rfl, ⟨gT_of 7 (by decide +kernel) rfl, gT_of 513 (by rfl) rfl, by decide, by decide +kernel, by decide⟩⟩
abbrev kX3_append : gM := (yX3_append, cX3_append, 2, none)
set_option maxRecDepth 20000 in
theorem lX3_append : gLv kX3_append 1 := ⟨gT_of 207 (by decide +kernel) rfl, gT_sel 0 (by decide +kernel) rfl, ⟨gT_of 2 (by decide +kernel) rfl, gT_of 208 (by rfl) rfl, by decide, by decide +kernel, by decide⟩⟩
abbrev kX3_faultAt : gM := (yX3_faultAt, cX3_faultAt, 1, some .int)
set_option maxRecDepth 20000 in
theorem lX3_faultAt : gLt kX3_faultAt 1 := ⟨gT_of 249 (by decide +kernel) rfl, ⟨gT_of 2 (by decide +kernel) rfl, gT_of 250 (by rfl) rfl, by decide, by decide +kernel, by decide⟩⟩
abbrev kX3_faultOf : gM := (yX3_faultOf, cX3_faultOf, 1, some .int)
set_option maxRecDepth 20000 in
theorem lX3_faultOf : gLt kX3_faultOf 1 := ⟨gT_of 256 (by decide +kernel) rfl, ⟨gT_of 2 (by decide +kernel) rfl, gT_of 257 (by rfl) rfl, by decide, by decide +kernel, by decide⟩⟩
abbrev kX3_figureAt : gM := (yX3_figureAt, cX3_figureAt, 4, some .int)
set_option maxRecDepth 20000 in
theorem lX3_figureAt : gLv kX3_figureAt 2 := ⟨gT_of 234 (by decide +kernel) rfl, gT_sel 4 (by decide +kernel) rfl, ⟨gT_of 2 (by decide +kernel) rfl, gT_of 235 (by rfl) rfl, by decide, by decide +kernel, by decide⟩⟩
abbrev kX3_readInto : gM := (yX3_readInto, cX3_readInto, 5, some .int)
set_option maxRecDepth 20000 in
theorem lX3_readInto : gLv kX3_readInto 1 := ⟨gT_of 219 (by decide +kernel) rfl, gT_sel 1 (by decide +kernel) rfl, ⟨gT_of 2 (by decide +kernel) rfl, gT_of 220 (by rfl) rfl, by decide, by decide +kernel, by decide⟩⟩
abbrev kX3_readNews : gM := (yX3_readNews, cX3_readNews, 9, some .int)
set_option maxRecDepth 20000 in
theorem lX3_readNews : gLv kX3_readNews 2 := ⟨gT_of 253 (by decide +kernel) rfl, gT_sel 8 (by decide +kernel) rfl, ⟨gT_of 2 (by decide +kernel) rfl, gT_of 254 (by rfl) rfl, by decide, by decide +kernel, by decide⟩⟩
abbrev kX3_readPart : gM := (yX3_readPart, cX3_readPart, 4, some .int)
set_option maxRecDepth 20000 in
theorem lX3_readPart : gLv kX3_readPart 2 := ⟨gT_of 238 (by decide +kernel) rfl, gT_sel 5 (by decide +kernel) rfl, ⟨gT_of 2 (by decide +kernel) rfl, gT_of 239 (by rfl) rfl, by decide, by decide +kernel, by decide⟩⟩
abbrev kX3_readPerson : gM := (yX3_readPerson, cX3_readPerson, 6, some .int)
set_option maxRecDepth 20000 in
theorem lX3_readPerson : gLv kX3_readPerson 2 := ⟨gT_of 242 (by decide +kernel) rfl, gT_sel 6 (by decide +kernel) rfl, ⟨gT_of 2 (by decide +kernel) rfl, gT_of 243 (by rfl) rfl, by decide, by decide +kernel, by decide⟩⟩
abbrev kX3_signAt : gM := (yX3_signAt, cX3_signAt, 2, some .int)
set_option maxRecDepth 20000 in
theorem lX3_signAt : gLv kX3_signAt 1 := ⟨gT_of 230 (by decide +kernel) rfl, gT_sel 3 (by decide +kernel) rfl, ⟨gT_of 2 (by decide +kernel) rfl, gT_of 231 (by rfl) rfl, by decide, by decide +kernel, by decide⟩⟩
abbrev kX4_fit : gM := (yX4_fit, cX4_fit, 3, some .boolean)
set_option maxRecDepth 20000 in
theorem lX4_fit : gLv kX4_fit 2 := ⟨gT_of 576 (by decide +kernel) rfl, gT_sel 51 (by decide +kernel) rfl, ⟨gT_of 5 (by decide +kernel) rfl, gT_of 577 (by rfl) rfl, by decide, by decide +kernel, by decide⟩⟩
abbrev kX4_forget : gM := (yX4_forget, cX4_forget, 1, none)
set_option maxRecDepth 20000 in
theorem lX4_forget : gLv kX4_forget 0 := ⟨gT_of 543 (by decide +kernel) rfl, gT_sel 44 (by decide +kernel) rfl, ⟨gT_of 5 (by decide +kernel) rfl, gT_of 544 (by rfl) rfl, by decide, by decide +kernel, by decide⟩⟩
abbrev kX4_see : gM := (yX4_see, cX4_see, 4, none)
set_option maxRecDepth 20000 in
theorem lX4_see : gLv kX4_see 3 := ⟨gT_of 535 (by decide +kernel) rfl, gT_sel 43 (by decide +kernel) rfl, ⟨gT_of 5 (by decide +kernel) rfl, gT_of 536 (by rfl) rfl, by decide, by decide +kernel, by decide⟩⟩
abbrev kX5_allows : gM := (yX5_allows, cX5_allows, 5, some .boolean)
set_option maxRecDepth 20000 in
theorem lX5_allows : gLv kX5_allows 3 := ⟨gT_of 336 (by decide +kernel) rfl, gT_sel 17 (by decide +kernel) rfl, ⟨gT_of 3 (by decide +kernel) rfl, gT_of 337 (by rfl) rfl, by decide, by decide +kernel, by decide⟩⟩
abbrev kX5_beginWith : gM := (yX5_beginWith, cX5_beginWith, 2, none)
set_option maxRecDepth 20000 in
theorem lX5_beginWith : gLv kX5_beginWith 1 := ⟨gT_of 267 (by decide +kernel) rfl, gT_sel 9 (by decide +kernel) rfl, ⟨gT_of 3 (by decide +kernel) rfl, gT_of 268 (by rfl) rfl, by decide, by decide +kernel, by decide⟩⟩
abbrev kX5_copyFrom : gM := (yX5_copyFrom, cX5_copyFrom, 2, none)
set_option maxRecDepth 20000 in
theorem lX5_copyFrom : gLv kX5_copyFrom 1 := ⟨gT_of 414 (by decide +kernel) rfl, gT_sel 25 (by decide +kernel) rfl, ⟨gT_of 3 (by decide +kernel) rfl, gT_of 415 (by rfl) rfl, by decide, by decide +kernel, by decide⟩⟩
abbrev kX5_count : gM := (yX5_count, cX5_count, 8, none)
set_option maxRecDepth 20000 in
theorem lX5_count : gLv kX5_count 4 := ⟨gT_of 372 (by decide +kernel) rfl, gT_sel 22 (by decide +kernel) rfl, ⟨gT_of 3 (by decide +kernel) rfl, gT_of 373 (by rfl) rfl, by decide, by decide +kernel, by decide⟩⟩
abbrev kX5_knows : gM := (yX5_knows, cX5_knows, 3, some .boolean)
set_option maxRecDepth 20000 in
theorem lX5_knows : gLv kX5_knows 2 := ⟨gT_of 328 (by decide +kernel) rfl, gT_sel 16 (by decide +kernel) rfl, ⟨gT_of 3 (by decide +kernel) rfl, gT_of 329 (by rfl) rfl, by decide, by decide +kernel, by decide⟩⟩
abbrev kX5_packedKnown : gM := (yX5_packedKnown, cX5_packedKnown, 3, some .int)
set_option maxRecDepth 20000 in
theorem lX5_packedKnown : gLv kX5_packedKnown 0 := ⟨gT_of 355 (by decide +kernel) rfl, gT_sel 19 (by decide +kernel) rfl, ⟨gT_of 3 (by decide +kernel) rfl, gT_of 356 (by rfl) rfl, by decide, by decide +kernel, by decide⟩⟩
abbrev kX5_spread : gM := (yX5_spread, cX5_spread, 6, some .int)
set_option maxRecDepth 20000 in
theorem lX5_spread : gLv kX5_spread 3 := ⟨gT_of 367 (by decide +kernel) rfl, gT_sel 21 (by decide +kernel) rfl, ⟨gT_of 3 (by decide +kernel) rfl, gT_of 368 (by rfl) rfl, by decide, by decide +kernel, by decide⟩⟩
abbrev kX5_tellingsOf : gM := (yX5_tellingsOf, cX5_tellingsOf, 4, some .int)
set_option maxRecDepth 20000 in
theorem lX5_tellingsOf : gLv kX5_tellingsOf 1 := ⟨gT_of 283 (by decide +kernel) rfl, gT_sel 11 (by decide +kernel) rfl, ⟨gT_of 3 (by decide +kernel) rfl, gT_of 284 (by rfl) rfl, by decide, by decide +kernel, by decide⟩⟩
abbrev kX5_unpackKnown : gM := (yX5_unpackKnown, cX5_unpackKnown, 3, none)
set_option maxRecDepth 20000 in
theorem lX5_unpackKnown : gLv kX5_unpackKnown 1 := ⟨gT_of 403 (by decide +kernel) rfl, gT_sel 24 (by decide +kernel) rfl, ⟨gT_of 3 (by decide +kernel) rfl, gT_of 404 (by rfl) rfl, by decide, by decide +kernel, by decide⟩⟩
abbrev kX6_about : gM := (yX6_about, cX6_about, 2, some .int)
set_option maxRecDepth 20000 in
theorem lX6_about : gLv kX6_about 1 := ⟨gT_of 274 (by decide +kernel) rfl, gT_of 275 (by decide +kernel) rfl, ⟨gT_of 1 (by decide +kernel) rfl, gT_of 276 (by rfl) rfl, by decide, by decide +kernel, by decide⟩⟩
abbrev kX6_again : gM := (yX6_again, cX6_again, 2, some .int)
set_option maxRecDepth 20000 in
theorem lX6_again : gLv kX6_again 1 := ⟨gT_of 587 (by decide +kernel) rfl, gT_of 588 (by decide +kernel) rfl, ⟨gT_of 1 (by decide +kernel) rfl, gT_of 589 (by rfl) rfl, by decide, by decide +kernel, by decide⟩⟩
abbrev kX6_chance : gM := (yX6_chance, cX6_chance, 6, some .long)
set_option maxRecDepth 20000 in
theorem lX6_chance : gLv kX6_chance 5 := ⟨gT_of 516 (by decide +kernel) rfl, gT_of 517 (by decide +kernel) rfl, ⟨gT_of 1 (by decide +kernel) rfl, gT_of 518 (by rfl) rfl, by decide, by decide +kernel, by decide⟩⟩
abbrev kX6_day : gM := (yX6_day, cX6_day, 3, some .int)
set_option maxRecDepth 20000 in
theorem lX6_day : gLv kX6_day 0 := ⟨gT_of 262 (by decide +kernel) rfl, gT_of 263 (by decide +kernel) rfl, ⟨gT_of 1 (by decide +kernel) rfl, gT_of 264 (by rfl) rfl, by decide, by decide +kernel, by decide⟩⟩
abbrev kX6_duel : gM := (yX6_duel, cX6_duel, 3, some .int)
set_option maxRecDepth 20000 in
theorem lX6_duel : gLv kX6_duel 2 := ⟨gT_of 501 (by decide +kernel) rfl, gT_of 502 (by decide +kernel) rfl, ⟨gT_of 1 (by decide +kernel) rfl, gT_of 503 (by rfl) rfl, by decide, by decide +kernel, by decide⟩⟩
abbrev kX6_fault : gM := (yX6_fault, cX6_fault, 1, some .int)
set_option maxRecDepth 20000 in
theorem lX6_fault : gLv kX6_fault 0 := ⟨gT_of 214 (by decide +kernel) rfl, gT_of 215 (by decide +kernel) rfl, ⟨gT_of 1 (by decide +kernel) rfl, gT_of 216 (by rfl) rfl, by decide, by decide +kernel, by decide⟩⟩
abbrev kX6_fewest : gM := (yX6_fewest, cX6_fewest, 4, some .int)
set_option maxRecDepth 20000 in
theorem lX6_fewest : gLv kX6_fewest 2 := ⟨gT_of 424 (by decide +kernel) rfl, gT_of 425 (by decide +kernel) rfl, ⟨gT_of 1 (by decide +kernel) rfl, gT_of 426 (by rfl) rfl, by decide, by decide +kernel, by decide⟩⟩
abbrev kX6_figureOf : gM := (yX6_figureOf, cX6_figureOf, 4, some .int)
set_option maxRecDepth 20000 in
theorem lX6_figureOf : gLt kX6_figureOf 2 := ⟨gT_of 417 (by decide +kernel) rfl, ⟨gT_of 1 (by decide +kernel) rfl, gT_of 418 (by rfl) rfl, by decide, by decide +kernel, by decide⟩⟩
abbrev kX6_fraction : gM := (yX6_fraction, cX6_fraction, 6, some .int)
set_option maxRecDepth 20000 in
theorem lX6_fraction : gLt kX6_fraction 3 := ⟨gT_of 527 (by decide +kernel) rfl, ⟨gT_of 1 (by decide +kernel) rfl, gT_of 528 (by rfl) rfl, by decide, by decide +kernel, by decide⟩⟩
abbrev kX6_hour : gM := (yX6_hour, cX6_hour, 1, some .int)
set_option maxRecDepth 20000 in
theorem lX6_hour : gLv kX6_hour 0 := ⟨gT_of 376 (by decide +kernel) rfl, gT_of 377 (by decide +kernel) rfl, ⟨gT_of 1 (by decide +kernel) rfl, gT_of 378 (by rfl) rfl, by decide, by decide +kernel, by decide⟩⟩
abbrev kX6_hoursOfHearing : gM := (yX6_hoursOfHearing, cX6_hoursOfHearing, 7, some .int)
set_option maxRecDepth 20000 in
theorem lX6_hoursOfHearing : gLv kX6_hoursOfHearing 3 := ⟨gT_of 523 (by decide +kernel) rfl, gT_sel 42 (by decide +kernel) rfl, ⟨gT_of 1 (by decide +kernel) rfl, gT_of 524 (by rfl) rfl, by decide, by decide +kernel, by decide⟩⟩
abbrev kX6_isHour : gM := (yX6_isHour, cX6_isHour, 1, some .boolean)
set_option maxRecDepth 20000 in
theorem lX6_isHour : gLt kX6_isHour 1 := ⟨gT_of 304 (by decide +kernel) rfl, ⟨gT_of 1 (by decide +kernel) rfl, gT_of 305 (by rfl) rfl, by decide, by decide +kernel, by decide⟩⟩
abbrev kX6_isNews : gM := (yX6_isNews, cX6_isNews, 2, some .boolean)
set_option maxRecDepth 20000 in
theorem lX6_isNews : gLv kX6_isNews 1 := ⟨gT_of 316 (by decide +kernel) rfl, gT_sel 15 (by decide +kernel) rfl, ⟨gT_of 1 (by decide +kernel) rfl, gT_of 317 (by rfl) rfl, by decide, by decide +kernel, by decide⟩⟩
abbrev kX6_isPerson : gM := (yX6_isPerson, cX6_isPerson, 2, some .boolean)
set_option maxRecDepth 20000 in
theorem lX6_isPerson : gLv kX6_isPerson 1 := ⟨gT_of 301 (by decide +kernel) rfl, gT_sel 13 (by decide +kernel) rfl, ⟨gT_of 1 (by decide +kernel) rfl, gT_of 302 (by rfl) rfl, by decide, by decide +kernel, by decide⟩⟩
abbrev kX6_joinHalves : gM := (yX6_joinHalves, cX6_joinHalves, 2, none)
set_option maxRecDepth 20000 in
theorem lX6_joinHalves : gLt kX6_joinHalves 2 := ⟨gT_of 259 (by decide +kernel) rfl, ⟨gT_of 1 (by decide +kernel) rfl, gT_of 260 (by rfl) rfl, by decide, by decide +kernel, by decide⟩⟩
abbrev kX6_judge : gM := (yX6_judge, cX6_judge, 5, some .int)
set_option maxRecDepth 20000 in
theorem lX6_judge : gLv kX6_judge 3 := ⟨gT_of 406 (by decide +kernel) rfl, gT_of 407 (by decide +kernel) rfl, ⟨gT_of 1 (by decide +kernel) rfl, gT_of 408 (by rfl) rfl, by decide, by decide +kernel, by decide⟩⟩
abbrev kX6_keep : gM := (yX6_keep, cX6_keep, 2, some .int)
set_option maxRecDepth 20000 in
theorem lX6_keep : gLv kX6_keep 1 := ⟨gT_of 583 (by decide +kernel) rfl, gT_of 584 (by decide +kernel) rfl, ⟨gT_of 1 (by decide +kernel) rfl, gT_of 585 (by rfl) rfl, by decide, by decide +kernel, by decide⟩⟩
abbrev kX6_leastTellings : gM := (yX6_leastTellings, cX6_leastTellings, 4, some .int)
set_option maxRecDepth 20000 in
theorem lX6_leastTellings : gLv kX6_leastTellings 2 := ⟨gT_of 433 (by decide +kernel) rfl, gT_sel 28 (by decide +kernel) rfl, ⟨gT_of 1 (by decide +kernel) rfl, gT_of 434 (by rfl) rfl, by decide, by decide +kernel, by decide⟩⟩
abbrev kX6_left : gM := (yX6_left, cX6_left, 3, some .int)
set_option maxRecDepth 20000 in
theorem lX6_left : gLv kX6_left 2 := ⟨gT_of 323 (by decide +kernel) rfl, gT_of 324 (by decide +kernel) rfl, ⟨gT_of 1 (by decide +kernel) rfl, gT_of 325 (by rfl) rfl, by decide, by decide +kernel, by decide⟩⟩
abbrev kX6_leftOf : gM := (yX6_leftOf, cX6_leftOf, 2, some .int)
set_option maxRecDepth 20000 in
theorem lX6_leftOf : gLv kX6_leftOf 1 := ⟨gT_of 461 (by decide +kernel) rfl, gT_sel 33 (by decide +kernel) rfl, ⟨gT_of 1 (by decide +kernel) rfl, gT_of 462 (by rfl) rfl, by decide, by decide +kernel, by decide⟩⟩
abbrev kX6_may : gM := (yX6_may, cX6_may, 3, some .int)
set_option maxRecDepth 20000 in
theorem lX6_may : gLv kX6_may 2 := ⟨gT_of 331 (by decide +kernel) rfl, gT_of 332 (by decide +kernel) rfl, ⟨gT_of 1 (by decide +kernel) rfl, gT_of 333 (by rfl) rfl, by decide, by decide +kernel, by decide⟩⟩
abbrev kX6_most : gM := (yX6_most, cX6_most, 3, some .int)
set_option maxRecDepth 20000 in
theorem lX6_most : gLv kX6_most 1 := ⟨gT_of 476 (by decide +kernel) rfl, gT_of 477 (by decide +kernel) rfl, ⟨gT_of 1 (by decide +kernel) rfl, gT_of 478 (by rfl) rfl, by decide, by decide +kernel, by decide⟩⟩
abbrev kX6_news : gM := (yX6_news, cX6_news, 3, some .int)
set_option maxRecDepth 20000 in
theorem lX6_news : gLv kX6_news 2 := ⟨gT_of 311 (by decide +kernel) rfl, gT_of 312 (by decide +kernel) rfl, ⟨gT_of 1 (by decide +kernel) rfl, gT_of 313 (by rfl) rfl, by decide, by decide +kernel, by decide⟩⟩
abbrev kX6_planAt : gM := (yX6_planAt, cX6_planAt, 5, some .int)
set_option maxRecDepth 20000 in
theorem lX6_planAt : gLv kX6_planAt 3 := ⟨gT_of 464 (by decide +kernel) rfl, gT_of 465 (by decide +kernel) rfl, ⟨gT_of 1 (by decide +kernel) rfl, gT_of 466 (by rfl) rfl, by decide, by decide +kernel, by decide⟩⟩
abbrev kX6_powerOf : gM := (yX6_powerOf, cX6_powerOf, 4, some .int)
set_option maxRecDepth 20000 in
theorem lX6_powerOf : gLt kX6_powerOf 2 := ⟨gT_of 410 (by decide +kernel) rfl, ⟨gT_of 1 (by decide +kernel) rfl, gT_of 411 (by rfl) rfl, by decide, by decide +kernel, by decide⟩⟩
abbrev kX6_refusalOfPlan : gM := (yX6_refusalOfPlan, cX6_refusalOfPlan, 3, some .int)
set_option maxRecDepth 20000 in
theorem lX6_refusalOfPlan : gLv kX6_refusalOfPlan 2 := ⟨gT_of 429 (by decide +kernel) rfl, gT_sel 27 (by decide +kernel) rfl, ⟨gT_of 1 (by decide +kernel) rfl, gT_of 430 (by rfl) rfl, by decide, by decide +kernel, by decide⟩⟩
abbrev kX6_rows : gM := (yX6_rows, cX6_rows, 3, some .int)
set_option maxRecDepth 20000 in
theorem lX6_rows : gLv kX6_rows 1 := ⟨gT_of 547 (by decide +kernel) rfl, gT_of 548 (by decide +kernel) rfl, ⟨gT_of 1 (by decide +kernel) rfl, gT_of 549 (by rfl) rfl, by decide, by decide +kernel, by decide⟩⟩
abbrev kX6_sight : gM := (yX6_sight, cX6_sight, 4, some .int)
set_option maxRecDepth 20000 in
theorem lX6_sight : gLv kX6_sight 3 := ⟨gT_of 530 (by decide +kernel) rfl, gT_of 531 (by decide +kernel) rfl, ⟨gT_of 1 (by decide +kernel) rfl, gT_of 532 (by rfl) rfl, by decide, by decide +kernel, by decide⟩⟩
abbrev kX6_spent : gM := (yX6_spent, cX6_spent, 4, some .int)
set_option maxRecDepth 20000 in
theorem lX6_spent : gLv kX6_spent 2 := ⟨gT_of 493 (by decide +kernel) rfl, gT_of 494 (by decide +kernel) rfl, ⟨gT_of 1 (by decide +kernel) rfl, gT_of 495 (by rfl) rfl, by decide, by decide +kernel, by decide⟩⟩
abbrev kX6_tell : gM := (yX6_tell, cX6_tell, 3, some .int)
set_option maxRecDepth 20000 in
theorem lX6_tell : gLv kX6_tell 2 := ⟨gT_of 350 (by decide +kernel) rfl, gT_of 351 (by decide +kernel) rfl, ⟨gT_of 1 (by decide +kernel) rfl, gT_of 352 (by rfl) rfl, by decide, by decide +kernel, by decide⟩⟩
abbrev kX6_tellingsOfAll : gM := (yX6_tellingsOfAll, cX6_tellingsOfAll, 3, some .int)
set_option maxRecDepth 20000 in
theorem lX6_tellingsOfAll : gLv kX6_tellingsOfAll 0 := ⟨gT_of 279 (by decide +kernel) rfl, gT_sel 10 (by decide +kernel) rfl, ⟨gT_of 1 (by decide +kernel) rfl, gT_of 280 (by rfl) rfl, by decide, by decide +kernel, by decide⟩⟩
abbrev kX6_told : gM := (yX6_told, cX6_told, 3, some .int)
set_option maxRecDepth 20000 in
theorem lX6_told : gLv kX6_told 2 := ⟨gT_of 319 (by decide +kernel) rfl, gT_of 320 (by decide +kernel) rfl, ⟨gT_of 1 (by decide +kernel) rfl, gT_of 321 (by rfl) rfl, by decide, by decide +kernel, by decide⟩⟩
abbrev kX6_triedFigure : gM := (yX6_triedFigure, cX6_triedFigure, 3, some .boolean)
set_option maxRecDepth 20000 in
theorem lX6_triedFigure : gLv kX6_triedFigure 2 := ⟨gT_of 421 (by decide +kernel) rfl, gT_sel 26 (by decide +kernel) rfl, ⟨gT_of 1 (by decide +kernel) rfl, gT_of 422 (by rfl) rfl, by decide, by decide +kernel, by decide⟩⟩
abbrev kX6_undo : gM := (yX6_undo, cX6_undo, 2, some .int)
set_option maxRecDepth 20000 in
theorem lX6_undo : gLv kX6_undo 0 := ⟨gT_of 380 (by decide +kernel) rfl, gT_of 381 (by decide +kernel) rfl, ⟨gT_of 1 (by decide +kernel) rfl, gT_of 382 (by rfl) rfl, by decide, by decide +kernel, by decide⟩⟩
abbrev kX6_unsee : gM := (yX6_unsee, cX6_unsee, 2, some .int)
set_option maxRecDepth 20000 in
theorem lX6_unsee : gLv kX6_unsee 0 := ⟨gT_of 538 (by decide +kernel) rfl, gT_of 539 (by decide +kernel) rfl, ⟨gT_of 1 (by decide +kernel) rfl, gT_of 540 (by rfl) rfl, by decide, by decide +kernel, by decide⟩⟩
abbrev kX6_where : gM := (yX6_where, cX6_where, 3, some .int)
set_option maxRecDepth 20000 in
theorem lX6_where : gLv kX6_where 2 := ⟨gT_of 296 (by decide +kernel) rfl, gT_of 297 (by decide +kernel) rfl, ⟨gT_of 1 (by decide +kernel) rfl, gT_of 298 (by rfl) rfl, by decide, by decide +kernel, by decide⟩⟩
abbrev kX6_wipe : gM := (yX6_wipe, cX6_wipe, 2, some .int)
set_option maxRecDepth 20000 in
theorem lX6_wipe : gLv kX6_wipe 0 := ⟨gT_of 210 (by decide +kernel) rfl, gT_of 211 (by decide +kernel) rfl, ⟨gT_of 1 (by decide +kernel) rfl, gT_of 212 (by rfl) rfl, by decide, by decide +kernel, by decide⟩⟩
abbrev kX6_worthOfAll : gM := (yX6_worthOfAll, cX6_worthOfAll, 3, some .int)
set_option maxRecDepth 20000 in
theorem lX6_worthOfAll : gLv kX6_worthOfAll 0 := ⟨gT_of 287 (by decide +kernel) rfl, gT_sel 12 (by decide +kernel) rfl, ⟨gT_of 1 (by decide +kernel) rfl, gT_of 288 (by rfl) rfl, by decide, by decide +kernel, by decide⟩⟩
abbrev kX6_write : gM := (yX6_write, cX6_write, 5, some .int)
set_option maxRecDepth 20000 in
theorem lX6_write : gLv kX6_write 2 := ⟨gT_of 202 (by decide +kernel) rfl, gT_of 203 (by decide +kernel) rfl, ⟨gT_of 1 (by decide +kernel) rfl, gT_of 204 (by rfl) rfl, by decide, by decide +kernel, by decide⟩⟩
abbrev kX7_about : gM := (yX7_about, cX7_about, 5, some .int)
set_option maxRecDepth 20000 in
theorem lX7_about : gLv kX7_about 1 := ⟨gT_of 748 (by decide +kernel) rfl, gT_of 749 (by decide +kernel) rfl, ⟨gT_of 8 (by decide +kernel) rfl, gT_of 750 (by rfl) rfl, by decide, by decide +kernel, by decide⟩⟩
abbrev kX7_again : gM := (yX7_again, cX7_again, 2, some .int)
set_option maxRecDepth 20000 in
theorem lX7_again : gLv kX7_again 1 := ⟨gT_of 911 (by decide +kernel) rfl, gT_of 912 (by decide +kernel) rfl, ⟨gT_of 8 (by decide +kernel) rfl, gT_of 913 (by rfl) rfl, by decide, by decide +kernel, by decide⟩⟩
abbrev kX7_behind : gM := (yX7_behind, cX7_behind, 6, some .int)
set_option maxRecDepth 20000 in
theorem lX7_behind : gLv kX7_behind 3 := ⟨gT_of 841 (by decide +kernel) rfl, gT_sel 70 (by decide +kernel) rfl, ⟨gT_of 8 (by decide +kernel) rfl, gT_of 842 (by rfl) rfl, by decide, by decide +kernel, by decide⟩⟩
abbrev kX7_both : gM := (yX7_both, cX7_both, 6, some .int)
set_option maxRecDepth 20000 in
theorem lX7_both : gLv kX7_both 4 := ⟨gT_of 877 (by decide +kernel) rfl, gT_sel 75 (by decide +kernel) rfl, ⟨gT_of 8 (by decide +kernel) rfl, gT_of 878 (by rfl) rfl, by decide, by decide +kernel, by decide⟩⟩
abbrev kX7_canAt : gM := (yX7_canAt, cX7_canAt, 5, some .boolean)
set_option maxRecDepth 20000 in
theorem lX7_canAt : gLv kX7_canAt 3 := ⟨gT_of 845 (by decide +kernel) rfl, gT_sel 71 (by decide +kernel) rfl, ⟨gT_of 8 (by decide +kernel) rfl, gT_of 846 (by rfl) rfl, by decide, by decide +kernel, by decide⟩⟩
abbrev kX7_chance : gM := (yX7_chance, cX7_chance, 12, some .long)
set_option maxRecDepth 20000 in
theorem lX7_chance : gLv kX7_chance 5 := ⟨gT_of 880 (by decide +kernel) rfl, gT_of 881 (by decide +kernel) rfl, ⟨gT_of 8 (by decide +kernel) rfl, gT_of 882 (by rfl) rfl, by decide, by decide +kernel, by decide⟩⟩
abbrev kX7_day : gM := (yX7_day, cX7_day, 2, some .int)
set_option maxRecDepth 20000 in
theorem lX7_day : gLv kX7_day 0 := ⟨gT_of 740 (by decide +kernel) rfl, gT_of 741 (by decide +kernel) rfl, ⟨gT_of 8 (by decide +kernel) rfl, gT_of 742 (by rfl) rfl, by decide, by decide +kernel, by decide⟩⟩
abbrev kX7_divisor : gM := (yX7_divisor, cX7_divisor, 10, some .long)
set_option maxRecDepth 20000 in
theorem lX7_divisor : gLt kX7_divisor 2 := ⟨gT_of 888 (by decide +kernel) rfl, ⟨gT_of 8 (by decide +kernel) rfl, gT_of 889 (by rfl) rfl, by decide, by decide +kernel, by decide⟩⟩
abbrev kX7_duel : gM := (yX7_duel, cX7_duel, 5, some .int)
set_option maxRecDepth 20000 in
theorem lX7_duel : gLv kX7_duel 2 := ⟨gT_of 868 (by decide +kernel) rfl, gT_of 869 (by decide +kernel) rfl, ⟨gT_of 8 (by decide +kernel) rfl, gT_of 870 (by rfl) rfl, by decide, by decide +kernel, by decide⟩⟩
abbrev kX7_fault : gM := (yX7_fault, cX7_fault, 1, some .int)
set_option maxRecDepth 20000 in
theorem lX7_fault : gLv kX7_fault 0 := ⟨gT_of 713 (by decide +kernel) rfl, gT_of 714 (by decide +kernel) rfl, ⟨gT_of 8 (by decide +kernel) rfl, gT_of 715 (by rfl) rfl, by decide, by decide +kernel, by decide⟩⟩
abbrev kX7_fewest : gM := (yX7_fewest, cX7_fewest, 4, some .int)
set_option maxRecDepth 20000 in
theorem lX7_fewest : gLv kX7_fewest 2 := ⟨gT_of 824 (by decide +kernel) rfl, gT_of 825 (by decide +kernel) rfl, ⟨gT_of 8 (by decide +kernel) rfl, gT_of 826 (by rfl) rfl, by decide, by decide +kernel, by decide⟩⟩
abbrev kX7_figure : gM := (yX7_figure, cX7_figure, 3, some .int)
set_option maxRecDepth 20000 in
theorem lX7_figure : gLv kX7_figure 2 := ⟨gT_of 722 (by decide +kernel) rfl, gT_sel 54 (by decide +kernel) rfl, ⟨gT_of 8 (by decide +kernel) rfl, gT_of 723 (by rfl) rfl, by decide, by decide +kernel, by decide⟩⟩
abbrev kX7_findFewest : gM := (yX7_findFewest, cX7_findFewest, 4, some .int)
set_option maxRecDepth 20000 in
theorem lX7_findFewest : gLv kX7_findFewest 2 := ⟨gT_of 833 (by decide +kernel) rfl, gT_sel 68 (by decide +kernel) rfl, ⟨gT_of 8 (by decide +kernel) rfl, gT_of 834 (by rfl) rfl, by decide, by decide +kernel, by decide⟩⟩
abbrev kX7_goWays : gM := (yX7_goWays, cX7_goWays, 7, none)
set_option maxRecDepth 20000 in
theorem lX7_goWays : gLv kX7_goWays 2 := ⟨gT_of 865 (by decide +kernel) rfl, gT_sel 73 (by decide +kernel) rfl, ⟨gT_of 8 (by decide +kernel) rfl, gT_of 866 (by rfl) rfl, by decide, by decide +kernel, by decide⟩⟩
abbrev kX7_halve : gM := (yX7_halve, cX7_halve, 2, none)
set_option maxRecDepth 20000 in
theorem lX7_halve : gLv kX7_halve 1 := ⟨gT_of 745 (by decide +kernel) rfl, gT_sel 58 (by decide +kernel) rfl, ⟨gT_of 8 (by decide +kernel) rfl, gT_of 746 (by rfl) rfl, by decide, by decide +kernel, by decide⟩⟩
abbrev kX7_has : gM := (yX7_has, cX7_has, 2, some .boolean)
set_option maxRecDepth 20000 in
theorem lX7_has : gLt kX7_has 2 := ⟨gT_of 737 (by decide +kernel) rfl, ⟨gT_of 8 (by decide +kernel) rfl, gT_of 738 (by rfl) rfl, by decide, by decide +kernel, by decide⟩⟩
abbrev kX7_hasIt : gM := (yX7_hasIt, cX7_hasIt, 11, some .boolean)
set_option maxRecDepth 20000 in
theorem lX7_hasIt : gLv kX7_hasIt 3 := ⟨gT_of 873 (by decide +kernel) rfl, gT_sel 74 (by decide +kernel) rfl, ⟨gT_of 8 (by decide +kernel) rfl, gT_of 874 (by rfl) rfl, by decide, by decide +kernel, by decide⟩⟩
abbrev kX7_hour : gM := (yX7_hour, cX7_hour, 1, some .int)
set_option maxRecDepth 20000 in
theorem lX7_hour : gLv kX7_hour 0 := ⟨gT_of 808 (by decide +kernel) rfl, gT_of 809 (by decide +kernel) rfl, ⟨gT_of 8 (by decide +kernel) rfl, gT_of 810 (by rfl) rfl, by decide, by decide +kernel, by decide⟩⟩
abbrev kX7_in : gM := (yX7_in, cX7_in, 6, some .boolean)
set_option maxRecDepth 20000 in
theorem lX7_in : gLt kX7_in 3 := ⟨gT_of 706 (by decide +kernel) rfl, ⟨gT_of 8 (by decide +kernel) rfl, gT_of 707 (by rfl) rfl, by decide, by decide +kernel, by decide⟩⟩
abbrev kX7_isSeen : gM := (yX7_isSeen, cX7_isSeen, 5, some .boolean)
set_option maxRecDepth 20000 in
theorem lX7_isSeen : gLv kX7_isSeen 2 := ⟨gT_of 904 (by decide +kernel) rfl, gT_sel 76 (by decide +kernel) rfl, ⟨gT_of 8 (by decide +kernel) rfl, gT_of 905 (by rfl) rfl, by decide, by decide +kernel, by decide⟩⟩
abbrev kX7_judge : gM := (yX7_judge, cX7_judge, 9, some .int)
set_option maxRecDepth 20000 in
theorem lX7_judge : gLv kX7_judge 3 := ⟨gT_of 820 (by decide +kernel) rfl, gT_of 821 (by decide +kernel) rfl, ⟨gT_of 8 (by decide +kernel) rfl, gT_of 822 (by rfl) rfl, by decide, by decide +kernel, by decide⟩⟩
abbrev kX7_keep : gM := (yX7_keep, cX7_keep, 2, some .int)
set_option maxRecDepth 20000 in
theorem lX7_keep : gLv kX7_keep 1 := ⟨gT_of 907 (by decide +kernel) rfl, gT_of 908 (by decide +kernel) rfl, ⟨gT_of 8 (by decide +kernel) rfl, gT_of 909 (by rfl) rfl, by decide, by decide +kernel, by decide⟩⟩
abbrev kX7_layNeed : gM := (yX7_layNeed, cX7_layNeed, 7, none)
set_option maxRecDepth 20000 in
theorem lX7_layNeed : gLv kX7_layNeed 1 := ⟨gT_of 837 (by decide +kernel) rfl, gT_sel 69 (by decide +kernel) rfl, ⟨gT_of 8 (by decide +kernel) rfl, gT_of 838 (by rfl) rfl, by decide, by decide +kernel, by decide⟩⟩
abbrev kX7_layPage : gM := (yX7_layPage, cX7_layPage, 4, none)
set_option maxRecDepth 20000 in
theorem lX7_layPage : gLv kX7_layPage 2 := ⟨gT_of 801 (by decide +kernel) rfl, gT_sel 64 (by decide +kernel) rfl, ⟨gT_of 8 (by decide +kernel) rfl, gT_of 802 (by rfl) rfl, by decide, by decide +kernel, by decide⟩⟩
abbrev kX7_left : gM := (yX7_left, cX7_left, 3, some .int)
set_option maxRecDepth 20000 in
theorem lX7_left : gLv kX7_left 2 := ⟨gT_of 776 (by decide +kernel) rfl, gT_of 777 (by decide +kernel) rfl, ⟨gT_of 8 (by decide +kernel) rfl, gT_of 778 (by rfl) rfl, by decide, by decide +kernel, by decide⟩⟩
abbrev kX7_leftOf : gM := (yX7_leftOf, cX7_leftOf, 2, some .int)
set_option maxRecDepth 20000 in
theorem lX7_leftOf : gLv kX7_leftOf 1 := ⟨gT_of 849 (by decide +kernel) rfl, gT_sel 72 (by decide +kernel) rfl, ⟨gT_of 8 (by decide +kernel) rfl, gT_of 850 (by rfl) rfl, by decide, by decide +kernel, by decide⟩⟩
abbrev kX7_many : gM := (yX7_many, cX7_many, 3, some .int)
set_option maxRecDepth 20000 in
theorem lX7_many : gLt kX7_many 1 := ⟨gT_of 752 (by decide +kernel) rfl, ⟨gT_of 8 (by decide +kernel) rfl, gT_of 753 (by rfl) rfl, by decide, by decide +kernel, by decide⟩⟩
abbrev kX7_may : gM := (yX7_may, cX7_may, 3, some .int)
set_option maxRecDepth 20000 in
theorem lX7_may : gLv kX7_may 2 := ⟨gT_of 780 (by decide +kernel) rfl, gT_of 781 (by decide +kernel) rfl, ⟨gT_of 8 (by decide +kernel) rfl, gT_of 782 (by rfl) rfl, by decide, by decide +kernel, by decide⟩⟩
abbrev kX7_mayTell : gM := (yX7_mayTell, cX7_mayTell, 6, some .boolean)
set_option maxRecDepth 20000 in
theorem lX7_mayTell : gLv kX7_mayTell 4 := ⟨gT_of 785 (by decide +kernel) rfl, gT_sel 61 (by decide +kernel) rfl, ⟨gT_of 8 (by decide +kernel) rfl, gT_of 786 (by rfl) rfl, by decide, by decide +kernel, by decide⟩⟩
abbrev kX7_most : gM := (yX7_most, cX7_most, 7, some .int)
set_option maxRecDepth 20000 in
theorem lX7_most : gLv kX7_most 1 := ⟨gT_of 856 (by decide +kernel) rfl, gT_of 857 (by decide +kernel) rfl, ⟨gT_of 8 (by decide +kernel) rfl, gT_of 858 (by rfl) rfl, by decide, by decide +kernel, by decide⟩⟩
abbrev kX7_news : gM := (yX7_news, cX7_news, 3, some .int)
set_option maxRecDepth 20000 in
theorem lX7_news : gLv kX7_news 2 := ⟨gT_of 764 (by decide +kernel) rfl, gT_of 765 (by decide +kernel) rfl, ⟨gT_of 8 (by decide +kernel) rfl, gT_of 766 (by rfl) rfl, by decide, by decide +kernel, by decide⟩⟩
abbrev kX7_noNews : gM := (yX7_noNews, cX7_noNews, 2, some .boolean)
set_option maxRecDepth 20000 in
theorem lX7_noNews : gLv kX7_noNews 1 := ⟨gT_of 769 (by decide +kernel) rfl, gT_sel 60 (by decide +kernel) rfl, ⟨gT_of 8 (by decide +kernel) rfl, gT_of 770 (by rfl) rfl, by decide, by decide +kernel, by decide⟩⟩
abbrev kX7_noOne : gM := (yX7_noOne, cX7_noOne, 2, some .boolean)
set_option maxRecDepth 20000 in
theorem lX7_noOne : gLv kX7_noOne 1 := ⟨gT_of 760 (by decide +kernel) rfl, gT_sel 59 (by decide +kernel) rfl, ⟨gT_of 8 (by decide +kernel) rfl, gT_of 761 (by rfl) rfl, by decide, by decide +kernel, by decide⟩⟩
abbrev kX7_noPlan : gM := (yX7_noPlan, cX7_noPlan, 3, some .int)
set_option maxRecDepth 20000 in
theorem lX7_noPlan : gLv kX7_noPlan 2 := ⟨gT_of 829 (by decide +kernel) rfl, gT_sel 67 (by decide +kernel) rfl, ⟨gT_of 8 (by decide +kernel) rfl, gT_of 830 (by rfl) rfl, by decide, by decide +kernel, by decide⟩⟩
abbrev kX7_note : gM := (yX7_note, cX7_note, 2, none)
set_option maxRecDepth 20000 in
theorem lX7_note : gLv kX7_note 0 := ⟨gT_of 797 (by decide +kernel) rfl, gT_sel 63 (by decide +kernel) rfl, ⟨gT_of 8 (by decide +kernel) rfl, gT_of 798 (by rfl) rfl, by decide, by decide +kernel, by decide⟩⟩
abbrev kX7_planAt : gM := (yX7_planAt, cX7_planAt, 10, some .int)
set_option maxRecDepth 20000 in
theorem lX7_planAt : gLv kX7_planAt 3 := ⟨gT_of 852 (by decide +kernel) rfl, gT_of 853 (by decide +kernel) rfl, ⟨gT_of 8 (by decide +kernel) rfl, gT_of 854 (by rfl) rfl, by decide, by decide +kernel, by decide⟩⟩
abbrev kX7_readDay : gM := (yX7_readDay, cX7_readDay, 4, some .int)
set_option maxRecDepth 20000 in
theorem lX7_readDay : gLv kX7_readDay 0 := ⟨gT_of 718 (by decide +kernel) rfl, gT_sel 53 (by decide +kernel) rfl, ⟨gT_of 8 (by decide +kernel) rfl, gT_of 719 (by rfl) rfl, by decide, by decide +kernel, by decide⟩⟩
abbrev kX7_readKnows : gM := (yX7_readKnows, cX7_readKnows, 3, some .boolean)
set_option maxRecDepth 20000 in
theorem lX7_readKnows : gLv kX7_readKnows 1 := ⟨gT_of 734 (by decide +kernel) rfl, gT_sel 57 (by decide +kernel) rfl, ⟨gT_of 8 (by decide +kernel) rfl, gT_of 735 (by rfl) rfl, by decide, by decide +kernel, by decide⟩⟩
abbrev kX7_readNews : gM := (yX7_readNews, cX7_readNews, 3, some .boolean)
set_option maxRecDepth 20000 in
theorem lX7_readNews : gLv kX7_readNews 0 := ⟨gT_of 730 (by decide +kernel) rfl, gT_sel 56 (by decide +kernel) rfl, ⟨gT_of 8 (by decide +kernel) rfl, gT_of 731 (by rfl) rfl, by decide, by decide +kernel, by decide⟩⟩
abbrev kX7_readPerson : gM := (yX7_readPerson, cX7_readPerson, 4, some .boolean)
set_option maxRecDepth 20000 in
theorem lX7_readPerson : gLv kX7_readPerson 0 := ⟨gT_of 726 (by decide +kernel) rfl, gT_sel 55 (by decide +kernel) rfl, ⟨gT_of 8 (by decide +kernel) rfl, gT_of 727 (by rfl) rfl, by decide, by decide +kernel, by decide⟩⟩
abbrev kX7_rows : gM := (yX7_rows, cX7_rows, 4, some .int)
set_option maxRecDepth 20000 in
theorem lX7_rows : gLv kX7_rows 1 := ⟨gT_of 899 (by decide +kernel) rfl, gT_of 900 (by decide +kernel) rfl, ⟨gT_of 8 (by decide +kernel) rfl, gT_of 901 (by rfl) rfl, by decide, by decide +kernel, by decide⟩⟩
abbrev kX7_sight : gM := (yX7_sight, cX7_sight, 4, some .int)
set_option maxRecDepth 20000 in
theorem lX7_sight : gLv kX7_sight 3 := ⟨gT_of 891 (by decide +kernel) rfl, gT_of 892 (by decide +kernel) rfl, ⟨gT_of 8 (by decide +kernel) rfl, gT_of 893 (by rfl) rfl, by decide, by decide +kernel, by decide⟩⟩
abbrev kX7_spent : gM := (yX7_spent, cX7_spent, 6, some .int)
set_option maxRecDepth 20000 in
theorem lX7_spent : gLv kX7_spent 2 := ⟨gT_of 860 (by decide +kernel) rfl, gT_of 861 (by decide +kernel) rfl, ⟨gT_of 8 (by decide +kernel) rfl, gT_of 862 (by rfl) rfl, by decide, by decide +kernel, by decide⟩⟩
abbrev kX7_takePage : gM := (yX7_takePage, cX7_takePage, 4, none)
set_option maxRecDepth 20000 in
theorem lX7_takePage : gLv kX7_takePage 2 := ⟨gT_of 817 (by decide +kernel) rfl, gT_sel 66 (by decide +kernel) rfl, ⟨gT_of 8 (by decide +kernel) rfl, gT_of 818 (by rfl) rfl, by decide, by decide +kernel, by decide⟩⟩
abbrev kX7_tell : gM := (yX7_tell, cX7_tell, 4, some .int)
set_option maxRecDepth 20000 in
theorem lX7_tell : gLv kX7_tell 2 := ⟨gT_of 792 (by decide +kernel) rfl, gT_of 793 (by decide +kernel) rfl, ⟨gT_of 8 (by decide +kernel) rfl, gT_of 794 (by rfl) rfl, by decide, by decide +kernel, by decide⟩⟩
abbrev kX7_tellIt : gM := (yX7_tellIt, cX7_tellIt, 8, none)
set_option maxRecDepth 20000 in
theorem lX7_tellIt : gLv kX7_tellIt 4 := ⟨gT_of 805 (by decide +kernel) rfl, gT_sel 65 (by decide +kernel) rfl, ⟨gT_of 8 (by decide +kernel) rfl, gT_of 806 (by rfl) rfl, by decide, by decide +kernel, by decide⟩⟩
abbrev kX7_those : gM := (yX7_those, cX7_those, 5, some .int)
set_option maxRecDepth 20000 in
theorem lX7_those : gLv kX7_those 2 := ⟨gT_of 789 (by decide +kernel) rfl, gT_sel 62 (by decide +kernel) rfl, ⟨gT_of 8 (by decide +kernel) rfl, gT_of 790 (by rfl) rfl, by decide, by decide +kernel, by decide⟩⟩
abbrev kX7_told : gM := (yX7_told, cX7_told, 3, some .int)
set_option maxRecDepth 20000 in
theorem lX7_told : gLv kX7_told 2 := ⟨gT_of 772 (by decide +kernel) rfl, gT_of 773 (by decide +kernel) rfl, ⟨gT_of 8 (by decide +kernel) rfl, gT_of 774 (by rfl) rfl, by decide, by decide +kernel, by decide⟩⟩
abbrev kX7_undo : gM := (yX7_undo, cX7_undo, 1, some .int)
set_option maxRecDepth 20000 in
theorem lX7_undo : gLv kX7_undo 0 := ⟨gT_of 812 (by decide +kernel) rfl, gT_of 813 (by decide +kernel) rfl, ⟨gT_of 8 (by decide +kernel) rfl, gT_of 814 (by rfl) rfl, by decide, by decide +kernel, by decide⟩⟩
abbrev kX7_unsee : gM := (yX7_unsee, cX7_unsee, 2, some .int)
set_option maxRecDepth 20000 in
theorem lX7_unsee : gLv kX7_unsee 0 := ⟨gT_of 895 (by decide +kernel) rfl, gT_of 896 (by decide +kernel) rfl, ⟨gT_of 8 (by decide +kernel) rfl, gT_of 897 (by rfl) rfl, by decide, by decide +kernel, by decide⟩⟩
abbrev kX7_where : gM := (yX7_where, cX7_where, 3, some .int)
set_option maxRecDepth 20000 in
theorem lX7_where : gLv kX7_where 2 := ⟨gT_of 755 (by decide +kernel) rfl, gT_of 756 (by decide +kernel) rfl, ⟨gT_of 8 (by decide +kernel) rfl, gT_of 757 (by rfl) rfl, by decide, by decide +kernel, by decide⟩⟩
abbrev kX7_wipe : gM := (yX7_wipe, cX7_wipe, 2, some .int)
set_option maxRecDepth 20000 in
theorem lX7_wipe : gLv kX7_wipe 0 := ⟨gT_of 709 (by decide +kernel) rfl, gT_of 710 (by decide +kernel) rfl, ⟨gT_of 8 (by decide +kernel) rfl, gT_of 711 (by rfl) rfl, by decide, by decide +kernel, by decide⟩⟩
abbrev kX7_write : gM := (yX7_write, cX7_write, 5, some .int)
set_option maxRecDepth 20000 in
theorem lX7_write : gLv kX7_write 2 := ⟨gT_of 701 (by decide +kernel) rfl, gT_of 702 (by decide +kernel) rfl, ⟨gT_of 8 (by decide +kernel) rfl, gT_of 703 (by rfl) rfl, by decide, by decide +kernel, by decide⟩⟩
theorem mL_15 : gLk RL 15 yX6_write := Or.inl (gT_of 201 (by decide +kernel) rfl)
theorem mL_19 : gLk RL 19 yX7_write := Or.inl (gT_of 700 (by decide +kernel) rfl)
theorem mL_20 : gLk RL 20 yX6_wipe := Or.inl (gT_of 209 (by decide +kernel) rfl)
theorem mL_24 : gLk RL 24 yX7_wipe := Or.inl (gT_of 708 (by decide +kernel) rfl)
theorem mL_25 : gLk RL 25 yX6_fault := Or.inl (gT_of 213 (by decide +kernel) rfl)
theorem mL_28 : gLk RL 28 yX7_fault := Or.inl (gT_of 712 (by decide +kernel) rfl)
theorem mL_29 : gLk RL 29 yX6_day := Or.inl (gT_of 261 (by decide +kernel) rfl)
theorem mL_32 : gLk RL 32 yX7_day := Or.inl (gT_of 739 (by decide +kernel) rfl)
theorem mL_33 : gLk RL 33 yX6_about := Or.inl (gT_of 273 (by decide +kernel) rfl)
theorem mL_37 : gLk RL 37 yX7_about := Or.inl (gT_of 747 (by decide +kernel) rfl)
theorem mL_38 : gLk RL 38 yX6_where := Or.inl (gT_of 295 (by decide +kernel) rfl)
theorem mL_42 : gLk RL 42 yX7_where := Or.inl (gT_of 754 (by decide +kernel) rfl)
theorem mL_43 : gLk RL 43 yX6_news := Or.inl (gT_of 310 (by decide +kernel) rfl)
theorem mL_46 : gLk RL 46 yX7_news := Or.inl (gT_of 763 (by decide +kernel) rfl)
theorem mL_47 : gLk RL 47 yX6_told := Or.inl (gT_of 318 (by decide +kernel) rfl)
theorem mL_50 : gLk RL 50 yX7_told := Or.inl (gT_of 771 (by decide +kernel) rfl)
theorem mL_51 : gLk RL 51 yX6_left := Or.inl (gT_of 322 (by decide +kernel) rfl)
theorem mL_54 : gLk RL 54 yX7_left := Or.inl (gT_of 775 (by decide +kernel) rfl)
theorem mL_55 : gLk RL 55 yX6_may := Or.inl (gT_of 330 (by decide +kernel) rfl)
theorem mL_58 : gLk RL 58 yX7_may := Or.inl (gT_of 779 (by decide +kernel) rfl)
theorem mL_59 : gLk RL 59 yX6_tell := Or.inl (gT_of 349 (by decide +kernel) rfl)
theorem mL_62 : gLk RL 62 yX7_tell := Or.inl (gT_of 791 (by decide +kernel) rfl)
theorem mL_63 : gLk RL 63 yX6_hour := Or.inl (gT_of 375 (by decide +kernel) rfl)
theorem mL_66 : gLk RL 66 yX7_hour := Or.inl (gT_of 807 (by decide +kernel) rfl)
theorem mL_67 : gLk RL 67 yX6_undo := Or.inl (gT_of 379 (by decide +kernel) rfl)
theorem mL_70 : gLk RL 70 yX7_undo := Or.inl (gT_of 811 (by decide +kernel) rfl)
theorem mL_71 : gLk RL 71 yX6_judge := Or.inl (gT_of 405 (by decide +kernel) rfl)
theorem mL_75 : gLk RL 75 yX7_judge := Or.inl (gT_of 819 (by decide +kernel) rfl)
theorem mL_76 : gLk RL 76 yX6_fewest := Or.inl (gT_of 423 (by decide +kernel) rfl)
theorem mL_79 : gLk RL 79 yX7_fewest := Or.inl (gT_of 823 (by decide +kernel) rfl)
theorem mL_80 : gLk RL 80 yX6_planAt := Or.inl (gT_of 463 (by decide +kernel) rfl)
theorem mL_83 : gLk RL 83 yX7_planAt := Or.inl (gT_of 851 (by decide +kernel) rfl)
theorem mL_84 : gLk RL 84 yX6_most := Or.inl (gT_of 475 (by decide +kernel) rfl)
theorem mL_87 : gLk RL 87 yX7_most := Or.inl (gT_of 855 (by decide +kernel) rfl)
theorem mL_88 : gLk RL 88 yX6_spent := Or.inl (gT_of 492 (by decide +kernel) rfl)
theorem mL_91 : gLk RL 91 yX7_spent := Or.inl (gT_of 859 (by decide +kernel) rfl)
theorem mL_92 : gLk RL 92 yX6_duel := Or.inl (gT_of 500 (by decide +kernel) rfl)
theorem mL_95 : gLk RL 95 yX7_duel := Or.inl (gT_of 867 (by decide +kernel) rfl)
theorem mL_96 : gLk RL 96 yX6_chance := Or.inl (gT_of 515 (by decide +kernel) rfl)
theorem mL_100 : gLk RL 100 yX7_chance := Or.inl (gT_of 879 (by decide +kernel) rfl)
theorem mL_101 : gLk RL 101 yX6_sight := Or.inl (gT_of 529 (by decide +kernel) rfl)
theorem mL_105 : gLk RL 105 yX7_sight := Or.inl (gT_of 890 (by decide +kernel) rfl)
theorem mL_106 : gLk RL 106 yX6_unsee := Or.inl (gT_of 537 (by decide +kernel) rfl)
theorem mL_109 : gLk RL 109 yX7_unsee := Or.inl (gT_of 894 (by decide +kernel) rfl)
theorem mL_110 : gLk RL 110 yX6_rows := Or.inl (gT_of 546 (by decide +kernel) rfl)
theorem mL_113 : gLk RL 113 yX7_rows := Or.inl (gT_of 898 (by decide +kernel) rfl)
theorem mL_114 : gLk RL 114 yX6_keep := Or.inl (gT_of 582 (by decide +kernel) rfl)
theorem mL_117 : gLk RL 117 yX7_keep := Or.inl (gT_of 906 (by decide +kernel) rfl)
theorem mL_118 : gLk RL 118 yX6_again := Or.inl (gT_of 586 (by decide +kernel) rfl)
theorem mL_121 : gLk RL 121 yX7_again := Or.inl (gT_of 910 (by decide +kernel) rfl)
theorem mX1_27 : gLk RX1 27 yJ7_fill_53178 := Or.inl (gT_of 225 (by decide +kernel) rfl)
theorem mX1_43 : gLk RX1 43 yJ6_bitCount_0f7a4 := Or.inl (gT_of 347 (by decide +kernel) rfl)
theorem mX2_28 : gLk RX2 28 yX1_group := Or.inr ⟨"ToldNineTimes", gN_of 452 (by decide +kernel) rfl⟩
theorem mX2_34 : gLk RX2 34 yX1_isCompany := Or.inr ⟨"ToldNineTimes", gN_of 453 (by decide +kernel) rfl⟩
theorem mX2_38 : gLk RX2 38 yX2_behind := Or.inl (gT_of 448 (by decide +kernel) rfl)
theorem mX2_46 : gLk RX2 46 yJ7_fill_53178 := Or.inl (gT_of 439 (by decide +kernel) rfl)
theorem mX2_52 : gLk RX2 52 yX2_needBy := Or.inl (gT_of 444 (by decide +kernel) rfl)
theorem mX2_60 : gLk RX2 60 yJ6_bitCount_0f7a4 := Or.inl (gT_of 454 (by decide +kernel) rfl)
theorem mX2_66 : gLk RX2 66 yX2_need := Or.inl (gT_of 455 (by decide +kernel) rfl)
theorem mX2_69 : gLk RX2 69 yX2_firstOfLeast := Or.inl (gT_of 471 (by decide +kernel) rfl)
theorem mX2_75 : gLk RX2 75 yX2_wonByChoice := Or.inl (gT_of 510 (by decide +kernel) rfl)
theorem mX2_78 : gLk RX2 78 yX2_wonBy := Or.inl (gT_of 514 (by decide +kernel) rfl)
theorem mX2_87 : gLk RX2 87 yX2_isReached := Or.inl (gT_of 558 (by decide +kernel) rfl)
theorem mX2_90 : gLk RX2 90 yX2_findNexts := Or.inl (gT_of 562 (by decide +kernel) rfl)
theorem mX2_94 : gLk RX2 94 yX2_countOn := Or.inl (gT_of 566 (by decide +kernel) rfl)
theorem mX2_97 : gLk RX2 97 yX4_fit := Or.inr ⟨"ToldNineTimes", gN_of 574 (by decide +kernel) rfl⟩
theorem mX3_19 : gLk RX3 19 yX3_signAt := Or.inl (gT_of 228 (by decide +kernel) rfl)
theorem mX3_23 : gLk RX3 23 yX1_clear := Or.inr ⟨"ToldNineTimes", gN_of 221 (by decide +kernel) rfl⟩
theorem mX3_28 : gLk RX3 28 yX3_figureAt := Or.inl (gT_of 232 (by decide +kernel) rfl)
theorem mX3_35 : gLk RX3 35 yX3_readPart := Or.inl (gT_of 236 (by decide +kernel) rfl)
theorem mX3_39 : gLk RX3 39 yX3_faultOf := Or.inl (gT_of 255 (by decide +kernel) rfl)
theorem mX3_48 : gLk RX3 48 yX6_joinHalves := Or.inr ⟨"ToldNineTimes", gN_of 258 (by decide +kernel) rfl⟩
theorem mX3_55 : gLk RX3 55 yX3_readPerson := Or.inl (gT_of 240 (by decide +kernel) rfl)
theorem mX3_58 : gLk RX3 58 yX3_readNews := Or.inl (gT_of 251 (by decide +kernel) rfl)
theorem mX3_61 : gLk RX3 61 yX3_faultAt := Or.inl (gT_of 248 (by decide +kernel) rfl)
theorem mX3_64 : gLk RX3 64 yX1_put := Or.inr ⟨"ToldNineTimes", gN_of 244 (by decide +kernel) rfl⟩
theorem mX4_22 : gLk RX4 22 yJ7_fill_53178 := Or.inl (gT_of 545 (by decide +kernel) rfl)
theorem mX5_35 : gLk RX5 35 yJ7_fill_53178 := Or.inl (gT_of 272 (by decide +kernel) rfl)
theorem mX5_45 : gLk RX5 45 yX1_placeOf := Or.inr ⟨"ToldNineTimes", gN_of 338 (by decide +kernel) rfl⟩
theorem mX5_49 : gLk RX5 49 yX5_knows := Or.inl (gT_of 339 (by decide +kernel) rfl)
theorem mX5_53 : gLk RX5 53 yX1_group := Or.inr ⟨"ToldNineTimes", gN_of 340 (by decide +kernel) rfl⟩
theorem mX5_56 : gLk RX5 56 yX1_isCompany := Or.inr ⟨"ToldNineTimes", gN_of 344 (by decide +kernel) rfl⟩
theorem mX5_60 : gLk RX5 60 yX5_tellingsOf := Or.inl (gT_of 348 (by decide +kernel) rfl)
theorem mX5_70 : gLk RX5 70 yJ6_bitCount_0f7a4 := Or.inl (gT_of 369 (by decide +kernel) rfl)
theorem mX5_75 : gLk RX5 75 yX5_count := Or.inl (gT_of 370 (by decide +kernel) rfl)
theorem mX5_82 : gLk RX5 82 yX6_joinHalves := Or.inr ⟨"ToldNineTimes", gN_of 374 (by decide +kernel) rfl⟩
theorem mX6_67 : gLk RX6 67 yX3_append := Or.inr ⟨"ToldNineTimes", gN_of 205 (by decide +kernel) rfl⟩
theorem mX6_71 : gLk RX6 71 yX3_readInto := Or.inr ⟨"ToldNineTimes", gN_of 217 (by decide +kernel) rfl⟩
theorem mX6_75 : gLk RX6 75 yX5_beginWith := Or.inr ⟨"ToldNineTimes", gN_of 265 (by decide +kernel) rfl⟩
theorem mX6_97 : gLk RX6 97 yX6_tellingsOfAll := Or.inl (gT_of 277 (by decide +kernel) rfl)
theorem mX6_101 : gLk RX6 101 yX6_worthOfAll := Or.inl (gT_of 285 (by decide +kernel) rfl)
theorem mX6_105 : gLk RX6 105 yX6_isPerson := Or.inl (gT_of 299 (by decide +kernel) rfl)
theorem mX6_109 : gLk RX6 109 yX6_isHour := Or.inl (gT_of 303 (by decide +kernel) rfl)
theorem mX6_112 : gLk RX6 112 yX1_placeOf := Or.inr ⟨"ToldNineTimes", gN_of 306 (by decide +kernel) rfl⟩
theorem mX6_116 : gLk RX6 116 yX6_isNews := Or.inl (gT_of 314 (by decide +kernel) rfl)
theorem mX6_126 : gLk RX6 126 yX5_tellingsOf := Or.inr ⟨"ToldNineTimes", gN_of 281 (by decide +kernel) rfl⟩
theorem mX6_139 : gLk RX6 139 yX5_knows := Or.inr ⟨"ToldNineTimes", gN_of 326 (by decide +kernel) rfl⟩
theorem mX6_146 : gLk RX6 146 yX5_allows := Or.inr ⟨"ToldNineTimes", gN_of 334 (by decide +kernel) rfl⟩
theorem mX6_150 : gLk RX6 150 yX5_packedKnown := Or.inr ⟨"ToldNineTimes", gN_of 353 (by decide +kernel) rfl⟩
theorem mX6_153 : gLk RX6 153 yX0_telling := Or.inr ⟨"ToldNineTimes", gN_of 357 (by decide +kernel) rfl⟩
theorem mX6_157 : gLk RX6 157 yX0_append := Or.inr ⟨"ToldNineTimes", gN_of 360 (by decide +kernel) rfl⟩
theorem mX6_158 : gLk RX6 158 yX5_spread := Or.inr ⟨"ToldNineTimes", gN_of 365 (by decide +kernel) rfl⟩
theorem mX6_162 : gLk RX6 162 yX0_takeLast := Or.inr ⟨"ToldNineTimes", gN_of 383 (by decide +kernel) rfl⟩
theorem mX6_165 : gLk RX6 165 yX0_teller := Or.inr ⟨"ToldNineTimes", gN_of 390 (by decide +kernel) rfl⟩
theorem mX6_168 : gLk RX6 168 yX0_newsOf := Or.inr ⟨"ToldNineTimes", gN_of 393 (by decide +kernel) rfl⟩
theorem mX6_171 : gLk RX6 171 yX5_count := Or.inr ⟨"ToldNineTimes", gN_of 396 (by decide +kernel) rfl⟩
theorem mX6_174 : gLk RX6 174 yX0_packedKnown := Or.inr ⟨"ToldNineTimes", gN_of 397 (by decide +kernel) rfl⟩
theorem mX6_176 : gLk RX6 176 yX5_unpackKnown := Or.inr ⟨"ToldNineTimes", gN_of 401 (by decide +kernel) rfl⟩
theorem mX6_179 : gLk RX6 179 yX6_powerOf := Or.inl (gT_of 409 (by decide +kernel) rfl)
theorem mX6_182 : gLk RX6 182 yX5_copyFrom := Or.inr ⟨"ToldNineTimes", gN_of 412 (by decide +kernel) rfl⟩
theorem mX6_186 : gLk RX6 186 yX6_figureOf := Or.inl (gT_of 416 (by decide +kernel) rfl)
theorem mX6_189 : gLk RX6 189 yX6_triedFigure := Or.inl (gT_of 419 (by decide +kernel) rfl)
theorem mX6_192 : gLk RX6 192 yX6_refusalOfPlan := Or.inl (gT_of 427 (by decide +kernel) rfl)
theorem mX6_195 : gLk RX6 195 yX6_leastTellings := Or.inl (gT_of 431 (by decide +kernel) rfl)
theorem mX6_198 : gLk RX6 198 yX2_planned := Or.inr ⟨"ToldNineTimes", gN_of 467 (by decide +kernel) rfl⟩
theorem mX6_201 : gLk RX6 201 yX6_leftOf := Or.inl (gT_of 459 (by decide +kernel) rfl)
theorem mX6_204 : gLk RX6 204 yX2_lookFrom := Or.inr ⟨"ToldNineTimes", gN_of 479 (by decide +kernel) rfl⟩
theorem mX6_208 : gLk RX6 208 yX2_goThrough := Or.inr ⟨"ToldNineTimes", gN_of 483 (by decide +kernel) rfl⟩
theorem mX6_212 : gLk RX6 212 yX2_mostKnowing := Or.inr ⟨"ToldNineTimes", gN_of 487 (by decide +kernel) rfl⟩
theorem mX6_215 : gLk RX6 215 yX2_canBeSpent := Or.inr ⟨"ToldNineTimes", gN_of 496 (by decide +kernel) rfl⟩
theorem mX6_219 : gLk RX6 219 yX2_want := Or.inr ⟨"ToldNineTimes", gN_of 435 (by decide +kernel) rfl⟩
theorem mX6_223 : gLk RX6 223 yX2_wonBy := Or.inr ⟨"ToldNineTimes", gN_of 504 (by decide +kernel) rfl⟩
theorem mX6_230 : gLk RX6 230 yX6_hoursOfHearing := Or.inl (gT_of 521 (by decide +kernel) rfl)
theorem mX6_233 : gLk RX6 233 yX6_fraction := Or.inl (gT_of 526 (by decide +kernel) rfl)
theorem mX6_237 : gLk RX6 237 yX4_see := Or.inr ⟨"ToldNineTimes", gN_of 533 (by decide +kernel) rfl⟩
theorem mX6_241 : gLk RX6 241 yX4_forget := Or.inr ⟨"ToldNineTimes", gN_of 541 (by decide +kernel) rfl⟩
theorem mX6_244 : gLk RX6 244 yX2_countFrom := Or.inr ⟨"ToldNineTimes", gN_of 550 (by decide +kernel) rfl⟩
theorem mX6_247 : gLk RX6 247 yX2_countThrough := Or.inr ⟨"ToldNineTimes", gN_of 554 (by decide +kernel) rfl⟩
theorem mX6_250 : gLk RX6 250 yX2_strikeUnseen := Or.inr ⟨"ToldNineTimes", gN_of 570 (by decide +kernel) rfl⟩
theorem mX6_254 : gLk RX6 254 yX2_counted := Or.inr ⟨"ToldNineTimes", gN_of 578 (by decide +kernel) rfl⟩
theorem mX6_257 : gLk RX6 257 yJ6_bitCount_0f7a4 := Or.inl (gT_of 289 (by decide +kernel) rfl)
theorem mX6_262 : gLk RX6 262 yX2_need := Or.inr ⟨"ToldNineTimes", gN_of 440 (by decide +kernel) rfl⟩
theorem mX6_265 : gLk RX6 265 yX1_group := Or.inr ⟨"ToldNineTimes", gN_of 525 (by decide +kernel) rfl⟩
theorem mX7_84 : gLk RX7 84 yX7_in := Or.inl (gT_of 705 (by decide +kernel) rfl)
theorem mX7_99 : gLk RX7 99 yX7_figure := Or.inl (gT_of 720 (by decide +kernel) rfl)
theorem mX7_109 : gLk RX7 109 yX7_has := Or.inl (gT_of 736 (by decide +kernel) rfl)
theorem mX7_116 : gLk RX7 116 yX7_readPerson := Or.inl (gT_of 724 (by decide +kernel) rfl)
theorem mX7_120 : gLk RX7 120 yX7_readNews := Or.inl (gT_of 728 (by decide +kernel) rfl)
theorem mX7_122 : gLk RX7 122 yX7_readKnows := Or.inl (gT_of 732 (by decide +kernel) rfl)
theorem mX7_126 : gLk RX7 126 yX7_readDay := Or.inl (gT_of 716 (by decide +kernel) rfl)
theorem mX7_133 : gLk RX7 133 yX7_halve := Or.inl (gT_of 743 (by decide +kernel) rfl)
theorem mX7_143 : gLk RX7 143 yX7_many := Or.inl (gT_of 751 (by decide +kernel) rfl)
theorem mX7_150 : gLk RX7 150 yX7_noOne := Or.inl (gT_of 758 (by decide +kernel) rfl)
theorem mX7_155 : gLk RX7 155 yX7_noNews := Or.inl (gT_of 767 (by decide +kernel) rfl)
theorem mX7_158 : gLk RX7 158 yX7_those := Or.inl (gT_of 787 (by decide +kernel) rfl)
theorem mX7_161 : gLk RX7 161 yX7_mayTell := Or.inl (gT_of 783 (by decide +kernel) rfl)
theorem mX7_165 : gLk RX7 165 yX7_layPage := Or.inl (gT_of 799 (by decide +kernel) rfl)
theorem mX7_169 : gLk RX7 169 yX7_note := Or.inl (gT_of 795 (by decide +kernel) rfl)
theorem mX7_172 : gLk RX7 172 yX7_tellIt := Or.inl (gT_of 803 (by decide +kernel) rfl)
theorem mX7_176 : gLk RX7 176 yX7_takePage := Or.inl (gT_of 815 (by decide +kernel) rfl)
theorem mX7_179 : gLk RX7 179 yX7_canAt := Or.inl (gT_of 843 (by decide +kernel) rfl)
theorem mX7_183 : gLk RX7 183 yX7_behind := Or.inl (gT_of 839 (by decide +kernel) rfl)
theorem mX7_187 : gLk RX7 187 yX7_layNeed := Or.inl (gT_of 835 (by decide +kernel) rfl)
theorem mX7_191 : gLk RX7 191 yX7_leftOf := Or.inl (gT_of 847 (by decide +kernel) rfl)
theorem mX7_194 : gLk RX7 194 yX7_noPlan := Or.inl (gT_of 827 (by decide +kernel) rfl)
theorem mX7_197 : gLk RX7 197 yX7_findFewest := Or.inl (gT_of 831 (by decide +kernel) rfl)
theorem mX7_200 : gLk RX7 200 yX7_goWays := Or.inl (gT_of 863 (by decide +kernel) rfl)
theorem mX7_204 : gLk RX7 204 yX7_both := Or.inl (gT_of 875 (by decide +kernel) rfl)
theorem mX7_208 : gLk RX7 208 yX7_hasIt := Or.inl (gT_of 871 (by decide +kernel) rfl)
theorem mX7_219 : gLk RX7 219 yX7_divisor := Or.inl (gT_of 887 (by decide +kernel) rfl)
theorem mX7_223 : gLk RX7 223 yX7_isSeen := Or.inl (gT_of 902 (by decide +kernel) rfl)
theorem fX0_9 : gFl RX0 9 0 0 := ⟨RX0, TX0, 2, rfl, Or.inl (gT_of 72 (by decide +kernel) rfl)⟩
theorem fX0_16 : gFl RX0 16 0 1 := ⟨RX0, TX0, 2, rfl, Or.inl (gT_of 74 (by decide +kernel) rfl)⟩
theorem fX1_9 : gFl RX1 9 1 0 := ⟨RX1, TX1, 8, rfl, Or.inl (gT_of 103 (by decide +kernel) rfl)⟩
theorem fX1_15 : gFl RX1 15 1 1 := ⟨RX1, TX1, 8, rfl, Or.inl (gT_of 104 (by decide +kernel) rfl)⟩
theorem fX1_18 : gFl RX1 18 1 2 := ⟨RX1, TX1, 8, rfl, Or.inl (gT_of 105 (by decide +kernel) rfl)⟩
theorem fX1_21 : gFl RX1 21 1 3 := ⟨RX1, TX1, 8, rfl, Or.inl (gT_of 109 (by decide +kernel) rfl)⟩
theorem fX1_24 : gFl RX1 24 1 4 := ⟨RX1, TX1, 8, rfl, Or.inl (gT_of 112 (by decide +kernel) rfl)⟩
theorem fX1_33 : gFl RX1 33 1 5 := ⟨RX1, TX1, 8, rfl, Or.inl (gT_of 116 (by decide +kernel) rfl)⟩
theorem fX1_37 : gFl RX1 37 1 6 := ⟨RX1, TX1, 8, rfl, Or.inl (gT_of 120 (by decide +kernel) rfl)⟩
theorem fX1_40 : gFl RX1 40 1 7 := ⟨RX1, TX1, 8, rfl, Or.inl (gT_of 124 (by decide +kernel) rfl)⟩
theorem fX2_9 : gFl RX2 9 2 0 := ⟨RX2, TX2, 7, rfl, Or.inl (gT_of 151 (by decide +kernel) rfl)⟩
theorem fX2_15 : gFl RX2 15 2 1 := ⟨RX2, TX2, 7, rfl, Or.inl (gT_of 152 (by decide +kernel) rfl)⟩
theorem fX2_18 : gFl RX2 18 2 2 := ⟨RX2, TX2, 7, rfl, Or.inl (gT_of 153 (by decide +kernel) rfl)⟩
theorem fX2_21 : gFl RX2 21 2 3 := ⟨RX2, TX2, 7, rfl, Or.inl (gT_of 154 (by decide +kernel) rfl)⟩
theorem fX2_24 : gFl RX2 24 2 4 := ⟨RX2, TX2, 7, rfl, Or.inl (gT_of 155 (by decide +kernel) rfl)⟩
theorem fX2_42 : gFl RX2 42 2 5 := ⟨RX2, TX2, 7, rfl, Or.inl (gT_of 156 (by decide +kernel) rfl)⟩
theorem fX2_72 : Cond.fieldLink RX2 72 "ToldNineTimes$Outlook" "CHOICES" "[I" ∈ gT := gT_of 508 (by decide +kernel) rfl
theorem fX2_84 : gFl RX2 84 2 6 := ⟨RX2, TX2, 7, rfl, Or.inl (gT_of 157 (by decide +kernel) rfl)⟩
theorem fX3_9 : gFl RX3 9 3 0 := ⟨RX3, TX3, 2, rfl, Or.inl (gT_of 27 (by decide +kernel) rfl)⟩
theorem fX3_15 : gFl RX3 15 3 1 := ⟨RX3, TX3, 2, rfl, Or.inl (gT_of 28 (by decide +kernel) rfl)⟩
theorem fX3_32 : gFl RX3 32 1 7 := ⟨RX1, TX1, 8, rfl, Or.inr ⟨"ToldNineTimes", gN_of 125 (by decide +kernel) rfl⟩⟩
theorem fX3_42 : gFl RX3 42 1 4 := ⟨RX1, TX1, 8, rfl, Or.inr ⟨"ToldNineTimes", gN_of 114 (by decide +kernel) rfl⟩⟩
theorem fX3_45 : gFl RX3 45 1 6 := ⟨RX1, TX1, 8, rfl, Or.inr ⟨"ToldNineTimes", gN_of 121 (by decide +kernel) rfl⟩⟩
theorem fX3_52 : gFl RX3 52 1 5 := ⟨RX1, TX1, 8, rfl, Or.inr ⟨"ToldNineTimes", gN_of 118 (by decide +kernel) rfl⟩⟩
theorem fX3_68 : gFl RX3 68 1 2 := ⟨RX1, TX1, 8, rfl, Or.inr ⟨"ToldNineTimes", gN_of 108 (by decide +kernel) rfl⟩⟩
theorem fX3_71 : gFl RX3 71 1 3 := ⟨RX1, TX1, 8, rfl, Or.inr ⟨"ToldNineTimes", gN_of 111 (by decide +kernel) rfl⟩⟩
theorem fX4_9 : gFl RX4 9 4 0 := ⟨RX4, TX4, 3, rfl, Or.inl (gT_of 86 (by decide +kernel) rfl)⟩
theorem fX4_15 : gFl RX4 15 4 1 := ⟨RX4, TX4, 3, rfl, Or.inl (gT_of 87 (by decide +kernel) rfl)⟩
theorem fX4_18 : gFl RX4 18 4 2 := ⟨RX4, TX4, 3, rfl, Or.inl (gT_of 88 (by decide +kernel) rfl)⟩
theorem fX5_9 : gFl RX5 9 5 0 := ⟨RX5, TX5, 6, rfl, Or.inl (gT_of 42 (by decide +kernel) rfl)⟩
theorem fX5_15 : gFl RX5 15 5 1 := ⟨RX5, TX5, 6, rfl, Or.inl (gT_of 44 (by decide +kernel) rfl)⟩
theorem fX5_18 : gFl RX5 18 5 2 := ⟨RX5, TX5, 6, rfl, Or.inl (gT_of 46 (by decide +kernel) rfl)⟩
theorem fX5_21 : gFl RX5 21 5 3 := ⟨RX5, TX5, 6, rfl, Or.inl (gT_of 48 (by decide +kernel) rfl)⟩
theorem fX5_24 : gFl RX5 24 1 4 := ⟨RX1, TX1, 8, rfl, Or.inr ⟨"ToldNineTimes", gN_of 113 (by decide +kernel) rfl⟩⟩
theorem fX5_41 : gFl RX5 41 5 4 := ⟨RX5, TX5, 6, rfl, Or.inl (gT_of 49 (by decide +kernel) rfl)⟩
theorem fX5_64 : gFl RX5 64 1 2 := ⟨RX1, TX1, 8, rfl, Or.inr ⟨"ToldNineTimes", gN_of 106 (by decide +kernel) rfl⟩⟩
theorem fX5_67 : gFl RX5 67 1 7 := ⟨RX1, TX1, 8, rfl, Or.inr ⟨"ToldNineTimes", gN_of 126 (by decide +kernel) rfl⟩⟩
theorem fX5_79 : gFl RX5 79 1 6 := ⟨RX1, TX1, 8, rfl, Or.inr ⟨"ToldNineTimes", gN_of 123 (by decide +kernel) rfl⟩⟩
theorem fX5_85 : gFl RX5 85 1 5 := ⟨RX1, TX1, 8, rfl, Or.inr ⟨"ToldNineTimes", gN_of 119 (by decide +kernel) rfl⟩⟩
theorem fX6_12 : gFl RX6 12 6 0 := ⟨RX6, TX6, 9, rfl, Or.inl (gT_of 173 (by decide +kernel) rfl)⟩
theorem fX6_19 : gFl RX6 19 6 1 := ⟨RX6, TX6, 9, rfl, Or.inl (gT_of 174 (by decide +kernel) rfl)⟩
theorem fX6_23 : gFl RX6 23 6 2 := ⟨RX6, TX6, 9, rfl, Or.inl (gT_of 175 (by decide +kernel) rfl)⟩
theorem fX6_26 : gFl RX6 26 6 3 := ⟨RX6, TX6, 9, rfl, Or.inl (gT_of 176 (by decide +kernel) rfl)⟩
theorem fX6_33 : gFl RX6 33 6 4 := ⟨RX6, TX6, 9, rfl, Or.inl (gT_of 177 (by decide +kernel) rfl)⟩
theorem fX6_40 : gFl RX6 40 6 5 := ⟨RX6, TX6, 9, rfl, Or.inl (gT_of 178 (by decide +kernel) rfl)⟩
theorem fX6_47 : gFl RX6 47 6 7 := ⟨RX6, TX6, 9, rfl, Or.inl (gT_of 180 (by decide +kernel) rfl)⟩
theorem fX6_51 : gFl RX6 51 6 8 := ⟨RX6, TX6, 9, rfl, Or.inl (gT_of 181 (by decide +kernel) rfl)⟩
theorem fX6_59 : gFl RX6 59 6 6 := ⟨RX6, TX6, 9, rfl, Or.inl (gT_of 179 (by decide +kernel) rfl)⟩
theorem fX6_63 : gFl RX6 63 3 1 := ⟨RX3, TX3, 2, rfl, Or.inr ⟨"ToldNineTimes", gN_of 29 (by decide +kernel) rfl⟩⟩
theorem fX6_78 : gFl RX6 78 0 1 := ⟨RX0, TX0, 2, rfl, Or.inr ⟨"ToldNineTimes", gN_of 73 (by decide +kernel) rfl⟩⟩
theorem fX6_81 : gFl RX6 81 5 5 := ⟨RX5, TX5, 6, rfl, Or.inr ⟨"ToldNineTimes", gN_of 51 (by decide +kernel) rfl⟩⟩
theorem fX6_85 : gFl RX6 85 1 5 := ⟨RX1, TX1, 8, rfl, Or.inr ⟨"ToldNineTimes", gN_of 117 (by decide +kernel) rfl⟩⟩
theorem fX6_88 : gFl RX6 88 1 6 := ⟨RX1, TX1, 8, rfl, Or.inr ⟨"ToldNineTimes", gN_of 122 (by decide +kernel) rfl⟩⟩
theorem fX6_91 : gFl RX6 91 1 7 := ⟨RX1, TX1, 8, rfl, Or.inr ⟨"ToldNineTimes", gN_of 127 (by decide +kernel) rfl⟩⟩
theorem fX6_94 : gFl RX6 94 5 4 := ⟨RX5, TX5, 6, rfl, Or.inr ⟨"ToldNineTimes", gN_of 50 (by decide +kernel) rfl⟩⟩
theorem fX6_104 : gFl RX6 104 4 2 := ⟨RX4, TX4, 3, rfl, Or.inr ⟨"ToldNineTimes", gN_of 89 (by decide +kernel) rfl⟩⟩
theorem fX6_119 : gFl RX6 119 1 2 := ⟨RX1, TX1, 8, rfl, Or.inr ⟨"ToldNineTimes", gN_of 107 (by decide +kernel) rfl⟩⟩
theorem fX6_123 : gFl RX6 123 1 3 := ⟨RX1, TX1, 8, rfl, Or.inr ⟨"ToldNineTimes", gN_of 110 (by decide +kernel) rfl⟩⟩
theorem fX6_130 : gFl RX6 130 5 0 := ⟨RX5, TX5, 6, rfl, Or.inr ⟨"ToldNineTimes", gN_of 43 (by decide +kernel) rfl⟩⟩
theorem fX6_133 : gFl RX6 133 1 4 := ⟨RX1, TX1, 8, rfl, Or.inr ⟨"ToldNineTimes", gN_of 115 (by decide +kernel) rfl⟩⟩
theorem fX6_136 : gFl RX6 136 5 1 := ⟨RX5, TX5, 6, rfl, Or.inr ⟨"ToldNineTimes", gN_of 45 (by decide +kernel) rfl⟩⟩
theorem fX6_143 : gFl RX6 143 5 2 := ⟨RX5, TX5, 6, rfl, Or.inr ⟨"ToldNineTimes", gN_of 47 (by decide +kernel) rfl⟩⟩
theorem fX7_7 : gFl RX7 7 7 1 := ⟨RX7, TX7, 34, rfl, Or.inl (gT_of 597 (by decide +kernel) rfl)⟩
theorem fX7_13 : gFl RX7 13 7 7 := ⟨RX7, TX7, 34, rfl, Or.inl (gT_of 603 (by decide +kernel) rfl)⟩
theorem fX7_16 : gFl RX7 16 7 8 := ⟨RX7, TX7, 34, rfl, Or.inl (gT_of 604 (by decide +kernel) rfl)⟩
theorem fX7_19 : gFl RX7 19 7 9 := ⟨RX7, TX7, 34, rfl, Or.inl (gT_of 605 (by decide +kernel) rfl)⟩
theorem fX7_22 : gFl RX7 22 7 10 := ⟨RX7, TX7, 34, rfl, Or.inl (gT_of 606 (by decide +kernel) rfl)⟩
theorem fX7_25 : gFl RX7 25 7 12 := ⟨RX7, TX7, 34, rfl, Or.inl (gT_of 608 (by decide +kernel) rfl)⟩
theorem fX7_28 : gFl RX7 28 7 16 := ⟨RX7, TX7, 34, rfl, Or.inl (gT_of 612 (by decide +kernel) rfl)⟩
theorem fX7_31 : gFl RX7 31 7 17 := ⟨RX7, TX7, 34, rfl, Or.inl (gT_of 613 (by decide +kernel) rfl)⟩
theorem fX7_34 : gFl RX7 34 7 18 := ⟨RX7, TX7, 34, rfl, Or.inl (gT_of 614 (by decide +kernel) rfl)⟩
theorem fX7_37 : gFl RX7 37 7 19 := ⟨RX7, TX7, 34, rfl, Or.inl (gT_of 615 (by decide +kernel) rfl)⟩
theorem fX7_40 : gFl RX7 40 7 20 := ⟨RX7, TX7, 34, rfl, Or.inl (gT_of 616 (by decide +kernel) rfl)⟩
theorem fX7_43 : gFl RX7 43 7 22 := ⟨RX7, TX7, 34, rfl, Or.inl (gT_of 618 (by decide +kernel) rfl)⟩
theorem fX7_46 : gFl RX7 46 7 23 := ⟨RX7, TX7, 34, rfl, Or.inl (gT_of 619 (by decide +kernel) rfl)⟩
theorem fX7_50 : gFl RX7 50 7 24 := ⟨RX7, TX7, 34, rfl, Or.inl (gT_of 620 (by decide +kernel) rfl)⟩
theorem fX7_53 : gFl RX7 53 7 26 := ⟨RX7, TX7, 34, rfl, Or.inl (gT_of 622 (by decide +kernel) rfl)⟩
theorem fX7_56 : gFl RX7 56 7 27 := ⟨RX7, TX7, 34, rfl, Or.inl (gT_of 623 (by decide +kernel) rfl)⟩
theorem fX7_59 : gFl RX7 59 7 28 := ⟨RX7, TX7, 34, rfl, Or.inl (gT_of 624 (by decide +kernel) rfl)⟩
theorem fX7_62 : gFl RX7 62 7 29 := ⟨RX7, TX7, 34, rfl, Or.inl (gT_of 625 (by decide +kernel) rfl)⟩
theorem fX7_65 : gFl RX7 65 7 30 := ⟨RX7, TX7, 34, rfl, Or.inl (gT_of 626 (by decide +kernel) rfl)⟩
theorem fX7_68 : gFl RX7 68 7 31 := ⟨RX7, TX7, 34, rfl, Or.inl (gT_of 627 (by decide +kernel) rfl)⟩
theorem fX7_71 : gFl RX7 71 7 32 := ⟨RX7, TX7, 34, rfl, Or.inl (gT_of 628 (by decide +kernel) rfl)⟩
theorem fX7_74 : gFl RX7 74 7 33 := ⟨RX7, TX7, 34, rfl, Or.inl (gT_of 629 (by decide +kernel) rfl)⟩
theorem fX7_77 : gFl RX7 77 7 0 := ⟨RX7, TX7, 34, rfl, Or.inl (gT_of 596 (by decide +kernel) rfl)⟩
theorem fX7_81 : gFl RX7 81 7 4 := ⟨RX7, TX7, 34, rfl, Or.inl (gT_of 600 (by decide +kernel) rfl)⟩
theorem fX7_88 : gFl RX7 88 7 5 := ⟨RX7, TX7, 34, rfl, Or.inl (gT_of 601 (by decide +kernel) rfl)⟩
theorem fX7_93 : gFl RX7 93 7 2 := ⟨RX7, TX7, 34, rfl, Or.inl (gT_of 598 (by decide +kernel) rfl)⟩
theorem fX7_96 : gFl RX7 96 7 3 := ⟨RX7, TX7, 34, rfl, Or.inl (gT_of 599 (by decide +kernel) rfl)⟩
theorem fX7_103 : gFl RX7 103 7 13 := ⟨RX7, TX7, 34, rfl, Or.inl (gT_of 609 (by decide +kernel) rfl)⟩
theorem fX7_106 : gFl RX7 106 7 14 := ⟨RX7, TX7, 34, rfl, Or.inl (gT_of 610 (by decide +kernel) rfl)⟩
theorem fX7_113 : gFl RX7 113 7 15 := ⟨RX7, TX7, 34, rfl, Or.inl (gT_of 611 (by decide +kernel) rfl)⟩
theorem fX7_130 : gFl RX7 130 7 6 := ⟨RX7, TX7, 34, rfl, Or.inl (gT_of 602 (by decide +kernel) rfl)⟩
theorem fX7_137 : gFl RX7 137 7 11 := ⟨RX7, TX7, 34, rfl, Or.inl (gT_of 607 (by decide +kernel) rfl)⟩
theorem fX7_140 : gFl RX7 140 7 21 := ⟨RX7, TX7, 34, rfl, Or.inl (gT_of 617 (by decide +kernel) rfl)⟩
theorem fX7_147 : gFl RX7 147 7 25 := ⟨RX7, TX7, 34, rfl, Or.inl (gT_of 621 (by decide +kernel) rfl)⟩
theorem kcJ6_265 : Cond.constant RJ6 265 (1431655765) ∈ gT := gT_of 292 (by decide +kernel) rfl
theorem kcJ6_266 : Cond.constant RJ6 266 (858993459) ∈ gT := gT_of 293 (by decide +kernel) rfl
theorem kcJ6_267 : Cond.constant RJ6 267 (252645135) ∈ gT := gT_of 294 (by decide +kernel) rfl
theorem kcL_13 : Cond.constantLong RL 13 (4294967295) ∈ gT := gT_of 914 (by decide +kernel) rfl
theorem kcX0_15 : Cond.constant RX0 15 (262143) ∈ gT := gT_of 400 (by decide +kernel) rfl
theorem kcX6_226 : Cond.constantLong RX6 226 (-1) ∈ gT := gT_of 519 (by decide +kernel) rfl
theorem kcX6_228 : Cond.constantLong RX6 228 (-2) ∈ gT := gT_of 520 (by decide +kernel) rfl
theorem kcX7_91 : Cond.constantLong RX7 91 (8) ∈ gT := gT_of 704 (by decide +kernel) rfl
theorem kcX7_153 : Cond.constantLong RX7 153 (5) ∈ gT := gT_of 762 (by decide +kernel) rfl
theorem kcX7_211 : Cond.constantLong RX7 211 (2) ∈ gT := gT_of 883 (by decide +kernel) rfl
theorem kcX7_213 : Cond.constantLong RX7 213 (-1) ∈ gT := gT_of 884 (by decide +kernel) rfl
theorem kcX7_215 : Cond.constantLong RX7 215 (10) ∈ gT := gT_of 885 (by decide +kernel) rfl
theorem kcX7_217 : Cond.constantLong RX7 217 (-2) ∈ gT := gT_of 886 (by decide +kernel) rfl
theorem gNat : Cond.native arraycopyName ∈ gT := gT_of 271 (by decide +kernel) rfl
theorem gNatS : Cond.static arraycopyName ∈ gT := gT_of 270 (by decide +kernel) rfl
theorem gNatI : Cond.initialized "java/lang/System" ∈ gT := gT_of 10 (by decide +kernel) rfl
theorem mX0_20 : Cond.methodLink RX0 20 arraycopyName ∈ gT := gT_of 364 (by decide +kernel) rfl
theorem mX5_29 : Cond.methodLink RX5 29 arraycopyName ∈ gT := gT_of 269 (by decide +kernel) rfl
theorem mX0_26 : Cond.methodLink RX0 26 Lib.Math.max.name ∈ gT := gT_of 387 (by decide +kernel) rfl
theorem mX2_55 : Cond.methodLink RX2 55 Lib.Math.min.name ∈ gT := gT_of 456 (by decide +kernel) rfl
theorem mX2_81 : Cond.methodLink RX2 81 Lib.Math.max.name ∈ gT := gT_of 491 (by decide +kernel) rfl
theorem gMs_max : Cond.static Lib.Math.max.name ∈ gT := gT_of 388 (by decide +kernel) rfl
theorem gMc_max : Cond.code Lib.Math.max.name Lib.Math.max.code 2 (some .int) ∈ gT := gT_of 389 (by decide +kernel) rfl
theorem gMs_min : Cond.static Lib.Math.min.name ∈ gT := gT_of 457 (by decide +kernel) rfl
theorem gMc_min : Cond.code Lib.Math.min.name Lib.Math.min.code 2 (some .int) ∈ gT := gT_of 458 (by decide +kernel) rfl
theorem gMi : Cond.initialized "java/lang/Math" ∈ gT := gT_of 12 (by decide +kernel) rfl
end
section
/-! ROWS IN THE SHAPES THAT THE WALKER PRINTS -/
theorem nI_inc (a : Nat) : nI a + Int32.ofInt 1 = nI (a + 1) := nI_1 a
theorem nI_dec (a : Nat) : nI (a + 1) + Int32.ofInt (-1) = nI a := by
  rw [← nI_1]
  have e : Int32.ofInt (-1) = -1 := by decide +kernel
  rw [e, Int32.add_assoc, show (1 : Int32) + -1 = 0 by decide +kernel, Int32.add_zero]
theorem nI_mul (a b : Nat) : nI a * nI b = nI (a * b) := by
  simp [nI, Int32.ofNat_mul]
section GoShapes
variable {O : gOm} {d : Nat} {K : gM} {r : Option Value} {m m' : gMem} {pc : Nat} {L st : List Value}
theorem go_iadd_n {a b : Nat} (hd : decode K.2.1 pc = .ok (.iadd, 1)) (k : Go O d K r m' (pc + 1) L (.int (nI (a + b)) :: st) m) : Go O d K r m' pc L (.int (nI b) :: .int (nI a) :: st) m := go_iadd hd (nI_add a b) k
theorem go_imul_n {a b : Nat} (hd : decode K.2.1 pc = .ok (.imul, 1)) (k : Go O d K r m' (pc + 1) L (.int (nI (a * b)) :: st) m) : Go O d K r m' pc L (.int (nI b) :: .int (nI a) :: st) m := go_imul hd (nI_mul a b) k
theorem go_iinc_n {i a : Nat} {L' : List Value} (hd : decode K.2.1 pc = .ok (.iinc i 1, 3)) (hx : L[i]? = some (.int (nI a))) (hi : i < K.2.2.1) (hl : gst L i (.int (nI (a + 1))) = L') (k : Go O d K r m' (pc + 3) L' st m) : Go O d K r m' pc L st m := go_iinc hd hx hi (nI_inc a) hl k
theorem go_geti {ix ci n k j : Nat} {v : Int32} (hd : decode K.2.1 pc = .ok (.getfield ix, 3)) (hF : gFl K.1.cls ix ci j) (hk : gK k = (ci, n)) (hc : ci < 8) (hj : j < n) (hkn : k < gNC) (hn : gfk k j = none) (hv : m.1 k j = v) (kk : Go O d K r m' (pc + 3) L (.int v :: st) m) : Go O d K r m' pc L (.ref k :: st) m :=
  go_get hd hF hk hc hj hkn (by simp [gfp, hn, hv]) kk
theorem go_getc {ix ci n k j t : Nat} (hd : decode K.2.1 pc = .ok (.getfield ix, 3)) (hF : gFl K.1.cls ix ci j) (hk : gK k = (ci, n)) (hc : ci < 8) (hj : j < n) (hkn : k < gNC) (hn : gfk k j = some (.inl t)) (kk : Go O d K r m' (pc + 3) L (.ref t :: st) m) : Go O d K r m' pc L (.ref k :: st) m :=
  go_get hd hF hk hc hj hkn (by simp [gfp, hn]) kk
theorem go_getm {ix ci n k j q t : Nat} (hd : decode K.2.1 pc = .ok (.getfield ix, 3)) (hF : gFl K.1.cls ix ci j) (hk : gK k = (ci, n)) (hc : ci < 8) (hj : j < n) (hkn : k < gNC) (hn : gfk k j = some (.inr q)) (hv : m.2 q = t) (kk : Go O d K r m' (pc + 3) L (.ref t :: st) m) : Go O d K r m' pc L (.ref k :: st) m :=
  go_get hd hF hk hc hj hkn (by simp [gfp, hn, hv]) kk
theorem go_callV1 {ix ci nf k n : Nat} {K' : gM} {v : Value} {m1 : gMem} (as : List Value) {st0 : List Value} (hd : decode K.2.1 pc = .ok (.invokevirtual ix, 3)) (hlk : gLk K.1.cls ix K'.1) (hl : gLv K' n) (hk : gK k = (ci, nf)) (hci : ci < 8) (hcl : (vwCl.map (fun q => q.1))[ci]? = some K'.1.cls) (hkn : k < gNC) (hst : st0 = as.reverse ++ .ref k :: st) (hn : as.length = n) (hW : (st.map fun v => v.category).sum ≤ 8) (hen : (gsp (.ref k :: as)).length ≤ K'.2.2.1)
    (hc : Ca O d K' (.ref k :: as) (some v) m m1) (kk : Go O (d + 1) K r m' (pc + 3) L (v :: st) m1) : Go O (d + 1) K r m' pc L st0 m := go_callV as hd hlk hl hk hci hcl hkn hst hn hW hen hc kk
theorem go_callV0 {ix ci nf k n : Nat} {K' : gM} {m1 : gMem} (as : List Value) {st0 : List Value} (hd : decode K.2.1 pc = .ok (.invokevirtual ix, 3)) (hlk : gLk K.1.cls ix K'.1) (hl : gLv K' n) (hk : gK k = (ci, nf)) (hci : ci < 8) (hcl : (vwCl.map (fun q => q.1))[ci]? = some K'.1.cls) (hkn : k < gNC) (hst : st0 = as.reverse ++ .ref k :: st) (hn : as.length = n) (hW : (st.map fun v => v.category).sum ≤ 8) (hen : (gsp (.ref k :: as)).length ≤ K'.2.2.1)
    (hc : Ca O d K' (.ref k :: as) none m m1) (kk : Go O (d + 1) K r m' (pc + 3) L st m1) : Go O (d + 1) K r m' pc L st0 m := go_callV as hd hlk hl hk hci hcl hkn hst hn hW hen hc kk
theorem go_callS1 {ix n : Nat} {K' : gM} {v : Value} {m1 : gMem} (as : List Value) {st0 : List Value} (hd : decode K.2.1 pc = .ok (.invokestatic ix, 3)) (hlk : gLk K.1.cls ix K'.1) (hl : gLt K' n) (hst : st0 = as.reverse ++ st) (hn : as.length = n) (hW : (st.map fun v => v.category).sum ≤ 8) (hen : (gsp as).length ≤ K'.2.2.1)
    (hc : Ca O d K' as (some v) m m1) (kk : Go O (d + 1) K r m' (pc + 3) L (v :: st) m1) : Go O (d + 1) K r m' pc L st0 m := go_callS as hd hlk hl hst hn hW hen hc kk
theorem go_callS0 {ix n : Nat} {K' : gM} {m1 : gMem} (as : List Value) {st0 : List Value} (hd : decode K.2.1 pc = .ok (.invokestatic ix, 3)) (hlk : gLk K.1.cls ix K'.1) (hl : gLt K' n) (hst : st0 = as.reverse ++ st) (hn : as.length = n) (hW : (st.map fun v => v.category).sum ≤ 8) (hen : (gsp as).length ≤ K'.2.2.1)
    (hc : Ca O d K' as none m m1) (kk : Go O (d + 1) K r m' (pc + 3) L st m1) : Go O (d + 1) K r m' pc L st0 m := go_callS as hd hlk hl hst hn hW hen hc kk
theorem go_mmax {ix : Nat} {x y v : Int32} (hd : decode K.2.1 pc = .ok (.invokestatic ix, 3)) (hlk : Cond.methodLink K.1.cls ix Lib.Math.max.name ∈ gT) (hW : (st.map fun v => v.category).sum ≤ 8) (hv : (if x < y then y else x) = v) (k : Go O (d + 1) K r m' (pc + 3) L (.int v :: st) m) : Go O (d + 1) K r m' pc L (.int y :: .int x :: st) m := by
  intro p l e s mi args below meth c H lo ls hC hP hS hL
  subst hv
  have hts := hC.2.2.2.2.2.2.1
  have hroom : ((st.map (gv O.1)).map fun v => v.category).sum ≤ 8 := by rw [gcats]; exact hW
  exact va_mmax hC.1 hC.2.1 (hC.2.2.1.trans hL.2.1.symm) hC.2.2.2.2.2.1 (hts _ hlk) (hts _ gMs_max) (hts _ gMi) (hts _ gMc_max) (by simp only [gRm]; omega) (by simp only [gRm]; omega) (Nat.zero_le _) (Nat.zero_le _) hd (k p l e s mi args below meth c H lo ls hC hP hS hL)
theorem go_mmin {ix : Nat} {x y v : Int32} (hd : decode K.2.1 pc = .ok (.invokestatic ix, 3)) (hlk : Cond.methodLink K.1.cls ix Lib.Math.min.name ∈ gT) (hW : (st.map fun v => v.category).sum ≤ 8) (hv : (if y < x then y else x) = v) (k : Go O (d + 1) K r m' (pc + 3) L (.int v :: st) m) : Go O (d + 1) K r m' pc L (.int y :: .int x :: st) m := by
  intro p l e s mi args below meth c H lo ls hC hP hS hL
  subst hv
  have hts := hC.2.2.2.2.2.2.1
  have hroom : ((st.map (gv O.1)).map fun v => v.category).sum ≤ 8 := by rw [gcats]; exact hW
  exact va_mmin hC.1 hC.2.1 (hC.2.2.1.trans hL.2.1.symm) hC.2.2.2.2.2.1 (hts _ hlk) (hts _ gMs_min) (hts _ gMi) (hts _ gMc_min) (by simp only [gRm]; omega) (by simp only [gRm]; omega) (Nat.zero_le _) (Nat.zero_le _) hd (k p l e s mi args below meth c H lo ls hC hP hS hL)
end GoShapes
end
section
/-! NUMBERS: bits of small numbers, booleans, ranges -/
theorem nb_and (a b : Nat) : nI a &&& nI b = nI (a &&& b) := by
  apply Int32.toBitVec_inj.1
  show BitVec.ofNat 32 a &&& BitVec.ofNat 32 b = BitVec.ofNat 32 (a &&& b)
  apply BitVec.eq_of_getLsbD_eq
  intro i hi
  simp [hi]
theorem nb_or (a b : Nat) : nI a ||| nI b = nI (a ||| b) := by
  apply Int32.toBitVec_inj.1
  show BitVec.ofNat 32 a ||| BitVec.ofNat 32 b = BitVec.ofNat 32 (a ||| b)
  apply BitVec.eq_of_getLsbD_eq
  intro i hi
  simp [hi]
theorem nb_sl : ∀ n, n < 32 → ((nI n &&& 31).toBitVec.smod 32).toNat = n := by decide +kernel
theorem nb_shr {a j : Nat} (ha : a < 2 ^ 31) (hj : j < 32) : nI a >>> (nI j &&& 31) = nI (a / 2 ^ j) := pk_shrN ha _ j (nb_sl j hj)
theorem nb_shl {a j : Nat} (hj : j < 32) (h : a * 2 ^ j < 2 ^ 32) : nI a <<< (nI j &&& 31) = nI (a * 2 ^ j) := pk_shlN _ j (nb_sl j hj) h
theorem nb_one {j : Nat} (hj : j < 32) : nI 1 <<< (nI j &&& 31) = nI (2 ^ j) := by
  rw [nb_shl hj (by rw [Nat.one_mul]; exact Nat.pow_lt_pow_right (by omega) hj), Nat.one_mul]
theorem nb_bit {a j : Nat} (ha : a < 2 ^ 31) (hj : j < 32) : nI a >>> (nI j &&& 31) &&& nI 1 = nI (a / 2 ^ j % 2) := by
  rw [nb_shr ha hj, nb_and, Nat.and_one_is_mod]
theorem nb_tb (a j : Nat) : a / 2 ^ j % 2 = if a.testBit j then 1 else 0 := by
  rw [Nat.testBit_eq_decide_div_mod_eq]
  have : a / 2 ^ j % 2 < 2 := Nat.mod_lt _ (by omega)
  by_cases h : a / 2 ^ j % 2 = 1
  · simp [h]
  · simp [h]; omega
/-- how many of the six -/
def pcA (a : Nat) : Nat → Nat
  | 0 => 0
  | k + 1 => pcA a k + a / 2 ^ k % 2
def pc6 (a : Nat) : Nat := pcA a 6
theorem pcA_le (a : Nat) : ∀ k, pcA a k ≤ k
  | 0 => Nat.le_refl _
  | k + 1 => by
    have := pcA_le a k
    have h2 : a / 2 ^ k % 2 < 2 := Nat.mod_lt _ (by omega)
    simp only [pcA]
    omega
theorem pc6_le (a : Nat) : pc6 a ≤ 6 := pcA_le a 6
/-- a boolean as the machine has it -/
def bI (b : Bool) : Int32 := bif b then nI 1 else nI 0
theorem bI_0 {b : Bool} : bI b = 0 ↔ b = false := by cases b <;> decide +kernel
theorem bI_n0 {b : Bool} : ¬ bI b = 0 ↔ b = true := by cases b <;> decide +kernel
theorem bI_z (b : Bool) : bI b = 0 ∨ bI b = 1 := by cases b <;> decide +kernel
theorem bI_T {b : Bool} (h : b = true) : bI b = nI 1 := by rw [h]; rfl
theorem bI_F {b : Bool} (h : b = false) : bI b = nI 0 := by rw [h]; rfl
/-- x is one of 0 .. n - 1 -/
def iR (x : Int32) (n : Nat) : Bool := decide (0 ≤ x.toInt) && decide (x.toInt < n)
theorem iR_of {x : Int32} {n : Nat} (h : iR x n = true) : ∃ j, j < n ∧ x = nI j := by
  simp only [iR, Bool.and_eq_true, decide_eq_true_eq] at h
  refine ⟨x.toInt.toNat, by omega, ?_⟩
  apply Int32.toInt_inj.mp
  have hx := Int32.toInt_lt x
  rw [nI_toInt (by omega)]
  omega
theorem iR_nI {j n : Nat} (h : j < n) (hn : n < 2 ^ 31) : iR (nI j) n = true := by
  simp only [iR, Bool.and_eq_true, decide_eq_true_eq]
  rw [nI_toInt (by omega)]
  omega
theorem iR_f {x : Int32} {n : Nat} (h : iR x n = false) : x < 0 ∨ (n : Int) ≤ x.toInt := by
  simp only [iR, Bool.and_eq_false_iff, decide_eq_false_iff_not] at h
  rcases h with h | h
  · exact Or.inl (by rw [Int32.lt_iff_toInt_lt, Int32.toInt_zero]; omega)
  · exact Or.inr (by omega)
theorem t64_le (x y : Int32) : x.toInt64 ≤ y.toInt64 ↔ x.toInt ≤ y.toInt := by
  rw [Int64.le_iff_toInt_le, Int32.toInt_toInt64, Int32.toInt_toInt64]
theorem nI_subI {a b : Nat} (ha : a < 2 ^ 30) (hb : b < 2 ^ 30) : (nI a - nI b).toInt = (a : Int) - b := pk_sub_toInt ha hb
theorem iR_in (x : Int32) {n : Nat} (hn : n < 2 ^ 30) : (decide ((0 : Int64) ≤ x.toInt64) && decide (x.toInt64 ≤ (nI n - nI 1).toInt64)) = iR x n := by
  have h1 : ((0 : Int64) ≤ x.toInt64) ↔ 0 ≤ x.toInt := by
    rw [Int64.le_iff_toInt_le, Int32.toInt_toInt64]
    rfl
  have h2 : (x.toInt64 ≤ (nI n - nI 1).toInt64) ↔ x.toInt < n := by
    rw [t64_le, nI_subI hn (by omega)]
    omega
  simp only [iR, h1, h2]
/-- which cells a method may have changed -/
def Fr (S : List Nat) (m m' : gMem) : Prop := m'.2 = m.2 ∧ ∀ k, k ∉ S → m'.1 k = m.1 k
theorem Fr.rf (S : List Nat) (m : gMem) : Fr S m m := ⟨rfl, fun _ _ => rfl⟩
theorem Fr.trans {S : List Nat} {m m1 m2 : gMem} (h : Fr S m m1) (h' : Fr S m1 m2) : Fr S m m2 := ⟨h'.1.trans h.1, fun k hk => (h'.2 k hk).trans (h.2 k hk)⟩
theorem Fr.mono {S S' : List Nat} {m m1 : gMem} (h : Fr S m m1) (hs : ∀ k ∈ S, k ∈ S') : Fr S' m m1 := ⟨h.1, fun k hk => h.2 k (fun z => hk (hs k z))⟩
theorem Fr.up {S : List Nat} {m m1 : gMem} (h : Fr S m m1) {k : Nat} (hk : k ∈ S) (i : Nat) (x : Int32) : Fr S m (gup m1 k i x) := by
  refine ⟨h.1, fun k' hk' => ?_⟩
  have hne : k' ≠ k := fun e => hk' (e ▸ hk)
  rw [← h.2 k' hk']
  funext j
  simp [gup, gbeq hne]
theorem gup_s (m : gMem) (k i : Nat) (x : Int32) : (gup m k i x).1 k i = x := by simp [gup]
theorem gup_i (m : gMem) {k i j : Nat} (x : Int32) (h : j ≠ i) : (gup m k i x).1 k j = m.1 k j := by simp [gup, gbeq h]
theorem gup_k (m : gMem) {k k' i : Nat} (x : Int32) (h : k' ≠ k) : (gup m k i x).1 k' = m.1 k' := by
  funext j
  simp [gup, gbeq h]
theorem gup_if (m : gMem) (k i j : Nat) (x : Int32) : (gup m k i x).1 k j = if j = i then x else m.1 k j := by
  by_cases h : j = i
  · rw [h, gup_s, if_pos rfl]
  · rw [gup_i m x h, if_neg h]
end
section
theorem c_in {O : gOm} {d : Nat} {m : gMem} {v a b : Int64} : Ca O d kX7_in [.long v, .long a, .long b] (some (.int (bI (decide (a ≤ v) && decide (v ≤ b))))) m m := by
  show Go O d kX7_in _ m 0 [.long v, .null, .long a, .null, .long b, .null] [] m
  refine go_lload_n dX7_in_0 rfl ?_
  refine go_lload_n dX7_in_1 rfl ?_
  refine go_lcmp dX7_in_2 rfl ?_
  refine go_if_lt 17 dX7_in_3 (by decide) (fun h3 => ?_) (fun h3 => ?_)
  · have er : bI (decide (a ≤ v) && decide (v ≤ b)) = nI 0 := by
      have e2 : ¬ a ≤ v := Int64.not_le.mpr ((lg_cmp_lt _ _).mp h3)
      simp [e2, bI]
    refine go_iconst (nI 0) dX7_in_17 (by decide +kernel) ?_
    exact go_zret dX7_in_18 rfl (by first | exact Or.inl rfl | exact Or.inr rfl) (by rw [er]) rfl
  · have e : a ≤ v := Int64.not_lt.mp (fun z => h3 ((lg_cmp_lt _ _).mpr z))
    refine go_lload_n dX7_in_6 rfl ?_
    refine go_lload dX7_in_7 rfl ?_
    refine go_lcmp dX7_in_9 rfl ?_
    refine go_if_gt 17 dX7_in_10 (by decide) (fun h10 => ?_) (fun h10 => ?_)
    · have er : bI (decide (a ≤ v) && decide (v ≤ b)) = nI 0 := by
        have e4 : ¬ v ≤ b := Int64.not_le.mpr ((lg_cmp_gt _ _).mp h10)
        simp only [e4, decide_false, Bool.and_false]
        rfl
      refine go_iconst (nI 0) dX7_in_17 (by decide +kernel) ?_
      exact go_zret dX7_in_18 rfl (by first | exact Or.inl rfl | exact Or.inr rfl) (by rw [er]) rfl
    · have e2 : v ≤ b := Int64.not_lt.mp (fun z => h10 ((lg_cmp_gt _ _).mpr z))
      have er : bI (decide (a ≤ v) && decide (v ≤ b)) = nI 1 := by simp [e, e2, bI]
      refine go_iconst (nI 1) dX7_in_13 (by decide +kernel) ?_
      refine go_goto 18 dX7_in_14 (by decide) ?_
      exact go_zret dX7_in_18 rfl (by first | exact Or.inl rfl | exact Or.inr rfl) (by rw [er]) rfl
theorem c_has {O : gOm} {d : Nat} {m : gMem} {a k : Nat} (ha : a < 2 ^ 31) (hk : k < 31) : Ca O d kX7_has [.int (nI a), .int (nI k)] (some (.int (bI (a.testBit k)))) m m := by
  have e : nI a >>> (nI k &&& 31) &&& nI 1 = nI (if a.testBit k then 1 else 0) := by rw [nb_bit ha (by omega), nb_tb]
  show Go O d kX7_has _ m 0 [.int (nI a), .int (nI k)] [] m
  refine go_iload_n dX7_has_0 rfl ?_
  refine go_iload_n dX7_has_1 rfl ?_
  refine go_ishr dX7_has_2 rfl ?_
  refine go_iconst (nI 1) dX7_has_3 (by decide +kernel) ?_
  refine go_iand dX7_has_4 e ?_
  refine go_iconst (nI 1) dX7_has_5 (by decide +kernel) ?_
  refine go_icmp_ne 13 dX7_has_6 (by decide) (fun h6 => ?_) (fun h6 => ?_)
  · have e2 : a.testBit k = false := by
      cases h : a.testBit k with
      | false => rfl
      | true => rw [h] at h6; exact absurd rfl h6
    refine go_iconst (nI 0) dX7_has_13 (by decide +kernel) ?_
    exact go_zret dX7_has_14 rfl (by first | exact Or.inl rfl | exact Or.inr rfl) (by first | (rw [bI_T e2]; done) | (rw [bI_F e2]; done)) rfl
  · have e2 : a.testBit k = true := by
      cases h : a.testBit k with
      | true => rfl
      | false => rw [h] at h6; exact absurd h6 (by decide +kernel)
    refine go_iconst (nI 1) dX7_has_9 (by decide +kernel) ?_
    refine go_goto 14 dX7_has_10 (by decide) ?_
    exact go_zret dX7_has_14 rfl (by first | exact Or.inl rfl | exact Or.inr rfl) (by first | (rw [bI_T e2]; done) | (rw [bI_F e2]; done)) rfl
theorem c_many {O : gOm} {d : Nat} {m : gMem} {a : Nat} (ha : a < 2 ^ 31) : Ca O d kX7_many [.int (nI a)] (some (.int (nI (pc6 a)))) m m := by
  have key : ∀ n k, k + n = 6 → Go O d kX7_many (some (.int (nI (pc6 a)))) m 4 [.int (nI a), .int (nI (pcA a k)), .int (nI k)] [] m := by
    intro n
    induction n with
    | zero =>
      intro k hk
      refine go_iload_n dX7_many_4 rfl ?_
      refine go_bipush (nI 6) dX7_many_5 (by decide +kernel) ?_
      refine go_icmp_ge 24 dX7_many_7 (by decide) (fun h7 => ?_) (fun h => absurd (nI_le (by omega) (by omega)) h)
      refine go_iload_n dX7_many_24 rfl ?_
      exact go_iret dX7_many_25 rfl (by rw [show k = 6 by omega]; rfl) rfl
    | succ n ih =>
      intro k hk
      refine go_iload_n dX7_many_4 rfl ?_
      refine go_bipush (nI 6) dX7_many_5 (by decide +kernel) ?_
      refine go_icmp_ge 24 dX7_many_7 (by decide) (fun h => absurd h (nI_ge (by omega) (by omega))) (fun h7 => ?_)
      refine go_iload_n dX7_many_10 rfl ?_
      refine go_iload_n dX7_many_11 rfl ?_
      refine go_iload_n dX7_many_12 rfl ?_
      refine go_ishr dX7_many_13 rfl ?_
      refine go_iconst (nI 1) dX7_many_14 (by decide +kernel) ?_
      refine go_iand dX7_many_15 (nb_bit ha (by omega)) ?_
      first | refine go_iadd_n dX7_many_16 ?_ | refine go_iadd dX7_many_16 rfl ?_
      refine go_istore_n (L' := [_, _, _]) dX7_many_17 (by decide) rfl ?_
      refine go_iinc_n (L' := [_, _, _]) dX7_many_18 rfl (by decide) rfl ?_
      refine go_goto 4 dX7_many_21 (by decide) ?_
      exact ih (k + 1) (by omega)
  show Go O d kX7_many _ m 0 [.int (nI a), .null, .null] [] m
  refine go_iconst (nI 0) dX7_many_0 (by decide +kernel) ?_
  refine go_istore_n (L' := [_, _, _]) dX7_many_1 (by decide) rfl ?_
  refine go_iconst (nI 0) dX7_many_2 (by decide +kernel) ?_
  refine go_istore_n (L' := [_, _, _]) dX7_many_3 (by decide) rfl ?_
  exact key 6 0 (by omega)
theorem c_noOne {O : gOm} {d : Nat} {m : gMem} {x : Int32} {n : Nat} (hn : m.1 46 4 = nI n) (h6 : n ≤ 6) : Ca O (d + 1) kX7_noOne [.ref 46, .int x] (some (.int (bI (!(iR x n))))) m m := by
  show Go O (d + 1) kX7_noOne _ m 0 [.ref 46, .int x] [] m
  refine go_iload_n dX7_noOne_0 rfl ?_
  refine go_i2l dX7_noOne_1 rfl ?_
  refine go_lconst 0 dX7_noOne_2 (by decide +kernel) ?_
  refine go_aload_n dX7_noOne_3 rfl ?_
  refine go_geti dX7_noOne_4 fX7_81 rfl (by decide) (by decide) (by decide) rfl hn ?_
  refine go_iconst (nI 1) dX7_noOne_7 (by decide +kernel) ?_
  refine go_isub dX7_noOne_8 rfl ?_
  refine go_i2l dX7_noOne_9 rfl ?_
  refine go_callS1 (K' := kX7_in) [_, _, _] dX7_noOne_10 mX7_84 lX7_in rfl rfl (Nat.le_of_ble_eq_true rfl) (Nat.le_of_ble_eq_true rfl) (c_in) ?_
  refine go_if_ne 20 dX7_noOne_13 (by decide) (fun h13 => ?_) (fun h13 => ?_)
  · have e := bI_n0.mp h13
    rw [iR_in x (by omega)] at e
    refine go_iconst (nI 0) dX7_noOne_20 (by decide +kernel) ?_
    exact go_zret dX7_noOne_21 rfl (by first | exact Or.inl rfl | exact Or.inr rfl) (by rw [e]; rfl) rfl
  · have e := bI_0.mp h13
    rw [iR_in x (by omega)] at e
    refine go_iconst (nI 1) dX7_noOne_16 (by decide +kernel) ?_
    refine go_goto 21 dX7_noOne_17 (by decide) ?_
    exact go_zret dX7_noOne_21 rfl (by first | exact Or.inl rfl | exact Or.inr rfl) (by rw [e]; rfl) rfl
theorem c_noNews {O : gOm} {d : Nat} {m : gMem} {x : Int32} {n : Nat} (hn : m.1 46 5 = nI n) (h6 : n ≤ 6) : Ca O (d + 1) kX7_noNews [.ref 46, .int x] (some (.int (bI (!(iR x n))))) m m := by
  show Go O (d + 1) kX7_noNews _ m 0 [.ref 46, .int x] [] m
  refine go_iload_n dX7_noNews_0 rfl ?_
  refine go_i2l dX7_noNews_1 rfl ?_
  refine go_lconst 0 dX7_noNews_2 (by decide +kernel) ?_
  refine go_aload_n dX7_noNews_3 rfl ?_
  refine go_geti dX7_noNews_4 fX7_88 rfl (by decide) (by decide) (by decide) rfl hn ?_
  refine go_iconst (nI 1) dX7_noNews_7 (by decide +kernel) ?_
  refine go_isub dX7_noNews_8 rfl ?_
  refine go_i2l dX7_noNews_9 rfl ?_
  refine go_callS1 (K' := kX7_in) [_, _, _] dX7_noNews_10 mX7_84 lX7_in rfl rfl (Nat.le_of_ble_eq_true rfl) (Nat.le_of_ble_eq_true rfl) (c_in) ?_
  refine go_if_ne 20 dX7_noNews_13 (by decide) (fun h13 => ?_) (fun h13 => ?_)
  · have e := bI_n0.mp h13
    rw [iR_in x (by omega)] at e
    refine go_iconst (nI 0) dX7_noNews_20 (by decide +kernel) ?_
    exact go_zret dX7_noNews_21 rfl (by first | exact Or.inl rfl | exact Or.inr rfl) (by rw [e]; rfl) rfl
  · have e := bI_0.mp h13
    rw [iR_in x (by omega)] at e
    refine go_iconst (nI 1) dX7_noNews_16 (by decide +kernel) ?_
    refine go_goto 21 dX7_noNews_17 (by decide) ?_
    exact go_zret dX7_noNews_21 rfl (by first | exact Or.inl rfl | exact Or.inr rfl) (by rw [e]; rfl) rfl
end
section
/-! WHO IS WHERE, AND WHO KNOWS IT BEHIND AN HOUR: the pure words that both sides are told in -/
/-- of the first p people those that are at place a in hour h (w: six hours a person) -/
def th (w : Nat → Int32) (a : Int32) (h : Nat) : Nat → Nat
  | 0 => 0
  | p + 1 => th w a h p ||| (if w (6 * p + h) = a then 2 ^ p else 0)
theorem or_lt64 {a b : Nat} (ha : a < 64) (hb : b < 64) : a ||| b < 64 := Nat.or_lt_two_pow (n := 6) ha hb
theorem th_lt (w : Nat → Int32) (a : Int32) (h : Nat) : ∀ p, th w a h p < 2 ^ p
  | 0 => by simp [th]
  | p + 1 => by
    have ih := th_lt w a h p
    have e : 2 ^ p < 2 ^ (p + 1) := Nat.pow_lt_pow_right (by omega) (by omega)
    have e0 : 0 < 2 ^ p := Nat.two_pow_pos p
    simp only [th]
    refine Nat.or_lt_two_pow (by omega) ?_
    split <;> omega
theorem th_64 (w : Nat → Int32) (a : Int32) (h : Nat) {p : Nat} (hp : p ≤ 6) : th w a h p < 64 :=
  Nat.lt_of_lt_of_le (th_lt w a h p) (Nat.pow_le_pow_right (n := 2) (by omega) hp)
/-- the groups of an hour -/
def grp (w : Nat → Int32) (P h a : Nat) : Nat := th w (nI a) h P
theorem grp_64 (w : Nat → Int32) {P : Nat} (h a : Nat) (hp : P ≤ 6) : grp w P h a < 64 := th_64 w _ h hp
/-- it may be told at a group, if k know it -/
def canB (g k : Nat) : Bool := decide (1 < pc6 g) && !(decide (g &&& k = 0))
/-- who knows it behind tellings at the places of S among the first j -/
def bhA (gr : Nat → Nat) (S k : Nat) : Nat → Option Nat
  | 0 => some k
  | j + 1 => match bhA gr S k j with
    | none => none
    | some s => if S.testBit j then (if canB (gr j) k then some (s ||| gr j) else none) else some s
def bh (gr : Nat → Nat) (S k : Nat) : Option Nat := bhA gr S k 3
theorem bhA_none {gr : Nat → Nat} {S k j : Nat} (h : bhA gr S k j = none) : ∀ i, bhA gr S k (j + i) = none
  | 0 => h
  | i + 1 => by
    have := bhA_none h i
    rw [← Nat.add_assoc]
    simp only [bhA, this]
theorem bhA_lt {gr : Nat → Nat} {S k : Nat} (hk : k < 64) (hg : ∀ a, gr a < 64) : ∀ {j s : Nat}, bhA gr S k j = some s → s < 64
  | 0, s, h => by
    simp only [bhA, Option.some.injEq] at h
    omega
  | j + 1, s, h => by
    simp only [bhA] at h
    cases hb : bhA gr S k j with
    | none => rw [hb] at h; cases h
    | some z =>
      rw [hb] at h
      dsimp only at h
      have hz := bhA_lt hk hg hb
      by_cases h1 : S.testBit j = true
      · rw [if_pos h1] at h
        by_cases h2 : canB (gr j) k = true
        · rw [if_pos h2] at h
          cases h
          exact or_lt64 hz (hg j)
        · rw [if_neg h2] at h; cases h
      · rw [if_neg h1] at h
        cases h
        exact hz
theorem bh_lt {gr : Nat → Nat} {S k s : Nat} (hk : k < 64) (hg : ∀ a, gr a < 64) (h : bh gr S k = some s) : s < 64 := bhA_lt hk hg h
/-- none as a number of its own -/
def oI (e : Int32) : Option Nat → Int32
  | none => e
  | some s => nI s
end
section
theorem c_those {O : gOm} {d : Nat} {m : gMem} {P h : Nat} {a : Int32} (hP : m.1 46 4 = nI P) (hP6 : P ≤ 6) (hh : h < 6) : Ca O d kX7_those [.ref 46, .int a, .int (nI h)] (some (.int (nI (th (m.1 48) a h P)))) m m := by
  have key : ∀ n p, p + n = P → Go O d kX7_those (some (.int (nI (th (m.1 48) a h P)))) m 5 [.ref 46, .int a, .int (nI h), .int (nI (th (m.1 48) a h p)), .int (nI p)] [] m := by
    intro n
    induction n with
    | zero =>
      intro p hp
      refine go_iload dX7_those_5 rfl ?_
      refine go_aload_n dX7_those_7 rfl ?_
      refine go_geti dX7_those_8 fX7_81 rfl (by decide) (by decide) (by decide) rfl hP ?_
      refine go_icmp_ge 47 dX7_those_11 (by decide) (fun h11 => ?_) (fun h => absurd (nI_le (by omega) (by omega)) h)
      refine go_iload_n dX7_those_47 rfl ?_
      exact go_iret dX7_those_48 rfl (by rw [show p = P by omega]) rfl
    | succ n ih =>
      intro p hp
      refine go_iload dX7_those_5 rfl ?_
      refine go_aload_n dX7_those_7 rfl ?_
      refine go_geti dX7_those_8 fX7_81 rfl (by decide) (by decide) (by decide) rfl hP ?_
      refine go_icmp_ge 47 dX7_those_11 (by decide) (fun h => absurd h (nI_ge (by omega) (by omega))) (fun h11 => ?_)
      refine go_iload_n dX7_those_14 rfl ?_
      refine go_aload_n dX7_those_15 rfl ?_
      refine go_getc dX7_those_16 fX7_13 rfl (by decide) (by decide) (by decide) rfl ?_
      refine go_bipush (nI 6) dX7_those_19 (by decide +kernel) ?_
      refine go_iload dX7_those_21 rfl ?_
      first | refine go_imul_n dX7_those_23 ?_ | refine go_imul dX7_those_23 rfl ?_
      refine go_iload_n dX7_those_24 rfl ?_
      first | refine go_iadd_n dX7_those_25 ?_ | refine go_iadd dX7_those_25 rfl ?_
      refine go_iald dX7_those_26 rfl (by decide) rfl (by omega) (by decide) rfl ?_
      refine go_iload_n dX7_those_27 rfl ?_
      refine go_icmp_ne 38 dX7_those_28 (by decide) (fun h28 => ?_) (fun h28 => ?_)
      · have ev : nI (th (m.1 48) a h p) ||| nI 0 = nI (th (m.1 48) a h (p + 1)) := by rw [nb_or, th, if_neg h28]
        refine go_iconst (nI 0) dX7_those_38 (by decide +kernel) ?_
        refine go_ior dX7_those_39 ev ?_
        refine go_istore_n (L' := [_, _, _, _, _]) dX7_those_40 (by decide) rfl ?_
        refine go_iinc_n (L' := [_, _, _, _, _]) dX7_those_41 rfl (by decide) rfl ?_
        refine go_goto 5 dX7_those_44 (by decide) ?_
        exact ih (p + 1) (by omega)
      · have ev : nI (th (m.1 48) a h p) ||| (nI 1 <<< (nI p &&& 31)) = nI (th (m.1 48) a h (p + 1)) := by rw [nb_one (by omega), nb_or, th, if_pos h28]
        refine go_iconst (nI 1) dX7_those_31 (by decide +kernel) ?_
        refine go_iload dX7_those_32 rfl ?_
        refine go_ishl dX7_those_34 rfl ?_
        refine go_goto 39 dX7_those_35 (by decide) ?_
        refine go_ior dX7_those_39 ev ?_
        refine go_istore_n (L' := [_, _, _, _, _]) dX7_those_40 (by decide) rfl ?_
        refine go_iinc_n (L' := [_, _, _, _, _]) dX7_those_41 rfl (by decide) rfl ?_
        refine go_goto 5 dX7_those_44 (by decide) ?_
        exact ih (p + 1) (by omega)
  show Go O d kX7_those _ m 0 [.ref 46, .int a, .int (nI h), .null, .null] [] m
  refine go_iconst (nI 0) dX7_those_0 (by decide +kernel) ?_
  refine go_istore_n (L' := [_, _, _, _, _]) dX7_those_1 (by decide) rfl ?_
  refine go_iconst (nI 0) dX7_those_2 (by decide +kernel) ?_
  refine go_istore (L' := [_, _, _, _, _]) dX7_those_3 (by decide) rfl ?_
  exact key P 0 (by omega)
theorem c_canAt {O : gOm} {d : Nat} {m : gMem} {P h k : Nat} {a : Int32} (hP : m.1 46 4 = nI P) (hP6 : P ≤ 6) (hh : h < 6) (hk : k < 64) : Ca O (d + 1) kX7_canAt [.ref 46, .int a, .int (nI h), .int (nI k)] (some (.int (bI (canB (th (m.1 48) a h P) k)))) m m := by
  have hg := th_64 (m.1 48) a h hP6
  have hp := pc6_le (th (m.1 48) a h P)
  have hand : th (m.1 48) a h P &&& k < 64 := Nat.and_lt_two_pow (n := 6) _ hk
  show Go O (d + 1) kX7_canAt _ m 0 [.ref 46, .int a, .int (nI h), .int (nI k), .null] [] m
  refine go_aload_n dX7_canAt_0 rfl ?_
  refine go_iload_n dX7_canAt_1 rfl ?_
  refine go_iload_n dX7_canAt_2 rfl ?_
  refine go_callV1 (K' := kX7_those) [_, _] dX7_canAt_3 mX7_158 lX7_those rfl (by decide) rfl (by decide) rfl rfl (Nat.le_of_ble_eq_true rfl) (Nat.le_of_ble_eq_true rfl) (c_those hP hP6 hh) ?_
  refine go_istore (L' := [_, _, _, _, _]) dX7_canAt_6 (by decide) rfl ?_
  refine go_iload dX7_canAt_8 rfl ?_
  refine go_callS1 (K' := kX7_many) [_] dX7_canAt_10 mX7_143 lX7_many rfl rfl (Nat.le_of_ble_eq_true rfl) (Nat.le_of_ble_eq_true rfl) (c_many (by omega)) ?_
  refine go_iconst (nI 1) dX7_canAt_13 (by decide +kernel) ?_
  refine go_icmp_le 28 dX7_canAt_14 (by decide) (fun h14 => ?_) (fun h14 => ?_)
  · have er : bI (canB (th (m.1 48) a h P) k) = nI 0 := by
      have e := (nI_leI (by omega) (by omega)).mp h14
      have e2 : ¬ 1 < pc6 (th (m.1 48) a h P) := by omega
      simp [canB, e2, bI]
    refine go_iconst (nI 0) dX7_canAt_28 (by decide +kernel) ?_
    exact go_zret dX7_canAt_29 rfl (by first | exact Or.inl rfl | exact Or.inr rfl) (by rw [er]) rfl
  · have e1 : 1 < pc6 (th (m.1 48) a h P) := by
      rcases Nat.lt_or_ge 1 (pc6 (th (m.1 48) a h P)) with z | z
      · exact z
      · exact absurd (nI_le z (by omega)) h14
    refine go_iload dX7_canAt_17 rfl ?_
    refine go_iload_n dX7_canAt_19 rfl ?_
    refine go_iand dX7_canAt_20 (nb_and _ _) ?_
    refine go_if_eq 28 dX7_canAt_21 (by decide) (fun h21 => ?_) (fun h21 => ?_)
    · have er : bI (canB (th (m.1 48) a h P) k) = nI 0 := by
        have e := (nI_eq (b := 0) (by omega) (by omega)).mp h21
        simp [canB, e, bI]
      refine go_iconst (nI 0) dX7_canAt_28 (by decide +kernel) ?_
      exact go_zret dX7_canAt_29 rfl (by first | exact Or.inl rfl | exact Or.inr rfl) (by rw [er]) rfl
    · have er : bI (canB (th (m.1 48) a h P) k) = nI 1 := by
        have e : ¬ th (m.1 48) a h P &&& k = 0 := fun z => h21 (by rw [z]; rfl)
        simp [canB, e, e1, bI]
      refine go_iconst (nI 1) dX7_canAt_24 (by decide +kernel) ?_
      refine go_goto 29 dX7_canAt_25 (by decide) ?_
      exact go_zret dX7_canAt_29 rfl (by first | exact Or.inl rfl | exact Or.inr rfl) (by rw [er]) rfl
theorem c_behind {O : gOm} {d : Nat} {m : gMem} {P h S k : Nat} (hP : m.1 46 4 = nI P) (hP6 : P ≤ 6) (hh : h < 6) (hS : S < 8) (hk : k < 64) : Ca O (d + 2) kX7_behind [.ref 46, .int (nI S), .int (nI h), .int (nI k)] (some (.int (oI (-9) (bh (grp (m.1 48) P h) S k)))) m m := by
  have key : ∀ n j s, j + n = 3 → bhA (grp (m.1 48) P h) S k j = some s → Go O (d + 2) kX7_behind (some (.int (oI (-9) (bh (grp (m.1 48) P h) S k)))) m 6 [.ref 46, .int (nI S), .int (nI h), .int (nI k), .int (nI s), .int (nI j)] [] m := by
    intro n
    induction n with
    | zero =>
      intro j s hj hs
      refine go_iload dX7_behind_6 rfl ?_
      refine go_iconst (nI 3) dX7_behind_8 (by decide +kernel) ?_
      refine go_icmp_ge 53 dX7_behind_9 (by decide) (fun h9 => ?_) (fun h => absurd (nI_le (by omega) (by omega)) h)
      refine go_iload dX7_behind_53 rfl ?_
      exact go_iret dX7_behind_55 rfl (by rw [bh, show (3 : Nat) = j by omega, hs]; rfl) rfl
    | succ n ih =>
      intro j s hj hs
      refine go_iload dX7_behind_6 rfl ?_
      refine go_iconst (nI 3) dX7_behind_8 (by decide +kernel) ?_
      refine go_icmp_ge 53 dX7_behind_9 (by decide) (fun h => absurd h (nI_ge (by omega) (by omega))) (fun h9 => ?_)
      refine go_iload_n dX7_behind_12 rfl ?_
      refine go_iload dX7_behind_13 rfl ?_
      refine go_callS1 (K' := kX7_has) [_, _] dX7_behind_15 mX7_109 lX7_has rfl rfl (Nat.le_of_ble_eq_true rfl) (Nat.le_of_ble_eq_true rfl) (c_has (by omega) (by omega)) ?_
      refine go_if_eq 47 dX7_behind_18 (by decide) (fun h18 => ?_) (fun h18 => ?_)
      · have e := bI_0.mp h18
        have hs2 : bhA (grp (m.1 48) P h) S k (j + 1) = some s := by simp [bhA, hs, e]
        refine go_iinc_n (L' := [_, _, _, _, _, _]) dX7_behind_47 rfl (by decide) rfl ?_
        refine go_goto 6 dX7_behind_50 (by decide) ?_
        exact ih (j + 1) _ (by omega) hs2
      · have e := bI_n0.mp h18
        refine go_aload_n dX7_behind_21 rfl ?_
        refine go_iload dX7_behind_22 rfl ?_
        refine go_iload_n dX7_behind_24 rfl ?_
        refine go_iload_n dX7_behind_25 rfl ?_
        refine go_callV1 (K' := kX7_canAt) [_, _, _] dX7_behind_26 mX7_179 lX7_canAt rfl (by decide) rfl (by decide) rfl rfl (Nat.le_of_ble_eq_true rfl) (Nat.le_of_ble_eq_true rfl) (c_canAt hP hP6 hh hk) ?_
        refine go_if_ne 35 dX7_behind_29 (by decide) (fun h29 => ?_) (fun h29 => ?_)
        · have e3 : canB (grp (m.1 48) P h j) k = true := bI_n0.mp h29
          have hs2 : bhA (grp (m.1 48) P h) S k (j + 1) = some (s ||| grp (m.1 48) P h j) := by
            simp only [bhA, hs]
            rw [if_pos e, if_pos e3]
          refine go_iload dX7_behind_35 rfl ?_
          refine go_aload_n dX7_behind_37 rfl ?_
          refine go_iload dX7_behind_38 rfl ?_
          refine go_iload_n dX7_behind_40 rfl ?_
          refine go_callV1 (K' := kX7_those) [_, _] dX7_behind_41 mX7_158 lX7_those rfl (by decide) rfl (by decide) rfl rfl (Nat.le_of_ble_eq_true rfl) (Nat.le_of_ble_eq_true rfl) (c_those hP hP6 hh) ?_
          refine go_ior dX7_behind_44 (nb_or _ _) ?_
          refine go_istore (L' := [_, _, _, _, _, _]) dX7_behind_45 (by decide) rfl ?_
          refine go_iinc_n (L' := [_, _, _, _, _, _]) dX7_behind_47 rfl (by decide) rfl ?_
          refine go_goto 6 dX7_behind_50 (by decide) ?_
          exact ih (j + 1) _ (by omega) hs2
        · have e3 := bI_0.mp h29
          have er : bh (grp (m.1 48) P h) S k = none := by
            have z : bhA (grp (m.1 48) P h) S k (j + 1) = none := by
              simp only [bhA, hs]
              rw [if_pos e, if_neg (by rw [show canB (grp (m.1 48) P h j) k = false from e3]; decide)]
            have := bhA_none z (2 - j)
            rwa [show j + 1 + (2 - j) = 3 by omega] at this
          refine go_bipush (-9) dX7_behind_32 (by decide +kernel) ?_
          exact go_iret dX7_behind_34 rfl (by rw [er]; rfl) rfl
  show Go O (d + 2) kX7_behind _ m 0 [.ref 46, .int (nI S), .int (nI h), .int (nI k), .null, .null] [] m
  refine go_iload_n dX7_behind_0 rfl ?_
  refine go_istore (L' := [_, _, _, _, _, _]) dX7_behind_1 (by decide) rfl ?_
  refine go_iconst (nI 0) dX7_behind_3 (by decide +kernel) ?_
  refine go_istore (L' := [_, _, _, _, _, _]) dX7_behind_4 (by decide) rfl ?_
  exact key 3 0 k (by omega) rfl
theorem c_leftOf {O : gOm} {d : Nat} {m : gMem} {n a b : Nat} (hn : n < 3) (ha : m.1 49 n = nI a) (hb : m.1 52 n = nI b) (hab : b ≤ a) : Ca O d kX7_leftOf [.ref 46, .int (nI n)] (some (.int (nI (a - b)))) m m := by
  show Go O d kX7_leftOf _ m 0 [.ref 46, .int (nI n)] [] m
  refine go_aload_n dX7_leftOf_0 rfl ?_
  refine go_getc dX7_leftOf_1 fX7_16 rfl (by decide) (by decide) (by decide) rfl ?_
  refine go_iload_n dX7_leftOf_4 rfl ?_
  refine go_iald dX7_leftOf_5 rfl (by decide) rfl (by omega) (by decide) ha ?_
  refine go_aload_n dX7_leftOf_6 rfl ?_
  refine go_getc dX7_leftOf_7 fX7_25 rfl (by decide) (by decide) (by decide) rfl ?_
  refine go_iload_n dX7_leftOf_10 rfl ?_
  refine go_iald dX7_leftOf_11 rfl (by decide) rfl (by omega) (by decide) hb ?_
  refine go_isub dX7_leftOf_12 (pk_sub hab) ?_
  exact go_iret dX7_leftOf_13 rfl rfl rfl
/-- the group at a place, 3: none -/
def gr3 (gr : Nat → Nat) (a : Nat) : Nat := if a < 3 then gr a else 0
theorem gr3_t {gr : Nat → Nat} {a : Nat} (h : a < 3) : gr3 gr a = gr a := if_pos h
theorem gr3_f {gr : Nat → Nat} {a : Nat} (h : ¬ a < 3) : gr3 gr a = 0 := if_neg h
theorem c_both {O : gOm} {d : Nat} {m : gMem} {P h k a b : Nat} (hP : m.1 46 4 = nI P) (hP6 : P ≤ 6) (hh : h < 6) (ha : a < 4) (hb : b < 4) : Ca O (d + 1) kX7_both [.ref 46, .int (nI a), .int (nI b), .int (nI h), .int (nI k)] (some (.int (nI (k ||| gr3 (grp (m.1 48) P h) a ||| gr3 (grp (m.1 48) P h) b)))) m m := by
  show Go O (d + 1) kX7_both _ m 0 [.ref 46, .int (nI a), .int (nI b), .int (nI h), .int (nI k), .null] [] m
  refine go_iload dX7_both_0 rfl ?_
  refine go_istore (L' := [_, _, _, _, _, _]) dX7_both_2 (by decide) rfl ?_
  refine go_iload dX7_both_4 rfl ?_
  refine go_iload_n dX7_both_6 rfl ?_
  refine go_iconst (nI 3) dX7_both_7 (by decide +kernel) ?_
  refine go_icmp_ge 20 dX7_both_8 (by decide) (fun h8 => ?_) (fun h8 => ?_)
  · have z1 : ¬ a < 3 := by
      have := (nI_leI (by omega) (by omega)).mp h8
      omega
    have e1 : nI k ||| nI 0 = nI (k ||| gr3 (grp (m.1 48) P h) a) := by rw [nb_or, gr3_f z1]
    refine go_iconst (nI 0) dX7_both_20 (by decide +kernel) ?_
    refine go_ior dX7_both_21 e1 ?_
    refine go_istore (L' := [_, _, _, _, _, _]) dX7_both_22 (by decide) rfl ?_
    refine go_iload dX7_both_24 rfl ?_
    refine go_iload_n dX7_both_26 rfl ?_
    refine go_iconst (nI 3) dX7_both_27 (by decide +kernel) ?_
    refine go_icmp_ge 40 dX7_both_28 (by decide) (fun h28 => ?_) (fun h28 => ?_)
    · have z2 : ¬ b < 3 := by
        have := (nI_leI (by omega) (by omega)).mp h28
        omega
      have e2 : nI (k ||| gr3 (grp (m.1 48) P h) a) ||| nI 0 = nI (k ||| gr3 (grp (m.1 48) P h) a ||| gr3 (grp (m.1 48) P h) b) := by rw [nb_or, gr3_f z2]
      refine go_iconst (nI 0) dX7_both_40 (by decide +kernel) ?_
      refine go_ior dX7_both_41 e2 ?_
      refine go_istore (L' := [_, _, _, _, _, _]) dX7_both_42 (by decide) rfl ?_
      refine go_iload dX7_both_44 rfl ?_
      exact go_iret dX7_both_46 rfl rfl rfl
    · have z2 : b < 3 := by
        rcases Nat.lt_or_ge b 3 with z | z
        · exact z
        · exact absurd (nI_le z (by omega)) h28
      have e2 : nI (k ||| gr3 (grp (m.1 48) P h) a) ||| nI (th (m.1 48) (nI b) h P) = nI (k ||| gr3 (grp (m.1 48) P h) a ||| gr3 (grp (m.1 48) P h) b) := by rw [nb_or, gr3_t z2]; rfl
      refine go_aload_n dX7_both_31 rfl ?_
      refine go_iload_n dX7_both_32 rfl ?_
      refine go_iload_n dX7_both_33 rfl ?_
      refine go_callV1 (K' := kX7_those) [_, _] dX7_both_34 mX7_158 lX7_those rfl (by decide) rfl (by decide) rfl rfl (Nat.le_of_ble_eq_true rfl) (Nat.le_of_ble_eq_true rfl) (c_those hP hP6 hh) ?_
      refine go_goto 41 dX7_both_37 (by decide) ?_
      refine go_ior dX7_both_41 e2 ?_
      refine go_istore (L' := [_, _, _, _, _, _]) dX7_both_42 (by decide) rfl ?_
      refine go_iload dX7_both_44 rfl ?_
      exact go_iret dX7_both_46 rfl rfl rfl
  · have z1 : a < 3 := by
      rcases Nat.lt_or_ge a 3 with z | z
      · exact z
      · exact absurd (nI_le z (by omega)) h8
    have e1 : nI k ||| nI (th (m.1 48) (nI a) h P) = nI (k ||| gr3 (grp (m.1 48) P h) a) := by rw [nb_or, gr3_t z1]; rfl
    refine go_aload_n dX7_both_11 rfl ?_
    refine go_iload_n dX7_both_12 rfl ?_
    refine go_iload_n dX7_both_13 rfl ?_
    refine go_callV1 (K' := kX7_those) [_, _] dX7_both_14 mX7_158 lX7_those rfl (by decide) rfl (by decide) rfl rfl (Nat.le_of_ble_eq_true rfl) (Nat.le_of_ble_eq_true rfl) (c_those hP hP6 hh) ?_
    refine go_goto 21 dX7_both_17 (by decide) ?_
    refine go_ior dX7_both_21 e1 ?_
    refine go_istore (L' := [_, _, _, _, _, _]) dX7_both_22 (by decide) rfl ?_
    refine go_iload dX7_both_24 rfl ?_
    refine go_iload_n dX7_both_26 rfl ?_
    refine go_iconst (nI 3) dX7_both_27 (by decide +kernel) ?_
    refine go_icmp_ge 40 dX7_both_28 (by decide) (fun h28 => ?_) (fun h28 => ?_)
    · have z2 : ¬ b < 3 := by
        have := (nI_leI (by omega) (by omega)).mp h28
        omega
      have e2 : nI (k ||| gr3 (grp (m.1 48) P h) a) ||| nI 0 = nI (k ||| gr3 (grp (m.1 48) P h) a ||| gr3 (grp (m.1 48) P h) b) := by rw [nb_or, gr3_f z2]
      refine go_iconst (nI 0) dX7_both_40 (by decide +kernel) ?_
      refine go_ior dX7_both_41 e2 ?_
      refine go_istore (L' := [_, _, _, _, _, _]) dX7_both_42 (by decide) rfl ?_
      refine go_iload dX7_both_44 rfl ?_
      exact go_iret dX7_both_46 rfl rfl rfl
    · have z2 : b < 3 := by
        rcases Nat.lt_or_ge b 3 with z | z
        · exact z
        · exact absurd (nI_le z (by omega)) h28
      have e2 : nI (k ||| gr3 (grp (m.1 48) P h) a) ||| nI (th (m.1 48) (nI b) h P) = nI (k ||| gr3 (grp (m.1 48) P h) a ||| gr3 (grp (m.1 48) P h) b) := by rw [nb_or, gr3_t z2]; rfl
      refine go_aload_n dX7_both_31 rfl ?_
      refine go_iload_n dX7_both_32 rfl ?_
      refine go_iload_n dX7_both_33 rfl ?_
      refine go_callV1 (K' := kX7_those) [_, _] dX7_both_34 mX7_158 lX7_those rfl (by decide) rfl (by decide) rfl rfl (Nat.le_of_ble_eq_true rfl) (Nat.le_of_ble_eq_true rfl) (c_those hP hP6 hh) ?_
      refine go_goto 41 dX7_both_37 (by decide) ?_
      refine go_ior dX7_both_41 e2 ?_
      refine go_istore (L' := [_, _, _, _, _, _]) dX7_both_42 (by decide) rfl ?_
      refine go_iload dX7_both_44 rfl ?_
      exact go_iret dX7_both_46 rfl rfl rfl
end
section
/-! PAGES: what a telling does to a page (told 0 .. 2, knowing 3 .. 5, by tellers 6 .., by hearers 24 .., by places 42 ..) -/
theorem gupA_s (m : gMem) (g : Nat) (f : Nat → Int32) : (gupA m g f).1 g = f := by simp [gupA]
theorem gupA_k (m : gMem) {g k : Nat} (f : Nat → Int32) (h : k ≠ g) : (gupA m g f).1 k = m.1 k := by simp [gupA, gbeq h]
theorem gupA_self (m : gMem) (g : Nat) : gupA m g (m.1 g) = m := by
  refine Prod.ext (funext fun k => ?_) rfl
  by_cases h : k = g
  · rw [h, gupA_s]
  · rw [gupA_k m _ h]
theorem gup_gupA (m : gMem) (g i : Nat) (f : Nat → Int32) (x : Int32) : gup (gupA m g f) g i x = gupA m g (upd f i x) := by
  refine Prod.ext (funext fun k => ?_) rfl
  by_cases h : k = g
  · rw [h, gupA_s, gupd, gupA_s]
  · rw [gupA_k m _ h, gup_k _ _ h, gupA_k m _ h]
theorem gupA_gupA (m : gMem) (g : Nat) (f f' : Nat → Int32) : gupA (gupA m g f) g f' = gupA m g f' := by
  refine Prod.ext (funext fun k => ?_) rfl
  by_cases h : k = g
  · rw [h, gupA_s, gupA_s]
  · rw [gupA_k _ _ h, gupA_k m _ h, gupA_k m _ h]
theorem gup_asA (m : gMem) (g i : Nat) (x : Int32) : gup m g i x = gupA m g (upd (m.1 g) i x) := by
  conv => lhs; rw [← gupA_self m g]
  rw [gup_gupA]
theorem Fr.upA {S : List Nat} {m m1 : gMem} (h : Fr S m m1) {k : Nat} (hk : k ∈ S) (f : Nat → Int32) : Fr S m (gupA m1 k f) := by
  refine ⟨h.1, fun k' hk' => ?_⟩
  have hne : k' ≠ k := fun e => hk' (e ▸ hk)
  rw [gupA_k _ _ hne]
  exact h.2 k' hk'
theorem upd_s (f : Nat → Int32) (i : Nat) (x : Int32) : upd f i x i = x := by simp [upd]
theorem upd_n (f : Nat → Int32) {i j : Nat} (x : Int32) (h : j ≠ i) : upd f i x j = f j := by simp [upd, h]
section GoPage
variable {O : gOm} {d : Nat} {K : gM} {r : Option Value} {m m' : gMem} {pc : Nat} {L st : List Value}
theorem go_ialdA {n k i : Nat} {f : Nat → Int32} {x v : Int32} (hd : decode K.2.1 pc = .ok (.iaload, 1)) (hk : gK k = (8, n)) (hkn : k < gNC) (hx : x = nI i) (hi : i < n) (hn : n < 1000) (hv : f i = v) (kk : Go O d K r m' (pc + 1) L (.int v :: st) (gupA m k f)) : Go O d K r m' pc L (.int x :: .ref k :: st) (gupA m k f) :=
  go_iald hd hk hkn hx hi hn (by rw [gupA_s]; exact hv) kk
theorem go_iastA {n k i : Nat} {f : Nat → Int32} {x y : Int32} (hd : decode K.2.1 pc = .ok (.iastore, 1)) (hk : gK k = (8, n)) (hkn : k < gNC) (hx : x = nI i) (hi : i < n) (hn : n < 1000) (kk : Go O d K r m' (pc + 1) L st (gupA m k (upd f i y))) : Go O d K r m' pc L (.int y :: .int x :: .ref k :: st) (gupA m k f) :=
  go_iast hd hk hkn hx hi hn (by rw [gup_gupA]; exact kk)
end GoPage
/-- the halves -/
def hvP (f : Nat → Int32) (N : Nat) : Nat → Int32 := upd f 5 (f 5 ||| (if N = 3 then f 3 &&& f 4 else nI 0))
/-- the hearers -/
def atA (f : Nat → Int32) (n G : Nat) : Nat → Nat → Int32
  | 0 => f
  | q + 1 => upd (atA f n G q) (24 + 6 * n + q) (atA f n G q (24 + 6 * n + q) + nI (if G.testBit q then 1 else 0))
/-- a telling of n by p at place a, where G are -/
def tl1 (f : Nat → Int32) (n : Nat) : Nat → Int32 := upd f n (f n + nI 1)
def tl2 (f : Nat → Int32) (n G : Nat) : Nat → Int32 := upd (tl1 f n) (3 + n) (tl1 f n (3 + n) ||| nI G)
def tl3 (f : Nat → Int32) (n p G : Nat) : Nat → Int32 := upd (tl2 f n G) (6 + 6 * n + p) (tl2 f n G (6 + 6 * n + p) + nI 1)
def tl5 (f : Nat → Int32) (n p a G P : Nat) : Nat → Int32 := upd (atA (tl3 f n p G) n G P) (42 + 3 * n + a) (atA (tl3 f n p G) n G P (42 + 3 * n + a) + nI 1)
def tlP (f : Nat → Int32) (n p a G P N : Nat) : Nat → Int32 := hvP (tl5 f n p a G P) N
/-- whether a telling may be: one knows it, those that are there, how often told and at most, by the law -/
def mT (kp : Bool) (g : Nat) (told lim : Int32) (lw : Nat) (tl pl : Int32) : Bool := kp && decide (1 < pc6 g) && decide (told < lim) && (if lw = 1 then decide (tl = 0) else if lw = 2 then decide (pl < 3) else true)
def gOf (gr : Nat → Nat) : Option Nat → Nat
  | none => 0
  | some a => gr a
def plOf (f : Nat → Int32) (n : Nat) : Option Nat → Int32
  | none => 0
  | some a => f (42 + 3 * n + a)
theorem nI_nn {a b : Nat} (h : a < 2 ^ 31) (hb : 0 < b) (hb2 : b < 2 ^ 31) : ¬ nI a = -(nI b) := by
  intro e
  have e2 := congrArg Int32.toInt e
  rw [nI_toInt h, sb_negT hb2] at e2
  omega
theorem nI_n9 {a : Nat} (h : a < 2 ^ 31) : ¬ nI a = -9 := by
  have := nI_nn h (b := 9) (by omega) (by omega)
  exact this
end
section
theorem c_grp {O : gOm} {d : Nat} {m : gMem} {P h a : Nat} (hP : m.1 46 4 = nI P) (hP6 : P ≤ 6) (hh : h < 6) : Ca O d kX7_those [.ref 46, .int (nI a), .int (nI h)] (some (.int (nI (grp (m.1 48) P h a)))) m m := c_those hP hP6 hh
theorem c_halve_52 {O : gOm} {d : Nat} {m : gMem} {N : Nat} (hN : m.1 46 5 = nI N) (hN3 : N ≤ 3) : Ca O d kX7_halve [.ref 46, .ref 52] none m (gupA m 52 (hvP (m.1 52) N)) := by
  show Go O d kX7_halve none _ 0 [.ref 46, .ref 52] [] m
  refine go_aload_n dX7_halve_0 rfl ?_
  refine go_iconst (nI 5) dX7_halve_1 (by decide +kernel) ?_
  refine go_dup2 dX7_halve_2 rfl rfl ?_
  refine go_iald dX7_halve_3 rfl (by decide) rfl (by decide) (by decide) rfl ?_
  refine go_aload_n dX7_halve_4 rfl ?_
  refine go_geti dX7_halve_5 fX7_88 rfl (by decide) (by decide) (by decide) rfl hN ?_
  refine go_iconst (nI 3) dX7_halve_8 (by decide +kernel) ?_
  refine go_icmp_ne 22 dX7_halve_9 (by decide) (fun h9 => ?_) (fun h9 => ?_)
  · have hz : ¬ N = 3 := fun z => h9 (by rw [z])
    have ev : m.1 52 5 ||| nI 0 = m.1 52 5 ||| (if N = 3 then m.1 52 3 &&& m.1 52 4 else nI 0) := by rw [if_neg hz]
    refine go_iconst (nI 0) dX7_halve_22 (by decide +kernel) ?_
    refine go_ior dX7_halve_23 ev ?_
    refine go_iast dX7_halve_24 rfl (by decide) rfl (by decide) (by decide) ?_
    exact go_vret dX7_halve_25 rfl rfl (by rw [gup_asA]; rfl)
  · have hz : N = 3 := (nI_eq (by omega) (by omega)).mp h9
    have ev : m.1 52 5 ||| (m.1 52 3 &&& m.1 52 4) = m.1 52 5 ||| (if N = 3 then m.1 52 3 &&& m.1 52 4 else nI 0) := by rw [if_pos hz]
    refine go_aload_n dX7_halve_12 rfl ?_
    refine go_iconst (nI 3) dX7_halve_13 (by decide +kernel) ?_
    refine go_iald dX7_halve_14 rfl (by decide) rfl (by decide) (by decide) rfl ?_
    refine go_aload_n dX7_halve_15 rfl ?_
    refine go_iconst (nI 4) dX7_halve_16 (by decide +kernel) ?_
    refine go_iald dX7_halve_17 rfl (by decide) rfl (by decide) (by decide) rfl ?_
    refine go_iand dX7_halve_18 rfl ?_
    refine go_goto 23 dX7_halve_19 (by decide) ?_
    refine go_ior dX7_halve_23 ev ?_
    refine go_iast dX7_halve_24 rfl (by decide) rfl (by decide) (by decide) ?_
    exact go_vret dX7_halve_25 rfl rfl (by rw [gup_asA]; rfl)
theorem c_mayTell_52 {O : gOm} {d : Nat} {m : gMem} {P h p n kn lw : Nat} {av : Option Nat} (hP : m.1 46 4 = nI P) (hP6 : P ≤ 6) (hh : h < 6) (hp : p < P) (hn : n < 3) (hkn : m.1 52 (3 + n) = nI kn) (hk : kn < 64) (hav : m.1 48 (6 * p + h) = oI (-9) av) (ha3 : ∀ a, av = some a → a < 3) (hlw : m.1 46 6 = nI lw) (hl : lw < 3) : Ca O (d + 1) kX7_mayTell [.ref 46, .ref 52, .int (nI h), .int (nI p), .int (nI n)] (some (.int (bI (mT (kn.testBit p) (gOf (grp (m.1 48) P h) av) (m.1 52 n) (m.1 49 n) lw (m.1 52 (6 + 6 * n + p)) (plOf (m.1 52) n av))))) m m := by
  show Go O (d + 1) kX7_mayTell _ m 0 [.ref 46, .ref 52, .int (nI h), .int (nI p), .int (nI n), .null] [] m
  cases av with
  | none =>
    have er : bI (mT (kn.testBit p) (gOf (grp (m.1 48) P h) none) (m.1 52 n) (m.1 49 n) lw (m.1 52 (6 + 6 * n + p)) (plOf (m.1 52) n none)) = nI 0 := by
      have z : pc6 0 = 0 := by decide +kernel
      simp [mT, gOf, z, bI]
    refine go_aload_n dX7_mayTell_0 rfl ?_
    refine go_getc dX7_mayTell_1 fX7_13 rfl (by decide) (by decide) (by decide) rfl ?_
    refine go_bipush (nI 6) dX7_mayTell_4 (by decide +kernel) ?_
    refine go_iload_n dX7_mayTell_6 rfl ?_
    first | refine go_imul_n dX7_mayTell_7 ?_ | refine go_imul dX7_mayTell_7 rfl ?_
    refine go_iload_n dX7_mayTell_8 rfl ?_
    first | refine go_iadd_n dX7_mayTell_9 ?_ | refine go_iadd dX7_mayTell_9 rfl ?_
    refine go_iald dX7_mayTell_10 rfl (by decide) rfl (by omega) (by decide) hav ?_
    refine go_istore (L' := [_, _, _, _, _, _]) dX7_mayTell_11 (by decide) rfl ?_
    refine go_aload_n dX7_mayTell_13 rfl ?_
    refine go_iconst (nI 3) dX7_mayTell_14 (by decide +kernel) ?_
    refine go_iload dX7_mayTell_15 rfl ?_
    first | refine go_iadd_n dX7_mayTell_17 ?_ | refine go_iadd dX7_mayTell_17 rfl ?_
    refine go_iald dX7_mayTell_18 rfl (by decide) rfl (by omega) (by decide) hkn ?_
    refine go_iload_n dX7_mayTell_19 rfl ?_
    refine go_callS1 (K' := kX7_has) [_, _] dX7_mayTell_20 mX7_109 lX7_has rfl rfl (Nat.le_of_ble_eq_true rfl) (Nat.le_of_ble_eq_true rfl) (c_has (by omega) (by omega)) ?_
    refine go_if_eq 61 dX7_mayTell_23 (by decide) (fun h23 => ?_) (fun h23 => ?_)
    · refine go_iconst (nI 0) dX7_mayTell_61 (by decide +kernel) ?_
      exact go_zret dX7_mayTell_62 rfl (by first | exact Or.inl rfl | exact Or.inr rfl) (by rw [er]) rfl
    · refine go_iload dX7_mayTell_26 rfl ?_
      refine go_bipush (-9) dX7_mayTell_28 (by decide +kernel) ?_
      refine go_icmp_eq 61 dX7_mayTell_30 (by decide) (fun h30 => ?_) (fun h => absurd (rfl) h)
      refine go_iconst (nI 0) dX7_mayTell_61 (by decide +kernel) ?_
      exact go_zret dX7_mayTell_62 rfl (by first | exact Or.inl rfl | exact Or.inr rfl) (by rw [er]) rfl
  | some a =>
    have ha := ha3 a rfl
    replace hav : m.1 48 (6 * p + h) = nI a := hav
    have hg := grp_64 (m.1 48) h a hP6
    have hq := pc6_le (grp (m.1 48) P h a)
    generalize hB : mT (kn.testBit p) (gOf (grp (m.1 48) P h) (some a)) (m.1 52 n) (m.1 49 n) lw (m.1 52 (6 + 6 * n + p)) (plOf (m.1 52) n (some a)) = B
    have hB := hB.symm
    simp only [mT, gOf, plOf] at hB
    refine go_aload_n dX7_mayTell_0 rfl ?_
    refine go_getc dX7_mayTell_1 fX7_13 rfl (by decide) (by decide) (by decide) rfl ?_
    refine go_bipush (nI 6) dX7_mayTell_4 (by decide +kernel) ?_
    refine go_iload_n dX7_mayTell_6 rfl ?_
    first | refine go_imul_n dX7_mayTell_7 ?_ | refine go_imul dX7_mayTell_7 rfl ?_
    refine go_iload_n dX7_mayTell_8 rfl ?_
    first | refine go_iadd_n dX7_mayTell_9 ?_ | refine go_iadd dX7_mayTell_9 rfl ?_
    refine go_iald dX7_mayTell_10 rfl (by decide) rfl (by omega) (by decide) hav ?_
    refine go_istore (L' := [_, _, _, _, _, _]) dX7_mayTell_11 (by decide) rfl ?_
    refine go_aload_n dX7_mayTell_13 rfl ?_
    refine go_iconst (nI 3) dX7_mayTell_14 (by decide +kernel) ?_
    refine go_iload dX7_mayTell_15 rfl ?_
    first | refine go_iadd_n dX7_mayTell_17 ?_ | refine go_iadd dX7_mayTell_17 rfl ?_
    refine go_iald dX7_mayTell_18 rfl (by decide) rfl (by omega) (by decide) hkn ?_
    refine go_iload_n dX7_mayTell_19 rfl ?_
    refine go_callS1 (K' := kX7_has) [_, _] dX7_mayTell_20 mX7_109 lX7_has rfl rfl (Nat.le_of_ble_eq_true rfl) (Nat.le_of_ble_eq_true rfl) (c_has (by omega) (by omega)) ?_
    refine go_if_eq 61 dX7_mayTell_23 (by decide) (fun h23 => ?_) (fun h23 => ?_)
    · have er : B = false := by rw [hB, bI_0.mp h23]; rfl
      refine go_iconst (nI 0) dX7_mayTell_61 (by decide +kernel) ?_
      exact go_zret dX7_mayTell_62 rfl (by first | exact Or.inl rfl | exact Or.inr rfl) (by rw [er]; rfl) rfl
    · have e1 := bI_n0.mp h23
      refine go_iload dX7_mayTell_26 rfl ?_
      refine go_bipush (-9) dX7_mayTell_28 (by decide +kernel) ?_
      refine go_icmp_eq 61 dX7_mayTell_30 (by decide) (fun h => absurd h (nI_n9 (by omega))) (fun h30 => ?_)
      refine go_aload_n dX7_mayTell_33 rfl ?_
      refine go_iload dX7_mayTell_34 rfl ?_
      refine go_iload_n dX7_mayTell_36 rfl ?_
      refine go_callV1 (K' := kX7_those) [_, _] dX7_mayTell_37 mX7_158 lX7_those rfl (by decide) rfl (by decide) rfl rfl (Nat.le_of_ble_eq_true rfl) (Nat.le_of_ble_eq_true rfl) (c_grp hP hP6 hh) ?_
      refine go_callS1 (K' := kX7_many) [_] dX7_mayTell_40 mX7_143 lX7_many rfl rfl (Nat.le_of_ble_eq_true rfl) (Nat.le_of_ble_eq_true rfl) (c_many (by omega)) ?_
      refine go_iconst (nI 2) dX7_mayTell_43 (by decide +kernel) ?_
      refine go_icmp_lt 61 dX7_mayTell_44 (by decide) (fun h44 => ?_) (fun h44 => ?_)
      · have er : B = false := by
          have e2 : ¬ 1 < pc6 (grp (m.1 48) P h a) := by
            have := (nI_ltI (by omega) (by omega)).mp h44
            omega
          rw [hB]
          simp [e2]
        refine go_iconst (nI 0) dX7_mayTell_61 (by decide +kernel) ?_
        exact go_zret dX7_mayTell_62 rfl (by first | exact Or.inl rfl | exact Or.inr rfl) (by rw [er]; rfl) rfl
      · have e2 : 1 < pc6 (grp (m.1 48) P h a) := by
          rcases Nat.lt_or_ge 1 (pc6 (grp (m.1 48) P h a)) with z | z
          · exact z
          · exact absurd (nI_lt (by omega) (by omega)) h44
        refine go_aload_n dX7_mayTell_47 rfl ?_
        refine go_iload dX7_mayTell_48 rfl ?_
        refine go_iald dX7_mayTell_50 rfl (by decide) rfl (by omega) (by decide) rfl ?_
        refine go_aload_n dX7_mayTell_51 rfl ?_
        refine go_getc dX7_mayTell_52 fX7_16 rfl (by decide) (by decide) (by decide) rfl ?_
        refine go_iload dX7_mayTell_55 rfl ?_
        refine go_iald dX7_mayTell_57 rfl (by decide) rfl (by omega) (by decide) rfl ?_
        refine go_icmp_lt 63 dX7_mayTell_58 (by decide) (fun h58 => ?_) (fun h58 => ?_)
        · refine go_aload_n dX7_mayTell_63 rfl ?_
          refine go_geti dX7_mayTell_64 fX7_130 rfl (by decide) (by decide) (by decide) rfl hlw ?_
          refine go_iconst (nI 1) dX7_mayTell_67 (by decide +kernel) ?_
          refine go_icmp_ne 92 dX7_mayTell_68 (by decide) (fun h68 => ?_) (fun h68 => ?_)
          · have z1 : ¬ lw = 1 := fun z => h68 (by rw [z])
            refine go_aload_n dX7_mayTell_92 rfl ?_
            refine go_geti dX7_mayTell_93 fX7_130 rfl (by decide) (by decide) (by decide) rfl hlw ?_
            refine go_iconst (nI 2) dX7_mayTell_96 (by decide +kernel) ?_
            refine go_icmp_ne 116 dX7_mayTell_97 (by decide) (fun h97 => ?_) (fun h97 => ?_)
            · have z2 : ¬ lw = 2 := fun z => h97 (by rw [z])
              have er : B = true := by
                rw [hB, e1]
                simp [e2, h58, z1, z2]
              refine go_iconst (nI 1) dX7_mayTell_116 (by decide +kernel) ?_
              refine go_goto 121 dX7_mayTell_117 (by decide) ?_
              exact go_zret dX7_mayTell_121 rfl (by first | exact Or.inl rfl | exact Or.inr rfl) (by rw [er]; rfl) rfl
            · have z2 : lw = 2 := (nI_eq (by omega) (by omega)).mp h97
              refine go_aload_n dX7_mayTell_100 rfl ?_
              refine go_bipush (nI 42) dX7_mayTell_101 (by decide +kernel) ?_
              refine go_iconst (nI 3) dX7_mayTell_103 (by decide +kernel) ?_
              refine go_iload dX7_mayTell_104 rfl ?_
              first | refine go_imul_n dX7_mayTell_106 ?_ | refine go_imul dX7_mayTell_106 rfl ?_
              first | refine go_iadd_n dX7_mayTell_107 ?_ | refine go_iadd dX7_mayTell_107 rfl ?_
              refine go_iload dX7_mayTell_108 rfl ?_
              first | refine go_iadd_n dX7_mayTell_110 ?_ | refine go_iadd dX7_mayTell_110 rfl ?_
              refine go_iald dX7_mayTell_111 rfl (by decide) rfl (by omega) (by decide) rfl ?_
              refine go_iconst (nI 3) dX7_mayTell_112 (by decide +kernel) ?_
              refine go_icmp_ge 120 dX7_mayTell_113 (by decide) (fun h113 => ?_) (fun h113 => ?_)
              · have er : B = false := by
                  rw [hB, e1]
                  have z3 : ¬ m.1 52 (42 + 3 * n + a) < 3 := Int32.not_lt.mpr h113
                  simp [e2, h58, z1, z2, z3]
                refine go_iconst (nI 0) dX7_mayTell_120 (by decide +kernel) ?_
                exact go_zret dX7_mayTell_121 rfl (by first | exact Or.inl rfl | exact Or.inr rfl) (by rw [er]; rfl) rfl
              · have er : B = true := by
                  rw [hB, e1]
                  have z3 : m.1 52 (42 + 3 * n + a) < 3 := Int32.not_le.mp h113
                  simp [e2, h58, z1, z2, z3]
                refine go_iconst (nI 1) dX7_mayTell_116 (by decide +kernel) ?_
                refine go_goto 121 dX7_mayTell_117 (by decide) ?_
                exact go_zret dX7_mayTell_121 rfl (by first | exact Or.inl rfl | exact Or.inr rfl) (by rw [er]; rfl) rfl
          · have z1 : lw = 1 := (nI_eq (by omega) (by omega)).mp h68
            refine go_aload_n dX7_mayTell_71 rfl ?_
            refine go_bipush (nI 6) dX7_mayTell_72 (by decide +kernel) ?_
            refine go_bipush (nI 6) dX7_mayTell_74 (by decide +kernel) ?_
            refine go_iload dX7_mayTell_76 rfl ?_
            first | refine go_imul_n dX7_mayTell_78 ?_ | refine go_imul dX7_mayTell_78 rfl ?_
            first | refine go_iadd_n dX7_mayTell_79 ?_ | refine go_iadd dX7_mayTell_79 rfl ?_
            refine go_iload_n dX7_mayTell_80 rfl ?_
            first | refine go_iadd_n dX7_mayTell_81 ?_ | refine go_iadd dX7_mayTell_81 rfl ?_
            refine go_iald dX7_mayTell_82 rfl (by decide) rfl (by omega) (by decide) rfl ?_
            refine go_if_ne 90 dX7_mayTell_83 (by decide) (fun h83 => ?_) (fun h83 => ?_)
            · have er : B = false := by
                rw [hB, e1]
                simp [e2, h58, z1, show ¬ m.1 52 (6 + 6 * n + p) = 0 from h83]
              refine go_iconst (nI 0) dX7_mayTell_90 (by decide +kernel) ?_
              exact go_zret dX7_mayTell_91 rfl (by first | exact Or.inl rfl | exact Or.inr rfl) (by rw [er]; rfl) rfl
            · have er : B = true := by
                rw [hB, e1]
                simp [e2, h58, z1, show m.1 52 (6 + 6 * n + p) = 0 from h83]
              refine go_iconst (nI 1) dX7_mayTell_86 (by decide +kernel) ?_
              refine go_goto 91 dX7_mayTell_87 (by decide) ?_
              exact go_zret dX7_mayTell_91 rfl (by first | exact Or.inl rfl | exact Or.inr rfl) (by rw [er]; rfl) rfl
        · have er : B = false := by
            rw [hB]
            simp [show ¬ m.1 52 n < m.1 49 n from h58]
          refine go_iconst (nI 0) dX7_mayTell_61 (by decide +kernel) ?_
          exact go_zret dX7_mayTell_62 rfl (by first | exact Or.inl rfl | exact Or.inr rfl) (by rw [er]; rfl) rfl
theorem c_halve_60 {O : gOm} {d : Nat} {m : gMem} {N : Nat} (hN : m.1 46 5 = nI N) (hN3 : N ≤ 3) : Ca O d kX7_halve [.ref 46, .ref 60] none m (gupA m 60 (hvP (m.1 60) N)) := by
  show Go O d kX7_halve none _ 0 [.ref 46, .ref 60] [] m
  refine go_aload_n dX7_halve_0 rfl ?_
  refine go_iconst (nI 5) dX7_halve_1 (by decide +kernel) ?_
  refine go_dup2 dX7_halve_2 rfl rfl ?_
  refine go_iald dX7_halve_3 rfl (by decide) rfl (by decide) (by decide) rfl ?_
  refine go_aload_n dX7_halve_4 rfl ?_
  refine go_geti dX7_halve_5 fX7_88 rfl (by decide) (by decide) (by decide) rfl hN ?_
  refine go_iconst (nI 3) dX7_halve_8 (by decide +kernel) ?_
  refine go_icmp_ne 22 dX7_halve_9 (by decide) (fun h9 => ?_) (fun h9 => ?_)
  · have hz : ¬ N = 3 := fun z => h9 (by rw [z])
    have ev : m.1 60 5 ||| nI 0 = m.1 60 5 ||| (if N = 3 then m.1 60 3 &&& m.1 60 4 else nI 0) := by rw [if_neg hz]
    refine go_iconst (nI 0) dX7_halve_22 (by decide +kernel) ?_
    refine go_ior dX7_halve_23 ev ?_
    refine go_iast dX7_halve_24 rfl (by decide) rfl (by decide) (by decide) ?_
    exact go_vret dX7_halve_25 rfl rfl (by rw [gup_asA]; rfl)
  · have hz : N = 3 := (nI_eq (by omega) (by omega)).mp h9
    have ev : m.1 60 5 ||| (m.1 60 3 &&& m.1 60 4) = m.1 60 5 ||| (if N = 3 then m.1 60 3 &&& m.1 60 4 else nI 0) := by rw [if_pos hz]
    refine go_aload_n dX7_halve_12 rfl ?_
    refine go_iconst (nI 3) dX7_halve_13 (by decide +kernel) ?_
    refine go_iald dX7_halve_14 rfl (by decide) rfl (by decide) (by decide) rfl ?_
    refine go_aload_n dX7_halve_15 rfl ?_
    refine go_iconst (nI 4) dX7_halve_16 (by decide +kernel) ?_
    refine go_iald dX7_halve_17 rfl (by decide) rfl (by decide) (by decide) rfl ?_
    refine go_iand dX7_halve_18 rfl ?_
    refine go_goto 23 dX7_halve_19 (by decide) ?_
    refine go_ior dX7_halve_23 ev ?_
    refine go_iast dX7_halve_24 rfl (by decide) rfl (by decide) (by decide) ?_
    exact go_vret dX7_halve_25 rfl rfl (by rw [gup_asA]; rfl)
theorem c_mayTell_60 {O : gOm} {d : Nat} {m : gMem} {P h p n kn lw : Nat} {av : Option Nat} (hP : m.1 46 4 = nI P) (hP6 : P ≤ 6) (hh : h < 6) (hp : p < P) (hn : n < 3) (hkn : m.1 60 (3 + n) = nI kn) (hk : kn < 64) (hav : m.1 48 (6 * p + h) = oI (-9) av) (ha3 : ∀ a, av = some a → a < 3) (hlw : m.1 46 6 = nI lw) (hl : lw < 3) : Ca O (d + 1) kX7_mayTell [.ref 46, .ref 60, .int (nI h), .int (nI p), .int (nI n)] (some (.int (bI (mT (kn.testBit p) (gOf (grp (m.1 48) P h) av) (m.1 60 n) (m.1 49 n) lw (m.1 60 (6 + 6 * n + p)) (plOf (m.1 60) n av))))) m m := by
  show Go O (d + 1) kX7_mayTell _ m 0 [.ref 46, .ref 60, .int (nI h), .int (nI p), .int (nI n), .null] [] m
  cases av with
  | none =>
    have er : bI (mT (kn.testBit p) (gOf (grp (m.1 48) P h) none) (m.1 60 n) (m.1 49 n) lw (m.1 60 (6 + 6 * n + p)) (plOf (m.1 60) n none)) = nI 0 := by
      have z : pc6 0 = 0 := by decide +kernel
      simp [mT, gOf, z, bI]
    refine go_aload_n dX7_mayTell_0 rfl ?_
    refine go_getc dX7_mayTell_1 fX7_13 rfl (by decide) (by decide) (by decide) rfl ?_
    refine go_bipush (nI 6) dX7_mayTell_4 (by decide +kernel) ?_
    refine go_iload_n dX7_mayTell_6 rfl ?_
    first | refine go_imul_n dX7_mayTell_7 ?_ | refine go_imul dX7_mayTell_7 rfl ?_
    refine go_iload_n dX7_mayTell_8 rfl ?_
    first | refine go_iadd_n dX7_mayTell_9 ?_ | refine go_iadd dX7_mayTell_9 rfl ?_
    refine go_iald dX7_mayTell_10 rfl (by decide) rfl (by omega) (by decide) hav ?_
    refine go_istore (L' := [_, _, _, _, _, _]) dX7_mayTell_11 (by decide) rfl ?_
    refine go_aload_n dX7_mayTell_13 rfl ?_
    refine go_iconst (nI 3) dX7_mayTell_14 (by decide +kernel) ?_
    refine go_iload dX7_mayTell_15 rfl ?_
    first | refine go_iadd_n dX7_mayTell_17 ?_ | refine go_iadd dX7_mayTell_17 rfl ?_
    refine go_iald dX7_mayTell_18 rfl (by decide) rfl (by omega) (by decide) hkn ?_
    refine go_iload_n dX7_mayTell_19 rfl ?_
    refine go_callS1 (K' := kX7_has) [_, _] dX7_mayTell_20 mX7_109 lX7_has rfl rfl (Nat.le_of_ble_eq_true rfl) (Nat.le_of_ble_eq_true rfl) (c_has (by omega) (by omega)) ?_
    refine go_if_eq 61 dX7_mayTell_23 (by decide) (fun h23 => ?_) (fun h23 => ?_)
    · refine go_iconst (nI 0) dX7_mayTell_61 (by decide +kernel) ?_
      exact go_zret dX7_mayTell_62 rfl (by first | exact Or.inl rfl | exact Or.inr rfl) (by rw [er]) rfl
    · refine go_iload dX7_mayTell_26 rfl ?_
      refine go_bipush (-9) dX7_mayTell_28 (by decide +kernel) ?_
      refine go_icmp_eq 61 dX7_mayTell_30 (by decide) (fun h30 => ?_) (fun h => absurd (rfl) h)
      refine go_iconst (nI 0) dX7_mayTell_61 (by decide +kernel) ?_
      exact go_zret dX7_mayTell_62 rfl (by first | exact Or.inl rfl | exact Or.inr rfl) (by rw [er]) rfl
  | some a =>
    have ha := ha3 a rfl
    replace hav : m.1 48 (6 * p + h) = nI a := hav
    have hg := grp_64 (m.1 48) h a hP6
    have hq := pc6_le (grp (m.1 48) P h a)
    generalize hB : mT (kn.testBit p) (gOf (grp (m.1 48) P h) (some a)) (m.1 60 n) (m.1 49 n) lw (m.1 60 (6 + 6 * n + p)) (plOf (m.1 60) n (some a)) = B
    have hB := hB.symm
    simp only [mT, gOf, plOf] at hB
    refine go_aload_n dX7_mayTell_0 rfl ?_
    refine go_getc dX7_mayTell_1 fX7_13 rfl (by decide) (by decide) (by decide) rfl ?_
    refine go_bipush (nI 6) dX7_mayTell_4 (by decide +kernel) ?_
    refine go_iload_n dX7_mayTell_6 rfl ?_
    first | refine go_imul_n dX7_mayTell_7 ?_ | refine go_imul dX7_mayTell_7 rfl ?_
    refine go_iload_n dX7_mayTell_8 rfl ?_
    first | refine go_iadd_n dX7_mayTell_9 ?_ | refine go_iadd dX7_mayTell_9 rfl ?_
    refine go_iald dX7_mayTell_10 rfl (by decide) rfl (by omega) (by decide) hav ?_
    refine go_istore (L' := [_, _, _, _, _, _]) dX7_mayTell_11 (by decide) rfl ?_
    refine go_aload_n dX7_mayTell_13 rfl ?_
    refine go_iconst (nI 3) dX7_mayTell_14 (by decide +kernel) ?_
    refine go_iload dX7_mayTell_15 rfl ?_
    first | refine go_iadd_n dX7_mayTell_17 ?_ | refine go_iadd dX7_mayTell_17 rfl ?_
    refine go_iald dX7_mayTell_18 rfl (by decide) rfl (by omega) (by decide) hkn ?_
    refine go_iload_n dX7_mayTell_19 rfl ?_
    refine go_callS1 (K' := kX7_has) [_, _] dX7_mayTell_20 mX7_109 lX7_has rfl rfl (Nat.le_of_ble_eq_true rfl) (Nat.le_of_ble_eq_true rfl) (c_has (by omega) (by omega)) ?_
    refine go_if_eq 61 dX7_mayTell_23 (by decide) (fun h23 => ?_) (fun h23 => ?_)
    · have er : B = false := by rw [hB, bI_0.mp h23]; rfl
      refine go_iconst (nI 0) dX7_mayTell_61 (by decide +kernel) ?_
      exact go_zret dX7_mayTell_62 rfl (by first | exact Or.inl rfl | exact Or.inr rfl) (by rw [er]; rfl) rfl
    · have e1 := bI_n0.mp h23
      refine go_iload dX7_mayTell_26 rfl ?_
      refine go_bipush (-9) dX7_mayTell_28 (by decide +kernel) ?_
      refine go_icmp_eq 61 dX7_mayTell_30 (by decide) (fun h => absurd h (nI_n9 (by omega))) (fun h30 => ?_)
      refine go_aload_n dX7_mayTell_33 rfl ?_
      refine go_iload dX7_mayTell_34 rfl ?_
      refine go_iload_n dX7_mayTell_36 rfl ?_
      refine go_callV1 (K' := kX7_those) [_, _] dX7_mayTell_37 mX7_158 lX7_those rfl (by decide) rfl (by decide) rfl rfl (Nat.le_of_ble_eq_true rfl) (Nat.le_of_ble_eq_true rfl) (c_grp hP hP6 hh) ?_
      refine go_callS1 (K' := kX7_many) [_] dX7_mayTell_40 mX7_143 lX7_many rfl rfl (Nat.le_of_ble_eq_true rfl) (Nat.le_of_ble_eq_true rfl) (c_many (by omega)) ?_
      refine go_iconst (nI 2) dX7_mayTell_43 (by decide +kernel) ?_
      refine go_icmp_lt 61 dX7_mayTell_44 (by decide) (fun h44 => ?_) (fun h44 => ?_)
      · have er : B = false := by
          have e2 : ¬ 1 < pc6 (grp (m.1 48) P h a) := by
            have := (nI_ltI (by omega) (by omega)).mp h44
            omega
          rw [hB]
          simp [e2]
        refine go_iconst (nI 0) dX7_mayTell_61 (by decide +kernel) ?_
        exact go_zret dX7_mayTell_62 rfl (by first | exact Or.inl rfl | exact Or.inr rfl) (by rw [er]; rfl) rfl
      · have e2 : 1 < pc6 (grp (m.1 48) P h a) := by
          rcases Nat.lt_or_ge 1 (pc6 (grp (m.1 48) P h a)) with z | z
          · exact z
          · exact absurd (nI_lt (by omega) (by omega)) h44
        refine go_aload_n dX7_mayTell_47 rfl ?_
        refine go_iload dX7_mayTell_48 rfl ?_
        refine go_iald dX7_mayTell_50 rfl (by decide) rfl (by omega) (by decide) rfl ?_
        refine go_aload_n dX7_mayTell_51 rfl ?_
        refine go_getc dX7_mayTell_52 fX7_16 rfl (by decide) (by decide) (by decide) rfl ?_
        refine go_iload dX7_mayTell_55 rfl ?_
        refine go_iald dX7_mayTell_57 rfl (by decide) rfl (by omega) (by decide) rfl ?_
        refine go_icmp_lt 63 dX7_mayTell_58 (by decide) (fun h58 => ?_) (fun h58 => ?_)
        · refine go_aload_n dX7_mayTell_63 rfl ?_
          refine go_geti dX7_mayTell_64 fX7_130 rfl (by decide) (by decide) (by decide) rfl hlw ?_
          refine go_iconst (nI 1) dX7_mayTell_67 (by decide +kernel) ?_
          refine go_icmp_ne 92 dX7_mayTell_68 (by decide) (fun h68 => ?_) (fun h68 => ?_)
          · have z1 : ¬ lw = 1 := fun z => h68 (by rw [z])
            refine go_aload_n dX7_mayTell_92 rfl ?_
            refine go_geti dX7_mayTell_93 fX7_130 rfl (by decide) (by decide) (by decide) rfl hlw ?_
            refine go_iconst (nI 2) dX7_mayTell_96 (by decide +kernel) ?_
            refine go_icmp_ne 116 dX7_mayTell_97 (by decide) (fun h97 => ?_) (fun h97 => ?_)
            · have z2 : ¬ lw = 2 := fun z => h97 (by rw [z])
              have er : B = true := by
                rw [hB, e1]
                simp [e2, h58, z1, z2]
              refine go_iconst (nI 1) dX7_mayTell_116 (by decide +kernel) ?_
              refine go_goto 121 dX7_mayTell_117 (by decide) ?_
              exact go_zret dX7_mayTell_121 rfl (by first | exact Or.inl rfl | exact Or.inr rfl) (by rw [er]; rfl) rfl
            · have z2 : lw = 2 := (nI_eq (by omega) (by omega)).mp h97
              refine go_aload_n dX7_mayTell_100 rfl ?_
              refine go_bipush (nI 42) dX7_mayTell_101 (by decide +kernel) ?_
              refine go_iconst (nI 3) dX7_mayTell_103 (by decide +kernel) ?_
              refine go_iload dX7_mayTell_104 rfl ?_
              first | refine go_imul_n dX7_mayTell_106 ?_ | refine go_imul dX7_mayTell_106 rfl ?_
              first | refine go_iadd_n dX7_mayTell_107 ?_ | refine go_iadd dX7_mayTell_107 rfl ?_
              refine go_iload dX7_mayTell_108 rfl ?_
              first | refine go_iadd_n dX7_mayTell_110 ?_ | refine go_iadd dX7_mayTell_110 rfl ?_
              refine go_iald dX7_mayTell_111 rfl (by decide) rfl (by omega) (by decide) rfl ?_
              refine go_iconst (nI 3) dX7_mayTell_112 (by decide +kernel) ?_
              refine go_icmp_ge 120 dX7_mayTell_113 (by decide) (fun h113 => ?_) (fun h113 => ?_)
              · have er : B = false := by
                  rw [hB, e1]
                  have z3 : ¬ m.1 60 (42 + 3 * n + a) < 3 := Int32.not_lt.mpr h113
                  simp [e2, h58, z1, z2, z3]
                refine go_iconst (nI 0) dX7_mayTell_120 (by decide +kernel) ?_
                exact go_zret dX7_mayTell_121 rfl (by first | exact Or.inl rfl | exact Or.inr rfl) (by rw [er]; rfl) rfl
              · have er : B = true := by
                  rw [hB, e1]
                  have z3 : m.1 60 (42 + 3 * n + a) < 3 := Int32.not_le.mp h113
                  simp [e2, h58, z1, z2, z3]
                refine go_iconst (nI 1) dX7_mayTell_116 (by decide +kernel) ?_
                refine go_goto 121 dX7_mayTell_117 (by decide) ?_
                exact go_zret dX7_mayTell_121 rfl (by first | exact Or.inl rfl | exact Or.inr rfl) (by rw [er]; rfl) rfl
          · have z1 : lw = 1 := (nI_eq (by omega) (by omega)).mp h68
            refine go_aload_n dX7_mayTell_71 rfl ?_
            refine go_bipush (nI 6) dX7_mayTell_72 (by decide +kernel) ?_
            refine go_bipush (nI 6) dX7_mayTell_74 (by decide +kernel) ?_
            refine go_iload dX7_mayTell_76 rfl ?_
            first | refine go_imul_n dX7_mayTell_78 ?_ | refine go_imul dX7_mayTell_78 rfl ?_
            first | refine go_iadd_n dX7_mayTell_79 ?_ | refine go_iadd dX7_mayTell_79 rfl ?_
            refine go_iload_n dX7_mayTell_80 rfl ?_
            first | refine go_iadd_n dX7_mayTell_81 ?_ | refine go_iadd dX7_mayTell_81 rfl ?_
            refine go_iald dX7_mayTell_82 rfl (by decide) rfl (by omega) (by decide) rfl ?_
            refine go_if_ne 90 dX7_mayTell_83 (by decide) (fun h83 => ?_) (fun h83 => ?_)
            · have er : B = false := by
                rw [hB, e1]
                simp [e2, h58, z1, show ¬ m.1 60 (6 + 6 * n + p) = 0 from h83]
              refine go_iconst (nI 0) dX7_mayTell_90 (by decide +kernel) ?_
              exact go_zret dX7_mayTell_91 rfl (by first | exact Or.inl rfl | exact Or.inr rfl) (by rw [er]; rfl) rfl
            · have er : B = true := by
                rw [hB, e1]
                simp [e2, h58, z1, show m.1 60 (6 + 6 * n + p) = 0 from h83]
              refine go_iconst (nI 1) dX7_mayTell_86 (by decide +kernel) ?_
              refine go_goto 91 dX7_mayTell_87 (by decide) ?_
              exact go_zret dX7_mayTell_91 rfl (by first | exact Or.inl rfl | exact Or.inr rfl) (by rw [er]; rfl) rfl
        · have er : B = false := by
            rw [hB]
            simp [show ¬ m.1 60 n < m.1 49 n from h58]
          refine go_iconst (nI 0) dX7_mayTell_61 (by decide +kernel) ?_
          exact go_zret dX7_mayTell_62 rfl (by first | exact Or.inl rfl | exact Or.inr rfl) (by rw [er]; rfl) rfl
end
section
theorem c_tellIt_52 {O : gOm} {d : Nat} {m : gMem} {P N h p n a : Nat} (hP : m.1 46 4 = nI P) (hP6 : P ≤ 6) (hN : m.1 46 5 = nI N) (hN3 : N ≤ 3) (hh : h < 6) (hp : p < P) (hn : n < 3) (hav : m.1 48 (6 * p + h) = nI a) (ha : a < 3) : Ca O (d + 1) kX7_tellIt [.ref 46, .ref 52, .int (nI h), .int (nI p), .int (nI n)] none m (gupA m 52 (tlP (m.1 52) n p a (grp (m.1 48) P h a) P N)) := by
  have hg := grp_64 (m.1 48) h a hP6
  have key : ∀ c q, q + c = P → Go O (d + 1) kX7_tellIt none (gupA m 52 (tlP (m.1 52) n p a (grp (m.1 48) P h a) P N)) 60 [.ref 46, .ref 52, .int (nI h), .int (nI p), .int (nI n), .int (nI a), .int (nI (grp (m.1 48) P h a)), .int (nI q)] [] (gupA m 52 (atA (tl3 (m.1 52) n p (grp (m.1 48) P h a)) n (grp (m.1 48) P h a) q)) := by
    intro c
    induction c with
    | zero =>
      intro q hq
      obtain rfl : q = P := by omega
      refine go_iload dX7_tellIt_60 rfl ?_
      refine go_aload_n dX7_tellIt_62 rfl ?_
      refine go_geti dX7_tellIt_63 fX7_81 rfl (by decide) (by decide) (by decide) rfl hP ?_
      refine go_icmp_ge 106 dX7_tellIt_66 (by decide) (fun h66 => ?_) (fun h => absurd (nI_le (by omega) (by omega)) h)
      refine go_aload_n dX7_tellIt_106 rfl ?_
      refine go_bipush (nI 42) dX7_tellIt_107 (by decide +kernel) ?_
      refine go_iconst (nI 3) dX7_tellIt_109 (by decide +kernel) ?_
      refine go_iload dX7_tellIt_110 rfl ?_
      first | refine go_imul_n dX7_tellIt_112 ?_ | refine go_imul dX7_tellIt_112 rfl ?_
      first | refine go_iadd_n dX7_tellIt_113 ?_ | refine go_iadd dX7_tellIt_113 rfl ?_
      refine go_iload dX7_tellIt_114 rfl ?_
      first | refine go_iadd_n dX7_tellIt_116 ?_ | refine go_iadd dX7_tellIt_116 rfl ?_
      refine go_dup2 dX7_tellIt_117 rfl rfl ?_
      refine go_ialdA dX7_tellIt_118 rfl (by decide) rfl (by omega) (by decide) rfl ?_
      refine go_iconst (nI 1) dX7_tellIt_119 (by decide +kernel) ?_
      refine go_iadd dX7_tellIt_120 rfl ?_
      refine go_iastA dX7_tellIt_121 rfl (by decide) rfl (by omega) (by decide) ?_
      refine go_aload_n dX7_tellIt_122 rfl ?_
      refine go_aload_n dX7_tellIt_123 rfl ?_
      refine go_callV0 (K' := kX7_halve) [_] dX7_tellIt_124 mX7_133 lX7_halve rfl (by decide) rfl (by decide) rfl rfl (Nat.le_of_ble_eq_true rfl) (Nat.le_of_ble_eq_true rfl) (c_halve_52 hN hN3) ?_
      exact go_vret dX7_tellIt_127 rfl rfl (by rw [gupA_gupA, gupA_s]; rfl)
    | succ c ih =>
      intro q hq
      refine go_iload dX7_tellIt_60 rfl ?_
      refine go_aload_n dX7_tellIt_62 rfl ?_
      refine go_geti dX7_tellIt_63 fX7_81 rfl (by decide) (by decide) (by decide) rfl hP ?_
      refine go_icmp_ge 106 dX7_tellIt_66 (by decide) (fun h => absurd h (nI_ge (by omega) (by omega))) (fun h66 => ?_)
      refine go_aload_n dX7_tellIt_69 rfl ?_
      refine go_bipush (nI 24) dX7_tellIt_70 (by decide +kernel) ?_
      refine go_bipush (nI 6) dX7_tellIt_72 (by decide +kernel) ?_
      refine go_iload dX7_tellIt_74 rfl ?_
      first | refine go_imul_n dX7_tellIt_76 ?_ | refine go_imul dX7_tellIt_76 rfl ?_
      first | refine go_iadd_n dX7_tellIt_77 ?_ | refine go_iadd dX7_tellIt_77 rfl ?_
      refine go_iload dX7_tellIt_78 rfl ?_
      first | refine go_iadd_n dX7_tellIt_80 ?_ | refine go_iadd dX7_tellIt_80 rfl ?_
      refine go_dup2 dX7_tellIt_81 rfl rfl ?_
      refine go_ialdA dX7_tellIt_82 rfl (by decide) rfl (by omega) (by decide) rfl ?_
      refine go_iload dX7_tellIt_83 rfl ?_
      refine go_iload dX7_tellIt_85 rfl ?_
      refine go_callS1 (K' := kX7_has) [_, _] dX7_tellIt_87 mX7_109 lX7_has rfl rfl (Nat.le_of_ble_eq_true rfl) (Nat.le_of_ble_eq_true rfl) (c_has (by omega) (by omega)) ?_
      refine go_if_eq 97 dX7_tellIt_90 (by decide) (fun h90 => ?_) (fun h90 => ?_)
      · have ev : atA (tl3 (m.1 52) n p (grp (m.1 48) P h a)) n (grp (m.1 48) P h a) q (24 + 6 * n + q) + nI 0 = atA (tl3 (m.1 52) n p (grp (m.1 48) P h a)) n (grp (m.1 48) P h a) q (24 + 6 * n + q) + nI (if (grp (m.1 48) P h a).testBit q then 1 else 0) := by rw [bI_0.mp h90]; rfl
        refine go_iconst (nI 0) dX7_tellIt_97 (by decide +kernel) ?_
        refine go_iadd dX7_tellIt_98 ev ?_
        refine go_iastA dX7_tellIt_99 rfl (by decide) rfl (by omega) (by decide) ?_
        refine go_iinc_n (L' := [_, _, _, _, _, _, _, _]) dX7_tellIt_100 rfl (by decide) rfl ?_
        refine go_goto 60 dX7_tellIt_103 (by decide) ?_
        exact ih (q + 1) (by omega)
      · have ev : atA (tl3 (m.1 52) n p (grp (m.1 48) P h a)) n (grp (m.1 48) P h a) q (24 + 6 * n + q) + nI 1 = atA (tl3 (m.1 52) n p (grp (m.1 48) P h a)) n (grp (m.1 48) P h a) q (24 + 6 * n + q) + nI (if (grp (m.1 48) P h a).testBit q then 1 else 0) := by rw [bI_n0.mp h90]; rfl
        refine go_iconst (nI 1) dX7_tellIt_93 (by decide +kernel) ?_
        refine go_goto 98 dX7_tellIt_94 (by decide) ?_
        refine go_iadd dX7_tellIt_98 ev ?_
        refine go_iastA dX7_tellIt_99 rfl (by decide) rfl (by omega) (by decide) ?_
        refine go_iinc_n (L' := [_, _, _, _, _, _, _, _]) dX7_tellIt_100 rfl (by decide) rfl ?_
        refine go_goto 60 dX7_tellIt_103 (by decide) ?_
        exact ih (q + 1) (by omega)
  show Go O (d + 1) kX7_tellIt none _ 0 [.ref 46, .ref 52, .int (nI h), .int (nI p), .int (nI n), .null, .null, .null] [] m
  refine go_aload_n dX7_tellIt_0 rfl ?_
  refine go_getc dX7_tellIt_1 fX7_13 rfl (by decide) (by decide) (by decide) rfl ?_
  refine go_bipush (nI 6) dX7_tellIt_4 (by decide +kernel) ?_
  refine go_iload_n dX7_tellIt_6 rfl ?_
  first | refine go_imul_n dX7_tellIt_7 ?_ | refine go_imul dX7_tellIt_7 rfl ?_
  refine go_iload_n dX7_tellIt_8 rfl ?_
  first | refine go_iadd_n dX7_tellIt_9 ?_ | refine go_iadd dX7_tellIt_9 rfl ?_
  refine go_iald dX7_tellIt_10 rfl (by decide) rfl (by omega) (by decide) hav ?_
  refine go_istore (L' := [_, _, _, _, _, _, _, _]) dX7_tellIt_11 (by decide) rfl ?_
  refine go_aload_n dX7_tellIt_13 rfl ?_
  refine go_iload dX7_tellIt_14 rfl ?_
  refine go_iload_n dX7_tellIt_16 rfl ?_
  refine go_callV1 (K' := kX7_those) [_, _] dX7_tellIt_17 mX7_158 lX7_those rfl (by decide) rfl (by decide) rfl rfl (Nat.le_of_ble_eq_true rfl) (Nat.le_of_ble_eq_true rfl) (c_grp hP hP6 hh) ?_
  refine go_istore (L' := [_, _, _, _, _, _, _, _]) dX7_tellIt_20 (by decide) rfl ?_
  refine go_mem (gupA_self m 52).symm ?_
  refine go_aload_n dX7_tellIt_22 rfl ?_
  refine go_iload dX7_tellIt_23 rfl ?_
  refine go_dup2 dX7_tellIt_25 rfl rfl ?_
  refine go_ialdA dX7_tellIt_26 rfl (by decide) rfl (by omega) (by decide) rfl ?_
  refine go_iconst (nI 1) dX7_tellIt_27 (by decide +kernel) ?_
  refine go_iadd dX7_tellIt_28 rfl ?_
  refine go_iastA dX7_tellIt_29 rfl (by decide) rfl (by omega) (by decide) ?_
  refine go_aload_n dX7_tellIt_30 rfl ?_
  refine go_iconst (nI 3) dX7_tellIt_31 (by decide +kernel) ?_
  refine go_iload dX7_tellIt_32 rfl ?_
  first | refine go_iadd_n dX7_tellIt_34 ?_ | refine go_iadd dX7_tellIt_34 rfl ?_
  refine go_dup2 dX7_tellIt_35 rfl rfl ?_
  refine go_ialdA dX7_tellIt_36 rfl (by decide) rfl (by omega) (by decide) rfl ?_
  refine go_iload dX7_tellIt_37 rfl ?_
  refine go_ior dX7_tellIt_39 rfl ?_
  refine go_iastA dX7_tellIt_40 rfl (by decide) rfl (by omega) (by decide) ?_
  refine go_aload_n dX7_tellIt_41 rfl ?_
  refine go_bipush (nI 6) dX7_tellIt_42 (by decide +kernel) ?_
  refine go_bipush (nI 6) dX7_tellIt_44 (by decide +kernel) ?_
  refine go_iload dX7_tellIt_46 rfl ?_
  first | refine go_imul_n dX7_tellIt_48 ?_ | refine go_imul dX7_tellIt_48 rfl ?_
  first | refine go_iadd_n dX7_tellIt_49 ?_ | refine go_iadd dX7_tellIt_49 rfl ?_
  refine go_iload_n dX7_tellIt_50 rfl ?_
  first | refine go_iadd_n dX7_tellIt_51 ?_ | refine go_iadd dX7_tellIt_51 rfl ?_
  refine go_dup2 dX7_tellIt_52 rfl rfl ?_
  refine go_ialdA dX7_tellIt_53 rfl (by decide) rfl (by omega) (by decide) rfl ?_
  refine go_iconst (nI 1) dX7_tellIt_54 (by decide +kernel) ?_
  refine go_iadd dX7_tellIt_55 rfl ?_
  refine go_iastA dX7_tellIt_56 rfl (by decide) rfl (by omega) (by decide) ?_
  refine go_iconst (nI 0) dX7_tellIt_57 (by decide +kernel) ?_
  refine go_istore (L' := [_, _, _, _, _, _, _, _]) dX7_tellIt_58 (by decide) rfl ?_
  exact key P 0 (by omega)
theorem c_tellIt_60 {O : gOm} {d : Nat} {m : gMem} {P N h p n a : Nat} (hP : m.1 46 4 = nI P) (hP6 : P ≤ 6) (hN : m.1 46 5 = nI N) (hN3 : N ≤ 3) (hh : h < 6) (hp : p < P) (hn : n < 3) (hav : m.1 48 (6 * p + h) = nI a) (ha : a < 3) : Ca O (d + 1) kX7_tellIt [.ref 46, .ref 60, .int (nI h), .int (nI p), .int (nI n)] none m (gupA m 60 (tlP (m.1 60) n p a (grp (m.1 48) P h a) P N)) := by
  have hg := grp_64 (m.1 48) h a hP6
  have key : ∀ c q, q + c = P → Go O (d + 1) kX7_tellIt none (gupA m 60 (tlP (m.1 60) n p a (grp (m.1 48) P h a) P N)) 60 [.ref 46, .ref 60, .int (nI h), .int (nI p), .int (nI n), .int (nI a), .int (nI (grp (m.1 48) P h a)), .int (nI q)] [] (gupA m 60 (atA (tl3 (m.1 60) n p (grp (m.1 48) P h a)) n (grp (m.1 48) P h a) q)) := by
    intro c
    induction c with
    | zero =>
      intro q hq
      obtain rfl : q = P := by omega
      refine go_iload dX7_tellIt_60 rfl ?_
      refine go_aload_n dX7_tellIt_62 rfl ?_
      refine go_geti dX7_tellIt_63 fX7_81 rfl (by decide) (by decide) (by decide) rfl hP ?_
      refine go_icmp_ge 106 dX7_tellIt_66 (by decide) (fun h66 => ?_) (fun h => absurd (nI_le (by omega) (by omega)) h)
      refine go_aload_n dX7_tellIt_106 rfl ?_
      refine go_bipush (nI 42) dX7_tellIt_107 (by decide +kernel) ?_
      refine go_iconst (nI 3) dX7_tellIt_109 (by decide +kernel) ?_
      refine go_iload dX7_tellIt_110 rfl ?_
      first | refine go_imul_n dX7_tellIt_112 ?_ | refine go_imul dX7_tellIt_112 rfl ?_
      first | refine go_iadd_n dX7_tellIt_113 ?_ | refine go_iadd dX7_tellIt_113 rfl ?_
      refine go_iload dX7_tellIt_114 rfl ?_
      first | refine go_iadd_n dX7_tellIt_116 ?_ | refine go_iadd dX7_tellIt_116 rfl ?_
      refine go_dup2 dX7_tellIt_117 rfl rfl ?_
      refine go_ialdA dX7_tellIt_118 rfl (by decide) rfl (by omega) (by decide) rfl ?_
      refine go_iconst (nI 1) dX7_tellIt_119 (by decide +kernel) ?_
      refine go_iadd dX7_tellIt_120 rfl ?_
      refine go_iastA dX7_tellIt_121 rfl (by decide) rfl (by omega) (by decide) ?_
      refine go_aload_n dX7_tellIt_122 rfl ?_
      refine go_aload_n dX7_tellIt_123 rfl ?_
      refine go_callV0 (K' := kX7_halve) [_] dX7_tellIt_124 mX7_133 lX7_halve rfl (by decide) rfl (by decide) rfl rfl (Nat.le_of_ble_eq_true rfl) (Nat.le_of_ble_eq_true rfl) (c_halve_60 hN hN3) ?_
      exact go_vret dX7_tellIt_127 rfl rfl (by rw [gupA_gupA, gupA_s]; rfl)
    | succ c ih =>
      intro q hq
      refine go_iload dX7_tellIt_60 rfl ?_
      refine go_aload_n dX7_tellIt_62 rfl ?_
      refine go_geti dX7_tellIt_63 fX7_81 rfl (by decide) (by decide) (by decide) rfl hP ?_
      refine go_icmp_ge 106 dX7_tellIt_66 (by decide) (fun h => absurd h (nI_ge (by omega) (by omega))) (fun h66 => ?_)
      refine go_aload_n dX7_tellIt_69 rfl ?_
      refine go_bipush (nI 24) dX7_tellIt_70 (by decide +kernel) ?_
      refine go_bipush (nI 6) dX7_tellIt_72 (by decide +kernel) ?_
      refine go_iload dX7_tellIt_74 rfl ?_
      first | refine go_imul_n dX7_tellIt_76 ?_ | refine go_imul dX7_tellIt_76 rfl ?_
      first | refine go_iadd_n dX7_tellIt_77 ?_ | refine go_iadd dX7_tellIt_77 rfl ?_
      refine go_iload dX7_tellIt_78 rfl ?_
      first | refine go_iadd_n dX7_tellIt_80 ?_ | refine go_iadd dX7_tellIt_80 rfl ?_
      refine go_dup2 dX7_tellIt_81 rfl rfl ?_
      refine go_ialdA dX7_tellIt_82 rfl (by decide) rfl (by omega) (by decide) rfl ?_
      refine go_iload dX7_tellIt_83 rfl ?_
      refine go_iload dX7_tellIt_85 rfl ?_
      refine go_callS1 (K' := kX7_has) [_, _] dX7_tellIt_87 mX7_109 lX7_has rfl rfl (Nat.le_of_ble_eq_true rfl) (Nat.le_of_ble_eq_true rfl) (c_has (by omega) (by omega)) ?_
      refine go_if_eq 97 dX7_tellIt_90 (by decide) (fun h90 => ?_) (fun h90 => ?_)
      · have ev : atA (tl3 (m.1 60) n p (grp (m.1 48) P h a)) n (grp (m.1 48) P h a) q (24 + 6 * n + q) + nI 0 = atA (tl3 (m.1 60) n p (grp (m.1 48) P h a)) n (grp (m.1 48) P h a) q (24 + 6 * n + q) + nI (if (grp (m.1 48) P h a).testBit q then 1 else 0) := by rw [bI_0.mp h90]; rfl
        refine go_iconst (nI 0) dX7_tellIt_97 (by decide +kernel) ?_
        refine go_iadd dX7_tellIt_98 ev ?_
        refine go_iastA dX7_tellIt_99 rfl (by decide) rfl (by omega) (by decide) ?_
        refine go_iinc_n (L' := [_, _, _, _, _, _, _, _]) dX7_tellIt_100 rfl (by decide) rfl ?_
        refine go_goto 60 dX7_tellIt_103 (by decide) ?_
        exact ih (q + 1) (by omega)
      · have ev : atA (tl3 (m.1 60) n p (grp (m.1 48) P h a)) n (grp (m.1 48) P h a) q (24 + 6 * n + q) + nI 1 = atA (tl3 (m.1 60) n p (grp (m.1 48) P h a)) n (grp (m.1 48) P h a) q (24 + 6 * n + q) + nI (if (grp (m.1 48) P h a).testBit q then 1 else 0) := by rw [bI_n0.mp h90]; rfl
        refine go_iconst (nI 1) dX7_tellIt_93 (by decide +kernel) ?_
        refine go_goto 98 dX7_tellIt_94 (by decide) ?_
        refine go_iadd dX7_tellIt_98 ev ?_
        refine go_iastA dX7_tellIt_99 rfl (by decide) rfl (by omega) (by decide) ?_
        refine go_iinc_n (L' := [_, _, _, _, _, _, _, _]) dX7_tellIt_100 rfl (by decide) rfl ?_
        refine go_goto 60 dX7_tellIt_103 (by decide) ?_
        exact ih (q + 1) (by omega)
  show Go O (d + 1) kX7_tellIt none _ 0 [.ref 46, .ref 60, .int (nI h), .int (nI p), .int (nI n), .null, .null, .null] [] m
  refine go_aload_n dX7_tellIt_0 rfl ?_
  refine go_getc dX7_tellIt_1 fX7_13 rfl (by decide) (by decide) (by decide) rfl ?_
  refine go_bipush (nI 6) dX7_tellIt_4 (by decide +kernel) ?_
  refine go_iload_n dX7_tellIt_6 rfl ?_
  first | refine go_imul_n dX7_tellIt_7 ?_ | refine go_imul dX7_tellIt_7 rfl ?_
  refine go_iload_n dX7_tellIt_8 rfl ?_
  first | refine go_iadd_n dX7_tellIt_9 ?_ | refine go_iadd dX7_tellIt_9 rfl ?_
  refine go_iald dX7_tellIt_10 rfl (by decide) rfl (by omega) (by decide) hav ?_
  refine go_istore (L' := [_, _, _, _, _, _, _, _]) dX7_tellIt_11 (by decide) rfl ?_
  refine go_aload_n dX7_tellIt_13 rfl ?_
  refine go_iload dX7_tellIt_14 rfl ?_
  refine go_iload_n dX7_tellIt_16 rfl ?_
  refine go_callV1 (K' := kX7_those) [_, _] dX7_tellIt_17 mX7_158 lX7_those rfl (by decide) rfl (by decide) rfl rfl (Nat.le_of_ble_eq_true rfl) (Nat.le_of_ble_eq_true rfl) (c_grp hP hP6 hh) ?_
  refine go_istore (L' := [_, _, _, _, _, _, _, _]) dX7_tellIt_20 (by decide) rfl ?_
  refine go_mem (gupA_self m 60).symm ?_
  refine go_aload_n dX7_tellIt_22 rfl ?_
  refine go_iload dX7_tellIt_23 rfl ?_
  refine go_dup2 dX7_tellIt_25 rfl rfl ?_
  refine go_ialdA dX7_tellIt_26 rfl (by decide) rfl (by omega) (by decide) rfl ?_
  refine go_iconst (nI 1) dX7_tellIt_27 (by decide +kernel) ?_
  refine go_iadd dX7_tellIt_28 rfl ?_
  refine go_iastA dX7_tellIt_29 rfl (by decide) rfl (by omega) (by decide) ?_
  refine go_aload_n dX7_tellIt_30 rfl ?_
  refine go_iconst (nI 3) dX7_tellIt_31 (by decide +kernel) ?_
  refine go_iload dX7_tellIt_32 rfl ?_
  first | refine go_iadd_n dX7_tellIt_34 ?_ | refine go_iadd dX7_tellIt_34 rfl ?_
  refine go_dup2 dX7_tellIt_35 rfl rfl ?_
  refine go_ialdA dX7_tellIt_36 rfl (by decide) rfl (by omega) (by decide) rfl ?_
  refine go_iload dX7_tellIt_37 rfl ?_
  refine go_ior dX7_tellIt_39 rfl ?_
  refine go_iastA dX7_tellIt_40 rfl (by decide) rfl (by omega) (by decide) ?_
  refine go_aload_n dX7_tellIt_41 rfl ?_
  refine go_bipush (nI 6) dX7_tellIt_42 (by decide +kernel) ?_
  refine go_bipush (nI 6) dX7_tellIt_44 (by decide +kernel) ?_
  refine go_iload dX7_tellIt_46 rfl ?_
  first | refine go_imul_n dX7_tellIt_48 ?_ | refine go_imul dX7_tellIt_48 rfl ?_
  first | refine go_iadd_n dX7_tellIt_49 ?_ | refine go_iadd dX7_tellIt_49 rfl ?_
  refine go_iload_n dX7_tellIt_50 rfl ?_
  first | refine go_iadd_n dX7_tellIt_51 ?_ | refine go_iadd dX7_tellIt_51 rfl ?_
  refine go_dup2 dX7_tellIt_52 rfl rfl ?_
  refine go_ialdA dX7_tellIt_53 rfl (by decide) rfl (by omega) (by decide) rfl ?_
  refine go_iconst (nI 1) dX7_tellIt_54 (by decide +kernel) ?_
  refine go_iadd dX7_tellIt_55 rfl ?_
  refine go_iastA dX7_tellIt_56 rfl (by decide) rfl (by omega) (by decide) ?_
  refine go_iconst (nI 0) dX7_tellIt_57 (by decide +kernel) ?_
  refine go_istore (L' := [_, _, _, _, _, _, _, _]) dX7_tellIt_58 (by decide) rfl ?_
  exact key P 0 (by omega)
/-- k values of the page's from place b on -/
def cpP (f w : Nat → Int32) (b : Nat) : Nat → Nat → Int32
  | 0 => f
  | k + 1 => upd (cpP f w b k) (b + k) (w k)
theorem cpP_at (f w : Nat → Int32) (b j : Nat) : ∀ k, cpP f w b k j = if b ≤ j ∧ j < b + k then w (j - b) else f j
  | 0 => by
    rw [if_neg (by omega)]
    rfl
  | k + 1 => by
    by_cases h : j = b + k
    · rw [if_pos (by omega), cpP, h, upd_s, show b + k - b = k by omega]
    · rw [cpP, upd_n _ _ h, cpP_at f w b j k]
      by_cases h2 : b ≤ j ∧ j < b + k
      · rw [if_pos h2, if_pos (by omega)]
      · rw [if_neg h2, if_neg (by omega)]
/-- a page with its hour, laid from place b on -/
def lyP (f w : Nat → Int32) (b : Nat) (hr : Int32) : Nat → Int32 := upd (cpP f w b 58) (b + 57) hr
theorem lyP_in (f w : Nat → Int32) (b : Nat) (hr : Int32) {j : Nat} (h : j < 57) : lyP f w b hr (b + j) = w j := by
  rw [lyP, upd_n _ _ (by omega), cpP_at, if_pos (by omega), show b + j - b = j by omega]
theorem lyP_hr (f w : Nat → Int32) (b : Nat) (hr : Int32) : lyP f w b hr (b + 57) = hr := upd_s _ _ _
theorem lyP_out (f w : Nat → Int32) (b : Nat) (hr : Int32) {j : Nat} (h : j < b ∨ b + 58 ≤ j) : lyP f w b hr j = f j := by
  rw [lyP, upd_n _ _ (by omega), cpP_at, if_neg (by omega)]
theorem c_layPage_57 {O : gOm} {d : Nat} {m : gMem} {b : Nat} (hb : b + 58 ≤ 928) : Ca O d kX7_layPage [.ref 46, .ref 57, .int (nI b)] none m (gupA m 57 (lyP (m.1 57) (m.1 52) b (m.1 46 11))) := by
  have key : ∀ c k, k + c = 58 → Go O d kX7_layPage none (gupA m 57 (lyP (m.1 57) (m.1 52) b (m.1 46 11))) 2 [.ref 46, .ref 57, .int (nI b), .int (nI k)] [] (gupA m 57 (cpP (m.1 57) (m.1 52) b k)) := by
    intro c
    induction c with
    | zero =>
      intro k hk
      obtain rfl : k = 58 := by omega
      refine go_iload_n dX7_layPage_2 rfl ?_
      refine go_bipush (nI 58) dX7_layPage_3 (by decide +kernel) ?_
      refine go_icmp_ge 25 dX7_layPage_5 (by decide) (fun h5 => ?_) (fun h => absurd (nI_le (by omega) (by omega)) h)
      refine go_aload_n dX7_layPage_25 rfl ?_
      refine go_iload_n dX7_layPage_26 rfl ?_
      refine go_bipush (nI 57) dX7_layPage_27 (by decide +kernel) ?_
      first | refine go_iadd_n dX7_layPage_29 ?_ | refine go_iadd dX7_layPage_29 rfl ?_
      refine go_aload_n dX7_layPage_30 rfl ?_
      refine go_geti dX7_layPage_31 fX7_137 rfl (by decide) (by decide) (by decide) rfl rfl ?_
      refine go_iastA dX7_layPage_34 rfl (by decide) rfl (by omega) (by decide) ?_
      exact go_vret dX7_layPage_35 rfl rfl rfl
    | succ c ih =>
      intro k hk
      refine go_iload_n dX7_layPage_2 rfl ?_
      refine go_bipush (nI 58) dX7_layPage_3 (by decide +kernel) ?_
      refine go_icmp_ge 25 dX7_layPage_5 (by decide) (fun h => absurd h (nI_ge (by omega) (by omega))) (fun h5 => ?_)
      refine go_aload_n dX7_layPage_8 rfl ?_
      refine go_iload_n dX7_layPage_9 rfl ?_
      refine go_iload_n dX7_layPage_10 rfl ?_
      first | refine go_iadd_n dX7_layPage_11 ?_ | refine go_iadd dX7_layPage_11 rfl ?_
      refine go_aload_n dX7_layPage_12 rfl ?_
      refine go_getc dX7_layPage_13 fX7_25 rfl (by decide) (by decide) (by decide) rfl ?_
      refine go_iload_n dX7_layPage_16 rfl ?_
      refine go_iald dX7_layPage_17 rfl (by decide) rfl (by omega) (by decide) rfl ?_
      refine go_iastA dX7_layPage_18 rfl (by decide) rfl (by omega) (by decide) ?_
      refine go_iinc_n (L' := [_, _, _, _]) dX7_layPage_19 rfl (by decide) rfl ?_
      refine go_goto 2 dX7_layPage_22 (by decide) ?_
      exact ih (k + 1) (by omega)
  show Go O d kX7_layPage none _ 0 [.ref 46, .ref 57, .int (nI b), .null] [] m
  refine go_mem (gupA_self m 57).symm ?_
  refine go_iconst (nI 0) dX7_layPage_0 (by decide +kernel) ?_
  refine go_istore_n (L' := [_, _, _, _]) dX7_layPage_1 (by decide) rfl ?_
  exact key 58 0 (by omega)
theorem c_takePage_57 {O : gOm} {d : Nat} {m : gMem} {b : Nat} (hb : b + 58 ≤ 928) : Ca O d kX7_takePage [.ref 46, .ref 57, .int (nI b)] none m (gup (gupA m 52 (cpP (m.1 52) (fun j => m.1 57 (b + j)) 0 58)) 46 11 (m.1 57 (b + 57))) := by
  have key : ∀ c k, k + c = 58 → Go O d kX7_takePage none (gup (gupA m 52 (cpP (m.1 52) (fun j => m.1 57 (b + j)) 0 58)) 46 11 (m.1 57 (b + 57))) 2 [.ref 46, .ref 57, .int (nI b), .int (nI k)] [] (gupA m 52 (cpP (m.1 52) (fun j => m.1 57 (b + j)) 0 k)) := by
    intro c
    induction c with
    | zero =>
      intro k hk
      obtain rfl : k = 58 := by omega
      refine go_iload_n dX7_takePage_2 rfl ?_
      refine go_bipush (nI 58) dX7_takePage_3 (by decide +kernel) ?_
      refine go_icmp_ge 25 dX7_takePage_5 (by decide) (fun h5 => ?_) (fun h => absurd (nI_le (by omega) (by omega)) h)
      refine go_aload_n dX7_takePage_25 rfl ?_
      refine go_aload_n dX7_takePage_26 rfl ?_
      refine go_iload_n dX7_takePage_27 rfl ?_
      refine go_bipush (nI 57) dX7_takePage_28 (by decide +kernel) ?_
      first | refine go_iadd_n dX7_takePage_30 ?_ | refine go_iadd dX7_takePage_30 rfl ?_
      refine go_iald dX7_takePage_31 rfl (by decide) rfl (by omega) (by decide) rfl ?_
      refine go_puti dX7_takePage_32 fX7_137 rfl (by decide) (by decide) (by decide) rfl (fun _ _ _ h => by cases h; rfl) (Or.inl rfl) ?_
      exact go_vret dX7_takePage_35 rfl rfl rfl
    | succ c ih =>
      intro k hk
      have ez : gupA m 52 (upd (cpP (m.1 52) (fun j => m.1 57 (b + j)) 0 k) k (m.1 57 (b + k))) = gupA m 52 (cpP (m.1 52) (fun j => m.1 57 (b + j)) 0 (k + 1)) := by
        rw [cpP, Nat.zero_add]
      refine go_iload_n dX7_takePage_2 rfl ?_
      refine go_bipush (nI 58) dX7_takePage_3 (by decide +kernel) ?_
      refine go_icmp_ge 25 dX7_takePage_5 (by decide) (fun h => absurd h (nI_ge (by omega) (by omega))) (fun h5 => ?_)
      refine go_aload_n dX7_takePage_8 rfl ?_
      refine go_getc dX7_takePage_9 fX7_25 rfl (by decide) (by decide) (by decide) rfl ?_
      refine go_iload_n dX7_takePage_12 rfl ?_
      refine go_aload_n dX7_takePage_13 rfl ?_
      refine go_iload_n dX7_takePage_14 rfl ?_
      refine go_iload_n dX7_takePage_15 rfl ?_
      first | refine go_iadd_n dX7_takePage_16 ?_ | refine go_iadd dX7_takePage_16 rfl ?_
      refine go_iald dX7_takePage_17 rfl (by decide) rfl (by omega) (by decide) rfl ?_
      refine go_iastA dX7_takePage_18 rfl (by decide) rfl (by omega) (by decide) ?_
      refine go_mem ez ?_
      refine go_iinc_n (L' := [_, _, _, _]) dX7_takePage_19 rfl (by decide) rfl ?_
      refine go_goto 2 dX7_takePage_22 (by decide) ?_
      exact ih (k + 1) (by omega)
  show Go O d kX7_takePage none _ 0 [.ref 46, .ref 57, .int (nI b), .null] [] m
  refine go_mem (gupA_self m 52).symm ?_
  refine go_iconst (nI 0) dX7_takePage_0 (by decide +kernel) ?_
  refine go_istore_n (L' := [_, _, _, _]) dX7_takePage_1 (by decide) rfl ?_
  exact key 58 0 (by omega)
theorem c_layPage_58 {O : gOm} {d : Nat} {m : gMem} {b : Nat} (hb : b + 58 ≤ 116) : Ca O d kX7_layPage [.ref 46, .ref 58, .int (nI b)] none m (gupA m 58 (lyP (m.1 58) (m.1 52) b (m.1 46 11))) := by
  have key : ∀ c k, k + c = 58 → Go O d kX7_layPage none (gupA m 58 (lyP (m.1 58) (m.1 52) b (m.1 46 11))) 2 [.ref 46, .ref 58, .int (nI b), .int (nI k)] [] (gupA m 58 (cpP (m.1 58) (m.1 52) b k)) := by
    intro c
    induction c with
    | zero =>
      intro k hk
      obtain rfl : k = 58 := by omega
      refine go_iload_n dX7_layPage_2 rfl ?_
      refine go_bipush (nI 58) dX7_layPage_3 (by decide +kernel) ?_
      refine go_icmp_ge 25 dX7_layPage_5 (by decide) (fun h5 => ?_) (fun h => absurd (nI_le (by omega) (by omega)) h)
      refine go_aload_n dX7_layPage_25 rfl ?_
      refine go_iload_n dX7_layPage_26 rfl ?_
      refine go_bipush (nI 57) dX7_layPage_27 (by decide +kernel) ?_
      first | refine go_iadd_n dX7_layPage_29 ?_ | refine go_iadd dX7_layPage_29 rfl ?_
      refine go_aload_n dX7_layPage_30 rfl ?_
      refine go_geti dX7_layPage_31 fX7_137 rfl (by decide) (by decide) (by decide) rfl rfl ?_
      refine go_iastA dX7_layPage_34 rfl (by decide) rfl (by omega) (by decide) ?_
      exact go_vret dX7_layPage_35 rfl rfl rfl
    | succ c ih =>
      intro k hk
      refine go_iload_n dX7_layPage_2 rfl ?_
      refine go_bipush (nI 58) dX7_layPage_3 (by decide +kernel) ?_
      refine go_icmp_ge 25 dX7_layPage_5 (by decide) (fun h => absurd h (nI_ge (by omega) (by omega))) (fun h5 => ?_)
      refine go_aload_n dX7_layPage_8 rfl ?_
      refine go_iload_n dX7_layPage_9 rfl ?_
      refine go_iload_n dX7_layPage_10 rfl ?_
      first | refine go_iadd_n dX7_layPage_11 ?_ | refine go_iadd dX7_layPage_11 rfl ?_
      refine go_aload_n dX7_layPage_12 rfl ?_
      refine go_getc dX7_layPage_13 fX7_25 rfl (by decide) (by decide) (by decide) rfl ?_
      refine go_iload_n dX7_layPage_16 rfl ?_
      refine go_iald dX7_layPage_17 rfl (by decide) rfl (by omega) (by decide) rfl ?_
      refine go_iastA dX7_layPage_18 rfl (by decide) rfl (by omega) (by decide) ?_
      refine go_iinc_n (L' := [_, _, _, _]) dX7_layPage_19 rfl (by decide) rfl ?_
      refine go_goto 2 dX7_layPage_22 (by decide) ?_
      exact ih (k + 1) (by omega)
  show Go O d kX7_layPage none _ 0 [.ref 46, .ref 58, .int (nI b), .null] [] m
  refine go_mem (gupA_self m 58).symm ?_
  refine go_iconst (nI 0) dX7_layPage_0 (by decide +kernel) ?_
  refine go_istore_n (L' := [_, _, _, _]) dX7_layPage_1 (by decide) rfl ?_
  exact key 58 0 (by omega)
theorem c_takePage_58 {O : gOm} {d : Nat} {m : gMem} {b : Nat} (hb : b + 58 ≤ 116) : Ca O d kX7_takePage [.ref 46, .ref 58, .int (nI b)] none m (gup (gupA m 52 (cpP (m.1 52) (fun j => m.1 58 (b + j)) 0 58)) 46 11 (m.1 58 (b + 57))) := by
  have key : ∀ c k, k + c = 58 → Go O d kX7_takePage none (gup (gupA m 52 (cpP (m.1 52) (fun j => m.1 58 (b + j)) 0 58)) 46 11 (m.1 58 (b + 57))) 2 [.ref 46, .ref 58, .int (nI b), .int (nI k)] [] (gupA m 52 (cpP (m.1 52) (fun j => m.1 58 (b + j)) 0 k)) := by
    intro c
    induction c with
    | zero =>
      intro k hk
      obtain rfl : k = 58 := by omega
      refine go_iload_n dX7_takePage_2 rfl ?_
      refine go_bipush (nI 58) dX7_takePage_3 (by decide +kernel) ?_
      refine go_icmp_ge 25 dX7_takePage_5 (by decide) (fun h5 => ?_) (fun h => absurd (nI_le (by omega) (by omega)) h)
      refine go_aload_n dX7_takePage_25 rfl ?_
      refine go_aload_n dX7_takePage_26 rfl ?_
      refine go_iload_n dX7_takePage_27 rfl ?_
      refine go_bipush (nI 57) dX7_takePage_28 (by decide +kernel) ?_
      first | refine go_iadd_n dX7_takePage_30 ?_ | refine go_iadd dX7_takePage_30 rfl ?_
      refine go_iald dX7_takePage_31 rfl (by decide) rfl (by omega) (by decide) rfl ?_
      refine go_puti dX7_takePage_32 fX7_137 rfl (by decide) (by decide) (by decide) rfl (fun _ _ _ h => by cases h; rfl) (Or.inl rfl) ?_
      exact go_vret dX7_takePage_35 rfl rfl rfl
    | succ c ih =>
      intro k hk
      have ez : gupA m 52 (upd (cpP (m.1 52) (fun j => m.1 58 (b + j)) 0 k) k (m.1 58 (b + k))) = gupA m 52 (cpP (m.1 52) (fun j => m.1 58 (b + j)) 0 (k + 1)) := by
        rw [cpP, Nat.zero_add]
      refine go_iload_n dX7_takePage_2 rfl ?_
      refine go_bipush (nI 58) dX7_takePage_3 (by decide +kernel) ?_
      refine go_icmp_ge 25 dX7_takePage_5 (by decide) (fun h => absurd h (nI_ge (by omega) (by omega))) (fun h5 => ?_)
      refine go_aload_n dX7_takePage_8 rfl ?_
      refine go_getc dX7_takePage_9 fX7_25 rfl (by decide) (by decide) (by decide) rfl ?_
      refine go_iload_n dX7_takePage_12 rfl ?_
      refine go_aload_n dX7_takePage_13 rfl ?_
      refine go_iload_n dX7_takePage_14 rfl ?_
      refine go_iload_n dX7_takePage_15 rfl ?_
      first | refine go_iadd_n dX7_takePage_16 ?_ | refine go_iadd dX7_takePage_16 rfl ?_
      refine go_iald dX7_takePage_17 rfl (by decide) rfl (by omega) (by decide) rfl ?_
      refine go_iastA dX7_takePage_18 rfl (by decide) rfl (by omega) (by decide) ?_
      refine go_mem ez ?_
      refine go_iinc_n (L' := [_, _, _, _]) dX7_takePage_19 rfl (by decide) rfl ?_
      refine go_goto 2 dX7_takePage_22 (by decide) ?_
      exact ih (k + 1) (by omega)
  show Go O d kX7_takePage none _ 0 [.ref 46, .ref 58, .int (nI b), .null] [] m
  refine go_mem (gupA_self m 52).symm ?_
  refine go_iconst (nI 0) dX7_takePage_0 (by decide +kernel) ?_
  refine go_istore_n (L' := [_, _, _, _]) dX7_takePage_1 (by decide) rfl ?_
  exact key 58 0 (by omega)
end
section
/-- Integer.bitCount, as its code has it -/
def bc1 (x : Int32) : Int32 := x - ((x.toUInt32 >>> ((nI 1).toUInt32 &&& Int32.toUInt32 31)).toInt32 &&& 1431655765)
def bc2 (x : Int32) : Int32 := (x &&& 858993459) + ((x.toUInt32 >>> ((nI 2).toUInt32 &&& Int32.toUInt32 31)).toInt32 &&& 858993459)
def bc3 (x : Int32) : Int32 := (x + (x.toUInt32 >>> ((nI 4).toUInt32 &&& Int32.toUInt32 31)).toInt32) &&& 252645135
def bc4 (x : Int32) : Int32 := x + (x.toUInt32 >>> ((nI 8).toUInt32 &&& Int32.toUInt32 31)).toInt32
def bc5 (x : Int32) : Int32 := (x + (x.toUInt32 >>> ((nI 16).toUInt32 &&& Int32.toUInt32 31)).toInt32) &&& nI 63
theorem bc_eq : ∀ n, n < 64 → bc5 (bc4 (bc3 (bc2 (bc1 (nI n))))) = nI (pc6 n) := by decide +kernel
theorem c_bitCount {O : gOm} {d : Nat} {m : gMem} {n : Nat} (hn : n < 64) : Ca O d kJ6_bitCount_0f7a4 [.int (nI n)] (some (.int (nI (pc6 n)))) m m := by
  show Go O d kJ6_bitCount_0f7a4 _ m 0 [.int (nI n)] [] m
  rw [← bc_eq n hn]
  refine go_iload_n dJ6_bitCount_0f7a4_0 rfl ?_
  refine go_iload_n dJ6_bitCount_0f7a4_1 rfl ?_
  refine go_iconst (nI 1) dJ6_bitCount_0f7a4_2 (by decide +kernel) ?_
  refine go_iushr dJ6_bitCount_0f7a4_3 rfl ?_
  refine go_ldcw kcJ6_265 dJ6_bitCount_0f7a4_4 ?_
  refine go_iand dJ6_bitCount_0f7a4_7 rfl ?_
  refine go_isub dJ6_bitCount_0f7a4_8 rfl ?_
  refine go_istore_n (L' := [_]) dJ6_bitCount_0f7a4_9 (by decide) rfl ?_
  show Go O d kJ6_bitCount_0f7a4 _ m 10 [.int (bc1 (nI n))] [] m
  generalize bc1 (nI n) = x1
  refine go_iload_n dJ6_bitCount_0f7a4_10 rfl ?_
  refine go_ldcw kcJ6_266 dJ6_bitCount_0f7a4_11 ?_
  refine go_iand dJ6_bitCount_0f7a4_14 rfl ?_
  refine go_iload_n dJ6_bitCount_0f7a4_15 rfl ?_
  refine go_iconst (nI 2) dJ6_bitCount_0f7a4_16 (by decide +kernel) ?_
  refine go_iushr dJ6_bitCount_0f7a4_17 rfl ?_
  refine go_ldcw kcJ6_266 dJ6_bitCount_0f7a4_18 ?_
  refine go_iand dJ6_bitCount_0f7a4_21 rfl ?_
  refine go_iadd dJ6_bitCount_0f7a4_22 rfl ?_
  refine go_istore_n (L' := [_]) dJ6_bitCount_0f7a4_23 (by decide) rfl ?_
  show Go O d kJ6_bitCount_0f7a4 _ m 24 [.int (bc2 x1)] [] m
  generalize bc2 x1 = x2
  refine go_iload_n dJ6_bitCount_0f7a4_24 rfl ?_
  refine go_iload_n dJ6_bitCount_0f7a4_25 rfl ?_
  refine go_iconst (nI 4) dJ6_bitCount_0f7a4_26 (by decide +kernel) ?_
  refine go_iushr dJ6_bitCount_0f7a4_27 rfl ?_
  refine go_iadd dJ6_bitCount_0f7a4_28 rfl ?_
  refine go_ldcw kcJ6_267 dJ6_bitCount_0f7a4_29 ?_
  refine go_iand dJ6_bitCount_0f7a4_32 rfl ?_
  refine go_istore_n (L' := [_]) dJ6_bitCount_0f7a4_33 (by decide) rfl ?_
  show Go O d kJ6_bitCount_0f7a4 _ m 34 [.int (bc3 x2)] [] m
  generalize bc3 x2 = x3
  refine go_iload_n dJ6_bitCount_0f7a4_34 rfl ?_
  refine go_iload_n dJ6_bitCount_0f7a4_35 rfl ?_
  refine go_bipush (nI 8) dJ6_bitCount_0f7a4_36 (by decide +kernel) ?_
  refine go_iushr dJ6_bitCount_0f7a4_38 rfl ?_
  refine go_iadd dJ6_bitCount_0f7a4_39 rfl ?_
  refine go_istore_n (L' := [_]) dJ6_bitCount_0f7a4_40 (by decide) rfl ?_
  show Go O d kJ6_bitCount_0f7a4 _ m 41 [.int (bc4 x3)] [] m
  generalize bc4 x3 = x4
  refine go_iload_n dJ6_bitCount_0f7a4_41 rfl ?_
  refine go_iload_n dJ6_bitCount_0f7a4_42 rfl ?_
  refine go_bipush (nI 16) dJ6_bitCount_0f7a4_43 (by decide +kernel) ?_
  refine go_iushr dJ6_bitCount_0f7a4_45 rfl ?_
  refine go_iadd dJ6_bitCount_0f7a4_46 rfl ?_
  refine go_istore_n (L' := [_]) dJ6_bitCount_0f7a4_47 (by decide) rfl ?_
  refine go_iload_n dJ6_bitCount_0f7a4_48 rfl ?_
  refine go_bipush (nI 63) dJ6_bitCount_0f7a4_49 (by decide +kernel) ?_
  refine go_iand dJ6_bitCount_0f7a4_51 rfl ?_
  exact go_iret dJ6_bitCount_0f7a4_52 rfl rfl rfl
def flP (f : Nat → Int32) (x : Int32) : Nat → Nat → Int32
  | 0 => f
  | i + 1 => upd (flP f x i) i x
theorem flP_at (f : Nat → Int32) (x : Int32) (j : Nat) : ∀ n, flP f x n j = if j < n then x else f j
  | 0 => by rw [if_neg (by omega)]; rfl
  | n + 1 => by
    by_cases h : j = n
    · rw [if_pos (by omega), flP, h, upd_s]
    · rw [flP, upd_n _ _ h, flP_at f x j n]
      by_cases h2 : j < n
      · rw [if_pos h2, if_pos (by omega)]
      · rw [if_neg h2, if_neg (by omega)]
theorem c_fill {O : gOm} {d : Nat} {m : gMem} {k n : Nat} {x : Int32} (hk : gK k = (8, n)) (hkn : k < gNC) (hn : n < 1000) : Ca O d kJ7_fill_53178 [.ref k, .int x] none m (gupA m k (flP (m.1 k) x n)) := by
  have key : ∀ c i, i + c = n → Go O d kJ7_fill_53178 none (gupA m k (flP (m.1 k) x n)) 5 [.ref k, .int x, .int (nI i), .int (nI n)] [] (gupA m k (flP (m.1 k) x i)) := by
    intro c
    induction c with
    | zero =>
      intro i hi
      obtain rfl : i = n := by omega
      refine go_iload_n dJ7_fill_53178_5 rfl ?_
      refine go_iload_n dJ7_fill_53178_6 rfl ?_
      refine go_icmp_ge 20 dJ7_fill_53178_7 (by decide) (fun h7 => ?_) (fun h => absurd (nI_le (by omega) (by omega)) h)
      exact go_vret dJ7_fill_53178_20 rfl rfl rfl
    | succ c ih =>
      intro i hi
      refine go_iload_n dJ7_fill_53178_5 rfl ?_
      refine go_iload_n dJ7_fill_53178_6 rfl ?_
      refine go_icmp_ge 20 dJ7_fill_53178_7 (by decide) (fun h => absurd h (nI_ge (by omega) (by omega))) (fun h7 => ?_)
      refine go_aload_n dJ7_fill_53178_10 rfl ?_
      refine go_iload_n dJ7_fill_53178_11 rfl ?_
      refine go_iload_n dJ7_fill_53178_12 rfl ?_
      refine go_iastA dJ7_fill_53178_13 hk hkn rfl (by omega) hn ?_
      refine go_iinc_n (L' := [_, _, _, _]) dJ7_fill_53178_14 rfl (by decide) rfl ?_
      refine go_goto 5 dJ7_fill_53178_17 (by decide) ?_
      exact ih (i + 1) (by omega)
  show Go O d kJ7_fill_53178 none _ 0 [.ref k, .int x, .null, .null] [] m
  refine go_mem (gupA_self m k).symm ?_
  refine go_iconst (nI 0) dJ7_fill_53178_0 (by decide +kernel) ?_
  refine go_istore_n (L' := [_, _, _, _]) dJ7_fill_53178_1 (by decide) rfl ?_
  refine go_aload_n dJ7_fill_53178_2 rfl ?_
  refine go_alen dJ7_fill_53178_3 hk hkn rfl ?_
  refine go_istore_n (L' := [_, _, _, _]) dJ7_fill_53178_4 (by decide) rfl ?_
  exact key n 0 (by omega)
theorem c_isCompany {O : gOm} {d : Nat} {m : gMem} {g : Nat} (hg : g < 64) : Ca O (d + 1) kX1_isCompany [.int (nI g)] (some (.int (bI (decide (1 < pc6 g))))) m m := by
  have hq := pc6_le g
  show Go O (d + 1) kX1_isCompany _ m 0 [.int (nI g)] [] m
  refine go_iload_n dX1_isCompany_0 rfl ?_
  refine go_callS1 (K' := kJ6_bitCount_0f7a4) [_] dX1_isCompany_1 mX1_43 lJ6_bitCount_0f7a4 rfl rfl (Nat.le_of_ble_eq_true rfl) (Nat.le_of_ble_eq_true rfl) (c_bitCount hg) ?_
  refine go_iconst (nI 1) dX1_isCompany_4 (by decide +kernel) ?_
  refine go_icmp_le 12 dX1_isCompany_5 (by decide) (fun h5 => ?_) (fun h5 => ?_)
  · have er : bI (decide (1 < pc6 g)) = nI 0 := by
      have := (nI_leI (by omega) (by omega)).mp h5
      rw [bI_F (by simp; omega)]
    refine go_iconst (nI 0) dX1_isCompany_12 (by decide +kernel) ?_
    exact go_zret dX1_isCompany_13 rfl (by first | exact Or.inl rfl | exact Or.inr rfl) (by rw [er]) rfl
  · have er : bI (decide (1 < pc6 g)) = nI 1 := by
      rcases Nat.lt_or_ge 1 (pc6 g) with z | z
      · rw [bI_T (by simp [z])]
      · exact absurd (nI_le z (by omega)) h5
    refine go_iconst (nI 1) dX1_isCompany_8 (by decide +kernel) ?_
    refine go_goto 13 dX1_isCompany_9 (by decide) ?_
    exact go_zret dX1_isCompany_13 rfl (by first | exact Or.inl rfl | exact Or.inr rfl) (by rw [er]) rfl
theorem c_placeOf_29 {O : gOm} {d : Nat} {m : gMem} {p h : Nat} {v : Int32} (hp : p < 6) (hh : h < 6) (hv : m.1 30 (p * 6 + h) = v) : Ca O d kX1_placeOf [.ref 29, .int (nI p), .int (nI h)] (some (.int v)) m m := by
  show Go O d kX1_placeOf _ m 0 [.ref 29, .int (nI p), .int (nI h)] [] m
  refine go_aload_n dX1_placeOf_0 rfl ?_
  refine go_getc dX1_placeOf_1 fX1_9 rfl (by decide) (by decide) (by decide) rfl ?_
  refine go_iload_n dX1_placeOf_4 rfl ?_
  refine go_bipush (nI 6) dX1_placeOf_5 (by decide +kernel) ?_
  first | refine go_imul_n dX1_placeOf_7 ?_ | refine go_imul dX1_placeOf_7 rfl ?_
  refine go_iload_n dX1_placeOf_8 rfl ?_
  first | refine go_iadd_n dX1_placeOf_9 ?_ | refine go_iadd dX1_placeOf_9 rfl ?_
  refine go_iald dX1_placeOf_10 rfl (by decide) rfl (by omega) (by decide) hv ?_
  exact go_iret dX1_placeOf_11 rfl rfl rfl
theorem c_group_29 {O : gOm} {d : Nat} {m : gMem} {h a : Nat} {v : Int32} (hh : h < 6) (ha : a < 3) (hv : m.1 31 (h * 3 + a) = v) : Ca O d kX1_group [.ref 29, .int (nI h), .int (nI a)] (some (.int v)) m m := by
  show Go O d kX1_group _ m 0 [.ref 29, .int (nI h), .int (nI a)] [] m
  refine go_iload_n dX1_group_0 rfl ?_
  refine go_if_lt 22 dX1_group_1 (by decide) (fun h => absurd h (nI_pos (by omega))) (fun h1 => ?_)
  refine go_iload_n dX1_group_4 rfl ?_
  refine go_iconst (nI 3) dX1_group_5 (by decide +kernel) ?_
  refine go_icmp_ge 22 dX1_group_6 (by decide) (fun h => absurd h (nI_ge (by omega) (by omega))) (fun h6 => ?_)
  refine go_aload_n dX1_group_9 rfl ?_
  refine go_getc dX1_group_10 fX1_15 rfl (by decide) (by decide) (by decide) rfl ?_
  refine go_iload_n dX1_group_13 rfl ?_
  refine go_iconst (nI 3) dX1_group_14 (by decide +kernel) ?_
  first | refine go_imul_n dX1_group_15 ?_ | refine go_imul dX1_group_15 rfl ?_
  refine go_iload_n dX1_group_16 rfl ?_
  first | refine go_iadd_n dX1_group_17 ?_ | refine go_iadd dX1_group_17 rfl ?_
  refine go_iald dX1_group_18 rfl (by decide) rfl (by omega) (by decide) hv ?_
  refine go_goto 23 dX1_group_19 (by decide) ?_
  exact go_iret dX1_group_23 rfl rfl rfl
theorem c_group9_29 {O : gOm} {d : Nat} {m : gMem} {h : Nat} : Ca O d kX1_group [.ref 29, .int (nI h), .int (-9)] (some (.int (nI 0))) m m := by
  show Go O d kX1_group _ m 0 [.ref 29, .int (nI h), .int (-9)] [] m
  refine go_iload_n dX1_group_0 rfl ?_
  refine go_if_lt 22 dX1_group_1 (by decide) (fun h1 => ?_) (fun h => absurd (by decide +kernel) h)
  refine go_iconst (nI 0) dX1_group_22 (by decide +kernel) ?_
  exact go_iret dX1_group_23 rfl rfl rfl
theorem c_placeOf_35 {O : gOm} {d : Nat} {m : gMem} {p h : Nat} {v : Int32} (hp : p < 6) (hh : h < 6) (hv : m.1 36 (p * 6 + h) = v) : Ca O d kX1_placeOf [.ref 35, .int (nI p), .int (nI h)] (some (.int v)) m m := by
  show Go O d kX1_placeOf _ m 0 [.ref 35, .int (nI p), .int (nI h)] [] m
  refine go_aload_n dX1_placeOf_0 rfl ?_
  refine go_getc dX1_placeOf_1 fX1_9 rfl (by decide) (by decide) (by decide) rfl ?_
  refine go_iload_n dX1_placeOf_4 rfl ?_
  refine go_bipush (nI 6) dX1_placeOf_5 (by decide +kernel) ?_
  first | refine go_imul_n dX1_placeOf_7 ?_ | refine go_imul dX1_placeOf_7 rfl ?_
  refine go_iload_n dX1_placeOf_8 rfl ?_
  first | refine go_iadd_n dX1_placeOf_9 ?_ | refine go_iadd dX1_placeOf_9 rfl ?_
  refine go_iald dX1_placeOf_10 rfl (by decide) rfl (by omega) (by decide) hv ?_
  exact go_iret dX1_placeOf_11 rfl rfl rfl
theorem c_group_35 {O : gOm} {d : Nat} {m : gMem} {h a : Nat} {v : Int32} (hh : h < 6) (ha : a < 3) (hv : m.1 37 (h * 3 + a) = v) : Ca O d kX1_group [.ref 35, .int (nI h), .int (nI a)] (some (.int v)) m m := by
  show Go O d kX1_group _ m 0 [.ref 35, .int (nI h), .int (nI a)] [] m
  refine go_iload_n dX1_group_0 rfl ?_
  refine go_if_lt 22 dX1_group_1 (by decide) (fun h => absurd h (nI_pos (by omega))) (fun h1 => ?_)
  refine go_iload_n dX1_group_4 rfl ?_
  refine go_iconst (nI 3) dX1_group_5 (by decide +kernel) ?_
  refine go_icmp_ge 22 dX1_group_6 (by decide) (fun h => absurd h (nI_ge (by omega) (by omega))) (fun h6 => ?_)
  refine go_aload_n dX1_group_9 rfl ?_
  refine go_getc dX1_group_10 fX1_15 rfl (by decide) (by decide) (by decide) rfl ?_
  refine go_iload_n dX1_group_13 rfl ?_
  refine go_iconst (nI 3) dX1_group_14 (by decide +kernel) ?_
  first | refine go_imul_n dX1_group_15 ?_ | refine go_imul dX1_group_15 rfl ?_
  refine go_iload_n dX1_group_16 rfl ?_
  first | refine go_iadd_n dX1_group_17 ?_ | refine go_iadd dX1_group_17 rfl ?_
  refine go_iald dX1_group_18 rfl (by decide) rfl (by omega) (by decide) hv ?_
  refine go_goto 23 dX1_group_19 (by decide) ?_
  exact go_iret dX1_group_23 rfl rfl rfl
theorem c_group9_35 {O : gOm} {d : Nat} {m : gMem} {h : Nat} : Ca O d kX1_group [.ref 35, .int (nI h), .int (-9)] (some (.int (nI 0))) m m := by
  show Go O d kX1_group _ m 0 [.ref 35, .int (nI h), .int (-9)] [] m
  refine go_iload_n dX1_group_0 rfl ?_
  refine go_if_lt 22 dX1_group_1 (by decide) (fun h1 => ?_) (fun h => absurd (by decide +kernel) h)
  refine go_iconst (nI 0) dX1_group_22 (by decide +kernel) ?_
  exact go_iret dX1_group_23 rfl rfl rfl
theorem c_knows_3 {O : gOm} {d : Nat} {m : gMem} {p n k : Nat} (hp : p < 6) (hn : n < 3) (hk : k < 64) (hv : m.1 4 n = nI k) : Ca O d kX5_knows [.ref 3, .int (nI p), .int (nI n)] (some (.int (bI (k.testBit p)))) m m := by
  have ev : nI k >>> (nI p &&& 31) &&& nI 1 = nI (if k.testBit p then 1 else 0) := by rw [nb_bit (by omega) (by omega), nb_tb]
  show Go O d kX5_knows _ m 0 [.ref 3, .int (nI p), .int (nI n)] [] m
  refine go_aload_n dX5_knows_0 rfl ?_
  refine go_getc dX5_knows_1 fX5_9 rfl (by decide) (by decide) (by decide) rfl ?_
  refine go_iload_n dX5_knows_4 rfl ?_
  refine go_iald dX5_knows_5 rfl (by decide) rfl (by omega) (by decide) hv ?_
  refine go_iload_n dX5_knows_6 rfl ?_
  refine go_ishr dX5_knows_7 rfl ?_
  refine go_iconst (nI 1) dX5_knows_8 (by decide +kernel) ?_
  refine go_iand dX5_knows_9 ev ?_
  refine go_if_eq 17 dX5_knows_10 (by decide) (fun h10 => ?_) (fun h10 => ?_)
  · have er : k.testBit p = false := by
      cases h : k.testBit p with
      | false => rfl
      | true => rw [h] at h10; exact absurd h10 (by decide +kernel)
    refine go_iconst (nI 0) dX5_knows_17 (by decide +kernel) ?_
    exact go_zret dX5_knows_18 rfl (by first | exact Or.inl rfl | exact Or.inr rfl) (by rw [er]; rfl) rfl
  · have er : k.testBit p = true := by
      cases h : k.testBit p with
      | true => rfl
      | false => rw [h] at h10; exact absurd rfl h10
    refine go_iconst (nI 1) dX5_knows_13 (by decide +kernel) ?_
    refine go_goto 18 dX5_knows_14 (by decide) ?_
    exact go_zret dX5_knows_18 rfl (by first | exact Or.inl rfl | exact Or.inr rfl) (by rw [er]; rfl) rfl
theorem c_tellingsOf_3 {O : gOm} {d : Nat} {m : gMem} {n : Nat} (hn : n < 3) : Ca O d kX5_tellingsOf [.ref 3, .int (nI n)] (some (.int (nI 0 + m.1 7 (n * 3 + 0) + m.1 7 (n * 3 + 1) + m.1 7 (n * 3 + 2)))) m m := by
  show Go O d kX5_tellingsOf _ m 0 [.ref 3, .int (nI n), .null, .null] [] m
  refine go_iconst (nI 0) dX5_tellingsOf_0 (by decide +kernel) ?_
  refine go_istore_n (L' := [_, _, _, _]) dX5_tellingsOf_1 (by decide) rfl ?_
  refine go_iconst (nI 0) dX5_tellingsOf_2 (by decide +kernel) ?_
  refine go_istore_n (L' := [_, _, _, _]) dX5_tellingsOf_3 (by decide) rfl ?_
  skip
  refine go_iload_n dX5_tellingsOf_4 rfl ?_
  refine go_iconst (nI 3) dX5_tellingsOf_5 (by decide +kernel) ?_
  refine go_icmp_ge 28 dX5_tellingsOf_6 (by decide) (fun h => absurd h (nI_ge (by decide) (by decide))) (fun h6 => ?_)
  refine go_iload_n dX5_tellingsOf_9 rfl ?_
  refine go_aload_n dX5_tellingsOf_10 rfl ?_
  refine go_getc dX5_tellingsOf_11 fX5_21 rfl (by decide) (by decide) (by decide) rfl ?_
  refine go_iload_n dX5_tellingsOf_14 rfl ?_
  refine go_iconst (nI 3) dX5_tellingsOf_15 (by decide +kernel) ?_
  first | refine go_imul_n dX5_tellingsOf_16 ?_ | refine go_imul dX5_tellingsOf_16 rfl ?_
  refine go_iload_n dX5_tellingsOf_17 rfl ?_
  first | refine go_iadd_n dX5_tellingsOf_18 ?_ | refine go_iadd dX5_tellingsOf_18 rfl ?_
  refine go_iald dX5_tellingsOf_19 rfl (by decide) rfl (by omega) (by decide) rfl ?_
  refine go_iadd dX5_tellingsOf_20 rfl ?_
  refine go_istore_n (L' := [_, _, _, _]) dX5_tellingsOf_21 (by decide) rfl ?_
  refine go_iinc_n (L' := [_, _, _, _]) dX5_tellingsOf_22 rfl (by decide) rfl ?_
  refine go_goto 4 dX5_tellingsOf_25 (by decide) ?_
  skip
  refine go_iload_n dX5_tellingsOf_4 rfl ?_
  refine go_iconst (nI 3) dX5_tellingsOf_5 (by decide +kernel) ?_
  refine go_icmp_ge 28 dX5_tellingsOf_6 (by decide) (fun h => absurd h (nI_ge (by decide) (by decide))) (fun h6 => ?_)
  refine go_iload_n dX5_tellingsOf_9 rfl ?_
  refine go_aload_n dX5_tellingsOf_10 rfl ?_
  refine go_getc dX5_tellingsOf_11 fX5_21 rfl (by decide) (by decide) (by decide) rfl ?_
  refine go_iload_n dX5_tellingsOf_14 rfl ?_
  refine go_iconst (nI 3) dX5_tellingsOf_15 (by decide +kernel) ?_
  first | refine go_imul_n dX5_tellingsOf_16 ?_ | refine go_imul dX5_tellingsOf_16 rfl ?_
  refine go_iload_n dX5_tellingsOf_17 rfl ?_
  first | refine go_iadd_n dX5_tellingsOf_18 ?_ | refine go_iadd dX5_tellingsOf_18 rfl ?_
  refine go_iald dX5_tellingsOf_19 rfl (by decide) rfl (by omega) (by decide) rfl ?_
  refine go_iadd dX5_tellingsOf_20 rfl ?_
  refine go_istore_n (L' := [_, _, _, _]) dX5_tellingsOf_21 (by decide) rfl ?_
  refine go_iinc_n (L' := [_, _, _, _]) dX5_tellingsOf_22 rfl (by decide) rfl ?_
  refine go_goto 4 dX5_tellingsOf_25 (by decide) ?_
  skip
  refine go_iload_n dX5_tellingsOf_4 rfl ?_
  refine go_iconst (nI 3) dX5_tellingsOf_5 (by decide +kernel) ?_
  refine go_icmp_ge 28 dX5_tellingsOf_6 (by decide) (fun h => absurd h (nI_ge (by decide) (by decide))) (fun h6 => ?_)
  refine go_iload_n dX5_tellingsOf_9 rfl ?_
  refine go_aload_n dX5_tellingsOf_10 rfl ?_
  refine go_getc dX5_tellingsOf_11 fX5_21 rfl (by decide) (by decide) (by decide) rfl ?_
  refine go_iload_n dX5_tellingsOf_14 rfl ?_
  refine go_iconst (nI 3) dX5_tellingsOf_15 (by decide +kernel) ?_
  first | refine go_imul_n dX5_tellingsOf_16 ?_ | refine go_imul dX5_tellingsOf_16 rfl ?_
  refine go_iload_n dX5_tellingsOf_17 rfl ?_
  first | refine go_iadd_n dX5_tellingsOf_18 ?_ | refine go_iadd dX5_tellingsOf_18 rfl ?_
  refine go_iald dX5_tellingsOf_19 rfl (by decide) rfl (by omega) (by decide) rfl ?_
  refine go_iadd dX5_tellingsOf_20 rfl ?_
  refine go_istore_n (L' := [_, _, _, _]) dX5_tellingsOf_21 (by decide) rfl ?_
  refine go_iinc_n (L' := [_, _, _, _]) dX5_tellingsOf_22 rfl (by decide) rfl ?_
  refine go_goto 4 dX5_tellingsOf_25 (by decide) ?_
  skip
  refine go_iload_n dX5_tellingsOf_4 rfl ?_
  refine go_iconst (nI 3) dX5_tellingsOf_5 (by decide +kernel) ?_
  refine go_icmp_ge 28 dX5_tellingsOf_6 (by decide) (fun h6 => ?_) (fun h => absurd (nI_le (by decide) (by decide)) h)
  refine go_iload_n dX5_tellingsOf_28 rfl ?_
  exact go_iret dX5_tellingsOf_29 rfl rfl rfl
theorem c_knows_8 {O : gOm} {d : Nat} {m : gMem} {p n k : Nat} (hp : p < 6) (hn : n < 3) (hk : k < 64) (hv : m.1 9 n = nI k) : Ca O d kX5_knows [.ref 8, .int (nI p), .int (nI n)] (some (.int (bI (k.testBit p)))) m m := by
  have ev : nI k >>> (nI p &&& 31) &&& nI 1 = nI (if k.testBit p then 1 else 0) := by rw [nb_bit (by omega) (by omega), nb_tb]
  show Go O d kX5_knows _ m 0 [.ref 8, .int (nI p), .int (nI n)] [] m
  refine go_aload_n dX5_knows_0 rfl ?_
  refine go_getc dX5_knows_1 fX5_9 rfl (by decide) (by decide) (by decide) rfl ?_
  refine go_iload_n dX5_knows_4 rfl ?_
  refine go_iald dX5_knows_5 rfl (by decide) rfl (by omega) (by decide) hv ?_
  refine go_iload_n dX5_knows_6 rfl ?_
  refine go_ishr dX5_knows_7 rfl ?_
  refine go_iconst (nI 1) dX5_knows_8 (by decide +kernel) ?_
  refine go_iand dX5_knows_9 ev ?_
  refine go_if_eq 17 dX5_knows_10 (by decide) (fun h10 => ?_) (fun h10 => ?_)
  · have er : k.testBit p = false := by
      cases h : k.testBit p with
      | false => rfl
      | true => rw [h] at h10; exact absurd h10 (by decide +kernel)
    refine go_iconst (nI 0) dX5_knows_17 (by decide +kernel) ?_
    exact go_zret dX5_knows_18 rfl (by first | exact Or.inl rfl | exact Or.inr rfl) (by rw [er]; rfl) rfl
  · have er : k.testBit p = true := by
      cases h : k.testBit p with
      | true => rfl
      | false => rw [h] at h10; exact absurd rfl h10
    refine go_iconst (nI 1) dX5_knows_13 (by decide +kernel) ?_
    refine go_goto 18 dX5_knows_14 (by decide) ?_
    exact go_zret dX5_knows_18 rfl (by first | exact Or.inl rfl | exact Or.inr rfl) (by rw [er]; rfl) rfl
theorem c_tellingsOf_8 {O : gOm} {d : Nat} {m : gMem} {n : Nat} (hn : n < 3) : Ca O d kX5_tellingsOf [.ref 8, .int (nI n)] (some (.int (nI 0 + m.1 12 (n * 3 + 0) + m.1 12 (n * 3 + 1) + m.1 12 (n * 3 + 2)))) m m := by
  show Go O d kX5_tellingsOf _ m 0 [.ref 8, .int (nI n), .null, .null] [] m
  refine go_iconst (nI 0) dX5_tellingsOf_0 (by decide +kernel) ?_
  refine go_istore_n (L' := [_, _, _, _]) dX5_tellingsOf_1 (by decide) rfl ?_
  refine go_iconst (nI 0) dX5_tellingsOf_2 (by decide +kernel) ?_
  refine go_istore_n (L' := [_, _, _, _]) dX5_tellingsOf_3 (by decide) rfl ?_
  skip
  refine go_iload_n dX5_tellingsOf_4 rfl ?_
  refine go_iconst (nI 3) dX5_tellingsOf_5 (by decide +kernel) ?_
  refine go_icmp_ge 28 dX5_tellingsOf_6 (by decide) (fun h => absurd h (nI_ge (by decide) (by decide))) (fun h6 => ?_)
  refine go_iload_n dX5_tellingsOf_9 rfl ?_
  refine go_aload_n dX5_tellingsOf_10 rfl ?_
  refine go_getc dX5_tellingsOf_11 fX5_21 rfl (by decide) (by decide) (by decide) rfl ?_
  refine go_iload_n dX5_tellingsOf_14 rfl ?_
  refine go_iconst (nI 3) dX5_tellingsOf_15 (by decide +kernel) ?_
  first | refine go_imul_n dX5_tellingsOf_16 ?_ | refine go_imul dX5_tellingsOf_16 rfl ?_
  refine go_iload_n dX5_tellingsOf_17 rfl ?_
  first | refine go_iadd_n dX5_tellingsOf_18 ?_ | refine go_iadd dX5_tellingsOf_18 rfl ?_
  refine go_iald dX5_tellingsOf_19 rfl (by decide) rfl (by omega) (by decide) rfl ?_
  refine go_iadd dX5_tellingsOf_20 rfl ?_
  refine go_istore_n (L' := [_, _, _, _]) dX5_tellingsOf_21 (by decide) rfl ?_
  refine go_iinc_n (L' := [_, _, _, _]) dX5_tellingsOf_22 rfl (by decide) rfl ?_
  refine go_goto 4 dX5_tellingsOf_25 (by decide) ?_
  skip
  refine go_iload_n dX5_tellingsOf_4 rfl ?_
  refine go_iconst (nI 3) dX5_tellingsOf_5 (by decide +kernel) ?_
  refine go_icmp_ge 28 dX5_tellingsOf_6 (by decide) (fun h => absurd h (nI_ge (by decide) (by decide))) (fun h6 => ?_)
  refine go_iload_n dX5_tellingsOf_9 rfl ?_
  refine go_aload_n dX5_tellingsOf_10 rfl ?_
  refine go_getc dX5_tellingsOf_11 fX5_21 rfl (by decide) (by decide) (by decide) rfl ?_
  refine go_iload_n dX5_tellingsOf_14 rfl ?_
  refine go_iconst (nI 3) dX5_tellingsOf_15 (by decide +kernel) ?_
  first | refine go_imul_n dX5_tellingsOf_16 ?_ | refine go_imul dX5_tellingsOf_16 rfl ?_
  refine go_iload_n dX5_tellingsOf_17 rfl ?_
  first | refine go_iadd_n dX5_tellingsOf_18 ?_ | refine go_iadd dX5_tellingsOf_18 rfl ?_
  refine go_iald dX5_tellingsOf_19 rfl (by decide) rfl (by omega) (by decide) rfl ?_
  refine go_iadd dX5_tellingsOf_20 rfl ?_
  refine go_istore_n (L' := [_, _, _, _]) dX5_tellingsOf_21 (by decide) rfl ?_
  refine go_iinc_n (L' := [_, _, _, _]) dX5_tellingsOf_22 rfl (by decide) rfl ?_
  refine go_goto 4 dX5_tellingsOf_25 (by decide) ?_
  skip
  refine go_iload_n dX5_tellingsOf_4 rfl ?_
  refine go_iconst (nI 3) dX5_tellingsOf_5 (by decide +kernel) ?_
  refine go_icmp_ge 28 dX5_tellingsOf_6 (by decide) (fun h => absurd h (nI_ge (by decide) (by decide))) (fun h6 => ?_)
  refine go_iload_n dX5_tellingsOf_9 rfl ?_
  refine go_aload_n dX5_tellingsOf_10 rfl ?_
  refine go_getc dX5_tellingsOf_11 fX5_21 rfl (by decide) (by decide) (by decide) rfl ?_
  refine go_iload_n dX5_tellingsOf_14 rfl ?_
  refine go_iconst (nI 3) dX5_tellingsOf_15 (by decide +kernel) ?_
  first | refine go_imul_n dX5_tellingsOf_16 ?_ | refine go_imul dX5_tellingsOf_16 rfl ?_
  refine go_iload_n dX5_tellingsOf_17 rfl ?_
  first | refine go_iadd_n dX5_tellingsOf_18 ?_ | refine go_iadd dX5_tellingsOf_18 rfl ?_
  refine go_iald dX5_tellingsOf_19 rfl (by decide) rfl (by omega) (by decide) rfl ?_
  refine go_iadd dX5_tellingsOf_20 rfl ?_
  refine go_istore_n (L' := [_, _, _, _]) dX5_tellingsOf_21 (by decide) rfl ?_
  refine go_iinc_n (L' := [_, _, _, _]) dX5_tellingsOf_22 rfl (by decide) rfl ?_
  refine go_goto 4 dX5_tellingsOf_25 (by decide) ?_
  skip
  refine go_iload_n dX5_tellingsOf_4 rfl ?_
  refine go_iconst (nI 3) dX5_tellingsOf_5 (by decide +kernel) ?_
  refine go_icmp_ge 28 dX5_tellingsOf_6 (by decide) (fun h6 => ?_) (fun h => absurd (nI_le (by decide) (by decide)) h)
  refine go_iload_n dX5_tellingsOf_28 rfl ?_
  exact go_iret dX5_tellingsOf_29 rfl rfl rfl
end
section
theorem pc6_0 : pc6 0 = 0 := by decide +kernel
theorem mT_0 (kp : Bool) (told lim : Int32) (lw : Nat) (tl pl : Int32) : mT kp 0 told lim lw tl pl = false := by simp [mT, pc6_0]
theorem mT_k (g : Nat) (told lim : Int32) (lw : Nat) (tl pl : Int32) : mT false g told lim lw tl pl = false := by simp [mT]
theorem mT_g {g : Nat} (kp : Bool) (told lim : Int32) (lw : Nat) (tl pl : Int32) (h : ¬ 1 < pc6 g) : mT kp g told lim lw tl pl = false := by simp [mT, h]
theorem mT_l {told lim : Int32} (kp : Bool) (g : Nat) (lw : Nat) (tl pl : Int32) (h : ¬ told < lim) : mT kp g told lim lw tl pl = false := by simp [mT, h]
theorem mT_v {g : Nat} {told lim : Int32} (lw : Nat) (tl pl : Int32) (h1 : 1 < pc6 g) (h2 : told < lim) : mT true g told lim lw tl pl = (if lw = 1 then decide (tl = 0) else if lw = 2 then decide (pl < 3) else true) := by simp [mT, h1, h2]
/-- counts of a telling, or of one taken back -/
def atX (f : Nat → Int32) (n G : Nat) (st : Int32) : Nat → Nat → Int32
  | 0 => f
  | q + 1 => upd (atX f n G st q) (q * 3 + n) (atX f n G st q (q * 3 + n) + nI (G / 2 ^ q % 2) * st)
def ctA (m : gMem) (s p n : Nat) (st : Int32) : gMem := gupA m (s + 2) (upd (m.1 (s + 2)) (p * 3 + n) (m.1 (s + 2) (p * 3 + n) + st))
def ctB (m : gMem) (s p n a : Nat) (st : Int32) : gMem := gupA (ctA m s p n st) (s + 4) (upd (m.1 (s + 4)) (n * 3 + a) (m.1 (s + 4) (n * 3 + a) + st))
def ctM (m : gMem) (s p n a G P : Nat) (st : Int32) : gMem := gupA (ctB m s p n a st) (s + 3) (atX (m.1 (s + 3)) n G st P)
def jhP (f : Nat → Int32) (N : Nat) : Nat → Int32 := if N = 3 then upd f 2 (f 2 ||| (f 0 &&& f 1)) else f
theorem nk_eq : ∀ a, a < 64 → ∀ b, b < 64 → nI a &&& (nI b ^^^ (-1)) = nI (a &&& (b ^^^ 63)) := by decide +kernel
theorem c_allows_3_29 {O : gOm} {d : Nat} {m : gMem} {P h p n k G lw : Nat} {av : Option Nat} {told lim tl pl : Int32} (hh : m.1 3 4 = nI h) (h6 : h < 6) (hp : p < 6) (hn : n < 3) (hk : k < 64) (hkn : m.1 4 n = nI k) (hpl : m.1 30 (p * 6 + h) = oI (-9) av) (ha3 : ∀ a, av = some a → a < 3 ∧ m.1 31 (h * 3 + a) = nI G ∧ m.1 7 (n * 3 + a) = pl) (hG0 : av = none → G = 0) (hG : G < 64) (htd : nI 0 + m.1 7 (n * 3 + 0) + m.1 7 (n * 3 + 1) + m.1 7 (n * 3 + 2) = told) (hlm : m.1 32 n = lim) (htl : m.1 5 (p * 3 + n) = tl) (hlw : m.1 29 7 = nI lw) (hl3 : lw < 3) : Ca O (d + 2) kX5_allows [.ref 3, .ref 29, .int (nI p), .int (nI n)] (some (.int (bI (mT (k.testBit p) G told lim lw tl pl)))) m m := by
  have hq := pc6_le G
  show Go O (d + 2) kX5_allows _ m 0 [.ref 3, .ref 29, .int (nI p), .int (nI n), .null] [] m
  cases av with
  | none =>
    obtain rfl := hG0 rfl
    refine go_aload_n dX5_allows_0 rfl ?_
    refine go_iload_n dX5_allows_1 rfl ?_
    refine go_aload_n dX5_allows_2 rfl ?_
    refine go_geti dX5_allows_3 fX5_41 rfl (by decide) (by decide) (by decide) rfl hh ?_
    refine go_callV1 (K' := kX1_placeOf) [_, _] dX5_allows_6 mX5_45 lX1_placeOf rfl (by decide) rfl (by decide) rfl rfl (Nat.le_of_ble_eq_true rfl) (Nat.le_of_ble_eq_true rfl) (c_placeOf_29 hp h6 hpl) ?_
    refine go_istore (L' := [_, _, _, _, _]) dX5_allows_9 (by decide) rfl ?_
    refine go_aload_n dX5_allows_11 rfl ?_
    refine go_iload_n dX5_allows_12 rfl ?_
    refine go_iload_n dX5_allows_13 rfl ?_
    refine go_callV1 (K' := kX5_knows) [_, _] dX5_allows_14 mX5_49 lX5_knows rfl (by decide) rfl (by decide) rfl rfl (Nat.le_of_ble_eq_true rfl) (Nat.le_of_ble_eq_true rfl) (c_knows_3 hp hn hk hkn) ?_
    refine go_if_eq 36 dX5_allows_17 (by decide) (fun h17 => ?_) (fun h17 => ?_)
    · refine go_iconst (nI 0) dX5_allows_36 (by decide +kernel) ?_
      exact go_zret dX5_allows_37 rfl (by first | exact Or.inl rfl | exact Or.inr rfl) (by rw [mT_0]; rfl) rfl
    · refine go_aload_n dX5_allows_20 rfl ?_
      refine go_aload_n dX5_allows_21 rfl ?_
      refine go_geti dX5_allows_22 fX5_41 rfl (by decide) (by decide) (by decide) rfl hh ?_
      refine go_iload dX5_allows_25 rfl ?_
      refine go_callV1 (K' := kX1_group) [_, _] dX5_allows_27 mX5_53 lX1_group rfl (by decide) rfl (by decide) rfl rfl (Nat.le_of_ble_eq_true rfl) (Nat.le_of_ble_eq_true rfl) (c_group9_29) ?_
      refine go_callS1 (K' := kX1_isCompany) [_] dX5_allows_30 mX5_56 lX1_isCompany rfl rfl (Nat.le_of_ble_eq_true rfl) (Nat.le_of_ble_eq_true rfl) (c_isCompany (by omega)) ?_
      refine go_if_ne 38 dX5_allows_33 (by decide) (fun h => absurd h (fun z => z (by decide +kernel))) (fun h33 => ?_)
      refine go_iconst (nI 0) dX5_allows_36 (by decide +kernel) ?_
      exact go_zret dX5_allows_37 rfl (by first | exact Or.inl rfl | exact Or.inr rfl) (by rw [mT_0]; rfl) rfl
  | some a =>
    obtain ⟨ha, hg, hpa⟩ := ha3 a rfl
    replace hpl : m.1 30 (p * 6 + h) = nI a := hpl
    generalize hB : mT (k.testBit p) G told lim lw tl pl = B
    refine go_aload_n dX5_allows_0 rfl ?_
    refine go_iload_n dX5_allows_1 rfl ?_
    refine go_aload_n dX5_allows_2 rfl ?_
    refine go_geti dX5_allows_3 fX5_41 rfl (by decide) (by decide) (by decide) rfl hh ?_
    refine go_callV1 (K' := kX1_placeOf) [_, _] dX5_allows_6 mX5_45 lX1_placeOf rfl (by decide) rfl (by decide) rfl rfl (Nat.le_of_ble_eq_true rfl) (Nat.le_of_ble_eq_true rfl) (c_placeOf_29 hp h6 hpl) ?_
    refine go_istore (L' := [_, _, _, _, _]) dX5_allows_9 (by decide) rfl ?_
    refine go_aload_n dX5_allows_11 rfl ?_
    refine go_iload_n dX5_allows_12 rfl ?_
    refine go_iload_n dX5_allows_13 rfl ?_
    refine go_callV1 (K' := kX5_knows) [_, _] dX5_allows_14 mX5_49 lX5_knows rfl (by decide) rfl (by decide) rfl rfl (Nat.le_of_ble_eq_true rfl) (Nat.le_of_ble_eq_true rfl) (c_knows_3 hp hn hk hkn) ?_
    refine go_if_eq 36 dX5_allows_17 (by decide) (fun h17 => ?_) (fun h17 => ?_)
    · have er : B = false := by rw [← hB, bI_0.mp h17, mT_k]
      refine go_iconst (nI 0) dX5_allows_36 (by decide +kernel) ?_
      exact go_zret dX5_allows_37 rfl (by first | exact Or.inl rfl | exact Or.inr rfl) (by rw [er]; rfl) rfl
    · have e1 := bI_n0.mp h17
      refine go_aload_n dX5_allows_20 rfl ?_
      refine go_aload_n dX5_allows_21 rfl ?_
      refine go_geti dX5_allows_22 fX5_41 rfl (by decide) (by decide) (by decide) rfl hh ?_
      refine go_iload dX5_allows_25 rfl ?_
      refine go_callV1 (K' := kX1_group) [_, _] dX5_allows_27 mX5_53 lX1_group rfl (by decide) rfl (by decide) rfl rfl (Nat.le_of_ble_eq_true rfl) (Nat.le_of_ble_eq_true rfl) (c_group_29 h6 ha hg) ?_
      refine go_callS1 (K' := kX1_isCompany) [_] dX5_allows_30 mX5_56 lX1_isCompany rfl rfl (Nat.le_of_ble_eq_true rfl) (Nat.le_of_ble_eq_true rfl) (c_isCompany hG) ?_
      refine go_if_ne 38 dX5_allows_33 (by decide) (fun h33 => ?_) (fun h33 => ?_)
      · have e2 : 1 < pc6 G := by simpa using bI_n0.mp h33
        refine go_aload_n dX5_allows_38 rfl ?_
        refine go_iload_n dX5_allows_39 rfl ?_
        refine go_callV1 (K' := kX5_tellingsOf) [_] dX5_allows_40 mX5_60 lX5_tellingsOf rfl (by decide) rfl (by decide) rfl rfl (Nat.le_of_ble_eq_true rfl) (Nat.le_of_ble_eq_true rfl) (c_tellingsOf_3 hn) ?_
        refine go_aload_n dX5_allows_43 rfl ?_
        refine go_getc dX5_allows_44 fX5_64 rfl (by decide) (by decide) (by decide) rfl ?_
        refine go_iload_n dX5_allows_47 rfl ?_
        refine go_iald dX5_allows_48 rfl (by decide) rfl (by omega) (by decide) hlm ?_
        refine go_icmp_lt 54 dX5_allows_49 (by decide) (fun h49 => ?_) (fun h49 => ?_)
        · rw [htd] at h49
          rw [e1, mT_v lw tl pl e2 h49] at hB
          refine go_aload_n dX5_allows_54 rfl ?_
          refine go_geti dX5_allows_55 fX5_67 rfl (by decide) (by decide) (by decide) rfl hlw ?_
          match lw, hl3, hlw, hB with
          | 0, _, _, hB =>
            have er : B = true := by rw [← hB]; rfl
            refine go_lookup 129 dX5_allows_58 (by decide +kernel) (off := 71) (by decide +kernel) (by decide) ?_
            refine go_iconst (nI 1) dX5_allows_129 (by decide +kernel) ?_
            exact go_zret dX5_allows_130 rfl (by first | exact Or.inl rfl | exact Or.inr rfl) (by rw [er]; rfl) rfl
          | 1, _, _, hB =>
            refine go_lookup 84 dX5_allows_58 (by decide +kernel) (off := 26) (by decide +kernel) (by decide) ?_
            refine go_aload_n dX5_allows_84 rfl ?_
            refine go_getc dX5_allows_85 fX5_15 rfl (by decide) (by decide) (by decide) rfl ?_
            refine go_iload_n dX5_allows_88 rfl ?_
            refine go_iconst (nI 3) dX5_allows_89 (by decide +kernel) ?_
            first | refine go_imul_n dX5_allows_90 ?_ | refine go_imul dX5_allows_90 rfl ?_
            refine go_iload_n dX5_allows_91 rfl ?_
            first | refine go_iadd_n dX5_allows_92 ?_ | refine go_iadd dX5_allows_92 rfl ?_
            refine go_iald dX5_allows_93 rfl (by decide) rfl (by omega) (by decide) htl ?_
            refine go_if_ne 101 dX5_allows_94 (by decide) (fun h94 => ?_) (fun h94 => ?_)
            · have er : B = false := by rw [← hB]; simp [show ¬ tl = 0 from h94]
              refine go_iconst (nI 0) dX5_allows_101 (by decide +kernel) ?_
              exact go_zret dX5_allows_102 rfl (by first | exact Or.inl rfl | exact Or.inr rfl) (by rw [er]; rfl) rfl
            · have er : B = true := by rw [← hB]; simp [show tl = 0 from h94]
              refine go_iconst (nI 1) dX5_allows_97 (by decide +kernel) ?_
              refine go_goto 102 dX5_allows_98 (by decide) ?_
              exact go_zret dX5_allows_102 rfl (by first | exact Or.inl rfl | exact Or.inr rfl) (by rw [er]; rfl) rfl
          | 2, _, _, hB =>
            refine go_lookup 103 dX5_allows_58 (by decide +kernel) (off := 45) (by decide +kernel) (by decide) ?_
            refine go_iload dX5_allows_103 rfl ?_
            refine go_if_lt 127 dX5_allows_105 (by decide) (fun h => absurd h (nI_pos (by omega))) (fun h105 => ?_)
            refine go_aload_n dX5_allows_108 rfl ?_
            refine go_getc dX5_allows_109 fX5_21 rfl (by decide) (by decide) (by decide) rfl ?_
            refine go_iload_n dX5_allows_112 rfl ?_
            refine go_iconst (nI 3) dX5_allows_113 (by decide +kernel) ?_
            first | refine go_imul_n dX5_allows_114 ?_ | refine go_imul dX5_allows_114 rfl ?_
            refine go_iload dX5_allows_115 rfl ?_
            first | refine go_iadd_n dX5_allows_117 ?_ | refine go_iadd dX5_allows_117 rfl ?_
            refine go_iald dX5_allows_118 rfl (by decide) rfl (by omega) (by decide) hpa ?_
            refine go_iconst (nI 3) dX5_allows_119 (by decide +kernel) ?_
            refine go_icmp_ge 127 dX5_allows_120 (by decide) (fun h120 => ?_) (fun h120 => ?_)
            · have er : B = false := by
                have z3 : ¬ pl < 3 := Int32.not_lt.mpr h120
                rw [← hB]; simp [z3]
              refine go_iconst (nI 0) dX5_allows_127 (by decide +kernel) ?_
              exact go_zret dX5_allows_128 rfl (by first | exact Or.inl rfl | exact Or.inr rfl) (by rw [er]; rfl) rfl
            · have er : B = true := by
                have z3 : pl < 3 := Int32.not_le.mp h120
                rw [← hB]; simp [z3]
              refine go_iconst (nI 1) dX5_allows_123 (by decide +kernel) ?_
              refine go_goto 128 dX5_allows_124 (by decide) ?_
              exact go_zret dX5_allows_128 rfl (by first | exact Or.inl rfl | exact Or.inr rfl) (by rw [er]; rfl) rfl
        · rw [htd] at h49
          have er : B = false := by rw [← hB, mT_l _ _ _ _ _ h49]
          refine go_iconst (nI 0) dX5_allows_52 (by decide +kernel) ?_
          exact go_zret dX5_allows_53 rfl (by first | exact Or.inl rfl | exact Or.inr rfl) (by rw [er]; rfl) rfl
      · have er : B = false := by rw [← hB, mT_g _ _ _ _ _ _ (by simpa using bI_0.mp h33)]
        refine go_iconst (nI 0) dX5_allows_36 (by decide +kernel) ?_
        exact go_zret dX5_allows_37 rfl (by first | exact Or.inl rfl | exact Or.inr rfl) (by rw [er]; rfl) rfl
theorem c_count_3_29 {O : gOm} {d : Nat} {m : gMem} {P h p n a G : Nat} {st : Int32} (hh : m.1 3 4 = nI h) (h6 : h < 6) (hp : p < 6) (hn : n < 3) (ha : a < 3) (hpl : m.1 30 (p * 6 + h) = nI a) (hG : m.1 31 (h * 3 + a) = nI G) (hG6 : G < 64) (hP : m.1 29 5 = nI P) (hP6 : P ≤ 6) : Ca O (d + 1) kX5_count [.ref 3, .ref 29, .int (nI p), .int (nI n), .int st] none m (ctM m 3 p n a G P st) := by
  have key : ∀ c q, q + c = P → Go O (d + 1) kX5_count none (ctM m 3 p n a G P st) 63 [.ref 3, .ref 29, .int (nI p), .int (nI n), .int st, .int (nI a), .int (nI G), .int (nI q)] [] (gupA (ctB m 3 p n a st) 6 (atX (m.1 6) n G st q)) := by
    intro c
    induction c with
    | zero =>
      intro q hq
      obtain rfl : q = P := by omega
      refine go_iload dX5_count_63 rfl ?_
      refine go_aload_n dX5_count_65 rfl ?_
      refine go_geti dX5_count_66 fX5_85 rfl (by decide) (by decide) (by decide) rfl hP ?_
      refine go_icmp_ge 102 dX5_count_69 (by decide) (fun h69 => ?_) (fun h => absurd (nI_le (by omega) (by omega)) h)
      exact go_vret dX5_count_102 rfl rfl rfl
    | succ c ih =>
      intro q hq
      refine go_iload dX5_count_63 rfl ?_
      refine go_aload_n dX5_count_65 rfl ?_
      refine go_geti dX5_count_66 fX5_85 rfl (by decide) (by decide) (by decide) rfl hP ?_
      refine go_icmp_ge 102 dX5_count_69 (by decide) (fun h => absurd h (nI_ge (by omega) (by omega))) (fun h69 => ?_)
      refine go_aload_n dX5_count_72 rfl ?_
      refine go_getc dX5_count_73 fX5_18 rfl (by decide) (by decide) (by decide) rfl ?_
      refine go_iload dX5_count_76 rfl ?_
      refine go_iconst (nI 3) dX5_count_78 (by decide +kernel) ?_
      first | refine go_imul_n dX5_count_79 ?_ | refine go_imul dX5_count_79 rfl ?_
      refine go_iload_n dX5_count_80 rfl ?_
      first | refine go_iadd_n dX5_count_81 ?_ | refine go_iadd dX5_count_81 rfl ?_
      refine go_dup2 dX5_count_82 rfl rfl ?_
      refine go_ialdA dX5_count_83 rfl (by decide) rfl (by omega) (by decide) rfl ?_
      refine go_iload dX5_count_84 rfl ?_
      refine go_iload dX5_count_86 rfl ?_
      refine go_ishr dX5_count_88 rfl ?_
      refine go_iconst (nI 1) dX5_count_89 (by decide +kernel) ?_
      refine go_iand dX5_count_90 (nb_bit (by omega) (by omega)) ?_
      refine go_iload dX5_count_91 rfl ?_
      refine go_imul dX5_count_93 rfl ?_
      refine go_iadd dX5_count_94 rfl ?_
      refine go_iastA dX5_count_95 rfl (by decide) rfl (by omega) (by decide) ?_
      refine go_iinc_n (L' := [_, _, _, _, _, _, _, _]) dX5_count_96 rfl (by decide) rfl ?_
      refine go_goto 63 dX5_count_99 (by decide) ?_
      exact ih (q + 1) (by omega)
  show Go O (d + 1) kX5_count none _ 0 [.ref 3, .ref 29, .int (nI p), .int (nI n), .int st, .null, .null, .null] [] m
  refine go_aload_n dX5_count_0 rfl ?_
  refine go_iload_n dX5_count_1 rfl ?_
  refine go_aload_n dX5_count_2 rfl ?_
  refine go_geti dX5_count_3 fX5_41 rfl (by decide) (by decide) (by decide) rfl hh ?_
  refine go_callV1 (K' := kX1_placeOf) [_, _] dX5_count_6 mX5_45 lX1_placeOf rfl (by decide) rfl (by decide) rfl rfl (Nat.le_of_ble_eq_true rfl) (Nat.le_of_ble_eq_true rfl) (c_placeOf_29 hp h6 hpl) ?_
  refine go_istore (L' := [_, _, _, _, _, _, _, _]) dX5_count_9 (by decide) rfl ?_
  refine go_iload dX5_count_11 rfl ?_
  refine go_if_ge 17 dX5_count_13 (by decide) (fun h13 => ?_) (fun h => absurd (nI_pos' (by omega)) h)
  refine go_aload_n dX5_count_17 rfl ?_
  refine go_getc dX5_count_18 fX5_15 rfl (by decide) (by decide) (by decide) rfl ?_
  refine go_iload_n dX5_count_21 rfl ?_
  refine go_iconst (nI 3) dX5_count_22 (by decide +kernel) ?_
  first | refine go_imul_n dX5_count_23 ?_ | refine go_imul dX5_count_23 rfl ?_
  refine go_iload_n dX5_count_24 rfl ?_
  first | refine go_iadd_n dX5_count_25 ?_ | refine go_iadd dX5_count_25 rfl ?_
  refine go_dup2 dX5_count_26 rfl rfl ?_
  refine go_iald dX5_count_27 rfl (by decide) rfl (by omega) (by decide) rfl ?_
  refine go_iload dX5_count_28 rfl ?_
  refine go_iadd dX5_count_30 rfl ?_
  refine go_iast dX5_count_31 rfl (by decide) rfl (by omega) (by decide) ?_
  refine go_mem (m1 := ctA m 3 p n st) (gup_asA _ _ _ _) ?_
  refine go_aload_n dX5_count_32 rfl ?_
  refine go_getc dX5_count_33 fX5_21 rfl (by decide) (by decide) (by decide) rfl ?_
  refine go_iload_n dX5_count_36 rfl ?_
  refine go_iconst (nI 3) dX5_count_37 (by decide +kernel) ?_
  first | refine go_imul_n dX5_count_38 ?_ | refine go_imul dX5_count_38 rfl ?_
  refine go_iload dX5_count_39 rfl ?_
  first | refine go_iadd_n dX5_count_41 ?_ | refine go_iadd dX5_count_41 rfl ?_
  refine go_dup2 dX5_count_42 rfl rfl ?_
  refine go_iald dX5_count_43 rfl (by decide) rfl (by omega) (by decide) rfl ?_
  refine go_iload dX5_count_44 rfl ?_
  refine go_iadd dX5_count_46 rfl ?_
  refine go_iast dX5_count_47 rfl (by decide) rfl (by omega) (by decide) ?_
  refine go_mem (m1 := ctB m 3 p n a st) (gup_asA _ _ _ _) ?_
  refine go_aload_n dX5_count_48 rfl ?_
  refine go_aload_n dX5_count_49 rfl ?_
  refine go_geti dX5_count_50 fX5_41 rfl (by decide) (by decide) (by decide) rfl hh ?_
  refine go_iload dX5_count_53 rfl ?_
  refine go_callV1 (K' := kX1_group) [_, _] dX5_count_55 mX5_53 lX1_group rfl (by decide) rfl (by decide) rfl rfl (Nat.le_of_ble_eq_true rfl) (Nat.le_of_ble_eq_true rfl) (c_group_29 h6 ha hG) ?_
  refine go_istore (L' := [_, _, _, _, _, _, _, _]) dX5_count_58 (by decide) rfl ?_
  refine go_mem (gupA_self (ctB m 3 p n a st) 6).symm ?_
  refine go_iconst (nI 0) dX5_count_60 (by decide +kernel) ?_
  refine go_istore (L' := [_, _, _, _, _, _, _, _]) dX5_count_61 (by decide) rfl ?_
  exact key P 0 (by omega)
theorem c_allows_3_35 {O : gOm} {d : Nat} {m : gMem} {P h p n k G lw : Nat} {av : Option Nat} {told lim tl pl : Int32} (hh : m.1 3 4 = nI h) (h6 : h < 6) (hp : p < 6) (hn : n < 3) (hk : k < 64) (hkn : m.1 4 n = nI k) (hpl : m.1 36 (p * 6 + h) = oI (-9) av) (ha3 : ∀ a, av = some a → a < 3 ∧ m.1 37 (h * 3 + a) = nI G ∧ m.1 7 (n * 3 + a) = pl) (hG0 : av = none → G = 0) (hG : G < 64) (htd : nI 0 + m.1 7 (n * 3 + 0) + m.1 7 (n * 3 + 1) + m.1 7 (n * 3 + 2) = told) (hlm : m.1 38 n = lim) (htl : m.1 5 (p * 3 + n) = tl) (hlw : m.1 35 7 = nI lw) (hl3 : lw < 3) : Ca O (d + 2) kX5_allows [.ref 3, .ref 35, .int (nI p), .int (nI n)] (some (.int (bI (mT (k.testBit p) G told lim lw tl pl)))) m m := by
  have hq := pc6_le G
  show Go O (d + 2) kX5_allows _ m 0 [.ref 3, .ref 35, .int (nI p), .int (nI n), .null] [] m
  cases av with
  | none =>
    obtain rfl := hG0 rfl
    refine go_aload_n dX5_allows_0 rfl ?_
    refine go_iload_n dX5_allows_1 rfl ?_
    refine go_aload_n dX5_allows_2 rfl ?_
    refine go_geti dX5_allows_3 fX5_41 rfl (by decide) (by decide) (by decide) rfl hh ?_
    refine go_callV1 (K' := kX1_placeOf) [_, _] dX5_allows_6 mX5_45 lX1_placeOf rfl (by decide) rfl (by decide) rfl rfl (Nat.le_of_ble_eq_true rfl) (Nat.le_of_ble_eq_true rfl) (c_placeOf_35 hp h6 hpl) ?_
    refine go_istore (L' := [_, _, _, _, _]) dX5_allows_9 (by decide) rfl ?_
    refine go_aload_n dX5_allows_11 rfl ?_
    refine go_iload_n dX5_allows_12 rfl ?_
    refine go_iload_n dX5_allows_13 rfl ?_
    refine go_callV1 (K' := kX5_knows) [_, _] dX5_allows_14 mX5_49 lX5_knows rfl (by decide) rfl (by decide) rfl rfl (Nat.le_of_ble_eq_true rfl) (Nat.le_of_ble_eq_true rfl) (c_knows_3 hp hn hk hkn) ?_
    refine go_if_eq 36 dX5_allows_17 (by decide) (fun h17 => ?_) (fun h17 => ?_)
    · refine go_iconst (nI 0) dX5_allows_36 (by decide +kernel) ?_
      exact go_zret dX5_allows_37 rfl (by first | exact Or.inl rfl | exact Or.inr rfl) (by rw [mT_0]; rfl) rfl
    · refine go_aload_n dX5_allows_20 rfl ?_
      refine go_aload_n dX5_allows_21 rfl ?_
      refine go_geti dX5_allows_22 fX5_41 rfl (by decide) (by decide) (by decide) rfl hh ?_
      refine go_iload dX5_allows_25 rfl ?_
      refine go_callV1 (K' := kX1_group) [_, _] dX5_allows_27 mX5_53 lX1_group rfl (by decide) rfl (by decide) rfl rfl (Nat.le_of_ble_eq_true rfl) (Nat.le_of_ble_eq_true rfl) (c_group9_35) ?_
      refine go_callS1 (K' := kX1_isCompany) [_] dX5_allows_30 mX5_56 lX1_isCompany rfl rfl (Nat.le_of_ble_eq_true rfl) (Nat.le_of_ble_eq_true rfl) (c_isCompany (by omega)) ?_
      refine go_if_ne 38 dX5_allows_33 (by decide) (fun h => absurd h (fun z => z (by decide +kernel))) (fun h33 => ?_)
      refine go_iconst (nI 0) dX5_allows_36 (by decide +kernel) ?_
      exact go_zret dX5_allows_37 rfl (by first | exact Or.inl rfl | exact Or.inr rfl) (by rw [mT_0]; rfl) rfl
  | some a =>
    obtain ⟨ha, hg, hpa⟩ := ha3 a rfl
    replace hpl : m.1 36 (p * 6 + h) = nI a := hpl
    generalize hB : mT (k.testBit p) G told lim lw tl pl = B
    refine go_aload_n dX5_allows_0 rfl ?_
    refine go_iload_n dX5_allows_1 rfl ?_
    refine go_aload_n dX5_allows_2 rfl ?_
    refine go_geti dX5_allows_3 fX5_41 rfl (by decide) (by decide) (by decide) rfl hh ?_
    refine go_callV1 (K' := kX1_placeOf) [_, _] dX5_allows_6 mX5_45 lX1_placeOf rfl (by decide) rfl (by decide) rfl rfl (Nat.le_of_ble_eq_true rfl) (Nat.le_of_ble_eq_true rfl) (c_placeOf_35 hp h6 hpl) ?_
    refine go_istore (L' := [_, _, _, _, _]) dX5_allows_9 (by decide) rfl ?_
    refine go_aload_n dX5_allows_11 rfl ?_
    refine go_iload_n dX5_allows_12 rfl ?_
    refine go_iload_n dX5_allows_13 rfl ?_
    refine go_callV1 (K' := kX5_knows) [_, _] dX5_allows_14 mX5_49 lX5_knows rfl (by decide) rfl (by decide) rfl rfl (Nat.le_of_ble_eq_true rfl) (Nat.le_of_ble_eq_true rfl) (c_knows_3 hp hn hk hkn) ?_
    refine go_if_eq 36 dX5_allows_17 (by decide) (fun h17 => ?_) (fun h17 => ?_)
    · have er : B = false := by rw [← hB, bI_0.mp h17, mT_k]
      refine go_iconst (nI 0) dX5_allows_36 (by decide +kernel) ?_
      exact go_zret dX5_allows_37 rfl (by first | exact Or.inl rfl | exact Or.inr rfl) (by rw [er]; rfl) rfl
    · have e1 := bI_n0.mp h17
      refine go_aload_n dX5_allows_20 rfl ?_
      refine go_aload_n dX5_allows_21 rfl ?_
      refine go_geti dX5_allows_22 fX5_41 rfl (by decide) (by decide) (by decide) rfl hh ?_
      refine go_iload dX5_allows_25 rfl ?_
      refine go_callV1 (K' := kX1_group) [_, _] dX5_allows_27 mX5_53 lX1_group rfl (by decide) rfl (by decide) rfl rfl (Nat.le_of_ble_eq_true rfl) (Nat.le_of_ble_eq_true rfl) (c_group_35 h6 ha hg) ?_
      refine go_callS1 (K' := kX1_isCompany) [_] dX5_allows_30 mX5_56 lX1_isCompany rfl rfl (Nat.le_of_ble_eq_true rfl) (Nat.le_of_ble_eq_true rfl) (c_isCompany hG) ?_
      refine go_if_ne 38 dX5_allows_33 (by decide) (fun h33 => ?_) (fun h33 => ?_)
      · have e2 : 1 < pc6 G := by simpa using bI_n0.mp h33
        refine go_aload_n dX5_allows_38 rfl ?_
        refine go_iload_n dX5_allows_39 rfl ?_
        refine go_callV1 (K' := kX5_tellingsOf) [_] dX5_allows_40 mX5_60 lX5_tellingsOf rfl (by decide) rfl (by decide) rfl rfl (Nat.le_of_ble_eq_true rfl) (Nat.le_of_ble_eq_true rfl) (c_tellingsOf_3 hn) ?_
        refine go_aload_n dX5_allows_43 rfl ?_
        refine go_getc dX5_allows_44 fX5_64 rfl (by decide) (by decide) (by decide) rfl ?_
        refine go_iload_n dX5_allows_47 rfl ?_
        refine go_iald dX5_allows_48 rfl (by decide) rfl (by omega) (by decide) hlm ?_
        refine go_icmp_lt 54 dX5_allows_49 (by decide) (fun h49 => ?_) (fun h49 => ?_)
        · rw [htd] at h49
          rw [e1, mT_v lw tl pl e2 h49] at hB
          refine go_aload_n dX5_allows_54 rfl ?_
          refine go_geti dX5_allows_55 fX5_67 rfl (by decide) (by decide) (by decide) rfl hlw ?_
          match lw, hl3, hlw, hB with
          | 0, _, _, hB =>
            have er : B = true := by rw [← hB]; rfl
            refine go_lookup 129 dX5_allows_58 (by decide +kernel) (off := 71) (by decide +kernel) (by decide) ?_
            refine go_iconst (nI 1) dX5_allows_129 (by decide +kernel) ?_
            exact go_zret dX5_allows_130 rfl (by first | exact Or.inl rfl | exact Or.inr rfl) (by rw [er]; rfl) rfl
          | 1, _, _, hB =>
            refine go_lookup 84 dX5_allows_58 (by decide +kernel) (off := 26) (by decide +kernel) (by decide) ?_
            refine go_aload_n dX5_allows_84 rfl ?_
            refine go_getc dX5_allows_85 fX5_15 rfl (by decide) (by decide) (by decide) rfl ?_
            refine go_iload_n dX5_allows_88 rfl ?_
            refine go_iconst (nI 3) dX5_allows_89 (by decide +kernel) ?_
            first | refine go_imul_n dX5_allows_90 ?_ | refine go_imul dX5_allows_90 rfl ?_
            refine go_iload_n dX5_allows_91 rfl ?_
            first | refine go_iadd_n dX5_allows_92 ?_ | refine go_iadd dX5_allows_92 rfl ?_
            refine go_iald dX5_allows_93 rfl (by decide) rfl (by omega) (by decide) htl ?_
            refine go_if_ne 101 dX5_allows_94 (by decide) (fun h94 => ?_) (fun h94 => ?_)
            · have er : B = false := by rw [← hB]; simp [show ¬ tl = 0 from h94]
              refine go_iconst (nI 0) dX5_allows_101 (by decide +kernel) ?_
              exact go_zret dX5_allows_102 rfl (by first | exact Or.inl rfl | exact Or.inr rfl) (by rw [er]; rfl) rfl
            · have er : B = true := by rw [← hB]; simp [show tl = 0 from h94]
              refine go_iconst (nI 1) dX5_allows_97 (by decide +kernel) ?_
              refine go_goto 102 dX5_allows_98 (by decide) ?_
              exact go_zret dX5_allows_102 rfl (by first | exact Or.inl rfl | exact Or.inr rfl) (by rw [er]; rfl) rfl
          | 2, _, _, hB =>
            refine go_lookup 103 dX5_allows_58 (by decide +kernel) (off := 45) (by decide +kernel) (by decide) ?_
            refine go_iload dX5_allows_103 rfl ?_
            refine go_if_lt 127 dX5_allows_105 (by decide) (fun h => absurd h (nI_pos (by omega))) (fun h105 => ?_)
            refine go_aload_n dX5_allows_108 rfl ?_
            refine go_getc dX5_allows_109 fX5_21 rfl (by decide) (by decide) (by decide) rfl ?_
            refine go_iload_n dX5_allows_112 rfl ?_
            refine go_iconst (nI 3) dX5_allows_113 (by decide +kernel) ?_
            first | refine go_imul_n dX5_allows_114 ?_ | refine go_imul dX5_allows_114 rfl ?_
            refine go_iload dX5_allows_115 rfl ?_
            first | refine go_iadd_n dX5_allows_117 ?_ | refine go_iadd dX5_allows_117 rfl ?_
            refine go_iald dX5_allows_118 rfl (by decide) rfl (by omega) (by decide) hpa ?_
            refine go_iconst (nI 3) dX5_allows_119 (by decide +kernel) ?_
            refine go_icmp_ge 127 dX5_allows_120 (by decide) (fun h120 => ?_) (fun h120 => ?_)
            · have er : B = false := by
                have z3 : ¬ pl < 3 := Int32.not_lt.mpr h120
                rw [← hB]; simp [z3]
              refine go_iconst (nI 0) dX5_allows_127 (by decide +kernel) ?_
              exact go_zret dX5_allows_128 rfl (by first | exact Or.inl rfl | exact Or.inr rfl) (by rw [er]; rfl) rfl
            · have er : B = true := by
                have z3 : pl < 3 := Int32.not_le.mp h120
                rw [← hB]; simp [z3]
              refine go_iconst (nI 1) dX5_allows_123 (by decide +kernel) ?_
              refine go_goto 128 dX5_allows_124 (by decide) ?_
              exact go_zret dX5_allows_128 rfl (by first | exact Or.inl rfl | exact Or.inr rfl) (by rw [er]; rfl) rfl
        · rw [htd] at h49
          have er : B = false := by rw [← hB, mT_l _ _ _ _ _ h49]
          refine go_iconst (nI 0) dX5_allows_52 (by decide +kernel) ?_
          exact go_zret dX5_allows_53 rfl (by first | exact Or.inl rfl | exact Or.inr rfl) (by rw [er]; rfl) rfl
      · have er : B = false := by rw [← hB, mT_g _ _ _ _ _ _ (by simpa using bI_0.mp h33)]
        refine go_iconst (nI 0) dX5_allows_36 (by decide +kernel) ?_
        exact go_zret dX5_allows_37 rfl (by first | exact Or.inl rfl | exact Or.inr rfl) (by rw [er]; rfl) rfl
theorem c_count_3_35 {O : gOm} {d : Nat} {m : gMem} {P h p n a G : Nat} {st : Int32} (hh : m.1 3 4 = nI h) (h6 : h < 6) (hp : p < 6) (hn : n < 3) (ha : a < 3) (hpl : m.1 36 (p * 6 + h) = nI a) (hG : m.1 37 (h * 3 + a) = nI G) (hG6 : G < 64) (hP : m.1 35 5 = nI P) (hP6 : P ≤ 6) : Ca O (d + 1) kX5_count [.ref 3, .ref 35, .int (nI p), .int (nI n), .int st] none m (ctM m 3 p n a G P st) := by
  have key : ∀ c q, q + c = P → Go O (d + 1) kX5_count none (ctM m 3 p n a G P st) 63 [.ref 3, .ref 35, .int (nI p), .int (nI n), .int st, .int (nI a), .int (nI G), .int (nI q)] [] (gupA (ctB m 3 p n a st) 6 (atX (m.1 6) n G st q)) := by
    intro c
    induction c with
    | zero =>
      intro q hq
      obtain rfl : q = P := by omega
      refine go_iload dX5_count_63 rfl ?_
      refine go_aload_n dX5_count_65 rfl ?_
      refine go_geti dX5_count_66 fX5_85 rfl (by decide) (by decide) (by decide) rfl hP ?_
      refine go_icmp_ge 102 dX5_count_69 (by decide) (fun h69 => ?_) (fun h => absurd (nI_le (by omega) (by omega)) h)
      exact go_vret dX5_count_102 rfl rfl rfl
    | succ c ih =>
      intro q hq
      refine go_iload dX5_count_63 rfl ?_
      refine go_aload_n dX5_count_65 rfl ?_
      refine go_geti dX5_count_66 fX5_85 rfl (by decide) (by decide) (by decide) rfl hP ?_
      refine go_icmp_ge 102 dX5_count_69 (by decide) (fun h => absurd h (nI_ge (by omega) (by omega))) (fun h69 => ?_)
      refine go_aload_n dX5_count_72 rfl ?_
      refine go_getc dX5_count_73 fX5_18 rfl (by decide) (by decide) (by decide) rfl ?_
      refine go_iload dX5_count_76 rfl ?_
      refine go_iconst (nI 3) dX5_count_78 (by decide +kernel) ?_
      first | refine go_imul_n dX5_count_79 ?_ | refine go_imul dX5_count_79 rfl ?_
      refine go_iload_n dX5_count_80 rfl ?_
      first | refine go_iadd_n dX5_count_81 ?_ | refine go_iadd dX5_count_81 rfl ?_
      refine go_dup2 dX5_count_82 rfl rfl ?_
      refine go_ialdA dX5_count_83 rfl (by decide) rfl (by omega) (by decide) rfl ?_
      refine go_iload dX5_count_84 rfl ?_
      refine go_iload dX5_count_86 rfl ?_
      refine go_ishr dX5_count_88 rfl ?_
      refine go_iconst (nI 1) dX5_count_89 (by decide +kernel) ?_
      refine go_iand dX5_count_90 (nb_bit (by omega) (by omega)) ?_
      refine go_iload dX5_count_91 rfl ?_
      refine go_imul dX5_count_93 rfl ?_
      refine go_iadd dX5_count_94 rfl ?_
      refine go_iastA dX5_count_95 rfl (by decide) rfl (by omega) (by decide) ?_
      refine go_iinc_n (L' := [_, _, _, _, _, _, _, _]) dX5_count_96 rfl (by decide) rfl ?_
      refine go_goto 63 dX5_count_99 (by decide) ?_
      exact ih (q + 1) (by omega)
  show Go O (d + 1) kX5_count none _ 0 [.ref 3, .ref 35, .int (nI p), .int (nI n), .int st, .null, .null, .null] [] m
  refine go_aload_n dX5_count_0 rfl ?_
  refine go_iload_n dX5_count_1 rfl ?_
  refine go_aload_n dX5_count_2 rfl ?_
  refine go_geti dX5_count_3 fX5_41 rfl (by decide) (by decide) (by decide) rfl hh ?_
  refine go_callV1 (K' := kX1_placeOf) [_, _] dX5_count_6 mX5_45 lX1_placeOf rfl (by decide) rfl (by decide) rfl rfl (Nat.le_of_ble_eq_true rfl) (Nat.le_of_ble_eq_true rfl) (c_placeOf_35 hp h6 hpl) ?_
  refine go_istore (L' := [_, _, _, _, _, _, _, _]) dX5_count_9 (by decide) rfl ?_
  refine go_iload dX5_count_11 rfl ?_
  refine go_if_ge 17 dX5_count_13 (by decide) (fun h13 => ?_) (fun h => absurd (nI_pos' (by omega)) h)
  refine go_aload_n dX5_count_17 rfl ?_
  refine go_getc dX5_count_18 fX5_15 rfl (by decide) (by decide) (by decide) rfl ?_
  refine go_iload_n dX5_count_21 rfl ?_
  refine go_iconst (nI 3) dX5_count_22 (by decide +kernel) ?_
  first | refine go_imul_n dX5_count_23 ?_ | refine go_imul dX5_count_23 rfl ?_
  refine go_iload_n dX5_count_24 rfl ?_
  first | refine go_iadd_n dX5_count_25 ?_ | refine go_iadd dX5_count_25 rfl ?_
  refine go_dup2 dX5_count_26 rfl rfl ?_
  refine go_iald dX5_count_27 rfl (by decide) rfl (by omega) (by decide) rfl ?_
  refine go_iload dX5_count_28 rfl ?_
  refine go_iadd dX5_count_30 rfl ?_
  refine go_iast dX5_count_31 rfl (by decide) rfl (by omega) (by decide) ?_
  refine go_mem (m1 := ctA m 3 p n st) (gup_asA _ _ _ _) ?_
  refine go_aload_n dX5_count_32 rfl ?_
  refine go_getc dX5_count_33 fX5_21 rfl (by decide) (by decide) (by decide) rfl ?_
  refine go_iload_n dX5_count_36 rfl ?_
  refine go_iconst (nI 3) dX5_count_37 (by decide +kernel) ?_
  first | refine go_imul_n dX5_count_38 ?_ | refine go_imul dX5_count_38 rfl ?_
  refine go_iload dX5_count_39 rfl ?_
  first | refine go_iadd_n dX5_count_41 ?_ | refine go_iadd dX5_count_41 rfl ?_
  refine go_dup2 dX5_count_42 rfl rfl ?_
  refine go_iald dX5_count_43 rfl (by decide) rfl (by omega) (by decide) rfl ?_
  refine go_iload dX5_count_44 rfl ?_
  refine go_iadd dX5_count_46 rfl ?_
  refine go_iast dX5_count_47 rfl (by decide) rfl (by omega) (by decide) ?_
  refine go_mem (m1 := ctB m 3 p n a st) (gup_asA _ _ _ _) ?_
  refine go_aload_n dX5_count_48 rfl ?_
  refine go_aload_n dX5_count_49 rfl ?_
  refine go_geti dX5_count_50 fX5_41 rfl (by decide) (by decide) (by decide) rfl hh ?_
  refine go_iload dX5_count_53 rfl ?_
  refine go_callV1 (K' := kX1_group) [_, _] dX5_count_55 mX5_53 lX1_group rfl (by decide) rfl (by decide) rfl rfl (Nat.le_of_ble_eq_true rfl) (Nat.le_of_ble_eq_true rfl) (c_group_35 h6 ha hG) ?_
  refine go_istore (L' := [_, _, _, _, _, _, _, _]) dX5_count_58 (by decide) rfl ?_
  refine go_mem (gupA_self (ctB m 3 p n a st) 6).symm ?_
  refine go_iconst (nI 0) dX5_count_60 (by decide +kernel) ?_
  refine go_istore (L' := [_, _, _, _, _, _, _, _]) dX5_count_61 (by decide) rfl ?_
  exact key P 0 (by omega)
theorem c_allows_8_29 {O : gOm} {d : Nat} {m : gMem} {P h p n k G lw : Nat} {av : Option Nat} {told lim tl pl : Int32} (hh : m.1 8 4 = nI h) (h6 : h < 6) (hp : p < 6) (hn : n < 3) (hk : k < 64) (hkn : m.1 9 n = nI k) (hpl : m.1 30 (p * 6 + h) = oI (-9) av) (ha3 : ∀ a, av = some a → a < 3 ∧ m.1 31 (h * 3 + a) = nI G ∧ m.1 12 (n * 3 + a) = pl) (hG0 : av = none → G = 0) (hG : G < 64) (htd : nI 0 + m.1 12 (n * 3 + 0) + m.1 12 (n * 3 + 1) + m.1 12 (n * 3 + 2) = told) (hlm : m.1 32 n = lim) (htl : m.1 10 (p * 3 + n) = tl) (hlw : m.1 29 7 = nI lw) (hl3 : lw < 3) : Ca O (d + 2) kX5_allows [.ref 8, .ref 29, .int (nI p), .int (nI n)] (some (.int (bI (mT (k.testBit p) G told lim lw tl pl)))) m m := by
  have hq := pc6_le G
  show Go O (d + 2) kX5_allows _ m 0 [.ref 8, .ref 29, .int (nI p), .int (nI n), .null] [] m
  cases av with
  | none =>
    obtain rfl := hG0 rfl
    refine go_aload_n dX5_allows_0 rfl ?_
    refine go_iload_n dX5_allows_1 rfl ?_
    refine go_aload_n dX5_allows_2 rfl ?_
    refine go_geti dX5_allows_3 fX5_41 rfl (by decide) (by decide) (by decide) rfl hh ?_
    refine go_callV1 (K' := kX1_placeOf) [_, _] dX5_allows_6 mX5_45 lX1_placeOf rfl (by decide) rfl (by decide) rfl rfl (Nat.le_of_ble_eq_true rfl) (Nat.le_of_ble_eq_true rfl) (c_placeOf_29 hp h6 hpl) ?_
    refine go_istore (L' := [_, _, _, _, _]) dX5_allows_9 (by decide) rfl ?_
    refine go_aload_n dX5_allows_11 rfl ?_
    refine go_iload_n dX5_allows_12 rfl ?_
    refine go_iload_n dX5_allows_13 rfl ?_
    refine go_callV1 (K' := kX5_knows) [_, _] dX5_allows_14 mX5_49 lX5_knows rfl (by decide) rfl (by decide) rfl rfl (Nat.le_of_ble_eq_true rfl) (Nat.le_of_ble_eq_true rfl) (c_knows_8 hp hn hk hkn) ?_
    refine go_if_eq 36 dX5_allows_17 (by decide) (fun h17 => ?_) (fun h17 => ?_)
    · refine go_iconst (nI 0) dX5_allows_36 (by decide +kernel) ?_
      exact go_zret dX5_allows_37 rfl (by first | exact Or.inl rfl | exact Or.inr rfl) (by rw [mT_0]; rfl) rfl
    · refine go_aload_n dX5_allows_20 rfl ?_
      refine go_aload_n dX5_allows_21 rfl ?_
      refine go_geti dX5_allows_22 fX5_41 rfl (by decide) (by decide) (by decide) rfl hh ?_
      refine go_iload dX5_allows_25 rfl ?_
      refine go_callV1 (K' := kX1_group) [_, _] dX5_allows_27 mX5_53 lX1_group rfl (by decide) rfl (by decide) rfl rfl (Nat.le_of_ble_eq_true rfl) (Nat.le_of_ble_eq_true rfl) (c_group9_29) ?_
      refine go_callS1 (K' := kX1_isCompany) [_] dX5_allows_30 mX5_56 lX1_isCompany rfl rfl (Nat.le_of_ble_eq_true rfl) (Nat.le_of_ble_eq_true rfl) (c_isCompany (by omega)) ?_
      refine go_if_ne 38 dX5_allows_33 (by decide) (fun h => absurd h (fun z => z (by decide +kernel))) (fun h33 => ?_)
      refine go_iconst (nI 0) dX5_allows_36 (by decide +kernel) ?_
      exact go_zret dX5_allows_37 rfl (by first | exact Or.inl rfl | exact Or.inr rfl) (by rw [mT_0]; rfl) rfl
  | some a =>
    obtain ⟨ha, hg, hpa⟩ := ha3 a rfl
    replace hpl : m.1 30 (p * 6 + h) = nI a := hpl
    generalize hB : mT (k.testBit p) G told lim lw tl pl = B
    refine go_aload_n dX5_allows_0 rfl ?_
    refine go_iload_n dX5_allows_1 rfl ?_
    refine go_aload_n dX5_allows_2 rfl ?_
    refine go_geti dX5_allows_3 fX5_41 rfl (by decide) (by decide) (by decide) rfl hh ?_
    refine go_callV1 (K' := kX1_placeOf) [_, _] dX5_allows_6 mX5_45 lX1_placeOf rfl (by decide) rfl (by decide) rfl rfl (Nat.le_of_ble_eq_true rfl) (Nat.le_of_ble_eq_true rfl) (c_placeOf_29 hp h6 hpl) ?_
    refine go_istore (L' := [_, _, _, _, _]) dX5_allows_9 (by decide) rfl ?_
    refine go_aload_n dX5_allows_11 rfl ?_
    refine go_iload_n dX5_allows_12 rfl ?_
    refine go_iload_n dX5_allows_13 rfl ?_
    refine go_callV1 (K' := kX5_knows) [_, _] dX5_allows_14 mX5_49 lX5_knows rfl (by decide) rfl (by decide) rfl rfl (Nat.le_of_ble_eq_true rfl) (Nat.le_of_ble_eq_true rfl) (c_knows_8 hp hn hk hkn) ?_
    refine go_if_eq 36 dX5_allows_17 (by decide) (fun h17 => ?_) (fun h17 => ?_)
    · have er : B = false := by rw [← hB, bI_0.mp h17, mT_k]
      refine go_iconst (nI 0) dX5_allows_36 (by decide +kernel) ?_
      exact go_zret dX5_allows_37 rfl (by first | exact Or.inl rfl | exact Or.inr rfl) (by rw [er]; rfl) rfl
    · have e1 := bI_n0.mp h17
      refine go_aload_n dX5_allows_20 rfl ?_
      refine go_aload_n dX5_allows_21 rfl ?_
      refine go_geti dX5_allows_22 fX5_41 rfl (by decide) (by decide) (by decide) rfl hh ?_
      refine go_iload dX5_allows_25 rfl ?_
      refine go_callV1 (K' := kX1_group) [_, _] dX5_allows_27 mX5_53 lX1_group rfl (by decide) rfl (by decide) rfl rfl (Nat.le_of_ble_eq_true rfl) (Nat.le_of_ble_eq_true rfl) (c_group_29 h6 ha hg) ?_
      refine go_callS1 (K' := kX1_isCompany) [_] dX5_allows_30 mX5_56 lX1_isCompany rfl rfl (Nat.le_of_ble_eq_true rfl) (Nat.le_of_ble_eq_true rfl) (c_isCompany hG) ?_
      refine go_if_ne 38 dX5_allows_33 (by decide) (fun h33 => ?_) (fun h33 => ?_)
      · have e2 : 1 < pc6 G := by simpa using bI_n0.mp h33
        refine go_aload_n dX5_allows_38 rfl ?_
        refine go_iload_n dX5_allows_39 rfl ?_
        refine go_callV1 (K' := kX5_tellingsOf) [_] dX5_allows_40 mX5_60 lX5_tellingsOf rfl (by decide) rfl (by decide) rfl rfl (Nat.le_of_ble_eq_true rfl) (Nat.le_of_ble_eq_true rfl) (c_tellingsOf_8 hn) ?_
        refine go_aload_n dX5_allows_43 rfl ?_
        refine go_getc dX5_allows_44 fX5_64 rfl (by decide) (by decide) (by decide) rfl ?_
        refine go_iload_n dX5_allows_47 rfl ?_
        refine go_iald dX5_allows_48 rfl (by decide) rfl (by omega) (by decide) hlm ?_
        refine go_icmp_lt 54 dX5_allows_49 (by decide) (fun h49 => ?_) (fun h49 => ?_)
        · rw [htd] at h49
          rw [e1, mT_v lw tl pl e2 h49] at hB
          refine go_aload_n dX5_allows_54 rfl ?_
          refine go_geti dX5_allows_55 fX5_67 rfl (by decide) (by decide) (by decide) rfl hlw ?_
          match lw, hl3, hlw, hB with
          | 0, _, _, hB =>
            have er : B = true := by rw [← hB]; rfl
            refine go_lookup 129 dX5_allows_58 (by decide +kernel) (off := 71) (by decide +kernel) (by decide) ?_
            refine go_iconst (nI 1) dX5_allows_129 (by decide +kernel) ?_
            exact go_zret dX5_allows_130 rfl (by first | exact Or.inl rfl | exact Or.inr rfl) (by rw [er]; rfl) rfl
          | 1, _, _, hB =>
            refine go_lookup 84 dX5_allows_58 (by decide +kernel) (off := 26) (by decide +kernel) (by decide) ?_
            refine go_aload_n dX5_allows_84 rfl ?_
            refine go_getc dX5_allows_85 fX5_15 rfl (by decide) (by decide) (by decide) rfl ?_
            refine go_iload_n dX5_allows_88 rfl ?_
            refine go_iconst (nI 3) dX5_allows_89 (by decide +kernel) ?_
            first | refine go_imul_n dX5_allows_90 ?_ | refine go_imul dX5_allows_90 rfl ?_
            refine go_iload_n dX5_allows_91 rfl ?_
            first | refine go_iadd_n dX5_allows_92 ?_ | refine go_iadd dX5_allows_92 rfl ?_
            refine go_iald dX5_allows_93 rfl (by decide) rfl (by omega) (by decide) htl ?_
            refine go_if_ne 101 dX5_allows_94 (by decide) (fun h94 => ?_) (fun h94 => ?_)
            · have er : B = false := by rw [← hB]; simp [show ¬ tl = 0 from h94]
              refine go_iconst (nI 0) dX5_allows_101 (by decide +kernel) ?_
              exact go_zret dX5_allows_102 rfl (by first | exact Or.inl rfl | exact Or.inr rfl) (by rw [er]; rfl) rfl
            · have er : B = true := by rw [← hB]; simp [show tl = 0 from h94]
              refine go_iconst (nI 1) dX5_allows_97 (by decide +kernel) ?_
              refine go_goto 102 dX5_allows_98 (by decide) ?_
              exact go_zret dX5_allows_102 rfl (by first | exact Or.inl rfl | exact Or.inr rfl) (by rw [er]; rfl) rfl
          | 2, _, _, hB =>
            refine go_lookup 103 dX5_allows_58 (by decide +kernel) (off := 45) (by decide +kernel) (by decide) ?_
            refine go_iload dX5_allows_103 rfl ?_
            refine go_if_lt 127 dX5_allows_105 (by decide) (fun h => absurd h (nI_pos (by omega))) (fun h105 => ?_)
            refine go_aload_n dX5_allows_108 rfl ?_
            refine go_getc dX5_allows_109 fX5_21 rfl (by decide) (by decide) (by decide) rfl ?_
            refine go_iload_n dX5_allows_112 rfl ?_
            refine go_iconst (nI 3) dX5_allows_113 (by decide +kernel) ?_
            first | refine go_imul_n dX5_allows_114 ?_ | refine go_imul dX5_allows_114 rfl ?_
            refine go_iload dX5_allows_115 rfl ?_
            first | refine go_iadd_n dX5_allows_117 ?_ | refine go_iadd dX5_allows_117 rfl ?_
            refine go_iald dX5_allows_118 rfl (by decide) rfl (by omega) (by decide) hpa ?_
            refine go_iconst (nI 3) dX5_allows_119 (by decide +kernel) ?_
            refine go_icmp_ge 127 dX5_allows_120 (by decide) (fun h120 => ?_) (fun h120 => ?_)
            · have er : B = false := by
                have z3 : ¬ pl < 3 := Int32.not_lt.mpr h120
                rw [← hB]; simp [z3]
              refine go_iconst (nI 0) dX5_allows_127 (by decide +kernel) ?_
              exact go_zret dX5_allows_128 rfl (by first | exact Or.inl rfl | exact Or.inr rfl) (by rw [er]; rfl) rfl
            · have er : B = true := by
                have z3 : pl < 3 := Int32.not_le.mp h120
                rw [← hB]; simp [z3]
              refine go_iconst (nI 1) dX5_allows_123 (by decide +kernel) ?_
              refine go_goto 128 dX5_allows_124 (by decide) ?_
              exact go_zret dX5_allows_128 rfl (by first | exact Or.inl rfl | exact Or.inr rfl) (by rw [er]; rfl) rfl
        · rw [htd] at h49
          have er : B = false := by rw [← hB, mT_l _ _ _ _ _ h49]
          refine go_iconst (nI 0) dX5_allows_52 (by decide +kernel) ?_
          exact go_zret dX5_allows_53 rfl (by first | exact Or.inl rfl | exact Or.inr rfl) (by rw [er]; rfl) rfl
      · have er : B = false := by rw [← hB, mT_g _ _ _ _ _ _ (by simpa using bI_0.mp h33)]
        refine go_iconst (nI 0) dX5_allows_36 (by decide +kernel) ?_
        exact go_zret dX5_allows_37 rfl (by first | exact Or.inl rfl | exact Or.inr rfl) (by rw [er]; rfl) rfl
theorem c_count_8_29 {O : gOm} {d : Nat} {m : gMem} {P h p n a G : Nat} {st : Int32} (hh : m.1 8 4 = nI h) (h6 : h < 6) (hp : p < 6) (hn : n < 3) (ha : a < 3) (hpl : m.1 30 (p * 6 + h) = nI a) (hG : m.1 31 (h * 3 + a) = nI G) (hG6 : G < 64) (hP : m.1 29 5 = nI P) (hP6 : P ≤ 6) : Ca O (d + 1) kX5_count [.ref 8, .ref 29, .int (nI p), .int (nI n), .int st] none m (ctM m 8 p n a G P st) := by
  have key : ∀ c q, q + c = P → Go O (d + 1) kX5_count none (ctM m 8 p n a G P st) 63 [.ref 8, .ref 29, .int (nI p), .int (nI n), .int st, .int (nI a), .int (nI G), .int (nI q)] [] (gupA (ctB m 8 p n a st) 11 (atX (m.1 11) n G st q)) := by
    intro c
    induction c with
    | zero =>
      intro q hq
      obtain rfl : q = P := by omega
      refine go_iload dX5_count_63 rfl ?_
      refine go_aload_n dX5_count_65 rfl ?_
      refine go_geti dX5_count_66 fX5_85 rfl (by decide) (by decide) (by decide) rfl hP ?_
      refine go_icmp_ge 102 dX5_count_69 (by decide) (fun h69 => ?_) (fun h => absurd (nI_le (by omega) (by omega)) h)
      exact go_vret dX5_count_102 rfl rfl rfl
    | succ c ih =>
      intro q hq
      refine go_iload dX5_count_63 rfl ?_
      refine go_aload_n dX5_count_65 rfl ?_
      refine go_geti dX5_count_66 fX5_85 rfl (by decide) (by decide) (by decide) rfl hP ?_
      refine go_icmp_ge 102 dX5_count_69 (by decide) (fun h => absurd h (nI_ge (by omega) (by omega))) (fun h69 => ?_)
      refine go_aload_n dX5_count_72 rfl ?_
      refine go_getc dX5_count_73 fX5_18 rfl (by decide) (by decide) (by decide) rfl ?_
      refine go_iload dX5_count_76 rfl ?_
      refine go_iconst (nI 3) dX5_count_78 (by decide +kernel) ?_
      first | refine go_imul_n dX5_count_79 ?_ | refine go_imul dX5_count_79 rfl ?_
      refine go_iload_n dX5_count_80 rfl ?_
      first | refine go_iadd_n dX5_count_81 ?_ | refine go_iadd dX5_count_81 rfl ?_
      refine go_dup2 dX5_count_82 rfl rfl ?_
      refine go_ialdA dX5_count_83 rfl (by decide) rfl (by omega) (by decide) rfl ?_
      refine go_iload dX5_count_84 rfl ?_
      refine go_iload dX5_count_86 rfl ?_
      refine go_ishr dX5_count_88 rfl ?_
      refine go_iconst (nI 1) dX5_count_89 (by decide +kernel) ?_
      refine go_iand dX5_count_90 (nb_bit (by omega) (by omega)) ?_
      refine go_iload dX5_count_91 rfl ?_
      refine go_imul dX5_count_93 rfl ?_
      refine go_iadd dX5_count_94 rfl ?_
      refine go_iastA dX5_count_95 rfl (by decide) rfl (by omega) (by decide) ?_
      refine go_iinc_n (L' := [_, _, _, _, _, _, _, _]) dX5_count_96 rfl (by decide) rfl ?_
      refine go_goto 63 dX5_count_99 (by decide) ?_
      exact ih (q + 1) (by omega)
  show Go O (d + 1) kX5_count none _ 0 [.ref 8, .ref 29, .int (nI p), .int (nI n), .int st, .null, .null, .null] [] m
  refine go_aload_n dX5_count_0 rfl ?_
  refine go_iload_n dX5_count_1 rfl ?_
  refine go_aload_n dX5_count_2 rfl ?_
  refine go_geti dX5_count_3 fX5_41 rfl (by decide) (by decide) (by decide) rfl hh ?_
  refine go_callV1 (K' := kX1_placeOf) [_, _] dX5_count_6 mX5_45 lX1_placeOf rfl (by decide) rfl (by decide) rfl rfl (Nat.le_of_ble_eq_true rfl) (Nat.le_of_ble_eq_true rfl) (c_placeOf_29 hp h6 hpl) ?_
  refine go_istore (L' := [_, _, _, _, _, _, _, _]) dX5_count_9 (by decide) rfl ?_
  refine go_iload dX5_count_11 rfl ?_
  refine go_if_ge 17 dX5_count_13 (by decide) (fun h13 => ?_) (fun h => absurd (nI_pos' (by omega)) h)
  refine go_aload_n dX5_count_17 rfl ?_
  refine go_getc dX5_count_18 fX5_15 rfl (by decide) (by decide) (by decide) rfl ?_
  refine go_iload_n dX5_count_21 rfl ?_
  refine go_iconst (nI 3) dX5_count_22 (by decide +kernel) ?_
  first | refine go_imul_n dX5_count_23 ?_ | refine go_imul dX5_count_23 rfl ?_
  refine go_iload_n dX5_count_24 rfl ?_
  first | refine go_iadd_n dX5_count_25 ?_ | refine go_iadd dX5_count_25 rfl ?_
  refine go_dup2 dX5_count_26 rfl rfl ?_
  refine go_iald dX5_count_27 rfl (by decide) rfl (by omega) (by decide) rfl ?_
  refine go_iload dX5_count_28 rfl ?_
  refine go_iadd dX5_count_30 rfl ?_
  refine go_iast dX5_count_31 rfl (by decide) rfl (by omega) (by decide) ?_
  refine go_mem (m1 := ctA m 8 p n st) (gup_asA _ _ _ _) ?_
  refine go_aload_n dX5_count_32 rfl ?_
  refine go_getc dX5_count_33 fX5_21 rfl (by decide) (by decide) (by decide) rfl ?_
  refine go_iload_n dX5_count_36 rfl ?_
  refine go_iconst (nI 3) dX5_count_37 (by decide +kernel) ?_
  first | refine go_imul_n dX5_count_38 ?_ | refine go_imul dX5_count_38 rfl ?_
  refine go_iload dX5_count_39 rfl ?_
  first | refine go_iadd_n dX5_count_41 ?_ | refine go_iadd dX5_count_41 rfl ?_
  refine go_dup2 dX5_count_42 rfl rfl ?_
  refine go_iald dX5_count_43 rfl (by decide) rfl (by omega) (by decide) rfl ?_
  refine go_iload dX5_count_44 rfl ?_
  refine go_iadd dX5_count_46 rfl ?_
  refine go_iast dX5_count_47 rfl (by decide) rfl (by omega) (by decide) ?_
  refine go_mem (m1 := ctB m 8 p n a st) (gup_asA _ _ _ _) ?_
  refine go_aload_n dX5_count_48 rfl ?_
  refine go_aload_n dX5_count_49 rfl ?_
  refine go_geti dX5_count_50 fX5_41 rfl (by decide) (by decide) (by decide) rfl hh ?_
  refine go_iload dX5_count_53 rfl ?_
  refine go_callV1 (K' := kX1_group) [_, _] dX5_count_55 mX5_53 lX1_group rfl (by decide) rfl (by decide) rfl rfl (Nat.le_of_ble_eq_true rfl) (Nat.le_of_ble_eq_true rfl) (c_group_29 h6 ha hG) ?_
  refine go_istore (L' := [_, _, _, _, _, _, _, _]) dX5_count_58 (by decide) rfl ?_
  refine go_mem (gupA_self (ctB m 8 p n a st) 11).symm ?_
  refine go_iconst (nI 0) dX5_count_60 (by decide +kernel) ?_
  refine go_istore (L' := [_, _, _, _, _, _, _, _]) dX5_count_61 (by decide) rfl ?_
  exact key P 0 (by omega)
theorem c_allows_8_35 {O : gOm} {d : Nat} {m : gMem} {P h p n k G lw : Nat} {av : Option Nat} {told lim tl pl : Int32} (hh : m.1 8 4 = nI h) (h6 : h < 6) (hp : p < 6) (hn : n < 3) (hk : k < 64) (hkn : m.1 9 n = nI k) (hpl : m.1 36 (p * 6 + h) = oI (-9) av) (ha3 : ∀ a, av = some a → a < 3 ∧ m.1 37 (h * 3 + a) = nI G ∧ m.1 12 (n * 3 + a) = pl) (hG0 : av = none → G = 0) (hG : G < 64) (htd : nI 0 + m.1 12 (n * 3 + 0) + m.1 12 (n * 3 + 1) + m.1 12 (n * 3 + 2) = told) (hlm : m.1 38 n = lim) (htl : m.1 10 (p * 3 + n) = tl) (hlw : m.1 35 7 = nI lw) (hl3 : lw < 3) : Ca O (d + 2) kX5_allows [.ref 8, .ref 35, .int (nI p), .int (nI n)] (some (.int (bI (mT (k.testBit p) G told lim lw tl pl)))) m m := by
  have hq := pc6_le G
  show Go O (d + 2) kX5_allows _ m 0 [.ref 8, .ref 35, .int (nI p), .int (nI n), .null] [] m
  cases av with
  | none =>
    obtain rfl := hG0 rfl
    refine go_aload_n dX5_allows_0 rfl ?_
    refine go_iload_n dX5_allows_1 rfl ?_
    refine go_aload_n dX5_allows_2 rfl ?_
    refine go_geti dX5_allows_3 fX5_41 rfl (by decide) (by decide) (by decide) rfl hh ?_
    refine go_callV1 (K' := kX1_placeOf) [_, _] dX5_allows_6 mX5_45 lX1_placeOf rfl (by decide) rfl (by decide) rfl rfl (Nat.le_of_ble_eq_true rfl) (Nat.le_of_ble_eq_true rfl) (c_placeOf_35 hp h6 hpl) ?_
    refine go_istore (L' := [_, _, _, _, _]) dX5_allows_9 (by decide) rfl ?_
    refine go_aload_n dX5_allows_11 rfl ?_
    refine go_iload_n dX5_allows_12 rfl ?_
    refine go_iload_n dX5_allows_13 rfl ?_
    refine go_callV1 (K' := kX5_knows) [_, _] dX5_allows_14 mX5_49 lX5_knows rfl (by decide) rfl (by decide) rfl rfl (Nat.le_of_ble_eq_true rfl) (Nat.le_of_ble_eq_true rfl) (c_knows_8 hp hn hk hkn) ?_
    refine go_if_eq 36 dX5_allows_17 (by decide) (fun h17 => ?_) (fun h17 => ?_)
    · refine go_iconst (nI 0) dX5_allows_36 (by decide +kernel) ?_
      exact go_zret dX5_allows_37 rfl (by first | exact Or.inl rfl | exact Or.inr rfl) (by rw [mT_0]; rfl) rfl
    · refine go_aload_n dX5_allows_20 rfl ?_
      refine go_aload_n dX5_allows_21 rfl ?_
      refine go_geti dX5_allows_22 fX5_41 rfl (by decide) (by decide) (by decide) rfl hh ?_
      refine go_iload dX5_allows_25 rfl ?_
      refine go_callV1 (K' := kX1_group) [_, _] dX5_allows_27 mX5_53 lX1_group rfl (by decide) rfl (by decide) rfl rfl (Nat.le_of_ble_eq_true rfl) (Nat.le_of_ble_eq_true rfl) (c_group9_35) ?_
      refine go_callS1 (K' := kX1_isCompany) [_] dX5_allows_30 mX5_56 lX1_isCompany rfl rfl (Nat.le_of_ble_eq_true rfl) (Nat.le_of_ble_eq_true rfl) (c_isCompany (by omega)) ?_
      refine go_if_ne 38 dX5_allows_33 (by decide) (fun h => absurd h (fun z => z (by decide +kernel))) (fun h33 => ?_)
      refine go_iconst (nI 0) dX5_allows_36 (by decide +kernel) ?_
      exact go_zret dX5_allows_37 rfl (by first | exact Or.inl rfl | exact Or.inr rfl) (by rw [mT_0]; rfl) rfl
  | some a =>
    obtain ⟨ha, hg, hpa⟩ := ha3 a rfl
    replace hpl : m.1 36 (p * 6 + h) = nI a := hpl
    generalize hB : mT (k.testBit p) G told lim lw tl pl = B
    refine go_aload_n dX5_allows_0 rfl ?_
    refine go_iload_n dX5_allows_1 rfl ?_
    refine go_aload_n dX5_allows_2 rfl ?_
    refine go_geti dX5_allows_3 fX5_41 rfl (by decide) (by decide) (by decide) rfl hh ?_
    refine go_callV1 (K' := kX1_placeOf) [_, _] dX5_allows_6 mX5_45 lX1_placeOf rfl (by decide) rfl (by decide) rfl rfl (Nat.le_of_ble_eq_true rfl) (Nat.le_of_ble_eq_true rfl) (c_placeOf_35 hp h6 hpl) ?_
    refine go_istore (L' := [_, _, _, _, _]) dX5_allows_9 (by decide) rfl ?_
    refine go_aload_n dX5_allows_11 rfl ?_
    refine go_iload_n dX5_allows_12 rfl ?_
    refine go_iload_n dX5_allows_13 rfl ?_
    refine go_callV1 (K' := kX5_knows) [_, _] dX5_allows_14 mX5_49 lX5_knows rfl (by decide) rfl (by decide) rfl rfl (Nat.le_of_ble_eq_true rfl) (Nat.le_of_ble_eq_true rfl) (c_knows_8 hp hn hk hkn) ?_
    refine go_if_eq 36 dX5_allows_17 (by decide) (fun h17 => ?_) (fun h17 => ?_)
    · have er : B = false := by rw [← hB, bI_0.mp h17, mT_k]
      refine go_iconst (nI 0) dX5_allows_36 (by decide +kernel) ?_
      exact go_zret dX5_allows_37 rfl (by first | exact Or.inl rfl | exact Or.inr rfl) (by rw [er]; rfl) rfl
    · have e1 := bI_n0.mp h17
      refine go_aload_n dX5_allows_20 rfl ?_
      refine go_aload_n dX5_allows_21 rfl ?_
      refine go_geti dX5_allows_22 fX5_41 rfl (by decide) (by decide) (by decide) rfl hh ?_
      refine go_iload dX5_allows_25 rfl ?_
      refine go_callV1 (K' := kX1_group) [_, _] dX5_allows_27 mX5_53 lX1_group rfl (by decide) rfl (by decide) rfl rfl (Nat.le_of_ble_eq_true rfl) (Nat.le_of_ble_eq_true rfl) (c_group_35 h6 ha hg) ?_
      refine go_callS1 (K' := kX1_isCompany) [_] dX5_allows_30 mX5_56 lX1_isCompany rfl rfl (Nat.le_of_ble_eq_true rfl) (Nat.le_of_ble_eq_true rfl) (c_isCompany hG) ?_
      refine go_if_ne 38 dX5_allows_33 (by decide) (fun h33 => ?_) (fun h33 => ?_)
      · have e2 : 1 < pc6 G := by simpa using bI_n0.mp h33
        refine go_aload_n dX5_allows_38 rfl ?_
        refine go_iload_n dX5_allows_39 rfl ?_
        refine go_callV1 (K' := kX5_tellingsOf) [_] dX5_allows_40 mX5_60 lX5_tellingsOf rfl (by decide) rfl (by decide) rfl rfl (Nat.le_of_ble_eq_true rfl) (Nat.le_of_ble_eq_true rfl) (c_tellingsOf_8 hn) ?_
        refine go_aload_n dX5_allows_43 rfl ?_
        refine go_getc dX5_allows_44 fX5_64 rfl (by decide) (by decide) (by decide) rfl ?_
        refine go_iload_n dX5_allows_47 rfl ?_
        refine go_iald dX5_allows_48 rfl (by decide) rfl (by omega) (by decide) hlm ?_
        refine go_icmp_lt 54 dX5_allows_49 (by decide) (fun h49 => ?_) (fun h49 => ?_)
        · rw [htd] at h49
          rw [e1, mT_v lw tl pl e2 h49] at hB
          refine go_aload_n dX5_allows_54 rfl ?_
          refine go_geti dX5_allows_55 fX5_67 rfl (by decide) (by decide) (by decide) rfl hlw ?_
          match lw, hl3, hlw, hB with
          | 0, _, _, hB =>
            have er : B = true := by rw [← hB]; rfl
            refine go_lookup 129 dX5_allows_58 (by decide +kernel) (off := 71) (by decide +kernel) (by decide) ?_
            refine go_iconst (nI 1) dX5_allows_129 (by decide +kernel) ?_
            exact go_zret dX5_allows_130 rfl (by first | exact Or.inl rfl | exact Or.inr rfl) (by rw [er]; rfl) rfl
          | 1, _, _, hB =>
            refine go_lookup 84 dX5_allows_58 (by decide +kernel) (off := 26) (by decide +kernel) (by decide) ?_
            refine go_aload_n dX5_allows_84 rfl ?_
            refine go_getc dX5_allows_85 fX5_15 rfl (by decide) (by decide) (by decide) rfl ?_
            refine go_iload_n dX5_allows_88 rfl ?_
            refine go_iconst (nI 3) dX5_allows_89 (by decide +kernel) ?_
            first | refine go_imul_n dX5_allows_90 ?_ | refine go_imul dX5_allows_90 rfl ?_
            refine go_iload_n dX5_allows_91 rfl ?_
            first | refine go_iadd_n dX5_allows_92 ?_ | refine go_iadd dX5_allows_92 rfl ?_
            refine go_iald dX5_allows_93 rfl (by decide) rfl (by omega) (by decide) htl ?_
            refine go_if_ne 101 dX5_allows_94 (by decide) (fun h94 => ?_) (fun h94 => ?_)
            · have er : B = false := by rw [← hB]; simp [show ¬ tl = 0 from h94]
              refine go_iconst (nI 0) dX5_allows_101 (by decide +kernel) ?_
              exact go_zret dX5_allows_102 rfl (by first | exact Or.inl rfl | exact Or.inr rfl) (by rw [er]; rfl) rfl
            · have er : B = true := by rw [← hB]; simp [show tl = 0 from h94]
              refine go_iconst (nI 1) dX5_allows_97 (by decide +kernel) ?_
              refine go_goto 102 dX5_allows_98 (by decide) ?_
              exact go_zret dX5_allows_102 rfl (by first | exact Or.inl rfl | exact Or.inr rfl) (by rw [er]; rfl) rfl
          | 2, _, _, hB =>
            refine go_lookup 103 dX5_allows_58 (by decide +kernel) (off := 45) (by decide +kernel) (by decide) ?_
            refine go_iload dX5_allows_103 rfl ?_
            refine go_if_lt 127 dX5_allows_105 (by decide) (fun h => absurd h (nI_pos (by omega))) (fun h105 => ?_)
            refine go_aload_n dX5_allows_108 rfl ?_
            refine go_getc dX5_allows_109 fX5_21 rfl (by decide) (by decide) (by decide) rfl ?_
            refine go_iload_n dX5_allows_112 rfl ?_
            refine go_iconst (nI 3) dX5_allows_113 (by decide +kernel) ?_
            first | refine go_imul_n dX5_allows_114 ?_ | refine go_imul dX5_allows_114 rfl ?_
            refine go_iload dX5_allows_115 rfl ?_
            first | refine go_iadd_n dX5_allows_117 ?_ | refine go_iadd dX5_allows_117 rfl ?_
            refine go_iald dX5_allows_118 rfl (by decide) rfl (by omega) (by decide) hpa ?_
            refine go_iconst (nI 3) dX5_allows_119 (by decide +kernel) ?_
            refine go_icmp_ge 127 dX5_allows_120 (by decide) (fun h120 => ?_) (fun h120 => ?_)
            · have er : B = false := by
                have z3 : ¬ pl < 3 := Int32.not_lt.mpr h120
                rw [← hB]; simp [z3]
              refine go_iconst (nI 0) dX5_allows_127 (by decide +kernel) ?_
              exact go_zret dX5_allows_128 rfl (by first | exact Or.inl rfl | exact Or.inr rfl) (by rw [er]; rfl) rfl
            · have er : B = true := by
                have z3 : pl < 3 := Int32.not_le.mp h120
                rw [← hB]; simp [z3]
              refine go_iconst (nI 1) dX5_allows_123 (by decide +kernel) ?_
              refine go_goto 128 dX5_allows_124 (by decide) ?_
              exact go_zret dX5_allows_128 rfl (by first | exact Or.inl rfl | exact Or.inr rfl) (by rw [er]; rfl) rfl
        · rw [htd] at h49
          have er : B = false := by rw [← hB, mT_l _ _ _ _ _ h49]
          refine go_iconst (nI 0) dX5_allows_52 (by decide +kernel) ?_
          exact go_zret dX5_allows_53 rfl (by first | exact Or.inl rfl | exact Or.inr rfl) (by rw [er]; rfl) rfl
      · have er : B = false := by rw [← hB, mT_g _ _ _ _ _ _ (by simpa using bI_0.mp h33)]
        refine go_iconst (nI 0) dX5_allows_36 (by decide +kernel) ?_
        exact go_zret dX5_allows_37 rfl (by first | exact Or.inl rfl | exact Or.inr rfl) (by rw [er]; rfl) rfl
theorem c_count_8_35 {O : gOm} {d : Nat} {m : gMem} {P h p n a G : Nat} {st : Int32} (hh : m.1 8 4 = nI h) (h6 : h < 6) (hp : p < 6) (hn : n < 3) (ha : a < 3) (hpl : m.1 36 (p * 6 + h) = nI a) (hG : m.1 37 (h * 3 + a) = nI G) (hG6 : G < 64) (hP : m.1 35 5 = nI P) (hP6 : P ≤ 6) : Ca O (d + 1) kX5_count [.ref 8, .ref 35, .int (nI p), .int (nI n), .int st] none m (ctM m 8 p n a G P st) := by
  have key : ∀ c q, q + c = P → Go O (d + 1) kX5_count none (ctM m 8 p n a G P st) 63 [.ref 8, .ref 35, .int (nI p), .int (nI n), .int st, .int (nI a), .int (nI G), .int (nI q)] [] (gupA (ctB m 8 p n a st) 11 (atX (m.1 11) n G st q)) := by
    intro c
    induction c with
    | zero =>
      intro q hq
      obtain rfl : q = P := by omega
      refine go_iload dX5_count_63 rfl ?_
      refine go_aload_n dX5_count_65 rfl ?_
      refine go_geti dX5_count_66 fX5_85 rfl (by decide) (by decide) (by decide) rfl hP ?_
      refine go_icmp_ge 102 dX5_count_69 (by decide) (fun h69 => ?_) (fun h => absurd (nI_le (by omega) (by omega)) h)
      exact go_vret dX5_count_102 rfl rfl rfl
    | succ c ih =>
      intro q hq
      refine go_iload dX5_count_63 rfl ?_
      refine go_aload_n dX5_count_65 rfl ?_
      refine go_geti dX5_count_66 fX5_85 rfl (by decide) (by decide) (by decide) rfl hP ?_
      refine go_icmp_ge 102 dX5_count_69 (by decide) (fun h => absurd h (nI_ge (by omega) (by omega))) (fun h69 => ?_)
      refine go_aload_n dX5_count_72 rfl ?_
      refine go_getc dX5_count_73 fX5_18 rfl (by decide) (by decide) (by decide) rfl ?_
      refine go_iload dX5_count_76 rfl ?_
      refine go_iconst (nI 3) dX5_count_78 (by decide +kernel) ?_
      first | refine go_imul_n dX5_count_79 ?_ | refine go_imul dX5_count_79 rfl ?_
      refine go_iload_n dX5_count_80 rfl ?_
      first | refine go_iadd_n dX5_count_81 ?_ | refine go_iadd dX5_count_81 rfl ?_
      refine go_dup2 dX5_count_82 rfl rfl ?_
      refine go_ialdA dX5_count_83 rfl (by decide) rfl (by omega) (by decide) rfl ?_
      refine go_iload dX5_count_84 rfl ?_
      refine go_iload dX5_count_86 rfl ?_
      refine go_ishr dX5_count_88 rfl ?_
      refine go_iconst (nI 1) dX5_count_89 (by decide +kernel) ?_
      refine go_iand dX5_count_90 (nb_bit (by omega) (by omega)) ?_
      refine go_iload dX5_count_91 rfl ?_
      refine go_imul dX5_count_93 rfl ?_
      refine go_iadd dX5_count_94 rfl ?_
      refine go_iastA dX5_count_95 rfl (by decide) rfl (by omega) (by decide) ?_
      refine go_iinc_n (L' := [_, _, _, _, _, _, _, _]) dX5_count_96 rfl (by decide) rfl ?_
      refine go_goto 63 dX5_count_99 (by decide) ?_
      exact ih (q + 1) (by omega)
  show Go O (d + 1) kX5_count none _ 0 [.ref 8, .ref 35, .int (nI p), .int (nI n), .int st, .null, .null, .null] [] m
  refine go_aload_n dX5_count_0 rfl ?_
  refine go_iload_n dX5_count_1 rfl ?_
  refine go_aload_n dX5_count_2 rfl ?_
  refine go_geti dX5_count_3 fX5_41 rfl (by decide) (by decide) (by decide) rfl hh ?_
  refine go_callV1 (K' := kX1_placeOf) [_, _] dX5_count_6 mX5_45 lX1_placeOf rfl (by decide) rfl (by decide) rfl rfl (Nat.le_of_ble_eq_true rfl) (Nat.le_of_ble_eq_true rfl) (c_placeOf_35 hp h6 hpl) ?_
  refine go_istore (L' := [_, _, _, _, _, _, _, _]) dX5_count_9 (by decide) rfl ?_
  refine go_iload dX5_count_11 rfl ?_
  refine go_if_ge 17 dX5_count_13 (by decide) (fun h13 => ?_) (fun h => absurd (nI_pos' (by omega)) h)
  refine go_aload_n dX5_count_17 rfl ?_
  refine go_getc dX5_count_18 fX5_15 rfl (by decide) (by decide) (by decide) rfl ?_
  refine go_iload_n dX5_count_21 rfl ?_
  refine go_iconst (nI 3) dX5_count_22 (by decide +kernel) ?_
  first | refine go_imul_n dX5_count_23 ?_ | refine go_imul dX5_count_23 rfl ?_
  refine go_iload_n dX5_count_24 rfl ?_
  first | refine go_iadd_n dX5_count_25 ?_ | refine go_iadd dX5_count_25 rfl ?_
  refine go_dup2 dX5_count_26 rfl rfl ?_
  refine go_iald dX5_count_27 rfl (by decide) rfl (by omega) (by decide) rfl ?_
  refine go_iload dX5_count_28 rfl ?_
  refine go_iadd dX5_count_30 rfl ?_
  refine go_iast dX5_count_31 rfl (by decide) rfl (by omega) (by decide) ?_
  refine go_mem (m1 := ctA m 8 p n st) (gup_asA _ _ _ _) ?_
  refine go_aload_n dX5_count_32 rfl ?_
  refine go_getc dX5_count_33 fX5_21 rfl (by decide) (by decide) (by decide) rfl ?_
  refine go_iload_n dX5_count_36 rfl ?_
  refine go_iconst (nI 3) dX5_count_37 (by decide +kernel) ?_
  first | refine go_imul_n dX5_count_38 ?_ | refine go_imul dX5_count_38 rfl ?_
  refine go_iload dX5_count_39 rfl ?_
  first | refine go_iadd_n dX5_count_41 ?_ | refine go_iadd dX5_count_41 rfl ?_
  refine go_dup2 dX5_count_42 rfl rfl ?_
  refine go_iald dX5_count_43 rfl (by decide) rfl (by omega) (by decide) rfl ?_
  refine go_iload dX5_count_44 rfl ?_
  refine go_iadd dX5_count_46 rfl ?_
  refine go_iast dX5_count_47 rfl (by decide) rfl (by omega) (by decide) ?_
  refine go_mem (m1 := ctB m 8 p n a st) (gup_asA _ _ _ _) ?_
  refine go_aload_n dX5_count_48 rfl ?_
  refine go_aload_n dX5_count_49 rfl ?_
  refine go_geti dX5_count_50 fX5_41 rfl (by decide) (by decide) (by decide) rfl hh ?_
  refine go_iload dX5_count_53 rfl ?_
  refine go_callV1 (K' := kX1_group) [_, _] dX5_count_55 mX5_53 lX1_group rfl (by decide) rfl (by decide) rfl rfl (Nat.le_of_ble_eq_true rfl) (Nat.le_of_ble_eq_true rfl) (c_group_35 h6 ha hG) ?_
  refine go_istore (L' := [_, _, _, _, _, _, _, _]) dX5_count_58 (by decide) rfl ?_
  refine go_mem (gupA_self (ctB m 8 p n a st) 11).symm ?_
  refine go_iconst (nI 0) dX5_count_60 (by decide +kernel) ?_
  refine go_istore (L' := [_, _, _, _, _, _, _, _]) dX5_count_61 (by decide) rfl ?_
  exact key P 0 (by omega)
theorem c_joinHalves_4 {O : gOm} {d : Nat} {m : gMem} {N : Nat} (hN : N ≤ 3) : Ca O d kX6_joinHalves [.ref 4, .int (nI N)] none m (gupA m 4 (jhP (m.1 4) N)) := by
  show Go O d kX6_joinHalves none _ 0 [.ref 4, .int (nI N)] [] m
  refine go_iload_n dX6_joinHalves_0 rfl ?_
  refine go_iconst (nI 3) dX6_joinHalves_1 (by decide +kernel) ?_
  refine go_icmp_ne 18 dX6_joinHalves_2 (by decide) (fun h2 => ?_) (fun h2 => ?_)
  · have z : ¬ N = 3 := fun z => h2 (by rw [z])
    have em : gupA m 4 (jhP (m.1 4) N) = m := by rw [jhP, if_neg z, gupA_self]
    exact go_vret dX6_joinHalves_18 rfl rfl em
  · have z : N = 3 := (nI_eq (by omega) (by omega)).mp h2
    have em : gupA m 4 (jhP (m.1 4) N) = gup m 4 2 (m.1 4 2 ||| (m.1 4 0 &&& m.1 4 1)) := by rw [jhP, if_pos z, ← gup_asA]
    refine go_aload_n dX6_joinHalves_5 rfl ?_
    refine go_iconst (nI 2) dX6_joinHalves_6 (by decide +kernel) ?_
    refine go_dup2 dX6_joinHalves_7 rfl rfl ?_
    refine go_iald dX6_joinHalves_8 rfl (by decide) rfl (by decide) (by decide) rfl ?_
    refine go_aload_n dX6_joinHalves_9 rfl ?_
    refine go_iconst (nI 0) dX6_joinHalves_10 (by decide +kernel) ?_
    refine go_iald dX6_joinHalves_11 rfl (by decide) rfl (by decide) (by decide) rfl ?_
    refine go_aload_n dX6_joinHalves_12 rfl ?_
    refine go_iconst (nI 1) dX6_joinHalves_13 (by decide +kernel) ?_
    refine go_iald dX6_joinHalves_14 rfl (by decide) rfl (by decide) (by decide) rfl ?_
    refine go_iand dX6_joinHalves_15 rfl ?_
    refine go_ior dX6_joinHalves_16 rfl ?_
    refine go_iast dX6_joinHalves_17 rfl (by decide) rfl (by decide) (by decide) ?_
    exact go_vret dX6_joinHalves_18 rfl rfl em
theorem c_joinHalves_9 {O : gOm} {d : Nat} {m : gMem} {N : Nat} (hN : N ≤ 3) : Ca O d kX6_joinHalves [.ref 9, .int (nI N)] none m (gupA m 9 (jhP (m.1 9) N)) := by
  show Go O d kX6_joinHalves none _ 0 [.ref 9, .int (nI N)] [] m
  refine go_iload_n dX6_joinHalves_0 rfl ?_
  refine go_iconst (nI 3) dX6_joinHalves_1 (by decide +kernel) ?_
  refine go_icmp_ne 18 dX6_joinHalves_2 (by decide) (fun h2 => ?_) (fun h2 => ?_)
  · have z : ¬ N = 3 := fun z => h2 (by rw [z])
    have em : gupA m 9 (jhP (m.1 9) N) = m := by rw [jhP, if_neg z, gupA_self]
    exact go_vret dX6_joinHalves_18 rfl rfl em
  · have z : N = 3 := (nI_eq (by omega) (by omega)).mp h2
    have em : gupA m 9 (jhP (m.1 9) N) = gup m 9 2 (m.1 9 2 ||| (m.1 9 0 &&& m.1 9 1)) := by rw [jhP, if_pos z, ← gup_asA]
    refine go_aload_n dX6_joinHalves_5 rfl ?_
    refine go_iconst (nI 2) dX6_joinHalves_6 (by decide +kernel) ?_
    refine go_dup2 dX6_joinHalves_7 rfl rfl ?_
    refine go_iald dX6_joinHalves_8 rfl (by decide) rfl (by decide) (by decide) rfl ?_
    refine go_aload_n dX6_joinHalves_9 rfl ?_
    refine go_iconst (nI 0) dX6_joinHalves_10 (by decide +kernel) ?_
    refine go_iald dX6_joinHalves_11 rfl (by decide) rfl (by decide) (by decide) rfl ?_
    refine go_aload_n dX6_joinHalves_12 rfl ?_
    refine go_iconst (nI 1) dX6_joinHalves_13 (by decide +kernel) ?_
    refine go_iald dX6_joinHalves_14 rfl (by decide) rfl (by decide) (by decide) rfl ?_
    refine go_iand dX6_joinHalves_15 rfl ?_
    refine go_ior dX6_joinHalves_16 rfl ?_
    refine go_iast dX6_joinHalves_17 rfl (by decide) rfl (by decide) (by decide) ?_
    exact go_vret dX6_joinHalves_18 rfl rfl em
theorem c_joinHalves_34 {O : gOm} {d : Nat} {m : gMem} {N : Nat} (hN : N ≤ 3) : Ca O d kX6_joinHalves [.ref 34, .int (nI N)] none m (gupA m 34 (jhP (m.1 34) N)) := by
  show Go O d kX6_joinHalves none _ 0 [.ref 34, .int (nI N)] [] m
  refine go_iload_n dX6_joinHalves_0 rfl ?_
  refine go_iconst (nI 3) dX6_joinHalves_1 (by decide +kernel) ?_
  refine go_icmp_ne 18 dX6_joinHalves_2 (by decide) (fun h2 => ?_) (fun h2 => ?_)
  · have z : ¬ N = 3 := fun z => h2 (by rw [z])
    have em : gupA m 34 (jhP (m.1 34) N) = m := by rw [jhP, if_neg z, gupA_self]
    exact go_vret dX6_joinHalves_18 rfl rfl em
  · have z : N = 3 := (nI_eq (by omega) (by omega)).mp h2
    have em : gupA m 34 (jhP (m.1 34) N) = gup m 34 2 (m.1 34 2 ||| (m.1 34 0 &&& m.1 34 1)) := by rw [jhP, if_pos z, ← gup_asA]
    refine go_aload_n dX6_joinHalves_5 rfl ?_
    refine go_iconst (nI 2) dX6_joinHalves_6 (by decide +kernel) ?_
    refine go_dup2 dX6_joinHalves_7 rfl rfl ?_
    refine go_iald dX6_joinHalves_8 rfl (by decide) rfl (by decide) (by decide) rfl ?_
    refine go_aload_n dX6_joinHalves_9 rfl ?_
    refine go_iconst (nI 0) dX6_joinHalves_10 (by decide +kernel) ?_
    refine go_iald dX6_joinHalves_11 rfl (by decide) rfl (by decide) (by decide) rfl ?_
    refine go_aload_n dX6_joinHalves_12 rfl ?_
    refine go_iconst (nI 1) dX6_joinHalves_13 (by decide +kernel) ?_
    refine go_iald dX6_joinHalves_14 rfl (by decide) rfl (by decide) (by decide) rfl ?_
    refine go_iand dX6_joinHalves_15 rfl ?_
    refine go_ior dX6_joinHalves_16 rfl ?_
    refine go_iast dX6_joinHalves_17 rfl (by decide) rfl (by decide) (by decide) ?_
    exact go_vret dX6_joinHalves_18 rfl rfl em
theorem c_joinHalves_40 {O : gOm} {d : Nat} {m : gMem} {N : Nat} (hN : N ≤ 3) : Ca O d kX6_joinHalves [.ref 40, .int (nI N)] none m (gupA m 40 (jhP (m.1 40) N)) := by
  show Go O d kX6_joinHalves none _ 0 [.ref 40, .int (nI N)] [] m
  refine go_iload_n dX6_joinHalves_0 rfl ?_
  refine go_iconst (nI 3) dX6_joinHalves_1 (by decide +kernel) ?_
  refine go_icmp_ne 18 dX6_joinHalves_2 (by decide) (fun h2 => ?_) (fun h2 => ?_)
  · have z : ¬ N = 3 := fun z => h2 (by rw [z])
    have em : gupA m 40 (jhP (m.1 40) N) = m := by rw [jhP, if_neg z, gupA_self]
    exact go_vret dX6_joinHalves_18 rfl rfl em
  · have z : N = 3 := (nI_eq (by omega) (by omega)).mp h2
    have em : gupA m 40 (jhP (m.1 40) N) = gup m 40 2 (m.1 40 2 ||| (m.1 40 0 &&& m.1 40 1)) := by rw [jhP, if_pos z, ← gup_asA]
    refine go_aload_n dX6_joinHalves_5 rfl ?_
    refine go_iconst (nI 2) dX6_joinHalves_6 (by decide +kernel) ?_
    refine go_dup2 dX6_joinHalves_7 rfl rfl ?_
    refine go_iald dX6_joinHalves_8 rfl (by decide) rfl (by decide) (by decide) rfl ?_
    refine go_aload_n dX6_joinHalves_9 rfl ?_
    refine go_iconst (nI 0) dX6_joinHalves_10 (by decide +kernel) ?_
    refine go_iald dX6_joinHalves_11 rfl (by decide) rfl (by decide) (by decide) rfl ?_
    refine go_aload_n dX6_joinHalves_12 rfl ?_
    refine go_iconst (nI 1) dX6_joinHalves_13 (by decide +kernel) ?_
    refine go_iald dX6_joinHalves_14 rfl (by decide) rfl (by decide) (by decide) rfl ?_
    refine go_iand dX6_joinHalves_15 rfl ?_
    refine go_ior dX6_joinHalves_16 rfl ?_
    refine go_iast dX6_joinHalves_17 rfl (by decide) rfl (by decide) (by decide) ?_
    exact go_vret dX6_joinHalves_18 rfl rfl em
theorem c_spread_3_29 {O : gOm} {d : Nat} {m : gMem} {P N h p n a G k : Nat} (hh : m.1 3 4 = nI h) (h6 : h < 6) (hp : p < 6) (hn : n < 3) (ha : a < 3) (hpl : m.1 30 (p * 6 + h) = nI a) (hG : m.1 31 (h * 3 + a) = nI G) (hG6 : G < 64) (hP : m.1 29 5 = nI P) (hP6 : P ≤ 6) (hN : m.1 29 6 = nI N) (hN3 : N ≤ 3) (hkn : m.1 4 n = nI k) (hk : k < 64) : Ca O (d + 2) kX5_spread [.ref 3, .ref 29, .int (nI p), .int (nI n)] (some (.int (nI (pc6 (G &&& (k ^^^ 63)))))) m (gupA (ctM m 3 p n a G P (nI 1)) 4 (jhP (upd (m.1 4) n (nI (k ||| G))) N)) := by
  show Go O (d + 2) kX5_spread _ _ 0 [.ref 3, .ref 29, .int (nI p), .int (nI n), .null, .null] [] m
  have hnk : G &&& (k ^^^ 63) < 64 := Nat.lt_of_le_of_lt Nat.and_le_left hG6
  refine go_aload_n dX5_spread_0 rfl ?_
  refine go_aload_n dX5_spread_1 rfl ?_
  refine go_geti dX5_spread_2 fX5_41 rfl (by decide) (by decide) (by decide) rfl hh ?_
  refine go_aload_n dX5_spread_5 rfl ?_
  refine go_iload_n dX5_spread_6 rfl ?_
  refine go_aload_n dX5_spread_7 rfl ?_
  refine go_geti dX5_spread_8 fX5_41 rfl (by decide) (by decide) (by decide) rfl hh ?_
  refine go_callV1 (K' := kX1_placeOf) [_, _] dX5_spread_11 mX5_45 lX1_placeOf rfl (by decide) rfl (by decide) rfl rfl (Nat.le_of_ble_eq_true rfl) (Nat.le_of_ble_eq_true rfl) (c_placeOf_29 hp h6 hpl) ?_
  refine go_callV1 (K' := kX1_group) [_, _] dX5_spread_14 mX5_53 lX1_group rfl (by decide) rfl (by decide) rfl rfl (Nat.le_of_ble_eq_true rfl) (Nat.le_of_ble_eq_true rfl) (c_group_29 h6 ha hG) ?_
  refine go_istore (L' := [_, _, _, _, _, _]) dX5_spread_17 (by decide) rfl ?_
  refine go_iload dX5_spread_19 rfl ?_
  refine go_aload_n dX5_spread_21 rfl ?_
  refine go_getc dX5_spread_22 fX5_9 rfl (by decide) (by decide) (by decide) rfl ?_
  refine go_iload_n dX5_spread_25 rfl ?_
  refine go_iald dX5_spread_26 rfl (by decide) rfl (by omega) (by decide) hkn ?_
  refine go_iconst (-1) dX5_spread_27 (by decide +kernel) ?_
  refine go_ixor dX5_spread_28 rfl ?_
  refine go_iand dX5_spread_29 (nk_eq G hG6 k hk) ?_
  refine go_callS1 (K' := kJ6_bitCount_0f7a4) [_] dX5_spread_30 mX5_70 lJ6_bitCount_0f7a4 rfl rfl (Nat.le_of_ble_eq_true rfl) (Nat.le_of_ble_eq_true rfl) (c_bitCount hnk) ?_
  refine go_istore (L' := [_, _, _, _, _, _]) dX5_spread_33 (by decide) rfl ?_
  refine go_aload_n dX5_spread_35 rfl ?_
  refine go_aload_n dX5_spread_36 rfl ?_
  refine go_iload_n dX5_spread_37 rfl ?_
  refine go_iload_n dX5_spread_38 rfl ?_
  refine go_iconst (nI 1) dX5_spread_39 (by decide +kernel) ?_
  refine go_callV0 (K' := kX5_count) [_, _, _, _] dX5_spread_40 mX5_75 lX5_count rfl (by decide) rfl (by decide) rfl rfl (Nat.le_of_ble_eq_true rfl) (Nat.le_of_ble_eq_true rfl) (c_count_3_29 hh h6 hp hn ha hpl hG hG6 hP hP6) ?_
  refine go_aload_n dX5_spread_43 rfl ?_
  refine go_getc dX5_spread_44 fX5_9 rfl (by decide) (by decide) (by decide) rfl ?_
  refine go_iload_n dX5_spread_47 rfl ?_
  refine go_dup2 dX5_spread_48 rfl rfl ?_
  refine go_iald dX5_spread_49 rfl (by decide) rfl (by omega) (by decide) hkn ?_
  refine go_iload dX5_spread_50 rfl ?_
  refine go_ior dX5_spread_52 (nb_or _ _) ?_
  refine go_iast dX5_spread_53 rfl (by decide) rfl (by omega) (by decide) ?_
  refine go_mem (m1 := (gupA (ctM m 3 p n a G P (nI 1)) 4 (upd (m.1 4) n (nI (k ||| G))))) (gup_asA _ _ _ _) ?_
  refine go_aload_n dX5_spread_54 rfl ?_
  refine go_getc dX5_spread_55 fX5_9 rfl (by decide) (by decide) (by decide) rfl ?_
  refine go_aload_n dX5_spread_58 rfl ?_
  refine go_geti dX5_spread_59 fX5_79 rfl (by decide) (by decide) (by decide) rfl hN ?_
  refine go_callS0 (K' := kX6_joinHalves) [_, _] dX5_spread_62 mX5_82 lX6_joinHalves rfl rfl (Nat.le_of_ble_eq_true rfl) (Nat.le_of_ble_eq_true rfl) (c_joinHalves_4 hN3) ?_
  refine go_iload dX5_spread_65 rfl ?_
  exact go_iret dX5_spread_67 rfl rfl (by rw [gupA_gupA, gupA_s])
theorem c_spread_3_35 {O : gOm} {d : Nat} {m : gMem} {P N h p n a G k : Nat} (hh : m.1 3 4 = nI h) (h6 : h < 6) (hp : p < 6) (hn : n < 3) (ha : a < 3) (hpl : m.1 36 (p * 6 + h) = nI a) (hG : m.1 37 (h * 3 + a) = nI G) (hG6 : G < 64) (hP : m.1 35 5 = nI P) (hP6 : P ≤ 6) (hN : m.1 35 6 = nI N) (hN3 : N ≤ 3) (hkn : m.1 4 n = nI k) (hk : k < 64) : Ca O (d + 2) kX5_spread [.ref 3, .ref 35, .int (nI p), .int (nI n)] (some (.int (nI (pc6 (G &&& (k ^^^ 63)))))) m (gupA (ctM m 3 p n a G P (nI 1)) 4 (jhP (upd (m.1 4) n (nI (k ||| G))) N)) := by
  show Go O (d + 2) kX5_spread _ _ 0 [.ref 3, .ref 35, .int (nI p), .int (nI n), .null, .null] [] m
  have hnk : G &&& (k ^^^ 63) < 64 := Nat.lt_of_le_of_lt Nat.and_le_left hG6
  refine go_aload_n dX5_spread_0 rfl ?_
  refine go_aload_n dX5_spread_1 rfl ?_
  refine go_geti dX5_spread_2 fX5_41 rfl (by decide) (by decide) (by decide) rfl hh ?_
  refine go_aload_n dX5_spread_5 rfl ?_
  refine go_iload_n dX5_spread_6 rfl ?_
  refine go_aload_n dX5_spread_7 rfl ?_
  refine go_geti dX5_spread_8 fX5_41 rfl (by decide) (by decide) (by decide) rfl hh ?_
  refine go_callV1 (K' := kX1_placeOf) [_, _] dX5_spread_11 mX5_45 lX1_placeOf rfl (by decide) rfl (by decide) rfl rfl (Nat.le_of_ble_eq_true rfl) (Nat.le_of_ble_eq_true rfl) (c_placeOf_35 hp h6 hpl) ?_
  refine go_callV1 (K' := kX1_group) [_, _] dX5_spread_14 mX5_53 lX1_group rfl (by decide) rfl (by decide) rfl rfl (Nat.le_of_ble_eq_true rfl) (Nat.le_of_ble_eq_true rfl) (c_group_35 h6 ha hG) ?_
  refine go_istore (L' := [_, _, _, _, _, _]) dX5_spread_17 (by decide) rfl ?_
  refine go_iload dX5_spread_19 rfl ?_
  refine go_aload_n dX5_spread_21 rfl ?_
  refine go_getc dX5_spread_22 fX5_9 rfl (by decide) (by decide) (by decide) rfl ?_
  refine go_iload_n dX5_spread_25 rfl ?_
  refine go_iald dX5_spread_26 rfl (by decide) rfl (by omega) (by decide) hkn ?_
  refine go_iconst (-1) dX5_spread_27 (by decide +kernel) ?_
  refine go_ixor dX5_spread_28 rfl ?_
  refine go_iand dX5_spread_29 (nk_eq G hG6 k hk) ?_
  refine go_callS1 (K' := kJ6_bitCount_0f7a4) [_] dX5_spread_30 mX5_70 lJ6_bitCount_0f7a4 rfl rfl (Nat.le_of_ble_eq_true rfl) (Nat.le_of_ble_eq_true rfl) (c_bitCount hnk) ?_
  refine go_istore (L' := [_, _, _, _, _, _]) dX5_spread_33 (by decide) rfl ?_
  refine go_aload_n dX5_spread_35 rfl ?_
  refine go_aload_n dX5_spread_36 rfl ?_
  refine go_iload_n dX5_spread_37 rfl ?_
  refine go_iload_n dX5_spread_38 rfl ?_
  refine go_iconst (nI 1) dX5_spread_39 (by decide +kernel) ?_
  refine go_callV0 (K' := kX5_count) [_, _, _, _] dX5_spread_40 mX5_75 lX5_count rfl (by decide) rfl (by decide) rfl rfl (Nat.le_of_ble_eq_true rfl) (Nat.le_of_ble_eq_true rfl) (c_count_3_35 hh h6 hp hn ha hpl hG hG6 hP hP6) ?_
  refine go_aload_n dX5_spread_43 rfl ?_
  refine go_getc dX5_spread_44 fX5_9 rfl (by decide) (by decide) (by decide) rfl ?_
  refine go_iload_n dX5_spread_47 rfl ?_
  refine go_dup2 dX5_spread_48 rfl rfl ?_
  refine go_iald dX5_spread_49 rfl (by decide) rfl (by omega) (by decide) hkn ?_
  refine go_iload dX5_spread_50 rfl ?_
  refine go_ior dX5_spread_52 (nb_or _ _) ?_
  refine go_iast dX5_spread_53 rfl (by decide) rfl (by omega) (by decide) ?_
  refine go_mem (m1 := (gupA (ctM m 3 p n a G P (nI 1)) 4 (upd (m.1 4) n (nI (k ||| G))))) (gup_asA _ _ _ _) ?_
  refine go_aload_n dX5_spread_54 rfl ?_
  refine go_getc dX5_spread_55 fX5_9 rfl (by decide) (by decide) (by decide) rfl ?_
  refine go_aload_n dX5_spread_58 rfl ?_
  refine go_geti dX5_spread_59 fX5_79 rfl (by decide) (by decide) (by decide) rfl hN ?_
  refine go_callS0 (K' := kX6_joinHalves) [_, _] dX5_spread_62 mX5_82 lX6_joinHalves rfl rfl (Nat.le_of_ble_eq_true rfl) (Nat.le_of_ble_eq_true rfl) (c_joinHalves_4 hN3) ?_
  refine go_iload dX5_spread_65 rfl ?_
  exact go_iret dX5_spread_67 rfl rfl (by rw [gupA_gupA, gupA_s])
theorem c_spread_8_29 {O : gOm} {d : Nat} {m : gMem} {P N h p n a G k : Nat} (hh : m.1 8 4 = nI h) (h6 : h < 6) (hp : p < 6) (hn : n < 3) (ha : a < 3) (hpl : m.1 30 (p * 6 + h) = nI a) (hG : m.1 31 (h * 3 + a) = nI G) (hG6 : G < 64) (hP : m.1 29 5 = nI P) (hP6 : P ≤ 6) (hN : m.1 29 6 = nI N) (hN3 : N ≤ 3) (hkn : m.1 9 n = nI k) (hk : k < 64) : Ca O (d + 2) kX5_spread [.ref 8, .ref 29, .int (nI p), .int (nI n)] (some (.int (nI (pc6 (G &&& (k ^^^ 63)))))) m (gupA (ctM m 8 p n a G P (nI 1)) 9 (jhP (upd (m.1 9) n (nI (k ||| G))) N)) := by
  show Go O (d + 2) kX5_spread _ _ 0 [.ref 8, .ref 29, .int (nI p), .int (nI n), .null, .null] [] m
  have hnk : G &&& (k ^^^ 63) < 64 := Nat.lt_of_le_of_lt Nat.and_le_left hG6
  refine go_aload_n dX5_spread_0 rfl ?_
  refine go_aload_n dX5_spread_1 rfl ?_
  refine go_geti dX5_spread_2 fX5_41 rfl (by decide) (by decide) (by decide) rfl hh ?_
  refine go_aload_n dX5_spread_5 rfl ?_
  refine go_iload_n dX5_spread_6 rfl ?_
  refine go_aload_n dX5_spread_7 rfl ?_
  refine go_geti dX5_spread_8 fX5_41 rfl (by decide) (by decide) (by decide) rfl hh ?_
  refine go_callV1 (K' := kX1_placeOf) [_, _] dX5_spread_11 mX5_45 lX1_placeOf rfl (by decide) rfl (by decide) rfl rfl (Nat.le_of_ble_eq_true rfl) (Nat.le_of_ble_eq_true rfl) (c_placeOf_29 hp h6 hpl) ?_
  refine go_callV1 (K' := kX1_group) [_, _] dX5_spread_14 mX5_53 lX1_group rfl (by decide) rfl (by decide) rfl rfl (Nat.le_of_ble_eq_true rfl) (Nat.le_of_ble_eq_true rfl) (c_group_29 h6 ha hG) ?_
  refine go_istore (L' := [_, _, _, _, _, _]) dX5_spread_17 (by decide) rfl ?_
  refine go_iload dX5_spread_19 rfl ?_
  refine go_aload_n dX5_spread_21 rfl ?_
  refine go_getc dX5_spread_22 fX5_9 rfl (by decide) (by decide) (by decide) rfl ?_
  refine go_iload_n dX5_spread_25 rfl ?_
  refine go_iald dX5_spread_26 rfl (by decide) rfl (by omega) (by decide) hkn ?_
  refine go_iconst (-1) dX5_spread_27 (by decide +kernel) ?_
  refine go_ixor dX5_spread_28 rfl ?_
  refine go_iand dX5_spread_29 (nk_eq G hG6 k hk) ?_
  refine go_callS1 (K' := kJ6_bitCount_0f7a4) [_] dX5_spread_30 mX5_70 lJ6_bitCount_0f7a4 rfl rfl (Nat.le_of_ble_eq_true rfl) (Nat.le_of_ble_eq_true rfl) (c_bitCount hnk) ?_
  refine go_istore (L' := [_, _, _, _, _, _]) dX5_spread_33 (by decide) rfl ?_
  refine go_aload_n dX5_spread_35 rfl ?_
  refine go_aload_n dX5_spread_36 rfl ?_
  refine go_iload_n dX5_spread_37 rfl ?_
  refine go_iload_n dX5_spread_38 rfl ?_
  refine go_iconst (nI 1) dX5_spread_39 (by decide +kernel) ?_
  refine go_callV0 (K' := kX5_count) [_, _, _, _] dX5_spread_40 mX5_75 lX5_count rfl (by decide) rfl (by decide) rfl rfl (Nat.le_of_ble_eq_true rfl) (Nat.le_of_ble_eq_true rfl) (c_count_8_29 hh h6 hp hn ha hpl hG hG6 hP hP6) ?_
  refine go_aload_n dX5_spread_43 rfl ?_
  refine go_getc dX5_spread_44 fX5_9 rfl (by decide) (by decide) (by decide) rfl ?_
  refine go_iload_n dX5_spread_47 rfl ?_
  refine go_dup2 dX5_spread_48 rfl rfl ?_
  refine go_iald dX5_spread_49 rfl (by decide) rfl (by omega) (by decide) hkn ?_
  refine go_iload dX5_spread_50 rfl ?_
  refine go_ior dX5_spread_52 (nb_or _ _) ?_
  refine go_iast dX5_spread_53 rfl (by decide) rfl (by omega) (by decide) ?_
  refine go_mem (m1 := (gupA (ctM m 8 p n a G P (nI 1)) 9 (upd (m.1 9) n (nI (k ||| G))))) (gup_asA _ _ _ _) ?_
  refine go_aload_n dX5_spread_54 rfl ?_
  refine go_getc dX5_spread_55 fX5_9 rfl (by decide) (by decide) (by decide) rfl ?_
  refine go_aload_n dX5_spread_58 rfl ?_
  refine go_geti dX5_spread_59 fX5_79 rfl (by decide) (by decide) (by decide) rfl hN ?_
  refine go_callS0 (K' := kX6_joinHalves) [_, _] dX5_spread_62 mX5_82 lX6_joinHalves rfl rfl (Nat.le_of_ble_eq_true rfl) (Nat.le_of_ble_eq_true rfl) (c_joinHalves_9 hN3) ?_
  refine go_iload dX5_spread_65 rfl ?_
  exact go_iret dX5_spread_67 rfl rfl (by rw [gupA_gupA, gupA_s])
theorem c_spread_8_35 {O : gOm} {d : Nat} {m : gMem} {P N h p n a G k : Nat} (hh : m.1 8 4 = nI h) (h6 : h < 6) (hp : p < 6) (hn : n < 3) (ha : a < 3) (hpl : m.1 36 (p * 6 + h) = nI a) (hG : m.1 37 (h * 3 + a) = nI G) (hG6 : G < 64) (hP : m.1 35 5 = nI P) (hP6 : P ≤ 6) (hN : m.1 35 6 = nI N) (hN3 : N ≤ 3) (hkn : m.1 9 n = nI k) (hk : k < 64) : Ca O (d + 2) kX5_spread [.ref 8, .ref 35, .int (nI p), .int (nI n)] (some (.int (nI (pc6 (G &&& (k ^^^ 63)))))) m (gupA (ctM m 8 p n a G P (nI 1)) 9 (jhP (upd (m.1 9) n (nI (k ||| G))) N)) := by
  show Go O (d + 2) kX5_spread _ _ 0 [.ref 8, .ref 35, .int (nI p), .int (nI n), .null, .null] [] m
  have hnk : G &&& (k ^^^ 63) < 64 := Nat.lt_of_le_of_lt Nat.and_le_left hG6
  refine go_aload_n dX5_spread_0 rfl ?_
  refine go_aload_n dX5_spread_1 rfl ?_
  refine go_geti dX5_spread_2 fX5_41 rfl (by decide) (by decide) (by decide) rfl hh ?_
  refine go_aload_n dX5_spread_5 rfl ?_
  refine go_iload_n dX5_spread_6 rfl ?_
  refine go_aload_n dX5_spread_7 rfl ?_
  refine go_geti dX5_spread_8 fX5_41 rfl (by decide) (by decide) (by decide) rfl hh ?_
  refine go_callV1 (K' := kX1_placeOf) [_, _] dX5_spread_11 mX5_45 lX1_placeOf rfl (by decide) rfl (by decide) rfl rfl (Nat.le_of_ble_eq_true rfl) (Nat.le_of_ble_eq_true rfl) (c_placeOf_35 hp h6 hpl) ?_
  refine go_callV1 (K' := kX1_group) [_, _] dX5_spread_14 mX5_53 lX1_group rfl (by decide) rfl (by decide) rfl rfl (Nat.le_of_ble_eq_true rfl) (Nat.le_of_ble_eq_true rfl) (c_group_35 h6 ha hG) ?_
  refine go_istore (L' := [_, _, _, _, _, _]) dX5_spread_17 (by decide) rfl ?_
  refine go_iload dX5_spread_19 rfl ?_
  refine go_aload_n dX5_spread_21 rfl ?_
  refine go_getc dX5_spread_22 fX5_9 rfl (by decide) (by decide) (by decide) rfl ?_
  refine go_iload_n dX5_spread_25 rfl ?_
  refine go_iald dX5_spread_26 rfl (by decide) rfl (by omega) (by decide) hkn ?_
  refine go_iconst (-1) dX5_spread_27 (by decide +kernel) ?_
  refine go_ixor dX5_spread_28 rfl ?_
  refine go_iand dX5_spread_29 (nk_eq G hG6 k hk) ?_
  refine go_callS1 (K' := kJ6_bitCount_0f7a4) [_] dX5_spread_30 mX5_70 lJ6_bitCount_0f7a4 rfl rfl (Nat.le_of_ble_eq_true rfl) (Nat.le_of_ble_eq_true rfl) (c_bitCount hnk) ?_
  refine go_istore (L' := [_, _, _, _, _, _]) dX5_spread_33 (by decide) rfl ?_
  refine go_aload_n dX5_spread_35 rfl ?_
  refine go_aload_n dX5_spread_36 rfl ?_
  refine go_iload_n dX5_spread_37 rfl ?_
  refine go_iload_n dX5_spread_38 rfl ?_
  refine go_iconst (nI 1) dX5_spread_39 (by decide +kernel) ?_
  refine go_callV0 (K' := kX5_count) [_, _, _, _] dX5_spread_40 mX5_75 lX5_count rfl (by decide) rfl (by decide) rfl rfl (Nat.le_of_ble_eq_true rfl) (Nat.le_of_ble_eq_true rfl) (c_count_8_35 hh h6 hp hn ha hpl hG hG6 hP hP6) ?_
  refine go_aload_n dX5_spread_43 rfl ?_
  refine go_getc dX5_spread_44 fX5_9 rfl (by decide) (by decide) (by decide) rfl ?_
  refine go_iload_n dX5_spread_47 rfl ?_
  refine go_dup2 dX5_spread_48 rfl rfl ?_
  refine go_iald dX5_spread_49 rfl (by decide) rfl (by omega) (by decide) hkn ?_
  refine go_iload dX5_spread_50 rfl ?_
  refine go_ior dX5_spread_52 (nb_or _ _) ?_
  refine go_iast dX5_spread_53 rfl (by decide) rfl (by omega) (by decide) ?_
  refine go_mem (m1 := (gupA (ctM m 8 p n a G P (nI 1)) 9 (upd (m.1 9) n (nI (k ||| G))))) (gup_asA _ _ _ _) ?_
  refine go_aload_n dX5_spread_54 rfl ?_
  refine go_getc dX5_spread_55 fX5_9 rfl (by decide) (by decide) (by decide) rfl ?_
  refine go_aload_n dX5_spread_58 rfl ?_
  refine go_geti dX5_spread_59 fX5_79 rfl (by decide) (by decide) (by decide) rfl hN ?_
  refine go_callS0 (K' := kX6_joinHalves) [_, _] dX5_spread_62 mX5_82 lX6_joinHalves rfl rfl (Nat.le_of_ble_eq_true rfl) (Nat.le_of_ble_eq_true rfl) (c_joinHalves_9 hN3) ?_
  refine go_iload dX5_spread_65 rfl ?_
  exact go_iret dX5_spread_67 rfl rfl (by rw [gupA_gupA, gupA_s])
end
section
theorem or_add {a b i : Nat} (h : a < 2 ^ i) : a ||| b * 2 ^ i = a + b * 2 ^ i := by
  have := Nat.two_pow_add_eq_or_of_lt h b
  rw [Nat.or_comm, Nat.mul_comm, ← this, Nat.add_comm]
theorem and_63 (a : Nat) : a &&& 63 = a % 64 := Nat.and_two_pow_sub_one_eq_mod a 6
def pk3 (a b c : Nat) : Nat := a + 64 * b + 4096 * c
theorem c_packedKnown_3 {O : gOm} {d : Nat} {m : gMem} {k0 k1 k2 : Nat} (h0 : m.1 4 0 = nI k0) (h1 : m.1 4 1 = nI k1) (h2 : m.1 4 2 = nI k2) (b0 : k0 < 64) (b1 : k1 < 64) (b2 : k2 < 64) : Ca O d kX5_packedKnown [.ref 3] (some (.int (nI (pk3 k0 k1 k2)))) m m := by
  have e0 : nI 0 ||| nI (k0 * 2 ^ (0 * 6)) = nI k0 := by rw [nb_or, Nat.zero_or, Nat.zero_mul, Nat.pow_zero, Nat.mul_one]
  have e1 : nI k0 ||| nI (k1 * 2 ^ (1 * 6)) = nI (k0 + 64 * k1) := by rw [nb_or, or_add (by omega)]; congr 1; omega
  have e2 : nI (k0 + 64 * k1) ||| nI (k2 * 2 ^ (2 * 6)) = nI (pk3 k0 k1 k2) := by rw [nb_or, or_add (by omega), pk3]; congr 1; omega
  show Go O d kX5_packedKnown _ m 0 [.ref 3, .null, .null] [] m
  refine go_iconst (nI 0) dX5_packedKnown_0 (by decide +kernel) ?_
  refine go_istore_n (L' := [_, _, _]) dX5_packedKnown_1 (by decide) rfl ?_
  refine go_iconst (nI 0) dX5_packedKnown_2 (by decide +kernel) ?_
  refine go_istore_n (L' := [_, _, _]) dX5_packedKnown_3 (by decide) rfl ?_
  skip
  refine go_iload_n dX5_packedKnown_4 rfl ?_
  refine go_iconst (nI 3) dX5_packedKnown_5 (by decide +kernel) ?_
  refine go_icmp_ge 29 dX5_packedKnown_6 (by decide) (fun h => absurd h (nI_ge (by decide) (by decide))) (fun h6 => ?_)
  refine go_iload_n dX5_packedKnown_9 rfl ?_
  refine go_aload_n dX5_packedKnown_10 rfl ?_
  refine go_getc dX5_packedKnown_11 fX5_9 rfl (by decide) (by decide) (by decide) rfl ?_
  refine go_iload_n dX5_packedKnown_14 rfl ?_
  refine go_iald dX5_packedKnown_15 rfl (by decide) rfl (by decide) (by decide) h0 ?_
  refine go_iload_n dX5_packedKnown_16 rfl ?_
  refine go_bipush (nI 6) dX5_packedKnown_17 (by decide +kernel) ?_
  first | refine go_imul_n dX5_packedKnown_19 ?_ | refine go_imul dX5_packedKnown_19 rfl ?_
  refine go_ishl dX5_packedKnown_20 (nb_shl (by decide) (by omega)) ?_
  refine go_ior dX5_packedKnown_21 e0 ?_
  refine go_istore_n (L' := [_, _, _]) dX5_packedKnown_22 (by decide) rfl ?_
  refine go_iinc_n (L' := [_, _, _]) dX5_packedKnown_23 rfl (by decide) rfl ?_
  refine go_goto 4 dX5_packedKnown_26 (by decide) ?_
  skip
  refine go_iload_n dX5_packedKnown_4 rfl ?_
  refine go_iconst (nI 3) dX5_packedKnown_5 (by decide +kernel) ?_
  refine go_icmp_ge 29 dX5_packedKnown_6 (by decide) (fun h => absurd h (nI_ge (by decide) (by decide))) (fun h6 => ?_)
  refine go_iload_n dX5_packedKnown_9 rfl ?_
  refine go_aload_n dX5_packedKnown_10 rfl ?_
  refine go_getc dX5_packedKnown_11 fX5_9 rfl (by decide) (by decide) (by decide) rfl ?_
  refine go_iload_n dX5_packedKnown_14 rfl ?_
  refine go_iald dX5_packedKnown_15 rfl (by decide) rfl (by decide) (by decide) h1 ?_
  refine go_iload_n dX5_packedKnown_16 rfl ?_
  refine go_bipush (nI 6) dX5_packedKnown_17 (by decide +kernel) ?_
  first | refine go_imul_n dX5_packedKnown_19 ?_ | refine go_imul dX5_packedKnown_19 rfl ?_
  refine go_ishl dX5_packedKnown_20 (nb_shl (by decide) (by omega)) ?_
  refine go_ior dX5_packedKnown_21 e1 ?_
  refine go_istore_n (L' := [_, _, _]) dX5_packedKnown_22 (by decide) rfl ?_
  refine go_iinc_n (L' := [_, _, _]) dX5_packedKnown_23 rfl (by decide) rfl ?_
  refine go_goto 4 dX5_packedKnown_26 (by decide) ?_
  skip
  refine go_iload_n dX5_packedKnown_4 rfl ?_
  refine go_iconst (nI 3) dX5_packedKnown_5 (by decide +kernel) ?_
  refine go_icmp_ge 29 dX5_packedKnown_6 (by decide) (fun h => absurd h (nI_ge (by decide) (by decide))) (fun h6 => ?_)
  refine go_iload_n dX5_packedKnown_9 rfl ?_
  refine go_aload_n dX5_packedKnown_10 rfl ?_
  refine go_getc dX5_packedKnown_11 fX5_9 rfl (by decide) (by decide) (by decide) rfl ?_
  refine go_iload_n dX5_packedKnown_14 rfl ?_
  refine go_iald dX5_packedKnown_15 rfl (by decide) rfl (by decide) (by decide) h2 ?_
  refine go_iload_n dX5_packedKnown_16 rfl ?_
  refine go_bipush (nI 6) dX5_packedKnown_17 (by decide +kernel) ?_
  first | refine go_imul_n dX5_packedKnown_19 ?_ | refine go_imul dX5_packedKnown_19 rfl ?_
  refine go_ishl dX5_packedKnown_20 (nb_shl (by decide) (by omega)) ?_
  refine go_ior dX5_packedKnown_21 e2 ?_
  refine go_istore_n (L' := [_, _, _]) dX5_packedKnown_22 (by decide) rfl ?_
  refine go_iinc_n (L' := [_, _, _]) dX5_packedKnown_23 rfl (by decide) rfl ?_
  refine go_goto 4 dX5_packedKnown_26 (by decide) ?_
  skip
  refine go_iload_n dX5_packedKnown_4 rfl ?_
  refine go_iconst (nI 3) dX5_packedKnown_5 (by decide +kernel) ?_
  refine go_icmp_ge 29 dX5_packedKnown_6 (by decide) (fun h6 => ?_) (fun h => absurd (nI_le (by decide) (by decide)) h)
  refine go_iload_n dX5_packedKnown_29 rfl ?_
  exact go_iret dX5_packedKnown_30 rfl rfl rfl
theorem c_unpackKnown_3 {O : gOm} {d : Nat} {m : gMem} {k0 k1 k2 : Nat} (b0 : k0 < 64) (b1 : k1 < 64) (b2 : k2 < 64) : Ca O d kX5_unpackKnown [.ref 3, .int (nI (pk3 k0 k1 k2))] none m (gup (gup (gup m 4 0 (nI k0)) 4 1 (nI k1)) 4 2 (nI k2)) := by
  have hb : pk3 k0 k1 k2 < 262144 := by rw [pk3]; omega
  have e0 : nI (pk3 k0 k1 k2 / 2 ^ (0 * 6)) &&& nI 63 = nI k0 := by rw [nb_and, and_63, pk3]; congr 1; omega
  have e1 : nI (pk3 k0 k1 k2 / 2 ^ (1 * 6)) &&& nI 63 = nI k1 := by rw [nb_and, and_63, pk3]; congr 1; omega
  have e2 : nI (pk3 k0 k1 k2 / 2 ^ (2 * 6)) &&& nI 63 = nI k2 := by rw [nb_and, and_63, pk3]; congr 1; omega
  show Go O d kX5_unpackKnown none _ 0 [.ref 3, .int (nI (pk3 k0 k1 k2)), .null] [] m
  refine go_iconst (nI 0) dX5_unpackKnown_0 (by decide +kernel) ?_
  refine go_istore_n (L' := [_, _, _]) dX5_unpackKnown_1 (by decide) rfl ?_
  skip
  refine go_iload_n dX5_unpackKnown_2 rfl ?_
  refine go_iconst (nI 3) dX5_unpackKnown_3 (by decide +kernel) ?_
  refine go_icmp_ge 28 dX5_unpackKnown_4 (by decide) (fun h => absurd h (nI_ge (by decide) (by decide))) (fun h4 => ?_)
  refine go_aload_n dX5_unpackKnown_7 rfl ?_
  refine go_getc dX5_unpackKnown_8 fX5_9 rfl (by decide) (by decide) (by decide) rfl ?_
  refine go_iload_n dX5_unpackKnown_11 rfl ?_
  refine go_iload_n dX5_unpackKnown_12 rfl ?_
  refine go_iload_n dX5_unpackKnown_13 rfl ?_
  refine go_bipush (nI 6) dX5_unpackKnown_14 (by decide +kernel) ?_
  first | refine go_imul_n dX5_unpackKnown_16 ?_ | refine go_imul dX5_unpackKnown_16 rfl ?_
  refine go_ishr dX5_unpackKnown_17 (nb_shr (by omega) (by decide)) ?_
  refine go_bipush (nI 63) dX5_unpackKnown_18 (by decide +kernel) ?_
  refine go_iand dX5_unpackKnown_20 e0 ?_
  refine go_iast dX5_unpackKnown_21 rfl (by decide) rfl (by decide) (by decide) ?_
  refine go_iinc_n (L' := [_, _, _]) dX5_unpackKnown_22 rfl (by decide) rfl ?_
  refine go_goto 2 dX5_unpackKnown_25 (by decide) ?_
  skip
  refine go_iload_n dX5_unpackKnown_2 rfl ?_
  refine go_iconst (nI 3) dX5_unpackKnown_3 (by decide +kernel) ?_
  refine go_icmp_ge 28 dX5_unpackKnown_4 (by decide) (fun h => absurd h (nI_ge (by decide) (by decide))) (fun h4 => ?_)
  refine go_aload_n dX5_unpackKnown_7 rfl ?_
  refine go_getc dX5_unpackKnown_8 fX5_9 rfl (by decide) (by decide) (by decide) rfl ?_
  refine go_iload_n dX5_unpackKnown_11 rfl ?_
  refine go_iload_n dX5_unpackKnown_12 rfl ?_
  refine go_iload_n dX5_unpackKnown_13 rfl ?_
  refine go_bipush (nI 6) dX5_unpackKnown_14 (by decide +kernel) ?_
  first | refine go_imul_n dX5_unpackKnown_16 ?_ | refine go_imul dX5_unpackKnown_16 rfl ?_
  refine go_ishr dX5_unpackKnown_17 (nb_shr (by omega) (by decide)) ?_
  refine go_bipush (nI 63) dX5_unpackKnown_18 (by decide +kernel) ?_
  refine go_iand dX5_unpackKnown_20 e1 ?_
  refine go_iast dX5_unpackKnown_21 rfl (by decide) rfl (by decide) (by decide) ?_
  refine go_iinc_n (L' := [_, _, _]) dX5_unpackKnown_22 rfl (by decide) rfl ?_
  refine go_goto 2 dX5_unpackKnown_25 (by decide) ?_
  skip
  refine go_iload_n dX5_unpackKnown_2 rfl ?_
  refine go_iconst (nI 3) dX5_unpackKnown_3 (by decide +kernel) ?_
  refine go_icmp_ge 28 dX5_unpackKnown_4 (by decide) (fun h => absurd h (nI_ge (by decide) (by decide))) (fun h4 => ?_)
  refine go_aload_n dX5_unpackKnown_7 rfl ?_
  refine go_getc dX5_unpackKnown_8 fX5_9 rfl (by decide) (by decide) (by decide) rfl ?_
  refine go_iload_n dX5_unpackKnown_11 rfl ?_
  refine go_iload_n dX5_unpackKnown_12 rfl ?_
  refine go_iload_n dX5_unpackKnown_13 rfl ?_
  refine go_bipush (nI 6) dX5_unpackKnown_14 (by decide +kernel) ?_
  first | refine go_imul_n dX5_unpackKnown_16 ?_ | refine go_imul dX5_unpackKnown_16 rfl ?_
  refine go_ishr dX5_unpackKnown_17 (nb_shr (by omega) (by decide)) ?_
  refine go_bipush (nI 63) dX5_unpackKnown_18 (by decide +kernel) ?_
  refine go_iand dX5_unpackKnown_20 e2 ?_
  refine go_iast dX5_unpackKnown_21 rfl (by decide) rfl (by decide) (by decide) ?_
  refine go_iinc_n (L' := [_, _, _]) dX5_unpackKnown_22 rfl (by decide) rfl ?_
  refine go_goto 2 dX5_unpackKnown_25 (by decide) ?_
  skip
  refine go_iload_n dX5_unpackKnown_2 rfl ?_
  refine go_iconst (nI 3) dX5_unpackKnown_3 (by decide +kernel) ?_
  refine go_icmp_ge 28 dX5_unpackKnown_4 (by decide) (fun h4 => ?_) (fun h => absurd (nI_le (by decide) (by decide)) h)
  exact go_vret dX5_unpackKnown_28 rfl rfl rfl
def cpM (m : gMem) (dst src : Nat) : gMem := gup (gupA (gupA (gupA (gupA m (dst + 1) (va_cpy (m.1 (src + 1)) (m.1 (dst + 1)) 0 0 3)) (dst + 2) (va_cpy (m.1 (src + 2)) (m.1 (dst + 2)) 0 0 18)) (dst + 3) (va_cpy (m.1 (src + 3)) (m.1 (dst + 3)) 0 0 18)) (dst + 4) (va_cpy (m.1 (src + 4)) (m.1 (dst + 4)) 0 0 9)) dst 4 (m.1 src 4)
def bgM (m : gMem) (T : Nat) : gMem := gup (gupA (gupA (gupA (gupA m 4 (va_cpy (m.1 (T + 5)) (m.1 4) 0 0 3)) 5 (flP (m.1 5) (nI 0) 18)) 6 (flP (m.1 6) (nI 0) 18)) 7 (flP (m.1 7) (nI 0) 9)) 3 4 (nI 0)
theorem c_copyFrom_8_3 {O : gOm} {d : Nat} {m : gMem} : Ca O (d + 1) kX5_copyFrom [.ref 8, .ref 3] none m (cpM m 8 3) := by
  show Go O (d + 1) kX5_copyFrom none _ 0 [.ref 8, .ref 3] [] m
  refine go_aload_n dX5_copyFrom_0 rfl ?_
  refine go_getc dX5_copyFrom_1 fX5_9 rfl (by decide) (by decide) (by decide) rfl ?_
  refine go_iconst (nI 0) dX5_copyFrom_4 (by decide +kernel) ?_
  refine go_aload_n dX5_copyFrom_5 rfl ?_
  refine go_getc dX5_copyFrom_6 fX5_9 rfl (by decide) (by decide) (by decide) rfl ?_
  refine go_iconst (nI 0) dX5_copyFrom_9 (by decide +kernel) ?_
  refine go_iconst (nI 3) dX5_copyFrom_10 (by decide +kernel) ?_
  refine go_copy dX5_copyFrom_11 mX5_29 gNat gNatS gNatI rfl rfl (by decide) (by decide) rfl rfl rfl (by decide) (by decide) (by decide) (by decide) (Nat.le_of_ble_eq_true rfl) ?_
  refine go_aload_n dX5_copyFrom_14 rfl ?_
  refine go_getc dX5_copyFrom_15 fX5_15 rfl (by decide) (by decide) (by decide) rfl ?_
  refine go_iconst (nI 0) dX5_copyFrom_18 (by decide +kernel) ?_
  refine go_aload_n dX5_copyFrom_19 rfl ?_
  refine go_getc dX5_copyFrom_20 fX5_15 rfl (by decide) (by decide) (by decide) rfl ?_
  refine go_iconst (nI 0) dX5_copyFrom_23 (by decide +kernel) ?_
  refine go_aload_n dX5_copyFrom_24 rfl ?_
  refine go_getc dX5_copyFrom_25 fX5_15 rfl (by decide) (by decide) (by decide) rfl ?_
  refine go_alen dX5_copyFrom_28 rfl (by decide) rfl ?_
  refine go_copy dX5_copyFrom_29 mX5_29 gNat gNatS gNatI rfl rfl (by decide) (by decide) rfl rfl rfl (by decide) (by decide) (by decide) (by decide) (Nat.le_of_ble_eq_true rfl) ?_
  refine go_aload_n dX5_copyFrom_32 rfl ?_
  refine go_getc dX5_copyFrom_33 fX5_18 rfl (by decide) (by decide) (by decide) rfl ?_
  refine go_iconst (nI 0) dX5_copyFrom_36 (by decide +kernel) ?_
  refine go_aload_n dX5_copyFrom_37 rfl ?_
  refine go_getc dX5_copyFrom_38 fX5_18 rfl (by decide) (by decide) (by decide) rfl ?_
  refine go_iconst (nI 0) dX5_copyFrom_41 (by decide +kernel) ?_
  refine go_aload_n dX5_copyFrom_42 rfl ?_
  refine go_getc dX5_copyFrom_43 fX5_18 rfl (by decide) (by decide) (by decide) rfl ?_
  refine go_alen dX5_copyFrom_46 rfl (by decide) rfl ?_
  refine go_copy dX5_copyFrom_47 mX5_29 gNat gNatS gNatI rfl rfl (by decide) (by decide) rfl rfl rfl (by decide) (by decide) (by decide) (by decide) (Nat.le_of_ble_eq_true rfl) ?_
  refine go_aload_n dX5_copyFrom_50 rfl ?_
  refine go_getc dX5_copyFrom_51 fX5_21 rfl (by decide) (by decide) (by decide) rfl ?_
  refine go_iconst (nI 0) dX5_copyFrom_54 (by decide +kernel) ?_
  refine go_aload_n dX5_copyFrom_55 rfl ?_
  refine go_getc dX5_copyFrom_56 fX5_21 rfl (by decide) (by decide) (by decide) rfl ?_
  refine go_iconst (nI 0) dX5_copyFrom_59 (by decide +kernel) ?_
  refine go_aload_n dX5_copyFrom_60 rfl ?_
  refine go_getc dX5_copyFrom_61 fX5_21 rfl (by decide) (by decide) (by decide) rfl ?_
  refine go_alen dX5_copyFrom_64 rfl (by decide) rfl ?_
  refine go_copy dX5_copyFrom_65 mX5_29 gNat gNatS gNatI rfl rfl (by decide) (by decide) rfl rfl rfl (by decide) (by decide) (by decide) (by decide) (Nat.le_of_ble_eq_true rfl) ?_
  refine go_aload_n dX5_copyFrom_68 rfl ?_
  refine go_aload_n dX5_copyFrom_69 rfl ?_
  refine go_geti dX5_copyFrom_70 fX5_41 rfl (by decide) (by decide) (by decide) rfl rfl ?_
  refine go_puti dX5_copyFrom_73 fX5_41 rfl (by decide) (by decide) (by decide) rfl (fun _ _ _ h => by cases h; rfl) (Or.inl rfl) ?_
  exact go_vret dX5_copyFrom_76 rfl rfl rfl
theorem c_copyFrom_14_3 {O : gOm} {d : Nat} {m : gMem} : Ca O (d + 1) kX5_copyFrom [.ref 14, .ref 3] none m (cpM m 14 3) := by
  show Go O (d + 1) kX5_copyFrom none _ 0 [.ref 14, .ref 3] [] m
  refine go_aload_n dX5_copyFrom_0 rfl ?_
  refine go_getc dX5_copyFrom_1 fX5_9 rfl (by decide) (by decide) (by decide) rfl ?_
  refine go_iconst (nI 0) dX5_copyFrom_4 (by decide +kernel) ?_
  refine go_aload_n dX5_copyFrom_5 rfl ?_
  refine go_getc dX5_copyFrom_6 fX5_9 rfl (by decide) (by decide) (by decide) rfl ?_
  refine go_iconst (nI 0) dX5_copyFrom_9 (by decide +kernel) ?_
  refine go_iconst (nI 3) dX5_copyFrom_10 (by decide +kernel) ?_
  refine go_copy dX5_copyFrom_11 mX5_29 gNat gNatS gNatI rfl rfl (by decide) (by decide) rfl rfl rfl (by decide) (by decide) (by decide) (by decide) (Nat.le_of_ble_eq_true rfl) ?_
  refine go_aload_n dX5_copyFrom_14 rfl ?_
  refine go_getc dX5_copyFrom_15 fX5_15 rfl (by decide) (by decide) (by decide) rfl ?_
  refine go_iconst (nI 0) dX5_copyFrom_18 (by decide +kernel) ?_
  refine go_aload_n dX5_copyFrom_19 rfl ?_
  refine go_getc dX5_copyFrom_20 fX5_15 rfl (by decide) (by decide) (by decide) rfl ?_
  refine go_iconst (nI 0) dX5_copyFrom_23 (by decide +kernel) ?_
  refine go_aload_n dX5_copyFrom_24 rfl ?_
  refine go_getc dX5_copyFrom_25 fX5_15 rfl (by decide) (by decide) (by decide) rfl ?_
  refine go_alen dX5_copyFrom_28 rfl (by decide) rfl ?_
  refine go_copy dX5_copyFrom_29 mX5_29 gNat gNatS gNatI rfl rfl (by decide) (by decide) rfl rfl rfl (by decide) (by decide) (by decide) (by decide) (Nat.le_of_ble_eq_true rfl) ?_
  refine go_aload_n dX5_copyFrom_32 rfl ?_
  refine go_getc dX5_copyFrom_33 fX5_18 rfl (by decide) (by decide) (by decide) rfl ?_
  refine go_iconst (nI 0) dX5_copyFrom_36 (by decide +kernel) ?_
  refine go_aload_n dX5_copyFrom_37 rfl ?_
  refine go_getc dX5_copyFrom_38 fX5_18 rfl (by decide) (by decide) (by decide) rfl ?_
  refine go_iconst (nI 0) dX5_copyFrom_41 (by decide +kernel) ?_
  refine go_aload_n dX5_copyFrom_42 rfl ?_
  refine go_getc dX5_copyFrom_43 fX5_18 rfl (by decide) (by decide) (by decide) rfl ?_
  refine go_alen dX5_copyFrom_46 rfl (by decide) rfl ?_
  refine go_copy dX5_copyFrom_47 mX5_29 gNat gNatS gNatI rfl rfl (by decide) (by decide) rfl rfl rfl (by decide) (by decide) (by decide) (by decide) (Nat.le_of_ble_eq_true rfl) ?_
  refine go_aload_n dX5_copyFrom_50 rfl ?_
  refine go_getc dX5_copyFrom_51 fX5_21 rfl (by decide) (by decide) (by decide) rfl ?_
  refine go_iconst (nI 0) dX5_copyFrom_54 (by decide +kernel) ?_
  refine go_aload_n dX5_copyFrom_55 rfl ?_
  refine go_getc dX5_copyFrom_56 fX5_21 rfl (by decide) (by decide) (by decide) rfl ?_
  refine go_iconst (nI 0) dX5_copyFrom_59 (by decide +kernel) ?_
  refine go_aload_n dX5_copyFrom_60 rfl ?_
  refine go_getc dX5_copyFrom_61 fX5_21 rfl (by decide) (by decide) (by decide) rfl ?_
  refine go_alen dX5_copyFrom_64 rfl (by decide) rfl ?_
  refine go_copy dX5_copyFrom_65 mX5_29 gNat gNatS gNatI rfl rfl (by decide) (by decide) rfl rfl rfl (by decide) (by decide) (by decide) (by decide) (Nat.le_of_ble_eq_true rfl) ?_
  refine go_aload_n dX5_copyFrom_68 rfl ?_
  refine go_aload_n dX5_copyFrom_69 rfl ?_
  refine go_geti dX5_copyFrom_70 fX5_41 rfl (by decide) (by decide) (by decide) rfl rfl ?_
  refine go_puti dX5_copyFrom_73 fX5_41 rfl (by decide) (by decide) (by decide) rfl (fun _ _ _ h => by cases h; rfl) (Or.inl rfl) ?_
  exact go_vret dX5_copyFrom_76 rfl rfl rfl
theorem c_copyFrom_19_3 {O : gOm} {d : Nat} {m : gMem} : Ca O (d + 1) kX5_copyFrom [.ref 19, .ref 3] none m (cpM m 19 3) := by
  show Go O (d + 1) kX5_copyFrom none _ 0 [.ref 19, .ref 3] [] m
  refine go_aload_n dX5_copyFrom_0 rfl ?_
  refine go_getc dX5_copyFrom_1 fX5_9 rfl (by decide) (by decide) (by decide) rfl ?_
  refine go_iconst (nI 0) dX5_copyFrom_4 (by decide +kernel) ?_
  refine go_aload_n dX5_copyFrom_5 rfl ?_
  refine go_getc dX5_copyFrom_6 fX5_9 rfl (by decide) (by decide) (by decide) rfl ?_
  refine go_iconst (nI 0) dX5_copyFrom_9 (by decide +kernel) ?_
  refine go_iconst (nI 3) dX5_copyFrom_10 (by decide +kernel) ?_
  refine go_copy dX5_copyFrom_11 mX5_29 gNat gNatS gNatI rfl rfl (by decide) (by decide) rfl rfl rfl (by decide) (by decide) (by decide) (by decide) (Nat.le_of_ble_eq_true rfl) ?_
  refine go_aload_n dX5_copyFrom_14 rfl ?_
  refine go_getc dX5_copyFrom_15 fX5_15 rfl (by decide) (by decide) (by decide) rfl ?_
  refine go_iconst (nI 0) dX5_copyFrom_18 (by decide +kernel) ?_
  refine go_aload_n dX5_copyFrom_19 rfl ?_
  refine go_getc dX5_copyFrom_20 fX5_15 rfl (by decide) (by decide) (by decide) rfl ?_
  refine go_iconst (nI 0) dX5_copyFrom_23 (by decide +kernel) ?_
  refine go_aload_n dX5_copyFrom_24 rfl ?_
  refine go_getc dX5_copyFrom_25 fX5_15 rfl (by decide) (by decide) (by decide) rfl ?_
  refine go_alen dX5_copyFrom_28 rfl (by decide) rfl ?_
  refine go_copy dX5_copyFrom_29 mX5_29 gNat gNatS gNatI rfl rfl (by decide) (by decide) rfl rfl rfl (by decide) (by decide) (by decide) (by decide) (Nat.le_of_ble_eq_true rfl) ?_
  refine go_aload_n dX5_copyFrom_32 rfl ?_
  refine go_getc dX5_copyFrom_33 fX5_18 rfl (by decide) (by decide) (by decide) rfl ?_
  refine go_iconst (nI 0) dX5_copyFrom_36 (by decide +kernel) ?_
  refine go_aload_n dX5_copyFrom_37 rfl ?_
  refine go_getc dX5_copyFrom_38 fX5_18 rfl (by decide) (by decide) (by decide) rfl ?_
  refine go_iconst (nI 0) dX5_copyFrom_41 (by decide +kernel) ?_
  refine go_aload_n dX5_copyFrom_42 rfl ?_
  refine go_getc dX5_copyFrom_43 fX5_18 rfl (by decide) (by decide) (by decide) rfl ?_
  refine go_alen dX5_copyFrom_46 rfl (by decide) rfl ?_
  refine go_copy dX5_copyFrom_47 mX5_29 gNat gNatS gNatI rfl rfl (by decide) (by decide) rfl rfl rfl (by decide) (by decide) (by decide) (by decide) (Nat.le_of_ble_eq_true rfl) ?_
  refine go_aload_n dX5_copyFrom_50 rfl ?_
  refine go_getc dX5_copyFrom_51 fX5_21 rfl (by decide) (by decide) (by decide) rfl ?_
  refine go_iconst (nI 0) dX5_copyFrom_54 (by decide +kernel) ?_
  refine go_aload_n dX5_copyFrom_55 rfl ?_
  refine go_getc dX5_copyFrom_56 fX5_21 rfl (by decide) (by decide) (by decide) rfl ?_
  refine go_iconst (nI 0) dX5_copyFrom_59 (by decide +kernel) ?_
  refine go_aload_n dX5_copyFrom_60 rfl ?_
  refine go_getc dX5_copyFrom_61 fX5_21 rfl (by decide) (by decide) (by decide) rfl ?_
  refine go_alen dX5_copyFrom_64 rfl (by decide) rfl ?_
  refine go_copy dX5_copyFrom_65 mX5_29 gNat gNatS gNatI rfl rfl (by decide) (by decide) rfl rfl rfl (by decide) (by decide) (by decide) (by decide) (Nat.le_of_ble_eq_true rfl) ?_
  refine go_aload_n dX5_copyFrom_68 rfl ?_
  refine go_aload_n dX5_copyFrom_69 rfl ?_
  refine go_geti dX5_copyFrom_70 fX5_41 rfl (by decide) (by decide) (by decide) rfl rfl ?_
  refine go_puti dX5_copyFrom_73 fX5_41 rfl (by decide) (by decide) (by decide) rfl (fun _ _ _ h => by cases h; rfl) (Or.inl rfl) ?_
  exact go_vret dX5_copyFrom_76 rfl rfl rfl
theorem c_copyFrom_3_14 {O : gOm} {d : Nat} {m : gMem} : Ca O (d + 1) kX5_copyFrom [.ref 3, .ref 14] none m (cpM m 3 14) := by
  show Go O (d + 1) kX5_copyFrom none _ 0 [.ref 3, .ref 14] [] m
  refine go_aload_n dX5_copyFrom_0 rfl ?_
  refine go_getc dX5_copyFrom_1 fX5_9 rfl (by decide) (by decide) (by decide) rfl ?_
  refine go_iconst (nI 0) dX5_copyFrom_4 (by decide +kernel) ?_
  refine go_aload_n dX5_copyFrom_5 rfl ?_
  refine go_getc dX5_copyFrom_6 fX5_9 rfl (by decide) (by decide) (by decide) rfl ?_
  refine go_iconst (nI 0) dX5_copyFrom_9 (by decide +kernel) ?_
  refine go_iconst (nI 3) dX5_copyFrom_10 (by decide +kernel) ?_
  refine go_copy dX5_copyFrom_11 mX5_29 gNat gNatS gNatI rfl rfl (by decide) (by decide) rfl rfl rfl (by decide) (by decide) (by decide) (by decide) (Nat.le_of_ble_eq_true rfl) ?_
  refine go_aload_n dX5_copyFrom_14 rfl ?_
  refine go_getc dX5_copyFrom_15 fX5_15 rfl (by decide) (by decide) (by decide) rfl ?_
  refine go_iconst (nI 0) dX5_copyFrom_18 (by decide +kernel) ?_
  refine go_aload_n dX5_copyFrom_19 rfl ?_
  refine go_getc dX5_copyFrom_20 fX5_15 rfl (by decide) (by decide) (by decide) rfl ?_
  refine go_iconst (nI 0) dX5_copyFrom_23 (by decide +kernel) ?_
  refine go_aload_n dX5_copyFrom_24 rfl ?_
  refine go_getc dX5_copyFrom_25 fX5_15 rfl (by decide) (by decide) (by decide) rfl ?_
  refine go_alen dX5_copyFrom_28 rfl (by decide) rfl ?_
  refine go_copy dX5_copyFrom_29 mX5_29 gNat gNatS gNatI rfl rfl (by decide) (by decide) rfl rfl rfl (by decide) (by decide) (by decide) (by decide) (Nat.le_of_ble_eq_true rfl) ?_
  refine go_aload_n dX5_copyFrom_32 rfl ?_
  refine go_getc dX5_copyFrom_33 fX5_18 rfl (by decide) (by decide) (by decide) rfl ?_
  refine go_iconst (nI 0) dX5_copyFrom_36 (by decide +kernel) ?_
  refine go_aload_n dX5_copyFrom_37 rfl ?_
  refine go_getc dX5_copyFrom_38 fX5_18 rfl (by decide) (by decide) (by decide) rfl ?_
  refine go_iconst (nI 0) dX5_copyFrom_41 (by decide +kernel) ?_
  refine go_aload_n dX5_copyFrom_42 rfl ?_
  refine go_getc dX5_copyFrom_43 fX5_18 rfl (by decide) (by decide) (by decide) rfl ?_
  refine go_alen dX5_copyFrom_46 rfl (by decide) rfl ?_
  refine go_copy dX5_copyFrom_47 mX5_29 gNat gNatS gNatI rfl rfl (by decide) (by decide) rfl rfl rfl (by decide) (by decide) (by decide) (by decide) (Nat.le_of_ble_eq_true rfl) ?_
  refine go_aload_n dX5_copyFrom_50 rfl ?_
  refine go_getc dX5_copyFrom_51 fX5_21 rfl (by decide) (by decide) (by decide) rfl ?_
  refine go_iconst (nI 0) dX5_copyFrom_54 (by decide +kernel) ?_
  refine go_aload_n dX5_copyFrom_55 rfl ?_
  refine go_getc dX5_copyFrom_56 fX5_21 rfl (by decide) (by decide) (by decide) rfl ?_
  refine go_iconst (nI 0) dX5_copyFrom_59 (by decide +kernel) ?_
  refine go_aload_n dX5_copyFrom_60 rfl ?_
  refine go_getc dX5_copyFrom_61 fX5_21 rfl (by decide) (by decide) (by decide) rfl ?_
  refine go_alen dX5_copyFrom_64 rfl (by decide) rfl ?_
  refine go_copy dX5_copyFrom_65 mX5_29 gNat gNatS gNatI rfl rfl (by decide) (by decide) rfl rfl rfl (by decide) (by decide) (by decide) (by decide) (Nat.le_of_ble_eq_true rfl) ?_
  refine go_aload_n dX5_copyFrom_68 rfl ?_
  refine go_aload_n dX5_copyFrom_69 rfl ?_
  refine go_geti dX5_copyFrom_70 fX5_41 rfl (by decide) (by decide) (by decide) rfl rfl ?_
  refine go_puti dX5_copyFrom_73 fX5_41 rfl (by decide) (by decide) (by decide) rfl (fun _ _ _ h => by cases h; rfl) (Or.inl rfl) ?_
  exact go_vret dX5_copyFrom_76 rfl rfl rfl
theorem c_copyFrom_3_19 {O : gOm} {d : Nat} {m : gMem} : Ca O (d + 1) kX5_copyFrom [.ref 3, .ref 19] none m (cpM m 3 19) := by
  show Go O (d + 1) kX5_copyFrom none _ 0 [.ref 3, .ref 19] [] m
  refine go_aload_n dX5_copyFrom_0 rfl ?_
  refine go_getc dX5_copyFrom_1 fX5_9 rfl (by decide) (by decide) (by decide) rfl ?_
  refine go_iconst (nI 0) dX5_copyFrom_4 (by decide +kernel) ?_
  refine go_aload_n dX5_copyFrom_5 rfl ?_
  refine go_getc dX5_copyFrom_6 fX5_9 rfl (by decide) (by decide) (by decide) rfl ?_
  refine go_iconst (nI 0) dX5_copyFrom_9 (by decide +kernel) ?_
  refine go_iconst (nI 3) dX5_copyFrom_10 (by decide +kernel) ?_
  refine go_copy dX5_copyFrom_11 mX5_29 gNat gNatS gNatI rfl rfl (by decide) (by decide) rfl rfl rfl (by decide) (by decide) (by decide) (by decide) (Nat.le_of_ble_eq_true rfl) ?_
  refine go_aload_n dX5_copyFrom_14 rfl ?_
  refine go_getc dX5_copyFrom_15 fX5_15 rfl (by decide) (by decide) (by decide) rfl ?_
  refine go_iconst (nI 0) dX5_copyFrom_18 (by decide +kernel) ?_
  refine go_aload_n dX5_copyFrom_19 rfl ?_
  refine go_getc dX5_copyFrom_20 fX5_15 rfl (by decide) (by decide) (by decide) rfl ?_
  refine go_iconst (nI 0) dX5_copyFrom_23 (by decide +kernel) ?_
  refine go_aload_n dX5_copyFrom_24 rfl ?_
  refine go_getc dX5_copyFrom_25 fX5_15 rfl (by decide) (by decide) (by decide) rfl ?_
  refine go_alen dX5_copyFrom_28 rfl (by decide) rfl ?_
  refine go_copy dX5_copyFrom_29 mX5_29 gNat gNatS gNatI rfl rfl (by decide) (by decide) rfl rfl rfl (by decide) (by decide) (by decide) (by decide) (Nat.le_of_ble_eq_true rfl) ?_
  refine go_aload_n dX5_copyFrom_32 rfl ?_
  refine go_getc dX5_copyFrom_33 fX5_18 rfl (by decide) (by decide) (by decide) rfl ?_
  refine go_iconst (nI 0) dX5_copyFrom_36 (by decide +kernel) ?_
  refine go_aload_n dX5_copyFrom_37 rfl ?_
  refine go_getc dX5_copyFrom_38 fX5_18 rfl (by decide) (by decide) (by decide) rfl ?_
  refine go_iconst (nI 0) dX5_copyFrom_41 (by decide +kernel) ?_
  refine go_aload_n dX5_copyFrom_42 rfl ?_
  refine go_getc dX5_copyFrom_43 fX5_18 rfl (by decide) (by decide) (by decide) rfl ?_
  refine go_alen dX5_copyFrom_46 rfl (by decide) rfl ?_
  refine go_copy dX5_copyFrom_47 mX5_29 gNat gNatS gNatI rfl rfl (by decide) (by decide) rfl rfl rfl (by decide) (by decide) (by decide) (by decide) (Nat.le_of_ble_eq_true rfl) ?_
  refine go_aload_n dX5_copyFrom_50 rfl ?_
  refine go_getc dX5_copyFrom_51 fX5_21 rfl (by decide) (by decide) (by decide) rfl ?_
  refine go_iconst (nI 0) dX5_copyFrom_54 (by decide +kernel) ?_
  refine go_aload_n dX5_copyFrom_55 rfl ?_
  refine go_getc dX5_copyFrom_56 fX5_21 rfl (by decide) (by decide) (by decide) rfl ?_
  refine go_iconst (nI 0) dX5_copyFrom_59 (by decide +kernel) ?_
  refine go_aload_n dX5_copyFrom_60 rfl ?_
  refine go_getc dX5_copyFrom_61 fX5_21 rfl (by decide) (by decide) (by decide) rfl ?_
  refine go_alen dX5_copyFrom_64 rfl (by decide) rfl ?_
  refine go_copy dX5_copyFrom_65 mX5_29 gNat gNatS gNatI rfl rfl (by decide) (by decide) rfl rfl rfl (by decide) (by decide) (by decide) (by decide) (Nat.le_of_ble_eq_true rfl) ?_
  refine go_aload_n dX5_copyFrom_68 rfl ?_
  refine go_aload_n dX5_copyFrom_69 rfl ?_
  refine go_geti dX5_copyFrom_70 fX5_41 rfl (by decide) (by decide) (by decide) rfl rfl ?_
  refine go_puti dX5_copyFrom_73 fX5_41 rfl (by decide) (by decide) (by decide) rfl (fun _ _ _ h => by cases h; rfl) (Or.inl rfl) ?_
  exact go_vret dX5_copyFrom_76 rfl rfl rfl
theorem c_beginWith_29 {O : gOm} {d : Nat} {m : gMem} : Ca O (d + 1) kX5_beginWith [.ref 3, .ref 29] none m (bgM m 29) := by
  show Go O (d + 1) kX5_beginWith none _ 0 [.ref 3, .ref 29] [] m
  refine go_aload_n dX5_beginWith_0 rfl ?_
  refine go_getc dX5_beginWith_1 fX5_24 rfl (by decide) (by decide) (by decide) rfl ?_
  refine go_iconst (nI 0) dX5_beginWith_4 (by decide +kernel) ?_
  refine go_aload_n dX5_beginWith_5 rfl ?_
  refine go_getc dX5_beginWith_6 fX5_9 rfl (by decide) (by decide) (by decide) rfl ?_
  refine go_iconst (nI 0) dX5_beginWith_9 (by decide +kernel) ?_
  refine go_iconst (nI 3) dX5_beginWith_10 (by decide +kernel) ?_
  refine go_copy dX5_beginWith_11 mX5_29 gNat gNatS gNatI rfl rfl (by decide) (by decide) rfl rfl rfl (by decide) (by decide) (by decide) (by decide) (Nat.le_of_ble_eq_true rfl) ?_
  refine go_aload_n dX5_beginWith_14 rfl ?_
  refine go_getc dX5_beginWith_15 fX5_15 rfl (by decide) (by decide) (by decide) rfl ?_
  refine go_iconst (nI 0) dX5_beginWith_18 (by decide +kernel) ?_
  refine go_callS0 (K' := kJ7_fill_53178) [_, _] dX5_beginWith_19 mX5_35 lJ7_fill_53178 rfl rfl (Nat.le_of_ble_eq_true rfl) (Nat.le_of_ble_eq_true rfl) (c_fill rfl (by decide) (by decide)) ?_
  refine go_aload_n dX5_beginWith_22 rfl ?_
  refine go_getc dX5_beginWith_23 fX5_18 rfl (by decide) (by decide) (by decide) rfl ?_
  refine go_iconst (nI 0) dX5_beginWith_26 (by decide +kernel) ?_
  refine go_callS0 (K' := kJ7_fill_53178) [_, _] dX5_beginWith_27 mX5_35 lJ7_fill_53178 rfl rfl (Nat.le_of_ble_eq_true rfl) (Nat.le_of_ble_eq_true rfl) (c_fill rfl (by decide) (by decide)) ?_
  refine go_aload_n dX5_beginWith_30 rfl ?_
  refine go_getc dX5_beginWith_31 fX5_21 rfl (by decide) (by decide) (by decide) rfl ?_
  refine go_iconst (nI 0) dX5_beginWith_34 (by decide +kernel) ?_
  refine go_callS0 (K' := kJ7_fill_53178) [_, _] dX5_beginWith_35 mX5_35 lJ7_fill_53178 rfl rfl (Nat.le_of_ble_eq_true rfl) (Nat.le_of_ble_eq_true rfl) (c_fill rfl (by decide) (by decide)) ?_
  refine go_aload_n dX5_beginWith_38 rfl ?_
  refine go_iconst (nI 0) dX5_beginWith_39 (by decide +kernel) ?_
  refine go_puti dX5_beginWith_40 fX5_41 rfl (by decide) (by decide) (by decide) rfl (fun _ _ _ h => by cases h; rfl) (Or.inl rfl) ?_
  exact go_vret dX5_beginWith_43 rfl rfl rfl
theorem c_beginWith_35 {O : gOm} {d : Nat} {m : gMem} : Ca O (d + 1) kX5_beginWith [.ref 3, .ref 35] none m (bgM m 35) := by
  show Go O (d + 1) kX5_beginWith none _ 0 [.ref 3, .ref 35] [] m
  refine go_aload_n dX5_beginWith_0 rfl ?_
  refine go_getc dX5_beginWith_1 fX5_24 rfl (by decide) (by decide) (by decide) rfl ?_
  refine go_iconst (nI 0) dX5_beginWith_4 (by decide +kernel) ?_
  refine go_aload_n dX5_beginWith_5 rfl ?_
  refine go_getc dX5_beginWith_6 fX5_9 rfl (by decide) (by decide) (by decide) rfl ?_
  refine go_iconst (nI 0) dX5_beginWith_9 (by decide +kernel) ?_
  refine go_iconst (nI 3) dX5_beginWith_10 (by decide +kernel) ?_
  refine go_copy dX5_beginWith_11 mX5_29 gNat gNatS gNatI rfl rfl (by decide) (by decide) rfl rfl rfl (by decide) (by decide) (by decide) (by decide) (Nat.le_of_ble_eq_true rfl) ?_
  refine go_aload_n dX5_beginWith_14 rfl ?_
  refine go_getc dX5_beginWith_15 fX5_15 rfl (by decide) (by decide) (by decide) rfl ?_
  refine go_iconst (nI 0) dX5_beginWith_18 (by decide +kernel) ?_
  refine go_callS0 (K' := kJ7_fill_53178) [_, _] dX5_beginWith_19 mX5_35 lJ7_fill_53178 rfl rfl (Nat.le_of_ble_eq_true rfl) (Nat.le_of_ble_eq_true rfl) (c_fill rfl (by decide) (by decide)) ?_
  refine go_aload_n dX5_beginWith_22 rfl ?_
  refine go_getc dX5_beginWith_23 fX5_18 rfl (by decide) (by decide) (by decide) rfl ?_
  refine go_iconst (nI 0) dX5_beginWith_26 (by decide +kernel) ?_
  refine go_callS0 (K' := kJ7_fill_53178) [_, _] dX5_beginWith_27 mX5_35 lJ7_fill_53178 rfl rfl (Nat.le_of_ble_eq_true rfl) (Nat.le_of_ble_eq_true rfl) (c_fill rfl (by decide) (by decide)) ?_
  refine go_aload_n dX5_beginWith_30 rfl ?_
  refine go_getc dX5_beginWith_31 fX5_21 rfl (by decide) (by decide) (by decide) rfl ?_
  refine go_iconst (nI 0) dX5_beginWith_34 (by decide +kernel) ?_
  refine go_callS0 (K' := kJ7_fill_53178) [_, _] dX5_beginWith_35 mX5_35 lJ7_fill_53178 rfl rfl (Nat.le_of_ble_eq_true rfl) (Nat.le_of_ble_eq_true rfl) (c_fill rfl (by decide) (by decide)) ?_
  refine go_aload_n dX5_beginWith_38 rfl ?_
  refine go_iconst (nI 0) dX5_beginWith_39 (by decide +kernel) ?_
  refine go_puti dX5_beginWith_40 fX5_41 rfl (by decide) (by decide) (by decide) rfl (fun _ _ _ h => by cases h; rfl) (Or.inl rfl) ?_
  exact go_vret dX5_beginWith_43 rfl rfl rfl
/-- a telling's number: who, what, and who knew what ahead of it -/
def tcN (p n q : Nat) : Nat := (n * 8 + p) * 262144 + q
theorem tcN_lt {p n q : Nat} (hp : p < 6) (hn : n < 3) (hq : q < 262144) : tcN p n q < 2 ^ 23 := by rw [tcN]; omega
theorem and_7 (a : Nat) : a &&& 7 = a % 8 := Nat.and_two_pow_sub_one_eq_mod a 3
theorem and_18 (a : Nat) : a &&& 262143 = a % 262144 := Nat.and_two_pow_sub_one_eq_mod a 18
theorem c_telling {O : gOm} {d : Nat} {m : gMem} {p n q : Nat} (hp : p < 6) (hn : n < 3) (hq : q < 262144) : Ca O d kX0_telling [.int (nI p), .int (nI n), .int (nI q)] (some (.int (nI (tcN p n q)))) m m := by
  have e4 : nI (n * 2 ^ 3) ||| nI p = nI (n * 8 + p) := by rw [nb_or, Nat.or_comm, or_add (by omega)]; congr 1; omega
  have e9 : nI ((n * 8 + p) * 2 ^ 18) ||| nI q = nI (tcN p n q) := by rw [nb_or, Nat.or_comm, or_add (by omega), tcN]; congr 1; omega
  show Go O d kX0_telling _ m 0 [.int (nI p), .int (nI n), .int (nI q)] [] m
  refine go_iload_n dX0_telling_0 rfl ?_
  refine go_iconst (nI 3) dX0_telling_1 (by decide +kernel) ?_
  refine go_ishl dX0_telling_2 (nb_shl (by decide) (by omega)) ?_
  refine go_iload_n dX0_telling_3 rfl ?_
  refine go_ior dX0_telling_4 e4 ?_
  refine go_bipush (nI 18) dX0_telling_5 (by decide +kernel) ?_
  refine go_ishl dX0_telling_7 (nb_shl (by decide) (by omega)) ?_
  refine go_iload_n dX0_telling_8 rfl ?_
  refine go_ior dX0_telling_9 e9 ?_
  exact go_iret dX0_telling_10 rfl rfl rfl
theorem c_teller {O : gOm} {d : Nat} {m : gMem} {p n q : Nat} (hp : p < 6) (hn : n < 3) (hq : q < 262144) : Ca O d kX0_teller [.int (nI (tcN p n q))] (some (.int (nI p))) m m := by
  have hb := tcN_lt hp hn hq
  have e6 : nI (tcN p n q / 2 ^ 18) &&& nI 7 = nI p := by rw [nb_and, and_7, tcN]; congr 1; omega
  show Go O d kX0_teller _ m 0 [.int (nI (tcN p n q))] [] m
  refine go_iload_n dX0_teller_0 rfl ?_
  refine go_bipush (nI 18) dX0_teller_1 (by decide +kernel) ?_
  refine go_ishr dX0_teller_3 (nb_shr (by omega) (by decide)) ?_
  refine go_bipush (nI 7) dX0_teller_4 (by decide +kernel) ?_
  refine go_iand dX0_teller_6 e6 ?_
  exact go_iret dX0_teller_7 rfl rfl rfl
theorem c_newsOf {O : gOm} {d : Nat} {m : gMem} {p n q : Nat} (hp : p < 6) (hn : n < 3) (hq : q < 262144) : Ca O d kX0_newsOf [.int (nI (tcN p n q))] (some (.int (nI n))) m m := by
  have hb := tcN_lt hp hn hq
  have e3 : nI (tcN p n q) >>> (nI 21 &&& 31) = nI n := by rw [nb_shr (by omega) (by decide), tcN]; congr 1; omega
  show Go O d kX0_newsOf _ m 0 [.int (nI (tcN p n q))] [] m
  refine go_iload_n dX0_newsOf_0 rfl ?_
  refine go_bipush (nI 21) dX0_newsOf_1 (by decide +kernel) ?_
  refine go_ishr dX0_newsOf_3 e3 ?_
  exact go_iret dX0_newsOf_4 rfl rfl rfl
theorem c_packedOf {O : gOm} {d : Nat} {m : gMem} {p n q : Nat} (hp : p < 6) (hn : n < 3) (hq : q < 262144) : Ca O d kX0_packedKnown [.int (nI (tcN p n q))] (some (.int (nI q))) m m := by
  have e3 : nI (tcN p n q) &&& (262143 : Int32) = nI q := by
    have : (262143 : Int32) = nI 262143 := rfl
    rw [this, nb_and, and_18, tcN]; congr 1; omega
  show Go O d kX0_packedKnown _ m 0 [.int (nI (tcN p n q))] [] m
  refine go_iload_n dX0_packedKnown_0 rfl ?_
  refine go_ldc kcX0_15 dX0_packedKnown_1 ?_
  refine go_iand dX0_packedKnown_3 e3 ?_
  exact go_iret dX0_packedKnown_4 rfl rfl rfl
/-- an act comes behind the row; when it is full the first one goes -/
def apM (m : gMem) (c : Nat) (x : Int32) : gMem := if c < 16 then gup (gup m 25 c x) 24 1 (nI (c + 1)) else gup (gup (gup (gupA m 25 (va_cpy (m.1 25) (m.1 25) 1 0 15)) 24 1 (nI 15)) 25 15 x) 24 1 (nI 16)
theorem c_append {O : gOm} {d : Nat} {m : gMem} {c : Nat} {x : Int32} (hc : m.1 24 1 = nI c) (hc6 : c ≤ 16) : Ca O (d + 1) kX0_append [.ref 24, .int x] none m (apM m c x) := by
  show Go O (d + 1) kX0_append none _ 0 [.ref 24, .int x] [] m
  refine go_aload_n dX0_append_0 rfl ?_
  refine go_geti dX0_append_1 fX0_16 rfl (by decide) (by decide) (by decide) rfl hc ?_
  refine go_bipush (nI 16) dX0_append_4 (by decide +kernel) ?_
  rcases Nat.lt_or_ge c 16 with z | z
  · refine go_icmp_lt 30 dX0_append_6 (by decide) (fun h6 => ?_) (fun h => absurd (nI_lt z (by omega)) h)
    rw [show apM m c x = gup (gup m 25 c x) 24 1 (nI (c + 1)) from if_pos z]
    refine go_aload_n dX0_append_30 rfl ?_
    refine go_getc dX0_append_31 fX0_9 rfl (by decide) (by decide) (by decide) rfl ?_
    refine go_aload_n dX0_append_34 rfl ?_
    refine go_geti dX0_append_35 fX0_16 rfl (by decide) (by decide) (by decide) rfl hc ?_
    refine go_iload_n dX0_append_38 rfl ?_
    refine go_iast dX0_append_39 rfl (by decide) rfl (by omega) (by decide) ?_
    refine go_aload_n dX0_append_40 rfl ?_
    refine go_dup dX0_append_41 rfl ?_
    refine go_geti dX0_append_42 fX0_16 rfl (by decide) (by decide) (by decide) rfl hc ?_
    refine go_iconst (nI 1) dX0_append_45 (by decide +kernel) ?_
    first | refine go_iadd_n dX0_append_46 ?_ | refine go_iadd dX0_append_46 rfl ?_
    refine go_puti dX0_append_47 fX0_16 rfl (by decide) (by decide) (by decide) rfl (fun _ _ _ h => by cases h; rfl) (Or.inl rfl) ?_
    exact go_vret dX0_append_50 rfl rfl rfl
  · refine go_icmp_lt 30 dX0_append_6 (by decide) (fun h => absurd h (nI_nlt z (by omega))) (fun h6 => ?_)
    rw [show apM m c x = gup (gup (gup (gupA m 25 (va_cpy (m.1 25) (m.1 25) 1 0 15)) 24 1 (nI 15)) 25 15 x) 24 1 (nI 16) from if_neg (by omega)]
    refine go_aload_n dX0_append_9 rfl ?_
    refine go_getc dX0_append_10 fX0_9 rfl (by decide) (by decide) (by decide) rfl ?_
    refine go_iconst (nI 1) dX0_append_13 (by decide +kernel) ?_
    refine go_aload_n dX0_append_14 rfl ?_
    refine go_getc dX0_append_15 fX0_9 rfl (by decide) (by decide) (by decide) rfl ?_
    refine go_iconst (nI 0) dX0_append_18 (by decide +kernel) ?_
    refine go_bipush (nI 15) dX0_append_19 (by decide +kernel) ?_
    refine go_copy dX0_append_21 mX0_20 gNat gNatS gNatI rfl rfl (by decide) (by decide) rfl rfl rfl (by decide) (by decide) (by decide) (by decide) (Nat.le_of_ble_eq_true rfl) ?_
    refine go_aload_n dX0_append_24 rfl ?_
    refine go_bipush (nI 15) dX0_append_25 (by decide +kernel) ?_
    refine go_puti dX0_append_27 fX0_16 rfl (by decide) (by decide) (by decide) rfl (fun _ _ _ h => by cases h; rfl) (Or.inl rfl) ?_
    refine go_aload_n dX0_append_30 rfl ?_
    refine go_getc dX0_append_31 fX0_9 rfl (by decide) (by decide) (by decide) rfl ?_
    refine go_aload_n dX0_append_34 rfl ?_
    refine go_geti dX0_append_35 fX0_16 rfl (by decide) (by decide) (by decide) rfl (gup_s _ 24 1 (nI 15)) ?_
    refine go_iload_n dX0_append_38 rfl ?_
    refine go_iast dX0_append_39 rfl (by decide) rfl (by decide) (by decide) ?_
    refine go_aload_n dX0_append_40 rfl ?_
    refine go_dup dX0_append_41 rfl ?_
    refine go_geti dX0_append_42 fX0_16 rfl (by decide) (by decide) (by decide) rfl (Eq.refl (nI 15)) ?_
    refine go_iconst (nI 1) dX0_append_45 (by decide +kernel) ?_
    first | refine go_iadd_n dX0_append_46 ?_ | refine go_iadd dX0_append_46 rfl ?_
    refine go_puti dX0_append_47 fX0_16 rfl (by decide) (by decide) (by decide) rfl (fun _ _ _ h => by cases h; rfl) (Or.inl rfl) ?_
    exact go_vret dX0_append_50 rfl rfl rfl
theorem c_takeLast {O : gOm} {d : Nat} {m : gMem} {c : Nat} (hc : m.1 24 1 = nI (c + 1)) (hc6 : c < 16) : Ca O (d + 1) kX0_takeLast [.ref 24] (some (.int (m.1 25 c))) m (gup m 24 1 (nI c)) := by
  have e8 : (if nI c < nI 0 then nI 0 else nI c) = nI c := if_neg (nI_nlt (by omega) (by omega))
  show Go O (d + 1) kX0_takeLast _ _ 0 [.ref 24] [] m
  refine go_aload_n dX0_takeLast_0 rfl ?_
  refine go_aload_n dX0_takeLast_1 rfl ?_
  refine go_geti dX0_takeLast_2 fX0_16 rfl (by decide) (by decide) (by decide) rfl hc ?_
  refine go_iconst (nI 1) dX0_takeLast_5 (by decide +kernel) ?_
  refine go_isub dX0_takeLast_6 (pk_sub (by omega)) ?_
  refine go_iconst (nI 0) dX0_takeLast_7 (by decide +kernel) ?_
  refine go_mmax dX0_takeLast_8 mX0_26 (Nat.le_of_ble_eq_true rfl) e8 ?_
  refine go_puti dX0_takeLast_11 fX0_16 rfl (by decide) (by decide) (by decide) rfl (fun _ _ _ h => by cases h; rfl) (Or.inl rfl) ?_
  refine go_aload_n dX0_takeLast_14 rfl ?_
  refine go_getc dX0_takeLast_15 fX0_9 rfl (by decide) (by decide) (by decide) rfl ?_
  refine go_aload_n dX0_takeLast_18 rfl ?_
  refine go_geti dX0_takeLast_19 fX0_16 rfl (by decide) (by decide) (by decide) rfl (gup_s _ 24 1 (nI c)) ?_
  refine go_iald dX0_takeLast_22 rfl (by decide) rfl (by omega) (by decide) rfl ?_
  exact go_iret dX0_takeLast_23 rfl rfl rfl
def seM (m : gMem) (h p c : Nat) (kn : Bool) : gMem := gup (gup m (bif kn then 27 else 28) h (m.1 (bif kn then 27 else 28) h ||| nI (2 ^ p))) 26 2 (nI (c + 1))
theorem c_see {O : gOm} {d : Nat} {m : gMem} {h p c : Nat} {kn : Bool} (hh : h < 6) (hp : p < 6) (hc : m.1 26 2 = nI c) : Ca O d kX4_see [.ref 26, .int (nI h), .int (nI p), .int (bI kn)] none m (seM m h p c kn) := by
  have e1 : nI 1 <<< (nI p &&& 31) = nI (2 ^ p) := nb_one (by omega)
  show Go O d kX4_see none _ 0 [.ref 26, .int (nI h), .int (nI p), .int (bI kn)] [] m
  cases kn with
  | false =>
    refine go_iload_n dX4_see_0 rfl ?_
    refine go_if_eq 19 dX4_see_1 (by decide) (fun h1 => ?_) (fun h => absurd (rfl) h)
    refine go_aload_n dX4_see_19 rfl ?_
    refine go_getc dX4_see_20 fX4_15 rfl (by decide) (by decide) (by decide) rfl ?_
    refine go_iload_n dX4_see_23 rfl ?_
    refine go_dup2 dX4_see_24 rfl rfl ?_
    refine go_iald dX4_see_25 rfl (by decide) rfl (by omega) (by decide) rfl ?_
    refine go_iconst (nI 1) dX4_see_26 (by decide +kernel) ?_
    refine go_iload_n dX4_see_27 rfl ?_
    refine go_ishl dX4_see_28 e1 ?_
    refine go_ior dX4_see_29 rfl ?_
    refine go_iast dX4_see_30 rfl (by decide) rfl (by omega) (by decide) ?_
    refine go_aload_n dX4_see_31 rfl ?_
    refine go_dup dX4_see_32 rfl ?_
    refine go_geti dX4_see_33 fX4_18 rfl (by decide) (by decide) (by decide) rfl hc ?_
    refine go_iconst (nI 1) dX4_see_36 (by decide +kernel) ?_
    first | refine go_iadd_n dX4_see_37 ?_ | refine go_iadd dX4_see_37 rfl ?_
    refine go_puti dX4_see_38 fX4_18 rfl (by decide) (by decide) (by decide) rfl (fun _ _ _ h => by cases h; rfl) (Or.inl rfl) ?_
    exact go_vret dX4_see_41 rfl rfl rfl
  | true =>
    refine go_iload_n dX4_see_0 rfl ?_
    refine go_if_eq 19 dX4_see_1 (by decide) (fun h => absurd h (by decide +kernel)) (fun h1 => ?_)
    refine go_aload_n dX4_see_4 rfl ?_
    refine go_getc dX4_see_5 fX4_9 rfl (by decide) (by decide) (by decide) rfl ?_
    refine go_iload_n dX4_see_8 rfl ?_
    refine go_dup2 dX4_see_9 rfl rfl ?_
    refine go_iald dX4_see_10 rfl (by decide) rfl (by omega) (by decide) rfl ?_
    refine go_iconst (nI 1) dX4_see_11 (by decide +kernel) ?_
    refine go_iload_n dX4_see_12 rfl ?_
    refine go_ishl dX4_see_13 e1 ?_
    refine go_ior dX4_see_14 rfl ?_
    refine go_iast dX4_see_15 rfl (by decide) rfl (by omega) (by decide) ?_
    refine go_goto 31 dX4_see_16 (by decide) ?_
    refine go_aload_n dX4_see_31 rfl ?_
    refine go_dup dX4_see_32 rfl ?_
    refine go_geti dX4_see_33 fX4_18 rfl (by decide) (by decide) (by decide) rfl hc ?_
    refine go_iconst (nI 1) dX4_see_36 (by decide +kernel) ?_
    first | refine go_iadd_n dX4_see_37 ?_ | refine go_iadd dX4_see_37 rfl ?_
    refine go_puti dX4_see_38 fX4_18 rfl (by decide) (by decide) (by decide) rfl (fun _ _ _ h => by cases h; rfl) (Or.inl rfl) ?_
    exact go_vret dX4_see_41 rfl rfl rfl
def fgM (m : gMem) : gMem := gup (gupA (gupA m 27 (flP (m.1 27) (nI 0) 6)) 28 (flP (m.1 28) (nI 0) 6)) 26 2 (nI 0)
theorem c_forget {O : gOm} {d : Nat} {m : gMem} : Ca O (d + 1) kX4_forget [.ref 26] none m (fgM m) := by
  show Go O (d + 1) kX4_forget none _ 0 [.ref 26] [] m
  refine go_aload_n dX4_forget_0 rfl ?_
  refine go_getc dX4_forget_1 fX4_9 rfl (by decide) (by decide) (by decide) rfl ?_
  refine go_iconst (nI 0) dX4_forget_4 (by decide +kernel) ?_
  refine go_callS0 (K' := kJ7_fill_53178) [_, _] dX4_forget_5 mX4_22 lJ7_fill_53178 rfl rfl (Nat.le_of_ble_eq_true rfl) (Nat.le_of_ble_eq_true rfl) (c_fill rfl (by decide) (by decide)) ?_
  refine go_aload_n dX4_forget_8 rfl ?_
  refine go_getc dX4_forget_9 fX4_15 rfl (by decide) (by decide) (by decide) rfl ?_
  refine go_iconst (nI 0) dX4_forget_12 (by decide +kernel) ?_
  refine go_callS0 (K' := kJ7_fill_53178) [_, _] dX4_forget_13 mX4_22 lJ7_fill_53178 rfl rfl (Nat.le_of_ble_eq_true rfl) (Nat.le_of_ble_eq_true rfl) (c_fill rfl (by decide) (by decide)) ?_
  refine go_aload_n dX4_forget_16 rfl ?_
  refine go_iconst (nI 0) dX4_forget_17 (by decide +kernel) ?_
  refine go_puti dX4_forget_18 fX4_18 rfl (by decide) (by decide) (by decide) rfl (fun _ _ _ h => by cases h; rfl) (Or.inl rfl) ?_
  exact go_vret dX4_forget_21 rfl rfl rfl
theorem c_fit {O : gOm} {d : Nat} {m : gMem} {h k a b : Nat} (hh : h < 6) (hk : k < 64) (ha : a < 64) (hb : b < 64) (h1 : m.1 27 h = nI a) (h2 : m.1 28 h = nI b) : Ca O d kX4_fit [.ref 26, .int (nI h), .int (nI k)] (some (.int (bI (decide (a &&& (k ^^^ 63) = 0) && decide (b &&& k = 0))))) m m := by
  have z1 : a &&& (k ^^^ 63) < 64 := Nat.lt_of_le_of_lt Nat.and_le_left ha
  have z2 : b &&& k < 64 := Nat.lt_of_le_of_lt Nat.and_le_left hb
  show Go O d kX4_fit _ m 0 [.ref 26, .int (nI h), .int (nI k)] [] m
  refine go_aload_n dX4_fit_0 rfl ?_
  refine go_getc dX4_fit_1 fX4_9 rfl (by decide) (by decide) (by decide) rfl ?_
  refine go_iload_n dX4_fit_4 rfl ?_
  refine go_iald dX4_fit_5 rfl (by decide) rfl (by omega) (by decide) h1 ?_
  refine go_iload_n dX4_fit_6 rfl ?_
  refine go_iconst (-1) dX4_fit_7 (by decide +kernel) ?_
  refine go_ixor dX4_fit_8 rfl ?_
  refine go_iand dX4_fit_9 (nk_eq a ha k hk) ?_
  refine go_if_ne 28 dX4_fit_10 (by decide) (fun h10 => ?_) (fun h10 => ?_)
  · have er : bI (decide (a &&& (k ^^^ 63) = 0) && decide (b &&& k = 0)) = nI 0 := by
      have e : ¬ (a &&& (k ^^^ 63)) = 0 := fun z => h10 (by rw [z]; rfl)
      simp [e, bI]
    refine go_iconst (nI 0) dX4_fit_28 (by decide +kernel) ?_
    exact go_zret dX4_fit_29 rfl (by first | exact Or.inl rfl | exact Or.inr rfl) (by rw [er]) rfl
  · have e1 : (a &&& (k ^^^ 63)) = 0 := (nI_eq (b := 0) (by omega) (by omega)).mp h10
    refine go_aload_n dX4_fit_13 rfl ?_
    refine go_getc dX4_fit_14 fX4_15 rfl (by decide) (by decide) (by decide) rfl ?_
    refine go_iload_n dX4_fit_17 rfl ?_
    refine go_iald dX4_fit_18 rfl (by decide) rfl (by omega) (by decide) h2 ?_
    refine go_iload_n dX4_fit_19 rfl ?_
    refine go_iand dX4_fit_20 (nb_and _ _) ?_
    refine go_if_ne 28 dX4_fit_21 (by decide) (fun h21 => ?_) (fun h21 => ?_)
    · have er : bI (decide (a &&& (k ^^^ 63) = 0) && decide (b &&& k = 0)) = nI 0 := by
        have e : ¬ (b &&& k) = 0 := fun z => h21 (by rw [z]; rfl)
        simp [e, bI]
      refine go_iconst (nI 0) dX4_fit_28 (by decide +kernel) ?_
      exact go_zret dX4_fit_29 rfl (by first | exact Or.inl rfl | exact Or.inr rfl) (by rw [er]) rfl
    · have er : bI (decide (a &&& (k ^^^ 63) = 0) && decide (b &&& k = 0)) = nI 1 := by
        have e : (b &&& k) = 0 := (nI_eq (b := 0) (by omega) (by omega)).mp h21
        simp [e, e1, bI]
      refine go_iconst (nI 1) dX4_fit_24 (by decide +kernel) ?_
      refine go_goto 29 dX4_fit_25 (by decide) ?_
      exact go_zret dX4_fit_29 rfl (by first | exact Or.inl rfl | exact Or.inr rfl) (by rw [er]) rfl
end
section
/-! WHAT HOLDS BETWEEN TWO CALLS: the class's cells and the reference's tell the same -/
/-- a page is sound -/
def PgOk (lim : Nat → Nat) (N : Nat) (f : Nat → Int32) (hr : Nat) : Prop :=
  hr < 6 ∧ (∀ n, n < 3 → ∃ k, k < 64 ∧ f (3 + n) = nI k) ∧ (∀ n, n < 3 → nI 0 + f (42 + 3 * n + 0) + f (42 + 3 * n + 1) + f (42 + 3 * n + 2) = f n) ∧ (∀ n, n < 3 → n < N → ∃ t, t ≤ lim n ∧ f n = nI t) ∧ (N = 3 → f 5 ||| (f 3 &&& f 4) = f 5)
/-- a Standing tells a page -/
def StP (m : gMem) (s : Nat) (f : Nat → Int32) (hr : Nat) : Prop :=
  m.1 s 4 = nI hr ∧ (∀ n, n < 3 → m.1 (s + 1) n = f (3 + n)) ∧ (∀ p n, p < 6 → n < 3 → m.1 (s + 2) (p * 3 + n) = f (6 + 6 * n + p)) ∧ (∀ p n, p < 6 → n < 3 → m.1 (s + 3) (p * 3 + n) = f (24 + 6 * n + p)) ∧ (∀ n a, n < 3 → a < 3 → m.1 (s + 4) (n * 3 + a) = f (42 + 3 * n + a))
/-- two pages tell the same -/
def PgE (f g : Nat → Int32) : Prop := ∀ j, j < 51 → f j = g j
/-- the reference's day -/
def IvD (m : gMem) (P N lw : Nat) (lim : Nat → Nat) : Prop :=
  m.1 46 4 = nI P ∧ P ≤ 6 ∧ m.1 46 5 = nI N ∧ N ≤ 3 ∧ m.1 46 6 = nI lw ∧ lw < 3 ∧ (∀ p h, p < P → h < 6 → ∃ av : Option Nat, m.1 48 (6 * p + h) = oI (-9) av ∧ ∀ a, av = some a → a < 3) ∧ (∀ n, n < N → lim n ≤ 9 ∧ m.1 49 n = nI (lim n)) ∧ (∀ n, n < N → ∃ k, k < 64 ∧ m.1 51 n = nI k)
/-- the class's day, in the cell T, told as the reference's -/
def IvT (m : gMem) (T P N lw : Nat) : Prop :=
  m.1 T 5 = nI P ∧ m.1 T 6 = nI N ∧ m.1 T 7 = nI lw ∧ (∀ p h, p < P → h < 6 → m.1 (T + 1) (p * 6 + h) = m.1 48 (6 * p + h)) ∧ (∀ h a, h < 6 → a < 3 → m.1 (T + 2) (h * 3 + a) = nI (grp (m.1 48) P h a)) ∧ (∀ n, n < N → m.1 (T + 3) n = m.1 49 n ∧ m.1 (T + 4) n = m.1 50 n ∧ m.1 (T + 5) n = m.1 51 n)
def IvTD (m : gMem) : Prop := (m.2 0 = 29 ∧ m.2 1 = 35) ∨ (m.2 0 = 35 ∧ m.2 1 = 29)
/-- now -/
def IvP (m : gMem) (N : Nat) (lim : Nat → Nat) (hr : Nat) : Prop := StP m 3 (m.1 52) hr ∧ m.1 46 11 = nI hr ∧ PgOk lim N (m.1 52) hr
/-- one page comes of another by an act -/
def Lnk (w : Nat → Int32) (P N : Nat) (act : Int32) (f : Nat → Int32) (hr : Nat) (f' : Nat → Int32) (hr' : Nat) : Prop :=
  (act = -1 ∧ hr' = hr + 1 ∧ PgE f' f) ∨ ∃ p n a k0 k1 k2, p < P ∧ n < N ∧ a < 3 ∧ w (6 * p + hr) = nI a ∧ f 3 = nI k0 ∧ f 4 = nI k1 ∧ f 5 = nI k2 ∧ k0 < 64 ∧ k1 < 64 ∧ k2 < 64 ∧ act = nI (tcN p n (pk3 k0 k1 k2)) ∧ hr' = hr ∧ PgE f' (tlP f n p a (grp w P hr a) P N)
/-- the acts: the reference's book of pages, the class's row -/
def IvA (m : gMem) (P N : Nat) (lim : Nat → Nat) (hr a : Nat) : Prop :=
  a ≤ 16 ∧ m.1 24 1 = nI a ∧ m.1 46 21 = nI a ∧ ∃ (g : Nat → Nat → Int32) (hs : Nat → Nat), PgE (g a) (m.1 52) ∧ hs a = hr ∧ ∀ i, i < a → PgE (fun j => m.1 57 (58 * i + j)) (g i) ∧ m.1 57 (58 * i + 57) = nI (hs i) ∧ PgOk lim N (g i) (hs i) ∧ Lnk (m.1 48) P N (m.1 25 i) (g i) (hs i) (g (i + 1)) (hs (i + 1))
/-- what is kept -/
def IvK (m : gMem) (N : Nat) (lim : Nat → Nat) : Prop := ∀ s, s < 2 → ∃ b : Bool, m.1 (gsl s) 5 = bI b ∧ m.1 59 s = bI b ∧ (b = true → ∃ (g : Nat → Int32) (hr : Nat), PgE (fun j => m.1 58 (58 * s + j)) g ∧ m.1 58 (58 * s + 57) = nI hr ∧ PgOk lim N g hr ∧ StP m (gsl s) g hr)
/-- the sights: sets by hours tell what the row tells -/
def snA (m : gMem) (h : Nat) (b : Bool) : Nat → Nat
  | 0 => 0
  | c + 1 => snA m h b c ||| (if m.1 61 c = nI h ∧ m.1 63 c = bI b then 2 ^ (m.1 62 c).toNatClampNeg else 0)
def IvS (m : gMem) (c : Nat) : Prop := c ≤ 8 ∧ m.1 26 2 = nI c ∧ m.1 46 25 = nI c ∧ (∀ i, i < c → (∃ h, h < 6 ∧ m.1 61 i = nI h) ∧ (∃ p, p < 6 ∧ m.1 62 i = nI p) ∧ ∃ b, m.1 63 i = bI b) ∧ ∀ h, h < 6 → m.1 27 h = nI (snA m h true c) ∧ m.1 28 h = nI (snA m h false c)
/-- the text -/
def IvX (m : gMem) (L : Nat) : Prop := L ≤ 72 ∧ m.1 1 1 = nI L ∧ m.1 46 2 = nI L ∧ ∀ i, i < L → ∃ b, b < 256 ∧ m.1 2 i = nI b ∧ m.1 47 i = nI b
def Inv (m : gMem) : Prop := ∃ (P N lw hr a c L : Nat) (lim : Nat → Nat), IvTD m ∧ IvD m P N lw lim ∧ IvT m (m.2 0) P N lw ∧ IvP m N lim hr ∧ IvA m P N lim hr a ∧ IvK m N lim ∧ IvS m c ∧ IvX m L
theorem PgE.rf (f : Nat → Int32) : PgE f f := fun _ _ => rfl
theorem PgE.sy {f g : Nat → Int32} (h : PgE f g) : PgE g f := fun j hj => (h j hj).symm
theorem PgE.tr {f g k : Nat → Int32} (h : PgE f g) (h' : PgE g k) : PgE f k := fun j hj => (h j hj).trans (h' j hj)
theorem PgOk.of {lim : Nat → Nat} {N hr : Nat} {f g : Nat → Int32} (h : PgOk lim N f hr) (e : PgE f g) : PgOk lim N g hr := by
  obtain ⟨h1, h2, h3, h4, h5⟩ := h
  refine ⟨h1, fun n hn => ?_, fun n hn => ?_, fun n h3n hn => ?_, fun hN => ?_⟩
  · obtain ⟨k, a, b⟩ := h2 n hn
    exact ⟨k, a, by rw [← e (3 + n) (by omega)]; exact b⟩
  · rw [← e (42 + 3 * n + 0) (by omega), ← e (42 + 3 * n + 1) (by omega), ← e (42 + 3 * n + 2) (by omega), ← e n (by omega)]
    exact h3 n hn
  · obtain ⟨t, a, b⟩ := h4 n h3n hn
    exact ⟨t, a, by rw [← e n (by omega)]; exact b⟩
  · rw [← e 5 (by omega), ← e 3 (by omega), ← e 4 (by omega)]
    exact h5 hN
theorem StP.of {m : gMem} {s hr : Nat} {f g : Nat → Int32} (h : StP m s f hr) (e : PgE f g) : StP m s g hr := by
  obtain ⟨h1, h2, h3, h4, h5⟩ := h
  exact ⟨h1, fun n hn => by rw [h2 n hn, e _ (by omega)], fun p n hp hn => by rw [h3 p n hp hn, e _ (by omega)], fun p n hp hn => by rw [h4 p n hp hn, e _ (by omega)], fun n a hn ha => by rw [h5 n a hn ha, e _ (by omega)]⟩
/-- what is told of some cells stays where they stay -/
theorem IvD.kept {m m' : gMem} {P N lw : Nat} {lim : Nat → Nat} (h : IvD m P N lw lim) (e4 : m'.1 46 4 = m.1 46 4) (e5 : m'.1 46 5 = m.1 46 5) (e6 : m'.1 46 6 = m.1 46 6) (a1 : m'.1 48 = m.1 48) (a2 : m'.1 49 = m.1 49) (a4 : m'.1 51 = m.1 51) : IvD m' P N lw lim := by
  unfold IvD at *
  rw [e4, e5, e6, a1, a2, a4]
  exact h
theorem IvT.kept {m m' : gMem} {T P N lw : Nat} (h : IvT m T P N lw) (e0 : m'.1 T = m.1 T) (e1 : m'.1 (T + 1) = m.1 (T + 1)) (e2 : m'.1 (T + 2) = m.1 (T + 2)) (e3 : m'.1 (T + 3) = m.1 (T + 3)) (e4 : m'.1 (T + 4) = m.1 (T + 4)) (e5 : m'.1 (T + 5) = m.1 (T + 5)) (a1 : m'.1 48 = m.1 48) (a2 : m'.1 49 = m.1 49) (a3 : m'.1 50 = m.1 50) (a4 : m'.1 51 = m.1 51) : IvT m' T P N lw := by
  unfold IvT at *
  rw [e0, e1, e2, e3, e4, e5, a1, a2, a3, a4]
  exact h
theorem StP.kept {m m' : gMem} {s hr : Nat} {f : Nat → Int32} (h : StP m s f hr) (e0 : m'.1 s 4 = m.1 s 4) (e1 : m'.1 (s + 1) = m.1 (s + 1)) (e2 : m'.1 (s + 2) = m.1 (s + 2)) (e3 : m'.1 (s + 3) = m.1 (s + 3)) (e4 : m'.1 (s + 4) = m.1 (s + 4)) : StP m' s f hr := by
  unfold StP at *
  rw [e0, e1, e2, e3, e4]
  exact h
theorem IvP.kept {m m' : gMem} {N hr : Nat} {lim : Nat → Nat} (h : IvP m N lim hr) (e0 : m'.1 3 4 = m.1 3 4) (e1 : m'.1 4 = m.1 4) (e2 : m'.1 5 = m.1 5) (e3 : m'.1 6 = m.1 6) (e4 : m'.1 7 = m.1 7) (a1 : m'.1 46 11 = m.1 46 11) (a2 : m'.1 52 = m.1 52) : IvP m' N lim hr := by
  unfold IvP at *
  rw [a1, a2]
  exact ⟨h.1.kept e0 e1 e2 e3 e4, h.2⟩
theorem IvA.kept {m m' : gMem} {P N hr a : Nat} {lim : Nat → Nat} (h : IvA m P N lim hr a) (e0 : m'.1 24 1 = m.1 24 1) (e1 : m'.1 25 = m.1 25) (a0 : m'.1 46 21 = m.1 46 21) (a1 : m'.1 48 = m.1 48) (a2 : m'.1 52 = m.1 52) (a3 : m'.1 57 = m.1 57) : IvA m' P N lim hr a := by
  unfold IvA at *
  rw [e0, e1, a0, a1, a2, a3]
  exact h
theorem gsl_0 : gsl 0 = 14 := rfl
theorem gsl_1 : gsl 1 = 19 := rfl
theorem lt2 {s : Nat} (h : s < 2) : s = 0 ∨ s = 1 := by omega
theorem IvK.kept {m m' : gMem} {N : Nat} {lim : Nat → Nat} (h : IvK m N lim) (e0 : m'.1 14 = m.1 14) (e1 : m'.1 15 = m.1 15) (e2 : m'.1 16 = m.1 16) (e3 : m'.1 17 = m.1 17) (e4 : m'.1 18 = m.1 18) (f0 : m'.1 19 = m.1 19) (f1 : m'.1 20 = m.1 20) (f2 : m'.1 21 = m.1 21) (f3 : m'.1 22 = m.1 22) (f4 : m'.1 23 = m.1 23) (a1 : m'.1 58 = m.1 58) (a2 : m'.1 59 = m.1 59) : IvK m' N lim := by
  intro s hs
  obtain ⟨b, h1, h2, h3⟩ := h s hs
  rcases lt2 hs with rfl | rfl
  · rw [gsl_0] at *
    refine ⟨b, by rw [e0]; exact h1, by rw [a2]; exact h2, fun hb => ?_⟩
    obtain ⟨g, hr, q1, q2, q3, q4⟩ := h3 hb
    exact ⟨g, hr, by rw [a1]; exact q1, by rw [a1]; exact q2, q3, q4.kept (by rw [e0]) e1 e2 e3 e4⟩
  · rw [gsl_1] at *
    refine ⟨b, by rw [f0]; exact h1, by rw [a2]; exact h2, fun hb => ?_⟩
    obtain ⟨g, hr, q1, q2, q3, q4⟩ := h3 hb
    exact ⟨g, hr, by rw [a1]; exact q1, by rw [a1]; exact q2, q3, q4.kept (by rw [f0]) f1 f2 f3 f4⟩
theorem snA_congr {m m' : gMem} (a1 : m'.1 61 = m.1 61) (a2 : m'.1 62 = m.1 62) (a3 : m'.1 63 = m.1 63) (h : Nat) (b : Bool) : ∀ c, snA m' h b c = snA m h b c
  | 0 => rfl
  | c + 1 => by simp only [snA, snA_congr a1 a2 a3 h b c, a1, a2, a3]
theorem IvS.kept {m m' : gMem} {c : Nat} (h : IvS m c) (e0 : m'.1 26 2 = m.1 26 2) (e1 : m'.1 27 = m.1 27) (e2 : m'.1 28 = m.1 28) (a0 : m'.1 46 25 = m.1 46 25) (a1 : m'.1 61 = m.1 61) (a2 : m'.1 62 = m.1 62) (a3 : m'.1 63 = m.1 63) : IvS m' c := by
  obtain ⟨h1, h2, h3, h4, h5⟩ := h
  refine ⟨h1, by rw [e0]; exact h2, by rw [a0]; exact h3, by rw [a1, a2, a3]; exact h4, fun h hh => ?_⟩
  rw [e1, e2, snA_congr a1 a2 a3, snA_congr a1 a2 a3]
  exact h5 h hh
theorem IvX.kept {m m' : gMem} {L : Nat} (h : IvX m L) (e0 : m'.1 1 1 = m.1 1 1) (e1 : m'.1 2 = m.1 2) (a0 : m'.1 46 2 = m.1 46 2) (a1 : m'.1 47 = m.1 47) : IvX m' L := by
  unfold IvX at *
  rw [e0, e1, a0, a1]
  exact h
end
