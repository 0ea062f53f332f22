section
-- ===== PART A: goes FIRST, ahead of the names: the tables' words, and 'selects' of the private methods out of them =====
/-- a private method of a class that the tables say can be made, by its rows of tables_1 -/
def lw_okq (q : MethodName × Nat) : Prop := (q.1.cls ≠ "java/lang/invoke/MethodHandle" ∧ q.1.cls ≠ "java/lang/invoke/VarHandle") ∧ Cond.instantiable q.1.cls q.2 ∈ tables_1 ∧ Cond.privateMethod q.1 ∈ tables_1 ∧ Cond.instanceMethod q.1 ∈ tables_1
theorem lw_p0 : lw_okq (⟨"ChantNeumes", "feedNumber", "(I)V"⟩, 6) := ⟨⟨by decide +kernel, by decide +kernel⟩, List.mem_of_getElem? (i := 13) (by decide +kernel), List.mem_of_getElem? (i := 231) (by decide +kernel), List.mem_of_getElem? (i := 232) (by decide +kernel)⟩
theorem lw_p1 : lw_okq (⟨"ChantNeumes$Reader", "start", "()V"⟩, 12) := ⟨⟨by decide +kernel, by decide +kernel⟩, List.mem_of_getElem? (i := 101) (by decide +kernel), List.mem_of_getElem? (i := 255) (by decide +kernel), List.mem_of_getElem? (i := 256) (by decide +kernel)⟩
theorem lw_p2 : lw_okq (⟨"ChantNeumes$Reader", "takeInside", "(III)V"⟩, 12) := ⟨⟨by decide +kernel, by decide +kernel⟩, List.mem_of_getElem? (i := 101) (by decide +kernel), List.mem_of_getElem? (i := 271) (by decide +kernel), List.mem_of_getElem? (i := 272) (by decide +kernel)⟩
theorem lw_p3 : lw_okq (⟨"ChantNeumes$Reader", "takeMark", "(II)V"⟩, 12) := ⟨⟨by decide +kernel, by decide +kernel⟩, List.mem_of_getElem? (i := 101) (by decide +kernel), List.mem_of_getElem? (i := 278) (by decide +kernel), List.mem_of_getElem? (i := 279) (by decide +kernel)⟩
theorem lw_p4 : lw_okq (⟨"ChantNeumes$Reader", "refuse", "(II)V"⟩, 12) := ⟨⟨by decide +kernel, by decide +kernel⟩, List.mem_of_getElem? (i := 101) (by decide +kernel), List.mem_of_getElem? (i := 282) (by decide +kernel), List.mem_of_getElem? (i := 283) (by decide +kernel)⟩
theorem lw_p5 : lw_okq (⟨"ChantNeumes$Reader", "takeHeight", "(III)V"⟩, 12) := ⟨⟨by decide +kernel, by decide +kernel⟩, List.mem_of_getElem? (i := 101) (by decide +kernel), List.mem_of_getElem? (i := 295) (by decide +kernel), List.mem_of_getElem? (i := 296) (by decide +kernel)⟩
theorem lw_p6 : lw_okq (⟨"ChantNeumes$Reader", "takeAccidental", "(III)V"⟩, 12) := ⟨⟨by decide +kernel, by decide +kernel⟩, List.mem_of_getElem? (i := 101) (by decide +kernel), List.mem_of_getElem? (i := 299) (by decide +kernel), List.mem_of_getElem? (i := 300) (by decide +kernel)⟩
theorem lw_p7 : lw_okq (⟨"ChantNeumes$Reader", "addSign", "(III)Z"⟩, 12) := ⟨⟨by decide +kernel, by decide +kernel⟩, List.mem_of_getElem? (i := 101) (by decide +kernel), List.mem_of_getElem? (i := 303) (by decide +kernel), List.mem_of_getElem? (i := 304) (by decide +kernel)⟩
theorem lw_p8 : lw_okq (⟨"ChantNeumes$Reader", "takeClef", "(III)V"⟩, 12) := ⟨⟨by decide +kernel, by decide +kernel⟩, List.mem_of_getElem? (i := 101) (by decide +kernel), List.mem_of_getElem? (i := 310) (by decide +kernel), List.mem_of_getElem? (i := 311) (by decide +kernel)⟩
theorem lw_p9 : lw_okq (⟨"ChantNeumes$Reader", "takeNote", "(II)V"⟩, 12) := ⟨⟨by decide +kernel, by decide +kernel⟩, List.mem_of_getElem? (i := 101) (by decide +kernel), List.mem_of_getElem? (i := 314) (by decide +kernel), List.mem_of_getElem? (i := 315) (by decide +kernel)⟩
theorem lw_p10 : lw_okq (⟨"ChantNeumes$Reader", "endSyllable", "()V"⟩, 12) := ⟨⟨by decide +kernel, by decide +kernel⟩, List.mem_of_getElem? (i := 101) (by decide +kernel), List.mem_of_getElem? (i := 329) (by decide +kernel), List.mem_of_getElem? (i := 330) (by decide +kernel)⟩
theorem lw_p11 : lw_okq (⟨"ChantNeumes$Reader", "takeBar", "(II)V"⟩, 12) := ⟨⟨by decide +kernel, by decide +kernel⟩, List.mem_of_getElem? (i := 101) (by decide +kernel), List.mem_of_getElem? (i := 333) (by decide +kernel), List.mem_of_getElem? (i := 334) (by decide +kernel)⟩
theorem lw_p12 : lw_okq (⟨"ChantNeumes$Reader", "takeLineEnd", "(I)V"⟩, 12) := ⟨⟨by decide +kernel, by decide +kernel⟩, List.mem_of_getElem? (i := 101) (by decide +kernel), List.mem_of_getElem? (i := 337) (by decide +kernel), List.mem_of_getElem? (i := 338) (by decide +kernel)⟩
theorem lw_p13 : lw_okq (⟨"ChantNeumes$Reader", "takeOutside", "(II)V"⟩, 12) := ⟨⟨by decide +kernel, by decide +kernel⟩, List.mem_of_getElem? (i := 101) (by decide +kernel), List.mem_of_getElem? (i := 341) (by decide +kernel), List.mem_of_getElem? (i := 342) (by decide +kernel)⟩
theorem lw_p14 : lw_okq (⟨"ChantNeumes$Reader", "beginSyllable", "(I)Z"⟩, 12) := ⟨⟨by decide +kernel, by decide +kernel⟩, List.mem_of_getElem? (i := 101) (by decide +kernel), List.mem_of_getElem? (i := 351) (by decide +kernel), List.mem_of_getElem? (i := 352) (by decide +kernel)⟩
theorem lw_p15 : lw_okq (⟨"ChantNeumes$Psalm", "accentsOf", "(I)LChantNeumes$Table;"⟩, 4) := ⟨⟨by decide +kernel, by decide +kernel⟩, List.mem_of_getElem? (i := 146) (by decide +kernel), List.mem_of_getElem? (i := 482) (by decide +kernel), List.mem_of_getElem? (i := 483) (by decide +kernel)⟩
def lw_privs_1 : List (MethodName × Nat) := [(⟨"ChantNeumes", "feedNumber", "(I)V"⟩, 6), (⟨"ChantNeumes$Reader", "start", "()V"⟩, 12), (⟨"ChantNeumes$Reader", "takeInside", "(III)V"⟩, 12), (⟨"ChantNeumes$Reader", "takeMark", "(II)V"⟩, 12), (⟨"ChantNeumes$Reader", "refuse", "(II)V"⟩, 12), (⟨"ChantNeumes$Reader", "takeHeight", "(III)V"⟩, 12), (⟨"ChantNeumes$Reader", "takeAccidental", "(III)V"⟩, 12), (⟨"ChantNeumes$Reader", "addSign", "(III)Z"⟩, 12), (⟨"ChantNeumes$Reader", "takeClef", "(III)V"⟩, 12), (⟨"ChantNeumes$Reader", "takeNote", "(II)V"⟩, 12), (⟨"ChantNeumes$Reader", "endSyllable", "()V"⟩, 12), (⟨"ChantNeumes$Reader", "takeBar", "(II)V"⟩, 12), (⟨"ChantNeumes$Reader", "takeLineEnd", "(I)V"⟩, 12), (⟨"ChantNeumes$Reader", "takeOutside", "(II)V"⟩, 12), (⟨"ChantNeumes$Reader", "beginSyllable", "(I)Z"⟩, 12), (⟨"ChantNeumes$Psalm", "accentsOf", "(I)LChantNeumes$Table;"⟩, 4)]
theorem lw_r1 : ∀ q ∈ lw_privs_1, lw_okq q := List.forall_mem_cons.mpr ⟨lw_p0, List.forall_mem_cons.mpr ⟨lw_p1, List.forall_mem_cons.mpr ⟨lw_p2, List.forall_mem_cons.mpr ⟨lw_p3, List.forall_mem_cons.mpr ⟨lw_p4, List.forall_mem_cons.mpr ⟨lw_p5, List.forall_mem_cons.mpr ⟨lw_p6, List.forall_mem_cons.mpr ⟨lw_p7, List.forall_mem_cons.mpr ⟨lw_p8, List.forall_mem_cons.mpr ⟨lw_p9, List.forall_mem_cons.mpr ⟨lw_p10, List.forall_mem_cons.mpr ⟨lw_p11, List.forall_mem_cons.mpr ⟨lw_p12, List.forall_mem_cons.mpr ⟨lw_p13, List.forall_mem_cons.mpr ⟨lw_p14, List.forall_mem_cons.mpr ⟨lw_p15, fun _ h => absurd h List.not_mem_nil⟩⟩⟩⟩⟩⟩⟩⟩⟩⟩⟩⟩⟩⟩⟩⟩
theorem lw_p16 : lw_okq (⟨"ChantNeumes$Fitting", "placeAccents", "(LChantNeumes$Table;)V"⟩, 8) := ⟨⟨by decide +kernel, by decide +kernel⟩, List.mem_of_getElem? (i := 154) (by decide +kernel), List.mem_of_getElem? (i := 513) (by decide +kernel), List.mem_of_getElem? (i := 514) (by decide +kernel)⟩
theorem lw_p17 : lw_okq (⟨"ChantNeumes$Fitting", "closeCell", "(I)I"⟩, 8) := ⟨⟨by decide +kernel, by decide +kernel⟩, List.mem_of_getElem? (i := 154) (by decide +kernel), List.mem_of_getElem? (i := 522) (by decide +kernel), List.mem_of_getElem? (i := 523) (by decide +kernel)⟩
theorem lw_p18 : lw_okq (⟨"ChantNeumes$Fitting", "chooseForm", "()V"⟩, 8) := ⟨⟨by decide +kernel, by decide +kernel⟩, List.mem_of_getElem? (i := 154) (by decide +kernel), List.mem_of_getElem? (i := 534) (by decide +kernel), List.mem_of_getElem? (i := 535) (by decide +kernel)⟩
theorem lw_p19 : lw_okq (⟨"ChantNeumes$Fitting", "firstPlaced", "()I"⟩, 8) := ⟨⟨by decide +kernel, by decide +kernel⟩, List.mem_of_getElem? (i := 154) (by decide +kernel), List.mem_of_getElem? (i := 538) (by decide +kernel), List.mem_of_getElem? (i := 539) (by decide +kernel)⟩
theorem lw_p20 : lw_okq (⟨"ChantNeumes$Fitting", "singSyllable", "(IZ)V"⟩, 8) := ⟨⟨by decide +kernel, by decide +kernel⟩, List.mem_of_getElem? (i := 154) (by decide +kernel), List.mem_of_getElem? (i := 542) (by decide +kernel), List.mem_of_getElem? (i := 543) (by decide +kernel)⟩
theorem lw_p21 : lw_okq (⟨"ChantNeumes$Fitting", "stepOf", "(I)I"⟩, 8) := ⟨⟨by decide +kernel, by decide +kernel⟩, List.mem_of_getElem? (i := 154) (by decide +kernel), List.mem_of_getElem? (i := 546) (by decide +kernel), List.mem_of_getElem? (i := 547) (by decide +kernel)⟩
theorem lw_p22 : lw_okq (⟨"ChantNeumes$Fitting", "addStep", "(II)V"⟩, 8) := ⟨⟨by decide +kernel, by decide +kernel⟩, List.mem_of_getElem? (i := 154) (by decide +kernel), List.mem_of_getElem? (i := 550) (by decide +kernel), List.mem_of_getElem? (i := 551) (by decide +kernel)⟩
theorem lw_p23 : lw_okq (⟨"ChantNeumesModel", "readText", "()V"⟩, 56) := ⟨⟨by decide +kernel, by decide +kernel⟩, List.mem_of_getElem? (i := 609) (by decide +kernel), List.mem_of_getElem? (i := 799) (by decide +kernel), List.mem_of_getElem? (i := 800) (by decide +kernel)⟩
theorem lw_p24 : lw_okq (⟨"ChantNeumesModel", "nothing", "()V"⟩, 56) := ⟨⟨by decide +kernel, by decide +kernel⟩, List.mem_of_getElem? (i := 609) (by decide +kernel), List.mem_of_getElem? (i := 803) (by decide +kernel), List.mem_of_getElem? (i := 804) (by decide +kernel)⟩
theorem lw_p25 : lw_okq (⟨"ChantNeumesModel", "beginSyllable", "(Z)V"⟩, 56) := ⟨⟨by decide +kernel, by decide +kernel⟩, List.mem_of_getElem? (i := 609) (by decide +kernel), List.mem_of_getElem? (i := 813) (by decide +kernel), List.mem_of_getElem? (i := 814) (by decide +kernel)⟩
theorem lw_p26 : lw_okq (⟨"ChantNeumesModel", "wrong", "(II)V"⟩, 56) := ⟨⟨by decide +kernel, by decide +kernel⟩, List.mem_of_getElem? (i := 609) (by decide +kernel), List.mem_of_getElem? (i := 817) (by decide +kernel), List.mem_of_getElem? (i := 818) (by decide +kernel)⟩
theorem lw_p27 : lw_okq (⟨"ChantNeumesModel", "readSigns", "()V"⟩, 56) := ⟨⟨by decide +kernel, by decide +kernel⟩, List.mem_of_getElem? (i := 609) (by decide +kernel), List.mem_of_getElem? (i := 821) (by decide +kernel), List.mem_of_getElem? (i := 822) (by decide +kernel)⟩
theorem lw_p28 : lw_okq (⟨"ChantNeumesModel", "byteAt", "(I)I"⟩, 56) := ⟨⟨by decide +kernel, by decide +kernel⟩, List.mem_of_getElem? (i := 609) (by decide +kernel), List.mem_of_getElem? (i := 825) (by decide +kernel), List.mem_of_getElem? (i := 826) (by decide +kernel)⟩
theorem lw_p29 : lw_okq (⟨"ChantNeumesModel", "readHeight", "(IIZ)Z"⟩, 56) := ⟨⟨by decide +kernel, by decide +kernel⟩, List.mem_of_getElem? (i := 609) (by decide +kernel), List.mem_of_getElem? (i := 829) (by decide +kernel), List.mem_of_getElem? (i := 830) (by decide +kernel)⟩
theorem lw_p30 : lw_okq (⟨"ChantNeumesModel", "put", "(II)V"⟩, 56) := ⟨⟨by decide +kernel, by decide +kernel⟩, List.mem_of_getElem? (i := 609) (by decide +kernel), List.mem_of_getElem? (i := 833) (by decide +kernel), List.mem_of_getElem? (i := 834) (by decide +kernel)⟩
theorem lw_p31 : lw_okq (⟨"ChantNeumesModel", "markAt", "(I)I"⟩, 56) := ⟨⟨by decide +kernel, by decide +kernel⟩, List.mem_of_getElem? (i := 609) (by decide +kernel), List.mem_of_getElem? (i := 837) (by decide +kernel), List.mem_of_getElem? (i := 838) (by decide +kernel)⟩
def lw_privs_2 : List (MethodName × Nat) := [(⟨"ChantNeumes$Fitting", "placeAccents", "(LChantNeumes$Table;)V"⟩, 8), (⟨"ChantNeumes$Fitting", "closeCell", "(I)I"⟩, 8), (⟨"ChantNeumes$Fitting", "chooseForm", "()V"⟩, 8), (⟨"ChantNeumes$Fitting", "firstPlaced", "()I"⟩, 8), (⟨"ChantNeumes$Fitting", "singSyllable", "(IZ)V"⟩, 8), (⟨"ChantNeumes$Fitting", "stepOf", "(I)I"⟩, 8), (⟨"ChantNeumes$Fitting", "addStep", "(II)V"⟩, 8), (⟨"ChantNeumesModel", "readText", "()V"⟩, 56), (⟨"ChantNeumesModel", "nothing", "()V"⟩, 56), (⟨"ChantNeumesModel", "beginSyllable", "(Z)V"⟩, 56), (⟨"ChantNeumesModel", "wrong", "(II)V"⟩, 56), (⟨"ChantNeumesModel", "readSigns", "()V"⟩, 56), (⟨"ChantNeumesModel", "byteAt", "(I)I"⟩, 56), (⟨"ChantNeumesModel", "readHeight", "(IIZ)Z"⟩, 56), (⟨"ChantNeumesModel", "put", "(II)V"⟩, 56), (⟨"ChantNeumesModel", "markAt", "(I)I"⟩, 56)]
theorem lw_r2 : ∀ q ∈ lw_privs_2, lw_okq q := List.forall_mem_cons.mpr ⟨lw_p16, List.forall_mem_cons.mpr ⟨lw_p17, List.forall_mem_cons.mpr ⟨lw_p18, List.forall_mem_cons.mpr ⟨lw_p19, List.forall_mem_cons.mpr ⟨lw_p20, List.forall_mem_cons.mpr ⟨lw_p21, List.forall_mem_cons.mpr ⟨lw_p22, List.forall_mem_cons.mpr ⟨lw_p23, List.forall_mem_cons.mpr ⟨lw_p24, List.forall_mem_cons.mpr ⟨lw_p25, List.forall_mem_cons.mpr ⟨lw_p26, List.forall_mem_cons.mpr ⟨lw_p27, List.forall_mem_cons.mpr ⟨lw_p28, List.forall_mem_cons.mpr ⟨lw_p29, List.forall_mem_cons.mpr ⟨lw_p30, List.forall_mem_cons.mpr ⟨lw_p31, fun _ h => absurd h List.not_mem_nil⟩⟩⟩⟩⟩⟩⟩⟩⟩⟩⟩⟩⟩⟩⟩⟩
theorem lw_p32 : lw_okq (⟨"ChantNeumesModel", "workOut", "()V"⟩, 56) := ⟨⟨by decide +kernel, by decide +kernel⟩, List.mem_of_getElem? (i := 609) (by decide +kernel), List.mem_of_getElem? (i := 841) (by decide +kernel), List.mem_of_getElem? (i := 842) (by decide +kernel)⟩
theorem lw_p33 : lw_okq (⟨"ChantNeumesModel", "unflat", "()V"⟩, 56) := ⟨⟨by decide +kernel, by decide +kernel⟩, List.mem_of_getElem? (i := 609) (by decide +kernel), List.mem_of_getElem? (i := 845) (by decide +kernel), List.mem_of_getElem? (i := 846) (by decide +kernel)⟩
theorem lw_p34 : lw_okq (⟨"ChantNeumesModel", "findNeumes", "()V"⟩, 56) := ⟨⟨by decide +kernel, by decide +kernel⟩, List.mem_of_getElem? (i := 609) (by decide +kernel), List.mem_of_getElem? (i := 861) (by decide +kernel), List.mem_of_getElem? (i := 862) (by decide +kernel)⟩
theorem lw_p35 : lw_okq (⟨"ChantNeumesModel", "wayOf", "(I)I"⟩, 56) := ⟨⟨by decide +kernel, by decide +kernel⟩, List.mem_of_getElem? (i := 609) (by decide +kernel), List.mem_of_getElem? (i := 865) (by decide +kernel), List.mem_of_getElem? (i := 866) (by decide +kernel)⟩
theorem lw_p36 : lw_okq (⟨"ChantNeumesModel", "notesOf", "(I)I"⟩, 56) := ⟨⟨by decide +kernel, by decide +kernel⟩, List.mem_of_getElem? (i := 609) (by decide +kernel), List.mem_of_getElem? (i := 877) (by decide +kernel), List.mem_of_getElem? (i := 878) (by decide +kernel)⟩
theorem lw_p37 : lw_okq (⟨"ChantNeumesModel", "firstOf", "(I)I"⟩, 56) := ⟨⟨by decide +kernel, by decide +kernel⟩, List.mem_of_getElem? (i := 609) (by decide +kernel), List.mem_of_getElem? (i := 881) (by decide +kernel), List.mem_of_getElem? (i := 882) (by decide +kernel)⟩
theorem lw_p38 : lw_okq (⟨"ChantNeumesModel", "lengthOf", "(I)I"⟩, 56) := ⟨⟨by decide +kernel, by decide +kernel⟩, List.mem_of_getElem? (i := 609) (by decide +kernel), List.mem_of_getElem? (i := 889) (by decide +kernel), List.mem_of_getElem? (i := 890) (by decide +kernel)⟩
theorem lw_p39 : lw_okq (⟨"ChantNeumesModel", "fit", "(I)V"⟩, 56) := ⟨⟨by decide +kernel, by decide +kernel⟩, List.mem_of_getElem? (i := 609) (by decide +kernel), List.mem_of_getElem? (i := 925) (by decide +kernel), List.mem_of_getElem? (i := 926) (by decide +kernel)⟩
theorem lw_p40 : lw_okq (⟨"ChantNeumesModel", "accentBefore", "(II)I"⟩, 56) := ⟨⟨by decide +kernel, by decide +kernel⟩, List.mem_of_getElem? (i := 609) (by decide +kernel), List.mem_of_getElem? (i := 929) (by decide +kernel), List.mem_of_getElem? (i := 930) (by decide +kernel)⟩
theorem lw_p41 : lw_okq (⟨"ChantNeumesModel", "close", "(II)I"⟩, 56) := ⟨⟨by decide +kernel, by decide +kernel⟩, List.mem_of_getElem? (i := 609) (by decide +kernel), List.mem_of_getElem? (i := 933) (by decide +kernel), List.mem_of_getElem? (i := 934) (by decide +kernel)⟩
theorem lw_p42 : lw_okq (⟨"ChantNeumesModel", "sing", "(II)V"⟩, 56) := ⟨⟨by decide +kernel, by decide +kernel⟩, List.mem_of_getElem? (i := 609) (by decide +kernel), List.mem_of_getElem? (i := 937) (by decide +kernel), List.mem_of_getElem? (i := 938) (by decide +kernel)⟩
theorem lw_p43 : lw_okq (⟨"ChantNeumesModel", "tell", "(I)V"⟩, 56) := ⟨⟨by decide +kernel, by decide +kernel⟩, List.mem_of_getElem? (i := 609) (by decide +kernel), List.mem_of_getElem? (i := 949) (by decide +kernel), List.mem_of_getElem? (i := 950) (by decide +kernel)⟩
theorem lw_p44 : lw_okq (⟨"ChantNeumesModel", "tellSign", "(II)V"⟩, 56) := ⟨⟨by decide +kernel, by decide +kernel⟩, List.mem_of_getElem? (i := 609) (by decide +kernel), List.mem_of_getElem? (i := 953) (by decide +kernel), List.mem_of_getElem? (i := 954) (by decide +kernel)⟩
theorem lw_p45 : lw_okq (⟨"ChantNeumesModel", "tellIf", "(III)V"⟩, 56) := ⟨⟨by decide +kernel, by decide +kernel⟩, List.mem_of_getElem? (i := 609) (by decide +kernel), List.mem_of_getElem? (i := 957) (by decide +kernel), List.mem_of_getElem? (i := 958) (by decide +kernel)⟩
theorem lw_p46 : lw_okq (⟨"ChantNeumesModel", "isParted", "(II)Z"⟩, 56) := ⟨⟨by decide +kernel, by decide +kernel⟩, List.mem_of_getElem? (i := 609) (by decide +kernel), List.mem_of_getElem? (i := 961) (by decide +kernel), List.mem_of_getElem? (i := 962) (by decide +kernel)⟩
def lw_privs_3 : List (MethodName × Nat) := [(⟨"ChantNeumesModel", "workOut", "()V"⟩, 56), (⟨"ChantNeumesModel", "unflat", "()V"⟩, 56), (⟨"ChantNeumesModel", "findNeumes", "()V"⟩, 56), (⟨"ChantNeumesModel", "wayOf", "(I)I"⟩, 56), (⟨"ChantNeumesModel", "notesOf", "(I)I"⟩, 56), (⟨"ChantNeumesModel", "firstOf", "(I)I"⟩, 56), (⟨"ChantNeumesModel", "lengthOf", "(I)I"⟩, 56), (⟨"ChantNeumesModel", "fit", "(I)V"⟩, 56), (⟨"ChantNeumesModel", "accentBefore", "(II)I"⟩, 56), (⟨"ChantNeumesModel", "close", "(II)I"⟩, 56), (⟨"ChantNeumesModel", "sing", "(II)V"⟩, 56), (⟨"ChantNeumesModel", "tell", "(I)V"⟩, 56), (⟨"ChantNeumesModel", "tellSign", "(II)V"⟩, 56), (⟨"ChantNeumesModel", "tellIf", "(III)V"⟩, 56), (⟨"ChantNeumesModel", "isParted", "(II)Z"⟩, 56)]
theorem lw_r3 : ∀ q ∈ lw_privs_3, lw_okq q := List.forall_mem_cons.mpr ⟨lw_p32, List.forall_mem_cons.mpr ⟨lw_p33, List.forall_mem_cons.mpr ⟨lw_p34, List.forall_mem_cons.mpr ⟨lw_p35, List.forall_mem_cons.mpr ⟨lw_p36, List.forall_mem_cons.mpr ⟨lw_p37, List.forall_mem_cons.mpr ⟨lw_p38, List.forall_mem_cons.mpr ⟨lw_p39, List.forall_mem_cons.mpr ⟨lw_p40, List.forall_mem_cons.mpr ⟨lw_p41, List.forall_mem_cons.mpr ⟨lw_p42, List.forall_mem_cons.mpr ⟨lw_p43, List.forall_mem_cons.mpr ⟨lw_p44, List.forall_mem_cons.mpr ⟨lw_p45, List.forall_mem_cons.mpr ⟨lw_p46, fun _ h => absurd h List.not_mem_nil⟩⟩⟩⟩⟩⟩⟩⟩⟩⟩⟩⟩⟩⟩⟩
def lw_privs : List (MethodName × Nat) := lw_privs_1 ++ (lw_privs_2 ++ (lw_privs_3))
def lw_tbl : List Cond := k2_sels lw_privs ++ tables_1
theorem lw_privs_ok : ∀ q ∈ lw_privs, lw_okq q := by
  show ∀ q ∈ lw_privs_1 ++ (lw_privs_2 ++ (lw_privs_3)), lw_okq q
  exact List.forall_mem_append.mpr ⟨lw_r1, List.forall_mem_append.mpr ⟨lw_r2, lw_r3⟩⟩
end
section
/-! names: classes, fields, methods (printed by wip/tools/gen_names.py out of the claim's own names) -/
def goodTB : List Cond := lw_tbl.filter goodWord
theorem mTB {w : Cond} (h : w ∈ lw_tbl) (g : goodWord w = true) : w ∈ goodTB := List.mem_filter.mpr ⟨h, g⟩
theorem inTB {w : Cond} (i : Nat) (h : lw_tbl[i]? = some w) (g : goodWord w = true) : w ∈ goodTB := mTB (List.mem_of_getElem? h) g
theorem inT0 {w : Cond} (i : Nat) (h : (k2_sels lw_privs)[i]? = some w) (g : goodWord w = true) : w ∈ goodTB := mTB (List.mem_append_left _ (List.mem_of_getElem? h)) g
theorem inT1 {w : Cond} (i : Nat) (h : tables_1_1[i]? = some w) (g : goodWord w = true) : w ∈ goodTB := mTB (List.mem_append_right _ (List.mem_append_left _ (List.mem_of_getElem? h))) g
theorem inT2 {w : Cond} (i : Nat) (h : tables_1_2[i]? = some w) (g : goodWord w = true) : w ∈ goodTB := mTB (List.mem_append_right _ (List.mem_append_right _ (List.mem_append_left _ (List.mem_of_getElem? h)))) g
theorem inT3 {w : Cond} (i : Nat) (h : tables_1_3[i]? = some w) (g : goodWord w = true) : w ∈ goodTB := mTB (List.mem_append_right _ (List.mem_append_right _ (List.mem_append_right _ (List.mem_append_left _ (List.mem_of_getElem? h))))) g
theorem inT4 {w : Cond} (i : Nat) (h : tables_1_4[i]? = some w) (g : goodWord w = true) : w ∈ goodTB := mTB (List.mem_append_right _ (List.mem_append_right _ (List.mem_append_right _ (List.mem_append_right _ (List.mem_append_left _ (List.mem_of_getElem? h)))))) g
theorem inT5 {w : Cond} (i : Nat) (h : tables_1_5[i]? = some w) (g : goodWord w = true) : w ∈ goodTB := mTB (List.mem_append_right _ (List.mem_append_right _ (List.mem_append_right _ (List.mem_append_right _ (List.mem_append_right _ (List.mem_of_getElem? h)))))) g
theorem sub_of {ws : List Cond} (ps : List Nat) (hp : ws = ps.filterMap (fun i => lw_tbl[i]?)) (hg : ws.all goodWord = true) : ∀ w ∈ ws, w ∈ goodTB := by
  intro w hw
  have h1 := List.all_eq_true.mp hg w hw
  rw [hp] at hw
  obtain ⟨i, -, hi⟩ := List.mem_filterMap.mp hw
  exact mTB (List.mem_of_getElem? hi) h1
/-- a method: its name, its bytes, its locals, what it returns -/
abbrev MI : Type := MethodName × ByteArray × Nat × Option FieldType
def RX0 : String := "ChantNeumes$Fitting"
def TX0 : u_T := fun k => match k with
  | 0 => ("ChantNeumes$Fitting", "steps", "LChantNeumes$Table;", true)
  | 1 => ("ChantNeumes$Fitting", "isShort", "Z", false)
  | 2 => ("ChantNeumes$Fitting", "firstAccent", "I", false)
  | 3 => ("ChantNeumes$Fitting", "lastAccent", "I", false)
  | 4 => ("ChantNeumes$Fitting", "tone", "I", false)
  | 5 => ("ChantNeumes$Fitting", "half", "I", false)
  | 6 => ("ChantNeumes$Fitting", "openingSteps", "I", false)
  | _ => ("ChantNeumes$Fitting", "preparingSteps", "I", false)
def tyX0 : Nat → FieldType := fun k => match k with
  | 0 => .object "ChantNeumes$Table"
  | 1 => .boolean
  | 2 => .int
  | 3 => .int
  | 4 => .int
  | 5 => .int
  | 6 => .int
  | _ => .int
theorem nmX0 : ∀ a, a < 8 → ∀ b, b < 8 → a ≠ b → (TX0 a).2.1 ≠ (TX0 b).2.1 := by decide +kernel
theorem tyX0_ok : ∀ k, k < 8 → parseFieldDescriptor (TX0 k).2.2.1 = some (tyX0 k) := by decide +kernel
abbrev cX0_init : ByteArray := prog_2_method_1_code
def yX0_init : MethodName := ⟨RX0, "<init>", "(I)V"⟩
abbrev cX0_fit : ByteArray := prog_2_method_2_code
def yX0_fit : MethodName := ⟨RX0, "fit", "(LChantNeumes$Table;II)V"⟩
abbrev cX0_placeAccents : ByteArray := prog_2_method_3_code
def yX0_placeAccents : MethodName := ⟨RX0, "placeAccents", "(LChantNeumes$Table;)V"⟩
abbrev cX0_accentBefore : ByteArray := prog_2_method_4_code
def yX0_accentBefore : MethodName := ⟨RX0, "accentBefore", "(LChantNeumes$Table;I)I"⟩
abbrev cX0_chooseForm : ByteArray := prog_2_method_5_code
def yX0_chooseForm : MethodName := ⟨RX0, "chooseForm", "()V"⟩
abbrev cX0_firstPlaced : ByteArray := prog_2_method_6_code
def yX0_firstPlaced : MethodName := ⟨RX0, "firstPlaced", "()I"⟩
abbrev cX0_singSyllable : ByteArray := prog_2_method_7_code
def yX0_singSyllable : MethodName := ⟨RX0, "singSyllable", "(IZ)V"⟩
abbrev cX0_stepOf : ByteArray := prog_2_method_8_code
def yX0_stepOf : MethodName := ⟨RX0, "stepOf", "(I)I"⟩
abbrev cX0_closeCell : ByteArray := prog_2_method_9_code
def yX0_closeCell : MethodName := ⟨RX0, "closeCell", "(I)I"⟩
abbrev cX0_addStep : ByteArray := prog_2_method_10_code
def yX0_addStep : MethodName := ⟨RX0, "addStep", "(II)V"⟩
def RX1 : String := "ChantNeumes$Psalm"
def TX1 : u_T := fun k => match k with
  | 0 => ("ChantNeumes$Psalm", "firstHalf", "LChantNeumes$Table;", true)
  | 1 => ("ChantNeumes$Psalm", "secondHalf", "LChantNeumes$Table;", true)
  | 2 => ("ChantNeumes$Psalm", "fitting", "LChantNeumes$Fitting;", true)
  | _ => ("ChantNeumes$Psalm", "toneNumber", "I", false)
def tyX1 : Nat → FieldType := fun k => match k with
  | 0 => .object "ChantNeumes$Table"
  | 1 => .object "ChantNeumes$Table"
  | 2 => .object "ChantNeumes$Fitting"
  | _ => .int
theorem nmX1 : ∀ a, a < 4 → ∀ b, b < 4 → a ≠ b → (TX1 a).2.1 ≠ (TX1 b).2.1 := by decide +kernel
theorem tyX1_ok : ∀ k, k < 4 → parseFieldDescriptor (TX1 k).2.2.1 = some (tyX1 k) := by decide +kernel
abbrev cX1_init : ByteArray := prog_3_method_1_code
def yX1_init : MethodName := ⟨RX1, "<init>", "()V"⟩
abbrev cX1_isHalf : ByteArray := prog_3_method_2_code
def yX1_isHalf : MethodName := ⟨RX1, "isHalf", "(I)Z"⟩
abbrev cX1_changeTone : ByteArray := prog_3_method_3_code
def yX1_changeTone : MethodName := ⟨RX1, "changeTone", "(I)I"⟩
abbrev cX1_addSyllable : ByteArray := prog_3_method_4_code
def yX1_addSyllable : MethodName := ⟨RX1, "addSyllable", "(IZ)I"⟩
abbrev cX1_forgetVerse : ByteArray := prog_3_method_5_code
def yX1_forgetVerse : MethodName := ⟨RX1, "forgetVerse", "()I"⟩
abbrev cX1_fitted : ByteArray := prog_3_method_6_code
def yX1_fitted : MethodName := ⟨RX1, "fitted", "(I)LChantNeumes$Fitting;"⟩
abbrev cX1_accentsOf : ByteArray := prog_3_method_7_code
def yX1_accentsOf : MethodName := ⟨RX1, "accentsOf", "(I)LChantNeumes$Table;"⟩
def RX2 : String := "ChantNeumes$Reader"
def TX2 : u_T := fun k => match k with
  | 0 => ("ChantNeumes$Reader", "score", "LChantNeumes$Score;", true)
  | 1 => ("ChantNeumes$Reader", "signsOfKind", "LChantNeumes$Table;", true)
  | 2 => ("ChantNeumes$Reader", "fault", "I", false)
  | 3 => ("ChantNeumes$Reader", "place", "I", false)
  | 4 => ("ChantNeumes$Reader", "next", "I", false)
  | 5 => ("ChantNeumes$Reader", "zero", "I", false)
  | 6 => ("ChantNeumes$Reader", "flats", "I", false)
  | 7 => ("ChantNeumes$Reader", "inBrackets", "Z", false)
  | 8 => ("ChantNeumes$Reader", "inSyllable", "Z", false)
  | 9 => ("ChantNeumes$Reader", "inWord", "Z", false)
  | 10 => ("ChantNeumes$Reader", "inGroup", "Z", false)
  | _ => ("ChantNeumes$Reader", "behindNote", "Z", false)
def tyX2 : Nat → FieldType := fun k => match k with
  | 0 => .object "ChantNeumes$Score"
  | 1 => .object "ChantNeumes$Table"
  | 2 => .int
  | 3 => .int
  | 4 => .int
  | 5 => .int
  | 6 => .int
  | 7 => .boolean
  | 8 => .boolean
  | 9 => .boolean
  | 10 => .boolean
  | _ => .boolean
theorem nmX2 : ∀ a, a < 12 → ∀ b, b < 12 → a ≠ b → (TX2 a).2.1 ≠ (TX2 b).2.1 := by decide +kernel
theorem tyX2_ok : ∀ k, k < 12 → parseFieldDescriptor (TX2 k).2.2.1 = some (tyX2 k) := by decide +kernel
abbrev cX2_init : ByteArray := prog_4_method_1_code
def yX2_init : MethodName := ⟨RX2, "<init>", "(LChantNeumes$Score;)V"⟩
abbrev cX2_placeOfFault : ByteArray := prog_4_method_2_code
def yX2_placeOfFault : MethodName := ⟨RX2, "placeOfFault", "()I"⟩
abbrev cX2_readFrom : ByteArray := prog_4_method_3_code
def yX2_readFrom : MethodName := ⟨RX2, "readFrom", "(LChantNeumes$Table;)I"⟩
abbrev cX2_start : ByteArray := prog_4_method_4_code
def yX2_start : MethodName := ⟨RX2, "start", "()V"⟩
abbrev cX2_refuse : ByteArray := prog_4_method_5_code
def yX2_refuse : MethodName := ⟨RX2, "refuse", "(II)V"⟩
abbrev cX2_takeOutside : ByteArray := prog_4_method_6_code
def yX2_takeOutside : MethodName := ⟨RX2, "takeOutside", "(II)V"⟩
abbrev cX2_beginSyllable : ByteArray := prog_4_method_7_code
def yX2_beginSyllable : MethodName := ⟨RX2, "beginSyllable", "(I)Z"⟩
abbrev cX2_endSyllable : ByteArray := prog_4_method_8_code
def yX2_endSyllable : MethodName := ⟨RX2, "endSyllable", "()V"⟩
abbrev cX2_takeInside : ByteArray := prog_4_method_9_code
def yX2_takeInside : MethodName := ⟨RX2, "takeInside", "(III)V"⟩
abbrev cX2_takeMark : ByteArray := prog_4_method_10_code
def yX2_takeMark : MethodName := ⟨RX2, "takeMark", "(II)V"⟩
abbrev cX2_takeHeight : ByteArray := prog_4_method_11_code
def yX2_takeHeight : MethodName := ⟨RX2, "takeHeight", "(III)V"⟩
abbrev cX2_takeAccidental : ByteArray := prog_4_method_12_code
def yX2_takeAccidental : MethodName := ⟨RX2, "takeAccidental", "(III)V"⟩
abbrev cX2_takeClef : ByteArray := prog_4_method_13_code
def yX2_takeClef : MethodName := ⟨RX2, "takeClef", "(III)V"⟩
abbrev cX2_takeNote : ByteArray := prog_4_method_14_code
def yX2_takeNote : MethodName := ⟨RX2, "takeNote", "(II)V"⟩
abbrev cX2_takeBar : ByteArray := prog_4_method_15_code
def yX2_takeBar : MethodName := ⟨RX2, "takeBar", "(II)V"⟩
abbrev cX2_takeLineEnd : ByteArray := prog_4_method_16_code
def yX2_takeLineEnd : MethodName := ⟨RX2, "takeLineEnd", "(I)V"⟩
abbrev cX2_addSign : ByteArray := prog_4_method_17_code
def yX2_addSign : MethodName := ⟨RX2, "addSign", "(III)Z"⟩
abbrev cX2_roomOf : ByteArray := prog_4_method_18_code
def yX2_roomOf : MethodName := ⟨RX2, "roomOf", "(I)I"⟩
abbrev cX2_semitonesOf : ByteArray := prog_4_method_19_code
def yX2_semitonesOf : MethodName := ⟨RX2, "semitonesOf", "(I)I"⟩
abbrev cX2_isBlank : ByteArray := prog_4_method_20_code
def yX2_isBlank : MethodName := ⟨RX2, "isBlank", "(I)Z"⟩
abbrev cX2_isLetter : ByteArray := prog_4_method_21_code
def yX2_isLetter : MethodName := ⟨RX2, "isLetter", "(I)Z"⟩
abbrev cX2_markOf : ByteArray := prog_4_method_22_code
def yX2_markOf : MethodName := ⟨RX2, "markOf", "(I)I"⟩
def RX3 : String := "ChantNeumes$Score"
def TX3 : u_T := fun k => match k with
  | 0 => ("ChantNeumes$Score", "letters", "LChantNeumes$Table;", true)
  | 1 => ("ChantNeumes$Score", "syllables", "LChantNeumes$Table;", true)
  | 2 => ("ChantNeumes$Score", "notes", "LChantNeumes$Table;", true)
  | 3 => ("ChantNeumes$Score", "neumes", "LChantNeumes$Table;", true)
  | 4 => ("ChantNeumes$Score", "bars", "LChantNeumes$Table;", true)
  | 5 => ("ChantNeumes$Score", "ends", "LChantNeumes$Table;", true)
  | 6 => ("ChantNeumes$Score", "signs", "LChantNeumes$Table;", true)
  | 7 => ("ChantNeumes$Score", "words", "I", false)
  | _ => ("ChantNeumes$Score", "groups", "I", false)
def tyX3 : Nat → FieldType := fun k => match k with
  | 0 => .object "ChantNeumes$Table"
  | 1 => .object "ChantNeumes$Table"
  | 2 => .object "ChantNeumes$Table"
  | 3 => .object "ChantNeumes$Table"
  | 4 => .object "ChantNeumes$Table"
  | 5 => .object "ChantNeumes$Table"
  | 6 => .object "ChantNeumes$Table"
  | 7 => .int
  | _ => .int
theorem nmX3 : ∀ a, a < 9 → ∀ b, b < 9 → a ≠ b → (TX3 a).2.1 ≠ (TX3 b).2.1 := by decide +kernel
theorem tyX3_ok : ∀ k, k < 9 → parseFieldDescriptor (TX3 k).2.2.1 = some (tyX3 k) := by decide +kernel
abbrev cX3_init : ByteArray := prog_5_method_1_code
def yX3_init : MethodName := ⟨RX3, "<init>", "()V"⟩
abbrev cX3_clear : ByteArray := prog_5_method_2_code
def yX3_clear : MethodName := ⟨RX3, "clear", "()V"⟩
abbrev cX3_syllablesWithoutNotes : ByteArray := prog_5_method_3_code
def yX3_syllablesWithoutNotes : MethodName := ⟨RX3, "syllablesWithoutNotes", "()I"⟩
abbrev cX3_sameGroup : ByteArray := prog_5_method_4_code
def yX3_sameGroup : MethodName := ⟨RX3, "sameGroup", "(II)Z"⟩
abbrev cX3_hasMark : ByteArray := prog_5_method_5_code
def yX3_hasMark : MethodName := ⟨RX3, "hasMark", "(II)Z"⟩
abbrev cX3_guideOf : ByteArray := prog_5_method_6_code
def yX3_guideOf : MethodName := ⟨RX3, "guideOf", "(I)I"⟩
abbrev cX3_finalStep : ByteArray := prog_5_method_7_code
def yX3_finalStep : MethodName := ⟨RX3, "finalStep", "()I"⟩
abbrev cX3_lowestStep : ByteArray := prog_5_method_8_code
def yX3_lowestStep : MethodName := ⟨RX3, "lowestStep", "()I"⟩
abbrev cX3_highestStep : ByteArray := prog_5_method_9_code
def yX3_highestStep : MethodName := ⟨RX3, "highestStep", "()I"⟩
abbrev cX3_modeNumber : ByteArray := prog_5_method_10_code
def yX3_modeNumber : MethodName := ⟨RX3, "modeNumber", "()I"⟩
abbrev cX3_tenorStep : ByteArray := prog_5_method_11_code
def yX3_tenorStep : MethodName := ⟨RX3, "tenorStep", "()I"⟩
def RX4 : String := "ChantNeumes$Shaper"
def TX4 : u_T := fun k => match k with
  | _ => ("", "", "", false)
def tyX4 : Nat → FieldType := fun k => match k with
  | _ => .int
theorem nmX4 : ∀ a, a < 0 → ∀ b, b < 0 → a ≠ b → (TX4 a).2.1 ≠ (TX4 b).2.1 := by decide +kernel
theorem tyX4_ok : ∀ k, k < 0 → parseFieldDescriptor (TX4 k).2.2.1 = some (tyX4 k) := by decide +kernel
abbrev cX4_shape : ByteArray := prog_6_method_2_code
def yX4_shape : MethodName := ⟨RX4, "shape", "(LChantNeumes$Score;)V"⟩
abbrev cX4_beginNeume : ByteArray := prog_6_method_3_code
def yX4_beginNeume : MethodName := ⟨RX4, "beginNeume", "(LChantNeumes$Score;I)I"⟩
abbrev cX4_wayTo : ByteArray := prog_6_method_4_code
def yX4_wayTo : MethodName := ⟨RX4, "wayTo", "(LChantNeumes$Score;I)I"⟩
abbrev cX4_kindOf : ByteArray := prog_6_method_5_code
def yX4_kindOf : MethodName := ⟨RX4, "kindOf", "(I)I"⟩
abbrev cX4_lengthOf : ByteArray := prog_6_method_6_code
def yX4_lengthOf : MethodName := ⟨RX4, "lengthOf", "(LChantNeumes$Score;I)I"⟩
def RX5 : String := "ChantNeumes$Table"
def TX5 : u_T := fun k => match k with
  | 0 => ("ChantNeumes$Table", "room", "I", true)
  | 1 => ("ChantNeumes$Table", "columns", "I", true)
  | 2 => ("ChantNeumes$Table", "cells", "[I", true)
  | _ => ("ChantNeumes$Table", "rows", "I", false)
def tyX5 : Nat → FieldType := fun k => match k with
  | 0 => .int
  | 1 => .int
  | 2 => .array .int
  | _ => .int
theorem nmX5 : ∀ a, a < 4 → ∀ b, b < 4 → a ≠ b → (TX5 a).2.1 ≠ (TX5 b).2.1 := by decide +kernel
theorem tyX5_ok : ∀ k, k < 4 → parseFieldDescriptor (TX5 k).2.2.1 = some (tyX5 k) := by decide +kernel
abbrev cX5_init : ByteArray := prog_7_method_1_code
def yX5_init : MethodName := ⟨RX5, "<init>", "(II)V"⟩
abbrev cX5_size : ByteArray := prog_7_method_2_code
def yX5_size : MethodName := ⟨RX5, "size", "()I"⟩
abbrev cX5_isFull : ByteArray := prog_7_method_3_code
def yX5_isFull : MethodName := ⟨RX5, "isFull", "()Z"⟩
abbrev cX5_has : ByteArray := prog_7_method_4_code
def yX5_has : MethodName := ⟨RX5, "has", "(I)Z"⟩
abbrev cX5_keep : ByteArray := prog_7_method_5_code
def yX5_keep : MethodName := ⟨RX5, "keep", "(I)V"⟩
abbrev cX5_add : ByteArray := prog_7_method_6_code
def yX5_add : MethodName := ⟨RX5, "add", "(I)I"⟩
abbrev cX5_get : ByteArray := prog_7_method_7_code
def yX5_get : MethodName := ⟨RX5, "get", "(II)I"⟩
abbrev cX5_set : ByteArray := prog_7_method_8_code
def yX5_set : MethodName := ⟨RX5, "set", "(III)V"⟩
abbrev cX5_ask : ByteArray := prog_7_method_9_code
def yX5_ask : MethodName := ⟨RX5, "ask", "(III)I"⟩
def RX6 : String := "ChantNeumes$Tones"
def TX6 : u_T := fun k => match k with
  | _ => ("", "", "", false)
def tyX6 : Nat → FieldType := fun k => match k with
  | _ => .int
theorem nmX6 : ∀ a, a < 0 → ∀ b, b < 0 → a ≠ b → (TX6 a).2.1 ≠ (TX6 b).2.1 := by decide +kernel
theorem tyX6_ok : ∀ k, k < 0 → parseFieldDescriptor (TX6 k).2.2.1 = some (tyX6 k) := by decide +kernel
abbrev cX6_cell : ByteArray := prog_8_method_2_code
def yX6_cell : MethodName := ⟨RX6, "cell", "(II)I"⟩
abbrev cX6_closeStart : ByteArray := prog_8_method_3_code
def yX6_closeStart : MethodName := ⟨RX6, "closeStart", "(I)I"⟩
def RX7 : String := "ChantNeumes$Writer"
def TX7 : u_T := fun k => match k with
  | _ => ("", "", "", false)
def tyX7 : Nat → FieldType := fun k => match k with
  | _ => .int
theorem nmX7 : ∀ a, a < 0 → ∀ b, b < 0 → a ≠ b → (TX7 a).2.1 ≠ (TX7 b).2.1 := by decide +kernel
theorem tyX7_ok : ∀ k, k < 0 → parseFieldDescriptor (TX7 k).2.2.1 = some (tyX7 k) := by decide +kernel
abbrev cX7_writeScore : ByteArray := prog_9_method_2_code
def yX7_writeScore : MethodName := ⟨RX7, "writeScore", "(LChantNeumes$Score;LChantNeumes$Table;)V"⟩
abbrev cX7_writeLetters : ByteArray := prog_9_method_3_code
def yX7_writeLetters : MethodName := ⟨RX7, "writeLetters", "(LChantNeumes$Score;ILChantNeumes$Table;)V"⟩
abbrev cX7_writeSigns : ByteArray := prog_9_method_4_code
def yX7_writeSigns : MethodName := ⟨RX7, "writeSigns", "(LChantNeumes$Score;ILChantNeumes$Table;)V"⟩
abbrev cX7_writeSign : ByteArray := prog_9_method_5_code
def yX7_writeSign : MethodName := ⟨RX7, "writeSign", "(LChantNeumes$Score;ILChantNeumes$Table;)V"⟩
abbrev cX7_writeMarks : ByteArray := prog_9_method_6_code
def yX7_writeMarks : MethodName := ⟨RX7, "writeMarks", "(ILChantNeumes$Table;)V"⟩
abbrev cX7_writeMark : ByteArray := prog_9_method_7_code
def yX7_writeMark : MethodName := ⟨RX7, "writeMark", "(ICLChantNeumes$Table;)V"⟩
abbrev cX7_writeBar : ByteArray := prog_9_method_8_code
def yX7_writeBar : MethodName := ⟨RX7, "writeBar", "(ILChantNeumes$Table;)V"⟩
abbrev cX7_needsSlash : ByteArray := prog_9_method_9_code
def yX7_needsSlash : MethodName := ⟨RX7, "needsSlash", "(LChantNeumes$Score;II)Z"⟩
abbrev cX7_groupFollows : ByteArray := prog_9_method_10_code
def yX7_groupFollows : MethodName := ⟨RX7, "groupFollows", "(LChantNeumes$Score;II)Z"⟩
def RX8 : String := "ChantNeumes"
def TX8 : u_T := fun k => match k with
  | 0 => ("ChantNeumes", "tape", "LChantNeumes$Table;", true)
  | 1 => ("ChantNeumes", "written", "LChantNeumes$Table;", true)
  | 2 => ("ChantNeumes", "score", "LChantNeumes$Score;", true)
  | 3 => ("ChantNeumes", "reader", "LChantNeumes$Reader;", true)
  | 4 => ("ChantNeumes", "psalm", "LChantNeumes$Psalm;", true)
  | _ => ("ChantNeumes", "faultPlace", "I", false)
def tyX8 : Nat → FieldType := fun k => match k with
  | 0 => .object "ChantNeumes$Table"
  | 1 => .object "ChantNeumes$Table"
  | 2 => .object "ChantNeumes$Score"
  | 3 => .object "ChantNeumes$Reader"
  | 4 => .object "ChantNeumes$Psalm"
  | _ => .int
theorem nmX8 : ∀ a, a < 6 → ∀ b, b < 6 → a ≠ b → (TX8 a).2.1 ≠ (TX8 b).2.1 := by decide +kernel
theorem tyX8_ok : ∀ k, k < 6 → parseFieldDescriptor (TX8 k).2.2.1 = some (tyX8 k) := by decide +kernel
abbrev cX8_init : ByteArray := prog_1_method_1_code
def yX8_init : MethodName := ⟨RX8, "<init>", "()V"⟩
abbrev cX8_feed : ByteArray := prog_1_method_2_code
def yX8_feed : MethodName := ⟨RX8, "feed", "(IIIII)I"⟩
abbrev cX8_feedNumber : ByteArray := prog_1_method_3_code
def yX8_feedNumber : MethodName := ⟨RX8, "feedNumber", "(I)V"⟩
abbrev cX8_end : ByteArray := prog_1_method_4_code
def yX8_end : MethodName := ⟨RX8, "end", "(I)I"⟩
abbrev cX8_read : ByteArray := prog_1_method_5_code
def yX8_read : MethodName := ⟨RX8, "read", "()I"⟩
abbrev cX8_place : ByteArray := prog_1_method_6_code
def yX8_place : MethodName := ⟨RX8, "place", "()I"⟩
abbrev cX8_syllable : ByteArray := prog_1_method_7_code
def yX8_syllable : MethodName := ⟨RX8, "syllable", "(II)I"⟩
abbrev cX8_note : ByteArray := prog_1_method_8_code
def yX8_note : MethodName := ⟨RX8, "note", "(II)I"⟩
abbrev cX8_neume : ByteArray := prog_1_method_9_code
def yX8_neume : MethodName := ⟨RX8, "neume", "(II)I"⟩
abbrev cX8_bar : ByteArray := prog_1_method_10_code
def yX8_bar : MethodName := ⟨RX8, "bar", "(II)I"⟩
abbrev cX8_guide : ByteArray := prog_1_method_11_code
def yX8_guide : MethodName := ⟨RX8, "guide", "(I)I"⟩
abbrev cX8_mode : ByteArray := prog_1_method_12_code
def yX8_mode : MethodName := ⟨RX8, "mode", "(I)I"⟩
abbrev cX8_tone : ByteArray := prog_1_method_13_code
def yX8_tone : MethodName := ⟨RX8, "tone", "(I)I"⟩
abbrev cX8_point : ByteArray := prog_1_method_14_code
def yX8_point : MethodName := ⟨RX8, "point", "(IZ)I"⟩
abbrev cX8_fresh : ByteArray := prog_1_method_15_code
def yX8_fresh : MethodName := ⟨RX8, "fresh", "()I"⟩
abbrev cX8_half : ByteArray := prog_1_method_16_code
def yX8_half : MethodName := ⟨RX8, "half", "(II)I"⟩
abbrev cX8_sung : ByteArray := prog_1_method_17_code
def yX8_sung : MethodName := ⟨RX8, "sung", "(III)I"⟩
abbrev cX8_write : ByteArray := prog_1_method_18_code
def yX8_write : MethodName := ⟨RX8, "write", "()I"⟩
abbrev cX8_at : ByteArray := prog_1_method_19_code
def yX8_at : MethodName := ⟨RX8, "at", "(I)I"⟩
abbrev cX8_count : ByteArray := prog_1_method_20_code
def yX8_count : MethodName := ⟨RX8, "count", "(I)I"⟩
def RX9 : String := "ChantNeumesModel"
def TX9 : u_T := fun k => match k with
  | 0 => ("ChantNeumesModel", "tape", "[I", true)
  | 1 => ("ChantNeumesModel", "taped", "I", false)
  | 2 => ("ChantNeumesModel", "text", "[I", true)
  | 3 => ("ChantNeumesModel", "syllables", "I", false)
  | 4 => ("ChantNeumesModel", "lettersFrom", "[I", true)
  | 5 => ("ChantNeumesModel", "letters", "[I", true)
  | 6 => ("ChantNeumesModel", "accents", "[I", true)
  | 7 => ("ChantNeumesModel", "parens", "[I", true)
  | 8 => ("ChantNeumesModel", "words", "[I", true)
  | 9 => ("ChantNeumesModel", "firstSign", "[I", true)
  | 10 => ("ChantNeumesModel", "signs", "I", false)
  | 11 => ("ChantNeumesModel", "sign", "[I", true)
  | 12 => ("ChantNeumesModel", "value", "[I", true)
  | 13 => ("ChantNeumesModel", "ahead", "[I", true)
  | 14 => ("ChantNeumesModel", "wordMany", "I", false)
  | 15 => ("ChantNeumesModel", "notes", "I", false)
  | 16 => ("ChantNeumesModel", "height", "[I", true)
  | 17 => ("ChantNeumesModel", "marks", "[I", true)
  | 18 => ("ChantNeumesModel", "syllableOf", "[I", true)
  | 19 => ("ChantNeumesModel", "groupOf", "[I", true)
  | 20 => ("ChantNeumesModel", "groups", "I", false)
  | 21 => ("ChantNeumesModel", "bars", "I", false)
  | 22 => ("ChantNeumesModel", "ends", "I", false)
  | 23 => ("ChantNeumesModel", "clefs", "I", false)
  | 24 => ("ChantNeumesModel", "flats", "I", false)
  | 25 => ("ChantNeumesModel", "naturals", "I", false)
  | 26 => ("ChantNeumesModel", "fault", "I", false)
  | 27 => ("ChantNeumesModel", "placeNow", "I", false)
  | 28 => ("ChantNeumesModel", "many", "I", false)
  | 29 => ("ChantNeumesModel", "at", "I", false)
  | 30 => ("ChantNeumesModel", "step", "[I", true)
  | 31 => ("ChantNeumesModel", "semitones", "[I", true)
  | 32 => ("ChantNeumesModel", "guides", "[I", true)
  | 33 => ("ChantNeumesModel", "flat", "[I", true)
  | 34 => ("ChantNeumesModel", "tones", "[I", true)
  | 35 => ("ChantNeumesModel", "neumes", "I", false)
  | 36 => ("ChantNeumesModel", "neumeIs", "[I", true)
  | 37 => ("ChantNeumesModel", "neumeAt", "[I", true)
  | 38 => ("ChantNeumesModel", "neumeMany", "[I", true)
  | 39 => ("ChantNeumesModel", "neumeOf", "[I", true)
  | 40 => ("ChantNeumesModel", "ways", "[I", true)
  | 41 => ("ChantNeumesModel", "modes", "[I", true)
  | 42 => ("ChantNeumesModel", "tenors", "[I", true)
  | 43 => ("ChantNeumesModel", "tone", "I", false)
  | 44 => ("ChantNeumesModel", "points", "[I", true)
  | 45 => ("ChantNeumesModel", "pointMany", "[I", true)
  | 46 => ("ChantNeumesModel", "openings", "[I", true)
  | 47 => ("ChantNeumesModel", "closes", "[I", true)
  | 48 => ("ChantNeumesModel", "first", "I", false)
  | 49 => ("ChantNeumesModel", "last", "I", false)
  | 50 => ("ChantNeumesModel", "isShort", "Z", false)
  | 51 => ("ChantNeumesModel", "sungMany", "I", false)
  | 52 => ("ChantNeumesModel", "sungOn", "[I", true)
  | 53 => ("ChantNeumesModel", "sungBy", "[I", true)
  | 54 => ("ChantNeumesModel", "out", "[I", true)
  | _ => ("ChantNeumesModel", "outMany", "I", false)
def tyX9 : Nat → FieldType := fun k => match k with
  | 0 => .array .int
  | 1 => .int
  | 2 => .array .int
  | 3 => .int
  | 4 => .array .int
  | 5 => .array .int
  | 6 => .array .int
  | 7 => .array .int
  | 8 => .array .int
  | 9 => .array .int
  | 10 => .int
  | 11 => .array .int
  | 12 => .array .int
  | 13 => .array .int
  | 14 => .int
  | 15 => .int
  | 16 => .array .int
  | 17 => .array .int
  | 18 => .array .int
  | 19 => .array .int
  | 20 => .int
  | 21 => .int
  | 22 => .int
  | 23 => .int
  | 24 => .int
  | 25 => .int
  | 26 => .int
  | 27 => .int
  | 28 => .int
  | 29 => .int
  | 30 => .array .int
  | 31 => .array .int
  | 32 => .array .int
  | 33 => .array .int
  | 34 => .array .int
  | 35 => .int
  | 36 => .array .int
  | 37 => .array .int
  | 38 => .array .int
  | 39 => .array .int
  | 40 => .array .int
  | 41 => .array .int
  | 42 => .array .int
  | 43 => .int
  | 44 => .array .int
  | 45 => .array .int
  | 46 => .array .int
  | 47 => .array .int
  | 48 => .int
  | 49 => .int
  | 50 => .boolean
  | 51 => .int
  | 52 => .array .int
  | 53 => .array .int
  | 54 => .array .int
  | _ => .int
theorem nmX9 : ∀ a, a < 56 → ∀ b, b < 56 → a ≠ b → (TX9 a).2.1 ≠ (TX9 b).2.1 := by decide +kernel
theorem tyX9_ok : ∀ k, k < 56 → parseFieldDescriptor (TX9 k).2.2.1 = some (tyX9 k) := by decide +kernel
abbrev cX9_init : ByteArray := prog_11_method_1_code
def yX9_init : MethodName := ⟨RX9, "<init>", "()V"⟩
abbrev cX9_in : ByteArray := prog_11_method_3_code
def yX9_in : MethodName := ⟨RX9, "in", "(III)Z"⟩
abbrev cX9_floor : ByteArray := prog_11_method_4_code
def yX9_floor : MethodName := ⟨RX9, "floor", "(II)I"⟩
abbrev cX9_mod : ByteArray := prog_11_method_5_code
def yX9_mod : MethodName := ⟨RX9, "mod", "(II)I"⟩
abbrev cX9_feed : ByteArray := prog_11_method_6_code
def yX9_feed : MethodName := ⟨RX9, "feed", "(IIIII)I"⟩
abbrev cX9_end : ByteArray := prog_11_method_7_code
def yX9_end : MethodName := ⟨RX9, "end", "(I)I"⟩
abbrev cX9_wrong : ByteArray := prog_11_method_8_code
def yX9_wrong : MethodName := ⟨RX9, "wrong", "(II)V"⟩
abbrev cX9_nothing : ByteArray := prog_11_method_9_code
def yX9_nothing : MethodName := ⟨RX9, "nothing", "()V"⟩
abbrev cX9_isBlank : ByteArray := prog_11_method_10_code
def yX9_isBlank : MethodName := ⟨RX9, "isBlank", "(I)Z"⟩
abbrev cX9_isLetter : ByteArray := prog_11_method_11_code
def yX9_isLetter : MethodName := ⟨RX9, "isLetter", "(I)Z"⟩
abbrev cX9_byteAt : ByteArray := prog_11_method_12_code
def yX9_byteAt : MethodName := ⟨RX9, "byteAt", "(I)I"⟩
abbrev cX9_beginSyllable : ByteArray := prog_11_method_13_code
def yX9_beginSyllable : MethodName := ⟨RX9, "beginSyllable", "(Z)V"⟩
abbrev cX9_readText : ByteArray := prog_11_method_14_code
def yX9_readText : MethodName := ⟨RX9, "readText", "()V"⟩
abbrev cX9_put : ByteArray := prog_11_method_15_code
def yX9_put : MethodName := ⟨RX9, "put", "(II)V"⟩
abbrev cX9_readSigns : ByteArray := prog_11_method_16_code
def yX9_readSigns : MethodName := ⟨RX9, "readSigns", "()V"⟩
abbrev cX9_readHeight : ByteArray := prog_11_method_17_code
def yX9_readHeight : MethodName := ⟨RX9, "readHeight", "(IIZ)Z"⟩
abbrev cX9_markAt : ByteArray := prog_11_method_18_code
def yX9_markAt : MethodName := ⟨RX9, "markAt", "(I)I"⟩
abbrev cX9_read : ByteArray := prog_11_method_19_code
def yX9_read : MethodName := ⟨RX9, "read", "()I"⟩
abbrev cX9_place : ByteArray := prog_11_method_20_code
def yX9_place : MethodName := ⟨RX9, "place", "()I"⟩
abbrev cX9_stepOf : ByteArray := prog_11_method_21_code
def yX9_stepOf : MethodName := ⟨RX9, "stepOf", "(II)I"⟩
abbrev cX9_unflat : ByteArray := prog_11_method_22_code
def yX9_unflat : MethodName := ⟨RX9, "unflat", "()V"⟩
abbrev cX9_workOut : ByteArray := prog_11_method_23_code
def yX9_workOut : MethodName := ⟨RX9, "workOut", "()V"⟩
abbrev cX9_guideBy : ByteArray := prog_11_method_24_code
def yX9_guideBy : MethodName := ⟨RX9, "guideBy", "(II)I"⟩
abbrev cX9_lengthOf : ByteArray := prog_11_method_25_code
def yX9_lengthOf : MethodName := ⟨RX9, "lengthOf", "(I)I"⟩
abbrev cX9_wayOf : ByteArray := prog_11_method_26_code
def yX9_wayOf : MethodName := ⟨RX9, "wayOf", "(I)I"⟩
abbrev cX9_findNeumes : ByteArray := prog_11_method_27_code
def yX9_findNeumes : MethodName := ⟨RX9, "findNeumes", "()V"⟩
abbrev cX9_notesOf : ByteArray := prog_11_method_28_code
def yX9_notesOf : MethodName := ⟨RX9, "notesOf", "(I)I"⟩
abbrev cX9_firstOf : ByteArray := prog_11_method_29_code
def yX9_firstOf : MethodName := ⟨RX9, "firstOf", "(I)I"⟩
abbrev cX9_syllable : ByteArray := prog_11_method_30_code
def yX9_syllable : MethodName := ⟨RX9, "syllable", "(II)I"⟩
abbrev cX9_note : ByteArray := prog_11_method_31_code
def yX9_note : MethodName := ⟨RX9, "note", "(II)I"⟩
abbrev cX9_neume : ByteArray := prog_11_method_32_code
def yX9_neume : MethodName := ⟨RX9, "neume", "(II)I"⟩
abbrev cX9_bar : ByteArray := prog_11_method_33_code
def yX9_bar : MethodName := ⟨RX9, "bar", "(II)I"⟩
abbrev cX9_guide : ByteArray := prog_11_method_34_code
def yX9_guide : MethodName := ⟨RX9, "guide", "(I)I"⟩
abbrev cX9_mode : ByteArray := prog_11_method_35_code
def yX9_mode : MethodName := ⟨RX9, "mode", "(I)I"⟩
abbrev cX9_tone : ByteArray := prog_11_method_36_code
def yX9_tone : MethodName := ⟨RX9, "tone", "(I)I"⟩
abbrev cX9_point : ByteArray := prog_11_method_37_code
def yX9_point : MethodName := ⟨RX9, "point", "(IZ)I"⟩
abbrev cX9_fresh : ByteArray := prog_11_method_38_code
def yX9_fresh : MethodName := ⟨RX9, "fresh", "()I"⟩
abbrev cX9_close : ByteArray := prog_11_method_39_code
def yX9_close : MethodName := ⟨RX9, "close", "(II)I"⟩
abbrev cX9_accentBefore : ByteArray := prog_11_method_40_code
def yX9_accentBefore : MethodName := ⟨RX9, "accentBefore", "(II)I"⟩
abbrev cX9_fit : ByteArray := prog_11_method_41_code
def yX9_fit : MethodName := ⟨RX9, "fit", "(I)V"⟩
abbrev cX9_sing : ByteArray := prog_11_method_42_code
def yX9_sing : MethodName := ⟨RX9, "sing", "(II)V"⟩
abbrev cX9_half : ByteArray := prog_11_method_43_code
def yX9_half : MethodName := ⟨RX9, "half", "(II)I"⟩
abbrev cX9_sung : ByteArray := prog_11_method_44_code
def yX9_sung : MethodName := ⟨RX9, "sung", "(III)I"⟩
abbrev cX9_tell : ByteArray := prog_11_method_45_code
def yX9_tell : MethodName := ⟨RX9, "tell", "(I)V"⟩
abbrev cX9_isParted : ByteArray := prog_11_method_46_code
def yX9_isParted : MethodName := ⟨RX9, "isParted", "(II)Z"⟩
abbrev cX9_tellSign : ByteArray := prog_11_method_47_code
def yX9_tellSign : MethodName := ⟨RX9, "tellSign", "(II)V"⟩
abbrev cX9_tellIf : ByteArray := prog_11_method_48_code
def yX9_tellIf : MethodName := ⟨RX9, "tellIf", "(III)V"⟩
abbrev cX9_write : ByteArray := prog_11_method_49_code
def yX9_write : MethodName := ⟨RX9, "write", "()I"⟩
abbrev cX9_at : ByteArray := prog_11_method_50_code
def yX9_at : MethodName := ⟨RX9, "at", "(I)I"⟩
abbrev cX9_count : ByteArray := prog_11_method_51_code
def yX9_count : MethodName := ⟨RX9, "count", "(I)I"⟩
def RJ9 : String := "java/lang/Math"
abbrev cJ9_floorDiv_7cf53 : ByteArray := prog_12_method_47_code
def yJ9_floorDiv_7cf53 : MethodName := ⟨RJ9, "floorDiv", "(II)I"⟩
abbrev cJ9_floorMod_7cf53 : ByteArray := prog_12_method_50_code
def yJ9_floorMod_7cf53 : MethodName := ⟨RJ9, "floorMod", "(II)I"⟩
abbrev cJ9_max_7cf53 : ByteArray := prog_12_method_65_code
def yJ9_max_7cf53 : MethodName := ⟨RJ9, "max", "(II)I"⟩
abbrev cJ9_min_7cf53 : ByteArray := prog_12_method_69_code
def yJ9_min_7cf53 : MethodName := ⟨RJ9, "min", "(II)I"⟩
def RL : String := "ChantNeumesLaw"
abbrev cL_law : ByteArray := code
def yL_law : MethodName := ⟨RL, "law", "([I)Z"⟩
abbrev mX0_init : MI := (yX0_init, cX0_init, 2, (none : Option Jvm.ClassFile.FieldType))
abbrev mX0_fit : MI := (yX0_fit, cX0_fit, 6, (none : Option Jvm.ClassFile.FieldType))
abbrev mX0_placeAccents : MI := (yX0_placeAccents, cX0_placeAccents, 3, (none : Option Jvm.ClassFile.FieldType))
abbrev mX0_accentBefore : MI := (yX0_accentBefore, cX0_accentBefore, 3, (some .int))
abbrev mX0_chooseForm : MI := (yX0_chooseForm, cX0_chooseForm, 2, (none : Option Jvm.ClassFile.FieldType))
abbrev mX0_firstPlaced : MI := (yX0_firstPlaced, cX0_firstPlaced, 1, (some .int))
abbrev mX0_singSyllable : MI := (yX0_singSyllable, cX0_singSyllable, 3, (none : Option Jvm.ClassFile.FieldType))
abbrev mX0_stepOf : MI := (yX0_stepOf, cX0_stepOf, 4, (some .int))
abbrev mX0_closeCell : MI := (yX0_closeCell, cX0_closeCell, 2, (some .int))
abbrev mX0_addStep : MI := (yX0_addStep, cX0_addStep, 3, (none : Option Jvm.ClassFile.FieldType))
abbrev mX1_init : MI := (yX1_init, cX1_init, 1, (none : Option Jvm.ClassFile.FieldType))
abbrev mX1_isHalf : MI := (yX1_isHalf, cX1_isHalf, 1, (some .boolean))
abbrev mX1_changeTone : MI := (yX1_changeTone, cX1_changeTone, 3, (some .int))
abbrev mX1_addSyllable : MI := (yX1_addSyllable, cX1_addSyllable, 4, (some .int))
abbrev mX1_forgetVerse : MI := (yX1_forgetVerse, cX1_forgetVerse, 2, (some .int))
abbrev mX1_fitted : MI := (yX1_fitted, cX1_fitted, 2, (some (.object "ChantNeumes$Fitting")))
abbrev mX1_accentsOf : MI := (yX1_accentsOf, cX1_accentsOf, 2, (some (.object "ChantNeumes$Table")))
abbrev mX2_init : MI := (yX2_init, cX2_init, 2, (none : Option Jvm.ClassFile.FieldType))
abbrev mX2_placeOfFault : MI := (yX2_placeOfFault, cX2_placeOfFault, 1, (some .int))
abbrev mX2_readFrom : MI := (yX2_readFrom, cX2_readFrom, 5, (some .int))
abbrev mX2_start : MI := (yX2_start, cX2_start, 2, (none : Option Jvm.ClassFile.FieldType))
abbrev mX2_refuse : MI := (yX2_refuse, cX2_refuse, 3, (none : Option Jvm.ClassFile.FieldType))
abbrev mX2_takeOutside : MI := (yX2_takeOutside, cX2_takeOutside, 5, (none : Option Jvm.ClassFile.FieldType))
abbrev mX2_beginSyllable : MI := (yX2_beginSyllable, cX2_beginSyllable, 3, (some .boolean))
abbrev mX2_endSyllable : MI := (yX2_endSyllable, cX2_endSyllable, 3, (none : Option Jvm.ClassFile.FieldType))
abbrev mX2_takeInside : MI := (yX2_takeInside, cX2_takeInside, 5, (none : Option Jvm.ClassFile.FieldType))
abbrev mX2_takeMark : MI := (yX2_takeMark, cX2_takeMark, 4, (none : Option Jvm.ClassFile.FieldType))
abbrev mX2_takeHeight : MI := (yX2_takeHeight, cX2_takeHeight, 5, (none : Option Jvm.ClassFile.FieldType))
abbrev mX2_takeAccidental : MI := (yX2_takeAccidental, cX2_takeAccidental, 5, (none : Option Jvm.ClassFile.FieldType))
abbrev mX2_takeClef : MI := (yX2_takeClef, cX2_takeClef, 5, (none : Option Jvm.ClassFile.FieldType))
abbrev mX2_takeNote : MI := (yX2_takeNote, cX2_takeNote, 7, (none : Option Jvm.ClassFile.FieldType))
abbrev mX2_takeBar : MI := (yX2_takeBar, cX2_takeBar, 4, (none : Option Jvm.ClassFile.FieldType))
abbrev mX2_takeLineEnd : MI := (yX2_takeLineEnd, cX2_takeLineEnd, 3, (none : Option Jvm.ClassFile.FieldType))
abbrev mX2_addSign : MI := (yX2_addSign, cX2_addSign, 5, (some .boolean))
abbrev mX2_roomOf : MI := (yX2_roomOf, cX2_roomOf, 1, (some .int))
abbrev mX2_semitonesOf : MI := (yX2_semitonesOf, cX2_semitonesOf, 4, (some .int))
abbrev mX2_isBlank : MI := (yX2_isBlank, cX2_isBlank, 1, (some .boolean))
abbrev mX2_isLetter : MI := (yX2_isLetter, cX2_isLetter, 1, (some .boolean))
abbrev mX2_markOf : MI := (yX2_markOf, cX2_markOf, 1, (some .int))
abbrev mX3_init : MI := (yX3_init, cX3_init, 1, (none : Option Jvm.ClassFile.FieldType))
abbrev mX3_clear : MI := (yX3_clear, cX3_clear, 1, (none : Option Jvm.ClassFile.FieldType))
abbrev mX3_syllablesWithoutNotes : MI := (yX3_syllablesWithoutNotes, cX3_syllablesWithoutNotes, 3, (some .int))
abbrev mX3_sameGroup : MI := (yX3_sameGroup, cX3_sameGroup, 3, (some .boolean))
abbrev mX3_hasMark : MI := (yX3_hasMark, cX3_hasMark, 3, (some .boolean))
abbrev mX3_guideOf : MI := (yX3_guideOf, cX3_guideOf, 4, (some .int))
abbrev mX3_finalStep : MI := (yX3_finalStep, cX3_finalStep, 1, (some .int))
abbrev mX3_lowestStep : MI := (yX3_lowestStep, cX3_lowestStep, 3, (some .int))
abbrev mX3_highestStep : MI := (yX3_highestStep, cX3_highestStep, 3, (some .int))
abbrev mX3_modeNumber : MI := (yX3_modeNumber, cX3_modeNumber, 4, (some .int))
abbrev mX3_tenorStep : MI := (yX3_tenorStep, cX3_tenorStep, 2, (some .int))
abbrev mX4_shape : MI := (yX4_shape, cX4_shape, 3, (none : Option Jvm.ClassFile.FieldType))
abbrev mX4_beginNeume : MI := (yX4_beginNeume, cX4_beginNeume, 7, (some .int))
abbrev mX4_wayTo : MI := (yX4_wayTo, cX4_wayTo, 4, (some .int))
abbrev mX4_kindOf : MI := (yX4_kindOf, cX4_kindOf, 2, (some .int))
abbrev mX4_lengthOf : MI := (yX4_lengthOf, cX4_lengthOf, 3, (some .int))
abbrev mX5_init : MI := (yX5_init, cX5_init, 3, (none : Option Jvm.ClassFile.FieldType))
abbrev mX5_size : MI := (yX5_size, cX5_size, 1, (some .int))
abbrev mX5_isFull : MI := (yX5_isFull, cX5_isFull, 1, (some .boolean))
abbrev mX5_has : MI := (yX5_has, cX5_has, 2, (some .boolean))
abbrev mX5_keep : MI := (yX5_keep, cX5_keep, 2, (none : Option Jvm.ClassFile.FieldType))
abbrev mX5_add : MI := (yX5_add, cX5_add, 4, (some .int))
abbrev mX5_get : MI := (yX5_get, cX5_get, 4, (some .int))
abbrev mX5_set : MI := (yX5_set, cX5_set, 5, (none : Option Jvm.ClassFile.FieldType))
abbrev mX5_ask : MI := (yX5_ask, cX5_ask, 4, (some .int))
abbrev mX6_cell : MI := (yX6_cell, cX6_cell, 3, (some .int))
abbrev mX6_closeStart : MI := (yX6_closeStart, cX6_closeStart, 1, (some .int))
abbrev mX7_writeScore : MI := (yX7_writeScore, cX7_writeScore, 4, (none : Option Jvm.ClassFile.FieldType))
abbrev mX7_writeLetters : MI := (yX7_writeLetters, cX7_writeLetters, 6, (none : Option Jvm.ClassFile.FieldType))
abbrev mX7_writeSigns : MI := (yX7_writeSigns, cX7_writeSigns, 6, (none : Option Jvm.ClassFile.FieldType))
abbrev mX7_writeSign : MI := (yX7_writeSign, cX7_writeSign, 4, (none : Option Jvm.ClassFile.FieldType))
abbrev mX7_writeMarks : MI := (yX7_writeMarks, cX7_writeMarks, 2, (none : Option Jvm.ClassFile.FieldType))
abbrev mX7_writeMark : MI := (yX7_writeMark, cX7_writeMark, 3, (none : Option Jvm.ClassFile.FieldType))
abbrev mX7_writeBar : MI := (yX7_writeBar, cX7_writeBar, 2, (none : Option Jvm.ClassFile.FieldType))
abbrev mX7_needsSlash : MI := (yX7_needsSlash, cX7_needsSlash, 4, (some .boolean))
abbrev mX7_groupFollows : MI := (yX7_groupFollows, cX7_groupFollows, 6, (some .boolean))
abbrev mX8_init : MI := (yX8_init, cX8_init, 1, (none : Option Jvm.ClassFile.FieldType))
abbrev mX8_feed : MI := (yX8_feed, cX8_feed, 6, (some .int))
abbrev mX8_feedNumber : MI := (yX8_feedNumber, cX8_feedNumber, 3, (none : Option Jvm.ClassFile.FieldType))
abbrev mX8_end : MI := (yX8_end, cX8_end, 2, (some .int))
abbrev mX8_read : MI := (yX8_read, cX8_read, 2, (some .int))
abbrev mX8_place : MI := (yX8_place, cX8_place, 1, (some .int))
abbrev mX8_syllable : MI := (yX8_syllable, cX8_syllable, 3, (some .int))
abbrev mX8_note : MI := (yX8_note, cX8_note, 3, (some .int))
abbrev mX8_neume : MI := (yX8_neume, cX8_neume, 3, (some .int))
abbrev mX8_bar : MI := (yX8_bar, cX8_bar, 3, (some .int))
abbrev mX8_guide : MI := (yX8_guide, cX8_guide, 2, (some .int))
abbrev mX8_mode : MI := (yX8_mode, cX8_mode, 2, (some .int))
abbrev mX8_tone : MI := (yX8_tone, cX8_tone, 2, (some .int))
abbrev mX8_point : MI := (yX8_point, cX8_point, 3, (some .int))
abbrev mX8_fresh : MI := (yX8_fresh, cX8_fresh, 1, (some .int))
abbrev mX8_half : MI := (yX8_half, cX8_half, 4, (some .int))
abbrev mX8_sung : MI := (yX8_sung, cX8_sung, 5, (some .int))
abbrev mX8_write : MI := (yX8_write, cX8_write, 1, (some .int))
abbrev mX8_at : MI := (yX8_at, cX8_at, 2, (some .int))
abbrev mX8_count : MI := (yX8_count, cX8_count, 2, (some .int))
abbrev mX9_init : MI := (yX9_init, cX9_init, 1, (none : Option Jvm.ClassFile.FieldType))
abbrev mX9_in : MI := (yX9_in, cX9_in, 3, (some .boolean))
abbrev mX9_floor : MI := (yX9_floor, cX9_floor, 3, (some .int))
abbrev mX9_mod : MI := (yX9_mod, cX9_mod, 2, (some .int))
abbrev mX9_feed : MI := (yX9_feed, cX9_feed, 8, (some .int))
abbrev mX9_end : MI := (yX9_end, cX9_end, 2, (some .int))
abbrev mX9_wrong : MI := (yX9_wrong, cX9_wrong, 3, (none : Option Jvm.ClassFile.FieldType))
abbrev mX9_nothing : MI := (yX9_nothing, cX9_nothing, 1, (none : Option Jvm.ClassFile.FieldType))
abbrev mX9_isBlank : MI := (yX9_isBlank, cX9_isBlank, 1, (some .boolean))
abbrev mX9_isLetter : MI := (yX9_isLetter, cX9_isLetter, 1, (some .boolean))
abbrev mX9_byteAt : MI := (yX9_byteAt, cX9_byteAt, 2, (some .int))
abbrev mX9_beginSyllable : MI := (yX9_beginSyllable, cX9_beginSyllable, 2, (none : Option Jvm.ClassFile.FieldType))
abbrev mX9_readText : MI := (yX9_readText, cX9_readText, 4, (none : Option Jvm.ClassFile.FieldType))
abbrev mX9_put : MI := (yX9_put, cX9_put, 3, (none : Option Jvm.ClassFile.FieldType))
abbrev mX9_readSigns : MI := (yX9_readSigns, cX9_readSigns, 5, (none : Option Jvm.ClassFile.FieldType))
abbrev mX9_readHeight : MI := (yX9_readHeight, cX9_readHeight, 5, (some .boolean))
abbrev mX9_markAt : MI := (yX9_markAt, cX9_markAt, 3, (some .int))
abbrev mX9_read : MI := (yX9_read, cX9_read, 2, (some .int))
abbrev mX9_place : MI := (yX9_place, cX9_place, 1, (some .int))
abbrev mX9_stepOf : MI := (yX9_stepOf, cX9_stepOf, 3, (some .int))
abbrev mX9_unflat : MI := (yX9_unflat, cX9_unflat, 2, (none : Option Jvm.ClassFile.FieldType))
abbrev mX9_workOut : MI := (yX9_workOut, cX9_workOut, 5, (none : Option Jvm.ClassFile.FieldType))
abbrev mX9_guideBy : MI := (yX9_guideBy, cX9_guideBy, 3, (some .int))
abbrev mX9_lengthOf : MI := (yX9_lengthOf, cX9_lengthOf, 3, (some .int))
abbrev mX9_wayOf : MI := (yX9_wayOf, cX9_wayOf, 2, (some .int))
abbrev mX9_findNeumes : MI := (yX9_findNeumes, cX9_findNeumes, 7, (none : Option Jvm.ClassFile.FieldType))
abbrev mX9_notesOf : MI := (yX9_notesOf, cX9_notesOf, 4, (some .int))
abbrev mX9_firstOf : MI := (yX9_firstOf, cX9_firstOf, 4, (some .int))
abbrev mX9_syllable : MI := (yX9_syllable, cX9_syllable, 3, (some .int))
abbrev mX9_note : MI := (yX9_note, cX9_note, 3, (some .int))
abbrev mX9_neume : MI := (yX9_neume, cX9_neume, 3, (some .int))
abbrev mX9_bar : MI := (yX9_bar, cX9_bar, 6, (some .int))
abbrev mX9_guide : MI := (yX9_guide, cX9_guide, 2, (some .int))
abbrev mX9_mode : MI := (yX9_mode, cX9_mode, 6, (some .int))
abbrev mX9_tone : MI := (yX9_tone, cX9_tone, 3, (some .int))
abbrev mX9_point : MI := (yX9_point, cX9_point, 3, (some .int))
abbrev mX9_fresh : MI := (yX9_fresh, cX9_fresh, 2, (some .int))
abbrev mX9_close : MI := (yX9_close, cX9_close, 3, (some .int))
abbrev mX9_accentBefore : MI := (yX9_accentBefore, cX9_accentBefore, 5, (some .int))
abbrev mX9_fit : MI := (yX9_fit, cX9_fit, 10, (none : Option Jvm.ClassFile.FieldType))
abbrev mX9_sing : MI := (yX9_sing, cX9_sing, 3, (none : Option Jvm.ClassFile.FieldType))
abbrev mX9_half : MI := (yX9_half, cX9_half, 3, (some .int))
abbrev mX9_sung : MI := (yX9_sung, cX9_sung, 4, (some .int))
abbrev mX9_tell : MI := (yX9_tell, cX9_tell, 2, (none : Option Jvm.ClassFile.FieldType))
abbrev mX9_isParted : MI := (yX9_isParted, cX9_isParted, 4, (some .boolean))
abbrev mX9_tellSign : MI := (yX9_tellSign, cX9_tellSign, 5, (none : Option Jvm.ClassFile.FieldType))
abbrev mX9_tellIf : MI := (yX9_tellIf, cX9_tellIf, 4, (none : Option Jvm.ClassFile.FieldType))
abbrev mX9_write : MI := (yX9_write, cX9_write, 3, (some .int))
abbrev mX9_at : MI := (yX9_at, cX9_at, 2, (some .int))
abbrev mX9_count : MI := (yX9_count, cX9_count, 4, (some .int))
abbrev mJ9_floorDiv_7cf53 : MI := (yJ9_floorDiv_7cf53, cJ9_floorDiv_7cf53, 3, (some .int))
abbrev mJ9_floorMod_7cf53 : MI := (yJ9_floorMod_7cf53, cJ9_floorMod_7cf53, 3, (some .int))
abbrev mJ9_max_7cf53 : MI := (yJ9_max_7cf53, cJ9_max_7cf53, 2, (some .int))
abbrev mJ9_min_7cf53 : MI := (yJ9_min_7cf53, cJ9_min_7cf53, 2, (some .int))
abbrev mL_law : MI := (yL_law, cL_law, 4, (some .boolean))
abbrev vwCl : List vw_C := [(RX0, TX0, 8), (RX1, TX1, 4), (RX2, TX2, 12), (RX3, TX3, 9), (RX5, TX5, 4), (RX8, TX8, 6), (RX9, TX9, 56)]
set_option maxRecDepth 20000 in
theorem inX0 : ∀ w ∈ u_ws RX0 TX0 8, w ∈ goodTB := sub_of [220, 222, 224, 226, 228, 230, 232, 234] (by decide +kernel) (by decide +kernel)
set_option maxRecDepth 20000 in
theorem inX1 : ∀ w ∈ u_ws RX1 TX1 4, w ∈ goodTB := sub_of [241, 243, 245, 247] (by decide +kernel) (by decide +kernel)
set_option maxRecDepth 20000 in
theorem inX2 : ∀ w ∈ u_ws RX2 TX2 12, w ∈ goodTB := sub_of [167, 169, 171, 173, 175, 177, 179, 181, 183, 185, 187, 189] (by decide +kernel) (by decide +kernel)
set_option maxRecDepth 20000 in
theorem inX3 : ∀ w ∈ u_ws RX3 TX3 9, w ∈ goodTB := sub_of [128, 130, 132, 134, 136, 138, 140, 142, 144] (by decide +kernel) (by decide +kernel)
set_option maxRecDepth 20000 in
theorem inX5 : ∀ w ∈ u_ws RX5 TX5 4, w ∈ goodTB := sub_of [80, 82, 84, 86] (by decide +kernel) (by decide +kernel)
set_option maxRecDepth 20000 in
theorem inX8 : ∀ w ∈ u_ws RX8 TX8 6, w ∈ goodTB := sub_of [256, 258, 260, 262, 264, 266] (by decide +kernel) (by decide +kernel)
set_option maxRecDepth 20000 in
theorem inX9 : ∀ w ∈ u_ws RX9 TX9 56, w ∈ goodTB := sub_of [717, 719, 721, 723, 725, 727, 729, 731, 733, 735, 737, 739, 741, 743, 745, 747, 749, 751, 753, 755, 757, 759, 761, 763, 765, 767, 769, 771, 773, 775, 777, 779, 781, 783, 785, 787, 789, 791, 793, 795, 797, 799, 801, 803, 805, 807, 809, 811, 813, 815, 817, 819, 821, 823, 825, 827] (by decide +kernel) (by decide +kernel)
/-- class own's pool entry idx is field k of the worlds' class ci -/
def XG (own : String) (idx ci k : Nat) (ty : FieldType) (fin : Bool) : Prop := ∃ (C : String) (T : u_T) (N : Nat) (ty0 : Nat → FieldType), vwCl[ci]? = some (C, T, N) ∧ (∀ w ∈ u_ws C T N, w ∈ goodTB) ∧ (∀ k, k < N → parseFieldDescriptor (T k).2.2.1 = some (ty0 k)) ∧ (∀ a, a < N → ∀ b, b < N → a ≠ b → (T a).2.1 ≠ (T b).2.1) ∧ k < N ∧ Cond.fieldLink own idx (T k).1 (T k).2.1 (T k).2.2.1 ∈ goodTB ∧ parseFieldDescriptor (T k).2.2.1 = some ty ∧ (T k).2.2.2 = fin
def XMB (own : String) (idx : Nat) (M : MI) (n : Nat) (P : Prop) : Prop := M.1.cls ≠ "java/lang/invoke/MethodHandle" ∧ M.1.cls ≠ "java/lang/invoke/VarHandle" ∧ (parseMethodDescriptor M.1.desc).map (fun d => d.parameters.length) = some n ∧ Cond.methodLink own idx M.1 ∈ goodTB ∧ Cond.initialized M.1.cls ∈ goodTB ∧ Cond.code M.1 M.2.1 M.2.2.1 M.2.2.2 ∈ goodTB ∧ P
def XV (own : String) (idx : Nat) (M : MI) (n : Nat) : Prop := XMB own idx M n (Cond.instanceMethod M.1 ∈ goodTB ∧ Cond.selects M.1.cls M.1 M.1 ∈ goodTB)
def XT (own : String) (idx : Nat) (M : MI) (n : Nat) : Prop := XMB own idx M n (Cond.static M.1 ∈ goodTB)
def XI (own : String) (idx : Nat) (M : MI) (n : Nat) : Prop := XMB own idx M n (Cond.instanceMethod M.1 ∈ goodTB ∧ M.1.name = "<init>")
def XJ (M : MI) : Prop := Cond.initialized M.1.cls ∈ goodTB ∧ Cond.code M.1 M.2.1 M.2.2.1 M.2.2.2 ∈ goodTB ∧ Cond.instanceMethod M.1 ∈ goodTB
def XN (own : String) (idx ci N : Nat) (ty : Nat → FieldType) : Prop := ∃ (C : String) (T : u_T), vwCl[ci]? = some (C, T, N) ∧ (∀ w ∈ u_ws C T N, w ∈ goodTB) ∧ (∀ k, k < N → parseFieldDescriptor (T k).2.2.1 = some (ty k)) ∧ Cond.classLink own idx C ∈ goodTB ∧ Cond.instantiable C N ∈ goodTB ∧ Cond.initialized C ∈ goodTB
theorem fX5_15 : XG RX5 15 4 0 (.int) true := ⟨RX5, TX5, 4, tyX5, rfl, inX5, tyX5_ok, nmX5, by decide, inT1 29 rfl rfl, by decide +kernel, rfl⟩
theorem fX5_21 : XG RX5 21 4 1 (.int) true := ⟨RX5, TX5, 4, tyX5, rfl, inX5, tyX5_ok, nmX5, by decide, inT1 30 rfl rfl, by decide +kernel, rfl⟩
theorem fX5_24 : XG RX5 24 4 2 (.array .int) true := ⟨RX5, TX5, 4, tyX5, rfl, inX5, tyX5_ok, nmX5, by decide, inT1 31 rfl rfl, by decide +kernel, rfl⟩
theorem fX5_28 : XG RX5 28 4 3 (.int) false := ⟨RX5, TX5, 4, tyX5, rfl, inX5, tyX5_ok, nmX5, by decide, inT1 32 rfl rfl, by decide +kernel, rfl⟩
theorem fX3_16 : XG RX3 16 3 0 (.object "ChantNeumes$Table") true := ⟨RX3, TX3, 9, tyX3, rfl, inX3, tyX3_ok, nmX3, by decide, inT1 51 rfl rfl, by decide +kernel, rfl⟩
theorem fX7_40 : XG RX7 40 3 0 (.object "ChantNeumes$Table") true := ⟨RX3, TX3, 9, tyX3, rfl, inX3, tyX3_ok, nmX3, by decide, inT1 52 rfl rfl, by decide +kernel, rfl⟩
theorem fX2_112 : XG RX2 112 3 0 (.object "ChantNeumes$Table") true := ⟨RX3, TX3, 9, tyX3, rfl, inX3, tyX3_ok, nmX3, by decide, inT1 53 rfl rfl, by decide +kernel, rfl⟩
theorem fX3_20 : XG RX3 20 3 1 (.object "ChantNeumes$Table") true := ⟨RX3, TX3, 9, tyX3, rfl, inX3, tyX3_ok, nmX3, by decide, inT1 54 rfl rfl, by decide +kernel, rfl⟩
theorem fX7_13 : XG RX7 13 3 1 (.object "ChantNeumes$Table") true := ⟨RX3, TX3, 9, tyX3, rfl, inX3, tyX3_ok, nmX3, by decide, inT1 55 rfl rfl, by decide +kernel, rfl⟩
theorem fX2_106 : XG RX2 106 3 1 (.object "ChantNeumes$Table") true := ⟨RX3, TX3, 9, tyX3, rfl, inX3, tyX3_ok, nmX3, by decide, inT1 56 rfl rfl, by decide +kernel, rfl⟩
theorem fX8_73 : XG RX8 73 3 1 (.object "ChantNeumes$Table") true := ⟨RX3, TX3, 9, tyX3, rfl, inX3, tyX3_ok, nmX3, by decide, inT1 57 rfl rfl, by decide +kernel, rfl⟩
theorem fX3_23 : XG RX3 23 3 2 (.object "ChantNeumes$Table") true := ⟨RX3, TX3, 9, tyX3, rfl, inX3, tyX3_ok, nmX3, by decide, inT1 58 rfl rfl, by decide +kernel, rfl⟩
theorem fX4_9 : XG RX4 9 3 2 (.object "ChantNeumes$Table") true := ⟨RX3, TX3, 9, tyX3, rfl, inX3, tyX3_ok, nmX3, by decide, inT1 59 rfl rfl, by decide +kernel, rfl⟩
theorem fX8_70 : XG RX8 70 3 2 (.object "ChantNeumes$Table") true := ⟨RX3, TX3, 9, tyX3, rfl, inX3, tyX3_ok, nmX3, by decide, inT1 60 rfl rfl, by decide +kernel, rfl⟩
theorem fX7_53 : XG RX7 53 3 2 (.object "ChantNeumes$Table") true := ⟨RX3, TX3, 9, tyX3, rfl, inX3, tyX3_ok, nmX3, by decide, inT1 61 rfl rfl, by decide +kernel, rfl⟩
theorem fX2_143 : XG RX2 143 3 2 (.object "ChantNeumes$Table") true := ⟨RX3, TX3, 9, tyX3, rfl, inX3, tyX3_ok, nmX3, by decide, inT1 62 rfl rfl, by decide +kernel, rfl⟩
theorem fX3_26 : XG RX3 26 3 3 (.object "ChantNeumes$Table") true := ⟨RX3, TX3, 9, tyX3, rfl, inX3, tyX3_ok, nmX3, by decide, inT1 63 rfl rfl, by decide +kernel, rfl⟩
theorem fX4_27 : XG RX4 27 3 3 (.object "ChantNeumes$Table") true := ⟨RX3, TX3, 9, tyX3, rfl, inX3, tyX3_ok, nmX3, by decide, inT1 64 rfl rfl, by decide +kernel, rfl⟩
theorem fX8_80 : XG RX8 80 3 3 (.object "ChantNeumes$Table") true := ⟨RX3, TX3, 9, tyX3, rfl, inX3, tyX3_ok, nmX3, by decide, inT1 65 rfl rfl, by decide +kernel, rfl⟩
theorem fX3_29 : XG RX3 29 3 4 (.object "ChantNeumes$Table") true := ⟨RX3, TX3, 9, tyX3, rfl, inX3, tyX3_ok, nmX3, by decide, inT1 66 rfl rfl, by decide +kernel, rfl⟩
theorem fX8_83 : XG RX8 83 3 4 (.object "ChantNeumes$Table") true := ⟨RX3, TX3, 9, tyX3, rfl, inX3, tyX3_ok, nmX3, by decide, inT1 67 rfl rfl, by decide +kernel, rfl⟩
theorem fX2_169 : XG RX2 169 3 4 (.object "ChantNeumes$Table") true := ⟨RX3, TX3, 9, tyX3, rfl, inX3, tyX3_ok, nmX3, by decide, inT1 68 rfl rfl, by decide +kernel, rfl⟩
theorem fX3_32 : XG RX3 32 3 5 (.object "ChantNeumes$Table") true := ⟨RX3, TX3, 9, tyX3, rfl, inX3, tyX3_ok, nmX3, by decide, inT1 69 rfl rfl, by decide +kernel, rfl⟩
theorem fX8_86 : XG RX8 86 3 5 (.object "ChantNeumes$Table") true := ⟨RX3, TX3, 9, tyX3, rfl, inX3, tyX3_ok, nmX3, by decide, inT1 70 rfl rfl, by decide +kernel, rfl⟩
theorem fX2_172 : XG RX2 172 3 5 (.object "ChantNeumes$Table") true := ⟨RX3, TX3, 9, tyX3, rfl, inX3, tyX3_ok, nmX3, by decide, inT1 71 rfl rfl, by decide +kernel, rfl⟩
theorem fX3_35 : XG RX3 35 3 6 (.object "ChantNeumes$Table") true := ⟨RX3, TX3, 9, tyX3, rfl, inX3, tyX3_ok, nmX3, by decide, inT1 72 rfl rfl, by decide +kernel, rfl⟩
theorem fX7_50 : XG RX7 50 3 6 (.object "ChantNeumes$Table") true := ⟨RX3, TX3, 9, tyX3, rfl, inX3, tyX3_ok, nmX3, by decide, inT1 73 rfl rfl, by decide +kernel, rfl⟩
theorem fX2_122 : XG RX2 122 3 6 (.object "ChantNeumes$Table") true := ⟨RX3, TX3, 9, tyX3, rfl, inX3, tyX3_ok, nmX3, by decide, inT1 74 rfl rfl, by decide +kernel, rfl⟩
theorem fX3_38 : XG RX3 38 3 7 (.int) false := ⟨RX3, TX3, 9, tyX3, rfl, inX3, tyX3_ok, nmX3, by decide, inT1 75 rfl rfl, by decide +kernel, rfl⟩
theorem fX2_119 : XG RX2 119 3 7 (.int) false := ⟨RX3, TX3, 9, tyX3, rfl, inX3, tyX3_ok, nmX3, by decide, inT1 76 rfl rfl, by decide +kernel, rfl⟩
theorem fX8_156 : XG RX8 156 3 7 (.int) false := ⟨RX3, TX3, 9, tyX3, rfl, inX3, tyX3_ok, nmX3, by decide, inT1 77 rfl rfl, by decide +kernel, rfl⟩
theorem fX3_42 : XG RX3 42 3 8 (.int) false := ⟨RX3, TX3, 9, tyX3, rfl, inX3, tyX3_ok, nmX3, by decide, inT1 78 rfl rfl, by decide +kernel, rfl⟩
theorem fX2_163 : XG RX2 163 3 8 (.int) false := ⟨RX3, TX3, 9, tyX3, rfl, inX3, tyX3_ok, nmX3, by decide, inT1 79 rfl rfl, by decide +kernel, rfl⟩
theorem fX8_153 : XG RX8 153 3 8 (.int) false := ⟨RX3, TX3, 9, tyX3, rfl, inX3, tyX3_ok, nmX3, by decide, inT1 80 rfl rfl, by decide +kernel, rfl⟩
theorem fX2_9 : XG RX2 9 2 0 (.object "ChantNeumes$Score") true := ⟨RX2, TX2, 12, tyX2, rfl, inX2, tyX2_ok, nmX2, by decide, inT1 108 rfl rfl, by decide +kernel, rfl⟩
theorem fX2_22 : XG RX2 22 2 1 (.object "ChantNeumes$Table") true := ⟨RX2, TX2, 12, tyX2, rfl, inX2, tyX2_ok, nmX2, by decide, inT1 109 rfl rfl, by decide +kernel, rfl⟩
theorem fX2_37 : XG RX2 37 2 2 (.int) false := ⟨RX2, TX2, 12, tyX2, rfl, inX2, tyX2_ok, nmX2, by decide, inT1 110 rfl rfl, by decide +kernel, rfl⟩
theorem fX2_26 : XG RX2 26 2 3 (.int) false := ⟨RX2, TX2, 12, tyX2, rfl, inX2, tyX2_ok, nmX2, by decide, inT1 111 rfl rfl, by decide +kernel, rfl⟩
theorem fX2_40 : XG RX2 40 2 4 (.int) false := ⟨RX2, TX2, 12, tyX2, rfl, inX2, tyX2_ok, nmX2, by decide, inT1 112 rfl rfl, by decide +kernel, rfl⟩
theorem fX2_70 : XG RX2 70 2 5 (.int) false := ⟨RX2, TX2, 12, tyX2, rfl, inX2, tyX2_ok, nmX2, by decide, inT1 113 rfl rfl, by decide +kernel, rfl⟩
theorem fX2_85 : XG RX2 85 2 6 (.int) false := ⟨RX2, TX2, 12, tyX2, rfl, inX2, tyX2_ok, nmX2, by decide, inT1 114 rfl rfl, by decide +kernel, rfl⟩
theorem fX2_47 : XG RX2 47 2 7 (.boolean) false := ⟨RX2, TX2, 12, tyX2, rfl, inX2, tyX2_ok, nmX2, by decide, inT1 115 rfl rfl, by decide +kernel, rfl⟩
theorem fX2_73 : XG RX2 73 2 8 (.boolean) false := ⟨RX2, TX2, 12, tyX2, rfl, inX2, tyX2_ok, nmX2, by decide, inT1 116 rfl rfl, by decide +kernel, rfl⟩
theorem fX2_76 : XG RX2 76 2 9 (.boolean) false := ⟨RX2, TX2, 12, tyX2, rfl, inX2, tyX2_ok, nmX2, by decide, inT1 117 rfl rfl, by decide +kernel, rfl⟩
theorem fX2_79 : XG RX2 79 2 10 (.boolean) false := ⟨RX2, TX2, 12, tyX2, rfl, inX2, tyX2_ok, nmX2, by decide, inT1 118 rfl rfl, by decide +kernel, rfl⟩
theorem fX2_82 : XG RX2 82 2 11 (.boolean) false := ⟨RX2, TX2, 12, tyX2, rfl, inX2, tyX2_ok, nmX2, by decide, inT1 119 rfl rfl, by decide +kernel, rfl⟩
theorem fX0_14 : XG RX0 14 0 0 (.object "ChantNeumes$Table") true := ⟨RX0, TX0, 8, tyX0, rfl, inX0, tyX0_ok, nmX0, by decide, inT1 161 rfl rfl, by decide +kernel, rfl⟩
theorem fX8_128 : XG RX8 128 0 0 (.object "ChantNeumes$Table") true := ⟨RX0, TX0, 8, tyX0, rfl, inX0, tyX0_ok, nmX0, by decide, inT1 162 rfl rfl, by decide +kernel, rfl⟩
theorem fX0_31 : XG RX0 31 0 1 (.boolean) false := ⟨RX0, TX0, 8, tyX0, rfl, inX0, tyX0_ok, nmX0, by decide, inT1 163 rfl rfl, by decide +kernel, rfl⟩
theorem fX8_133 : XG RX8 133 0 1 (.boolean) false := ⟨RX0, TX0, 8, tyX0, rfl, inX0, tyX0_ok, nmX0, by decide, inT1 164 rfl rfl, by decide +kernel, rfl⟩
theorem fX0_35 : XG RX0 35 0 2 (.int) false := ⟨RX0, TX0, 8, tyX0, rfl, inX0, tyX0_ok, nmX0, by decide, inT1 165 rfl rfl, by decide +kernel, rfl⟩
theorem fX8_137 : XG RX8 137 0 2 (.int) false := ⟨RX0, TX0, 8, tyX0, rfl, inX0, tyX0_ok, nmX0, by decide, inT1 166 rfl rfl, by decide +kernel, rfl⟩
theorem fX0_38 : XG RX0 38 0 3 (.int) false := ⟨RX0, TX0, 8, tyX0, rfl, inX0, tyX0_ok, nmX0, by decide, inT1 167 rfl rfl, by decide +kernel, rfl⟩
theorem fX8_140 : XG RX8 140 0 3 (.int) false := ⟨RX0, TX0, 8, tyX0, rfl, inX0, tyX0_ok, nmX0, by decide, inT1 168 rfl rfl, by decide +kernel, rfl⟩
theorem fX0_20 : XG RX0 20 0 4 (.int) false := ⟨RX0, TX0, 8, tyX0, rfl, inX0, tyX0_ok, nmX0, by decide, inT1 169 rfl rfl, by decide +kernel, rfl⟩
theorem fX0_24 : XG RX0 24 0 5 (.int) false := ⟨RX0, TX0, 8, tyX0, rfl, inX0, tyX0_ok, nmX0, by decide, inT1 170 rfl rfl, by decide +kernel, rfl⟩
theorem fX0_75 : XG RX0 75 0 6 (.int) false := ⟨RX0, TX0, 8, tyX0, rfl, inX0, tyX0_ok, nmX0, by decide, inT1 171 rfl rfl, by decide +kernel, rfl⟩
theorem fX0_78 : XG RX0 78 0 7 (.int) false := ⟨RX0, TX0, 8, tyX0, rfl, inX0, tyX0_ok, nmX0, by decide, inT1 172 rfl rfl, by decide +kernel, rfl⟩
theorem fX1_16 : XG RX1 16 1 0 (.object "ChantNeumes$Table") true := ⟨RX1, TX1, 4, tyX1, rfl, inX1, tyX1_ok, nmX1, by decide, inT1 190 rfl rfl, by decide +kernel, rfl⟩
theorem fX1_20 : XG RX1 20 1 1 (.object "ChantNeumes$Table") true := ⟨RX1, TX1, 4, tyX1, rfl, inX1, tyX1_ok, nmX1, by decide, inT1 191 rfl rfl, by decide +kernel, rfl⟩
theorem fX1_28 : XG RX1 28 1 2 (.object "ChantNeumes$Fitting") true := ⟨RX1, TX1, 4, tyX1, rfl, inX1, tyX1_ok, nmX1, by decide, inT1 192 rfl rfl, by decide +kernel, rfl⟩
theorem fX1_32 : XG RX1 32 1 3 (.int) false := ⟨RX1, TX1, 4, tyX1, rfl, inX1, tyX1_ok, nmX1, by decide, inT1 193 rfl rfl, by decide +kernel, rfl⟩
theorem fX8_14 : XG RX8 14 5 0 (.object "ChantNeumes$Table") true := ⟨RX8, TX8, 6, tyX8, rfl, inX8, tyX8_ok, nmX8, by decide, inT1 203 rfl rfl, by decide +kernel, rfl⟩
theorem fX8_18 : XG RX8 18 5 1 (.object "ChantNeumes$Table") true := ⟨RX8, TX8, 6, tyX8, rfl, inX8, tyX8_ok, nmX8, by decide, inT1 204 rfl rfl, by decide +kernel, rfl⟩
theorem fX8_24 : XG RX8 24 5 2 (.object "ChantNeumes$Score") true := ⟨RX8, TX8, 6, tyX8, rfl, inX8, tyX8_ok, nmX8, by decide, inT1 205 rfl rfl, by decide +kernel, rfl⟩
theorem fX8_33 : XG RX8 33 5 3 (.object "ChantNeumes$Reader") true := ⟨RX8, TX8, 6, tyX8, rfl, inX8, tyX8_ok, nmX8, by decide, inT1 206 rfl rfl, by decide +kernel, rfl⟩
theorem fX8_40 : XG RX8 40 5 4 (.object "ChantNeumes$Psalm") true := ⟨RX8, TX8, 6, tyX8, rfl, inX8, tyX8_ok, nmX8, by decide, inT1 207 rfl rfl, by decide +kernel, rfl⟩
theorem fX8_44 : XG RX8 44 5 5 (.int) false := ⟨RX8, TX8, 6, tyX8, rfl, inX8, tyX8_ok, nmX8, by decide, inT1 208 rfl rfl, by decide +kernel, rfl⟩
theorem sX2_186 : Cond.fieldLink RX2 186 "ChantNeumes$Reader" "SCALE" "[I" ∈ goodTB := inT2 86 rfl rfl
theorem sX4_58 : Cond.fieldLink RX4 58 "ChantNeumes$Shaper" "WAYS" "[I" ∈ goodTB := inT2 141 rfl rfl
theorem sX3_84 : Cond.fieldLink RX3 84 "ChantNeumes$Score" "TENORS" "[I" ∈ goodTB := inT2 218 rfl rfl
theorem sX6_9 : Cond.fieldLink RX6 9 "ChantNeumes$Tones" "CELLS" "[I" ∈ goodTB := inT3 51 rfl rfl
theorem fX9_7 : XG RX9 7 6 0 (.array .int) true := ⟨RX9, TX9, 56, tyX9, rfl, inX9, tyX9_ok, nmX9, by decide, inT3 134 rfl rfl, by decide +kernel, rfl⟩
theorem fX9_123 : XG RX9 123 6 1 (.int) false := ⟨RX9, TX9, 56, tyX9, rfl, inX9, tyX9_ok, nmX9, by decide, inT3 135 rfl rfl, by decide +kernel, rfl⟩
theorem fX9_13 : XG RX9 13 6 2 (.array .int) true := ⟨RX9, TX9, 56, tyX9, rfl, inX9, tyX9_ok, nmX9, by decide, inT3 136 rfl rfl, by decide +kernel, rfl⟩
theorem fX9_133 : XG RX9 133 6 3 (.int) false := ⟨RX9, TX9, 56, tyX9, rfl, inX9, tyX9_ok, nmX9, by decide, inT3 137 rfl rfl, by decide +kernel, rfl⟩
theorem fX9_16 : XG RX9 16 6 4 (.array .int) true := ⟨RX9, TX9, 56, tyX9, rfl, inX9, tyX9_ok, nmX9, by decide, inT3 138 rfl rfl, by decide +kernel, rfl⟩
theorem fX9_19 : XG RX9 19 6 5 (.array .int) true := ⟨RX9, TX9, 56, tyX9, rfl, inX9, tyX9_ok, nmX9, by decide, inT3 139 rfl rfl, by decide +kernel, rfl⟩
theorem fX9_22 : XG RX9 22 6 6 (.array .int) true := ⟨RX9, TX9, 56, tyX9, rfl, inX9, tyX9_ok, nmX9, by decide, inT3 140 rfl rfl, by decide +kernel, rfl⟩
theorem fX9_25 : XG RX9 25 6 7 (.array .int) true := ⟨RX9, TX9, 56, tyX9, rfl, inX9, tyX9_ok, nmX9, by decide, inT3 141 rfl rfl, by decide +kernel, rfl⟩
theorem fX9_28 : XG RX9 28 6 8 (.array .int) true := ⟨RX9, TX9, 56, tyX9, rfl, inX9, tyX9_ok, nmX9, by decide, inT3 142 rfl rfl, by decide +kernel, rfl⟩
theorem fX9_31 : XG RX9 31 6 9 (.array .int) true := ⟨RX9, TX9, 56, tyX9, rfl, inX9, tyX9_ok, nmX9, by decide, inT3 143 rfl rfl, by decide +kernel, rfl⟩
theorem fX9_136 : XG RX9 136 6 10 (.int) false := ⟨RX9, TX9, 56, tyX9, rfl, inX9, tyX9_ok, nmX9, by decide, inT3 144 rfl rfl, by decide +kernel, rfl⟩
theorem fX9_34 : XG RX9 34 6 11 (.array .int) true := ⟨RX9, TX9, 56, tyX9, rfl, inX9, tyX9_ok, nmX9, by decide, inT3 145 rfl rfl, by decide +kernel, rfl⟩
theorem fX9_37 : XG RX9 37 6 12 (.array .int) true := ⟨RX9, TX9, 56, tyX9, rfl, inX9, tyX9_ok, nmX9, by decide, inT3 146 rfl rfl, by decide +kernel, rfl⟩
theorem fX9_40 : XG RX9 40 6 13 (.array .int) true := ⟨RX9, TX9, 56, tyX9, rfl, inX9, tyX9_ok, nmX9, by decide, inT3 147 rfl rfl, by decide +kernel, rfl⟩
theorem fX9_139 : XG RX9 139 6 14 (.int) false := ⟨RX9, TX9, 56, tyX9, rfl, inX9, tyX9_ok, nmX9, by decide, inT3 148 rfl rfl, by decide +kernel, rfl⟩
theorem fX9_142 : XG RX9 142 6 15 (.int) false := ⟨RX9, TX9, 56, tyX9, rfl, inX9, tyX9_ok, nmX9, by decide, inT3 149 rfl rfl, by decide +kernel, rfl⟩
theorem fX9_43 : XG RX9 43 6 16 (.array .int) true := ⟨RX9, TX9, 56, tyX9, rfl, inX9, tyX9_ok, nmX9, by decide, inT3 150 rfl rfl, by decide +kernel, rfl⟩
theorem fX9_46 : XG RX9 46 6 17 (.array .int) true := ⟨RX9, TX9, 56, tyX9, rfl, inX9, tyX9_ok, nmX9, by decide, inT3 151 rfl rfl, by decide +kernel, rfl⟩
theorem fX9_49 : XG RX9 49 6 18 (.array .int) true := ⟨RX9, TX9, 56, tyX9, rfl, inX9, tyX9_ok, nmX9, by decide, inT3 152 rfl rfl, by decide +kernel, rfl⟩
theorem fX9_52 : XG RX9 52 6 19 (.array .int) true := ⟨RX9, TX9, 56, tyX9, rfl, inX9, tyX9_ok, nmX9, by decide, inT3 153 rfl rfl, by decide +kernel, rfl⟩
theorem fX9_145 : XG RX9 145 6 20 (.int) false := ⟨RX9, TX9, 56, tyX9, rfl, inX9, tyX9_ok, nmX9, by decide, inT3 154 rfl rfl, by decide +kernel, rfl⟩
theorem fX9_148 : XG RX9 148 6 21 (.int) false := ⟨RX9, TX9, 56, tyX9, rfl, inX9, tyX9_ok, nmX9, by decide, inT3 155 rfl rfl, by decide +kernel, rfl⟩
theorem fX9_151 : XG RX9 151 6 22 (.int) false := ⟨RX9, TX9, 56, tyX9, rfl, inX9, tyX9_ok, nmX9, by decide, inT3 156 rfl rfl, by decide +kernel, rfl⟩
theorem fX9_154 : XG RX9 154 6 23 (.int) false := ⟨RX9, TX9, 56, tyX9, rfl, inX9, tyX9_ok, nmX9, by decide, inT3 157 rfl rfl, by decide +kernel, rfl⟩
theorem fX9_157 : XG RX9 157 6 24 (.int) false := ⟨RX9, TX9, 56, tyX9, rfl, inX9, tyX9_ok, nmX9, by decide, inT3 158 rfl rfl, by decide +kernel, rfl⟩
theorem fX9_160 : XG RX9 160 6 25 (.int) false := ⟨RX9, TX9, 56, tyX9, rfl, inX9, tyX9_ok, nmX9, by decide, inT3 159 rfl rfl, by decide +kernel, rfl⟩
theorem fX9_130 : XG RX9 130 6 26 (.int) false := ⟨RX9, TX9, 56, tyX9, rfl, inX9, tyX9_ok, nmX9, by decide, inT3 160 rfl rfl, by decide +kernel, rfl⟩
theorem fX9_55 : XG RX9 55 6 27 (.int) false := ⟨RX9, TX9, 56, tyX9, rfl, inX9, tyX9_ok, nmX9, by decide, inT3 161 rfl rfl, by decide +kernel, rfl⟩
theorem fX9_166 : XG RX9 166 6 28 (.int) false := ⟨RX9, TX9, 56, tyX9, rfl, inX9, tyX9_ok, nmX9, by decide, inT3 162 rfl rfl, by decide +kernel, rfl⟩
theorem fX9_169 : XG RX9 169 6 29 (.int) false := ⟨RX9, TX9, 56, tyX9, rfl, inX9, tyX9_ok, nmX9, by decide, inT3 163 rfl rfl, by decide +kernel, rfl⟩
theorem fX9_59 : XG RX9 59 6 30 (.array .int) true := ⟨RX9, TX9, 56, tyX9, rfl, inX9, tyX9_ok, nmX9, by decide, inT3 164 rfl rfl, by decide +kernel, rfl⟩
theorem fX9_62 : XG RX9 62 6 31 (.array .int) true := ⟨RX9, TX9, 56, tyX9, rfl, inX9, tyX9_ok, nmX9, by decide, inT3 165 rfl rfl, by decide +kernel, rfl⟩
theorem fX9_65 : XG RX9 65 6 32 (.array .int) true := ⟨RX9, TX9, 56, tyX9, rfl, inX9, tyX9_ok, nmX9, by decide, inT3 166 rfl rfl, by decide +kernel, rfl⟩
theorem fX9_68 : XG RX9 68 6 33 (.array .int) true := ⟨RX9, TX9, 56, tyX9, rfl, inX9, tyX9_ok, nmX9, by decide, inT3 167 rfl rfl, by decide +kernel, rfl⟩
theorem fX9_71 : XG RX9 71 6 34 (.array .int) true := ⟨RX9, TX9, 56, tyX9, rfl, inX9, tyX9_ok, nmX9, by decide, inT3 168 rfl rfl, by decide +kernel, rfl⟩
theorem fX9_163 : XG RX9 163 6 35 (.int) false := ⟨RX9, TX9, 56, tyX9, rfl, inX9, tyX9_ok, nmX9, by decide, inT3 169 rfl rfl, by decide +kernel, rfl⟩
theorem fX9_74 : XG RX9 74 6 36 (.array .int) true := ⟨RX9, TX9, 56, tyX9, rfl, inX9, tyX9_ok, nmX9, by decide, inT3 170 rfl rfl, by decide +kernel, rfl⟩
theorem fX9_77 : XG RX9 77 6 37 (.array .int) true := ⟨RX9, TX9, 56, tyX9, rfl, inX9, tyX9_ok, nmX9, by decide, inT3 171 rfl rfl, by decide +kernel, rfl⟩
theorem fX9_80 : XG RX9 80 6 38 (.array .int) true := ⟨RX9, TX9, 56, tyX9, rfl, inX9, tyX9_ok, nmX9, by decide, inT3 172 rfl rfl, by decide +kernel, rfl⟩
theorem fX9_83 : XG RX9 83 6 39 (.array .int) true := ⟨RX9, TX9, 56, tyX9, rfl, inX9, tyX9_ok, nmX9, by decide, inT3 173 rfl rfl, by decide +kernel, rfl⟩
theorem fX9_86 : XG RX9 86 6 40 (.array .int) true := ⟨RX9, TX9, 56, tyX9, rfl, inX9, tyX9_ok, nmX9, by decide, inT3 174 rfl rfl, by decide +kernel, rfl⟩
theorem fX9_89 : XG RX9 89 6 41 (.array .int) true := ⟨RX9, TX9, 56, tyX9, rfl, inX9, tyX9_ok, nmX9, by decide, inT3 175 rfl rfl, by decide +kernel, rfl⟩
theorem fX9_92 : XG RX9 92 6 42 (.array .int) true := ⟨RX9, TX9, 56, tyX9, rfl, inX9, tyX9_ok, nmX9, by decide, inT3 176 rfl rfl, by decide +kernel, rfl⟩
theorem fX9_116 : XG RX9 116 6 43 (.int) false := ⟨RX9, TX9, 56, tyX9, rfl, inX9, tyX9_ok, nmX9, by decide, inT3 177 rfl rfl, by decide +kernel, rfl⟩
theorem fX9_95 : XG RX9 95 6 44 (.array .int) true := ⟨RX9, TX9, 56, tyX9, rfl, inX9, tyX9_ok, nmX9, by decide, inT3 178 rfl rfl, by decide +kernel, rfl⟩
theorem fX9_98 : XG RX9 98 6 45 (.array .int) true := ⟨RX9, TX9, 56, tyX9, rfl, inX9, tyX9_ok, nmX9, by decide, inT3 179 rfl rfl, by decide +kernel, rfl⟩
theorem fX9_101 : XG RX9 101 6 46 (.array .int) true := ⟨RX9, TX9, 56, tyX9, rfl, inX9, tyX9_ok, nmX9, by decide, inT3 180 rfl rfl, by decide +kernel, rfl⟩
theorem fX9_104 : XG RX9 104 6 47 (.array .int) true := ⟨RX9, TX9, 56, tyX9, rfl, inX9, tyX9_ok, nmX9, by decide, inT3 181 rfl rfl, by decide +kernel, rfl⟩
theorem fX9_243 : XG RX9 243 6 48 (.int) false := ⟨RX9, TX9, 56, tyX9, rfl, inX9, tyX9_ok, nmX9, by decide, inT3 182 rfl rfl, by decide +kernel, rfl⟩
theorem fX9_246 : XG RX9 246 6 49 (.int) false := ⟨RX9, TX9, 56, tyX9, rfl, inX9, tyX9_ok, nmX9, by decide, inT3 183 rfl rfl, by decide +kernel, rfl⟩
theorem fX9_249 : XG RX9 249 6 50 (.boolean) false := ⟨RX9, TX9, 56, tyX9, rfl, inX9, tyX9_ok, nmX9, by decide, inT3 184 rfl rfl, by decide +kernel, rfl⟩
theorem fX9_240 : XG RX9 240 6 51 (.int) false := ⟨RX9, TX9, 56, tyX9, rfl, inX9, tyX9_ok, nmX9, by decide, inT3 185 rfl rfl, by decide +kernel, rfl⟩
theorem fX9_107 : XG RX9 107 6 52 (.array .int) true := ⟨RX9, TX9, 56, tyX9, rfl, inX9, tyX9_ok, nmX9, by decide, inT3 186 rfl rfl, by decide +kernel, rfl⟩
theorem fX9_110 : XG RX9 110 6 53 (.array .int) true := ⟨RX9, TX9, 56, tyX9, rfl, inX9, tyX9_ok, nmX9, by decide, inT3 187 rfl rfl, by decide +kernel, rfl⟩
theorem fX9_113 : XG RX9 113 6 54 (.array .int) true := ⟨RX9, TX9, 56, tyX9, rfl, inX9, tyX9_ok, nmX9, by decide, inT3 188 rfl rfl, by decide +kernel, rfl⟩
theorem fX9_266 : XG RX9 266 6 55 (.int) false := ⟨RX9, TX9, 56, tyX9, rfl, inX9, tyX9_ok, nmX9, by decide, inT3 189 rfl rfl, by decide +kernel, rfl⟩
theorem lL_9 : XI RL 9 mX8_init 0 := ⟨by decide +kernel, by decide +kernel, by decide +kernel, inT1 14 rfl rfl, inT1 1 rfl rfl, inT1 16 rfl rfl, inT1 15 rfl rfl, rfl⟩
theorem oX8_1 : Cond.methodLink RX8 1 objectInit ∈ goodTB := inT1 17 rfl rfl
theorem lX8_11 : XI RX8 11 mX5_init 2 := ⟨by decide +kernel, by decide +kernel, by decide +kernel, inT1 22 rfl rfl, inT1 2 rfl rfl, inT1 24 rfl rfl, inT1 23 rfl rfl, rfl⟩
theorem oX5_3 : Cond.methodLink RX5 3 objectInit ∈ goodTB := inT1 25 rfl rfl
theorem lX5_9 : XT RX5 9 mJ9_max_7cf53 2 := ⟨by decide +kernel, by decide +kernel, by decide +kernel, inT1 26 rfl rfl, inT1 3 rfl rfl, inT1 28 rfl rfl, inT1 27 rfl rfl⟩
theorem oX3_5 : Cond.methodLink RX3 5 objectInit ∈ goodTB := inT1 48 rfl rfl
theorem lX3_13 : XI RX3 13 mX5_init 2 := ⟨by decide +kernel, by decide +kernel, by decide +kernel, inT1 50 rfl rfl, inT1 2 rfl rfl, inT1 24 rfl rfl, inT1 23 rfl rfl, rfl⟩
theorem lX8_30 : XI RX8 30 mX2_init 1 := ⟨by decide +kernel, by decide +kernel, by decide +kernel, inT1 102 rfl rfl, inT1 5 rfl rfl, inT1 104 rfl rfl, inT1 103 rfl rfl, rfl⟩
theorem oX2_3 : Cond.methodLink RX2 3 objectInit ∈ goodTB := inT1 105 rfl rfl
theorem lX2_19 : XI RX2 19 mX5_init 2 := ⟨by decide +kernel, by decide +kernel, by decide +kernel, inT1 107 rfl rfl, inT1 2 rfl rfl, inT1 24 rfl rfl, inT1 23 rfl rfl, rfl⟩
theorem oX1_3 : Cond.methodLink RX1 3 objectInit ∈ goodTB := inT1 150 rfl rfl
theorem lX1_13 : XI RX1 13 mX5_init 2 := ⟨by decide +kernel, by decide +kernel, by decide +kernel, inT1 152 rfl rfl, inT1 2 rfl rfl, inT1 24 rfl rfl, inT1 23 rfl rfl, rfl⟩
theorem lX1_25 : XI RX1 25 mX0_init 1 := ⟨by decide +kernel, by decide +kernel, by decide +kernel, inT1 155 rfl rfl, inT1 7 rfl rfl, inT1 157 rfl rfl, inT1 156 rfl rfl, rfl⟩
theorem oX0_3 : Cond.methodLink RX0 3 objectInit ∈ goodTB := inT1 158 rfl rfl
theorem lX0_11 : XI RX0 11 mX5_init 2 := ⟨by decide +kernel, by decide +kernel, by decide +kernel, inT1 160 rfl rfl, inT1 2 rfl rfl, inT1 24 rfl rfl, inT1 23 rfl rfl, rfl⟩
theorem lL_13 : XV RL 13 mX8_feed 5 := ⟨by decide +kernel, by decide +kernel, by decide +kernel, inT1 222 rfl rfl, inT1 1 rfl rfl, inT1 225 rfl rfl, inT1 223 rfl rfl, inT1 224 rfl rfl⟩
theorem lX8_48 : XV RX8 48 mX5_size 0 := ⟨by decide +kernel, by decide +kernel, by decide +kernel, inT1 226 rfl rfl, inT1 2 rfl rfl, inT1 229 rfl rfl, inT1 227 rfl rfl, inT1 228 rfl rfl⟩
theorem lX8_52 : XV RX8 52 mX8_feedNumber 1 := ⟨by decide +kernel, by decide +kernel, by decide +kernel, inT1 230 rfl rfl, inT1 1 rfl rfl, inT1 233 rfl rfl, inT1 232 rfl rfl, inT0 0 rfl rfl⟩
theorem lX8_56 : XV RX8 56 mX5_add 1 := ⟨by decide +kernel, by decide +kernel, by decide +kernel, inT1 234 rfl rfl, inT1 2 rfl rfl, inT1 237 rfl rfl, inT1 235 rfl rfl, inT1 236 rfl rfl⟩
theorem lL_18 : XV RL 18 mX8_end 1 := ⟨by decide +kernel, by decide +kernel, by decide +kernel, inT1 238 rfl rfl, inT1 1 rfl rfl, inT2 1 rfl rfl, inT1 239 rfl rfl, inT2 0 rfl rfl⟩
theorem lX8_60 : XV RX8 60 mX5_keep 1 := ⟨by decide +kernel, by decide +kernel, by decide +kernel, inT2 2 rfl rfl, inT1 2 rfl rfl, inT2 5 rfl rfl, inT2 3 rfl rfl, inT2 4 rfl rfl⟩
theorem lL_23 : XV RL 23 mX8_read 0 := ⟨by decide +kernel, by decide +kernel, by decide +kernel, inT2 6 rfl rfl, inT1 1 rfl rfl, inT2 9 rfl rfl, inT2 7 rfl rfl, inT2 8 rfl rfl⟩
theorem lX8_63 : XV RX8 63 mX2_readFrom 1 := ⟨by decide +kernel, by decide +kernel, by decide +kernel, inT2 10 rfl rfl, inT1 5 rfl rfl, inT2 13 rfl rfl, inT2 11 rfl rfl, inT2 12 rfl rfl⟩
theorem lX2_30 : XV RX2 30 mX2_start 0 := ⟨by decide +kernel, by decide +kernel, by decide +kernel, inT2 14 rfl rfl, inT1 5 rfl rfl, inT2 17 rfl rfl, inT2 16 rfl rfl, inT0 1 rfl rfl⟩
theorem lX2_67 : XV RX2 67 mX3_clear 0 := ⟨by decide +kernel, by decide +kernel, by decide +kernel, inT2 18 rfl rfl, inT1 4 rfl rfl, inT2 21 rfl rfl, inT2 19 rfl rfl, inT2 20 rfl rfl⟩
theorem lX3_45 : XV RX3 45 mX5_keep 1 := ⟨by decide +kernel, by decide +kernel, by decide +kernel, inT2 22 rfl rfl, inT1 2 rfl rfl, inT2 5 rfl rfl, inT2 3 rfl rfl, inT2 4 rfl rfl⟩
theorem lX2_88 : XV RX2 88 mX5_keep 1 := ⟨by decide +kernel, by decide +kernel, by decide +kernel, inT2 23 rfl rfl, inT1 2 rfl rfl, inT2 5 rfl rfl, inT2 3 rfl rfl, inT2 4 rfl rfl⟩
theorem lX2_92 : XV RX2 92 mX5_add 1 := ⟨by decide +kernel, by decide +kernel, by decide +kernel, inT2 24 rfl rfl, inT1 2 rfl rfl, inT1 237 rfl rfl, inT1 235 rfl rfl, inT1 236 rfl rfl⟩
theorem lX2_33 : XV RX2 33 mX5_size 0 := ⟨by decide +kernel, by decide +kernel, by decide +kernel, inT2 25 rfl rfl, inT1 2 rfl rfl, inT1 229 rfl rfl, inT1 227 rfl rfl, inT1 228 rfl rfl⟩
theorem lX2_43 : XV RX2 43 mX5_get 2 := ⟨by decide +kernel, by decide +kernel, by decide +kernel, inT2 26 rfl rfl, inT1 2 rfl rfl, inT2 29 rfl rfl, inT2 27 rfl rfl, inT2 28 rfl rfl⟩
theorem lX2_51 : XV RX2 51 mX2_takeInside 3 := ⟨by decide +kernel, by decide +kernel, by decide +kernel, inT2 30 rfl rfl, inT1 5 rfl rfl, inT2 33 rfl rfl, inT2 32 rfl rfl, inT0 2 rfl rfl⟩
theorem lX2_125 : XT RX2 125 mX2_markOf 1 := ⟨by decide +kernel, by decide +kernel, by decide +kernel, inT2 34 rfl rfl, inT1 5 rfl rfl, inT2 36 rfl rfl, inT2 35 rfl rfl⟩
theorem lX2_128 : XV RX2 128 mX2_takeMark 2 := ⟨by decide +kernel, by decide +kernel, by decide +kernel, inT2 37 rfl rfl, inT1 5 rfl rfl, inT2 40 rfl rfl, inT2 39 rfl rfl, inT0 3 rfl rfl⟩
theorem lX2_58 : XV RX2 58 mX2_refuse 2 := ⟨by decide +kernel, by decide +kernel, by decide +kernel, inT2 41 rfl rfl, inT1 5 rfl rfl, inT2 44 rfl rfl, inT2 43 rfl rfl, inT0 4 rfl rfl⟩
theorem lX2_146 : XV RX2 146 mX3_hasMark 2 := ⟨by decide +kernel, by decide +kernel, by decide +kernel, inT2 45 rfl rfl, inT1 4 rfl rfl, inT2 48 rfl rfl, inT2 46 rfl rfl, inT2 47 rfl rfl⟩
theorem lX3_53 : XV RX3 53 mX5_get 2 := ⟨by decide +kernel, by decide +kernel, by decide +kernel, inT2 49 rfl rfl, inT1 2 rfl rfl, inT2 29 rfl rfl, inT2 27 rfl rfl, inT2 28 rfl rfl⟩
theorem lX2_109 : XV RX2 109 mX5_set 3 := ⟨by decide +kernel, by decide +kernel, by decide +kernel, inT2 50 rfl rfl, inT1 2 rfl rfl, inT2 53 rfl rfl, inT2 51 rfl rfl, inT2 52 rfl rfl⟩
theorem lX2_131 : XV RX2 131 mX2_takeHeight 3 := ⟨by decide +kernel, by decide +kernel, by decide +kernel, inT2 54 rfl rfl, inT1 5 rfl rfl, inT2 57 rfl rfl, inT2 56 rfl rfl, inT0 5 rfl rfl⟩
theorem lX2_150 : XV RX2 150 mX2_takeAccidental 3 := ⟨by decide +kernel, by decide +kernel, by decide +kernel, inT2 58 rfl rfl, inT1 5 rfl rfl, inT2 61 rfl rfl, inT2 60 rfl rfl, inT0 6 rfl rfl⟩
theorem lX2_159 : XV RX2 159 mX2_addSign 3 := ⟨by decide +kernel, by decide +kernel, by decide +kernel, inT2 62 rfl rfl, inT1 5 rfl rfl, inT2 65 rfl rfl, inT2 64 rfl rfl, inT0 7 rfl rfl⟩
theorem lX2_175 : XT RX2 175 mX2_roomOf 1 := ⟨by decide +kernel, by decide +kernel, by decide +kernel, inT2 66 rfl rfl, inT1 5 rfl rfl, inT2 68 rfl rfl, inT2 67 rfl rfl⟩
theorem lX2_153 : XV RX2 153 mX2_takeClef 3 := ⟨by decide +kernel, by decide +kernel, by decide +kernel, inT2 69 rfl rfl, inT1 5 rfl rfl, inT2 72 rfl rfl, inT2 71 rfl rfl, inT0 8 rfl rfl⟩
theorem lX2_156 : XV RX2 156 mX2_takeNote 2 := ⟨by decide +kernel, by decide +kernel, by decide +kernel, inT2 73 rfl rfl, inT1 5 rfl rfl, inT2 76 rfl rfl, inT2 75 rfl rfl, inT0 9 rfl rfl⟩
theorem lX2_166 : XT RX2 166 mX2_semitonesOf 1 := ⟨by decide +kernel, by decide +kernel, by decide +kernel, inT2 77 rfl rfl, inT1 5 rfl rfl, inT2 79 rfl rfl, inT2 78 rfl rfl⟩
theorem lX2_178 : XT RX2 178 mJ9_floorMod_7cf53 2 := ⟨by decide +kernel, by decide +kernel, by decide +kernel, inT2 80 rfl rfl, inT1 3 rfl rfl, inT2 82 rfl rfl, inT2 81 rfl rfl⟩
theorem lX2_183 : XT RX2 183 mJ9_floorDiv_7cf53 2 := ⟨by decide +kernel, by decide +kernel, by decide +kernel, inT2 83 rfl rfl, inT1 3 rfl rfl, inT2 85 rfl rfl, inT2 84 rfl rfl⟩
theorem lX2_134 : XV RX2 134 mX2_endSyllable 0 := ⟨by decide +kernel, by decide +kernel, by decide +kernel, inT2 88 rfl rfl, inT1 5 rfl rfl, inT2 91 rfl rfl, inT2 90 rfl rfl, inT0 10 rfl rfl⟩
theorem lX2_137 : XV RX2 137 mX2_takeBar 2 := ⟨by decide +kernel, by decide +kernel, by decide +kernel, inT2 92 rfl rfl, inT1 5 rfl rfl, inT2 95 rfl rfl, inT2 94 rfl rfl, inT0 11 rfl rfl⟩
theorem lX2_140 : XV RX2 140 mX2_takeLineEnd 1 := ⟨by decide +kernel, by decide +kernel, by decide +kernel, inT2 96 rfl rfl, inT1 5 rfl rfl, inT2 99 rfl rfl, inT2 98 rfl rfl, inT0 12 rfl rfl⟩
theorem lX2_55 : XV RX2 55 mX2_takeOutside 2 := ⟨by decide +kernel, by decide +kernel, by decide +kernel, inT2 100 rfl rfl, inT1 5 rfl rfl, inT2 103 rfl rfl, inT2 102 rfl rfl, inT0 13 rfl rfl⟩
theorem lX2_96 : XT RX2 96 mX2_isBlank 1 := ⟨by decide +kernel, by decide +kernel, by decide +kernel, inT2 104 rfl rfl, inT1 5 rfl rfl, inT2 106 rfl rfl, inT2 105 rfl rfl⟩
theorem lX2_100 : XT RX2 100 mX2_isLetter 1 := ⟨by decide +kernel, by decide +kernel, by decide +kernel, inT2 107 rfl rfl, inT1 5 rfl rfl, inT2 109 rfl rfl, inT2 108 rfl rfl⟩
theorem lX2_103 : XV RX2 103 mX2_beginSyllable 1 := ⟨by decide +kernel, by decide +kernel, by decide +kernel, inT2 110 rfl rfl, inT1 5 rfl rfl, inT2 113 rfl rfl, inT2 112 rfl rfl, inT0 14 rfl rfl⟩
theorem lX2_115 : XV RX2 115 mX5_isFull 0 := ⟨by decide +kernel, by decide +kernel, by decide +kernel, inT2 114 rfl rfl, inT1 2 rfl rfl, inT2 117 rfl rfl, inT2 115 rfl rfl, inT2 116 rfl rfl⟩
theorem lX2_61 : XT RX2 61 mX4_shape 1 := ⟨by decide +kernel, by decide +kernel, by decide +kernel, inT2 118 rfl rfl, inT1 9 rfl rfl, inT2 120 rfl rfl, inT2 119 rfl rfl⟩
theorem lX4_15 : XV RX4 15 mX5_size 0 := ⟨by decide +kernel, by decide +kernel, by decide +kernel, inT2 121 rfl rfl, inT1 2 rfl rfl, inT1 229 rfl rfl, inT1 227 rfl rfl, inT1 228 rfl rfl⟩
theorem lX4_21 : XT RX4 21 mX4_beginNeume 2 := ⟨by decide +kernel, by decide +kernel, by decide +kernel, inT2 122 rfl rfl, inT1 9 rfl rfl, inT2 124 rfl rfl, inT2 123 rfl rfl⟩
theorem lX4_37 : XV RX4 37 mX3_hasMark 2 := ⟨by decide +kernel, by decide +kernel, by decide +kernel, inT2 125 rfl rfl, inT1 4 rfl rfl, inT2 48 rfl rfl, inT2 46 rfl rfl, inT2 47 rfl rfl⟩
theorem lX4_41 : XV RX4 41 mX3_sameGroup 2 := ⟨by decide +kernel, by decide +kernel, by decide +kernel, inT2 126 rfl rfl, inT1 4 rfl rfl, inT2 129 rfl rfl, inT2 127 rfl rfl, inT2 128 rfl rfl⟩
theorem lX3_57 : XV RX3 57 mX5_has 1 := ⟨by decide +kernel, by decide +kernel, by decide +kernel, inT2 130 rfl rfl, inT1 2 rfl rfl, inT2 133 rfl rfl, inT2 131 rfl rfl, inT2 132 rfl rfl⟩
theorem lX4_44 : XT RX4 44 mX4_wayTo 2 := ⟨by decide +kernel, by decide +kernel, by decide +kernel, inT2 134 rfl rfl, inT1 9 rfl rfl, inT2 136 rfl rfl, inT2 135 rfl rfl⟩
theorem lX4_54 : XV RX4 54 mX5_get 2 := ⟨by decide +kernel, by decide +kernel, by decide +kernel, inT2 137 rfl rfl, inT1 2 rfl rfl, inT2 29 rfl rfl, inT2 27 rfl rfl, inT2 28 rfl rfl⟩
theorem lX4_47 : XT RX4 47 mX4_kindOf 1 := ⟨by decide +kernel, by decide +kernel, by decide +kernel, inT2 138 rfl rfl, inT1 9 rfl rfl, inT2 140 rfl rfl, inT2 139 rfl rfl⟩
theorem lX4_51 : XV RX4 51 mX5_add 1 := ⟨by decide +kernel, by decide +kernel, by decide +kernel, inT2 143 rfl rfl, inT1 2 rfl rfl, inT1 237 rfl rfl, inT1 235 rfl rfl, inT1 236 rfl rfl⟩
theorem lX4_30 : XV RX4 30 mX5_set 3 := ⟨by decide +kernel, by decide +kernel, by decide +kernel, inT2 144 rfl rfl, inT1 2 rfl rfl, inT2 53 rfl rfl, inT2 51 rfl rfl, inT2 52 rfl rfl⟩
theorem lX4_34 : XT RX4 34 mX4_lengthOf 2 := ⟨by decide +kernel, by decide +kernel, by decide +kernel, inT2 145 rfl rfl, inT1 9 rfl rfl, inT2 147 rfl rfl, inT2 146 rfl rfl⟩
theorem lX8_67 : XV RX8 67 mX2_placeOfFault 0 := ⟨by decide +kernel, by decide +kernel, by decide +kernel, inT2 148 rfl rfl, inT1 5 rfl rfl, inT2 151 rfl rfl, inT2 149 rfl rfl, inT2 150 rfl rfl⟩
theorem lL_28 : XV RL 28 mX8_place 0 := ⟨by decide +kernel, by decide +kernel, by decide +kernel, inT2 152 rfl rfl, inT1 1 rfl rfl, inT2 155 rfl rfl, inT2 153 rfl rfl, inT2 154 rfl rfl⟩
theorem lL_32 : XV RL 32 mX8_syllable 2 := ⟨by decide +kernel, by decide +kernel, by decide +kernel, inT2 156 rfl rfl, inT1 1 rfl rfl, inT2 159 rfl rfl, inT2 157 rfl rfl, inT2 158 rfl rfl⟩
theorem lX8_76 : XV RX8 76 mX5_ask 3 := ⟨by decide +kernel, by decide +kernel, by decide +kernel, inT2 160 rfl rfl, inT1 2 rfl rfl, inT2 163 rfl rfl, inT2 161 rfl rfl, inT2 162 rfl rfl⟩
theorem lX5_31 : XV RX5 31 mX5_get 2 := ⟨by decide +kernel, by decide +kernel, by decide +kernel, inT2 164 rfl rfl, inT1 2 rfl rfl, inT2 29 rfl rfl, inT2 27 rfl rfl, inT2 28 rfl rfl⟩
theorem lL_37 : XV RL 37 mX8_note 2 := ⟨by decide +kernel, by decide +kernel, by decide +kernel, inT2 165 rfl rfl, inT1 1 rfl rfl, inT2 168 rfl rfl, inT2 166 rfl rfl, inT2 167 rfl rfl⟩
theorem lL_41 : XV RL 41 mX8_neume 2 := ⟨by decide +kernel, by decide +kernel, by decide +kernel, inT2 169 rfl rfl, inT1 1 rfl rfl, inT2 172 rfl rfl, inT2 170 rfl rfl, inT2 171 rfl rfl⟩
theorem lL_45 : XV RL 45 mX8_bar 2 := ⟨by decide +kernel, by decide +kernel, by decide +kernel, inT2 173 rfl rfl, inT1 1 rfl rfl, inT2 176 rfl rfl, inT2 174 rfl rfl, inT2 175 rfl rfl⟩
theorem lL_49 : XV RL 49 mX8_guide 1 := ⟨by decide +kernel, by decide +kernel, by decide +kernel, inT2 177 rfl rfl, inT1 1 rfl rfl, inT2 180 rfl rfl, inT2 178 rfl rfl, inT2 179 rfl rfl⟩
theorem lX8_89 : XV RX8 89 mX5_has 1 := ⟨by decide +kernel, by decide +kernel, by decide +kernel, inT2 181 rfl rfl, inT1 2 rfl rfl, inT2 133 rfl rfl, inT2 131 rfl rfl, inT2 132 rfl rfl⟩
theorem lX8_93 : XV RX8 93 mX3_guideOf 1 := ⟨by decide +kernel, by decide +kernel, by decide +kernel, inT2 182 rfl rfl, inT1 4 rfl rfl, inT2 185 rfl rfl, inT2 183 rfl rfl, inT2 184 rfl rfl⟩
theorem lL_53 : XV RL 53 mX8_mode 1 := ⟨by decide +kernel, by decide +kernel, by decide +kernel, inT2 186 rfl rfl, inT1 1 rfl rfl, inT2 189 rfl rfl, inT2 187 rfl rfl, inT2 188 rfl rfl⟩
theorem lX8_96 : XV RX8 96 mX3_modeNumber 0 := ⟨by decide +kernel, by decide +kernel, by decide +kernel, inT2 190 rfl rfl, inT1 4 rfl rfl, inT2 193 rfl rfl, inT2 191 rfl rfl, inT2 192 rfl rfl⟩
theorem lX3_61 : XV RX3 61 mX3_finalStep 0 := ⟨by decide +kernel, by decide +kernel, by decide +kernel, inT2 194 rfl rfl, inT1 4 rfl rfl, inT2 197 rfl rfl, inT2 195 rfl rfl, inT2 196 rfl rfl⟩
theorem lX3_49 : XV RX3 49 mX5_size 0 := ⟨by decide +kernel, by decide +kernel, by decide +kernel, inT2 198 rfl rfl, inT1 2 rfl rfl, inT1 229 rfl rfl, inT1 227 rfl rfl, inT1 228 rfl rfl⟩
theorem lX3_72 : XT RX3 72 mJ9_floorMod_7cf53 2 := ⟨by decide +kernel, by decide +kernel, by decide +kernel, inT2 199 rfl rfl, inT1 3 rfl rfl, inT2 82 rfl rfl, inT2 81 rfl rfl⟩
theorem lX3_75 : XV RX3 75 mX3_lowestStep 0 := ⟨by decide +kernel, by decide +kernel, by decide +kernel, inT2 200 rfl rfl, inT1 4 rfl rfl, inT2 203 rfl rfl, inT2 201 rfl rfl, inT2 202 rfl rfl⟩
theorem lX3_64 : XT RX3 64 mJ9_min_7cf53 2 := ⟨by decide +kernel, by decide +kernel, by decide +kernel, inT2 204 rfl rfl, inT1 3 rfl rfl, inT2 206 rfl rfl, inT2 205 rfl rfl⟩
theorem lX3_78 : XV RX3 78 mX3_highestStep 0 := ⟨by decide +kernel, by decide +kernel, by decide +kernel, inT2 207 rfl rfl, inT1 4 rfl rfl, inT2 210 rfl rfl, inT2 208 rfl rfl, inT2 209 rfl rfl⟩
theorem lX3_69 : XT RX3 69 mJ9_max_7cf53 2 := ⟨by decide +kernel, by decide +kernel, by decide +kernel, inT2 211 rfl rfl, inT1 3 rfl rfl, inT1 28 rfl rfl, inT1 27 rfl rfl⟩
theorem lX8_99 : XV RX8 99 mX3_finalStep 0 := ⟨by decide +kernel, by decide +kernel, by decide +kernel, inT2 212 rfl rfl, inT1 4 rfl rfl, inT2 197 rfl rfl, inT2 195 rfl rfl, inT2 196 rfl rfl⟩
theorem lX8_102 : XV RX8 102 mX3_tenorStep 0 := ⟨by decide +kernel, by decide +kernel, by decide +kernel, inT2 213 rfl rfl, inT1 4 rfl rfl, inT2 216 rfl rfl, inT2 214 rfl rfl, inT2 215 rfl rfl⟩
theorem lX3_81 : XV RX3 81 mX3_modeNumber 0 := ⟨by decide +kernel, by decide +kernel, by decide +kernel, inT2 217 rfl rfl, inT1 4 rfl rfl, inT2 193 rfl rfl, inT2 191 rfl rfl, inT2 192 rfl rfl⟩
theorem lX8_105 : XV RX8 105 mX3_lowestStep 0 := ⟨by decide +kernel, by decide +kernel, by decide +kernel, inT2 220 rfl rfl, inT1 4 rfl rfl, inT2 203 rfl rfl, inT2 201 rfl rfl, inT2 202 rfl rfl⟩
theorem lX8_108 : XV RX8 108 mX3_highestStep 0 := ⟨by decide +kernel, by decide +kernel, by decide +kernel, inT2 221 rfl rfl, inT1 4 rfl rfl, inT2 210 rfl rfl, inT2 208 rfl rfl, inT2 209 rfl rfl⟩
theorem lL_57 : XV RL 57 mX8_tone 1 := ⟨by decide +kernel, by decide +kernel, by decide +kernel, inT2 222 rfl rfl, inT1 1 rfl rfl, inT2 225 rfl rfl, inT2 223 rfl rfl, inT2 224 rfl rfl⟩
theorem lX8_111 : XV RX8 111 mX1_changeTone 1 := ⟨by decide +kernel, by decide +kernel, by decide +kernel, inT2 226 rfl rfl, inT1 6 rfl rfl, inT2 229 rfl rfl, inT2 227 rfl rfl, inT2 228 rfl rfl⟩
theorem lL_61 : XV RL 61 mX8_point 2 := ⟨by decide +kernel, by decide +kernel, by decide +kernel, inT2 230 rfl rfl, inT1 1 rfl rfl, inT2 233 rfl rfl, inT2 231 rfl rfl, inT2 232 rfl rfl⟩
theorem lX8_114 : XV RX8 114 mX1_addSyllable 2 := ⟨by decide +kernel, by decide +kernel, by decide +kernel, inT2 234 rfl rfl, inT1 6 rfl rfl, inT2 237 rfl rfl, inT2 235 rfl rfl, inT2 236 rfl rfl⟩
theorem lX1_38 : XT RX1 38 mX1_isHalf 1 := ⟨by decide +kernel, by decide +kernel, by decide +kernel, inT2 238 rfl rfl, inT1 6 rfl rfl, inT3 0 rfl rfl, inT2 239 rfl rfl⟩
theorem lX1_42 : XV RX1 42 mX1_accentsOf 1 := ⟨by decide +kernel, by decide +kernel, by decide +kernel, inT3 1 rfl rfl, inT1 6 rfl rfl, inT3 4 rfl rfl, inT3 3 rfl rfl, inT0 15 rfl rfl⟩
theorem lX1_46 : XV RX1 46 mX5_isFull 0 := ⟨by decide +kernel, by decide +kernel, by decide +kernel, inT3 5 rfl rfl, inT1 2 rfl rfl, inT2 117 rfl rfl, inT2 115 rfl rfl, inT2 116 rfl rfl⟩
theorem lX1_50 : XV RX1 50 mX5_add 1 := ⟨by decide +kernel, by decide +kernel, by decide +kernel, inT3 6 rfl rfl, inT1 2 rfl rfl, inT1 237 rfl rfl, inT1 235 rfl rfl, inT1 236 rfl rfl⟩
theorem lX1_54 : XV RX1 54 mX5_size 0 := ⟨by decide +kernel, by decide +kernel, by decide +kernel, inT3 7 rfl rfl, inT1 2 rfl rfl, inT1 229 rfl rfl, inT1 227 rfl rfl, inT1 228 rfl rfl⟩
theorem lL_66 : XV RL 66 mX8_fresh 0 := ⟨by decide +kernel, by decide +kernel, by decide +kernel, inT3 8 rfl rfl, inT1 1 rfl rfl, inT3 11 rfl rfl, inT3 9 rfl rfl, inT3 10 rfl rfl⟩
theorem lX8_118 : XV RX8 118 mX1_forgetVerse 0 := ⟨by decide +kernel, by decide +kernel, by decide +kernel, inT3 12 rfl rfl, inT1 6 rfl rfl, inT3 15 rfl rfl, inT3 13 rfl rfl, inT3 14 rfl rfl⟩
theorem lX1_58 : XV RX1 58 mX5_keep 1 := ⟨by decide +kernel, by decide +kernel, by decide +kernel, inT3 16 rfl rfl, inT1 2 rfl rfl, inT2 5 rfl rfl, inT2 3 rfl rfl, inT2 4 rfl rfl⟩
theorem lL_70 : XV RL 70 mX8_half 2 := ⟨by decide +kernel, by decide +kernel, by decide +kernel, inT3 17 rfl rfl, inT1 1 rfl rfl, inT3 20 rfl rfl, inT3 18 rfl rfl, inT3 19 rfl rfl⟩
theorem lX8_121 : XT RX8 121 mX1_isHalf 1 := ⟨by decide +kernel, by decide +kernel, by decide +kernel, inT3 21 rfl rfl, inT1 6 rfl rfl, inT3 0 rfl rfl, inT2 239 rfl rfl⟩
theorem lX8_124 : XV RX8 124 mX1_fitted 1 := ⟨by decide +kernel, by decide +kernel, by decide +kernel, inT3 22 rfl rfl, inT1 6 rfl rfl, inT3 25 rfl rfl, inT3 23 rfl rfl, inT3 24 rfl rfl⟩
theorem lX1_61 : XV RX1 61 mX0_fit 3 := ⟨by decide +kernel, by decide +kernel, by decide +kernel, inT3 26 rfl rfl, inT1 7 rfl rfl, inT3 29 rfl rfl, inT3 27 rfl rfl, inT3 28 rfl rfl⟩
theorem lX0_27 : XV RX0 27 mX5_keep 1 := ⟨by decide +kernel, by decide +kernel, by decide +kernel, inT3 30 rfl rfl, inT1 2 rfl rfl, inT2 5 rfl rfl, inT2 3 rfl rfl, inT2 4 rfl rfl⟩
theorem lX0_41 : XV RX0 41 mX5_size 0 := ⟨by decide +kernel, by decide +kernel, by decide +kernel, inT3 31 rfl rfl, inT1 2 rfl rfl, inT1 229 rfl rfl, inT1 227 rfl rfl, inT1 228 rfl rfl⟩
theorem lX0_45 : XV RX0 45 mX0_placeAccents 1 := ⟨by decide +kernel, by decide +kernel, by decide +kernel, inT3 32 rfl rfl, inT1 7 rfl rfl, inT3 35 rfl rfl, inT3 34 rfl rfl, inT0 16 rfl rfl⟩
theorem lX0_56 : XT RX0 56 mX0_accentBefore 2 := ⟨by decide +kernel, by decide +kernel, by decide +kernel, inT3 36 rfl rfl, inT1 7 rfl rfl, inT3 38 rfl rfl, inT3 37 rfl rfl⟩
theorem lX0_72 : XV RX0 72 mX5_get 2 := ⟨by decide +kernel, by decide +kernel, by decide +kernel, inT3 39 rfl rfl, inT1 2 rfl rfl, inT2 29 rfl rfl, inT2 27 rfl rfl, inT2 28 rfl rfl⟩
theorem lX0_60 : XT RX0 60 mJ9_max_7cf53 2 := ⟨by decide +kernel, by decide +kernel, by decide +kernel, inT3 40 rfl rfl, inT1 3 rfl rfl, inT1 28 rfl rfl, inT1 27 rfl rfl⟩
theorem lX0_68 : XV RX0 68 mX0_closeCell 1 := ⟨by decide +kernel, by decide +kernel, by decide +kernel, inT3 41 rfl rfl, inT1 7 rfl rfl, inT3 44 rfl rfl, inT3 43 rfl rfl, inT0 17 rfl rfl⟩
theorem lX0_93 : XT RX0 93 mX6_closeStart 1 := ⟨by decide +kernel, by decide +kernel, by decide +kernel, inT3 45 rfl rfl, inT1 10 rfl rfl, inT3 47 rfl rfl, inT3 46 rfl rfl⟩
theorem lX0_90 : XT RX0 90 mX6_cell 2 := ⟨by decide +kernel, by decide +kernel, by decide +kernel, inT3 48 rfl rfl, inT1 10 rfl rfl, inT3 50 rfl rfl, inT3 49 rfl rfl⟩
theorem lX0_49 : XV RX0 49 mX0_chooseForm 0 := ⟨by decide +kernel, by decide +kernel, by decide +kernel, inT3 53 rfl rfl, inT1 7 rfl rfl, inT3 56 rfl rfl, inT3 55 rfl rfl, inT0 18 rfl rfl⟩
theorem lX0_81 : XV RX0 81 mX0_firstPlaced 0 := ⟨by decide +kernel, by decide +kernel, by decide +kernel, inT3 57 rfl rfl, inT1 7 rfl rfl, inT3 60 rfl rfl, inT3 59 rfl rfl, inT0 19 rfl rfl⟩
theorem lX0_52 : XV RX0 52 mX0_singSyllable 2 := ⟨by decide +kernel, by decide +kernel, by decide +kernel, inT3 61 rfl rfl, inT1 7 rfl rfl, inT3 64 rfl rfl, inT3 63 rfl rfl, inT0 20 rfl rfl⟩
theorem lX0_84 : XV RX0 84 mX0_stepOf 1 := ⟨by decide +kernel, by decide +kernel, by decide +kernel, inT3 65 rfl rfl, inT1 7 rfl rfl, inT3 68 rfl rfl, inT3 67 rfl rfl, inT0 21 rfl rfl⟩
theorem lX0_87 : XV RX0 87 mX0_addStep 2 := ⟨by decide +kernel, by decide +kernel, by decide +kernel, inT3 69 rfl rfl, inT1 7 rfl rfl, inT3 72 rfl rfl, inT3 71 rfl rfl, inT0 22 rfl rfl⟩
theorem lX0_96 : XV RX0 96 mX5_add 1 := ⟨by decide +kernel, by decide +kernel, by decide +kernel, inT3 73 rfl rfl, inT1 2 rfl rfl, inT1 237 rfl rfl, inT1 235 rfl rfl, inT1 236 rfl rfl⟩
theorem lX0_99 : XV RX0 99 mX5_set 3 := ⟨by decide +kernel, by decide +kernel, by decide +kernel, inT3 74 rfl rfl, inT1 2 rfl rfl, inT2 53 rfl rfl, inT2 51 rfl rfl, inT2 52 rfl rfl⟩
theorem lL_74 : XV RL 74 mX8_sung 3 := ⟨by decide +kernel, by decide +kernel, by decide +kernel, inT3 75 rfl rfl, inT1 1 rfl rfl, inT3 78 rfl rfl, inT3 76 rfl rfl, inT3 77 rfl rfl⟩
theorem lX8_143 : XV RX8 143 mX5_get 2 := ⟨by decide +kernel, by decide +kernel, by decide +kernel, inT3 79 rfl rfl, inT1 2 rfl rfl, inT2 29 rfl rfl, inT2 27 rfl rfl, inT2 28 rfl rfl⟩
theorem lL_79 : XV RL 79 mX8_write 0 := ⟨by decide +kernel, by decide +kernel, by decide +kernel, inT3 80 rfl rfl, inT1 1 rfl rfl, inT3 83 rfl rfl, inT3 81 rfl rfl, inT3 82 rfl rfl⟩
theorem lX8_147 : XT RX8 147 mX7_writeScore 2 := ⟨by decide +kernel, by decide +kernel, by decide +kernel, inT3 84 rfl rfl, inT1 11 rfl rfl, inT3 86 rfl rfl, inT3 85 rfl rfl⟩
theorem lX7_7 : XV RX7 7 mX5_keep 1 := ⟨by decide +kernel, by decide +kernel, by decide +kernel, inT3 87 rfl rfl, inT1 2 rfl rfl, inT2 5 rfl rfl, inT2 3 rfl rfl, inT2 4 rfl rfl⟩
theorem lX7_19 : XV RX7 19 mX5_size 0 := ⟨by decide +kernel, by decide +kernel, by decide +kernel, inT3 88 rfl rfl, inT1 2 rfl rfl, inT1 229 rfl rfl, inT1 227 rfl rfl, inT1 228 rfl rfl⟩
theorem lX7_23 : XV RX7 23 mX5_get 2 := ⟨by decide +kernel, by decide +kernel, by decide +kernel, inT3 89 rfl rfl, inT1 2 rfl rfl, inT2 29 rfl rfl, inT2 27 rfl rfl, inT2 28 rfl rfl⟩
theorem lX7_27 : XV RX7 27 mX5_add 1 := ⟨by decide +kernel, by decide +kernel, by decide +kernel, inT3 90 rfl rfl, inT1 2 rfl rfl, inT1 237 rfl rfl, inT1 235 rfl rfl, inT1 236 rfl rfl⟩
theorem lX7_31 : XT RX7 31 mX7_writeLetters 3 := ⟨by decide +kernel, by decide +kernel, by decide +kernel, inT3 91 rfl rfl, inT1 11 rfl rfl, inT3 93 rfl rfl, inT3 92 rfl rfl⟩
theorem lX7_37 : XT RX7 37 mX7_writeSigns 3 := ⟨by decide +kernel, by decide +kernel, by decide +kernel, inT3 94 rfl rfl, inT1 11 rfl rfl, inT3 96 rfl rfl, inT3 95 rfl rfl⟩
theorem lX7_43 : XT RX7 43 mX7_writeSign 3 := ⟨by decide +kernel, by decide +kernel, by decide +kernel, inT3 97 rfl rfl, inT1 11 rfl rfl, inT3 99 rfl rfl, inT3 98 rfl rfl⟩
theorem lX7_56 : XT RX7 56 mX7_writeMarks 2 := ⟨by decide +kernel, by decide +kernel, by decide +kernel, inT3 100 rfl rfl, inT1 11 rfl rfl, inT3 102 rfl rfl, inT3 101 rfl rfl⟩
theorem lX7_63 : XT RX7 63 mX7_writeMark 3 := ⟨by decide +kernel, by decide +kernel, by decide +kernel, inT3 103 rfl rfl, inT1 11 rfl rfl, inT3 105 rfl rfl, inT3 104 rfl rfl⟩
theorem lX7_60 : XT RX7 60 mX7_writeBar 2 := ⟨by decide +kernel, by decide +kernel, by decide +kernel, inT3 106 rfl rfl, inT1 11 rfl rfl, inT3 108 rfl rfl, inT3 107 rfl rfl⟩
theorem lX7_46 : XT RX7 46 mX7_needsSlash 3 := ⟨by decide +kernel, by decide +kernel, by decide +kernel, inT3 109 rfl rfl, inT1 11 rfl rfl, inT3 111 rfl rfl, inT3 110 rfl rfl⟩
theorem lX7_67 : XT RX7 67 mX7_groupFollows 3 := ⟨by decide +kernel, by decide +kernel, by decide +kernel, inT3 112 rfl rfl, inT1 11 rfl rfl, inT3 114 rfl rfl, inT3 113 rfl rfl⟩
theorem lX7_70 : XV RX7 70 mX3_sameGroup 2 := ⟨by decide +kernel, by decide +kernel, by decide +kernel, inT3 115 rfl rfl, inT1 4 rfl rfl, inT2 129 rfl rfl, inT2 127 rfl rfl, inT2 128 rfl rfl⟩
theorem lL_83 : XV RL 83 mX8_at 1 := ⟨by decide +kernel, by decide +kernel, by decide +kernel, inT3 116 rfl rfl, inT1 1 rfl rfl, inT3 119 rfl rfl, inT3 117 rfl rfl, inT3 118 rfl rfl⟩
theorem lL_87 : XV RL 87 mX8_count 1 := ⟨by decide +kernel, by decide +kernel, by decide +kernel, inT3 120 rfl rfl, inT1 1 rfl rfl, inT3 123 rfl rfl, inT3 121 rfl rfl, inT3 122 rfl rfl⟩
theorem lX8_159 : XV RX8 159 mX3_syllablesWithoutNotes 0 := ⟨by decide +kernel, by decide +kernel, by decide +kernel, inT3 124 rfl rfl, inT1 4 rfl rfl, inT3 127 rfl rfl, inT3 125 rfl rfl, inT3 126 rfl rfl⟩
theorem lL_12 : XI RL 12 mX9_init 0 := ⟨by decide +kernel, by decide +kernel, by decide +kernel, inT3 130 rfl rfl, inT1 8 rfl rfl, inT3 132 rfl rfl, inT3 131 rfl rfl, rfl⟩
theorem oX9_1 : Cond.methodLink RX9 1 objectInit ∈ goodTB := inT3 133 rfl rfl
theorem lL_17 : XV RL 17 mX9_feed 5 := ⟨by decide +kernel, by decide +kernel, by decide +kernel, inT4 63 rfl rfl, inT1 8 rfl rfl, inT4 66 rfl rfl, inT4 64 rfl rfl, inT4 65 rfl rfl⟩
theorem lL_22 : XV RL 22 mX9_end 1 := ⟨by decide +kernel, by decide +kernel, by decide +kernel, inT4 67 rfl rfl, inT1 8 rfl rfl, inT4 70 rfl rfl, inT4 68 rfl rfl, inT4 69 rfl rfl⟩
theorem lX9_126 : XT RX9 126 mX9_in 3 := ⟨by decide +kernel, by decide +kernel, by decide +kernel, inT4 71 rfl rfl, inT1 8 rfl rfl, inT4 73 rfl rfl, inT4 72 rfl rfl⟩
theorem lL_27 : XV RL 27 mX9_read 0 := ⟨by decide +kernel, by decide +kernel, by decide +kernel, inT4 74 rfl rfl, inT1 8 rfl rfl, inT4 77 rfl rfl, inT4 75 rfl rfl, inT4 76 rfl rfl⟩
theorem lX9_207 : XV RX9 207 mX9_readText 0 := ⟨by decide +kernel, by decide +kernel, by decide +kernel, inT4 78 rfl rfl, inT1 8 rfl rfl, inT4 81 rfl rfl, inT4 80 rfl rfl, inT0 23 rfl rfl⟩
theorem lX9_176 : XV RX9 176 mX9_nothing 0 := ⟨by decide +kernel, by decide +kernel, by decide +kernel, inT4 82 rfl rfl, inT1 8 rfl rfl, inT4 85 rfl rfl, inT4 84 rfl rfl, inT0 24 rfl rfl⟩
theorem lX9_179 : XT RX9 179 mX9_isBlank 1 := ⟨by decide +kernel, by decide +kernel, by decide +kernel, inT4 86 rfl rfl, inT1 8 rfl rfl, inT4 88 rfl rfl, inT4 87 rfl rfl⟩
theorem lX9_183 : XT RX9 183 mX9_isLetter 1 := ⟨by decide +kernel, by decide +kernel, by decide +kernel, inT4 89 rfl rfl, inT1 8 rfl rfl, inT4 91 rfl rfl, inT4 90 rfl rfl⟩
theorem lX9_186 : XV RX9 186 mX9_beginSyllable 1 := ⟨by decide +kernel, by decide +kernel, by decide +kernel, inT4 92 rfl rfl, inT1 8 rfl rfl, inT4 95 rfl rfl, inT4 94 rfl rfl, inT0 25 rfl rfl⟩
theorem lX9_172 : XV RX9 172 mX9_wrong 2 := ⟨by decide +kernel, by decide +kernel, by decide +kernel, inT4 96 rfl rfl, inT1 8 rfl rfl, inT4 99 rfl rfl, inT4 98 rfl rfl, inT0 26 rfl rfl⟩
theorem lX9_190 : XV RX9 190 mX9_readSigns 0 := ⟨by decide +kernel, by decide +kernel, by decide +kernel, inT4 100 rfl rfl, inT1 8 rfl rfl, inT4 103 rfl rfl, inT4 102 rfl rfl, inT0 27 rfl rfl⟩
theorem lX9_193 : XV RX9 193 mX9_byteAt 1 := ⟨by decide +kernel, by decide +kernel, by decide +kernel, inT4 104 rfl rfl, inT1 8 rfl rfl, inT4 107 rfl rfl, inT4 106 rfl rfl, inT0 28 rfl rfl⟩
theorem lX9_197 : XV RX9 197 mX9_readHeight 3 := ⟨by decide +kernel, by decide +kernel, by decide +kernel, inT4 108 rfl rfl, inT1 8 rfl rfl, inT4 111 rfl rfl, inT4 110 rfl rfl, inT0 29 rfl rfl⟩
theorem lX9_201 : XV RX9 201 mX9_put 2 := ⟨by decide +kernel, by decide +kernel, by decide +kernel, inT4 112 rfl rfl, inT1 8 rfl rfl, inT4 115 rfl rfl, inT4 114 rfl rfl, inT0 30 rfl rfl⟩
theorem lX9_204 : XV RX9 204 mX9_markAt 1 := ⟨by decide +kernel, by decide +kernel, by decide +kernel, inT4 116 rfl rfl, inT1 8 rfl rfl, inT4 119 rfl rfl, inT4 118 rfl rfl, inT0 31 rfl rfl⟩
theorem lX9_210 : XV RX9 210 mX9_workOut 0 := ⟨by decide +kernel, by decide +kernel, by decide +kernel, inT4 120 rfl rfl, inT1 8 rfl rfl, inT4 123 rfl rfl, inT4 122 rfl rfl, inT0 32 rfl rfl⟩
theorem lX9_213 : XV RX9 213 mX9_unflat 0 := ⟨by decide +kernel, by decide +kernel, by decide +kernel, inT4 124 rfl rfl, inT1 8 rfl rfl, inT4 127 rfl rfl, inT4 126 rfl rfl, inT0 33 rfl rfl⟩
theorem lX9_216 : XT RX9 216 mX9_stepOf 2 := ⟨by decide +kernel, by decide +kernel, by decide +kernel, inT4 128 rfl rfl, inT1 8 rfl rfl, inT4 130 rfl rfl, inT4 129 rfl rfl⟩
theorem lX9_219 : XT RX9 219 mX9_mod 2 := ⟨by decide +kernel, by decide +kernel, by decide +kernel, inT4 131 rfl rfl, inT1 8 rfl rfl, inT4 133 rfl rfl, inT4 132 rfl rfl⟩
theorem lX9_119 : XT RX9 119 mX9_floor 2 := ⟨by decide +kernel, by decide +kernel, by decide +kernel, inT4 134 rfl rfl, inT1 8 rfl rfl, inT4 136 rfl rfl, inT4 135 rfl rfl⟩
theorem lX9_222 : XT RX9 222 mX9_guideBy 2 := ⟨by decide +kernel, by decide +kernel, by decide +kernel, inT4 137 rfl rfl, inT1 8 rfl rfl, inT4 139 rfl rfl, inT4 138 rfl rfl⟩
theorem lX9_225 : XV RX9 225 mX9_findNeumes 0 := ⟨by decide +kernel, by decide +kernel, by decide +kernel, inT4 140 rfl rfl, inT1 8 rfl rfl, inT4 143 rfl rfl, inT4 142 rfl rfl, inT0 34 rfl rfl⟩
theorem lX9_228 : XV RX9 228 mX9_wayOf 1 := ⟨by decide +kernel, by decide +kernel, by decide +kernel, inT4 144 rfl rfl, inT1 8 rfl rfl, inT4 147 rfl rfl, inT4 146 rfl rfl, inT0 35 rfl rfl⟩
theorem lL_31 : XV RL 31 mX9_place 0 := ⟨by decide +kernel, by decide +kernel, by decide +kernel, inT4 148 rfl rfl, inT1 8 rfl rfl, inT4 151 rfl rfl, inT4 149 rfl rfl, inT4 150 rfl rfl⟩
theorem lL_36 : XV RL 36 mX9_syllable 2 := ⟨by decide +kernel, by decide +kernel, by decide +kernel, inT4 152 rfl rfl, inT1 8 rfl rfl, inT4 155 rfl rfl, inT4 153 rfl rfl, inT4 154 rfl rfl⟩
theorem lX9_231 : XV RX9 231 mX9_notesOf 1 := ⟨by decide +kernel, by decide +kernel, by decide +kernel, inT4 156 rfl rfl, inT1 8 rfl rfl, inT4 159 rfl rfl, inT4 158 rfl rfl, inT0 36 rfl rfl⟩
theorem lX9_234 : XV RX9 234 mX9_firstOf 1 := ⟨by decide +kernel, by decide +kernel, by decide +kernel, inT4 160 rfl rfl, inT1 8 rfl rfl, inT4 163 rfl rfl, inT4 162 rfl rfl, inT0 37 rfl rfl⟩
theorem lL_40 : XV RL 40 mX9_note 2 := ⟨by decide +kernel, by decide +kernel, by decide +kernel, inT4 164 rfl rfl, inT1 8 rfl rfl, inT4 167 rfl rfl, inT4 165 rfl rfl, inT4 166 rfl rfl⟩
theorem lX9_237 : XV RX9 237 mX9_lengthOf 1 := ⟨by decide +kernel, by decide +kernel, by decide +kernel, inT4 168 rfl rfl, inT1 8 rfl rfl, inT4 171 rfl rfl, inT4 170 rfl rfl, inT0 38 rfl rfl⟩
theorem lL_44 : XV RL 44 mX9_neume 2 := ⟨by decide +kernel, by decide +kernel, by decide +kernel, inT4 172 rfl rfl, inT1 8 rfl rfl, inT4 175 rfl rfl, inT4 173 rfl rfl, inT4 174 rfl rfl⟩
theorem lL_48 : XV RL 48 mX9_bar 2 := ⟨by decide +kernel, by decide +kernel, by decide +kernel, inT4 176 rfl rfl, inT1 8 rfl rfl, inT4 179 rfl rfl, inT4 177 rfl rfl, inT4 178 rfl rfl⟩
theorem lL_52 : XV RL 52 mX9_guide 1 := ⟨by decide +kernel, by decide +kernel, by decide +kernel, inT4 180 rfl rfl, inT1 8 rfl rfl, inT4 183 rfl rfl, inT4 181 rfl rfl, inT4 182 rfl rfl⟩
theorem lL_56 : XV RL 56 mX9_mode 1 := ⟨by decide +kernel, by decide +kernel, by decide +kernel, inT4 184 rfl rfl, inT1 8 rfl rfl, inT4 187 rfl rfl, inT4 185 rfl rfl, inT4 186 rfl rfl⟩
theorem lL_60 : XV RL 60 mX9_tone 1 := ⟨by decide +kernel, by decide +kernel, by decide +kernel, inT4 188 rfl rfl, inT1 8 rfl rfl, inT4 191 rfl rfl, inT4 189 rfl rfl, inT4 190 rfl rfl⟩
theorem lL_65 : XV RL 65 mX9_point 2 := ⟨by decide +kernel, by decide +kernel, by decide +kernel, inT4 192 rfl rfl, inT1 8 rfl rfl, inT4 195 rfl rfl, inT4 193 rfl rfl, inT4 194 rfl rfl⟩
theorem lL_69 : XV RL 69 mX9_fresh 0 := ⟨by decide +kernel, by decide +kernel, by decide +kernel, inT4 196 rfl rfl, inT1 8 rfl rfl, inT4 199 rfl rfl, inT4 197 rfl rfl, inT4 198 rfl rfl⟩
theorem lL_73 : XV RL 73 mX9_half 2 := ⟨by decide +kernel, by decide +kernel, by decide +kernel, inT4 200 rfl rfl, inT1 8 rfl rfl, inT4 203 rfl rfl, inT4 201 rfl rfl, inT4 202 rfl rfl⟩
theorem lX9_262 : XV RX9 262 mX9_fit 1 := ⟨by decide +kernel, by decide +kernel, by decide +kernel, inT4 204 rfl rfl, inT1 8 rfl rfl, inT4 207 rfl rfl, inT4 206 rfl rfl, inT0 39 rfl rfl⟩
theorem lX9_253 : XV RX9 253 mX9_accentBefore 2 := ⟨by decide +kernel, by decide +kernel, by decide +kernel, inT4 208 rfl rfl, inT1 8 rfl rfl, inT4 211 rfl rfl, inT4 210 rfl rfl, inT0 40 rfl rfl⟩
theorem lX9_256 : XV RX9 256 mX9_close 2 := ⟨by decide +kernel, by decide +kernel, by decide +kernel, inT4 212 rfl rfl, inT1 8 rfl rfl, inT4 215 rfl rfl, inT4 214 rfl rfl, inT0 41 rfl rfl⟩
theorem lX9_259 : XV RX9 259 mX9_sing 2 := ⟨by decide +kernel, by decide +kernel, by decide +kernel, inT4 216 rfl rfl, inT1 8 rfl rfl, inT4 219 rfl rfl, inT4 218 rfl rfl, inT0 42 rfl rfl⟩
theorem lL_78 : XV RL 78 mX9_sung 3 := ⟨by decide +kernel, by decide +kernel, by decide +kernel, inT4 220 rfl rfl, inT1 8 rfl rfl, inT4 223 rfl rfl, inT4 221 rfl rfl, inT4 222 rfl rfl⟩
theorem lL_82 : XV RL 82 mX9_write 0 := ⟨by decide +kernel, by decide +kernel, by decide +kernel, inT4 224 rfl rfl, inT1 8 rfl rfl, inT4 227 rfl rfl, inT4 225 rfl rfl, inT4 226 rfl rfl⟩
theorem lX9_269 : XV RX9 269 mX9_tell 1 := ⟨by decide +kernel, by decide +kernel, by decide +kernel, inT4 228 rfl rfl, inT1 8 rfl rfl, inT4 231 rfl rfl, inT4 230 rfl rfl, inT0 43 rfl rfl⟩
theorem lX9_280 : XV RX9 280 mX9_tellSign 2 := ⟨by decide +kernel, by decide +kernel, by decide +kernel, inT4 232 rfl rfl, inT1 8 rfl rfl, inT4 235 rfl rfl, inT4 234 rfl rfl, inT0 44 rfl rfl⟩
theorem lX9_272 : XV RX9 272 mX9_tellIf 3 := ⟨by decide +kernel, by decide +kernel, by decide +kernel, inT4 236 rfl rfl, inT1 8 rfl rfl, inT4 239 rfl rfl, inT4 238 rfl rfl, inT0 45 rfl rfl⟩
theorem lX9_276 : XV RX9 276 mX9_isParted 2 := ⟨by decide +kernel, by decide +kernel, by decide +kernel, inT5 0 rfl rfl, inT1 8 rfl rfl, inT5 3 rfl rfl, inT5 2 rfl rfl, inT0 46 rfl rfl⟩
theorem lL_86 : XV RL 86 mX9_at 1 := ⟨by decide +kernel, by decide +kernel, by decide +kernel, inT5 4 rfl rfl, inT1 8 rfl rfl, inT5 7 rfl rfl, inT5 5 rfl rfl, inT5 6 rfl rfl⟩
theorem lL_90 : XV RL 90 mX9_count 1 := ⟨by decide +kernel, by decide +kernel, by decide +kernel, inT5 8 rfl rfl, inT1 8 rfl rfl, inT5 11 rfl rfl, inT5 9 rfl rfl, inT5 10 rfl rfl⟩
theorem nL_7 : XN RL 7 5 6 tyX8 := ⟨RX8, TX8, rfl, inX8, tyX8_ok, inT1 12 rfl rfl, inT1 13 rfl rfl, inT1 1 rfl rfl⟩
theorem nX8_7 : XN RX8 7 4 4 tyX5 := ⟨RX5, TX5, rfl, inX5, tyX5_ok, inT1 20 rfl rfl, inT1 21 rfl rfl, inT1 2 rfl rfl⟩
theorem nX8_21 : XN RX8 21 3 9 tyX3 := ⟨RX3, TX3, rfl, inX3, tyX3_ok, inT1 43 rfl rfl, inT1 44 rfl rfl, inT1 4 rfl rfl⟩
theorem nX3_11 : XN RX3 11 4 4 tyX5 := ⟨RX5, TX5, rfl, inX5, tyX5_ok, inT1 49 rfl rfl, inT1 21 rfl rfl, inT1 2 rfl rfl⟩
theorem nX8_28 : XN RX8 28 2 12 tyX2 := ⟨RX2, TX2, rfl, inX2, tyX2_ok, inT1 100 rfl rfl, inT1 101 rfl rfl, inT1 5 rfl rfl⟩
theorem nX2_15 : XN RX2 15 4 4 tyX5 := ⟨RX5, TX5, rfl, inX5, tyX5_ok, inT1 106 rfl rfl, inT1 21 rfl rfl, inT1 2 rfl rfl⟩
theorem nX8_37 : XN RX8 37 1 4 tyX1 := ⟨RX1, TX1, rfl, inX1, tyX1_ok, inT1 145 rfl rfl, inT1 146 rfl rfl, inT1 6 rfl rfl⟩
theorem nX1_9 : XN RX1 9 4 4 tyX5 := ⟨RX5, TX5, rfl, inX5, tyX5_ok, inT1 151 rfl rfl, inT1 21 rfl rfl, inT1 2 rfl rfl⟩
theorem nX1_23 : XN RX1 23 0 8 tyX0 := ⟨RX0, TX0, rfl, inX0, tyX0_ok, inT1 153 rfl rfl, inT1 154 rfl rfl, inT1 7 rfl rfl⟩
theorem nX0_9 : XN RX0 9 4 4 tyX5 := ⟨RX5, TX5, rfl, inX5, tyX5_ok, inT1 159 rfl rfl, inT1 21 rfl rfl, inT1 2 rfl rfl⟩
theorem nL_10 : XN RL 10 6 56 tyX9 := ⟨RX9, TX9, rfl, inX9, tyX9_ok, inT3 128 rfl rfl, inT3 129 rfl rfl, inT1 8 rfl rfl⟩
theorem nestX8_23 : XJ mX3_init := ⟨inT1 4 rfl rfl, inT1 47 rfl rfl, inT1 46 rfl rfl⟩
theorem nestX8_39 : XJ mX1_init := ⟨inT1 6 rfl rfl, inT1 149 rfl rfl, inT1 148 rfl rfl⟩
theorem oi_inst : Cond.instanceMethod objectInit ∈ goodTB := inT1 18 rfl rfl
theorem oi_code : Cond.code objectInit ⟨#[0xb1]⟩ 1 none ∈ goodTB := inT1 19 rfl rfl
theorem ac_int : Cond.arrayClass .int ∈ goodTB := inT1 42 rfl rfl
end
section
/-! the instructions of each method: pc, instruction, length, next pc -/
def DcAt (c : ByteArray) (pc : Nat) (i : Instr) (n nx : Nat) : Prop := decode c pc = .ok (i, n) ∧ pc + n = nx
abbrev DL : Type := List (Nat × Instr × Nat × Nat)
def decOK (c : ByteArray) (L : DL) : Bool := L.all (fun q => decide (decode c q.1 = .ok (q.2.1, q.2.2.1)) && decide (q.1 + q.2.2.1 = q.2.2.2))
theorem dec_of {c : ByteArray} {L : DL} (h : decOK c L = true) (k : Nat) {pc : Nat} {i : Instr} {n nx : Nat} (hk : L[k]? = some (pc, i, n, nx)) : DcAt c pc i n nx := by
  have h1 := List.all_eq_true.mp h _ (List.mem_of_getElem? hk)
  simp only [Bool.and_eq_true, decide_eq_true_eq] at h1
  exact h1
/-! THE VD LAYER. A world is a list of cells: an int array (length, contents) or an object (class number, fields); a reference is the PLACE of a cell in that list (from SB on: the arrays that nobody writes). 'ad' gives the address of a place. Vd: from this pc, these locals, this stack, this world, the method comes to its end with Z (world, answer). Sp: a method's contract in these words. -/
abbrev XE : Type := (Nat × (Nat → Int32)) ⊕ (Nat × List Value)
abbrev XW : Type := List XE
def SB : Nat := 1000000
def xv (ad : Nat → Nat) (v : Value) : Value := match v with
  | .ref k => .ref (ad k)
  | v => v
def xe (cI : ClassId) (ad : Nat → Nat) (e : XE) : va_E := match e with
  | .inl a => .inl (cI, a.1, .inl a.2)
  | .inr o => .inr (o.1, o.2.map (xv ad))
def xw (cI : ClassId) (ad : Nat → Nat) (w : XW) : va_W := w.mapIdx (fun k e => (ad k, xe cI ad e))
theorem xw_len {cI : ClassId} {ad : Nat → Nat} {w : XW} : (xw cI ad w).length = w.length := by simp [xw]
theorem xw_at {cI : ClassId} {ad : Nat → Nat} {w : XW} {k : Nat} {e : XE} (h : w[k]? = some e) : (xw cI ad w)[k]? = some (ad k, xe cI ad e) := by
  simp [xw, List.getElem?_mapIdx, h]
theorem xw_set {cI : ClassId} {ad : Nat → Nat} {w : XW} {k : Nat} {e : XE} : xw cI ad (w.set k e) = (xw cI ad w).set k (ad k, xe cI ad e) := by
  apply List.ext_getElem?
  intro j
  simp only [xw, List.getElem?_mapIdx, List.getElem?_set, List.length_mapIdx]
  by_cases h : k = j
  · subst h
    by_cases h2 : k < w.length <;> simp [h2]
  · simp [h]
def rk (n : Nat) (v : Value) : Bool := match v with
  | .ref k => decide (k < n) || decide (SB ≤ k)
  | _ => true
def xok (n : Nat) (w : XW) : Bool := w.all (fun e => match e with
  | .inl _ => true
  | .inr o => o.2.all (rk n))
def ag (n : Nat) (ad ad' : Nat → Nat) : Prop := ∀ k : Nat, (k < n ∨ SB ≤ k) → ad' k = ad k
theorem ag.rf {n : Nat} {ad : Nat → Nat} : ag n ad ad := fun _ _ => rfl
theorem ag.tr {n n' : Nat} {a b c : Nat → Nat} (h : ag n a b) (h2 : ag n' b c) (hn : n ≤ n') : ag n a c := fun k hk => (h2 k (hk.imp (fun q => Nat.lt_of_lt_of_le q hn) id)).trans (h k hk)
theorem xv_cat {ad : Nat → Nat} {v : Value} : (xv ad v).category = v.category := by cases v <;> rfl
theorem xv_ag {n : Nat} {ad ad' : Nat → Nat} (h : ag n ad ad') {v : Value} (hv : rk n v = true) : xv ad' v = xv ad v := by
  cases v with
  | ref k =>
    have : k < n ∨ SB ≤ k := by simpa [rk] using hv
    show Value.ref (ad' k) = Value.ref (ad k)
    rw [h k this]
  | _ => rfl
theorem xvs_ag {n : Nat} {ad ad' : Nat → Nat} (h : ag n ad ad') {vs : List Value} (hv : vs.all (rk n) = true) : vs.map (xv ad') = vs.map (xv ad) :=
  List.map_congr_left fun v hm => xv_ag h (List.all_eq_true.mp hv v hm)
theorem xe_ag {n : Nat} {cI : ClassId} {ad ad' : Nat → Nat} (h : ag n ad ad') {w : XW} (hv : xok n w = true) {e : XE} (he : e ∈ w) : xe cI ad' e = xe cI ad e := by
  have h1 := List.all_eq_true.mp hv e he
  cases e with
  | inl a => rfl
  | inr o =>
    show Sum.inr (o.1, o.2.map (xv ad')) = Sum.inr (o.1, o.2.map (xv ad))
    rw [xvs_ag h h1]
theorem xw_ag {n : Nat} {cI : ClassId} {ad ad' : Nat → Nat} (h : ag n ad ad') {w : XW} (hn : w.length ≤ n) (hv : xok n w = true) : xw cI ad' w = xw cI ad w := by
  apply List.ext_getElem?
  intro j
  simp only [xw, List.getElem?_mapIdx]
  cases hj : w[j]? with
  | none => rfl
  | some e =>
    have hl := (List.getElem?_eq_some_iff.mp hj).1
    simp only [Option.map_some]
    rw [h j (Or.inl (Nat.lt_of_lt_of_le hl hn)), xe_ag h hv (List.mem_of_getElem? hj)]
theorem xw_push {cI : ClassId} {ad : Nat → Nat} {w : XW} {e : XE} : xw cI ad (w ++ [e]) = xw cI ad w ++ [(ad w.length, xe cI ad e)] := by
  simp [xw, List.mapIdx_append]
/-! what is the same at every state: statics, two links of private constructors -/
def XNest (U : State) : Prop := va_Nw (.methodLinkNest RX8 23 yX3_init RX8) U ∧ va_Nw (.methodLinkNest RX8 39 yX1_init RX8) U
def ST : List (String × String) := [("ChantNeumes$Reader", "SCALE"), ("ChantNeumes$Shaper", "WAYS"), ("ChantNeumes$Score", "TENORS"), ("ChantNeumes$Tones", "CELLS")]
def tScale : List Int32 := [0, 2, 4, 5, 7, 9, 11]
def tWays : List Int32 := [1, 2, 3, 11, 22, 12, 21, 33, 121, 212, 112, 221, 122, 1122, 2211]
def tTenors : List Int32 := [4, 2, 5, 3, 4, 2, 4, 3]
def tCells : List Int32 := [-2, -1, 0, 0, 0, 2, 1, 0, -1, -1, 0, 2, -1, -2, 1, 0, 0, -1, -1, -3,
  -2, 0, 0, 0, 0, 1, 0, 0, 1, 0, 0, 1, -1, 0, 1, 0, 0, -2, -2, -2,
  -4, -1, 0, 0, 0, 2, 1, 0, -1, -1, 0, 1, 0, 0, 1, 0, 0, -2, -2, -1,
  -1, -2, 2, -1, 0, 1, 0, 0, 1, 0, 0, 0, 0, 0, 2, -1, 0, 1, -1, -2,
  -4, -2, 0, 0, 0, 1, 0, 0, 1, 0, 0, 0, 0, 0, 2, 1, 1, -1, -1, -2,
  -2, -1, 0, 0, 0, 2, 1, 0, -1, -1, 0, 2, -2, -1, 1, 0, 0, -1, -1, -2,
  -1, -2, 0, 0, 0, 2, 2, 1, -1, -1, 0, 0, 0, 0, 2, 1, 0, -1, -1, -2,
  -3, -2, 0, 0, 0, 1, 0, 0, 1, 0, 0, 2, 0, -1, 1, 0, 0, 1, 1, -3]
def tF (l : List Int32) : Nat → Int32 := fun i => l.getD i 0
def RO0 : List (Nat × (Nat → Int32)) := [(7, tF tScale), (15, tF tWays), (8, tF tTenors), (160, tF tCells)]
def XS (ex : List (Nat × (Nat → Int32))) (ro : Nat → Nat) (A : Nat → Prop) (U : State) (H : Heap) : Prop :=
  (∀ (j : Nat) (q : String × String), ST[j]? = some q → va_Z q.1 q.2 "[I" (.ref (ro j)) A U H) ∧ (∀ (j : Nat) (q : Nat × (Nat → Int32)), (RO0 ++ ex)[j]? = some q → va_T .int (ro j) q.1 (fun i => .int (q.2 i)) A U H) ∧ XNest U
theorem XS.to {ex : List (Nat × (Nat → Int32))} {ro : Nat → Nat} {A B : Nat → Prop} {s U : State} {H : Heap} {locs : List Loc} (h : XS ex ro A s s.heap) (hS : va_S A s.heap H locs) (hU : U.heap = H) (hW : s.WarmedH U.vm) (hB : ∀ q, B q → A q) : XS [] ro B U U.heap := by
  obtain ⟨h1, h2, h3, h4⟩ := h
  refine ⟨fun j q hj => ?_, fun j q hj => ?_, va_Nw.warmM hW h3, va_Nw.warmM hW h4⟩
  · rw [hU]
    exact ((h1 j q hj).kept hS.2.1).moved hW.alike |>.narrow hB
  · rw [hU]
    have hj' : (RO0 ++ ex)[j]? = some q := by
      rw [List.append_nil] at hj
      rw [List.getElem?_append_left (List.getElem?_eq_some_iff.mp hj).1]
      exact hj
    exact ((h2 j q hj').kept hS.2.1).moved hW.alike |>.narrow hB
/-! contracts -/
def xws (M : MI) : List Cond := .code M.1 M.2.1 M.2.2.1 M.2.2.2 :: goodTB
abbrev rm (fr lo ca sl : Nat) : Room := { frames := fr, cells := ca, slots := sl, locals := lo }
def XPre (cI : ClassId) (D : va_G) (ad : Nat → Nat) (sz : Nat) (w : XW) (U : State) : Prop := U.heap.size = sz ∧ va_P D vwCl (xw cI ad w) U.heap ∧ va_K D vwCl [(cI, .int)] U ∧ va_D (fun _ => True) (xw cI ad w) ∧ XS [] (fun j => ad (SB + j)) (va_A (xw cI ad w) sz) U U.heap ∧ w.length ≤ SB
def XPost (cI : ClassId) (D : va_G) (ad : Nat → Nat) (A : Nat → Prop) (n : Nat) (Z : XW → Option Value → Prop) (st : State) (oc : Outcome) (t : State) : Prop := ∃ (w' : XW) (r : Option Value) (ad' : Nat → Nat), Z w' r ∧ oc = .returned (r.map (xv ad')) ∧ ag n ad ad' ∧ n ≤ w'.length ∧ w'.length ≤ SB ∧ va_P D vwCl (xw cI ad' w') t.heap ∧ va_D A (xw cI ad' w') ∧ va_F A st t
def Sp (R : Room) (M : MI) (av : List Value) (w : XW) (Z : XW → Option Value → Prop) : Prop :=
  ∀ (l : Launch) (D : va_G) (cI : ClassId) (ad : Nat → Nat) (sz : Nat), Met l M.1 (xws M) R (va_Pc (av.map (xv ad)) (XPre cI D ad sz w)) (fun _ st oc t => XPost cI D ad (va_A (xw cI ad w) sz) w.length Z st oc t) R.cells R.slots (va_A (xw cI ad w) sz)
/-- the answer and the world behind it, told exactly -/
def Sd (R : Room) (M : MI) (av : List Value) (w w' : XW) (r : Option Value) : Prop := Sp R M av w (fun x y => x = w' ∧ y = r)
theorem Met.wk {l : Launch} {y : MethodName} {ws : List Cond} {R : Room} {Pc : Array Value → State → Prop} {Q1 Q2 : Array Value → State → Outcome → State → Prop} {mc ms : Nat} {free : Addr → Prop} (h : Met l y ws R Pc Q1 mc ms free) (hq : ∀ a s o t, Q1 a s o t → Q2 a s o t) : Met l y ws R Pc Q2 mc ms free := by
  intro p e h1 h2 h3 s m args below h4 h5 h6 h7
  obtain ⟨n, o, g1, g2, g3, g4, g5⟩ := h p e h1 h2 h3 s m args below h4 h5 h6 h7
  exact ⟨n, o, g1, g2, g3, hq _ _ _ _ g4, g5⟩
theorem Sp.wk {R : Room} {M : MI} {av : List Value} {w : XW} {Z Z2 : XW → Option Value → Prop} (h : Sp R M av w Z) (hz : ∀ x y, Z x y → Z2 x y) : Sp R M av w Z2 := by
  intro l D cI ad sz
  refine (h l D cI ad sz).wk (fun a s o t q => ?_)
  obtain ⟨w', r, ad', q1, q2⟩ := q
  exact ⟨w', r, ad', hz _ _ q1, q2⟩
/-! inside a method -/
def XC (ex : List (Nat × (Nat → Int32))) (M : MI) (p : Program) (s : State) (m : MethodId) (args : Array Value) (meth : Method) (c : Code) (D : va_G) (cI : ClassId) (ad0 : Nat → Nat) (A : Nat → Prop) : Prop :=
  p.tables.exec = Jvm.exec ∧ c.code = M.2.1 ∧ c.maxLocals = M.2.2.1 ∧ meth.sig.returnType = M.2.2.2 ∧ meth.locks = false ∧ s.vm.findClass M.1.cls = some m.cls ∧ (∀ w ∈ goodTB, w.before args s = true) ∧ meth.name = M.1.name ∧ va_K D vwCl [(cI, .int)] s ∧ (∀ q, s.heap.size ≤ q → A q) ∧ XS ex (fun j => ad0 (SB + j)) A s s.heap
def XRep (cI : ClassId) (D : va_G) (ad0 ad : Nat → Nat) (A : Nat → Prop) (n0 : Nat) (s : State) (w : XW) (H : Heap) (locs : List Loc) : Prop :=
  ag n0 ad0 ad ∧ n0 ≤ w.length ∧ w.length ≤ SB ∧ va_P D vwCl (xw cI ad w) H ∧ va_D A (xw cI ad w) ∧ va_S A s.heap H locs
def XL (lsA : Array Slot) (nL : Nat) (ad : Nat → Nat) (ls : List (Option Value)) : Prop := lsA.size = nL ∧ lv_wf lsA ∧ ∀ (k : Nat) (v : Value), ls[k]? = some (some v) → lsA[k]? = some (.val (xv ad v)) ∧ v.category = 1
def XEnd (R : Room) (M : MI) (n0 : Nat) (Z : XW → Option Value → Prop) (p : Program) (l : Launch) (e : Env) (s : State) (m : MethodId) (args : Array Value) (below : List Frame) (meth : Method) (c : Code) (D : va_G) (cI : ClassId) (ad0 : Nat → Nat) (A : Nat → Prop) (Qs : State → Prop) : Prop :=
  ∀ (w : XW) (ad : Nat → Nat) (H : Heap) (locs : List Loc) (lsA : Array Slot) (pc : Nat), XRep cI D ad0 ad A n0 s w H locs →
    (∀ x : Int32, decode M.2.1 pc = .ok (.ireturn, 1) → (M.2.2.2 = some .int ∨ (M.2.2.2 = some .boolean ∧ (x = 0 ∨ x = 1))) → Z w (some (.int x)) → W p l e R s m args below meth c H locs R.cells R.slots Qs (F0 m pc lsA [.int x])) ∧
    (∀ k : Nat, decode M.2.1 pc = .ok (.areturn, 1) → (∃ C, M.2.2.2 = some (.object C)) → Z w (some (.ref k)) → W p l e R s m args below meth c H locs R.cells R.slots Qs (F0 m pc lsA [.ref (ad k)])) ∧
    (decode M.2.1 pc = .ok (.return_, 1) → M.2.2.2 = none → Z w none → W p l e R s m args below meth c H locs R.cells R.slots Qs (F0 m pc lsA []))
def Vd (R : Room) (ex : List (Nat × (Nat → Int32))) (M : MI) (n0 : Nat) (Z : XW → Option Value → Prop) (ca sl pc : Nat) (ls : List (Option Value)) (st : List Value) (w : XW) : Prop :=
  ∀ (p : Program) (l : Launch) (e : Env) (s : State) (m : MethodId) (args : Array Value) (below : List Frame) (meth : Method) (c : Code) (D : va_G) (cI : ClassId) (ad0 : Nat → Nat) (A : Nat → Prop) (Qs : State → Prop),
    XC ex M p s m args meth c D cI ad0 A → XEnd R M n0 Z p l e s m args below meth c D cI ad0 A Qs →
    ∀ (ad : Nat → Nat) (H : Heap) (locs : List Loc) (lsA : Array Slot), XRep cI D ad0 ad A n0 s w H locs → XL lsA M.2.2.1 ad ls →
      W p l e R s m args below meth c H locs ca sl Qs (F0 m pc lsA (st.map (xv ad)))
def en (n : Nat) (av : List Value) : List (Option Value) := av.map some ++ List.replicate (n - av.length) none
theorem lv_args_cat {vs : List Value} (h : ∀ v ∈ vs, v.category = 1) : ∀ (i k : Nat) (v : Value), vs[k]? = some v → (i + k, v) ∈ lv_args i vs := by
  induction vs with
  | nil => intro i k v hk; simp at hk
  | cons a t ih =>
    intro i k v hk
    have ha : a.category = 1 := h a List.mem_cons_self
    cases k with
    | zero =>
      simp only [List.getElem?_cons_zero, Option.some.injEq] at hk
      subst hk
      exact List.mem_cons_self
    | succ k =>
      simp only [List.getElem?_cons_succ] at hk
      have := ih (fun v hv => h v (List.mem_cons_of_mem _ hv)) (i + 1) k v hk
      refine List.mem_cons_of_mem _ ?_
      have hif : (if a.category = 2 then i + 2 else i + 1) = i + 1 := by simp [ha]
      rw [hif, show i + (k + 1) = i + 1 + k by omega]
      exact this
theorem lg_sl_len {vs : List Value} (h : ∀ v ∈ vs, v.category = 1) : (lg_sl vs).length = vs.length := by
  induction vs with
  | nil => rfl
  | cons a t ih =>
    have ha : a.category = 1 := h a List.mem_cons_self
    have := ih (fun v hv => h v (List.mem_cons_of_mem _ hv))
    cases a <;> simp_all [lg_sl, Value.category, List.flatMap_cons]
set_option maxHeartbeats 4000000 in
/-- a contract out of a walk from pc 0 -/
theorem sp_of {R : Room} {M : MI} {av : List Value} {w : XW} {Z : XW → Option Value → Prop} {ls : List (Option Value)} (hy : plainName M.1.cls = true) (hl : av.length ≤ M.2.2.1) (hc : av.all (fun v => decide (v.category = 1)) = true) (hls : ls = en M.2.2.1 av) (k : Vd R [] M w.length Z 0 0 0 ls [] w) : Sp R M av w Z := by
  intro l D cI ad sz
  refine Met.ofW (cc := M.2.1) (maxL := M.2.2.1) (ret := M.2.2.2) hy rfl ?_
  intro p e s m args below meth c s₁ B hml hv
  obtain ⟨rfl, hsz, hP, hK, hD0, hX, hlen⟩ := hv
  have hts := atoms_spec (ws := xws M) B.pre
  have hown : s.vm.findClass M.1.cls = some m.cls := findClass_of_methodNamed B.named
  have hin : meth.name = M.1.name := (name_of_methodNamed B.named B.method).1
  subst hsz
  have hD := hD0.self (sz := s.heap.size)
  have hA : ∀ q : Nat, s.heap.size ≤ q → va_A (xw cI ad w) s.heap.size q := fun q h => Or.inr h
  have hcat : ∀ v ∈ av, v.category = 1 := fun v hv => by simpa using List.all_eq_true.mp hc v hv
  have hcat' : ∀ v ∈ av.map (xv ad), v.category = 1 := by
    intro v hv
    obtain ⟨u, hu, rfl⟩ := List.mem_map.mp hv
    rw [xv_cat]; exact hcat u hu
  have hL := lv_entry (av.map (xv ad)) (n := M.2.2.1) (by rw [lg_sl_len hcat', List.length_map]; exact hl)
  rw [lg_entry_eq]
  refine k p l e s m _ below meth c D cI ad (va_A (xw cI ad w) s.heap.size) _ ⟨B.exec, B.bytes, hml, B.returns, B.notSynchronized, hown, fun w hw => hts w (List.mem_cons_of_mem _ hw), hin, hK, hA, hX⟩ ?_ ad s.heap [] _ ⟨ag.rf, Nat.le_refl _, hlen, hP, hD, va_S.rf⟩ ⟨hL.1, hL.2.1, ?_⟩
  · intro w' ad' H locs lsA pc hR
    obtain ⟨r1, r2, r3, r4, r5, r6⟩ := hR
    have fin : ∀ (r : Option Value), Z w' r → ∀ t : State, t.heap = H → s.WarmedH t.vm → XPost cI D ad (va_A (xw cI ad w) s.heap.size) w.length Z s (.returned (r.map (xv ad'))) t := fun r hz t ht hW => ⟨w', r, ad', hz, rfl, r1, r2, r3, by rw [ht]; exact r4, r5, r6.F ht⟩
    refine ⟨fun x hd hret hz => ?_, fun q hd hret hz => ?_, fun hd hret hz => ?_⟩
    · rcases hret with hret | ⟨hret, hx⟩
      · exact W.zret (ty := .int) B.exec B.bytes (B.returns.trans hret) rfl (fun t ht hW => fin (some (.int x)) hz t ht hW) r6.2.2 hd
      · exact W.zret (ty := .boolean) B.exec B.bytes (B.returns.trans hret) (by rcases hx with rfl | rfl <;> decide) (fun t ht hW => fin (some (.int x)) hz t ht hW) r6.2.2 hd
    · obtain ⟨C, hC⟩ := hret
      exact W.aret B.exec B.bytes (B.returns.trans hC) (Or.inl ⟨C, rfl⟩) (Or.inr ⟨_, rfl⟩) (fun t ht hW => fin (some (.ref q)) hz t ht hW) r6.2.2 hd
    · exact W.vret B.exec B.bytes (B.returns.trans hret) (fun t ht hW => fin none hz t ht hW) r6.2.2 hd
  · intro j v hj
    rw [hls] at hj
    have hjl : j < av.length ∧ av[j]? = some v := by
      unfold en at hj
      by_cases h : j < av.length
      · rw [List.getElem?_append_left (by simpa using h), List.getElem?_map] at hj
        refine ⟨h, ?_⟩
        cases hv : av[j]? with
        | none => rw [hv] at hj; simp at hj
        | some u => rw [hv] at hj; simp at hj; rw [hj]
      · rw [List.getElem?_append_right (by simpa using h)] at hj
        have := List.mem_of_getElem? hj
        simp at this
    refine ⟨hL.2.2 (j, xv ad v) ?_, hcat v (List.mem_of_getElem? hjl.2)⟩
    have := lv_args_cat hcat' 0 j (xv ad v) (by rw [List.getElem?_map, hjl.2]; rfl)
    simpa using this
end
section
/-! rules of the Vd layer: an instruction, a rule (printed by wip/tools/gen_rules.py) -/
section VdRules
variable {R : Room} {ex : List (Nat × (Nat → Int32))} {M : MI} {n0 : Nat} {Z : XW → Option Value → Prop} {ca sl pc pc' : Nat} {ls : List (Option Value)} {st : List Value} {w : XW}

theorem v_iconst {n : Int} {v : Int32} (hd : DcAt M.2.1 pc (.iconst n) 1 pc') (hv : Int32.ofInt n = v) (k : Vd R ex M n0 Z ca sl pc' ls (.int v :: st) w) : Vd R ex M n0 Z ca sl pc ls (st) w := by
  intro p l e s m args below meth c D cI ad0 A Qs C E ad H locs lsA hR hL
  obtain ⟨hd, rfl⟩ := hd
  exact lv_iconst C.1 C.2.1 hd hv (k p l e s m args below meth c D cI ad0 A Qs C E ad H locs lsA hR hL)

theorem v_bipush {n : Int} {v : Int32} (hd : DcAt M.2.1 pc (.bipush n) 2 pc') (hv : (Int8.ofInt n).toInt32 = v) (k : Vd R ex M n0 Z ca sl pc' ls (.int v :: st) w) : Vd R ex M n0 Z ca sl pc ls (st) w := by
  intro p l e s m args below meth c D cI ad0 A Qs C E ad H locs lsA hR hL
  obtain ⟨hd, rfl⟩ := hd
  exact lv_bipush C.1 C.2.1 hd hv (k p l e s m args below meth c D cI ad0 A Qs C E ad H locs lsA hR hL)

theorem v_sipush {n : Int} {v : Int32} (hd : DcAt M.2.1 pc (.sipush n) 3 pc') (hv : (Int16.ofInt n).toInt32 = v) (k : Vd R ex M n0 Z ca sl pc' ls (.int v :: st) w) : Vd R ex M n0 Z ca sl pc ls (st) w := by
  intro p l e s m args below meth c D cI ad0 A Qs C E ad H locs lsA hR hL
  obtain ⟨hd, rfl⟩ := hd
  exact lv_sipush C.1 C.2.1 hd hv (k p l e s m args below meth c D cI ad0 A Qs C E ad H locs lsA hR hL)

theorem v_iload_n {i : Fin 4} {x : Int32} (hd : DcAt M.2.1 pc (.iload_n i) 1 pc') (hl : ls[(i : Nat)]? = some (some (.int x))) (k : Vd R ex M n0 Z ca sl pc' ls (.int x :: st) w) : Vd R ex M n0 Z ca sl pc ls (st) w := by
  intro p l e s m args below meth c D cI ad0 A Qs C E ad H locs lsA hR hL
  obtain ⟨hd, rfl⟩ := hd
  exact lv_iload_n C.1 C.2.1 hd rfl (hL.2.2 _ _ hl).1 (k p l e s m args below meth c D cI ad0 A Qs C E ad H locs lsA hR hL)

theorem v_iload {i : Nat} {x : Int32} (hd : DcAt M.2.1 pc (.iload i) 2 pc') (hl : ls[i]? = some (some (.int x))) (k : Vd R ex M n0 Z ca sl pc' ls (.int x :: st) w) : Vd R ex M n0 Z ca sl pc ls (st) w := by
  intro p l e s m args below meth c D cI ad0 A Qs C E ad H locs lsA hR hL
  obtain ⟨hd, rfl⟩ := hd
  exact lv_iload C.1 C.2.1 hd (hL.2.2 _ _ hl).1 (k p l e s m args below meth c D cI ad0 A Qs C E ad H locs lsA hR hL)

theorem v_aload_n {i : Fin 4} {x : Nat} (hd : DcAt M.2.1 pc (.aload_n i) 1 pc') (hl : ls[(i : Nat)]? = some (some (.ref x))) (k : Vd R ex M n0 Z ca sl pc' ls (.ref x :: st) w) : Vd R ex M n0 Z ca sl pc ls (st) w := by
  intro p l e s m args below meth c D cI ad0 A Qs C E ad H locs lsA hR hL
  obtain ⟨hd, rfl⟩ := hd
  exact lv_aload_n C.1 C.2.1 hd rfl (hL.2.2 _ _ hl).1 (k p l e s m args below meth c D cI ad0 A Qs C E ad H locs lsA hR hL)

theorem v_aload {i : Nat} {x : Nat} (hd : DcAt M.2.1 pc (.aload i) 2 pc') (hl : ls[i]? = some (some (.ref x))) (k : Vd R ex M n0 Z ca sl pc' ls (.ref x :: st) w) : Vd R ex M n0 Z ca sl pc ls (st) w := by
  intro p l e s m args below meth c D cI ad0 A Qs C E ad H locs lsA hR hL
  obtain ⟨hd, rfl⟩ := hd
  exact lv_aload C.1 C.2.1 hd (hL.2.2 _ _ hl).1 (k p l e s m args below meth c D cI ad0 A Qs C E ad H locs lsA hR hL)

theorem v_iadd {x y : Int32} (hd : DcAt M.2.1 pc (.iadd) 1 pc') (k : Vd R ex M n0 Z ca sl pc' ls (.int (x + y) :: st) w) : Vd R ex M n0 Z ca sl pc ls (.int y :: .int x :: st) w := by
  intro p l e s m args below meth c D cI ad0 A Qs C E ad H locs lsA hR hL
  obtain ⟨hd, rfl⟩ := hd
  exact lv_iadd C.1 C.2.1 hd (k p l e s m args below meth c D cI ad0 A Qs C E ad H locs lsA hR hL)

theorem v_isub {x y : Int32} (hd : DcAt M.2.1 pc (.isub) 1 pc') (k : Vd R ex M n0 Z ca sl pc' ls (.int (x - y) :: st) w) : Vd R ex M n0 Z ca sl pc ls (.int y :: .int x :: st) w := by
  intro p l e s m args below meth c D cI ad0 A Qs C E ad H locs lsA hR hL
  obtain ⟨hd, rfl⟩ := hd
  exact lv_isub C.1 C.2.1 hd (k p l e s m args below meth c D cI ad0 A Qs C E ad H locs lsA hR hL)

theorem v_imul {x y : Int32} (hd : DcAt M.2.1 pc (.imul) 1 pc') (k : Vd R ex M n0 Z ca sl pc' ls (.int (x * y) :: st) w) : Vd R ex M n0 Z ca sl pc ls (.int y :: .int x :: st) w := by
  intro p l e s m args below meth c D cI ad0 A Qs C E ad H locs lsA hR hL
  obtain ⟨hd, rfl⟩ := hd
  exact lv_imul C.1 C.2.1 hd (k p l e s m args below meth c D cI ad0 A Qs C E ad H locs lsA hR hL)

theorem v_iand {x y : Int32} (hd : DcAt M.2.1 pc (.iand) 1 pc') (k : Vd R ex M n0 Z ca sl pc' ls (.int (x &&& y) :: st) w) : Vd R ex M n0 Z ca sl pc ls (.int y :: .int x :: st) w := by
  intro p l e s m args below meth c D cI ad0 A Qs C E ad H locs lsA hR hL
  obtain ⟨hd, rfl⟩ := hd
  exact lv_iand C.1 C.2.1 hd (k p l e s m args below meth c D cI ad0 A Qs C E ad H locs lsA hR hL)

theorem v_ior {x y : Int32} (hd : DcAt M.2.1 pc (.ior) 1 pc') (k : Vd R ex M n0 Z ca sl pc' ls (.int (x ||| y) :: st) w) : Vd R ex M n0 Z ca sl pc ls (.int y :: .int x :: st) w := by
  intro p l e s m args below meth c D cI ad0 A Qs C E ad H locs lsA hR hL
  obtain ⟨hd, rfl⟩ := hd
  exact lv_ior C.1 C.2.1 hd (k p l e s m args below meth c D cI ad0 A Qs C E ad H locs lsA hR hL)

theorem v_ixor {x y : Int32} (hd : DcAt M.2.1 pc (.ixor) 1 pc') (k : Vd R ex M n0 Z ca sl pc' ls (.int (x ^^^ y) :: st) w) : Vd R ex M n0 Z ca sl pc ls (.int y :: .int x :: st) w := by
  intro p l e s m args below meth c D cI ad0 A Qs C E ad H locs lsA hR hL
  obtain ⟨hd, rfl⟩ := hd
  exact lv_ixor C.1 C.2.1 hd (k p l e s m args below meth c D cI ad0 A Qs C E ad H locs lsA hR hL)

theorem v_ishl {x y : Int32} (hd : DcAt M.2.1 pc (.ishl) 1 pc') (k : Vd R ex M n0 Z ca sl pc' ls (.int (x <<< (y &&& 31)) :: st) w) : Vd R ex M n0 Z ca sl pc ls (.int y :: .int x :: st) w := by
  intro p l e s m args below meth c D cI ad0 A Qs C E ad H locs lsA hR hL
  obtain ⟨hd, rfl⟩ := hd
  exact lv_ishl C.1 C.2.1 hd (k p l e s m args below meth c D cI ad0 A Qs C E ad H locs lsA hR hL)

theorem v_ishr {x y : Int32} (hd : DcAt M.2.1 pc (.ishr) 1 pc') (k : Vd R ex M n0 Z ca sl pc' ls (.int (x >>> (y &&& 31)) :: st) w) : Vd R ex M n0 Z ca sl pc ls (.int y :: .int x :: st) w := by
  intro p l e s m args below meth c D cI ad0 A Qs C E ad H locs lsA hR hL
  obtain ⟨hd, rfl⟩ := hd
  exact lv_ishr C.1 C.2.1 hd (k p l e s m args below meth c D cI ad0 A Qs C E ad H locs lsA hR hL)

theorem v_iushr {x y v : Int32} (hd : DcAt M.2.1 pc (.iushr) 1 pc') (hv : (x.toUInt32 >>> (y.toUInt32 &&& Int32.toUInt32 31)).toInt32 = v) (k : Vd R ex M n0 Z ca sl pc' ls (.int v :: st) w) : Vd R ex M n0 Z ca sl pc ls (.int y :: .int x :: st) w := by
  intro p l e s m args below meth c D cI ad0 A Qs C E ad H locs lsA hR hL
  obtain ⟨hd, rfl⟩ := hd
  exact lv_iushr C.1 C.2.1 hd hv (k p l e s m args below meth c D cI ad0 A Qs C E ad H locs lsA hR hL)

theorem v_idiv {x y : Int32} (hd : DcAt M.2.1 pc (.idiv) 1 pc') (hne : ¬ y = 0) (k : Vd R ex M n0 Z ca sl pc' ls (.int (x / y) :: st) w) : Vd R ex M n0 Z ca sl pc ls (.int y :: .int x :: st) w := by
  intro p l e s m args below meth c D cI ad0 A Qs C E ad H locs lsA hR hL
  obtain ⟨hd, rfl⟩ := hd
  exact lv_idiv C.1 C.2.1 hd hne (k p l e s m args below meth c D cI ad0 A Qs C E ad H locs lsA hR hL)

theorem v_irem {x y : Int32} (hd : DcAt M.2.1 pc (.irem) 1 pc') (hne : ¬ y = 0) (k : Vd R ex M n0 Z ca sl pc' ls (.int (x - x / y * y) :: st) w) : Vd R ex M n0 Z ca sl pc ls (.int y :: .int x :: st) w := by
  intro p l e s m args below meth c D cI ad0 A Qs C E ad H locs lsA hR hL
  obtain ⟨hd, rfl⟩ := hd
  exact lv_irem C.1 C.2.1 hd hne (k p l e s m args below meth c D cI ad0 A Qs C E ad H locs lsA hR hL)

theorem v_ineg {x : Int32} (hd : DcAt M.2.1 pc (.ineg) 1 pc') (k : Vd R ex M n0 Z ca sl pc' ls (.int (-x) :: st) w) : Vd R ex M n0 Z ca sl pc ls (.int x :: st) w := by
  intro p l e s m args below meth c D cI ad0 A Qs C E ad H locs lsA hR hL
  obtain ⟨hd, rfl⟩ := hd
  exact lv_ineg C.1 C.2.1 hd (k p l e s m args below meth c D cI ad0 A Qs C E ad H locs lsA hR hL)

theorem v_dup {v : Value} (hd : DcAt M.2.1 pc (.dup) 1 pc') (hc : v.category = 1) (k : Vd R ex M n0 Z ca sl pc' ls (v :: v :: st) w) : Vd R ex M n0 Z ca sl pc ls (v :: st) w := by
  intro p l e s m args below meth c D cI ad0 A Qs C E ad H locs lsA hR hL
  obtain ⟨hd, rfl⟩ := hd
  exact lv_dup C.1 C.2.1 hd (xv_cat.trans hc) (k p l e s m args below meth c D cI ad0 A Qs C E ad H locs lsA hR hL)

theorem v_pop {v : Value} (hd : DcAt M.2.1 pc (.pop) 1 pc') (hc : v.category = 1) (k : Vd R ex M n0 Z ca sl pc' ls (st) w) : Vd R ex M n0 Z ca sl pc ls (v :: st) w := by
  intro p l e s m args below meth c D cI ad0 A Qs C E ad H locs lsA hR hL
  obtain ⟨hd, rfl⟩ := hd
  exact lv_pop C.1 C.2.1 hd (xv_cat.trans hc) (k p l e s m args below meth c D cI ad0 A Qs C E ad H locs lsA hR hL)

theorem v_dup2 {v u : Value} (hd : DcAt M.2.1 pc (.dup2) 1 pc') (hc : v.category = 1) (hu : u.category = 1) (k : Vd R ex M n0 Z ca sl pc' ls (v :: u :: v :: u :: st) w) : Vd R ex M n0 Z ca sl pc ls (v :: u :: st) w := by
  intro p l e s m args below meth c D cI ad0 A Qs C E ad H locs lsA hR hL
  obtain ⟨hd, rfl⟩ := hd
  exact lv_dup2_11 C.1 C.2.1 hd (xv_cat.trans hc) (xv_cat.trans hu) (k p l e s m args below meth c D cI ad0 A Qs C E ad H locs lsA hR hL)

theorem v_goto {off : Int} {tgt : Nat} (hd : DcAt M.2.1 pc (.goto off) 3 pc') (ht : (pc : Int) + off = (tgt : Int)) (k : Vd R ex M n0 Z ca sl tgt ls (st) w) : Vd R ex M n0 Z ca sl pc ls (st) w := by
  intro p l e s m args below meth c D cI ad0 A Qs C E ad H locs lsA hR hL
  exact lv_goto C.1 C.2.1 hd.1 ht (k p l e s m args below meth c D cI ad0 A Qs C E ad H locs lsA hR hL)

theorem v_if_eq {x : Int32} {off : Int} {tgt : Nat} (hd : DcAt M.2.1 pc (.ifCond .eq off) 3 pc') (ht : (pc : Int) + off = (tgt : Int)) (kt : x = 0 → Vd R ex M n0 Z ca sl tgt ls (st) w) (kf : ¬ x = 0 → Vd R ex M n0 Z ca sl pc' ls (st) w) : Vd R ex M n0 Z ca sl pc ls (.int x :: st) w := by
  intro p l e s m args below meth c D cI ad0 A Qs C E ad H locs lsA hR hL
  obtain ⟨hd, rfl⟩ := hd
  exact lv_if_eq C.1 C.2.1 hd ht (fun q => kt q p l e s m args below meth c D cI ad0 A Qs C E ad H locs lsA hR hL) (fun q => kf q p l e s m args below meth c D cI ad0 A Qs C E ad H locs lsA hR hL)

theorem v_if_ne {x : Int32} {off : Int} {tgt : Nat} (hd : DcAt M.2.1 pc (.ifCond .ne off) 3 pc') (ht : (pc : Int) + off = (tgt : Int)) (kt : ¬ x = 0 → Vd R ex M n0 Z ca sl tgt ls (st) w) (kf : x = 0 → Vd R ex M n0 Z ca sl pc' ls (st) w) : Vd R ex M n0 Z ca sl pc ls (.int x :: st) w := by
  intro p l e s m args below meth c D cI ad0 A Qs C E ad H locs lsA hR hL
  obtain ⟨hd, rfl⟩ := hd
  exact lv_if_ne C.1 C.2.1 hd ht (fun q => kt q p l e s m args below meth c D cI ad0 A Qs C E ad H locs lsA hR hL) (fun q => kf q p l e s m args below meth c D cI ad0 A Qs C E ad H locs lsA hR hL)

theorem v_if_lt {x : Int32} {off : Int} {tgt : Nat} (hd : DcAt M.2.1 pc (.ifCond .lt off) 3 pc') (ht : (pc : Int) + off = (tgt : Int)) (kt : x < 0 → Vd R ex M n0 Z ca sl tgt ls (st) w) (kf : ¬ x < 0 → Vd R ex M n0 Z ca sl pc' ls (st) w) : Vd R ex M n0 Z ca sl pc ls (.int x :: st) w := by
  intro p l e s m args below meth c D cI ad0 A Qs C E ad H locs lsA hR hL
  obtain ⟨hd, rfl⟩ := hd
  exact lv_if_lt C.1 C.2.1 hd ht (fun q => kt q p l e s m args below meth c D cI ad0 A Qs C E ad H locs lsA hR hL) (fun q => kf q p l e s m args below meth c D cI ad0 A Qs C E ad H locs lsA hR hL)

theorem v_if_ge {x : Int32} {off : Int} {tgt : Nat} (hd : DcAt M.2.1 pc (.ifCond .ge off) 3 pc') (ht : (pc : Int) + off = (tgt : Int)) (kt : 0 ≤ x → Vd R ex M n0 Z ca sl tgt ls (st) w) (kf : ¬ 0 ≤ x → Vd R ex M n0 Z ca sl pc' ls (st) w) : Vd R ex M n0 Z ca sl pc ls (.int x :: st) w := by
  intro p l e s m args below meth c D cI ad0 A Qs C E ad H locs lsA hR hL
  obtain ⟨hd, rfl⟩ := hd
  exact lv_if_ge C.1 C.2.1 hd ht (fun q => kt q p l e s m args below meth c D cI ad0 A Qs C E ad H locs lsA hR hL) (fun q => kf q p l e s m args below meth c D cI ad0 A Qs C E ad H locs lsA hR hL)

theorem v_if_gt {x : Int32} {off : Int} {tgt : Nat} (hd : DcAt M.2.1 pc (.ifCond .gt off) 3 pc') (ht : (pc : Int) + off = (tgt : Int)) (kt : 0 < x → Vd R ex M n0 Z ca sl tgt ls (st) w) (kf : ¬ 0 < x → Vd R ex M n0 Z ca sl pc' ls (st) w) : Vd R ex M n0 Z ca sl pc ls (.int x :: st) w := by
  intro p l e s m args below meth c D cI ad0 A Qs C E ad H locs lsA hR hL
  obtain ⟨hd, rfl⟩ := hd
  exact lv_if_gt C.1 C.2.1 hd ht (fun q => kt q p l e s m args below meth c D cI ad0 A Qs C E ad H locs lsA hR hL) (fun q => kf q p l e s m args below meth c D cI ad0 A Qs C E ad H locs lsA hR hL)

theorem v_if_le {x : Int32} {off : Int} {tgt : Nat} (hd : DcAt M.2.1 pc (.ifCond .le off) 3 pc') (ht : (pc : Int) + off = (tgt : Int)) (kt : x ≤ 0 → Vd R ex M n0 Z ca sl tgt ls (st) w) (kf : ¬ x ≤ 0 → Vd R ex M n0 Z ca sl pc' ls (st) w) : Vd R ex M n0 Z ca sl pc ls (.int x :: st) w := by
  intro p l e s m args below meth c D cI ad0 A Qs C E ad H locs lsA hR hL
  obtain ⟨hd, rfl⟩ := hd
  exact lv_if_le C.1 C.2.1 hd ht (fun q => kt q p l e s m args below meth c D cI ad0 A Qs C E ad H locs lsA hR hL) (fun q => kf q p l e s m args below meth c D cI ad0 A Qs C E ad H locs lsA hR hL)

theorem v_icmp_eq {x y : Int32} {off : Int} {tgt : Nat} (hd : DcAt M.2.1 pc (.if_icmp .eq off) 3 pc') (ht : (pc : Int) + off = (tgt : Int)) (kt : x = y → Vd R ex M n0 Z ca sl tgt ls (st) w) (kf : ¬ x = y → Vd R ex M n0 Z ca sl pc' ls (st) w) : Vd R ex M n0 Z ca sl pc ls (.int y :: .int x :: st) w := by
  intro p l e s m args below meth c D cI ad0 A Qs C E ad H locs lsA hR hL
  obtain ⟨hd, rfl⟩ := hd
  exact lv_icmp_eq C.1 C.2.1 hd ht (fun q => kt q p l e s m args below meth c D cI ad0 A Qs C E ad H locs lsA hR hL) (fun q => kf q p l e s m args below meth c D cI ad0 A Qs C E ad H locs lsA hR hL)

theorem v_icmp_ne {x y : Int32} {off : Int} {tgt : Nat} (hd : DcAt M.2.1 pc (.if_icmp .ne off) 3 pc') (ht : (pc : Int) + off = (tgt : Int)) (kt : ¬ x = y → Vd R ex M n0 Z ca sl tgt ls (st) w) (kf : x = y → Vd R ex M n0 Z ca sl pc' ls (st) w) : Vd R ex M n0 Z ca sl pc ls (.int y :: .int x :: st) w := by
  intro p l e s m args below meth c D cI ad0 A Qs C E ad H locs lsA hR hL
  obtain ⟨hd, rfl⟩ := hd
  exact lv_icmp_ne C.1 C.2.1 hd ht (fun q => kt q p l e s m args below meth c D cI ad0 A Qs C E ad H locs lsA hR hL) (fun q => kf q p l e s m args below meth c D cI ad0 A Qs C E ad H locs lsA hR hL)

theorem v_icmp_lt {x y : Int32} {off : Int} {tgt : Nat} (hd : DcAt M.2.1 pc (.if_icmp .lt off) 3 pc') (ht : (pc : Int) + off = (tgt : Int)) (kt : x < y → Vd R ex M n0 Z ca sl tgt ls (st) w) (kf : ¬ x < y → Vd R ex M n0 Z ca sl pc' ls (st) w) : Vd R ex M n0 Z ca sl pc ls (.int y :: .int x :: st) w := by
  intro p l e s m args below meth c D cI ad0 A Qs C E ad H locs lsA hR hL
  obtain ⟨hd, rfl⟩ := hd
  exact lv_icmp_lt C.1 C.2.1 hd ht (fun q => kt q p l e s m args below meth c D cI ad0 A Qs C E ad H locs lsA hR hL) (fun q => kf q p l e s m args below meth c D cI ad0 A Qs C E ad H locs lsA hR hL)

theorem v_icmp_ge {x y : Int32} {off : Int} {tgt : Nat} (hd : DcAt M.2.1 pc (.if_icmp .ge off) 3 pc') (ht : (pc : Int) + off = (tgt : Int)) (kt : y ≤ x → Vd R ex M n0 Z ca sl tgt ls (st) w) (kf : ¬ y ≤ x → Vd R ex M n0 Z ca sl pc' ls (st) w) : Vd R ex M n0 Z ca sl pc ls (.int y :: .int x :: st) w := by
  intro p l e s m args below meth c D cI ad0 A Qs C E ad H locs lsA hR hL
  obtain ⟨hd, rfl⟩ := hd
  exact lv_icmp_ge C.1 C.2.1 hd ht (fun q => kt q p l e s m args below meth c D cI ad0 A Qs C E ad H locs lsA hR hL) (fun q => kf q p l e s m args below meth c D cI ad0 A Qs C E ad H locs lsA hR hL)

theorem v_icmp_gt {x y : Int32} {off : Int} {tgt : Nat} (hd : DcAt M.2.1 pc (.if_icmp .gt off) 3 pc') (ht : (pc : Int) + off = (tgt : Int)) (kt : y < x → Vd R ex M n0 Z ca sl tgt ls (st) w) (kf : ¬ y < x → Vd R ex M n0 Z ca sl pc' ls (st) w) : Vd R ex M n0 Z ca sl pc ls (.int y :: .int x :: st) w := by
  intro p l e s m args below meth c D cI ad0 A Qs C E ad H locs lsA hR hL
  obtain ⟨hd, rfl⟩ := hd
  exact lv_icmp_gt C.1 C.2.1 hd ht (fun q => kt q p l e s m args below meth c D cI ad0 A Qs C E ad H locs lsA hR hL) (fun q => kf q p l e s m args below meth c D cI ad0 A Qs C E ad H locs lsA hR hL)

theorem v_icmp_le {x y : Int32} {off : Int} {tgt : Nat} (hd : DcAt M.2.1 pc (.if_icmp .le off) 3 pc') (ht : (pc : Int) + off = (tgt : Int)) (kt : x ≤ y → Vd R ex M n0 Z ca sl tgt ls (st) w) (kf : ¬ x ≤ y → Vd R ex M n0 Z ca sl pc' ls (st) w) : Vd R ex M n0 Z ca sl pc ls (.int y :: .int x :: st) w := by
  intro p l e s m args below meth c D cI ad0 A Qs C E ad H locs lsA hR hL
  obtain ⟨hd, rfl⟩ := hd
  exact lv_icmp_le C.1 C.2.1 hd ht (fun q => kt q p l e s m args below meth c D cI ad0 A Qs C E ad H locs lsA hR hL) (fun q => kf q p l e s m args below meth c D cI ad0 A Qs C E ad H locs lsA hR hL)

/-- the locals that are known, as the kit's list -/
def xl (ad : Nat → Nat) : Nat → List (Option Value) → List (Nat × Value)
  | _, [] => []
  | i, none :: r => xl ad (i + 1) r
  | i, some v :: r => (i, xv ad v) :: xl ad (i + 1) r
theorem xl_in {ad : Nat → Nat} : ∀ (ls : List (Option Value)) (i : Nat) (q : Nat × Value), q ∈ xl ad i ls → ∃ (k : Nat) (v : Value), ls[k]? = some (some v) ∧ q = (i + k, xv ad v)
  | [], i, q, h => by simp [xl] at h
  | none :: r, i, q, h => by
    obtain ⟨k, v, h1, h2⟩ := xl_in r (i + 1) q h
    exact ⟨k + 1, v, by simpa using h1, by rw [h2, show i + 1 + k = i + (k + 1) by omega]⟩
  | some v :: r, i, q, h => by
    rcases List.mem_cons.mp h with h | h
    · exact ⟨0, v, rfl, h⟩
    · obtain ⟨k, u, h1, h2⟩ := xl_in r (i + 1) q h
      exact ⟨k + 1, u, by simpa using h1, by rw [h2, show i + 1 + k = i + (k + 1) by omega]⟩
theorem xl_mem {ad : Nat → Nat} : ∀ (ls : List (Option Value)) (i k : Nat) (v : Value), ls[k]? = some (some v) → (i + k, xv ad v) ∈ xl ad i ls
  | [], i, k, v, h => by simp at h
  | a :: r, i, 0, v, h => by
    simp only [List.getElem?_cons_zero, Option.some.injEq] at h
    subst h
    exact List.mem_cons_self
  | a :: r, i, k + 1, v, h => by
    have h' : r[k]? = some (some v) := by simpa using h
    have := xl_mem (ad := ad) r (i + 1) k v h'
    rw [show i + 1 + k = i + (k + 1) by omega] at this
    cases a with
    | none => exact this
    | some u => exact List.mem_cons_of_mem _ this
theorem XL.has {lsA : Array Slot} {nL : Nat} {ad : Nat → Nat} {ls : List (Option Value)} (h : XL lsA nL ad ls) : lv_has lsA nL (xl ad 0 ls) := by
  refine ⟨h.1, h.2.1, fun q hq => ?_⟩
  obtain ⟨k, v, h1, h2⟩ := xl_in ls 0 q hq
  rw [h2]
  simpa using (h.2.2 k v h1).1
theorem XL.put {lsA lsB : Array Slot} {nL i : Nat} {ad : Nat → Nat} {ls : List (Option Value)} {v : Value} (h : XL lsA nL ad ls) (hc : v.category = 1) (hn : lv_has lsB nL ((i, xv ad v) :: (xl ad 0 ls).filter (fun q => !(q.1 == i) && !(q.1 + 1 == i && q.2.category == 2)))) : XL lsB nL ad (ls.set i (some v)) := by
  refine ⟨hn.1, hn.2.1, fun k u hk => ?_⟩
  rw [List.getElem?_set] at hk
  by_cases hik : i = k
  · subst hik
    by_cases hl : i < ls.length
    · simp only [hl, ite_true, Option.some.injEq] at hk
      subst hk
      exact ⟨hn.2.2 (i, xv ad v) List.mem_cons_self, hc⟩
    · simp [hl] at hk
  · simp only [hik, ite_false] at hk
    obtain ⟨-, hcu⟩ := h.2.2 k u hk
    refine ⟨hn.2.2 (k, xv ad u) (List.mem_cons_of_mem _ (List.mem_filter.mpr ⟨?_, ?_⟩)), hcu⟩
    · have := xl_mem (ad := ad) ls 0 k u hk
      simpa using this
    · have e1 : (k == i) = false := by simpa using Ne.symm hik
      have e2 : ((xv ad u).category == 2) = false := by rw [xv_cat, hcu]; rfl
      simp only [e1, e2, Bool.and_false, Bool.not_false, Bool.and_self]

theorem v_istore_n {i : Fin 4} {x : Int32} (hd : DcAt M.2.1 pc (.istore_n i) 1 pc') (hn : (i : Nat) < M.2.2.1) (k : Vd R ex M n0 Z ca sl pc' (ls.set (i : Nat) (some (.int x))) (st) w) : Vd R ex M n0 Z ca sl pc ls (.int x :: st) w := by
  intro p l e s m args below meth c D cI ad0 A Qs C E ad H locs lsA hR hL
  obtain ⟨hd, rfl⟩ := hd
  exact lv_istore_n C.1 C.2.1 hd rfl hL.has hn rfl (fun lsB hB => k p l e s m args below meth c D cI ad0 A Qs C E ad H locs lsB hR (hL.put rfl hB))

theorem v_istore {i : Nat} {x : Int32} (hd : DcAt M.2.1 pc (.istore i) 2 pc') (hn : i < M.2.2.1) (k : Vd R ex M n0 Z ca sl pc' (ls.set i (some (.int x))) (st) w) : Vd R ex M n0 Z ca sl pc ls (.int x :: st) w := by
  intro p l e s m args below meth c D cI ad0 A Qs C E ad H locs lsA hR hL
  obtain ⟨hd, rfl⟩ := hd
  exact lv_istore C.1 C.2.1 hd hL.has hn rfl (fun lsB hB => k p l e s m args below meth c D cI ad0 A Qs C E ad H locs lsB hR (hL.put rfl hB))

theorem v_astore_n {i : Fin 4} {x : Nat} (hd : DcAt M.2.1 pc (.astore_n i) 1 pc') (hn : (i : Nat) < M.2.2.1) (k : Vd R ex M n0 Z ca sl pc' (ls.set (i : Nat) (some (.ref x))) (st) w) : Vd R ex M n0 Z ca sl pc ls (.ref x :: st) w := by
  intro p l e s m args below meth c D cI ad0 A Qs C E ad H locs lsA hR hL
  obtain ⟨hd, rfl⟩ := hd
  exact lv_astore_n C.1 C.2.1 hd rfl hL.has hn rfl (fun lsB hB => k p l e s m args below meth c D cI ad0 A Qs C E ad H locs lsB hR (hL.put rfl hB))

theorem v_astore {i : Nat} {x : Nat} (hd : DcAt M.2.1 pc (.astore i) 2 pc') (hn : i < M.2.2.1) (k : Vd R ex M n0 Z ca sl pc' (ls.set i (some (.ref x))) (st) w) : Vd R ex M n0 Z ca sl pc ls (.ref x :: st) w := by
  intro p l e s m args below meth c D cI ad0 A Qs C E ad H locs lsA hR hL
  obtain ⟨hd, rfl⟩ := hd
  exact lv_astore C.1 C.2.1 hd hL.has hn rfl (fun lsB hB => k p l e s m args below meth c D cI ad0 A Qs C E ad H locs lsB hR (hL.put rfl hB))

theorem v_iinc {i : Nat} {n : Int} {x v : Int32} (hd : DcAt M.2.1 pc (.iinc i n) 3 pc') (hl : ls[i]? = some (some (.int x))) (hv : x + Int32.ofInt n = v) (hn : i < M.2.2.1) (k : Vd R ex M n0 Z ca sl pc' (ls.set i (some (.int v))) (st) w) : Vd R ex M n0 Z ca sl pc ls (st) w := by
  intro p l e s m args below meth c D cI ad0 A Qs C E ad H locs lsA hR hL
  obtain ⟨hd, rfl⟩ := hd
  have hm := xl_mem (ad := ad) ls 0 i (.int x) hl
  rw [Nat.zero_add] at hm
  obtain ⟨j, hj⟩ := List.getElem?_of_mem hm
  exact lv_iinc C.1 C.2.1 hd hL.has (k := j) hj hv hn rfl (fun lsB hB => k p l e s m args below meth c D cI ad0 A Qs C E ad H locs lsB hR (hL.put rfl hB))

theorem v_tableIn {dflt lo hi : Int} {offs : Array Int} {len : Nat} {x : Int32} {off : Int} {tgt : Nat} (hd : DcAt M.2.1 pc (.tableswitch dflt lo hi offs) len pc') (h1 : ¬ x.toInt < lo) (h2 : ¬ hi < x.toInt) (ho : offs[(x.toInt - lo).toNat]? = some off) (ht : (pc : Int) + off = (tgt : Int)) (k : Vd R ex M n0 Z ca sl tgt ls (st) w) : Vd R ex M n0 Z ca sl pc ls (.int x :: st) w := by
  intro p l e s m args below meth c D cI ad0 A Qs C E ad H locs lsA hR hL
  exact lv_tableIn C.1 C.2.1 hd.1 h1 h2 ho ht (k p l e s m args below meth c D cI ad0 A Qs C E ad H locs lsA hR hL)
theorem v_tableOut {dflt lo hi : Int} {offs : Array Int} {len : Nat} {x : Int32} {tgt : Nat} (hd : DcAt M.2.1 pc (.tableswitch dflt lo hi offs) len pc') (h : x.toInt < lo ∨ hi < x.toInt) (ht : (pc : Int) + dflt = (tgt : Int)) (k : Vd R ex M n0 Z ca sl tgt ls (st) w) : Vd R ex M n0 Z ca sl pc ls (.int x :: st) w := by
  intro p l e s m args below meth c D cI ad0 A Qs C E ad H locs lsA hR hL
  exact lv_tableOut C.1 C.2.1 hd.1 h ht (k p l e s m args below meth c D cI ad0 A Qs C E ad H locs lsA hR hL)
theorem v_lookup {dflt : Int} {ps : Array (Int × Int)} {len : Nat} {x : Int32} {off : Int} {tgt : Nat} (hd : DcAt M.2.1 pc (.lookupswitch dflt ps) len pc') (hp : (ps.toList.zip (ps.toList.drop 1)).all (fun (a, next) => a.1 < next.1) = true) (ho : Op.lookupswitch.offset ps.toList dflt x.toInt = off) (ht : (pc : Int) + off = (tgt : Int)) (k : Vd R ex M n0 Z ca sl tgt ls (st) w) : Vd R ex M n0 Z ca sl pc ls (.int x :: st) w := by
  intro p l e s m args below meth c D cI ad0 A Qs C E ad H locs lsA hR hL
  exact lv_lookup C.1 C.2.1 hd.1 hp ho ht (k p l e s m args below meth c D cI ad0 A Qs C E ad H locs lsA hR hL)

theorem v_ireturn {x : Int32} (hd : DcAt M.2.1 pc .ireturn 1 pc') (ht : M.2.2.2 = some .int ∨ (M.2.2.2 = some .boolean ∧ (x = 0 ∨ x = 1))) (hc : ca ≤ R.cells) (hs : sl ≤ R.slots) (hz : Z w (some (.int x))) : Vd R ex M n0 Z ca sl pc ls (.int x :: []) w := by
  intro p l e s m args below meth c D cI ad0 A Qs C E ad H locs lsA hR hL
  exact W.widen hc hs ((E w ad H locs lsA pc hR).1 x hd.1 ht hz)
theorem v_areturn {k : Nat} (hd : DcAt M.2.1 pc .areturn 1 pc') (ht : ∃ C, M.2.2.2 = some (.object C)) (hc : ca ≤ R.cells) (hs : sl ≤ R.slots) (hz : Z w (some (.ref k))) : Vd R ex M n0 Z ca sl pc ls (.ref k :: []) w := by
  intro p l e s m args below meth c D cI ad0 A Qs C E ad H locs lsA hR hL
  exact W.widen hc hs ((E w ad H locs lsA pc hR).2.1 k hd.1 ht hz)
theorem v_return (hd : DcAt M.2.1 pc .return_ 1 pc') (ht : M.2.2.2 = none) (hc : ca ≤ R.cells) (hs : sl ≤ R.slots) (hz : Z w none) : Vd R ex M n0 Z ca sl pc ls ([]) w := by
  intro p l e s m args below meth c D cI ad0 A Qs C E ad H locs lsA hR hL
  exact W.widen hc hs ((E w ad H locs lsA pc hR).2.2 hd.1 ht hz)

theorem XRep.sub {cI : ClassId} {D : va_G} {ad0 ad : Nat → Nat} {A : Nat → Prop} {n0 : Nat} {s : State} {w : XW} {H H1 : Heap} {locs locs1 : List Loc} {b : Nat} {e : XE} (h : XRep cI D ad0 ad A n0 s w H locs) (hP : va_P D vwCl (xw cI ad (w.set b e)) H1) (hD : va_D A (xw cI ad (w.set b e))) (hS : va_S A s.heap H1 locs1) : XRep cI D ad0 ad A n0 s (w.set b e) H1 locs1 :=
  ⟨h.1, by rw [List.length_set]; exact h.2.1, by rw [List.length_set]; exact h.2.2.1, hP, hD, hS⟩
theorem v_get {idx ci fk b : Nat} {ty : FieldType} {fin : Bool} {fs : List Value} {v : Value} (g : XG M.1.cls idx ci fk ty fin) (hd : DcAt M.2.1 pc (.getfield idx) 3 pc') (hw : w[b]? = some (.inr (ci, fs))) (hv : fs[fk]? = some v) (k : Vd R ex M n0 Z ca sl pc' ls (v :: st) w) : Vd R ex M n0 Z ca sl pc ls (.ref b :: st) w := by
  intro p l e s m args below meth c D cI ad0 A Qs C E ad H locs lsA hR hL
  obtain ⟨hd, rfl⟩ := hd
  obtain ⟨Cn, T, N, ty0, g1, g2, g3, g4, g5, g6, g7, g8⟩ := g
  obtain ⟨hx, hb, hml, hr, hlocks, hown, hts, hnm, hK, hA, hX⟩ := id C
  exact va_get (D := D) (ci := ci) (v := xv ad v) (C := Cn) (T := T) (N := N) hx hb hts g2 hown hK hR.2.2.2.1 b (xw_at hw) g1 fk g5 (hts _ g6) (fun _ h9 => h9) (by rw [List.getElem?_map, hv]; rfl) hd (k p l e s m args below meth c D cI ad0 A Qs C E ad H locs lsA hR hL)
theorem v_puti {idx ci fk b : Nat} {ty : FieldType} {fs : List Value} {x : Int32} (g : XG M.1.cls idx ci fk ty false) (hd : DcAt M.2.1 pc (.putfield idx) 3 pc') (hw : w[b]? = some (.inr (ci, fs))) (hl : fk < fs.length) (hn : narrow ty (.int x) = .int x) (hf : fits ty (.int x) = true) (k : Vd R ex M n0 Z ca sl pc' ls (st) (w.set b (.inr (ci, fs.set fk (.int x))))) : Vd R ex M n0 Z ca sl pc ls (.int x :: .ref b :: st) w := by
  intro p l e s m args below meth c D cI ad0 A Qs C E ad H locs lsA hR hL
  obtain ⟨hd, rfl⟩ := hd
  obtain ⟨Cn, T, N, ty0, g1, g2, g3, g4, g5, g6, g7, g8⟩ := g
  obtain ⟨hx, hb, hml, hr, hlocks, hown, hts, hnm, hK, hA, hX⟩ := id C
  refine va_put (D := D) (ci := ci) (v := .int x) (C := Cn) (T := T) (N := N) hx hb hts g2 ty0 g3 g4 hown hK hR.2.2.2.1 hR.2.2.2.2.1 hR.2.2.2.2.2 b (xw_at hw) g1 fk g5 (hts _ g6) (fun _ h9 => h9) g8 g7 hn hf (by rw [List.length_map]; exact hl) hd (fun H1 locs1 hP hD hS => ?_)
  have e1 : xw cI ad (w.set b (.inr (ci, fs.set fk (.int x)))) = (xw cI ad w).set b (ad b, .inr (ci, (fs.map (xv ad)).set fk (.int x))) := by rw [xw_set]; simp [xe, List.map_set, xv]
  exact k p l e s m args below meth c D cI ad0 A Qs C E ad H1 locs1 lsA (hR.sub (by rw [e1]; exact hP) (by rw [e1]; exact hD) hS) hL
theorem v_putF {idx ci fk b : Nat} {ty : FieldType} {fs : List Value} {v : Value} (g : XG M.1.cls idx ci fk ty true) (hown2 : ∀ q, vwCl[ci]? = some q → (q.2.1 fk).1 = M.1.cls) (hin : M.1.name = "<init>") (hd : DcAt M.2.1 pc (.putfield idx) 3 pc') (hw : w[b]? = some (.inr (ci, fs))) (hl : fk < fs.length) (hn : ∀ ad, narrow ty (xv ad v) = xv ad v) (hf : ∀ ad, fits ty (xv ad v) = true) (k : Vd R ex M n0 Z ca sl pc' ls (st) (w.set b (.inr (ci, fs.set fk v)))) : Vd R ex M n0 Z ca sl pc ls (v :: .ref b :: st) w := by
  intro p l e s m args below meth c D cI ad0 A Qs C E ad H locs lsA hR hL
  obtain ⟨hd, rfl⟩ := hd
  obtain ⟨Cn, T, N, ty0, g1, g2, g3, g4, g5, g6, g7, g8⟩ := g
  obtain ⟨hx, hb, hml, hr, hlocks, hown, hts, hnm, hK, hA, hX⟩ := id C
  refine va_putF (D := D) (ci := ci) (v := xv ad v) (C := Cn) (T := T) (N := N) hx hb hts g2 ty0 g3 g4 hown hK hR.2.2.2.1 hR.2.2.2.2.1 hR.2.2.2.2.2 b (xw_at hw) g1 fk g5 (hts _ g6) (fun _ h9 => h9) g8 (hnm.trans hin) (hown2 _ g1) g7 (hn ad) (hf ad) (by rw [List.length_map]; exact hl) hd (fun H1 locs1 hP hD hS => ?_)
  have e1 : xw cI ad (w.set b (.inr (ci, fs.set fk v))) = (xw cI ad w).set b (ad b, .inr (ci, (fs.map (xv ad)).set fk (xv ad v))) := by rw [xw_set]; simp [xe, List.map_set]
  exact k p l e s m args below meth c D cI ad0 A Qs C E ad H1 locs1 lsA (hR.sub (by rw [e1]; exact hP) (by rw [e1]; exact hD) hS) hL
theorem v_iaload {b N : Nat} {f : Nat → Int32} {i x : Int32} (hd : DcAt M.2.1 pc .iaload 1 pc') (hw : w[b]? = some (.inl (N, f))) (hi : vp_in i N) (hx : f i.toNatClampNeg = x) (k : Vd R ex M n0 Z ca sl pc' ls (.int x :: st) w) : Vd R ex M n0 Z ca sl pc ls (.int i :: .ref b :: st) w := by
  intro p l e s m args below meth c D cI ad0 A Qs C E ad H locs lsA hR hL
  obtain ⟨hd, rfl⟩ := hd
  subst hx
  obtain ⟨hx, hb, hml, hr, hlocks, hown, hts, hnm, hK, hA, hX⟩ := id C
  exact va_iald hx hb hK hR.2.2.2.1 b 0 (xw_at hw) rfl hi hd (k p l e s m args below meth c D cI ad0 A Qs C E ad H locs lsA hR hL)
theorem v_iastore {b N : Nat} {f : Nat → Int32} {i x : Int32} (hd : DcAt M.2.1 pc .iastore 1 pc') (hw : w[b]? = some (.inl (N, f))) (hi : vp_in i N) (k : Vd R ex M n0 Z ca sl pc' ls (st) (w.set b (.inl (N, upd f i.toNatClampNeg x)))) : Vd R ex M n0 Z ca sl pc ls (.int x :: .int i :: .ref b :: st) w := by
  intro p l e s m args below meth c D cI ad0 A Qs C E ad H locs lsA hR hL
  obtain ⟨hd, rfl⟩ := hd
  obtain ⟨hx, hb, hml, hr, hlocks, hown, hts, hnm, hK, hA, hX⟩ := id C
  refine va_iast hx hb hK hR.2.2.2.1 hR.2.2.2.2.1 hR.2.2.2.2.2 b 0 (xw_at hw) rfl hi hd (fun H1 locs1 hP hD hS => ?_)
  exact k p l e s m args below meth c D cI ad0 A Qs C E ad H1 locs1 lsA (hR.sub (by rw [xw_set]; exact hP) (by rw [xw_set]; exact hD) hS) hL
theorem v_alen {b N : Nat} {f : Nat → Int32} {v : Int32} (hd : DcAt M.2.1 pc .arraylength 1 pc') (hw : w[b]? = some (.inl (N, f))) (hv : Int32.ofNat N = v) (k : Vd R ex M n0 Z ca sl pc' ls (.int v :: st) w) : Vd R ex M n0 Z ca sl pc ls (.ref b :: st) w := by
  intro p l e s m args below meth c D cI ad0 A Qs C E ad H locs lsA hR hL
  obtain ⟨hd, rfl⟩ := hd
  obtain ⟨hx, hb, hml, hr, hlocks, hown, hts, hnm, hK, hA, hX⟩ := id C
  exact va_alen hx hb hK hR.2.2.2.1 b 0 (xw_at hw) rfl hv hd (k p l e s m args below meth c D cI ad0 A Qs C E ad H locs lsA hR hL)
theorem v_gets {idx j : Nat} {q : String × String} (hd : DcAt M.2.1 pc (.getstatic idx) 3 pc') (hl : Cond.fieldLink M.1.cls idx q.1 q.2 "[I" ∈ goodTB) (hj : ST[j]? = some q) (k : Vd R ex M n0 Z ca sl pc' ls (.ref (SB + j) :: st) w) : Vd R ex M n0 Z ca sl pc ls (st) w := by
  intro p l e s m args below meth c D cI ad0 A Qs C E ad H locs lsA hR hL
  obtain ⟨hd, rfl⟩ := hd
  obtain ⟨hx, hb, hml, hr, hlocks, hown, hts, hnm, hK, hA, hX⟩ := id C
  have e1 : ad (SB + j) = ad0 (SB + j) := hR.1 _ (Or.inr (Nat.le_add_right _ _))
  refine va_gets hx hb (hX.1 j q hj) hR.2.2.2.2.2 hown (hts _ hl) (fun _ h9 => h9) hd ?_
  have := k p l e s m args below meth c D cI ad0 A Qs C E ad H locs lsA hR hL
  simp only [List.map_cons, xv, e1] at this
  exact this
theorem v_sald {j N : Nat} {f : Nat → Int32} {i x : Int32} (hd : DcAt M.2.1 pc .iaload 1 pc') (hj : (RO0 ++ ex)[j]? = some (N, f)) (hi : vp_in i N) (hx : f i.toNatClampNeg = x) (k : Vd R ex M n0 Z ca sl pc' ls (.int x :: st) w) : Vd R ex M n0 Z ca sl pc ls (.int i :: .ref (SB + j) :: st) w := by
  intro p l e s m args below meth c D cI ad0 A Qs C E ad H locs lsA hR hL
  obtain ⟨hd, rfl⟩ := hd
  subst hx
  obtain ⟨hx, hb, hml, hr, hlocks, hown, hts, hnm, hK, hA, hX⟩ := id C
  have e1 : ad (SB + j) = ad0 (SB + j) := hR.1 _ (Or.inr (Nat.le_add_right _ _))
  have hT := hX.2.1 j (N, f) hj
  simp only [List.map_cons, xv, e1]
  exact va_ti (f := fun i => .int (f i)) hx hb hT hR.2.2.2.2.2 hi rfl hd (k p l e s m args below meth c D cI ad0 A Qs C E ad H locs lsA hR hL)
theorem v_slen {j N : Nat} {f : Nat → Int32} {v : Int32} (hd : DcAt M.2.1 pc .arraylength 1 pc') (hj : (RO0 ++ ex)[j]? = some (N, f)) (hv : Int32.ofNat N = v) (k : Vd R ex M n0 Z ca sl pc' ls (.int v :: st) w) : Vd R ex M n0 Z ca sl pc ls (.ref (SB + j) :: st) w := by
  intro p l e s m args below meth c D cI ad0 A Qs C E ad H locs lsA hR hL
  obtain ⟨hd, rfl⟩ := hd
  obtain ⟨hx, hb, hml, hr, hlocks, hown, hts, hnm, hK, hA, hX⟩ := id C
  have e1 : ad (SB + j) = ad0 (SB + j) := hR.1 _ (Or.inr (Nat.le_add_right _ _))
  have hT := hX.2.1 j (N, f) hj
  simp only [List.map_cons, xv, e1]
  exact va_tlen hx hb hT hR.2.2.2.2.2 hv hd (k p l e s m args below meth c D cI ad0 A Qs C E ad H locs lsA hR hL)

end VdRules
section VdCalls
theorem good_in {M : MI} (h : Cond.code M.1 M.2.1 M.2.2.1 M.2.2.2 ∈ goodTB) : GoodIn goodTB (xws M) := by
  intro w hw
  have hm : w ∈ goodTB := by
    rcases List.mem_cons.mp hw with rfl | h'
    · exact h
    · exact h'
  exact ⟨hm, good_of_word (List.mem_filter.mp hm).2⟩
theorem xpre_blind {cI : ClassId} {D : va_G} {ad : Nat → Nat} {sz : Nat} {w : XW} {av : List Value} : FrameBlind (va_Pc av (XPre cI D ad sz w)) := by
  intro a U g mk q
  obtain ⟨q0, q1, qP, qK, qD, ⟨qz, qt, qn⟩, qL⟩ := q
  exact ⟨q0, q1, qP, va_K.moved (u := U) (U := U.calling g mk a) (Vm.Alike.refl U.vm) qK, qD, ⟨fun j q h => va_Z.moved (u := U) (U := U.calling g mk a) (Vm.Alike.refl U.vm) (qz j q h), fun j q h => va_T.moved (u := U) (U := U.calling g mk a) (Vm.Alike.refl U.vm) (qt j q h), va_Nw.same rfl (u := U) (U := U.calling g mk a) rfl qn.1, va_Nw.same rfl (u := U) (U := U.calling g mk a) rfl qn.2⟩, qL⟩
set_option maxHeartbeats 4000000 in
theorem vr_call {p : Program} {l : Launch} {e : Env} {R : Room} {s : State} {m : MethodId} {args : Array Value} {below : List Frame} {meth : Method} {c : Code} {H : Heap} {locs : List Loc} {cells slots mc ms : Nat} {Q : State → Prop} {pc : Nat} {lsA : Array Slot} {st0 rest : List Value} {A0 A1 : Nat → Prop} {H0 : Heap} {free : Addr → Prop} {cI : ClassId} {D : va_G} {ad : Nat → Nat} {n : Nat} {Z : XW → Option Value → Prop}
    (hr : va_Run p l e R s m args below meth c H locs cells slots mc ms (F0 m pc lsA st0) rest (fun st oc t => XPost cI D ad A1 n Z st oc t) free) (hS : va_S A0 H0 H locs) (hA : ∀ q, A1 q → A0 q) (hf : ∀ q, free q → A0 q)
    (kk : ∀ (w' : XW) (r : Option Value) (ad' : Nat → Nat) (H1 : Heap) (locs1 : List Loc), Z w' r → ag n ad ad' → n ≤ w'.length → w'.length ≤ SB → va_P D vwCl (xw cI ad' w') H1 → va_D A0 (xw cI ad' w') → va_S A0 H0 H1 locs1 → W p l e R s m args below meth c H1 locs1 (cells + mc) (slots + ms) Q (F0 m (pc + 3) lsA ((r.map (xv ad')).toList ++ rest))) : W p l e R s m args below meth c H locs cells slots Q (F0 m pc lsA st0) := by
  intro T hT X
  obtain ⟨v, st₀, t, T', L, h0, X', hL, e1, e2, ⟨w', r, ad', z1, z2, z3, z4, z5, z6, z7, hz, hk⟩, st⟩ := hr T hT X
  cases z2
  rw [h0] at hz hk
  obtain ⟨t2, a1, b1⟩ := kk w' r ad' T'.heap (locs ++ L) z1 z3 z4 z5 (by rw [e1]; exact z6) (z7.weaken (fun _ _ _ h => hA _ h))
    ⟨Nat.le_trans hS.1 (by rw [e1]; exact hz), fun q h1 h2 => by rw [e1, hk q (Nat.lt_of_lt_of_le h1 hS.1) (fun z => h2 (hA q z))]; exact hS.2.1 q h1 h2, fun q hq => by
      rcases List.mem_append.mp hq with h | h
      · exact hS.2.2 q h
      · exact hf _ (hL q h)⟩ T' rfl X'
  exact ⟨t2, st t2 a1, b1⟩
variable {R R' : Room} {ex : List (Nat × (Nat → Int32))} {M M' : MI} {n0 : Nat} {Z Z' : XW → Option Value → Prop} {ca sl pc pc' idx np b : Nat} {ls : List (Option Value)} {As rest st : List Value} {w : XW}
/-- places that the locals and the stack name are in the world -/
def rkw (w : XW) (v : Value) : Bool := match v with
  | .ref k => decide (SB ≤ k) || (w[k]?).isSome
  | _ => true
def lok (w : XW) (ls : List (Option Value)) (rest : List Value) : Bool := ls.all (fun o => match o with
  | none => true
  | some v => rkw w v) && rest.all (rkw w)
theorem rkw_rk {w : XW} {v : Value} (h : rkw w v = true) : rk w.length v = true := by
  cases v with
  | ref k =>
    simp only [rkw, Bool.or_eq_true, decide_eq_true_eq] at h
    simp only [rk, Bool.or_eq_true, decide_eq_true_eq]
    rcases h with h | h
    · exact Or.inr h
    · refine Or.inl ?_
      cases hk : w[k]? with
      | none => rw [hk] at h; cases h
      | some e => exact (List.getElem?_eq_some_iff.mp hk).1
  | _ => rfl
theorem lok_rest {w : XW} {ls : List (Option Value)} {rest : List Value} (hl : lok w ls rest = true) : rest.all (rk w.length) = true := by
  simp only [lok, Bool.and_eq_true] at hl
  exact List.all_eq_true.mpr fun v hv => rkw_rk (List.all_eq_true.mp hl.2 v hv)
theorem XL.ag {lsA : Array Slot} {nL : Nat} {ad ad' : Nat → Nat} {ls : List (Option Value)} {rest : List Value} (h : XL lsA nL ad ls) (hg : ag w.length ad ad') (hl : lok w ls rest = true) : XL lsA nL ad' ls := by
  refine ⟨h.1, h.2.1, fun k v hk => ?_⟩
  simp only [lok, Bool.and_eq_true] at hl
  have h1 := List.all_eq_true.mp hl.1 _ (List.mem_of_getElem? hk)
  rw [xv_ag hg (rkw_rk h1)]
  exact h.2.2 k v hk
theorem cat_sum {ad : Nat → Nat} (l : List Value) : ((l.map (xv ad)).map fun v => v.category).sum = (l.map fun v => v.category).sum := by
  rw [List.map_map]
  exact congrArg List.sum (List.map_congr_left fun v _ => xv_cat)
theorem bmem {cI : ClassId} {ad : Nat → Nat} {A : Nat → Prop} {w : XW} {H0 H : Heap} {locs : List Loc} (hD : va_D A (xw cI ad w)) (hS : va_S A H0 H locs) (hA : ∀ q, H0.size ≤ q → A q) : ∀ q, va_A (xw cI ad w) H.size q → A q := by
  intro q h
  rcases h with ⟨k, e, h⟩ | h
  · exact hD.2 k (q, e) h
  · exact hA q (Nat.le_trans hS.1 h)
set_option maxHeartbeats 4000000 in
theorem v_callV {ci : Nat} {fs : List Value} (g : XV M.1.cls idx M' np) (hd : DcAt M.2.1 pc (.invokevirtual idx) 3 pc') (h : Sp R' M' (.ref b :: As) w Z') (hst : st = As.reverse ++ .ref b :: rest) (hnp : As.length = np) (hw : w[b]? = some (.inr (ci, fs))) (hcl : (vwCl[ci]?).map (fun q => q.1) = some M'.1.cls) (hro : R'.frames + 1 ≤ R.frames ∧ 8 + (M'.2.2.1 + 11) + R'.locals ≤ R.locals ∧ ca + R'.cells ≤ R.cells ∧ sl + R'.slots ≤ R.slots) (hrs : (rest.map fun v => v.category).sum ≤ 8) (hlok : lok w ls rest = true)
    (k : ∀ (w' : XW) (r : Option Value), Z' w' r → w.length ≤ w'.length → Vd R ex M n0 Z (ca + R'.cells) (sl + R'.slots) pc' ls (r.toList ++ rest) w') : Vd R ex M n0 Z ca sl pc ls st w := by
  intro p l e s m args below meth c D cI ad0 A Qs C E ad H locs lsA hR hL
  obtain ⟨hd, rfl⟩ := hd
  obtain ⟨g1, g2, g3, g4, g5, g6, g7, g8⟩ := g
  obtain ⟨hx, hb, hml, hr, hlocks, hown, hts, hnm, hK, hA, hX⟩ := id C
  obtain ⟨r1, r2, r3, hP, hD, hS⟩ := id hR
  subst hst
  obtain ⟨q, hq, hq2⟩ := Option.map_eq_some_iff.mp hcl
  have hG := good_in g6
  have hB := bmem hD hS hA
  have cb := callB_of (R := R) (own := M.1.cls) (index := idx) (y := M'.1) (bytes := M'.2.1) (maxL := M'.2.2.1) (ret := M'.2.2.2) (rm := R') np hts hG rfl rfl rfl (hts _ g5) (hts _ g4) ⟨g1, g2, g3⟩ ⟨hro.1, hro.2.1⟩
  refine vr_call (va_runV (As := As.map (xv ad)) (rest := rest.map (xv ad)) (C := M'.1.cls) (b := ad b) ⟨hx, hb, hml, hown, hts⟩ (h l D cI ad H.size) ⟨cb, hts _ g7, hts _ g8⟩ ⟨xpre_blind, ?_, ?_⟩ rfl (by rw [List.length_map]; exact hnp) hL.1 (by simp [xv]) (lv_room (by rw [cat_sum]; exact hrs)) hd ⟨hro.2.2.1, hro.2.2.2⟩) hS hB hB ?_
  · have := va_recv hK hP hq (xw_at hw)
    rw [hq2] at this
    exact this
  · intro U hU hW
    exact ⟨by simp [xv], by rw [hU], by rw [hU]; exact hP, va_K.moved hW.alike hK, hD.weaken (fun _ _ _ _ => trivial), (by
      have := hX.to hS hU hW hB
      have e1 : (fun j => ad (SB + j)) = (fun j => ad0 (SB + j)) := funext fun j => r1 _ (Or.inr (Nat.le_add_right _ _))
      rw [e1]; exact this), r3⟩
  · intro w' r ad' H1 locs1 z1 z2 z3 z4 z5 z6 z7
    have := k w' r z1 z3 p l e s m args below meth c D cI ad0 A Qs C E ad' H1 locs1 lsA ⟨r1.tr z2 r2, Nat.le_trans r2 z3, z4, z5, z6, z7⟩ (hL.ag z2 hlok)
    rw [List.map_append, xvs_ag z2 (lok_rest hlok)] at this
    have e2 : r.toList.map (xv ad') = (r.map (xv ad')).toList := by cases r <;> rfl
    rw [e2] at this
    exact this
set_option maxHeartbeats 4000000 in
theorem v_callS (g : XT M.1.cls idx M' np) (hd : DcAt M.2.1 pc (.invokestatic idx) 3 pc') (h : Sp R' M' As w Z') (hst : st = As.reverse ++ rest) (hnp : As.length = np) (hro : R'.frames + 1 ≤ R.frames ∧ 8 + (M'.2.2.1 + 11) + R'.locals ≤ R.locals ∧ ca + R'.cells ≤ R.cells ∧ sl + R'.slots ≤ R.slots) (hrs : (rest.map fun v => v.category).sum ≤ 8) (hlok : lok w ls rest = true)
    (k : ∀ (w' : XW) (r : Option Value), Z' w' r → w.length ≤ w'.length → Vd R ex M n0 Z (ca + R'.cells) (sl + R'.slots) pc' ls (r.toList ++ rest) w') : Vd R ex M n0 Z ca sl pc ls st w := by
  intro p l e s m args below meth c D cI ad0 A Qs C E ad H locs lsA hR hL
  obtain ⟨hd, rfl⟩ := hd
  obtain ⟨g1, g2, g3, g4, g5, g6, g7⟩ := g
  obtain ⟨hx, hb, hml, hr, hlocks, hown, hts, hnm, hK, hA, hX⟩ := id C
  obtain ⟨r1, r2, r3, hP, hD, hS⟩ := id hR
  subst hst
  have hG := good_in g6
  have hB := bmem hD hS hA
  have cb := callB_of (R := R) (own := M.1.cls) (index := idx) (y := M'.1) (bytes := M'.2.1) (maxL := M'.2.2.1) (ret := M'.2.2.2) (rm := R') np hts hG rfl rfl rfl (hts _ g5) (hts _ g4) ⟨g1, g2, g3⟩ ⟨hro.1, hro.2.1⟩
  refine vr_call (va_runS (As := As.map (xv ad)) (rest := rest.map (xv ad)) ⟨hx, hb, hml, hown, hts⟩ (h l D cI ad H.size) ⟨cb, hts _ g7⟩ ⟨xpre_blind, ?_⟩ rfl (by rw [List.length_map]; exact hnp) hL.1 (by simp [xv]) (lv_room (by rw [cat_sum]; exact hrs)) hd ⟨hro.2.2.1, hro.2.2.2⟩) hS hB hB ?_
  · intro U hU hW
    exact ⟨rfl, by rw [hU], by rw [hU]; exact hP, va_K.moved hW.alike hK, hD.weaken (fun _ _ _ _ => trivial), (by
      have := hX.to hS hU hW hB
      have e1 : (fun j => ad (SB + j)) = (fun j => ad0 (SB + j)) := funext fun j => r1 _ (Or.inr (Nat.le_add_right _ _))
      rw [e1]; exact this), r3⟩
  · intro w' r ad' H1 locs1 z1 z2 z3 z4 z5 z6 z7
    have := k w' r z1 z3 p l e s m args below meth c D cI ad0 A Qs C E ad' H1 locs1 lsA ⟨r1.tr z2 r2, Nat.le_trans r2 z3, z4, z5, z6, z7⟩ (hL.ag z2 hlok)
    rw [List.map_append, xvs_ag z2 (lok_rest hlok)] at this
    have e2 : r.toList.map (xv ad') = (r.map (xv ad')).toList := by cases r <;> rfl
    rw [e2] at this
    exact this
set_option maxHeartbeats 4000000 in
theorem v_callI (g : XI M.1.cls idx M' np) (hd : DcAt M.2.1 pc (.invokespecial idx) 3 pc') (hret : M'.2.2.2 = none) (h : Sp R' M' (.ref b :: As) w Z') (hst : st = As.reverse ++ .ref b :: rest) (hnp : As.length = np) (hro : R'.frames + 1 ≤ R.frames ∧ 8 + (M'.2.2.1 + 11) + R'.locals ≤ R.locals ∧ ca + R'.cells ≤ R.cells ∧ sl + R'.slots ≤ R.slots) (hrs : (rest.map fun v => v.category).sum ≤ 8) (hlok : lok w ls rest = true)
    (k : ∀ (w' : XW) (r : Option Value), Z' w' r → w.length ≤ w'.length → Vd R ex M n0 Z (ca + R'.cells) (sl + R'.slots) pc' ls (r.toList ++ rest) w') : Vd R ex M n0 Z ca sl pc ls st w := by
  intro p l e s m args below meth c D cI ad0 A Qs C E ad H locs lsA hR hL
  obtain ⟨hd, rfl⟩ := hd
  obtain ⟨g1, g2, g3, g4, g5, g6, g7, g8⟩ := g
  obtain ⟨hx, hb, hml, hr, hlocks, hown, hts, hnm, hK, hA, hX⟩ := id C
  obtain ⟨r1, r2, r3, hP, hD, hS⟩ := id hR
  subst hst
  have hG := good_in g6
  have hB := bmem hD hS hA
  have cb := callB_of (R := R) (own := M.1.cls) (index := idx) (y := M'.1) (bytes := M'.2.1) (maxL := M'.2.2.1) (ret := M'.2.2.2) (rm := R') np hts hG rfl rfl rfl (hts _ g5) (hts _ g4) ⟨g1, g2, g3⟩ ⟨hro.1, hro.2.1⟩
  rw [hret] at cb
  refine vr_call (va_runI (As := As.map (xv ad)) (rest := rest.map (xv ad)) (b := ad b) ⟨hx, hb, hml, hown, hts⟩ (h l D cI ad H.size) ⟨cb, g8, hts _ g7⟩ ⟨xpre_blind, ?_⟩ rfl (by rw [List.length_map]; exact hnp) hL.1 (by simp [xv]) (lv_room (by rw [cat_sum]; exact hrs)) hd ⟨hro.2.2.1, hro.2.2.2⟩) hS hB hB ?_
  · intro U hU hW
    exact ⟨by simp [xv], by rw [hU], by rw [hU]; exact hP, va_K.moved hW.alike hK, hD.weaken (fun _ _ _ _ => trivial), (by
      have := hX.to hS hU hW hB
      have e1 : (fun j => ad (SB + j)) = (fun j => ad0 (SB + j)) := funext fun j => r1 _ (Or.inr (Nat.le_add_right _ _))
      rw [e1]; exact this), r3⟩
  · intro w' r ad' H1 locs1 z1 z2 z3 z4 z5 z6 z7
    have := k w' r z1 z3 p l e s m args below meth c D cI ad0 A Qs C E ad' H1 locs1 lsA ⟨r1.tr z2 r2, Nat.le_trans r2 z3, z4, z5, z6, z7⟩ (hL.ag z2 hlok)
    rw [List.map_append, xvs_ag z2 (lok_rest hlok)] at this
    have e2 : r.toList.map (xv ad') = (r.map (xv ad')).toList := by cases r <;> rfl
    rw [e2] at this
    exact this
theorem v_objInit (hd : DcAt M.2.1 pc (.invokespecial idx) 3 pc') (hl : Cond.methodLink M.1.cls idx objectInit ∈ goodTB) (hro : 1 ≤ R.frames ∧ 20 ≤ R.locals) (hrs : (rest.map fun v => v.category).sum ≤ 8) (k : Vd R ex M n0 Z ca sl pc' ls rest w) : Vd R ex M n0 Z ca sl pc ls (.ref b :: rest) w := by
  intro p l e s m args below meth c D cI ad0 A Qs C E ad H locs lsA hR hL
  obtain ⟨hd, rfl⟩ := hd
  obtain ⟨hx, hb, hml, hr, hlocks, hown, hts, hnm, hK, hA, hX⟩ := id C
  refine W.objInit hx hb hown (hts _ hl) (hts _ oi_inst) (hts _ oi_code) rfl (by rw [hml]; exact hL.1) rfl hd hro.1 ?_ (k p l e s m args below meth c D cI ad0 A Qs C E ad H locs lsA hR hL)
  have := lv_room (m := m) (pc := pc) (ls := lsA) (rest := []) (st := rest.map (xv ad)) (by rw [cat_sum]; exact hrs)
  have h2 := hro.2
  exact Nat.le_trans (Nat.add_le_add_right this 12) h2
end VdCalls
end
section
/-! rules over whole numbers: every int of the program is 'iI z' (printed by wip/tools/gen_irules.py) -/
def iI (z : Int) : Int32 := Int32.ofInt z
abbrev J (z : Int) : Value := .int (iI z)
theorem iI_add (a b : Int) : iI a + iI b = iI (a + b) := (Int32.ofInt_add a b).symm
theorem iI_sub (a b : Int) : iI a - iI b = iI (a - b) := (Int32.ofInt_sub a b).symm
theorem iI_mul (a b : Int) : iI a * iI b = iI (a * b) := (Int32.ofInt_mul a b).symm
theorem iI_toInt {a : Int} (h : -2147483648 ≤ a ∧ a < 2147483648) : (iI a).toInt = a := Int32.toInt_ofInt_of_le (by have := h.1; simpa using this) (by have := h.2; simpa using this)
theorem iI_of (x : Int32) : x = iI x.toInt := (Int32.ofInt_toInt x).symm
theorem r32 (x : Int32) : -2147483648 ≤ x.toInt ∧ x.toInt < 2147483648 := ⟨by have := x.le_toInt; simpa using this, by have := x.toInt_lt; simpa using this⟩
theorem iI_inj {a b : Int} (ha : -2147483648 ≤ a ∧ a < 2147483648) (hb : -2147483648 ≤ b ∧ b < 2147483648) : iI a = iI b ↔ a = b := ⟨fun h => by rw [← iI_toInt ha, ← iI_toInt hb, h], fun h => by rw [h]⟩
theorem iI_lt {a b : Int} (ha : -2147483648 ≤ a ∧ a < 2147483648) (hb : -2147483648 ≤ b ∧ b < 2147483648) : iI a < iI b ↔ a < b := by rw [Int32.lt_iff_toInt_lt, iI_toInt ha, iI_toInt hb]
theorem iI_le {a b : Int} (ha : -2147483648 ≤ a ∧ a < 2147483648) (hb : -2147483648 ≤ b ∧ b < 2147483648) : iI a ≤ iI b ↔ a ≤ b := by rw [Int32.le_iff_toInt_le, iI_toInt ha, iI_toInt hb]
theorem iI_0 : (0 : Int32) = iI 0 := rfl
theorem iI_nat (n : Nat) : Int32.ofNat n = iI n := (Int32.ofInt_eq_ofNat).symm
theorem iI_clamp {a : Int} (h : 0 ≤ a ∧ a < 2147483648) : (iI a).toNatClampNeg = a.toNat := Int32.toNatClampNeg_ofInt_of_le (by omega) (by have := h.2; simpa using this)
theorem iI_in {a : Int} {N : Nat} (h : 0 ≤ a ∧ a < N) (hN : N < 2147483648) : vp_in (iI a) N := vp_in_iff.mpr (by rw [iI_toInt (by omega)]; exact h)
/-- what an int array holds -/
def ia (g : Int → Int) : Nat → Int32 := fun k => iI (g k)
def uI (g : Int → Int) (j v : Int) : Int → Int := fun i => if i = j then v else g i
theorem ia_at {g : Int → Int} {a : Int} (h : 0 ≤ a) : ia g a.toNat = iI (g a) := by unfold ia; rw [Int.toNat_of_nonneg h]
theorem ia_up {g : Int → Int} {j v : Int} (h : 0 ≤ j) : upd (ia g) j.toNat (iI v) = ia (uI g j v) := by
  funext k
  simp only [upd, ia, uI]
  by_cases hk : k = j.toNat
  · subst hk
    simp [Int.toNat_of_nonneg h]
  · have : ¬ (k : Int) = j := fun q => hk (by omega)
    simp [hk, this]
theorem uI_s {g : Int → Int} {j v : Int} : uI g j v j = v := by simp [uI]
theorem uI_n {g : Int → Int} {i j v : Int} (h : i ≠ j) : uI g j v i = g i := by simp [uI, h]
section VdInts
variable {R : Room} {ex : List (Nat × (Nat → Int32))} {M : MI} {n0 : Nat} {Z : XW → Option Value → Prop} {ca sl pc pc' : Nat} {ls : List (Option Value)} {st : List Value} {w : XW} {a b n : Int} {off : Int} {tgt : Nat}
theorem vi_const (hd : DcAt M.2.1 pc (.iconst n) 1 pc') (k : Vd R ex M n0 Z ca sl pc' ls (J n :: st) w) : Vd R ex M n0 Z ca sl pc ls (st) w := v_iconst hd rfl k
theorem vi_bi (hd : DcAt M.2.1 pc (.bipush n) 2 pc') (hv : (Int8.ofInt n).toInt32 = iI n) (k : Vd R ex M n0 Z ca sl pc' ls (J n :: st) w) : Vd R ex M n0 Z ca sl pc ls (st) w := v_bipush hd hv k
theorem vi_si (hd : DcAt M.2.1 pc (.sipush n) 3 pc') (hv : (Int16.ofInt n).toInt32 = iI n) (k : Vd R ex M n0 Z ca sl pc' ls (J n :: st) w) : Vd R ex M n0 Z ca sl pc ls (st) w := v_sipush hd hv k
theorem vi_add (hd : DcAt M.2.1 pc .iadd 1 pc') (k : Vd R ex M n0 Z ca sl pc' ls (J (a + b) :: st) w) : Vd R ex M n0 Z ca sl pc ls (J b :: J a :: st) w := v_iadd hd (by rw [iI_add]; exact k)
theorem vi_sub (hd : DcAt M.2.1 pc .isub 1 pc') (k : Vd R ex M n0 Z ca sl pc' ls (J (a - b) :: st) w) : Vd R ex M n0 Z ca sl pc ls (J b :: J a :: st) w := v_isub hd (by rw [iI_sub]; exact k)
theorem vi_mul (hd : DcAt M.2.1 pc .imul 1 pc') (k : Vd R ex M n0 Z ca sl pc' ls (J (a * b) :: st) w) : Vd R ex M n0 Z ca sl pc ls (J b :: J a :: st) w := v_imul hd (by rw [iI_mul]; exact k)
theorem iI_div (ha : -2147483648 < a ∧ a < 2147483648) (hb : 0 < b ∧ b < 2147483648) : iI a / iI b = iI (a.tdiv b) := by
  apply Int32.toInt_inj.mp
  have h1 : iI b ≠ -1 := by
    intro h
    have h2 : (iI b).toInt = (-1 : Int32).toInt := by rw [h]
    rw [iI_toInt (by omega)] at h2
    have h3 : (-1 : Int32).toInt = -1 := by decide
    omega
  rw [Int32.toInt_div_of_ne_right _ _ h1, iI_toInt (by omega), iI_toInt (by omega), iI_toInt]
  have : a.tdiv b = a.tdiv b := rfl
  have h4 : (a.tdiv b).natAbs ≤ a.natAbs := by rw [Int.natAbs_tdiv]; exact Nat.div_le_self _ _
  omega
theorem vi_div (ha : -2147483648 < a ∧ a < 2147483648) (hb : 0 < b ∧ b < 2147483648) (hd : DcAt M.2.1 pc .idiv 1 pc') (k : Vd R ex M n0 Z ca sl pc' ls (J (a.tdiv b) :: st) w) : Vd R ex M n0 Z ca sl pc ls (J b :: J a :: st) w := v_idiv hd (fun h => by
  have h2 := (iI_inj (a := b) (b := 0) (by omega) (by omega)).mp h
  omega) (by rw [iI_div ha hb]; exact k)
theorem vi_rem (ha : -2147483648 < a ∧ a < 2147483648) (hb : 0 < b ∧ b < 2147483648) (hd : DcAt M.2.1 pc .irem 1 pc') (k : Vd R ex M n0 Z ca sl pc' ls (J (a.tmod b) :: st) w) : Vd R ex M n0 Z ca sl pc ls (J b :: J a :: st) w := v_irem hd (fun h => by
  have h2 := (iI_inj (a := b) (b := 0) (by omega) (by omega)).mp h
  omega) (by
  have e : a - a.tdiv b * b = a.tmod b := by have := Int.mul_tdiv_add_tmod a b; rw [Int.mul_comm] at this; omega
  rw [iI_div ha hb, iI_mul, iI_sub, e]; exact k)
theorem vi_if_eq (hd : DcAt M.2.1 pc (.ifCond .eq off) 3 pc') (ht : (pc : Int) + off = (tgt : Int)) (ha : -2147483648 ≤ a ∧ a < 2147483648) (kt : a = 0 → Vd R ex M n0 Z ca sl tgt ls (st) w) (kf : ¬ a = 0 → Vd R ex M n0 Z ca sl pc' ls (st) w) : Vd R ex M n0 Z ca sl pc ls (J a :: st) w := v_if_eq hd ht (fun q => kt (by first | exact (iI_inj ha (b := 0) (by decide)).mp q | exact fun h => q ((iI_inj ha (b := 0) (by decide)).mpr h))) (fun q => kf (by first | exact (iI_inj ha (b := 0) (by decide)).mp q | exact fun h => q ((iI_inj ha (b := 0) (by decide)).mpr h) | (have h9 : ¬ _ := fun h => q ((iI_inj ha (b := 0) (by decide)).mpr h); omega)))
theorem vi_if_ne (hd : DcAt M.2.1 pc (.ifCond .ne off) 3 pc') (ht : (pc : Int) + off = (tgt : Int)) (ha : -2147483648 ≤ a ∧ a < 2147483648) (kt : ¬ a = 0 → Vd R ex M n0 Z ca sl tgt ls (st) w) (kf : a = 0 → Vd R ex M n0 Z ca sl pc' ls (st) w) : Vd R ex M n0 Z ca sl pc ls (J a :: st) w := v_if_ne hd ht (fun q => kt (by first | exact (iI_inj ha (b := 0) (by decide)).mp q | exact fun h => q ((iI_inj ha (b := 0) (by decide)).mpr h))) (fun q => kf (by first | exact (iI_inj ha (b := 0) (by decide)).mp q | exact fun h => q ((iI_inj ha (b := 0) (by decide)).mpr h) | (have h9 : ¬ _ := fun h => q ((iI_inj ha (b := 0) (by decide)).mpr h); omega)))
theorem vi_if_lt (hd : DcAt M.2.1 pc (.ifCond .lt off) 3 pc') (ht : (pc : Int) + off = (tgt : Int)) (ha : -2147483648 ≤ a ∧ a < 2147483648) (kt : a < 0 → Vd R ex M n0 Z ca sl tgt ls (st) w) (kf : 0 ≤ a → Vd R ex M n0 Z ca sl pc' ls (st) w) : Vd R ex M n0 Z ca sl pc ls (J a :: st) w := v_if_lt hd ht (fun q => kt (by first | exact (iI_lt ha (b := 0) (by decide)).mp q | exact fun h => q ((iI_lt ha (b := 0) (by decide)).mpr h))) (fun q => kf (by first | exact (iI_lt ha (b := 0) (by decide)).mp q | exact fun h => q ((iI_lt ha (b := 0) (by decide)).mpr h) | (have h9 : ¬ _ := fun h => q ((iI_lt ha (b := 0) (by decide)).mpr h); omega)))
theorem vi_if_ge (hd : DcAt M.2.1 pc (.ifCond .ge off) 3 pc') (ht : (pc : Int) + off = (tgt : Int)) (ha : -2147483648 ≤ a ∧ a < 2147483648) (kt : 0 ≤ a → Vd R ex M n0 Z ca sl tgt ls (st) w) (kf : a < 0 → Vd R ex M n0 Z ca sl pc' ls (st) w) : Vd R ex M n0 Z ca sl pc ls (J a :: st) w := v_if_ge hd ht (fun q => kt (by first | exact (iI_le (a := 0) (by decide) ha).mp q | exact fun h => q ((iI_le (a := 0) (by decide) ha).mpr h))) (fun q => kf (by first | exact (iI_le (a := 0) (by decide) ha).mp q | exact fun h => q ((iI_le (a := 0) (by decide) ha).mpr h) | (have h9 : ¬ _ := fun h => q ((iI_le (a := 0) (by decide) ha).mpr h); omega)))
theorem vi_if_gt (hd : DcAt M.2.1 pc (.ifCond .gt off) 3 pc') (ht : (pc : Int) + off = (tgt : Int)) (ha : -2147483648 ≤ a ∧ a < 2147483648) (kt : 0 < a → Vd R ex M n0 Z ca sl tgt ls (st) w) (kf : a ≤ 0 → Vd R ex M n0 Z ca sl pc' ls (st) w) : Vd R ex M n0 Z ca sl pc ls (J a :: st) w := v_if_gt hd ht (fun q => kt (by first | exact (iI_lt (a := 0) (by decide) ha).mp q | exact fun h => q ((iI_lt (a := 0) (by decide) ha).mpr h))) (fun q => kf (by first | exact (iI_lt (a := 0) (by decide) ha).mp q | exact fun h => q ((iI_lt (a := 0) (by decide) ha).mpr h) | (have h9 : ¬ _ := fun h => q ((iI_lt (a := 0) (by decide) ha).mpr h); omega)))
theorem vi_if_le (hd : DcAt M.2.1 pc (.ifCond .le off) 3 pc') (ht : (pc : Int) + off = (tgt : Int)) (ha : -2147483648 ≤ a ∧ a < 2147483648) (kt : a ≤ 0 → Vd R ex M n0 Z ca sl tgt ls (st) w) (kf : 0 < a → Vd R ex M n0 Z ca sl pc' ls (st) w) : Vd R ex M n0 Z ca sl pc ls (J a :: st) w := v_if_le hd ht (fun q => kt (by first | exact (iI_le ha (b := 0) (by decide)).mp q | exact fun h => q ((iI_le ha (b := 0) (by decide)).mpr h))) (fun q => kf (by first | exact (iI_le ha (b := 0) (by decide)).mp q | exact fun h => q ((iI_le ha (b := 0) (by decide)).mpr h) | (have h9 : ¬ _ := fun h => q ((iI_le ha (b := 0) (by decide)).mpr h); omega)))
theorem vi_icmp_eq (hd : DcAt M.2.1 pc (.if_icmp .eq off) 3 pc') (ht : (pc : Int) + off = (tgt : Int)) (ha : -2147483648 ≤ a ∧ a < 2147483648) (hb : -2147483648 ≤ b ∧ b < 2147483648) (kt : a = b → Vd R ex M n0 Z ca sl tgt ls (st) w) (kf : ¬ a = b → Vd R ex M n0 Z ca sl pc' ls (st) w) : Vd R ex M n0 Z ca sl pc ls (J b :: J a :: st) w := v_icmp_eq hd ht (fun q => kt (by first | exact (iI_inj ha hb).mp q | exact fun h => q ((iI_inj ha hb).mpr h))) (fun q => kf (by first | exact (iI_inj ha hb).mp q | exact fun h => q ((iI_inj ha hb).mpr h) | (have h9 : ¬ _ := fun h => q ((iI_inj ha hb).mpr h); omega)))
theorem vi_icmp_ne (hd : DcAt M.2.1 pc (.if_icmp .ne off) 3 pc') (ht : (pc : Int) + off = (tgt : Int)) (ha : -2147483648 ≤ a ∧ a < 2147483648) (hb : -2147483648 ≤ b ∧ b < 2147483648) (kt : ¬ a = b → Vd R ex M n0 Z ca sl tgt ls (st) w) (kf : a = b → Vd R ex M n0 Z ca sl pc' ls (st) w) : Vd R ex M n0 Z ca sl pc ls (J b :: J a :: st) w := v_icmp_ne hd ht (fun q => kt (by first | exact (iI_inj ha hb).mp q | exact fun h => q ((iI_inj ha hb).mpr h))) (fun q => kf (by first | exact (iI_inj ha hb).mp q | exact fun h => q ((iI_inj ha hb).mpr h) | (have h9 : ¬ _ := fun h => q ((iI_inj ha hb).mpr h); omega)))
theorem vi_icmp_lt (hd : DcAt M.2.1 pc (.if_icmp .lt off) 3 pc') (ht : (pc : Int) + off = (tgt : Int)) (ha : -2147483648 ≤ a ∧ a < 2147483648) (hb : -2147483648 ≤ b ∧ b < 2147483648) (kt : a < b → Vd R ex M n0 Z ca sl tgt ls (st) w) (kf : b ≤ a → Vd R ex M n0 Z ca sl pc' ls (st) w) : Vd R ex M n0 Z ca sl pc ls (J b :: J a :: st) w := v_icmp_lt hd ht (fun q => kt (by first | exact (iI_lt ha hb).mp q | exact fun h => q ((iI_lt ha hb).mpr h))) (fun q => kf (by first | exact (iI_lt ha hb).mp q | exact fun h => q ((iI_lt ha hb).mpr h) | (have h9 : ¬ _ := fun h => q ((iI_lt ha hb).mpr h); omega)))
theorem vi_icmp_ge (hd : DcAt M.2.1 pc (.if_icmp .ge off) 3 pc') (ht : (pc : Int) + off = (tgt : Int)) (ha : -2147483648 ≤ a ∧ a < 2147483648) (hb : -2147483648 ≤ b ∧ b < 2147483648) (kt : b ≤ a → Vd R ex M n0 Z ca sl tgt ls (st) w) (kf : a < b → Vd R ex M n0 Z ca sl pc' ls (st) w) : Vd R ex M n0 Z ca sl pc ls (J b :: J a :: st) w := v_icmp_ge hd ht (fun q => kt (by first | exact (iI_le hb ha).mp q | exact fun h => q ((iI_le hb ha).mpr h))) (fun q => kf (by first | exact (iI_le hb ha).mp q | exact fun h => q ((iI_le hb ha).mpr h) | (have h9 : ¬ _ := fun h => q ((iI_le hb ha).mpr h); omega)))
theorem vi_icmp_gt (hd : DcAt M.2.1 pc (.if_icmp .gt off) 3 pc') (ht : (pc : Int) + off = (tgt : Int)) (ha : -2147483648 ≤ a ∧ a < 2147483648) (hb : -2147483648 ≤ b ∧ b < 2147483648) (kt : b < a → Vd R ex M n0 Z ca sl tgt ls (st) w) (kf : a ≤ b → Vd R ex M n0 Z ca sl pc' ls (st) w) : Vd R ex M n0 Z ca sl pc ls (J b :: J a :: st) w := v_icmp_gt hd ht (fun q => kt (by first | exact (iI_lt hb ha).mp q | exact fun h => q ((iI_lt hb ha).mpr h))) (fun q => kf (by first | exact (iI_lt hb ha).mp q | exact fun h => q ((iI_lt hb ha).mpr h) | (have h9 : ¬ _ := fun h => q ((iI_lt hb ha).mpr h); omega)))
theorem vi_icmp_le (hd : DcAt M.2.1 pc (.if_icmp .le off) 3 pc') (ht : (pc : Int) + off = (tgt : Int)) (ha : -2147483648 ≤ a ∧ a < 2147483648) (hb : -2147483648 ≤ b ∧ b < 2147483648) (kt : a ≤ b → Vd R ex M n0 Z ca sl tgt ls (st) w) (kf : b < a → Vd R ex M n0 Z ca sl pc' ls (st) w) : Vd R ex M n0 Z ca sl pc ls (J b :: J a :: st) w := v_icmp_le hd ht (fun q => kt (by first | exact (iI_le ha hb).mp q | exact fun h => q ((iI_le ha hb).mpr h))) (fun q => kf (by first | exact (iI_le ha hb).mp q | exact fun h => q ((iI_le ha hb).mpr h) | (have h9 : ¬ _ := fun h => q ((iI_le ha hb).mpr h); omega)))
theorem vi_inc {i : Nat} (hd : DcAt M.2.1 pc (.iinc i n) 3 pc') (hl : ls[i]? = some (some (J a))) (hn : i < M.2.2.1) (k : Vd R ex M n0 Z ca sl pc' (ls.set i (some (J (a + n)))) (st) w) : Vd R ex M n0 Z ca sl pc ls (st) w := v_iinc hd hl (v := iI (a + n)) (iI_add a n) hn k
theorem vi_aload {p N : Nat} {g : Int → Int} (hd : DcAt M.2.1 pc .iaload 1 pc') (hw : w[p]? = some (.inl (N, ia g))) (hi : 0 ≤ a ∧ a < N) (hN : N < 2147483648) (k : Vd R ex M n0 Z ca sl pc' ls (J (g a) :: st) w) : Vd R ex M n0 Z ca sl pc ls (J a :: .ref p :: st) w := v_iaload hd hw (iI_in hi hN) (by rw [iI_clamp (by omega), ia_at hi.1]) k
theorem vi_astore {p N : Nat} {g : Int → Int} (hd : DcAt M.2.1 pc .iastore 1 pc') (hw : w[p]? = some (.inl (N, ia g))) (hi : 0 ≤ a ∧ a < N) (hN : N < 2147483648) (k : Vd R ex M n0 Z ca sl pc' ls (st) (w.set p (.inl (N, ia (uI g a b))))) : Vd R ex M n0 Z ca sl pc ls (J b :: J a :: .ref p :: st) w := v_iastore hd hw (iI_in hi hN) (by rw [iI_clamp (by omega), ia_up hi.1]; exact k)
theorem vi_alen {p N : Nat} {g : Nat → Int32} (hd : DcAt M.2.1 pc .arraylength 1 pc') (hw : w[p]? = some (.inl (N, g))) (k : Vd R ex M n0 Z ca sl pc' ls (J N :: st) w) : Vd R ex M n0 Z ca sl pc ls (.ref p :: st) w := v_alen hd hw (iI_nat N) k
theorem vi_sald {j N : Nat} {f : Nat → Int32} {x : Int} (hd : DcAt M.2.1 pc .iaload 1 pc') (hj : (RO0 ++ ex)[j]? = some (N, f)) (hi : 0 ≤ a ∧ a < N) (hN : N < 2147483648) (hx : f a.toNat = iI x) (k : Vd R ex M n0 Z ca sl pc' ls (J x :: st) w) : Vd R ex M n0 Z ca sl pc ls (J a :: .ref (SB + j) :: st) w := v_sald hd hj (iI_in hi hN) (by rw [iI_clamp (by omega), hx]) k
theorem vi_slen {j N : Nat} {f : Nat → Int32} (hd : DcAt M.2.1 pc .arraylength 1 pc') (hj : (RO0 ++ ex)[j]? = some (N, f)) (k : Vd R ex M n0 Z ca sl pc' ls (J N :: st) w) : Vd R ex M n0 Z ca sl pc ls (.ref (SB + j) :: st) w := v_slen hd hj (iI_nat N) k
theorem nar_i (x : Int32) : narrow .int (.int x) = .int x := rfl
theorem vi_put {idx ci fk p : Nat} {fs : List Value} (g : XG M.1.cls idx ci fk .int false) (hd : DcAt M.2.1 pc (.putfield idx) 3 pc') (hw : w[p]? = some (.inr (ci, fs))) (hl : fk < fs.length) (k : Vd R ex M n0 Z ca sl pc' ls (st) (w.set p (.inr (ci, fs.set fk (J a))))) : Vd R ex M n0 Z ca sl pc ls (J a :: .ref p :: st) w := v_puti g hd hw hl rfl rfl k
/-- a boolean field: 0 or 1 -/
theorem vi_putz {idx ci fk p : Nat} {fs : List Value} (g : XG M.1.cls idx ci fk .boolean false) (hd : DcAt M.2.1 pc (.putfield idx) 3 pc') (hw : w[p]? = some (.inr (ci, fs))) (hl : fk < fs.length) (hz : a = 0 ∨ a = 1) (k : Vd R ex M n0 Z ca sl pc' ls (st) (w.set p (.inr (ci, fs.set fk (J a))))) : Vd R ex M n0 Z ca sl pc ls (J a :: .ref p :: st) w := v_puti g hd hw hl (by rcases hz with rfl | rfl <;> decide) (by rcases hz with rfl | rfl <;> decide) k
theorem vi_ret (hd : DcAt M.2.1 pc .ireturn 1 pc') (ht : M.2.2.2 = some .int) (hc : ca ≤ R.cells ∧ sl ≤ R.slots) (hz : Z w (some (J a))) : Vd R ex M n0 Z ca sl pc ls (J a :: []) w := v_ireturn hd (Or.inl ht) hc.1 hc.2 hz
theorem vi_retz (hd : DcAt M.2.1 pc .ireturn 1 pc') (ht : M.2.2.2 = some .boolean) (hb : a = 0 ∨ a = 1) (hc : ca ≤ R.cells ∧ sl ≤ R.slots) (hz : Z w (some (J a))) : Vd R ex M n0 Z ca sl pc ls (J a :: []) w := v_ireturn hd (Or.inr ⟨ht, hb.elim (fun h => Or.inl (by rw [h]; rfl)) (fun h => Or.inr (by rw [h]; rfl))⟩) hc.1 hc.2 hz
theorem vi_vret (hd : DcAt M.2.1 pc .return_ 1 pc') (ht : M.2.2.2 = none) (hc : ca ≤ R.cells ∧ sl ≤ R.slots) (hz : Z w none) : Vd R ex M n0 Z ca sl pc ls ([]) w := v_return hd ht hc.1 hc.2 hz
theorem vi_aret {p : Nat} (hd : DcAt M.2.1 pc .areturn 1 pc') (ht : ∃ C, M.2.2.2 = some (.object C)) (hc : ca ≤ R.cells ∧ sl ≤ R.slots) (hz : Z w (some (.ref p))) : Vd R ex M n0 Z ca sl pc ls (.ref p :: []) w := v_areturn hd ht hc.1 hc.2 hz
end VdInts
section VdCallsN
variable {R : Room} {ex : List (Nat × (Nat → Int32))} {M M' : MI} {n0 : Nat} {Z Z' : XW → Option Value → Prop} {ca sl pc pc' idx np b fr lo : Nat} {ls : List (Option Value)} {rest : List Value} {w w' : XW} {a1 a2 a3 a4 a5 v : Value}
theorem v_V0r {ci : Nat} {fs : List Value} (h : Sd (rm fr lo 0 0) M' [.ref b] w w' (some v)) (g : XV M.1.cls idx M' 0) (hd : DcAt M.2.1 pc (.invokevirtual idx) 3 pc') (hw : w[b]? = some (.inr (ci, fs))) (hcl : (vwCl[ci]?).map (fun q => q.1) = some M'.1.cls) (hro : fr + 1 ≤ R.frames ∧ 8 + (M'.2.2.1 + 11) + lo ≤ R.locals ∧ ca ≤ R.cells ∧ sl ≤ R.slots) (hrs : (rest.map fun v => v.category).sum ≤ 8) (hlok : lok w ls rest = true) (k : Vd R ex M n0 Z ca sl pc' ls (v :: rest) w') : Vd R ex M n0 Z ca sl pc ls (.ref b :: rest) w := v_callV (As := []) g hd h rfl rfl hw hcl hro hrs hlok (fun x r hz _ => by obtain ⟨rfl, rfl⟩ := hz; exact k)
theorem v_S0r (h : Sd (rm fr lo 0 0) M' [] w w' (some v)) (g : XT M.1.cls idx M' 0) (hd : DcAt M.2.1 pc (.invokestatic idx) 3 pc') (hro : fr + 1 ≤ R.frames ∧ 8 + (M'.2.2.1 + 11) + lo ≤ R.locals ∧ ca ≤ R.cells ∧ sl ≤ R.slots) (hrs : (rest.map fun v => v.category).sum ≤ 8) (hlok : lok w ls rest = true) (k : Vd R ex M n0 Z ca sl pc' ls (v :: rest) w') : Vd R ex M n0 Z ca sl pc ls (rest) w := v_callS (As := []) g hd h rfl rfl hro hrs hlok (fun x r hz _ => by obtain ⟨rfl, rfl⟩ := hz; exact k)
theorem v_V0v {ci : Nat} {fs : List Value} (h : Sd (rm fr lo 0 0) M' [.ref b] w w' none) (g : XV M.1.cls idx M' 0) (hd : DcAt M.2.1 pc (.invokevirtual idx) 3 pc') (hw : w[b]? = some (.inr (ci, fs))) (hcl : (vwCl[ci]?).map (fun q => q.1) = some M'.1.cls) (hro : fr + 1 ≤ R.frames ∧ 8 + (M'.2.2.1 + 11) + lo ≤ R.locals ∧ ca ≤ R.cells ∧ sl ≤ R.slots) (hrs : (rest.map fun v => v.category).sum ≤ 8) (hlok : lok w ls rest = true) (k : Vd R ex M n0 Z ca sl pc' ls (rest) w') : Vd R ex M n0 Z ca sl pc ls (.ref b :: rest) w := v_callV (As := []) g hd h rfl rfl hw hcl hro hrs hlok (fun x r hz _ => by obtain ⟨rfl, rfl⟩ := hz; exact k)
theorem v_S0v (h : Sd (rm fr lo 0 0) M' [] w w' none) (g : XT M.1.cls idx M' 0) (hd : DcAt M.2.1 pc (.invokestatic idx) 3 pc') (hro : fr + 1 ≤ R.frames ∧ 8 + (M'.2.2.1 + 11) + lo ≤ R.locals ∧ ca ≤ R.cells ∧ sl ≤ R.slots) (hrs : (rest.map fun v => v.category).sum ≤ 8) (hlok : lok w ls rest = true) (k : Vd R ex M n0 Z ca sl pc' ls (rest) w') : Vd R ex M n0 Z ca sl pc ls (rest) w := v_callS (As := []) g hd h rfl rfl hro hrs hlok (fun x r hz _ => by obtain ⟨rfl, rfl⟩ := hz; exact k)
theorem v_V0p {ci : Nat} {fs : List Value} (h : Sp (rm fr lo 0 0) M' [.ref b] w Z') (g : XV M.1.cls idx M' 0) (hd : DcAt M.2.1 pc (.invokevirtual idx) 3 pc') (hw : w[b]? = some (.inr (ci, fs))) (hcl : (vwCl[ci]?).map (fun q => q.1) = some M'.1.cls) (hro : fr + 1 ≤ R.frames ∧ 8 + (M'.2.2.1 + 11) + lo ≤ R.locals ∧ ca ≤ R.cells ∧ sl ≤ R.slots) (hrs : (rest.map fun v => v.category).sum ≤ 8) (hlok : lok w ls rest = true) (k : ∀ (x : XW) (r : Option Value), Z' x r → Vd R ex M n0 Z ca sl pc' ls (r.toList ++ rest) x) : Vd R ex M n0 Z ca sl pc ls (.ref b :: rest) w := v_callV (As := []) g hd h rfl rfl hw hcl hro hrs hlok (fun x r hz _ => k x r hz)
theorem v_S0p (h : Sp (rm fr lo 0 0) M' [] w Z') (g : XT M.1.cls idx M' 0) (hd : DcAt M.2.1 pc (.invokestatic idx) 3 pc') (hro : fr + 1 ≤ R.frames ∧ 8 + (M'.2.2.1 + 11) + lo ≤ R.locals ∧ ca ≤ R.cells ∧ sl ≤ R.slots) (hrs : (rest.map fun v => v.category).sum ≤ 8) (hlok : lok w ls rest = true) (k : ∀ (x : XW) (r : Option Value), Z' x r → Vd R ex M n0 Z ca sl pc' ls (r.toList ++ rest) x) : Vd R ex M n0 Z ca sl pc ls (rest) w := v_callS (As := []) g hd h rfl rfl hro hrs hlok (fun x r hz _ => k x r hz)
theorem v_V1r {ci : Nat} {fs : List Value} (h : Sd (rm fr lo 0 0) M' [.ref b, a1] w w' (some v)) (g : XV M.1.cls idx M' 1) (hd : DcAt M.2.1 pc (.invokevirtual idx) 3 pc') (hw : w[b]? = some (.inr (ci, fs))) (hcl : (vwCl[ci]?).map (fun q => q.1) = some M'.1.cls) (hro : fr + 1 ≤ R.frames ∧ 8 + (M'.2.2.1 + 11) + lo ≤ R.locals ∧ ca ≤ R.cells ∧ sl ≤ R.slots) (hrs : (rest.map fun v => v.category).sum ≤ 8) (hlok : lok w ls rest = true) (k : Vd R ex M n0 Z ca sl pc' ls (v :: rest) w') : Vd R ex M n0 Z ca sl pc ls (a1 :: .ref b :: rest) w := v_callV (As := [a1]) g hd h rfl rfl hw hcl hro hrs hlok (fun x r hz _ => by obtain ⟨rfl, rfl⟩ := hz; exact k)
theorem v_S1r (h : Sd (rm fr lo 0 0) M' [a1] w w' (some v)) (g : XT M.1.cls idx M' 1) (hd : DcAt M.2.1 pc (.invokestatic idx) 3 pc') (hro : fr + 1 ≤ R.frames ∧ 8 + (M'.2.2.1 + 11) + lo ≤ R.locals ∧ ca ≤ R.cells ∧ sl ≤ R.slots) (hrs : (rest.map fun v => v.category).sum ≤ 8) (hlok : lok w ls rest = true) (k : Vd R ex M n0 Z ca sl pc' ls (v :: rest) w') : Vd R ex M n0 Z ca sl pc ls (a1 :: rest) w := v_callS (As := [a1]) g hd h rfl rfl hro hrs hlok (fun x r hz _ => by obtain ⟨rfl, rfl⟩ := hz; exact k)
theorem v_V1v {ci : Nat} {fs : List Value} (h : Sd (rm fr lo 0 0) M' [.ref b, a1] w w' none) (g : XV M.1.cls idx M' 1) (hd : DcAt M.2.1 pc (.invokevirtual idx) 3 pc') (hw : w[b]? = some (.inr (ci, fs))) (hcl : (vwCl[ci]?).map (fun q => q.1) = some M'.1.cls) (hro : fr + 1 ≤ R.frames ∧ 8 + (M'.2.2.1 + 11) + lo ≤ R.locals ∧ ca ≤ R.cells ∧ sl ≤ R.slots) (hrs : (rest.map fun v => v.category).sum ≤ 8) (hlok : lok w ls rest = true) (k : Vd R ex M n0 Z ca sl pc' ls (rest) w') : Vd R ex M n0 Z ca sl pc ls (a1 :: .ref b :: rest) w := v_callV (As := [a1]) g hd h rfl rfl hw hcl hro hrs hlok (fun x r hz _ => by obtain ⟨rfl, rfl⟩ := hz; exact k)
theorem v_S1v (h : Sd (rm fr lo 0 0) M' [a1] w w' none) (g : XT M.1.cls idx M' 1) (hd : DcAt M.2.1 pc (.invokestatic idx) 3 pc') (hro : fr + 1 ≤ R.frames ∧ 8 + (M'.2.2.1 + 11) + lo ≤ R.locals ∧ ca ≤ R.cells ∧ sl ≤ R.slots) (hrs : (rest.map fun v => v.category).sum ≤ 8) (hlok : lok w ls rest = true) (k : Vd R ex M n0 Z ca sl pc' ls (rest) w') : Vd R ex M n0 Z ca sl pc ls (a1 :: rest) w := v_callS (As := [a1]) g hd h rfl rfl hro hrs hlok (fun x r hz _ => by obtain ⟨rfl, rfl⟩ := hz; exact k)
theorem v_V1p {ci : Nat} {fs : List Value} (h : Sp (rm fr lo 0 0) M' [.ref b, a1] w Z') (g : XV M.1.cls idx M' 1) (hd : DcAt M.2.1 pc (.invokevirtual idx) 3 pc') (hw : w[b]? = some (.inr (ci, fs))) (hcl : (vwCl[ci]?).map (fun q => q.1) = some M'.1.cls) (hro : fr + 1 ≤ R.frames ∧ 8 + (M'.2.2.1 + 11) + lo ≤ R.locals ∧ ca ≤ R.cells ∧ sl ≤ R.slots) (hrs : (rest.map fun v => v.category).sum ≤ 8) (hlok : lok w ls rest = true) (k : ∀ (x : XW) (r : Option Value), Z' x r → Vd R ex M n0 Z ca sl pc' ls (r.toList ++ rest) x) : Vd R ex M n0 Z ca sl pc ls (a1 :: .ref b :: rest) w := v_callV (As := [a1]) g hd h rfl rfl hw hcl hro hrs hlok (fun x r hz _ => k x r hz)
theorem v_S1p (h : Sp (rm fr lo 0 0) M' [a1] w Z') (g : XT M.1.cls idx M' 1) (hd : DcAt M.2.1 pc (.invokestatic idx) 3 pc') (hro : fr + 1 ≤ R.frames ∧ 8 + (M'.2.2.1 + 11) + lo ≤ R.locals ∧ ca ≤ R.cells ∧ sl ≤ R.slots) (hrs : (rest.map fun v => v.category).sum ≤ 8) (hlok : lok w ls rest = true) (k : ∀ (x : XW) (r : Option Value), Z' x r → Vd R ex M n0 Z ca sl pc' ls (r.toList ++ rest) x) : Vd R ex M n0 Z ca sl pc ls (a1 :: rest) w := v_callS (As := [a1]) g hd h rfl rfl hro hrs hlok (fun x r hz _ => k x r hz)
theorem v_V2r {ci : Nat} {fs : List Value} (h : Sd (rm fr lo 0 0) M' [.ref b, a1, a2] w w' (some v)) (g : XV M.1.cls idx M' 2) (hd : DcAt M.2.1 pc (.invokevirtual idx) 3 pc') (hw : w[b]? = some (.inr (ci, fs))) (hcl : (vwCl[ci]?).map (fun q => q.1) = some M'.1.cls) (hro : fr + 1 ≤ R.frames ∧ 8 + (M'.2.2.1 + 11) + lo ≤ R.locals ∧ ca ≤ R.cells ∧ sl ≤ R.slots) (hrs : (rest.map fun v => v.category).sum ≤ 8) (hlok : lok w ls rest = true) (k : Vd R ex M n0 Z ca sl pc' ls (v :: rest) w') : Vd R ex M n0 Z ca sl pc ls (a2 :: a1 :: .ref b :: rest) w := v_callV (As := [a1, a2]) g hd h rfl rfl hw hcl hro hrs hlok (fun x r hz _ => by obtain ⟨rfl, rfl⟩ := hz; exact k)
theorem v_S2r (h : Sd (rm fr lo 0 0) M' [a1, a2] w w' (some v)) (g : XT M.1.cls idx M' 2) (hd : DcAt M.2.1 pc (.invokestatic idx) 3 pc') (hro : fr + 1 ≤ R.frames ∧ 8 + (M'.2.2.1 + 11) + lo ≤ R.locals ∧ ca ≤ R.cells ∧ sl ≤ R.slots) (hrs : (rest.map fun v => v.category).sum ≤ 8) (hlok : lok w ls rest = true) (k : Vd R ex M n0 Z ca sl pc' ls (v :: rest) w') : Vd R ex M n0 Z ca sl pc ls (a2 :: a1 :: rest) w := v_callS (As := [a1, a2]) g hd h rfl rfl hro hrs hlok (fun x r hz _ => by obtain ⟨rfl, rfl⟩ := hz; exact k)
theorem v_V2v {ci : Nat} {fs : List Value} (h : Sd (rm fr lo 0 0) M' [.ref b, a1, a2] w w' none) (g : XV M.1.cls idx M' 2) (hd : DcAt M.2.1 pc (.invokevirtual idx) 3 pc') (hw : w[b]? = some (.inr (ci, fs))) (hcl : (vwCl[ci]?).map (fun q => q.1) = some M'.1.cls) (hro : fr + 1 ≤ R.frames ∧ 8 + (M'.2.2.1 + 11) + lo ≤ R.locals ∧ ca ≤ R.cells ∧ sl ≤ R.slots) (hrs : (rest.map fun v => v.category).sum ≤ 8) (hlok : lok w ls rest = true) (k : Vd R ex M n0 Z ca sl pc' ls (rest) w') : Vd R ex M n0 Z ca sl pc ls (a2 :: a1 :: .ref b :: rest) w := v_callV (As := [a1, a2]) g hd h rfl rfl hw hcl hro hrs hlok (fun x r hz _ => by obtain ⟨rfl, rfl⟩ := hz; exact k)
theorem v_S2v (h : Sd (rm fr lo 0 0) M' [a1, a2] w w' none) (g : XT M.1.cls idx M' 2) (hd : DcAt M.2.1 pc (.invokestatic idx) 3 pc') (hro : fr + 1 ≤ R.frames ∧ 8 + (M'.2.2.1 + 11) + lo ≤ R.locals ∧ ca ≤ R.cells ∧ sl ≤ R.slots) (hrs : (rest.map fun v => v.category).sum ≤ 8) (hlok : lok w ls rest = true) (k : Vd R ex M n0 Z ca sl pc' ls (rest) w') : Vd R ex M n0 Z ca sl pc ls (a2 :: a1 :: rest) w := v_callS (As := [a1, a2]) g hd h rfl rfl hro hrs hlok (fun x r hz _ => by obtain ⟨rfl, rfl⟩ := hz; exact k)
theorem v_V2p {ci : Nat} {fs : List Value} (h : Sp (rm fr lo 0 0) M' [.ref b, a1, a2] w Z') (g : XV M.1.cls idx M' 2) (hd : DcAt M.2.1 pc (.invokevirtual idx) 3 pc') (hw : w[b]? = some (.inr (ci, fs))) (hcl : (vwCl[ci]?).map (fun q => q.1) = some M'.1.cls) (hro : fr + 1 ≤ R.frames ∧ 8 + (M'.2.2.1 + 11) + lo ≤ R.locals ∧ ca ≤ R.cells ∧ sl ≤ R.slots) (hrs : (rest.map fun v => v.category).sum ≤ 8) (hlok : lok w ls rest = true) (k : ∀ (x : XW) (r : Option Value), Z' x r → Vd R ex M n0 Z ca sl pc' ls (r.toList ++ rest) x) : Vd R ex M n0 Z ca sl pc ls (a2 :: a1 :: .ref b :: rest) w := v_callV (As := [a1, a2]) g hd h rfl rfl hw hcl hro hrs hlok (fun x r hz _ => k x r hz)
theorem v_S2p (h : Sp (rm fr lo 0 0) M' [a1, a2] w Z') (g : XT M.1.cls idx M' 2) (hd : DcAt M.2.1 pc (.invokestatic idx) 3 pc') (hro : fr + 1 ≤ R.frames ∧ 8 + (M'.2.2.1 + 11) + lo ≤ R.locals ∧ ca ≤ R.cells ∧ sl ≤ R.slots) (hrs : (rest.map fun v => v.category).sum ≤ 8) (hlok : lok w ls rest = true) (k : ∀ (x : XW) (r : Option Value), Z' x r → Vd R ex M n0 Z ca sl pc' ls (r.toList ++ rest) x) : Vd R ex M n0 Z ca sl pc ls (a2 :: a1 :: rest) w := v_callS (As := [a1, a2]) g hd h rfl rfl hro hrs hlok (fun x r hz _ => k x r hz)
theorem v_V3r {ci : Nat} {fs : List Value} (h : Sd (rm fr lo 0 0) M' [.ref b, a1, a2, a3] w w' (some v)) (g : XV M.1.cls idx M' 3) (hd : DcAt M.2.1 pc (.invokevirtual idx) 3 pc') (hw : w[b]? = some (.inr (ci, fs))) (hcl : (vwCl[ci]?).map (fun q => q.1) = some M'.1.cls) (hro : fr + 1 ≤ R.frames ∧ 8 + (M'.2.2.1 + 11) + lo ≤ R.locals ∧ ca ≤ R.cells ∧ sl ≤ R.slots) (hrs : (rest.map fun v => v.category).sum ≤ 8) (hlok : lok w ls rest = true) (k : Vd R ex M n0 Z ca sl pc' ls (v :: rest) w') : Vd R ex M n0 Z ca sl pc ls (a3 :: a2 :: a1 :: .ref b :: rest) w := v_callV (As := [a1, a2, a3]) g hd h rfl rfl hw hcl hro hrs hlok (fun x r hz _ => by obtain ⟨rfl, rfl⟩ := hz; exact k)
theorem v_S3r (h : Sd (rm fr lo 0 0) M' [a1, a2, a3] w w' (some v)) (g : XT M.1.cls idx M' 3) (hd : DcAt M.2.1 pc (.invokestatic idx) 3 pc') (hro : fr + 1 ≤ R.frames ∧ 8 + (M'.2.2.1 + 11) + lo ≤ R.locals ∧ ca ≤ R.cells ∧ sl ≤ R.slots) (hrs : (rest.map fun v => v.category).sum ≤ 8) (hlok : lok w ls rest = true) (k : Vd R ex M n0 Z ca sl pc' ls (v :: rest) w') : Vd R ex M n0 Z ca sl pc ls (a3 :: a2 :: a1 :: rest) w := v_callS (As := [a1, a2, a3]) g hd h rfl rfl hro hrs hlok (fun x r hz _ => by obtain ⟨rfl, rfl⟩ := hz; exact k)
theorem v_V3v {ci : Nat} {fs : List Value} (h : Sd (rm fr lo 0 0) M' [.ref b, a1, a2, a3] w w' none) (g : XV M.1.cls idx M' 3) (hd : DcAt M.2.1 pc (.invokevirtual idx) 3 pc') (hw : w[b]? = some (.inr (ci, fs))) (hcl : (vwCl[ci]?).map (fun q => q.1) = some M'.1.cls) (hro : fr + 1 ≤ R.frames ∧ 8 + (M'.2.2.1 + 11) + lo ≤ R.locals ∧ ca ≤ R.cells ∧ sl ≤ R.slots) (hrs : (rest.map fun v => v.category).sum ≤ 8) (hlok : lok w ls rest = true) (k : Vd R ex M n0 Z ca sl pc' ls (rest) w') : Vd R ex M n0 Z ca sl pc ls (a3 :: a2 :: a1 :: .ref b :: rest) w := v_callV (As := [a1, a2, a3]) g hd h rfl rfl hw hcl hro hrs hlok (fun x r hz _ => by obtain ⟨rfl, rfl⟩ := hz; exact k)
theorem v_S3v (h : Sd (rm fr lo 0 0) M' [a1, a2, a3] w w' none) (g : XT M.1.cls idx M' 3) (hd : DcAt M.2.1 pc (.invokestatic idx) 3 pc') (hro : fr + 1 ≤ R.frames ∧ 8 + (M'.2.2.1 + 11) + lo ≤ R.locals ∧ ca ≤ R.cells ∧ sl ≤ R.slots) (hrs : (rest.map fun v => v.category).sum ≤ 8) (hlok : lok w ls rest = true) (k : Vd R ex M n0 Z ca sl pc' ls (rest) w') : Vd R ex M n0 Z ca sl pc ls (a3 :: a2 :: a1 :: rest) w := v_callS (As := [a1, a2, a3]) g hd h rfl rfl hro hrs hlok (fun x r hz _ => by obtain ⟨rfl, rfl⟩ := hz; exact k)
theorem v_V3p {ci : Nat} {fs : List Value} (h : Sp (rm fr lo 0 0) M' [.ref b, a1, a2, a3] w Z') (g : XV M.1.cls idx M' 3) (hd : DcAt M.2.1 pc (.invokevirtual idx) 3 pc') (hw : w[b]? = some (.inr (ci, fs))) (hcl : (vwCl[ci]?).map (fun q => q.1) = some M'.1.cls) (hro : fr + 1 ≤ R.frames ∧ 8 + (M'.2.2.1 + 11) + lo ≤ R.locals ∧ ca ≤ R.cells ∧ sl ≤ R.slots) (hrs : (rest.map fun v => v.category).sum ≤ 8) (hlok : lok w ls rest = true) (k : ∀ (x : XW) (r : Option Value), Z' x r → Vd R ex M n0 Z ca sl pc' ls (r.toList ++ rest) x) : Vd R ex M n0 Z ca sl pc ls (a3 :: a2 :: a1 :: .ref b :: rest) w := v_callV (As := [a1, a2, a3]) g hd h rfl rfl hw hcl hro hrs hlok (fun x r hz _ => k x r hz)
theorem v_S3p (h : Sp (rm fr lo 0 0) M' [a1, a2, a3] w Z') (g : XT M.1.cls idx M' 3) (hd : DcAt M.2.1 pc (.invokestatic idx) 3 pc') (hro : fr + 1 ≤ R.frames ∧ 8 + (M'.2.2.1 + 11) + lo ≤ R.locals ∧ ca ≤ R.cells ∧ sl ≤ R.slots) (hrs : (rest.map fun v => v.category).sum ≤ 8) (hlok : lok w ls rest = true) (k : ∀ (x : XW) (r : Option Value), Z' x r → Vd R ex M n0 Z ca sl pc' ls (r.toList ++ rest) x) : Vd R ex M n0 Z ca sl pc ls (a3 :: a2 :: a1 :: rest) w := v_callS (As := [a1, a2, a3]) g hd h rfl rfl hro hrs hlok (fun x r hz _ => k x r hz)
theorem v_V4r {ci : Nat} {fs : List Value} (h : Sd (rm fr lo 0 0) M' [.ref b, a1, a2, a3, a4] w w' (some v)) (g : XV M.1.cls idx M' 4) (hd : DcAt M.2.1 pc (.invokevirtual idx) 3 pc') (hw : w[b]? = some (.inr (ci, fs))) (hcl : (vwCl[ci]?).map (fun q => q.1) = some M'.1.cls) (hro : fr + 1 ≤ R.frames ∧ 8 + (M'.2.2.1 + 11) + lo ≤ R.locals ∧ ca ≤ R.cells ∧ sl ≤ R.slots) (hrs : (rest.map fun v => v.category).sum ≤ 8) (hlok : lok w ls rest = true) (k : Vd R ex M n0 Z ca sl pc' ls (v :: rest) w') : Vd R ex M n0 Z ca sl pc ls (a4 :: a3 :: a2 :: a1 :: .ref b :: rest) w := v_callV (As := [a1, a2, a3, a4]) g hd h rfl rfl hw hcl hro hrs hlok (fun x r hz _ => by obtain ⟨rfl, rfl⟩ := hz; exact k)
theorem v_S4r (h : Sd (rm fr lo 0 0) M' [a1, a2, a3, a4] w w' (some v)) (g : XT M.1.cls idx M' 4) (hd : DcAt M.2.1 pc (.invokestatic idx) 3 pc') (hro : fr + 1 ≤ R.frames ∧ 8 + (M'.2.2.1 + 11) + lo ≤ R.locals ∧ ca ≤ R.cells ∧ sl ≤ R.slots) (hrs : (rest.map fun v => v.category).sum ≤ 8) (hlok : lok w ls rest = true) (k : Vd R ex M n0 Z ca sl pc' ls (v :: rest) w') : Vd R ex M n0 Z ca sl pc ls (a4 :: a3 :: a2 :: a1 :: rest) w := v_callS (As := [a1, a2, a3, a4]) g hd h rfl rfl hro hrs hlok (fun x r hz _ => by obtain ⟨rfl, rfl⟩ := hz; exact k)
theorem v_V4v {ci : Nat} {fs : List Value} (h : Sd (rm fr lo 0 0) M' [.ref b, a1, a2, a3, a4] w w' none) (g : XV M.1.cls idx M' 4) (hd : DcAt M.2.1 pc (.invokevirtual idx) 3 pc') (hw : w[b]? = some (.inr (ci, fs))) (hcl : (vwCl[ci]?).map (fun q => q.1) = some M'.1.cls) (hro : fr + 1 ≤ R.frames ∧ 8 + (M'.2.2.1 + 11) + lo ≤ R.locals ∧ ca ≤ R.cells ∧ sl ≤ R.slots) (hrs : (rest.map fun v => v.category).sum ≤ 8) (hlok : lok w ls rest = true) (k : Vd R ex M n0 Z ca sl pc' ls (rest) w') : Vd R ex M n0 Z ca sl pc ls (a4 :: a3 :: a2 :: a1 :: .ref b :: rest) w := v_callV (As := [a1, a2, a3, a4]) g hd h rfl rfl hw hcl hro hrs hlok (fun x r hz _ => by obtain ⟨rfl, rfl⟩ := hz; exact k)
theorem v_S4v (h : Sd (rm fr lo 0 0) M' [a1, a2, a3, a4] w w' none) (g : XT M.1.cls idx M' 4) (hd : DcAt M.2.1 pc (.invokestatic idx) 3 pc') (hro : fr + 1 ≤ R.frames ∧ 8 + (M'.2.2.1 + 11) + lo ≤ R.locals ∧ ca ≤ R.cells ∧ sl ≤ R.slots) (hrs : (rest.map fun v => v.category).sum ≤ 8) (hlok : lok w ls rest = true) (k : Vd R ex M n0 Z ca sl pc' ls (rest) w') : Vd R ex M n0 Z ca sl pc ls (a4 :: a3 :: a2 :: a1 :: rest) w := v_callS (As := [a1, a2, a3, a4]) g hd h rfl rfl hro hrs hlok (fun x r hz _ => by obtain ⟨rfl, rfl⟩ := hz; exact k)
theorem v_V4p {ci : Nat} {fs : List Value} (h : Sp (rm fr lo 0 0) M' [.ref b, a1, a2, a3, a4] w Z') (g : XV M.1.cls idx M' 4) (hd : DcAt M.2.1 pc (.invokevirtual idx) 3 pc') (hw : w[b]? = some (.inr (ci, fs))) (hcl : (vwCl[ci]?).map (fun q => q.1) = some M'.1.cls) (hro : fr + 1 ≤ R.frames ∧ 8 + (M'.2.2.1 + 11) + lo ≤ R.locals ∧ ca ≤ R.cells ∧ sl ≤ R.slots) (hrs : (rest.map fun v => v.category).sum ≤ 8) (hlok : lok w ls rest = true) (k : ∀ (x : XW) (r : Option Value), Z' x r → Vd R ex M n0 Z ca sl pc' ls (r.toList ++ rest) x) : Vd R ex M n0 Z ca sl pc ls (a4 :: a3 :: a2 :: a1 :: .ref b :: rest) w := v_callV (As := [a1, a2, a3, a4]) g hd h rfl rfl hw hcl hro hrs hlok (fun x r hz _ => k x r hz)
theorem v_S4p (h : Sp (rm fr lo 0 0) M' [a1, a2, a3, a4] w Z') (g : XT M.1.cls idx M' 4) (hd : DcAt M.2.1 pc (.invokestatic idx) 3 pc') (hro : fr + 1 ≤ R.frames ∧ 8 + (M'.2.2.1 + 11) + lo ≤ R.locals ∧ ca ≤ R.cells ∧ sl ≤ R.slots) (hrs : (rest.map fun v => v.category).sum ≤ 8) (hlok : lok w ls rest = true) (k : ∀ (x : XW) (r : Option Value), Z' x r → Vd R ex M n0 Z ca sl pc' ls (r.toList ++ rest) x) : Vd R ex M n0 Z ca sl pc ls (a4 :: a3 :: a2 :: a1 :: rest) w := v_callS (As := [a1, a2, a3, a4]) g hd h rfl rfl hro hrs hlok (fun x r hz _ => k x r hz)
theorem v_V5r {ci : Nat} {fs : List Value} (h : Sd (rm fr lo 0 0) M' [.ref b, a1, a2, a3, a4, a5] w w' (some v)) (g : XV M.1.cls idx M' 5) (hd : DcAt M.2.1 pc (.invokevirtual idx) 3 pc') (hw : w[b]? = some (.inr (ci, fs))) (hcl : (vwCl[ci]?).map (fun q => q.1) = some M'.1.cls) (hro : fr + 1 ≤ R.frames ∧ 8 + (M'.2.2.1 + 11) + lo ≤ R.locals ∧ ca ≤ R.cells ∧ sl ≤ R.slots) (hrs : (rest.map fun v => v.category).sum ≤ 8) (hlok : lok w ls rest = true) (k : Vd R ex M n0 Z ca sl pc' ls (v :: rest) w') : Vd R ex M n0 Z ca sl pc ls (a5 :: a4 :: a3 :: a2 :: a1 :: .ref b :: rest) w := v_callV (As := [a1, a2, a3, a4, a5]) g hd h rfl rfl hw hcl hro hrs hlok (fun x r hz _ => by obtain ⟨rfl, rfl⟩ := hz; exact k)
theorem v_S5r (h : Sd (rm fr lo 0 0) M' [a1, a2, a3, a4, a5] w w' (some v)) (g : XT M.1.cls idx M' 5) (hd : DcAt M.2.1 pc (.invokestatic idx) 3 pc') (hro : fr + 1 ≤ R.frames ∧ 8 + (M'.2.2.1 + 11) + lo ≤ R.locals ∧ ca ≤ R.cells ∧ sl ≤ R.slots) (hrs : (rest.map fun v => v.category).sum ≤ 8) (hlok : lok w ls rest = true) (k : Vd R ex M n0 Z ca sl pc' ls (v :: rest) w') : Vd R ex M n0 Z ca sl pc ls (a5 :: a4 :: a3 :: a2 :: a1 :: rest) w := v_callS (As := [a1, a2, a3, a4, a5]) g hd h rfl rfl hro hrs hlok (fun x r hz _ => by obtain ⟨rfl, rfl⟩ := hz; exact k)
theorem v_V5v {ci : Nat} {fs : List Value} (h : Sd (rm fr lo 0 0) M' [.ref b, a1, a2, a3, a4, a5] w w' none) (g : XV M.1.cls idx M' 5) (hd : DcAt M.2.1 pc (.invokevirtual idx) 3 pc') (hw : w[b]? = some (.inr (ci, fs))) (hcl : (vwCl[ci]?).map (fun q => q.1) = some M'.1.cls) (hro : fr + 1 ≤ R.frames ∧ 8 + (M'.2.2.1 + 11) + lo ≤ R.locals ∧ ca ≤ R.cells ∧ sl ≤ R.slots) (hrs : (rest.map fun v => v.category).sum ≤ 8) (hlok : lok w ls rest = true) (k : Vd R ex M n0 Z ca sl pc' ls (rest) w') : Vd R ex M n0 Z ca sl pc ls (a5 :: a4 :: a3 :: a2 :: a1 :: .ref b :: rest) w := v_callV (As := [a1, a2, a3, a4, a5]) g hd h rfl rfl hw hcl hro hrs hlok (fun x r hz _ => by obtain ⟨rfl, rfl⟩ := hz; exact k)
theorem v_S5v (h : Sd (rm fr lo 0 0) M' [a1, a2, a3, a4, a5] w w' none) (g : XT M.1.cls idx M' 5) (hd : DcAt M.2.1 pc (.invokestatic idx) 3 pc') (hro : fr + 1 ≤ R.frames ∧ 8 + (M'.2.2.1 + 11) + lo ≤ R.locals ∧ ca ≤ R.cells ∧ sl ≤ R.slots) (hrs : (rest.map fun v => v.category).sum ≤ 8) (hlok : lok w ls rest = true) (k : Vd R ex M n0 Z ca sl pc' ls (rest) w') : Vd R ex M n0 Z ca sl pc ls (a5 :: a4 :: a3 :: a2 :: a1 :: rest) w := v_callS (As := [a1, a2, a3, a4, a5]) g hd h rfl rfl hro hrs hlok (fun x r hz _ => by obtain ⟨rfl, rfl⟩ := hz; exact k)
theorem v_V5p {ci : Nat} {fs : List Value} (h : Sp (rm fr lo 0 0) M' [.ref b, a1, a2, a3, a4, a5] w Z') (g : XV M.1.cls idx M' 5) (hd : DcAt M.2.1 pc (.invokevirtual idx) 3 pc') (hw : w[b]? = some (.inr (ci, fs))) (hcl : (vwCl[ci]?).map (fun q => q.1) = some M'.1.cls) (hro : fr + 1 ≤ R.frames ∧ 8 + (M'.2.2.1 + 11) + lo ≤ R.locals ∧ ca ≤ R.cells ∧ sl ≤ R.slots) (hrs : (rest.map fun v => v.category).sum ≤ 8) (hlok : lok w ls rest = true) (k : ∀ (x : XW) (r : Option Value), Z' x r → Vd R ex M n0 Z ca sl pc' ls (r.toList ++ rest) x) : Vd R ex M n0 Z ca sl pc ls (a5 :: a4 :: a3 :: a2 :: a1 :: .ref b :: rest) w := v_callV (As := [a1, a2, a3, a4, a5]) g hd h rfl rfl hw hcl hro hrs hlok (fun x r hz _ => k x r hz)
theorem v_S5p (h : Sp (rm fr lo 0 0) M' [a1, a2, a3, a4, a5] w Z') (g : XT M.1.cls idx M' 5) (hd : DcAt M.2.1 pc (.invokestatic idx) 3 pc') (hro : fr + 1 ≤ R.frames ∧ 8 + (M'.2.2.1 + 11) + lo ≤ R.locals ∧ ca ≤ R.cells ∧ sl ≤ R.slots) (hrs : (rest.map fun v => v.category).sum ≤ 8) (hlok : lok w ls rest = true) (k : ∀ (x : XW) (r : Option Value), Z' x r → Vd R ex M n0 Z ca sl pc' ls (r.toList ++ rest) x) : Vd R ex M n0 Z ca sl pc ls (a5 :: a4 :: a3 :: a2 :: a1 :: rest) w := v_callS (As := [a1, a2, a3, a4, a5]) g hd h rfl rfl hro hrs hlok (fun x r hz _ => k x r hz)
end VdCallsN
end
