section
-- ===== PART A: goes FIRST, ahead of the names: the tables' words, and 'selects' of the private methods out of them =====
/-- a private method of a class that the tables say can be made, by its rows of tables_1 -/
def lw_okq (q : MethodName × Nat) : Prop := (q.1.cls ≠ "java/lang/invoke/MethodHandle" ∧ q.1.cls ≠ "java/lang/invoke/VarHandle") ∧ Cond.instantiable q.1.cls q.2 ∈ tables_1 ∧ Cond.privateMethod q.1 ∈ tables_1 ∧ Cond.instanceMethod q.1 ∈ tables_1
theorem lw_p0 : lw_okq (⟨"ChantNeumes", "feedNumber", "(I)V"⟩, 6) := ⟨⟨by decide +kernel, by decide +kernel⟩, List.mem_of_getElem? (i := 13) (by decide +kernel), List.mem_of_getElem? (i := 231) (by decide +kernel), List.mem_of_getElem? (i := 232) (by decide +kernel)⟩
theorem lw_p1 : lw_okq (⟨"ChantNeumes$Reader", "start", "()V"⟩, 12) := ⟨⟨by decide +kernel, by decide +kernel⟩, List.mem_of_getElem? (i := 101) (by decide +kernel), List.mem_of_getElem? (i := 255) (by decide +kernel), List.mem_of_getElem? (i := 256) (by decide +kernel)⟩
theorem lw_p2 : lw_okq (⟨"ChantNeumes$Reader", "takeInside", "(III)V"⟩, 12) := ⟨⟨by decide +kernel, by decide +kernel⟩, List.mem_of_getElem? (i := 101) (by decide +kernel), List.mem_of_getElem? (i := 271) (by decide +kernel), List.mem_of_getElem? (i := 272) (by decide +kernel)⟩
theorem lw_p3 : lw_okq (⟨"ChantNeumes$Reader", "takeMark", "(II)V"⟩, 12) := ⟨⟨by decide +kernel, by decide +kernel⟩, List.mem_of_getElem? (i := 101) (by decide +kernel), List.mem_of_getElem? (i := 278) (by decide +kernel), List.mem_of_getElem? (i := 279) (by decide +kernel)⟩
theorem lw_p4 : lw_okq (⟨"ChantNeumes$Reader", "refuse", "(II)V"⟩, 12) := ⟨⟨by decide +kernel, by decide +kernel⟩, List.mem_of_getElem? (i := 101) (by decide +kernel), List.mem_of_getElem? (i := 282) (by decide +kernel), List.mem_of_getElem? (i := 283) (by decide +kernel)⟩
theorem lw_p5 : lw_okq (⟨"ChantNeumes$Reader", "takeHeight", "(III)V"⟩, 12) := ⟨⟨by decide +kernel, by decide +kernel⟩, List.mem_of_getElem? (i := 101) (by decide +kernel), List.mem_of_getElem? (i := 295) (by decide +kernel), List.mem_of_getElem? (i := 296) (by decide +kernel)⟩
theorem lw_p6 : lw_okq (⟨"ChantNeumes$Reader", "takeAccidental", "(III)V"⟩, 12) := ⟨⟨by decide +kernel, by decide +kernel⟩, List.mem_of_getElem? (i := 101) (by decide +kernel), List.mem_of_getElem? (i := 299) (by decide +kernel), List.mem_of_getElem? (i := 300) (by decide +kernel)⟩
theorem lw_p7 : lw_okq (⟨"ChantNeumes$Reader", "addSign", "(III)Z"⟩, 12) := ⟨⟨by decide +kernel, by decide +kernel⟩, List.mem_of_getElem? (i := 101) (by decide +kernel), List.mem_of_getElem? (i := 303) (by decide +kernel), List.mem_of_getElem? (i := 304) (by decide +kernel)⟩
theorem lw_p8 : lw_okq (⟨"ChantNeumes$Reader", "takeClef", "(III)V"⟩, 12) := ⟨⟨by decide +kernel, by decide +kernel⟩, List.mem_of_getElem? (i := 101) (by decide +kernel), List.mem_of_getElem? (i := 310) (by decide +kernel), List.mem_of_getElem? (i := 311) (by decide +kernel)⟩
theorem lw_p9 : lw_okq (⟨"ChantNeumes$Reader", "takeNote", "(II)V"⟩, 12) := ⟨⟨by decide +kernel, by decide +kernel⟩, List.mem_of_getElem? (i := 101) (by decide +kernel), List.mem_of_getElem? (i := 314) (by decide +kernel), List.mem_of_getElem? (i := 315) (by decide +kernel)⟩
theorem lw_p10 : lw_okq (⟨"ChantNeumes$Reader", "endSyllable", "()V"⟩, 12) := ⟨⟨by decide +kernel, by decide +kernel⟩, List.mem_of_getElem? (i := 101) (by decide +kernel), List.mem_of_getElem? (i := 329) (by decide +kernel), List.mem_of_getElem? (i := 330) (by decide +kernel)⟩
theorem lw_p11 : lw_okq (⟨"ChantNeumes$Reader", "takeBar", "(II)V"⟩, 12) := ⟨⟨by decide +kernel, by decide +kernel⟩, List.mem_of_getElem? (i := 101) (by decide +kernel), List.mem_of_getElem? (i := 333) (by decide +kernel), List.mem_of_getElem? (i := 334) (by decide +kernel)⟩
theorem lw_p12 : lw_okq (⟨"ChantNeumes$Reader", "takeLineEnd", "(I)V"⟩, 12) := ⟨⟨by decide +kernel, by decide +kernel⟩, List.mem_of_getElem? (i := 101) (by decide +kernel), List.mem_of_getElem? (i := 337) (by decide +kernel), List.mem_of_getElem? (i := 338) (by decide +kernel)⟩
theorem lw_p13 : lw_okq (⟨"ChantNeumes$Reader", "takeOutside", "(II)V"⟩, 12) := ⟨⟨by decide +kernel, by decide +kernel⟩, List.mem_of_getElem? (i := 101) (by decide +kernel), List.mem_of_getElem? (i := 341) (by decide +kernel), List.mem_of_getElem? (i := 342) (by decide +kernel)⟩
theorem lw_p14 : lw_okq (⟨"ChantNeumes$Reader", "beginSyllable", "(I)Z"⟩, 12) := ⟨⟨by decide +kernel, by decide +kernel⟩, List.mem_of_getElem? (i := 101) (by decide +kernel), List.mem_of_getElem? (i := 351) (by decide +kernel), List.mem_of_getElem? (i := 352) (by decide +kernel)⟩
theorem lw_p15 : lw_okq (⟨"ChantNeumes$Psalm", "accentsOf", "(I)LChantNeumes$Table;"⟩, 4) := ⟨⟨by decide +kernel, by decide +kernel⟩, List.mem_of_getElem? (i := 146) (by decide +kernel), List.mem_of_getElem? (i := 482) (by decide +kernel), List.mem_of_getElem? (i := 483) (by decide +kernel)⟩
def lw_privs_1 : List (MethodName × Nat) := [(⟨"ChantNeumes", "feedNumber", "(I)V"⟩, 6), (⟨"ChantNeumes$Reader", "start", "()V"⟩, 12), (⟨"ChantNeumes$Reader", "takeInside", "(III)V"⟩, 12), (⟨"ChantNeumes$Reader", "takeMark", "(II)V"⟩, 12), (⟨"ChantNeumes$Reader", "refuse", "(II)V"⟩, 12), (⟨"ChantNeumes$Reader", "takeHeight", "(III)V"⟩, 12), (⟨"ChantNeumes$Reader", "takeAccidental", "(III)V"⟩, 12), (⟨"ChantNeumes$Reader", "addSign", "(III)Z"⟩, 12), (⟨"ChantNeumes$Reader", "takeClef", "(III)V"⟩, 12), (⟨"ChantNeumes$Reader", "takeNote", "(II)V"⟩, 12), (⟨"ChantNeumes$Reader", "endSyllable", "()V"⟩, 12), (⟨"ChantNeumes$Reader", "takeBar", "(II)V"⟩, 12), (⟨"ChantNeumes$Reader", "takeLineEnd", "(I)V"⟩, 12), (⟨"ChantNeumes$Reader", "takeOutside", "(II)V"⟩, 12), (⟨"ChantNeumes$Reader", "beginSyllable", "(I)Z"⟩, 12), (⟨"ChantNeumes$Psalm", "accentsOf", "(I)LChantNeumes$Table;"⟩, 4)]
theorem lw_r1 : ∀ q ∈ lw_privs_1, lw_okq q := List.forall_mem_cons.mpr ⟨lw_p0, List.forall_mem_cons.mpr ⟨lw_p1, List.forall_mem_cons.mpr ⟨lw_p2, List.forall_mem_cons.mpr ⟨lw_p3, List.forall_mem_cons.mpr ⟨lw_p4, List.forall_mem_cons.mpr ⟨lw_p5, List.forall_mem_cons.mpr ⟨lw_p6, List.forall_mem_cons.mpr ⟨lw_p7, List.forall_mem_cons.mpr ⟨lw_p8, List.forall_mem_cons.mpr ⟨lw_p9, List.forall_mem_cons.mpr ⟨lw_p10, List.forall_mem_cons.mpr ⟨lw_p11, List.forall_mem_cons.mpr ⟨lw_p12, List.forall_mem_cons.mpr ⟨lw_p13, List.forall_mem_cons.mpr ⟨lw_p14, List.forall_mem_cons.mpr ⟨lw_p15, fun _ h => absurd h List.not_mem_nil⟩⟩⟩⟩⟩⟩⟩⟩⟩⟩⟩⟩⟩⟩⟩⟩
theorem lw_p16 : lw_okq (⟨"ChantNeumes$Fitting", "placeAccents", "(LChantNeumes$Table;)V"⟩, 8) := ⟨⟨by decide +kernel, by decide +kernel⟩, List.mem_of_getElem? (i := 154) (by decide +kernel), List.mem_of_getElem? (i := 513) (by decide +kernel), List.mem_of_getElem? (i := 514) (by decide +kernel)⟩
theorem lw_p17 : lw_okq (⟨"ChantNeumes$Fitting", "closeCell", "(I)I"⟩, 8) := ⟨⟨by decide +kernel, by decide +kernel⟩, List.mem_of_getElem? (i := 154) (by decide +kernel), List.mem_of_getElem? (i := 522) (by decide +kernel), List.mem_of_getElem? (i := 523) (by decide +kernel)⟩
theorem lw_p18 : lw_okq (⟨"ChantNeumes$Fitting", "chooseForm", "()V"⟩, 8) := ⟨⟨by decide +kernel, by decide +kernel⟩, List.mem_of_getElem? (i := 154) (by decide +kernel), List.mem_of_getElem? (i := 534) (by decide +kernel), List.mem_of_getElem? (i := 535) (by decide +kernel)⟩
theorem lw_p19 : lw_okq (⟨"ChantNeumes$Fitting", "firstPlaced", "()I"⟩, 8) := ⟨⟨by decide +kernel, by decide +kernel⟩, List.mem_of_getElem? (i := 154) (by decide +kernel), List.mem_of_getElem? (i := 538) (by decide +kernel), List.mem_of_getElem? (i := 539) (by decide +kernel)⟩
theorem lw_p20 : lw_okq (⟨"ChantNeumes$Fitting", "singSyllable", "(IZ)V"⟩, 8) := ⟨⟨by decide +kernel, by decide +kernel⟩, List.mem_of_getElem? (i := 154) (by decide +kernel), List.mem_of_getElem? (i := 542) (by decide +kernel), List.mem_of_getElem? (i := 543) (by decide +kernel)⟩
theorem lw_p21 : lw_okq (⟨"ChantNeumes$Fitting", "stepOf", "(I)I"⟩, 8) := ⟨⟨by decide +kernel, by decide +kernel⟩, List.mem_of_getElem? (i := 154) (by decide +kernel), List.mem_of_getElem? (i := 546) (by decide +kernel), List.mem_of_getElem? (i := 547) (by decide +kernel)⟩
theorem lw_p22 : lw_okq (⟨"ChantNeumes$Fitting", "addStep", "(II)V"⟩, 8) := ⟨⟨by decide +kernel, by decide +kernel⟩, List.mem_of_getElem? (i := 154) (by decide +kernel), List.mem_of_getElem? (i := 550) (by decide +kernel), List.mem_of_getElem? (i := 551) (by decide +kernel)⟩
theorem lw_p23 : lw_okq (⟨"ChantNeumesModel", "readText", "()V"⟩, 56) := ⟨⟨by decide +kernel, by decide +kernel⟩, List.mem_of_getElem? (i := 609) (by decide +kernel), List.mem_of_getElem? (i := 799) (by decide +kernel), List.mem_of_getElem? (i := 800) (by decide +kernel)⟩
theorem lw_p24 : lw_okq (⟨"ChantNeumesModel", "nothing", "()V"⟩, 56) := ⟨⟨by decide +kernel, by decide +kernel⟩, List.mem_of_getElem? (i := 609) (by decide +kernel), List.mem_of_getElem? (i := 803) (by decide +kernel), List.mem_of_getElem? (i := 804) (by decide +kernel)⟩
theorem lw_p25 : lw_okq (⟨"ChantNeumesModel", "beginSyllable", "(Z)V"⟩, 56) := ⟨⟨by decide +kernel, by decide +kernel⟩, List.mem_of_getElem? (i := 609) (by decide +kernel), List.mem_of_getElem? (i := 813) (by decide +kernel), List.mem_of_getElem? (i := 814) (by decide +kernel)⟩
theorem lw_p26 : lw_okq (⟨"ChantNeumesModel", "wrong", "(II)V"⟩, 56) := ⟨⟨by decide +kernel, by decide +kernel⟩, List.mem_of_getElem? (i := 609) (by decide +kernel), List.mem_of_getElem? (i := 817) (by decide +kernel), List.mem_of_getElem? (i := 818) (by decide +kernel)⟩
theorem lw_p27 : lw_okq (⟨"ChantNeumesModel", "readSigns", "()V"⟩, 56) := ⟨⟨by decide +kernel, by decide +kernel⟩, List.mem_of_getElem? (i := 609) (by decide +kernel), List.mem_of_getElem? (i := 821) (by decide +kernel), List.mem_of_getElem? (i := 822) (by decide +kernel)⟩
theorem lw_p28 : lw_okq (⟨"ChantNeumesModel", "byteAt", "(I)I"⟩, 56) := ⟨⟨by decide +kernel, by decide +kernel⟩, List.mem_of_getElem? (i := 609) (by decide +kernel), List.mem_of_getElem? (i := 825) (by decide +kernel), List.mem_of_getElem? (i := 826) (by decide +kernel)⟩
theorem lw_p29 : lw_okq (⟨"ChantNeumesModel", "readHeight", "(IIZ)Z"⟩, 56) := ⟨⟨by decide +kernel, by decide +kernel⟩, List.mem_of_getElem? (i := 609) (by decide +kernel), List.mem_of_getElem? (i := 829) (by decide +kernel), List.mem_of_getElem? (i := 830) (by decide +kernel)⟩
theorem lw_p30 : lw_okq (⟨"ChantNeumesModel", "put", "(II)V"⟩, 56) := ⟨⟨by decide +kernel, by decide +kernel⟩, List.mem_of_getElem? (i := 609) (by decide +kernel), List.mem_of_getElem? (i := 833) (by decide +kernel), List.mem_of_getElem? (i := 834) (by decide +kernel)⟩
theorem lw_p31 : lw_okq (⟨"ChantNeumesModel", "markAt", "(I)I"⟩, 56) := ⟨⟨by decide +kernel, by decide +kernel⟩, List.mem_of_getElem? (i := 609) (by decide +kernel), List.mem_of_getElem? (i := 837) (by decide +kernel), List.mem_of_getElem? (i := 838) (by decide +kernel)⟩
def lw_privs_2 : List (MethodName × Nat) := [(⟨"ChantNeumes$Fitting", "placeAccents", "(LChantNeumes$Table;)V"⟩, 8), (⟨"ChantNeumes$Fitting", "closeCell", "(I)I"⟩, 8), (⟨"ChantNeumes$Fitting", "chooseForm", "()V"⟩, 8), (⟨"ChantNeumes$Fitting", "firstPlaced", "()I"⟩, 8), (⟨"ChantNeumes$Fitting", "singSyllable", "(IZ)V"⟩, 8), (⟨"ChantNeumes$Fitting", "stepOf", "(I)I"⟩, 8), (⟨"ChantNeumes$Fitting", "addStep", "(II)V"⟩, 8), (⟨"ChantNeumesModel", "readText", "()V"⟩, 56), (⟨"ChantNeumesModel", "nothing", "()V"⟩, 56), (⟨"ChantNeumesModel", "beginSyllable", "(Z)V"⟩, 56), (⟨"ChantNeumesModel", "wrong", "(II)V"⟩, 56), (⟨"ChantNeumesModel", "readSigns", "()V"⟩, 56), (⟨"ChantNeumesModel", "byteAt", "(I)I"⟩, 56), (⟨"ChantNeumesModel", "readHeight", "(IIZ)Z"⟩, 56), (⟨"ChantNeumesModel", "put", "(II)V"⟩, 56), (⟨"ChantNeumesModel", "markAt", "(I)I"⟩, 56)]
theorem lw_r2 : ∀ q ∈ lw_privs_2, lw_okq q := List.forall_mem_cons.mpr ⟨lw_p16, List.forall_mem_cons.mpr ⟨lw_p17, List.forall_mem_cons.mpr ⟨lw_p18, List.forall_mem_cons.mpr ⟨lw_p19, List.forall_mem_cons.mpr ⟨lw_p20, List.forall_mem_cons.mpr ⟨lw_p21, List.forall_mem_cons.mpr ⟨lw_p22, List.forall_mem_cons.mpr ⟨lw_p23, List.forall_mem_cons.mpr ⟨lw_p24, List.forall_mem_cons.mpr ⟨lw_p25, List.forall_mem_cons.mpr ⟨lw_p26, List.forall_mem_cons.mpr ⟨lw_p27, List.forall_mem_cons.mpr ⟨lw_p28, List.forall_mem_cons.mpr ⟨lw_p29, List.forall_mem_cons.mpr ⟨lw_p30, List.forall_mem_cons.mpr ⟨lw_p31, fun _ h => absurd h List.not_mem_nil⟩⟩⟩⟩⟩⟩⟩⟩⟩⟩⟩⟩⟩⟩⟩⟩
theorem lw_p32 : lw_okq (⟨"ChantNeumesModel", "workOut", "()V"⟩, 56) := ⟨⟨by decide +kernel, by decide +kernel⟩, List.mem_of_getElem? (i := 609) (by decide +kernel), List.mem_of_getElem? (i := 841) (by decide +kernel), List.mem_of_getElem? (i := 842) (by decide +kernel)⟩
theorem lw_p33 : lw_okq (⟨"ChantNeumesModel", "unflat", "()V"⟩, 56) := ⟨⟨by decide +kernel, by decide +kernel⟩, List.mem_of_getElem? (i := 609) (by decide +kernel), List.mem_of_getElem? (i := 845) (by decide +kernel), List.mem_of_getElem? (i := 846) (by decide +kernel)⟩
theorem lw_p34 : lw_okq (⟨"ChantNeumesModel", "findNeumes", "()V"⟩, 56) := ⟨⟨by decide +kernel, by decide +kernel⟩, List.mem_of_getElem? (i := 609) (by decide +kernel), List.mem_of_getElem? (i := 861) (by decide +kernel), List.mem_of_getElem? (i := 862) (by decide +kernel)⟩
theorem lw_p35 : lw_okq (⟨"ChantNeumesModel", "wayOf", "(I)I"⟩, 56) := ⟨⟨by decide +kernel, by decide +kernel⟩, List.mem_of_getElem? (i := 609) (by decide +kernel), List.mem_of_getElem? (i := 865) (by decide +kernel), List.mem_of_getElem? (i := 866) (by decide +kernel)⟩
theorem lw_p36 : lw_okq (⟨"ChantNeumesModel", "notesOf", "(I)I"⟩, 56) := ⟨⟨by decide +kernel, by decide +kernel⟩, List.mem_of_getElem? (i := 609) (by decide +kernel), List.mem_of_getElem? (i := 877) (by decide +kernel), List.mem_of_getElem? (i := 878) (by decide +kernel)⟩
theorem lw_p37 : lw_okq (⟨"ChantNeumesModel", "firstOf", "(I)I"⟩, 56) := ⟨⟨by decide +kernel, by decide +kernel⟩, List.mem_of_getElem? (i := 609) (by decide +kernel), List.mem_of_getElem? (i := 881) (by decide +kernel), List.mem_of_getElem? (i := 882) (by decide +kernel)⟩
theorem lw_p38 : lw_okq (⟨"ChantNeumesModel", "lengthOf", "(I)I"⟩, 56) := ⟨⟨by decide +kernel, by decide +kernel⟩, List.mem_of_getElem? (i := 609) (by decide +kernel), List.mem_of_getElem? (i := 889) (by decide +kernel), List.mem_of_getElem? (i := 890) (by decide +kernel)⟩
theorem lw_p39 : lw_okq (⟨"ChantNeumesModel", "fit", "(I)V"⟩, 56) := ⟨⟨by decide +kernel, by decide +kernel⟩, List.mem_of_getElem? (i := 609) (by decide +kernel), List.mem_of_getElem? (i := 925) (by decide +kernel), List.mem_of_getElem? (i := 926) (by decide +kernel)⟩
theorem lw_p40 : lw_okq (⟨"ChantNeumesModel", "accentBefore", "(II)I"⟩, 56) := ⟨⟨by decide +kernel, by decide +kernel⟩, List.mem_of_getElem? (i := 609) (by decide +kernel), List.mem_of_getElem? (i := 929) (by decide +kernel), List.mem_of_getElem? (i := 930) (by decide +kernel)⟩
theorem lw_p41 : lw_okq (⟨"ChantNeumesModel", "close", "(II)I"⟩, 56) := ⟨⟨by decide +kernel, by decide +kernel⟩, List.mem_of_getElem? (i := 609) (by decide +kernel), List.mem_of_getElem? (i := 933) (by decide +kernel), List.mem_of_getElem? (i := 934) (by decide +kernel)⟩
theorem lw_p42 : lw_okq (⟨"ChantNeumesModel", "sing", "(II)V"⟩, 56) := ⟨⟨by decide +kernel, by decide +kernel⟩, List.mem_of_getElem? (i := 609) (by decide +kernel), List.mem_of_getElem? (i := 937) (by decide +kernel), List.mem_of_getElem? (i := 938) (by decide +kernel)⟩
theorem lw_p43 : lw_okq (⟨"ChantNeumesModel", "tell", "(I)V"⟩, 56) := ⟨⟨by decide +kernel, by decide +kernel⟩, List.mem_of_getElem? (i := 609) (by decide +kernel), List.mem_of_getElem? (i := 949) (by decide +kernel), List.mem_of_getElem? (i := 950) (by decide +kernel)⟩
theorem lw_p44 : lw_okq (⟨"ChantNeumesModel", "tellSign", "(II)V"⟩, 56) := ⟨⟨by decide +kernel, by decide +kernel⟩, List.mem_of_getElem? (i := 609) (by decide +kernel), List.mem_of_getElem? (i := 953) (by decide +kernel), List.mem_of_getElem? (i := 954) (by decide +kernel)⟩
theorem lw_p45 : lw_okq (⟨"ChantNeumesModel", "tellIf", "(III)V"⟩, 56) := ⟨⟨by decide +kernel, by decide +kernel⟩, List.mem_of_getElem? (i := 609) (by decide +kernel), List.mem_of_getElem? (i := 957) (by decide +kernel), List.mem_of_getElem? (i := 958) (by decide +kernel)⟩
theorem lw_p46 : lw_okq (⟨"ChantNeumesModel", "isParted", "(II)Z"⟩, 56) := ⟨⟨by decide +kernel, by decide +kernel⟩, List.mem_of_getElem? (i := 609) (by decide +kernel), List.mem_of_getElem? (i := 961) (by decide +kernel), List.mem_of_getElem? (i := 962) (by decide +kernel)⟩
def lw_privs_3 : List (MethodName × Nat) := [(⟨"ChantNeumesModel", "workOut", "()V"⟩, 56), (⟨"ChantNeumesModel", "unflat", "()V"⟩, 56), (⟨"ChantNeumesModel", "findNeumes", "()V"⟩, 56), (⟨"ChantNeumesModel", "wayOf", "(I)I"⟩, 56), (⟨"ChantNeumesModel", "notesOf", "(I)I"⟩, 56), (⟨"ChantNeumesModel", "firstOf", "(I)I"⟩, 56), (⟨"ChantNeumesModel", "lengthOf", "(I)I"⟩, 56), (⟨"ChantNeumesModel", "fit", "(I)V"⟩, 56), (⟨"ChantNeumesModel", "accentBefore", "(II)I"⟩, 56), (⟨"ChantNeumesModel", "close", "(II)I"⟩, 56), (⟨"ChantNeumesModel", "sing", "(II)V"⟩, 56), (⟨"ChantNeumesModel", "tell", "(I)V"⟩, 56), (⟨"ChantNeumesModel", "tellSign", "(II)V"⟩, 56), (⟨"ChantNeumesModel", "tellIf", "(III)V"⟩, 56), (⟨"ChantNeumesModel", "isParted", "(II)Z"⟩, 56)]
theorem lw_r3 : ∀ q ∈ lw_privs_3, lw_okq q := List.forall_mem_cons.mpr ⟨lw_p32, List.forall_mem_cons.mpr ⟨lw_p33, List.forall_mem_cons.mpr ⟨lw_p34, List.forall_mem_cons.mpr ⟨lw_p35, List.forall_mem_cons.mpr ⟨lw_p36, List.forall_mem_cons.mpr ⟨lw_p37, List.forall_mem_cons.mpr ⟨lw_p38, List.forall_mem_cons.mpr ⟨lw_p39, List.forall_mem_cons.mpr ⟨lw_p40, List.forall_mem_cons.mpr ⟨lw_p41, List.forall_mem_cons.mpr ⟨lw_p42, List.forall_mem_cons.mpr ⟨lw_p43, List.forall_mem_cons.mpr ⟨lw_p44, List.forall_mem_cons.mpr ⟨lw_p45, List.forall_mem_cons.mpr ⟨lw_p46, fun _ h => absurd h List.not_mem_nil⟩⟩⟩⟩⟩⟩⟩⟩⟩⟩⟩⟩⟩⟩⟩
def lw_privs : List (MethodName × Nat) := lw_privs_1 ++ (lw_privs_2 ++ (lw_privs_3))
def lw_tbl : List Cond := k2_sels lw_privs ++ tables_1
theorem lw_privs_ok : ∀ q ∈ lw_privs, lw_okq q := by
  show ∀ q ∈ lw_privs_1 ++ (lw_privs_2 ++ (lw_privs_3)), lw_okq q
  exact List.forall_mem_append.mpr ⟨lw_r1, List.forall_mem_append.mpr ⟨lw_r2, lw_r3⟩⟩
end
section
/-! names: classes, fields, methods (printed by wip/tools/gen_names.py out of the claim's own names) -/
def goodTB : List Cond := lw_tbl.filter goodWord
theorem mTB {w : Cond} (h : w ∈ lw_tbl) (g : goodWord w = true) : w ∈ goodTB := List.mem_filter.mpr ⟨h, g⟩
theorem inTB {w : Cond} (i : Nat) (h : lw_tbl[i]? = some w) (g : goodWord w = true) : w ∈ goodTB := mTB (List.mem_of_getElem? h) g
theorem inT0 {w : Cond} (i : Nat) (h : (k2_sels lw_privs)[i]? = some w) (g : goodWord w = true) : w ∈ goodTB := mTB (List.mem_append_left _ (List.mem_of_getElem? h)) g
theorem inT1 {w : Cond} (i : Nat) (h : tables_1_1[i]? = some w) (g : goodWord w = true) : w ∈ goodTB := mTB (List.mem_append_right _ (List.mem_append_left _ (List.mem_of_getElem? h))) g
theorem inT2 {w : Cond} (i : Nat) (h : tables_1_2[i]? = some w) (g : goodWord w = true) : w ∈ goodTB := mTB (List.mem_append_right _ (List.mem_append_right _ (List.mem_append_left _ (List.mem_of_getElem? h)))) g
theorem inT3 {w : Cond} (i : Nat) (h : tables_1_3[i]? = some w) (g : goodWord w = true) : w ∈ goodTB := mTB (List.mem_append_right _ (List.mem_append_right _ (List.mem_append_right _ (List.mem_append_left _ (List.mem_of_getElem? h))))) g
theorem inT4 {w : Cond} (i : Nat) (h : tables_1_4[i]? = some w) (g : goodWord w = true) : w ∈ goodTB := mTB (List.mem_append_right _ (List.mem_append_right _ (List.mem_append_right _ (List.mem_append_right _ (List.mem_append_left _ (List.mem_of_getElem? h)))))) g
theorem inT5 {w : Cond} (i : Nat) (h : tables_1_5[i]? = some w) (g : goodWord w = true) : w ∈ goodTB := mTB (List.mem_append_right _ (List.mem_append_right _ (List.mem_append_right _ (List.mem_append_right _ (List.mem_append_right _ (List.mem_of_getElem? h)))))) g
theorem sub_of {ws : List Cond} (ps : List Nat) (hp : ws = ps.filterMap (fun i => lw_tbl[i]?)) (hg : ws.all goodWord = true) : ∀ w ∈ ws, w ∈ goodTB := by
  intro w hw
  have h1 := List.all_eq_true.mp hg w hw
  rw [hp] at hw
  obtain ⟨i, -, hi⟩ := List.mem_filterMap.mp hw
  exact mTB (List.mem_of_getElem? hi) h1
/-- a method: its name, its bytes, its locals, what it returns -/
abbrev MI : Type := MethodName × ByteArray × Nat × Option FieldType
def RX0 : String := "ChantNeumes$Fitting"
def TX0 : u_T := fun k => match k with
  | 0 => ("ChantNeumes$Fitting", "steps", "LChantNeumes$Table;", true)
  | 1 => ("ChantNeumes$Fitting", "isShort", "Z", false)
  | 2 => ("ChantNeumes$Fitting", "firstAccent", "I", false)
  | 3 => ("ChantNeumes$Fitting", "lastAccent", "I", false)
  | 4 => ("ChantNeumes$Fitting", "tone", "I", false)
  | 5 => ("ChantNeumes$Fitting", "half", "I", false)
  | 6 => ("ChantNeumes$Fitting", "openingSteps", "I", false)
  | _ => ("ChantNeumes$Fitting", "preparingSteps", "I", false)
def tyX0 : Nat → FieldType := fun k => match k with
  | 0 => .object "ChantNeumes$Table"
  | 1 => .boolean
  | 2 => .int
  | 3 => .int
  | 4 => .int
  | 5 => .int
  | 6 => .int
  | _ => .int
theorem nmX0 : ∀ a, a < 8 → ∀ b, b < 8 → a ≠ b → (TX0 a).2.1 ≠ (TX0 b).2.1 := by decide +kernel
theorem tyX0_ok : ∀ k, k < 8 → parseFieldDescriptor (TX0 k).2.2.1 = some (tyX0 k) := by decide +kernel
abbrev cX0_init : ByteArray := prog_2_method_1_code
def yX0_init : MethodName := ⟨RX0, "<init>", "(I)V"⟩
abbrev cX0_fit : ByteArray := prog_2_method_2_code
def yX0_fit : MethodName := ⟨RX0, "fit", "(LChantNeumes$Table;II)V"⟩
abbrev cX0_placeAccents : ByteArray := prog_2_method_3_code
def yX0_placeAccents : MethodName := ⟨RX0, "placeAccents", "(LChantNeumes$Table;)V"⟩
abbrev cX0_accentBefore : ByteArray := prog_2_method_4_code
def yX0_accentBefore : MethodName := ⟨RX0, "accentBefore", "(LChantNeumes$Table;I)I"⟩
abbrev cX0_chooseForm : ByteArray := prog_2_method_5_code
def yX0_chooseForm : MethodName := ⟨RX0, "chooseForm", "()V"⟩
abbrev cX0_firstPlaced : ByteArray := prog_2_method_6_code
def yX0_firstPlaced : MethodName := ⟨RX0, "firstPlaced", "()I"⟩
abbrev cX0_singSyllable : ByteArray := prog_2_method_7_code
def yX0_singSyllable : MethodName := ⟨RX0, "singSyllable", "(IZ)V"⟩
abbrev cX0_stepOf : ByteArray := prog_2_method_8_code
def yX0_stepOf : MethodName := ⟨RX0, "stepOf", "(I)I"⟩
abbrev cX0_closeCell : ByteArray := prog_2_method_9_code
def yX0_closeCell : MethodName := ⟨RX0, "closeCell", "(I)I"⟩
abbrev cX0_addStep : ByteArray := prog_2_method_10_code
def yX0_addStep : MethodName := ⟨RX0, "addStep", "(II)V"⟩
def RX1 : String := "ChantNeumes$Psalm"
def TX1 : u_T := fun k => match k with
  | 0 => ("ChantNeumes$Psalm", "firstHalf", "LChantNeumes$Table;", true)
  | 1 => ("ChantNeumes$Psalm", "secondHalf", "LChantNeumes$Table;", true)
  | 2 => ("ChantNeumes$Psalm", "fitting", "LChantNeumes$Fitting;", true)
  | _ => ("ChantNeumes$Psalm", "toneNumber", "I", false)
def tyX1 : Nat → FieldType := fun k => match k with
  | 0 => .object "ChantNeumes$Table"
  | 1 => .object "ChantNeumes$Table"
  | 2 => .object "ChantNeumes$Fitting"
  | _ => .int
theorem nmX1 : ∀ a, a < 4 → ∀ b, b < 4 → a ≠ b → (TX1 a).2.1 ≠ (TX1 b).2.1 := by decide +kernel
theorem tyX1_ok : ∀ k, k < 4 → parseFieldDescriptor (TX1 k).2.2.1 = some (tyX1 k) := by decide +kernel
abbrev cX1_init : ByteArray := prog_3_method_1_code
def yX1_init : MethodName := ⟨RX1, "<init>", "()V"⟩
abbrev cX1_isHalf : ByteArray := prog_3_method_2_code
def yX1_isHalf : MethodName := ⟨RX1, "isHalf", "(I)Z"⟩
abbrev cX1_changeTone : ByteArray := prog_3_method_3_code
def yX1_changeTone : MethodName := ⟨RX1, "changeTone", "(I)I"⟩
abbrev cX1_addSyllable : ByteArray := prog_3_method_4_code
def yX1_addSyllable : MethodName := ⟨RX1, "addSyllable", "(IZ)I"⟩
abbrev cX1_forgetVerse : ByteArray := prog_3_method_5_code
def yX1_forgetVerse : MethodName := ⟨RX1, "forgetVerse", "()I"⟩
abbrev cX1_fitted : ByteArray := prog_3_method_6_code
def yX1_fitted : MethodName := ⟨RX1, "fitted", "(I)LChantNeumes$Fitting;"⟩
abbrev cX1_accentsOf : ByteArray := prog_3_method_7_code
def yX1_accentsOf : MethodName := ⟨RX1, "accentsOf", "(I)LChantNeumes$Table;"⟩
def RX2 : String := "ChantNeumes$Reader"
def TX2 : u_T := fun k => match k with
  | 0 => ("ChantNeumes$Reader", "score", "LChantNeumes$Score;", true)
  | 1 => ("ChantNeumes$Reader", "signsOfKind", "LChantNeumes$Table;", true)
  | 2 => ("ChantNeumes$Reader", "fault", "I", false)
  | 3 => ("ChantNeumes$Reader", "place", "I", false)
  | 4 => ("ChantNeumes$Reader", "next", "I", false)
  | 5 => ("ChantNeumes$Reader", "zero", "I", false)
  | 6 => ("ChantNeumes$Reader", "flats", "I", false)
  | 7 => ("ChantNeumes$Reader", "inBrackets", "Z", false)
  | 8 => ("ChantNeumes$Reader", "inSyllable", "Z", false)
  | 9 => ("ChantNeumes$Reader", "inWord", "Z", false)
  | 10 => ("ChantNeumes$Reader", "inGroup", "Z", false)
  | _ => ("ChantNeumes$Reader", "behindNote", "Z", false)
def tyX2 : Nat → FieldType := fun k => match k with
  | 0 => .object "ChantNeumes$Score"
  | 1 => .object "ChantNeumes$Table"
  | 2 => .int
  | 3 => .int
  | 4 => .int
  | 5 => .int
  | 6 => .int
  | 7 => .boolean
  | 8 => .boolean
  | 9 => .boolean
  | 10 => .boolean
  | _ => .boolean
theorem nmX2 : ∀ a, a < 12 → ∀ b, b < 12 → a ≠ b → (TX2 a).2.1 ≠ (TX2 b).2.1 := by decide +kernel
theorem tyX2_ok : ∀ k, k < 12 → parseFieldDescriptor (TX2 k).2.2.1 = some (tyX2 k) := by decide +kernel
abbrev cX2_init : ByteArray := prog_4_method_1_code
def yX2_init : MethodName := ⟨RX2, "<init>", "(LChantNeumes$Score;)V"⟩
abbrev cX2_placeOfFault : ByteArray := prog_4_method_2_code
def yX2_placeOfFault : MethodName := ⟨RX2, "placeOfFault", "()I"⟩
abbrev cX2_readFrom : ByteArray := prog_4_method_3_code
def yX2_readFrom : MethodName := ⟨RX2, "readFrom", "(LChantNeumes$Table;)I"⟩
abbrev cX2_start : ByteArray := prog_4_method_4_code
def yX2_start : MethodName := ⟨RX2, "start", "()V"⟩
abbrev cX2_refuse : ByteArray := prog_4_method_5_code
def yX2_refuse : MethodName := ⟨RX2, "refuse", "(II)V"⟩
abbrev cX2_takeOutside : ByteArray := prog_4_method_6_code
def yX2_takeOutside : MethodName := ⟨RX2, "takeOutside", "(II)V"⟩
abbrev cX2_beginSyllable : ByteArray := prog_4_method_7_code
def yX2_beginSyllable : MethodName := ⟨RX2, "beginSyllable", "(I)Z"⟩
abbrev cX2_endSyllable : ByteArray := prog_4_method_8_code
def yX2_endSyllable : MethodName := ⟨RX2, "endSyllable", "()V"⟩
abbrev cX2_takeInside : ByteArray := prog_4_method_9_code
def yX2_takeInside : MethodName := ⟨RX2, "takeInside", "(III)V"⟩
abbrev cX2_takeMark : ByteArray := prog_4_method_10_code
def yX2_takeMark : MethodName := ⟨RX2, "takeMark", "(II)V"⟩
abbrev cX2_takeHeight : ByteArray := prog_4_method_11_code
def yX2_takeHeight : MethodName := ⟨RX2, "takeHeight", "(III)V"⟩
abbrev cX2_takeAccidental : ByteArray := prog_4_method_12_code
def yX2_takeAccidental : MethodName := ⟨RX2, "takeAccidental", "(III)V"⟩
abbrev cX2_takeClef : ByteArray := prog_4_method_13_code
def yX2_takeClef : MethodName := ⟨RX2, "takeClef", "(III)V"⟩
abbrev cX2_takeNote : ByteArray := prog_4_method_14_code
def yX2_takeNote : MethodName := ⟨RX2, "takeNote", "(II)V"⟩
abbrev cX2_takeBar : ByteArray := prog_4_method_15_code
def yX2_takeBar : MethodName := ⟨RX2, "takeBar", "(II)V"⟩
abbrev cX2_takeLineEnd : ByteArray := prog_4_method_16_code
def yX2_takeLineEnd : MethodName := ⟨RX2, "takeLineEnd", "(I)V"⟩
abbrev cX2_addSign : ByteArray := prog_4_method_17_code
def yX2_addSign : MethodName := ⟨RX2, "addSign", "(III)Z"⟩
abbrev cX2_roomOf : ByteArray := prog_4_method_18_code
def yX2_roomOf : MethodName := ⟨RX2, "roomOf", "(I)I"⟩
abbrev cX2_semitonesOf : ByteArray := prog_4_method_19_code
def yX2_semitonesOf : MethodName := ⟨RX2, "semitonesOf", "(I)I"⟩
abbrev cX2_isBlank : ByteArray := prog_4_method_20_code
def yX2_isBlank : MethodName := ⟨RX2, "isBlank", "(I)Z"⟩
abbrev cX2_isLetter : ByteArray := prog_4_method_21_code
def yX2_isLetter : MethodName := ⟨RX2, "isLetter", "(I)Z"⟩
abbrev cX2_markOf : ByteArray := prog_4_method_22_code
def yX2_markOf : MethodName := ⟨RX2, "markOf", "(I)I"⟩
def RX3 : String := "ChantNeumes$Score"
def TX3 : u_T := fun k => match k with
  | 0 => ("ChantNeumes$Score", "letters", "LChantNeumes$Table;", true)
  | 1 => ("ChantNeumes$Score", "syllables", "LChantNeumes$Table;", true)
  | 2 => ("ChantNeumes$Score", "notes", "LChantNeumes$Table;", true)
  | 3 => ("ChantNeumes$Score", "neumes", "LChantNeumes$Table;", true)
  | 4 => ("ChantNeumes$Score", "bars", "LChantNeumes$Table;", true)
  | 5 => ("ChantNeumes$Score", "ends", "LChantNeumes$Table;", true)
  | 6 => ("ChantNeumes$Score", "signs", "LChantNeumes$Table;", true)
  | 7 => ("ChantNeumes$Score", "words", "I", false)
  | _ => ("ChantNeumes$Score", "groups", "I", false)
def tyX3 : Nat → FieldType := fun k => match k with
  | 0 => .object "ChantNeumes$Table"
  | 1 => .object "ChantNeumes$Table"
  | 2 => .object "ChantNeumes$Table"
  | 3 => .object "ChantNeumes$Table"
  | 4 => .object "ChantNeumes$Table"
  | 5 => .object "ChantNeumes$Table"
  | 6 => .object "ChantNeumes$Table"
  | 7 => .int
  | _ => .int
theorem nmX3 : ∀ a, a < 9 → ∀ b, b < 9 → a ≠ b → (TX3 a).2.1 ≠ (TX3 b).2.1 := by decide +kernel
theorem tyX3_ok : ∀ k, k < 9 → parseFieldDescriptor (TX3 k).2.2.1 = some (tyX3 k) := by decide +kernel
abbrev cX3_init : ByteArray := prog_5_method_1_code
def yX3_init : MethodName := ⟨RX3, "<init>", "()V"⟩
abbrev cX3_clear : ByteArray := prog_5_method_2_code
def yX3_clear : MethodName := ⟨RX3, "clear", "()V"⟩
abbrev cX3_syllablesWithoutNotes : ByteArray := prog_5_method_3_code
def yX3_syllablesWithoutNotes : MethodName := ⟨RX3, "syllablesWithoutNotes", "()I"⟩
abbrev cX3_sameGroup : ByteArray := prog_5_method_4_code
def yX3_sameGroup : MethodName := ⟨RX3, "sameGroup", "(II)Z"⟩
abbrev cX3_hasMark : ByteArray := prog_5_method_5_code
def yX3_hasMark : MethodName := ⟨RX3, "hasMark", "(II)Z"⟩
abbrev cX3_guideOf : ByteArray := prog_5_method_6_code
def yX3_guideOf : MethodName := ⟨RX3, "guideOf", "(I)I"⟩
abbrev cX3_finalStep : ByteArray := prog_5_method_7_code
def yX3_finalStep : MethodName := ⟨RX3, "finalStep", "()I"⟩
abbrev cX3_lowestStep : ByteArray := prog_5_method_8_code
def yX3_lowestStep : MethodName := ⟨RX3, "lowestStep", "()I"⟩
abbrev cX3_highestStep : ByteArray := prog_5_method_9_code
def yX3_highestStep : MethodName := ⟨RX3, "highestStep", "()I"⟩
abbrev cX3_modeNumber : ByteArray := prog_5_method_10_code
def yX3_modeNumber : MethodName := ⟨RX3, "modeNumber", "()I"⟩
abbrev cX3_tenorStep : ByteArray := prog_5_method_11_code
def yX3_tenorStep : MethodName := ⟨RX3, "tenorStep", "()I"⟩
def RX4 : String := "ChantNeumes$Shaper"
def TX4 : u_T := fun k => match k with
  | _ => ("", "", "", false)
def tyX4 : Nat → FieldType := fun k => match k with
  | _ => .int
theorem nmX4 : ∀ a, a < 0 → ∀ b, b < 0 → a ≠ b → (TX4 a).2.1 ≠ (TX4 b).2.1 := by decide +kernel
theorem tyX4_ok : ∀ k, k < 0 → parseFieldDescriptor (TX4 k).2.2.1 = some (tyX4 k) := by decide +kernel
abbrev cX4_shape : ByteArray := prog_6_method_2_code
def yX4_shape : MethodName := ⟨RX4, "shape", "(LChantNeumes$Score;)V"⟩
abbrev cX4_beginNeume : ByteArray := prog_6_method_3_code
def yX4_beginNeume : MethodName := ⟨RX4, "beginNeume", "(LChantNeumes$Score;I)I"⟩
abbrev cX4_wayTo : ByteArray := prog_6_method_4_code
def yX4_wayTo : MethodName := ⟨RX4, "wayTo", "(LChantNeumes$Score;I)I"⟩
abbrev cX4_kindOf : ByteArray := prog_6_method_5_code
def yX4_kindOf : MethodName := ⟨RX4, "kindOf", "(I)I"⟩
abbrev cX4_lengthOf : ByteArray := prog_6_method_6_code
def yX4_lengthOf : MethodName := ⟨RX4, "lengthOf", "(LChantNeumes$Score;I)I"⟩
def RX5 : String := "ChantNeumes$Table"
def TX5 : u_T := fun k => match k with
  | 0 => ("ChantNeumes$Table", "room", "I", true)
  | 1 => ("ChantNeumes$Table", "columns", "I", true)
  | 2 => ("ChantNeumes$Table", "cells", "[I", true)
  | _ => ("ChantNeumes$Table", "rows", "I", false)
def tyX5 : Nat → FieldType := fun k => match k with
  | 0 => .int
  | 1 => .int
  | 2 => .array .int
  | _ => .int
theorem nmX5 : ∀ a, a < 4 → ∀ b, b < 4 → a ≠ b → (TX5 a).2.1 ≠ (TX5 b).2.1 := by decide +kernel
theorem tyX5_ok : ∀ k, k < 4 → parseFieldDescriptor (TX5 k).2.2.1 = some (tyX5 k) := by decide +kernel
abbrev cX5_init : ByteArray := prog_7_method_1_code
def yX5_init : MethodName := ⟨RX5, "<init>", "(II)V"⟩
abbrev cX5_size : ByteArray := prog_7_method_2_code
def yX5_size : MethodName := ⟨RX5, "size", "()I"⟩
abbrev cX5_isFull : ByteArray := prog_7_method_3_code
def yX5_isFull : MethodName := ⟨RX5, "isFull", "()Z"⟩
abbrev cX5_has : ByteArray := prog_7_method_4_code
def yX5_has : MethodName := ⟨RX5, "has", "(I)Z"⟩
abbrev cX5_keep : ByteArray := prog_7_method_5_code
def yX5_keep : MethodName := ⟨RX5, "keep", "(I)V"⟩
abbrev cX5_add : ByteArray := prog_7_method_6_code
def yX5_add : MethodName := ⟨RX5, "add", "(I)I"⟩
abbrev cX5_get : ByteArray := prog_7_method_7_code
def yX5_get : MethodName := ⟨RX5, "get", "(II)I"⟩
abbrev cX5_set : ByteArray := prog_7_method_8_code
def yX5_set : MethodName := ⟨RX5, "set", "(III)V"⟩
abbrev cX5_ask : ByteArray := prog_7_method_9_code
def yX5_ask : MethodName := ⟨RX5, "ask", "(III)I"⟩
def RX6 : String := "ChantNeumes$Tones"
def TX6 : u_T := fun k => match k with
  | _ => ("", "", "", false)
def tyX6 : Nat → FieldType := fun k => match k with
  | _ => .int
theorem nmX6 : ∀ a, a < 0 → ∀ b, b < 0 → a ≠ b → (TX6 a).2.1 ≠ (TX6 b).2.1 := by decide +kernel
theorem tyX6_ok : ∀ k, k < 0 → parseFieldDescriptor (TX6 k).2.2.1 = some (tyX6 k) := by decide +kernel
abbrev cX6_cell : ByteArray := prog_8_method_2_code
def yX6_cell : MethodName := ⟨RX6, "cell", "(II)I"⟩
abbrev cX6_closeStart : ByteArray := prog_8_method_3_code
def yX6_closeStart : MethodName := ⟨RX6, "closeStart", "(I)I"⟩
def RX7 : String := "ChantNeumes$Writer"
def TX7 : u_T := fun k => match k with
  | _ => ("", "", "", false)
def tyX7 : Nat → FieldType := fun k => match k with
  | _ => .int
theorem nmX7 : ∀ a, a < 0 → ∀ b, b < 0 → a ≠ b → (TX7 a).2.1 ≠ (TX7 b).2.1 := by decide +kernel
theorem tyX7_ok : ∀ k, k < 0 → parseFieldDescriptor (TX7 k).2.2.1 = some (tyX7 k) := by decide +kernel
abbrev cX7_writeScore : ByteArray := prog_9_method_2_code
def yX7_writeScore : MethodName := ⟨RX7, "writeScore", "(LChantNeumes$Score;LChantNeumes$Table;)V"⟩
abbrev cX7_writeLetters : ByteArray := prog_9_method_3_code
def yX7_writeLetters : MethodName := ⟨RX7, "writeLetters", "(LChantNeumes$Score;ILChantNeumes$Table;)V"⟩
abbrev cX7_writeSigns : ByteArray := prog_9_method_4_code
def yX7_writeSigns : MethodName := ⟨RX7, "writeSigns", "(LChantNeumes$Score;ILChantNeumes$Table;)V"⟩
abbrev cX7_writeSign : ByteArray := prog_9_method_5_code
def yX7_writeSign : MethodName := ⟨RX7, "writeSign", "(LChantNeumes$Score;ILChantNeumes$Table;)V"⟩
abbrev cX7_writeMarks : ByteArray := prog_9_method_6_code
def yX7_writeMarks : MethodName := ⟨RX7, "writeMarks", "(ILChantNeumes$Table;)V"⟩
abbrev cX7_writeMark : ByteArray := prog_9_method_7_code
def yX7_writeMark : MethodName := ⟨RX7, "writeMark", "(ICLChantNeumes$Table;)V"⟩
abbrev cX7_writeBar : ByteArray := prog_9_method_8_code
def yX7_writeBar : MethodName := ⟨RX7, "writeBar", "(ILChantNeumes$Table;)V"⟩
abbrev cX7_needsSlash : ByteArray := prog_9_method_9_code
def yX7_needsSlash : MethodName := ⟨RX7, "needsSlash", "(LChantNeumes$Score;II)Z"⟩
abbrev cX7_groupFollows : ByteArray := prog_9_method_10_code
def yX7_groupFollows : MethodName := ⟨RX7, "groupFollows", "(LChantNeumes$Score;II)Z"⟩
def RX8 : String := "ChantNeumes"
def TX8 : u_T := fun k => match k with
  | 0 => ("ChantNeumes", "tape", "LChantNeumes$Table;", true)
  | 1 => ("ChantNeumes", "written", "LChantNeumes$Table;", true)
  | 2 => ("ChantNeumes", "score", "LChantNeumes$Score;", true)
  | 3 => ("ChantNeumes", "reader", "LChantNeumes$Reader;", true)
  | 4 => ("ChantNeumes", "psalm", "LChantNeumes$Psalm;", true)
  | _ => ("ChantNeumes", "faultPlace", "I", false)
def tyX8 : Nat → FieldType := fun k => match k with
  | 0 => .object "ChantNeumes$Table"
  | 1 => .object "ChantNeumes$Table"
  | 2 => .object "ChantNeumes$Score"
  | 3 => .object "ChantNeumes$Reader"
  | 4 => .object "ChantNeumes$Psalm"
  | _ => .int
theorem nmX8 : ∀ a, a < 6 → ∀ b, b < 6 → a ≠ b → (TX8 a).2.1 ≠ (TX8 b).2.1 := by decide +kernel
theorem tyX8_ok : ∀ k, k < 6 → parseFieldDescriptor (TX8 k).2.2.1 = some (tyX8 k) := by decide +kernel
abbrev cX8_init : ByteArray := prog_1_method_1_code
def yX8_init : MethodName := ⟨RX8, "<init>", "()V"⟩
abbrev cX8_feed : ByteArray := prog_1_method_2_code
def yX8_feed : MethodName := ⟨RX8, "feed", "(IIIII)I"⟩
abbrev cX8_feedNumber : ByteArray := prog_1_method_3_code
def yX8_feedNumber : MethodName := ⟨RX8, "feedNumber", "(I)V"⟩
abbrev cX8_end : ByteArray := prog_1_method_4_code
def yX8_end : MethodName := ⟨RX8, "end", "(I)I"⟩
abbrev cX8_read : ByteArray := prog_1_method_5_code
def yX8_read : MethodName := ⟨RX8, "read", "()I"⟩
abbrev cX8_place : ByteArray := prog_1_method_6_code
def yX8_place : MethodName := ⟨RX8, "place", "()I"⟩
abbrev cX8_syllable : ByteArray := prog_1_method_7_code
def yX8_syllable : MethodName := ⟨RX8, "syllable", "(II)I"⟩
abbrev cX8_note : ByteArray := prog_1_method_8_code
def yX8_note : MethodName := ⟨RX8, "note", "(II)I"⟩
abbrev cX8_neume : ByteArray := prog_1_method_9_code
def yX8_neume : MethodName := ⟨RX8, "neume", "(II)I"⟩
abbrev cX8_bar : ByteArray := prog_1_method_10_code
def yX8_bar : MethodName := ⟨RX8, "bar", "(II)I"⟩
abbrev cX8_guide : ByteArray := prog_1_method_11_code
def yX8_guide : MethodName := ⟨RX8, "guide", "(I)I"⟩
abbrev cX8_mode : ByteArray := prog_1_method_12_code
def yX8_mode : MethodName := ⟨RX8, "mode", "(I)I"⟩
abbrev cX8_tone : ByteArray := prog_1_method_13_code
def yX8_tone : MethodName := ⟨RX8, "tone", "(I)I"⟩
abbrev cX8_point : ByteArray := prog_1_method_14_code
def yX8_point : MethodName := ⟨RX8, "point", "(IZ)I"⟩
abbrev cX8_fresh : ByteArray := prog_1_method_15_code
def yX8_fresh : MethodName := ⟨RX8, "fresh", "()I"⟩
abbrev cX8_half : ByteArray := prog_1_method_16_code
def yX8_half : MethodName := ⟨RX8, "half", "(II)I"⟩
abbrev cX8_sung : ByteArray := prog_1_method_17_code
def yX8_sung : MethodName := ⟨RX8, "sung", "(III)I"⟩
abbrev cX8_write : ByteArray := prog_1_method_18_code
def yX8_write : MethodName := ⟨RX8, "write", "()I"⟩
abbrev cX8_at : ByteArray := prog_1_method_19_code
def yX8_at : MethodName := ⟨RX8, "at", "(I)I"⟩
abbrev cX8_count : ByteArray := prog_1_method_20_code
def yX8_count : MethodName := ⟨RX8, "count", "(I)I"⟩
def RX9 : String := "ChantNeumesModel"
def TX9 : u_T := fun k => match k with
  | 0 => ("ChantNeumesModel", "tape", "[I", true)
  | 1 => ("ChantNeumesModel", "taped", "I", false)
  | 2 => ("ChantNeumesModel", "text", "[I", true)
  | 3 => ("ChantNeumesModel", "syllables", "I", false)
  | 4 => ("ChantNeumesModel", "lettersFrom", "[I", true)
  | 5 => ("ChantNeumesModel", "letters", "[I", true)
  | 6 => ("ChantNeumesModel", "accents", "[I", true)
  | 7 => ("ChantNeumesModel", "parens", "[I", true)
  | 8 => ("ChantNeumesModel", "words", "[I", true)
  | 9 => ("ChantNeumesModel", "firstSign", "[I", true)
  | 10 => ("ChantNeumesModel", "signs", "I", false)
  | 11 => ("ChantNeumesModel", "sign", "[I", true)
  | 12 => ("ChantNeumesModel", "value", "[I", true)
  | 13 => ("ChantNeumesModel", "ahead", "[I", true)
  | 14 => ("ChantNeumesModel", "wordMany", "I", false)
  | 15 => ("ChantNeumesModel", "notes", "I", false)
  | 16 => ("ChantNeumesModel", "height", "[I", true)
  | 17 => ("ChantNeumesModel", "marks", "[I", true)
  | 18 => ("ChantNeumesModel", "syllableOf", "[I", true)
  | 19 => ("ChantNeumesModel", "groupOf", "[I", true)
  | 20 => ("ChantNeumesModel", "groups", "I", false)
  | 21 => ("ChantNeumesModel", "bars", "I", false)
  | 22 => ("ChantNeumesModel", "ends", "I", false)
  | 23 => ("ChantNeumesModel", "clefs", "I", false)
  | 24 => ("ChantNeumesModel", "flats", "I", false)
  | 25 => ("ChantNeumesModel", "naturals", "I", false)
  | 26 => ("ChantNeumesModel", "fault", "I", false)
  | 27 => ("ChantNeumesModel", "placeNow", "I", false)
  | 28 => ("ChantNeumesModel", "many", "I", false)
  | 29 => ("ChantNeumesModel", "at", "I", false)
  | 30 => ("ChantNeumesModel", "step", "[I", true)
  | 31 => ("ChantNeumesModel", "semitones", "[I", true)
  | 32 => ("ChantNeumesModel", "guides", "[I", true)
  | 33 => ("ChantNeumesModel", "flat", "[I", true)
  | 34 => ("ChantNeumesModel", "tones", "[I", true)
  | 35 => ("ChantNeumesModel", "neumes", "I", false)
  | 36 => ("ChantNeumesModel", "neumeIs", "[I", true)
  | 37 => ("ChantNeumesModel", "neumeAt", "[I", true)
  | 38 => ("ChantNeumesModel", "neumeMany", "[I", true)
  | 39 => ("ChantNeumesModel", "neumeOf", "[I", true)
  | 40 => ("ChantNeumesModel", "ways", "[I", true)
  | 41 => ("ChantNeumesModel", "modes", "[I", true)
  | 42 => ("ChantNeumesModel", "tenors", "[I", true)
  | 43 => ("ChantNeumesModel", "tone", "I", false)
  | 44 => ("ChantNeumesModel", "points", "[I", true)
  | 45 => ("ChantNeumesModel", "pointMany", "[I", true)
  | 46 => ("ChantNeumesModel", "openings", "[I", true)
  | 47 => ("ChantNeumesModel", "closes", "[I", true)
  | 48 => ("ChantNeumesModel", "first", "I", false)
  | 49 => ("ChantNeumesModel", "last", "I", false)
  | 50 => ("ChantNeumesModel", "isShort", "Z", false)
  | 51 => ("ChantNeumesModel", "sungMany", "I", false)
  | 52 => ("ChantNeumesModel", "sungOn", "[I", true)
  | 53 => ("ChantNeumesModel", "sungBy", "[I", true)
  | 54 => ("ChantNeumesModel", "out", "[I", true)
  | _ => ("ChantNeumesModel", "outMany", "I", false)
def tyX9 : Nat → FieldType := fun k => match k with
  | 0 => .array .int
  | 1 => .int
  | 2 => .array .int
  | 3 => .int
  | 4 => .array .int
  | 5 => .array .int
  | 6 => .array .int
  | 7 => .array .int
  | 8 => .array .int
  | 9 => .array .int
  | 10 => .int
  | 11 => .array .int
  | 12 => .array .int
  | 13 => .array .int
  | 14 => .int
  | 15 => .int
  | 16 => .array .int
  | 17 => .array .int
  | 18 => .array .int
  | 19 => .array .int
  | 20 => .int
  | 21 => .int
  | 22 => .int
  | 23 => .int
  | 24 => .int
  | 25 => .int
  | 26 => .int
  | 27 => .int
  | 28 => .int
  | 29 => .int
  | 30 => .array .int
  | 31 => .array .int
  | 32 => .array .int
  | 33 => .array .int
  | 34 => .array .int
  | 35 => .int
  | 36 => .array .int
  | 37 => .array .int
  | 38 => .array .int
  | 39 => .array .int
  | 40 => .array .int
  | 41 => .array .int
  | 42 => .array .int
  | 43 => .int
  | 44 => .array .int
  | 45 => .array .int
  | 46 => .array .int
  | 47 => .array .int
  | 48 => .int
  | 49 => .int
  | 50 => .boolean
  | 51 => .int
  | 52 => .array .int
  | 53 => .array .int
  | 54 => .array .int
  | _ => .int
theorem nmX9 : ∀ a, a < 56 → ∀ b, b < 56 → a ≠ b → (TX9 a).2.1 ≠ (TX9 b).2.1 := by decide +kernel
theorem tyX9_ok : ∀ k, k < 56 → parseFieldDescriptor (TX9 k).2.2.1 = some (tyX9 k) := by decide +kernel
abbrev cX9_init : ByteArray := prog_11_method_1_code
def yX9_init : MethodName := ⟨RX9, "<init>", "()V"⟩
abbrev cX9_in : ByteArray := prog_11_method_3_code
def yX9_in : MethodName := ⟨RX9, "in", "(III)Z"⟩
abbrev cX9_floor : ByteArray := prog_11_method_4_code
def yX9_floor : MethodName := ⟨RX9, "floor", "(II)I"⟩
abbrev cX9_mod : ByteArray := prog_11_method_5_code
def yX9_mod : MethodName := ⟨RX9, "mod", "(II)I"⟩
abbrev cX9_feed : ByteArray := prog_11_method_6_code
def yX9_feed : MethodName := ⟨RX9, "feed", "(IIIII)I"⟩
abbrev cX9_end : ByteArray := prog_11_method_7_code
def yX9_end : MethodName := ⟨RX9, "end", "(I)I"⟩
abbrev cX9_wrong : ByteArray := prog_11_method_8_code
def yX9_wrong : MethodName := ⟨RX9, "wrong", "(II)V"⟩
abbrev cX9_nothing : ByteArray := prog_11_method_9_code
def yX9_nothing : MethodName := ⟨RX9, "nothing", "()V"⟩
abbrev cX9_isBlank : ByteArray := prog_11_method_10_code
def yX9_isBlank : MethodName := ⟨RX9, "isBlank", "(I)Z"⟩
abbrev cX9_isLetter : ByteArray := prog_11_method_11_code
def yX9_isLetter : MethodName := ⟨RX9, "isLetter", "(I)Z"⟩
abbrev cX9_byteAt : ByteArray := prog_11_method_12_code
def yX9_byteAt : MethodName := ⟨RX9, "byteAt", "(I)I"⟩
abbrev cX9_beginSyllable : ByteArray := prog_11_method_13_code
def yX9_beginSyllable : MethodName := ⟨RX9, "beginSyllable", "(Z)V"⟩
abbrev cX9_readText : ByteArray := prog_11_method_14_code
def yX9_readText : MethodName := ⟨RX9, "readText", "()V"⟩
abbrev cX9_put : ByteArray := prog_11_method_15_code
def yX9_put : MethodName := ⟨RX9, "put", "(II)V"⟩
abbrev cX9_readSigns : ByteArray := prog_11_method_16_code
def yX9_readSigns : MethodName := ⟨RX9, "readSigns", "()V"⟩
abbrev cX9_readHeight : ByteArray := prog_11_method_17_code
def yX9_readHeight : MethodName := ⟨RX9, "readHeight", "(IIZ)Z"⟩
abbrev cX9_markAt : ByteArray := prog_11_method_18_code
def yX9_markAt : MethodName := ⟨RX9, "markAt", "(I)I"⟩
abbrev cX9_read : ByteArray := prog_11_method_19_code
def yX9_read : MethodName := ⟨RX9, "read", "()I"⟩
abbrev cX9_place : ByteArray := prog_11_method_20_code
def yX9_place : MethodName := ⟨RX9, "place", "()I"⟩
abbrev cX9_stepOf : ByteArray := prog_11_method_21_code
def yX9_stepOf : MethodName := ⟨RX9, "stepOf", "(II)I"⟩
abbrev cX9_unflat : ByteArray := prog_11_method_22_code
def yX9_unflat : MethodName := ⟨RX9, "unflat", "()V"⟩
abbrev cX9_workOut : ByteArray := prog_11_method_23_code
def yX9_workOut : MethodName := ⟨RX9, "workOut", "()V"⟩
abbrev cX9_guideBy : ByteArray := prog_11_method_24_code
def yX9_guideBy : MethodName := ⟨RX9, "guideBy", "(II)I"⟩
abbrev cX9_lengthOf : ByteArray := prog_11_method_25_code
def yX9_lengthOf : MethodName := ⟨RX9, "lengthOf", "(I)I"⟩
abbrev cX9_wayOf : ByteArray := prog_11_method_26_code
def yX9_wayOf : MethodName := ⟨RX9, "wayOf", "(I)I"⟩
abbrev cX9_findNeumes : ByteArray := prog_11_method_27_code
def yX9_findNeumes : MethodName := ⟨RX9, "findNeumes", "()V"⟩
abbrev cX9_notesOf : ByteArray := prog_11_method_28_code
def yX9_notesOf : MethodName := ⟨RX9, "notesOf", "(I)I"⟩
abbrev cX9_firstOf : ByteArray := prog_11_method_29_code
def yX9_firstOf : MethodName := ⟨RX9, "firstOf", "(I)I"⟩
abbrev cX9_syllable : ByteArray := prog_11_method_30_code
def yX9_syllable : MethodName := ⟨RX9, "syllable", "(II)I"⟩
abbrev cX9_note : ByteArray := prog_11_method_31_code
def yX9_note : MethodName := ⟨RX9, "note", "(II)I"⟩
abbrev cX9_neume : ByteArray := prog_11_method_32_code
def yX9_neume : MethodName := ⟨RX9, "neume", "(II)I"⟩
abbrev cX9_bar : ByteArray := prog_11_method_33_code
def yX9_bar : MethodName := ⟨RX9, "bar", "(II)I"⟩
abbrev cX9_guide : ByteArray := prog_11_method_34_code
def yX9_guide : MethodName := ⟨RX9, "guide", "(I)I"⟩
abbrev cX9_mode : ByteArray := prog_11_method_35_code
def yX9_mode : MethodName := ⟨RX9, "mode", "(I)I"⟩
abbrev cX9_tone : ByteArray := prog_11_method_36_code
def yX9_tone : MethodName := ⟨RX9, "tone", "(I)I"⟩
abbrev cX9_point : ByteArray := prog_11_method_37_code
def yX9_point : MethodName := ⟨RX9, "point", "(IZ)I"⟩
abbrev cX9_fresh : ByteArray := prog_11_method_38_code
def yX9_fresh : MethodName := ⟨RX9, "fresh", "()I"⟩
abbrev cX9_close : ByteArray := prog_11_method_39_code
def yX9_close : MethodName := ⟨RX9, "close", "(II)I"⟩
abbrev cX9_accentBefore : ByteArray := prog_11_method_40_code
def yX9_accentBefore : MethodName := ⟨RX9, "accentBefore", "(II)I"⟩
abbrev cX9_fit : ByteArray := prog_11_method_41_code
def yX9_fit : MethodName := ⟨RX9, "fit", "(I)V"⟩
abbrev cX9_sing : ByteArray := prog_11_method_42_code
def yX9_sing : MethodName := ⟨RX9, "sing", "(II)V"⟩
abbrev cX9_half : ByteArray := prog_11_method_43_code
def yX9_half : MethodName := ⟨RX9, "half", "(II)I"⟩
abbrev cX9_sung : ByteArray := prog_11_method_44_code
def yX9_sung : MethodName := ⟨RX9, "sung", "(III)I"⟩
abbrev cX9_tell : ByteArray := prog_11_method_45_code
def yX9_tell : MethodName := ⟨RX9, "tell", "(I)V"⟩
abbrev cX9_isParted : ByteArray := prog_11_method_46_code
def yX9_isParted : MethodName := ⟨RX9, "isParted", "(II)Z"⟩
abbrev cX9_tellSign : ByteArray := prog_11_method_47_code
def yX9_tellSign : MethodName := ⟨RX9, "tellSign", "(II)V"⟩
abbrev cX9_tellIf : ByteArray := prog_11_method_48_code
def yX9_tellIf : MethodName := ⟨RX9, "tellIf", "(III)V"⟩
abbrev cX9_write : ByteArray := prog_11_method_49_code
def yX9_write : MethodName := ⟨RX9, "write", "()I"⟩
abbrev cX9_at : ByteArray := prog_11_method_50_code
def yX9_at : MethodName := ⟨RX9, "at", "(I)I"⟩
abbrev cX9_count : ByteArray := prog_11_method_51_code
def yX9_count : MethodName := ⟨RX9, "count", "(I)I"⟩
def RJ9 : String := "java/lang/Math"
abbrev cJ9_floorDiv_7cf53 : ByteArray := prog_12_method_47_code
def yJ9_floorDiv_7cf53 : MethodName := ⟨RJ9, "floorDiv", "(II)I"⟩
abbrev cJ9_floorMod_7cf53 : ByteArray := prog_12_method_50_code
def yJ9_floorMod_7cf53 : MethodName := ⟨RJ9, "floorMod", "(II)I"⟩
abbrev cJ9_max_7cf53 : ByteArray := prog_12_method_65_code
def yJ9_max_7cf53 : MethodName := ⟨RJ9, "max", "(II)I"⟩
abbrev cJ9_min_7cf53 : ByteArray := prog_12_method_69_code
def yJ9_min_7cf53 : MethodName := ⟨RJ9, "min", "(II)I"⟩
def RL : String := "ChantNeumesLaw"
abbrev cL_law : ByteArray := code
def yL_law : MethodName := ⟨RL, "law", "([I)Z"⟩
abbrev mX0_init : MI := (yX0_init, cX0_init, 2, (none : Option Jvm.ClassFile.FieldType))
abbrev mX0_fit : MI := (yX0_fit, cX0_fit, 6, (none : Option Jvm.ClassFile.FieldType))
abbrev mX0_placeAccents : MI := (yX0_placeAccents, cX0_placeAccents, 3, (none : Option Jvm.ClassFile.FieldType))
abbrev mX0_accentBefore : MI := (yX0_accentBefore, cX0_accentBefore, 3, (some .int))
abbrev mX0_chooseForm : MI := (yX0_chooseForm, cX0_chooseForm, 2, (none : Option Jvm.ClassFile.FieldType))
abbrev mX0_firstPlaced : MI := (yX0_firstPlaced, cX0_firstPlaced, 1, (some .int))
abbrev mX0_singSyllable : MI := (yX0_singSyllable, cX0_singSyllable, 3, (none : Option Jvm.ClassFile.FieldType))
abbrev mX0_stepOf : MI := (yX0_stepOf, cX0_stepOf, 4, (some .int))
abbrev mX0_closeCell : MI := (yX0_closeCell, cX0_closeCell, 2, (some .int))
abbrev mX0_addStep : MI := (yX0_addStep, cX0_addStep, 3, (none : Option Jvm.ClassFile.FieldType))
abbrev mX1_init : MI := (yX1_init, cX1_init, 1, (none : Option Jvm.ClassFile.FieldType))
abbrev mX1_isHalf : MI := (yX1_isHalf, cX1_isHalf, 1, (some .boolean))
abbrev mX1_changeTone : MI := (yX1_changeTone, cX1_changeTone, 3, (some .int))
abbrev mX1_addSyllable : MI := (yX1_addSyllable, cX1_addSyllable, 4, (some .int))
abbrev mX1_forgetVerse : MI := (yX1_forgetVerse, cX1_forgetVerse, 2, (some .int))
abbrev mX1_fitted : MI := (yX1_fitted, cX1_fitted, 2, (some (.object "ChantNeumes$Fitting")))
abbrev mX1_accentsOf : MI := (yX1_accentsOf, cX1_accentsOf, 2, (some (.object "ChantNeumes$Table")))
abbrev mX2_init : MI := (yX2_init, cX2_init, 2, (none : Option Jvm.ClassFile.FieldType))
abbrev mX2_placeOfFault : MI := (yX2_placeOfFault, cX2_placeOfFault, 1, (some .int))
abbrev mX2_readFrom : MI := (yX2_readFrom, cX2_readFrom, 5, (some .int))
abbrev mX2_start : MI := (yX2_start, cX2_start, 2, (none : Option Jvm.ClassFile.FieldType))
abbrev mX2_refuse : MI := (yX2_refuse, cX2_refuse, 3, (none : Option Jvm.ClassFile.FieldType))
abbrev mX2_takeOutside : MI := (yX2_takeOutside, cX2_takeOutside, 5, (none : Option Jvm.ClassFile.FieldType))
abbrev mX2_beginSyllable : MI := (yX2_beginSyllable, cX2_beginSyllable, 3, (some .boolean))
abbrev mX2_endSyllable : MI := (yX2_endSyllable, cX2_endSyllable, 3, (none : Option Jvm.ClassFile.FieldType))
abbrev mX2_takeInside : MI := (yX2_takeInside, cX2_takeInside, 5, (none : Option Jvm.ClassFile.FieldType))
abbrev mX2_takeMark : MI := (yX2_takeMark, cX2_takeMark, 4, (none : Option Jvm.ClassFile.FieldType))
abbrev mX2_takeHeight : MI := (yX2_takeHeight, cX2_takeHeight, 5, (none : Option Jvm.ClassFile.FieldType))
abbrev mX2_takeAccidental : MI := (yX2_takeAccidental, cX2_takeAccidental, 5, (none : Option Jvm.ClassFile.FieldType))
abbrev mX2_takeClef : MI := (yX2_takeClef, cX2_takeClef, 5, (none : Option Jvm.ClassFile.FieldType))
abbrev mX2_takeNote : MI := (yX2_takeNote, cX2_takeNote, 7, (none : Option Jvm.ClassFile.FieldType))
abbrev mX2_takeBar : MI := (yX2_takeBar, cX2_takeBar, 4, (none : Option Jvm.ClassFile.FieldType))
abbrev mX2_takeLineEnd : MI := (yX2_takeLineEnd, cX2_takeLineEnd, 3, (none : Option Jvm.ClassFile.FieldType))
abbrev mX2_addSign : MI := (yX2_addSign, cX2_addSign, 5, (some .boolean))
abbrev mX2_roomOf : MI := (yX2_roomOf, cX2_roomOf, 1, (some .int))
abbrev mX2_semitonesOf : MI := (yX2_semitonesOf, cX2_semitonesOf, 4, (some .int))
abbrev mX2_isBlank : MI := (yX2_isBlank, cX2_isBlank, 1, (some .boolean))
abbrev mX2_isLetter : MI := (yX2_isLetter, cX2_isLetter, 1, (some .boolean))
abbrev mX2_markOf : MI := (yX2_markOf, cX2_markOf, 1, (some .int))
abbrev mX3_init : MI := (yX3_init, cX3_init, 1, (none : Option Jvm.ClassFile.FieldType))
abbrev mX3_clear : MI := (yX3_clear, cX3_clear, 1, (none : Option Jvm.ClassFile.FieldType))
abbrev mX3_syllablesWithoutNotes : MI := (yX3_syllablesWithoutNotes, cX3_syllablesWithoutNotes, 3, (some .int))
abbrev mX3_sameGroup : MI := (yX3_sameGroup, cX3_sameGroup, 3, (some .boolean))
abbrev mX3_hasMark : MI := (yX3_hasMark, cX3_hasMark, 3, (some .boolean))
abbrev mX3_guideOf : MI := (yX3_guideOf, cX3_guideOf, 4, (some .int))
abbrev mX3_finalStep : MI := (yX3_finalStep, cX3_finalStep, 1, (some .int))
abbrev mX3_lowestStep : MI := (yX3_lowestStep, cX3_lowestStep, 3, (some .int))
abbrev mX3_highestStep : MI := (yX3_highestStep, cX3_highestStep, 3, (some .int))
abbrev mX3_modeNumber : MI := (yX3_modeNumber, cX3_modeNumber, 4, (some .int))
abbrev mX3_tenorStep : MI := (yX3_tenorStep, cX3_tenorStep, 2, (some .int))
abbrev mX4_shape : MI := (yX4_shape, cX4_shape, 3, (none : Option Jvm.ClassFile.FieldType))
abbrev mX4_beginNeume : MI := (yX4_beginNeume, cX4_beginNeume, 7, (some .int))
abbrev mX4_wayTo : MI := (yX4_wayTo, cX4_wayTo, 4, (some .int))
abbrev mX4_kindOf : MI := (yX4_kindOf, cX4_kindOf, 2, (some .int))
abbrev mX4_lengthOf : MI := (yX4_lengthOf, cX4_lengthOf, 3, (some .int))
abbrev mX5_init : MI := (yX5_init, cX5_init, 3, (none : Option Jvm.ClassFile.FieldType))
abbrev mX5_size : MI := (yX5_size, cX5_size, 1, (some .int))
abbrev mX5_isFull : MI := (yX5_isFull, cX5_isFull, 1, (some .boolean))
abbrev mX5_has : MI := (yX5_has, cX5_has, 2, (some .boolean))
abbrev mX5_keep : MI := (yX5_keep, cX5_keep, 2, (none : Option Jvm.ClassFile.FieldType))
abbrev mX5_add : MI := (yX5_add, cX5_add, 4, (some .int))
abbrev mX5_get : MI := (yX5_get, cX5_get, 4, (some .int))
abbrev mX5_set : MI := (yX5_set, cX5_set, 5, (none : Option Jvm.ClassFile.FieldType))
abbrev mX5_ask : MI := (yX5_ask, cX5_ask, 4, (some .int))
abbrev mX6_cell : MI := (yX6_cell, cX6_cell, 3, (some .int))
abbrev mX6_closeStart : MI := (yX6_closeStart, cX6_closeStart, 1, (some .int))
abbrev mX7_writeScore : MI := (yX7_writeScore, cX7_writeScore, 4, (none : Option Jvm.ClassFile.FieldType))
abbrev mX7_writeLetters : MI := (yX7_writeLetters, cX7_writeLetters, 6, (none : Option Jvm.ClassFile.FieldType))
abbrev mX7_writeSigns : MI := (yX7_writeSigns, cX7_writeSigns, 6, (none : Option Jvm.ClassFile.FieldType))
abbrev mX7_writeSign : MI := (yX7_writeSign, cX7_writeSign, 4, (none : Option Jvm.ClassFile.FieldType))
abbrev mX7_writeMarks : MI := (yX7_writeMarks, cX7_writeMarks, 2, (none : Option Jvm.ClassFile.FieldType))
abbrev mX7_writeMark : MI := (yX7_writeMark, cX7_writeMark, 3, (none : Option Jvm.ClassFile.FieldType))
abbrev mX7_writeBar : MI := (yX7_writeBar, cX7_writeBar, 2, (none : Option Jvm.ClassFile.FieldType))
abbrev mX7_needsSlash : MI := (yX7_needsSlash, cX7_needsSlash, 4, (some .boolean))
abbrev mX7_groupFollows : MI := (yX7_groupFollows, cX7_groupFollows, 6, (some .boolean))
abbrev mX8_init : MI := (yX8_init, cX8_init, 1, (none : Option Jvm.ClassFile.FieldType))
abbrev mX8_feed : MI := (yX8_feed, cX8_feed, 6, (some .int))
abbrev mX8_feedNumber : MI := (yX8_feedNumber, cX8_feedNumber, 3, (none : Option Jvm.ClassFile.FieldType))
abbrev mX8_end : MI := (yX8_end, cX8_end, 2, (some .int))
abbrev mX8_read : MI := (yX8_read, cX8_read, 2, (some .int))
abbrev mX8_place : MI := (yX8_place, cX8_place, 1, (some .int))
abbrev mX8_syllable : MI := (yX8_syllable, cX8_syllable, 3, (some .int))
abbrev mX8_note : MI := (yX8_note, cX8_note, 3, (some .int))
abbrev mX8_neume : MI := (yX8_neume, cX8_neume, 3, (some .int))
abbrev mX8_bar : MI := (yX8_bar, cX8_bar, 3, (some .int))
abbrev mX8_guide : MI := (yX8_guide, cX8_guide, 2, (some .int))
abbrev mX8_mode : MI := (yX8_mode, cX8_mode, 2, (some .int))
abbrev mX8_tone : MI := (yX8_tone, cX8_tone, 2, (some .int))
abbrev mX8_point : MI := (yX8_point, cX8_point, 3, (some .int))
abbrev mX8_fresh : MI := (yX8_fresh, cX8_fresh, 1, (some .int))
abbrev mX8_half : MI := (yX8_half, cX8_half, 4, (some .int))
abbrev mX8_sung : MI := (yX8_sung, cX8_sung, 5, (some .int))
abbrev mX8_write : MI := (yX8_write, cX8_write, 1, (some .int))
abbrev mX8_at : MI := (yX8_at, cX8_at, 2, (some .int))
abbrev mX8_count : MI := (yX8_count, cX8_count, 2, (some .int))
abbrev mX9_init : MI := (yX9_init, cX9_init, 1, (none : Option Jvm.ClassFile.FieldType))
abbrev mX9_in : MI := (yX9_in, cX9_in, 3, (some .boolean))
abbrev mX9_floor : MI := (yX9_floor, cX9_floor, 3, (some .int))
abbrev mX9_mod : MI := (yX9_mod, cX9_mod, 2, (some .int))
abbrev mX9_feed : MI := (yX9_feed, cX9_feed, 8, (some .int))
abbrev mX9_end : MI := (yX9_end, cX9_end, 2, (some .int))
abbrev mX9_wrong : MI := (yX9_wrong, cX9_wrong, 3, (none : Option Jvm.ClassFile.FieldType))
abbrev mX9_nothing : MI := (yX9_nothing, cX9_nothing, 1, (none : Option Jvm.ClassFile.FieldType))
abbrev mX9_isBlank : MI := (yX9_isBlank, cX9_isBlank, 1, (some .boolean))
abbrev mX9_isLetter : MI := (yX9_isLetter, cX9_isLetter, 1, (some .boolean))
abbrev mX9_byteAt : MI := (yX9_byteAt, cX9_byteAt, 2, (some .int))
abbrev mX9_beginSyllable : MI := (yX9_beginSyllable, cX9_beginSyllable, 2, (none : Option Jvm.ClassFile.FieldType))
abbrev mX9_readText : MI := (yX9_readText, cX9_readText, 4, (none : Option Jvm.ClassFile.FieldType))
abbrev mX9_put : MI := (yX9_put, cX9_put, 3, (none : Option Jvm.ClassFile.FieldType))
abbrev mX9_readSigns : MI := (yX9_readSigns, cX9_readSigns, 5, (none : Option Jvm.ClassFile.FieldType))
abbrev mX9_readHeight : MI := (yX9_readHeight, cX9_readHeight, 5, (some .boolean))
abbrev mX9_markAt : MI := (yX9_markAt, cX9_markAt, 3, (some .int))
abbrev mX9_read : MI := (yX9_read, cX9_read, 2, (some .int))
abbrev mX9_place : MI := (yX9_place, cX9_place, 1, (some .int))
abbrev mX9_stepOf : MI := (yX9_stepOf, cX9_stepOf, 3, (some .int))
abbrev mX9_unflat : MI := (yX9_unflat, cX9_unflat, 2, (none : Option Jvm.ClassFile.FieldType))
abbrev mX9_workOut : MI := (yX9_workOut, cX9_workOut, 5, (none : Option Jvm.ClassFile.FieldType))
abbrev mX9_guideBy : MI := (yX9_guideBy, cX9_guideBy, 3, (some .int))
abbrev mX9_lengthOf : MI := (yX9_lengthOf, cX9_lengthOf, 3, (some .int))
abbrev mX9_wayOf : MI := (yX9_wayOf, cX9_wayOf, 2, (some .int))
abbrev mX9_findNeumes : MI := (yX9_findNeumes, cX9_findNeumes, 7, (none : Option Jvm.ClassFile.FieldType))
abbrev mX9_notesOf : MI := (yX9_notesOf, cX9_notesOf, 4, (some .int))
abbrev mX9_firstOf : MI := (yX9_firstOf, cX9_firstOf, 4, (some .int))
abbrev mX9_syllable : MI := (yX9_syllable, cX9_syllable, 3, (some .int))
abbrev mX9_note : MI := (yX9_note, cX9_note, 3, (some .int))
abbrev mX9_neume : MI := (yX9_neume, cX9_neume, 3, (some .int))
abbrev mX9_bar : MI := (yX9_bar, cX9_bar, 6, (some .int))
abbrev mX9_guide : MI := (yX9_guide, cX9_guide, 2, (some .int))
abbrev mX9_mode : MI := (yX9_mode, cX9_mode, 6, (some .int))
abbrev mX9_tone : MI := (yX9_tone, cX9_tone, 3, (some .int))
abbrev mX9_point : MI := (yX9_point, cX9_point, 3, (some .int))
abbrev mX9_fresh : MI := (yX9_fresh, cX9_fresh, 2, (some .int))
abbrev mX9_close : MI := (yX9_close, cX9_close, 3, (some .int))
abbrev mX9_accentBefore : MI := (yX9_accentBefore, cX9_accentBefore, 5, (some .int))
abbrev mX9_fit : MI := (yX9_fit, cX9_fit, 10, (none : Option Jvm.ClassFile.FieldType))
abbrev mX9_sing : MI := (yX9_sing, cX9_sing, 3, (none : Option Jvm.ClassFile.FieldType))
abbrev mX9_half : MI := (yX9_half, cX9_half, 3, (some .int))
abbrev mX9_sung : MI := (yX9_sung, cX9_sung, 4, (some .int))
abbrev mX9_tell : MI := (yX9_tell, cX9_tell, 2, (none : Option Jvm.ClassFile.FieldType))
abbrev mX9_isParted : MI := (yX9_isParted, cX9_isParted, 4, (some .boolean))
abbrev mX9_tellSign : MI := (yX9_tellSign, cX9_tellSign, 5, (none : Option Jvm.ClassFile.FieldType))
abbrev mX9_tellIf : MI := (yX9_tellIf, cX9_tellIf, 4, (none : Option Jvm.ClassFile.FieldType))
abbrev mX9_write : MI := (yX9_write, cX9_write, 3, (some .int))
abbrev mX9_at : MI := (yX9_at, cX9_at, 2, (some .int))
abbrev mX9_count : MI := (yX9_count, cX9_count, 4, (some .int))
abbrev mJ9_floorDiv_7cf53 : MI := (yJ9_floorDiv_7cf53, cJ9_floorDiv_7cf53, 3, (some .int))
abbrev mJ9_floorMod_7cf53 : MI := (yJ9_floorMod_7cf53, cJ9_floorMod_7cf53, 3, (some .int))
abbrev mJ9_max_7cf53 : MI := (yJ9_max_7cf53, cJ9_max_7cf53, 2, (some .int))
abbrev mJ9_min_7cf53 : MI := (yJ9_min_7cf53, cJ9_min_7cf53, 2, (some .int))
abbrev mL_law : MI := (yL_law, cL_law, 4, (some .boolean))
abbrev vwCl : List vw_C := [(RX0, TX0, 8), (RX1, TX1, 4), (RX2, TX2, 12), (RX3, TX3, 9), (RX5, TX5, 4), (RX8, TX8, 6), (RX9, TX9, 56)]
set_option maxRecDepth 20000 in
theorem inX0 : ∀ w ∈ u_ws RX0 TX0 8, w ∈ goodTB := sub_of [220, 222, 224, 226, 228, 230, 232, 234] (by decide +kernel) (by decide +kernel)
set_option maxRecDepth 20000 in
theorem inX1 : ∀ w ∈ u_ws RX1 TX1 4, w ∈ goodTB := sub_of [241, 243, 245, 247] (by decide +kernel) (by decide +kernel)
set_option maxRecDepth 20000 in
theorem inX2 : ∀ w ∈ u_ws RX2 TX2 12, w ∈ goodTB := sub_of [167, 169, 171, 173, 175, 177, 179, 181, 183, 185, 187, 189] (by decide +kernel) (by decide +kernel)
set_option maxRecDepth 20000 in
theorem inX3 : ∀ w ∈ u_ws RX3 TX3 9, w ∈ goodTB := sub_of [128, 130, 132, 134, 136, 138, 140, 142, 144] (by decide +kernel) (by decide +kernel)
set_option maxRecDepth 20000 in
theorem inX5 : ∀ w ∈ u_ws RX5 TX5 4, w ∈ goodTB := sub_of [80, 82, 84, 86] (by decide +kernel) (by decide +kernel)
set_option maxRecDepth 20000 in
theorem inX8 : ∀ w ∈ u_ws RX8 TX8 6, w ∈ goodTB := sub_of [256, 258, 260, 262, 264, 266] (by decide +kernel) (by decide +kernel)
set_option maxRecDepth 20000 in
theorem inX9 : ∀ w ∈ u_ws RX9 TX9 56, w ∈ goodTB := sub_of [717, 719, 721, 723, 725, 727, 729, 731, 733, 735, 737, 739, 741, 743, 745, 747, 749, 751, 753, 755, 757, 759, 761, 763, 765, 767, 769, 771, 773, 775, 777, 779, 781, 783, 785, 787, 789, 791, 793, 795, 797, 799, 801, 803, 805, 807, 809, 811, 813, 815, 817, 819, 821, 823, 825, 827] (by decide +kernel) (by decide +kernel)
/-- class own's pool entry idx is field k of the worlds' class ci -/
def XG (own : String) (idx ci k : Nat) (ty : FieldType) (fin : Bool) : Prop := ∃ (C : String) (T : u_T) (N : Nat) (ty0 : Nat → FieldType), vwCl[ci]? = some (C, T, N) ∧ (∀ w ∈ u_ws C T N, w ∈ goodTB) ∧ (∀ k, k < N → parseFieldDescriptor (T k).2.2.1 = some (ty0 k)) ∧ (∀ a, a < N → ∀ b, b < N → a ≠ b → (T a).2.1 ≠ (T b).2.1) ∧ k < N ∧ Cond.fieldLink own idx (T k).1 (T k).2.1 (T k).2.2.1 ∈ goodTB ∧ parseFieldDescriptor (T k).2.2.1 = some ty ∧ (T k).2.2.2 = fin
def XMB (own : String) (idx : Nat) (M : MI) (n : Nat) (P : Prop) : Prop := M.1.cls ≠ "java/lang/invoke/MethodHandle" ∧ M.1.cls ≠ "java/lang/invoke/VarHandle" ∧ (parseMethodDescriptor M.1.desc).map (fun d => d.parameters.length) = some n ∧ Cond.methodLink own idx M.1 ∈ goodTB ∧ Cond.initialized M.1.cls ∈ goodTB ∧ Cond.code M.1 M.2.1 M.2.2.1 M.2.2.2 ∈ goodTB ∧ P
def XV (own : String) (idx : Nat) (M : MI) (n : Nat) : Prop := XMB own idx M n (Cond.instanceMethod M.1 ∈ goodTB ∧ Cond.selects M.1.cls M.1 M.1 ∈ goodTB)
def XT (own : String) (idx : Nat) (M : MI) (n : Nat) : Prop := XMB own idx M n (Cond.static M.1 ∈ goodTB)
def XI (own : String) (idx : Nat) (M : MI) (n : Nat) : Prop := XMB own idx M n (Cond.instanceMethod M.1 ∈ goodTB ∧ M.1.name = "<init>")
def XJ (M : MI) : Prop := Cond.initialized M.1.cls ∈ goodTB ∧ Cond.code M.1 M.2.1 M.2.2.1 M.2.2.2 ∈ goodTB ∧ Cond.instanceMethod M.1 ∈ goodTB
def XN (own : String) (idx ci N : Nat) (ty : Nat → FieldType) : Prop := ∃ (C : String) (T : u_T), vwCl[ci]? = some (C, T, N) ∧ (∀ w ∈ u_ws C T N, w ∈ goodTB) ∧ (∀ k, k < N → parseFieldDescriptor (T k).2.2.1 = some (ty k)) ∧ Cond.classLink own idx C ∈ goodTB ∧ Cond.instantiable C N ∈ goodTB ∧ Cond.initialized C ∈ goodTB
theorem fX5_15 : XG RX5 15 4 0 (.int) true := ⟨RX5, TX5, 4, tyX5, rfl, inX5, tyX5_ok, nmX5, by decide, inT1 29 rfl rfl, by decide +kernel, rfl⟩
theorem fX5_21 : XG RX5 21 4 1 (.int) true := ⟨RX5, TX5, 4, tyX5, rfl, inX5, tyX5_ok, nmX5, by decide, inT1 30 rfl rfl, by decide +kernel, rfl⟩
theorem fX5_24 : XG RX5 24 4 2 (.array .int) true := ⟨RX5, TX5, 4, tyX5, rfl, inX5, tyX5_ok, nmX5, by decide, inT1 31 rfl rfl, by decide +kernel, rfl⟩
theorem fX5_28 : XG RX5 28 4 3 (.int) false := ⟨RX5, TX5, 4, tyX5, rfl, inX5, tyX5_ok, nmX5, by decide, inT1 32 rfl rfl, by decide +kernel, rfl⟩
theorem fX3_16 : XG RX3 16 3 0 (.object "ChantNeumes$Table") true := ⟨RX3, TX3, 9, tyX3, rfl, inX3, tyX3_ok, nmX3, by decide, inT1 51 rfl rfl, by decide +kernel, rfl⟩
theorem fX7_40 : XG RX7 40 3 0 (.object "ChantNeumes$Table") true := ⟨RX3, TX3, 9, tyX3, rfl, inX3, tyX3_ok, nmX3, by decide, inT1 52 rfl rfl, by decide +kernel, rfl⟩
theorem fX2_112 : XG RX2 112 3 0 (.object "ChantNeumes$Table") true := ⟨RX3, TX3, 9, tyX3, rfl, inX3, tyX3_ok, nmX3, by decide, inT1 53 rfl rfl, by decide +kernel, rfl⟩
theorem fX3_20 : XG RX3 20 3 1 (.object "ChantNeumes$Table") true := ⟨RX3, TX3, 9, tyX3, rfl, inX3, tyX3_ok, nmX3, by decide, inT1 54 rfl rfl, by decide +kernel, rfl⟩
theorem fX7_13 : XG RX7 13 3 1 (.object "ChantNeumes$Table") true := ⟨RX3, TX3, 9, tyX3, rfl, inX3, tyX3_ok, nmX3, by decide, inT1 55 rfl rfl, by decide +kernel, rfl⟩
theorem fX2_106 : XG RX2 106 3 1 (.object "ChantNeumes$Table") true := ⟨RX3, TX3, 9, tyX3, rfl, inX3, tyX3_ok, nmX3, by decide, inT1 56 rfl rfl, by decide +kernel, rfl⟩
theorem fX8_73 : XG RX8 73 3 1 (.object "ChantNeumes$Table") true := ⟨RX3, TX3, 9, tyX3, rfl, inX3, tyX3_ok, nmX3, by decide, inT1 57 rfl rfl, by decide +kernel, rfl⟩
theorem fX3_23 : XG RX3 23 3 2 (.object "ChantNeumes$Table") true := ⟨RX3, TX3, 9, tyX3, rfl, inX3, tyX3_ok, nmX3, by decide, inT1 58 rfl rfl, by decide +kernel, rfl⟩
theorem fX4_9 : XG RX4 9 3 2 (.object "ChantNeumes$Table") true := ⟨RX3, TX3, 9, tyX3, rfl, inX3, tyX3_ok, nmX3, by decide, inT1 59 rfl rfl, by decide +kernel, rfl⟩
theorem fX8_70 : XG RX8 70 3 2 (.object "ChantNeumes$Table") true := ⟨RX3, TX3, 9, tyX3, rfl, inX3, tyX3_ok, nmX3, by decide, inT1 60 rfl rfl, by decide +kernel, rfl⟩
theorem fX7_53 : XG RX7 53 3 2 (.object "ChantNeumes$Table") true := ⟨RX3, TX3, 9, tyX3, rfl, inX3, tyX3_ok, nmX3, by decide, inT1 61 rfl rfl, by decide +kernel, rfl⟩
theorem fX2_143 : XG RX2 143 3 2 (.object "ChantNeumes$Table") true := ⟨RX3, TX3, 9, tyX3, rfl, inX3, tyX3_ok, nmX3, by decide, inT1 62 rfl rfl, by decide +kernel, rfl⟩
theorem fX3_26 : XG RX3 26 3 3 (.object "ChantNeumes$Table") true := ⟨RX3, TX3, 9, tyX3, rfl, inX3, tyX3_ok, nmX3, by decide, inT1 63 rfl rfl, by decide +kernel, rfl⟩
theorem fX4_27 : XG RX4 27 3 3 (.object "ChantNeumes$Table") true := ⟨RX3, TX3, 9, tyX3, rfl, inX3, tyX3_ok, nmX3, by decide, inT1 64 rfl rfl, by decide +kernel, rfl⟩
theorem fX8_80 : XG RX8 80 3 3 (.object "ChantNeumes$Table") true := ⟨RX3, TX3, 9, tyX3, rfl, inX3, tyX3_ok, nmX3, by decide, inT1 65 rfl rfl, by decide +kernel, rfl⟩
theorem fX3_29 : XG RX3 29 3 4 (.object "ChantNeumes$Table") true := ⟨RX3, TX3, 9, tyX3, rfl, inX3, tyX3_ok, nmX3, by decide, inT1 66 rfl rfl, by decide +kernel, rfl⟩
theorem fX8_83 : XG RX8 83 3 4 (.object "ChantNeumes$Table") true := ⟨RX3, TX3, 9, tyX3, rfl, inX3, tyX3_ok, nmX3, by decide, inT1 67 rfl rfl, by decide +kernel, rfl⟩
theorem fX2_169 : XG RX2 169 3 4 (.object "ChantNeumes$Table") true := ⟨RX3, TX3, 9, tyX3, rfl, inX3, tyX3_ok, nmX3, by decide, inT1 68 rfl rfl, by decide +kernel, rfl⟩
theorem fX3_32 : XG RX3 32 3 5 (.object "ChantNeumes$Table") true := ⟨RX3, TX3, 9, tyX3, rfl, inX3, tyX3_ok, nmX3, by decide, inT1 69 rfl rfl, by decide +kernel, rfl⟩
theorem fX8_86 : XG RX8 86 3 5 (.object "ChantNeumes$Table") true := ⟨RX3, TX3, 9, tyX3, rfl, inX3, tyX3_ok, nmX3, by decide, inT1 70 rfl rfl, by decide +kernel, rfl⟩
theorem fX2_172 : XG RX2 172 3 5 (.object "ChantNeumes$Table") true := ⟨RX3, TX3, 9, tyX3, rfl, inX3, tyX3_ok, nmX3, by decide, inT1 71 rfl rfl, by decide +kernel, rfl⟩
theorem fX3_35 : XG RX3 35 3 6 (.object "ChantNeumes$Table") true := ⟨RX3, TX3, 9, tyX3, rfl, inX3, tyX3_ok, nmX3, by decide, inT1 72 rfl rfl, by decide +kernel, rfl⟩
theorem fX7_50 : XG RX7 50 3 6 (.object "ChantNeumes$Table") true := ⟨RX3, TX3, 9, tyX3, rfl, inX3, tyX3_ok, nmX3, by decide, inT1 73 rfl rfl, by decide +kernel, rfl⟩
theorem fX2_122 : XG RX2 122 3 6 (.object "ChantNeumes$Table") true := ⟨RX3, TX3, 9, tyX3, rfl, inX3, tyX3_ok, nmX3, by decide, inT1 74 rfl rfl, by decide +kernel, rfl⟩
theorem fX3_38 : XG RX3 38 3 7 (.int) false := ⟨RX3, TX3, 9, tyX3, rfl, inX3, tyX3_ok, nmX3, by decide, inT1 75 rfl rfl, by decide +kernel, rfl⟩
theorem fX2_119 : XG RX2 119 3 7 (.int) false := ⟨RX3, TX3, 9, tyX3, rfl, inX3, tyX3_ok, nmX3, by decide, inT1 76 rfl rfl, by decide +kernel, rfl⟩
theorem fX8_156 : XG RX8 156 3 7 (.int) false := ⟨RX3, TX3, 9, tyX3, rfl, inX3, tyX3_ok, nmX3, by decide, inT1 77 rfl rfl, by decide +kernel, rfl⟩
theorem fX3_42 : XG RX3 42 3 8 (.int) false := ⟨RX3, TX3, 9, tyX3, rfl, inX3, tyX3_ok, nmX3, by decide, inT1 78 rfl rfl, by decide +kernel, rfl⟩
theorem fX2_163 : XG RX2 163 3 8 (.int) false := ⟨RX3, TX3, 9, tyX3, rfl, inX3, tyX3_ok, nmX3, by decide, inT1 79 rfl rfl, by decide +kernel, rfl⟩
theorem fX8_153 : XG RX8 153 3 8 (.int) false := ⟨RX3, TX3, 9, tyX3, rfl, inX3, tyX3_ok, nmX3, by decide, inT1 80 rfl rfl, by decide +kernel, rfl⟩
theorem fX2_9 : XG RX2 9 2 0 (.object "ChantNeumes$Score") true := ⟨RX2, TX2, 12, tyX2, rfl, inX2, tyX2_ok, nmX2, by decide, inT1 108 rfl rfl, by decide +kernel, rfl⟩
theorem fX2_22 : XG RX2 22 2 1 (.object "ChantNeumes$Table") true := ⟨RX2, TX2, 12, tyX2, rfl, inX2, tyX2_ok, nmX2, by decide, inT1 109 rfl rfl, by decide +kernel, rfl⟩
theorem fX2_37 : XG RX2 37 2 2 (.int) false := ⟨RX2, TX2, 12, tyX2, rfl, inX2, tyX2_ok, nmX2, by decide, inT1 110 rfl rfl, by decide +kernel, rfl⟩
theorem fX2_26 : XG RX2 26 2 3 (.int) false := ⟨RX2, TX2, 12, tyX2, rfl, inX2, tyX2_ok, nmX2, by decide, inT1 111 rfl rfl, by decide +kernel, rfl⟩
theorem fX2_40 : XG RX2 40 2 4 (.int) false := ⟨RX2, TX2, 12, tyX2, rfl, inX2, tyX2_ok, nmX2, by decide, inT1 112 rfl rfl, by decide +kernel, rfl⟩
theorem fX2_70 : XG RX2 70 2 5 (.int) false := ⟨RX2, TX2, 12, tyX2, rfl, inX2, tyX2_ok, nmX2, by decide, inT1 113 rfl rfl, by decide +kernel, rfl⟩
theorem fX2_85 : XG RX2 85 2 6 (.int) false := ⟨RX2, TX2, 12, tyX2, rfl, inX2, tyX2_ok, nmX2, by decide, inT1 114 rfl rfl, by decide +kernel, rfl⟩
theorem fX2_47 : XG RX2 47 2 7 (.boolean) false := ⟨RX2, TX2, 12, tyX2, rfl, inX2, tyX2_ok, nmX2, by decide, inT1 115 rfl rfl, by decide +kernel, rfl⟩
theorem fX2_73 : XG RX2 73 2 8 (.boolean) false := ⟨RX2, TX2, 12, tyX2, rfl, inX2, tyX2_ok, nmX2, by decide, inT1 116 rfl rfl, by decide +kernel, rfl⟩
theorem fX2_76 : XG RX2 76 2 9 (.boolean) false := ⟨RX2, TX2, 12, tyX2, rfl, inX2, tyX2_ok, nmX2, by decide, inT1 117 rfl rfl, by decide +kernel, rfl⟩
theorem fX2_79 : XG RX2 79 2 10 (.boolean) false := ⟨RX2, TX2, 12, tyX2, rfl, inX2, tyX2_ok, nmX2, by decide, inT1 118 rfl rfl, by decide +kernel, rfl⟩
theorem fX2_82 : XG RX2 82 2 11 (.boolean) false := ⟨RX2, TX2, 12, tyX2, rfl, inX2, tyX2_ok, nmX2, by decide, inT1 119 rfl rfl, by decide +kernel, rfl⟩
theorem fX0_14 : XG RX0 14 0 0 (.object "ChantNeumes$Table") true := ⟨RX0, TX0, 8, tyX0, rfl, inX0, tyX0_ok, nmX0, by decide, inT1 161 rfl rfl, by decide +kernel, rfl⟩
theorem fX8_128 : XG RX8 128 0 0 (.object "ChantNeumes$Table") true := ⟨RX0, TX0, 8, tyX0, rfl, inX0, tyX0_ok, nmX0, by decide, inT1 162 rfl rfl, by decide +kernel, rfl⟩
theorem fX0_31 : XG RX0 31 0 1 (.boolean) false := ⟨RX0, TX0, 8, tyX0, rfl, inX0, tyX0_ok, nmX0, by decide, inT1 163 rfl rfl, by decide +kernel, rfl⟩
theorem fX8_133 : XG RX8 133 0 1 (.boolean) false := ⟨RX0, TX0, 8, tyX0, rfl, inX0, tyX0_ok, nmX0, by decide, inT1 164 rfl rfl, by decide +kernel, rfl⟩
theorem fX0_35 : XG RX0 35 0 2 (.int) false := ⟨RX0, TX0, 8, tyX0, rfl, inX0, tyX0_ok, nmX0, by decide, inT1 165 rfl rfl, by decide +kernel, rfl⟩
theorem fX8_137 : XG RX8 137 0 2 (.int) false := ⟨RX0, TX0, 8, tyX0, rfl, inX0, tyX0_ok, nmX0, by decide, inT1 166 rfl rfl, by decide +kernel, rfl⟩
theorem fX0_38 : XG RX0 38 0 3 (.int) false := ⟨RX0, TX0, 8, tyX0, rfl, inX0, tyX0_ok, nmX0, by decide, inT1 167 rfl rfl, by decide +kernel, rfl⟩
theorem fX8_140 : XG RX8 140 0 3 (.int) false := ⟨RX0, TX0, 8, tyX0, rfl, inX0, tyX0_ok, nmX0, by decide, inT1 168 rfl rfl, by decide +kernel, rfl⟩
theorem fX0_20 : XG RX0 20 0 4 (.int) false := ⟨RX0, TX0, 8, tyX0, rfl, inX0, tyX0_ok, nmX0, by decide, inT1 169 rfl rfl, by decide +kernel, rfl⟩
theorem fX0_24 : XG RX0 24 0 5 (.int) false := ⟨RX0, TX0, 8, tyX0, rfl, inX0, tyX0_ok, nmX0, by decide, inT1 170 rfl rfl, by decide +kernel, rfl⟩
theorem fX0_75 : XG RX0 75 0 6 (.int) false := ⟨RX0, TX0, 8, tyX0, rfl, inX0, tyX0_ok, nmX0, by decide, inT1 171 rfl rfl, by decide +kernel, rfl⟩
theorem fX0_78 : XG RX0 78 0 7 (.int) false := ⟨RX0, TX0, 8, tyX0, rfl, inX0, tyX0_ok, nmX0, by decide, inT1 172 rfl rfl, by decide +kernel, rfl⟩
theorem fX1_16 : XG RX1 16 1 0 (.object "ChantNeumes$Table") true := ⟨RX1, TX1, 4, tyX1, rfl, inX1, tyX1_ok, nmX1, by decide, inT1 190 rfl rfl, by decide +kernel, rfl⟩
theorem fX1_20 : XG RX1 20 1 1 (.object "ChantNeumes$Table") true := ⟨RX1, TX1, 4, tyX1, rfl, inX1, tyX1_ok, nmX1, by decide, inT1 191 rfl rfl, by decide +kernel, rfl⟩
theorem fX1_28 : XG RX1 28 1 2 (.object "ChantNeumes$Fitting") true := ⟨RX1, TX1, 4, tyX1, rfl, inX1, tyX1_ok, nmX1, by decide, inT1 192 rfl rfl, by decide +kernel, rfl⟩
theorem fX1_32 : XG RX1 32 1 3 (.int) false := ⟨RX1, TX1, 4, tyX1, rfl, inX1, tyX1_ok, nmX1, by decide, inT1 193 rfl rfl, by decide +kernel, rfl⟩
theorem fX8_14 : XG RX8 14 5 0 (.object "ChantNeumes$Table") true := ⟨RX8, TX8, 6, tyX8, rfl, inX8, tyX8_ok, nmX8, by decide, inT1 203 rfl rfl, by decide +kernel, rfl⟩
theorem fX8_18 : XG RX8 18 5 1 (.object "ChantNeumes$Table") true := ⟨RX8, TX8, 6, tyX8, rfl, inX8, tyX8_ok, nmX8, by decide, inT1 204 rfl rfl, by decide +kernel, rfl⟩
theorem fX8_24 : XG RX8 24 5 2 (.object "ChantNeumes$Score") true := ⟨RX8, TX8, 6, tyX8, rfl, inX8, tyX8_ok, nmX8, by decide, inT1 205 rfl rfl, by decide +kernel, rfl⟩
theorem fX8_33 : XG RX8 33 5 3 (.object "ChantNeumes$Reader") true := ⟨RX8, TX8, 6, tyX8, rfl, inX8, tyX8_ok, nmX8, by decide, inT1 206 rfl rfl, by decide +kernel, rfl⟩
theorem fX8_40 : XG RX8 40 5 4 (.object "ChantNeumes$Psalm") true := ⟨RX8, TX8, 6, tyX8, rfl, inX8, tyX8_ok, nmX8, by decide, inT1 207 rfl rfl, by decide +kernel, rfl⟩
theorem fX8_44 : XG RX8 44 5 5 (.int) false := ⟨RX8, TX8, 6, tyX8, rfl, inX8, tyX8_ok, nmX8, by decide, inT1 208 rfl rfl, by decide +kernel, rfl⟩
theorem sX2_186 : Cond.fieldLink RX2 186 "ChantNeumes$Reader" "SCALE" "[I" ∈ goodTB := inT2 86 rfl rfl
theorem sX4_58 : Cond.fieldLink RX4 58 "ChantNeumes$Shaper" "WAYS" "[I" ∈ goodTB := inT2 141 rfl rfl
theorem sX3_84 : Cond.fieldLink RX3 84 "ChantNeumes$Score" "TENORS" "[I" ∈ goodTB := inT2 218 rfl rfl
theorem sX6_9 : Cond.fieldLink RX6 9 "ChantNeumes$Tones" "CELLS" "[I" ∈ goodTB := inT3 51 rfl rfl
theorem fX9_7 : XG RX9 7 6 0 (.array .int) true := ⟨RX9, TX9, 56, tyX9, rfl, inX9, tyX9_ok, nmX9, by decide, inT3 134 rfl rfl, by decide +kernel, rfl⟩
theorem fX9_123 : XG RX9 123 6 1 (.int) false := ⟨RX9, TX9, 56, tyX9, rfl, inX9, tyX9_ok, nmX9, by decide, inT3 135 rfl rfl, by decide +kernel, rfl⟩
theorem fX9_13 : XG RX9 13 6 2 (.array .int) true := ⟨RX9, TX9, 56, tyX9, rfl, inX9, tyX9_ok, nmX9, by decide, inT3 136 rfl rfl, by decide +kernel, rfl⟩
theorem fX9_133 : XG RX9 133 6 3 (.int) false := ⟨RX9, TX9, 56, tyX9, rfl, inX9, tyX9_ok, nmX9, by decide, inT3 137 rfl rfl, by decide +kernel, rfl⟩
theorem fX9_16 : XG RX9 16 6 4 (.array .int) true := ⟨RX9, TX9, 56, tyX9, rfl, inX9, tyX9_ok, nmX9, by decide, inT3 138 rfl rfl, by decide +kernel, rfl⟩
theorem fX9_19 : XG RX9 19 6 5 (.array .int) true := ⟨RX9, TX9, 56, tyX9, rfl, inX9, tyX9_ok, nmX9, by decide, inT3 139 rfl rfl, by decide +kernel, rfl⟩
theorem fX9_22 : XG RX9 22 6 6 (.array .int) true := ⟨RX9, TX9, 56, tyX9, rfl, inX9, tyX9_ok, nmX9, by decide, inT3 140 rfl rfl, by decide +kernel, rfl⟩
theorem fX9_25 : XG RX9 25 6 7 (.array .int) true := ⟨RX9, TX9, 56, tyX9, rfl, inX9, tyX9_ok, nmX9, by decide, inT3 141 rfl rfl, by decide +kernel, rfl⟩
theorem fX9_28 : XG RX9 28 6 8 (.array .int) true := ⟨RX9, TX9, 56, tyX9, rfl, inX9, tyX9_ok, nmX9, by decide, inT3 142 rfl rfl, by decide +kernel, rfl⟩
theorem fX9_31 : XG RX9 31 6 9 (.array .int) true := ⟨RX9, TX9, 56, tyX9, rfl, inX9, tyX9_ok, nmX9, by decide, inT3 143 rfl rfl, by decide +kernel, rfl⟩
theorem fX9_136 : XG RX9 136 6 10 (.int) false := ⟨RX9, TX9, 56, tyX9, rfl, inX9, tyX9_ok, nmX9, by decide, inT3 144 rfl rfl, by decide +kernel, rfl⟩
theorem fX9_34 : XG RX9 34 6 11 (.array .int) true := ⟨RX9, TX9, 56, tyX9, rfl, inX9, tyX9_ok, nmX9, by decide, inT3 145 rfl rfl, by decide +kernel, rfl⟩
theorem fX9_37 : XG RX9 37 6 12 (.array .int) true := ⟨RX9, TX9, 56, tyX9, rfl, inX9, tyX9_ok, nmX9, by decide, inT3 146 rfl rfl, by decide +kernel, rfl⟩
theorem fX9_40 : XG RX9 40 6 13 (.array .int) true := ⟨RX9, TX9, 56, tyX9, rfl, inX9, tyX9_ok, nmX9, by decide, inT3 147 rfl rfl, by decide +kernel, rfl⟩
theorem fX9_139 : XG RX9 139 6 14 (.int) false := ⟨RX9, TX9, 56, tyX9, rfl, inX9, tyX9_ok, nmX9, by decide, inT3 148 rfl rfl, by decide +kernel, rfl⟩
theorem fX9_142 : XG RX9 142 6 15 (.int) false := ⟨RX9, TX9, 56, tyX9, rfl, inX9, tyX9_ok, nmX9, by decide, inT3 149 rfl rfl, by decide +kernel, rfl⟩
theorem fX9_43 : XG RX9 43 6 16 (.array .int) true := ⟨RX9, TX9, 56, tyX9, rfl, inX9, tyX9_ok, nmX9, by decide, inT3 150 rfl rfl, by decide +kernel, rfl⟩
theorem fX9_46 : XG RX9 46 6 17 (.array .int) true := ⟨RX9, TX9, 56, tyX9, rfl, inX9, tyX9_ok, nmX9, by decide, inT3 151 rfl rfl, by decide +kernel, rfl⟩
theorem fX9_49 : XG RX9 49 6 18 (.array .int) true := ⟨RX9, TX9, 56, tyX9, rfl, inX9, tyX9_ok, nmX9, by decide, inT3 152 rfl rfl, by decide +kernel, rfl⟩
theorem fX9_52 : XG RX9 52 6 19 (.array .int) true := ⟨RX9, TX9, 56, tyX9, rfl, inX9, tyX9_ok, nmX9, by decide, inT3 153 rfl rfl, by decide +kernel, rfl⟩
theorem fX9_145 : XG RX9 145 6 20 (.int) false := ⟨RX9, TX9, 56, tyX9, rfl, inX9, tyX9_ok, nmX9, by decide, inT3 154 rfl rfl, by decide +kernel, rfl⟩
theorem fX9_148 : XG RX9 148 6 21 (.int) false := ⟨RX9, TX9, 56, tyX9, rfl, inX9, tyX9_ok, nmX9, by decide, inT3 155 rfl rfl, by decide +kernel, rfl⟩
theorem fX9_151 : XG RX9 151 6 22 (.int) false := ⟨RX9, TX9, 56, tyX9, rfl, inX9, tyX9_ok, nmX9, by decide, inT3 156 rfl rfl, by decide +kernel, rfl⟩
theorem fX9_154 : XG RX9 154 6 23 (.int) false := ⟨RX9, TX9, 56, tyX9, rfl, inX9, tyX9_ok, nmX9, by decide, inT3 157 rfl rfl, by decide +kernel, rfl⟩
theorem fX9_157 : XG RX9 157 6 24 (.int) false := ⟨RX9, TX9, 56, tyX9, rfl, inX9, tyX9_ok, nmX9, by decide, inT3 158 rfl rfl, by decide +kernel, rfl⟩
theorem fX9_160 : XG RX9 160 6 25 (.int) false := ⟨RX9, TX9, 56, tyX9, rfl, inX9, tyX9_ok, nmX9, by decide, inT3 159 rfl rfl, by decide +kernel, rfl⟩
theorem fX9_130 : XG RX9 130 6 26 (.int) false := ⟨RX9, TX9, 56, tyX9, rfl, inX9, tyX9_ok, nmX9, by decide, inT3 160 rfl rfl, by decide +kernel, rfl⟩
theorem fX9_55 : XG RX9 55 6 27 (.int) false := ⟨RX9, TX9, 56, tyX9, rfl, inX9, tyX9_ok, nmX9, by decide, inT3 161 rfl rfl, by decide +kernel, rfl⟩
theorem fX9_166 : XG RX9 166 6 28 (.int) false := ⟨RX9, TX9, 56, tyX9, rfl, inX9, tyX9_ok, nmX9, by decide, inT3 162 rfl rfl, by decide +kernel, rfl⟩
theorem fX9_169 : XG RX9 169 6 29 (.int) false := ⟨RX9, TX9, 56, tyX9, rfl, inX9, tyX9_ok, nmX9, by decide, inT3 163 rfl rfl, by decide +kernel, rfl⟩
theorem fX9_59 : XG RX9 59 6 30 (.array .int) true := ⟨RX9, TX9, 56, tyX9, rfl, inX9, tyX9_ok, nmX9, by decide, inT3 164 rfl rfl, by decide +kernel, rfl⟩
theorem fX9_62 : XG RX9 62 6 31 (.array .int) true := ⟨RX9, TX9, 56, tyX9, rfl, inX9, tyX9_ok, nmX9, by decide, inT3 165 rfl rfl, by decide +kernel, rfl⟩
theorem fX9_65 : XG RX9 65 6 32 (.array .int) true := ⟨RX9, TX9, 56, tyX9, rfl, inX9, tyX9_ok, nmX9, by decide, inT3 166 rfl rfl, by decide +kernel, rfl⟩
theorem fX9_68 : XG RX9 68 6 33 (.array .int) true := ⟨RX9, TX9, 56, tyX9, rfl, inX9, tyX9_ok, nmX9, by decide, inT3 167 rfl rfl, by decide +kernel, rfl⟩
theorem fX9_71 : XG RX9 71 6 34 (.array .int) true := ⟨RX9, TX9, 56, tyX9, rfl, inX9, tyX9_ok, nmX9, by decide, inT3 168 rfl rfl, by decide +kernel, rfl⟩
theorem fX9_163 : XG RX9 163 6 35 (.int) false := ⟨RX9, TX9, 56, tyX9, rfl, inX9, tyX9_ok, nmX9, by decide, inT3 169 rfl rfl, by decide +kernel, rfl⟩
theorem fX9_74 : XG RX9 74 6 36 (.array .int) true := ⟨RX9, TX9, 56, tyX9, rfl, inX9, tyX9_ok, nmX9, by decide, inT3 170 rfl rfl, by decide +kernel, rfl⟩
theorem fX9_77 : XG RX9 77 6 37 (.array .int) true := ⟨RX9, TX9, 56, tyX9, rfl, inX9, tyX9_ok, nmX9, by decide, inT3 171 rfl rfl, by decide +kernel, rfl⟩
theorem fX9_80 : XG RX9 80 6 38 (.array .int) true := ⟨RX9, TX9, 56, tyX9, rfl, inX9, tyX9_ok, nmX9, by decide, inT3 172 rfl rfl, by decide +kernel, rfl⟩
theorem fX9_83 : XG RX9 83 6 39 (.array .int) true := ⟨RX9, TX9, 56, tyX9, rfl, inX9, tyX9_ok, nmX9, by decide, inT3 173 rfl rfl, by decide +kernel, rfl⟩
theorem fX9_86 : XG RX9 86 6 40 (.array .int) true := ⟨RX9, TX9, 56, tyX9, rfl, inX9, tyX9_ok, nmX9, by decide, inT3 174 rfl rfl, by decide +kernel, rfl⟩
theorem fX9_89 : XG RX9 89 6 41 (.array .int) true := ⟨RX9, TX9, 56, tyX9, rfl, inX9, tyX9_ok, nmX9, by decide, inT3 175 rfl rfl, by decide +kernel, rfl⟩
theorem fX9_92 : XG RX9 92 6 42 (.array .int) true := ⟨RX9, TX9, 56, tyX9, rfl, inX9, tyX9_ok, nmX9, by decide, inT3 176 rfl rfl, by decide +kernel, rfl⟩
theorem fX9_116 : XG RX9 116 6 43 (.int) false := ⟨RX9, TX9, 56, tyX9, rfl, inX9, tyX9_ok, nmX9, by decide, inT3 177 rfl rfl, by decide +kernel, rfl⟩
theorem fX9_95 : XG RX9 95 6 44 (.array .int) true := ⟨RX9, TX9, 56, tyX9, rfl, inX9, tyX9_ok, nmX9, by decide, inT3 178 rfl rfl, by decide +kernel, rfl⟩
theorem fX9_98 : XG RX9 98 6 45 (.array .int) true := ⟨RX9, TX9, 56, tyX9, rfl, inX9, tyX9_ok, nmX9, by decide, inT3 179 rfl rfl, by decide +kernel, rfl⟩
theorem fX9_101 : XG RX9 101 6 46 (.array .int) true := ⟨RX9, TX9, 56, tyX9, rfl, inX9, tyX9_ok, nmX9, by decide, inT3 180 rfl rfl, by decide +kernel, rfl⟩
theorem fX9_104 : XG RX9 104 6 47 (.array .int) true := ⟨RX9, TX9, 56, tyX9, rfl, inX9, tyX9_ok, nmX9, by decide, inT3 181 rfl rfl, by decide +kernel, rfl⟩
theorem fX9_243 : XG RX9 243 6 48 (.int) false := ⟨RX9, TX9, 56, tyX9, rfl, inX9, tyX9_ok, nmX9, by decide, inT3 182 rfl rfl, by decide +kernel, rfl⟩
theorem fX9_246 : XG RX9 246 6 49 (.int) false := ⟨RX9, TX9, 56, tyX9, rfl, inX9, tyX9_ok, nmX9, by decide, inT3 183 rfl rfl, by decide +kernel, rfl⟩
theorem fX9_249 : XG RX9 249 6 50 (.boolean) false := ⟨RX9, TX9, 56, tyX9, rfl, inX9, tyX9_ok, nmX9, by decide, inT3 184 rfl rfl, by decide +kernel, rfl⟩
theorem fX9_240 : XG RX9 240 6 51 (.int) false := ⟨RX9, TX9, 56, tyX9, rfl, inX9, tyX9_ok, nmX9, by decide, inT3 185 rfl rfl, by decide +kernel, rfl⟩
theorem fX9_107 : XG RX9 107 6 52 (.array .int) true := ⟨RX9, TX9, 56, tyX9, rfl, inX9, tyX9_ok, nmX9, by decide, inT3 186 rfl rfl, by decide +kernel, rfl⟩
theorem fX9_110 : XG RX9 110 6 53 (.array .int) true := ⟨RX9, TX9, 56, tyX9, rfl, inX9, tyX9_ok, nmX9, by decide, inT3 187 rfl rfl, by decide +kernel, rfl⟩
theorem fX9_113 : XG RX9 113 6 54 (.array .int) true := ⟨RX9, TX9, 56, tyX9, rfl, inX9, tyX9_ok, nmX9, by decide, inT3 188 rfl rfl, by decide +kernel, rfl⟩
theorem fX9_266 : XG RX9 266 6 55 (.int) false := ⟨RX9, TX9, 56, tyX9, rfl, inX9, tyX9_ok, nmX9, by decide, inT3 189 rfl rfl, by decide +kernel, rfl⟩
theorem lL_9 : XI RL 9 mX8_init 0 := ⟨by decide +kernel, by decide +kernel, by decide +kernel, inT1 14 rfl rfl, inT1 1 rfl rfl, inT1 16 rfl rfl, inT1 15 rfl rfl, rfl⟩
theorem oX8_1 : Cond.methodLink RX8 1 objectInit ∈ goodTB := inT1 17 rfl rfl
theorem lX8_11 : XI RX8 11 mX5_init 2 := ⟨by decide +kernel, by decide +kernel, by decide +kernel, inT1 22 rfl rfl, inT1 2 rfl rfl, inT1 24 rfl rfl, inT1 23 rfl rfl, rfl⟩
theorem oX5_3 : Cond.methodLink RX5 3 objectInit ∈ goodTB := inT1 25 rfl rfl
theorem lX5_9 : XT RX5 9 mJ9_max_7cf53 2 := ⟨by decide +kernel, by decide +kernel, by decide +kernel, inT1 26 rfl rfl, inT1 3 rfl rfl, inT1 28 rfl rfl, inT1 27 rfl rfl⟩
theorem oX3_5 : Cond.methodLink RX3 5 objectInit ∈ goodTB := inT1 48 rfl rfl
theorem lX3_13 : XI RX3 13 mX5_init 2 := ⟨by decide +kernel, by decide +kernel, by decide +kernel, inT1 50 rfl rfl, inT1 2 rfl rfl, inT1 24 rfl rfl, inT1 23 rfl rfl, rfl⟩
theorem lX8_30 : XI RX8 30 mX2_init 1 := ⟨by decide +kernel, by decide +kernel, by decide +kernel, inT1 102 rfl rfl, inT1 5 rfl rfl, inT1 104 rfl rfl, inT1 103 rfl rfl, rfl⟩
theorem oX2_3 : Cond.methodLink RX2 3 objectInit ∈ goodTB := inT1 105 rfl rfl
theorem lX2_19 : XI RX2 19 mX5_init 2 := ⟨by decide +kernel, by decide +kernel, by decide +kernel, inT1 107 rfl rfl, inT1 2 rfl rfl, inT1 24 rfl rfl, inT1 23 rfl rfl, rfl⟩
theorem oX1_3 : Cond.methodLink RX1 3 objectInit ∈ goodTB := inT1 150 rfl rfl
theorem lX1_13 : XI RX1 13 mX5_init 2 := ⟨by decide +kernel, by decide +kernel, by decide +kernel, inT1 152 rfl rfl, inT1 2 rfl rfl, inT1 24 rfl rfl, inT1 23 rfl rfl, rfl⟩
theorem lX1_25 : XI RX1 25 mX0_init 1 := ⟨by decide +kernel, by decide +kernel, by decide +kernel, inT1 155 rfl rfl, inT1 7 rfl rfl, inT1 157 rfl rfl, inT1 156 rfl rfl, rfl⟩
theorem oX0_3 : Cond.methodLink RX0 3 objectInit ∈ goodTB := inT1 158 rfl rfl
theorem lX0_11 : XI RX0 11 mX5_init 2 := ⟨by decide +kernel, by decide +kernel, by decide +kernel, inT1 160 rfl rfl, inT1 2 rfl rfl, inT1 24 rfl rfl, inT1 23 rfl rfl, rfl⟩
theorem lL_13 : XV RL 13 mX8_feed 5 := ⟨by decide +kernel, by decide +kernel, by decide +kernel, inT1 222 rfl rfl, inT1 1 rfl rfl, inT1 225 rfl rfl, inT1 223 rfl rfl, inT1 224 rfl rfl⟩
theorem lX8_48 : XV RX8 48 mX5_size 0 := ⟨by decide +kernel, by decide +kernel, by decide +kernel, inT1 226 rfl rfl, inT1 2 rfl rfl, inT1 229 rfl rfl, inT1 227 rfl rfl, inT1 228 rfl rfl⟩
theorem lX8_52 : XV RX8 52 mX8_feedNumber 1 := ⟨by decide +kernel, by decide +kernel, by decide +kernel, inT1 230 rfl rfl, inT1 1 rfl rfl, inT1 233 rfl rfl, inT1 232 rfl rfl, inT0 0 rfl rfl⟩
theorem lX8_56 : XV RX8 56 mX5_add 1 := ⟨by decide +kernel, by decide +kernel, by decide +kernel, inT1 234 rfl rfl, inT1 2 rfl rfl, inT1 237 rfl rfl, inT1 235 rfl rfl, inT1 236 rfl rfl⟩
theorem lL_18 : XV RL 18 mX8_end 1 := ⟨by decide +kernel, by decide +kernel, by decide +kernel, inT1 238 rfl rfl, inT1 1 rfl rfl, inT2 1 rfl rfl, inT1 239 rfl rfl, inT2 0 rfl rfl⟩
theorem lX8_60 : XV RX8 60 mX5_keep 1 := ⟨by decide +kernel, by decide +kernel, by decide +kernel, inT2 2 rfl rfl, inT1 2 rfl rfl, inT2 5 rfl rfl, inT2 3 rfl rfl, inT2 4 rfl rfl⟩
theorem lL_23 : XV RL 23 mX8_read 0 := ⟨by decide +kernel, by decide +kernel, by decide +kernel, inT2 6 rfl rfl, inT1 1 rfl rfl, inT2 9 rfl rfl, inT2 7 rfl rfl, inT2 8 rfl rfl⟩
theorem lX8_63 : XV RX8 63 mX2_readFrom 1 := ⟨by decide +kernel, by decide +kernel, by decide +kernel, inT2 10 rfl rfl, inT1 5 rfl rfl, inT2 13 rfl rfl, inT2 11 rfl rfl, inT2 12 rfl rfl⟩
theorem lX2_30 : XV RX2 30 mX2_start 0 := ⟨by decide +kernel, by decide +kernel, by decide +kernel, inT2 14 rfl rfl, inT1 5 rfl rfl, inT2 17 rfl rfl, inT2 16 rfl rfl, inT0 1 rfl rfl⟩
theorem lX2_67 : XV RX2 67 mX3_clear 0 := ⟨by decide +kernel, by decide +kernel, by decide +kernel, inT2 18 rfl rfl, inT1 4 rfl rfl, inT2 21 rfl rfl, inT2 19 rfl rfl, inT2 20 rfl rfl⟩
theorem lX3_45 : XV RX3 45 mX5_keep 1 := ⟨by decide +kernel, by decide +kernel, by decide +kernel, inT2 22 rfl rfl, inT1 2 rfl rfl, inT2 5 rfl rfl, inT2 3 rfl rfl, inT2 4 rfl rfl⟩
theorem lX2_88 : XV RX2 88 mX5_keep 1 := ⟨by decide +kernel, by decide +kernel, by decide +kernel, inT2 23 rfl rfl, inT1 2 rfl rfl, inT2 5 rfl rfl, inT2 3 rfl rfl, inT2 4 rfl rfl⟩
theorem lX2_92 : XV RX2 92 mX5_add 1 := ⟨by decide +kernel, by decide +kernel, by decide +kernel, inT2 24 rfl rfl, inT1 2 rfl rfl, inT1 237 rfl rfl, inT1 235 rfl rfl, inT1 236 rfl rfl⟩
theorem lX2_33 : XV RX2 33 mX5_size 0 := ⟨by decide +kernel, by decide +kernel, by decide +kernel, inT2 25 rfl rfl, inT1 2 rfl rfl, inT1 229 rfl rfl, inT1 227 rfl rfl, inT1 228 rfl rfl⟩
theorem lX2_43 : XV RX2 43 mX5_get 2 := ⟨by decide +kernel, by decide +kernel, by decide +kernel, inT2 26 rfl rfl, inT1 2 rfl rfl, inT2 29 rfl rfl, inT2 27 rfl rfl, inT2 28 rfl rfl⟩
theorem lX2_51 : XV RX2 51 mX2_takeInside 3 := ⟨by decide +kernel, by decide +kernel, by decide +kernel, inT2 30 rfl rfl, inT1 5 rfl rfl, inT2 33 rfl rfl, inT2 32 rfl rfl, inT0 2 rfl rfl⟩
theorem lX2_125 : XT RX2 125 mX2_markOf 1 := ⟨by decide +kernel, by decide +kernel, by decide +kernel, inT2 34 rfl rfl, inT1 5 rfl rfl, inT2 36 rfl rfl, inT2 35 rfl rfl⟩
theorem lX2_128 : XV RX2 128 mX2_takeMark 2 := ⟨by decide +kernel, by decide +kernel, by decide +kernel, inT2 37 rfl rfl, inT1 5 rfl rfl, inT2 40 rfl rfl, inT2 39 rfl rfl, inT0 3 rfl rfl⟩
theorem lX2_58 : XV RX2 58 mX2_refuse 2 := ⟨by decide +kernel, by decide +kernel, by decide +kernel, inT2 41 rfl rfl, inT1 5 rfl rfl, inT2 44 rfl rfl, inT2 43 rfl rfl, inT0 4 rfl rfl⟩
theorem lX2_146 : XV RX2 146 mX3_hasMark 2 := ⟨by decide +kernel, by decide +kernel, by decide +kernel, inT2 45 rfl rfl, inT1 4 rfl rfl, inT2 48 rfl rfl, inT2 46 rfl rfl, inT2 47 rfl rfl⟩
theorem lX3_53 : XV RX3 53 mX5_get 2 := ⟨by decide +kernel, by decide +kernel, by decide +kernel, inT2 49 rfl rfl, inT1 2 rfl rfl, inT2 29 rfl rfl, inT2 27 rfl rfl, inT2 28 rfl rfl⟩
theorem lX2_109 : XV RX2 109 mX5_set 3 := ⟨by decide +kernel, by decide +kernel, by decide +kernel, inT2 50 rfl rfl, inT1 2 rfl rfl, inT2 53 rfl rfl, inT2 51 rfl rfl, inT2 52 rfl rfl⟩
theorem lX2_131 : XV RX2 131 mX2_takeHeight 3 := ⟨by decide +kernel, by decide +kernel, by decide +kernel, inT2 54 rfl rfl, inT1 5 rfl rfl, inT2 57 rfl rfl, inT2 56 rfl rfl, inT0 5 rfl rfl⟩
theorem lX2_150 : XV RX2 150 mX2_takeAccidental 3 := ⟨by decide +kernel, by decide +kernel, by decide +kernel, inT2 58 rfl rfl, inT1 5 rfl rfl, inT2 61 rfl rfl, inT2 60 rfl rfl, inT0 6 rfl rfl⟩
theorem lX2_159 : XV RX2 159 mX2_addSign 3 := ⟨by decide +kernel, by decide +kernel, by decide +kernel, inT2 62 rfl rfl, inT1 5 rfl rfl, inT2 65 rfl rfl, inT2 64 rfl rfl, inT0 7 rfl rfl⟩
theorem lX2_175 : XT RX2 175 mX2_roomOf 1 := ⟨by decide +kernel, by decide +kernel, by decide +kernel, inT2 66 rfl rfl, inT1 5 rfl rfl, inT2 68 rfl rfl, inT2 67 rfl rfl⟩
theorem lX2_153 : XV RX2 153 mX2_takeClef 3 := ⟨by decide +kernel, by decide +kernel, by decide +kernel, inT2 69 rfl rfl, inT1 5 rfl rfl, inT2 72 rfl rfl, inT2 71 rfl rfl, inT0 8 rfl rfl⟩
theorem lX2_156 : XV RX2 156 mX2_takeNote 2 := ⟨by decide +kernel, by decide +kernel, by decide +kernel, inT2 73 rfl rfl, inT1 5 rfl rfl, inT2 76 rfl rfl, inT2 75 rfl rfl, inT0 9 rfl rfl⟩
theorem lX2_166 : XT RX2 166 mX2_semitonesOf 1 := ⟨by decide +kernel, by decide +kernel, by decide +kernel, inT2 77 rfl rfl, inT1 5 rfl rfl, inT2 79 rfl rfl, inT2 78 rfl rfl⟩
theorem lX2_178 : XT RX2 178 mJ9_floorMod_7cf53 2 := ⟨by decide +kernel, by decide +kernel, by decide +kernel, inT2 80 rfl rfl, inT1 3 rfl rfl, inT2 82 rfl rfl, inT2 81 rfl rfl⟩
theorem lX2_183 : XT RX2 183 mJ9_floorDiv_7cf53 2 := ⟨by decide +kernel, by decide +kernel, by decide +kernel, inT2 83 rfl rfl, inT1 3 rfl rfl, inT2 85 rfl rfl, inT2 84 rfl rfl⟩
theorem lX2_134 : XV RX2 134 mX2_endSyllable 0 := ⟨by decide +kernel, by decide +kernel, by decide +kernel, inT2 88 rfl rfl, inT1 5 rfl rfl, inT2 91 rfl rfl, inT2 90 rfl rfl, inT0 10 rfl rfl⟩
theorem lX2_137 : XV RX2 137 mX2_takeBar 2 := ⟨by decide +kernel, by decide +kernel, by decide +kernel, inT2 92 rfl rfl, inT1 5 rfl rfl, inT2 95 rfl rfl, inT2 94 rfl rfl, inT0 11 rfl rfl⟩
theorem lX2_140 : XV RX2 140 mX2_takeLineEnd 1 := ⟨by decide +kernel, by decide +kernel, by decide +kernel, inT2 96 rfl rfl, inT1 5 rfl rfl, inT2 99 rfl rfl, inT2 98 rfl rfl, inT0 12 rfl rfl⟩
theorem lX2_55 : XV RX2 55 mX2_takeOutside 2 := ⟨by decide +kernel, by decide +kernel, by decide +kernel, inT2 100 rfl rfl, inT1 5 rfl rfl, inT2 103 rfl rfl, inT2 102 rfl rfl, inT0 13 rfl rfl⟩
theorem lX2_96 : XT RX2 96 mX2_isBlank 1 := ⟨by decide +kernel, by decide +kernel, by decide +kernel, inT2 104 rfl rfl, inT1 5 rfl rfl, inT2 106 rfl rfl, inT2 105 rfl rfl⟩
theorem lX2_100 : XT RX2 100 mX2_isLetter 1 := ⟨by decide +kernel, by decide +kernel, by decide +kernel, inT2 107 rfl rfl, inT1 5 rfl rfl, inT2 109 rfl rfl, inT2 108 rfl rfl⟩
theorem lX2_103 : XV RX2 103 mX2_beginSyllable 1 := ⟨by decide +kernel, by decide +kernel, by decide +kernel, inT2 110 rfl rfl, inT1 5 rfl rfl, inT2 113 rfl rfl, inT2 112 rfl rfl, inT0 14 rfl rfl⟩
theorem lX2_115 : XV RX2 115 mX5_isFull 0 := ⟨by decide +kernel, by decide +kernel, by decide +kernel, inT2 114 rfl rfl, inT1 2 rfl rfl, inT2 117 rfl rfl, inT2 115 rfl rfl, inT2 116 rfl rfl⟩
theorem lX2_61 : XT RX2 61 mX4_shape 1 := ⟨by decide +kernel, by decide +kernel, by decide +kernel, inT2 118 rfl rfl, inT1 9 rfl rfl, inT2 120 rfl rfl, inT2 119 rfl rfl⟩
theorem lX4_15 : XV RX4 15 mX5_size 0 := ⟨by decide +kernel, by decide +kernel, by decide +kernel, inT2 121 rfl rfl, inT1 2 rfl rfl, inT1 229 rfl rfl, inT1 227 rfl rfl, inT1 228 rfl rfl⟩
theorem lX4_21 : XT RX4 21 mX4_beginNeume 2 := ⟨by decide +kernel, by decide +kernel, by decide +kernel, inT2 122 rfl rfl, inT1 9 rfl rfl, inT2 124 rfl rfl, inT2 123 rfl rfl⟩
theorem lX4_37 : XV RX4 37 mX3_hasMark 2 := ⟨by decide +kernel, by decide +kernel, by decide +kernel, inT2 125 rfl rfl, inT1 4 rfl rfl, inT2 48 rfl rfl, inT2 46 rfl rfl, inT2 47 rfl rfl⟩
theorem lX4_41 : XV RX4 41 mX3_sameGroup 2 := ⟨by decide +kernel, by decide +kernel, by decide +kernel, inT2 126 rfl rfl, inT1 4 rfl rfl, inT2 129 rfl rfl, inT2 127 rfl rfl, inT2 128 rfl rfl⟩
theorem lX3_57 : XV RX3 57 mX5_has 1 := ⟨by decide +kernel, by decide +kernel, by decide +kernel, inT2 130 rfl rfl, inT1 2 rfl rfl, inT2 133 rfl rfl, inT2 131 rfl rfl, inT2 132 rfl rfl⟩
theorem lX4_44 : XT RX4 44 mX4_wayTo 2 := ⟨by decide +kernel, by decide +kernel, by decide +kernel, inT2 134 rfl rfl, inT1 9 rfl rfl, inT2 136 rfl rfl, inT2 135 rfl rfl⟩
theorem lX4_54 : XV RX4 54 mX5_get 2 := ⟨by decide +kernel, by decide +kernel, by decide +kernel, inT2 137 rfl rfl, inT1 2 rfl rfl, inT2 29 rfl rfl, inT2 27 rfl rfl, inT2 28 rfl rfl⟩
theorem lX4_47 : XT RX4 47 mX4_kindOf 1 := ⟨by decide +kernel, by decide +kernel, by decide +kernel, inT2 138 rfl rfl, inT1 9 rfl rfl, inT2 140 rfl rfl, inT2 139 rfl rfl⟩
theorem lX4_51 : XV RX4 51 mX5_add 1 := ⟨by decide +kernel, by decide +kernel, by decide +kernel, inT2 143 rfl rfl, inT1 2 rfl rfl, inT1 237 rfl rfl, inT1 235 rfl rfl, inT1 236 rfl rfl⟩
theorem lX4_30 : XV RX4 30 mX5_set 3 := ⟨by decide +kernel, by decide +kernel, by decide +kernel, inT2 144 rfl rfl, inT1 2 rfl rfl, inT2 53 rfl rfl, inT2 51 rfl rfl, inT2 52 rfl rfl⟩
theorem lX4_34 : XT RX4 34 mX4_lengthOf 2 := ⟨by decide +kernel, by decide +kernel, by decide +kernel, inT2 145 rfl rfl, inT1 9 rfl rfl, inT2 147 rfl rfl, inT2 146 rfl rfl⟩
theorem lX8_67 : XV RX8 67 mX2_placeOfFault 0 := ⟨by decide +kernel, by decide +kernel, by decide +kernel, inT2 148 rfl rfl, inT1 5 rfl rfl, inT2 151 rfl rfl, inT2 149 rfl rfl, inT2 150 rfl rfl⟩
theorem lL_28 : XV RL 28 mX8_place 0 := ⟨by decide +kernel, by decide +kernel, by decide +kernel, inT2 152 rfl rfl, inT1 1 rfl rfl, inT2 155 rfl rfl, inT2 153 rfl rfl, inT2 154 rfl rfl⟩
theorem lL_32 : XV RL 32 mX8_syllable 2 := ⟨by decide +kernel, by decide +kernel, by decide +kernel, inT2 156 rfl rfl, inT1 1 rfl rfl, inT2 159 rfl rfl, inT2 157 rfl rfl, inT2 158 rfl rfl⟩
theorem lX8_76 : XV RX8 76 mX5_ask 3 := ⟨by decide +kernel, by decide +kernel, by decide +kernel, inT2 160 rfl rfl, inT1 2 rfl rfl, inT2 163 rfl rfl, inT2 161 rfl rfl, inT2 162 rfl rfl⟩
theorem lX5_31 : XV RX5 31 mX5_get 2 := ⟨by decide +kernel, by decide +kernel, by decide +kernel, inT2 164 rfl rfl, inT1 2 rfl rfl, inT2 29 rfl rfl, inT2 27 rfl rfl, inT2 28 rfl rfl⟩
theorem lL_37 : XV RL 37 mX8_note 2 := ⟨by decide +kernel, by decide +kernel, by decide +kernel, inT2 165 rfl rfl, inT1 1 rfl rfl, inT2 168 rfl rfl, inT2 166 rfl rfl, inT2 167 rfl rfl⟩
theorem lL_41 : XV RL 41 mX8_neume 2 := ⟨by decide +kernel, by decide +kernel, by decide +kernel, inT2 169 rfl rfl, inT1 1 rfl rfl, inT2 172 rfl rfl, inT2 170 rfl rfl, inT2 171 rfl rfl⟩
theorem lL_45 : XV RL 45 mX8_bar 2 := ⟨by decide +kernel, by decide +kernel, by decide +kernel, inT2 173 rfl rfl, inT1 1 rfl rfl, inT2 176 rfl rfl, inT2 174 rfl rfl, inT2 175 rfl rfl⟩
theorem lL_49 : XV RL 49 mX8_guide 1 := ⟨by decide +kernel, by decide +kernel, by decide +kernel, inT2 177 rfl rfl, inT1 1 rfl rfl, inT2 180 rfl rfl, inT2 178 rfl rfl, inT2 179 rfl rfl⟩
theorem lX8_89 : XV RX8 89 mX5_has 1 := ⟨by decide +kernel, by decide +kernel, by decide +kernel, inT2 181 rfl rfl, inT1 2 rfl rfl, inT2 133 rfl rfl, inT2 131 rfl rfl, inT2 132 rfl rfl⟩
theorem lX8_93 : XV RX8 93 mX3_guideOf 1 := ⟨by decide +kernel, by decide +kernel, by decide +kernel, inT2 182 rfl rfl, inT1 4 rfl rfl, inT2 185 rfl rfl, inT2 183 rfl rfl, inT2 184 rfl rfl⟩
theorem lL_53 : XV RL 53 mX8_mode 1 := ⟨by decide +kernel, by decide +kernel, by decide +kernel, inT2 186 rfl rfl, inT1 1 rfl rfl, inT2 189 rfl rfl, inT2 187 rfl rfl, inT2 188 rfl rfl⟩
theorem lX8_96 : XV RX8 96 mX3_modeNumber 0 := ⟨by decide +kernel, by decide +kernel, by decide +kernel, inT2 190 rfl rfl, inT1 4 rfl rfl, inT2 193 rfl rfl, inT2 191 rfl rfl, inT2 192 rfl rfl⟩
theorem lX3_61 : XV RX3 61 mX3_finalStep 0 := ⟨by decide +kernel, by decide +kernel, by decide +kernel, inT2 194 rfl rfl, inT1 4 rfl rfl, inT2 197 rfl rfl, inT2 195 rfl rfl, inT2 196 rfl rfl⟩
theorem lX3_49 : XV RX3 49 mX5_size 0 := ⟨by decide +kernel, by decide +kernel, by decide +kernel, inT2 198 rfl rfl, inT1 2 rfl rfl, inT1 229 rfl rfl, inT1 227 rfl rfl, inT1 228 rfl rfl⟩
theorem lX3_72 : XT RX3 72 mJ9_floorMod_7cf53 2 := ⟨by decide +kernel, by decide +kernel, by decide +kernel, inT2 199 rfl rfl, inT1 3 rfl rfl, inT2 82 rfl rfl, inT2 81 rfl rfl⟩
theorem lX3_75 : XV RX3 75 mX3_lowestStep 0 := ⟨by decide +kernel, by decide +kernel, by decide +kernel, inT2 200 rfl rfl, inT1 4 rfl rfl, inT2 203 rfl rfl, inT2 201 rfl rfl, inT2 202 rfl rfl⟩
theorem lX3_64 : XT RX3 64 mJ9_min_7cf53 2 := ⟨by decide +kernel, by decide +kernel, by decide +kernel, inT2 204 rfl rfl, inT1 3 rfl rfl, inT2 206 rfl rfl, inT2 205 rfl rfl⟩
theorem lX3_78 : XV RX3 78 mX3_highestStep 0 := ⟨by decide +kernel, by decide +kernel, by decide +kernel, inT2 207 rfl rfl, inT1 4 rfl rfl, inT2 210 rfl rfl, inT2 208 rfl rfl, inT2 209 rfl rfl⟩
theorem lX3_69 : XT RX3 69 mJ9_max_7cf53 2 := ⟨by decide +kernel, by decide +kernel, by decide +kernel, inT2 211 rfl rfl, inT1 3 rfl rfl, inT1 28 rfl rfl, inT1 27 rfl rfl⟩
theorem lX8_99 : XV RX8 99 mX3_finalStep 0 := ⟨by decide +kernel, by decide +kernel, by decide +kernel, inT2 212 rfl rfl, inT1 4 rfl rfl, inT2 197 rfl rfl, inT2 195 rfl rfl, inT2 196 rfl rfl⟩
theorem lX8_102 : XV RX8 102 mX3_tenorStep 0 := ⟨by decide +kernel, by decide +kernel, by decide +kernel, inT2 213 rfl rfl, inT1 4 rfl rfl, inT2 216 rfl rfl, inT2 214 rfl rfl, inT2 215 rfl rfl⟩
theorem lX3_81 : XV RX3 81 mX3_modeNumber 0 := ⟨by decide +kernel, by decide +kernel, by decide +kernel, inT2 217 rfl rfl, inT1 4 rfl rfl, inT2 193 rfl rfl, inT2 191 rfl rfl, inT2 192 rfl rfl⟩
theorem lX8_105 : XV RX8 105 mX3_lowestStep 0 := ⟨by decide +kernel, by decide +kernel, by decide +kernel, inT2 220 rfl rfl, inT1 4 rfl rfl, inT2 203 rfl rfl, inT2 201 rfl rfl, inT2 202 rfl rfl⟩
theorem lX8_108 : XV RX8 108 mX3_highestStep 0 := ⟨by decide +kernel, by decide +kernel, by decide +kernel, inT2 221 rfl rfl, inT1 4 rfl rfl, inT2 210 rfl rfl, inT2 208 rfl rfl, inT2 209 rfl rfl⟩
theorem lL_57 : XV RL 57 mX8_tone 1 := ⟨by decide +kernel, by decide +kernel, by decide +kernel, inT2 222 rfl rfl, inT1 1 rfl rfl, inT2 225 rfl rfl, inT2 223 rfl rfl, inT2 224 rfl rfl⟩
theorem lX8_111 : XV RX8 111 mX1_changeTone 1 := ⟨by decide +kernel, by decide +kernel, by decide +kernel, inT2 226 rfl rfl, inT1 6 rfl rfl, inT2 229 rfl rfl, inT2 227 rfl rfl, inT2 228 rfl rfl⟩
theorem lL_61 : XV RL 61 mX8_point 2 := ⟨by decide +kernel, by decide +kernel, by decide +kernel, inT2 230 rfl rfl, inT1 1 rfl rfl, inT2 233 rfl rfl, inT2 231 rfl rfl, inT2 232 rfl rfl⟩
theorem lX8_114 : XV RX8 114 mX1_addSyllable 2 := ⟨by decide +kernel, by decide +kernel, by decide +kernel, inT2 234 rfl rfl, inT1 6 rfl rfl, inT2 237 rfl rfl, inT2 235 rfl rfl, inT2 236 rfl rfl⟩
theorem lX1_38 : XT RX1 38 mX1_isHalf 1 := ⟨by decide +kernel, by decide +kernel, by decide +kernel, inT2 238 rfl rfl, inT1 6 rfl rfl, inT3 0 rfl rfl, inT2 239 rfl rfl⟩
theorem lX1_42 : XV RX1 42 mX1_accentsOf 1 := ⟨by decide +kernel, by decide +kernel, by decide +kernel, inT3 1 rfl rfl, inT1 6 rfl rfl, inT3 4 rfl rfl, inT3 3 rfl rfl, inT0 15 rfl rfl⟩
theorem lX1_46 : XV RX1 46 mX5_isFull 0 := ⟨by decide +kernel, by decide +kernel, by decide +kernel, inT3 5 rfl rfl, inT1 2 rfl rfl, inT2 117 rfl rfl, inT2 115 rfl rfl, inT2 116 rfl rfl⟩
theorem lX1_50 : XV RX1 50 mX5_add 1 := ⟨by decide +kernel, by decide +kernel, by decide +kernel, inT3 6 rfl rfl, inT1 2 rfl rfl, inT1 237 rfl rfl, inT1 235 rfl rfl, inT1 236 rfl rfl⟩
theorem lX1_54 : XV RX1 54 mX5_size 0 := ⟨by decide +kernel, by decide +kernel, by decide +kernel, inT3 7 rfl rfl, inT1 2 rfl rfl, inT1 229 rfl rfl, inT1 227 rfl rfl, inT1 228 rfl rfl⟩
theorem lL_66 : XV RL 66 mX8_fresh 0 := ⟨by decide +kernel, by decide +kernel, by decide +kernel, inT3 8 rfl rfl, inT1 1 rfl rfl, inT3 11 rfl rfl, inT3 9 rfl rfl, inT3 10 rfl rfl⟩
theorem lX8_118 : XV RX8 118 mX1_forgetVerse 0 := ⟨by decide +kernel, by decide +kernel, by decide +kernel, inT3 12 rfl rfl, inT1 6 rfl rfl, inT3 15 rfl rfl, inT3 13 rfl rfl, inT3 14 rfl rfl⟩
theorem lX1_58 : XV RX1 58 mX5_keep 1 := ⟨by decide +kernel, by decide +kernel, by decide +kernel, inT3 16 rfl rfl, inT1 2 rfl rfl, inT2 5 rfl rfl, inT2 3 rfl rfl, inT2 4 rfl rfl⟩
theorem lL_70 : XV RL 70 mX8_half 2 := ⟨by decide +kernel, by decide +kernel, by decide +kernel, inT3 17 rfl rfl, inT1 1 rfl rfl, inT3 20 rfl rfl, inT3 18 rfl rfl, inT3 19 rfl rfl⟩
theorem lX8_121 : XT RX8 121 mX1_isHalf 1 := ⟨by decide +kernel, by decide +kernel, by decide +kernel, inT3 21 rfl rfl, inT1 6 rfl rfl, inT3 0 rfl rfl, inT2 239 rfl rfl⟩
theorem lX8_124 : XV RX8 124 mX1_fitted 1 := ⟨by decide +kernel, by decide +kernel, by decide +kernel, inT3 22 rfl rfl, inT1 6 rfl rfl, inT3 25 rfl rfl, inT3 23 rfl rfl, inT3 24 rfl rfl⟩
theorem lX1_61 : XV RX1 61 mX0_fit 3 := ⟨by decide +kernel, by decide +kernel, by decide +kernel, inT3 26 rfl rfl, inT1 7 rfl rfl, inT3 29 rfl rfl, inT3 27 rfl rfl, inT3 28 rfl rfl⟩
theorem lX0_27 : XV RX0 27 mX5_keep 1 := ⟨by decide +kernel, by decide +kernel, by decide +kernel, inT3 30 rfl rfl, inT1 2 rfl rfl, inT2 5 rfl rfl, inT2 3 rfl rfl, inT2 4 rfl rfl⟩
theorem lX0_41 : XV RX0 41 mX5_size 0 := ⟨by decide +kernel, by decide +kernel, by decide +kernel, inT3 31 rfl rfl, inT1 2 rfl rfl, inT1 229 rfl rfl, inT1 227 rfl rfl, inT1 228 rfl rfl⟩
theorem lX0_45 : XV RX0 45 mX0_placeAccents 1 := ⟨by decide +kernel, by decide +kernel, by decide +kernel, inT3 32 rfl rfl, inT1 7 rfl rfl, inT3 35 rfl rfl, inT3 34 rfl rfl, inT0 16 rfl rfl⟩
theorem lX0_56 : XT RX0 56 mX0_accentBefore 2 := ⟨by decide +kernel, by decide +kernel, by decide +kernel, inT3 36 rfl rfl, inT1 7 rfl rfl, inT3 38 rfl rfl, inT3 37 rfl rfl⟩
theorem lX0_72 : XV RX0 72 mX5_get 2 := ⟨by decide +kernel, by decide +kernel, by decide +kernel, inT3 39 rfl rfl, inT1 2 rfl rfl, inT2 29 rfl rfl, inT2 27 rfl rfl, inT2 28 rfl rfl⟩
theorem lX0_60 : XT RX0 60 mJ9_max_7cf53 2 := ⟨by decide +kernel, by decide +kernel, by decide +kernel, inT3 40 rfl rfl, inT1 3 rfl rfl, inT1 28 rfl rfl, inT1 27 rfl rfl⟩
theorem lX0_68 : XV RX0 68 mX0_closeCell 1 := ⟨by decide +kernel, by decide +kernel, by decide +kernel, inT3 41 rfl rfl, inT1 7 rfl rfl, inT3 44 rfl rfl, inT3 43 rfl rfl, inT0 17 rfl rfl⟩
theorem lX0_93 : XT RX0 93 mX6_closeStart 1 := ⟨by decide +kernel, by decide +kernel, by decide +kernel, inT3 45 rfl rfl, inT1 10 rfl rfl, inT3 47 rfl rfl, inT3 46 rfl rfl⟩
theorem lX0_90 : XT RX0 90 mX6_cell 2 := ⟨by decide +kernel, by decide +kernel, by decide +kernel, inT3 48 rfl rfl, inT1 10 rfl rfl, inT3 50 rfl rfl, inT3 49 rfl rfl⟩
theorem lX0_49 : XV RX0 49 mX0_chooseForm 0 := ⟨by decide +kernel, by decide +kernel, by decide +kernel, inT3 53 rfl rfl, inT1 7 rfl rfl, inT3 56 rfl rfl, inT3 55 rfl rfl, inT0 18 rfl rfl⟩
theorem lX0_81 : XV RX0 81 mX0_firstPlaced 0 := ⟨by decide +kernel, by decide +kernel, by decide +kernel, inT3 57 rfl rfl, inT1 7 rfl rfl, inT3 60 rfl rfl, inT3 59 rfl rfl, inT0 19 rfl rfl⟩
theorem lX0_52 : XV RX0 52 mX0_singSyllable 2 := ⟨by decide +kernel, by decide +kernel, by decide +kernel, inT3 61 rfl rfl, inT1 7 rfl rfl, inT3 64 rfl rfl, inT3 63 rfl rfl, inT0 20 rfl rfl⟩
theorem lX0_84 : XV RX0 84 mX0_stepOf 1 := ⟨by decide +kernel, by decide +kernel, by decide +kernel, inT3 65 rfl rfl, inT1 7 rfl rfl, inT3 68 rfl rfl, inT3 67 rfl rfl, inT0 21 rfl rfl⟩
theorem lX0_87 : XV RX0 87 mX0_addStep 2 := ⟨by decide +kernel, by decide +kernel, by decide +kernel, inT3 69 rfl rfl, inT1 7 rfl rfl, inT3 72 rfl rfl, inT3 71 rfl rfl, inT0 22 rfl rfl⟩
theorem lX0_96 : XV RX0 96 mX5_add 1 := ⟨by decide +kernel, by decide +kernel, by decide +kernel, inT3 73 rfl rfl, inT1 2 rfl rfl, inT1 237 rfl rfl, inT1 235 rfl rfl, inT1 236 rfl rfl⟩
theorem lX0_99 : XV RX0 99 mX5_set 3 := ⟨by decide +kernel, by decide +kernel, by decide +kernel, inT3 74 rfl rfl, inT1 2 rfl rfl, inT2 53 rfl rfl, inT2 51 rfl rfl, inT2 52 rfl rfl⟩
theorem lL_74 : XV RL 74 mX8_sung 3 := ⟨by decide +kernel, by decide +kernel, by decide +kernel, inT3 75 rfl rfl, inT1 1 rfl rfl, inT3 78 rfl rfl, inT3 76 rfl rfl, inT3 77 rfl rfl⟩
theorem lX8_143 : XV RX8 143 mX5_get 2 := ⟨by decide +kernel, by decide +kernel, by decide +kernel, inT3 79 rfl rfl, inT1 2 rfl rfl, inT2 29 rfl rfl, inT2 27 rfl rfl, inT2 28 rfl rfl⟩
theorem lL_79 : XV RL 79 mX8_write 0 := ⟨by decide +kernel, by decide +kernel, by decide +kernel, inT3 80 rfl rfl, inT1 1 rfl rfl, inT3 83 rfl rfl, inT3 81 rfl rfl, inT3 82 rfl rfl⟩
theorem lX8_147 : XT RX8 147 mX7_writeScore 2 := ⟨by decide +kernel, by decide +kernel, by decide +kernel, inT3 84 rfl rfl, inT1 11 rfl rfl, inT3 86 rfl rfl, inT3 85 rfl rfl⟩
theorem lX7_7 : XV RX7 7 mX5_keep 1 := ⟨by decide +kernel, by decide +kernel, by decide +kernel, inT3 87 rfl rfl, inT1 2 rfl rfl, inT2 5 rfl rfl, inT2 3 rfl rfl, inT2 4 rfl rfl⟩
theorem lX7_19 : XV RX7 19 mX5_size 0 := ⟨by decide +kernel, by decide +kernel, by decide +kernel, inT3 88 rfl rfl, inT1 2 rfl rfl, inT1 229 rfl rfl, inT1 227 rfl rfl, inT1 228 rfl rfl⟩
theorem lX7_23 : XV RX7 23 mX5_get 2 := ⟨by decide +kernel, by decide +kernel, by decide +kernel, inT3 89 rfl rfl, inT1 2 rfl rfl, inT2 29 rfl rfl, inT2 27 rfl rfl, inT2 28 rfl rfl⟩
theorem lX7_27 : XV RX7 27 mX5_add 1 := ⟨by decide +kernel, by decide +kernel, by decide +kernel, inT3 90 rfl rfl, inT1 2 rfl rfl, inT1 237 rfl rfl, inT1 235 rfl rfl, inT1 236 rfl rfl⟩
theorem lX7_31 : XT RX7 31 mX7_writeLetters 3 := ⟨by decide +kernel, by decide +kernel, by decide +kernel, inT3 91 rfl rfl, inT1 11 rfl rfl, inT3 93 rfl rfl, inT3 92 rfl rfl⟩
theorem lX7_37 : XT RX7 37 mX7_writeSigns 3 := ⟨by decide +kernel, by decide +kernel, by decide +kernel, inT3 94 rfl rfl, inT1 11 rfl rfl, inT3 96 rfl rfl, inT3 95 rfl rfl⟩
theorem lX7_43 : XT RX7 43 mX7_writeSign 3 := ⟨by decide +kernel, by decide +kernel, by decide +kernel, inT3 97 rfl rfl, inT1 11 rfl rfl, inT3 99 rfl rfl, inT3 98 rfl rfl⟩
theorem lX7_56 : XT RX7 56 mX7_writeMarks 2 := ⟨by decide +kernel, by decide +kernel, by decide +kernel, inT3 100 rfl rfl, inT1 11 rfl rfl, inT3 102 rfl rfl, inT3 101 rfl rfl⟩
theorem lX7_63 : XT RX7 63 mX7_writeMark 3 := ⟨by decide +kernel, by decide +kernel, by decide +kernel, inT3 103 rfl rfl, inT1 11 rfl rfl, inT3 105 rfl rfl, inT3 104 rfl rfl⟩
theorem lX7_60 : XT RX7 60 mX7_writeBar 2 := ⟨by decide +kernel, by decide +kernel, by decide +kernel, inT3 106 rfl rfl, inT1 11 rfl rfl, inT3 108 rfl rfl, inT3 107 rfl rfl⟩
theorem lX7_46 : XT RX7 46 mX7_needsSlash 3 := ⟨by decide +kernel, by decide +kernel, by decide +kernel, inT3 109 rfl rfl, inT1 11 rfl rfl, inT3 111 rfl rfl, inT3 110 rfl rfl⟩
theorem lX7_67 : XT RX7 67 mX7_groupFollows 3 := ⟨by decide +kernel, by decide +kernel, by decide +kernel, inT3 112 rfl rfl, inT1 11 rfl rfl, inT3 114 rfl rfl, inT3 113 rfl rfl⟩
theorem lX7_70 : XV RX7 70 mX3_sameGroup 2 := ⟨by decide +kernel, by decide +kernel, by decide +kernel, inT3 115 rfl rfl, inT1 4 rfl rfl, inT2 129 rfl rfl, inT2 127 rfl rfl, inT2 128 rfl rfl⟩
theorem lL_83 : XV RL 83 mX8_at 1 := ⟨by decide +kernel, by decide +kernel, by decide +kernel, inT3 116 rfl rfl, inT1 1 rfl rfl, inT3 119 rfl rfl, inT3 117 rfl rfl, inT3 118 rfl rfl⟩
theorem lL_87 : XV RL 87 mX8_count 1 := ⟨by decide +kernel, by decide +kernel, by decide +kernel, inT3 120 rfl rfl, inT1 1 rfl rfl, inT3 123 rfl rfl, inT3 121 rfl rfl, inT3 122 rfl rfl⟩
theorem lX8_159 : XV RX8 159 mX3_syllablesWithoutNotes 0 := ⟨by decide +kernel, by decide +kernel, by decide +kernel, inT3 124 rfl rfl, inT1 4 rfl rfl, inT3 127 rfl rfl, inT3 125 rfl rfl, inT3 126 rfl rfl⟩
theorem lL_12 : XI RL 12 mX9_init 0 := ⟨by decide +kernel, by decide +kernel, by decide +kernel, inT3 130 rfl rfl, inT1 8 rfl rfl, inT3 132 rfl rfl, inT3 131 rfl rfl, rfl⟩
theorem oX9_1 : Cond.methodLink RX9 1 objectInit ∈ goodTB := inT3 133 rfl rfl
theorem lL_17 : XV RL 17 mX9_feed 5 := ⟨by decide +kernel, by decide +kernel, by decide +kernel, inT4 63 rfl rfl, inT1 8 rfl rfl, inT4 66 rfl rfl, inT4 64 rfl rfl, inT4 65 rfl rfl⟩
theorem lL_22 : XV RL 22 mX9_end 1 := ⟨by decide +kernel, by decide +kernel, by decide +kernel, inT4 67 rfl rfl, inT1 8 rfl rfl, inT4 70 rfl rfl, inT4 68 rfl rfl, inT4 69 rfl rfl⟩
theorem lX9_126 : XT RX9 126 mX9_in 3 := ⟨by decide +kernel, by decide +kernel, by decide +kernel, inT4 71 rfl rfl, inT1 8 rfl rfl, inT4 73 rfl rfl, inT4 72 rfl rfl⟩
theorem lL_27 : XV RL 27 mX9_read 0 := ⟨by decide +kernel, by decide +kernel, by decide +kernel, inT4 74 rfl rfl, inT1 8 rfl rfl, inT4 77 rfl rfl, inT4 75 rfl rfl, inT4 76 rfl rfl⟩
theorem lX9_207 : XV RX9 207 mX9_readText 0 := ⟨by decide +kernel, by decide +kernel, by decide +kernel, inT4 78 rfl rfl, inT1 8 rfl rfl, inT4 81 rfl rfl, inT4 80 rfl rfl, inT0 23 rfl rfl⟩
theorem lX9_176 : XV RX9 176 mX9_nothing 0 := ⟨by decide +kernel, by decide +kernel, by decide +kernel, inT4 82 rfl rfl, inT1 8 rfl rfl, inT4 85 rfl rfl, inT4 84 rfl rfl, inT0 24 rfl rfl⟩
theorem lX9_179 : XT RX9 179 mX9_isBlank 1 := ⟨by decide +kernel, by decide +kernel, by decide +kernel, inT4 86 rfl rfl, inT1 8 rfl rfl, inT4 88 rfl rfl, inT4 87 rfl rfl⟩
theorem lX9_183 : XT RX9 183 mX9_isLetter 1 := ⟨by decide +kernel, by decide +kernel, by decide +kernel, inT4 89 rfl rfl, inT1 8 rfl rfl, inT4 91 rfl rfl, inT4 90 rfl rfl⟩
theorem lX9_186 : XV RX9 186 mX9_beginSyllable 1 := ⟨by decide +kernel, by decide +kernel, by decide +kernel, inT4 92 rfl rfl, inT1 8 rfl rfl, inT4 95 rfl rfl, inT4 94 rfl rfl, inT0 25 rfl rfl⟩
theorem lX9_172 : XV RX9 172 mX9_wrong 2 := ⟨by decide +kernel, by decide +kernel, by decide +kernel, inT4 96 rfl rfl, inT1 8 rfl rfl, inT4 99 rfl rfl, inT4 98 rfl rfl, inT0 26 rfl rfl⟩
theorem lX9_190 : XV RX9 190 mX9_readSigns 0 := ⟨by decide +kernel, by decide +kernel, by decide +kernel, inT4 100 rfl rfl, inT1 8 rfl rfl, inT4 103 rfl rfl, inT4 102 rfl rfl, inT0 27 rfl rfl⟩
theorem lX9_193 : XV RX9 193 mX9_byteAt 1 := ⟨by decide +kernel, by decide +kernel, by decide +kernel, inT4 104 rfl rfl, inT1 8 rfl rfl, inT4 107 rfl rfl, inT4 106 rfl rfl, inT0 28 rfl rfl⟩
theorem lX9_197 : XV RX9 197 mX9_readHeight 3 := ⟨by decide +kernel, by decide +kernel, by decide +kernel, inT4 108 rfl rfl, inT1 8 rfl rfl, inT4 111 rfl rfl, inT4 110 rfl rfl, inT0 29 rfl rfl⟩
theorem lX9_201 : XV RX9 201 mX9_put 2 := ⟨by decide +kernel, by decide +kernel, by decide +kernel, inT4 112 rfl rfl, inT1 8 rfl rfl, inT4 115 rfl rfl, inT4 114 rfl rfl, inT0 30 rfl rfl⟩
theorem lX9_204 : XV RX9 204 mX9_markAt 1 := ⟨by decide +kernel, by decide +kernel, by decide +kernel, inT4 116 rfl rfl, inT1 8 rfl rfl, inT4 119 rfl rfl, inT4 118 rfl rfl, inT0 31 rfl rfl⟩
theorem lX9_210 : XV RX9 210 mX9_workOut 0 := ⟨by decide +kernel, by decide +kernel, by decide +kernel, inT4 120 rfl rfl, inT1 8 rfl rfl, inT4 123 rfl rfl, inT4 122 rfl rfl, inT0 32 rfl rfl⟩
theorem lX9_213 : XV RX9 213 mX9_unflat 0 := ⟨by decide +kernel, by decide +kernel, by decide +kernel, inT4 124 rfl rfl, inT1 8 rfl rfl, inT4 127 rfl rfl, inT4 126 rfl rfl, inT0 33 rfl rfl⟩
theorem lX9_216 : XT RX9 216 mX9_stepOf 2 := ⟨by decide +kernel, by decide +kernel, by decide +kernel, inT4 128 rfl rfl, inT1 8 rfl rfl, inT4 130 rfl rfl, inT4 129 rfl rfl⟩
theorem lX9_219 : XT RX9 219 mX9_mod 2 := ⟨by decide +kernel, by decide +kernel, by decide +kernel, inT4 131 rfl rfl, inT1 8 rfl rfl, inT4 133 rfl rfl, inT4 132 rfl rfl⟩
theorem lX9_119 : XT RX9 119 mX9_floor 2 := ⟨by decide +kernel, by decide +kernel, by decide +kernel, inT4 134 rfl rfl, inT1 8 rfl rfl, inT4 136 rfl rfl, inT4 135 rfl rfl⟩
theorem lX9_222 : XT RX9 222 mX9_guideBy 2 := ⟨by decide +kernel, by decide +kernel, by decide +kernel, inT4 137 rfl rfl, inT1 8 rfl rfl, inT4 139 rfl rfl, inT4 138 rfl rfl⟩
theorem lX9_225 : XV RX9 225 mX9_findNeumes 0 := ⟨by decide +kernel, by decide +kernel, by decide +kernel, inT4 140 rfl rfl, inT1 8 rfl rfl, inT4 143 rfl rfl, inT4 142 rfl rfl, inT0 34 rfl rfl⟩
theorem lX9_228 : XV RX9 228 mX9_wayOf 1 := ⟨by decide +kernel, by decide +kernel, by decide +kernel, inT4 144 rfl rfl, inT1 8 rfl rfl, inT4 147 rfl rfl, inT4 146 rfl rfl, inT0 35 rfl rfl⟩
theorem lL_31 : XV RL 31 mX9_place 0 := ⟨by decide +kernel, by decide +kernel, by decide +kernel, inT4 148 rfl rfl, inT1 8 rfl rfl, inT4 151 rfl rfl, inT4 149 rfl rfl, inT4 150 rfl rfl⟩
theorem lL_36 : XV RL 36 mX9_syllable 2 := ⟨by decide +kernel, by decide +kernel, by decide +kernel, inT4 152 rfl rfl, inT1 8 rfl rfl, inT4 155 rfl rfl, inT4 153 rfl rfl, inT4 154 rfl rfl⟩
theorem lX9_231 : XV RX9 231 mX9_notesOf 1 := ⟨by decide +kernel, by decide +kernel, by decide +kernel, inT4 156 rfl rfl, inT1 8 rfl rfl, inT4 159 rfl rfl, inT4 158 rfl rfl, inT0 36 rfl rfl⟩
theorem lX9_234 : XV RX9 234 mX9_firstOf 1 := ⟨by decide +kernel, by decide +kernel, by decide +kernel, inT4 160 rfl rfl, inT1 8 rfl rfl, inT4 163 rfl rfl, inT4 162 rfl rfl, inT0 37 rfl rfl⟩
theorem lL_40 : XV RL 40 mX9_note 2 := ⟨by decide +kernel, by decide +kernel, by decide +kernel, inT4 164 rfl rfl, inT1 8 rfl rfl, inT4 167 rfl rfl, inT4 165 rfl rfl, inT4 166 rfl rfl⟩
theorem lX9_237 : XV RX9 237 mX9_lengthOf 1 := ⟨by decide +kernel, by decide +kernel, by decide +kernel, inT4 168 rfl rfl, inT1 8 rfl rfl, inT4 171 rfl rfl, inT4 170 rfl rfl, inT0 38 rfl rfl⟩
theorem lL_44 : XV RL 44 mX9_neume 2 := ⟨by decide +kernel, by decide +kernel, by decide +kernel, inT4 172 rfl rfl, inT1 8 rfl rfl, inT4 175 rfl rfl, inT4 173 rfl rfl, inT4 174 rfl rfl⟩
theorem lL_48 : XV RL 48 mX9_bar 2 := ⟨by decide +kernel, by decide +kernel, by decide +kernel, inT4 176 rfl rfl, inT1 8 rfl rfl, inT4 179 rfl rfl, inT4 177 rfl rfl, inT4 178 rfl rfl⟩
theorem lL_52 : XV RL 52 mX9_guide 1 := ⟨by decide +kernel, by decide +kernel, by decide +kernel, inT4 180 rfl rfl, inT1 8 rfl rfl, inT4 183 rfl rfl, inT4 181 rfl rfl, inT4 182 rfl rfl⟩
theorem lL_56 : XV RL 56 mX9_mode 1 := ⟨by decide +kernel, by decide +kernel, by decide +kernel, inT4 184 rfl rfl, inT1 8 rfl rfl, inT4 187 rfl rfl, inT4 185 rfl rfl, inT4 186 rfl rfl⟩
theorem lL_60 : XV RL 60 mX9_tone 1 := ⟨by decide +kernel, by decide +kernel, by decide +kernel, inT4 188 rfl rfl, inT1 8 rfl rfl, inT4 191 rfl rfl, inT4 189 rfl rfl, inT4 190 rfl rfl⟩
theorem lL_65 : XV RL 65 mX9_point 2 := ⟨by decide +kernel, by decide +kernel, by decide +kernel, inT4 192 rfl rfl, inT1 8 rfl rfl, inT4 195 rfl rfl, inT4 193 rfl rfl, inT4 194 rfl rfl⟩
theorem lL_69 : XV RL 69 mX9_fresh 0 := ⟨by decide +kernel, by decide +kernel, by decide +kernel, inT4 196 rfl rfl, inT1 8 rfl rfl, inT4 199 rfl rfl, inT4 197 rfl rfl, inT4 198 rfl rfl⟩
theorem lL_73 : XV RL 73 mX9_half 2 := ⟨by decide +kernel, by decide +kernel, by decide +kernel, inT4 200 rfl rfl, inT1 8 rfl rfl, inT4 203 rfl rfl, inT4 201 rfl rfl, inT4 202 rfl rfl⟩
theorem lX9_262 : XV RX9 262 mX9_fit 1 := ⟨by decide +kernel, by decide +kernel, by decide +kernel, inT4 204 rfl rfl, inT1 8 rfl rfl, inT4 207 rfl rfl, inT4 206 rfl rfl, inT0 39 rfl rfl⟩
theorem lX9_253 : XV RX9 253 mX9_accentBefore 2 := ⟨by decide +kernel, by decide +kernel, by decide +kernel, inT4 208 rfl rfl, inT1 8 rfl rfl, inT4 211 rfl rfl, inT4 210 rfl rfl, inT0 40 rfl rfl⟩
theorem lX9_256 : XV RX9 256 mX9_close 2 := ⟨by decide +kernel, by decide +kernel, by decide +kernel, inT4 212 rfl rfl, inT1 8 rfl rfl, inT4 215 rfl rfl, inT4 214 rfl rfl, inT0 41 rfl rfl⟩
theorem lX9_259 : XV RX9 259 mX9_sing 2 := ⟨by decide +kernel, by decide +kernel, by decide +kernel, inT4 216 rfl rfl, inT1 8 rfl rfl, inT4 219 rfl rfl, inT4 218 rfl rfl, inT0 42 rfl rfl⟩
theorem lL_78 : XV RL 78 mX9_sung 3 := ⟨by decide +kernel, by decide +kernel, by decide +kernel, inT4 220 rfl rfl, inT1 8 rfl rfl, inT4 223 rfl rfl, inT4 221 rfl rfl, inT4 222 rfl rfl⟩
theorem lL_82 : XV RL 82 mX9_write 0 := ⟨by decide +kernel, by decide +kernel, by decide +kernel, inT4 224 rfl rfl, inT1 8 rfl rfl, inT4 227 rfl rfl, inT4 225 rfl rfl, inT4 226 rfl rfl⟩
theorem lX9_269 : XV RX9 269 mX9_tell 1 := ⟨by decide +kernel, by decide +kernel, by decide +kernel, inT4 228 rfl rfl, inT1 8 rfl rfl, inT4 231 rfl rfl, inT4 230 rfl rfl, inT0 43 rfl rfl⟩
theorem lX9_280 : XV RX9 280 mX9_tellSign 2 := ⟨by decide +kernel, by decide +kernel, by decide +kernel, inT4 232 rfl rfl, inT1 8 rfl rfl, inT4 235 rfl rfl, inT4 234 rfl rfl, inT0 44 rfl rfl⟩
theorem lX9_272 : XV RX9 272 mX9_tellIf 3 := ⟨by decide +kernel, by decide +kernel, by decide +kernel, inT4 236 rfl rfl, inT1 8 rfl rfl, inT4 239 rfl rfl, inT4 238 rfl rfl, inT0 45 rfl rfl⟩
theorem lX9_276 : XV RX9 276 mX9_isParted 2 := ⟨by decide +kernel, by decide +kernel, by decide +kernel, inT5 0 rfl rfl, inT1 8 rfl rfl, inT5 3 rfl rfl, inT5 2 rfl rfl, inT0 46 rfl rfl⟩
theorem lL_86 : XV RL 86 mX9_at 1 := ⟨by decide +kernel, by decide +kernel, by decide +kernel, inT5 4 rfl rfl, inT1 8 rfl rfl, inT5 7 rfl rfl, inT5 5 rfl rfl, inT5 6 rfl rfl⟩
theorem lL_90 : XV RL 90 mX9_count 1 := ⟨by decide +kernel, by decide +kernel, by decide +kernel, inT5 8 rfl rfl, inT1 8 rfl rfl, inT5 11 rfl rfl, inT5 9 rfl rfl, inT5 10 rfl rfl⟩
theorem nL_7 : XN RL 7 5 6 tyX8 := ⟨RX8, TX8, rfl, inX8, tyX8_ok, inT1 12 rfl rfl, inT1 13 rfl rfl, inT1 1 rfl rfl⟩
theorem nX8_7 : XN RX8 7 4 4 tyX5 := ⟨RX5, TX5, rfl, inX5, tyX5_ok, inT1 20 rfl rfl, inT1 21 rfl rfl, inT1 2 rfl rfl⟩
theorem nX8_21 : XN RX8 21 3 9 tyX3 := ⟨RX3, TX3, rfl, inX3, tyX3_ok, inT1 43 rfl rfl, inT1 44 rfl rfl, inT1 4 rfl rfl⟩
theorem nX3_11 : XN RX3 11 4 4 tyX5 := ⟨RX5, TX5, rfl, inX5, tyX5_ok, inT1 49 rfl rfl, inT1 21 rfl rfl, inT1 2 rfl rfl⟩
theorem nX8_28 : XN RX8 28 2 12 tyX2 := ⟨RX2, TX2, rfl, inX2, tyX2_ok, inT1 100 rfl rfl, inT1 101 rfl rfl, inT1 5 rfl rfl⟩
theorem nX2_15 : XN RX2 15 4 4 tyX5 := ⟨RX5, TX5, rfl, inX5, tyX5_ok, inT1 106 rfl rfl, inT1 21 rfl rfl, inT1 2 rfl rfl⟩
theorem nX8_37 : XN RX8 37 1 4 tyX1 := ⟨RX1, TX1, rfl, inX1, tyX1_ok, inT1 145 rfl rfl, inT1 146 rfl rfl, inT1 6 rfl rfl⟩
theorem nX1_9 : XN RX1 9 4 4 tyX5 := ⟨RX5, TX5, rfl, inX5, tyX5_ok, inT1 151 rfl rfl, inT1 21 rfl rfl, inT1 2 rfl rfl⟩
theorem nX1_23 : XN RX1 23 0 8 tyX0 := ⟨RX0, TX0, rfl, inX0, tyX0_ok, inT1 153 rfl rfl, inT1 154 rfl rfl, inT1 7 rfl rfl⟩
theorem nX0_9 : XN RX0 9 4 4 tyX5 := ⟨RX5, TX5, rfl, inX5, tyX5_ok, inT1 159 rfl rfl, inT1 21 rfl rfl, inT1 2 rfl rfl⟩
theorem nL_10 : XN RL 10 6 56 tyX9 := ⟨RX9, TX9, rfl, inX9, tyX9_ok, inT3 128 rfl rfl, inT3 129 rfl rfl, inT1 8 rfl rfl⟩
theorem nestX8_23 : XJ mX3_init := ⟨inT1 4 rfl rfl, inT1 47 rfl rfl, inT1 46 rfl rfl⟩
theorem nestX8_39 : XJ mX1_init := ⟨inT1 6 rfl rfl, inT1 149 rfl rfl, inT1 148 rfl rfl⟩
theorem oi_inst : Cond.instanceMethod objectInit ∈ goodTB := inT1 18 rfl rfl
theorem oi_code : Cond.code objectInit ⟨#[0xb1]⟩ 1 none ∈ goodTB := inT1 19 rfl rfl
theorem ac_int : Cond.arrayClass .int ∈ goodTB := inT1 42 rfl rfl
end
section
/-! the instructions of each method: pc, instruction, length, next pc -/
def DcAt (c : ByteArray) (pc : Nat) (i : Instr) (n nx : Nat) : Prop := decode c pc = .ok (i, n) ∧ pc + n = nx
abbrev DL : Type := List (Nat × Instr × Nat × Nat)
def decOK (c : ByteArray) (L : DL) : Bool := L.all (fun q => decide (decode c q.1 = .ok (q.2.1, q.2.2.1)) && decide (q.1 + q.2.2.1 = q.2.2.2))
theorem dec_of {c : ByteArray} {L : DL} (h : decOK c L = true) (k : Nat) {pc : Nat} {i : Instr} {n nx : Nat} (hk : L[k]? = some (pc, i, n, nx)) : DcAt c pc i n nx := by
  have h1 := List.all_eq_true.mp h _ (List.mem_of_getElem? hk)
  simp only [Bool.and_eq_true, decide_eq_true_eq] at h1
  exact h1
/-! THE VD LAYER. A world is a list of cells: an int array (length, contents) or an object (class number, fields); a reference is the PLACE of a cell in that list (from SB on: the arrays that nobody writes). 'ad' gives the address of a place. Vd: from this pc, these locals, this stack, this world, the method comes to its end with Z (world, answer). Sp: a method's contract in these words. -/
abbrev XE : Type := (Nat × (Nat → Int32)) ⊕ (Nat × List Value)
abbrev XW : Type := List XE
def SB : Nat := 1000000
def xv (ad : Nat → Nat) (v : Value) : Value := match v with
  | .ref k => .ref (ad k)
  | v => v
def xe (cI : ClassId) (ad : Nat → Nat) (e : XE) : va_E := match e with
  | .inl a => .inl (cI, a.1, .inl a.2)
  | .inr o => .inr (o.1, o.2.map (xv ad))
def xw (cI : ClassId) (ad : Nat → Nat) (w : XW) : va_W := w.mapIdx (fun k e => (ad k, xe cI ad e))
theorem xw_len {cI : ClassId} {ad : Nat → Nat} {w : XW} : (xw cI ad w).length = w.length := by simp [xw]
theorem xw_at {cI : ClassId} {ad : Nat → Nat} {w : XW} {k : Nat} {e : XE} (h : w[k]? = some e) : (xw cI ad w)[k]? = some (ad k, xe cI ad e) := by
  simp [xw, List.getElem?_mapIdx, h]
theorem xw_set {cI : ClassId} {ad : Nat → Nat} {w : XW} {k : Nat} {e : XE} : xw cI ad (w.set k e) = (xw cI ad w).set k (ad k, xe cI ad e) := by
  apply List.ext_getElem?
  intro j
  simp only [xw, List.getElem?_mapIdx, List.getElem?_set, List.length_mapIdx]
  by_cases h : k = j
  · subst h
    by_cases h2 : k < w.length <;> simp [h2]
  · simp [h]
def rk (n : Nat) (v : Value) : Bool := match v with
  | .ref k => decide (k < n) || decide (SB ≤ k)
  | _ => true
def xok (n : Nat) (w : XW) : Bool := w.all (fun e => match e with
  | .inl _ => true
  | .inr o => o.2.all (rk n))
def ag (n : Nat) (ad ad' : Nat → Nat) : Prop := ∀ k : Nat, (k < n ∨ SB ≤ k) → ad' k = ad k
theorem ag.rf {n : Nat} {ad : Nat → Nat} : ag n ad ad := fun _ _ => rfl
theorem ag.tr {n n' : Nat} {a b c : Nat → Nat} (h : ag n a b) (h2 : ag n' b c) (hn : n ≤ n') : ag n a c := fun k hk => (h2 k (hk.imp (fun q => Nat.lt_of_lt_of_le q hn) id)).trans (h k hk)
theorem xv_cat {ad : Nat → Nat} {v : Value} : (xv ad v).category = v.category := by cases v <;> rfl
theorem xv_ag {n : Nat} {ad ad' : Nat → Nat} (h : ag n ad ad') {v : Value} (hv : rk n v = true) : xv ad' v = xv ad v := by
  cases v with
  | ref k =>
    have : k < n ∨ SB ≤ k := by simpa [rk] using hv
    show Value.ref (ad' k) = Value.ref (ad k)
    rw [h k this]
  | _ => rfl
theorem xvs_ag {n : Nat} {ad ad' : Nat → Nat} (h : ag n ad ad') {vs : List Value} (hv : vs.all (rk n) = true) : vs.map (xv ad') = vs.map (xv ad) :=
  List.map_congr_left fun v hm => xv_ag h (List.all_eq_true.mp hv v hm)
theorem xe_ag {n : Nat} {cI : ClassId} {ad ad' : Nat → Nat} (h : ag n ad ad') {w : XW} (hv : xok n w = true) {e : XE} (he : e ∈ w) : xe cI ad' e = xe cI ad e := by
  have h1 := List.all_eq_true.mp hv e he
  cases e with
  | inl a => rfl
  | inr o =>
    show Sum.inr (o.1, o.2.map (xv ad')) = Sum.inr (o.1, o.2.map (xv ad))
    rw [xvs_ag h h1]
theorem xw_ag {n : Nat} {cI : ClassId} {ad ad' : Nat → Nat} (h : ag n ad ad') {w : XW} (hn : w.length ≤ n) (hv : xok n w = true) : xw cI ad' w = xw cI ad w := by
  apply List.ext_getElem?
  intro j
  simp only [xw, List.getElem?_mapIdx]
  cases hj : w[j]? with
  | none => rfl
  | some e =>
    have hl := (List.getElem?_eq_some_iff.mp hj).1
    simp only [Option.map_some]
    rw [h j (Or.inl (Nat.lt_of_lt_of_le hl hn)), xe_ag h hv (List.mem_of_getElem? hj)]
theorem xw_push {cI : ClassId} {ad : Nat → Nat} {w : XW} {e : XE} : xw cI ad (w ++ [e]) = xw cI ad w ++ [(ad w.length, xe cI ad e)] := by
  simp [xw, List.mapIdx_append]
/-! what is the same at every state: statics, two links of private constructors -/
def XNest (U : State) : Prop := va_Nw (.methodLinkNest RX8 23 yX3_init RX8) U ∧ va_Nw (.methodLinkNest RX8 39 yX1_init RX8) U
def ST : List (String × String) := [("ChantNeumes$Reader", "SCALE"), ("ChantNeumes$Shaper", "WAYS"), ("ChantNeumes$Score", "TENORS"), ("ChantNeumes$Tones", "CELLS")]
def tScale : List Int32 := [0, 2, 4, 5, 7, 9, 11]
def tWays : List Int32 := [1, 2, 3, 11, 22, 12, 21, 33, 121, 212, 112, 221, 122, 1122, 2211]
def tTenors : List Int32 := [4, 2, 5, 3, 4, 2, 4, 3]
def tCells : List Int32 := [-2, -1, 0, 0, 0, 2, 1, 0, -1, -1, 0, 2, -1, -2, 1, 0, 0, -1, -1, -3,
  -2, 0, 0, 0, 0, 1, 0, 0, 1, 0, 0, 1, -1, 0, 1, 0, 0, -2, -2, -2,
  -4, -1, 0, 0, 0, 2, 1, 0, -1, -1, 0, 1, 0, 0, 1, 0, 0, -2, -2, -1,
  -1, -2, 2, -1, 0, 1, 0, 0, 1, 0, 0, 0, 0, 0, 2, -1, 0, 1, -1, -2,
  -4, -2, 0, 0, 0, 1, 0, 0, 1, 0, 0, 0, 0, 0, 2, 1, 1, -1, -1, -2,
  -2, -1, 0, 0, 0, 2, 1, 0, -1, -1, 0, 2, -2, -1, 1, 0, 0, -1, -1, -2,
  -1, -2, 0, 0, 0, 2, 2, 1, -1, -1, 0, 0, 0, 0, 2, 1, 0, -1, -1, -2,
  -3, -2, 0, 0, 0, 1, 0, 0, 1, 0, 0, 2, 0, -1, 1, 0, 0, 1, 1, -3]
def tF (l : List Int32) : Nat → Int32 := fun i => l.getD i 0
def RO0 : List (Nat × (Nat → Int32)) := [(7, tF tScale), (15, tF tWays), (8, tF tTenors), (160, tF tCells)]
def XS (ex : List (Nat × (Nat → Int32))) (ro : Nat → Nat) (A : Nat → Prop) (U : State) (H : Heap) : Prop :=
  (∀ (j : Nat) (q : String × String), ST[j]? = some q → va_Z q.1 q.2 "[I" (.ref (ro j)) A U H) ∧ (∀ (j : Nat) (q : Nat × (Nat → Int32)), (RO0 ++ ex)[j]? = some q → va_T .int (ro j) q.1 (fun i => .int (q.2 i)) A U H) ∧ XNest U
theorem XS.to {ex : List (Nat × (Nat → Int32))} {ro : Nat → Nat} {A B : Nat → Prop} {s U : State} {H : Heap} {locs : List Loc} (h : XS ex ro A s s.heap) (hS : va_S A s.heap H locs) (hU : U.heap = H) (hW : s.WarmedH U.vm) (hB : ∀ q, B q → A q) : XS [] ro B U U.heap := by
  obtain ⟨h1, h2, h3, h4⟩ := h
  refine ⟨fun j q hj => ?_, fun j q hj => ?_, va_Nw.warmM hW h3, va_Nw.warmM hW h4⟩
  · rw [hU]
    exact ((h1 j q hj).kept hS.2.1).moved hW.alike |>.narrow hB
  · rw [hU]
    have hj' : (RO0 ++ ex)[j]? = some q := by
      rw [List.append_nil] at hj
      rw [List.getElem?_append_left (List.getElem?_eq_some_iff.mp hj).1]
      exact hj
    exact ((h2 j q hj').kept hS.2.1).moved hW.alike |>.narrow hB
/-! contracts -/
def xws (M : MI) : List Cond := .code M.1 M.2.1 M.2.2.1 M.2.2.2 :: goodTB
abbrev rm (fr lo ca sl : Nat) : Room := { frames := fr, cells := ca, slots := sl, locals := lo }
def XPre (cI : ClassId) (D : va_G) (ad : Nat → Nat) (sz : Nat) (w : XW) (U : State) : Prop := U.heap.size = sz ∧ va_P D vwCl (xw cI ad w) U.heap ∧ va_K D vwCl [(cI, .int)] U ∧ va_D (fun _ => True) (xw cI ad w) ∧ XS [] (fun j => ad (SB + j)) (va_A (xw cI ad w) sz) U U.heap ∧ w.length ≤ SB
def XPost (cI : ClassId) (D : va_G) (ad : Nat → Nat) (A : Nat → Prop) (n : Nat) (Z : XW → Option Value → Prop) (st : State) (oc : Outcome) (t : State) : Prop := ∃ (w' : XW) (r : Option Value) (ad' : Nat → Nat), Z w' r ∧ oc = .returned (r.map (xv ad')) ∧ ag n ad ad' ∧ n ≤ w'.length ∧ w'.length ≤ SB ∧ va_P D vwCl (xw cI ad' w') t.heap ∧ va_D A (xw cI ad' w') ∧ va_F A st t
def Sp (R : Room) (M : MI) (av : List Value) (w : XW) (Z : XW → Option Value → Prop) : Prop :=
  ∀ (l : Launch) (D : va_G) (cI : ClassId) (ad : Nat → Nat) (sz : Nat), Met l M.1 (xws M) R (va_Pc (av.map (xv ad)) (XPre cI D ad sz w)) (fun _ st oc t => XPost cI D ad (va_A (xw cI ad w) sz) w.length Z st oc t) R.cells R.slots (va_A (xw cI ad w) sz)
/-- the answer and the world behind it, told exactly -/
def Sd (R : Room) (M : MI) (av : List Value) (w w' : XW) (r : Option Value) : Prop := Sp R M av w (fun x y => x = w' ∧ y = r)
theorem Met.wk {l : Launch} {y : MethodName} {ws : List Cond} {R : Room} {Pc : Array Value → State → Prop} {Q1 Q2 : Array Value → State → Outcome → State → Prop} {mc ms : Nat} {free : Addr → Prop} (h : Met l y ws R Pc Q1 mc ms free) (hq : ∀ a s o t, Q1 a s o t → Q2 a s o t) : Met l y ws R Pc Q2 mc ms free := by
  intro p e h1 h2 h3 s m args below h4 h5 h6 h7
  obtain ⟨n, o, g1, g2, g3, g4, g5⟩ := h p e h1 h2 h3 s m args below h4 h5 h6 h7
  exact ⟨n, o, g1, g2, g3, hq _ _ _ _ g4, g5⟩
theorem Sp.wk {R : Room} {M : MI} {av : List Value} {w : XW} {Z Z2 : XW → Option Value → Prop} (h : Sp R M av w Z) (hz : ∀ x y, Z x y → Z2 x y) : Sp R M av w Z2 := by
  intro l D cI ad sz
  refine (h l D cI ad sz).wk (fun a s o t q => ?_)
  obtain ⟨w', r, ad', q1, q2⟩ := q
  exact ⟨w', r, ad', hz _ _ q1, q2⟩
/-! inside a method -/
def XC (ex : List (Nat × (Nat → Int32))) (M : MI) (p : Program) (s : State) (m : MethodId) (args : Array Value) (meth : Method) (c : Code) (D : va_G) (cI : ClassId) (ad0 : Nat → Nat) (A : Nat → Prop) : Prop :=
  p.tables.exec = Jvm.exec ∧ c.code = M.2.1 ∧ c.maxLocals = M.2.2.1 ∧ meth.sig.returnType = M.2.2.2 ∧ meth.locks = false ∧ s.vm.findClass M.1.cls = some m.cls ∧ (∀ w ∈ goodTB, w.before args s = true) ∧ meth.name = M.1.name ∧ va_K D vwCl [(cI, .int)] s ∧ (∀ q, s.heap.size ≤ q → A q) ∧ XS ex (fun j => ad0 (SB + j)) A s s.heap
def XRep (cI : ClassId) (D : va_G) (ad0 ad : Nat → Nat) (A : Nat → Prop) (n0 : Nat) (s : State) (w : XW) (H : Heap) (locs : List Loc) : Prop :=
  ag n0 ad0 ad ∧ n0 ≤ w.length ∧ w.length ≤ SB ∧ va_P D vwCl (xw cI ad w) H ∧ va_D A (xw cI ad w) ∧ va_S A s.heap H locs
def XL (lsA : Array Slot) (nL : Nat) (ad : Nat → Nat) (ls : List (Option Value)) : Prop := lsA.size = nL ∧ lv_wf lsA ∧ ∀ (k : Nat) (v : Value), ls[k]? = some (some v) → lsA[k]? = some (.val (xv ad v)) ∧ v.category = 1
def XEnd (R : Room) (M : MI) (n0 : Nat) (Z : XW → Option Value → Prop) (p : Program) (l : Launch) (e : Env) (s : State) (m : MethodId) (args : Array Value) (below : List Frame) (meth : Method) (c : Code) (D : va_G) (cI : ClassId) (ad0 : Nat → Nat) (A : Nat → Prop) (Qs : State → Prop) : Prop :=
  ∀ (w : XW) (ad : Nat → Nat) (H : Heap) (locs : List Loc) (lsA : Array Slot) (pc : Nat), XRep cI D ad0 ad A n0 s w H locs →
    (∀ x : Int32, decode M.2.1 pc = .ok (.ireturn, 1) → (M.2.2.2 = some .int ∨ (M.2.2.2 = some .boolean ∧ (x = 0 ∨ x = 1))) → Z w (some (.int x)) → W p l e R s m args below meth c H locs R.cells R.slots Qs (F0 m pc lsA [.int x])) ∧
    (∀ k : Nat, decode M.2.1 pc = .ok (.areturn, 1) → (∃ C, M.2.2.2 = some (.object C)) → Z w (some (.ref k)) → W p l e R s m args below meth c H locs R.cells R.slots Qs (F0 m pc lsA [.ref (ad k)])) ∧
    (decode M.2.1 pc = .ok (.return_, 1) → M.2.2.2 = none → Z w none → W p l e R s m args below meth c H locs R.cells R.slots Qs (F0 m pc lsA []))
def Vd (R : Room) (ex : List (Nat × (Nat → Int32))) (M : MI) (n0 : Nat) (Z : XW → Option Value → Prop) (ca sl pc : Nat) (ls : List (Option Value)) (st : List Value) (w : XW) : Prop :=
  ∀ (p : Program) (l : Launch) (e : Env) (s : State) (m : MethodId) (args : Array Value) (below : List Frame) (meth : Method) (c : Code) (D : va_G) (cI : ClassId) (ad0 : Nat → Nat) (A : Nat → Prop) (Qs : State → Prop),
    XC ex M p s m args meth c D cI ad0 A → XEnd R M n0 Z p l e s m args below meth c D cI ad0 A Qs →
    ∀ (ad : Nat → Nat) (H : Heap) (locs : List Loc) (lsA : Array Slot), XRep cI D ad0 ad A n0 s w H locs → XL lsA M.2.2.1 ad ls →
      W p l e R s m args below meth c H locs ca sl Qs (F0 m pc lsA (st.map (xv ad)))
def en (n : Nat) (av : List Value) : List (Option Value) := av.map some ++ List.replicate (n - av.length) none
theorem lv_args_cat {vs : List Value} (h : ∀ v ∈ vs, v.category = 1) : ∀ (i k : Nat) (v : Value), vs[k]? = some v → (i + k, v) ∈ lv_args i vs := by
  induction vs with
  | nil => intro i k v hk; simp at hk
  | cons a t ih =>
    intro i k v hk
    have ha : a.category = 1 := h a List.mem_cons_self
    cases k with
    | zero =>
      simp only [List.getElem?_cons_zero, Option.some.injEq] at hk
      subst hk
      exact List.mem_cons_self
    | succ k =>
      simp only [List.getElem?_cons_succ] at hk
      have := ih (fun v hv => h v (List.mem_cons_of_mem _ hv)) (i + 1) k v hk
      refine List.mem_cons_of_mem _ ?_
      have hif : (if a.category = 2 then i + 2 else i + 1) = i + 1 := by simp [ha]
      rw [hif, show i + (k + 1) = i + 1 + k by omega]
      exact this
theorem lg_sl_len {vs : List Value} (h : ∀ v ∈ vs, v.category = 1) : (lg_sl vs).length = vs.length := by
  induction vs with
  | nil => rfl
  | cons a t ih =>
    have ha : a.category = 1 := h a List.mem_cons_self
    have := ih (fun v hv => h v (List.mem_cons_of_mem _ hv))
    cases a <;> simp_all [lg_sl, Value.category, List.flatMap_cons]
set_option maxHeartbeats 4000000 in
/-- a contract out of a walk from pc 0 -/
theorem sp_of {R : Room} {M : MI} {av : List Value} {w : XW} {Z : XW → Option Value → Prop} {ls : List (Option Value)} (hy : plainName M.1.cls = true) (hl : av.length ≤ M.2.2.1) (hc : av.all (fun v => decide (v.category = 1)) = true) (hls : ls = en M.2.2.1 av) (k : Vd R [] M w.length Z 0 0 0 ls [] w) : Sp R M av w Z := by
  intro l D cI ad sz
  refine Met.ofW (cc := M.2.1) (maxL := M.2.2.1) (ret := M.2.2.2) hy rfl ?_
  intro p e s m args below meth c s₁ B hml hv
  obtain ⟨rfl, hsz, hP, hK, hD0, hX, hlen⟩ := hv
  have hts := atoms_spec (ws := xws M) B.pre
  have hown : s.vm.findClass M.1.cls = some m.cls := findClass_of_methodNamed B.named
  have hin : meth.name = M.1.name := (name_of_methodNamed B.named B.method).1
  subst hsz
  have hD := hD0.self (sz := s.heap.size)
  have hA : ∀ q : Nat, s.heap.size ≤ q → va_A (xw cI ad w) s.heap.size q := fun q h => Or.inr h
  have hcat : ∀ v ∈ av, v.category = 1 := fun v hv => by simpa using List.all_eq_true.mp hc v hv
  have hcat' : ∀ v ∈ av.map (xv ad), v.category = 1 := by
    intro v hv
    obtain ⟨u, hu, rfl⟩ := List.mem_map.mp hv
    rw [xv_cat]; exact hcat u hu
  have hL := lv_entry (av.map (xv ad)) (n := M.2.2.1) (by rw [lg_sl_len hcat', List.length_map]; exact hl)
  rw [lg_entry_eq]
  refine k p l e s m _ below meth c D cI ad (va_A (xw cI ad w) s.heap.size) _ ⟨B.exec, B.bytes, hml, B.returns, B.notSynchronized, hown, fun w hw => hts w (List.mem_cons_of_mem _ hw), hin, hK, hA, hX⟩ ?_ ad s.heap [] _ ⟨ag.rf, Nat.le_refl _, hlen, hP, hD, va_S.rf⟩ ⟨hL.1, hL.2.1, ?_⟩
  · intro w' ad' H locs lsA pc hR
    obtain ⟨r1, r2, r3, r4, r5, r6⟩ := hR
    have fin : ∀ (r : Option Value), Z w' r → ∀ t : State, t.heap = H → s.WarmedH t.vm → XPost cI D ad (va_A (xw cI ad w) s.heap.size) w.length Z s (.returned (r.map (xv ad'))) t := fun r hz t ht hW => ⟨w', r, ad', hz, rfl, r1, r2, r3, by rw [ht]; exact r4, r5, r6.F ht⟩
    refine ⟨fun x hd hret hz => ?_, fun q hd hret hz => ?_, fun hd hret hz => ?_⟩
    · rcases hret with hret | ⟨hret, hx⟩
      · exact W.zret (ty := .int) B.exec B.bytes (B.returns.trans hret) rfl (fun t ht hW => fin (some (.int x)) hz t ht hW) r6.2.2 hd
      · exact W.zret (ty := .boolean) B.exec B.bytes (B.returns.trans hret) (by rcases hx with rfl | rfl <;> decide) (fun t ht hW => fin (some (.int x)) hz t ht hW) r6.2.2 hd
    · obtain ⟨C, hC⟩ := hret
      exact W.aret B.exec B.bytes (B.returns.trans hC) (Or.inl ⟨C, rfl⟩) (Or.inr ⟨_, rfl⟩) (fun t ht hW => fin (some (.ref q)) hz t ht hW) r6.2.2 hd
    · exact W.vret B.exec B.bytes (B.returns.trans hret) (fun t ht hW => fin none hz t ht hW) r6.2.2 hd
  · intro j v hj
    rw [hls] at hj
    have hjl : j < av.length ∧ av[j]? = some v := by
      unfold en at hj
      by_cases h : j < av.length
      · rw [List.getElem?_append_left (by simpa using h), List.getElem?_map] at hj
        refine ⟨h, ?_⟩
        cases hv : av[j]? with
        | none => rw [hv] at hj; simp at hj
        | some u => rw [hv] at hj; simp at hj; rw [hj]
      · rw [List.getElem?_append_right (by simpa using h)] at hj
        have := List.mem_of_getElem? hj
        simp at this
    refine ⟨hL.2.2 (j, xv ad v) ?_, hcat v (List.mem_of_getElem? hjl.2)⟩
    have := lv_args_cat hcat' 0 j (xv ad v) (by rw [List.getElem?_map, hjl.2]; rfl)
    simpa using this
end
section
/-! rules of the Vd layer: an instruction, a rule (printed by wip/tools/gen_rules.py) -/
section VdRules
variable {R : Room} {ex : List (Nat × (Nat → Int32))} {M : MI} {n0 : Nat} {Z : XW → Option Value → Prop} {ca sl pc pc' : Nat} {ls : List (Option Value)} {st : List Value} {w : XW}

theorem v_iconst {n : Int} {v : Int32} (hd : DcAt M.2.1 pc (.iconst n) 1 pc') (hv : Int32.ofInt n = v) (k : Vd R ex M n0 Z ca sl pc' ls (.int v :: st) w) : Vd R ex M n0 Z ca sl pc ls (st) w := by
  intro p l e s m args below meth c D cI ad0 A Qs C E ad H locs lsA hR hL
  obtain ⟨hd, rfl⟩ := hd
  exact lv_iconst C.1 C.2.1 hd hv (k p l e s m args below meth c D cI ad0 A Qs C E ad H locs lsA hR hL)

theorem v_bipush {n : Int} {v : Int32} (hd : DcAt M.2.1 pc (.bipush n) 2 pc') (hv : (Int8.ofInt n).toInt32 = v) (k : Vd R ex M n0 Z ca sl pc' ls (.int v :: st) w) : Vd R ex M n0 Z ca sl pc ls (st) w := by
  intro p l e s m args below meth c D cI ad0 A Qs C E ad H locs lsA hR hL
  obtain ⟨hd, rfl⟩ := hd
  exact lv_bipush C.1 C.2.1 hd hv (k p l e s m args below meth c D cI ad0 A Qs C E ad H locs lsA hR hL)

theorem v_sipush {n : Int} {v : Int32} (hd : DcAt M.2.1 pc (.sipush n) 3 pc') (hv : (Int16.ofInt n).toInt32 = v) (k : Vd R ex M n0 Z ca sl pc' ls (.int v :: st) w) : Vd R ex M n0 Z ca sl pc ls (st) w := by
  intro p l e s m args below meth c D cI ad0 A Qs C E ad H locs lsA hR hL
  obtain ⟨hd, rfl⟩ := hd
  exact lv_sipush C.1 C.2.1 hd hv (k p l e s m args below meth c D cI ad0 A Qs C E ad H locs lsA hR hL)

theorem v_iload_n {i : Fin 4} {x : Int32} (hd : DcAt M.2.1 pc (.iload_n i) 1 pc') (hl : ls[(i : Nat)]? = some (some (.int x))) (k : Vd R ex M n0 Z ca sl pc' ls (.int x :: st) w) : Vd R ex M n0 Z ca sl pc ls (st) w := by
  intro p l e s m args below meth c D cI ad0 A Qs C E ad H locs lsA hR hL
  obtain ⟨hd, rfl⟩ := hd
  exact lv_iload_n C.1 C.2.1 hd rfl (hL.2.2 _ _ hl).1 (k p l e s m args below meth c D cI ad0 A Qs C E ad H locs lsA hR hL)

theorem v_iload {i : Nat} {x : Int32} (hd : DcAt M.2.1 pc (.iload i) 2 pc') (hl : ls[i]? = some (some (.int x))) (k : Vd R ex M n0 Z ca sl pc' ls (.int x :: st) w) : Vd R ex M n0 Z ca sl pc ls (st) w := by
  intro p l e s m args below meth c D cI ad0 A Qs C E ad H locs lsA hR hL
  obtain ⟨hd, rfl⟩ := hd
  exact lv_iload C.1 C.2.1 hd (hL.2.2 _ _ hl).1 (k p l e s m args below meth c D cI ad0 A Qs C E ad H locs lsA hR hL)

theorem v_aload_n {i : Fin 4} {x : Nat} (hd : DcAt M.2.1 pc (.aload_n i) 1 pc') (hl : ls[(i : Nat)]? = some (some (.ref x))) (k : Vd R ex M n0 Z ca sl pc' ls (.ref x :: st) w) : Vd R ex M n0 Z ca sl pc ls (st) w := by
  intro p l e s m args below meth c D cI ad0 A Qs C E ad H locs lsA hR hL
  obtain ⟨hd, rfl⟩ := hd
  exact lv_aload_n C.1 C.2.1 hd rfl (hL.2.2 _ _ hl).1 (k p l e s m args below meth c D cI ad0 A Qs C E ad H locs lsA hR hL)

theorem v_aload {i : Nat} {x : Nat} (hd : DcAt M.2.1 pc (.aload i) 2 pc') (hl : ls[i]? = some (some (.ref x))) (k : Vd R ex M n0 Z ca sl pc' ls (.ref x :: st) w) : Vd R ex M n0 Z ca sl pc ls (st) w := by
  intro p l e s m args below meth c D cI ad0 A Qs C E ad H locs lsA hR hL
  obtain ⟨hd, rfl⟩ := hd
  exact lv_aload C.1 C.2.1 hd (hL.2.2 _ _ hl).1 (k p l e s m args below meth c D cI ad0 A Qs C E ad H locs lsA hR hL)

theorem v_iadd {x y : Int32} (hd : DcAt M.2.1 pc (.iadd) 1 pc') (k : Vd R ex M n0 Z ca sl pc' ls (.int (x + y) :: st) w) : Vd R ex M n0 Z ca sl pc ls (.int y :: .int x :: st) w := by
  intro p l e s m args below meth c D cI ad0 A Qs C E ad H locs lsA hR hL
  obtain ⟨hd, rfl⟩ := hd
  exact lv_iadd C.1 C.2.1 hd (k p l e s m args below meth c D cI ad0 A Qs C E ad H locs lsA hR hL)

theorem v_isub {x y : Int32} (hd : DcAt M.2.1 pc (.isub) 1 pc') (k : Vd R ex M n0 Z ca sl pc' ls (.int (x - y) :: st) w) : Vd R ex M n0 Z ca sl pc ls (.int y :: .int x :: st) w := by
  intro p l e s m args below meth c D cI ad0 A Qs C E ad H locs lsA hR hL
  obtain ⟨hd, rfl⟩ := hd
  exact lv_isub C.1 C.2.1 hd (k p l e s m args below meth c D cI ad0 A Qs C E ad H locs lsA hR hL)

theorem v_imul {x y : Int32} (hd : DcAt M.2.1 pc (.imul) 1 pc') (k : Vd R ex M n0 Z ca sl pc' ls (.int (x * y) :: st) w) : Vd R ex M n0 Z ca sl pc ls (.int y :: .int x :: st) w := by
  intro p l e s m args below meth c D cI ad0 A Qs C E ad H locs lsA hR hL
  obtain ⟨hd, rfl⟩ := hd
  exact lv_imul C.1 C.2.1 hd (k p l e s m args below meth c D cI ad0 A Qs C E ad H locs lsA hR hL)

theorem v_iand {x y : Int32} (hd : DcAt M.2.1 pc (.iand) 1 pc') (k : Vd R ex M n0 Z ca sl pc' ls (.int (x &&& y) :: st) w) : Vd R ex M n0 Z ca sl pc ls (.int y :: .int x :: st) w := by
  intro p l e s m args below meth c D cI ad0 A Qs C E ad H locs lsA hR hL
  obtain ⟨hd, rfl⟩ := hd
  exact lv_iand C.1 C.2.1 hd (k p l e s m args below meth c D cI ad0 A Qs C E ad H locs lsA hR hL)

theorem v_ior {x y : Int32} (hd : DcAt M.2.1 pc (.ior) 1 pc') (k : Vd R ex M n0 Z ca sl pc' ls (.int (x ||| y) :: st) w) : Vd R ex M n0 Z ca sl pc ls (.int y :: .int x :: st) w := by
  intro p l e s m args below meth c D cI ad0 A Qs C E ad H locs lsA hR hL
  obtain ⟨hd, rfl⟩ := hd
  exact lv_ior C.1 C.2.1 hd (k p l e s m args below meth c D cI ad0 A Qs C E ad H locs lsA hR hL)

theorem v_ixor {x y : Int32} (hd : DcAt M.2.1 pc (.ixor) 1 pc') (k : Vd R ex M n0 Z ca sl pc' ls (.int (x ^^^ y) :: st) w) : Vd R ex M n0 Z ca sl pc ls (.int y :: .int x :: st) w := by
  intro p l e s m args below meth c D cI ad0 A Qs C E ad H locs lsA hR hL
  obtain ⟨hd, rfl⟩ := hd
  exact lv_ixor C.1 C.2.1 hd (k p l e s m args below meth c D cI ad0 A Qs C E ad H locs lsA hR hL)

theorem v_ishl {x y : Int32} (hd : DcAt M.2.1 pc (.ishl) 1 pc') (k : Vd R ex M n0 Z ca sl pc' ls (.int (x <<< (y &&& 31)) :: st) w) : Vd R ex M n0 Z ca sl pc ls (.int y :: .int x :: st) w := by
  intro p l e s m args below meth c D cI ad0 A Qs C E ad H locs lsA hR hL
  obtain ⟨hd, rfl⟩ := hd
  exact lv_ishl C.1 C.2.1 hd (k p l e s m args below meth c D cI ad0 A Qs C E ad H locs lsA hR hL)

theorem v_ishr {x y : Int32} (hd : DcAt M.2.1 pc (.ishr) 1 pc') (k : Vd R ex M n0 Z ca sl pc' ls (.int (x >>> (y &&& 31)) :: st) w) : Vd R ex M n0 Z ca sl pc ls (.int y :: .int x :: st) w := by
  intro p l e s m args below meth c D cI ad0 A Qs C E ad H locs lsA hR hL
  obtain ⟨hd, rfl⟩ := hd
  exact lv_ishr C.1 C.2.1 hd (k p l e s m args below meth c D cI ad0 A Qs C E ad H locs lsA hR hL)

theorem v_iushr {x y v : Int32} (hd : DcAt M.2.1 pc (.iushr) 1 pc') (hv : (x.toUInt32 >>> (y.toUInt32 &&& Int32.toUInt32 31)).toInt32 = v) (k : Vd R ex M n0 Z ca sl pc' ls (.int v :: st) w) : Vd R ex M n0 Z ca sl pc ls (.int y :: .int x :: st) w := by
  intro p l e s m args below meth c D cI ad0 A Qs C E ad H locs lsA hR hL
  obtain ⟨hd, rfl⟩ := hd
  exact lv_iushr C.1 C.2.1 hd hv (k p l e s m args below meth c D cI ad0 A Qs C E ad H locs lsA hR hL)

theorem v_idiv {x y : Int32} (hd : DcAt M.2.1 pc (.idiv) 1 pc') (hne : ¬ y = 0) (k : Vd R ex M n0 Z ca sl pc' ls (.int (x / y) :: st) w) : Vd R ex M n0 Z ca sl pc ls (.int y :: .int x :: st) w := by
  intro p l e s m args below meth c D cI ad0 A Qs C E ad H locs lsA hR hL
  obtain ⟨hd, rfl⟩ := hd
  exact lv_idiv C.1 C.2.1 hd hne (k p l e s m args below meth c D cI ad0 A Qs C E ad H locs lsA hR hL)

theorem v_irem {x y : Int32} (hd : DcAt M.2.1 pc (.irem) 1 pc') (hne : ¬ y = 0) (k : Vd R ex M n0 Z ca sl pc' ls (.int (x - x / y * y) :: st) w) : Vd R ex M n0 Z ca sl pc ls (.int y :: .int x :: st) w := by
  intro p l e s m args below meth c D cI ad0 A Qs C E ad H locs lsA hR hL
  obtain ⟨hd, rfl⟩ := hd
  exact lv_irem C.1 C.2.1 hd hne (k p l e s m args below meth c D cI ad0 A Qs C E ad H locs lsA hR hL)

theorem v_ineg {x : Int32} (hd : DcAt M.2.1 pc (.ineg) 1 pc') (k : Vd R ex M n0 Z ca sl pc' ls (.int (-x) :: st) w) : Vd R ex M n0 Z ca sl pc ls (.int x :: st) w := by
  intro p l e s m args below meth c D cI ad0 A Qs C E ad H locs lsA hR hL
  obtain ⟨hd, rfl⟩ := hd
  exact lv_ineg C.1 C.2.1 hd (k p l e s m args below meth c D cI ad0 A Qs C E ad H locs lsA hR hL)

theorem v_dup {v : Value} (hd : DcAt M.2.1 pc (.dup) 1 pc') (hc : v.category = 1) (k : Vd R ex M n0 Z ca sl pc' ls (v :: v :: st) w) : Vd R ex M n0 Z ca sl pc ls (v :: st) w := by
  intro p l e s m args below meth c D cI ad0 A Qs C E ad H locs lsA hR hL
  obtain ⟨hd, rfl⟩ := hd
  exact lv_dup C.1 C.2.1 hd (xv_cat.trans hc) (k p l e s m args below meth c D cI ad0 A Qs C E ad H locs lsA hR hL)

theorem v_pop {v : Value} (hd : DcAt M.2.1 pc (.pop) 1 pc') (hc : v.category = 1) (k : Vd R ex M n0 Z ca sl pc' ls (st) w) : Vd R ex M n0 Z ca sl pc ls (v :: st) w := by
  intro p l e s m args below meth c D cI ad0 A Qs C E ad H locs lsA hR hL
  obtain ⟨hd, rfl⟩ := hd
  exact lv_pop C.1 C.2.1 hd (xv_cat.trans hc) (k p l e s m args below meth c D cI ad0 A Qs C E ad H locs lsA hR hL)

theorem v_dup2 {v u : Value} (hd : DcAt M.2.1 pc (.dup2) 1 pc') (hc : v.category = 1) (hu : u.category = 1) (k : Vd R ex M n0 Z ca sl pc' ls (v :: u :: v :: u :: st) w) : Vd R ex M n0 Z ca sl pc ls (v :: u :: st) w := by
  intro p l e s m args below meth c D cI ad0 A Qs C E ad H locs lsA hR hL
  obtain ⟨hd, rfl⟩ := hd
  exact lv_dup2_11 C.1 C.2.1 hd (xv_cat.trans hc) (xv_cat.trans hu) (k p l e s m args below meth c D cI ad0 A Qs C E ad H locs lsA hR hL)

theorem v_goto {off : Int} {tgt : Nat} (hd : DcAt M.2.1 pc (.goto off) 3 pc') (ht : (pc : Int) + off = (tgt : Int)) (k : Vd R ex M n0 Z ca sl tgt ls (st) w) : Vd R ex M n0 Z ca sl pc ls (st) w := by
  intro p l e s m args below meth c D cI ad0 A Qs C E ad H locs lsA hR hL
  exact lv_goto C.1 C.2.1 hd.1 ht (k p l e s m args below meth c D cI ad0 A Qs C E ad H locs lsA hR hL)

theorem v_if_eq {x : Int32} {off : Int} {tgt : Nat} (hd : DcAt M.2.1 pc (.ifCond .eq off) 3 pc') (ht : (pc : Int) + off = (tgt : Int)) (kt : x = 0 → Vd R ex M n0 Z ca sl tgt ls (st) w) (kf : ¬ x = 0 → Vd R ex M n0 Z ca sl pc' ls (st) w) : Vd R ex M n0 Z ca sl pc ls (.int x :: st) w := by
  intro p l e s m args below meth c D cI ad0 A Qs C E ad H locs lsA hR hL
  obtain ⟨hd, rfl⟩ := hd
  exact lv_if_eq C.1 C.2.1 hd ht (fun q => kt q p l e s m args below meth c D cI ad0 A Qs C E ad H locs lsA hR hL) (fun q => kf q p l e s m args below meth c D cI ad0 A Qs C E ad H locs lsA hR hL)

theorem v_if_ne {x : Int32} {off : Int} {tgt : Nat} (hd : DcAt M.2.1 pc (.ifCond .ne off) 3 pc') (ht : (pc : Int) + off = (tgt : Int)) (kt : ¬ x = 0 → Vd R ex M n0 Z ca sl tgt ls (st) w) (kf : x = 0 → Vd R ex M n0 Z ca sl pc' ls (st) w) : Vd R ex M n0 Z ca sl pc ls (.int x :: st) w := by
  intro p l e s m args below meth c D cI ad0 A Qs C E ad H locs lsA hR hL
  obtain ⟨hd, rfl⟩ := hd
  exact lv_if_ne C.1 C.2.1 hd ht (fun q => kt q p l e s m args below meth c D cI ad0 A Qs C E ad H locs lsA hR hL) (fun q => kf q p l e s m args below meth c D cI ad0 A Qs C E ad H locs lsA hR hL)

theorem v_if_lt {x : Int32} {off : Int} {tgt : Nat} (hd : DcAt M.2.1 pc (.ifCond .lt off) 3 pc') (ht : (pc : Int) + off = (tgt : Int)) (kt : x < 0 → Vd R ex M n0 Z ca sl tgt ls (st) w) (kf : ¬ x < 0 → Vd R ex M n0 Z ca sl pc' ls (st) w) : Vd R ex M n0 Z ca sl pc ls (.int x :: st) w := by
  intro p l e s m args below meth c D cI ad0 A Qs C E ad H locs lsA hR hL
  obtain ⟨hd, rfl⟩ := hd
  exact lv_if_lt C.1 C.2.1 hd ht (fun q => kt q p l e s m args below meth c D cI ad0 A Qs C E ad H locs lsA hR hL) (fun q => kf q p l e s m args below meth c D cI ad0 A Qs C E ad H locs lsA hR hL)

theorem v_if_ge {x : Int32} {off : Int} {tgt : Nat} (hd : DcAt M.2.1 pc (.ifCond .ge off) 3 pc') (ht : (pc : Int) + off = (tgt : Int)) (kt : 0 ≤ x → Vd R ex M n0 Z ca sl tgt ls (st) w) (kf : ¬ 0 ≤ x → Vd R ex M n0 Z ca sl pc' ls (st) w) : Vd R ex M n0 Z ca sl pc ls (.int x :: st) w := by
  intro p l e s m args below meth c D cI ad0 A Qs C E ad H locs lsA hR hL
  obtain ⟨hd, rfl⟩ := hd
  exact lv_if_ge C.1 C.2.1 hd ht (fun q => kt q p l e s m args below meth c D cI ad0 A Qs C E ad H locs lsA hR hL) (fun q => kf q p l e s m args below meth c D cI ad0 A Qs C E ad H locs lsA hR hL)

theorem v_if_gt {x : Int32} {off : Int} {tgt : Nat} (hd : DcAt M.2.1 pc (.ifCond .gt off) 3 pc') (ht : (pc : Int) + off = (tgt : Int)) (kt : 0 < x → Vd R ex M n0 Z ca sl tgt ls (st) w) (kf : ¬ 0 < x → Vd R ex M n0 Z ca sl pc' ls (st) w) : Vd R ex M n0 Z ca sl pc ls (.int x :: st) w := by
  intro p l e s m args below meth c D cI ad0 A Qs C E ad H locs lsA hR hL
  obtain ⟨hd, rfl⟩ := hd
  exact lv_if_gt C.1 C.2.1 hd ht (fun q => kt q p l e s m args below meth c D cI ad0 A Qs C E ad H locs lsA hR hL) (fun q => kf q p l e s m args below meth c D cI ad0 A Qs C E ad H locs lsA hR hL)

theorem v_if_le {x : Int32} {off : Int} {tgt : Nat} (hd : DcAt M.2.1 pc (.ifCond .le off) 3 pc') (ht : (pc : Int) + off = (tgt : Int)) (kt : x ≤ 0 → Vd R ex M n0 Z ca sl tgt ls (st) w) (kf : ¬ x ≤ 0 → Vd R ex M n0 Z ca sl pc' ls (st) w) : Vd R ex M n0 Z ca sl pc ls (.int x :: st) w := by
  intro p l e s m args below meth c D cI ad0 A Qs C E ad H locs lsA hR hL
  obtain ⟨hd, rfl⟩ := hd
  exact lv_if_le C.1 C.2.1 hd ht (fun q => kt q p l e s m args below meth c D cI ad0 A Qs C E ad H locs lsA hR hL) (fun q => kf q p l e s m args below meth c D cI ad0 A Qs C E ad H locs lsA hR hL)

theorem v_icmp_eq {x y : Int32} {off : Int} {tgt : Nat} (hd : DcAt M.2.1 pc (.if_icmp .eq off) 3 pc') (ht : (pc : Int) + off = (tgt : Int)) (kt : x = y → Vd R ex M n0 Z ca sl tgt ls (st) w) (kf : ¬ x = y → Vd R ex M n0 Z ca sl pc' ls (st) w) : Vd R ex M n0 Z ca sl pc ls (.int y :: .int x :: st) w := by
  intro p l e s m args below meth c D cI ad0 A Qs C E ad H locs lsA hR hL
  obtain ⟨hd, rfl⟩ := hd
  exact lv_icmp_eq C.1 C.2.1 hd ht (fun q => kt q p l e s m args below meth c D cI ad0 A Qs C E ad H locs lsA hR hL) (fun q => kf q p l e s m args below meth c D cI ad0 A Qs C E ad H locs lsA hR hL)

theorem v_icmp_ne {x y : Int32} {off : Int} {tgt : Nat} (hd : DcAt M.2.1 pc (.if_icmp .ne off) 3 pc') (ht : (pc : Int) + off = (tgt : Int)) (kt : ¬ x = y → Vd R ex M n0 Z ca sl tgt ls (st) w) (kf : x = y → Vd R ex M n0 Z ca sl pc' ls (st) w) : Vd R ex M n0 Z ca sl pc ls (.int y :: .int x :: st) w := by
  intro p l e s m args below meth c D cI ad0 A Qs C E ad H locs lsA hR hL
  obtain ⟨hd, rfl⟩ := hd
  exact lv_icmp_ne C.1 C.2.1 hd ht (fun q => kt q p l e s m args below meth c D cI ad0 A Qs C E ad H locs lsA hR hL) (fun q => kf q p l e s m args below meth c D cI ad0 A Qs C E ad H locs lsA hR hL)

theorem v_icmp_lt {x y : Int32} {off : Int} {tgt : Nat} (hd : DcAt M.2.1 pc (.if_icmp .lt off) 3 pc') (ht : (pc : Int) + off = (tgt : Int)) (kt : x < y → Vd R ex M n0 Z ca sl tgt ls (st) w) (kf : ¬ x < y → Vd R ex M n0 Z ca sl pc' ls (st) w) : Vd R ex M n0 Z ca sl pc ls (.int y :: .int x :: st) w := by
  intro p l e s m args below meth c D cI ad0 A Qs C E ad H locs lsA hR hL
  obtain ⟨hd, rfl⟩ := hd
  exact lv_icmp_lt C.1 C.2.1 hd ht (fun q => kt q p l e s m args below meth c D cI ad0 A Qs C E ad H locs lsA hR hL) (fun q => kf q p l e s m args below meth c D cI ad0 A Qs C E ad H locs lsA hR hL)

theorem v_icmp_ge {x y : Int32} {off : Int} {tgt : Nat} (hd : DcAt M.2.1 pc (.if_icmp .ge off) 3 pc') (ht : (pc : Int) + off = (tgt : Int)) (kt : y ≤ x → Vd R ex M n0 Z ca sl tgt ls (st) w) (kf : ¬ y ≤ x → Vd R ex M n0 Z ca sl pc' ls (st) w) : Vd R ex M n0 Z ca sl pc ls (.int y :: .int x :: st) w := by
  intro p l e s m args below meth c D cI ad0 A Qs C E ad H locs lsA hR hL
  obtain ⟨hd, rfl⟩ := hd
  exact lv_icmp_ge C.1 C.2.1 hd ht (fun q => kt q p l e s m args below meth c D cI ad0 A Qs C E ad H locs lsA hR hL) (fun q => kf q p l e s m args below meth c D cI ad0 A Qs C E ad H locs lsA hR hL)

theorem v_icmp_gt {x y : Int32} {off : Int} {tgt : Nat} (hd : DcAt M.2.1 pc (.if_icmp .gt off) 3 pc') (ht : (pc : Int) + off = (tgt : Int)) (kt : y < x → Vd R ex M n0 Z ca sl tgt ls (st) w) (kf : ¬ y < x → Vd R ex M n0 Z ca sl pc' ls (st) w) : Vd R ex M n0 Z ca sl pc ls (.int y :: .int x :: st) w := by
  intro p l e s m args below meth c D cI ad0 A Qs C E ad H locs lsA hR hL
  obtain ⟨hd, rfl⟩ := hd
  exact lv_icmp_gt C.1 C.2.1 hd ht (fun q => kt q p l e s m args below meth c D cI ad0 A Qs C E ad H locs lsA hR hL) (fun q => kf q p l e s m args below meth c D cI ad0 A Qs C E ad H locs lsA hR hL)

theorem v_icmp_le {x y : Int32} {off : Int} {tgt : Nat} (hd : DcAt M.2.1 pc (.if_icmp .le off) 3 pc') (ht : (pc : Int) + off = (tgt : Int)) (kt : x ≤ y → Vd R ex M n0 Z ca sl tgt ls (st) w) (kf : ¬ x ≤ y → Vd R ex M n0 Z ca sl pc' ls (st) w) : Vd R ex M n0 Z ca sl pc ls (.int y :: .int x :: st) w := by
  intro p l e s m args below meth c D cI ad0 A Qs C E ad H locs lsA hR hL
  obtain ⟨hd, rfl⟩ := hd
  exact lv_icmp_le C.1 C.2.1 hd ht (fun q => kt q p l e s m args below meth c D cI ad0 A Qs C E ad H locs lsA hR hL) (fun q => kf q p l e s m args below meth c D cI ad0 A Qs C E ad H locs lsA hR hL)

/-- the locals that are known, as the kit's list -/
def xl (ad : Nat → Nat) : Nat → List (Option Value) → List (Nat × Value)
  | _, [] => []
  | i, none :: r => xl ad (i + 1) r
  | i, some v :: r => (i, xv ad v) :: xl ad (i + 1) r
theorem xl_in {ad : Nat → Nat} : ∀ (ls : List (Option Value)) (i : Nat) (q : Nat × Value), q ∈ xl ad i ls → ∃ (k : Nat) (v : Value), ls[k]? = some (some v) ∧ q = (i + k, xv ad v)
  | [], i, q, h => by simp [xl] at h
  | none :: r, i, q, h => by
    obtain ⟨k, v, h1, h2⟩ := xl_in r (i + 1) q h
    exact ⟨k + 1, v, by simpa using h1, by rw [h2, show i + 1 + k = i + (k + 1) by omega]⟩
  | some v :: r, i, q, h => by
    rcases List.mem_cons.mp h with h | h
    · exact ⟨0, v, rfl, h⟩
    · obtain ⟨k, u, h1, h2⟩ := xl_in r (i + 1) q h
      exact ⟨k + 1, u, by simpa using h1, by rw [h2, show i + 1 + k = i + (k + 1) by omega]⟩
theorem xl_mem {ad : Nat → Nat} : ∀ (ls : List (Option Value)) (i k : Nat) (v : Value), ls[k]? = some (some v) → (i + k, xv ad v) ∈ xl ad i ls
  | [], i, k, v, h => by simp at h
  | a :: r, i, 0, v, h => by
    simp only [List.getElem?_cons_zero, Option.some.injEq] at h
    subst h
    exact List.mem_cons_self
  | a :: r, i, k + 1, v, h => by
    have h' : r[k]? = some (some v) := by simpa using h
    have := xl_mem (ad := ad) r (i + 1) k v h'
    rw [show i + 1 + k = i + (k + 1) by omega] at this
    cases a with
    | none => exact this
    | some u => exact List.mem_cons_of_mem _ this
theorem XL.has {lsA : Array Slot} {nL : Nat} {ad : Nat → Nat} {ls : List (Option Value)} (h : XL lsA nL ad ls) : lv_has lsA nL (xl ad 0 ls) := by
  refine ⟨h.1, h.2.1, fun q hq => ?_⟩
  obtain ⟨k, v, h1, h2⟩ := xl_in ls 0 q hq
  rw [h2]
  simpa using (h.2.2 k v h1).1
theorem XL.put {lsA lsB : Array Slot} {nL i : Nat} {ad : Nat → Nat} {ls : List (Option Value)} {v : Value} (h : XL lsA nL ad ls) (hc : v.category = 1) (hn : lv_has lsB nL ((i, xv ad v) :: (xl ad 0 ls).filter (fun q => !(q.1 == i) && !(q.1 + 1 == i && q.2.category == 2)))) : XL lsB nL ad (ls.set i (some v)) := by
  refine ⟨hn.1, hn.2.1, fun k u hk => ?_⟩
  rw [List.getElem?_set] at hk
  by_cases hik : i = k
  · subst hik
    by_cases hl : i < ls.length
    · simp only [hl, ite_true, Option.some.injEq] at hk
      subst hk
      exact ⟨hn.2.2 (i, xv ad v) List.mem_cons_self, hc⟩
    · simp [hl] at hk
  · simp only [hik, ite_false] at hk
    obtain ⟨-, hcu⟩ := h.2.2 k u hk
    refine ⟨hn.2.2 (k, xv ad u) (List.mem_cons_of_mem _ (List.mem_filter.mpr ⟨?_, ?_⟩)), hcu⟩
    · have := xl_mem (ad := ad) ls 0 k u hk
      simpa using this
    · have e1 : (k == i) = false := by simpa using Ne.symm hik
      have e2 : ((xv ad u).category == 2) = false := by rw [xv_cat, hcu]; rfl
      simp only [e1, e2, Bool.and_false, Bool.not_false, Bool.and_self]

theorem v_istore_n {i : Fin 4} {x : Int32} (hd : DcAt M.2.1 pc (.istore_n i) 1 pc') (hn : (i : Nat) < M.2.2.1) (k : Vd R ex M n0 Z ca sl pc' (ls.set (i : Nat) (some (.int x))) (st) w) : Vd R ex M n0 Z ca sl pc ls (.int x :: st) w := by
  intro p l e s m args below meth c D cI ad0 A Qs C E ad H locs lsA hR hL
  obtain ⟨hd, rfl⟩ := hd
  exact lv_istore_n C.1 C.2.1 hd rfl hL.has hn rfl (fun lsB hB => k p l e s m args below meth c D cI ad0 A Qs C E ad H locs lsB hR (hL.put rfl hB))

theorem v_istore {i : Nat} {x : Int32} (hd : DcAt M.2.1 pc (.istore i) 2 pc') (hn : i < M.2.2.1) (k : Vd R ex M n0 Z ca sl pc' (ls.set i (some (.int x))) (st) w) : Vd R ex M n0 Z ca sl pc ls (.int x :: st) w := by
  intro p l e s m args below meth c D cI ad0 A Qs C E ad H locs lsA hR hL
  obtain ⟨hd, rfl⟩ := hd
  exact lv_istore C.1 C.2.1 hd hL.has hn rfl (fun lsB hB => k p l e s m args below meth c D cI ad0 A Qs C E ad H locs lsB hR (hL.put rfl hB))

theorem v_astore_n {i : Fin 4} {x : Nat} (hd : DcAt M.2.1 pc (.astore_n i) 1 pc') (hn : (i : Nat) < M.2.2.1) (k : Vd R ex M n0 Z ca sl pc' (ls.set (i : Nat) (some (.ref x))) (st) w) : Vd R ex M n0 Z ca sl pc ls (.ref x :: st) w := by
  intro p l e s m args below meth c D cI ad0 A Qs C E ad H locs lsA hR hL
  obtain ⟨hd, rfl⟩ := hd
  exact lv_astore_n C.1 C.2.1 hd rfl hL.has hn rfl (fun lsB hB => k p l e s m args below meth c D cI ad0 A Qs C E ad H locs lsB hR (hL.put rfl hB))

theorem v_astore {i : Nat} {x : Nat} (hd : DcAt M.2.1 pc (.astore i) 2 pc') (hn : i < M.2.2.1) (k : Vd R ex M n0 Z ca sl pc' (ls.set i (some (.ref x))) (st) w) : Vd R ex M n0 Z ca sl pc ls (.ref x :: st) w := by
  intro p l e s m args below meth c D cI ad0 A Qs C E ad H locs lsA hR hL
  obtain ⟨hd, rfl⟩ := hd
  exact lv_astore C.1 C.2.1 hd hL.has hn rfl (fun lsB hB => k p l e s m args below meth c D cI ad0 A Qs C E ad H locs lsB hR (hL.put rfl hB))

theorem v_iinc {i : Nat} {n : Int} {x v : Int32} (hd : DcAt M.2.1 pc (.iinc i n) 3 pc') (hl : ls[i]? = some (some (.int x))) (hv : x + Int32.ofInt n = v) (hn : i < M.2.2.1) (k : Vd R ex M n0 Z ca sl pc' (ls.set i (some (.int v))) (st) w) : Vd R ex M n0 Z ca sl pc ls (st) w := by
  intro p l e s m args below meth c D cI ad0 A Qs C E ad H locs lsA hR hL
  obtain ⟨hd, rfl⟩ := hd
  have hm := xl_mem (ad := ad) ls 0 i (.int x) hl
  rw [Nat.zero_add] at hm
  obtain ⟨j, hj⟩ := List.getElem?_of_mem hm
  exact lv_iinc C.1 C.2.1 hd hL.has (k := j) hj hv hn rfl (fun lsB hB => k p l e s m args below meth c D cI ad0 A Qs C E ad H locs lsB hR (hL.put rfl hB))

theorem v_tableIn {dflt lo hi : Int} {offs : Array Int} {len : Nat} {x : Int32} {off : Int} {tgt : Nat} (hd : DcAt M.2.1 pc (.tableswitch dflt lo hi offs) len pc') (h1 : ¬ x.toInt < lo) (h2 : ¬ hi < x.toInt) (ho : offs[(x.toInt - lo).toNat]? = some off) (ht : (pc : Int) + off = (tgt : Int)) (k : Vd R ex M n0 Z ca sl tgt ls (st) w) : Vd R ex M n0 Z ca sl pc ls (.int x :: st) w := by
  intro p l e s m args below meth c D cI ad0 A Qs C E ad H locs lsA hR hL
  exact lv_tableIn C.1 C.2.1 hd.1 h1 h2 ho ht (k p l e s m args below meth c D cI ad0 A Qs C E ad H locs lsA hR hL)
theorem v_tableOut {dflt lo hi : Int} {offs : Array Int} {len : Nat} {x : Int32} {tgt : Nat} (hd : DcAt M.2.1 pc (.tableswitch dflt lo hi offs) len pc') (h : x.toInt < lo ∨ hi < x.toInt) (ht : (pc : Int) + dflt = (tgt : Int)) (k : Vd R ex M n0 Z ca sl tgt ls (st) w) : Vd R ex M n0 Z ca sl pc ls (.int x :: st) w := by
  intro p l e s m args below meth c D cI ad0 A Qs C E ad H locs lsA hR hL
  exact lv_tableOut C.1 C.2.1 hd.1 h ht (k p l e s m args below meth c D cI ad0 A Qs C E ad H locs lsA hR hL)
theorem v_lookup {dflt : Int} {ps : Array (Int × Int)} {len : Nat} {x : Int32} {off : Int} {tgt : Nat} (hd : DcAt M.2.1 pc (.lookupswitch dflt ps) len pc') (hp : (ps.toList.zip (ps.toList.drop 1)).all (fun (a, next) => a.1 < next.1) = true) (ho : Op.lookupswitch.offset ps.toList dflt x.toInt = off) (ht : (pc : Int) + off = (tgt : Int)) (k : Vd R ex M n0 Z ca sl tgt ls (st) w) : Vd R ex M n0 Z ca sl pc ls (.int x :: st) w := by
  intro p l e s m args below meth c D cI ad0 A Qs C E ad H locs lsA hR hL
  exact lv_lookup C.1 C.2.1 hd.1 hp ho ht (k p l e s m args below meth c D cI ad0 A Qs C E ad H locs lsA hR hL)

theorem v_ireturn {x : Int32} (hd : DcAt M.2.1 pc .ireturn 1 pc') (ht : M.2.2.2 = some .int ∨ (M.2.2.2 = some .boolean ∧ (x = 0 ∨ x = 1))) (hc : ca ≤ R.cells) (hs : sl ≤ R.slots) (hz : Z w (some (.int x))) : Vd R ex M n0 Z ca sl pc ls (.int x :: []) w := by
  intro p l e s m args below meth c D cI ad0 A Qs C E ad H locs lsA hR hL
  exact W.widen hc hs ((E w ad H locs lsA pc hR).1 x hd.1 ht hz)
theorem v_areturn {k : Nat} (hd : DcAt M.2.1 pc .areturn 1 pc') (ht : ∃ C, M.2.2.2 = some (.object C)) (hc : ca ≤ R.cells) (hs : sl ≤ R.slots) (hz : Z w (some (.ref k))) : Vd R ex M n0 Z ca sl pc ls (.ref k :: []) w := by
  intro p l e s m args below meth c D cI ad0 A Qs C E ad H locs lsA hR hL
  exact W.widen hc hs ((E w ad H locs lsA pc hR).2.1 k hd.1 ht hz)
theorem v_return (hd : DcAt M.2.1 pc .return_ 1 pc') (ht : M.2.2.2 = none) (hc : ca ≤ R.cells) (hs : sl ≤ R.slots) (hz : Z w none) : Vd R ex M n0 Z ca sl pc ls ([]) w := by
  intro p l e s m args below meth c D cI ad0 A Qs C E ad H locs lsA hR hL
  exact W.widen hc hs ((E w ad H locs lsA pc hR).2.2 hd.1 ht hz)

theorem XRep.sub {cI : ClassId} {D : va_G} {ad0 ad : Nat → Nat} {A : Nat → Prop} {n0 : Nat} {s : State} {w : XW} {H H1 : Heap} {locs locs1 : List Loc} {b : Nat} {e : XE} (h : XRep cI D ad0 ad A n0 s w H locs) (hP : va_P D vwCl (xw cI ad (w.set b e)) H1) (hD : va_D A (xw cI ad (w.set b e))) (hS : va_S A s.heap H1 locs1) : XRep cI D ad0 ad A n0 s (w.set b e) H1 locs1 :=
  ⟨h.1, by rw [List.length_set]; exact h.2.1, by rw [List.length_set]; exact h.2.2.1, hP, hD, hS⟩
theorem v_get {idx ci fk b : Nat} {ty : FieldType} {fin : Bool} {fs : List Value} {v : Value} (g : XG M.1.cls idx ci fk ty fin) (hd : DcAt M.2.1 pc (.getfield idx) 3 pc') (hw : w[b]? = some (.inr (ci, fs))) (hv : fs[fk]? = some v) (k : Vd R ex M n0 Z ca sl pc' ls (v :: st) w) : Vd R ex M n0 Z ca sl pc ls (.ref b :: st) w := by
  intro p l e s m args below meth c D cI ad0 A Qs C E ad H locs lsA hR hL
  obtain ⟨hd, rfl⟩ := hd
  obtain ⟨Cn, T, N, ty0, g1, g2, g3, g4, g5, g6, g7, g8⟩ := g
  obtain ⟨hx, hb, hml, hr, hlocks, hown, hts, hnm, hK, hA, hX⟩ := id C
  exact va_get (D := D) (ci := ci) (v := xv ad v) (C := Cn) (T := T) (N := N) hx hb hts g2 hown hK hR.2.2.2.1 b (xw_at hw) g1 fk g5 (hts _ g6) (fun _ h9 => h9) (by rw [List.getElem?_map, hv]; rfl) hd (k p l e s m args below meth c D cI ad0 A Qs C E ad H locs lsA hR hL)
theorem v_puti {idx ci fk b : Nat} {ty : FieldType} {fs : List Value} {x : Int32} (g : XG M.1.cls idx ci fk ty false) (hd : DcAt M.2.1 pc (.putfield idx) 3 pc') (hw : w[b]? = some (.inr (ci, fs))) (hl : fk < fs.length) (hn : narrow ty (.int x) = .int x) (hf : fits ty (.int x) = true) (k : Vd R ex M n0 Z ca sl pc' ls (st) (w.set b (.inr (ci, fs.set fk (.int x))))) : Vd R ex M n0 Z ca sl pc ls (.int x :: .ref b :: st) w := by
  intro p l e s m args below meth c D cI ad0 A Qs C E ad H locs lsA hR hL
  obtain ⟨hd, rfl⟩ := hd
  obtain ⟨Cn, T, N, ty0, g1, g2, g3, g4, g5, g6, g7, g8⟩ := g
  obtain ⟨hx, hb, hml, hr, hlocks, hown, hts, hnm, hK, hA, hX⟩ := id C
  refine va_put (D := D) (ci := ci) (v := .int x) (C := Cn) (T := T) (N := N) hx hb hts g2 ty0 g3 g4 hown hK hR.2.2.2.1 hR.2.2.2.2.1 hR.2.2.2.2.2 b (xw_at hw) g1 fk g5 (hts _ g6) (fun _ h9 => h9) g8 g7 hn hf (by rw [List.length_map]; exact hl) hd (fun H1 locs1 hP hD hS => ?_)
  have e1 : xw cI ad (w.set b (.inr (ci, fs.set fk (.int x)))) = (xw cI ad w).set b (ad b, .inr (ci, (fs.map (xv ad)).set fk (.int x))) := by rw [xw_set]; simp [xe, List.map_set, xv]
  exact k p l e s m args below meth c D cI ad0 A Qs C E ad H1 locs1 lsA (hR.sub (by rw [e1]; exact hP) (by rw [e1]; exact hD) hS) hL
theorem v_putF {idx ci fk b : Nat} {ty : FieldType} {fs : List Value} {v : Value} (g : XG M.1.cls idx ci fk ty true) (hown2 : ∀ q, vwCl[ci]? = some q → (q.2.1 fk).1 = M.1.cls) (hin : M.1.name = "<init>") (hd : DcAt M.2.1 pc (.putfield idx) 3 pc') (hw : w[b]? = some (.inr (ci, fs))) (hl : fk < fs.length) (hn : ∀ ad, narrow ty (xv ad v) = xv ad v) (hf : ∀ ad, fits ty (xv ad v) = true) (k : Vd R ex M n0 Z ca sl pc' ls (st) (w.set b (.inr (ci, fs.set fk v)))) : Vd R ex M n0 Z ca sl pc ls (v :: .ref b :: st) w := by
  intro p l e s m args below meth c D cI ad0 A Qs C E ad H locs lsA hR hL
  obtain ⟨hd, rfl⟩ := hd
  obtain ⟨Cn, T, N, ty0, g1, g2, g3, g4, g5, g6, g7, g8⟩ := g
  obtain ⟨hx, hb, hml, hr, hlocks, hown, hts, hnm, hK, hA, hX⟩ := id C
  refine va_putF (D := D) (ci := ci) (v := xv ad v) (C := Cn) (T := T) (N := N) hx hb hts g2 ty0 g3 g4 hown hK hR.2.2.2.1 hR.2.2.2.2.1 hR.2.2.2.2.2 b (xw_at hw) g1 fk g5 (hts _ g6) (fun _ h9 => h9) g8 (hnm.trans hin) (hown2 _ g1) g7 (hn ad) (hf ad) (by rw [List.length_map]; exact hl) hd (fun H1 locs1 hP hD hS => ?_)
  have e1 : xw cI ad (w.set b (.inr (ci, fs.set fk v))) = (xw cI ad w).set b (ad b, .inr (ci, (fs.map (xv ad)).set fk (xv ad v))) := by rw [xw_set]; simp [xe, List.map_set]
  exact k p l e s m args below meth c D cI ad0 A Qs C E ad H1 locs1 lsA (hR.sub (by rw [e1]; exact hP) (by rw [e1]; exact hD) hS) hL
theorem v_iaload {b N : Nat} {f : Nat → Int32} {i x : Int32} (hd : DcAt M.2.1 pc .iaload 1 pc') (hw : w[b]? = some (.inl (N, f))) (hi : vp_in i N) (hx : f i.toNatClampNeg = x) (k : Vd R ex M n0 Z ca sl pc' ls (.int x :: st) w) : Vd R ex M n0 Z ca sl pc ls (.int i :: .ref b :: st) w := by
  intro p l e s m args below meth c D cI ad0 A Qs C E ad H locs lsA hR hL
  obtain ⟨hd, rfl⟩ := hd
  subst hx
  obtain ⟨hx, hb, hml, hr, hlocks, hown, hts, hnm, hK, hA, hX⟩ := id C
  exact va_iald hx hb hK hR.2.2.2.1 b 0 (xw_at hw) rfl hi hd (k p l e s m args below meth c D cI ad0 A Qs C E ad H locs lsA hR hL)
theorem v_iastore {b N : Nat} {f : Nat → Int32} {i x : Int32} (hd : DcAt M.2.1 pc .iastore 1 pc') (hw : w[b]? = some (.inl (N, f))) (hi : vp_in i N) (k : Vd R ex M n0 Z ca sl pc' ls (st) (w.set b (.inl (N, upd f i.toNatClampNeg x)))) : Vd R ex M n0 Z ca sl pc ls (.int x :: .int i :: .ref b :: st) w := by
  intro p l e s m args below meth c D cI ad0 A Qs C E ad H locs lsA hR hL
  obtain ⟨hd, rfl⟩ := hd
  obtain ⟨hx, hb, hml, hr, hlocks, hown, hts, hnm, hK, hA, hX⟩ := id C
  refine va_iast hx hb hK hR.2.2.2.1 hR.2.2.2.2.1 hR.2.2.2.2.2 b 0 (xw_at hw) rfl hi hd (fun H1 locs1 hP hD hS => ?_)
  exact k p l e s m args below meth c D cI ad0 A Qs C E ad H1 locs1 lsA (hR.sub (by rw [xw_set]; exact hP) (by rw [xw_set]; exact hD) hS) hL
theorem v_alen {b N : Nat} {f : Nat → Int32} {v : Int32} (hd : DcAt M.2.1 pc .arraylength 1 pc') (hw : w[b]? = some (.inl (N, f))) (hv : Int32.ofNat N = v) (k : Vd R ex M n0 Z ca sl pc' ls (.int v :: st) w) : Vd R ex M n0 Z ca sl pc ls (.ref b :: st) w := by
  intro p l e s m args below meth c D cI ad0 A Qs C E ad H locs lsA hR hL
  obtain ⟨hd, rfl⟩ := hd
  obtain ⟨hx, hb, hml, hr, hlocks, hown, hts, hnm, hK, hA, hX⟩ := id C
  exact va_alen hx hb hK hR.2.2.2.1 b 0 (xw_at hw) rfl hv hd (k p l e s m args below meth c D cI ad0 A Qs C E ad H locs lsA hR hL)
theorem v_gets {idx j : Nat} {q : String × String} (hd : DcAt M.2.1 pc (.getstatic idx) 3 pc') (hl : Cond.fieldLink M.1.cls idx q.1 q.2 "[I" ∈ goodTB) (hj : ST[j]? = some q) (k : Vd R ex M n0 Z ca sl pc' ls (.ref (SB + j) :: st) w) : Vd R ex M n0 Z ca sl pc ls (st) w := by
  intro p l e s m args below meth c D cI ad0 A Qs C E ad H locs lsA hR hL
  obtain ⟨hd, rfl⟩ := hd
  obtain ⟨hx, hb, hml, hr, hlocks, hown, hts, hnm, hK, hA, hX⟩ := id C
  have e1 : ad (SB + j) = ad0 (SB + j) := hR.1 _ (Or.inr (Nat.le_add_right _ _))
  refine va_gets hx hb (hX.1 j q hj) hR.2.2.2.2.2 hown (hts _ hl) (fun _ h9 => h9) hd ?_
  have := k p l e s m args below meth c D cI ad0 A Qs C E ad H locs lsA hR hL
  simp only [List.map_cons, xv, e1] at this
  exact this
theorem v_sald {j N : Nat} {f : Nat → Int32} {i x : Int32} (hd : DcAt M.2.1 pc .iaload 1 pc') (hj : (RO0 ++ ex)[j]? = some (N, f)) (hi : vp_in i N) (hx : f i.toNatClampNeg = x) (k : Vd R ex M n0 Z ca sl pc' ls (.int x :: st) w) : Vd R ex M n0 Z ca sl pc ls (.int i :: .ref (SB + j) :: st) w := by
  intro p l e s m args below meth c D cI ad0 A Qs C E ad H locs lsA hR hL
  obtain ⟨hd, rfl⟩ := hd
  subst hx
  obtain ⟨hx, hb, hml, hr, hlocks, hown, hts, hnm, hK, hA, hX⟩ := id C
  have e1 : ad (SB + j) = ad0 (SB + j) := hR.1 _ (Or.inr (Nat.le_add_right _ _))
  have hT := hX.2.1 j (N, f) hj
  simp only [List.map_cons, xv, e1]
  exact va_ti (f := fun i => .int (f i)) hx hb hT hR.2.2.2.2.2 hi rfl hd (k p l e s m args below meth c D cI ad0 A Qs C E ad H locs lsA hR hL)
theorem v_slen {j N : Nat} {f : Nat → Int32} {v : Int32} (hd : DcAt M.2.1 pc .arraylength 1 pc') (hj : (RO0 ++ ex)[j]? = some (N, f)) (hv : Int32.ofNat N = v) (k : Vd R ex M n0 Z ca sl pc' ls (.int v :: st) w) : Vd R ex M n0 Z ca sl pc ls (.ref (SB + j) :: st) w := by
  intro p l e s m args below meth c D cI ad0 A Qs C E ad H locs lsA hR hL
  obtain ⟨hd, rfl⟩ := hd
  obtain ⟨hx, hb, hml, hr, hlocks, hown, hts, hnm, hK, hA, hX⟩ := id C
  have e1 : ad (SB + j) = ad0 (SB + j) := hR.1 _ (Or.inr (Nat.le_add_right _ _))
  have hT := hX.2.1 j (N, f) hj
  simp only [List.map_cons, xv, e1]
  exact va_tlen hx hb hT hR.2.2.2.2.2 hv hd (k p l e s m args below meth c D cI ad0 A Qs C E ad H locs lsA hR hL)

end VdRules
section VdCalls
theorem good_in {M : MI} (h : Cond.code M.1 M.2.1 M.2.2.1 M.2.2.2 ∈ goodTB) : GoodIn goodTB (xws M) := by
  intro w hw
  have hm : w ∈ goodTB := by
    rcases List.mem_cons.mp hw with rfl | h'
    · exact h
    · exact h'
  exact ⟨hm, good_of_word (List.mem_filter.mp hm).2⟩
theorem xpre_blind {cI : ClassId} {D : va_G} {ad : Nat → Nat} {sz : Nat} {w : XW} {av : List Value} : FrameBlind (va_Pc av (XPre cI D ad sz w)) := by
  intro a U g mk q
  obtain ⟨q0, q1, qP, qK, qD, ⟨qz, qt, qn⟩, qL⟩ := q
  exact ⟨q0, q1, qP, va_K.moved (u := U) (U := U.calling g mk a) (Vm.Alike.refl U.vm) qK, qD, ⟨fun j q h => va_Z.moved (u := U) (U := U.calling g mk a) (Vm.Alike.refl U.vm) (qz j q h), fun j q h => va_T.moved (u := U) (U := U.calling g mk a) (Vm.Alike.refl U.vm) (qt j q h), va_Nw.same rfl (u := U) (U := U.calling g mk a) rfl qn.1, va_Nw.same rfl (u := U) (U := U.calling g mk a) rfl qn.2⟩, qL⟩
set_option maxHeartbeats 4000000 in
theorem vr_call {p : Program} {l : Launch} {e : Env} {R : Room} {s : State} {m : MethodId} {args : Array Value} {below : List Frame} {meth : Method} {c : Code} {H : Heap} {locs : List Loc} {cells slots mc ms : Nat} {Q : State → Prop} {pc : Nat} {lsA : Array Slot} {st0 rest : List Value} {A0 A1 : Nat → Prop} {H0 : Heap} {free : Addr → Prop} {cI : ClassId} {D : va_G} {ad : Nat → Nat} {n : Nat} {Z : XW → Option Value → Prop}
    (hr : va_Run p l e R s m args below meth c H locs cells slots mc ms (F0 m pc lsA st0) rest (fun st oc t => XPost cI D ad A1 n Z st oc t) free) (hS : va_S A0 H0 H locs) (hA : ∀ q, A1 q → A0 q) (hf : ∀ q, free q → A0 q)
    (kk : ∀ (w' : XW) (r : Option Value) (ad' : Nat → Nat) (H1 : Heap) (locs1 : List Loc), Z w' r → ag n ad ad' → n ≤ w'.length → w'.length ≤ SB → va_P D vwCl (xw cI ad' w') H1 → va_D A0 (xw cI ad' w') → va_S A0 H0 H1 locs1 → W p l e R s m args below meth c H1 locs1 (cells + mc) (slots + ms) Q (F0 m (pc + 3) lsA ((r.map (xv ad')).toList ++ rest))) : W p l e R s m args below meth c H locs cells slots Q (F0 m pc lsA st0) := by
  intro T hT X
  obtain ⟨v, st₀, t, T', L, h0, X', hL, e1, e2, ⟨w', r, ad', z1, z2, z3, z4, z5, z6, z7, hz, hk⟩, st⟩ := hr T hT X
  cases z2
  rw [h0] at hz hk
  obtain ⟨t2, a1, b1⟩ := kk w' r ad' T'.heap (locs ++ L) z1 z3 z4 z5 (by rw [e1]; exact z6) (z7.weaken (fun _ _ _ h => hA _ h))
    ⟨Nat.le_trans hS.1 (by rw [e1]; exact hz), fun q h1 h2 => by rw [e1, hk q (Nat.lt_of_lt_of_le h1 hS.1) (fun z => h2 (hA q z))]; exact hS.2.1 q h1 h2, fun q hq => by
      rcases List.mem_append.mp hq with h | h
      · exact hS.2.2 q h
      · exact hf _ (hL q h)⟩ T' rfl X'
  exact ⟨t2, st t2 a1, b1⟩
variable {R R' : Room} {ex : List (Nat × (Nat → Int32))} {M M' : MI} {n0 : Nat} {Z Z' : XW → Option Value → Prop} {ca sl pc pc' idx np b : Nat} {ls : List (Option Value)} {As rest st : List Value} {w : XW}
/-- places that the locals and the stack name are in the world -/
def rkw (w : XW) (v : Value) : Bool := match v with
  | .ref k => decide (SB ≤ k) || (w[k]?).isSome
  | _ => true
def lok (w : XW) (ls : List (Option Value)) (rest : List Value) : Bool := ls.all (fun o => match o with
  | none => true
  | some v => rkw w v) && rest.all (rkw w)
theorem rkw_rk {w : XW} {v : Value} (h : rkw w v = true) : rk w.length v = true := by
  cases v with
  | ref k =>
    simp only [rkw, Bool.or_eq_true, decide_eq_true_eq] at h
    simp only [rk, Bool.or_eq_true, decide_eq_true_eq]
    rcases h with h | h
    · exact Or.inr h
    · refine Or.inl ?_
      cases hk : w[k]? with
      | none => rw [hk] at h; cases h
      | some e => exact (List.getElem?_eq_some_iff.mp hk).1
  | _ => rfl
theorem lok_rest {w : XW} {ls : List (Option Value)} {rest : List Value} (hl : lok w ls rest = true) : rest.all (rk w.length) = true := by
  simp only [lok, Bool.and_eq_true] at hl
  exact List.all_eq_true.mpr fun v hv => rkw_rk (List.all_eq_true.mp hl.2 v hv)
theorem XL.ag {lsA : Array Slot} {nL : Nat} {ad ad' : Nat → Nat} {ls : List (Option Value)} {rest : List Value} (h : XL lsA nL ad ls) (hg : ag w.length ad ad') (hl : lok w ls rest = true) : XL lsA nL ad' ls := by
  refine ⟨h.1, h.2.1, fun k v hk => ?_⟩
  simp only [lok, Bool.and_eq_true] at hl
  have h1 := List.all_eq_true.mp hl.1 _ (List.mem_of_getElem? hk)
  rw [xv_ag hg (rkw_rk h1)]
  exact h.2.2 k v hk
theorem cat_sum {ad : Nat → Nat} (l : List Value) : ((l.map (xv ad)).map fun v => v.category).sum = (l.map fun v => v.category).sum := by
  rw [List.map_map]
  exact congrArg List.sum (List.map_congr_left fun v _ => xv_cat)
theorem bmem {cI : ClassId} {ad : Nat → Nat} {A : Nat → Prop} {w : XW} {H0 H : Heap} {locs : List Loc} (hD : va_D A (xw cI ad w)) (hS : va_S A H0 H locs) (hA : ∀ q, H0.size ≤ q → A q) : ∀ q, va_A (xw cI ad w) H.size q → A q := by
  intro q h
  rcases h with ⟨k, e, h⟩ | h
  · exact hD.2 k (q, e) h
  · exact hA q (Nat.le_trans hS.1 h)
set_option maxHeartbeats 4000000 in
theorem v_callV {ci : Nat} {fs : List Value} (g : XV M.1.cls idx M' np) (hd : DcAt M.2.1 pc (.invokevirtual idx) 3 pc') (h : Sp R' M' (.ref b :: As) w Z') (hst : st = As.reverse ++ .ref b :: rest) (hnp : As.length = np) (hw : w[b]? = some (.inr (ci, fs))) (hcl : (vwCl[ci]?).map (fun q => q.1) = some M'.1.cls) (hro : R'.frames + 1 ≤ R.frames ∧ 8 + (M'.2.2.1 + 11) + R'.locals ≤ R.locals ∧ ca + R'.cells ≤ R.cells ∧ sl + R'.slots ≤ R.slots) (hrs : (rest.map fun v => v.category).sum ≤ 8) (hlok : lok w ls rest = true)
    (k : ∀ (w' : XW) (r : Option Value), Z' w' r → w.length ≤ w'.length → Vd R ex M n0 Z (ca + R'.cells) (sl + R'.slots) pc' ls (r.toList ++ rest) w') : Vd R ex M n0 Z ca sl pc ls st w := by
  intro p l e s m args below meth c D cI ad0 A Qs C E ad H locs lsA hR hL
  obtain ⟨hd, rfl⟩ := hd
  obtain ⟨g1, g2, g3, g4, g5, g6, g7, g8⟩ := g
  obtain ⟨hx, hb, hml, hr, hlocks, hown, hts, hnm, hK, hA, hX⟩ := id C
  obtain ⟨r1, r2, r3, hP, hD, hS⟩ := id hR
  subst hst
  obtain ⟨q, hq, hq2⟩ := Option.map_eq_some_iff.mp hcl
  have hG := good_in g6
  have hB := bmem hD hS hA
  have cb := callB_of (R := R) (own := M.1.cls) (index := idx) (y := M'.1) (bytes := M'.2.1) (maxL := M'.2.2.1) (ret := M'.2.2.2) (rm := R') np hts hG rfl rfl rfl (hts _ g5) (hts _ g4) ⟨g1, g2, g3⟩ ⟨hro.1, hro.2.1⟩
  refine vr_call (va_runV (As := As.map (xv ad)) (rest := rest.map (xv ad)) (C := M'.1.cls) (b := ad b) ⟨hx, hb, hml, hown, hts⟩ (h l D cI ad H.size) ⟨cb, hts _ g7, hts _ g8⟩ ⟨xpre_blind, ?_, ?_⟩ rfl (by rw [List.length_map]; exact hnp) hL.1 (by simp [xv]) (lv_room (by rw [cat_sum]; exact hrs)) hd ⟨hro.2.2.1, hro.2.2.2⟩) hS hB hB ?_
  · have := va_recv hK hP hq (xw_at hw)
    rw [hq2] at this
    exact this
  · intro U hU hW
    exact ⟨by simp [xv], by rw [hU], by rw [hU]; exact hP, va_K.moved hW.alike hK, hD.weaken (fun _ _ _ _ => trivial), (by
      have := hX.to hS hU hW hB
      have e1 : (fun j => ad (SB + j)) = (fun j => ad0 (SB + j)) := funext fun j => r1 _ (Or.inr (Nat.le_add_right _ _))
      rw [e1]; exact this), r3⟩
  · intro w' r ad' H1 locs1 z1 z2 z3 z4 z5 z6 z7
    have := k w' r z1 z3 p l e s m args below meth c D cI ad0 A Qs C E ad' H1 locs1 lsA ⟨r1.tr z2 r2, Nat.le_trans r2 z3, z4, z5, z6, z7⟩ (hL.ag z2 hlok)
    rw [List.map_append, xvs_ag z2 (lok_rest hlok)] at this
    have e2 : r.toList.map (xv ad') = (r.map (xv ad')).toList := by cases r <;> rfl
    rw [e2] at this
    exact this
set_option maxHeartbeats 4000000 in
theorem v_callS (g : XT M.1.cls idx M' np) (hd : DcAt M.2.1 pc (.invokestatic idx) 3 pc') (h : Sp R' M' As w Z') (hst : st = As.reverse ++ rest) (hnp : As.length = np) (hro : R'.frames + 1 ≤ R.frames ∧ 8 + (M'.2.2.1 + 11) + R'.locals ≤ R.locals ∧ ca + R'.cells ≤ R.cells ∧ sl + R'.slots ≤ R.slots) (hrs : (rest.map fun v => v.category).sum ≤ 8) (hlok : lok w ls rest = true)
    (k : ∀ (w' : XW) (r : Option Value), Z' w' r → w.length ≤ w'.length → Vd R ex M n0 Z (ca + R'.cells) (sl + R'.slots) pc' ls (r.toList ++ rest) w') : Vd R ex M n0 Z ca sl pc ls st w := by
  intro p l e s m args below meth c D cI ad0 A Qs C E ad H locs lsA hR hL
  obtain ⟨hd, rfl⟩ := hd
  obtain ⟨g1, g2, g3, g4, g5, g6, g7⟩ := g
  obtain ⟨hx, hb, hml, hr, hlocks, hown, hts, hnm, hK, hA, hX⟩ := id C
  obtain ⟨r1, r2, r3, hP, hD, hS⟩ := id hR
  subst hst
  have hG := good_in g6
  have hB := bmem hD hS hA
  have cb := callB_of (R := R) (own := M.1.cls) (index := idx) (y := M'.1) (bytes := M'.2.1) (maxL := M'.2.2.1) (ret := M'.2.2.2) (rm := R') np hts hG rfl rfl rfl (hts _ g5) (hts _ g4) ⟨g1, g2, g3⟩ ⟨hro.1, hro.2.1⟩
  refine vr_call (va_runS (As := As.map (xv ad)) (rest := rest.map (xv ad)) ⟨hx, hb, hml, hown, hts⟩ (h l D cI ad H.size) ⟨cb, hts _ g7⟩ ⟨xpre_blind, ?_⟩ rfl (by rw [List.length_map]; exact hnp) hL.1 (by simp [xv]) (lv_room (by rw [cat_sum]; exact hrs)) hd ⟨hro.2.2.1, hro.2.2.2⟩) hS hB hB ?_
  · intro U hU hW
    exact ⟨rfl, by rw [hU], by rw [hU]; exact hP, va_K.moved hW.alike hK, hD.weaken (fun _ _ _ _ => trivial), (by
      have := hX.to hS hU hW hB
      have e1 : (fun j => ad (SB + j)) = (fun j => ad0 (SB + j)) := funext fun j => r1 _ (Or.inr (Nat.le_add_right _ _))
      rw [e1]; exact this), r3⟩
  · intro w' r ad' H1 locs1 z1 z2 z3 z4 z5 z6 z7
    have := k w' r z1 z3 p l e s m args below meth c D cI ad0 A Qs C E ad' H1 locs1 lsA ⟨r1.tr z2 r2, Nat.le_trans r2 z3, z4, z5, z6, z7⟩ (hL.ag z2 hlok)
    rw [List.map_append, xvs_ag z2 (lok_rest hlok)] at this
    have e2 : r.toList.map (xv ad') = (r.map (xv ad')).toList := by cases r <;> rfl
    rw [e2] at this
    exact this
set_option maxHeartbeats 4000000 in
theorem v_callI (g : XI M.1.cls idx M' np) (hd : DcAt M.2.1 pc (.invokespecial idx) 3 pc') (hret : M'.2.2.2 = none) (h : Sp R' M' (.ref b :: As) w Z') (hst : st = As.reverse ++ .ref b :: rest) (hnp : As.length = np) (hro : R'.frames + 1 ≤ R.frames ∧ 8 + (M'.2.2.1 + 11) + R'.locals ≤ R.locals ∧ ca + R'.cells ≤ R.cells ∧ sl + R'.slots ≤ R.slots) (hrs : (rest.map fun v => v.category).sum ≤ 8) (hlok : lok w ls rest = true)
    (k : ∀ (w' : XW) (r : Option Value), Z' w' r → w.length ≤ w'.length → Vd R ex M n0 Z (ca + R'.cells) (sl + R'.slots) pc' ls (r.toList ++ rest) w') : Vd R ex M n0 Z ca sl pc ls st w := by
  intro p l e s m args below meth c D cI ad0 A Qs C E ad H locs lsA hR hL
  obtain ⟨hd, rfl⟩ := hd
  obtain ⟨g1, g2, g3, g4, g5, g6, g7, g8⟩ := g
  obtain ⟨hx, hb, hml, hr, hlocks, hown, hts, hnm, hK, hA, hX⟩ := id C
  obtain ⟨r1, r2, r3, hP, hD, hS⟩ := id hR
  subst hst
  have hG := good_in g6
  have hB := bmem hD hS hA
  have cb := callB_of (R := R) (own := M.1.cls) (index := idx) (y := M'.1) (bytes := M'.2.1) (maxL := M'.2.2.1) (ret := M'.2.2.2) (rm := R') np hts hG rfl rfl rfl (hts _ g5) (hts _ g4) ⟨g1, g2, g3⟩ ⟨hro.1, hro.2.1⟩
  rw [hret] at cb
  refine vr_call (va_runI (As := As.map (xv ad)) (rest := rest.map (xv ad)) (b := ad b) ⟨hx, hb, hml, hown, hts⟩ (h l D cI ad H.size) ⟨cb, g8, hts _ g7⟩ ⟨xpre_blind, ?_⟩ rfl (by rw [List.length_map]; exact hnp) hL.1 (by simp [xv]) (lv_room (by rw [cat_sum]; exact hrs)) hd ⟨hro.2.2.1, hro.2.2.2⟩) hS hB hB ?_
  · intro U hU hW
    exact ⟨by simp [xv], by rw [hU], by rw [hU]; exact hP, va_K.moved hW.alike hK, hD.weaken (fun _ _ _ _ => trivial), (by
      have := hX.to hS hU hW hB
      have e1 : (fun j => ad (SB + j)) = (fun j => ad0 (SB + j)) := funext fun j => r1 _ (Or.inr (Nat.le_add_right _ _))
      rw [e1]; exact this), r3⟩
  · intro w' r ad' H1 locs1 z1 z2 z3 z4 z5 z6 z7
    have := k w' r z1 z3 p l e s m args below meth c D cI ad0 A Qs C E ad' H1 locs1 lsA ⟨r1.tr z2 r2, Nat.le_trans r2 z3, z4, z5, z6, z7⟩ (hL.ag z2 hlok)
    rw [List.map_append, xvs_ag z2 (lok_rest hlok)] at this
    have e2 : r.toList.map (xv ad') = (r.map (xv ad')).toList := by cases r <;> rfl
    rw [e2] at this
    exact this
theorem v_objInit (hd : DcAt M.2.1 pc (.invokespecial idx) 3 pc') (hl : Cond.methodLink M.1.cls idx objectInit ∈ goodTB) (hro : 1 ≤ R.frames ∧ 20 ≤ R.locals) (hrs : (rest.map fun v => v.category).sum ≤ 8) (k : Vd R ex M n0 Z ca sl pc' ls rest w) : Vd R ex M n0 Z ca sl pc ls (.ref b :: rest) w := by
  intro p l e s m args below meth c D cI ad0 A Qs C E ad H locs lsA hR hL
  obtain ⟨hd, rfl⟩ := hd
  obtain ⟨hx, hb, hml, hr, hlocks, hown, hts, hnm, hK, hA, hX⟩ := id C
  refine W.objInit hx hb hown (hts _ hl) (hts _ oi_inst) (hts _ oi_code) rfl (by rw [hml]; exact hL.1) rfl hd hro.1 ?_ (k p l e s m args below meth c D cI ad0 A Qs C E ad H locs lsA hR hL)
  have := lv_room (m := m) (pc := pc) (ls := lsA) (rest := []) (st := rest.map (xv ad)) (by rw [cat_sum]; exact hrs)
  have h2 := hro.2
  exact Nat.le_trans (Nat.add_le_add_right this 12) h2
end VdCalls
end
section
/-! rules over whole numbers: every int of the program is 'iI z' (printed by wip/tools/gen_irules.py) -/
def iI (z : Int) : Int32 := Int32.ofInt z
abbrev J (z : Int) : Value := .int (iI z)
theorem iI_add (a b : Int) : iI a + iI b = iI (a + b) := (Int32.ofInt_add a b).symm
theorem iI_sub (a b : Int) : iI a - iI b = iI (a - b) := (Int32.ofInt_sub a b).symm
theorem iI_mul (a b : Int) : iI a * iI b = iI (a * b) := (Int32.ofInt_mul a b).symm
theorem iI_toInt {a : Int} (h : -2147483648 ≤ a ∧ a < 2147483648) : (iI a).toInt = a := Int32.toInt_ofInt_of_le (by have := h.1; simpa using this) (by have := h.2; simpa using this)
theorem iI_of (x : Int32) : x = iI x.toInt := (Int32.ofInt_toInt x).symm
theorem r32 (x : Int32) : -2147483648 ≤ x.toInt ∧ x.toInt < 2147483648 := ⟨by have := x.le_toInt; simpa using this, by have := x.toInt_lt; simpa using this⟩
theorem iI_inj {a b : Int} (ha : -2147483648 ≤ a ∧ a < 2147483648) (hb : -2147483648 ≤ b ∧ b < 2147483648) : iI a = iI b ↔ a = b := ⟨fun h => by rw [← iI_toInt ha, ← iI_toInt hb, h], fun h => by rw [h]⟩
theorem iI_lt {a b : Int} (ha : -2147483648 ≤ a ∧ a < 2147483648) (hb : -2147483648 ≤ b ∧ b < 2147483648) : iI a < iI b ↔ a < b := by rw [Int32.lt_iff_toInt_lt, iI_toInt ha, iI_toInt hb]
theorem iI_le {a b : Int} (ha : -2147483648 ≤ a ∧ a < 2147483648) (hb : -2147483648 ≤ b ∧ b < 2147483648) : iI a ≤ iI b ↔ a ≤ b := by rw [Int32.le_iff_toInt_le, iI_toInt ha, iI_toInt hb]
theorem iI_0 : (0 : Int32) = iI 0 := rfl
theorem iI_nat (n : Nat) : Int32.ofNat n = iI n := (Int32.ofInt_eq_ofNat).symm
theorem iI_clamp {a : Int} (h : 0 ≤ a ∧ a < 2147483648) : (iI a).toNatClampNeg = a.toNat := Int32.toNatClampNeg_ofInt_of_le (by omega) (by have := h.2; simpa using this)
theorem iI_in {a : Int} {N : Nat} (h : 0 ≤ a ∧ a < N) (hN : N < 2147483648) : vp_in (iI a) N := vp_in_iff.mpr (by rw [iI_toInt (by omega)]; exact h)
/-- what an int array holds -/
def ia (g : Int → Int) : Nat → Int32 := fun k => iI (g k)
def uI (g : Int → Int) (j v : Int) : Int → Int := fun i => if i = j then v else g i
theorem ia_at {g : Int → Int} {a : Int} (h : 0 ≤ a) : ia g a.toNat = iI (g a) := by unfold ia; rw [Int.toNat_of_nonneg h]
theorem ia_up {g : Int → Int} {j v : Int} (h : 0 ≤ j) : upd (ia g) j.toNat (iI v) = ia (uI g j v) := by
  funext k
  simp only [upd, ia, uI]
  by_cases hk : k = j.toNat
  · subst hk
    simp [Int.toNat_of_nonneg h]
  · have : ¬ (k : Int) = j := fun q => hk (by omega)
    simp [hk, this]
theorem uI_s {g : Int → Int} {j v : Int} : uI g j v j = v := by simp [uI]
theorem uI_n {g : Int → Int} {i j v : Int} (h : i ≠ j) : uI g j v i = g i := by simp [uI, h]
section VdInts
variable {R : Room} {ex : List (Nat × (Nat → Int32))} {M : MI} {n0 : Nat} {Z : XW → Option Value → Prop} {ca sl pc pc' : Nat} {ls : List (Option Value)} {st : List Value} {w : XW} {a b n : Int} {off : Int} {tgt : Nat}
theorem vi_const (hd : DcAt M.2.1 pc (.iconst n) 1 pc') (k : Vd R ex M n0 Z ca sl pc' ls (J n :: st) w) : Vd R ex M n0 Z ca sl pc ls (st) w := v_iconst hd rfl k
theorem vi_bi (hd : DcAt M.2.1 pc (.bipush n) 2 pc') (hv : (Int8.ofInt n).toInt32 = iI n) (k : Vd R ex M n0 Z ca sl pc' ls (J n :: st) w) : Vd R ex M n0 Z ca sl pc ls (st) w := v_bipush hd hv k
theorem vi_si (hd : DcAt M.2.1 pc (.sipush n) 3 pc') (hv : (Int16.ofInt n).toInt32 = iI n) (k : Vd R ex M n0 Z ca sl pc' ls (J n :: st) w) : Vd R ex M n0 Z ca sl pc ls (st) w := v_sipush hd hv k
theorem vi_add (hd : DcAt M.2.1 pc .iadd 1 pc') (k : Vd R ex M n0 Z ca sl pc' ls (J (a + b) :: st) w) : Vd R ex M n0 Z ca sl pc ls (J b :: J a :: st) w := v_iadd hd (by rw [iI_add]; exact k)
theorem vi_sub (hd : DcAt M.2.1 pc .isub 1 pc') (k : Vd R ex M n0 Z ca sl pc' ls (J (a - b) :: st) w) : Vd R ex M n0 Z ca sl pc ls (J b :: J a :: st) w := v_isub hd (by rw [iI_sub]; exact k)
theorem vi_mul (hd : DcAt M.2.1 pc .imul 1 pc') (k : Vd R ex M n0 Z ca sl pc' ls (J (a * b) :: st) w) : Vd R ex M n0 Z ca sl pc ls (J b :: J a :: st) w := v_imul hd (by rw [iI_mul]; exact k)
theorem iI_div (ha : -2147483648 < a ∧ a < 2147483648) (hb : 0 < b ∧ b < 2147483648) : iI a / iI b = iI (a.tdiv b) := by
  apply Int32.toInt_inj.mp
  have h1 : iI b ≠ -1 := by
    intro h
    have h2 : (iI b).toInt = (-1 : Int32).toInt := by rw [h]
    rw [iI_toInt (by omega)] at h2
    have h3 : (-1 : Int32).toInt = -1 := by decide
    omega
  rw [Int32.toInt_div_of_ne_right _ _ h1, iI_toInt (by omega), iI_toInt (by omega), iI_toInt]
  have : a.tdiv b = a.tdiv b := rfl
  have h4 : (a.tdiv b).natAbs ≤ a.natAbs := by rw [Int.natAbs_tdiv]; exact Nat.div_le_self _ _
  omega
theorem vi_div (ha : -2147483648 < a ∧ a < 2147483648) (hb : 0 < b ∧ b < 2147483648) (hd : DcAt M.2.1 pc .idiv 1 pc') (k : Vd R ex M n0 Z ca sl pc' ls (J (a.tdiv b) :: st) w) : Vd R ex M n0 Z ca sl pc ls (J b :: J a :: st) w := v_idiv hd (fun h => by
  have h2 := (iI_inj (a := b) (b := 0) (by omega) (by omega)).mp h
  omega) (by rw [iI_div ha hb]; exact k)
theorem vi_rem (ha : -2147483648 < a ∧ a < 2147483648) (hb : 0 < b ∧ b < 2147483648) (hd : DcAt M.2.1 pc .irem 1 pc') (k : Vd R ex M n0 Z ca sl pc' ls (J (a.tmod b) :: st) w) : Vd R ex M n0 Z ca sl pc ls (J b :: J a :: st) w := v_irem hd (fun h => by
  have h2 := (iI_inj (a := b) (b := 0) (by omega) (by omega)).mp h
  omega) (by
  have e : a - a.tdiv b * b = a.tmod b := by have := Int.mul_tdiv_add_tmod a b; rw [Int.mul_comm] at this; omega
  rw [iI_div ha hb, iI_mul, iI_sub, e]; exact k)
theorem vi_if_eq (hd : DcAt M.2.1 pc (.ifCond .eq off) 3 pc') (ht : (pc : Int) + off = (tgt : Int)) (ha : -2147483648 ≤ a ∧ a < 2147483648) (kt : a = 0 → Vd R ex M n0 Z ca sl tgt ls (st) w) (kf : ¬ a = 0 → Vd R ex M n0 Z ca sl pc' ls (st) w) : Vd R ex M n0 Z ca sl pc ls (J a :: st) w := v_if_eq hd ht (fun q => kt (by first | exact (iI_inj ha (b := 0) (by decide)).mp q | exact fun h => q ((iI_inj ha (b := 0) (by decide)).mpr h))) (fun q => kf (by first | exact (iI_inj ha (b := 0) (by decide)).mp q | exact fun h => q ((iI_inj ha (b := 0) (by decide)).mpr h) | (have h9 : ¬ _ := fun h => q ((iI_inj ha (b := 0) (by decide)).mpr h); omega)))
theorem vi_if_ne (hd : DcAt M.2.1 pc (.ifCond .ne off) 3 pc') (ht : (pc : Int) + off = (tgt : Int)) (ha : -2147483648 ≤ a ∧ a < 2147483648) (kt : ¬ a = 0 → Vd R ex M n0 Z ca sl tgt ls (st) w) (kf : a = 0 → Vd R ex M n0 Z ca sl pc' ls (st) w) : Vd R ex M n0 Z ca sl pc ls (J a :: st) w := v_if_ne hd ht (fun q => kt (by first | exact (iI_inj ha (b := 0) (by decide)).mp q | exact fun h => q ((iI_inj ha (b := 0) (by decide)).mpr h))) (fun q => kf (by first | exact (iI_inj ha (b := 0) (by decide)).mp q | exact fun h => q ((iI_inj ha (b := 0) (by decide)).mpr h) | (have h9 : ¬ _ := fun h => q ((iI_inj ha (b := 0) (by decide)).mpr h); omega)))
theorem vi_if_lt (hd : DcAt M.2.1 pc (.ifCond .lt off) 3 pc') (ht : (pc : Int) + off = (tgt : Int)) (ha : -2147483648 ≤ a ∧ a < 2147483648) (kt : a < 0 → Vd R ex M n0 Z ca sl tgt ls (st) w) (kf : 0 ≤ a → Vd R ex M n0 Z ca sl pc' ls (st) w) : Vd R ex M n0 Z ca sl pc ls (J a :: st) w := v_if_lt hd ht (fun q => kt (by first | exact (iI_lt ha (b := 0) (by decide)).mp q | exact fun h => q ((iI_lt ha (b := 0) (by decide)).mpr h))) (fun q => kf (by first | exact (iI_lt ha (b := 0) (by decide)).mp q | exact fun h => q ((iI_lt ha (b := 0) (by decide)).mpr h) | (have h9 : ¬ _ := fun h => q ((iI_lt ha (b := 0) (by decide)).mpr h); omega)))
theorem vi_if_ge (hd : DcAt M.2.1 pc (.ifCond .ge off) 3 pc') (ht : (pc : Int) + off = (tgt : Int)) (ha : -2147483648 ≤ a ∧ a < 2147483648) (kt : 0 ≤ a → Vd R ex M n0 Z ca sl tgt ls (st) w) (kf : a < 0 → Vd R ex M n0 Z ca sl pc' ls (st) w) : Vd R ex M n0 Z ca sl pc ls (J a :: st) w := v_if_ge hd ht (fun q => kt (by first | exact (iI_le (a := 0) (by decide) ha).mp q | exact fun h => q ((iI_le (a := 0) (by decide) ha).mpr h))) (fun q => kf (by first | exact (iI_le (a := 0) (by decide) ha).mp q | exact fun h => q ((iI_le (a := 0) (by decide) ha).mpr h) | (have h9 : ¬ _ := fun h => q ((iI_le (a := 0) (by decide) ha).mpr h); omega)))
theorem vi_if_gt (hd : DcAt M.2.1 pc (.ifCond .gt off) 3 pc') (ht : (pc : Int) + off = (tgt : Int)) (ha : -2147483648 ≤ a ∧ a < 2147483648) (kt : 0 < a → Vd R ex M n0 Z ca sl tgt ls (st) w) (kf : a ≤ 0 → Vd R ex M n0 Z ca sl pc' ls (st) w) : Vd R ex M n0 Z ca sl pc ls (J a :: st) w := v_if_gt hd ht (fun q => kt (by first | exact (iI_lt (a := 0) (by decide) ha).mp q | exact fun h => q ((iI_lt (a := 0) (by decide) ha).mpr h))) (fun q => kf (by first | exact (iI_lt (a := 0) (by decide) ha).mp q | exact fun h => q ((iI_lt (a := 0) (by decide) ha).mpr h) | (have h9 : ¬ _ := fun h => q ((iI_lt (a := 0) (by decide) ha).mpr h); omega)))
theorem vi_if_le (hd : DcAt M.2.1 pc (.ifCond .le off) 3 pc') (ht : (pc : Int) + off = (tgt : Int)) (ha : -2147483648 ≤ a ∧ a < 2147483648) (kt : a ≤ 0 → Vd R ex M n0 Z ca sl tgt ls (st) w) (kf : 0 < a → Vd R ex M n0 Z ca sl pc' ls (st) w) : Vd R ex M n0 Z ca sl pc ls (J a :: st) w := v_if_le hd ht (fun q => kt (by first | exact (iI_le ha (b := 0) (by decide)).mp q | exact fun h => q ((iI_le ha (b := 0) (by decide)).mpr h))) (fun q => kf (by first | exact (iI_le ha (b := 0) (by decide)).mp q | exact fun h => q ((iI_le ha (b := 0) (by decide)).mpr h) | (have h9 : ¬ _ := fun h => q ((iI_le ha (b := 0) (by decide)).mpr h); omega)))
theorem vi_icmp_eq (hd : DcAt M.2.1 pc (.if_icmp .eq off) 3 pc') (ht : (pc : Int) + off = (tgt : Int)) (ha : -2147483648 ≤ a ∧ a < 2147483648) (hb : -2147483648 ≤ b ∧ b < 2147483648) (kt : a = b → Vd R ex M n0 Z ca sl tgt ls (st) w) (kf : ¬ a = b → Vd R ex M n0 Z ca sl pc' ls (st) w) : Vd R ex M n0 Z ca sl pc ls (J b :: J a :: st) w := v_icmp_eq hd ht (fun q => kt (by first | exact (iI_inj ha hb).mp q | exact fun h => q ((iI_inj ha hb).mpr h))) (fun q => kf (by first | exact (iI_inj ha hb).mp q | exact fun h => q ((iI_inj ha hb).mpr h) | (have h9 : ¬ _ := fun h => q ((iI_inj ha hb).mpr h); omega)))
theorem vi_icmp_ne (hd : DcAt M.2.1 pc (.if_icmp .ne off) 3 pc') (ht : (pc : Int) + off = (tgt : Int)) (ha : -2147483648 ≤ a ∧ a < 2147483648) (hb : -2147483648 ≤ b ∧ b < 2147483648) (kt : ¬ a = b → Vd R ex M n0 Z ca sl tgt ls (st) w) (kf : a = b → Vd R ex M n0 Z ca sl pc' ls (st) w) : Vd R ex M n0 Z ca sl pc ls (J b :: J a :: st) w := v_icmp_ne hd ht (fun q => kt (by first | exact (iI_inj ha hb).mp q | exact fun h => q ((iI_inj ha hb).mpr h))) (fun q => kf (by first | exact (iI_inj ha hb).mp q | exact fun h => q ((iI_inj ha hb).mpr h) | (have h9 : ¬ _ := fun h => q ((iI_inj ha hb).mpr h); omega)))
theorem vi_icmp_lt (hd : DcAt M.2.1 pc (.if_icmp .lt off) 3 pc') (ht : (pc : Int) + off = (tgt : Int)) (ha : -2147483648 ≤ a ∧ a < 2147483648) (hb : -2147483648 ≤ b ∧ b < 2147483648) (kt : a < b → Vd R ex M n0 Z ca sl tgt ls (st) w) (kf : b ≤ a → Vd R ex M n0 Z ca sl pc' ls (st) w) : Vd R ex M n0 Z ca sl pc ls (J b :: J a :: st) w := v_icmp_lt hd ht (fun q => kt (by first | exact (iI_lt ha hb).mp q | exact fun h => q ((iI_lt ha hb).mpr h))) (fun q => kf (by first | exact (iI_lt ha hb).mp q | exact fun h => q ((iI_lt ha hb).mpr h) | (have h9 : ¬ _ := fun h => q ((iI_lt ha hb).mpr h); omega)))
theorem vi_icmp_ge (hd : DcAt M.2.1 pc (.if_icmp .ge off) 3 pc') (ht : (pc : Int) + off = (tgt : Int)) (ha : -2147483648 ≤ a ∧ a < 2147483648) (hb : -2147483648 ≤ b ∧ b < 2147483648) (kt : b ≤ a → Vd R ex M n0 Z ca sl tgt ls (st) w) (kf : a < b → Vd R ex M n0 Z ca sl pc' ls (st) w) : Vd R ex M n0 Z ca sl pc ls (J b :: J a :: st) w := v_icmp_ge hd ht (fun q => kt (by first | exact (iI_le hb ha).mp q | exact fun h => q ((iI_le hb ha).mpr h))) (fun q => kf (by first | exact (iI_le hb ha).mp q | exact fun h => q ((iI_le hb ha).mpr h) | (have h9 : ¬ _ := fun h => q ((iI_le hb ha).mpr h); omega)))
theorem vi_icmp_gt (hd : DcAt M.2.1 pc (.if_icmp .gt off) 3 pc') (ht : (pc : Int) + off = (tgt : Int)) (ha : -2147483648 ≤ a ∧ a < 2147483648) (hb : -2147483648 ≤ b ∧ b < 2147483648) (kt : b < a → Vd R ex M n0 Z ca sl tgt ls (st) w) (kf : a ≤ b → Vd R ex M n0 Z ca sl pc' ls (st) w) : Vd R ex M n0 Z ca sl pc ls (J b :: J a :: st) w := v_icmp_gt hd ht (fun q => kt (by first | exact (iI_lt hb ha).mp q | exact fun h => q ((iI_lt hb ha).mpr h))) (fun q => kf (by first | exact (iI_lt hb ha).mp q | exact fun h => q ((iI_lt hb ha).mpr h) | (have h9 : ¬ _ := fun h => q ((iI_lt hb ha).mpr h); omega)))
theorem vi_icmp_le (hd : DcAt M.2.1 pc (.if_icmp .le off) 3 pc') (ht : (pc : Int) + off = (tgt : Int)) (ha : -2147483648 ≤ a ∧ a < 2147483648) (hb : -2147483648 ≤ b ∧ b < 2147483648) (kt : a ≤ b → Vd R ex M n0 Z ca sl tgt ls (st) w) (kf : b < a → Vd R ex M n0 Z ca sl pc' ls (st) w) : Vd R ex M n0 Z ca sl pc ls (J b :: J a :: st) w := v_icmp_le hd ht (fun q => kt (by first | exact (iI_le ha hb).mp q | exact fun h => q ((iI_le ha hb).mpr h))) (fun q => kf (by first | exact (iI_le ha hb).mp q | exact fun h => q ((iI_le ha hb).mpr h) | (have h9 : ¬ _ := fun h => q ((iI_le ha hb).mpr h); omega)))
theorem vi_inc {i : Nat} (hd : DcAt M.2.1 pc (.iinc i n) 3 pc') (hl : ls[i]? = some (some (J a))) (hn : i < M.2.2.1) (k : Vd R ex M n0 Z ca sl pc' (ls.set i (some (J (a + n)))) (st) w) : Vd R ex M n0 Z ca sl pc ls (st) w := v_iinc hd hl (v := iI (a + n)) (iI_add a n) hn k
theorem vi_aload {p N : Nat} {g : Int → Int} (hd : DcAt M.2.1 pc .iaload 1 pc') (hw : w[p]? = some (.inl (N, ia g))) (hi : 0 ≤ a ∧ a < N) (hN : N < 2147483648) (k : Vd R ex M n0 Z ca sl pc' ls (J (g a) :: st) w) : Vd R ex M n0 Z ca sl pc ls (J a :: .ref p :: st) w := v_iaload hd hw (iI_in hi hN) (by rw [iI_clamp (by omega), ia_at hi.1]) k
theorem vi_astore {p N : Nat} {g : Int → Int} (hd : DcAt M.2.1 pc .iastore 1 pc') (hw : w[p]? = some (.inl (N, ia g))) (hi : 0 ≤ a ∧ a < N) (hN : N < 2147483648) (k : Vd R ex M n0 Z ca sl pc' ls (st) (w.set p (.inl (N, ia (uI g a b))))) : Vd R ex M n0 Z ca sl pc ls (J b :: J a :: .ref p :: st) w := v_iastore hd hw (iI_in hi hN) (by rw [iI_clamp (by omega), ia_up hi.1]; exact k)
theorem vi_alen {p N : Nat} {g : Nat → Int32} (hd : DcAt M.2.1 pc .arraylength 1 pc') (hw : w[p]? = some (.inl (N, g))) (k : Vd R ex M n0 Z ca sl pc' ls (J N :: st) w) : Vd R ex M n0 Z ca sl pc ls (.ref p :: st) w := v_alen hd hw (iI_nat N) k
theorem vi_sald {j N : Nat} {f : Nat → Int32} {x : Int} (hd : DcAt M.2.1 pc .iaload 1 pc') (hj : (RO0 ++ ex)[j]? = some (N, f)) (hi : 0 ≤ a ∧ a < N) (hN : N < 2147483648) (hx : f a.toNat = iI x) (k : Vd R ex M n0 Z ca sl pc' ls (J x :: st) w) : Vd R ex M n0 Z ca sl pc ls (J a :: .ref (SB + j) :: st) w := v_sald hd hj (iI_in hi hN) (by rw [iI_clamp (by omega), hx]) k
theorem vi_slen {j N : Nat} {f : Nat → Int32} (hd : DcAt M.2.1 pc .arraylength 1 pc') (hj : (RO0 ++ ex)[j]? = some (N, f)) (k : Vd R ex M n0 Z ca sl pc' ls (J N :: st) w) : Vd R ex M n0 Z ca sl pc ls (.ref (SB + j) :: st) w := v_slen hd hj (iI_nat N) k
theorem nar_i (x : Int32) : narrow .int (.int x) = .int x := rfl
theorem vi_put {idx ci fk p : Nat} {fs : List Value} (g : XG M.1.cls idx ci fk .int false) (hd : DcAt M.2.1 pc (.putfield idx) 3 pc') (hw : w[p]? = some (.inr (ci, fs))) (hl : fk < fs.length) (k : Vd R ex M n0 Z ca sl pc' ls (st) (w.set p (.inr (ci, fs.set fk (J a))))) : Vd R ex M n0 Z ca sl pc ls (J a :: .ref p :: st) w := v_puti g hd hw hl rfl rfl k
/-- a boolean field: 0 or 1 -/
theorem vi_putz {idx ci fk p : Nat} {fs : List Value} (g : XG M.1.cls idx ci fk .boolean false) (hd : DcAt M.2.1 pc (.putfield idx) 3 pc') (hw : w[p]? = some (.inr (ci, fs))) (hl : fk < fs.length) (hz : a = 0 ∨ a = 1) (k : Vd R ex M n0 Z ca sl pc' ls (st) (w.set p (.inr (ci, fs.set fk (J a))))) : Vd R ex M n0 Z ca sl pc ls (J a :: .ref p :: st) w := v_puti g hd hw hl (by rcases hz with rfl | rfl <;> decide) (by rcases hz with rfl | rfl <;> decide) k
theorem vi_ret (hd : DcAt M.2.1 pc .ireturn 1 pc') (ht : M.2.2.2 = some .int) (hc : ca ≤ R.cells ∧ sl ≤ R.slots) (hz : Z w (some (J a))) : Vd R ex M n0 Z ca sl pc ls (J a :: []) w := v_ireturn hd (Or.inl ht) hc.1 hc.2 hz
theorem vi_retz (hd : DcAt M.2.1 pc .ireturn 1 pc') (ht : M.2.2.2 = some .boolean) (hb : a = 0 ∨ a = 1) (hc : ca ≤ R.cells ∧ sl ≤ R.slots) (hz : Z w (some (J a))) : Vd R ex M n0 Z ca sl pc ls (J a :: []) w := v_ireturn hd (Or.inr ⟨ht, hb.elim (fun h => Or.inl (by rw [h]; rfl)) (fun h => Or.inr (by rw [h]; rfl))⟩) hc.1 hc.2 hz
theorem vi_vret (hd : DcAt M.2.1 pc .return_ 1 pc') (ht : M.2.2.2 = none) (hc : ca ≤ R.cells ∧ sl ≤ R.slots) (hz : Z w none) : Vd R ex M n0 Z ca sl pc ls ([]) w := v_return hd ht hc.1 hc.2 hz
theorem vi_aret {p : Nat} (hd : DcAt M.2.1 pc .areturn 1 pc') (ht : ∃ C, M.2.2.2 = some (.object C)) (hc : ca ≤ R.cells ∧ sl ≤ R.slots) (hz : Z w (some (.ref p))) : Vd R ex M n0 Z ca sl pc ls (.ref p :: []) w := v_areturn hd ht hc.1 hc.2 hz
end VdInts
section VdCallsN
variable {R : Room} {ex : List (Nat × (Nat → Int32))} {M M' : MI} {n0 : Nat} {Z Z' : XW → Option Value → Prop} {ca sl pc pc' idx np b fr lo : Nat} {ls : List (Option Value)} {rest : List Value} {w w' : XW} {a1 a2 a3 a4 a5 v : Value}
theorem v_V0r {ci : Nat} {fs : List Value} (h : Sd (rm fr lo 0 0) M' [.ref b] w w' (some v)) (g : XV M.1.cls idx M' 0) (hd : DcAt M.2.1 pc (.invokevirtual idx) 3 pc') (hw : w[b]? = some (.inr (ci, fs))) (hcl : (vwCl[ci]?).map (fun q => q.1) = some M'.1.cls) (hro : fr + 1 ≤ R.frames ∧ 8 + (M'.2.2.1 + 11) + lo ≤ R.locals ∧ ca ≤ R.cells ∧ sl ≤ R.slots) (hrs : (rest.map fun v => v.category).sum ≤ 8) (hlok : lok w ls rest = true) (k : Vd R ex M n0 Z ca sl pc' ls (v :: rest) w') : Vd R ex M n0 Z ca sl pc ls (.ref b :: rest) w := v_callV (As := []) g hd h rfl rfl hw hcl hro hrs hlok (fun x r hz _ => by obtain ⟨rfl, rfl⟩ := hz; exact k)
theorem v_S0r (h : Sd (rm fr lo 0 0) M' [] w w' (some v)) (g : XT M.1.cls idx M' 0) (hd : DcAt M.2.1 pc (.invokestatic idx) 3 pc') (hro : fr + 1 ≤ R.frames ∧ 8 + (M'.2.2.1 + 11) + lo ≤ R.locals ∧ ca ≤ R.cells ∧ sl ≤ R.slots) (hrs : (rest.map fun v => v.category).sum ≤ 8) (hlok : lok w ls rest = true) (k : Vd R ex M n0 Z ca sl pc' ls (v :: rest) w') : Vd R ex M n0 Z ca sl pc ls (rest) w := v_callS (As := []) g hd h rfl rfl hro hrs hlok (fun x r hz _ => by obtain ⟨rfl, rfl⟩ := hz; exact k)
theorem v_V0v {ci : Nat} {fs : List Value} (h : Sd (rm fr lo 0 0) M' [.ref b] w w' none) (g : XV M.1.cls idx M' 0) (hd : DcAt M.2.1 pc (.invokevirtual idx) 3 pc') (hw : w[b]? = some (.inr (ci, fs))) (hcl : (vwCl[ci]?).map (fun q => q.1) = some M'.1.cls) (hro : fr + 1 ≤ R.frames ∧ 8 + (M'.2.2.1 + 11) + lo ≤ R.locals ∧ ca ≤ R.cells ∧ sl ≤ R.slots) (hrs : (rest.map fun v => v.category).sum ≤ 8) (hlok : lok w ls rest = true) (k : Vd R ex M n0 Z ca sl pc' ls (rest) w') : Vd R ex M n0 Z ca sl pc ls (.ref b :: rest) w := v_callV (As := []) g hd h rfl rfl hw hcl hro hrs hlok (fun x r hz _ => by obtain ⟨rfl, rfl⟩ := hz; exact k)
theorem v_S0v (h : Sd (rm fr lo 0 0) M' [] w w' none) (g : XT M.1.cls idx M' 0) (hd : DcAt M.2.1 pc (.invokestatic idx) 3 pc') (hro : fr + 1 ≤ R.frames ∧ 8 + (M'.2.2.1 + 11) + lo ≤ R.locals ∧ ca ≤ R.cells ∧ sl ≤ R.slots) (hrs : (rest.map fun v => v.category).sum ≤ 8) (hlok : lok w ls rest = true) (k : Vd R ex M n0 Z ca sl pc' ls (rest) w') : Vd R ex M n0 Z ca sl pc ls (rest) w := v_callS (As := []) g hd h rfl rfl hro hrs hlok (fun x r hz _ => by obtain ⟨rfl, rfl⟩ := hz; exact k)
theorem v_V0p {ci : Nat} {fs : List Value} (h : Sp (rm fr lo 0 0) M' [.ref b] w Z') (g : XV M.1.cls idx M' 0) (hd : DcAt M.2.1 pc (.invokevirtual idx) 3 pc') (hw : w[b]? = some (.inr (ci, fs))) (hcl : (vwCl[ci]?).map (fun q => q.1) = some M'.1.cls) (hro : fr + 1 ≤ R.frames ∧ 8 + (M'.2.2.1 + 11) + lo ≤ R.locals ∧ ca ≤ R.cells ∧ sl ≤ R.slots) (hrs : (rest.map fun v => v.category).sum ≤ 8) (hlok : lok w ls rest = true) (k : ∀ (x : XW) (r : Option Value), Z' x r → Vd R ex M n0 Z ca sl pc' ls (r.toList ++ rest) x) : Vd R ex M n0 Z ca sl pc ls (.ref b :: rest) w := v_callV (As := []) g hd h rfl rfl hw hcl hro hrs hlok (fun x r hz _ => k x r hz)
theorem v_S0p (h : Sp (rm fr lo 0 0) M' [] w Z') (g : XT M.1.cls idx M' 0) (hd : DcAt M.2.1 pc (.invokestatic idx) 3 pc') (hro : fr + 1 ≤ R.frames ∧ 8 + (M'.2.2.1 + 11) + lo ≤ R.locals ∧ ca ≤ R.cells ∧ sl ≤ R.slots) (hrs : (rest.map fun v => v.category).sum ≤ 8) (hlok : lok w ls rest = true) (k : ∀ (x : XW) (r : Option Value), Z' x r → Vd R ex M n0 Z ca sl pc' ls (r.toList ++ rest) x) : Vd R ex M n0 Z ca sl pc ls (rest) w := v_callS (As := []) g hd h rfl rfl hro hrs hlok (fun x r hz _ => k x r hz)
theorem v_V1r {ci : Nat} {fs : List Value} (h : Sd (rm fr lo 0 0) M' [.ref b, a1] w w' (some v)) (g : XV M.1.cls idx M' 1) (hd : DcAt M.2.1 pc (.invokevirtual idx) 3 pc') (hw : w[b]? = some (.inr (ci, fs))) (hcl : (vwCl[ci]?).map (fun q => q.1) = some M'.1.cls) (hro : fr + 1 ≤ R.frames ∧ 8 + (M'.2.2.1 + 11) + lo ≤ R.locals ∧ ca ≤ R.cells ∧ sl ≤ R.slots) (hrs : (rest.map fun v => v.category).sum ≤ 8) (hlok : lok w ls rest = true) (k : Vd R ex M n0 Z ca sl pc' ls (v :: rest) w') : Vd R ex M n0 Z ca sl pc ls (a1 :: .ref b :: rest) w := v_callV (As := [a1]) g hd h rfl rfl hw hcl hro hrs hlok (fun x r hz _ => by obtain ⟨rfl, rfl⟩ := hz; exact k)
theorem v_S1r (h : Sd (rm fr lo 0 0) M' [a1] w w' (some v)) (g : XT M.1.cls idx M' 1) (hd : DcAt M.2.1 pc (.invokestatic idx) 3 pc') (hro : fr + 1 ≤ R.frames ∧ 8 + (M'.2.2.1 + 11) + lo ≤ R.locals ∧ ca ≤ R.cells ∧ sl ≤ R.slots) (hrs : (rest.map fun v => v.category).sum ≤ 8) (hlok : lok w ls rest = true) (k : Vd R ex M n0 Z ca sl pc' ls (v :: rest) w') : Vd R ex M n0 Z ca sl pc ls (a1 :: rest) w := v_callS (As := [a1]) g hd h rfl rfl hro hrs hlok (fun x r hz _ => by obtain ⟨rfl, rfl⟩ := hz; exact k)
theorem v_V1v {ci : Nat} {fs : List Value} (h : Sd (rm fr lo 0 0) M' [.ref b, a1] w w' none) (g : XV M.1.cls idx M' 1) (hd : DcAt M.2.1 pc (.invokevirtual idx) 3 pc') (hw : w[b]? = some (.inr (ci, fs))) (hcl : (vwCl[ci]?).map (fun q => q.1) = some M'.1.cls) (hro : fr + 1 ≤ R.frames ∧ 8 + (M'.2.2.1 + 11) + lo ≤ R.locals ∧ ca ≤ R.cells ∧ sl ≤ R.slots) (hrs : (rest.map fun v => v.category).sum ≤ 8) (hlok : lok w ls rest = true) (k : Vd R ex M n0 Z ca sl pc' ls (rest) w') : Vd R ex M n0 Z ca sl pc ls (a1 :: .ref b :: rest) w := v_callV (As := [a1]) g hd h rfl rfl hw hcl hro hrs hlok (fun x r hz _ => by obtain ⟨rfl, rfl⟩ := hz; exact k)
theorem v_S1v (h : Sd (rm fr lo 0 0) M' [a1] w w' none) (g : XT M.1.cls idx M' 1) (hd : DcAt M.2.1 pc (.invokestatic idx) 3 pc') (hro : fr + 1 ≤ R.frames ∧ 8 + (M'.2.2.1 + 11) + lo ≤ R.locals ∧ ca ≤ R.cells ∧ sl ≤ R.slots) (hrs : (rest.map fun v => v.category).sum ≤ 8) (hlok : lok w ls rest = true) (k : Vd R ex M n0 Z ca sl pc' ls (rest) w') : Vd R ex M n0 Z ca sl pc ls (a1 :: rest) w := v_callS (As := [a1]) g hd h rfl rfl hro hrs hlok (fun x r hz _ => by obtain ⟨rfl, rfl⟩ := hz; exact k)
theorem v_V1p {ci : Nat} {fs : List Value} (h : Sp (rm fr lo 0 0) M' [.ref b, a1] w Z') (g : XV M.1.cls idx M' 1) (hd : DcAt M.2.1 pc (.invokevirtual idx) 3 pc') (hw : w[b]? = some (.inr (ci, fs))) (hcl : (vwCl[ci]?).map (fun q => q.1) = some M'.1.cls) (hro : fr + 1 ≤ R.frames ∧ 8 + (M'.2.2.1 + 11) + lo ≤ R.locals ∧ ca ≤ R.cells ∧ sl ≤ R.slots) (hrs : (rest.map fun v => v.category).sum ≤ 8) (hlok : lok w ls rest = true) (k : ∀ (x : XW) (r : Option Value), Z' x r → Vd R ex M n0 Z ca sl pc' ls (r.toList ++ rest) x) : Vd R ex M n0 Z ca sl pc ls (a1 :: .ref b :: rest) w := v_callV (As := [a1]) g hd h rfl rfl hw hcl hro hrs hlok (fun x r hz _ => k x r hz)
theorem v_S1p (h : Sp (rm fr lo 0 0) M' [a1] w Z') (g : XT M.1.cls idx M' 1) (hd : DcAt M.2.1 pc (.invokestatic idx) 3 pc') (hro : fr + 1 ≤ R.frames ∧ 8 + (M'.2.2.1 + 11) + lo ≤ R.locals ∧ ca ≤ R.cells ∧ sl ≤ R.slots) (hrs : (rest.map fun v => v.category).sum ≤ 8) (hlok : lok w ls rest = true) (k : ∀ (x : XW) (r : Option Value), Z' x r → Vd R ex M n0 Z ca sl pc' ls (r.toList ++ rest) x) : Vd R ex M n0 Z ca sl pc ls (a1 :: rest) w := v_callS (As := [a1]) g hd h rfl rfl hro hrs hlok (fun x r hz _ => k x r hz)
theorem v_V2r {ci : Nat} {fs : List Value} (h : Sd (rm fr lo 0 0) M' [.ref b, a1, a2] w w' (some v)) (g : XV M.1.cls idx M' 2) (hd : DcAt M.2.1 pc (.invokevirtual idx) 3 pc') (hw : w[b]? = some (.inr (ci, fs))) (hcl : (vwCl[ci]?).map (fun q => q.1) = some M'.1.cls) (hro : fr + 1 ≤ R.frames ∧ 8 + (M'.2.2.1 + 11) + lo ≤ R.locals ∧ ca ≤ R.cells ∧ sl ≤ R.slots) (hrs : (rest.map fun v => v.category).sum ≤ 8) (hlok : lok w ls rest = true) (k : Vd R ex M n0 Z ca sl pc' ls (v :: rest) w') : Vd R ex M n0 Z ca sl pc ls (a2 :: a1 :: .ref b :: rest) w := v_callV (As := [a1, a2]) g hd h rfl rfl hw hcl hro hrs hlok (fun x r hz _ => by obtain ⟨rfl, rfl⟩ := hz; exact k)
theorem v_S2r (h : Sd (rm fr lo 0 0) M' [a1, a2] w w' (some v)) (g : XT M.1.cls idx M' 2) (hd : DcAt M.2.1 pc (.invokestatic idx) 3 pc') (hro : fr + 1 ≤ R.frames ∧ 8 + (M'.2.2.1 + 11) + lo ≤ R.locals ∧ ca ≤ R.cells ∧ sl ≤ R.slots) (hrs : (rest.map fun v => v.category).sum ≤ 8) (hlok : lok w ls rest = true) (k : Vd R ex M n0 Z ca sl pc' ls (v :: rest) w') : Vd R ex M n0 Z ca sl pc ls (a2 :: a1 :: rest) w := v_callS (As := [a1, a2]) g hd h rfl rfl hro hrs hlok (fun x r hz _ => by obtain ⟨rfl, rfl⟩ := hz; exact k)
theorem v_V2v {ci : Nat} {fs : List Value} (h : Sd (rm fr lo 0 0) M' [.ref b, a1, a2] w w' none) (g : XV M.1.cls idx M' 2) (hd : DcAt M.2.1 pc (.invokevirtual idx) 3 pc') (hw : w[b]? = some (.inr (ci, fs))) (hcl : (vwCl[ci]?).map (fun q => q.1) = some M'.1.cls) (hro : fr + 1 ≤ R.frames ∧ 8 + (M'.2.2.1 + 11) + lo ≤ R.locals ∧ ca ≤ R.cells ∧ sl ≤ R.slots) (hrs : (rest.map fun v => v.category).sum ≤ 8) (hlok : lok w ls rest = true) (k : Vd R ex M n0 Z ca sl pc' ls (rest) w') : Vd R ex M n0 Z ca sl pc ls (a2 :: a1 :: .ref b :: rest) w := v_callV (As := [a1, a2]) g hd h rfl rfl hw hcl hro hrs hlok (fun x r hz _ => by obtain ⟨rfl, rfl⟩ := hz; exact k)
theorem v_S2v (h : Sd (rm fr lo 0 0) M' [a1, a2] w w' none) (g : XT M.1.cls idx M' 2) (hd : DcAt M.2.1 pc (.invokestatic idx) 3 pc') (hro : fr + 1 ≤ R.frames ∧ 8 + (M'.2.2.1 + 11) + lo ≤ R.locals ∧ ca ≤ R.cells ∧ sl ≤ R.slots) (hrs : (rest.map fun v => v.category).sum ≤ 8) (hlok : lok w ls rest = true) (k : Vd R ex M n0 Z ca sl pc' ls (rest) w') : Vd R ex M n0 Z ca sl pc ls (a2 :: a1 :: rest) w := v_callS (As := [a1, a2]) g hd h rfl rfl hro hrs hlok (fun x r hz _ => by obtain ⟨rfl, rfl⟩ := hz; exact k)
theorem v_V2p {ci : Nat} {fs : List Value} (h : Sp (rm fr lo 0 0) M' [.ref b, a1, a2] w Z') (g : XV M.1.cls idx M' 2) (hd : DcAt M.2.1 pc (.invokevirtual idx) 3 pc') (hw : w[b]? = some (.inr (ci, fs))) (hcl : (vwCl[ci]?).map (fun q => q.1) = some M'.1.cls) (hro : fr + 1 ≤ R.frames ∧ 8 + (M'.2.2.1 + 11) + lo ≤ R.locals ∧ ca ≤ R.cells ∧ sl ≤ R.slots) (hrs : (rest.map fun v => v.category).sum ≤ 8) (hlok : lok w ls rest = true) (k : ∀ (x : XW) (r : Option Value), Z' x r → Vd R ex M n0 Z ca sl pc' ls (r.toList ++ rest) x) : Vd R ex M n0 Z ca sl pc ls (a2 :: a1 :: .ref b :: rest) w := v_callV (As := [a1, a2]) g hd h rfl rfl hw hcl hro hrs hlok (fun x r hz _ => k x r hz)
theorem v_S2p (h : Sp (rm fr lo 0 0) M' [a1, a2] w Z') (g : XT M.1.cls idx M' 2) (hd : DcAt M.2.1 pc (.invokestatic idx) 3 pc') (hro : fr + 1 ≤ R.frames ∧ 8 + (M'.2.2.1 + 11) + lo ≤ R.locals ∧ ca ≤ R.cells ∧ sl ≤ R.slots) (hrs : (rest.map fun v => v.category).sum ≤ 8) (hlok : lok w ls rest = true) (k : ∀ (x : XW) (r : Option Value), Z' x r → Vd R ex M n0 Z ca sl pc' ls (r.toList ++ rest) x) : Vd R ex M n0 Z ca sl pc ls (a2 :: a1 :: rest) w := v_callS (As := [a1, a2]) g hd h rfl rfl hro hrs hlok (fun x r hz _ => k x r hz)
theorem v_V3r {ci : Nat} {fs : List Value} (h : Sd (rm fr lo 0 0) M' [.ref b, a1, a2, a3] w w' (some v)) (g : XV M.1.cls idx M' 3) (hd : DcAt M.2.1 pc (.invokevirtual idx) 3 pc') (hw : w[b]? = some (.inr (ci, fs))) (hcl : (vwCl[ci]?).map (fun q => q.1) = some M'.1.cls) (hro : fr + 1 ≤ R.frames ∧ 8 + (M'.2.2.1 + 11) + lo ≤ R.locals ∧ ca ≤ R.cells ∧ sl ≤ R.slots) (hrs : (rest.map fun v => v.category).sum ≤ 8) (hlok : lok w ls rest = true) (k : Vd R ex M n0 Z ca sl pc' ls (v :: rest) w') : Vd R ex M n0 Z ca sl pc ls (a3 :: a2 :: a1 :: .ref b :: rest) w := v_callV (As := [a1, a2, a3]) g hd h rfl rfl hw hcl hro hrs hlok (fun x r hz _ => by obtain ⟨rfl, rfl⟩ := hz; exact k)
theorem v_S3r (h : Sd (rm fr lo 0 0) M' [a1, a2, a3] w w' (some v)) (g : XT M.1.cls idx M' 3) (hd : DcAt M.2.1 pc (.invokestatic idx) 3 pc') (hro : fr + 1 ≤ R.frames ∧ 8 + (M'.2.2.1 + 11) + lo ≤ R.locals ∧ ca ≤ R.cells ∧ sl ≤ R.slots) (hrs : (rest.map fun v => v.category).sum ≤ 8) (hlok : lok w ls rest = true) (k : Vd R ex M n0 Z ca sl pc' ls (v :: rest) w') : Vd R ex M n0 Z ca sl pc ls (a3 :: a2 :: a1 :: rest) w := v_callS (As := [a1, a2, a3]) g hd h rfl rfl hro hrs hlok (fun x r hz _ => by obtain ⟨rfl, rfl⟩ := hz; exact k)
theorem v_V3v {ci : Nat} {fs : List Value} (h : Sd (rm fr lo 0 0) M' [.ref b, a1, a2, a3] w w' none) (g : XV M.1.cls idx M' 3) (hd : DcAt M.2.1 pc (.invokevirtual idx) 3 pc') (hw : w[b]? = some (.inr (ci, fs))) (hcl : (vwCl[ci]?).map (fun q => q.1) = some M'.1.cls) (hro : fr + 1 ≤ R.frames ∧ 8 + (M'.2.2.1 + 11) + lo ≤ R.locals ∧ ca ≤ R.cells ∧ sl ≤ R.slots) (hrs : (rest.map fun v => v.category).sum ≤ 8) (hlok : lok w ls rest = true) (k : Vd R ex M n0 Z ca sl pc' ls (rest) w') : Vd R ex M n0 Z ca sl pc ls (a3 :: a2 :: a1 :: .ref b :: rest) w := v_callV (As := [a1, a2, a3]) g hd h rfl rfl hw hcl hro hrs hlok (fun x r hz _ => by obtain ⟨rfl, rfl⟩ := hz; exact k)
theorem v_S3v (h : Sd (rm fr lo 0 0) M' [a1, a2, a3] w w' none) (g : XT M.1.cls idx M' 3) (hd : DcAt M.2.1 pc (.invokestatic idx) 3 pc') (hro : fr + 1 ≤ R.frames ∧ 8 + (M'.2.2.1 + 11) + lo ≤ R.locals ∧ ca ≤ R.cells ∧ sl ≤ R.slots) (hrs : (rest.map fun v => v.category).sum ≤ 8) (hlok : lok w ls rest = true) (k : Vd R ex M n0 Z ca sl pc' ls (rest) w') : Vd R ex M n0 Z ca sl pc ls (a3 :: a2 :: a1 :: rest) w := v_callS (As := [a1, a2, a3]) g hd h rfl rfl hro hrs hlok (fun x r hz _ => by obtain ⟨rfl, rfl⟩ := hz; exact k)
theorem v_V3p {ci : Nat} {fs : List Value} (h : Sp (rm fr lo 0 0) M' [.ref b, a1, a2, a3] w Z') (g : XV M.1.cls idx M' 3) (hd : DcAt M.2.1 pc (.invokevirtual idx) 3 pc') (hw : w[b]? = some (.inr (ci, fs))) (hcl : (vwCl[ci]?).map (fun q => q.1) = some M'.1.cls) (hro : fr + 1 ≤ R.frames ∧ 8 + (M'.2.2.1 + 11) + lo ≤ R.locals ∧ ca ≤ R.cells ∧ sl ≤ R.slots) (hrs : (rest.map fun v => v.category).sum ≤ 8) (hlok : lok w ls rest = true) (k : ∀ (x : XW) (r : Option Value), Z' x r → Vd R ex M n0 Z ca sl pc' ls (r.toList ++ rest) x) : Vd R ex M n0 Z ca sl pc ls (a3 :: a2 :: a1 :: .ref b :: rest) w := v_callV (As := [a1, a2, a3]) g hd h rfl rfl hw hcl hro hrs hlok (fun x r hz _ => k x r hz)
theorem v_S3p (h : Sp (rm fr lo 0 0) M' [a1, a2, a3] w Z') (g : XT M.1.cls idx M' 3) (hd : DcAt M.2.1 pc (.invokestatic idx) 3 pc') (hro : fr + 1 ≤ R.frames ∧ 8 + (M'.2.2.1 + 11) + lo ≤ R.locals ∧ ca ≤ R.cells ∧ sl ≤ R.slots) (hrs : (rest.map fun v => v.category).sum ≤ 8) (hlok : lok w ls rest = true) (k : ∀ (x : XW) (r : Option Value), Z' x r → Vd R ex M n0 Z ca sl pc' ls (r.toList ++ rest) x) : Vd R ex M n0 Z ca sl pc ls (a3 :: a2 :: a1 :: rest) w := v_callS (As := [a1, a2, a3]) g hd h rfl rfl hro hrs hlok (fun x r hz _ => k x r hz)
theorem v_V4r {ci : Nat} {fs : List Value} (h : Sd (rm fr lo 0 0) M' [.ref b, a1, a2, a3, a4] w w' (some v)) (g : XV M.1.cls idx M' 4) (hd : DcAt M.2.1 pc (.invokevirtual idx) 3 pc') (hw : w[b]? = some (.inr (ci, fs))) (hcl : (vwCl[ci]?).map (fun q => q.1) = some M'.1.cls) (hro : fr + 1 ≤ R.frames ∧ 8 + (M'.2.2.1 + 11) + lo ≤ R.locals ∧ ca ≤ R.cells ∧ sl ≤ R.slots) (hrs : (rest.map fun v => v.category).sum ≤ 8) (hlok : lok w ls rest = true) (k : Vd R ex M n0 Z ca sl pc' ls (v :: rest) w') : Vd R ex M n0 Z ca sl pc ls (a4 :: a3 :: a2 :: a1 :: .ref b :: rest) w := v_callV (As := [a1, a2, a3, a4]) g hd h rfl rfl hw hcl hro hrs hlok (fun x r hz _ => by obtain ⟨rfl, rfl⟩ := hz; exact k)
theorem v_S4r (h : Sd (rm fr lo 0 0) M' [a1, a2, a3, a4] w w' (some v)) (g : XT M.1.cls idx M' 4) (hd : DcAt M.2.1 pc (.invokestatic idx) 3 pc') (hro : fr + 1 ≤ R.frames ∧ 8 + (M'.2.2.1 + 11) + lo ≤ R.locals ∧ ca ≤ R.cells ∧ sl ≤ R.slots) (hrs : (rest.map fun v => v.category).sum ≤ 8) (hlok : lok w ls rest = true) (k : Vd R ex M n0 Z ca sl pc' ls (v :: rest) w') : Vd R ex M n0 Z ca sl pc ls (a4 :: a3 :: a2 :: a1 :: rest) w := v_callS (As := [a1, a2, a3, a4]) g hd h rfl rfl hro hrs hlok (fun x r hz _ => by obtain ⟨rfl, rfl⟩ := hz; exact k)
theorem v_V4v {ci : Nat} {fs : List Value} (h : Sd (rm fr lo 0 0) M' [.ref b, a1, a2, a3, a4] w w' none) (g : XV M.1.cls idx M' 4) (hd : DcAt M.2.1 pc (.invokevirtual idx) 3 pc') (hw : w[b]? = some (.inr (ci, fs))) (hcl : (vwCl[ci]?).map (fun q => q.1) = some M'.1.cls) (hro : fr + 1 ≤ R.frames ∧ 8 + (M'.2.2.1 + 11) + lo ≤ R.locals ∧ ca ≤ R.cells ∧ sl ≤ R.slots) (hrs : (rest.map fun v => v.category).sum ≤ 8) (hlok : lok w ls rest = true) (k : Vd R ex M n0 Z ca sl pc' ls (rest) w') : Vd R ex M n0 Z ca sl pc ls (a4 :: a3 :: a2 :: a1 :: .ref b :: rest) w := v_callV (As := [a1, a2, a3, a4]) g hd h rfl rfl hw hcl hro hrs hlok (fun x r hz _ => by obtain ⟨rfl, rfl⟩ := hz; exact k)
theorem v_S4v (h : Sd (rm fr lo 0 0) M' [a1, a2, a3, a4] w w' none) (g : XT M.1.cls idx M' 4) (hd : DcAt M.2.1 pc (.invokestatic idx) 3 pc') (hro : fr + 1 ≤ R.frames ∧ 8 + (M'.2.2.1 + 11) + lo ≤ R.locals ∧ ca ≤ R.cells ∧ sl ≤ R.slots) (hrs : (rest.map fun v => v.category).sum ≤ 8) (hlok : lok w ls rest = true) (k : Vd R ex M n0 Z ca sl pc' ls (rest) w') : Vd R ex M n0 Z ca sl pc ls (a4 :: a3 :: a2 :: a1 :: rest) w := v_callS (As := [a1, a2, a3, a4]) g hd h rfl rfl hro hrs hlok (fun x r hz _ => by obtain ⟨rfl, rfl⟩ := hz; exact k)
theorem v_V4p {ci : Nat} {fs : List Value} (h : Sp (rm fr lo 0 0) M' [.ref b, a1, a2, a3, a4] w Z') (g : XV M.1.cls idx M' 4) (hd : DcAt M.2.1 pc (.invokevirtual idx) 3 pc') (hw : w[b]? = some (.inr (ci, fs))) (hcl : (vwCl[ci]?).map (fun q => q.1) = some M'.1.cls) (hro : fr + 1 ≤ R.frames ∧ 8 + (M'.2.2.1 + 11) + lo ≤ R.locals ∧ ca ≤ R.cells ∧ sl ≤ R.slots) (hrs : (rest.map fun v => v.category).sum ≤ 8) (hlok : lok w ls rest = true) (k : ∀ (x : XW) (r : Option Value), Z' x r → Vd R ex M n0 Z ca sl pc' ls (r.toList ++ rest) x) : Vd R ex M n0 Z ca sl pc ls (a4 :: a3 :: a2 :: a1 :: .ref b :: rest) w := v_callV (As := [a1, a2, a3, a4]) g hd h rfl rfl hw hcl hro hrs hlok (fun x r hz _ => k x r hz)
theorem v_S4p (h : Sp (rm fr lo 0 0) M' [a1, a2, a3, a4] w Z') (g : XT M.1.cls idx M' 4) (hd : DcAt M.2.1 pc (.invokestatic idx) 3 pc') (hro : fr + 1 ≤ R.frames ∧ 8 + (M'.2.2.1 + 11) + lo ≤ R.locals ∧ ca ≤ R.cells ∧ sl ≤ R.slots) (hrs : (rest.map fun v => v.category).sum ≤ 8) (hlok : lok w ls rest = true) (k : ∀ (x : XW) (r : Option Value), Z' x r → Vd R ex M n0 Z ca sl pc' ls (r.toList ++ rest) x) : Vd R ex M n0 Z ca sl pc ls (a4 :: a3 :: a2 :: a1 :: rest) w := v_callS (As := [a1, a2, a3, a4]) g hd h rfl rfl hro hrs hlok (fun x r hz _ => k x r hz)
theorem v_V5r {ci : Nat} {fs : List Value} (h : Sd (rm fr lo 0 0) M' [.ref b, a1, a2, a3, a4, a5] w w' (some v)) (g : XV M.1.cls idx M' 5) (hd : DcAt M.2.1 pc (.invokevirtual idx) 3 pc') (hw : w[b]? = some (.inr (ci, fs))) (hcl : (vwCl[ci]?).map (fun q => q.1) = some M'.1.cls) (hro : fr + 1 ≤ R.frames ∧ 8 + (M'.2.2.1 + 11) + lo ≤ R.locals ∧ ca ≤ R.cells ∧ sl ≤ R.slots) (hrs : (rest.map fun v => v.category).sum ≤ 8) (hlok : lok w ls rest = true) (k : Vd R ex M n0 Z ca sl pc' ls (v :: rest) w') : Vd R ex M n0 Z ca sl pc ls (a5 :: a4 :: a3 :: a2 :: a1 :: .ref b :: rest) w := v_callV (As := [a1, a2, a3, a4, a5]) g hd h rfl rfl hw hcl hro hrs hlok (fun x r hz _ => by obtain ⟨rfl, rfl⟩ := hz; exact k)
theorem v_S5r (h : Sd (rm fr lo 0 0) M' [a1, a2, a3, a4, a5] w w' (some v)) (g : XT M.1.cls idx M' 5) (hd : DcAt M.2.1 pc (.invokestatic idx) 3 pc') (hro : fr + 1 ≤ R.frames ∧ 8 + (M'.2.2.1 + 11) + lo ≤ R.locals ∧ ca ≤ R.cells ∧ sl ≤ R.slots) (hrs : (rest.map fun v => v.category).sum ≤ 8) (hlok : lok w ls rest = true) (k : Vd R ex M n0 Z ca sl pc' ls (v :: rest) w') : Vd R ex M n0 Z ca sl pc ls (a5 :: a4 :: a3 :: a2 :: a1 :: rest) w := v_callS (As := [a1, a2, a3, a4, a5]) g hd h rfl rfl hro hrs hlok (fun x r hz _ => by obtain ⟨rfl, rfl⟩ := hz; exact k)
theorem v_V5v {ci : Nat} {fs : List Value} (h : Sd (rm fr lo 0 0) M' [.ref b, a1, a2, a3, a4, a5] w w' none) (g : XV M.1.cls idx M' 5) (hd : DcAt M.2.1 pc (.invokevirtual idx) 3 pc') (hw : w[b]? = some (.inr (ci, fs))) (hcl : (vwCl[ci]?).map (fun q => q.1) = some M'.1.cls) (hro : fr + 1 ≤ R.frames ∧ 8 + (M'.2.2.1 + 11) + lo ≤ R.locals ∧ ca ≤ R.cells ∧ sl ≤ R.slots) (hrs : (rest.map fun v => v.category).sum ≤ 8) (hlok : lok w ls rest = true) (k : Vd R ex M n0 Z ca sl pc' ls (rest) w') : Vd R ex M n0 Z ca sl pc ls (a5 :: a4 :: a3 :: a2 :: a1 :: .ref b :: rest) w := v_callV (As := [a1, a2, a3, a4, a5]) g hd h rfl rfl hw hcl hro hrs hlok (fun x r hz _ => by obtain ⟨rfl, rfl⟩ := hz; exact k)
theorem v_S5v (h : Sd (rm fr lo 0 0) M' [a1, a2, a3, a4, a5] w w' none) (g : XT M.1.cls idx M' 5) (hd : DcAt M.2.1 pc (.invokestatic idx) 3 pc') (hro : fr + 1 ≤ R.frames ∧ 8 + (M'.2.2.1 + 11) + lo ≤ R.locals ∧ ca ≤ R.cells ∧ sl ≤ R.slots) (hrs : (rest.map fun v => v.category).sum ≤ 8) (hlok : lok w ls rest = true) (k : Vd R ex M n0 Z ca sl pc' ls (rest) w') : Vd R ex M n0 Z ca sl pc ls (a5 :: a4 :: a3 :: a2 :: a1 :: rest) w := v_callS (As := [a1, a2, a3, a4, a5]) g hd h rfl rfl hro hrs hlok (fun x r hz _ => by obtain ⟨rfl, rfl⟩ := hz; exact k)
theorem v_V5p {ci : Nat} {fs : List Value} (h : Sp (rm fr lo 0 0) M' [.ref b, a1, a2, a3, a4, a5] w Z') (g : XV M.1.cls idx M' 5) (hd : DcAt M.2.1 pc (.invokevirtual idx) 3 pc') (hw : w[b]? = some (.inr (ci, fs))) (hcl : (vwCl[ci]?).map (fun q => q.1) = some M'.1.cls) (hro : fr + 1 ≤ R.frames ∧ 8 + (M'.2.2.1 + 11) + lo ≤ R.locals ∧ ca ≤ R.cells ∧ sl ≤ R.slots) (hrs : (rest.map fun v => v.category).sum ≤ 8) (hlok : lok w ls rest = true) (k : ∀ (x : XW) (r : Option Value), Z' x r → Vd R ex M n0 Z ca sl pc' ls (r.toList ++ rest) x) : Vd R ex M n0 Z ca sl pc ls (a5 :: a4 :: a3 :: a2 :: a1 :: .ref b :: rest) w := v_callV (As := [a1, a2, a3, a4, a5]) g hd h rfl rfl hw hcl hro hrs hlok (fun x r hz _ => k x r hz)
theorem v_S5p (h : Sp (rm fr lo 0 0) M' [a1, a2, a3, a4, a5] w Z') (g : XT M.1.cls idx M' 5) (hd : DcAt M.2.1 pc (.invokestatic idx) 3 pc') (hro : fr + 1 ≤ R.frames ∧ 8 + (M'.2.2.1 + 11) + lo ≤ R.locals ∧ ca ≤ R.cells ∧ sl ≤ R.slots) (hrs : (rest.map fun v => v.category).sum ≤ 8) (hlok : lok w ls rest = true) (k : ∀ (x : XW) (r : Option Value), Z' x r → Vd R ex M n0 Z ca sl pc' ls (r.toList ++ rest) x) : Vd R ex M n0 Z ca sl pc ls (a5 :: a4 :: a3 :: a2 :: a1 :: rest) w := v_callS (As := [a1, a2, a3, a4, a5]) g hd h rfl rfl hro hrs hlok (fun x r hz _ => k x r hz)
end VdCallsN
end
section
/-! the instructions of each method (printed by wip/tools/gen_names.py) -/
def LX0_init : DL := [(0, .aload_n 0, 1, 1), (1, .invokespecial 3, 3, 4), (4, .aload_n 0, 1, 5), (5, .new 9, 3, 8), (8, .dup, 1, 9), (9, .iload_n 1, 1, 10), (10, .iconst 1, 1, 11), (11, .iadd, 1, 12), (12, .iconst 2, 1, 13), (13, .invokespecial 11, 3, 16), (16, .putfield 14, 3, 19), (19, .return_, 1, 20)]
set_option maxRecDepth 100000 in
theorem DX0_init : decOK cX0_init LX0_init = true := by decide +kernel
def LX0_fit : DL := [(0, .aload_n 0, 1, 1), (1, .iload_n 2, 1, 2), (2, .putfield 20, 3, 5), (5, .aload_n 0, 1, 6), (6, .iload_n 3, 1, 7), (7, .putfield 24, 3, 10), (10, .aload_n 0, 1, 11), (11, .getfield 14, 3, 14), (14, .iconst 0, 1, 15), (15, .invokevirtual 27, 3, 18), (18, .aload_n 0, 1, 19), (19, .iconst 1, 1, 20), (20, .putfield 31, 3, 23), (23, .aload_n 0, 1, 24), (24, .bipush (-100), 2, 26), (26, .putfield 35, 3, 29), (29, .aload_n 0, 1, 30), (30, .bipush (-100), 2, 32), (32, .putfield 38, 3, 35), (35, .aload_n 1, 1, 36), (36, .invokevirtual 41, 3, 39), (39, .istore 4, 2, 41), (41, .iload 4, 2, 43), (43, .ifCond .le 48, 3, 46), (46, .aload_n 0, 1, 47), (47, .aload_n 1, 1, 48), (48, .invokevirtual 45, 3, 51), (51, .aload_n 0, 1, 52), (52, .invokevirtual 49, 3, 55), (55, .iconst 0, 1, 56), (56, .istore 5, 2, 58), (58, .iload 5, 2, 60), (60, .iload 4, 2, 62), (62, .if_icmp .ge 29, 3, 65), (65, .aload_n 0, 1, 66), (66, .iload 5, 2, 68), (68, .iload 5, 2, 70), (70, .iload 4, 2, 72), (72, .iconst 1, 1, 73), (73, .isub, 1, 74), (74, .if_icmp .ne 7, 3, 77), (77, .iconst 1, 1, 78), (78, .goto 4, 3, 81), (81, .iconst 0, 1, 82), (82, .invokevirtual 52, 3, 85), (85, .iinc 5 1, 3, 88), (88, .goto (-30), 3, 91), (91, .return_, 1, 92)]
set_option maxRecDepth 100000 in
theorem DX0_fit : decOK cX0_fit LX0_fit = true := by decide +kernel
def LX0_placeAccents : DL := [(0, .aload_n 1, 1, 1), (1, .invokevirtual 41, 3, 4), (4, .istore_n 2, 1, 5), (5, .aload_n 0, 1, 6), (6, .aload_n 1, 1, 7), (7, .iload_n 2, 1, 8), (8, .invokestatic 56, 3, 11), (11, .putfield 38, 3, 14), (14, .aload_n 0, 1, 15), (15, .getfield 38, 3, 18), (18, .bipush (-100), 2, 20), (20, .if_icmp .ne 14, 3, 23), (23, .aload_n 0, 1, 24), (24, .iload_n 2, 1, 25), (25, .iconst 2, 1, 26), (26, .isub, 1, 27), (27, .iconst 0, 1, 28), (28, .invokestatic 60, 3, 31), (31, .putfield 38, 3, 34), (34, .aload_n 0, 1, 35), (35, .iconst 3, 1, 36), (36, .invokevirtual 68, 3, 39), (39, .iconst 2, 1, 40), (40, .if_icmp .ne 42, 3, 43), (43, .aload_n 0, 1, 44), (44, .aload_n 1, 1, 45), (45, .aload_n 0, 1, 46), (46, .getfield 38, 3, 49), (49, .invokestatic 56, 3, 52), (52, .putfield 35, 3, 55), (55, .aload_n 0, 1, 56), (56, .getfield 35, 3, 59), (59, .bipush (-100), 2, 61), (61, .if_icmp .ne 21, 3, 64), (64, .aload_n 0, 1, 65), (65, .getfield 38, 3, 68), (68, .iconst 2, 1, 69), (69, .if_icmp .lt 13, 3, 72), (72, .aload_n 0, 1, 73), (73, .aload_n 0, 1, 74), (74, .getfield 38, 3, 77), (77, .iconst 2, 1, 78), (78, .isub, 1, 79), (79, .putfield 35, 3, 82), (82, .return_, 1, 83)]
set_option maxRecDepth 100000 in
theorem DX0_placeAccents : decOK cX0_placeAccents LX0_placeAccents = true := by decide +kernel
def LX0_accentBefore : DL := [(0, .iload_n 1, 1, 1), (1, .iconst 1, 1, 2), (2, .isub, 1, 3), (3, .istore_n 2, 1, 4), (4, .iload_n 2, 1, 5), (5, .ifCond .lt 21, 3, 8), (8, .aload_n 0, 1, 9), (9, .iload_n 2, 1, 10), (10, .iconst 0, 1, 11), (11, .invokevirtual 72, 3, 14), (14, .iconst 1, 1, 15), (15, .if_icmp .ne 5, 3, 18), (18, .iload_n 2, 1, 19), (19, .ireturn, 1, 20), (20, .iinc 2 (-1), 3, 23), (23, .goto (-19), 3, 26), (26, .bipush (-100), 2, 28), (28, .ireturn, 1, 29)]
set_option maxRecDepth 100000 in
theorem DX0_accentBefore : decOK cX0_accentBefore LX0_accentBefore = true := by decide +kernel
def LX0_chooseForm : DL := [(0, .aload_n 0, 1, 1), (1, .aload_n 0, 1, 2), (2, .getfield 24, 3, 5), (5, .ifCond .ne 7, 3, 8), (8, .iconst 2, 1, 9), (9, .goto 4, 3, 12), (12, .iconst 0, 1, 13), (13, .putfield 75, 3, 16), (16, .aload_n 0, 1, 17), (17, .aload_n 0, 1, 18), (18, .iconst 0, 1, 19), (19, .invokevirtual 68, 3, 22), (22, .putfield 78, 3, 25), (25, .aload_n 0, 1, 26), (26, .iconst 3, 1, 27), (27, .invokevirtual 68, 3, 30), (30, .iconst 2, 1, 31), (31, .if_icmp .ne 16, 3, 34), (34, .aload_n 0, 1, 35), (35, .getfield 35, 3, 38), (38, .bipush (-100), 2, 40), (40, .if_icmp .ne 7, 3, 43), (43, .iconst 1, 1, 44), (44, .goto 4, 3, 47), (47, .iconst 0, 1, 48), (48, .istore_n 1, 1, 49), (49, .aload_n 0, 1, 50), (50, .iload_n 1, 1, 51), (51, .ifCond .ne 21, 3, 54), (54, .aload_n 0, 1, 55), (55, .invokevirtual 81, 3, 58), (58, .aload_n 0, 1, 59), (59, .getfield 75, 3, 62), (62, .aload_n 0, 1, 63), (63, .getfield 78, 3, 66), (66, .iadd, 1, 67), (67, .iconst 1, 1, 68), (68, .iadd, 1, 69), (69, .if_icmp .ge 7, 3, 72), (72, .iconst 1, 1, 73), (73, .goto 4, 3, 76), (76, .iconst 0, 1, 77), (77, .putfield 31, 3, 80), (80, .aload_n 0, 1, 81), (81, .getfield 31, 3, 84), (84, .ifCond .eq 19, 3, 87), (87, .aload_n 0, 1, 88), (88, .bipush (-100), 2, 90), (90, .putfield 35, 3, 93), (93, .aload_n 0, 1, 94), (94, .iconst 0, 1, 95), (95, .putfield 75, 3, 98), (98, .aload_n 0, 1, 99), (99, .iconst 0, 1, 100), (100, .putfield 78, 3, 103), (103, .return_, 1, 104)]
set_option maxRecDepth 100000 in
theorem DX0_chooseForm : decOK cX0_chooseForm LX0_chooseForm = true := by decide +kernel
def LX0_firstPlaced : DL := [(0, .aload_n 0, 1, 1), (1, .getfield 35, 3, 4), (4, .bipush (-100), 2, 6), (6, .if_icmp .ne 10, 3, 9), (9, .aload_n 0, 1, 10), (10, .getfield 38, 3, 13), (13, .goto 7, 3, 16), (16, .aload_n 0, 1, 17), (17, .getfield 35, 3, 20), (20, .ireturn, 1, 21)]
set_option maxRecDepth 100000 in
theorem DX0_firstPlaced : decOK cX0_firstPlaced LX0_firstPlaced = true := by decide +kernel
def LX0_singSyllable : DL := [(0, .iload_n 2, 1, 1), (1, .ifCond .eq 11, 3, 4), (4, .iload_n 1, 1, 5), (5, .aload_n 0, 1, 6), (6, .getfield 38, 3, 9), (9, .if_icmp .ne 13, 3, 12), (12, .aload_n 0, 1, 13), (13, .iload_n 1, 1, 14), (14, .aload_n 0, 1, 15), (15, .iload_n 1, 1, 16), (16, .invokevirtual 84, 3, 19), (19, .invokevirtual 87, 3, 22), (22, .iload_n 2, 1, 23), (23, .ifCond .eq 14, 3, 26), (26, .aload_n 0, 1, 27), (27, .iload_n 1, 1, 28), (28, .aload_n 0, 1, 29), (29, .bipush 8, 2, 31), (31, .invokevirtual 68, 3, 34), (34, .invokevirtual 87, 3, 37), (37, .return_, 1, 38)]
set_option maxRecDepth 100000 in
theorem DX0_singSyllable : decOK cX0_singSyllable LX0_singSyllable = true := by decide +kernel
def LX0_stepOf : DL := [(0, .iload_n 1, 1, 1), (1, .aload_n 0, 1, 2), (2, .getfield 38, 3, 5), (5, .if_icmp .ne 10, 3, 8), (8, .aload_n 0, 1, 9), (9, .bipush 6, 2, 11), (11, .invokevirtual 68, 3, 14), (14, .ireturn, 1, 15), (15, .iload_n 1, 1, 16), (16, .aload_n 0, 1, 17), (17, .getfield 38, 3, 20), (20, .if_icmp .le 10, 3, 23), (23, .aload_n 0, 1, 24), (24, .bipush 7, 2, 26), (26, .invokevirtual 68, 3, 29), (29, .ireturn, 1, 30), (30, .aload_n 0, 1, 31), (31, .invokevirtual 81, 3, 34), (34, .istore_n 2, 1, 35), (35, .iload_n 1, 1, 36), (36, .iload_n 2, 1, 37), (37, .if_icmp .ne 9, 3, 40), (40, .aload_n 0, 1, 41), (41, .iconst 4, 1, 42), (42, .invokevirtual 68, 3, 45), (45, .ireturn, 1, 46), (46, .iload_n 1, 1, 47), (47, .iload_n 2, 1, 48), (48, .if_icmp .le 9, 3, 51), (51, .aload_n 0, 1, 52), (52, .iconst 5, 1, 53), (53, .invokevirtual 68, 3, 56), (56, .ireturn, 1, 57), (57, .iload_n 1, 1, 58), (58, .iload_n 2, 1, 59), (59, .aload_n 0, 1, 60), (60, .getfield 78, 3, 63), (63, .isub, 1, 64), (64, .isub, 1, 65), (65, .istore_n 3, 1, 66), (66, .iload_n 3, 1, 67), (67, .ifCond .lt 11, 3, 70), (70, .aload_n 0, 1, 71), (71, .iconst 1, 1, 72), (72, .iload_n 3, 1, 73), (73, .iadd, 1, 74), (74, .invokevirtual 68, 3, 77), (77, .ireturn, 1, 78), (78, .iload_n 1, 1, 79), (79, .aload_n 0, 1, 80), (80, .getfield 75, 3, 83), (83, .if_icmp .ge 14, 3, 86), (86, .aload_n 0, 1, 87), (87, .getfield 20, 3, 90), (90, .iload_n 1, 1, 91), (91, .invokestatic 90, 3, 94), (94, .goto 4, 3, 97), (97, .iconst 0, 1, 98), (98, .ireturn, 1, 99)]
set_option maxRecDepth 100000 in
theorem DX0_stepOf : decOK cX0_stepOf LX0_stepOf = true := by decide +kernel
def LX0_closeCell : DL := [(0, .aload_n 0, 1, 1), (1, .getfield 20, 3, 4), (4, .aload_n 0, 1, 5), (5, .getfield 24, 3, 8), (8, .invokestatic 93, 3, 11), (11, .iload_n 1, 1, 12), (12, .iadd, 1, 13), (13, .invokestatic 90, 3, 16), (16, .ireturn, 1, 17)]
set_option maxRecDepth 100000 in
theorem DX0_closeCell : decOK cX0_closeCell LX0_closeCell = true := by decide +kernel
def LX0_addStep : DL := [(0, .aload_n 0, 1, 1), (1, .getfield 14, 3, 4), (4, .aload_n 0, 1, 5), (5, .getfield 14, 3, 8), (8, .iload_n 1, 1, 9), (9, .invokevirtual 96, 3, 12), (12, .iconst 1, 1, 13), (13, .iload_n 2, 1, 14), (14, .invokevirtual 99, 3, 17), (17, .return_, 1, 18)]
set_option maxRecDepth 100000 in
theorem DX0_addStep : decOK cX0_addStep LX0_addStep = true := by decide +kernel
def LX1_init : DL := [(0, .aload_n 0, 1, 1), (1, .invokespecial 3, 3, 4), (4, .aload_n 0, 1, 5), (5, .new 9, 3, 8), (8, .dup, 1, 9), (9, .bipush 40, 2, 11), (11, .iconst 1, 1, 12), (12, .invokespecial 13, 3, 15), (15, .putfield 16, 3, 18), (18, .aload_n 0, 1, 19), (19, .new 9, 3, 22), (22, .dup, 1, 23), (23, .bipush 40, 2, 25), (25, .iconst 1, 1, 26), (26, .invokespecial 13, 3, 29), (29, .putfield 20, 3, 32), (32, .aload_n 0, 1, 33), (33, .new 23, 3, 36), (36, .dup, 1, 37), (37, .bipush 40, 2, 39), (39, .invokespecial 25, 3, 42), (42, .putfield 28, 3, 45), (45, .aload_n 0, 1, 46), (46, .iconst 1, 1, 47), (47, .putfield 32, 3, 50), (50, .return_, 1, 51)]
set_option maxRecDepth 100000 in
theorem DX1_init : decOK cX1_init LX1_init = true := by decide +kernel
def LX1_isHalf : DL := [(0, .iload_n 0, 1, 1), (1, .ifCond .eq 8, 3, 4), (4, .iload_n 0, 1, 5), (5, .iconst 1, 1, 6), (6, .if_icmp .ne 7, 3, 9), (9, .iconst 1, 1, 10), (10, .goto 4, 3, 13), (13, .iconst 0, 1, 14), (14, .ireturn, 1, 15)]
set_option maxRecDepth 100000 in
theorem DX1_isHalf : decOK cX1_isHalf LX1_isHalf = true := by decide +kernel
def LX1_changeTone : DL := [(0, .iload_n 1, 1, 1), (1, .iconst 1, 1, 2), (2, .if_icmp .lt 9, 3, 5), (5, .iload_n 1, 1, 6), (6, .bipush 8, 2, 8), (8, .if_icmp .le 6, 3, 11), (11, .bipush (-102), 2, 13), (13, .ireturn, 1, 14), (14, .aload_n 0, 1, 15), (15, .getfield 32, 3, 18), (18, .istore_n 2, 1, 19), (19, .aload_n 0, 1, 20), (20, .iload_n 1, 1, 21), (21, .putfield 32, 3, 24), (24, .iload_n 2, 1, 25), (25, .ireturn, 1, 26)]
set_option maxRecDepth 100000 in
theorem DX1_changeTone : decOK cX1_changeTone LX1_changeTone = true := by decide +kernel
def LX1_addSyllable : DL := [(0, .iload_n 1, 1, 1), (1, .invokestatic 38, 3, 4), (4, .ifCond .ne 6, 3, 7), (7, .bipush (-102), 2, 9), (9, .ireturn, 1, 10), (10, .aload_n 0, 1, 11), (11, .iload_n 1, 1, 12), (12, .invokevirtual 42, 3, 15), (15, .astore_n 3, 1, 16), (16, .aload_n 3, 1, 17), (17, .invokevirtual 46, 3, 20), (20, .ifCond .eq 6, 3, 23), (23, .bipush (-104), 2, 25), (25, .ireturn, 1, 26), (26, .aload_n 3, 1, 27), (27, .iload_n 2, 1, 28), (28, .ifCond .eq 7, 3, 31), (31, .iconst 1, 1, 32), (32, .goto 4, 3, 35), (35, .iconst 0, 1, 36), (36, .invokevirtual 50, 3, 39), (39, .pop, 1, 40), (40, .aload_n 3, 1, 41), (41, .invokevirtual 54, 3, 44), (44, .ireturn, 1, 45)]
set_option maxRecDepth 100000 in
theorem DX1_addSyllable : decOK cX1_addSyllable LX1_addSyllable = true := by decide +kernel
def LX1_forgetVerse : DL := [(0, .aload_n 0, 1, 1), (1, .getfield 16, 3, 4), (4, .invokevirtual 54, 3, 7), (7, .aload_n 0, 1, 8), (8, .getfield 20, 3, 11), (11, .invokevirtual 54, 3, 14), (14, .iadd, 1, 15), (15, .istore_n 1, 1, 16), (16, .aload_n 0, 1, 17), (17, .getfield 16, 3, 20), (20, .iconst 0, 1, 21), (21, .invokevirtual 58, 3, 24), (24, .aload_n 0, 1, 25), (25, .getfield 20, 3, 28), (28, .iconst 0, 1, 29), (29, .invokevirtual 58, 3, 32), (32, .iload_n 1, 1, 33), (33, .ireturn, 1, 34)]
set_option maxRecDepth 100000 in
theorem DX1_forgetVerse : decOK cX1_forgetVerse LX1_forgetVerse = true := by decide +kernel
def LX1_fitted : DL := [(0, .aload_n 0, 1, 1), (1, .getfield 28, 3, 4), (4, .aload_n 0, 1, 5), (5, .iload_n 1, 1, 6), (6, .invokevirtual 42, 3, 9), (9, .aload_n 0, 1, 10), (10, .getfield 32, 3, 13), (13, .iload_n 1, 1, 14), (14, .invokevirtual 61, 3, 17), (17, .aload_n 0, 1, 18), (18, .getfield 28, 3, 21), (21, .areturn, 1, 22)]
set_option maxRecDepth 100000 in
theorem DX1_fitted : decOK cX1_fitted LX1_fitted = true := by decide +kernel
def LX1_accentsOf : DL := [(0, .iload_n 1, 1, 1), (1, .ifCond .ne 10, 3, 4), (4, .aload_n 0, 1, 5), (5, .getfield 16, 3, 8), (8, .goto 7, 3, 11), (11, .aload_n 0, 1, 12), (12, .getfield 20, 3, 15), (15, .areturn, 1, 16)]
set_option maxRecDepth 100000 in
theorem DX1_accentsOf : decOK cX1_accentsOf LX1_accentsOf = true := by decide +kernel
def LX2_init : DL := [(0, .aload_n 0, 1, 1), (1, .invokespecial 3, 3, 4), (4, .aload_n 0, 1, 5), (5, .aload_n 1, 1, 6), (6, .putfield 9, 3, 9), (9, .aload_n 0, 1, 10), (10, .new 15, 3, 13), (13, .dup, 1, 14), (14, .bipush 6, 2, 16), (16, .iconst 1, 1, 17), (17, .invokespecial 19, 3, 20), (20, .putfield 22, 3, 23), (23, .return_, 1, 24)]
set_option maxRecDepth 100000 in
theorem DX2_init : decOK cX2_init LX2_init = true := by decide +kernel
def LX2_placeOfFault : DL := [(0, .aload_n 0, 1, 1), (1, .getfield 26, 3, 4), (4, .ireturn, 1, 5)]
set_option maxRecDepth 100000 in
theorem DX2_placeOfFault : decOK cX2_placeOfFault LX2_placeOfFault = true := by decide +kernel
def LX2_readFrom : DL := [(0, .aload_n 0, 1, 1), (1, .invokevirtual 30, 3, 4), (4, .aload_n 1, 1, 5), (5, .invokevirtual 33, 3, 8), (8, .istore_n 2, 1, 9), (9, .iconst 0, 1, 10), (10, .istore_n 3, 1, 11), (11, .iload_n 3, 1, 12), (12, .iload_n 2, 1, 13), (13, .if_icmp .ge 88, 3, 16), (16, .aload_n 0, 1, 17), (17, .getfield 37, 3, 20), (20, .ifCond .ne 81, 3, 23), (23, .iload_n 3, 1, 24), (24, .aload_n 0, 1, 25), (25, .getfield 40, 3, 28), (28, .if_icmp .lt 67, 3, 31), (31, .aload_n 0, 1, 32), (32, .iload_n 3, 1, 33), (33, .iconst 1, 1, 34), (34, .iadd, 1, 35), (35, .putfield 40, 3, 38), (38, .aload_n 0, 1, 39), (39, .getfield 40, 3, 42), (42, .iload_n 2, 1, 43), (43, .if_icmp .ge 15, 3, 46), (46, .aload_n 1, 1, 47), (47, .aload_n 0, 1, 48), (48, .getfield 40, 3, 51), (51, .iconst 0, 1, 52), (52, .invokevirtual 43, 3, 55), (55, .goto 4, 3, 58), (58, .iconst (-1), 1, 59), (59, .istore 4, 2, 61), (61, .aload_n 0, 1, 62), (62, .getfield 47, 3, 65), (65, .ifCond .eq 19, 3, 68), (68, .aload_n 0, 1, 69), (69, .iload_n 3, 1, 70), (70, .aload_n 1, 1, 71), (71, .iload_n 3, 1, 72), (72, .iconst 0, 1, 73), (73, .invokevirtual 43, 3, 76), (76, .iload 4, 2, 78), (78, .invokevirtual 51, 3, 81), (81, .goto 14, 3, 84), (84, .aload_n 0, 1, 85), (85, .iload_n 3, 1, 86), (86, .aload_n 1, 1, 87), (87, .iload_n 3, 1, 88), (88, .iconst 0, 1, 89), (89, .invokevirtual 43, 3, 92), (92, .invokevirtual 55, 3, 95), (95, .iinc 3 1, 3, 98), (98, .goto (-87), 3, 101), (101, .aload_n 0, 1, 102), (102, .getfield 47, 3, 105), (105, .ifCond .eq 16, 3, 108), (108, .aload_n 0, 1, 109), (109, .getfield 37, 3, 112), (112, .ifCond .ne 9, 3, 115), (115, .aload_n 0, 1, 116), (116, .iconst 1, 1, 117), (117, .iload_n 2, 1, 118), (118, .invokevirtual 58, 3, 121), (121, .aload_n 0, 1, 122), (122, .getfield 37, 3, 125), (125, .ifCond .ne 13, 3, 128), (128, .aload_n 0, 1, 129), (129, .getfield 9, 3, 132), (132, .invokestatic 61, 3, 135), (135, .goto 10, 3, 138), (138, .aload_n 0, 1, 139), (139, .getfield 9, 3, 142), (142, .invokevirtual 67, 3, 145), (145, .aload_n 0, 1, 146), (146, .getfield 37, 3, 149), (149, .ireturn, 1, 150)]
set_option maxRecDepth 100000 in
theorem DX2_readFrom : decOK cX2_readFrom LX2_readFrom = true := by decide +kernel
def LX2_start : DL := [(0, .aload_n 0, 1, 1), (1, .getfield 9, 3, 4), (4, .invokevirtual 67, 3, 7), (7, .aload_n 0, 1, 8), (8, .iconst 0, 1, 9), (9, .putfield 37, 3, 12), (12, .aload_n 0, 1, 13), (13, .bipush (-100), 2, 15), (15, .putfield 26, 3, 18), (18, .aload_n 0, 1, 19), (19, .iconst 0, 1, 20), (20, .putfield 40, 3, 23), (23, .aload_n 0, 1, 24), (24, .bipush 9, 2, 26), (26, .putfield 70, 3, 29), (29, .aload_n 0, 1, 30), (30, .iconst 0, 1, 31), (31, .putfield 47, 3, 34), (34, .aload_n 0, 1, 35), (35, .iconst 0, 1, 36), (36, .putfield 73, 3, 39), (39, .aload_n 0, 1, 40), (40, .iconst 0, 1, 41), (41, .putfield 76, 3, 44), (44, .aload_n 0, 1, 45), (45, .iconst 0, 1, 46), (46, .putfield 79, 3, 49), (49, .aload_n 0, 1, 50), (50, .iconst 0, 1, 51), (51, .putfield 82, 3, 54), (54, .aload_n 0, 1, 55), (55, .iconst 0, 1, 56), (56, .putfield 85, 3, 59), (59, .aload_n 0, 1, 60), (60, .getfield 22, 3, 63), (63, .iconst 0, 1, 64), (64, .invokevirtual 88, 3, 67), (67, .iconst 0, 1, 68), (68, .istore_n 1, 1, 69), (69, .iload_n 1, 1, 70), (70, .bipush 6, 2, 72), (72, .if_icmp .ge 18, 3, 75), (75, .aload_n 0, 1, 76), (76, .getfield 22, 3, 79), (79, .iconst 0, 1, 80), (80, .invokevirtual 92, 3, 83), (83, .pop, 1, 84), (84, .iinc 1 1, 3, 87), (87, .goto (-18), 3, 90), (90, .return_, 1, 91)]
set_option maxRecDepth 100000 in
theorem DX2_start : decOK cX2_start LX2_start = true := by decide +kernel
def LX2_refuse : DL := [(0, .aload_n 0, 1, 1), (1, .iload_n 1, 1, 2), (2, .putfield 37, 3, 5), (5, .aload_n 0, 1, 6), (6, .iload_n 2, 1, 7), (7, .putfield 26, 3, 10), (10, .return_, 1, 11)]
set_option maxRecDepth 100000 in
theorem DX2_refuse : decOK cX2_refuse LX2_refuse = true := by decide +kernel
def LX2_takeOutside : DL := [(0, .iload_n 2, 1, 1), (1, .invokestatic 96, 3, 4), (4, .ifCond .eq 19, 3, 7), (7, .aload_n 0, 1, 8), (8, .iconst 0, 1, 9), (9, .putfield 73, 3, 12), (12, .aload_n 0, 1, 13), (13, .iconst 0, 1, 14), (14, .putfield 76, 3, 17), (17, .aload_n 0, 1, 18), (18, .iconst 0, 1, 19), (19, .putfield 85, 3, 22), (22, .return_, 1, 23), (23, .iload_n 2, 1, 24), (24, .bipush 40, 2, 26), (26, .if_icmp .eq 17, 3, 29), (29, .iload_n 2, 1, 30), (30, .invokestatic 100, 3, 33), (33, .ifCond .ne 10, 3, 36), (36, .aload_n 0, 1, 37), (37, .iconst 1, 1, 38), (38, .iload_n 1, 1, 39), (39, .invokevirtual 58, 3, 42), (42, .return_, 1, 43), (43, .aload_n 0, 1, 44), (44, .getfield 73, 3, 47), (47, .ifCond .ne 12, 3, 50), (50, .aload_n 0, 1, 51), (51, .iload_n 1, 1, 52), (52, .invokevirtual 103, 3, 55), (55, .ifCond .ne 4, 3, 58), (58, .return_, 1, 59), (59, .aload_n 0, 1, 60), (60, .getfield 9, 3, 63), (63, .getfield 106, 3, 66), (66, .invokevirtual 33, 3, 69), (69, .iconst 1, 1, 70), (70, .isub, 1, 71), (71, .istore_n 3, 1, 72), (72, .iload_n 2, 1, 73), (73, .bipush 40, 2, 75), (75, .if_icmp .ne 22, 3, 78), (78, .aload_n 0, 1, 79), (79, .iconst 1, 1, 80), (80, .putfield 47, 3, 83), (83, .aload_n 0, 1, 84), (84, .getfield 9, 3, 87), (87, .getfield 106, 3, 90), (90, .iload_n 3, 1, 91), (91, .iconst 3, 1, 92), (92, .iconst 1, 1, 93), (93, .invokevirtual 109, 3, 96), (96, .return_, 1, 97), (97, .aload_n 0, 1, 98), (98, .getfield 9, 3, 101), (101, .getfield 112, 3, 104), (104, .iload_n 2, 1, 105), (105, .invokevirtual 92, 3, 108), (108, .pop, 1, 109), (109, .aload_n 0, 1, 110), (110, .getfield 9, 3, 113), (113, .getfield 106, 3, 116), (116, .iload_n 3, 1, 117), (117, .iconst 1, 1, 118), (118, .invokevirtual 43, 3, 121), (121, .istore 4, 2, 123), (123, .aload_n 0, 1, 124), (124, .getfield 9, 3, 127), (127, .getfield 106, 3, 130), (130, .iload_n 3, 1, 131), (131, .iconst 1, 1, 132), (132, .iload 4, 2, 134), (134, .iconst 1, 1, 135), (135, .iadd, 1, 136), (136, .invokevirtual 109, 3, 139), (139, .iload_n 2, 1, 140), (140, .bipush 39, 2, 142), (142, .if_icmp .ne 16, 3, 145), (145, .aload_n 0, 1, 146), (146, .getfield 9, 3, 149), (149, .getfield 106, 3, 152), (152, .iload_n 3, 1, 153), (153, .iconst 2, 1, 154), (154, .iconst 1, 1, 155), (155, .invokevirtual 109, 3, 158), (158, .return_, 1, 159)]
set_option maxRecDepth 100000 in
theorem DX2_takeOutside : decOK cX2_takeOutside LX2_takeOutside = true := by decide +kernel
def LX2_beginSyllable : DL := [(0, .aload_n 0, 1, 1), (1, .getfield 9, 3, 4), (4, .getfield 106, 3, 7), (7, .invokevirtual 115, 3, 10), (10, .ifCond .eq 11, 3, 13), (13, .aload_n 0, 1, 14), (14, .iconst 2, 1, 15), (15, .iload_n 1, 1, 16), (16, .invokevirtual 58, 3, 19), (19, .iconst 0, 1, 20), (20, .ireturn, 1, 21), (21, .aload_n 0, 1, 22), (22, .getfield 76, 3, 25), (25, .ifCond .ne 21, 3, 28), (28, .aload_n 0, 1, 29), (29, .iconst 1, 1, 30), (30, .putfield 76, 3, 33), (33, .aload_n 0, 1, 34), (34, .getfield 9, 3, 37), (37, .dup, 1, 38), (38, .getfield 119, 3, 41), (41, .iconst 1, 1, 42), (42, .iadd, 1, 43), (43, .putfield 119, 3, 46), (46, .aload_n 0, 1, 47), (47, .iconst 1, 1, 48), (48, .putfield 73, 3, 51), (51, .aload_n 0, 1, 52), (52, .getfield 9, 3, 55), (55, .getfield 106, 3, 58), (58, .aload_n 0, 1, 59), (59, .getfield 9, 3, 62), (62, .getfield 119, 3, 65), (65, .iconst 1, 1, 66), (66, .isub, 1, 67), (67, .invokevirtual 92, 3, 70), (70, .istore_n 2, 1, 71), (71, .aload_n 0, 1, 72), (72, .getfield 9, 3, 75), (75, .getfield 106, 3, 78), (78, .iload_n 2, 1, 79), (79, .iconst 5, 1, 80), (80, .bipush (-100), 2, 82), (82, .invokevirtual 109, 3, 85), (85, .aload_n 0, 1, 86), (86, .getfield 9, 3, 89), (89, .getfield 106, 3, 92), (92, .iload_n 2, 1, 93), (93, .bipush 6, 2, 95), (95, .aload_n 0, 1, 96), (96, .getfield 9, 3, 99), (99, .getfield 112, 3, 102), (102, .invokevirtual 33, 3, 105), (105, .invokevirtual 109, 3, 108), (108, .aload_n 0, 1, 109), (109, .getfield 9, 3, 112), (112, .getfield 106, 3, 115), (115, .iload_n 2, 1, 116), (116, .bipush 7, 2, 118), (118, .aload_n 0, 1, 119), (119, .getfield 9, 3, 122), (122, .getfield 122, 3, 125), (125, .invokevirtual 33, 3, 128), (128, .invokevirtual 109, 3, 131), (131, .iconst 1, 1, 132), (132, .ireturn, 1, 133)]
set_option maxRecDepth 100000 in
theorem DX2_beginSyllable : decOK cX2_beginSyllable LX2_beginSyllable = true := by decide +kernel
def LX2_endSyllable : DL := [(0, .aload_n 0, 1, 1), (1, .iconst 0, 1, 2), (2, .putfield 47, 3, 5), (5, .aload_n 0, 1, 6), (6, .iconst 0, 1, 7), (7, .putfield 73, 3, 10), (10, .aload_n 0, 1, 11), (11, .getfield 9, 3, 14), (14, .getfield 106, 3, 17), (17, .invokevirtual 33, 3, 20), (20, .iconst 1, 1, 21), (21, .isub, 1, 22), (22, .istore_n 1, 1, 23), (23, .aload_n 0, 1, 24), (24, .getfield 9, 3, 27), (27, .getfield 122, 3, 30), (30, .invokevirtual 33, 3, 33), (33, .aload_n 0, 1, 34), (34, .getfield 9, 3, 37), (37, .getfield 106, 3, 40), (40, .iload_n 1, 1, 41), (41, .bipush 7, 2, 43), (43, .invokevirtual 43, 3, 46), (46, .isub, 1, 47), (47, .istore_n 2, 1, 48), (48, .aload_n 0, 1, 49), (49, .getfield 9, 3, 52), (52, .getfield 106, 3, 55), (55, .iload_n 1, 1, 56), (56, .bipush 8, 2, 58), (58, .iload_n 2, 1, 59), (59, .invokevirtual 109, 3, 62), (62, .return_, 1, 63)]
set_option maxRecDepth 100000 in
theorem DX2_endSyllable : decOK cX2_endSyllable LX2_endSyllable = true := by decide +kernel
def LX2_takeInside : DL := [(0, .iload_n 2, 1, 1), (1, .invokestatic 125, 3, 4), (4, .istore 4, 2, 6), (6, .iload 4, 2, 8), (8, .ifCond .eq 11, 3, 11), (11, .aload_n 0, 1, 12), (12, .iload_n 1, 1, 13), (13, .iload 4, 2, 15), (15, .invokevirtual 128, 3, 18), (18, .return_, 1, 19), (19, .aload_n 0, 1, 20), (20, .iconst 0, 1, 21), (21, .putfield 82, 3, 24), (24, .iload_n 2, 1, 25), (25, .bipush 97, 2, 27), (27, .if_icmp .lt 20, 3, 30), (30, .iload_n 2, 1, 31), (31, .bipush 109, 2, 33), (33, .if_icmp .gt 14, 3, 36), (36, .aload_n 0, 1, 37), (37, .iload_n 1, 1, 38), (38, .iload_n 2, 1, 39), (39, .bipush 97, 2, 41), (41, .isub, 1, 42), (42, .iload_n 3, 1, 43), (43, .invokevirtual 131, 3, 46), (46, .return_, 1, 47), (47, .aload_n 0, 1, 48), (48, .iconst 0, 1, 49), (49, .putfield 79, 3, 52), (52, .iload_n 2, 1, 53), (53, .lookupswitch 130 #[(10, 75), (32, 75), (41, 78), (44, 85), (47, 75), (58, 103), (59, 94), (122, 122)], 75, 128), (128, .goto 61, 3, 131), (131, .aload_n 0, 1, 132), (132, .invokevirtual 134, 3, 135), (135, .goto 54, 3, 138), (138, .aload_n 0, 1, 139), (139, .iload_n 1, 1, 140), (140, .iconst 1, 1, 141), (141, .invokevirtual 137, 3, 144), (144, .goto 45, 3, 147), (147, .aload_n 0, 1, 148), (148, .iload_n 1, 1, 149), (149, .iconst 2, 1, 150), (150, .invokevirtual 137, 3, 153), (153, .goto 36, 3, 156), (156, .aload_n 0, 1, 157), (157, .iload_n 1, 1, 158), (158, .iload_n 3, 1, 159), (159, .bipush 58, 2, 161), (161, .if_icmp .ne 7, 3, 164), (164, .iconst 4, 1, 165), (165, .goto 4, 3, 168), (168, .iconst 3, 1, 169), (169, .invokevirtual 137, 3, 172), (172, .goto 17, 3, 175), (175, .aload_n 0, 1, 176), (176, .iload_n 1, 1, 177), (177, .invokevirtual 140, 3, 180), (180, .goto 9, 3, 183), (183, .aload_n 0, 1, 184), (184, .iconst 1, 1, 185), (185, .iload_n 1, 1, 186), (186, .invokevirtual 58, 3, 189), (189, .return_, 1, 190)]
set_option maxRecDepth 100000 in
theorem DX2_takeInside : decOK cX2_takeInside LX2_takeInside = true := by decide +kernel
def LX2_takeMark : DL := [(0, .aload_n 0, 1, 1), (1, .getfield 9, 3, 4), (4, .getfield 143, 3, 7), (7, .invokevirtual 33, 3, 10), (10, .iconst 1, 1, 11), (11, .isub, 1, 12), (12, .istore_n 3, 1, 13), (13, .aload_n 0, 1, 14), (14, .getfield 82, 3, 17), (17, .ifCond .ne 12, 3, 20), (20, .aload_n 0, 1, 21), (21, .iconst 1, 1, 22), (22, .iload_n 1, 1, 23), (23, .invokevirtual 58, 3, 26), (26, .goto 50, 3, 29), (29, .aload_n 0, 1, 30), (30, .getfield 9, 3, 33), (33, .iload_n 3, 1, 34), (34, .iload_n 2, 1, 35), (35, .invokevirtual 146, 3, 38), (38, .ifCond .eq 12, 3, 41), (41, .aload_n 0, 1, 42), (42, .iconst 3, 1, 43), (43, .iload_n 1, 1, 44), (44, .invokevirtual 58, 3, 47), (47, .goto 29, 3, 50), (50, .aload_n 0, 1, 51), (51, .getfield 9, 3, 54), (54, .getfield 143, 3, 57), (57, .iload_n 3, 1, 58), (58, .iconst 1, 1, 59), (59, .aload_n 0, 1, 60), (60, .getfield 9, 3, 63), (63, .getfield 143, 3, 66), (66, .iload_n 3, 1, 67), (67, .iconst 1, 1, 68), (68, .invokevirtual 43, 3, 71), (71, .iload_n 2, 1, 72), (72, .iadd, 1, 73), (73, .invokevirtual 109, 3, 76), (76, .return_, 1, 77)]
set_option maxRecDepth 100000 in
theorem DX2_takeMark : decOK cX2_takeMark LX2_takeMark = true := by decide +kernel
def LX2_takeHeight : DL := [(0, .iload_n 2, 1, 1), (1, .iconst 2, 1, 2), (2, .if_icmp .eq 8, 3, 5), (5, .iload_n 2, 1, 6), (6, .iconst 5, 1, 7), (7, .if_icmp .ne 7, 3, 10), (10, .iconst 1, 1, 11), (11, .goto 4, 3, 14), (14, .iconst 0, 1, 15), (15, .istore 4, 2, 17), (17, .iload_n 3, 1, 18), (18, .bipush 120, 2, 20), (20, .if_icmp .ne 13, 3, 23), (23, .aload_n 0, 1, 24), (24, .iload_n 1, 1, 25), (25, .iconst 1, 1, 26), (26, .iload_n 2, 1, 27), (27, .invokevirtual 150, 3, 30), (30, .goto 55, 3, 33), (33, .iload_n 3, 1, 34), (34, .bipush 121, 2, 36), (36, .if_icmp .ne 13, 3, 39), (39, .aload_n 0, 1, 40), (40, .iload_n 1, 1, 41), (41, .iconst 2, 1, 42), (42, .iload_n 2, 1, 43), (43, .invokevirtual 150, 3, 46), (46, .goto 39, 3, 49), (49, .iload 4, 2, 51), (51, .ifCond .eq 28, 3, 54), (54, .iload_n 3, 1, 55), (55, .bipush 49, 2, 57), (57, .if_icmp .lt 22, 3, 60), (60, .iload_n 3, 1, 61), (61, .bipush 52, 2, 63), (63, .if_icmp .gt 16, 3, 66), (66, .aload_n 0, 1, 67), (67, .iload_n 1, 1, 68), (68, .iload_n 2, 1, 69), (69, .iload_n 3, 1, 70), (70, .bipush 48, 2, 72), (72, .isub, 1, 73), (73, .invokevirtual 153, 3, 76), (76, .goto 9, 3, 79), (79, .aload_n 0, 1, 80), (80, .iload_n 1, 1, 81), (81, .iload_n 2, 1, 82), (82, .invokevirtual 156, 3, 85), (85, .return_, 1, 86)]
set_option maxRecDepth 100000 in
theorem DX2_takeHeight : decOK cX2_takeHeight LX2_takeHeight = true := by decide +kernel
def LX2_takeAccidental : DL := [(0, .aload_n 0, 1, 1), (1, .iload_n 1, 1, 2), (2, .iconst 2, 1, 3), (3, .iadd, 1, 4), (4, .putfield 40, 3, 7), (7, .aload_n 0, 1, 8), (8, .iload_n 1, 1, 9), (9, .iload_n 2, 1, 10), (10, .iload_n 3, 1, 11), (11, .invokevirtual 159, 3, 14), (14, .ifCond .eq 36, 3, 17), (17, .iconst 1, 1, 18), (18, .iload_n 3, 1, 19), (19, .ishl, 1, 20), (20, .istore 4, 2, 22), (22, .aload_n 0, 1, 23), (23, .iload_n 2, 1, 24), (24, .iconst 1, 1, 25), (25, .if_icmp .ne 13, 3, 28), (28, .aload_n 0, 1, 29), (29, .getfield 85, 3, 32), (32, .iload 4, 2, 34), (34, .ior, 1, 35), (35, .goto 12, 3, 38), (38, .aload_n 0, 1, 39), (39, .getfield 85, 3, 42), (42, .iload 4, 2, 44), (44, .iconst (-1), 1, 45), (45, .ixor, 1, 46), (46, .iand, 1, 47), (47, .putfield 85, 3, 50), (50, .return_, 1, 51)]
set_option maxRecDepth 100000 in
theorem DX2_takeAccidental : decOK cX2_takeAccidental LX2_takeAccidental = true := by decide +kernel
def LX2_takeClef : DL := [(0, .aload_n 0, 1, 1), (1, .iload_n 1, 1, 2), (2, .iconst 2, 1, 3), (3, .iadd, 1, 4), (4, .putfield 40, 3, 7), (7, .aload_n 0, 1, 8), (8, .iconst 0, 1, 9), (9, .putfield 79, 3, 12), (12, .iload_n 2, 1, 13), (13, .iconst 5, 1, 14), (14, .if_icmp .ne 7, 3, 17), (17, .iconst 1, 1, 18), (18, .goto 4, 3, 21), (21, .iconst 0, 1, 22), (22, .istore 4, 2, 24), (24, .aload_n 0, 1, 25), (25, .iload_n 1, 1, 26), (26, .iconst 3, 1, 27), (27, .iload 4, 2, 29), (29, .ifCond .eq 9, 3, 32), (32, .iload_n 3, 1, 33), (33, .iconst 4, 1, 34), (34, .iadd, 1, 35), (35, .goto 4, 3, 38), (38, .iload_n 3, 1, 39), (39, .invokevirtual 159, 3, 42), (42, .ifCond .eq 28, 3, 45), (45, .aload_n 0, 1, 46), (46, .iconst 2, 1, 47), (47, .iload_n 3, 1, 48), (48, .imul, 1, 49), (49, .iconst 1, 1, 50), (50, .iadd, 1, 51), (51, .iload 4, 2, 53), (53, .ifCond .eq 7, 3, 56), (56, .iconst 4, 1, 57), (57, .goto 4, 3, 60), (60, .iconst 0, 1, 61), (61, .iadd, 1, 62), (62, .putfield 70, 3, 65), (65, .aload_n 0, 1, 66), (66, .iconst 0, 1, 67), (67, .putfield 85, 3, 70), (70, .return_, 1, 71)]
set_option maxRecDepth 100000 in
theorem DX2_takeClef : decOK cX2_takeClef LX2_takeClef = true := by decide +kernel
def LX2_takeNote : DL := [(0, .aload_n 0, 1, 1), (1, .iload_n 1, 1, 2), (2, .iconst 0, 1, 3), (3, .aload_n 0, 1, 4), (4, .getfield 9, 3, 7), (7, .getfield 143, 3, 10), (10, .invokevirtual 33, 3, 13), (13, .invokevirtual 159, 3, 16), (16, .ifCond .ne 4, 3, 19), (19, .return_, 1, 20), (20, .aload_n 0, 1, 21), (21, .getfield 79, 3, 24), (24, .ifCond .ne 21, 3, 27), (27, .aload_n 0, 1, 28), (28, .iconst 1, 1, 29), (29, .putfield 79, 3, 32), (32, .aload_n 0, 1, 33), (33, .getfield 9, 3, 36), (36, .dup, 1, 37), (37, .getfield 163, 3, 40), (40, .iconst 1, 1, 41), (41, .iadd, 1, 42), (42, .putfield 163, 3, 45), (45, .aload_n 0, 1, 46), (46, .iconst 1, 1, 47), (47, .putfield 82, 3, 50), (50, .iload_n 2, 1, 51), (51, .aload_n 0, 1, 52), (52, .getfield 70, 3, 55), (55, .isub, 1, 56), (56, .istore_n 3, 1, 57), (57, .aload_n 0, 1, 58), (58, .getfield 9, 3, 61), (61, .getfield 106, 3, 64), (64, .invokevirtual 33, 3, 67), (67, .iconst 1, 1, 68), (68, .isub, 1, 69), (69, .istore 4, 2, 71), (71, .aload_n 0, 1, 72), (72, .getfield 9, 3, 75), (75, .getfield 143, 3, 78), (78, .iload_n 2, 1, 79), (79, .invokevirtual 92, 3, 82), (82, .istore 5, 2, 84), (84, .aload_n 0, 1, 85), (85, .getfield 9, 3, 88), (88, .getfield 143, 3, 91), (91, .iload 5, 2, 93), (93, .iconst 2, 1, 94), (94, .iload 4, 2, 96), (96, .invokevirtual 109, 3, 99), (99, .aload_n 0, 1, 100), (100, .getfield 9, 3, 103), (103, .getfield 143, 3, 106), (106, .iload 5, 2, 108), (108, .iconst 3, 1, 109), (109, .aload_n 0, 1, 110), (110, .getfield 9, 3, 113), (113, .getfield 163, 3, 116), (116, .iconst 1, 1, 117), (117, .isub, 1, 118), (118, .invokevirtual 109, 3, 121), (121, .aload_n 0, 1, 122), (122, .getfield 9, 3, 125), (125, .getfield 143, 3, 128), (128, .iload 5, 2, 130), (130, .iconst 5, 1, 131), (131, .iload_n 3, 1, 132), (132, .invokevirtual 109, 3, 135), (135, .aload_n 0, 1, 136), (136, .getfield 9, 3, 139), (139, .getfield 143, 3, 142), (142, .iload 5, 2, 144), (144, .bipush 6, 2, 146), (146, .iload_n 3, 1, 147), (147, .invokestatic 166, 3, 150), (150, .aload_n 0, 1, 151), (151, .getfield 85, 3, 154), (154, .iload_n 2, 1, 155), (155, .ishr, 1, 156), (156, .iconst 1, 1, 157), (157, .iand, 1, 158), (158, .isub, 1, 159), (159, .invokevirtual 109, 3, 162), (162, .aload_n 0, 1, 163), (163, .getfield 9, 3, 166), (166, .getfield 106, 3, 169), (169, .iload 4, 2, 171), (171, .iconst 4, 1, 172), (172, .invokevirtual 43, 3, 175), (175, .istore 6, 2, 177), (177, .iload 6, 2, 179), (179, .ifCond .ne 18, 3, 182), (182, .aload_n 0, 1, 183), (183, .getfield 9, 3, 186), (186, .getfield 106, 3, 189), (189, .iload 4, 2, 191), (191, .iconst 5, 1, 192), (192, .iload 5, 2, 194), (194, .invokevirtual 109, 3, 197), (197, .aload_n 0, 1, 198), (198, .getfield 9, 3, 201), (201, .getfield 106, 3, 204), (204, .iload 4, 2, 206), (206, .iconst 4, 1, 207), (207, .iload 6, 2, 209), (209, .iconst 1, 1, 210), (210, .iadd, 1, 211), (211, .invokevirtual 109, 3, 214), (214, .return_, 1, 215)]
set_option maxRecDepth 100000 in
theorem DX2_takeNote : decOK cX2_takeNote LX2_takeNote = true := by decide +kernel
def LX2_takeBar : DL := [(0, .iload_n 2, 1, 1), (1, .iconst 4, 1, 2), (2, .if_icmp .ne 10, 3, 5), (5, .aload_n 0, 1, 6), (6, .iload_n 1, 1, 7), (7, .iconst 2, 1, 8), (8, .iadd, 1, 9), (9, .putfield 40, 3, 12), (12, .aload_n 0, 1, 13), (13, .iload_n 1, 1, 14), (14, .iconst 4, 1, 15), (15, .iload_n 2, 1, 16), (16, .invokevirtual 159, 3, 19), (19, .ifCond .eq 42, 3, 22), (22, .aload_n 0, 1, 23), (23, .getfield 9, 3, 26), (26, .getfield 169, 3, 29), (29, .iload_n 2, 1, 30), (30, .invokevirtual 92, 3, 33), (33, .istore_n 3, 1, 34), (34, .aload_n 0, 1, 35), (35, .getfield 9, 3, 38), (38, .getfield 169, 3, 41), (41, .iload_n 3, 1, 42), (42, .iconst 1, 1, 43), (43, .aload_n 0, 1, 44), (44, .getfield 9, 3, 47), (47, .getfield 143, 3, 50), (50, .invokevirtual 33, 3, 53), (53, .invokevirtual 109, 3, 56), (56, .aload_n 0, 1, 57), (57, .iconst 0, 1, 58), (58, .putfield 85, 3, 61), (61, .return_, 1, 62)]
set_option maxRecDepth 100000 in
theorem DX2_takeBar : decOK cX2_takeBar LX2_takeBar = true := by decide +kernel
def LX2_takeLineEnd : DL := [(0, .aload_n 0, 1, 1), (1, .iload_n 1, 1, 2), (2, .iconst 5, 1, 3), (3, .iconst 0, 1, 4), (4, .invokevirtual 159, 3, 7), (7, .ifCond .eq 40, 3, 10), (10, .aload_n 0, 1, 11), (11, .getfield 9, 3, 14), (14, .getfield 172, 3, 17), (17, .aload_n 0, 1, 18), (18, .getfield 9, 3, 21), (21, .getfield 143, 3, 24), (24, .invokevirtual 33, 3, 27), (27, .invokevirtual 92, 3, 30), (30, .istore_n 2, 1, 31), (31, .aload_n 0, 1, 32), (32, .getfield 9, 3, 35), (35, .getfield 172, 3, 38), (38, .iload_n 2, 1, 39), (39, .iconst 1, 1, 40), (40, .aload_n 0, 1, 41), (41, .getfield 70, 3, 44), (44, .invokevirtual 109, 3, 47), (47, .return_, 1, 48)]
set_option maxRecDepth 100000 in
theorem DX2_takeLineEnd : decOK cX2_takeLineEnd LX2_takeLineEnd = true := by decide +kernel
def LX2_addSign : DL := [(0, .aload_n 0, 1, 1), (1, .getfield 22, 3, 4), (4, .iload_n 2, 1, 5), (5, .iconst 0, 1, 6), (6, .invokevirtual 43, 3, 9), (9, .istore 4, 2, 11), (11, .iload 4, 2, 13), (13, .iload_n 2, 1, 14), (14, .invokestatic 175, 3, 17), (17, .if_icmp .lt 11, 3, 20), (20, .aload_n 0, 1, 21), (21, .iconst 2, 1, 22), (22, .iload_n 1, 1, 23), (23, .invokevirtual 58, 3, 26), (26, .iconst 0, 1, 27), (27, .ireturn, 1, 28), (28, .aload_n 0, 1, 29), (29, .getfield 22, 3, 32), (32, .iload_n 2, 1, 33), (33, .iconst 0, 1, 34), (34, .iload 4, 2, 36), (36, .iconst 1, 1, 37), (37, .iadd, 1, 38), (38, .invokevirtual 109, 3, 41), (41, .aload_n 0, 1, 42), (42, .getfield 9, 3, 45), (45, .getfield 122, 3, 48), (48, .aload_n 0, 1, 49), (49, .getfield 9, 3, 52), (52, .getfield 122, 3, 55), (55, .iload_n 2, 1, 56), (56, .invokevirtual 92, 3, 59), (59, .iconst 1, 1, 60), (60, .iload_n 3, 1, 61), (61, .invokevirtual 109, 3, 64), (64, .iconst 1, 1, 65), (65, .ireturn, 1, 66)]
set_option maxRecDepth 100000 in
theorem DX2_addSign : decOK cX2_addSign LX2_addSign = true := by decide +kernel
def LX2_roomOf : DL := [(0, .iload_n 0, 1, 1), (1, .lookupswitch 34 #[(0, 27), (4, 31)], 27, 28), (28, .sipush 150, 3, 31), (31, .ireturn, 1, 32), (32, .bipush 30, 2, 34), (34, .ireturn, 1, 35), (35, .bipush 20, 2, 37), (37, .ireturn, 1, 38)]
set_option maxRecDepth 100000 in
theorem DX2_roomOf : decOK cX2_roomOf LX2_roomOf = true := by decide +kernel
def LX2_semitonesOf : DL := [(0, .iload_n 0, 1, 1), (1, .bipush 7, 2, 3), (3, .invokestatic 178, 3, 6), (6, .istore_n 1, 1, 7), (7, .iload_n 0, 1, 8), (8, .bipush 7, 2, 10), (10, .invokestatic 183, 3, 13), (13, .istore_n 2, 1, 14), (14, .iload_n 1, 1, 15), (15, .ifCond .lt 19, 3, 18), (18, .iload_n 1, 1, 19), (19, .getstatic 186, 3, 22), (22, .arraylength, 1, 23), (23, .if_icmp .ge 11, 3, 26), (26, .getstatic 186, 3, 29), (29, .iload_n 1, 1, 30), (30, .iaload, 1, 31), (31, .goto 4, 3, 34), (34, .iconst 0, 1, 35), (35, .istore_n 3, 1, 36), (36, .bipush 12, 2, 38), (38, .iload_n 2, 1, 39), (39, .imul, 1, 40), (40, .iload_n 3, 1, 41), (41, .iadd, 1, 42), (42, .ireturn, 1, 43)]
set_option maxRecDepth 100000 in
theorem DX2_semitonesOf : decOK cX2_semitonesOf LX2_semitonesOf = true := by decide +kernel
def LX2_isBlank : DL := [(0, .iload_n 0, 1, 1), (1, .bipush 32, 2, 3), (3, .if_icmp .eq 9, 3, 6), (6, .iload_n 0, 1, 7), (7, .bipush 10, 2, 9), (9, .if_icmp .ne 7, 3, 12), (12, .iconst 1, 1, 13), (13, .goto 4, 3, 16), (16, .iconst 0, 1, 17), (17, .ireturn, 1, 18)]
set_option maxRecDepth 100000 in
theorem DX2_isBlank : decOK cX2_isBlank LX2_isBlank = true := by decide +kernel
def LX2_isLetter : DL := [(0, .iload_n 0, 1, 1), (1, .bipush 97, 2, 3), (3, .if_icmp .lt 9, 3, 6), (6, .iload_n 0, 1, 7), (7, .bipush 122, 2, 9), (9, .if_icmp .le 21, 3, 12), (12, .iload_n 0, 1, 13), (13, .bipush 65, 2, 15), (15, .if_icmp .lt 9, 3, 18), (18, .iload_n 0, 1, 19), (19, .bipush 90, 2, 21), (21, .if_icmp .le 9, 3, 24), (24, .iload_n 0, 1, 25), (25, .bipush 39, 2, 27), (27, .if_icmp .ne 7, 3, 30), (30, .iconst 1, 1, 31), (31, .goto 4, 3, 34), (34, .iconst 0, 1, 35), (35, .ireturn, 1, 36)]
set_option maxRecDepth 100000 in
theorem DX2_isLetter : decOK cX2_isLetter LX2_isLetter = true := by decide +kernel
def LX2_markOf : DL := [(0, .iload_n 0, 1, 1), (1, .lookupswitch 63 #[(46, 51), (95, 53), (118, 55), (119, 57), (126, 60)], 51, 52), (52, .iconst 1, 1, 53), (53, .ireturn, 1, 54), (54, .iconst 2, 1, 55), (55, .ireturn, 1, 56), (56, .iconst 4, 1, 57), (57, .ireturn, 1, 58), (58, .bipush 8, 2, 60), (60, .ireturn, 1, 61), (61, .bipush 16, 2, 63), (63, .ireturn, 1, 64), (64, .iconst 0, 1, 65), (65, .ireturn, 1, 66)]
set_option maxRecDepth 100000 in
theorem DX2_markOf : decOK cX2_markOf LX2_markOf = true := by decide +kernel
def LX3_init : DL := [(0, .aload_n 0, 1, 1), (1, .invokespecial 5, 3, 4), (4, .aload_n 0, 1, 5), (5, .new 11, 3, 8), (8, .dup, 1, 9), (9, .sipush 1500, 3, 12), (12, .iconst 1, 1, 13), (13, .invokespecial 13, 3, 16), (16, .putfield 16, 3, 19), (19, .aload_n 0, 1, 20), (20, .new 11, 3, 23), (23, .dup, 1, 24), (24, .bipush 60, 2, 26), (26, .bipush 9, 2, 28), (28, .invokespecial 13, 3, 31), (31, .putfield 20, 3, 34), (34, .aload_n 0, 1, 35), (35, .new 11, 3, 38), (38, .dup, 1, 39), (39, .sipush 150, 3, 42), (42, .bipush 8, 2, 44), (44, .invokespecial 13, 3, 47), (47, .putfield 23, 3, 50), (50, .aload_n 0, 1, 51), (51, .new 11, 3, 54), (54, .dup, 1, 55), (55, .sipush 150, 3, 58), (58, .iconst 4, 1, 59), (59, .invokespecial 13, 3, 62), (62, .putfield 26, 3, 65), (65, .aload_n 0, 1, 66), (66, .new 11, 3, 69), (69, .dup, 1, 70), (70, .bipush 30, 2, 72), (72, .iconst 2, 1, 73), (73, .invokespecial 13, 3, 76), (76, .putfield 29, 3, 79), (79, .aload_n 0, 1, 80), (80, .new 11, 3, 83), (83, .dup, 1, 84), (84, .bipush 20, 2, 86), (86, .iconst 2, 1, 87), (87, .invokespecial 13, 3, 90), (90, .putfield 32, 3, 93), (93, .aload_n 0, 1, 94), (94, .new 11, 3, 97), (97, .dup, 1, 98), (98, .sipush 260, 3, 101), (101, .iconst 2, 1, 102), (102, .invokespecial 13, 3, 105), (105, .putfield 35, 3, 108), (108, .aload_n 0, 1, 109), (109, .iconst 0, 1, 110), (110, .putfield 38, 3, 113), (113, .aload_n 0, 1, 114), (114, .iconst 0, 1, 115), (115, .putfield 42, 3, 118), (118, .return_, 1, 119)]
set_option maxRecDepth 100000 in
theorem DX3_init : decOK cX3_init LX3_init = true := by decide +kernel
def LX3_clear : DL := [(0, .aload_n 0, 1, 1), (1, .getfield 16, 3, 4), (4, .iconst 0, 1, 5), (5, .invokevirtual 45, 3, 8), (8, .aload_n 0, 1, 9), (9, .getfield 20, 3, 12), (12, .iconst 0, 1, 13), (13, .invokevirtual 45, 3, 16), (16, .aload_n 0, 1, 17), (17, .getfield 23, 3, 20), (20, .iconst 0, 1, 21), (21, .invokevirtual 45, 3, 24), (24, .aload_n 0, 1, 25), (25, .getfield 26, 3, 28), (28, .iconst 0, 1, 29), (29, .invokevirtual 45, 3, 32), (32, .aload_n 0, 1, 33), (33, .getfield 29, 3, 36), (36, .iconst 0, 1, 37), (37, .invokevirtual 45, 3, 40), (40, .aload_n 0, 1, 41), (41, .getfield 32, 3, 44), (44, .iconst 0, 1, 45), (45, .invokevirtual 45, 3, 48), (48, .aload_n 0, 1, 49), (49, .getfield 35, 3, 52), (52, .iconst 0, 1, 53), (53, .invokevirtual 45, 3, 56), (56, .aload_n 0, 1, 57), (57, .iconst 0, 1, 58), (58, .putfield 38, 3, 61), (61, .aload_n 0, 1, 62), (62, .iconst 0, 1, 63), (63, .putfield 42, 3, 66), (66, .return_, 1, 67)]
set_option maxRecDepth 100000 in
theorem DX3_clear : decOK cX3_clear LX3_clear = true := by decide +kernel
def LX3_syllablesWithoutNotes : DL := [(0, .iconst 0, 1, 1), (1, .istore_n 1, 1, 2), (2, .iconst 0, 1, 3), (3, .istore_n 2, 1, 4), (4, .iload_n 2, 1, 5), (5, .aload_n 0, 1, 6), (6, .getfield 20, 3, 9), (9, .invokevirtual 49, 3, 12), (12, .if_icmp .ge 24, 3, 15), (15, .aload_n 0, 1, 16), (16, .getfield 20, 3, 19), (19, .iload_n 2, 1, 20), (20, .iconst 4, 1, 21), (21, .invokevirtual 53, 3, 24), (24, .ifCond .ne 6, 3, 27), (27, .iinc 1 1, 3, 30), (30, .iinc 2 1, 3, 33), (33, .goto (-29), 3, 36), (36, .iload_n 1, 1, 37), (37, .ireturn, 1, 38)]
set_option maxRecDepth 100000 in
theorem DX3_syllablesWithoutNotes : decOK cX3_syllablesWithoutNotes LX3_syllablesWithoutNotes = true := by decide +kernel
def LX3_sameGroup : DL := [(0, .aload_n 0, 1, 1), (1, .getfield 23, 3, 4), (4, .iload_n 1, 1, 5), (5, .invokevirtual 57, 3, 8), (8, .ifCond .eq 39, 3, 11), (11, .aload_n 0, 1, 12), (12, .getfield 23, 3, 15), (15, .iload_n 2, 1, 16), (16, .invokevirtual 57, 3, 19), (19, .ifCond .eq 28, 3, 22), (22, .aload_n 0, 1, 23), (23, .getfield 23, 3, 26), (26, .iload_n 1, 1, 27), (27, .iconst 3, 1, 28), (28, .invokevirtual 53, 3, 31), (31, .aload_n 0, 1, 32), (32, .getfield 23, 3, 35), (35, .iload_n 2, 1, 36), (36, .iconst 3, 1, 37), (37, .invokevirtual 53, 3, 40), (40, .if_icmp .ne 7, 3, 43), (43, .iconst 1, 1, 44), (44, .goto 4, 3, 47), (47, .iconst 0, 1, 48), (48, .ireturn, 1, 49)]
set_option maxRecDepth 100000 in
theorem DX3_sameGroup : decOK cX3_sameGroup LX3_sameGroup = true := by decide +kernel
def LX3_hasMark : DL := [(0, .aload_n 0, 1, 1), (1, .getfield 23, 3, 4), (4, .iload_n 1, 1, 5), (5, .iconst 1, 1, 6), (6, .invokevirtual 53, 3, 9), (9, .iload_n 2, 1, 10), (10, .iand, 1, 11), (11, .ifCond .eq 7, 3, 14), (14, .iconst 1, 1, 15), (15, .goto 4, 3, 18), (18, .iconst 0, 1, 19), (19, .ireturn, 1, 20)]
set_option maxRecDepth 100000 in
theorem DX3_hasMark : decOK cX3_hasMark LX3_hasMark = true := by decide +kernel
def LX3_guideOf : DL := [(0, .aload_n 0, 1, 1), (1, .getfield 32, 3, 4), (4, .iload_n 1, 1, 5), (5, .iconst 0, 1, 6), (6, .invokevirtual 53, 3, 9), (9, .istore_n 2, 1, 10), (10, .aload_n 0, 1, 11), (11, .getfield 23, 3, 14), (14, .iload_n 2, 1, 15), (15, .invokevirtual 57, 3, 18), (18, .ifCond .ne 6, 3, 21), (21, .bipush (-100), 2, 23), (23, .ireturn, 1, 24), (24, .aload_n 0, 1, 25), (25, .getfield 23, 3, 28), (28, .iload_n 2, 1, 29), (29, .iconst 5, 1, 30), (30, .invokevirtual 53, 3, 33), (33, .aload_n 0, 1, 34), (34, .getfield 32, 3, 37), (37, .iload_n 1, 1, 38), (38, .iconst 1, 1, 39), (39, .invokevirtual 53, 3, 42), (42, .iadd, 1, 43), (43, .istore_n 3, 1, 44), (44, .iload_n 3, 1, 45), (45, .ifCond .lt 9, 3, 48), (48, .iload_n 3, 1, 49), (49, .bipush 12, 2, 51), (51, .if_icmp .le 8, 3, 54), (54, .bipush (-100), 2, 56), (56, .goto 4, 3, 59), (59, .iload_n 3, 1, 60), (60, .ireturn, 1, 61)]
set_option maxRecDepth 100000 in
theorem DX3_guideOf : decOK cX3_guideOf LX3_guideOf = true := by decide +kernel
def LX3_finalStep : DL := [(0, .aload_n 0, 1, 1), (1, .getfield 23, 3, 4), (4, .aload_n 0, 1, 5), (5, .getfield 23, 3, 8), (8, .invokevirtual 49, 3, 11), (11, .iconst 1, 1, 12), (12, .isub, 1, 13), (13, .iconst 5, 1, 14), (14, .invokevirtual 53, 3, 17), (17, .ireturn, 1, 18)]
set_option maxRecDepth 100000 in
theorem DX3_finalStep : decOK cX3_finalStep LX3_finalStep = true := by decide +kernel
def LX3_lowestStep : DL := [(0, .aload_n 0, 1, 1), (1, .invokevirtual 61, 3, 4), (4, .istore_n 1, 1, 5), (5, .iconst 0, 1, 6), (6, .istore_n 2, 1, 7), (7, .iload_n 2, 1, 8), (8, .aload_n 0, 1, 9), (9, .getfield 23, 3, 12), (12, .invokevirtual 49, 3, 15), (15, .if_icmp .ge 23, 3, 18), (18, .iload_n 1, 1, 19), (19, .aload_n 0, 1, 20), (20, .getfield 23, 3, 23), (23, .iload_n 2, 1, 24), (24, .iconst 5, 1, 25), (25, .invokevirtual 53, 3, 28), (28, .invokestatic 64, 3, 31), (31, .istore_n 1, 1, 32), (32, .iinc 2 1, 3, 35), (35, .goto (-28), 3, 38), (38, .iload_n 1, 1, 39), (39, .ireturn, 1, 40)]
set_option maxRecDepth 100000 in
theorem DX3_lowestStep : decOK cX3_lowestStep LX3_lowestStep = true := by decide +kernel
def LX3_highestStep : DL := [(0, .aload_n 0, 1, 1), (1, .invokevirtual 61, 3, 4), (4, .istore_n 1, 1, 5), (5, .iconst 0, 1, 6), (6, .istore_n 2, 1, 7), (7, .iload_n 2, 1, 8), (8, .aload_n 0, 1, 9), (9, .getfield 23, 3, 12), (12, .invokevirtual 49, 3, 15), (15, .if_icmp .ge 23, 3, 18), (18, .iload_n 1, 1, 19), (19, .aload_n 0, 1, 20), (20, .getfield 23, 3, 23), (23, .iload_n 2, 1, 24), (24, .iconst 5, 1, 25), (25, .invokevirtual 53, 3, 28), (28, .invokestatic 69, 3, 31), (31, .istore_n 1, 1, 32), (32, .iinc 2 1, 3, 35), (35, .goto (-28), 3, 38), (38, .iload_n 1, 1, 39), (39, .ireturn, 1, 40)]
set_option maxRecDepth 100000 in
theorem DX3_highestStep : decOK cX3_highestStep LX3_highestStep = true := by decide +kernel
def LX3_modeNumber : DL := [(0, .aload_n 0, 1, 1), (1, .invokevirtual 61, 3, 4), (4, .bipush 7, 2, 6), (6, .invokestatic 72, 3, 9), (9, .istore_n 1, 1, 10), (10, .iload_n 1, 1, 11), (11, .iconst 1, 1, 12), (12, .if_icmp .lt 8, 3, 15), (15, .iload_n 1, 1, 16), (16, .iconst 4, 1, 17), (17, .if_icmp .le 5, 3, 20), (20, .iconst 0, 1, 21), (21, .ireturn, 1, 22), (22, .iconst 2, 1, 23), (23, .iload_n 1, 1, 24), (24, .imul, 1, 25), (25, .iconst 1, 1, 26), (26, .isub, 1, 27), (27, .istore_n 2, 1, 28), (28, .aload_n 0, 1, 29), (29, .invokevirtual 61, 3, 32), (32, .aload_n 0, 1, 33), (33, .invokevirtual 75, 3, 36), (36, .isub, 1, 37), (37, .iconst 3, 1, 38), (38, .if_icmp .lt 20, 3, 41), (41, .aload_n 0, 1, 42), (42, .invokevirtual 78, 3, 45), (45, .aload_n 0, 1, 46), (46, .invokevirtual 61, 3, 49), (49, .isub, 1, 50), (50, .iconst 5, 1, 51), (51, .if_icmp .gt 7, 3, 54), (54, .iconst 1, 1, 55), (55, .goto 4, 3, 58), (58, .iconst 0, 1, 59), (59, .istore_n 3, 1, 60), (60, .iload_n 3, 1, 61), (61, .ifCond .eq 9, 3, 64), (64, .iload_n 2, 1, 65), (65, .iconst 1, 1, 66), (66, .iadd, 1, 67), (67, .goto 4, 3, 70), (70, .iload_n 2, 1, 71), (71, .ireturn, 1, 72)]
set_option maxRecDepth 100000 in
theorem DX3_modeNumber : decOK cX3_modeNumber LX3_modeNumber = true := by decide +kernel
def LX3_tenorStep : DL := [(0, .aload_n 0, 1, 1), (1, .invokevirtual 81, 3, 4), (4, .istore_n 1, 1, 5), (5, .iload_n 1, 1, 6), (6, .iconst 1, 1, 7), (7, .if_icmp .lt 11, 3, 10), (10, .iload_n 1, 1, 11), (11, .getstatic 84, 3, 14), (14, .arraylength, 1, 15), (15, .if_icmp .le 6, 3, 18), (18, .bipush (-100), 2, 20), (20, .ireturn, 1, 21), (21, .aload_n 0, 1, 22), (22, .invokevirtual 61, 3, 25), (25, .getstatic 84, 3, 28), (28, .iload_n 1, 1, 29), (29, .iconst 1, 1, 30), (30, .isub, 1, 31), (31, .iaload, 1, 32), (32, .iadd, 1, 33), (33, .ireturn, 1, 34)]
set_option maxRecDepth 100000 in
theorem DX3_tenorStep : decOK cX3_tenorStep LX3_tenorStep = true := by decide +kernel
def LX4_shape : DL := [(0, .iconst 0, 1, 1), (1, .istore_n 1, 1, 2), (2, .iconst 0, 1, 3), (3, .istore_n 2, 1, 4), (4, .iload_n 2, 1, 5), (5, .aload_n 0, 1, 6), (6, .getfield 9, 3, 9), (9, .invokevirtual 15, 3, 12), (12, .if_icmp .ge 55, 3, 15), (15, .iload_n 2, 1, 16), (16, .iload_n 1, 1, 17), (17, .if_icmp .ne 11, 3, 20), (20, .iload_n 2, 1, 21), (21, .aload_n 0, 1, 22), (22, .iload_n 2, 1, 23), (23, .invokestatic 21, 3, 26), (26, .iadd, 1, 27), (27, .istore_n 1, 1, 28), (28, .aload_n 0, 1, 29), (29, .getfield 9, 3, 32), (32, .iload_n 2, 1, 33), (33, .iconst 4, 1, 34), (34, .aload_n 0, 1, 35), (35, .getfield 27, 3, 38), (38, .invokevirtual 15, 3, 41), (41, .iconst 1, 1, 42), (42, .isub, 1, 43), (43, .invokevirtual 30, 3, 46), (46, .aload_n 0, 1, 47), (47, .getfield 9, 3, 50), (50, .iload_n 2, 1, 51), (51, .bipush 7, 2, 53), (53, .aload_n 0, 1, 54), (54, .iload_n 2, 1, 55), (55, .invokestatic 34, 3, 58), (58, .invokevirtual 30, 3, 61), (61, .iinc 2 1, 3, 64), (64, .goto (-60), 3, 67), (67, .return_, 1, 68)]
set_option maxRecDepth 100000 in
theorem DX4_shape : decOK cX4_shape LX4_shape = true := by decide +kernel
def LX4_beginNeume : DL := [(0, .aload_n 0, 1, 1), (1, .iload_n 1, 1, 2), (2, .iconst 4, 1, 3), (3, .invokevirtual 37, 3, 6), (6, .ifCond .eq 7, 3, 9), (9, .iconst 2, 1, 10), (10, .goto 4, 3, 13), (13, .iconst 1, 1, 14), (14, .istore_n 2, 1, 15), (15, .iconst 1, 1, 16), (16, .istore_n 3, 1, 17), (17, .iconst 0, 1, 18), (18, .istore 4, 2, 20), (20, .iconst 1, 1, 21), (21, .istore 5, 2, 23), (23, .iload 5, 2, 25), (25, .iconst 4, 1, 26), (26, .if_icmp .gt 59, 3, 29), (29, .aload_n 0, 1, 30), (30, .iload_n 1, 1, 31), (31, .iload_n 1, 1, 32), (32, .iload 5, 2, 34), (34, .iadd, 1, 35), (35, .invokevirtual 41, 3, 38), (38, .ifCond .eq 47, 3, 41), (41, .bipush 10, 2, 43), (43, .iload 4, 2, 45), (45, .imul, 1, 46), (46, .aload_n 0, 1, 47), (47, .iload_n 1, 1, 48), (48, .iload 5, 2, 50), (50, .iadd, 1, 51), (51, .invokestatic 44, 3, 54), (54, .iadd, 1, 55), (55, .istore 4, 2, 57), (57, .iload 4, 2, 59), (59, .invokestatic 47, 3, 62), (62, .istore 6, 2, 64), (64, .iload 6, 2, 66), (66, .bipush (-100), 2, 68), (68, .if_icmp .eq 11, 3, 71), (71, .iload 6, 2, 73), (73, .istore_n 2, 1, 74), (74, .iload 5, 2, 76), (76, .iconst 1, 1, 77), (77, .iadd, 1, 78), (78, .istore_n 3, 1, 79), (79, .iinc 5 1, 3, 82), (82, .goto (-59), 3, 85), (85, .aload_n 0, 1, 86), (86, .getfield 27, 3, 89), (89, .iload_n 2, 1, 90), (90, .invokevirtual 51, 3, 93), (93, .istore 5, 2, 95), (95, .aload_n 0, 1, 96), (96, .getfield 27, 3, 99), (99, .iload 5, 2, 101), (101, .iconst 1, 1, 102), (102, .iload_n 1, 1, 103), (103, .invokevirtual 30, 3, 106), (106, .aload_n 0, 1, 107), (107, .getfield 27, 3, 110), (110, .iload 5, 2, 112), (112, .iconst 2, 1, 113), (113, .iload_n 3, 1, 114), (114, .invokevirtual 30, 3, 117), (117, .aload_n 0, 1, 118), (118, .iload_n 1, 1, 119), (119, .iload_n 3, 1, 120), (120, .iadd, 1, 121), (121, .iconst 1, 1, 122), (122, .isub, 1, 123), (123, .bipush 16, 2, 125), (125, .invokevirtual 37, 3, 128), (128, .istore 6, 2, 130), (130, .aload_n 0, 1, 131), (131, .getfield 27, 3, 134), (134, .iload 5, 2, 136), (136, .iconst 3, 1, 137), (137, .iload 6, 2, 139), (139, .ifCond .eq 7, 3, 142), (142, .iconst 1, 1, 143), (143, .goto 4, 3, 146), (146, .iconst 0, 1, 147), (147, .invokevirtual 30, 3, 150), (150, .iload_n 3, 1, 151), (151, .ireturn, 1, 152)]
set_option maxRecDepth 100000 in
theorem DX4_beginNeume : decOK cX4_beginNeume LX4_beginNeume = true := by decide +kernel
def LX4_wayTo : DL := [(0, .aload_n 0, 1, 1), (1, .getfield 9, 3, 4), (4, .iload_n 1, 1, 5), (5, .iconst 1, 1, 6), (6, .isub, 1, 7), (7, .iconst 0, 1, 8), (8, .invokevirtual 54, 3, 11), (11, .istore_n 2, 1, 12), (12, .aload_n 0, 1, 13), (13, .getfield 9, 3, 16), (16, .iload_n 1, 1, 17), (17, .iconst 0, 1, 18), (18, .invokevirtual 54, 3, 21), (21, .istore_n 3, 1, 22), (22, .iload_n 3, 1, 23), (23, .iload_n 2, 1, 24), (24, .if_icmp .ne 5, 3, 27), (27, .iconst 3, 1, 28), (28, .ireturn, 1, 29), (29, .iload_n 3, 1, 30), (30, .iload_n 2, 1, 31), (31, .if_icmp .le 7, 3, 34), (34, .iconst 1, 1, 35), (35, .goto 4, 3, 38), (38, .iconst 2, 1, 39), (39, .ireturn, 1, 40)]
set_option maxRecDepth 100000 in
theorem DX4_wayTo : decOK cX4_wayTo LX4_wayTo = true := by decide +kernel
def LX4_kindOf : DL := [(0, .iconst 0, 1, 1), (1, .istore_n 1, 1, 2), (2, .iload_n 1, 1, 3), (3, .getstatic 58, 3, 6), (6, .arraylength, 1, 7), (7, .if_icmp .ge 22, 3, 10), (10, .getstatic 58, 3, 13), (13, .iload_n 1, 1, 14), (14, .iaload, 1, 15), (15, .iload_n 0, 1, 16), (16, .if_icmp .ne 7, 3, 19), (19, .iload_n 1, 1, 20), (20, .iconst 3, 1, 21), (21, .iadd, 1, 22), (22, .ireturn, 1, 23), (23, .iinc 1 1, 3, 26), (26, .goto (-24), 3, 29), (29, .bipush (-100), 2, 31), (31, .ireturn, 1, 32)]
set_option maxRecDepth 100000 in
theorem DX4_kindOf : decOK cX4_kindOf LX4_kindOf = true := by decide +kernel
def LX4_lengthOf : DL := [(0, .iconst 2, 1, 1), (1, .istore_n 2, 1, 2), (2, .aload_n 0, 1, 3), (3, .iload_n 1, 1, 4), (4, .iconst 1, 1, 5), (5, .invokevirtual 37, 3, 8), (8, .ifCond .eq 6, 3, 11), (11, .iinc 2 2, 3, 14), (14, .aload_n 0, 1, 15), (15, .iload_n 1, 1, 16), (16, .iconst 2, 1, 17), (17, .invokevirtual 37, 3, 20), (20, .ifCond .eq 6, 3, 23), (23, .iinc 2 1, 3, 26), (26, .aload_n 0, 1, 27), (27, .iload_n 1, 1, 28), (28, .iload_n 1, 1, 29), (29, .iconst 1, 1, 30), (30, .iadd, 1, 31), (31, .invokevirtual 41, 3, 34), (34, .ifCond .eq 18, 3, 37), (37, .aload_n 0, 1, 38), (38, .iload_n 1, 1, 39), (39, .iconst 1, 1, 40), (40, .iadd, 1, 41), (41, .bipush 8, 2, 43), (43, .invokevirtual 37, 3, 46), (46, .ifCond .eq 6, 3, 49), (49, .iinc 2 1, 3, 52), (52, .aload_n 0, 1, 53), (53, .iload_n 1, 1, 54), (54, .bipush 16, 2, 56), (56, .invokevirtual 37, 3, 59), (59, .ifCond .eq 6, 3, 62), (62, .iinc 2 (-1), 3, 65), (65, .iload_n 2, 1, 66), (66, .ireturn, 1, 67)]
set_option maxRecDepth 100000 in
theorem DX4_lengthOf : decOK cX4_lengthOf LX4_lengthOf = true := by decide +kernel
def LX5_init : DL := [(0, .aload_n 0, 1, 1), (1, .invokespecial 3, 3, 4), (4, .aload_n 0, 1, 5), (5, .iload_n 1, 1, 6), (6, .iconst 0, 1, 7), (7, .invokestatic 9, 3, 10), (10, .putfield 15, 3, 13), (13, .aload_n 0, 1, 14), (14, .iload_n 2, 1, 15), (15, .iconst 1, 1, 16), (16, .invokestatic 9, 3, 19), (19, .putfield 21, 3, 22), (22, .aload_n 0, 1, 23), (23, .aload_n 0, 1, 24), (24, .getfield 15, 3, 27), (27, .aload_n 0, 1, 28), (28, .getfield 21, 3, 31), (31, .imul, 1, 32), (32, .newarray .int, 2, 34), (34, .putfield 24, 3, 37), (37, .aload_n 0, 1, 38), (38, .iconst 0, 1, 39), (39, .putfield 28, 3, 42), (42, .return_, 1, 43)]
set_option maxRecDepth 100000 in
theorem DX5_init : decOK cX5_init LX5_init = true := by decide +kernel
def LX5_size : DL := [(0, .aload_n 0, 1, 1), (1, .getfield 28, 3, 4), (4, .ireturn, 1, 5)]
set_option maxRecDepth 100000 in
theorem DX5_size : decOK cX5_size LX5_size = true := by decide +kernel
def LX5_isFull : DL := [(0, .aload_n 0, 1, 1), (1, .getfield 28, 3, 4), (4, .aload_n 0, 1, 5), (5, .getfield 15, 3, 8), (8, .if_icmp .lt 7, 3, 11), (11, .iconst 1, 1, 12), (12, .goto 4, 3, 15), (15, .iconst 0, 1, 16), (16, .ireturn, 1, 17)]
set_option maxRecDepth 100000 in
theorem DX5_isFull : decOK cX5_isFull LX5_isFull = true := by decide +kernel
def LX5_has : DL := [(0, .iload_n 1, 1, 1), (1, .ifCond .lt 15, 3, 4), (4, .iload_n 1, 1, 5), (5, .aload_n 0, 1, 6), (6, .getfield 28, 3, 9), (9, .if_icmp .ge 7, 3, 12), (12, .iconst 1, 1, 13), (13, .goto 4, 3, 16), (16, .iconst 0, 1, 17), (17, .ireturn, 1, 18)]
set_option maxRecDepth 100000 in
theorem DX5_has : decOK cX5_has LX5_has = true := by decide +kernel
def LX5_keep : DL := [(0, .iload_n 1, 1, 1), (1, .ifCond .lt 16, 3, 4), (4, .iload_n 1, 1, 5), (5, .aload_n 0, 1, 6), (6, .getfield 28, 3, 9), (9, .if_icmp .ge 8, 3, 12), (12, .aload_n 0, 1, 13), (13, .iload_n 1, 1, 14), (14, .putfield 28, 3, 17), (17, .return_, 1, 18)]
set_option maxRecDepth 100000 in
theorem DX5_keep : decOK cX5_keep LX5_keep = true := by decide +kernel
def LX5_add : DL := [(0, .aload_n 0, 1, 1), (1, .getfield 28, 3, 4), (4, .aload_n 0, 1, 5), (5, .getfield 21, 3, 8), (8, .imul, 1, 9), (9, .istore_n 2, 1, 10), (10, .aload_n 0, 1, 11), (11, .getfield 28, 3, 14), (14, .aload_n 0, 1, 15), (15, .getfield 15, 3, 18), (18, .if_icmp .ge 21, 3, 21), (21, .iload_n 2, 1, 22), (22, .ifCond .lt 17, 3, 25), (25, .iload_n 2, 1, 26), (26, .aload_n 0, 1, 27), (27, .getfield 21, 3, 30), (30, .iadd, 1, 31), (31, .aload_n 0, 1, 32), (32, .getfield 24, 3, 35), (35, .arraylength, 1, 36), (36, .if_icmp .le 6, 3, 39), (39, .bipush (-100), 2, 41), (41, .ireturn, 1, 42), (42, .aload_n 0, 1, 43), (43, .getfield 24, 3, 46), (46, .iload_n 2, 1, 47), (47, .iload_n 1, 1, 48), (48, .iastore, 1, 49), (49, .iconst 1, 1, 50), (50, .istore_n 3, 1, 51), (51, .iload_n 3, 1, 52), (52, .aload_n 0, 1, 53), (53, .getfield 21, 3, 56), (56, .if_icmp .ge 18, 3, 59), (59, .aload_n 0, 1, 60), (60, .getfield 24, 3, 63), (63, .iload_n 2, 1, 64), (64, .iload_n 3, 1, 65), (65, .iadd, 1, 66), (66, .iconst 0, 1, 67), (67, .iastore, 1, 68), (68, .iinc 3 1, 3, 71), (71, .goto (-20), 3, 74), (74, .aload_n 0, 1, 75), (75, .dup, 1, 76), (76, .getfield 28, 3, 79), (79, .iconst 1, 1, 80), (80, .iadd, 1, 81), (81, .putfield 28, 3, 84), (84, .aload_n 0, 1, 85), (85, .getfield 28, 3, 88), (88, .iconst 1, 1, 89), (89, .isub, 1, 90), (90, .ireturn, 1, 91)]
set_option maxRecDepth 100000 in
theorem DX5_add : decOK cX5_add LX5_add = true := by decide +kernel
def LX5_get : DL := [(0, .iload_n 1, 1, 1), (1, .ifCond .lt 23, 3, 4), (4, .iload_n 1, 1, 5), (5, .aload_n 0, 1, 6), (6, .getfield 28, 3, 9), (9, .if_icmp .ge 15, 3, 12), (12, .iload_n 2, 1, 13), (13, .ifCond .lt 11, 3, 16), (16, .iload_n 2, 1, 17), (17, .aload_n 0, 1, 18), (18, .getfield 21, 3, 21), (21, .if_icmp .lt 5, 3, 24), (24, .iconst 0, 1, 25), (25, .ireturn, 1, 26), (26, .iload_n 1, 1, 27), (27, .aload_n 0, 1, 28), (28, .getfield 21, 3, 31), (31, .imul, 1, 32), (32, .iload_n 2, 1, 33), (33, .iadd, 1, 34), (34, .istore_n 3, 1, 35), (35, .iload_n 3, 1, 36), (36, .aload_n 0, 1, 37), (37, .getfield 24, 3, 40), (40, .arraylength, 1, 41), (41, .if_icmp .ge 12, 3, 44), (44, .aload_n 0, 1, 45), (45, .getfield 24, 3, 48), (48, .iload_n 3, 1, 49), (49, .iaload, 1, 50), (50, .goto 4, 3, 53), (53, .iconst 0, 1, 54), (54, .ireturn, 1, 55)]
set_option maxRecDepth 100000 in
theorem DX5_get : decOK cX5_get LX5_get = true := by decide +kernel
def LX5_set : DL := [(0, .iload_n 1, 1, 1), (1, .ifCond .lt 23, 3, 4), (4, .iload_n 1, 1, 5), (5, .aload_n 0, 1, 6), (6, .getfield 28, 3, 9), (9, .if_icmp .ge 15, 3, 12), (12, .iload_n 2, 1, 13), (13, .ifCond .lt 11, 3, 16), (16, .iload_n 2, 1, 17), (17, .aload_n 0, 1, 18), (18, .getfield 21, 3, 21), (21, .if_icmp .lt 4, 3, 24), (24, .return_, 1, 25), (25, .iload_n 1, 1, 26), (26, .aload_n 0, 1, 27), (27, .getfield 21, 3, 30), (30, .imul, 1, 31), (31, .iload_n 2, 1, 32), (32, .iadd, 1, 33), (33, .istore 4, 2, 35), (35, .iload 4, 2, 37), (37, .aload_n 0, 1, 38), (38, .getfield 24, 3, 41), (41, .arraylength, 1, 42), (42, .if_icmp .ge 11, 3, 45), (45, .aload_n 0, 1, 46), (46, .getfield 24, 3, 49), (49, .iload 4, 2, 51), (51, .iload_n 3, 1, 52), (52, .iastore, 1, 53), (53, .return_, 1, 54)]
set_option maxRecDepth 100000 in
theorem DX5_set : decOK cX5_set LX5_set = true := by decide +kernel
def LX5_ask : DL := [(0, .iload_n 1, 1, 1), (1, .ifCond .lt 11, 3, 4), (4, .iload_n 1, 1, 5), (5, .aload_n 0, 1, 6), (6, .getfield 28, 3, 9), (9, .if_icmp .lt 6, 3, 12), (12, .bipush (-101), 2, 14), (14, .ireturn, 1, 15), (15, .iload_n 2, 1, 16), (16, .ifCond .lt 8, 3, 19), (19, .iload_n 2, 1, 20), (20, .iload_n 3, 1, 21), (21, .if_icmp .lt 6, 3, 24), (24, .bipush (-102), 2, 26), (26, .ireturn, 1, 27), (27, .aload_n 0, 1, 28), (28, .iload_n 1, 1, 29), (29, .iload_n 2, 1, 30), (30, .invokevirtual 31, 3, 33), (33, .ireturn, 1, 34)]
set_option maxRecDepth 100000 in
theorem DX5_ask : decOK cX5_ask LX5_ask = true := by decide +kernel
def LX6_cell : DL := [(0, .iload_n 0, 1, 1), (1, .iconst 1, 1, 2), (2, .isub, 1, 3), (3, .bipush 20, 2, 5), (5, .imul, 1, 6), (6, .iload_n 1, 1, 7), (7, .iadd, 1, 8), (8, .istore_n 2, 1, 9), (9, .iload_n 2, 1, 10), (10, .ifCond .lt 19, 3, 13), (13, .iload_n 2, 1, 14), (14, .getstatic 9, 3, 17), (17, .arraylength, 1, 18), (18, .if_icmp .ge 11, 3, 21), (21, .getstatic 9, 3, 24), (24, .iload_n 2, 1, 25), (25, .iaload, 1, 26), (26, .goto 4, 3, 29), (29, .iconst 0, 1, 30), (30, .ireturn, 1, 31)]
set_option maxRecDepth 100000 in
theorem DX6_cell : decOK cX6_cell LX6_cell = true := by decide +kernel
def LX6_closeStart : DL := [(0, .iconst 2, 1, 1), (1, .iload_n 0, 1, 2), (2, .bipush 9, 2, 4), (4, .imul, 1, 5), (5, .iadd, 1, 6), (6, .ireturn, 1, 7)]
set_option maxRecDepth 100000 in
theorem DX6_closeStart : decOK cX6_closeStart LX6_closeStart = true := by decide +kernel
def LX7_writeScore : DL := [(0, .aload_n 1, 1, 1), (1, .iconst 0, 1, 2), (2, .invokevirtual 7, 3, 5), (5, .iconst 0, 1, 6), (6, .istore_n 2, 1, 7), (7, .iload_n 2, 1, 8), (8, .aload_n 0, 1, 9), (9, .getfield 13, 3, 12), (12, .invokevirtual 19, 3, 15), (15, .if_icmp .ge 84, 3, 18), (18, .aload_n 0, 1, 19), (19, .getfield 13, 3, 22), (22, .iload_n 2, 1, 23), (23, .iconst 0, 1, 24), (24, .invokevirtual 23, 3, 27), (27, .istore_n 3, 1, 28), (28, .iload_n 2, 1, 29), (29, .ifCond .le 25, 3, 32), (32, .aload_n 0, 1, 33), (33, .getfield 13, 3, 36), (36, .iload_n 2, 1, 37), (37, .iconst 1, 1, 38), (38, .isub, 1, 39), (39, .iconst 0, 1, 40), (40, .invokevirtual 23, 3, 43), (43, .iload_n 3, 1, 44), (44, .if_icmp .eq 10, 3, 47), (47, .aload_n 1, 1, 48), (48, .bipush 32, 2, 50), (50, .invokevirtual 27, 3, 53), (53, .pop, 1, 54), (54, .aload_n 0, 1, 55), (55, .iload_n 2, 1, 56), (56, .aload_n 1, 1, 57), (57, .invokestatic 31, 3, 60), (60, .aload_n 0, 1, 61), (61, .getfield 13, 3, 64), (64, .iload_n 2, 1, 65), (65, .iconst 3, 1, 66), (66, .invokevirtual 23, 3, 69), (69, .iconst 1, 1, 70), (70, .if_icmp .ne 23, 3, 73), (73, .aload_n 1, 1, 74), (74, .bipush 40, 2, 76), (76, .invokevirtual 27, 3, 79), (79, .pop, 1, 80), (80, .aload_n 0, 1, 81), (81, .iload_n 2, 1, 82), (82, .aload_n 1, 1, 83), (83, .invokestatic 37, 3, 86), (86, .aload_n 1, 1, 87), (87, .bipush 41, 2, 89), (89, .invokevirtual 27, 3, 92), (92, .pop, 1, 93), (93, .iinc 2 1, 3, 96), (96, .goto (-89), 3, 99), (99, .return_, 1, 100)]
set_option maxRecDepth 100000 in
theorem DX7_writeScore : decOK cX7_writeScore LX7_writeScore = true := by decide +kernel
def LX7_writeLetters : DL := [(0, .aload_n 0, 1, 1), (1, .getfield 13, 3, 4), (4, .iload_n 1, 1, 5), (5, .bipush 6, 2, 7), (7, .invokevirtual 23, 3, 10), (10, .istore_n 3, 1, 11), (11, .iload_n 3, 1, 12), (12, .aload_n 0, 1, 13), (13, .getfield 13, 3, 16), (16, .iload_n 1, 1, 17), (17, .iconst 1, 1, 18), (18, .invokevirtual 23, 3, 21), (21, .iadd, 1, 22), (22, .istore 4, 2, 24), (24, .iload_n 3, 1, 25), (25, .istore 5, 2, 27), (27, .iload 5, 2, 29), (29, .iload 4, 2, 31), (31, .if_icmp .ge 24, 3, 34), (34, .aload_n 2, 1, 35), (35, .aload_n 0, 1, 36), (36, .getfield 40, 3, 39), (39, .iload 5, 2, 41), (41, .iconst 0, 1, 42), (42, .invokevirtual 23, 3, 45), (45, .invokevirtual 27, 3, 48), (48, .pop, 1, 49), (49, .iinc 5 1, 3, 52), (52, .goto (-25), 3, 55), (55, .return_, 1, 56)]
set_option maxRecDepth 100000 in
theorem DX7_writeLetters : decOK cX7_writeLetters LX7_writeLetters = true := by decide +kernel
def LX7_writeSigns : DL := [(0, .aload_n 0, 1, 1), (1, .getfield 13, 3, 4), (4, .iload_n 1, 1, 5), (5, .bipush 7, 2, 7), (7, .invokevirtual 23, 3, 10), (10, .istore_n 3, 1, 11), (11, .iload_n 3, 1, 12), (12, .aload_n 0, 1, 13), (13, .getfield 13, 3, 16), (16, .iload_n 1, 1, 17), (17, .bipush 8, 2, 19), (19, .invokevirtual 23, 3, 22), (22, .iadd, 1, 23), (23, .istore 4, 2, 25), (25, .iload_n 3, 1, 26), (26, .istore 5, 2, 28), (28, .iload 5, 2, 30), (30, .iload 4, 2, 32), (32, .if_icmp .ge 34, 3, 35), (35, .aload_n 0, 1, 36), (36, .iload 5, 2, 38), (38, .aload_n 2, 1, 39), (39, .invokestatic 43, 3, 42), (42, .aload_n 0, 1, 43), (43, .iload 5, 2, 45), (45, .iload 4, 2, 47), (47, .invokestatic 46, 3, 50), (50, .ifCond .eq 10, 3, 53), (53, .aload_n 2, 1, 54), (54, .bipush 47, 2, 56), (56, .invokevirtual 27, 3, 59), (59, .pop, 1, 60), (60, .iinc 5 1, 3, 63), (63, .goto (-35), 3, 66), (66, .return_, 1, 67)]
set_option maxRecDepth 100000 in
theorem DX7_writeSigns : decOK cX7_writeSigns LX7_writeSigns = true := by decide +kernel
def LX7_writeSign : DL := [(0, .aload_n 0, 1, 1), (1, .getfield 50, 3, 4), (4, .iload_n 1, 1, 5), (5, .iconst 1, 1, 6), (6, .invokevirtual 23, 3, 9), (9, .istore_n 3, 1, 10), (10, .aload_n 0, 1, 11), (11, .getfield 50, 3, 14), (14, .iload_n 1, 1, 15), (15, .iconst 0, 1, 16), (16, .invokevirtual 23, 3, 19), (19, .tableswitch 152 0 4 #[33, 66, 85, 104, 144], 33, 52), (52, .aload_n 2, 1, 53), (53, .bipush 97, 2, 55), (55, .aload_n 0, 1, 56), (56, .getfield 53, 3, 59), (59, .iload_n 3, 1, 60), (60, .iconst 0, 1, 61), (61, .invokevirtual 23, 3, 64), (64, .iadd, 1, 65), (65, .invokevirtual 27, 3, 68), (68, .pop, 1, 69), (69, .aload_n 0, 1, 70), (70, .getfield 53, 3, 73), (73, .iload_n 3, 1, 74), (74, .iconst 1, 1, 75), (75, .invokevirtual 23, 3, 78), (78, .aload_n 2, 1, 79), (79, .invokestatic 56, 3, 82), (82, .goto 96, 3, 85), (85, .aload_n 2, 1, 86), (86, .bipush 97, 2, 88), (88, .iload_n 3, 1, 89), (89, .iadd, 1, 90), (90, .invokevirtual 27, 3, 93), (93, .pop, 1, 94), (94, .aload_n 2, 1, 95), (95, .bipush 120, 2, 97), (97, .invokevirtual 27, 3, 100), (100, .pop, 1, 101), (101, .goto 77, 3, 104), (104, .aload_n 2, 1, 105), (105, .bipush 97, 2, 107), (107, .iload_n 3, 1, 108), (108, .iadd, 1, 109), (109, .invokevirtual 27, 3, 112), (112, .pop, 1, 113), (113, .aload_n 2, 1, 114), (114, .bipush 121, 2, 116), (116, .invokevirtual 27, 3, 119), (119, .pop, 1, 120), (120, .goto 58, 3, 123), (123, .aload_n 2, 1, 124), (124, .iload_n 3, 1, 125), (125, .iconst 4, 1, 126), (126, .if_icmp .le 8, 3, 129), (129, .bipush 102, 2, 131), (131, .goto 5, 3, 134), (134, .bipush 99, 2, 136), (136, .invokevirtual 27, 3, 139), (139, .pop, 1, 140), (140, .aload_n 2, 1, 141), (141, .bipush 48, 2, 143), (143, .iload_n 3, 1, 144), (144, .iconst 4, 1, 145), (145, .if_icmp .le 9, 3, 148), (148, .iload_n 3, 1, 149), (149, .iconst 4, 1, 150), (150, .isub, 1, 151), (151, .goto 4, 3, 154), (154, .iload_n 3, 1, 155), (155, .iadd, 1, 156), (156, .invokevirtual 27, 3, 159), (159, .pop, 1, 160), (160, .goto 18, 3, 163), (163, .iload_n 3, 1, 164), (164, .aload_n 2, 1, 165), (165, .invokestatic 60, 3, 168), (168, .goto 10, 3, 171), (171, .aload_n 2, 1, 172), (172, .bipush 122, 2, 174), (174, .invokevirtual 27, 3, 177), (177, .pop, 1, 178), (178, .return_, 1, 179)]
set_option maxRecDepth 100000 in
theorem DX7_writeSign : decOK cX7_writeSign LX7_writeSign = true := by decide +kernel
def LX7_writeMarks : DL := [(0, .iload_n 0, 1, 1), (1, .iconst 1, 1, 2), (2, .iand, 1, 3), (3, .bipush 46, 2, 5), (5, .aload_n 1, 1, 6), (6, .invokestatic 63, 3, 9), (9, .iload_n 0, 1, 10), (10, .iconst 2, 1, 11), (11, .iand, 1, 12), (12, .bipush 95, 2, 14), (14, .aload_n 1, 1, 15), (15, .invokestatic 63, 3, 18), (18, .iload_n 0, 1, 19), (19, .iconst 4, 1, 20), (20, .iand, 1, 21), (21, .bipush 118, 2, 23), (23, .aload_n 1, 1, 24), (24, .invokestatic 63, 3, 27), (27, .iload_n 0, 1, 28), (28, .bipush 8, 2, 30), (30, .iand, 1, 31), (31, .bipush 119, 2, 33), (33, .aload_n 1, 1, 34), (34, .invokestatic 63, 3, 37), (37, .iload_n 0, 1, 38), (38, .bipush 16, 2, 40), (40, .iand, 1, 41), (41, .bipush 126, 2, 43), (43, .aload_n 1, 1, 44), (44, .invokestatic 63, 3, 47), (47, .return_, 1, 48)]
set_option maxRecDepth 100000 in
theorem DX7_writeMarks : decOK cX7_writeMarks LX7_writeMarks = true := by decide +kernel
def LX7_writeMark : DL := [(0, .iload_n 0, 1, 1), (1, .ifCond .eq 9, 3, 4), (4, .aload_n 2, 1, 5), (5, .iload_n 1, 1, 6), (6, .invokevirtual 27, 3, 9), (9, .pop, 1, 10), (10, .return_, 1, 11)]
set_option maxRecDepth 100000 in
theorem DX7_writeMark : decOK cX7_writeMark LX7_writeMark = true := by decide +kernel
def LX7_writeBar : DL := [(0, .iload_n 0, 1, 1), (1, .tableswitch 57 1 3 #[27, 37, 47], 27, 28), (28, .aload_n 1, 1, 29), (29, .bipush 44, 2, 31), (31, .invokevirtual 27, 3, 34), (34, .pop, 1, 35), (35, .goto 37, 3, 38), (38, .aload_n 1, 1, 39), (39, .bipush 59, 2, 41), (41, .invokevirtual 27, 3, 44), (44, .pop, 1, 45), (45, .goto 27, 3, 48), (48, .aload_n 1, 1, 49), (49, .bipush 58, 2, 51), (51, .invokevirtual 27, 3, 54), (54, .pop, 1, 55), (55, .goto 17, 3, 58), (58, .aload_n 1, 1, 59), (59, .bipush 58, 2, 61), (61, .invokevirtual 27, 3, 64), (64, .pop, 1, 65), (65, .aload_n 1, 1, 66), (66, .bipush 58, 2, 68), (68, .invokevirtual 27, 3, 71), (71, .pop, 1, 72), (72, .return_, 1, 73)]
set_option maxRecDepth 100000 in
theorem DX7_writeBar : decOK cX7_writeBar LX7_writeBar = true := by decide +kernel
def LX7_needsSlash : DL := [(0, .aload_n 0, 1, 1), (1, .getfield 50, 3, 4), (4, .iload_n 1, 1, 5), (5, .iconst 0, 1, 6), (6, .invokevirtual 23, 3, 9), (9, .istore_n 3, 1, 10), (10, .iload_n 3, 1, 11), (11, .ifCond .ne 10, 3, 14), (14, .aload_n 0, 1, 15), (15, .iload_n 1, 1, 16), (16, .iload_n 2, 1, 17), (17, .invokestatic 67, 3, 20), (20, .ireturn, 1, 21), (21, .iload_n 3, 1, 22), (22, .iconst 4, 1, 23), (23, .if_icmp .ne 57, 3, 26), (26, .aload_n 0, 1, 27), (27, .getfield 50, 3, 30), (30, .iload_n 1, 1, 31), (31, .iconst 1, 1, 32), (32, .invokevirtual 23, 3, 35), (35, .iconst 3, 1, 36), (36, .if_icmp .ne 44, 3, 39), (39, .iload_n 1, 1, 40), (40, .iconst 1, 1, 41), (41, .iadd, 1, 42), (42, .iload_n 2, 1, 43), (43, .if_icmp .ge 37, 3, 46), (46, .aload_n 0, 1, 47), (47, .getfield 50, 3, 50), (50, .iload_n 1, 1, 51), (51, .iconst 1, 1, 52), (52, .iadd, 1, 53), (53, .iconst 0, 1, 54), (54, .invokevirtual 23, 3, 57), (57, .iconst 4, 1, 58), (58, .if_icmp .ne 22, 3, 61), (61, .aload_n 0, 1, 62), (62, .getfield 50, 3, 65), (65, .iload_n 1, 1, 66), (66, .iconst 1, 1, 67), (67, .iadd, 1, 68), (68, .iconst 1, 1, 69), (69, .invokevirtual 23, 3, 72), (72, .iconst 3, 1, 73), (73, .if_icmp .lt 7, 3, 76), (76, .iconst 1, 1, 77), (77, .goto 4, 3, 80), (80, .iconst 0, 1, 81), (81, .ireturn, 1, 82)]
set_option maxRecDepth 100000 in
theorem DX7_needsSlash : decOK cX7_needsSlash LX7_needsSlash = true := by decide +kernel
def LX7_groupFollows : DL := [(0, .aload_n 0, 1, 1), (1, .getfield 50, 3, 4), (4, .iload_n 1, 1, 5), (5, .iconst 1, 1, 6), (6, .invokevirtual 23, 3, 9), (9, .istore_n 3, 1, 10), (10, .iload_n 1, 1, 11), (11, .iconst 1, 1, 12), (12, .iadd, 1, 13), (13, .istore 4, 2, 15), (15, .iload 4, 2, 17), (17, .iload_n 2, 1, 18), (18, .if_icmp .ge 64, 3, 21), (21, .aload_n 0, 1, 22), (22, .getfield 50, 3, 25), (25, .iload 4, 2, 27), (27, .iconst 0, 1, 28), (28, .invokevirtual 23, 3, 31), (31, .istore 5, 2, 33), (33, .iload 5, 2, 35), (35, .ifCond .ne 27, 3, 38), (38, .aload_n 0, 1, 39), (39, .iload_n 3, 1, 40), (40, .aload_n 0, 1, 41), (41, .getfield 50, 3, 44), (44, .iload 4, 2, 46), (46, .iconst 1, 1, 47), (47, .invokevirtual 23, 3, 50), (50, .invokevirtual 70, 3, 53), (53, .ifCond .ne 7, 3, 56), (56, .iconst 1, 1, 57), (57, .goto 4, 3, 60), (60, .iconst 0, 1, 61), (61, .ireturn, 1, 62), (62, .iload 5, 2, 64), (64, .iconst 1, 1, 65), (65, .if_icmp .eq 11, 3, 68), (68, .iload 5, 2, 70), (70, .iconst 2, 1, 71), (71, .if_icmp .eq 5, 3, 74), (74, .iconst 0, 1, 75), (75, .ireturn, 1, 76), (76, .iinc 4 1, 3, 79), (79, .goto (-64), 3, 82), (82, .iconst 0, 1, 83), (83, .ireturn, 1, 84)]
set_option maxRecDepth 100000 in
theorem DX7_groupFollows : decOK cX7_groupFollows LX7_groupFollows = true := by decide +kernel
def LX8_init : DL := [(0, .aload_n 0, 1, 1), (1, .invokespecial 1, 3, 4), (4, .aload_n 0, 1, 5), (5, .new 7, 3, 8), (8, .dup, 1, 9), (9, .sipush 1500, 3, 12), (12, .iconst 1, 1, 13), (13, .invokespecial 11, 3, 16), (16, .putfield 14, 3, 19), (19, .aload_n 0, 1, 20), (20, .new 7, 3, 23), (23, .dup, 1, 24), (24, .sipush 1500, 3, 27), (27, .iconst 1, 1, 28), (28, .invokespecial 11, 3, 31), (31, .putfield 18, 3, 34), (34, .aload_n 0, 1, 35), (35, .new 21, 3, 38), (38, .dup, 1, 39), (39, .invokespecial 23, 3, 42), (42, .putfield 24, 3, 45), (45, .aload_n 0, 1, 46), (46, .new 28, 3, 49), (49, .dup, 1, 50), (50, .aload_n 0, 1, 51), (51, .getfield 24, 3, 54), (54, .invokespecial 30, 3, 57), (57, .putfield 33, 3, 60), (60, .aload_n 0, 1, 61), (61, .new 37, 3, 64), (64, .dup, 1, 65), (65, .invokespecial 39, 3, 68), (68, .putfield 40, 3, 71), (71, .aload_n 0, 1, 72), (72, .bipush (-100), 2, 74), (74, .putfield 44, 3, 77), (77, .return_, 1, 78)]
set_option maxRecDepth 100000 in
theorem DX8_init : decOK cX8_init LX8_init = true := by decide +kernel
def LX8_feed : DL := [(0, .aload_n 0, 1, 1), (1, .getfield 14, 3, 4), (4, .invokevirtual 48, 3, 7), (7, .bipush 20, 2, 9), (9, .iadd, 1, 10), (10, .sipush 1500, 3, 13), (13, .if_icmp .le 6, 3, 16), (16, .bipush (-104), 2, 18), (18, .ireturn, 1, 19), (19, .aload_n 0, 1, 20), (20, .iload_n 1, 1, 21), (21, .invokevirtual 52, 3, 24), (24, .aload_n 0, 1, 25), (25, .iload_n 2, 1, 26), (26, .invokevirtual 52, 3, 29), (29, .aload_n 0, 1, 30), (30, .iload_n 3, 1, 31), (31, .invokevirtual 52, 3, 34), (34, .aload_n 0, 1, 35), (35, .iload 4, 2, 37), (37, .invokevirtual 52, 3, 40), (40, .aload_n 0, 1, 41), (41, .iload 5, 2, 43), (43, .invokevirtual 52, 3, 46), (46, .aload_n 0, 1, 47), (47, .getfield 14, 3, 50), (50, .invokevirtual 48, 3, 53), (53, .ireturn, 1, 54)]
set_option maxRecDepth 100000 in
theorem DX8_feed : decOK cX8_feed LX8_feed = true := by decide +kernel
def LX8_feedNumber : DL := [(0, .bipush 24, 2, 2), (2, .istore_n 2, 1, 3), (3, .iload_n 2, 1, 4), (4, .ifCond .lt 24, 3, 7), (7, .aload_n 0, 1, 8), (8, .getfield 14, 3, 11), (11, .iload_n 1, 1, 12), (12, .iload_n 2, 1, 13), (13, .iushr, 1, 14), (14, .sipush 255, 3, 17), (17, .iand, 1, 18), (18, .invokevirtual 56, 3, 21), (21, .pop, 1, 22), (22, .iinc 2 (-8), 3, 25), (25, .goto (-22), 3, 28), (28, .return_, 1, 29)]
set_option maxRecDepth 100000 in
theorem DX8_feedNumber : decOK cX8_feedNumber LX8_feedNumber = true := by decide +kernel
def LX8_end : DL := [(0, .iload_n 1, 1, 1), (1, .ifCond .lt 14, 3, 4), (4, .iload_n 1, 1, 5), (5, .aload_n 0, 1, 6), (6, .getfield 14, 3, 9), (9, .invokevirtual 48, 3, 12), (12, .if_icmp .le 6, 3, 15), (15, .bipush (-102), 2, 17), (17, .ireturn, 1, 18), (18, .aload_n 0, 1, 19), (19, .getfield 14, 3, 22), (22, .iload_n 1, 1, 23), (23, .invokevirtual 60, 3, 26), (26, .iload_n 1, 1, 27), (27, .ireturn, 1, 28)]
set_option maxRecDepth 100000 in
theorem DX8_end : decOK cX8_end LX8_end = true := by decide +kernel
def LX8_read : DL := [(0, .aload_n 0, 1, 1), (1, .getfield 33, 3, 4), (4, .aload_n 0, 1, 5), (5, .getfield 14, 3, 8), (8, .invokevirtual 63, 3, 11), (11, .istore_n 1, 1, 12), (12, .aload_n 0, 1, 13), (13, .getfield 14, 3, 16), (16, .iconst 0, 1, 17), (17, .invokevirtual 60, 3, 20), (20, .iload_n 1, 1, 21), (21, .ifCond .eq 19, 3, 24), (24, .aload_n 0, 1, 25), (25, .aload_n 0, 1, 26), (26, .getfield 33, 3, 29), (29, .invokevirtual 67, 3, 32), (32, .putfield 44, 3, 35), (35, .bipush (-10), 2, 37), (37, .iload_n 1, 1, 38), (38, .isub, 1, 39), (39, .ireturn, 1, 40), (40, .aload_n 0, 1, 41), (41, .bipush (-100), 2, 43), (43, .putfield 44, 3, 46), (46, .aload_n 0, 1, 47), (47, .getfield 24, 3, 50), (50, .getfield 70, 3, 53), (53, .invokevirtual 48, 3, 56), (56, .ireturn, 1, 57)]
set_option maxRecDepth 100000 in
theorem DX8_read : decOK cX8_read LX8_read = true := by decide +kernel
def LX8_place : DL := [(0, .aload_n 0, 1, 1), (1, .getfield 44, 3, 4), (4, .ireturn, 1, 5)]
set_option maxRecDepth 100000 in
theorem DX8_place : decOK cX8_place LX8_place = true := by decide +kernel
def LX8_syllable : DL := [(0, .aload_n 0, 1, 1), (1, .getfield 24, 3, 4), (4, .getfield 73, 3, 7), (7, .iload_n 1, 1, 8), (8, .iload_n 2, 1, 9), (9, .bipush 6, 2, 11), (11, .invokevirtual 76, 3, 14), (14, .ireturn, 1, 15)]
set_option maxRecDepth 100000 in
theorem DX8_syllable : decOK cX8_syllable LX8_syllable = true := by decide +kernel
def LX8_note : DL := [(0, .aload_n 0, 1, 1), (1, .getfield 24, 3, 4), (4, .getfield 70, 3, 7), (7, .iload_n 1, 1, 8), (8, .iload_n 2, 1, 9), (9, .bipush 8, 2, 11), (11, .invokevirtual 76, 3, 14), (14, .ireturn, 1, 15)]
set_option maxRecDepth 100000 in
theorem DX8_note : decOK cX8_note LX8_note = true := by decide +kernel
def LX8_neume : DL := [(0, .aload_n 0, 1, 1), (1, .getfield 24, 3, 4), (4, .getfield 80, 3, 7), (7, .iload_n 1, 1, 8), (8, .iload_n 2, 1, 9), (9, .iconst 4, 1, 10), (10, .invokevirtual 76, 3, 13), (13, .ireturn, 1, 14)]
set_option maxRecDepth 100000 in
theorem DX8_neume : decOK cX8_neume LX8_neume = true := by decide +kernel
def LX8_bar : DL := [(0, .aload_n 0, 1, 1), (1, .getfield 24, 3, 4), (4, .getfield 83, 3, 7), (7, .iload_n 1, 1, 8), (8, .iload_n 2, 1, 9), (9, .iconst 2, 1, 10), (10, .invokevirtual 76, 3, 13), (13, .ireturn, 1, 14)]
set_option maxRecDepth 100000 in
theorem DX8_bar : decOK cX8_bar LX8_bar = true := by decide +kernel
def LX8_guide : DL := [(0, .aload_n 0, 1, 1), (1, .getfield 24, 3, 4), (4, .getfield 86, 3, 7), (7, .iload_n 1, 1, 8), (8, .invokevirtual 89, 3, 11), (11, .ifCond .eq 14, 3, 14), (14, .aload_n 0, 1, 15), (15, .getfield 24, 3, 18), (18, .iload_n 1, 1, 19), (19, .invokevirtual 93, 3, 22), (22, .goto 5, 3, 25), (25, .bipush (-101), 2, 27), (27, .ireturn, 1, 28)]
set_option maxRecDepth 100000 in
theorem DX8_guide : decOK cX8_guide LX8_guide = true := by decide +kernel
def LX8_mode : DL := [(0, .iload_n 1, 1, 1), (1, .ifCond .lt 8, 3, 4), (4, .iload_n 1, 1, 5), (5, .iconst 4, 1, 6), (6, .if_icmp .le 6, 3, 9), (9, .bipush (-102), 2, 11), (11, .ireturn, 1, 12), (12, .aload_n 0, 1, 13), (13, .getfield 24, 3, 16), (16, .getfield 70, 3, 19), (19, .invokevirtual 48, 3, 22), (22, .ifCond .ne 6, 3, 25), (25, .bipush (-103), 2, 27), (27, .ireturn, 1, 28), (28, .iload_n 1, 1, 29), (29, .tableswitch 63 0 3 #[31, 39, 47, 55], 31, 60), (60, .aload_n 0, 1, 61), (61, .getfield 24, 3, 64), (64, .invokevirtual 96, 3, 67), (67, .ireturn, 1, 68), (68, .aload_n 0, 1, 69), (69, .getfield 24, 3, 72), (72, .invokevirtual 99, 3, 75), (75, .ireturn, 1, 76), (76, .aload_n 0, 1, 77), (77, .getfield 24, 3, 80), (80, .invokevirtual 102, 3, 83), (83, .ireturn, 1, 84), (84, .aload_n 0, 1, 85), (85, .getfield 24, 3, 88), (88, .invokevirtual 105, 3, 91), (91, .ireturn, 1, 92), (92, .aload_n 0, 1, 93), (93, .getfield 24, 3, 96), (96, .invokevirtual 108, 3, 99), (99, .ireturn, 1, 100)]
set_option maxRecDepth 100000 in
theorem DX8_mode : decOK cX8_mode LX8_mode = true := by decide +kernel
def LX8_tone : DL := [(0, .aload_n 0, 1, 1), (1, .getfield 40, 3, 4), (4, .iload_n 1, 1, 5), (5, .invokevirtual 111, 3, 8), (8, .ireturn, 1, 9)]
set_option maxRecDepth 100000 in
theorem DX8_tone : decOK cX8_tone LX8_tone = true := by decide +kernel
def LX8_point : DL := [(0, .aload_n 0, 1, 1), (1, .getfield 40, 3, 4), (4, .iload_n 1, 1, 5), (5, .iload_n 2, 1, 6), (6, .invokevirtual 114, 3, 9), (9, .ireturn, 1, 10)]
set_option maxRecDepth 100000 in
theorem DX8_point : decOK cX8_point LX8_point = true := by decide +kernel
def LX8_fresh : DL := [(0, .aload_n 0, 1, 1), (1, .getfield 40, 3, 4), (4, .invokevirtual 118, 3, 7), (7, .ireturn, 1, 8)]
set_option maxRecDepth 100000 in
theorem DX8_fresh : decOK cX8_fresh LX8_fresh = true := by decide +kernel
def LX8_half : DL := [(0, .iload_n 1, 1, 1), (1, .invokestatic 121, 3, 4), (4, .ifCond .eq 12, 3, 7), (7, .iload_n 2, 1, 8), (8, .ifCond .lt 8, 3, 11), (11, .iload_n 2, 1, 12), (12, .iconst 3, 1, 13), (13, .if_icmp .le 6, 3, 16), (16, .bipush (-102), 2, 18), (18, .ireturn, 1, 19), (19, .aload_n 0, 1, 20), (20, .getfield 40, 3, 23), (23, .iload_n 1, 1, 24), (24, .invokevirtual 124, 3, 27), (27, .astore_n 3, 1, 28), (28, .iload_n 2, 1, 29), (29, .tableswitch 53 0 2 #[27, 35, 48], 27, 56), (56, .aload_n 3, 1, 57), (57, .getfield 128, 3, 60), (60, .invokevirtual 48, 3, 63), (63, .ireturn, 1, 64), (64, .aload_n 3, 1, 65), (65, .getfield 133, 3, 68), (68, .ifCond .eq 7, 3, 71), (71, .iconst 1, 1, 72), (72, .goto 4, 3, 75), (75, .iconst 0, 1, 76), (76, .ireturn, 1, 77), (77, .aload_n 3, 1, 78), (78, .getfield 137, 3, 81), (81, .ireturn, 1, 82), (82, .aload_n 3, 1, 83), (83, .getfield 140, 3, 86), (86, .ireturn, 1, 87)]
set_option maxRecDepth 100000 in
theorem DX8_half : decOK cX8_half LX8_half = true := by decide +kernel
def LX8_sung : DL := [(0, .iload_n 1, 1, 1), (1, .invokestatic 121, 3, 4), (4, .ifCond .eq 12, 3, 7), (7, .iload_n 3, 1, 8), (8, .ifCond .lt 8, 3, 11), (11, .iload_n 3, 1, 12), (12, .iconst 1, 1, 13), (13, .if_icmp .le 6, 3, 16), (16, .bipush (-102), 2, 18), (18, .ireturn, 1, 19), (19, .aload_n 0, 1, 20), (20, .getfield 40, 3, 23), (23, .iload_n 1, 1, 24), (24, .invokevirtual 124, 3, 27), (27, .getfield 128, 3, 30), (30, .astore 4, 2, 32), (32, .aload 4, 2, 34), (34, .iload_n 2, 1, 35), (35, .invokevirtual 89, 3, 38), (38, .ifCond .eq 13, 3, 41), (41, .aload 4, 2, 43), (43, .iload_n 2, 1, 44), (44, .iload_n 3, 1, 45), (45, .invokevirtual 143, 3, 48), (48, .goto 5, 3, 51), (51, .bipush (-100), 2, 53), (53, .ireturn, 1, 54)]
set_option maxRecDepth 100000 in
theorem DX8_sung : decOK cX8_sung LX8_sung = true := by decide +kernel
def LX8_write : DL := [(0, .aload_n 0, 1, 1), (1, .getfield 24, 3, 4), (4, .aload_n 0, 1, 5), (5, .getfield 18, 3, 8), (8, .invokestatic 147, 3, 11), (11, .aload_n 0, 1, 12), (12, .getfield 18, 3, 15), (15, .invokevirtual 48, 3, 18), (18, .ireturn, 1, 19)]
set_option maxRecDepth 100000 in
theorem DX8_write : decOK cX8_write LX8_write = true := by decide +kernel
def LX8_at : DL := [(0, .aload_n 0, 1, 1), (1, .getfield 18, 3, 4), (4, .iload_n 1, 1, 5), (5, .invokevirtual 89, 3, 8), (8, .ifCond .eq 15, 3, 11), (11, .aload_n 0, 1, 12), (12, .getfield 18, 3, 15), (15, .iload_n 1, 1, 16), (16, .iconst 0, 1, 17), (17, .invokevirtual 143, 3, 20), (20, .goto 5, 3, 23), (23, .bipush (-100), 2, 25), (25, .ireturn, 1, 26)]
set_option maxRecDepth 100000 in
theorem DX8_at : decOK cX8_at LX8_at = true := by decide +kernel
def LX8_count : DL := [(0, .iload_n 1, 1, 1), (1, .tableswitch 138 0 8 #[51, 62, 73, 81, 92, 103, 114, 122, 130], 51, 52), (52, .aload_n 0, 1, 53), (53, .getfield 24, 3, 56), (56, .getfield 73, 3, 59), (59, .invokevirtual 48, 3, 62), (62, .ireturn, 1, 63), (63, .aload_n 0, 1, 64), (64, .getfield 24, 3, 67), (67, .getfield 70, 3, 70), (70, .invokevirtual 48, 3, 73), (73, .ireturn, 1, 74), (74, .aload_n 0, 1, 75), (75, .getfield 24, 3, 78), (78, .getfield 153, 3, 81), (81, .ireturn, 1, 82), (82, .aload_n 0, 1, 83), (83, .getfield 24, 3, 86), (86, .getfield 80, 3, 89), (89, .invokevirtual 48, 3, 92), (92, .ireturn, 1, 93), (93, .aload_n 0, 1, 94), (94, .getfield 24, 3, 97), (97, .getfield 83, 3, 100), (100, .invokevirtual 48, 3, 103), (103, .ireturn, 1, 104), (104, .aload_n 0, 1, 105), (105, .getfield 24, 3, 108), (108, .getfield 86, 3, 111), (111, .invokevirtual 48, 3, 114), (114, .ireturn, 1, 115), (115, .aload_n 0, 1, 116), (116, .getfield 24, 3, 119), (119, .getfield 156, 3, 122), (122, .ireturn, 1, 123), (123, .aload_n 0, 1, 124), (124, .getfield 14, 3, 127), (127, .invokevirtual 48, 3, 130), (130, .ireturn, 1, 131), (131, .aload_n 0, 1, 132), (132, .getfield 24, 3, 135), (135, .invokevirtual 159, 3, 138), (138, .ireturn, 1, 139), (139, .bipush (-102), 2, 141), (141, .ireturn, 1, 142)]
set_option maxRecDepth 100000 in
theorem DX8_count : decOK cX8_count LX8_count = true := by decide +kernel
def LX9_in : DL := [(0, .iload_n 0, 1, 1), (1, .iload_n 1, 1, 2), (2, .if_icmp .lt 12, 3, 5), (5, .iload_n 0, 1, 6), (6, .iload_n 2, 1, 7), (7, .if_icmp .gt 7, 3, 10), (10, .iconst 1, 1, 11), (11, .goto 4, 3, 14), (14, .iconst 0, 1, 15), (15, .ireturn, 1, 16)]
set_option maxRecDepth 100000 in
theorem DX9_in : decOK cX9_in LX9_in = true := by decide +kernel
def LX9_floor : DL := [(0, .iload_n 0, 1, 1), (1, .iload_n 1, 1, 2), (2, .idiv, 1, 3), (3, .istore_n 2, 1, 4), (4, .iload_n 2, 1, 5), (5, .iload_n 1, 1, 6), (6, .imul, 1, 7), (7, .iload_n 0, 1, 8), (8, .if_icmp .le 9, 3, 11), (11, .iload_n 2, 1, 12), (12, .iconst 1, 1, 13), (13, .isub, 1, 14), (14, .goto 4, 3, 17), (17, .iload_n 2, 1, 18), (18, .ireturn, 1, 19)]
set_option maxRecDepth 100000 in
theorem DX9_floor : decOK cX9_floor LX9_floor = true := by decide +kernel
def LX9_mod : DL := [(0, .iload_n 0, 1, 1), (1, .iload_n 0, 1, 2), (2, .iload_n 1, 1, 3), (3, .invokestatic 119, 3, 6), (6, .iload_n 1, 1, 7), (7, .imul, 1, 8), (8, .isub, 1, 9), (9, .ireturn, 1, 10)]
set_option maxRecDepth 100000 in
theorem DX9_mod : decOK cX9_mod LX9_mod = true := by decide +kernel
def LX9_feed : DL := [(0, .aload_n 0, 1, 1), (1, .getfield 123, 3, 4), (4, .bipush 20, 2, 6), (6, .iadd, 1, 7), (7, .sipush 1500, 3, 10), (10, .if_icmp .le 6, 3, 13), (13, .bipush (-104), 2, 15), (15, .ireturn, 1, 16), (16, .iconst 0, 1, 17), (17, .istore 6, 2, 19), (19, .iload 6, 2, 21), (21, .bipush 20, 2, 23), (23, .if_icmp .ge 93, 3, 26), (26, .iload 6, 2, 28), (28, .iconst 4, 1, 29), (29, .if_icmp .ge 7, 3, 32), (32, .iload_n 1, 1, 33), (33, .goto 39, 3, 36), (36, .iload 6, 2, 38), (38, .bipush 8, 2, 40), (40, .if_icmp .ge 7, 3, 43), (43, .iload_n 2, 1, 44), (44, .goto 28, 3, 47), (47, .iload 6, 2, 49), (49, .bipush 12, 2, 51), (51, .if_icmp .ge 7, 3, 54), (54, .iload_n 3, 1, 55), (55, .goto 17, 3, 58), (58, .iload 6, 2, 60), (60, .bipush 16, 2, 62), (62, .if_icmp .ge 8, 3, 65), (65, .iload 4, 2, 67), (67, .goto 5, 3, 70), (70, .iload 5, 2, 72), (72, .istore 7, 2, 74), (74, .aload_n 0, 1, 75), (75, .getfield 7, 3, 78), (78, .aload_n 0, 1, 79), (79, .getfield 123, 3, 82), (82, .iload 7, 2, 84), (84, .bipush 24, 2, 86), (86, .bipush 8, 2, 88), (88, .iload 6, 2, 90), (90, .iconst 4, 1, 91), (91, .irem, 1, 92), (92, .imul, 1, 93), (93, .isub, 1, 94), (94, .ishr, 1, 95), (95, .sipush 255, 3, 98), (98, .iand, 1, 99), (99, .iastore, 1, 100), (100, .aload_n 0, 1, 101), (101, .dup, 1, 102), (102, .getfield 123, 3, 105), (105, .iconst 1, 1, 106), (106, .iadd, 1, 107), (107, .putfield 123, 3, 110), (110, .iinc 6 1, 3, 113), (113, .goto (-94), 3, 116), (116, .aload_n 0, 1, 117), (117, .getfield 123, 3, 120), (120, .ireturn, 1, 121)]
set_option maxRecDepth 100000 in
theorem DX9_feed : decOK cX9_feed LX9_feed = true := by decide +kernel
def LX9_end : DL := [(0, .iload_n 1, 1, 1), (1, .iconst 0, 1, 2), (2, .aload_n 0, 1, 3), (3, .getfield 123, 3, 6), (6, .invokestatic 126, 3, 9), (9, .ifCond .ne 6, 3, 12), (12, .bipush (-102), 2, 14), (14, .ireturn, 1, 15), (15, .aload_n 0, 1, 16), (16, .iload_n 1, 1, 17), (17, .putfield 123, 3, 20), (20, .iload_n 1, 1, 21), (21, .ireturn, 1, 22)]
set_option maxRecDepth 100000 in
theorem DX9_end : decOK cX9_end LX9_end = true := by decide +kernel
def LX9_wrong : DL := [(0, .aload_n 0, 1, 1), (1, .getfield 130, 3, 4), (4, .ifCond .ne 13, 3, 7), (7, .aload_n 0, 1, 8), (8, .iload_n 1, 1, 9), (9, .putfield 130, 3, 12), (12, .aload_n 0, 1, 13), (13, .iload_n 2, 1, 14), (14, .putfield 55, 3, 17), (17, .return_, 1, 18)]
set_option maxRecDepth 100000 in
theorem DX9_wrong : decOK cX9_wrong LX9_wrong = true := by decide +kernel
def LX9_nothing : DL := [(0, .aload_n 0, 1, 1), (1, .iconst 0, 1, 2), (2, .putfield 133, 3, 5), (5, .aload_n 0, 1, 6), (6, .iconst 0, 1, 7), (7, .putfield 136, 3, 10), (10, .aload_n 0, 1, 11), (11, .iconst 0, 1, 12), (12, .putfield 139, 3, 15), (15, .aload_n 0, 1, 16), (16, .iconst 0, 1, 17), (17, .putfield 142, 3, 20), (20, .aload_n 0, 1, 21), (21, .iconst 0, 1, 22), (22, .putfield 145, 3, 25), (25, .aload_n 0, 1, 26), (26, .iconst 0, 1, 27), (27, .putfield 148, 3, 30), (30, .aload_n 0, 1, 31), (31, .iconst 0, 1, 32), (32, .putfield 151, 3, 35), (35, .aload_n 0, 1, 36), (36, .iconst 0, 1, 37), (37, .putfield 154, 3, 40), (40, .aload_n 0, 1, 41), (41, .iconst 0, 1, 42), (42, .putfield 157, 3, 45), (45, .aload_n 0, 1, 46), (46, .iconst 0, 1, 47), (47, .putfield 160, 3, 50), (50, .aload_n 0, 1, 51), (51, .iconst 0, 1, 52), (52, .putfield 163, 3, 55), (55, .return_, 1, 56)]
set_option maxRecDepth 100000 in
theorem DX9_nothing : decOK cX9_nothing LX9_nothing = true := by decide +kernel
def LX9_isBlank : DL := [(0, .iload_n 0, 1, 1), (1, .bipush 32, 2, 3), (3, .if_icmp .eq 9, 3, 6), (6, .iload_n 0, 1, 7), (7, .bipush 10, 2, 9), (9, .if_icmp .ne 7, 3, 12), (12, .iconst 1, 1, 13), (13, .goto 4, 3, 16), (16, .iconst 0, 1, 17), (17, .ireturn, 1, 18)]
set_option maxRecDepth 100000 in
theorem DX9_isBlank : decOK cX9_isBlank LX9_isBlank = true := by decide +kernel
def LX9_isLetter : DL := [(0, .iload_n 0, 1, 1), (1, .bipush 97, 2, 3), (3, .if_icmp .lt 9, 3, 6), (6, .iload_n 0, 1, 7), (7, .bipush 122, 2, 9), (9, .if_icmp .le 21, 3, 12), (12, .iload_n 0, 1, 13), (13, .bipush 65, 2, 15), (15, .if_icmp .lt 9, 3, 18), (18, .iload_n 0, 1, 19), (19, .bipush 90, 2, 21), (21, .if_icmp .le 9, 3, 24), (24, .iload_n 0, 1, 25), (25, .bipush 39, 2, 27), (27, .if_icmp .ne 7, 3, 30), (30, .iconst 1, 1, 31), (31, .goto 4, 3, 34), (34, .iconst 0, 1, 35), (35, .ireturn, 1, 36)]
set_option maxRecDepth 100000 in
theorem DX9_isLetter : decOK cX9_isLetter LX9_isLetter = true := by decide +kernel
def LX9_byteAt : DL := [(0, .iload_n 1, 1, 1), (1, .aload_n 0, 1, 2), (2, .getfield 166, 3, 5), (5, .if_icmp .ge 12, 3, 8), (8, .aload_n 0, 1, 9), (9, .getfield 13, 3, 12), (12, .iload_n 1, 1, 13), (13, .iaload, 1, 14), (14, .goto 4, 3, 17), (17, .iconst (-1), 1, 18), (18, .ireturn, 1, 19)]
set_option maxRecDepth 100000 in
theorem DX9_byteAt : decOK cX9_byteAt LX9_byteAt = true := by decide +kernel
def LX9_beginSyllable : DL := [(0, .aload_n 0, 1, 1), (1, .getfield 133, 3, 4), (4, .bipush 60, 2, 6), (6, .if_icmp .ne 13, 3, 9), (9, .aload_n 0, 1, 10), (10, .iconst 2, 1, 11), (11, .aload_n 0, 1, 12), (12, .getfield 169, 3, 15), (15, .invokevirtual 172, 3, 18), (18, .return_, 1, 19), (19, .aload_n 0, 1, 20), (20, .dup, 1, 21), (21, .getfield 139, 3, 24), (24, .iload_n 1, 1, 25), (25, .ifCond .eq 7, 3, 28), (28, .iconst 1, 1, 29), (29, .goto 4, 3, 32), (32, .iconst 0, 1, 33), (33, .iadd, 1, 34), (34, .putfield 139, 3, 37), (37, .aload_n 0, 1, 38), (38, .getfield 28, 3, 41), (41, .aload_n 0, 1, 42), (42, .getfield 133, 3, 45), (45, .aload_n 0, 1, 46), (46, .getfield 139, 3, 49), (49, .iconst 1, 1, 50), (50, .isub, 1, 51), (51, .iastore, 1, 52), (52, .aload_n 0, 1, 53), (53, .getfield 16, 3, 56), (56, .aload_n 0, 1, 57), (57, .getfield 133, 3, 60), (60, .aload_n 0, 1, 61), (61, .getfield 169, 3, 64), (64, .iastore, 1, 65), (65, .aload_n 0, 1, 66), (66, .getfield 19, 3, 69), (69, .aload_n 0, 1, 70), (70, .getfield 133, 3, 73), (73, .iconst 0, 1, 74), (74, .iastore, 1, 75), (75, .aload_n 0, 1, 76), (76, .getfield 22, 3, 79), (79, .aload_n 0, 1, 80), (80, .getfield 133, 3, 83), (83, .iconst 0, 1, 84), (84, .iastore, 1, 85), (85, .aload_n 0, 1, 86), (86, .getfield 25, 3, 89), (89, .aload_n 0, 1, 90), (90, .getfield 133, 3, 93), (93, .iconst 0, 1, 94), (94, .iastore, 1, 95), (95, .aload_n 0, 1, 96), (96, .getfield 31, 3, 99), (99, .aload_n 0, 1, 100), (100, .getfield 133, 3, 103), (103, .aload_n 0, 1, 104), (104, .getfield 136, 3, 107), (107, .iastore, 1, 108), (108, .aload_n 0, 1, 109), (109, .dup, 1, 110), (110, .getfield 133, 3, 113), (113, .iconst 1, 1, 114), (114, .iadd, 1, 115), (115, .putfield 133, 3, 118), (118, .aload_n 0, 1, 119), (119, .getfield 31, 3, 122), (122, .aload_n 0, 1, 123), (123, .getfield 133, 3, 126), (126, .aload_n 0, 1, 127), (127, .getfield 136, 3, 130), (130, .iastore, 1, 131), (131, .return_, 1, 132)]
set_option maxRecDepth 100000 in
theorem DX9_beginSyllable : decOK cX9_beginSyllable LX9_beginSyllable = true := by decide +kernel
def LX9_readText : DL := [(0, .aload_n 0, 1, 1), (1, .iconst 0, 1, 2), (2, .putfield 130, 3, 5), (5, .aload_n 0, 1, 6), (6, .bipush (-100), 2, 8), (8, .putfield 55, 3, 11), (11, .aload_n 0, 1, 12), (12, .invokevirtual 176, 3, 15), (15, .aload_n 0, 1, 16), (16, .iconst 0, 1, 17), (17, .putfield 169, 3, 20), (20, .iconst 0, 1, 21), (21, .istore_n 1, 1, 22), (22, .iconst 1, 1, 23), (23, .istore_n 2, 1, 24), (24, .aload_n 0, 1, 25), (25, .getfield 169, 3, 28), (28, .aload_n 0, 1, 29), (29, .getfield 166, 3, 32), (32, .if_icmp .ge 193, 3, 35), (35, .aload_n 0, 1, 36), (36, .getfield 130, 3, 39), (39, .ifCond .ne 186, 3, 42), (42, .aload_n 0, 1, 43), (43, .getfield 13, 3, 46), (46, .aload_n 0, 1, 47), (47, .getfield 169, 3, 50), (50, .iaload, 1, 51), (51, .istore_n 3, 1, 52), (52, .iload_n 3, 1, 53), (53, .invokestatic 179, 3, 56), (56, .ifCond .eq 20, 3, 59), (59, .iconst 0, 1, 60), (60, .istore_n 1, 1, 61), (61, .iconst 1, 1, 62), (62, .istore_n 2, 1, 63), (63, .aload_n 0, 1, 64), (64, .dup, 1, 65), (65, .getfield 169, 3, 68), (68, .iconst 1, 1, 69), (69, .iadd, 1, 70), (70, .putfield 169, 3, 73), (73, .goto 149, 3, 76), (76, .iload_n 3, 1, 77), (77, .invokestatic 183, 3, 80), (80, .ifCond .ne 9, 3, 83), (83, .iload_n 3, 1, 84), (84, .bipush 40, 2, 86), (86, .if_icmp .ne 127, 3, 89), (89, .iload_n 1, 1, 90), (90, .ifCond .ne 12, 3, 93), (93, .aload_n 0, 1, 94), (94, .iload_n 2, 1, 95), (95, .invokevirtual 186, 3, 98), (98, .iconst 1, 1, 99), (99, .istore_n 1, 1, 100), (100, .iconst 0, 1, 101), (101, .istore_n 2, 1, 102), (102, .aload_n 0, 1, 103), (103, .getfield 130, 3, 106), (106, .ifCond .ne 40, 3, 109), (109, .iload_n 3, 1, 110), (110, .bipush 40, 2, 112), (112, .if_icmp .ne 34, 3, 115), (115, .aload_n 0, 1, 116), (116, .getfield 25, 3, 119), (119, .aload_n 0, 1, 120), (120, .getfield 133, 3, 123), (123, .iconst 1, 1, 124), (124, .isub, 1, 125), (125, .iconst 1, 1, 126), (126, .iastore, 1, 127), (127, .aload_n 0, 1, 128), (128, .dup, 1, 129), (129, .getfield 169, 3, 132), (132, .iconst 1, 1, 133), (133, .iadd, 1, 134), (134, .putfield 169, 3, 137), (137, .aload_n 0, 1, 138), (138, .invokevirtual 190, 3, 141), (141, .iconst 0, 1, 142), (142, .istore_n 1, 1, 143), (143, .goto 79, 3, 146), (146, .aload_n 0, 1, 147), (147, .getfield 130, 3, 150), (150, .ifCond .ne 72, 3, 153), (153, .aload_n 0, 1, 154), (154, .getfield 19, 3, 157), (157, .aload_n 0, 1, 158), (158, .getfield 133, 3, 161), (161, .iconst 1, 1, 162), (162, .isub, 1, 163), (163, .dup2, 1, 164), (164, .iaload, 1, 165), (165, .iconst 1, 1, 166), (166, .iadd, 1, 167), (167, .iastore, 1, 168), (168, .aload_n 0, 1, 169), (169, .getfield 22, 3, 172), (172, .aload_n 0, 1, 173), (173, .getfield 133, 3, 176), (176, .iconst 1, 1, 177), (177, .isub, 1, 178), (178, .iload_n 3, 1, 179), (179, .bipush 39, 2, 181), (181, .if_icmp .ne 7, 3, 184), (184, .iconst 1, 1, 185), (185, .goto 14, 3, 188), (188, .aload_n 0, 1, 189), (189, .getfield 22, 3, 192), (192, .aload_n 0, 1, 193), (193, .getfield 133, 3, 196), (196, .iconst 1, 1, 197), (197, .isub, 1, 198), (198, .iaload, 1, 199), (199, .iastore, 1, 200), (200, .aload_n 0, 1, 201), (201, .dup, 1, 202), (202, .getfield 169, 3, 205), (205, .iconst 1, 1, 206), (206, .iadd, 1, 207), (207, .putfield 169, 3, 210), (210, .goto 12, 3, 213), (213, .aload_n 0, 1, 214), (214, .iconst 1, 1, 215), (215, .aload_n 0, 1, 216), (216, .getfield 169, 3, 219), (219, .invokevirtual 172, 3, 222), (222, .goto (-198), 3, 225), (225, .return_, 1, 226)]
set_option maxRecDepth 100000 in
theorem DX9_readText : decOK cX9_readText LX9_readText = true := by decide +kernel
def LX9_put : DL := [(0, .aload_n 0, 1, 1), (1, .getfield 34, 3, 4), (4, .aload_n 0, 1, 5), (5, .getfield 136, 3, 8), (8, .iload_n 1, 1, 9), (9, .iastore, 1, 10), (10, .aload_n 0, 1, 11), (11, .getfield 37, 3, 14), (14, .aload_n 0, 1, 15), (15, .getfield 136, 3, 18), (18, .iload_n 2, 1, 19), (19, .iastore, 1, 20), (20, .aload_n 0, 1, 21), (21, .getfield 40, 3, 24), (24, .aload_n 0, 1, 25), (25, .getfield 136, 3, 28), (28, .aload_n 0, 1, 29), (29, .getfield 142, 3, 32), (32, .iastore, 1, 33), (33, .aload_n 0, 1, 34), (34, .dup, 1, 35), (35, .getfield 136, 3, 38), (38, .iconst 1, 1, 39), (39, .iadd, 1, 40), (40, .putfield 136, 3, 43), (43, .aload_n 0, 1, 44), (44, .getfield 31, 3, 47), (47, .aload_n 0, 1, 48), (48, .getfield 133, 3, 51), (51, .aload_n 0, 1, 52), (52, .getfield 136, 3, 55), (55, .iastore, 1, 56), (56, .return_, 1, 57)]
set_option maxRecDepth 100000 in
theorem DX9_put : decOK cX9_put LX9_put = true := by decide +kernel
def LX9_readSigns : DL := [(0, .iconst 1, 1, 1), (1, .istore_n 1, 1, 2), (2, .aload_n 0, 1, 3), (3, .getfield 130, 3, 6), (6, .ifCond .ne 272, 3, 9), (9, .aload_n 0, 1, 10), (10, .aload_n 0, 1, 11), (11, .getfield 169, 3, 14), (14, .invokevirtual 193, 3, 17), (17, .istore_n 2, 1, 18), (18, .aload_n 0, 1, 19), (19, .aload_n 0, 1, 20), (20, .getfield 169, 3, 23), (23, .iconst 1, 1, 24), (24, .iadd, 1, 25), (25, .invokevirtual 193, 3, 28), (28, .istore_n 3, 1, 29), (29, .iload_n 2, 1, 30), (30, .bipush 41, 2, 32), (32, .if_icmp .ne 14, 3, 35), (35, .aload_n 0, 1, 36), (36, .dup, 1, 37), (37, .getfield 169, 3, 40), (40, .iconst 1, 1, 41), (41, .iadd, 1, 42), (42, .putfield 169, 3, 45), (45, .return_, 1, 46), (46, .iload_n 2, 1, 47), (47, .bipush 97, 2, 49), (49, .if_icmp .lt 20, 3, 52), (52, .iload_n 2, 1, 53), (53, .bipush 109, 2, 55), (55, .if_icmp .gt 14, 3, 58), (58, .aload_n 0, 1, 59), (59, .iload_n 2, 1, 60), (60, .iload_n 3, 1, 61), (61, .iload_n 1, 1, 62), (62, .invokevirtual 197, 3, 65), (65, .istore_n 1, 1, 66), (66, .goto 209, 3, 69), (69, .iload_n 2, 1, 70), (70, .bipush 47, 2, 72), (72, .if_icmp .eq 10, 3, 75), (75, .iload_n 2, 1, 76), (76, .invokestatic 179, 3, 79), (79, .ifCond .eq 18, 3, 82), (82, .iconst 1, 1, 83), (83, .istore_n 1, 1, 84), (84, .aload_n 0, 1, 85), (85, .dup, 1, 86), (86, .getfield 169, 3, 89), (89, .iconst 1, 1, 90), (90, .iadd, 1, 91), (91, .putfield 169, 3, 94), (94, .goto 181, 3, 97), (97, .iload_n 2, 1, 98), (98, .bipush 44, 2, 100), (100, .if_icmp .eq 15, 3, 103), (103, .iload_n 2, 1, 104), (104, .bipush 59, 2, 106), (106, .if_icmp .eq 9, 3, 109), (109, .iload_n 2, 1, 110), (110, .bipush 58, 2, 112), (112, .if_icmp .ne 97, 3, 115), (115, .aload_n 0, 1, 116), (116, .getfield 148, 3, 119), (119, .bipush 30, 2, 121), (121, .if_icmp .ne 13, 3, 124), (124, .aload_n 0, 1, 125), (125, .iconst 2, 1, 126), (126, .aload_n 0, 1, 127), (127, .getfield 169, 3, 130), (130, .invokevirtual 172, 3, 133), (133, .return_, 1, 134), (134, .iload_n 2, 1, 135), (135, .bipush 44, 2, 137), (137, .if_icmp .ne 7, 3, 140), (140, .iconst 1, 1, 141), (141, .goto 24, 3, 144), (144, .iload_n 2, 1, 145), (145, .bipush 59, 2, 147), (147, .if_icmp .ne 7, 3, 150), (150, .iconst 2, 1, 151), (151, .goto 14, 3, 154), (154, .iload_n 3, 1, 155), (155, .bipush 58, 2, 157), (157, .if_icmp .ne 7, 3, 160), (160, .iconst 4, 1, 161), (161, .goto 4, 3, 164), (164, .iconst 3, 1, 165), (165, .istore 4, 2, 167), (167, .aload_n 0, 1, 168), (168, .dup, 1, 169), (169, .getfield 148, 3, 172), (172, .iconst 1, 1, 173), (173, .iadd, 1, 174), (174, .putfield 148, 3, 177), (177, .aload_n 0, 1, 178), (178, .iconst 5, 1, 179), (179, .iload 4, 2, 181), (181, .invokevirtual 201, 3, 184), (184, .iconst 1, 1, 185), (185, .istore_n 1, 1, 186), (186, .aload_n 0, 1, 187), (187, .dup, 1, 188), (188, .getfield 169, 3, 191), (191, .iload 4, 2, 193), (193, .iconst 4, 1, 194), (194, .if_icmp .ne 7, 3, 197), (197, .iconst 2, 1, 198), (198, .goto 4, 3, 201), (201, .iconst 1, 1, 202), (202, .iadd, 1, 203), (203, .putfield 169, 3, 206), (206, .goto 69, 3, 209), (209, .iload_n 2, 1, 210), (210, .bipush 122, 2, 212), (212, .if_icmp .ne 54, 3, 215), (215, .aload_n 0, 1, 216), (216, .getfield 151, 3, 219), (219, .bipush 20, 2, 221), (221, .if_icmp .ne 13, 3, 224), (224, .aload_n 0, 1, 225), (225, .iconst 2, 1, 226), (226, .aload_n 0, 1, 227), (227, .getfield 169, 3, 230), (230, .invokevirtual 172, 3, 233), (233, .return_, 1, 234), (234, .aload_n 0, 1, 235), (235, .dup, 1, 236), (236, .getfield 151, 3, 239), (239, .iconst 1, 1, 240), (240, .iadd, 1, 241), (241, .putfield 151, 3, 244), (244, .aload_n 0, 1, 245), (245, .bipush 6, 2, 247), (247, .iconst 0, 1, 248), (248, .invokevirtual 201, 3, 251), (251, .iconst 1, 1, 252), (252, .istore_n 1, 1, 253), (253, .aload_n 0, 1, 254), (254, .dup, 1, 255), (255, .getfield 169, 3, 258), (258, .iconst 1, 1, 259), (259, .iadd, 1, 260), (260, .putfield 169, 3, 263), (263, .goto 12, 3, 266), (266, .aload_n 0, 1, 267), (267, .iconst 1, 1, 268), (268, .aload_n 0, 1, 269), (269, .getfield 169, 3, 272), (272, .invokevirtual 172, 3, 275), (275, .goto (-273), 3, 278), (278, .return_, 1, 279)]
set_option maxRecDepth 100000 in
theorem DX9_readSigns : decOK cX9_readSigns LX9_readSigns = true := by decide +kernel
def LX9_readHeight : DL := [(0, .iload_n 1, 1, 1), (1, .bipush 99, 2, 3), (3, .if_icmp .eq 9, 3, 6), (6, .iload_n 1, 1, 7), (7, .bipush 102, 2, 9), (9, .if_icmp .ne 79, 3, 12), (12, .iload_n 2, 1, 13), (13, .bipush 49, 2, 15), (15, .if_icmp .lt 73, 3, 18), (18, .iload_n 2, 1, 19), (19, .bipush 52, 2, 21), (21, .if_icmp .gt 67, 3, 24), (24, .aload_n 0, 1, 25), (25, .getfield 154, 3, 28), (28, .bipush 20, 2, 30), (30, .if_icmp .ne 14, 3, 33), (33, .aload_n 0, 1, 34), (34, .iconst 2, 1, 35), (35, .aload_n 0, 1, 36), (36, .getfield 169, 3, 39), (39, .invokevirtual 172, 3, 42), (42, .iload_n 3, 1, 43), (43, .ireturn, 1, 44), (44, .aload_n 0, 1, 45), (45, .dup, 1, 46), (46, .getfield 154, 3, 49), (49, .iconst 1, 1, 50), (50, .iadd, 1, 51), (51, .putfield 154, 3, 54), (54, .aload_n 0, 1, 55), (55, .iconst 4, 1, 56), (56, .iload_n 1, 1, 57), (57, .bipush 102, 2, 59), (59, .if_icmp .ne 8, 3, 62), (62, .bipush 10, 2, 64), (64, .goto 4, 3, 67), (67, .iconst 0, 1, 68), (68, .iload_n 2, 1, 69), (69, .iadd, 1, 70), (70, .bipush 48, 2, 72), (72, .isub, 1, 73), (73, .invokevirtual 201, 3, 76), (76, .aload_n 0, 1, 77), (77, .dup, 1, 78), (78, .getfield 169, 3, 81), (81, .iconst 2, 1, 82), (82, .iadd, 1, 83), (83, .putfield 169, 3, 86), (86, .iconst 1, 1, 87), (87, .ireturn, 1, 88), (88, .iload_n 2, 1, 89), (89, .bipush 120, 2, 91), (91, .if_icmp .eq 9, 3, 94), (94, .iload_n 2, 1, 95), (95, .bipush 121, 2, 97), (97, .if_icmp .ne 111, 3, 100), (100, .iload_n 2, 1, 101), (101, .bipush 120, 2, 103), (103, .if_icmp .ne 10, 3, 106), (106, .aload_n 0, 1, 107), (107, .getfield 157, 3, 110), (110, .goto 7, 3, 113), (113, .aload_n 0, 1, 114), (114, .getfield 160, 3, 117), (117, .istore 4, 2, 119), (119, .iload 4, 2, 121), (121, .bipush 20, 2, 123), (123, .if_icmp .ne 14, 3, 126), (126, .aload_n 0, 1, 127), (127, .iconst 2, 1, 128), (128, .aload_n 0, 1, 129), (129, .getfield 169, 3, 132), (132, .invokevirtual 172, 3, 135), (135, .iload_n 3, 1, 136), (136, .ireturn, 1, 137), (137, .aload_n 0, 1, 138), (138, .dup, 1, 139), (139, .getfield 157, 3, 142), (142, .iload_n 2, 1, 143), (143, .bipush 120, 2, 145), (145, .if_icmp .ne 7, 3, 148), (148, .iconst 1, 1, 149), (149, .goto 4, 3, 152), (152, .iconst 0, 1, 153), (153, .iadd, 1, 154), (154, .putfield 157, 3, 157), (157, .aload_n 0, 1, 158), (158, .dup, 1, 159), (159, .getfield 160, 3, 162), (162, .iload_n 2, 1, 163), (163, .bipush 121, 2, 165), (165, .if_icmp .ne 7, 3, 168), (168, .iconst 1, 1, 169), (169, .goto 4, 3, 172), (172, .iconst 0, 1, 173), (173, .iadd, 1, 174), (174, .putfield 160, 3, 177), (177, .aload_n 0, 1, 178), (178, .iload_n 2, 1, 179), (179, .bipush 120, 2, 181), (181, .if_icmp .ne 7, 3, 184), (184, .iconst 2, 1, 185), (185, .goto 4, 3, 188), (188, .iconst 3, 1, 189), (189, .iload_n 1, 1, 190), (190, .bipush 97, 2, 192), (192, .isub, 1, 193), (193, .invokevirtual 201, 3, 196), (196, .aload_n 0, 1, 197), (197, .dup, 1, 198), (198, .getfield 169, 3, 201), (201, .iconst 2, 1, 202), (202, .iadd, 1, 203), (203, .putfield 169, 3, 206), (206, .iload_n 3, 1, 207), (207, .ireturn, 1, 208), (208, .aload_n 0, 1, 209), (209, .getfield 142, 3, 212), (212, .sipush 150, 3, 215), (215, .if_icmp .ne 14, 3, 218), (218, .aload_n 0, 1, 219), (219, .iconst 2, 1, 220), (220, .aload_n 0, 1, 221), (221, .getfield 169, 3, 224), (224, .invokevirtual 172, 3, 227), (227, .iload_n 3, 1, 228), (228, .ireturn, 1, 229), (229, .aload_n 0, 1, 230), (230, .dup, 1, 231), (231, .getfield 145, 3, 234), (234, .iload_n 3, 1, 235), (235, .ifCond .eq 7, 3, 238), (238, .iconst 1, 1, 239), (239, .goto 4, 3, 242), (242, .iconst 0, 1, 243), (243, .iadd, 1, 244), (244, .putfield 145, 3, 247), (247, .aload_n 0, 1, 248), (248, .iconst 1, 1, 249), (249, .iload_n 1, 1, 250), (250, .bipush 97, 2, 252), (252, .isub, 1, 253), (253, .invokevirtual 201, 3, 256), (256, .aload_n 0, 1, 257), (257, .getfield 43, 3, 260), (260, .aload_n 0, 1, 261), (261, .getfield 142, 3, 264), (264, .iload_n 1, 1, 265), (265, .bipush 97, 2, 267), (267, .isub, 1, 268), (268, .iastore, 1, 269), (269, .aload_n 0, 1, 270), (270, .getfield 46, 3, 273), (273, .aload_n 0, 1, 274), (274, .getfield 142, 3, 277), (277, .iconst 0, 1, 278), (278, .iastore, 1, 279), (279, .aload_n 0, 1, 280), (280, .getfield 49, 3, 283), (283, .aload_n 0, 1, 284), (284, .getfield 142, 3, 287), (287, .aload_n 0, 1, 288), (288, .getfield 133, 3, 291), (291, .iconst 1, 1, 292), (292, .isub, 1, 293), (293, .iastore, 1, 294), (294, .aload_n 0, 1, 295), (295, .getfield 52, 3, 298), (298, .aload_n 0, 1, 299), (299, .getfield 142, 3, 302), (302, .aload_n 0, 1, 303), (303, .getfield 145, 3, 306), (306, .iconst 1, 1, 307), (307, .isub, 1, 308), (308, .iastore, 1, 309), (309, .aload_n 0, 1, 310), (310, .dup, 1, 311), (311, .getfield 142, 3, 314), (314, .iconst 1, 1, 315), (315, .iadd, 1, 316), (316, .putfield 142, 3, 319), (319, .aload_n 0, 1, 320), (320, .dup, 1, 321), (321, .getfield 169, 3, 324), (324, .iconst 1, 1, 325), (325, .iadd, 1, 326), (326, .putfield 169, 3, 329), (329, .aload_n 0, 1, 330), (330, .aload_n 0, 1, 331), (331, .getfield 169, 3, 334), (334, .invokevirtual 204, 3, 337), (337, .istore 4, 2, 339), (339, .iload 4, 2, 341), (341, .ifCond .le 75, 3, 344), (344, .aload_n 0, 1, 345), (345, .getfield 130, 3, 348), (348, .ifCond .ne 68, 3, 351), (351, .aload_n 0, 1, 352), (352, .getfield 46, 3, 355), (355, .aload_n 0, 1, 356), (356, .getfield 142, 3, 359), (359, .iconst 1, 1, 360), (360, .isub, 1, 361), (361, .iaload, 1, 362), (362, .iload 4, 2, 364), (364, .iand, 1, 365), (365, .ifCond .eq 12, 3, 368), (368, .aload_n 0, 1, 369), (369, .iconst 3, 1, 370), (370, .aload_n 0, 1, 371), (371, .getfield 169, 3, 374), (374, .invokevirtual 172, 3, 377), (377, .aload_n 0, 1, 378), (378, .getfield 46, 3, 381), (381, .aload_n 0, 1, 382), (382, .getfield 142, 3, 385), (385, .iconst 1, 1, 386), (386, .isub, 1, 387), (387, .dup2, 1, 388), (388, .iaload, 1, 389), (389, .iload 4, 2, 391), (391, .ior, 1, 392), (392, .iastore, 1, 393), (393, .aload_n 0, 1, 394), (394, .dup, 1, 395), (395, .getfield 169, 3, 398), (398, .iconst 1, 1, 399), (399, .iadd, 1, 400), (400, .putfield 169, 3, 403), (403, .aload_n 0, 1, 404), (404, .aload_n 0, 1, 405), (405, .getfield 169, 3, 408), (408, .invokevirtual 204, 3, 411), (411, .istore 4, 2, 413), (413, .goto (-74), 3, 416), (416, .iconst 0, 1, 417), (417, .ireturn, 1, 418)]
set_option maxRecDepth 100000 in
theorem DX9_readHeight : decOK cX9_readHeight LX9_readHeight = true := by decide +kernel
def LX9_markAt : DL := [(0, .aload_n 0, 1, 1), (1, .iload_n 1, 1, 2), (2, .invokevirtual 193, 3, 5), (5, .istore_n 2, 1, 6), (6, .iload_n 2, 1, 7), (7, .bipush 46, 2, 9), (9, .if_icmp .ne 7, 3, 12), (12, .iconst 1, 1, 13), (13, .goto 46, 3, 16), (16, .iload_n 2, 1, 17), (17, .bipush 95, 2, 19), (19, .if_icmp .ne 7, 3, 22), (22, .iconst 2, 1, 23), (23, .goto 36, 3, 26), (26, .iload_n 2, 1, 27), (27, .bipush 118, 2, 29), (29, .if_icmp .ne 7, 3, 32), (32, .iconst 4, 1, 33), (33, .goto 26, 3, 36), (36, .iload_n 2, 1, 37), (37, .bipush 119, 2, 39), (39, .if_icmp .ne 8, 3, 42), (42, .bipush 8, 2, 44), (44, .goto 15, 3, 47), (47, .iload_n 2, 1, 48), (48, .bipush 126, 2, 50), (50, .if_icmp .ne 8, 3, 53), (53, .bipush 16, 2, 55), (55, .goto 4, 3, 58), (58, .iconst 0, 1, 59), (59, .ireturn, 1, 60)]
set_option maxRecDepth 100000 in
theorem DX9_markAt : decOK cX9_markAt LX9_markAt = true := by decide +kernel
def LX9_read : DL := [(0, .aload_n 0, 1, 1), (1, .aload_n 0, 1, 2), (2, .getfield 123, 3, 5), (5, .putfield 166, 3, 8), (8, .iconst 0, 1, 9), (9, .istore_n 1, 1, 10), (10, .iload_n 1, 1, 11), (11, .aload_n 0, 1, 12), (12, .getfield 166, 3, 15), (15, .if_icmp .ge 21, 3, 18), (18, .aload_n 0, 1, 19), (19, .getfield 13, 3, 22), (22, .iload_n 1, 1, 23), (23, .aload_n 0, 1, 24), (24, .getfield 7, 3, 27), (27, .iload_n 1, 1, 28), (28, .iaload, 1, 29), (29, .iastore, 1, 30), (30, .iinc 1 1, 3, 33), (33, .goto (-23), 3, 36), (36, .aload_n 0, 1, 37), (37, .iconst 0, 1, 38), (38, .putfield 123, 3, 41), (41, .aload_n 0, 1, 42), (42, .invokevirtual 207, 3, 45), (45, .aload_n 0, 1, 46), (46, .getfield 130, 3, 49), (49, .ifCond .le 15, 3, 52), (52, .aload_n 0, 1, 53), (53, .invokevirtual 176, 3, 56), (56, .bipush (-10), 2, 58), (58, .aload_n 0, 1, 59), (59, .getfield 130, 3, 62), (62, .isub, 1, 63), (63, .ireturn, 1, 64), (64, .aload_n 0, 1, 65), (65, .invokevirtual 210, 3, 68), (68, .aload_n 0, 1, 69), (69, .getfield 142, 3, 72), (72, .ireturn, 1, 73)]
set_option maxRecDepth 100000 in
theorem DX9_read : decOK cX9_read LX9_read = true := by decide +kernel
def LX9_place : DL := [(0, .aload_n 0, 1, 1), (1, .getfield 55, 3, 4), (4, .ireturn, 1, 5)]
set_option maxRecDepth 100000 in
theorem DX9_place : decOK cX9_place LX9_place = true := by decide +kernel
def LX9_stepOf : DL := [(0, .iload_n 1, 1, 1), (1, .bipush 10, 2, 3), (3, .irem, 1, 4), (4, .istore_n 2, 1, 5), (5, .iload_n 0, 1, 6), (6, .iconst 2, 1, 7), (7, .iload_n 2, 1, 8), (8, .imul, 1, 9), (9, .iconst 1, 1, 10), (10, .iadd, 1, 11), (11, .isub, 1, 12), (12, .iload_n 1, 1, 13), (13, .bipush 9, 2, 15), (15, .if_icmp .le 7, 3, 18), (18, .iconst 4, 1, 19), (19, .goto 4, 3, 22), (22, .iconst 0, 1, 23), (23, .isub, 1, 24), (24, .ireturn, 1, 25)]
set_option maxRecDepth 100000 in
theorem DX9_stepOf : decOK cX9_stepOf LX9_stepOf = true := by decide +kernel
def LX9_unflat : DL := [(0, .iconst 0, 1, 1), (1, .istore_n 1, 1, 2), (2, .iload_n 1, 1, 3), (3, .bipush 13, 2, 5), (5, .if_icmp .ge 16, 3, 8), (8, .aload_n 0, 1, 9), (9, .getfield 68, 3, 12), (12, .iload_n 1, 1, 13), (13, .iconst 0, 1, 14), (14, .iastore, 1, 15), (15, .iinc 1 1, 3, 18), (18, .goto (-16), 3, 21), (21, .return_, 1, 22)]
set_option maxRecDepth 100000 in
theorem DX9_unflat : decOK cX9_unflat LX9_unflat = true := by decide +kernel
def LX9_workOut : DL := [(0, .iconst 4, 1, 1), (1, .istore_n 1, 1, 2), (2, .iconst 0, 1, 3), (3, .istore_n 2, 1, 4), (4, .aload_n 0, 1, 5), (5, .invokevirtual 213, 3, 8), (8, .iconst 0, 1, 9), (9, .istore_n 3, 1, 10), (10, .iload_n 3, 1, 11), (11, .aload_n 0, 1, 12), (12, .getfield 133, 3, 15), (15, .if_icmp .ge 238, 3, 18), (18, .iload_n 3, 1, 19), (19, .ifCond .le 24, 3, 22), (22, .aload_n 0, 1, 23), (23, .getfield 28, 3, 26), (26, .iload_n 3, 1, 27), (27, .iaload, 1, 28), (28, .aload_n 0, 1, 29), (29, .getfield 28, 3, 32), (32, .iload_n 3, 1, 33), (33, .iconst 1, 1, 34), (34, .isub, 1, 35), (35, .iaload, 1, 36), (36, .if_icmp .eq 7, 3, 39), (39, .aload_n 0, 1, 40), (40, .invokevirtual 213, 3, 43), (43, .aload_n 0, 1, 44), (44, .getfield 31, 3, 47), (47, .iload_n 3, 1, 48), (48, .iaload, 1, 49), (49, .istore 4, 2, 51), (51, .iload 4, 2, 53), (53, .aload_n 0, 1, 54), (54, .getfield 31, 3, 57), (57, .iload_n 3, 1, 58), (58, .iconst 1, 1, 59), (59, .iadd, 1, 60), (60, .iaload, 1, 61), (61, .if_icmp .ge 186, 3, 64), (64, .aload_n 0, 1, 65), (65, .getfield 34, 3, 68), (68, .iload 4, 2, 70), (70, .iaload, 1, 71), (71, .iconst 1, 1, 72), (72, .if_icmp .ne 76, 3, 75), (75, .aload_n 0, 1, 76), (76, .getfield 59, 3, 79), (79, .iload_n 2, 1, 80), (80, .aload_n 0, 1, 81), (81, .getfield 37, 3, 84), (84, .iload 4, 2, 86), (86, .iaload, 1, 87), (87, .iload_n 1, 1, 88), (88, .invokestatic 216, 3, 91), (91, .iastore, 1, 92), (92, .aload_n 0, 1, 93), (93, .getfield 62, 3, 96), (96, .iload_n 2, 1, 97), (97, .aload_n 0, 1, 98), (98, .getfield 71, 3, 101), (101, .aload_n 0, 1, 102), (102, .getfield 59, 3, 105), (105, .iload_n 2, 1, 106), (106, .iaload, 1, 107), (107, .bipush 7, 2, 109), (109, .invokestatic 219, 3, 112), (112, .iaload, 1, 113), (113, .bipush 12, 2, 115), (115, .aload_n 0, 1, 116), (116, .getfield 59, 3, 119), (119, .iload_n 2, 1, 120), (120, .iaload, 1, 121), (121, .bipush 7, 2, 123), (123, .invokestatic 119, 3, 126), (126, .imul, 1, 127), (127, .iadd, 1, 128), (128, .aload_n 0, 1, 129), (129, .getfield 68, 3, 132), (132, .aload_n 0, 1, 133), (133, .getfield 37, 3, 136), (136, .iload 4, 2, 138), (138, .iaload, 1, 139), (139, .iaload, 1, 140), (140, .isub, 1, 141), (141, .iastore, 1, 142), (142, .iinc 2 1, 3, 145), (145, .goto 96, 3, 148), (148, .aload_n 0, 1, 149), (149, .getfield 34, 3, 152), (152, .iload 4, 2, 154), (154, .iaload, 1, 155), (155, .iconst 2, 1, 156), (156, .if_icmp .ne 19, 3, 159), (159, .aload_n 0, 1, 160), (160, .getfield 68, 3, 163), (163, .aload_n 0, 1, 164), (164, .getfield 37, 3, 167), (167, .iload 4, 2, 169), (169, .iaload, 1, 170), (170, .iconst 1, 1, 171), (171, .iastore, 1, 172), (172, .goto 69, 3, 175), (175, .aload_n 0, 1, 176), (176, .getfield 34, 3, 179), (179, .iload 4, 2, 181), (181, .iaload, 1, 182), (182, .iconst 3, 1, 183), (183, .if_icmp .ne 19, 3, 186), (186, .aload_n 0, 1, 187), (187, .getfield 68, 3, 190), (190, .aload_n 0, 1, 191), (191, .getfield 37, 3, 194), (194, .iload 4, 2, 196), (196, .iaload, 1, 197), (197, .iconst 0, 1, 198), (198, .iastore, 1, 199), (199, .goto 42, 3, 202), (202, .aload_n 0, 1, 203), (203, .getfield 34, 3, 206), (206, .iload 4, 2, 208), (208, .iaload, 1, 209), (209, .bipush 6, 2, 211), (211, .if_icmp .ge 30, 3, 214), (214, .aload_n 0, 1, 215), (215, .invokevirtual 213, 3, 218), (218, .aload_n 0, 1, 219), (219, .getfield 34, 3, 222), (222, .iload 4, 2, 224), (224, .iaload, 1, 225), (225, .iconst 4, 1, 226), (226, .if_icmp .ne 13, 3, 229), (229, .aload_n 0, 1, 230), (230, .getfield 37, 3, 233), (233, .iload 4, 2, 235), (235, .iaload, 1, 236), (236, .goto 4, 3, 239), (239, .iload_n 1, 1, 240), (240, .istore_n 1, 1, 241), (241, .iinc 4 1, 3, 244), (244, .goto (-193), 3, 247), (247, .iinc 3 1, 3, 250), (250, .goto (-240), 3, 253), (253, .iconst 4, 1, 254), (254, .istore_n 1, 1, 255), (255, .iconst 0, 1, 256), (256, .istore_n 3, 1, 257), (257, .iconst 0, 1, 258), (258, .istore 4, 2, 260), (260, .iload 4, 2, 262), (262, .aload_n 0, 1, 263), (263, .getfield 136, 3, 266), (266, .if_icmp .ge 88, 3, 269), (269, .aload_n 0, 1, 270), (270, .getfield 34, 3, 273), (273, .iload 4, 2, 275), (275, .iaload, 1, 276), (276, .iconst 4, 1, 277), (277, .if_icmp .ne 13, 3, 280), (280, .aload_n 0, 1, 281), (281, .getfield 37, 3, 284), (284, .iload 4, 2, 286), (286, .iaload, 1, 287), (287, .goto 4, 3, 290), (290, .iload_n 1, 1, 291), (291, .istore_n 1, 1, 292), (292, .aload_n 0, 1, 293), (293, .getfield 34, 3, 296), (296, .iload 4, 2, 298), (298, .iaload, 1, 299), (299, .bipush 6, 2, 301), (301, .if_icmp .ne 47, 3, 304), (304, .aload_n 0, 1, 305), (305, .getfield 65, 3, 308), (308, .iload_n 3, 1, 309), (309, .aload_n 0, 1, 310), (310, .getfield 40, 3, 313), (313, .iload 4, 2, 315), (315, .iaload, 1, 316), (316, .aload_n 0, 1, 317), (317, .getfield 142, 3, 320), (320, .if_icmp .ge 22, 3, 323), (323, .aload_n 0, 1, 324), (324, .getfield 59, 3, 327), (327, .aload_n 0, 1, 328), (328, .getfield 40, 3, 331), (331, .iload 4, 2, 333), (333, .iaload, 1, 334), (334, .iaload, 1, 335), (335, .iload_n 1, 1, 336), (336, .invokestatic 222, 3, 339), (339, .goto 5, 3, 342), (342, .bipush (-100), 2, 344), (344, .iastore, 1, 345), (345, .iinc 3 1, 3, 348), (348, .iinc 4 1, 3, 351), (351, .goto (-91), 3, 354), (354, .aload_n 0, 1, 355), (355, .invokevirtual 225, 3, 358), (358, .return_, 1, 359)]
set_option maxRecDepth 100000 in
theorem DX9_workOut : decOK cX9_workOut LX9_workOut = true := by decide +kernel
def LX9_guideBy : DL := [(0, .iload_n 0, 1, 1), (1, .iconst 2, 1, 2), (2, .iload_n 1, 1, 3), (3, .bipush 10, 2, 5), (5, .irem, 1, 6), (6, .imul, 1, 7), (7, .iadd, 1, 8), (8, .iconst 1, 1, 9), (9, .iadd, 1, 10), (10, .iload_n 1, 1, 11), (11, .bipush 9, 2, 13), (13, .if_icmp .le 7, 3, 16), (16, .iconst 4, 1, 17), (17, .goto 4, 3, 20), (20, .iconst 0, 1, 21), (21, .iadd, 1, 22), (22, .istore_n 2, 1, 23), (23, .iload_n 2, 1, 24), (24, .iconst 0, 1, 25), (25, .bipush 12, 2, 27), (27, .invokestatic 126, 3, 30), (30, .ifCond .eq 7, 3, 33), (33, .iload_n 2, 1, 34), (34, .goto 5, 3, 37), (37, .bipush (-100), 2, 39), (39, .ireturn, 1, 40)]
set_option maxRecDepth 100000 in
theorem DX9_guideBy : decOK cX9_guideBy LX9_guideBy = true := by decide +kernel
def LX9_lengthOf : DL := [(0, .iconst 2, 1, 1), (1, .aload_n 0, 1, 2), (2, .getfield 46, 3, 5), (5, .iload_n 1, 1, 6), (6, .iaload, 1, 7), (7, .iconst 1, 1, 8), (8, .iand, 1, 9), (9, .ifCond .eq 7, 3, 12), (12, .iconst 2, 1, 13), (13, .goto 4, 3, 16), (16, .iconst 0, 1, 17), (17, .iadd, 1, 18), (18, .aload_n 0, 1, 19), (19, .getfield 46, 3, 22), (22, .iload_n 1, 1, 23), (23, .iaload, 1, 24), (24, .iconst 2, 1, 25), (25, .iand, 1, 26), (26, .ifCond .eq 7, 3, 29), (29, .iconst 1, 1, 30), (30, .goto 4, 3, 33), (33, .iconst 0, 1, 34), (34, .iadd, 1, 35), (35, .aload_n 0, 1, 36), (36, .getfield 46, 3, 39), (39, .iload_n 1, 1, 40), (40, .iaload, 1, 41), (41, .bipush 16, 2, 43), (43, .iand, 1, 44), (44, .ifCond .eq 7, 3, 47), (47, .iconst 1, 1, 48), (48, .goto 4, 3, 51), (51, .iconst 0, 1, 52), (52, .isub, 1, 53), (53, .istore_n 2, 1, 54), (54, .iload_n 2, 1, 55), (55, .iload_n 1, 1, 56), (56, .iconst 1, 1, 57), (57, .iadd, 1, 58), (58, .aload_n 0, 1, 59), (59, .getfield 142, 3, 62), (62, .if_icmp .ge 38, 3, 65), (65, .aload_n 0, 1, 66), (66, .getfield 52, 3, 69), (69, .iload_n 1, 1, 70), (70, .iconst 1, 1, 71), (71, .iadd, 1, 72), (72, .iaload, 1, 73), (73, .aload_n 0, 1, 74), (74, .getfield 52, 3, 77), (77, .iload_n 1, 1, 78), (78, .iaload, 1, 79), (79, .if_icmp .ne 21, 3, 82), (82, .aload_n 0, 1, 83), (83, .getfield 46, 3, 86), (86, .iload_n 1, 1, 87), (87, .iconst 1, 1, 88), (88, .iadd, 1, 89), (89, .iaload, 1, 90), (90, .bipush 8, 2, 92), (92, .iand, 1, 93), (93, .ifCond .eq 7, 3, 96), (96, .iconst 1, 1, 97), (97, .goto 4, 3, 100), (100, .iconst 0, 1, 101), (101, .iadd, 1, 102), (102, .ireturn, 1, 103)]
set_option maxRecDepth 100000 in
theorem DX9_lengthOf : decOK cX9_lengthOf LX9_lengthOf = true := by decide +kernel
def LX9_wayOf : DL := [(0, .aload_n 0, 1, 1), (1, .getfield 43, 3, 4), (4, .iload_n 1, 1, 5), (5, .iconst 1, 1, 6), (6, .iadd, 1, 7), (7, .iaload, 1, 8), (8, .aload_n 0, 1, 9), (9, .getfield 43, 3, 12), (12, .iload_n 1, 1, 13), (13, .iaload, 1, 14), (14, .if_icmp .le 7, 3, 17), (17, .iconst 1, 1, 18), (18, .goto 25, 3, 21), (21, .aload_n 0, 1, 22), (22, .getfield 43, 3, 25), (25, .iload_n 1, 1, 26), (26, .iconst 1, 1, 27), (27, .iadd, 1, 28), (28, .iaload, 1, 29), (29, .aload_n 0, 1, 30), (30, .getfield 43, 3, 33), (33, .iload_n 1, 1, 34), (34, .iaload, 1, 35), (35, .if_icmp .ge 7, 3, 38), (38, .iconst 2, 1, 39), (39, .goto 4, 3, 42), (42, .iconst 3, 1, 43), (43, .ireturn, 1, 44)]
set_option maxRecDepth 100000 in
theorem DX9_wayOf : decOK cX9_wayOf LX9_wayOf = true := by decide +kernel
def LX9_findNeumes : DL := [(0, .aload_n 0, 1, 1), (1, .iconst 0, 1, 2), (2, .putfield 163, 3, 5), (5, .iconst 0, 1, 6), (6, .istore_n 1, 1, 7), (7, .iload_n 1, 1, 8), (8, .aload_n 0, 1, 9), (9, .getfield 142, 3, 12), (12, .if_icmp .ge 200, 3, 15), (15, .iconst 1, 1, 16), (16, .istore_n 2, 1, 17), (17, .aload_n 0, 1, 18), (18, .getfield 46, 3, 21), (21, .iload_n 1, 1, 22), (22, .iaload, 1, 23), (23, .iconst 4, 1, 24), (24, .iand, 1, 25), (25, .ifCond .eq 7, 3, 28), (28, .iconst 2, 1, 29), (29, .goto 4, 3, 32), (32, .iconst 1, 1, 33), (33, .istore_n 3, 1, 34), (34, .iconst 0, 1, 35), (35, .istore 4, 2, 37), (37, .iconst 1, 1, 38), (38, .istore 5, 2, 40), (40, .iload 5, 2, 42), (42, .iconst 5, 1, 43), (43, .if_icmp .ge 94, 3, 46), (46, .iload_n 1, 1, 47), (47, .iload 5, 2, 49), (49, .iadd, 1, 50), (50, .aload_n 0, 1, 51), (51, .getfield 142, 3, 54), (54, .if_icmp .ge 83, 3, 57), (57, .aload_n 0, 1, 58), (58, .getfield 52, 3, 61), (61, .iload_n 1, 1, 62), (62, .iload 5, 2, 64), (64, .iadd, 1, 65), (65, .iaload, 1, 66), (66, .aload_n 0, 1, 67), (67, .getfield 52, 3, 70), (70, .iload_n 1, 1, 71), (71, .iaload, 1, 72), (72, .if_icmp .ne 65, 3, 75), (75, .bipush 10, 2, 77), (77, .iload 4, 2, 79), (79, .imul, 1, 80), (80, .aload_n 0, 1, 81), (81, .iload_n 1, 1, 82), (82, .iload 5, 2, 84), (84, .iadd, 1, 85), (85, .iconst 1, 1, 86), (86, .isub, 1, 87), (87, .invokevirtual 228, 3, 90), (90, .iadd, 1, 91), (91, .istore 4, 2, 93), (93, .iconst 0, 1, 94), (94, .istore 6, 2, 96), (96, .iload 6, 2, 98), (98, .bipush 15, 2, 100), (100, .if_icmp .ge 31, 3, 103), (103, .aload_n 0, 1, 104), (104, .getfield 86, 3, 107), (107, .iload 6, 2, 109), (109, .iaload, 1, 110), (110, .iload 4, 2, 112), (112, .if_icmp .ne 13, 3, 115), (115, .iload 5, 2, 117), (117, .iconst 1, 1, 118), (118, .iadd, 1, 119), (119, .istore_n 2, 1, 120), (120, .iconst 3, 1, 121), (121, .iload 6, 2, 123), (123, .iadd, 1, 124), (124, .istore_n 3, 1, 125), (125, .iinc 6 1, 3, 128), (128, .goto (-32), 3, 131), (131, .iinc 5 1, 3, 134), (134, .goto (-94), 3, 137), (137, .aload_n 0, 1, 138), (138, .getfield 74, 3, 141), (141, .aload_n 0, 1, 142), (142, .getfield 163, 3, 145), (145, .iload_n 3, 1, 146), (146, .iastore, 1, 147), (147, .aload_n 0, 1, 148), (148, .getfield 77, 3, 151), (151, .aload_n 0, 1, 152), (152, .getfield 163, 3, 155), (155, .iload_n 1, 1, 156), (156, .iastore, 1, 157), (157, .aload_n 0, 1, 158), (158, .getfield 80, 3, 161), (161, .aload_n 0, 1, 162), (162, .getfield 163, 3, 165), (165, .iload_n 2, 1, 166), (166, .iastore, 1, 167), (167, .iconst 0, 1, 168), (168, .istore 5, 2, 170), (170, .iload 5, 2, 172), (172, .iload_n 2, 1, 173), (173, .if_icmp .ge 22, 3, 176), (176, .aload_n 0, 1, 177), (177, .getfield 83, 3, 180), (180, .iload_n 1, 1, 181), (181, .iload 5, 2, 183), (183, .iadd, 1, 184), (184, .aload_n 0, 1, 185), (185, .getfield 163, 3, 188), (188, .iastore, 1, 189), (189, .iinc 5 1, 3, 192), (192, .goto (-22), 3, 195), (195, .aload_n 0, 1, 196), (196, .dup, 1, 197), (197, .getfield 163, 3, 200), (200, .iconst 1, 1, 201), (201, .iadd, 1, 202), (202, .putfield 163, 3, 205), (205, .iload_n 1, 1, 206), (206, .iload_n 2, 1, 207), (207, .iadd, 1, 208), (208, .istore_n 1, 1, 209), (209, .goto (-202), 3, 212), (212, .return_, 1, 213)]
set_option maxRecDepth 100000 in
theorem DX9_findNeumes : decOK cX9_findNeumes LX9_findNeumes = true := by decide +kernel
def LX9_notesOf : DL := [(0, .iconst 0, 1, 1), (1, .istore_n 2, 1, 2), (2, .iconst 0, 1, 3), (3, .istore_n 3, 1, 4), (4, .iload_n 3, 1, 5), (5, .aload_n 0, 1, 6), (6, .getfield 142, 3, 9), (9, .if_icmp .ge 27, 3, 12), (12, .iload_n 2, 1, 13), (13, .aload_n 0, 1, 14), (14, .getfield 49, 3, 17), (17, .iload_n 3, 1, 18), (18, .iaload, 1, 19), (19, .iload_n 1, 1, 20), (20, .if_icmp .ne 7, 3, 23), (23, .iconst 1, 1, 24), (24, .goto 4, 3, 27), (27, .iconst 0, 1, 28), (28, .iadd, 1, 29), (29, .istore_n 2, 1, 30), (30, .iinc 3 1, 3, 33), (33, .goto (-29), 3, 36), (36, .iload_n 2, 1, 37), (37, .ireturn, 1, 38)]
set_option maxRecDepth 100000 in
theorem DX9_notesOf : decOK cX9_notesOf LX9_notesOf = true := by decide +kernel
def LX9_firstOf : DL := [(0, .bipush (-100), 2, 2), (2, .istore_n 2, 1, 3), (3, .aload_n 0, 1, 4), (4, .getfield 142, 3, 7), (7, .iconst 1, 1, 8), (8, .isub, 1, 9), (9, .istore_n 3, 1, 10), (10, .iload_n 3, 1, 11), (11, .ifCond .lt 25, 3, 14), (14, .aload_n 0, 1, 15), (15, .getfield 49, 3, 18), (18, .iload_n 3, 1, 19), (19, .iaload, 1, 20), (20, .iload_n 1, 1, 21), (21, .if_icmp .ne 7, 3, 24), (24, .iload_n 3, 1, 25), (25, .goto 4, 3, 28), (28, .iload_n 2, 1, 29), (29, .istore_n 2, 1, 30), (30, .iinc 3 (-1), 3, 33), (33, .goto (-23), 3, 36), (36, .iload_n 2, 1, 37), (37, .ireturn, 1, 38)]
set_option maxRecDepth 100000 in
theorem DX9_firstOf : decOK cX9_firstOf LX9_firstOf = true := by decide +kernel
def LX9_syllable : DL := [(0, .iload_n 1, 1, 1), (1, .iconst 0, 1, 2), (2, .aload_n 0, 1, 3), (3, .getfield 133, 3, 6), (6, .iconst 1, 1, 7), (7, .isub, 1, 8), (8, .invokestatic 126, 3, 11), (11, .ifCond .ne 6, 3, 14), (14, .bipush (-101), 2, 16), (16, .ireturn, 1, 17), (17, .iload_n 2, 1, 18), (18, .tableswitch 78 0 5 #[38, 45, 52, 59, 66, 72], 38, 56), (56, .aload_n 0, 1, 57), (57, .getfield 28, 3, 60), (60, .iload_n 1, 1, 61), (61, .iaload, 1, 62), (62, .ireturn, 1, 63), (63, .aload_n 0, 1, 64), (64, .getfield 19, 3, 67), (67, .iload_n 1, 1, 68), (68, .iaload, 1, 69), (69, .ireturn, 1, 70), (70, .aload_n 0, 1, 71), (71, .getfield 22, 3, 74), (74, .iload_n 1, 1, 75), (75, .iaload, 1, 76), (76, .ireturn, 1, 77), (77, .aload_n 0, 1, 78), (78, .getfield 25, 3, 81), (81, .iload_n 1, 1, 82), (82, .iaload, 1, 83), (83, .ireturn, 1, 84), (84, .aload_n 0, 1, 85), (85, .iload_n 1, 1, 86), (86, .invokevirtual 231, 3, 89), (89, .ireturn, 1, 90), (90, .aload_n 0, 1, 91), (91, .iload_n 1, 1, 92), (92, .invokevirtual 234, 3, 95), (95, .ireturn, 1, 96), (96, .bipush (-102), 2, 98), (98, .ireturn, 1, 99)]
set_option maxRecDepth 100000 in
theorem DX9_syllable : decOK cX9_syllable LX9_syllable = true := by decide +kernel
def LX9_note : DL := [(0, .iload_n 1, 1, 1), (1, .iconst 0, 1, 2), (2, .aload_n 0, 1, 3), (3, .getfield 142, 3, 6), (6, .iconst 1, 1, 7), (7, .isub, 1, 8), (8, .invokestatic 126, 3, 11), (11, .ifCond .ne 6, 3, 14), (14, .bipush (-101), 2, 16), (16, .ireturn, 1, 17), (17, .iload_n 2, 1, 18), (18, .tableswitch 101 0 7 #[46, 53, 60, 67, 74, 81, 88, 95], 46, 64), (64, .aload_n 0, 1, 65), (65, .getfield 43, 3, 68), (68, .iload_n 1, 1, 69), (69, .iaload, 1, 70), (70, .ireturn, 1, 71), (71, .aload_n 0, 1, 72), (72, .getfield 46, 3, 75), (75, .iload_n 1, 1, 76), (76, .iaload, 1, 77), (77, .ireturn, 1, 78), (78, .aload_n 0, 1, 79), (79, .getfield 49, 3, 82), (82, .iload_n 1, 1, 83), (83, .iaload, 1, 84), (84, .ireturn, 1, 85), (85, .aload_n 0, 1, 86), (86, .getfield 52, 3, 89), (89, .iload_n 1, 1, 90), (90, .iaload, 1, 91), (91, .ireturn, 1, 92), (92, .aload_n 0, 1, 93), (93, .getfield 83, 3, 96), (96, .iload_n 1, 1, 97), (97, .iaload, 1, 98), (98, .ireturn, 1, 99), (99, .aload_n 0, 1, 100), (100, .getfield 59, 3, 103), (103, .iload_n 1, 1, 104), (104, .iaload, 1, 105), (105, .ireturn, 1, 106), (106, .aload_n 0, 1, 107), (107, .getfield 62, 3, 110), (110, .iload_n 1, 1, 111), (111, .iaload, 1, 112), (112, .ireturn, 1, 113), (113, .aload_n 0, 1, 114), (114, .iload_n 1, 1, 115), (115, .invokevirtual 237, 3, 118), (118, .ireturn, 1, 119), (119, .bipush (-102), 2, 121), (121, .ireturn, 1, 122)]
set_option maxRecDepth 100000 in
theorem DX9_note : decOK cX9_note LX9_note = true := by decide +kernel
def LX9_neume : DL := [(0, .iload_n 1, 1, 1), (1, .iconst 0, 1, 2), (2, .aload_n 0, 1, 3), (3, .getfield 163, 3, 6), (6, .iconst 1, 1, 7), (7, .isub, 1, 8), (8, .invokestatic 126, 3, 11), (11, .ifCond .ne 6, 3, 14), (14, .bipush (-101), 2, 16), (16, .ireturn, 1, 17), (17, .iload_n 2, 1, 18), (18, .tableswitch 83 0 3 #[30, 37, 44, 51], 30, 48), (48, .aload_n 0, 1, 49), (49, .getfield 74, 3, 52), (52, .iload_n 1, 1, 53), (53, .iaload, 1, 54), (54, .ireturn, 1, 55), (55, .aload_n 0, 1, 56), (56, .getfield 77, 3, 59), (59, .iload_n 1, 1, 60), (60, .iaload, 1, 61), (61, .ireturn, 1, 62), (62, .aload_n 0, 1, 63), (63, .getfield 80, 3, 66), (66, .iload_n 1, 1, 67), (67, .iaload, 1, 68), (68, .ireturn, 1, 69), (69, .aload_n 0, 1, 70), (70, .getfield 46, 3, 73), (73, .aload_n 0, 1, 74), (74, .getfield 77, 3, 77), (77, .iload_n 1, 1, 78), (78, .iaload, 1, 79), (79, .aload_n 0, 1, 80), (80, .getfield 80, 3, 83), (83, .iload_n 1, 1, 84), (84, .iaload, 1, 85), (85, .iadd, 1, 86), (86, .iconst 1, 1, 87), (87, .isub, 1, 88), (88, .iaload, 1, 89), (89, .bipush 16, 2, 91), (91, .iand, 1, 92), (92, .ifCond .eq 7, 3, 95), (95, .iconst 1, 1, 96), (96, .goto 4, 3, 99), (99, .iconst 0, 1, 100), (100, .ireturn, 1, 101), (101, .bipush (-102), 2, 103), (103, .ireturn, 1, 104)]
set_option maxRecDepth 100000 in
theorem DX9_neume : decOK cX9_neume LX9_neume = true := by decide +kernel
def LX9_bar : DL := [(0, .iload_n 1, 1, 1), (1, .iconst 0, 1, 2), (2, .aload_n 0, 1, 3), (3, .getfield 148, 3, 6), (6, .iconst 1, 1, 7), (7, .isub, 1, 8), (8, .invokestatic 126, 3, 11), (11, .ifCond .ne 6, 3, 14), (14, .bipush (-101), 2, 16), (16, .ireturn, 1, 17), (17, .iload_n 2, 1, 18), (18, .iconst 0, 1, 19), (19, .iconst 1, 1, 20), (20, .invokestatic 126, 3, 23), (23, .ifCond .ne 6, 3, 26), (26, .bipush (-102), 2, 28), (28, .ireturn, 1, 29), (29, .iconst 0, 1, 30), (30, .istore_n 3, 1, 31), (31, .iconst 0, 1, 32), (32, .istore 4, 2, 34), (34, .iconst 0, 1, 35), (35, .istore 5, 2, 37), (37, .iload 5, 2, 39), (39, .aload_n 0, 1, 40), (40, .getfield 136, 3, 43), (43, .if_icmp .ge 56, 3, 46), (46, .aload_n 0, 1, 47), (47, .getfield 34, 3, 50), (50, .iload 5, 2, 52), (52, .iaload, 1, 53), (53, .iconst 5, 1, 54), (54, .if_icmp .ne 39, 3, 57), (57, .iload_n 3, 1, 58), (58, .iload_n 1, 1, 59), (59, .if_icmp .ne 27, 3, 62), (62, .iload_n 2, 1, 63), (63, .ifCond .ne 13, 3, 66), (66, .aload_n 0, 1, 67), (67, .getfield 37, 3, 70), (70, .iload 5, 2, 72), (72, .iaload, 1, 73), (73, .goto 15, 3, 76), (76, .aload_n 0, 1, 77), (77, .getfield 40, 3, 80), (80, .iload 5, 2, 82), (82, .iaload, 1, 83), (83, .goto 5, 3, 86), (86, .iload 4, 2, 88), (88, .istore 4, 2, 90), (90, .iinc 3 1, 3, 93), (93, .iinc 5 1, 3, 96), (96, .goto (-59), 3, 99), (99, .iload 4, 2, 101), (101, .ireturn, 1, 102)]
set_option maxRecDepth 100000 in
theorem DX9_bar : decOK cX9_bar LX9_bar = true := by decide +kernel
def LX9_guide : DL := [(0, .iload_n 1, 1, 1), (1, .iconst 0, 1, 2), (2, .aload_n 0, 1, 3), (3, .getfield 151, 3, 6), (6, .iconst 1, 1, 7), (7, .isub, 1, 8), (8, .invokestatic 126, 3, 11), (11, .ifCond .eq 12, 3, 14), (14, .aload_n 0, 1, 15), (15, .getfield 65, 3, 18), (18, .iload_n 1, 1, 19), (19, .iaload, 1, 20), (20, .goto 5, 3, 23), (23, .bipush (-101), 2, 25), (25, .ireturn, 1, 26)]
set_option maxRecDepth 100000 in
theorem DX9_guide : decOK cX9_guide LX9_guide = true := by decide +kernel
def LX9_mode : DL := [(0, .iload_n 1, 1, 1), (1, .iconst 0, 1, 2), (2, .iconst 4, 1, 3), (3, .invokestatic 126, 3, 6), (6, .ifCond .ne 6, 3, 9), (9, .bipush (-102), 2, 11), (11, .ireturn, 1, 12), (12, .aload_n 0, 1, 13), (13, .getfield 142, 3, 16), (16, .ifCond .ne 6, 3, 19), (19, .bipush (-103), 2, 21), (21, .ireturn, 1, 22), (22, .aload_n 0, 1, 23), (23, .getfield 59, 3, 26), (26, .iconst 0, 1, 27), (27, .iaload, 1, 28), (28, .istore_n 2, 1, 29), (29, .aload_n 0, 1, 30), (30, .getfield 59, 3, 33), (33, .iconst 0, 1, 34), (34, .iaload, 1, 35), (35, .istore_n 3, 1, 36), (36, .iconst 1, 1, 37), (37, .istore 4, 2, 39), (39, .iload 4, 2, 41), (41, .aload_n 0, 1, 42), (42, .getfield 142, 3, 45), (45, .if_icmp .ge 55, 3, 48), (48, .aload_n 0, 1, 49), (49, .getfield 59, 3, 52), (52, .iload 4, 2, 54), (54, .iaload, 1, 55), (55, .iload_n 2, 1, 56), (56, .if_icmp .ge 13, 3, 59), (59, .aload_n 0, 1, 60), (60, .getfield 59, 3, 63), (63, .iload 4, 2, 65), (65, .iaload, 1, 66), (66, .goto 4, 3, 69), (69, .iload_n 2, 1, 70), (70, .istore_n 2, 1, 71), (71, .aload_n 0, 1, 72), (72, .getfield 59, 3, 75), (75, .iload 4, 2, 77), (77, .iaload, 1, 78), (78, .iload_n 3, 1, 79), (79, .if_icmp .le 13, 3, 82), (82, .aload_n 0, 1, 83), (83, .getfield 59, 3, 86), (86, .iload 4, 2, 88), (88, .iaload, 1, 89), (89, .goto 4, 3, 92), (92, .iload_n 3, 1, 93), (93, .istore_n 3, 1, 94), (94, .iinc 4 1, 3, 97), (97, .goto (-58), 3, 100), (100, .aload_n 0, 1, 101), (101, .getfield 59, 3, 104), (104, .aload_n 0, 1, 105), (105, .getfield 142, 3, 108), (108, .iconst 1, 1, 109), (109, .isub, 1, 110), (110, .iaload, 1, 111), (111, .istore 4, 2, 113), (113, .aload_n 0, 1, 114), (114, .getfield 89, 3, 117), (117, .iload 4, 2, 119), (119, .bipush 7, 2, 121), (121, .invokestatic 219, 3, 124), (124, .iaload, 1, 125), (125, .istore 5, 2, 127), (127, .iload 5, 2, 129), (129, .iload 5, 2, 131), (131, .ifCond .le 23, 3, 134), (134, .iload 4, 2, 136), (136, .iload_n 2, 1, 137), (137, .isub, 1, 138), (138, .iconst 3, 1, 139), (139, .if_icmp .lt 15, 3, 142), (142, .iload_n 3, 1, 143), (143, .iload 4, 2, 145), (145, .isub, 1, 146), (146, .iconst 5, 1, 147), (147, .if_icmp .gt 7, 3, 150), (150, .iconst 1, 1, 151), (151, .goto 4, 3, 154), (154, .iconst 0, 1, 155), (155, .iadd, 1, 156), (156, .istore 5, 2, 158), (158, .iload_n 1, 1, 159), (159, .tableswitch 58 0 3 #[29, 32, 35, 56], 29, 188), (188, .iload 5, 2, 190), (190, .ireturn, 1, 191), (191, .iload 4, 2, 193), (193, .ireturn, 1, 194), (194, .iload 5, 2, 196), (196, .ifCond .ne 8, 3, 199), (199, .bipush (-100), 2, 201), (201, .goto 13, 3, 204), (204, .iload 4, 2, 206), (206, .aload_n 0, 1, 207), (207, .getfield 92, 3, 210), (210, .iload 5, 2, 212), (212, .iaload, 1, 213), (213, .iadd, 1, 214), (214, .ireturn, 1, 215), (215, .iload_n 2, 1, 216), (216, .ireturn, 1, 217), (217, .iload_n 3, 1, 218), (218, .ireturn, 1, 219)]
set_option maxRecDepth 100000 in
theorem DX9_mode : decOK cX9_mode LX9_mode = true := by decide +kernel
def LX9_tone : DL := [(0, .iload_n 1, 1, 1), (1, .iconst 1, 1, 2), (2, .bipush 8, 2, 4), (4, .invokestatic 126, 3, 7), (7, .ifCond .ne 6, 3, 10), (10, .bipush (-102), 2, 12), (12, .ireturn, 1, 13), (13, .aload_n 0, 1, 14), (14, .getfield 116, 3, 17), (17, .istore_n 2, 1, 18), (18, .aload_n 0, 1, 19), (19, .iload_n 1, 1, 20), (20, .putfield 116, 3, 23), (23, .iload_n 2, 1, 24), (24, .ireturn, 1, 25)]
set_option maxRecDepth 100000 in
theorem DX9_tone : decOK cX9_tone LX9_tone = true := by decide +kernel
def LX9_point : DL := [(0, .iload_n 1, 1, 1), (1, .iconst 0, 1, 2), (2, .iconst 1, 1, 3), (3, .invokestatic 126, 3, 6), (6, .ifCond .ne 6, 3, 9), (9, .bipush (-102), 2, 11), (11, .ireturn, 1, 12), (12, .aload_n 0, 1, 13), (13, .getfield 98, 3, 16), (16, .iload_n 1, 1, 17), (17, .iaload, 1, 18), (18, .bipush 40, 2, 20), (20, .if_icmp .ne 6, 3, 23), (23, .bipush (-104), 2, 25), (25, .ireturn, 1, 26), (26, .aload_n 0, 1, 27), (27, .getfield 95, 3, 30), (30, .bipush 40, 2, 32), (32, .iload_n 1, 1, 33), (33, .imul, 1, 34), (34, .aload_n 0, 1, 35), (35, .getfield 98, 3, 38), (38, .iload_n 1, 1, 39), (39, .iaload, 1, 40), (40, .iadd, 1, 41), (41, .iload_n 2, 1, 42), (42, .ifCond .eq 7, 3, 45), (45, .iconst 1, 1, 46), (46, .goto 4, 3, 49), (49, .iconst 0, 1, 50), (50, .iastore, 1, 51), (51, .aload_n 0, 1, 52), (52, .getfield 98, 3, 55), (55, .iload_n 1, 1, 56), (56, .dup2, 1, 57), (57, .iaload, 1, 58), (58, .iconst 1, 1, 59), (59, .iadd, 1, 60), (60, .iastore, 1, 61), (61, .aload_n 0, 1, 62), (62, .getfield 98, 3, 65), (65, .iload_n 1, 1, 66), (66, .iaload, 1, 67), (67, .ireturn, 1, 68)]
set_option maxRecDepth 100000 in
theorem DX9_point : decOK cX9_point LX9_point = true := by decide +kernel
def LX9_fresh : DL := [(0, .aload_n 0, 1, 1), (1, .getfield 98, 3, 4), (4, .iconst 0, 1, 5), (5, .iaload, 1, 6), (6, .aload_n 0, 1, 7), (7, .getfield 98, 3, 10), (10, .iconst 1, 1, 11), (11, .iaload, 1, 12), (12, .iadd, 1, 13), (13, .istore_n 1, 1, 14), (14, .aload_n 0, 1, 15), (15, .getfield 98, 3, 18), (18, .iconst 0, 1, 19), (19, .iconst 0, 1, 20), (20, .iastore, 1, 21), (21, .aload_n 0, 1, 22), (22, .getfield 98, 3, 25), (25, .iconst 1, 1, 26), (26, .iconst 0, 1, 27), (27, .iastore, 1, 28), (28, .iload_n 1, 1, 29), (29, .ireturn, 1, 30)]
set_option maxRecDepth 100000 in
theorem DX9_fresh : decOK cX9_fresh LX9_fresh = true := by decide +kernel
def LX9_close : DL := [(0, .aload_n 0, 1, 1), (1, .getfield 104, 3, 4), (4, .bipush 18, 2, 6), (6, .aload_n 0, 1, 7), (7, .getfield 116, 3, 10), (10, .iconst 1, 1, 11), (11, .isub, 1, 12), (12, .imul, 1, 13), (13, .bipush 9, 2, 15), (15, .iload_n 1, 1, 16), (16, .imul, 1, 17), (17, .iadd, 1, 18), (18, .iload_n 2, 1, 19), (19, .iadd, 1, 20), (20, .iaload, 1, 21), (21, .ireturn, 1, 22)]
set_option maxRecDepth 100000 in
theorem DX9_close : decOK cX9_close LX9_close = true := by decide +kernel
def LX9_accentBefore : DL := [(0, .iconst (-1), 1, 1), (1, .istore_n 3, 1, 2), (2, .iconst 0, 1, 3), (3, .istore 4, 2, 5), (5, .iload 4, 2, 7), (7, .iload_n 2, 1, 8), (8, .if_icmp .ge 32, 3, 11), (11, .aload_n 0, 1, 12), (12, .getfield 95, 3, 15), (15, .bipush 40, 2, 17), (17, .iload_n 1, 1, 18), (18, .imul, 1, 19), (19, .iload 4, 2, 21), (21, .iadd, 1, 22), (22, .iaload, 1, 23), (23, .iconst 1, 1, 24), (24, .if_icmp .ne 8, 3, 27), (27, .iload 4, 2, 29), (29, .goto 4, 3, 32), (32, .iload_n 3, 1, 33), (33, .istore_n 3, 1, 34), (34, .iinc 4 1, 3, 37), (37, .goto (-32), 3, 40), (40, .iload_n 3, 1, 41), (41, .ireturn, 1, 42)]
set_option maxRecDepth 100000 in
theorem DX9_accentBefore : decOK cX9_accentBefore LX9_accentBefore = true := by decide +kernel
def LX9_fit : DL := [(0, .aload_n 0, 1, 1), (1, .getfield 98, 3, 4), (4, .iload_n 1, 1, 5), (5, .iaload, 1, 6), (6, .istore_n 2, 1, 7), (7, .aload_n 0, 1, 8), (8, .iconst 0, 1, 9), (9, .putfield 240, 3, 12), (12, .aload_n 0, 1, 13), (13, .bipush (-100), 2, 15), (15, .putfield 243, 3, 18), (18, .aload_n 0, 1, 19), (19, .bipush (-100), 2, 21), (21, .putfield 246, 3, 24), (24, .aload_n 0, 1, 25), (25, .iconst 1, 1, 26), (26, .putfield 249, 3, 29), (29, .iload_n 2, 1, 30), (30, .ifCond .ne 4, 3, 33), (33, .return_, 1, 34), (34, .aload_n 0, 1, 35), (35, .aload_n 0, 1, 36), (36, .iload_n 1, 1, 37), (37, .iload_n 2, 1, 38), (38, .invokevirtual 253, 3, 41), (41, .putfield 246, 3, 44), (44, .aload_n 0, 1, 45), (45, .aload_n 0, 1, 46), (46, .getfield 246, 3, 49), (49, .ifCond .lt 10, 3, 52), (52, .aload_n 0, 1, 53), (53, .getfield 246, 3, 56), (56, .goto 15, 3, 59), (59, .iload_n 2, 1, 60), (60, .iconst 1, 1, 61), (61, .if_icmp .ne 7, 3, 64), (64, .iconst 0, 1, 65), (65, .goto 6, 3, 68), (68, .iload_n 2, 1, 69), (69, .iconst 2, 1, 70), (70, .isub, 1, 71), (71, .putfield 246, 3, 74), (74, .aload_n 0, 1, 75), (75, .iload_n 1, 1, 76), (76, .iconst 3, 1, 77), (77, .invokevirtual 256, 3, 80), (80, .iconst 2, 1, 81), (81, .if_icmp .ne 7, 3, 84), (84, .iconst 1, 1, 85), (85, .goto 4, 3, 88), (88, .iconst 0, 1, 89), (89, .istore_n 3, 1, 90), (90, .aload_n 0, 1, 91), (91, .getfield 246, 3, 94), (94, .istore 4, 2, 96), (96, .iload_n 3, 1, 97), (97, .ifCond .eq 32, 3, 100), (100, .aload_n 0, 1, 101), (101, .iload_n 1, 1, 102), (102, .aload_n 0, 1, 103), (103, .getfield 246, 3, 106), (106, .invokevirtual 253, 3, 109), (109, .istore 4, 2, 111), (111, .iload 4, 2, 113), (113, .ifCond .lt 8, 3, 116), (116, .iload 4, 2, 118), (118, .goto 9, 3, 121), (121, .aload_n 0, 1, 122), (122, .getfield 246, 3, 125), (125, .iconst 2, 1, 126), (126, .isub, 1, 127), (127, .istore 4, 2, 129), (129, .iload_n 1, 1, 130), (130, .ifCond .ne 7, 3, 133), (133, .iconst 2, 1, 134), (134, .goto 4, 3, 137), (137, .iconst 0, 1, 138), (138, .istore 5, 2, 140), (140, .aload_n 0, 1, 141), (141, .iload_n 1, 1, 142), (142, .iconst 0, 1, 143), (143, .invokevirtual 256, 3, 146), (146, .istore 6, 2, 148), (148, .aload_n 0, 1, 149), (149, .iload 4, 2, 151), (151, .ifCond .lt 15, 3, 154), (154, .iload 4, 2, 156), (156, .iload 5, 2, 158), (158, .iload 6, 2, 160), (160, .iadd, 1, 161), (161, .iconst 1, 1, 162), (162, .iadd, 1, 163), (163, .if_icmp .ge 7, 3, 166), (166, .iconst 1, 1, 167), (167, .goto 4, 3, 170), (170, .iconst 0, 1, 171), (171, .putfield 249, 3, 174), (174, .aload_n 0, 1, 175), (175, .iload_n 3, 1, 176), (176, .ifCond .eq 15, 3, 179), (179, .aload_n 0, 1, 180), (180, .getfield 249, 3, 183), (183, .ifCond .ne 8, 3, 186), (186, .iload 4, 2, 188), (188, .goto 5, 3, 191), (191, .bipush (-100), 2, 193), (193, .putfield 243, 3, 196), (196, .aload_n 0, 1, 197), (197, .getfield 249, 3, 200), (200, .ifCond .eq 10, 3, 203), (203, .aload_n 0, 1, 204), (204, .getfield 246, 3, 207), (207, .goto 5, 3, 210), (210, .iload 4, 2, 212), (212, .istore 7, 2, 214), (214, .iconst 0, 1, 215), (215, .istore 8, 2, 217), (217, .iload 8, 2, 219), (219, .iload_n 2, 1, 220), (220, .if_icmp .ge 195, 3, 223), (223, .iconst 0, 1, 224), (224, .istore 9, 2, 226), (226, .iload 8, 2, 228), (228, .aload_n 0, 1, 229), (229, .getfield 246, 3, 232), (232, .if_icmp .ne 15, 3, 235), (235, .aload_n 0, 1, 236), (236, .iload_n 1, 1, 237), (237, .bipush 6, 2, 239), (239, .invokevirtual 256, 3, 242), (242, .istore 9, 2, 244), (244, .goto 131, 3, 247), (247, .iload 8, 2, 249), (249, .aload_n 0, 1, 250), (250, .getfield 246, 3, 253), (253, .if_icmp .le 15, 3, 256), (256, .aload_n 0, 1, 257), (257, .iload_n 1, 1, 258), (258, .bipush 7, 2, 260), (260, .invokevirtual 256, 3, 263), (263, .istore 9, 2, 265), (265, .goto 110, 3, 268), (268, .iload 8, 2, 270), (270, .aload_n 0, 1, 271), (271, .getfield 243, 3, 274), (274, .if_icmp .ne 14, 3, 277), (277, .aload_n 0, 1, 278), (278, .iload_n 1, 1, 279), (279, .iconst 4, 1, 280), (280, .invokevirtual 256, 3, 283), (283, .istore 9, 2, 285), (285, .goto 90, 3, 288), (288, .iload 8, 2, 290), (290, .iload 7, 2, 292), (292, .if_icmp .le 14, 3, 295), (295, .aload_n 0, 1, 296), (296, .iload_n 1, 1, 297), (297, .iconst 5, 1, 298), (298, .invokevirtual 256, 3, 301), (301, .istore 9, 2, 303), (303, .goto 72, 3, 306), (306, .aload_n 0, 1, 307), (307, .getfield 249, 3, 310), (310, .ifCond .ne 33, 3, 313), (313, .iload 8, 2, 315), (315, .iload 7, 2, 317), (317, .iload 6, 2, 319), (319, .isub, 1, 320), (320, .if_icmp .lt 23, 3, 323), (323, .aload_n 0, 1, 324), (324, .iload_n 1, 1, 325), (325, .iconst 1, 1, 326), (326, .iload 8, 2, 328), (328, .iadd, 1, 329), (329, .iload 7, 2, 331), (331, .iload 6, 2, 333), (333, .isub, 1, 334), (334, .isub, 1, 335), (335, .invokevirtual 256, 3, 338), (338, .istore 9, 2, 340), (340, .goto 35, 3, 343), (343, .aload_n 0, 1, 344), (344, .getfield 249, 3, 347), (347, .ifCond .ne 28, 3, 350), (350, .iload 8, 2, 352), (352, .iload 5, 2, 354), (354, .if_icmp .ge 21, 3, 357), (357, .aload_n 0, 1, 358), (358, .getfield 101, 3, 361), (361, .iconst 2, 1, 362), (362, .aload_n 0, 1, 363), (363, .getfield 116, 3, 366), (366, .iconst 1, 1, 367), (367, .isub, 1, 368), (368, .imul, 1, 369), (369, .iload 8, 2, 371), (371, .iadd, 1, 372), (372, .iaload, 1, 373), (373, .istore 9, 2, 375), (375, .iload 8, 2, 377), (377, .iload_n 2, 1, 378), (378, .iconst 1, 1, 379), (379, .isub, 1, 380), (380, .if_icmp .ne 21, 3, 383), (383, .iload 8, 2, 385), (385, .aload_n 0, 1, 386), (386, .getfield 246, 3, 389), (389, .if_icmp .eq 12, 3, 392), (392, .aload_n 0, 1, 393), (393, .iload_n 1, 1, 394), (394, .bipush 8, 2, 396), (396, .invokevirtual 256, 3, 399), (399, .istore 9, 2, 401), (401, .aload_n 0, 1, 402), (402, .iload 8, 2, 404), (404, .iload 9, 2, 406), (406, .invokevirtual 259, 3, 409), (409, .iinc 8 1, 3, 412), (412, .goto (-195), 3, 415), (415, .aload_n 0, 1, 416), (416, .getfield 246, 3, 419), (419, .iload_n 2, 1, 420), (420, .iconst 1, 1, 421), (421, .isub, 1, 422), (422, .if_icmp .ne 17, 3, 425), (425, .aload_n 0, 1, 426), (426, .iload_n 2, 1, 427), (427, .iconst 1, 1, 428), (428, .isub, 1, 429), (429, .aload_n 0, 1, 430), (430, .iload_n 1, 1, 431), (431, .bipush 8, 2, 433), (433, .invokevirtual 256, 3, 436), (436, .invokevirtual 259, 3, 439), (439, .return_, 1, 440)]
set_option maxRecDepth 100000 in
theorem DX9_fit : decOK cX9_fit LX9_fit = true := by decide +kernel
def LX9_sing : DL := [(0, .aload_n 0, 1, 1), (1, .getfield 107, 3, 4), (4, .aload_n 0, 1, 5), (5, .getfield 240, 3, 8), (8, .iload_n 1, 1, 9), (9, .iastore, 1, 10), (10, .aload_n 0, 1, 11), (11, .getfield 110, 3, 14), (14, .aload_n 0, 1, 15), (15, .getfield 240, 3, 18), (18, .iload_n 2, 1, 19), (19, .iastore, 1, 20), (20, .aload_n 0, 1, 21), (21, .dup, 1, 22), (22, .getfield 240, 3, 25), (25, .iconst 1, 1, 26), (26, .iadd, 1, 27), (27, .putfield 240, 3, 30), (30, .return_, 1, 31)]
set_option maxRecDepth 100000 in
theorem DX9_sing : decOK cX9_sing LX9_sing = true := by decide +kernel
def LX9_half : DL := [(0, .iload_n 1, 1, 1), (1, .iconst 0, 1, 2), (2, .iconst 1, 1, 3), (3, .invokestatic 126, 3, 6), (6, .ifCond .eq 12, 3, 9), (9, .iload_n 2, 1, 10), (10, .iconst 0, 1, 11), (11, .iconst 3, 1, 12), (12, .invokestatic 126, 3, 15), (15, .ifCond .ne 6, 3, 18), (18, .bipush (-102), 2, 20), (20, .ireturn, 1, 21), (21, .aload_n 0, 1, 22), (22, .iload_n 1, 1, 23), (23, .invokevirtual 262, 3, 26), (26, .iload_n 2, 1, 27), (27, .ifCond .ne 10, 3, 30), (30, .aload_n 0, 1, 31), (31, .getfield 240, 3, 34), (34, .goto 39, 3, 37), (37, .iload_n 2, 1, 38), (38, .iconst 1, 1, 39), (39, .if_icmp .ne 18, 3, 42), (42, .aload_n 0, 1, 43), (43, .getfield 249, 3, 46), (46, .ifCond .eq 7, 3, 49), (49, .iconst 1, 1, 50), (50, .goto 23, 3, 53), (53, .iconst 0, 1, 54), (54, .goto 19, 3, 57), (57, .iload_n 2, 1, 58), (58, .iconst 2, 1, 59), (59, .if_icmp .ne 10, 3, 62), (62, .aload_n 0, 1, 63), (63, .getfield 243, 3, 66), (66, .goto 7, 3, 69), (69, .aload_n 0, 1, 70), (70, .getfield 246, 3, 73), (73, .ireturn, 1, 74)]
set_option maxRecDepth 100000 in
theorem DX9_half : decOK cX9_half LX9_half = true := by decide +kernel
def LX9_sung : DL := [(0, .iload_n 1, 1, 1), (1, .iconst 0, 1, 2), (2, .iconst 1, 1, 3), (3, .invokestatic 126, 3, 6), (6, .ifCond .eq 12, 3, 9), (9, .iload_n 3, 1, 10), (10, .iconst 0, 1, 11), (11, .iconst 1, 1, 12), (12, .invokestatic 126, 3, 15), (15, .ifCond .ne 6, 3, 18), (18, .bipush (-102), 2, 20), (20, .ireturn, 1, 21), (21, .aload_n 0, 1, 22), (22, .iload_n 1, 1, 23), (23, .invokevirtual 262, 3, 26), (26, .iload_n 2, 1, 27), (27, .iconst 0, 1, 28), (28, .aload_n 0, 1, 29), (29, .getfield 240, 3, 32), (32, .iconst 1, 1, 33), (33, .isub, 1, 34), (34, .invokestatic 126, 3, 37), (37, .ifCond .ne 8, 3, 40), (40, .bipush (-100), 2, 42), (42, .goto 22, 3, 45), (45, .iload_n 3, 1, 46), (46, .ifCond .ne 12, 3, 49), (49, .aload_n 0, 1, 50), (50, .getfield 107, 3, 53), (53, .iload_n 2, 1, 54), (54, .iaload, 1, 55), (55, .goto 9, 3, 58), (58, .aload_n 0, 1, 59), (59, .getfield 110, 3, 62), (62, .iload_n 2, 1, 63), (63, .iaload, 1, 64), (64, .ireturn, 1, 65)]
set_option maxRecDepth 100000 in
theorem DX9_sung : decOK cX9_sung LX9_sung = true := by decide +kernel
def LX9_tell : DL := [(0, .aload_n 0, 1, 1), (1, .getfield 113, 3, 4), (4, .aload_n 0, 1, 5), (5, .getfield 266, 3, 8), (8, .iload_n 1, 1, 9), (9, .iastore, 1, 10), (10, .aload_n 0, 1, 11), (11, .dup, 1, 12), (12, .getfield 266, 3, 15), (15, .iconst 1, 1, 16), (16, .iadd, 1, 17), (17, .putfield 266, 3, 20), (20, .return_, 1, 21)]
set_option maxRecDepth 100000 in
theorem DX9_tell : decOK cX9_tell LX9_tell = true := by decide +kernel
def LX9_isParted : DL := [(0, .iload_n 1, 1, 1), (1, .iconst 1, 1, 2), (2, .iadd, 1, 3), (3, .istore_n 3, 1, 4), (4, .iload_n 3, 1, 5), (5, .iload_n 2, 1, 6), (6, .if_icmp .ge 62, 3, 9), (9, .aload_n 0, 1, 10), (10, .getfield 34, 3, 13), (13, .iload_n 3, 1, 14), (14, .iaload, 1, 15), (15, .iconst 1, 1, 16), (16, .if_icmp .ne 34, 3, 19), (19, .aload_n 0, 1, 20), (20, .getfield 52, 3, 23), (23, .aload_n 0, 1, 24), (24, .getfield 40, 3, 27), (27, .iload_n 3, 1, 28), (28, .iaload, 1, 29), (29, .iaload, 1, 30), (30, .aload_n 0, 1, 31), (31, .getfield 52, 3, 34), (34, .aload_n 0, 1, 35), (35, .getfield 40, 3, 38), (38, .iload_n 1, 1, 39), (39, .iaload, 1, 40), (40, .iaload, 1, 41), (41, .if_icmp .eq 7, 3, 44), (44, .iconst 1, 1, 45), (45, .goto 4, 3, 48), (48, .iconst 0, 1, 49), (49, .ireturn, 1, 50), (50, .aload_n 0, 1, 51), (51, .getfield 34, 3, 54), (54, .iload_n 3, 1, 55), (55, .iaload, 1, 56), (56, .iconst 4, 1, 57), (57, .if_icmp .lt 5, 3, 60), (60, .iconst 0, 1, 61), (61, .ireturn, 1, 62), (62, .iinc 3 1, 3, 65), (65, .goto (-61), 3, 68), (68, .iconst 0, 1, 69), (69, .ireturn, 1, 70)]
set_option maxRecDepth 100000 in
theorem DX9_isParted : decOK cX9_isParted LX9_isParted = true := by decide +kernel
def LX9_tellSign : DL := [(0, .aload_n 0, 1, 1), (1, .getfield 37, 3, 4), (4, .iload_n 1, 1, 5), (5, .iaload, 1, 6), (6, .istore_n 3, 1, 7), (7, .aload_n 0, 1, 8), (8, .getfield 34, 3, 11), (11, .iload_n 1, 1, 12), (12, .iaload, 1, 13), (13, .tableswitch 263 1 5 #[35, 121, 121, 153, 184], 35, 48), (48, .aload_n 0, 1, 49), (49, .bipush 97, 2, 51), (51, .iload_n 3, 1, 52), (52, .iadd, 1, 53), (53, .invokevirtual 269, 3, 56), (56, .aload_n 0, 1, 57), (57, .getfield 46, 3, 60), (60, .aload_n 0, 1, 61), (61, .getfield 40, 3, 64), (64, .iload_n 1, 1, 65), (65, .iaload, 1, 66), (66, .iaload, 1, 67), (67, .istore 4, 2, 69), (69, .aload_n 0, 1, 70), (70, .bipush 46, 2, 72), (72, .iload 4, 2, 74), (74, .iconst 1, 1, 75), (75, .invokevirtual 272, 3, 78), (78, .aload_n 0, 1, 79), (79, .bipush 95, 2, 81), (81, .iload 4, 2, 83), (83, .iconst 2, 1, 84), (84, .invokevirtual 272, 3, 87), (87, .aload_n 0, 1, 88), (88, .bipush 118, 2, 90), (90, .iload 4, 2, 92), (92, .iconst 4, 1, 93), (93, .invokevirtual 272, 3, 96), (96, .aload_n 0, 1, 97), (97, .bipush 119, 2, 99), (99, .iload 4, 2, 101), (101, .bipush 8, 2, 103), (103, .invokevirtual 272, 3, 106), (106, .aload_n 0, 1, 107), (107, .bipush 126, 2, 109), (109, .iload 4, 2, 111), (111, .bipush 16, 2, 113), (113, .invokevirtual 272, 3, 116), (116, .aload_n 0, 1, 117), (117, .iload_n 1, 1, 118), (118, .iload_n 2, 1, 119), (119, .invokevirtual 276, 3, 122), (122, .ifCond .eq 160, 3, 125), (125, .aload_n 0, 1, 126), (126, .bipush 47, 2, 128), (128, .invokevirtual 269, 3, 131), (131, .goto 151, 3, 134), (134, .aload_n 0, 1, 135), (135, .bipush 97, 2, 137), (137, .iload_n 3, 1, 138), (138, .iadd, 1, 139), (139, .invokevirtual 269, 3, 142), (142, .aload_n 0, 1, 143), (143, .aload_n 0, 1, 144), (144, .getfield 34, 3, 147), (147, .iload_n 1, 1, 148), (148, .iaload, 1, 149), (149, .iconst 2, 1, 150), (150, .if_icmp .ne 8, 3, 153), (153, .bipush 120, 2, 155), (155, .goto 5, 3, 158), (158, .bipush 121, 2, 160), (160, .invokevirtual 269, 3, 163), (163, .goto 119, 3, 166), (166, .aload_n 0, 1, 167), (167, .iload_n 3, 1, 168), (168, .bipush 9, 2, 170), (170, .if_icmp .le 8, 3, 173), (173, .bipush 102, 2, 175), (175, .goto 5, 3, 178), (178, .bipush 99, 2, 180), (180, .invokevirtual 269, 3, 183), (183, .aload_n 0, 1, 184), (184, .bipush 48, 2, 186), (186, .iload_n 3, 1, 187), (187, .bipush 10, 2, 189), (189, .irem, 1, 190), (190, .iadd, 1, 191), (191, .invokevirtual 269, 3, 194), (194, .goto 88, 3, 197), (197, .aload_n 0, 1, 198), (198, .iload_n 3, 1, 199), (199, .iconst 1, 1, 200), (200, .if_icmp .ne 8, 3, 203), (203, .bipush 44, 2, 205), (205, .goto 15, 3, 208), (208, .iload_n 3, 1, 209), (209, .iconst 2, 1, 210), (210, .if_icmp .ne 8, 3, 213), (213, .bipush 59, 2, 215), (215, .goto 5, 3, 218), (218, .bipush 58, 2, 220), (220, .invokevirtual 269, 3, 223), (223, .aload_n 0, 1, 224), (224, .bipush 58, 2, 226), (226, .iload_n 3, 1, 227), (227, .iconst 4, 1, 228), (228, .invokevirtual 272, 3, 231), (231, .iload_n 3, 1, 232), (232, .iconst 3, 1, 233), (233, .if_icmp .ne 49, 3, 236), (236, .iload_n 1, 1, 237), (237, .iconst 1, 1, 238), (238, .iadd, 1, 239), (239, .iload_n 2, 1, 240), (240, .if_icmp .ge 42, 3, 243), (243, .aload_n 0, 1, 244), (244, .getfield 34, 3, 247), (247, .iload_n 1, 1, 248), (248, .iconst 1, 1, 249), (249, .iadd, 1, 250), (250, .iaload, 1, 251), (251, .iconst 5, 1, 252), (252, .if_icmp .ne 30, 3, 255), (255, .aload_n 0, 1, 256), (256, .getfield 37, 3, 259), (259, .iload_n 1, 1, 260), (260, .iconst 1, 1, 261), (261, .iadd, 1, 262), (262, .iaload, 1, 263), (263, .iconst 3, 1, 264), (264, .if_icmp .lt 18, 3, 267), (267, .aload_n 0, 1, 268), (268, .bipush 47, 2, 270), (270, .invokevirtual 269, 3, 273), (273, .goto 9, 3, 276), (276, .aload_n 0, 1, 277), (277, .bipush 122, 2, 279), (279, .invokevirtual 269, 3, 282), (282, .return_, 1, 283)]
set_option maxRecDepth 100000 in
theorem DX9_tellSign : decOK cX9_tellSign LX9_tellSign = true := by decide +kernel
def LX9_tellIf : DL := [(0, .iload_n 2, 1, 1), (1, .iload_n 3, 1, 2), (2, .iand, 1, 3), (3, .ifCond .eq 8, 3, 6), (6, .aload_n 0, 1, 7), (7, .iload_n 1, 1, 8), (8, .invokevirtual 269, 3, 11), (11, .return_, 1, 12)]
set_option maxRecDepth 100000 in
theorem DX9_tellIf : decOK cX9_tellIf LX9_tellIf = true := by decide +kernel
def LX9_write : DL := [(0, .aload_n 0, 1, 1), (1, .iconst 0, 1, 2), (2, .putfield 266, 3, 5), (5, .iconst 0, 1, 6), (6, .istore_n 1, 1, 7), (7, .iload_n 1, 1, 8), (8, .aload_n 0, 1, 9), (9, .getfield 133, 3, 12), (12, .if_icmp .ge 131, 3, 15), (15, .iload_n 1, 1, 16), (16, .ifCond .le 26, 3, 19), (19, .aload_n 0, 1, 20), (20, .getfield 28, 3, 23), (23, .iload_n 1, 1, 24), (24, .iaload, 1, 25), (25, .aload_n 0, 1, 26), (26, .getfield 28, 3, 29), (29, .iload_n 1, 1, 30), (30, .iconst 1, 1, 31), (31, .isub, 1, 32), (32, .iaload, 1, 33), (33, .if_icmp .eq 9, 3, 36), (36, .aload_n 0, 1, 37), (37, .bipush 32, 2, 39), (39, .invokevirtual 269, 3, 42), (42, .iconst 0, 1, 43), (43, .istore_n 2, 1, 44), (44, .iload_n 2, 1, 45), (45, .aload_n 0, 1, 46), (46, .getfield 19, 3, 49), (49, .iload_n 1, 1, 50), (50, .iaload, 1, 51), (51, .if_icmp .ge 26, 3, 54), (54, .aload_n 0, 1, 55), (55, .aload_n 0, 1, 56), (56, .getfield 13, 3, 59), (59, .aload_n 0, 1, 60), (60, .getfield 16, 3, 63), (63, .iload_n 1, 1, 64), (64, .iaload, 1, 65), (65, .iload_n 2, 1, 66), (66, .iadd, 1, 67), (67, .iaload, 1, 68), (68, .invokevirtual 269, 3, 71), (71, .iinc 2 1, 3, 74), (74, .goto (-30), 3, 77), (77, .aload_n 0, 1, 78), (78, .getfield 25, 3, 81), (81, .iload_n 1, 1, 82), (82, .iaload, 1, 83), (83, .iconst 1, 1, 84), (84, .if_icmp .ne 53, 3, 87), (87, .aload_n 0, 1, 88), (88, .bipush 40, 2, 90), (90, .invokevirtual 269, 3, 93), (93, .aload_n 0, 1, 94), (94, .getfield 31, 3, 97), (97, .iload_n 1, 1, 98), (98, .iaload, 1, 99), (99, .istore_n 2, 1, 100), (100, .iload_n 2, 1, 101), (101, .aload_n 0, 1, 102), (102, .getfield 31, 3, 105), (105, .iload_n 1, 1, 106), (106, .iconst 1, 1, 107), (107, .iadd, 1, 108), (108, .iaload, 1, 109), (109, .if_icmp .ge 22, 3, 112), (112, .aload_n 0, 1, 113), (113, .iload_n 2, 1, 114), (114, .aload_n 0, 1, 115), (115, .getfield 31, 3, 118), (118, .iload_n 1, 1, 119), (119, .iconst 1, 1, 120), (120, .iadd, 1, 121), (121, .iaload, 1, 122), (122, .invokevirtual 280, 3, 125), (125, .iinc 2 1, 3, 128), (128, .goto (-28), 3, 131), (131, .aload_n 0, 1, 132), (132, .bipush 41, 2, 134), (134, .invokevirtual 269, 3, 137), (137, .iinc 1 1, 3, 140), (140, .goto (-133), 3, 143), (143, .aload_n 0, 1, 144), (144, .getfield 266, 3, 147), (147, .ireturn, 1, 148)]
set_option maxRecDepth 100000 in
theorem DX9_write : decOK cX9_write LX9_write = true := by decide +kernel
def LX9_at : DL := [(0, .iload_n 1, 1, 1), (1, .iconst 0, 1, 2), (2, .aload_n 0, 1, 3), (3, .getfield 266, 3, 6), (6, .iconst 1, 1, 7), (7, .isub, 1, 8), (8, .invokestatic 126, 3, 11), (11, .ifCond .eq 12, 3, 14), (14, .aload_n 0, 1, 15), (15, .getfield 113, 3, 18), (18, .iload_n 1, 1, 19), (19, .iaload, 1, 20), (20, .goto 5, 3, 23), (23, .bipush (-100), 2, 25), (25, .ireturn, 1, 26)]
set_option maxRecDepth 100000 in
theorem DX9_at : decOK cX9_at LX9_at = true := by decide +kernel
def LX9_count : DL := [(0, .iload_n 1, 1, 1), (1, .tableswitch 127 0 8 #[51, 56, 61, 66, 71, 76, 81, 86, 91], 51, 52), (52, .aload_n 0, 1, 53), (53, .getfield 133, 3, 56), (56, .ireturn, 1, 57), (57, .aload_n 0, 1, 58), (58, .getfield 142, 3, 61), (61, .ireturn, 1, 62), (62, .aload_n 0, 1, 63), (63, .getfield 145, 3, 66), (66, .ireturn, 1, 67), (67, .aload_n 0, 1, 68), (68, .getfield 163, 3, 71), (71, .ireturn, 1, 72), (72, .aload_n 0, 1, 73), (73, .getfield 148, 3, 76), (76, .ireturn, 1, 77), (77, .aload_n 0, 1, 78), (78, .getfield 151, 3, 81), (81, .ireturn, 1, 82), (82, .aload_n 0, 1, 83), (83, .getfield 139, 3, 86), (86, .ireturn, 1, 87), (87, .aload_n 0, 1, 88), (88, .getfield 123, 3, 91), (91, .ireturn, 1, 92), (92, .iconst 0, 1, 93), (93, .istore_n 2, 1, 94), (94, .iconst 0, 1, 95), (95, .istore_n 3, 1, 96), (96, .iload_n 3, 1, 97), (97, .aload_n 0, 1, 98), (98, .getfield 133, 3, 101), (101, .if_icmp .ge 25, 3, 104), (104, .iload_n 2, 1, 105), (105, .aload_n 0, 1, 106), (106, .iload_n 3, 1, 107), (107, .invokevirtual 231, 3, 110), (110, .ifCond .ne 7, 3, 113), (113, .iconst 1, 1, 114), (114, .goto 4, 3, 117), (117, .iconst 0, 1, 118), (118, .iadd, 1, 119), (119, .istore_n 2, 1, 120), (120, .iinc 3 1, 3, 123), (123, .goto (-27), 3, 126), (126, .iload_n 2, 1, 127), (127, .ireturn, 1, 128), (128, .bipush (-102), 2, 130), (130, .ireturn, 1, 131)]
set_option maxRecDepth 100000 in
theorem DX9_count : decOK cX9_count LX9_count = true := by decide +kernel
def LJ9_floorDiv_7cf53 : DL := [(0, .iload_n 0, 1, 1), (1, .iload_n 1, 1, 2), (2, .idiv, 1, 3), (3, .istore_n 2, 1, 4), (4, .iload_n 0, 1, 5), (5, .iload_n 1, 1, 6), (6, .ixor, 1, 7), (7, .ifCond .ge 14, 3, 10), (10, .iload_n 2, 1, 11), (11, .iload_n 1, 1, 12), (12, .imul, 1, 13), (13, .iload_n 0, 1, 14), (14, .if_icmp .eq 7, 3, 17), (17, .iload_n 2, 1, 18), (18, .iconst 1, 1, 19), (19, .isub, 1, 20), (20, .ireturn, 1, 21), (21, .iload_n 2, 1, 22), (22, .ireturn, 1, 23)]
set_option maxRecDepth 100000 in
theorem DJ9_floorDiv_7cf53 : decOK cJ9_floorDiv_7cf53 LJ9_floorDiv_7cf53 = true := by decide +kernel
def LJ9_floorMod_7cf53 : DL := [(0, .iload_n 0, 1, 1), (1, .iload_n 1, 1, 2), (2, .irem, 1, 3), (3, .istore_n 2, 1, 4), (4, .iload_n 0, 1, 5), (5, .iload_n 1, 1, 6), (6, .ixor, 1, 7), (7, .ifCond .ge 11, 3, 10), (10, .iload_n 2, 1, 11), (11, .ifCond .eq 7, 3, 14), (14, .iload_n 2, 1, 15), (15, .iload_n 1, 1, 16), (16, .iadd, 1, 17), (17, .ireturn, 1, 18), (18, .iload_n 2, 1, 19), (19, .ireturn, 1, 20)]
set_option maxRecDepth 100000 in
theorem DJ9_floorMod_7cf53 : decOK cJ9_floorMod_7cf53 LJ9_floorMod_7cf53 = true := by decide +kernel
def LJ9_max_7cf53 : DL := [(0, .iload_n 0, 1, 1), (1, .iload_n 1, 1, 2), (2, .if_icmp .lt 7, 3, 5), (5, .iload_n 0, 1, 6), (6, .goto 4, 3, 9), (9, .iload_n 1, 1, 10), (10, .ireturn, 1, 11)]
set_option maxRecDepth 100000 in
theorem DJ9_max_7cf53 : decOK cJ9_max_7cf53 LJ9_max_7cf53 = true := by decide +kernel
def LJ9_min_7cf53 : DL := [(0, .iload_n 0, 1, 1), (1, .iload_n 1, 1, 2), (2, .if_icmp .gt 7, 3, 5), (5, .iload_n 0, 1, 6), (6, .goto 4, 3, 9), (9, .iload_n 1, 1, 10), (10, .ireturn, 1, 11)]
set_option maxRecDepth 100000 in
theorem DJ9_min_7cf53 : decOK cJ9_min_7cf53 LJ9_min_7cf53 = true := by decide +kernel
end
section
/-! ChantNeumes$Table: contracts over any world that holds the table b and its cells a (printed by wip/tools/gen_table.py) -/
theorem nle {a b : Nat} (h : Nat.ble a b = true) : a ≤ b := Nat.le_of_ble_eq_true h
theorem set_same {α : Type} {w : List α} {b : Nat} {e : α} (h : w[b]? = some e) : w = w.set b e := by
  apply List.ext_getElem?
  intro j
  rw [List.getElem?_set]
  by_cases hj : b = j
  · subst hj
    rw [if_pos rfl, if_pos (List.getElem?_eq_some_iff.mp h).1, h]
  · simp [hj]
theorem tab_in {room cols n r c : Int} {L : Nat} (h0 : 0 ≤ n) (h1 : n ≤ room) (hc1 : 1 ≤ cols) (hc2 : cols ≤ 100) (hr1 : room ≤ 100000) (hL : (L : Int) = room * cols) (hr : 0 ≤ r ∧ r < n) (hc : 0 ≤ c ∧ c < cols) : 0 ≤ r * cols ∧ 0 ≤ r * cols + c ∧ r * cols + c < L ∧ r * cols + cols ≤ L ∧ (L : Int) ≤ 10000000 := by
  have a1 : 0 ≤ r * cols := Int.mul_nonneg hr.1 (by omega)
  have a2 : (r + 1) * cols ≤ room * cols := Int.mul_le_mul_of_nonneg_right (by omega) (by omega)
  have a3 : room * cols ≤ 100000 * cols := Int.mul_le_mul_of_nonneg_right hr1 (by omega)
  rw [Int.add_mul, Int.one_mul] at a2
  omega
abbrev tb (a : Nat) (room cols n : Int) : XE := .inr (4, [J room, J cols, .ref a, J n])
set_option maxRecDepth 100000 in
set_option maxHeartbeats 4000000 in
theorem tt_size {w : XW} {b a : Nat} {room cols n : Int} (hT : w[b]? = some (tb a room cols n)) : Sd (rm 0 0 0 0) mX5_size [.ref b] (w) (w) (some (J n)) := by
  unfold Sd
  refine sp_of (ls := [some (.ref b)]) (by decide) (nle rfl) rfl rfl ?_
  refine v_aload_n (dec_of DX5_size 0 rfl) rfl ?_
  refine v_get fX5_28 (dec_of DX5_size 1 rfl) hT rfl ?_
  exact vi_ret (dec_of DX5_size 2 rfl) rfl ⟨by decide, by decide⟩ (⟨rfl, rfl⟩)
set_option maxRecDepth 100000 in
set_option maxHeartbeats 4000000 in
theorem tt_full {w : XW} {b a : Nat} {room cols n : Int} (hT : w[b]? = some (tb a room cols n)) (hn : 0 ≤ n ∧ n ≤ room ∧ room ≤ 100000) : Sd (rm 0 0 0 0) mX5_isFull [.ref b] (w) (w) (some (J (if room ≤ n then 1 else 0))) := by
  unfold Sd
  refine sp_of (ls := [some (.ref b)]) (by decide) (nle rfl) rfl rfl ?_
  refine v_aload_n (dec_of DX5_isFull 0 rfl) rfl ?_
  refine v_get fX5_28 (dec_of DX5_isFull 1 rfl) hT rfl ?_
  refine v_aload_n (dec_of DX5_isFull 2 rfl) rfl ?_
  refine v_get fX5_15 (dec_of DX5_isFull 3 rfl) hT rfl ?_
  refine vi_icmp_lt (tgt := 15) (dec_of DX5_isFull 4 rfl) (by decide) (by omega) (by omega) (fun c8 => ?_) (fun c8 => ?_)
  · rw [if_neg (by omega)]
    refine vi_const (dec_of DX5_isFull 7 rfl) ?_
    exact vi_retz (dec_of DX5_isFull 8 rfl) rfl (by omega) ⟨by decide, by decide⟩ (⟨rfl, rfl⟩)
  · rw [if_pos c8]
    refine vi_const (dec_of DX5_isFull 5 rfl) ?_
    refine v_goto (tgt := 16) (dec_of DX5_isFull 6 rfl) (by decide) ?_
    exact vi_retz (dec_of DX5_isFull 8 rfl) rfl (by omega) ⟨by decide, by decide⟩ (⟨rfl, rfl⟩)
set_option maxRecDepth 100000 in
set_option maxHeartbeats 4000000 in
theorem tt_has {w : XW} {b a : Nat} {room cols n : Int} (hT : w[b]? = some (tb a room cols n)) (hn : 0 ≤ n ∧ n ≤ 100000) {k : Int} (hk : -2147483648 ≤ k ∧ k < 2147483648) : Sd (rm 0 0 0 0) mX5_has [.ref b, J k] (w) (w) (some (J (if 0 ≤ k ∧ k < n then 1 else 0))) := by
  unfold Sd
  refine sp_of (ls := [some (.ref b), some (J k)]) (by decide) (nle rfl) rfl rfl ?_
  refine v_iload_n (dec_of DX5_has 0 rfl) rfl ?_
  refine vi_if_lt (tgt := 16) (dec_of DX5_has 1 rfl) (by decide) (by omega) (fun c1 => ?_) (fun c1 => ?_)
  · rw [if_neg (by omega)]
    refine vi_const (dec_of DX5_has 8 rfl) ?_
    exact vi_retz (dec_of DX5_has 9 rfl) rfl (by omega) ⟨by decide, by decide⟩ (⟨rfl, rfl⟩)
  · refine v_iload_n (dec_of DX5_has 2 rfl) rfl ?_
    refine v_aload_n (dec_of DX5_has 3 rfl) rfl ?_
    refine v_get fX5_28 (dec_of DX5_has 4 rfl) hT rfl ?_
    refine vi_icmp_ge (tgt := 16) (dec_of DX5_has 5 rfl) (by decide) (by omega) (by omega) (fun c9 => ?_) (fun c9 => ?_)
    · rw [if_neg (by omega)]
      refine vi_const (dec_of DX5_has 8 rfl) ?_
      exact vi_retz (dec_of DX5_has 9 rfl) rfl (by omega) ⟨by decide, by decide⟩ (⟨rfl, rfl⟩)
    · rw [if_pos (by omega)]
      refine vi_const (dec_of DX5_has 6 rfl) ?_
      refine v_goto (tgt := 17) (dec_of DX5_has 7 rfl) (by decide) ?_
      exact vi_retz (dec_of DX5_has 9 rfl) rfl (by omega) ⟨by decide, by decide⟩ (⟨rfl, rfl⟩)
set_option maxRecDepth 100000 in
set_option maxHeartbeats 4000000 in
theorem tt_keep {w : XW} {b a : Nat} {room cols n : Int} (hT : w[b]? = some (tb a room cols n)) (hn : 0 ≤ n ∧ n ≤ 100000) {k : Int} (hk : 0 ≤ k ∧ k ≤ n) : Sd (rm 0 0 0 0) mX5_keep [.ref b, J k] (w) (w.set b (tb a room cols k)) (none) := by
  unfold Sd
  refine sp_of (ls := [some (.ref b), some (J k)]) (by decide) (nle rfl) rfl rfl ?_
  refine v_iload_n (dec_of DX5_keep 0 rfl) rfl ?_
  refine vi_if_lt (tgt := 17) (dec_of DX5_keep 1 rfl) (by decide) (by omega) (fun c1 => absurd c1 (by omega)) (fun c1 => ?_)
  refine v_iload_n (dec_of DX5_keep 2 rfl) rfl ?_
  refine v_aload_n (dec_of DX5_keep 3 rfl) rfl ?_
  refine v_get fX5_28 (dec_of DX5_keep 4 rfl) hT rfl ?_
  refine vi_icmp_ge (tgt := 17) (dec_of DX5_keep 5 rfl) (by decide) (by omega) (by omega) (fun c9 => ?_) (fun c9 => ?_)
  · exact vi_vret (dec_of DX5_keep 9 rfl) rfl ⟨by decide, by decide⟩ (by first | exact ⟨rfl, rfl⟩ | exact ⟨by rw [show k = n by omega]; exact set_same hT, rfl⟩)
  · refine v_aload_n (dec_of DX5_keep 6 rfl) rfl ?_
    refine v_iload_n (dec_of DX5_keep 7 rfl) rfl ?_
    refine vi_put fX5_28 (dec_of DX5_keep 8 rfl) hT (nle rfl) ?_
    exact vi_vret (dec_of DX5_keep 9 rfl) rfl ⟨by decide, by decide⟩ (by first | exact ⟨rfl, rfl⟩ | exact ⟨by rw [show k = n by omega]; exact set_same hT, rfl⟩)
set_option maxRecDepth 100000 in
set_option maxHeartbeats 4000000 in
theorem tt_get {w : XW} {b a : Nat} {room cols n : Int} (hT : w[b]? = some (tb a room cols n)) {L : Nat} {f : Int → Int} (hA : w[a]? = some (.inl (L, ia f))) (hn : 0 ≤ n ∧ n ≤ room ∧ room ≤ 100000 ∧ 1 ≤ cols ∧ cols ≤ 100) (hL : (L : Int) = room * cols) {r c : Int} (hr : 0 ≤ r ∧ r < n) (hc : 0 ≤ c ∧ c < cols) : Sd (rm 0 0 0 0) mX5_get [.ref b, J r, J c] (w) (w) (some (J (f (r * cols + c)))) := by
  unfold Sd
  have hi := tab_in hn.1 hn.2.1 hn.2.2.2.1 hn.2.2.2.2 hn.2.2.1 hL hr hc
  refine sp_of (ls := [some (.ref b), some (J r), some (J c), none]) (by decide) (nle rfl) rfl rfl ?_
  refine v_iload_n (dec_of DX5_get 0 rfl) rfl ?_
  refine vi_if_lt (tgt := 24) (dec_of DX5_get 1 rfl) (by decide) (by omega) (fun c1 => absurd c1 (by omega)) (fun c1 => ?_)
  refine v_iload_n (dec_of DX5_get 2 rfl) rfl ?_
  refine v_aload_n (dec_of DX5_get 3 rfl) rfl ?_
  refine v_get fX5_28 (dec_of DX5_get 4 rfl) hT rfl ?_
  refine vi_icmp_ge (tgt := 24) (dec_of DX5_get 5 rfl) (by decide) (by omega) (by omega) (fun c9 => absurd c9 (by omega)) (fun c9 => ?_)
  refine v_iload_n (dec_of DX5_get 6 rfl) rfl ?_
  refine vi_if_lt (tgt := 24) (dec_of DX5_get 7 rfl) (by decide) (by omega) (fun c13 => absurd c13 (by omega)) (fun c13 => ?_)
  refine v_iload_n (dec_of DX5_get 8 rfl) rfl ?_
  refine v_aload_n (dec_of DX5_get 9 rfl) rfl ?_
  refine v_get fX5_21 (dec_of DX5_get 10 rfl) hT rfl ?_
  refine vi_icmp_lt (tgt := 26) (dec_of DX5_get 11 rfl) (by decide) (by omega) (by omega) (fun c21 => ?_) (fun c21 => absurd c21 (by omega))
  refine v_iload_n (dec_of DX5_get 14 rfl) rfl ?_
  refine v_aload_n (dec_of DX5_get 15 rfl) rfl ?_
  refine v_get fX5_21 (dec_of DX5_get 16 rfl) hT rfl ?_
  refine vi_mul (dec_of DX5_get 17 rfl) ?_
  refine v_iload_n (dec_of DX5_get 18 rfl) rfl ?_
  refine vi_add (dec_of DX5_get 19 rfl) ?_
  refine v_istore_n (dec_of DX5_get 20 rfl) (by decide) ?_
  dsimp only [List.set]
  refine v_iload_n (dec_of DX5_get 21 rfl) rfl ?_
  refine v_aload_n (dec_of DX5_get 22 rfl) rfl ?_
  refine v_get fX5_24 (dec_of DX5_get 23 rfl) hT rfl ?_
  refine vi_alen (dec_of DX5_get 24 rfl) hA ?_
  refine vi_icmp_ge (tgt := 53) (dec_of DX5_get 25 rfl) (by decide) (by omega) (by omega) (fun c41 => absurd c41 (by omega)) (fun c41 => ?_)
  refine v_aload_n (dec_of DX5_get 26 rfl) rfl ?_
  refine v_get fX5_24 (dec_of DX5_get 27 rfl) hT rfl ?_
  refine v_iload_n (dec_of DX5_get 28 rfl) rfl ?_
  refine vi_aload (dec_of DX5_get 29 rfl) hA (by omega) (by omega) ?_
  refine v_goto (tgt := 54) (dec_of DX5_get 30 rfl) (by decide) ?_
  exact vi_ret (dec_of DX5_get 32 rfl) rfl ⟨by decide, by decide⟩ (⟨rfl, rfl⟩)
set_option maxRecDepth 100000 in
set_option maxHeartbeats 4000000 in
theorem tt_set {w : XW} {b a : Nat} {room cols n : Int} (hT : w[b]? = some (tb a room cols n)) {L : Nat} {f : Int → Int} (hA : w[a]? = some (.inl (L, ia f))) (hn : 0 ≤ n ∧ n ≤ room ∧ room ≤ 100000 ∧ 1 ≤ cols ∧ cols ≤ 100) (hL : (L : Int) = room * cols) {r c v : Int} (hr : 0 ≤ r ∧ r < n) (hc : 0 ≤ c ∧ c < cols) : Sd (rm 0 0 0 0) mX5_set [.ref b, J r, J c, J v] (w) (w.set a (.inl (L, ia (uI f (r * cols + c) v)))) (none) := by
  unfold Sd
  have hi := tab_in hn.1 hn.2.1 hn.2.2.2.1 hn.2.2.2.2 hn.2.2.1 hL hr hc
  refine sp_of (ls := [some (.ref b), some (J r), some (J c), some (J v), none]) (by decide) (nle rfl) rfl rfl ?_
  refine v_iload_n (dec_of DX5_set 0 rfl) rfl ?_
  refine vi_if_lt (tgt := 24) (dec_of DX5_set 1 rfl) (by decide) (by omega) (fun c1 => absurd c1 (by omega)) (fun c1 => ?_)
  refine v_iload_n (dec_of DX5_set 2 rfl) rfl ?_
  refine v_aload_n (dec_of DX5_set 3 rfl) rfl ?_
  refine v_get fX5_28 (dec_of DX5_set 4 rfl) hT rfl ?_
  refine vi_icmp_ge (tgt := 24) (dec_of DX5_set 5 rfl) (by decide) (by omega) (by omega) (fun c9 => absurd c9 (by omega)) (fun c9 => ?_)
  refine v_iload_n (dec_of DX5_set 6 rfl) rfl ?_
  refine vi_if_lt (tgt := 24) (dec_of DX5_set 7 rfl) (by decide) (by omega) (fun c13 => absurd c13 (by omega)) (fun c13 => ?_)
  refine v_iload_n (dec_of DX5_set 8 rfl) rfl ?_
  refine v_aload_n (dec_of DX5_set 9 rfl) rfl ?_
  refine v_get fX5_21 (dec_of DX5_set 10 rfl) hT rfl ?_
  refine vi_icmp_lt (tgt := 25) (dec_of DX5_set 11 rfl) (by decide) (by omega) (by omega) (fun c21 => ?_) (fun c21 => absurd c21 (by omega))
  refine v_iload_n (dec_of DX5_set 13 rfl) rfl ?_
  refine v_aload_n (dec_of DX5_set 14 rfl) rfl ?_
  refine v_get fX5_21 (dec_of DX5_set 15 rfl) hT rfl ?_
  refine vi_mul (dec_of DX5_set 16 rfl) ?_
  refine v_iload_n (dec_of DX5_set 17 rfl) rfl ?_
  refine vi_add (dec_of DX5_set 18 rfl) ?_
  refine v_istore (dec_of DX5_set 19 rfl) (by decide) ?_
  dsimp only [List.set]
  refine v_iload (dec_of DX5_set 20 rfl) rfl ?_
  refine v_aload_n (dec_of DX5_set 21 rfl) rfl ?_
  refine v_get fX5_24 (dec_of DX5_set 22 rfl) hT rfl ?_
  refine vi_alen (dec_of DX5_set 23 rfl) hA ?_
  refine vi_icmp_ge (tgt := 53) (dec_of DX5_set 24 rfl) (by decide) (by omega) (by omega) (fun c42 => absurd c42 (by omega)) (fun c42 => ?_)
  refine v_aload_n (dec_of DX5_set 25 rfl) rfl ?_
  refine v_get fX5_24 (dec_of DX5_set 26 rfl) hT rfl ?_
  refine v_iload (dec_of DX5_set 27 rfl) rfl ?_
  refine v_iload_n (dec_of DX5_set 28 rfl) rfl ?_
  refine vi_astore (dec_of DX5_set 29 rfl) hA (by omega) (by omega) ?_
  exact vi_vret (dec_of DX5_set 30 rfl) rfl ⟨by decide, by decide⟩ (⟨rfl, rfl⟩)
theorem set_ne {w : XW} {a b : Nat} {e x : XE} (h : a ≠ b) (hb : w[b]? = some e) : (w.set a x)[b]? = some e := by rw [List.getElem?_set_ne h]; exact hb
theorem set_eq {w : XW} {a : Nat} {e x : XE} (ha : w[a]? = some e) : (w.set a x)[a]? = some x := by rw [List.getElem?_set_self (List.getElem?_eq_some_iff.mp ha).1]
/-- the cells i to k are cleared -/
def clr (g : Int → Int) (i k : Int) : Int → Int := fun x => if i ≤ x ∧ x < k then 0 else g x
theorem clr_step {g : Int → Int} {i k : Int} (h : i < k) : clr (uI g i 0) (i + 1) k = clr g i k := by
  funext x
  unfold clr uI
  by_cases h1 : x = i
  · subst h1; simp [h]
  · by_cases h2 : i + 1 ≤ x ∧ x < k
    · rw [if_pos h2, if_pos (by omega)]
    · rw [if_neg h2, if_neg h1, if_neg (by omega)]
theorem clr_end {g : Int → Int} {i k : Int} (h : k ≤ i) : clr g i k = g := by
  funext x
  unfold clr
  rw [if_neg (by omega)]
/-- a new row: its first cell is v, the others 0 -/
def adf (f : Int → Int) (cols n v : Int) : Int → Int := clr (uI f (n * cols) v) (n * cols + 1) (n * cols + cols)
set_option maxRecDepth 100000 in
set_option maxHeartbeats 4000000 in
theorem tt_add_loop {w : XW} {b a : Nat} {room cols n : Int} (hT : w[b]? = some (tb a room cols n)) {L : Nat} {f : Int → Int} (hA : w[a]? = some (.inl (L, ia f))) (hn : 0 ≤ n ∧ n < room ∧ room ≤ 100000 ∧ 1 ≤ cols ∧ cols ≤ 100) (hL : (L : Int) = room * cols) (hab : a ≠ b) {v : Int} {h : Int → Int} (hb0 : 0 ≤ n * cols ∧ n * cols + cols ≤ L ∧ (L : Int) ≤ 10000000) : ∀ (m : Nat) (col : Int) (g : Int → Int), 1 ≤ col → col + m = cols → clr g (n * cols + col) (n * cols + cols) = h → Vd (rm 0 0 0 0) [] mX5_add w.length (fun x y => x = (w.set a (.inl (L, ia h))).set b (tb a room cols (n + 1)) ∧ y = some (J n)) 0 0 51 [some (.ref b), some (J v), some (J (n * cols)), some (J col)] [] (w.set a (.inl (L, ia g))) := by
  intro m
  induction m with
  | zero =>
    intro col g h1 h2 h3
    rw [clr_end (by omega)] at h3
    subst h3
    refine v_iload_n (dec_of DX5_add 30 rfl) rfl ?_
    refine v_aload_n (dec_of DX5_add 31 rfl) rfl ?_
    refine v_get fX5_21 (dec_of DX5_add 32 rfl) (set_ne hab hT) rfl ?_
    refine vi_icmp_ge (tgt := 74) (dec_of DX5_add 33 rfl) (by decide) (by omega) (by omega) (fun c56 => ?_) (fun c56 => absurd c56 (by omega))
    refine v_aload_n (dec_of DX5_add 43 rfl) rfl ?_
    refine v_dup (dec_of DX5_add 44 rfl) rfl ?_
    refine v_get fX5_28 (dec_of DX5_add 45 rfl) (set_ne hab hT) rfl ?_
    refine vi_const (dec_of DX5_add 46 rfl) ?_
    refine vi_add (dec_of DX5_add 47 rfl) ?_
    refine vi_put fX5_28 (dec_of DX5_add 48 rfl) (set_ne hab hT) (nle rfl) ?_
    refine v_aload_n (dec_of DX5_add 49 rfl) rfl ?_
    refine v_get fX5_28 (dec_of DX5_add 50 rfl) (set_eq (set_ne hab hT)) rfl ?_
    refine vi_const (dec_of DX5_add 51 rfl) ?_
    refine vi_sub (dec_of DX5_add 52 rfl) ?_
    exact vi_ret (dec_of DX5_add 53 rfl) rfl ⟨by decide, by decide⟩ ⟨rfl, by rw [show n + 1 - 1 = n by omega]⟩
  | succ m ih =>
    intro col g h1 h2 h3
    refine v_iload_n (dec_of DX5_add 30 rfl) rfl ?_
    refine v_aload_n (dec_of DX5_add 31 rfl) rfl ?_
    refine v_get fX5_21 (dec_of DX5_add 32 rfl) (set_ne hab hT) rfl ?_
    refine vi_icmp_ge (tgt := 74) (dec_of DX5_add 33 rfl) (by decide) (by omega) (by omega) (fun c56 => absurd c56 (by omega)) (fun c56 => ?_)
    refine v_aload_n (dec_of DX5_add 34 rfl) rfl ?_
    refine v_get fX5_24 (dec_of DX5_add 35 rfl) (set_ne hab hT) rfl ?_
    refine v_iload_n (dec_of DX5_add 36 rfl) rfl ?_
    refine v_iload_n (dec_of DX5_add 37 rfl) rfl ?_
    refine vi_add (dec_of DX5_add 38 rfl) ?_
    refine vi_const (dec_of DX5_add 39 rfl) ?_
    refine vi_astore (dec_of DX5_add 40 rfl) (set_eq hA) (by omega) (by omega) ?_
    rw [List.set_set]
    refine vi_inc (dec_of DX5_add 41 rfl) rfl (by decide) ?_
    dsimp only [List.set]
    refine v_goto (tgt := 51) (dec_of DX5_add 42 rfl) (by decide) ?_
    exact ih (col + 1) _ (by omega) (by omega) (by rw [show n * cols + (col + 1) = n * cols + col + 1 by omega, clr_step (by omega)]; exact h3)
set_option maxRecDepth 100000 in
set_option maxHeartbeats 4000000 in
theorem tt_add {w : XW} {b a : Nat} {room cols n : Int} (hT : w[b]? = some (tb a room cols n)) {L : Nat} {f : Int → Int} (hA : w[a]? = some (.inl (L, ia f))) (hn : 0 ≤ n ∧ n < room ∧ room ≤ 100000 ∧ 1 ≤ cols ∧ cols ≤ 100) (hL : (L : Int) = room * cols) (hab : a ≠ b) {v : Int} : Sd (rm 0 0 0 0) mX5_add [.ref b, J v] (w) ((w.set a (.inl (L, ia (adf f cols n v)))).set b (tb a room cols (n + 1))) (some (J n)) := by
  unfold Sd
  have hi := tab_in (n := n + 1) (r := n) (c := 0) (by omega) (by omega) hn.2.2.2.1 hn.2.2.2.2 hn.2.2.1 hL (by omega) (by omega)
  refine sp_of (ls := [some (.ref b), some (J v), none, none]) (by decide) (nle rfl) rfl rfl ?_
  refine v_aload_n (dec_of DX5_add 0 rfl) rfl ?_
  refine v_get fX5_28 (dec_of DX5_add 1 rfl) hT rfl ?_
  refine v_aload_n (dec_of DX5_add 2 rfl) rfl ?_
  refine v_get fX5_21 (dec_of DX5_add 3 rfl) hT rfl ?_
  refine vi_mul (dec_of DX5_add 4 rfl) ?_
  refine v_istore_n (dec_of DX5_add 5 rfl) (by decide) ?_
  dsimp only [List.set]
  refine v_aload_n (dec_of DX5_add 6 rfl) rfl ?_
  refine v_get fX5_28 (dec_of DX5_add 7 rfl) hT rfl ?_
  refine v_aload_n (dec_of DX5_add 8 rfl) rfl ?_
  refine v_get fX5_15 (dec_of DX5_add 9 rfl) hT rfl ?_
  refine vi_icmp_ge (tgt := 39) (dec_of DX5_add 10 rfl) (by decide) (by omega) (by omega) (fun c18 => absurd c18 (by omega)) (fun c18 => ?_)
  refine v_iload_n (dec_of DX5_add 11 rfl) rfl ?_
  refine vi_if_lt (tgt := 39) (dec_of DX5_add 12 rfl) (by decide) (by omega) (fun c22 => absurd c22 (by omega)) (fun c22 => ?_)
  refine v_iload_n (dec_of DX5_add 13 rfl) rfl ?_
  refine v_aload_n (dec_of DX5_add 14 rfl) rfl ?_
  refine v_get fX5_21 (dec_of DX5_add 15 rfl) hT rfl ?_
  refine vi_add (dec_of DX5_add 16 rfl) ?_
  refine v_aload_n (dec_of DX5_add 17 rfl) rfl ?_
  refine v_get fX5_24 (dec_of DX5_add 18 rfl) hT rfl ?_
  refine vi_alen (dec_of DX5_add 19 rfl) hA ?_
  refine vi_icmp_le (tgt := 42) (dec_of DX5_add 20 rfl) (by decide) (by omega) (by omega) (fun c36 => ?_) (fun c36 => absurd c36 (by omega))
  refine v_aload_n (dec_of DX5_add 23 rfl) rfl ?_
  refine v_get fX5_24 (dec_of DX5_add 24 rfl) hT rfl ?_
  refine v_iload_n (dec_of DX5_add 25 rfl) rfl ?_
  refine v_iload_n (dec_of DX5_add 26 rfl) rfl ?_
  refine vi_astore (dec_of DX5_add 27 rfl) hA (by omega) (by omega) ?_
  refine vi_const (dec_of DX5_add 28 rfl) ?_
  refine v_istore_n (dec_of DX5_add 29 rfl) (by decide) ?_
  dsimp only [List.set]
  exact tt_add_loop hT hA hn hL hab ⟨hi.1, hi.2.2.2.1, hi.2.2.2.2⟩ (cols - 1).toNat 1 _ (by omega) (by omega) rfl
set_option maxRecDepth 100000 in
set_option maxHeartbeats 4000000 in
theorem tt_ask {w : XW} {b a : Nat} {room cols n : Int} (hT : w[b]? = some (tb a room cols n)) {L : Nat} {f : Int → Int} (hA : w[a]? = some (.inl (L, ia f))) (hn : 0 ≤ n ∧ n ≤ room ∧ room ≤ 100000 ∧ 1 ≤ cols ∧ cols ≤ 100) (hL : (L : Int) = room * cols) {r c q : Int} (hr : -2147483648 ≤ r ∧ r < 2147483648) (hc : -2147483648 ≤ c ∧ c < 2147483648) (hq : 0 ≤ q ∧ q ≤ cols) : Sd (rm 1 23 0 0) mX5_ask [.ref b, J r, J c, J q] (w) (w) (some (J (if 0 ≤ r ∧ r < n then (if 0 ≤ c ∧ c < q then f (r * cols + c) else -102) else -101))) := by
  unfold Sd
  refine sp_of (ls := [some (.ref b), some (J r), some (J c), some (J q)]) (by decide) (nle rfl) rfl rfl ?_
  refine v_iload_n (dec_of DX5_ask 0 rfl) rfl ?_
  refine vi_if_lt (tgt := 12) (dec_of DX5_ask 1 rfl) (by decide) (by omega) (fun c1 => ?_) (fun c1 => ?_)
  · rw [if_neg (by omega)]
    refine vi_bi (dec_of DX5_ask 6 rfl) (by decide) ?_
    exact vi_ret (dec_of DX5_ask 7 rfl) rfl ⟨by decide, by decide⟩ (⟨rfl, rfl⟩)
  · refine v_iload_n (dec_of DX5_ask 2 rfl) rfl ?_
    refine v_aload_n (dec_of DX5_ask 3 rfl) rfl ?_
    refine v_get fX5_28 (dec_of DX5_ask 4 rfl) hT rfl ?_
    refine vi_icmp_lt (tgt := 15) (dec_of DX5_ask 5 rfl) (by decide) (by omega) (by omega) (fun c9 => ?_) (fun c9 => ?_)
    · refine v_iload_n (dec_of DX5_ask 8 rfl) rfl ?_
      refine vi_if_lt (tgt := 24) (dec_of DX5_ask 9 rfl) (by decide) (by omega) (fun c16 => ?_) (fun c16 => ?_)
      · rw [if_pos (by omega), if_neg (by omega)]
        refine vi_bi (dec_of DX5_ask 13 rfl) (by decide) ?_
        exact vi_ret (dec_of DX5_ask 14 rfl) rfl ⟨by decide, by decide⟩ (⟨rfl, rfl⟩)
      · refine v_iload_n (dec_of DX5_ask 10 rfl) rfl ?_
        refine v_iload_n (dec_of DX5_ask 11 rfl) rfl ?_
        refine vi_icmp_lt (tgt := 27) (dec_of DX5_ask 12 rfl) (by decide) (by omega) (by omega) (fun c21 => ?_) (fun c21 => ?_)
        · rw [if_pos (by omega), if_pos (by omega)]
          refine v_aload_n (dec_of DX5_ask 15 rfl) rfl ?_
          refine v_iload_n (dec_of DX5_ask 16 rfl) rfl ?_
          refine v_iload_n (dec_of DX5_ask 17 rfl) rfl ?_
          refine v_V2r (tt_get hT hA hn hL (by omega) (by omega)) lX5_31 (dec_of DX5_ask 18 rfl) hT rfl (by decide) (Nat.le_of_ble_eq_true rfl) (by simp [lok, rkw, hT]) ?_
          exact vi_ret (dec_of DX5_ask 19 rfl) rfl ⟨by decide, by decide⟩ (⟨rfl, rfl⟩)
        · rw [if_pos (by omega), if_neg (by omega)]
          refine vi_bi (dec_of DX5_ask 13 rfl) (by decide) ?_
          exact vi_ret (dec_of DX5_ask 14 rfl) rfl ⟨by decide, by decide⟩ (⟨rfl, rfl⟩)
    · rw [if_neg (by omega)]
      refine vi_bi (dec_of DX5_ask 6 rfl) (by decide) ?_
      exact vi_ret (dec_of DX5_ask 7 rfl) rfl ⟨by decide, by decide⟩ (⟨rfl, rfl⟩)
end
section
/-! the worlds: the class's 31 cells by its numbers I, its tables' rows N and contents F; the reference's 35 by K and G (printed by wip/tools/gen_world.py) -/
def uN {α : Type} (f : Nat → α) (k : Nat) (v : α) : Nat → α := fun j => if j = k then v else f j
theorem uN_s {α : Type} {f : Nat → α} {k : Nat} {v : α} : uN f k v k = v := by simp [uN]
theorem uN_n {α : Type} {f : Nat → α} {j k : Nat} {v : α} (h : j ≠ k) : uN f k v j = f j := by simp [uN, h]
def cls (I : Nat → Int) (N : Nat → Int) (F : Nat → Int → Int) : XW := [.inr (5, [.ref 1, .ref 3, .ref 5, .ref 20, .ref 23, J (I 0)]),
  tb 2 1500 1 (N 0), .inl (1500, ia (F 0)),
  tb 4 1500 1 (N 1), .inl (1500, ia (F 1)),
  .inr (3, [.ref 6, .ref 8, .ref 10, .ref 12, .ref 14, .ref 16, .ref 18, J (I 1), J (I 2)]),
  tb 7 1500 1 (N 2), .inl (1500, ia (F 2)),
  tb 9 60 9 (N 3), .inl (540, ia (F 3)),
  tb 11 150 8 (N 4), .inl (1200, ia (F 4)),
  tb 13 150 4 (N 5), .inl (600, ia (F 5)),
  tb 15 30 2 (N 6), .inl (60, ia (F 6)),
  tb 17 20 2 (N 7), .inl (40, ia (F 7)),
  tb 19 260 2 (N 8), .inl (520, ia (F 8)),
  .inr (2, [.ref 5, .ref 21, J (I 3), J (I 4), J (I 5), J (I 6), J (I 7), J (I 8), J (I 9), J (I 10), J (I 11), J (I 12)]),
  tb 22 6 1 (N 9), .inl (6, ia (F 9)),
  .inr (1, [.ref 24, .ref 26, .ref 28, J (I 13)]),
  tb 25 40 1 (N 10), .inl (40, ia (F 10)),
  tb 27 40 1 (N 11), .inl (40, ia (F 11)),
  .inr (0, [.ref 29, J (I 14), J (I 15), J (I 16), J (I 17), J (I 18), J (I 19), J (I 20)]),
  tb 30 41 2 (N 12), .inl (82, ia (F 12))]
def mdl (K : Nat → Int) (G : Nat → Int → Int) : XW := [.inr (6, [.ref 32, J (K 1), .ref 33, J (K 3), .ref 34, .ref 35, .ref 36, .ref 37, .ref 38, .ref 39, J (K 10), .ref 40, .ref 41, .ref 42, J (K 14), J (K 15), .ref 43, .ref 44, .ref 45, .ref 46, J (K 20), J (K 21), J (K 22), J (K 23), J (K 24), J (K 25), J (K 26), J (K 27), J (K 28), J (K 29), .ref 47, .ref 48, .ref 49, .ref 50, .ref 51, J (K 35), .ref 52, .ref 53, .ref 54, .ref 55, .ref 56, .ref 57, .ref 58, J (K 43), .ref 59, .ref 60, .ref 61, .ref 62, J (K 48), J (K 49), J (K 50), J (K 51), .ref 63, .ref 64, .ref 65, J (K 55)]),
  .inl (1500, ia (G 0)), .inl (1500, ia (G 2)), .inl (60, ia (G 4)), .inl (60, ia (G 5)), .inl (60, ia (G 6)), .inl (60, ia (G 7)), .inl (60, ia (G 8)), .inl (61, ia (G 9)), .inl (300, ia (G 11)), .inl (300, ia (G 12)), .inl (300, ia (G 13)), .inl (150, ia (G 16)), .inl (150, ia (G 17)), .inl (150, ia (G 18)), .inl (150, ia (G 19)), .inl (150, ia (G 30)), .inl (150, ia (G 31)), .inl (20, ia (G 32)), .inl (13, ia (G 33)), .inl (7, ia (G 34)), .inl (150, ia (G 36)), .inl (150, ia (G 37)), .inl (150, ia (G 38)), .inl (150, ia (G 39)), .inl (15, ia (G 40)), .inl (7, ia (G 41)), .inl (9, ia (G 42)), .inl (80, ia (G 44)), .inl (2, ia (G 45)), .inl (16, ia (G 46)), .inl (144, ia (G 47)), .inl (41, ia (G 52)), .inl (41, ia (G 53)), .inl (1700, ia (G 54))]
def tab34 : List Int := [0, 2, 4, 5, 7, 9, 11]
def tab40 : List Int := [1, 2, 3, 11, 22, 12, 21, 33, 121, 212, 112, 221, 122, 1122, 2211]
def tab41 : List Int := [0, 1, 3, 5, 7, 0, 0]
def tab42 : List Int := [0, 4, 2, 5, 3, 4, 2, 4, 3]
def tab46 : List Int := [-2, -1, -2, 0, -4, -1, -1, -2, -4, -2, -2, -1, -1, -2, -3, -2]
def tab47 : List Int := [0, 0, 0, 2, 1, 0, -1, -1, 0, 2, -1, -2, 1, 0, 0, -1, -1, -3, 0, 0, 0, 1, 0, 0, 1, 0, 0, 1, -1, 0, 1, 0, 0, -2, -2, -2, 0, 0, 0, 2, 1, 0, -1, -1, 0, 1, 0, 0, 1, 0, 0, -2, -2, -1, 2, -1, 0, 1, 0, 0, 1, 0, 0, 0, 0, 0, 2, -1, 0, 1, -1, -2, 0, 0, 0, 1, 0, 0, 1, 0, 0, 0, 0, 0, 2, 1, 1, -1, -1, -2, 0, 0, 0, 2, 1, 0, -1, -1, 0, 2, -2, -1, 1, 0, 0, -1, -1, -2, 0, 0, 0, 2, 2, 1, -1, -1, 0, 0, 0, 0, 2, 1, 0, -1, -1, -2, 0, 0, 0, 1, 0, 0, 1, 0, 0, 2, 0, -1, 1, 0, 0, 1, 1, -3]
def tI (l : List Int) : Int → Int := fun i => l.getD i.toNat 0
abbrev W2 (I : Nat → Int) (N : Nat → Int) (F : Nat → Int → Int) (K : Nat → Int) (G : Nat → Int → Int) : XW := cls I N F ++ mdl K G
theorem adf_1 {f : Int → Int} {n v : Int} : adf f 1 n v = uI f n v := by
  unfold adf
  rw [clr_end (by omega), Int.mul_one]
section Puts
variable {R : Room} {ex : List (Nat × (Nat → Int32))} {M : MI} {n0 : Nat} {Z : XW → Option Value → Prop} {ca sl pc pc' idx : Nat} {ls : List (Option Value)} {st : List Value} {T : XW} {I N : Nat → Int} {F : Nat → Int → Int} {K : Nat → Int} {G : Nat → Int → Int} {a b : Int}
theorem cp_0 (g : XG M.1.cls idx 5 5 .int false) (hd : DcAt M.2.1 pc (.putfield idx) 3 pc') (k : Vd R ex M n0 Z ca sl pc' ls st (cls (uN I 0 a) N F ++ T)) : Vd R ex M n0 Z ca sl pc ls (J a :: .ref 0 :: st) (cls I N F ++ T) := vi_put g hd rfl (nle rfl) k
theorem cp_1 (g : XG M.1.cls idx 3 7 .int false) (hd : DcAt M.2.1 pc (.putfield idx) 3 pc') (k : Vd R ex M n0 Z ca sl pc' ls st (cls (uN I 1 a) N F ++ T)) : Vd R ex M n0 Z ca sl pc ls (J a :: .ref 5 :: st) (cls I N F ++ T) := vi_put g hd rfl (nle rfl) k
theorem cp_2 (g : XG M.1.cls idx 3 8 .int false) (hd : DcAt M.2.1 pc (.putfield idx) 3 pc') (k : Vd R ex M n0 Z ca sl pc' ls st (cls (uN I 2 a) N F ++ T)) : Vd R ex M n0 Z ca sl pc ls (J a :: .ref 5 :: st) (cls I N F ++ T) := vi_put g hd rfl (nle rfl) k
theorem cp_3 (g : XG M.1.cls idx 2 2 .int false) (hd : DcAt M.2.1 pc (.putfield idx) 3 pc') (k : Vd R ex M n0 Z ca sl pc' ls st (cls (uN I 3 a) N F ++ T)) : Vd R ex M n0 Z ca sl pc ls (J a :: .ref 20 :: st) (cls I N F ++ T) := vi_put g hd rfl (nle rfl) k
theorem cp_4 (g : XG M.1.cls idx 2 3 .int false) (hd : DcAt M.2.1 pc (.putfield idx) 3 pc') (k : Vd R ex M n0 Z ca sl pc' ls st (cls (uN I 4 a) N F ++ T)) : Vd R ex M n0 Z ca sl pc ls (J a :: .ref 20 :: st) (cls I N F ++ T) := vi_put g hd rfl (nle rfl) k
theorem cp_5 (g : XG M.1.cls idx 2 4 .int false) (hd : DcAt M.2.1 pc (.putfield idx) 3 pc') (k : Vd R ex M n0 Z ca sl pc' ls st (cls (uN I 5 a) N F ++ T)) : Vd R ex M n0 Z ca sl pc ls (J a :: .ref 20 :: st) (cls I N F ++ T) := vi_put g hd rfl (nle rfl) k
theorem cp_6 (g : XG M.1.cls idx 2 5 .int false) (hd : DcAt M.2.1 pc (.putfield idx) 3 pc') (k : Vd R ex M n0 Z ca sl pc' ls st (cls (uN I 6 a) N F ++ T)) : Vd R ex M n0 Z ca sl pc ls (J a :: .ref 20 :: st) (cls I N F ++ T) := vi_put g hd rfl (nle rfl) k
theorem cp_7 (g : XG M.1.cls idx 2 6 .int false) (hd : DcAt M.2.1 pc (.putfield idx) 3 pc') (k : Vd R ex M n0 Z ca sl pc' ls st (cls (uN I 7 a) N F ++ T)) : Vd R ex M n0 Z ca sl pc ls (J a :: .ref 20 :: st) (cls I N F ++ T) := vi_put g hd rfl (nle rfl) k
theorem cp_8 (g : XG M.1.cls idx 2 7 .boolean false) (hd : DcAt M.2.1 pc (.putfield idx) 3 pc') (hz : a = 0 ∨ a = 1) (k : Vd R ex M n0 Z ca sl pc' ls st (cls (uN I 8 a) N F ++ T)) : Vd R ex M n0 Z ca sl pc ls (J a :: .ref 20 :: st) (cls I N F ++ T) := vi_putz g hd rfl (nle rfl) hz k
theorem cp_9 (g : XG M.1.cls idx 2 8 .boolean false) (hd : DcAt M.2.1 pc (.putfield idx) 3 pc') (hz : a = 0 ∨ a = 1) (k : Vd R ex M n0 Z ca sl pc' ls st (cls (uN I 9 a) N F ++ T)) : Vd R ex M n0 Z ca sl pc ls (J a :: .ref 20 :: st) (cls I N F ++ T) := vi_putz g hd rfl (nle rfl) hz k
theorem cp_10 (g : XG M.1.cls idx 2 9 .boolean false) (hd : DcAt M.2.1 pc (.putfield idx) 3 pc') (hz : a = 0 ∨ a = 1) (k : Vd R ex M n0 Z ca sl pc' ls st (cls (uN I 10 a) N F ++ T)) : Vd R ex M n0 Z ca sl pc ls (J a :: .ref 20 :: st) (cls I N F ++ T) := vi_putz g hd rfl (nle rfl) hz k
theorem cp_11 (g : XG M.1.cls idx 2 10 .boolean false) (hd : DcAt M.2.1 pc (.putfield idx) 3 pc') (hz : a = 0 ∨ a = 1) (k : Vd R ex M n0 Z ca sl pc' ls st (cls (uN I 11 a) N F ++ T)) : Vd R ex M n0 Z ca sl pc ls (J a :: .ref 20 :: st) (cls I N F ++ T) := vi_putz g hd rfl (nle rfl) hz k
theorem cp_12 (g : XG M.1.cls idx 2 11 .boolean false) (hd : DcAt M.2.1 pc (.putfield idx) 3 pc') (hz : a = 0 ∨ a = 1) (k : Vd R ex M n0 Z ca sl pc' ls st (cls (uN I 12 a) N F ++ T)) : Vd R ex M n0 Z ca sl pc ls (J a :: .ref 20 :: st) (cls I N F ++ T) := vi_putz g hd rfl (nle rfl) hz k
theorem cp_13 (g : XG M.1.cls idx 1 3 .int false) (hd : DcAt M.2.1 pc (.putfield idx) 3 pc') (k : Vd R ex M n0 Z ca sl pc' ls st (cls (uN I 13 a) N F ++ T)) : Vd R ex M n0 Z ca sl pc ls (J a :: .ref 23 :: st) (cls I N F ++ T) := vi_put g hd rfl (nle rfl) k
theorem cp_14 (g : XG M.1.cls idx 0 1 .boolean false) (hd : DcAt M.2.1 pc (.putfield idx) 3 pc') (hz : a = 0 ∨ a = 1) (k : Vd R ex M n0 Z ca sl pc' ls st (cls (uN I 14 a) N F ++ T)) : Vd R ex M n0 Z ca sl pc ls (J a :: .ref 28 :: st) (cls I N F ++ T) := vi_putz g hd rfl (nle rfl) hz k
theorem cp_15 (g : XG M.1.cls idx 0 2 .int false) (hd : DcAt M.2.1 pc (.putfield idx) 3 pc') (k : Vd R ex M n0 Z ca sl pc' ls st (cls (uN I 15 a) N F ++ T)) : Vd R ex M n0 Z ca sl pc ls (J a :: .ref 28 :: st) (cls I N F ++ T) := vi_put g hd rfl (nle rfl) k
theorem cp_16 (g : XG M.1.cls idx 0 3 .int false) (hd : DcAt M.2.1 pc (.putfield idx) 3 pc') (k : Vd R ex M n0 Z ca sl pc' ls st (cls (uN I 16 a) N F ++ T)) : Vd R ex M n0 Z ca sl pc ls (J a :: .ref 28 :: st) (cls I N F ++ T) := vi_put g hd rfl (nle rfl) k
theorem cp_17 (g : XG M.1.cls idx 0 4 .int false) (hd : DcAt M.2.1 pc (.putfield idx) 3 pc') (k : Vd R ex M n0 Z ca sl pc' ls st (cls (uN I 17 a) N F ++ T)) : Vd R ex M n0 Z ca sl pc ls (J a :: .ref 28 :: st) (cls I N F ++ T) := vi_put g hd rfl (nle rfl) k
theorem cp_18 (g : XG M.1.cls idx 0 5 .int false) (hd : DcAt M.2.1 pc (.putfield idx) 3 pc') (k : Vd R ex M n0 Z ca sl pc' ls st (cls (uN I 18 a) N F ++ T)) : Vd R ex M n0 Z ca sl pc ls (J a :: .ref 28 :: st) (cls I N F ++ T) := vi_put g hd rfl (nle rfl) k
theorem cp_19 (g : XG M.1.cls idx 0 6 .int false) (hd : DcAt M.2.1 pc (.putfield idx) 3 pc') (k : Vd R ex M n0 Z ca sl pc' ls st (cls (uN I 19 a) N F ++ T)) : Vd R ex M n0 Z ca sl pc ls (J a :: .ref 28 :: st) (cls I N F ++ T) := vi_put g hd rfl (nle rfl) k
theorem cp_20 (g : XG M.1.cls idx 0 7 .int false) (hd : DcAt M.2.1 pc (.putfield idx) 3 pc') (k : Vd R ex M n0 Z ca sl pc' ls st (cls (uN I 20 a) N F ++ T)) : Vd R ex M n0 Z ca sl pc ls (J a :: .ref 28 :: st) (cls I N F ++ T) := vi_put g hd rfl (nle rfl) k
theorem ms_0 (hd : DcAt M.2.1 pc .iastore 1 pc') (hi : 0 ≤ a ∧ a < 1500) (k : Vd R ex M n0 Z ca sl pc' ls st (W2 I N F K (uN G 0 (uI (G 0) a b)))) : Vd R ex M n0 Z ca sl pc ls (J b :: J a :: .ref 32 :: st) (W2 I N F K G) := vi_astore hd rfl hi (by decide) k
theorem mp_1 (g : XG M.1.cls idx 6 1 .int false) (hd : DcAt M.2.1 pc (.putfield idx) 3 pc') (k : Vd R ex M n0 Z ca sl pc' ls st (W2 I N F (uN K 1 a) G)) : Vd R ex M n0 Z ca sl pc ls (J a :: .ref 31 :: st) (W2 I N F K G) := vi_put g hd rfl (nle rfl) k
theorem ms_2 (hd : DcAt M.2.1 pc .iastore 1 pc') (hi : 0 ≤ a ∧ a < 1500) (k : Vd R ex M n0 Z ca sl pc' ls st (W2 I N F K (uN G 2 (uI (G 2) a b)))) : Vd R ex M n0 Z ca sl pc ls (J b :: J a :: .ref 33 :: st) (W2 I N F K G) := vi_astore hd rfl hi (by decide) k
theorem mp_3 (g : XG M.1.cls idx 6 3 .int false) (hd : DcAt M.2.1 pc (.putfield idx) 3 pc') (k : Vd R ex M n0 Z ca sl pc' ls st (W2 I N F (uN K 3 a) G)) : Vd R ex M n0 Z ca sl pc ls (J a :: .ref 31 :: st) (W2 I N F K G) := vi_put g hd rfl (nle rfl) k
theorem ms_4 (hd : DcAt M.2.1 pc .iastore 1 pc') (hi : 0 ≤ a ∧ a < 60) (k : Vd R ex M n0 Z ca sl pc' ls st (W2 I N F K (uN G 4 (uI (G 4) a b)))) : Vd R ex M n0 Z ca sl pc ls (J b :: J a :: .ref 34 :: st) (W2 I N F K G) := vi_astore hd rfl hi (by decide) k
theorem ms_5 (hd : DcAt M.2.1 pc .iastore 1 pc') (hi : 0 ≤ a ∧ a < 60) (k : Vd R ex M n0 Z ca sl pc' ls st (W2 I N F K (uN G 5 (uI (G 5) a b)))) : Vd R ex M n0 Z ca sl pc ls (J b :: J a :: .ref 35 :: st) (W2 I N F K G) := vi_astore hd rfl hi (by decide) k
theorem ms_6 (hd : DcAt M.2.1 pc .iastore 1 pc') (hi : 0 ≤ a ∧ a < 60) (k : Vd R ex M n0 Z ca sl pc' ls st (W2 I N F K (uN G 6 (uI (G 6) a b)))) : Vd R ex M n0 Z ca sl pc ls (J b :: J a :: .ref 36 :: st) (W2 I N F K G) := vi_astore hd rfl hi (by decide) k
theorem ms_7 (hd : DcAt M.2.1 pc .iastore 1 pc') (hi : 0 ≤ a ∧ a < 60) (k : Vd R ex M n0 Z ca sl pc' ls st (W2 I N F K (uN G 7 (uI (G 7) a b)))) : Vd R ex M n0 Z ca sl pc ls (J b :: J a :: .ref 37 :: st) (W2 I N F K G) := vi_astore hd rfl hi (by decide) k
theorem ms_8 (hd : DcAt M.2.1 pc .iastore 1 pc') (hi : 0 ≤ a ∧ a < 60) (k : Vd R ex M n0 Z ca sl pc' ls st (W2 I N F K (uN G 8 (uI (G 8) a b)))) : Vd R ex M n0 Z ca sl pc ls (J b :: J a :: .ref 38 :: st) (W2 I N F K G) := vi_astore hd rfl hi (by decide) k
theorem ms_9 (hd : DcAt M.2.1 pc .iastore 1 pc') (hi : 0 ≤ a ∧ a < 61) (k : Vd R ex M n0 Z ca sl pc' ls st (W2 I N F K (uN G 9 (uI (G 9) a b)))) : Vd R ex M n0 Z ca sl pc ls (J b :: J a :: .ref 39 :: st) (W2 I N F K G) := vi_astore hd rfl hi (by decide) k
theorem mp_10 (g : XG M.1.cls idx 6 10 .int false) (hd : DcAt M.2.1 pc (.putfield idx) 3 pc') (k : Vd R ex M n0 Z ca sl pc' ls st (W2 I N F (uN K 10 a) G)) : Vd R ex M n0 Z ca sl pc ls (J a :: .ref 31 :: st) (W2 I N F K G) := vi_put g hd rfl (nle rfl) k
theorem ms_11 (hd : DcAt M.2.1 pc .iastore 1 pc') (hi : 0 ≤ a ∧ a < 300) (k : Vd R ex M n0 Z ca sl pc' ls st (W2 I N F K (uN G 11 (uI (G 11) a b)))) : Vd R ex M n0 Z ca sl pc ls (J b :: J a :: .ref 40 :: st) (W2 I N F K G) := vi_astore hd rfl hi (by decide) k
theorem ms_12 (hd : DcAt M.2.1 pc .iastore 1 pc') (hi : 0 ≤ a ∧ a < 300) (k : Vd R ex M n0 Z ca sl pc' ls st (W2 I N F K (uN G 12 (uI (G 12) a b)))) : Vd R ex M n0 Z ca sl pc ls (J b :: J a :: .ref 41 :: st) (W2 I N F K G) := vi_astore hd rfl hi (by decide) k
theorem ms_13 (hd : DcAt M.2.1 pc .iastore 1 pc') (hi : 0 ≤ a ∧ a < 300) (k : Vd R ex M n0 Z ca sl pc' ls st (W2 I N F K (uN G 13 (uI (G 13) a b)))) : Vd R ex M n0 Z ca sl pc ls (J b :: J a :: .ref 42 :: st) (W2 I N F K G) := vi_astore hd rfl hi (by decide) k
theorem mp_14 (g : XG M.1.cls idx 6 14 .int false) (hd : DcAt M.2.1 pc (.putfield idx) 3 pc') (k : Vd R ex M n0 Z ca sl pc' ls st (W2 I N F (uN K 14 a) G)) : Vd R ex M n0 Z ca sl pc ls (J a :: .ref 31 :: st) (W2 I N F K G) := vi_put g hd rfl (nle rfl) k
theorem mp_15 (g : XG M.1.cls idx 6 15 .int false) (hd : DcAt M.2.1 pc (.putfield idx) 3 pc') (k : Vd R ex M n0 Z ca sl pc' ls st (W2 I N F (uN K 15 a) G)) : Vd R ex M n0 Z ca sl pc ls (J a :: .ref 31 :: st) (W2 I N F K G) := vi_put g hd rfl (nle rfl) k
theorem ms_16 (hd : DcAt M.2.1 pc .iastore 1 pc') (hi : 0 ≤ a ∧ a < 150) (k : Vd R ex M n0 Z ca sl pc' ls st (W2 I N F K (uN G 16 (uI (G 16) a b)))) : Vd R ex M n0 Z ca sl pc ls (J b :: J a :: .ref 43 :: st) (W2 I N F K G) := vi_astore hd rfl hi (by decide) k
theorem ms_17 (hd : DcAt M.2.1 pc .iastore 1 pc') (hi : 0 ≤ a ∧ a < 150) (k : Vd R ex M n0 Z ca sl pc' ls st (W2 I N F K (uN G 17 (uI (G 17) a b)))) : Vd R ex M n0 Z ca sl pc ls (J b :: J a :: .ref 44 :: st) (W2 I N F K G) := vi_astore hd rfl hi (by decide) k
theorem ms_18 (hd : DcAt M.2.1 pc .iastore 1 pc') (hi : 0 ≤ a ∧ a < 150) (k : Vd R ex M n0 Z ca sl pc' ls st (W2 I N F K (uN G 18 (uI (G 18) a b)))) : Vd R ex M n0 Z ca sl pc ls (J b :: J a :: .ref 45 :: st) (W2 I N F K G) := vi_astore hd rfl hi (by decide) k
theorem ms_19 (hd : DcAt M.2.1 pc .iastore 1 pc') (hi : 0 ≤ a ∧ a < 150) (k : Vd R ex M n0 Z ca sl pc' ls st (W2 I N F K (uN G 19 (uI (G 19) a b)))) : Vd R ex M n0 Z ca sl pc ls (J b :: J a :: .ref 46 :: st) (W2 I N F K G) := vi_astore hd rfl hi (by decide) k
theorem mp_20 (g : XG M.1.cls idx 6 20 .int false) (hd : DcAt M.2.1 pc (.putfield idx) 3 pc') (k : Vd R ex M n0 Z ca sl pc' ls st (W2 I N F (uN K 20 a) G)) : Vd R ex M n0 Z ca sl pc ls (J a :: .ref 31 :: st) (W2 I N F K G) := vi_put g hd rfl (nle rfl) k
theorem mp_21 (g : XG M.1.cls idx 6 21 .int false) (hd : DcAt M.2.1 pc (.putfield idx) 3 pc') (k : Vd R ex M n0 Z ca sl pc' ls st (W2 I N F (uN K 21 a) G)) : Vd R ex M n0 Z ca sl pc ls (J a :: .ref 31 :: st) (W2 I N F K G) := vi_put g hd rfl (nle rfl) k
theorem mp_22 (g : XG M.1.cls idx 6 22 .int false) (hd : DcAt M.2.1 pc (.putfield idx) 3 pc') (k : Vd R ex M n0 Z ca sl pc' ls st (W2 I N F (uN K 22 a) G)) : Vd R ex M n0 Z ca sl pc ls (J a :: .ref 31 :: st) (W2 I N F K G) := vi_put g hd rfl (nle rfl) k
theorem mp_23 (g : XG M.1.cls idx 6 23 .int false) (hd : DcAt M.2.1 pc (.putfield idx) 3 pc') (k : Vd R ex M n0 Z ca sl pc' ls st (W2 I N F (uN K 23 a) G)) : Vd R ex M n0 Z ca sl pc ls (J a :: .ref 31 :: st) (W2 I N F K G) := vi_put g hd rfl (nle rfl) k
theorem mp_24 (g : XG M.1.cls idx 6 24 .int false) (hd : DcAt M.2.1 pc (.putfield idx) 3 pc') (k : Vd R ex M n0 Z ca sl pc' ls st (W2 I N F (uN K 24 a) G)) : Vd R ex M n0 Z ca sl pc ls (J a :: .ref 31 :: st) (W2 I N F K G) := vi_put g hd rfl (nle rfl) k
theorem mp_25 (g : XG M.1.cls idx 6 25 .int false) (hd : DcAt M.2.1 pc (.putfield idx) 3 pc') (k : Vd R ex M n0 Z ca sl pc' ls st (W2 I N F (uN K 25 a) G)) : Vd R ex M n0 Z ca sl pc ls (J a :: .ref 31 :: st) (W2 I N F K G) := vi_put g hd rfl (nle rfl) k
theorem mp_26 (g : XG M.1.cls idx 6 26 .int false) (hd : DcAt M.2.1 pc (.putfield idx) 3 pc') (k : Vd R ex M n0 Z ca sl pc' ls st (W2 I N F (uN K 26 a) G)) : Vd R ex M n0 Z ca sl pc ls (J a :: .ref 31 :: st) (W2 I N F K G) := vi_put g hd rfl (nle rfl) k
theorem mp_27 (g : XG M.1.cls idx 6 27 .int false) (hd : DcAt M.2.1 pc (.putfield idx) 3 pc') (k : Vd R ex M n0 Z ca sl pc' ls st (W2 I N F (uN K 27 a) G)) : Vd R ex M n0 Z ca sl pc ls (J a :: .ref 31 :: st) (W2 I N F K G) := vi_put g hd rfl (nle rfl) k
theorem mp_28 (g : XG M.1.cls idx 6 28 .int false) (hd : DcAt M.2.1 pc (.putfield idx) 3 pc') (k : Vd R ex M n0 Z ca sl pc' ls st (W2 I N F (uN K 28 a) G)) : Vd R ex M n0 Z ca sl pc ls (J a :: .ref 31 :: st) (W2 I N F K G) := vi_put g hd rfl (nle rfl) k
theorem mp_29 (g : XG M.1.cls idx 6 29 .int false) (hd : DcAt M.2.1 pc (.putfield idx) 3 pc') (k : Vd R ex M n0 Z ca sl pc' ls st (W2 I N F (uN K 29 a) G)) : Vd R ex M n0 Z ca sl pc ls (J a :: .ref 31 :: st) (W2 I N F K G) := vi_put g hd rfl (nle rfl) k
theorem ms_30 (hd : DcAt M.2.1 pc .iastore 1 pc') (hi : 0 ≤ a ∧ a < 150) (k : Vd R ex M n0 Z ca sl pc' ls st (W2 I N F K (uN G 30 (uI (G 30) a b)))) : Vd R ex M n0 Z ca sl pc ls (J b :: J a :: .ref 47 :: st) (W2 I N F K G) := vi_astore hd rfl hi (by decide) k
theorem ms_31 (hd : DcAt M.2.1 pc .iastore 1 pc') (hi : 0 ≤ a ∧ a < 150) (k : Vd R ex M n0 Z ca sl pc' ls st (W2 I N F K (uN G 31 (uI (G 31) a b)))) : Vd R ex M n0 Z ca sl pc ls (J b :: J a :: .ref 48 :: st) (W2 I N F K G) := vi_astore hd rfl hi (by decide) k
theorem ms_32 (hd : DcAt M.2.1 pc .iastore 1 pc') (hi : 0 ≤ a ∧ a < 20) (k : Vd R ex M n0 Z ca sl pc' ls st (W2 I N F K (uN G 32 (uI (G 32) a b)))) : Vd R ex M n0 Z ca sl pc ls (J b :: J a :: .ref 49 :: st) (W2 I N F K G) := vi_astore hd rfl hi (by decide) k
theorem ms_33 (hd : DcAt M.2.1 pc .iastore 1 pc') (hi : 0 ≤ a ∧ a < 13) (k : Vd R ex M n0 Z ca sl pc' ls st (W2 I N F K (uN G 33 (uI (G 33) a b)))) : Vd R ex M n0 Z ca sl pc ls (J b :: J a :: .ref 50 :: st) (W2 I N F K G) := vi_astore hd rfl hi (by decide) k
theorem ms_34 (hd : DcAt M.2.1 pc .iastore 1 pc') (hi : 0 ≤ a ∧ a < 7) (k : Vd R ex M n0 Z ca sl pc' ls st (W2 I N F K (uN G 34 (uI (G 34) a b)))) : Vd R ex M n0 Z ca sl pc ls (J b :: J a :: .ref 51 :: st) (W2 I N F K G) := vi_astore hd rfl hi (by decide) k
theorem mp_35 (g : XG M.1.cls idx 6 35 .int false) (hd : DcAt M.2.1 pc (.putfield idx) 3 pc') (k : Vd R ex M n0 Z ca sl pc' ls st (W2 I N F (uN K 35 a) G)) : Vd R ex M n0 Z ca sl pc ls (J a :: .ref 31 :: st) (W2 I N F K G) := vi_put g hd rfl (nle rfl) k
theorem ms_36 (hd : DcAt M.2.1 pc .iastore 1 pc') (hi : 0 ≤ a ∧ a < 150) (k : Vd R ex M n0 Z ca sl pc' ls st (W2 I N F K (uN G 36 (uI (G 36) a b)))) : Vd R ex M n0 Z ca sl pc ls (J b :: J a :: .ref 52 :: st) (W2 I N F K G) := vi_astore hd rfl hi (by decide) k
theorem ms_37 (hd : DcAt M.2.1 pc .iastore 1 pc') (hi : 0 ≤ a ∧ a < 150) (k : Vd R ex M n0 Z ca sl pc' ls st (W2 I N F K (uN G 37 (uI (G 37) a b)))) : Vd R ex M n0 Z ca sl pc ls (J b :: J a :: .ref 53 :: st) (W2 I N F K G) := vi_astore hd rfl hi (by decide) k
theorem ms_38 (hd : DcAt M.2.1 pc .iastore 1 pc') (hi : 0 ≤ a ∧ a < 150) (k : Vd R ex M n0 Z ca sl pc' ls st (W2 I N F K (uN G 38 (uI (G 38) a b)))) : Vd R ex M n0 Z ca sl pc ls (J b :: J a :: .ref 54 :: st) (W2 I N F K G) := vi_astore hd rfl hi (by decide) k
theorem ms_39 (hd : DcAt M.2.1 pc .iastore 1 pc') (hi : 0 ≤ a ∧ a < 150) (k : Vd R ex M n0 Z ca sl pc' ls st (W2 I N F K (uN G 39 (uI (G 39) a b)))) : Vd R ex M n0 Z ca sl pc ls (J b :: J a :: .ref 55 :: st) (W2 I N F K G) := vi_astore hd rfl hi (by decide) k
theorem ms_40 (hd : DcAt M.2.1 pc .iastore 1 pc') (hi : 0 ≤ a ∧ a < 15) (k : Vd R ex M n0 Z ca sl pc' ls st (W2 I N F K (uN G 40 (uI (G 40) a b)))) : Vd R ex M n0 Z ca sl pc ls (J b :: J a :: .ref 56 :: st) (W2 I N F K G) := vi_astore hd rfl hi (by decide) k
theorem ms_41 (hd : DcAt M.2.1 pc .iastore 1 pc') (hi : 0 ≤ a ∧ a < 7) (k : Vd R ex M n0 Z ca sl pc' ls st (W2 I N F K (uN G 41 (uI (G 41) a b)))) : Vd R ex M n0 Z ca sl pc ls (J b :: J a :: .ref 57 :: st) (W2 I N F K G) := vi_astore hd rfl hi (by decide) k
theorem ms_42 (hd : DcAt M.2.1 pc .iastore 1 pc') (hi : 0 ≤ a ∧ a < 9) (k : Vd R ex M n0 Z ca sl pc' ls st (W2 I N F K (uN G 42 (uI (G 42) a b)))) : Vd R ex M n0 Z ca sl pc ls (J b :: J a :: .ref 58 :: st) (W2 I N F K G) := vi_astore hd rfl hi (by decide) k
theorem mp_43 (g : XG M.1.cls idx 6 43 .int false) (hd : DcAt M.2.1 pc (.putfield idx) 3 pc') (k : Vd R ex M n0 Z ca sl pc' ls st (W2 I N F (uN K 43 a) G)) : Vd R ex M n0 Z ca sl pc ls (J a :: .ref 31 :: st) (W2 I N F K G) := vi_put g hd rfl (nle rfl) k
theorem ms_44 (hd : DcAt M.2.1 pc .iastore 1 pc') (hi : 0 ≤ a ∧ a < 80) (k : Vd R ex M n0 Z ca sl pc' ls st (W2 I N F K (uN G 44 (uI (G 44) a b)))) : Vd R ex M n0 Z ca sl pc ls (J b :: J a :: .ref 59 :: st) (W2 I N F K G) := vi_astore hd rfl hi (by decide) k
theorem ms_45 (hd : DcAt M.2.1 pc .iastore 1 pc') (hi : 0 ≤ a ∧ a < 2) (k : Vd R ex M n0 Z ca sl pc' ls st (W2 I N F K (uN G 45 (uI (G 45) a b)))) : Vd R ex M n0 Z ca sl pc ls (J b :: J a :: .ref 60 :: st) (W2 I N F K G) := vi_astore hd rfl hi (by decide) k
theorem ms_46 (hd : DcAt M.2.1 pc .iastore 1 pc') (hi : 0 ≤ a ∧ a < 16) (k : Vd R ex M n0 Z ca sl pc' ls st (W2 I N F K (uN G 46 (uI (G 46) a b)))) : Vd R ex M n0 Z ca sl pc ls (J b :: J a :: .ref 61 :: st) (W2 I N F K G) := vi_astore hd rfl hi (by decide) k
theorem ms_47 (hd : DcAt M.2.1 pc .iastore 1 pc') (hi : 0 ≤ a ∧ a < 144) (k : Vd R ex M n0 Z ca sl pc' ls st (W2 I N F K (uN G 47 (uI (G 47) a b)))) : Vd R ex M n0 Z ca sl pc ls (J b :: J a :: .ref 62 :: st) (W2 I N F K G) := vi_astore hd rfl hi (by decide) k
theorem mp_48 (g : XG M.1.cls idx 6 48 .int false) (hd : DcAt M.2.1 pc (.putfield idx) 3 pc') (k : Vd R ex M n0 Z ca sl pc' ls st (W2 I N F (uN K 48 a) G)) : Vd R ex M n0 Z ca sl pc ls (J a :: .ref 31 :: st) (W2 I N F K G) := vi_put g hd rfl (nle rfl) k
theorem mp_49 (g : XG M.1.cls idx 6 49 .int false) (hd : DcAt M.2.1 pc (.putfield idx) 3 pc') (k : Vd R ex M n0 Z ca sl pc' ls st (W2 I N F (uN K 49 a) G)) : Vd R ex M n0 Z ca sl pc ls (J a :: .ref 31 :: st) (W2 I N F K G) := vi_put g hd rfl (nle rfl) k
theorem mp_50 (g : XG M.1.cls idx 6 50 .boolean false) (hd : DcAt M.2.1 pc (.putfield idx) 3 pc') (hz : a = 0 ∨ a = 1) (k : Vd R ex M n0 Z ca sl pc' ls st (W2 I N F (uN K 50 a) G)) : Vd R ex M n0 Z ca sl pc ls (J a :: .ref 31 :: st) (W2 I N F K G) := vi_putz g hd rfl (nle rfl) hz k
theorem mp_51 (g : XG M.1.cls idx 6 51 .int false) (hd : DcAt M.2.1 pc (.putfield idx) 3 pc') (k : Vd R ex M n0 Z ca sl pc' ls st (W2 I N F (uN K 51 a) G)) : Vd R ex M n0 Z ca sl pc ls (J a :: .ref 31 :: st) (W2 I N F K G) := vi_put g hd rfl (nle rfl) k
theorem ms_52 (hd : DcAt M.2.1 pc .iastore 1 pc') (hi : 0 ≤ a ∧ a < 41) (k : Vd R ex M n0 Z ca sl pc' ls st (W2 I N F K (uN G 52 (uI (G 52) a b)))) : Vd R ex M n0 Z ca sl pc ls (J b :: J a :: .ref 63 :: st) (W2 I N F K G) := vi_astore hd rfl hi (by decide) k
theorem ms_53 (hd : DcAt M.2.1 pc .iastore 1 pc') (hi : 0 ≤ a ∧ a < 41) (k : Vd R ex M n0 Z ca sl pc' ls st (W2 I N F K (uN G 53 (uI (G 53) a b)))) : Vd R ex M n0 Z ca sl pc ls (J b :: J a :: .ref 64 :: st) (W2 I N F K G) := vi_astore hd rfl hi (by decide) k
theorem ms_54 (hd : DcAt M.2.1 pc .iastore 1 pc') (hi : 0 ≤ a ∧ a < 1700) (k : Vd R ex M n0 Z ca sl pc' ls st (W2 I N F K (uN G 54 (uI (G 54) a b)))) : Vd R ex M n0 Z ca sl pc ls (J b :: J a :: .ref 65 :: st) (W2 I N F K G) := vi_astore hd rfl hi (by decide) k
theorem mp_55 (g : XG M.1.cls idx 6 55 .int false) (hd : DcAt M.2.1 pc (.putfield idx) 3 pc') (k : Vd R ex M n0 Z ca sl pc' ls st (W2 I N F (uN K 55 a) G)) : Vd R ex M n0 Z ca sl pc ls (J a :: .ref 31 :: st) (W2 I N F K G) := vi_put g hd rfl (nle rfl) k
end Puts
section Tabs
variable {T : XW} {I N : Nat → Int} {F : Nat → Int → Int}
theorem c0_size : Sd (rm 0 0 0 0) mX5_size [.ref 1] (cls I N F ++ T) (cls I N F ++ T) (some (J (N 0))) := tt_size (b := 1) rfl
theorem c0_full (hn : 0 ≤ N 0 ∧ N 0 ≤ 1500) : Sd (rm 0 0 0 0) mX5_isFull [.ref 1] (cls I N F ++ T) (cls I N F ++ T) (some (J (if 1500 ≤ N 0 then 1 else 0))) := tt_full (b := 1) rfl (by omega)
theorem c0_has (hn : 0 ≤ N 0 ∧ N 0 ≤ 1500) {k : Int} (hk : -2147483648 ≤ k ∧ k < 2147483648) : Sd (rm 0 0 0 0) mX5_has [.ref 1, J k] (cls I N F ++ T) (cls I N F ++ T) (some (J (if 0 ≤ k ∧ k < N 0 then 1 else 0))) := tt_has (b := 1) rfl (by omega) hk
theorem c0_keep (hn : 0 ≤ N 0 ∧ N 0 ≤ 1500) {k : Int} (hk : 0 ≤ k ∧ k ≤ N 0) : Sd (rm 0 0 0 0) mX5_keep [.ref 1, J k] (cls I N F ++ T) (cls I (uN N 0 k) F ++ T) none := tt_keep (b := 1) rfl (by omega) hk
theorem c0_add (hn : 0 ≤ N 0 ∧ N 0 < 1500) {v : Int} : Sd (rm 0 0 0 0) mX5_add [.ref 1, J v] (cls I N F ++ T) (cls I (uN N 0 (N 0 + 1)) (uN F 0 (uI (F 0) (N 0) v)) ++ T) (some (J (N 0))) := by
  rw [← adf_1]
  exact tt_add (b := 1) (a := 2) (L := 1500) rfl rfl (by omega) (by decide) (by decide)
theorem c0_get (hn : 0 ≤ N 0 ∧ N 0 ≤ 1500) {r : Int} (hr : 0 ≤ r ∧ r < N 0) : Sd (rm 0 0 0 0) mX5_get [.ref 1, J r, J 0] (cls I N F ++ T) (cls I N F ++ T) (some (J (F 0 r))) := by
  have h := tt_get (w := (cls I N F ++ T)) (b := 1) (a := 2) (L := 1500) (f := F 0) (c := 0) rfl rfl (by omega) (by decide) hr (by decide)
  rw [Int.mul_one, Int.add_zero] at h
  exact h
theorem c0_set (hn : 0 ≤ N 0 ∧ N 0 ≤ 1500) {r v : Int} (hr : 0 ≤ r ∧ r < N 0) : Sd (rm 0 0 0 0) mX5_set [.ref 1, J r, J 0, J v] (cls I N F ++ T) (cls I N (uN F 0 (uI (F 0) r v)) ++ T) none := by
  have h := tt_set (w := (cls I N F ++ T)) (b := 1) (a := 2) (L := 1500) (f := F 0) (c := 0) (v := v) rfl rfl (by omega) (by decide) hr (by decide)
  rw [Int.mul_one, Int.add_zero] at h
  exact h
theorem c1_size : Sd (rm 0 0 0 0) mX5_size [.ref 3] (cls I N F ++ T) (cls I N F ++ T) (some (J (N 1))) := tt_size (b := 3) rfl
theorem c1_full (hn : 0 ≤ N 1 ∧ N 1 ≤ 1500) : Sd (rm 0 0 0 0) mX5_isFull [.ref 3] (cls I N F ++ T) (cls I N F ++ T) (some (J (if 1500 ≤ N 1 then 1 else 0))) := tt_full (b := 3) rfl (by omega)
theorem c1_has (hn : 0 ≤ N 1 ∧ N 1 ≤ 1500) {k : Int} (hk : -2147483648 ≤ k ∧ k < 2147483648) : Sd (rm 0 0 0 0) mX5_has [.ref 3, J k] (cls I N F ++ T) (cls I N F ++ T) (some (J (if 0 ≤ k ∧ k < N 1 then 1 else 0))) := tt_has (b := 3) rfl (by omega) hk
theorem c1_keep (hn : 0 ≤ N 1 ∧ N 1 ≤ 1500) {k : Int} (hk : 0 ≤ k ∧ k ≤ N 1) : Sd (rm 0 0 0 0) mX5_keep [.ref 3, J k] (cls I N F ++ T) (cls I (uN N 1 k) F ++ T) none := tt_keep (b := 3) rfl (by omega) hk
theorem c1_add (hn : 0 ≤ N 1 ∧ N 1 < 1500) {v : Int} : Sd (rm 0 0 0 0) mX5_add [.ref 3, J v] (cls I N F ++ T) (cls I (uN N 1 (N 1 + 1)) (uN F 1 (uI (F 1) (N 1) v)) ++ T) (some (J (N 1))) := by
  rw [← adf_1]
  exact tt_add (b := 3) (a := 4) (L := 1500) rfl rfl (by omega) (by decide) (by decide)
theorem c1_get (hn : 0 ≤ N 1 ∧ N 1 ≤ 1500) {r : Int} (hr : 0 ≤ r ∧ r < N 1) : Sd (rm 0 0 0 0) mX5_get [.ref 3, J r, J 0] (cls I N F ++ T) (cls I N F ++ T) (some (J (F 1 r))) := by
  have h := tt_get (w := (cls I N F ++ T)) (b := 3) (a := 4) (L := 1500) (f := F 1) (c := 0) rfl rfl (by omega) (by decide) hr (by decide)
  rw [Int.mul_one, Int.add_zero] at h
  exact h
theorem c1_set (hn : 0 ≤ N 1 ∧ N 1 ≤ 1500) {r v : Int} (hr : 0 ≤ r ∧ r < N 1) : Sd (rm 0 0 0 0) mX5_set [.ref 3, J r, J 0, J v] (cls I N F ++ T) (cls I N (uN F 1 (uI (F 1) r v)) ++ T) none := by
  have h := tt_set (w := (cls I N F ++ T)) (b := 3) (a := 4) (L := 1500) (f := F 1) (c := 0) (v := v) rfl rfl (by omega) (by decide) hr (by decide)
  rw [Int.mul_one, Int.add_zero] at h
  exact h
theorem c2_size : Sd (rm 0 0 0 0) mX5_size [.ref 6] (cls I N F ++ T) (cls I N F ++ T) (some (J (N 2))) := tt_size (b := 6) rfl
theorem c2_full (hn : 0 ≤ N 2 ∧ N 2 ≤ 1500) : Sd (rm 0 0 0 0) mX5_isFull [.ref 6] (cls I N F ++ T) (cls I N F ++ T) (some (J (if 1500 ≤ N 2 then 1 else 0))) := tt_full (b := 6) rfl (by omega)
theorem c2_has (hn : 0 ≤ N 2 ∧ N 2 ≤ 1500) {k : Int} (hk : -2147483648 ≤ k ∧ k < 2147483648) : Sd (rm 0 0 0 0) mX5_has [.ref 6, J k] (cls I N F ++ T) (cls I N F ++ T) (some (J (if 0 ≤ k ∧ k < N 2 then 1 else 0))) := tt_has (b := 6) rfl (by omega) hk
theorem c2_keep (hn : 0 ≤ N 2 ∧ N 2 ≤ 1500) {k : Int} (hk : 0 ≤ k ∧ k ≤ N 2) : Sd (rm 0 0 0 0) mX5_keep [.ref 6, J k] (cls I N F ++ T) (cls I (uN N 2 k) F ++ T) none := tt_keep (b := 6) rfl (by omega) hk
theorem c2_add (hn : 0 ≤ N 2 ∧ N 2 < 1500) {v : Int} : Sd (rm 0 0 0 0) mX5_add [.ref 6, J v] (cls I N F ++ T) (cls I (uN N 2 (N 2 + 1)) (uN F 2 (uI (F 2) (N 2) v)) ++ T) (some (J (N 2))) := by
  rw [← adf_1]
  exact tt_add (b := 6) (a := 7) (L := 1500) rfl rfl (by omega) (by decide) (by decide)
theorem c2_get (hn : 0 ≤ N 2 ∧ N 2 ≤ 1500) {r : Int} (hr : 0 ≤ r ∧ r < N 2) : Sd (rm 0 0 0 0) mX5_get [.ref 6, J r, J 0] (cls I N F ++ T) (cls I N F ++ T) (some (J (F 2 r))) := by
  have h := tt_get (w := (cls I N F ++ T)) (b := 6) (a := 7) (L := 1500) (f := F 2) (c := 0) rfl rfl (by omega) (by decide) hr (by decide)
  rw [Int.mul_one, Int.add_zero] at h
  exact h
theorem c2_set (hn : 0 ≤ N 2 ∧ N 2 ≤ 1500) {r v : Int} (hr : 0 ≤ r ∧ r < N 2) : Sd (rm 0 0 0 0) mX5_set [.ref 6, J r, J 0, J v] (cls I N F ++ T) (cls I N (uN F 2 (uI (F 2) r v)) ++ T) none := by
  have h := tt_set (w := (cls I N F ++ T)) (b := 6) (a := 7) (L := 1500) (f := F 2) (c := 0) (v := v) rfl rfl (by omega) (by decide) hr (by decide)
  rw [Int.mul_one, Int.add_zero] at h
  exact h
theorem c3_size : Sd (rm 0 0 0 0) mX5_size [.ref 8] (cls I N F ++ T) (cls I N F ++ T) (some (J (N 3))) := tt_size (b := 8) rfl
theorem c3_full (hn : 0 ≤ N 3 ∧ N 3 ≤ 60) : Sd (rm 0 0 0 0) mX5_isFull [.ref 8] (cls I N F ++ T) (cls I N F ++ T) (some (J (if 60 ≤ N 3 then 1 else 0))) := tt_full (b := 8) rfl (by omega)
theorem c3_has (hn : 0 ≤ N 3 ∧ N 3 ≤ 60) {k : Int} (hk : -2147483648 ≤ k ∧ k < 2147483648) : Sd (rm 0 0 0 0) mX5_has [.ref 8, J k] (cls I N F ++ T) (cls I N F ++ T) (some (J (if 0 ≤ k ∧ k < N 3 then 1 else 0))) := tt_has (b := 8) rfl (by omega) hk
theorem c3_keep (hn : 0 ≤ N 3 ∧ N 3 ≤ 60) {k : Int} (hk : 0 ≤ k ∧ k ≤ N 3) : Sd (rm 0 0 0 0) mX5_keep [.ref 8, J k] (cls I N F ++ T) (cls I (uN N 3 k) F ++ T) none := tt_keep (b := 8) rfl (by omega) hk
theorem c3_add (hn : 0 ≤ N 3 ∧ N 3 < 60) {v : Int} : Sd (rm 0 0 0 0) mX5_add [.ref 8, J v] (cls I N F ++ T) (cls I (uN N 3 (N 3 + 1)) (uN F 3 (adf (F 3) 9 (N 3) v)) ++ T) (some (J (N 3))) := tt_add (b := 8) (a := 9) (L := 540) rfl rfl (by omega) (by decide) (by decide)
theorem c3_get (hn : 0 ≤ N 3 ∧ N 3 ≤ 60) {r c : Int} (hr : 0 ≤ r ∧ r < N 3) (hc : 0 ≤ c ∧ c < 9) : Sd (rm 0 0 0 0) mX5_get [.ref 8, J r, J c] (cls I N F ++ T) (cls I N F ++ T) (some (J (F 3 (r * 9 + c)))) := tt_get (b := 8) (a := 9) (L := 540) rfl rfl (by omega) (by decide) hr hc
theorem c3_set (hn : 0 ≤ N 3 ∧ N 3 ≤ 60) {r c v : Int} (hr : 0 ≤ r ∧ r < N 3) (hc : 0 ≤ c ∧ c < 9) : Sd (rm 0 0 0 0) mX5_set [.ref 8, J r, J c, J v] (cls I N F ++ T) (cls I N (uN F 3 (uI (F 3) (r * 9 + c) v)) ++ T) none := tt_set (b := 8) (a := 9) (L := 540) rfl rfl (by omega) (by decide) hr hc
theorem c3_ask (hn : 0 ≤ N 3 ∧ N 3 ≤ 60) {r c q : Int} (hr : -2147483648 ≤ r ∧ r < 2147483648) (hc : -2147483648 ≤ c ∧ c < 2147483648) (hq : 0 ≤ q ∧ q ≤ 9) : Sd (rm 1 23 0 0) mX5_ask [.ref 8, J r, J c, J q] (cls I N F ++ T) (cls I N F ++ T) (some (J (if 0 ≤ r ∧ r < N 3 then (if 0 ≤ c ∧ c < q then F 3 (r * 9 + c) else -102) else -101))) := tt_ask (b := 8) (a := 9) (L := 540) rfl rfl (by omega) (by decide) hr hc hq
theorem c4_size : Sd (rm 0 0 0 0) mX5_size [.ref 10] (cls I N F ++ T) (cls I N F ++ T) (some (J (N 4))) := tt_size (b := 10) rfl
theorem c4_full (hn : 0 ≤ N 4 ∧ N 4 ≤ 150) : Sd (rm 0 0 0 0) mX5_isFull [.ref 10] (cls I N F ++ T) (cls I N F ++ T) (some (J (if 150 ≤ N 4 then 1 else 0))) := tt_full (b := 10) rfl (by omega)
theorem c4_has (hn : 0 ≤ N 4 ∧ N 4 ≤ 150) {k : Int} (hk : -2147483648 ≤ k ∧ k < 2147483648) : Sd (rm 0 0 0 0) mX5_has [.ref 10, J k] (cls I N F ++ T) (cls I N F ++ T) (some (J (if 0 ≤ k ∧ k < N 4 then 1 else 0))) := tt_has (b := 10) rfl (by omega) hk
theorem c4_keep (hn : 0 ≤ N 4 ∧ N 4 ≤ 150) {k : Int} (hk : 0 ≤ k ∧ k ≤ N 4) : Sd (rm 0 0 0 0) mX5_keep [.ref 10, J k] (cls I N F ++ T) (cls I (uN N 4 k) F ++ T) none := tt_keep (b := 10) rfl (by omega) hk
theorem c4_add (hn : 0 ≤ N 4 ∧ N 4 < 150) {v : Int} : Sd (rm 0 0 0 0) mX5_add [.ref 10, J v] (cls I N F ++ T) (cls I (uN N 4 (N 4 + 1)) (uN F 4 (adf (F 4) 8 (N 4) v)) ++ T) (some (J (N 4))) := tt_add (b := 10) (a := 11) (L := 1200) rfl rfl (by omega) (by decide) (by decide)
theorem c4_get (hn : 0 ≤ N 4 ∧ N 4 ≤ 150) {r c : Int} (hr : 0 ≤ r ∧ r < N 4) (hc : 0 ≤ c ∧ c < 8) : Sd (rm 0 0 0 0) mX5_get [.ref 10, J r, J c] (cls I N F ++ T) (cls I N F ++ T) (some (J (F 4 (r * 8 + c)))) := tt_get (b := 10) (a := 11) (L := 1200) rfl rfl (by omega) (by decide) hr hc
theorem c4_set (hn : 0 ≤ N 4 ∧ N 4 ≤ 150) {r c v : Int} (hr : 0 ≤ r ∧ r < N 4) (hc : 0 ≤ c ∧ c < 8) : Sd (rm 0 0 0 0) mX5_set [.ref 10, J r, J c, J v] (cls I N F ++ T) (cls I N (uN F 4 (uI (F 4) (r * 8 + c) v)) ++ T) none := tt_set (b := 10) (a := 11) (L := 1200) rfl rfl (by omega) (by decide) hr hc
theorem c4_ask (hn : 0 ≤ N 4 ∧ N 4 ≤ 150) {r c q : Int} (hr : -2147483648 ≤ r ∧ r < 2147483648) (hc : -2147483648 ≤ c ∧ c < 2147483648) (hq : 0 ≤ q ∧ q ≤ 8) : Sd (rm 1 23 0 0) mX5_ask [.ref 10, J r, J c, J q] (cls I N F ++ T) (cls I N F ++ T) (some (J (if 0 ≤ r ∧ r < N 4 then (if 0 ≤ c ∧ c < q then F 4 (r * 8 + c) else -102) else -101))) := tt_ask (b := 10) (a := 11) (L := 1200) rfl rfl (by omega) (by decide) hr hc hq
theorem c5_size : Sd (rm 0 0 0 0) mX5_size [.ref 12] (cls I N F ++ T) (cls I N F ++ T) (some (J (N 5))) := tt_size (b := 12) rfl
theorem c5_full (hn : 0 ≤ N 5 ∧ N 5 ≤ 150) : Sd (rm 0 0 0 0) mX5_isFull [.ref 12] (cls I N F ++ T) (cls I N F ++ T) (some (J (if 150 ≤ N 5 then 1 else 0))) := tt_full (b := 12) rfl (by omega)
theorem c5_has (hn : 0 ≤ N 5 ∧ N 5 ≤ 150) {k : Int} (hk : -2147483648 ≤ k ∧ k < 2147483648) : Sd (rm 0 0 0 0) mX5_has [.ref 12, J k] (cls I N F ++ T) (cls I N F ++ T) (some (J (if 0 ≤ k ∧ k < N 5 then 1 else 0))) := tt_has (b := 12) rfl (by omega) hk
theorem c5_keep (hn : 0 ≤ N 5 ∧ N 5 ≤ 150) {k : Int} (hk : 0 ≤ k ∧ k ≤ N 5) : Sd (rm 0 0 0 0) mX5_keep [.ref 12, J k] (cls I N F ++ T) (cls I (uN N 5 k) F ++ T) none := tt_keep (b := 12) rfl (by omega) hk
theorem c5_add (hn : 0 ≤ N 5 ∧ N 5 < 150) {v : Int} : Sd (rm 0 0 0 0) mX5_add [.ref 12, J v] (cls I N F ++ T) (cls I (uN N 5 (N 5 + 1)) (uN F 5 (adf (F 5) 4 (N 5) v)) ++ T) (some (J (N 5))) := tt_add (b := 12) (a := 13) (L := 600) rfl rfl (by omega) (by decide) (by decide)
theorem c5_get (hn : 0 ≤ N 5 ∧ N 5 ≤ 150) {r c : Int} (hr : 0 ≤ r ∧ r < N 5) (hc : 0 ≤ c ∧ c < 4) : Sd (rm 0 0 0 0) mX5_get [.ref 12, J r, J c] (cls I N F ++ T) (cls I N F ++ T) (some (J (F 5 (r * 4 + c)))) := tt_get (b := 12) (a := 13) (L := 600) rfl rfl (by omega) (by decide) hr hc
theorem c5_set (hn : 0 ≤ N 5 ∧ N 5 ≤ 150) {r c v : Int} (hr : 0 ≤ r ∧ r < N 5) (hc : 0 ≤ c ∧ c < 4) : Sd (rm 0 0 0 0) mX5_set [.ref 12, J r, J c, J v] (cls I N F ++ T) (cls I N (uN F 5 (uI (F 5) (r * 4 + c) v)) ++ T) none := tt_set (b := 12) (a := 13) (L := 600) rfl rfl (by omega) (by decide) hr hc
theorem c5_ask (hn : 0 ≤ N 5 ∧ N 5 ≤ 150) {r c q : Int} (hr : -2147483648 ≤ r ∧ r < 2147483648) (hc : -2147483648 ≤ c ∧ c < 2147483648) (hq : 0 ≤ q ∧ q ≤ 4) : Sd (rm 1 23 0 0) mX5_ask [.ref 12, J r, J c, J q] (cls I N F ++ T) (cls I N F ++ T) (some (J (if 0 ≤ r ∧ r < N 5 then (if 0 ≤ c ∧ c < q then F 5 (r * 4 + c) else -102) else -101))) := tt_ask (b := 12) (a := 13) (L := 600) rfl rfl (by omega) (by decide) hr hc hq
theorem c6_size : Sd (rm 0 0 0 0) mX5_size [.ref 14] (cls I N F ++ T) (cls I N F ++ T) (some (J (N 6))) := tt_size (b := 14) rfl
theorem c6_full (hn : 0 ≤ N 6 ∧ N 6 ≤ 30) : Sd (rm 0 0 0 0) mX5_isFull [.ref 14] (cls I N F ++ T) (cls I N F ++ T) (some (J (if 30 ≤ N 6 then 1 else 0))) := tt_full (b := 14) rfl (by omega)
theorem c6_has (hn : 0 ≤ N 6 ∧ N 6 ≤ 30) {k : Int} (hk : -2147483648 ≤ k ∧ k < 2147483648) : Sd (rm 0 0 0 0) mX5_has [.ref 14, J k] (cls I N F ++ T) (cls I N F ++ T) (some (J (if 0 ≤ k ∧ k < N 6 then 1 else 0))) := tt_has (b := 14) rfl (by omega) hk
theorem c6_keep (hn : 0 ≤ N 6 ∧ N 6 ≤ 30) {k : Int} (hk : 0 ≤ k ∧ k ≤ N 6) : Sd (rm 0 0 0 0) mX5_keep [.ref 14, J k] (cls I N F ++ T) (cls I (uN N 6 k) F ++ T) none := tt_keep (b := 14) rfl (by omega) hk
theorem c6_add (hn : 0 ≤ N 6 ∧ N 6 < 30) {v : Int} : Sd (rm 0 0 0 0) mX5_add [.ref 14, J v] (cls I N F ++ T) (cls I (uN N 6 (N 6 + 1)) (uN F 6 (adf (F 6) 2 (N 6) v)) ++ T) (some (J (N 6))) := tt_add (b := 14) (a := 15) (L := 60) rfl rfl (by omega) (by decide) (by decide)
theorem c6_get (hn : 0 ≤ N 6 ∧ N 6 ≤ 30) {r c : Int} (hr : 0 ≤ r ∧ r < N 6) (hc : 0 ≤ c ∧ c < 2) : Sd (rm 0 0 0 0) mX5_get [.ref 14, J r, J c] (cls I N F ++ T) (cls I N F ++ T) (some (J (F 6 (r * 2 + c)))) := tt_get (b := 14) (a := 15) (L := 60) rfl rfl (by omega) (by decide) hr hc
theorem c6_set (hn : 0 ≤ N 6 ∧ N 6 ≤ 30) {r c v : Int} (hr : 0 ≤ r ∧ r < N 6) (hc : 0 ≤ c ∧ c < 2) : Sd (rm 0 0 0 0) mX5_set [.ref 14, J r, J c, J v] (cls I N F ++ T) (cls I N (uN F 6 (uI (F 6) (r * 2 + c) v)) ++ T) none := tt_set (b := 14) (a := 15) (L := 60) rfl rfl (by omega) (by decide) hr hc
theorem c6_ask (hn : 0 ≤ N 6 ∧ N 6 ≤ 30) {r c q : Int} (hr : -2147483648 ≤ r ∧ r < 2147483648) (hc : -2147483648 ≤ c ∧ c < 2147483648) (hq : 0 ≤ q ∧ q ≤ 2) : Sd (rm 1 23 0 0) mX5_ask [.ref 14, J r, J c, J q] (cls I N F ++ T) (cls I N F ++ T) (some (J (if 0 ≤ r ∧ r < N 6 then (if 0 ≤ c ∧ c < q then F 6 (r * 2 + c) else -102) else -101))) := tt_ask (b := 14) (a := 15) (L := 60) rfl rfl (by omega) (by decide) hr hc hq
theorem c7_size : Sd (rm 0 0 0 0) mX5_size [.ref 16] (cls I N F ++ T) (cls I N F ++ T) (some (J (N 7))) := tt_size (b := 16) rfl
theorem c7_full (hn : 0 ≤ N 7 ∧ N 7 ≤ 20) : Sd (rm 0 0 0 0) mX5_isFull [.ref 16] (cls I N F ++ T) (cls I N F ++ T) (some (J (if 20 ≤ N 7 then 1 else 0))) := tt_full (b := 16) rfl (by omega)
theorem c7_has (hn : 0 ≤ N 7 ∧ N 7 ≤ 20) {k : Int} (hk : -2147483648 ≤ k ∧ k < 2147483648) : Sd (rm 0 0 0 0) mX5_has [.ref 16, J k] (cls I N F ++ T) (cls I N F ++ T) (some (J (if 0 ≤ k ∧ k < N 7 then 1 else 0))) := tt_has (b := 16) rfl (by omega) hk
theorem c7_keep (hn : 0 ≤ N 7 ∧ N 7 ≤ 20) {k : Int} (hk : 0 ≤ k ∧ k ≤ N 7) : Sd (rm 0 0 0 0) mX5_keep [.ref 16, J k] (cls I N F ++ T) (cls I (uN N 7 k) F ++ T) none := tt_keep (b := 16) rfl (by omega) hk
theorem c7_add (hn : 0 ≤ N 7 ∧ N 7 < 20) {v : Int} : Sd (rm 0 0 0 0) mX5_add [.ref 16, J v] (cls I N F ++ T) (cls I (uN N 7 (N 7 + 1)) (uN F 7 (adf (F 7) 2 (N 7) v)) ++ T) (some (J (N 7))) := tt_add (b := 16) (a := 17) (L := 40) rfl rfl (by omega) (by decide) (by decide)
theorem c7_get (hn : 0 ≤ N 7 ∧ N 7 ≤ 20) {r c : Int} (hr : 0 ≤ r ∧ r < N 7) (hc : 0 ≤ c ∧ c < 2) : Sd (rm 0 0 0 0) mX5_get [.ref 16, J r, J c] (cls I N F ++ T) (cls I N F ++ T) (some (J (F 7 (r * 2 + c)))) := tt_get (b := 16) (a := 17) (L := 40) rfl rfl (by omega) (by decide) hr hc
theorem c7_set (hn : 0 ≤ N 7 ∧ N 7 ≤ 20) {r c v : Int} (hr : 0 ≤ r ∧ r < N 7) (hc : 0 ≤ c ∧ c < 2) : Sd (rm 0 0 0 0) mX5_set [.ref 16, J r, J c, J v] (cls I N F ++ T) (cls I N (uN F 7 (uI (F 7) (r * 2 + c) v)) ++ T) none := tt_set (b := 16) (a := 17) (L := 40) rfl rfl (by omega) (by decide) hr hc
theorem c7_ask (hn : 0 ≤ N 7 ∧ N 7 ≤ 20) {r c q : Int} (hr : -2147483648 ≤ r ∧ r < 2147483648) (hc : -2147483648 ≤ c ∧ c < 2147483648) (hq : 0 ≤ q ∧ q ≤ 2) : Sd (rm 1 23 0 0) mX5_ask [.ref 16, J r, J c, J q] (cls I N F ++ T) (cls I N F ++ T) (some (J (if 0 ≤ r ∧ r < N 7 then (if 0 ≤ c ∧ c < q then F 7 (r * 2 + c) else -102) else -101))) := tt_ask (b := 16) (a := 17) (L := 40) rfl rfl (by omega) (by decide) hr hc hq
theorem c8_size : Sd (rm 0 0 0 0) mX5_size [.ref 18] (cls I N F ++ T) (cls I N F ++ T) (some (J (N 8))) := tt_size (b := 18) rfl
theorem c8_full (hn : 0 ≤ N 8 ∧ N 8 ≤ 260) : Sd (rm 0 0 0 0) mX5_isFull [.ref 18] (cls I N F ++ T) (cls I N F ++ T) (some (J (if 260 ≤ N 8 then 1 else 0))) := tt_full (b := 18) rfl (by omega)
theorem c8_has (hn : 0 ≤ N 8 ∧ N 8 ≤ 260) {k : Int} (hk : -2147483648 ≤ k ∧ k < 2147483648) : Sd (rm 0 0 0 0) mX5_has [.ref 18, J k] (cls I N F ++ T) (cls I N F ++ T) (some (J (if 0 ≤ k ∧ k < N 8 then 1 else 0))) := tt_has (b := 18) rfl (by omega) hk
theorem c8_keep (hn : 0 ≤ N 8 ∧ N 8 ≤ 260) {k : Int} (hk : 0 ≤ k ∧ k ≤ N 8) : Sd (rm 0 0 0 0) mX5_keep [.ref 18, J k] (cls I N F ++ T) (cls I (uN N 8 k) F ++ T) none := tt_keep (b := 18) rfl (by omega) hk
theorem c8_add (hn : 0 ≤ N 8 ∧ N 8 < 260) {v : Int} : Sd (rm 0 0 0 0) mX5_add [.ref 18, J v] (cls I N F ++ T) (cls I (uN N 8 (N 8 + 1)) (uN F 8 (adf (F 8) 2 (N 8) v)) ++ T) (some (J (N 8))) := tt_add (b := 18) (a := 19) (L := 520) rfl rfl (by omega) (by decide) (by decide)
theorem c8_get (hn : 0 ≤ N 8 ∧ N 8 ≤ 260) {r c : Int} (hr : 0 ≤ r ∧ r < N 8) (hc : 0 ≤ c ∧ c < 2) : Sd (rm 0 0 0 0) mX5_get [.ref 18, J r, J c] (cls I N F ++ T) (cls I N F ++ T) (some (J (F 8 (r * 2 + c)))) := tt_get (b := 18) (a := 19) (L := 520) rfl rfl (by omega) (by decide) hr hc
theorem c8_set (hn : 0 ≤ N 8 ∧ N 8 ≤ 260) {r c v : Int} (hr : 0 ≤ r ∧ r < N 8) (hc : 0 ≤ c ∧ c < 2) : Sd (rm 0 0 0 0) mX5_set [.ref 18, J r, J c, J v] (cls I N F ++ T) (cls I N (uN F 8 (uI (F 8) (r * 2 + c) v)) ++ T) none := tt_set (b := 18) (a := 19) (L := 520) rfl rfl (by omega) (by decide) hr hc
theorem c8_ask (hn : 0 ≤ N 8 ∧ N 8 ≤ 260) {r c q : Int} (hr : -2147483648 ≤ r ∧ r < 2147483648) (hc : -2147483648 ≤ c ∧ c < 2147483648) (hq : 0 ≤ q ∧ q ≤ 2) : Sd (rm 1 23 0 0) mX5_ask [.ref 18, J r, J c, J q] (cls I N F ++ T) (cls I N F ++ T) (some (J (if 0 ≤ r ∧ r < N 8 then (if 0 ≤ c ∧ c < q then F 8 (r * 2 + c) else -102) else -101))) := tt_ask (b := 18) (a := 19) (L := 520) rfl rfl (by omega) (by decide) hr hc hq
theorem c9_size : Sd (rm 0 0 0 0) mX5_size [.ref 21] (cls I N F ++ T) (cls I N F ++ T) (some (J (N 9))) := tt_size (b := 21) rfl
theorem c9_full (hn : 0 ≤ N 9 ∧ N 9 ≤ 6) : Sd (rm 0 0 0 0) mX5_isFull [.ref 21] (cls I N F ++ T) (cls I N F ++ T) (some (J (if 6 ≤ N 9 then 1 else 0))) := tt_full (b := 21) rfl (by omega)
theorem c9_has (hn : 0 ≤ N 9 ∧ N 9 ≤ 6) {k : Int} (hk : -2147483648 ≤ k ∧ k < 2147483648) : Sd (rm 0 0 0 0) mX5_has [.ref 21, J k] (cls I N F ++ T) (cls I N F ++ T) (some (J (if 0 ≤ k ∧ k < N 9 then 1 else 0))) := tt_has (b := 21) rfl (by omega) hk
theorem c9_keep (hn : 0 ≤ N 9 ∧ N 9 ≤ 6) {k : Int} (hk : 0 ≤ k ∧ k ≤ N 9) : Sd (rm 0 0 0 0) mX5_keep [.ref 21, J k] (cls I N F ++ T) (cls I (uN N 9 k) F ++ T) none := tt_keep (b := 21) rfl (by omega) hk
theorem c9_add (hn : 0 ≤ N 9 ∧ N 9 < 6) {v : Int} : Sd (rm 0 0 0 0) mX5_add [.ref 21, J v] (cls I N F ++ T) (cls I (uN N 9 (N 9 + 1)) (uN F 9 (uI (F 9) (N 9) v)) ++ T) (some (J (N 9))) := by
  rw [← adf_1]
  exact tt_add (b := 21) (a := 22) (L := 6) rfl rfl (by omega) (by decide) (by decide)
theorem c9_get (hn : 0 ≤ N 9 ∧ N 9 ≤ 6) {r : Int} (hr : 0 ≤ r ∧ r < N 9) : Sd (rm 0 0 0 0) mX5_get [.ref 21, J r, J 0] (cls I N F ++ T) (cls I N F ++ T) (some (J (F 9 r))) := by
  have h := tt_get (w := (cls I N F ++ T)) (b := 21) (a := 22) (L := 6) (f := F 9) (c := 0) rfl rfl (by omega) (by decide) hr (by decide)
  rw [Int.mul_one, Int.add_zero] at h
  exact h
theorem c9_set (hn : 0 ≤ N 9 ∧ N 9 ≤ 6) {r v : Int} (hr : 0 ≤ r ∧ r < N 9) : Sd (rm 0 0 0 0) mX5_set [.ref 21, J r, J 0, J v] (cls I N F ++ T) (cls I N (uN F 9 (uI (F 9) r v)) ++ T) none := by
  have h := tt_set (w := (cls I N F ++ T)) (b := 21) (a := 22) (L := 6) (f := F 9) (c := 0) (v := v) rfl rfl (by omega) (by decide) hr (by decide)
  rw [Int.mul_one, Int.add_zero] at h
  exact h
theorem c10_size : Sd (rm 0 0 0 0) mX5_size [.ref 24] (cls I N F ++ T) (cls I N F ++ T) (some (J (N 10))) := tt_size (b := 24) rfl
theorem c10_full (hn : 0 ≤ N 10 ∧ N 10 ≤ 40) : Sd (rm 0 0 0 0) mX5_isFull [.ref 24] (cls I N F ++ T) (cls I N F ++ T) (some (J (if 40 ≤ N 10 then 1 else 0))) := tt_full (b := 24) rfl (by omega)
theorem c10_has (hn : 0 ≤ N 10 ∧ N 10 ≤ 40) {k : Int} (hk : -2147483648 ≤ k ∧ k < 2147483648) : Sd (rm 0 0 0 0) mX5_has [.ref 24, J k] (cls I N F ++ T) (cls I N F ++ T) (some (J (if 0 ≤ k ∧ k < N 10 then 1 else 0))) := tt_has (b := 24) rfl (by omega) hk
theorem c10_keep (hn : 0 ≤ N 10 ∧ N 10 ≤ 40) {k : Int} (hk : 0 ≤ k ∧ k ≤ N 10) : Sd (rm 0 0 0 0) mX5_keep [.ref 24, J k] (cls I N F ++ T) (cls I (uN N 10 k) F ++ T) none := tt_keep (b := 24) rfl (by omega) hk
theorem c10_add (hn : 0 ≤ N 10 ∧ N 10 < 40) {v : Int} : Sd (rm 0 0 0 0) mX5_add [.ref 24, J v] (cls I N F ++ T) (cls I (uN N 10 (N 10 + 1)) (uN F 10 (uI (F 10) (N 10) v)) ++ T) (some (J (N 10))) := by
  rw [← adf_1]
  exact tt_add (b := 24) (a := 25) (L := 40) rfl rfl (by omega) (by decide) (by decide)
theorem c10_get (hn : 0 ≤ N 10 ∧ N 10 ≤ 40) {r : Int} (hr : 0 ≤ r ∧ r < N 10) : Sd (rm 0 0 0 0) mX5_get [.ref 24, J r, J 0] (cls I N F ++ T) (cls I N F ++ T) (some (J (F 10 r))) := by
  have h := tt_get (w := (cls I N F ++ T)) (b := 24) (a := 25) (L := 40) (f := F 10) (c := 0) rfl rfl (by omega) (by decide) hr (by decide)
  rw [Int.mul_one, Int.add_zero] at h
  exact h
theorem c10_set (hn : 0 ≤ N 10 ∧ N 10 ≤ 40) {r v : Int} (hr : 0 ≤ r ∧ r < N 10) : Sd (rm 0 0 0 0) mX5_set [.ref 24, J r, J 0, J v] (cls I N F ++ T) (cls I N (uN F 10 (uI (F 10) r v)) ++ T) none := by
  have h := tt_set (w := (cls I N F ++ T)) (b := 24) (a := 25) (L := 40) (f := F 10) (c := 0) (v := v) rfl rfl (by omega) (by decide) hr (by decide)
  rw [Int.mul_one, Int.add_zero] at h
  exact h
theorem c11_size : Sd (rm 0 0 0 0) mX5_size [.ref 26] (cls I N F ++ T) (cls I N F ++ T) (some (J (N 11))) := tt_size (b := 26) rfl
theorem c11_full (hn : 0 ≤ N 11 ∧ N 11 ≤ 40) : Sd (rm 0 0 0 0) mX5_isFull [.ref 26] (cls I N F ++ T) (cls I N F ++ T) (some (J (if 40 ≤ N 11 then 1 else 0))) := tt_full (b := 26) rfl (by omega)
theorem c11_has (hn : 0 ≤ N 11 ∧ N 11 ≤ 40) {k : Int} (hk : -2147483648 ≤ k ∧ k < 2147483648) : Sd (rm 0 0 0 0) mX5_has [.ref 26, J k] (cls I N F ++ T) (cls I N F ++ T) (some (J (if 0 ≤ k ∧ k < N 11 then 1 else 0))) := tt_has (b := 26) rfl (by omega) hk
theorem c11_keep (hn : 0 ≤ N 11 ∧ N 11 ≤ 40) {k : Int} (hk : 0 ≤ k ∧ k ≤ N 11) : Sd (rm 0 0 0 0) mX5_keep [.ref 26, J k] (cls I N F ++ T) (cls I (uN N 11 k) F ++ T) none := tt_keep (b := 26) rfl (by omega) hk
theorem c11_add (hn : 0 ≤ N 11 ∧ N 11 < 40) {v : Int} : Sd (rm 0 0 0 0) mX5_add [.ref 26, J v] (cls I N F ++ T) (cls I (uN N 11 (N 11 + 1)) (uN F 11 (uI (F 11) (N 11) v)) ++ T) (some (J (N 11))) := by
  rw [← adf_1]
  exact tt_add (b := 26) (a := 27) (L := 40) rfl rfl (by omega) (by decide) (by decide)
theorem c11_get (hn : 0 ≤ N 11 ∧ N 11 ≤ 40) {r : Int} (hr : 0 ≤ r ∧ r < N 11) : Sd (rm 0 0 0 0) mX5_get [.ref 26, J r, J 0] (cls I N F ++ T) (cls I N F ++ T) (some (J (F 11 r))) := by
  have h := tt_get (w := (cls I N F ++ T)) (b := 26) (a := 27) (L := 40) (f := F 11) (c := 0) rfl rfl (by omega) (by decide) hr (by decide)
  rw [Int.mul_one, Int.add_zero] at h
  exact h
theorem c11_set (hn : 0 ≤ N 11 ∧ N 11 ≤ 40) {r v : Int} (hr : 0 ≤ r ∧ r < N 11) : Sd (rm 0 0 0 0) mX5_set [.ref 26, J r, J 0, J v] (cls I N F ++ T) (cls I N (uN F 11 (uI (F 11) r v)) ++ T) none := by
  have h := tt_set (w := (cls I N F ++ T)) (b := 26) (a := 27) (L := 40) (f := F 11) (c := 0) (v := v) rfl rfl (by omega) (by decide) hr (by decide)
  rw [Int.mul_one, Int.add_zero] at h
  exact h
theorem c12_size : Sd (rm 0 0 0 0) mX5_size [.ref 29] (cls I N F ++ T) (cls I N F ++ T) (some (J (N 12))) := tt_size (b := 29) rfl
theorem c12_full (hn : 0 ≤ N 12 ∧ N 12 ≤ 41) : Sd (rm 0 0 0 0) mX5_isFull [.ref 29] (cls I N F ++ T) (cls I N F ++ T) (some (J (if 41 ≤ N 12 then 1 else 0))) := tt_full (b := 29) rfl (by omega)
theorem c12_has (hn : 0 ≤ N 12 ∧ N 12 ≤ 41) {k : Int} (hk : -2147483648 ≤ k ∧ k < 2147483648) : Sd (rm 0 0 0 0) mX5_has [.ref 29, J k] (cls I N F ++ T) (cls I N F ++ T) (some (J (if 0 ≤ k ∧ k < N 12 then 1 else 0))) := tt_has (b := 29) rfl (by omega) hk
theorem c12_keep (hn : 0 ≤ N 12 ∧ N 12 ≤ 41) {k : Int} (hk : 0 ≤ k ∧ k ≤ N 12) : Sd (rm 0 0 0 0) mX5_keep [.ref 29, J k] (cls I N F ++ T) (cls I (uN N 12 k) F ++ T) none := tt_keep (b := 29) rfl (by omega) hk
theorem c12_add (hn : 0 ≤ N 12 ∧ N 12 < 41) {v : Int} : Sd (rm 0 0 0 0) mX5_add [.ref 29, J v] (cls I N F ++ T) (cls I (uN N 12 (N 12 + 1)) (uN F 12 (adf (F 12) 2 (N 12) v)) ++ T) (some (J (N 12))) := tt_add (b := 29) (a := 30) (L := 82) rfl rfl (by omega) (by decide) (by decide)
theorem c12_get (hn : 0 ≤ N 12 ∧ N 12 ≤ 41) {r c : Int} (hr : 0 ≤ r ∧ r < N 12) (hc : 0 ≤ c ∧ c < 2) : Sd (rm 0 0 0 0) mX5_get [.ref 29, J r, J c] (cls I N F ++ T) (cls I N F ++ T) (some (J (F 12 (r * 2 + c)))) := tt_get (b := 29) (a := 30) (L := 82) rfl rfl (by omega) (by decide) hr hc
theorem c12_set (hn : 0 ≤ N 12 ∧ N 12 ≤ 41) {r c v : Int} (hr : 0 ≤ r ∧ r < N 12) (hc : 0 ≤ c ∧ c < 2) : Sd (rm 0 0 0 0) mX5_set [.ref 29, J r, J c, J v] (cls I N F ++ T) (cls I N (uN F 12 (uI (F 12) (r * 2 + c) v)) ++ T) none := tt_set (b := 29) (a := 30) (L := 82) rfl rfl (by omega) (by decide) hr hc
theorem c12_ask (hn : 0 ≤ N 12 ∧ N 12 ≤ 41) {r c q : Int} (hr : -2147483648 ≤ r ∧ r < 2147483648) (hc : -2147483648 ≤ c ∧ c < 2147483648) (hq : 0 ≤ q ∧ q ≤ 2) : Sd (rm 1 23 0 0) mX5_ask [.ref 29, J r, J c, J q] (cls I N F ++ T) (cls I N F ++ T) (some (J (if 0 ≤ r ∧ r < N 12 then (if 0 ≤ c ∧ c < q then F 12 (r * 2 + c) else -102) else -101))) := tt_ask (b := 29) (a := 30) (L := 82) rfl rfl (by omega) (by decide) hr hc hq
end Tabs
end
section
/-! bits over Int, switches over Int -/
def bnd (a b : Int) : Int := (iI a &&& iI b).toInt
def bor (a b : Int) : Int := (iI a ||| iI b).toInt
def bxr (a b : Int) : Int := (iI a ^^^ iI b).toInt
def bsl (a b : Int) : Int := (iI a <<< (iI b &&& 31)).toInt
def bsr (a b : Int) : Int := (iI a >>> (iI b &&& 31)).toInt
def bus (a b : Int) : Int := ((iI a).toUInt32 >>> ((iI b).toUInt32 &&& Int32.toUInt32 31)).toInt32.toInt
theorem bnd_r (a b : Int) : -2147483648 ≤ bnd a b ∧ bnd a b < 2147483648 := r32 _
theorem bor_r (a b : Int) : -2147483648 ≤ bor a b ∧ bor a b < 2147483648 := r32 _
theorem bxr_r (a b : Int) : -2147483648 ≤ bxr a b ∧ bxr a b < 2147483648 := r32 _
theorem bsl_r (a b : Int) : -2147483648 ≤ bsl a b ∧ bsl a b < 2147483648 := r32 _
theorem bsr_r (a b : Int) : -2147483648 ≤ bsr a b ∧ bsr a b < 2147483648 := r32 _
theorem bus_r (a b : Int) : -2147483648 ≤ bus a b ∧ bus a b < 2147483648 := r32 _
section VdBits
variable {R : Room} {ex : List (Nat × (Nat → Int32))} {M : MI} {n0 : Nat} {Z : XW → Option Value → Prop} {ca sl pc pc' : Nat} {ls : List (Option Value)} {st : List Value} {w : XW} {a b n : Int} {off : Int} {tgt : Nat}
theorem vi_and (hd : DcAt M.2.1 pc .iand 1 pc') (k : Vd R ex M n0 Z ca sl pc' ls (J (bnd a b) :: st) w) : Vd R ex M n0 Z ca sl pc ls (J b :: J a :: st) w := v_iand hd (by unfold bnd J at k; rw [← iI_of] at k; exact k)
theorem vi_or (hd : DcAt M.2.1 pc .ior 1 pc') (k : Vd R ex M n0 Z ca sl pc' ls (J (bor a b) :: st) w) : Vd R ex M n0 Z ca sl pc ls (J b :: J a :: st) w := v_ior hd (by unfold bor J at k; rw [← iI_of] at k; exact k)
theorem vi_xor (hd : DcAt M.2.1 pc .ixor 1 pc') (k : Vd R ex M n0 Z ca sl pc' ls (J (bxr a b) :: st) w) : Vd R ex M n0 Z ca sl pc ls (J b :: J a :: st) w := v_ixor hd (by unfold bxr J at k; rw [← iI_of] at k; exact k)
theorem vi_shl (hd : DcAt M.2.1 pc .ishl 1 pc') (k : Vd R ex M n0 Z ca sl pc' ls (J (bsl a b) :: st) w) : Vd R ex M n0 Z ca sl pc ls (J b :: J a :: st) w := v_ishl hd (by unfold bsl J at k; rw [← iI_of] at k; exact k)
theorem vi_shr (hd : DcAt M.2.1 pc .ishr 1 pc') (k : Vd R ex M n0 Z ca sl pc' ls (J (bsr a b) :: st) w) : Vd R ex M n0 Z ca sl pc ls (J b :: J a :: st) w := v_ishr hd (by unfold bsr J at k; rw [← iI_of] at k; exact k)
theorem vi_ushr (hd : DcAt M.2.1 pc .iushr 1 pc') (k : Vd R ex M n0 Z ca sl pc' ls (J (bus a b) :: st) w) : Vd R ex M n0 Z ca sl pc ls (J b :: J a :: st) w := v_iushr hd rfl (by unfold bus J at k; rw [← iI_of] at k; exact k)
theorem vi_lookup {dflt : Int} {ps : Array (Int × Int)} {len : Nat} (hd : DcAt M.2.1 pc (.lookupswitch dflt ps) len pc') (ha : -2147483648 ≤ a ∧ a < 2147483648) (hp : (ps.toList.zip (ps.toList.drop 1)).all (fun (a, next) => a.1 < next.1) = true) (ho : Op.lookupswitch.offset ps.toList dflt a = off) (ht : (pc : Int) + off = (tgt : Int)) (k : Vd R ex M n0 Z ca sl tgt ls st w) : Vd R ex M n0 Z ca sl pc ls (J a :: st) w := v_lookup hd hp (by rw [iI_toInt ha]; exact ho) ht k
theorem vi_tabIn {dflt lo hi : Int} {offs : Array Int} {len : Nat} (hd : DcAt M.2.1 pc (.tableswitch dflt lo hi offs) len pc') (ha : -2147483648 ≤ a ∧ a < 2147483648) (h1 : lo ≤ a) (h2 : a ≤ hi) (ho : offs[(a - lo).toNat]? = some off) (ht : (pc : Int) + off = (tgt : Int)) (k : Vd R ex M n0 Z ca sl tgt ls st w) : Vd R ex M n0 Z ca sl pc ls (J a :: st) w := v_tableIn hd (by rw [iI_toInt ha]; omega) (by rw [iI_toInt ha]; omega) (by rw [iI_toInt ha]; exact ho) ht k
theorem vi_tabOut {dflt lo hi : Int} {offs : Array Int} {len : Nat} (hd : DcAt M.2.1 pc (.tableswitch dflt lo hi offs) len pc') (ha : -2147483648 ≤ a ∧ a < 2147483648) (h : a < lo ∨ hi < a) (ht : (pc : Int) + dflt = (tgt : Int)) (k : Vd R ex M n0 Z ca sl tgt ls st w) : Vd R ex M n0 Z ca sl pc ls (J a :: st) w := v_tableOut hd (by rw [iI_toInt ha]; exact h) ht k
end VdBits
/-- every number held is an int -/
def FR (F : Nat → Int → Int) : Prop := ∀ (t : Nat) (i : Int), -2147483648 ≤ F t i ∧ F t i < 2147483648
def IR (I : Nat → Int) : Prop := ∀ k : Nat, -2147483648 ≤ I k ∧ I k < 2147483648
/-- every table has no more rows than its room -/
def NR (N : Nat → Int) : Prop := (0 ≤ N 0 ∧ N 0 ≤ 1500) ∧ (0 ≤ N 1 ∧ N 1 ≤ 1500) ∧ (0 ≤ N 2 ∧ N 2 ≤ 1500) ∧ (0 ≤ N 3 ∧ N 3 ≤ 60) ∧ (0 ≤ N 4 ∧ N 4 ≤ 150) ∧ (0 ≤ N 5 ∧ N 5 ≤ 150) ∧ (0 ≤ N 6 ∧ N 6 ≤ 30) ∧ (0 ≤ N 7 ∧ N 7 ≤ 20) ∧ (0 ≤ N 8 ∧ N 8 ≤ 260) ∧ (0 ≤ N 9 ∧ N 9 ≤ 6) ∧ (0 ≤ N 10 ∧ N 10 ≤ 40) ∧ (0 ≤ N 11 ∧ N 11 ≤ 40) ∧ (0 ≤ N 12 ∧ N 12 ≤ 41)
theorem FR.up {F : Nat → Int → Int} (h : FR F) {t : Nat} {g : Int → Int} (hg : ∀ i, -2147483648 ≤ g i ∧ g i < 2147483648) : FR (uN F t g) := by
  intro k i
  unfold uN
  by_cases hk : k = t
  · rw [if_pos hk]; exact hg i
  · rw [if_neg hk]; exact h k i
theorem uI_r {g : Int → Int} {j v : Int} (hg : ∀ i, -2147483648 ≤ g i ∧ g i < 2147483648) (hv : -2147483648 ≤ v ∧ v < 2147483648) : ∀ i, -2147483648 ≤ uI g j v i ∧ uI g j v i < 2147483648 := by
  intro i
  unfold uI
  by_cases hk : i = j
  · rw [if_pos hk]; exact hv
  · rw [if_neg hk]; exact hg i
theorem adf_r {g : Int → Int} {c n v : Int} (hg : ∀ i, -2147483648 ≤ g i ∧ g i < 2147483648) (hv : -2147483648 ≤ v ∧ v < 2147483648) : ∀ i, -2147483648 ≤ adf g c n v i ∧ adf g c n v i < 2147483648 := by
  intro i
  unfold adf clr
  by_cases hk : n * c + 1 ≤ i ∧ i < n * c + c
  · rw [if_pos hk]; omega
  · rw [if_neg hk]; exact uI_r hg hv i
theorem IR.up {I : Nat → Int} (h : IR I) {k : Nat} {v : Int} (hv : -2147483648 ≤ v ∧ v < 2147483648) : IR (uN I k v) := by
  intro j
  unfold uN
  by_cases hk : j = k
  · rw [if_pos hk]; exact hv
  · rw [if_neg hk]; exact h j
end
section
/-! Score, Reader: small methods (printed by wip/tools/gen_c1.py) -/
set_option maxRecDepth 100000 in
set_option maxHeartbeats 4000000 in
theorem k_hasMark {T : XW} {I N : Nat → Int} {F : Nat → Int → Int} (hF : FR F) (hI : IR I) (hN : NR N) {a b : Int} (ha : 0 ≤ a ∧ a < N 4) : Sd (rm 1 23 0 0) mX3_hasMark [.ref 5, J a, J b] (cls I N F ++ T) (cls I N F ++ T) (some (J (if bnd (F 4 (a * 8 + 1)) b = 0 then 0 else 1))) := by
  unfold Sd
  unfold NR at hN
  refine sp_of (ls := [some (.ref 5), some (J a), some (J b)]) (by decide) (nle rfl) rfl rfl ?_
  refine v_aload_n (dec_of DX3_hasMark 0 rfl) rfl ?_
  refine v_get fX3_23 (dec_of DX3_hasMark 1 rfl) rfl rfl ?_
  refine v_iload_n (dec_of DX3_hasMark 2 rfl) rfl ?_
  refine vi_const (dec_of DX3_hasMark 3 rfl) ?_
  refine v_V2r (c4_get (by first | omega | exact bnd_r _ _ | exact hF _ _ | exact hI _ | exact hG _ _ | exact hK _ | (simp [uN] <;> omega)) (by first | omega | exact bnd_r _ _ | exact hF _ _ | exact hI _ | exact hG _ _ | exact hK _ | (simp [uN] <;> omega)) (by first | omega | exact bnd_r _ _ | exact hF _ _ | exact hI _ | exact hG _ _ | exact hK _ | (simp [uN] <;> omega))) lX3_53 (dec_of DX3_hasMark 4 rfl) rfl rfl (by decide) (nle rfl) rfl ?_
  refine v_iload_n (dec_of DX3_hasMark 5 rfl) rfl ?_
  refine vi_and (dec_of DX3_hasMark 6 rfl) ?_
  refine vi_if_eq (tgt := 18) (dec_of DX3_hasMark 7 rfl) (by decide) (by first | omega | exact bnd_r _ _ | exact hF _ _ | exact hI _ | exact hG _ _ | exact hK _ | (simp [uN] <;> omega)) (fun c11 => ?_) (fun c11 => ?_)
  · rw [if_pos c11]
    refine vi_const (dec_of DX3_hasMark 10 rfl) ?_
    exact vi_retz (dec_of DX3_hasMark 11 rfl) rfl (by first | omega | exact bnd_r _ _ | exact hF _ _ | exact hI _ | exact hG _ _ | exact hK _ | (simp [uN] <;> omega)) ⟨by decide, by decide⟩ (⟨rfl, rfl⟩)
  · rw [if_neg c11]
    refine vi_const (dec_of DX3_hasMark 8 rfl) ?_
    refine v_goto (tgt := 19) (dec_of DX3_hasMark 9 rfl) (by decide) ?_
    exact vi_retz (dec_of DX3_hasMark 11 rfl) rfl (by first | omega | exact bnd_r _ _ | exact hF _ _ | exact hI _ | exact hG _ _ | exact hK _ | (simp [uN] <;> omega)) ⟨by decide, by decide⟩ (⟨rfl, rfl⟩)
set_option maxRecDepth 100000 in
set_option maxHeartbeats 4000000 in
theorem k_sameGroup {T : XW} {I N : Nat → Int} {F : Nat → Int → Int} (hF : FR F) (hI : IR I) (hN : NR N) {a b : Int} (ha : -2147483648 ≤ a ∧ a < 2147483648) (hb : -2147483648 ≤ b ∧ b < 2147483648) : Sd (rm 1 23 0 0) mX3_sameGroup [.ref 5, J a, J b] (cls I N F ++ T) (cls I N F ++ T) (some (J (if (0 ≤ a ∧ a < N 4) ∧ (0 ≤ b ∧ b < N 4) ∧ F 4 (a * 8 + 3) = F 4 (b * 8 + 3) then 1 else 0))) := by
  unfold Sd
  unfold NR at hN
  refine sp_of (ls := [some (.ref 5), some (J a), some (J b)]) (by decide) (nle rfl) rfl rfl ?_
  refine v_aload_n (dec_of DX3_sameGroup 0 rfl) rfl ?_
  refine v_get fX3_23 (dec_of DX3_sameGroup 1 rfl) rfl rfl ?_
  refine v_iload_n (dec_of DX3_sameGroup 2 rfl) rfl ?_
  refine v_V1r (c4_has (by first | omega | exact bnd_r _ _ | exact hF _ _ | exact hI _ | exact hG _ _ | exact hK _ | (simp [uN] <;> omega)) (by first | omega | exact bnd_r _ _ | exact hF _ _ | exact hI _ | exact hG _ _ | exact hK _ | (simp [uN] <;> omega))) lX3_57 (dec_of DX3_sameGroup 3 rfl) rfl rfl (by decide) (nle rfl) rfl ?_
  refine vi_if_eq (tgt := 47) (dec_of DX3_sameGroup 4 rfl) (by decide) (by first | omega | exact bnd_r _ _ | exact hF _ _ | exact hI _ | exact hG _ _ | exact hK _ | (simp [uN] <;> omega)) (fun c8 => ?_) (fun c8 => ?_)
  · rw [if_neg (by omega)]
    refine vi_const (dec_of DX3_sameGroup 23 rfl) ?_
    exact vi_retz (dec_of DX3_sameGroup 24 rfl) rfl (by first | omega | exact bnd_r _ _ | exact hF _ _ | exact hI _ | exact hG _ _ | exact hK _ | (simp [uN] <;> omega)) ⟨by decide, by decide⟩ (⟨rfl, rfl⟩)
  · refine v_aload_n (dec_of DX3_sameGroup 5 rfl) rfl ?_
    refine v_get fX3_23 (dec_of DX3_sameGroup 6 rfl) rfl rfl ?_
    refine v_iload_n (dec_of DX3_sameGroup 7 rfl) rfl ?_
    refine v_V1r (c4_has (by first | omega | exact bnd_r _ _ | exact hF _ _ | exact hI _ | exact hG _ _ | exact hK _ | (simp [uN] <;> omega)) (by first | omega | exact bnd_r _ _ | exact hF _ _ | exact hI _ | exact hG _ _ | exact hK _ | (simp [uN] <;> omega))) lX3_57 (dec_of DX3_sameGroup 8 rfl) rfl rfl (by decide) (nle rfl) rfl ?_
    refine vi_if_eq (tgt := 47) (dec_of DX3_sameGroup 9 rfl) (by decide) (by first | omega | exact bnd_r _ _ | exact hF _ _ | exact hI _ | exact hG _ _ | exact hK _ | (simp [uN] <;> omega)) (fun c19 => ?_) (fun c19 => ?_)
    · rw [if_neg (by omega)]
      refine vi_const (dec_of DX3_sameGroup 23 rfl) ?_
      exact vi_retz (dec_of DX3_sameGroup 24 rfl) rfl (by first | omega | exact bnd_r _ _ | exact hF _ _ | exact hI _ | exact hG _ _ | exact hK _ | (simp [uN] <;> omega)) ⟨by decide, by decide⟩ (⟨rfl, rfl⟩)
    · refine v_aload_n (dec_of DX3_sameGroup 10 rfl) rfl ?_
      refine v_get fX3_23 (dec_of DX3_sameGroup 11 rfl) rfl rfl ?_
      refine v_iload_n (dec_of DX3_sameGroup 12 rfl) rfl ?_
      refine vi_const (dec_of DX3_sameGroup 13 rfl) ?_
      refine v_V2r (c4_get (by first | omega | exact bnd_r _ _ | exact hF _ _ | exact hI _ | exact hG _ _ | exact hK _ | (simp [uN] <;> omega)) (by first | omega | exact bnd_r _ _ | exact hF _ _ | exact hI _ | exact hG _ _ | exact hK _ | (simp [uN] <;> omega)) (by first | omega | exact bnd_r _ _ | exact hF _ _ | exact hI _ | exact hG _ _ | exact hK _ | (simp [uN] <;> omega))) lX3_53 (dec_of DX3_sameGroup 14 rfl) rfl rfl (by decide) (nle rfl) rfl ?_
      refine v_aload_n (dec_of DX3_sameGroup 15 rfl) rfl ?_
      refine v_get fX3_23 (dec_of DX3_sameGroup 16 rfl) rfl rfl ?_
      refine v_iload_n (dec_of DX3_sameGroup 17 rfl) rfl ?_
      refine vi_const (dec_of DX3_sameGroup 18 rfl) ?_
      refine v_V2r (c4_get (by first | omega | exact bnd_r _ _ | exact hF _ _ | exact hI _ | exact hG _ _ | exact hK _ | (simp [uN] <;> omega)) (by first | omega | exact bnd_r _ _ | exact hF _ _ | exact hI _ | exact hG _ _ | exact hK _ | (simp [uN] <;> omega)) (by first | omega | exact bnd_r _ _ | exact hF _ _ | exact hI _ | exact hG _ _ | exact hK _ | (simp [uN] <;> omega))) lX3_53 (dec_of DX3_sameGroup 19 rfl) rfl rfl (by decide) (nle rfl) rfl ?_
      refine vi_icmp_ne (tgt := 47) (dec_of DX3_sameGroup 20 rfl) (by decide) (by first | omega | exact bnd_r _ _ | exact hF _ _ | exact hI _ | exact hG _ _ | exact hK _ | (simp [uN] <;> omega)) (by first | omega | exact bnd_r _ _ | exact hF _ _ | exact hI _ | exact hG _ _ | exact hK _ | (simp [uN] <;> omega)) (fun c40 => ?_) (fun c40 => ?_)
      · rw [if_neg (by omega)]
        refine vi_const (dec_of DX3_sameGroup 23 rfl) ?_
        exact vi_retz (dec_of DX3_sameGroup 24 rfl) rfl (by first | omega | exact bnd_r _ _ | exact hF _ _ | exact hI _ | exact hG _ _ | exact hK _ | (simp [uN] <;> omega)) ⟨by decide, by decide⟩ (⟨rfl, rfl⟩)
      · rw [if_pos (by omega)]
        refine vi_const (dec_of DX3_sameGroup 21 rfl) ?_
        refine v_goto (tgt := 48) (dec_of DX3_sameGroup 22 rfl) (by decide) ?_
        exact vi_retz (dec_of DX3_sameGroup 24 rfl) rfl (by first | omega | exact bnd_r _ _ | exact hF _ _ | exact hI _ | exact hG _ _ | exact hK _ | (simp [uN] <;> omega)) ⟨by decide, by decide⟩ (⟨rfl, rfl⟩)
set_option maxRecDepth 100000 in
set_option maxHeartbeats 4000000 in
theorem k_guideOf {T : XW} {I N : Nat → Int} {F : Nat → Int → Int} (hF : FR F) (hI : IR I) (hN : NR N) {e : Int} (he : 0 ≤ e ∧ e < N 7) (hh : 0 ≤ F 7 (e * 2 + 0) ∧ F 7 (e * 2 + 0) < N 4 → -1000 ≤ F 4 (F 7 (e * 2 + 0) * 8 + 5) + F 7 (e * 2 + 1) ∧ F 4 (F 7 (e * 2 + 0) * 8 + 5) + F 7 (e * 2 + 1) ≤ 1000) : Sd (rm 1 23 0 0) mX3_guideOf [.ref 5, J e] (cls I N F ++ T) (cls I N F ++ T) (some (J (if (0 ≤ F 7 (e * 2 + 0) ∧ F 7 (e * 2 + 0) < N 4) ∧ 0 ≤ F 4 (F 7 (e * 2 + 0) * 8 + 5) + F 7 (e * 2 + 1) ∧ F 4 (F 7 (e * 2 + 0) * 8 + 5) + F 7 (e * 2 + 1) ≤ 12 then F 4 (F 7 (e * 2 + 0) * 8 + 5) + F 7 (e * 2 + 1) else -100))) := by
  unfold Sd
  unfold NR at hN
  refine sp_of (ls := [some (.ref 5), some (J e), none, none]) (by decide) (nle rfl) rfl rfl ?_
  refine v_aload_n (dec_of DX3_guideOf 0 rfl) rfl ?_
  refine v_get fX3_32 (dec_of DX3_guideOf 1 rfl) rfl rfl ?_
  refine v_iload_n (dec_of DX3_guideOf 2 rfl) rfl ?_
  refine vi_const (dec_of DX3_guideOf 3 rfl) ?_
  refine v_V2r (c7_get (by first | omega | exact bnd_r _ _ | exact hF _ _ | exact hI _ | exact hG _ _ | exact hK _ | (simp [uN] <;> omega)) (by first | omega | exact bnd_r _ _ | exact hF _ _ | exact hI _ | exact hG _ _ | exact hK _ | (simp [uN] <;> omega)) (by first | omega | exact bnd_r _ _ | exact hF _ _ | exact hI _ | exact hG _ _ | exact hK _ | (simp [uN] <;> omega))) lX3_53 (dec_of DX3_guideOf 4 rfl) rfl rfl (by decide) (nle rfl) rfl ?_
  refine v_istore_n (dec_of DX3_guideOf 5 rfl) (by decide) ?_
  dsimp only [List.set]
  refine v_aload_n (dec_of DX3_guideOf 6 rfl) rfl ?_
  refine v_get fX3_23 (dec_of DX3_guideOf 7 rfl) rfl rfl ?_
  refine v_iload_n (dec_of DX3_guideOf 8 rfl) rfl ?_
  refine v_V1r (c4_has (by first | omega | exact bnd_r _ _ | exact hF _ _ | exact hI _ | exact hG _ _ | exact hK _ | (simp [uN] <;> omega)) (by first | omega | exact bnd_r _ _ | exact hF _ _ | exact hI _ | exact hG _ _ | exact hK _ | (simp [uN] <;> omega))) lX3_57 (dec_of DX3_guideOf 9 rfl) rfl rfl (by decide) (nle rfl) rfl ?_
  refine vi_if_ne (tgt := 24) (dec_of DX3_guideOf 10 rfl) (by decide) (by first | omega | exact bnd_r _ _ | exact hF _ _ | exact hI _ | exact hG _ _ | exact hK _ | (simp [uN] <;> omega)) (fun c18 => ?_) (fun c18 => ?_)
  · have h9 := hh (by omega)
    refine v_aload_n (dec_of DX3_guideOf 13 rfl) rfl ?_
    refine v_get fX3_23 (dec_of DX3_guideOf 14 rfl) rfl rfl ?_
    refine v_iload_n (dec_of DX3_guideOf 15 rfl) rfl ?_
    refine vi_const (dec_of DX3_guideOf 16 rfl) ?_
    refine v_V2r (c4_get (by first | omega | exact bnd_r _ _ | exact hF _ _ | exact hI _ | exact hG _ _ | exact hK _ | (simp [uN] <;> omega)) (by first | omega | exact bnd_r _ _ | exact hF _ _ | exact hI _ | exact hG _ _ | exact hK _ | (simp [uN] <;> omega)) (by first | omega | exact bnd_r _ _ | exact hF _ _ | exact hI _ | exact hG _ _ | exact hK _ | (simp [uN] <;> omega))) lX3_53 (dec_of DX3_guideOf 17 rfl) rfl rfl (by decide) (nle rfl) rfl ?_
    refine v_aload_n (dec_of DX3_guideOf 18 rfl) rfl ?_
    refine v_get fX3_32 (dec_of DX3_guideOf 19 rfl) rfl rfl ?_
    refine v_iload_n (dec_of DX3_guideOf 20 rfl) rfl ?_
    refine vi_const (dec_of DX3_guideOf 21 rfl) ?_
    refine v_V2r (c7_get (by first | omega | exact bnd_r _ _ | exact hF _ _ | exact hI _ | exact hG _ _ | exact hK _ | (simp [uN] <;> omega)) (by first | omega | exact bnd_r _ _ | exact hF _ _ | exact hI _ | exact hG _ _ | exact hK _ | (simp [uN] <;> omega)) (by first | omega | exact bnd_r _ _ | exact hF _ _ | exact hI _ | exact hG _ _ | exact hK _ | (simp [uN] <;> omega))) lX3_53 (dec_of DX3_guideOf 22 rfl) rfl rfl (by decide) (nle rfl) rfl ?_
    refine vi_add (dec_of DX3_guideOf 23 rfl) ?_
    refine v_istore_n (dec_of DX3_guideOf 24 rfl) (by decide) ?_
    dsimp only [List.set]
    refine v_iload_n (dec_of DX3_guideOf 25 rfl) rfl ?_
    refine vi_if_lt (tgt := 54) (dec_of DX3_guideOf 26 rfl) (by decide) (by first | omega | exact bnd_r _ _ | exact hF _ _ | exact hI _ | exact hG _ _ | exact hK _ | (simp [uN] <;> omega)) (fun c45 => ?_) (fun c45 => ?_)
    · rw [if_neg (by omega)]
      refine vi_bi (dec_of DX3_guideOf 30 rfl) (by decide) ?_
      refine v_goto (tgt := 60) (dec_of DX3_guideOf 31 rfl) (by decide) ?_
      exact vi_ret (dec_of DX3_guideOf 33 rfl) rfl ⟨by decide, by decide⟩ (⟨rfl, rfl⟩)
    · refine v_iload_n (dec_of DX3_guideOf 27 rfl) rfl ?_
      refine vi_bi (dec_of DX3_guideOf 28 rfl) (by decide) ?_
      refine vi_icmp_le (tgt := 59) (dec_of DX3_guideOf 29 rfl) (by decide) (by first | omega | exact bnd_r _ _ | exact hF _ _ | exact hI _ | exact hG _ _ | exact hK _ | (simp [uN] <;> omega)) (by first | omega | exact bnd_r _ _ | exact hF _ _ | exact hI _ | exact hG _ _ | exact hK _ | (simp [uN] <;> omega)) (fun c51 => ?_) (fun c51 => ?_)
      · rw [if_pos (by omega)]
        refine v_iload_n (dec_of DX3_guideOf 32 rfl) rfl ?_
        exact vi_ret (dec_of DX3_guideOf 33 rfl) rfl ⟨by decide, by decide⟩ (⟨rfl, rfl⟩)
      · rw [if_neg (by omega)]
        refine vi_bi (dec_of DX3_guideOf 30 rfl) (by decide) ?_
        refine v_goto (tgt := 60) (dec_of DX3_guideOf 31 rfl) (by decide) ?_
        exact vi_ret (dec_of DX3_guideOf 33 rfl) rfl ⟨by decide, by decide⟩ (⟨rfl, rfl⟩)
  · rw [if_neg (by omega)]
    refine vi_bi (dec_of DX3_guideOf 11 rfl) (by decide) ?_
    exact vi_ret (dec_of DX3_guideOf 12 rfl) rfl ⟨by decide, by decide⟩ (⟨rfl, rfl⟩)
set_option maxRecDepth 100000 in
set_option maxHeartbeats 4000000 in
theorem k_finalStep {T : XW} {I N : Nat → Int} {F : Nat → Int → Int} (hF : FR F) (hI : IR I) (hN : NR N) (h4 : 0 < N 4) : Sd (rm 1 23 0 0) mX3_finalStep [.ref 5] (cls I N F ++ T) (cls I N F ++ T) (some (J (F 4 ((N 4 - 1) * 8 + 5)))) := by
  unfold Sd
  unfold NR at hN
  refine sp_of (ls := [some (.ref 5)]) (by decide) (nle rfl) rfl rfl ?_
  refine v_aload_n (dec_of DX3_finalStep 0 rfl) rfl ?_
  refine v_get fX3_23 (dec_of DX3_finalStep 1 rfl) rfl rfl ?_
  refine v_aload_n (dec_of DX3_finalStep 2 rfl) rfl ?_
  refine v_get fX3_23 (dec_of DX3_finalStep 3 rfl) rfl rfl ?_
  refine v_V0r (c4_size) lX3_49 (dec_of DX3_finalStep 4 rfl) rfl rfl (by decide) (nle rfl) rfl ?_
  refine vi_const (dec_of DX3_finalStep 5 rfl) ?_
  refine vi_sub (dec_of DX3_finalStep 6 rfl) ?_
  refine vi_const (dec_of DX3_finalStep 7 rfl) ?_
  refine v_V2r (c4_get (by first | omega | exact bnd_r _ _ | exact hF _ _ | exact hI _ | exact hG _ _ | exact hK _ | (simp [uN] <;> omega)) (by first | omega | exact bnd_r _ _ | exact hF _ _ | exact hI _ | exact hG _ _ | exact hK _ | (simp [uN] <;> omega)) (by first | omega | exact bnd_r _ _ | exact hF _ _ | exact hI _ | exact hG _ _ | exact hK _ | (simp [uN] <;> omega))) lX3_53 (dec_of DX3_finalStep 8 rfl) rfl rfl (by decide) (nle rfl) rfl ?_
  exact vi_ret (dec_of DX3_finalStep 9 rfl) rfl ⟨by decide, by decide⟩ (⟨rfl, rfl⟩)
set_option maxRecDepth 100000 in
set_option maxHeartbeats 4000000 in
theorem k_clear {T : XW} {I N : Nat → Int} {F : Nat → Int → Int} (hF : FR F) (hI : IR I) (hN : NR N)  : Sd (rm 1 21 0 0) mX3_clear [.ref 5] (cls I N F ++ T) (cls (uN (uN I 1 0) 2 0) (uN (uN (uN (uN (uN (uN (uN N 2 0) 3 0) 4 0) 5 0) 6 0) 7 0) 8 0) F ++ T) (none) := by
  unfold Sd
  unfold NR at hN
  refine sp_of (ls := [some (.ref 5)]) (by decide) (nle rfl) rfl rfl ?_
  refine v_aload_n (dec_of DX3_clear 0 rfl) rfl ?_
  refine v_get fX3_16 (dec_of DX3_clear 1 rfl) rfl rfl ?_
  refine vi_const (dec_of DX3_clear 2 rfl) ?_
  refine v_V1v (c2_keep (by first | omega | exact bnd_r _ _ | exact hF _ _ | exact hI _ | exact hG _ _ | exact hK _ | (simp [uN] <;> omega)) (by first | omega | exact bnd_r _ _ | exact hF _ _ | exact hI _ | exact hG _ _ | exact hK _ | (simp [uN] <;> omega))) lX3_45 (dec_of DX3_clear 3 rfl) rfl rfl (by decide) (nle rfl) rfl ?_
  refine v_aload_n (dec_of DX3_clear 4 rfl) rfl ?_
  refine v_get fX3_20 (dec_of DX3_clear 5 rfl) rfl rfl ?_
  refine vi_const (dec_of DX3_clear 6 rfl) ?_
  refine v_V1v (c3_keep (by first | omega | exact bnd_r _ _ | exact hF _ _ | exact hI _ | exact hG _ _ | exact hK _ | (simp [uN] <;> omega)) (by first | omega | exact bnd_r _ _ | exact hF _ _ | exact hI _ | exact hG _ _ | exact hK _ | (simp [uN] <;> omega))) lX3_45 (dec_of DX3_clear 7 rfl) rfl rfl (by decide) (nle rfl) rfl ?_
  refine v_aload_n (dec_of DX3_clear 8 rfl) rfl ?_
  refine v_get fX3_23 (dec_of DX3_clear 9 rfl) rfl rfl ?_
  refine vi_const (dec_of DX3_clear 10 rfl) ?_
  refine v_V1v (c4_keep (by first | omega | exact bnd_r _ _ | exact hF _ _ | exact hI _ | exact hG _ _ | exact hK _ | (simp [uN] <;> omega)) (by first | omega | exact bnd_r _ _ | exact hF _ _ | exact hI _ | exact hG _ _ | exact hK _ | (simp [uN] <;> omega))) lX3_45 (dec_of DX3_clear 11 rfl) rfl rfl (by decide) (nle rfl) rfl ?_
  refine v_aload_n (dec_of DX3_clear 12 rfl) rfl ?_
  refine v_get fX3_26 (dec_of DX3_clear 13 rfl) rfl rfl ?_
  refine vi_const (dec_of DX3_clear 14 rfl) ?_
  refine v_V1v (c5_keep (by first | omega | exact bnd_r _ _ | exact hF _ _ | exact hI _ | exact hG _ _ | exact hK _ | (simp [uN] <;> omega)) (by first | omega | exact bnd_r _ _ | exact hF _ _ | exact hI _ | exact hG _ _ | exact hK _ | (simp [uN] <;> omega))) lX3_45 (dec_of DX3_clear 15 rfl) rfl rfl (by decide) (nle rfl) rfl ?_
  refine v_aload_n (dec_of DX3_clear 16 rfl) rfl ?_
  refine v_get fX3_29 (dec_of DX3_clear 17 rfl) rfl rfl ?_
  refine vi_const (dec_of DX3_clear 18 rfl) ?_
  refine v_V1v (c6_keep (by first | omega | exact bnd_r _ _ | exact hF _ _ | exact hI _ | exact hG _ _ | exact hK _ | (simp [uN] <;> omega)) (by first | omega | exact bnd_r _ _ | exact hF _ _ | exact hI _ | exact hG _ _ | exact hK _ | (simp [uN] <;> omega))) lX3_45 (dec_of DX3_clear 19 rfl) rfl rfl (by decide) (nle rfl) rfl ?_
  refine v_aload_n (dec_of DX3_clear 20 rfl) rfl ?_
  refine v_get fX3_32 (dec_of DX3_clear 21 rfl) rfl rfl ?_
  refine vi_const (dec_of DX3_clear 22 rfl) ?_
  refine v_V1v (c7_keep (by first | omega | exact bnd_r _ _ | exact hF _ _ | exact hI _ | exact hG _ _ | exact hK _ | (simp [uN] <;> omega)) (by first | omega | exact bnd_r _ _ | exact hF _ _ | exact hI _ | exact hG _ _ | exact hK _ | (simp [uN] <;> omega))) lX3_45 (dec_of DX3_clear 23 rfl) rfl rfl (by decide) (nle rfl) rfl ?_
  refine v_aload_n (dec_of DX3_clear 24 rfl) rfl ?_
  refine v_get fX3_35 (dec_of DX3_clear 25 rfl) rfl rfl ?_
  refine vi_const (dec_of DX3_clear 26 rfl) ?_
  refine v_V1v (c8_keep (by first | omega | exact bnd_r _ _ | exact hF _ _ | exact hI _ | exact hG _ _ | exact hK _ | (simp [uN] <;> omega)) (by first | omega | exact bnd_r _ _ | exact hF _ _ | exact hI _ | exact hG _ _ | exact hK _ | (simp [uN] <;> omega))) lX3_45 (dec_of DX3_clear 27 rfl) rfl rfl (by decide) (nle rfl) rfl ?_
  refine v_aload_n (dec_of DX3_clear 28 rfl) rfl ?_
  refine vi_const (dec_of DX3_clear 29 rfl) ?_
  refine cp_1 fX3_38 (dec_of DX3_clear 30 rfl) ?_
  refine v_aload_n (dec_of DX3_clear 31 rfl) rfl ?_
  refine vi_const (dec_of DX3_clear 32 rfl) ?_
  refine cp_2 fX3_42 (dec_of DX3_clear 33 rfl) ?_
  exact vi_vret (dec_of DX3_clear 34 rfl) rfl ⟨by decide, by decide⟩ (⟨rfl, rfl⟩)
set_option maxRecDepth 100000 in
set_option maxHeartbeats 4000000 in
theorem k_refuse {T : XW} {I N : Nat → Int} {F : Nat → Int → Int} {a b : Int} : Sd (rm 0 0 0 0) mX2_refuse [.ref 20, J a, J b] (cls I N F ++ T) (cls (uN (uN I 3 a) 4 b) N F ++ T) (none) := by
  unfold Sd
  refine sp_of (ls := [some (.ref 20), some (J a), some (J b)]) (by decide) (nle rfl) rfl rfl ?_
  refine v_aload_n (dec_of DX2_refuse 0 rfl) rfl ?_
  refine v_iload_n (dec_of DX2_refuse 1 rfl) rfl ?_
  refine cp_3 fX2_37 (dec_of DX2_refuse 2 rfl) ?_
  refine v_aload_n (dec_of DX2_refuse 3 rfl) rfl ?_
  refine v_iload_n (dec_of DX2_refuse 4 rfl) rfl ?_
  refine cp_4 fX2_26 (dec_of DX2_refuse 5 rfl) ?_
  exact vi_vret (dec_of DX2_refuse 6 rfl) rfl ⟨by decide, by decide⟩ (⟨rfl, rfl⟩)
set_option maxRecDepth 100000 in
set_option maxHeartbeats 4000000 in
theorem k_isBlank {w : XW} {b : Int} (hb : -2147483648 ≤ b ∧ b < 2147483648) : Sd (rm 0 0 0 0) mX2_isBlank [J b] (w) (w) (some (J (if b = 32 ∨ b = 10 then 1 else 0))) := by
  unfold Sd
  refine sp_of (ls := [some (J b)]) (by decide) (nle rfl) rfl rfl ?_
  refine v_iload_n (dec_of DX2_isBlank 0 rfl) rfl ?_
  refine vi_bi (dec_of DX2_isBlank 1 rfl) (by decide) ?_
  refine vi_icmp_eq (tgt := 12) (dec_of DX2_isBlank 2 rfl) (by decide) (by first | omega | exact bnd_r _ _ | exact hF _ _ | exact hI _ | exact hG _ _ | exact hK _ | (simp [uN] <;> omega)) (by first | omega | exact bnd_r _ _ | exact hF _ _ | exact hI _ | exact hG _ _ | exact hK _ | (simp [uN] <;> omega)) (fun c3 => ?_) (fun c3 => ?_)
  · rw [if_pos (by omega)]
    refine vi_const (dec_of DX2_isBlank 6 rfl) ?_
    refine v_goto (tgt := 17) (dec_of DX2_isBlank 7 rfl) (by decide) ?_
    exact vi_retz (dec_of DX2_isBlank 9 rfl) rfl (by first | omega | exact bnd_r _ _ | exact hF _ _ | exact hI _ | exact hG _ _ | exact hK _ | (simp [uN] <;> omega)) ⟨by decide, by decide⟩ (⟨rfl, rfl⟩)
  · refine v_iload_n (dec_of DX2_isBlank 3 rfl) rfl ?_
    refine vi_bi (dec_of DX2_isBlank 4 rfl) (by decide) ?_
    refine vi_icmp_ne (tgt := 16) (dec_of DX2_isBlank 5 rfl) (by decide) (by first | omega | exact bnd_r _ _ | exact hF _ _ | exact hI _ | exact hG _ _ | exact hK _ | (simp [uN] <;> omega)) (by first | omega | exact bnd_r _ _ | exact hF _ _ | exact hI _ | exact hG _ _ | exact hK _ | (simp [uN] <;> omega)) (fun c9 => ?_) (fun c9 => ?_)
    · rw [if_neg (by omega)]
      refine vi_const (dec_of DX2_isBlank 8 rfl) ?_
      exact vi_retz (dec_of DX2_isBlank 9 rfl) rfl (by first | omega | exact bnd_r _ _ | exact hF _ _ | exact hI _ | exact hG _ _ | exact hK _ | (simp [uN] <;> omega)) ⟨by decide, by decide⟩ (⟨rfl, rfl⟩)
    · rw [if_pos (by omega)]
      refine vi_const (dec_of DX2_isBlank 6 rfl) ?_
      refine v_goto (tgt := 17) (dec_of DX2_isBlank 7 rfl) (by decide) ?_
      exact vi_retz (dec_of DX2_isBlank 9 rfl) rfl (by first | omega | exact bnd_r _ _ | exact hF _ _ | exact hI _ | exact hG _ _ | exact hK _ | (simp [uN] <;> omega)) ⟨by decide, by decide⟩ (⟨rfl, rfl⟩)
set_option maxRecDepth 100000 in
set_option maxHeartbeats 4000000 in
theorem k_isLetter {w : XW} {b : Int} (hb : -2147483648 ≤ b ∧ b < 2147483648) : Sd (rm 0 0 0 0) mX2_isLetter [J b] (w) (w) (some (J (if (97 ≤ b ∧ b ≤ 122) ∨ (65 ≤ b ∧ b ≤ 90) ∨ b = 39 then 1 else 0))) := by
  unfold Sd
  refine sp_of (ls := [some (J b)]) (by decide) (nle rfl) rfl rfl ?_
  refine v_iload_n (dec_of DX2_isLetter 0 rfl) rfl ?_
  refine vi_bi (dec_of DX2_isLetter 1 rfl) (by decide) ?_
  refine vi_icmp_lt (tgt := 12) (dec_of DX2_isLetter 2 rfl) (by decide) (by first | omega | exact bnd_r _ _ | exact hF _ _ | exact hI _ | exact hG _ _ | exact hK _ | (simp [uN] <;> omega)) (by first | omega | exact bnd_r _ _ | exact hF _ _ | exact hI _ | exact hG _ _ | exact hK _ | (simp [uN] <;> omega)) (fun c3 => ?_) (fun c3 => ?_)
  · refine v_iload_n (dec_of DX2_isLetter 6 rfl) rfl ?_
    refine vi_bi (dec_of DX2_isLetter 7 rfl) (by decide) ?_
    refine vi_icmp_lt (tgt := 24) (dec_of DX2_isLetter 8 rfl) (by decide) (by first | omega | exact bnd_r _ _ | exact hF _ _ | exact hI _ | exact hG _ _ | exact hK _ | (simp [uN] <;> omega)) (by first | omega | exact bnd_r _ _ | exact hF _ _ | exact hI _ | exact hG _ _ | exact hK _ | (simp [uN] <;> omega)) (fun c15 => ?_) (fun c15 => ?_)
    · refine v_iload_n (dec_of DX2_isLetter 12 rfl) rfl ?_
      refine vi_bi (dec_of DX2_isLetter 13 rfl) (by decide) ?_
      refine vi_icmp_ne (tgt := 34) (dec_of DX2_isLetter 14 rfl) (by decide) (by first | omega | exact bnd_r _ _ | exact hF _ _ | exact hI _ | exact hG _ _ | exact hK _ | (simp [uN] <;> omega)) (by first | omega | exact bnd_r _ _ | exact hF _ _ | exact hI _ | exact hG _ _ | exact hK _ | (simp [uN] <;> omega)) (fun c27 => ?_) (fun c27 => ?_)
      · rw [if_neg (by omega)]
        refine vi_const (dec_of DX2_isLetter 17 rfl) ?_
        exact vi_retz (dec_of DX2_isLetter 18 rfl) rfl (by first | omega | exact bnd_r _ _ | exact hF _ _ | exact hI _ | exact hG _ _ | exact hK _ | (simp [uN] <;> omega)) ⟨by decide, by decide⟩ (⟨rfl, rfl⟩)
      · rw [if_pos (by omega)]
        refine vi_const (dec_of DX2_isLetter 15 rfl) ?_
        refine v_goto (tgt := 35) (dec_of DX2_isLetter 16 rfl) (by decide) ?_
        exact vi_retz (dec_of DX2_isLetter 18 rfl) rfl (by first | omega | exact bnd_r _ _ | exact hF _ _ | exact hI _ | exact hG _ _ | exact hK _ | (simp [uN] <;> omega)) ⟨by decide, by decide⟩ (⟨rfl, rfl⟩)
    · refine v_iload_n (dec_of DX2_isLetter 9 rfl) rfl ?_
      refine vi_bi (dec_of DX2_isLetter 10 rfl) (by decide) ?_
      refine vi_icmp_le (tgt := 30) (dec_of DX2_isLetter 11 rfl) (by decide) (by first | omega | exact bnd_r _ _ | exact hF _ _ | exact hI _ | exact hG _ _ | exact hK _ | (simp [uN] <;> omega)) (by first | omega | exact bnd_r _ _ | exact hF _ _ | exact hI _ | exact hG _ _ | exact hK _ | (simp [uN] <;> omega)) (fun c21 => ?_) (fun c21 => ?_)
      · rw [if_pos (by omega)]
        refine vi_const (dec_of DX2_isLetter 15 rfl) ?_
        refine v_goto (tgt := 35) (dec_of DX2_isLetter 16 rfl) (by decide) ?_
        exact vi_retz (dec_of DX2_isLetter 18 rfl) rfl (by first | omega | exact bnd_r _ _ | exact hF _ _ | exact hI _ | exact hG _ _ | exact hK _ | (simp [uN] <;> omega)) ⟨by decide, by decide⟩ (⟨rfl, rfl⟩)
      · refine v_iload_n (dec_of DX2_isLetter 12 rfl) rfl ?_
        refine vi_bi (dec_of DX2_isLetter 13 rfl) (by decide) ?_
        refine vi_icmp_ne (tgt := 34) (dec_of DX2_isLetter 14 rfl) (by decide) (by first | omega | exact bnd_r _ _ | exact hF _ _ | exact hI _ | exact hG _ _ | exact hK _ | (simp [uN] <;> omega)) (by first | omega | exact bnd_r _ _ | exact hF _ _ | exact hI _ | exact hG _ _ | exact hK _ | (simp [uN] <;> omega)) (fun c27 => ?_) (fun c27 => ?_)
        · rw [if_neg (by omega)]
          refine vi_const (dec_of DX2_isLetter 17 rfl) ?_
          exact vi_retz (dec_of DX2_isLetter 18 rfl) rfl (by first | omega | exact bnd_r _ _ | exact hF _ _ | exact hI _ | exact hG _ _ | exact hK _ | (simp [uN] <;> omega)) ⟨by decide, by decide⟩ (⟨rfl, rfl⟩)
        · rw [if_pos (by omega)]
          refine vi_const (dec_of DX2_isLetter 15 rfl) ?_
          refine v_goto (tgt := 35) (dec_of DX2_isLetter 16 rfl) (by decide) ?_
          exact vi_retz (dec_of DX2_isLetter 18 rfl) rfl (by first | omega | exact bnd_r _ _ | exact hF _ _ | exact hI _ | exact hG _ _ | exact hK _ | (simp [uN] <;> omega)) ⟨by decide, by decide⟩ (⟨rfl, rfl⟩)
  · refine v_iload_n (dec_of DX2_isLetter 3 rfl) rfl ?_
    refine vi_bi (dec_of DX2_isLetter 4 rfl) (by decide) ?_
    refine vi_icmp_le (tgt := 30) (dec_of DX2_isLetter 5 rfl) (by decide) (by first | omega | exact bnd_r _ _ | exact hF _ _ | exact hI _ | exact hG _ _ | exact hK _ | (simp [uN] <;> omega)) (by first | omega | exact bnd_r _ _ | exact hF _ _ | exact hI _ | exact hG _ _ | exact hK _ | (simp [uN] <;> omega)) (fun c9 => ?_) (fun c9 => ?_)
    · rw [if_pos (by omega)]
      refine vi_const (dec_of DX2_isLetter 15 rfl) ?_
      refine v_goto (tgt := 35) (dec_of DX2_isLetter 16 rfl) (by decide) ?_
      exact vi_retz (dec_of DX2_isLetter 18 rfl) rfl (by first | omega | exact bnd_r _ _ | exact hF _ _ | exact hI _ | exact hG _ _ | exact hK _ | (simp [uN] <;> omega)) ⟨by decide, by decide⟩ (⟨rfl, rfl⟩)
    · refine v_iload_n (dec_of DX2_isLetter 6 rfl) rfl ?_
      refine vi_bi (dec_of DX2_isLetter 7 rfl) (by decide) ?_
      refine vi_icmp_lt (tgt := 24) (dec_of DX2_isLetter 8 rfl) (by decide) (by first | omega | exact bnd_r _ _ | exact hF _ _ | exact hI _ | exact hG _ _ | exact hK _ | (simp [uN] <;> omega)) (by first | omega | exact bnd_r _ _ | exact hF _ _ | exact hI _ | exact hG _ _ | exact hK _ | (simp [uN] <;> omega)) (fun c15 => ?_) (fun c15 => ?_)
      · refine v_iload_n (dec_of DX2_isLetter 12 rfl) rfl ?_
        refine vi_bi (dec_of DX2_isLetter 13 rfl) (by decide) ?_
        refine vi_icmp_ne (tgt := 34) (dec_of DX2_isLetter 14 rfl) (by decide) (by first | omega | exact bnd_r _ _ | exact hF _ _ | exact hI _ | exact hG _ _ | exact hK _ | (simp [uN] <;> omega)) (by first | omega | exact bnd_r _ _ | exact hF _ _ | exact hI _ | exact hG _ _ | exact hK _ | (simp [uN] <;> omega)) (fun c27 => ?_) (fun c27 => ?_)
        · rw [if_neg (by omega)]
          refine vi_const (dec_of DX2_isLetter 17 rfl) ?_
          exact vi_retz (dec_of DX2_isLetter 18 rfl) rfl (by first | omega | exact bnd_r _ _ | exact hF _ _ | exact hI _ | exact hG _ _ | exact hK _ | (simp [uN] <;> omega)) ⟨by decide, by decide⟩ (⟨rfl, rfl⟩)
        · rw [if_pos (by omega)]
          refine vi_const (dec_of DX2_isLetter 15 rfl) ?_
          refine v_goto (tgt := 35) (dec_of DX2_isLetter 16 rfl) (by decide) ?_
          exact vi_retz (dec_of DX2_isLetter 18 rfl) rfl (by first | omega | exact bnd_r _ _ | exact hF _ _ | exact hI _ | exact hG _ _ | exact hK _ | (simp [uN] <;> omega)) ⟨by decide, by decide⟩ (⟨rfl, rfl⟩)
      · refine v_iload_n (dec_of DX2_isLetter 9 rfl) rfl ?_
        refine vi_bi (dec_of DX2_isLetter 10 rfl) (by decide) ?_
        refine vi_icmp_le (tgt := 30) (dec_of DX2_isLetter 11 rfl) (by decide) (by first | omega | exact bnd_r _ _ | exact hF _ _ | exact hI _ | exact hG _ _ | exact hK _ | (simp [uN] <;> omega)) (by first | omega | exact bnd_r _ _ | exact hF _ _ | exact hI _ | exact hG _ _ | exact hK _ | (simp [uN] <;> omega)) (fun c21 => ?_) (fun c21 => ?_)
        · rw [if_pos (by omega)]
          refine vi_const (dec_of DX2_isLetter 15 rfl) ?_
          refine v_goto (tgt := 35) (dec_of DX2_isLetter 16 rfl) (by decide) ?_
          exact vi_retz (dec_of DX2_isLetter 18 rfl) rfl (by first | omega | exact bnd_r _ _ | exact hF _ _ | exact hI _ | exact hG _ _ | exact hK _ | (simp [uN] <;> omega)) ⟨by decide, by decide⟩ (⟨rfl, rfl⟩)
        · refine v_iload_n (dec_of DX2_isLetter 12 rfl) rfl ?_
          refine vi_bi (dec_of DX2_isLetter 13 rfl) (by decide) ?_
          refine vi_icmp_ne (tgt := 34) (dec_of DX2_isLetter 14 rfl) (by decide) (by first | omega | exact bnd_r _ _ | exact hF _ _ | exact hI _ | exact hG _ _ | exact hK _ | (simp [uN] <;> omega)) (by first | omega | exact bnd_r _ _ | exact hF _ _ | exact hI _ | exact hG _ _ | exact hK _ | (simp [uN] <;> omega)) (fun c27 => ?_) (fun c27 => ?_)
          · rw [if_neg (by omega)]
            refine vi_const (dec_of DX2_isLetter 17 rfl) ?_
            exact vi_retz (dec_of DX2_isLetter 18 rfl) rfl (by first | omega | exact bnd_r _ _ | exact hF _ _ | exact hI _ | exact hG _ _ | exact hK _ | (simp [uN] <;> omega)) ⟨by decide, by decide⟩ (⟨rfl, rfl⟩)
          · rw [if_pos (by omega)]
            refine vi_const (dec_of DX2_isLetter 15 rfl) ?_
            refine v_goto (tgt := 35) (dec_of DX2_isLetter 16 rfl) (by decide) ?_
            exact vi_retz (dec_of DX2_isLetter 18 rfl) rfl (by first | omega | exact bnd_r _ _ | exact hF _ _ | exact hI _ | exact hG _ _ | exact hK _ | (simp [uN] <;> omega)) ⟨by decide, by decide⟩ (⟨rfl, rfl⟩)
def mkOf (b : Int) : Int := if b = 46 then 1 else if b = 95 then 2 else if b = 118 then 4 else if b = 119 then 8 else if b = 126 then 16 else 0
set_option maxRecDepth 100000 in
set_option maxHeartbeats 4000000 in
theorem k_markOf {w : XW} {b : Int} (hb : -2147483648 ≤ b ∧ b < 2147483648) : Sd (rm 0 0 0 0) mX2_markOf [J b] w w (some (J (mkOf b))) := by
  unfold Sd
  refine sp_of (ls := [some (J b)]) (by decide) (nle rfl) rfl rfl ?_
  refine v_iload_n (dec_of DX2_markOf 0 rfl) rfl ?_
  by_cases h46 : b = 46
  · subst h46
    refine vi_lookup (tgt := 52) (dec_of DX2_markOf 1 rfl) (by decide) (by decide) rfl (by decide) ?_
    refine vi_const (dec_of DX2_markOf 2 rfl) ?_
    exact vi_ret (dec_of DX2_markOf 3 rfl) rfl ⟨by decide, by decide⟩ (⟨rfl, rfl⟩)
  by_cases h95 : b = 95
  · subst h95
    refine vi_lookup (tgt := 54) (dec_of DX2_markOf 1 rfl) (by decide) (by decide) rfl (by decide) ?_
    refine vi_const (dec_of DX2_markOf 4 rfl) ?_
    exact vi_ret (dec_of DX2_markOf 5 rfl) rfl ⟨by decide, by decide⟩ (⟨rfl, rfl⟩)
  by_cases h118 : b = 118
  · subst h118
    refine vi_lookup (tgt := 56) (dec_of DX2_markOf 1 rfl) (by decide) (by decide) rfl (by decide) ?_
    refine vi_const (dec_of DX2_markOf 6 rfl) ?_
    exact vi_ret (dec_of DX2_markOf 7 rfl) rfl ⟨by decide, by decide⟩ (⟨rfl, rfl⟩)
  by_cases h119 : b = 119
  · subst h119
    refine vi_lookup (tgt := 58) (dec_of DX2_markOf 1 rfl) (by decide) (by decide) rfl (by decide) ?_
    refine vi_bi (dec_of DX2_markOf 8 rfl) (by decide) ?_
    exact vi_ret (dec_of DX2_markOf 9 rfl) rfl ⟨by decide, by decide⟩ (⟨rfl, rfl⟩)
  by_cases h126 : b = 126
  · subst h126
    refine vi_lookup (tgt := 61) (dec_of DX2_markOf 1 rfl) (by decide) (by decide) rfl (by decide) ?_
    refine vi_bi (dec_of DX2_markOf 10 rfl) (by decide) ?_
    exact vi_ret (dec_of DX2_markOf 11 rfl) rfl ⟨by decide, by decide⟩ (⟨rfl, rfl⟩)
  refine vi_lookup (off := 63) (tgt := 64) (dec_of DX2_markOf 1 rfl) hb (by decide) (by simp [Op.lookupswitch.offset, List.find?, Ne.symm h46, h46, Ne.symm h95, h95, Ne.symm h118, h118, Ne.symm h119, h119, Ne.symm h126, h126]) (by decide) ?_
  simp only [mkOf, h46, h95, h118, h119, h126, if_false]
  refine vi_const (dec_of DX2_markOf 12 rfl) ?_
  exact vi_ret (dec_of DX2_markOf 13 rfl) rfl ⟨by decide, by decide⟩ (⟨rfl, rfl⟩)
set_option maxRecDepth 100000 in
set_option maxHeartbeats 4000000 in
theorem k_roomOf {w : XW} {b : Int} (hb : -2147483648 ≤ b ∧ b < 2147483648) : Sd (rm 0 0 0 0) mX2_roomOf [J b] w w (some (J (if b = 0 then 150 else if b = 4 then 30 else 20))) := by
  unfold Sd
  refine sp_of (ls := [some (J b)]) (by decide) (nle rfl) rfl rfl ?_
  refine v_iload_n (dec_of DX2_roomOf 0 rfl) rfl ?_
  by_cases h0 : b = 0
  · subst h0
    refine vi_lookup (tgt := 28) (dec_of DX2_roomOf 1 rfl) (by decide) (by decide) rfl (by decide) ?_
    refine vi_si (dec_of DX2_roomOf 2 rfl) (by decide) ?_
    exact vi_ret (dec_of DX2_roomOf 3 rfl) rfl ⟨by decide, by decide⟩ (⟨rfl, rfl⟩)
  by_cases h4 : b = 4
  · subst h4
    refine vi_lookup (tgt := 32) (dec_of DX2_roomOf 1 rfl) (by decide) (by decide) rfl (by decide) ?_
    refine vi_bi (dec_of DX2_roomOf 4 rfl) (by decide) ?_
    exact vi_ret (dec_of DX2_roomOf 5 rfl) rfl ⟨by decide, by decide⟩ (⟨rfl, rfl⟩)
  refine vi_lookup (off := 34) (tgt := 35) (dec_of DX2_roomOf 1 rfl) hb (by decide) (by simp [Op.lookupswitch.offset, List.find?, Ne.symm h0, h0, Ne.symm h4, h4]) (by decide) ?_
  simp only [mkOf, h0, h4, if_false]
  refine vi_bi (dec_of DX2_roomOf 6 rfl) (by decide) ?_
  exact vi_ret (dec_of DX2_roomOf 7 rfl) rfl ⟨by decide, by decide⟩ (⟨rfl, rfl⟩)
set_option maxRecDepth 100000 in
set_option maxHeartbeats 4000000 in
theorem k_addSign {T : XW} {I N : Nat → Int} {F : Nat → Int → Int} (hF : FR F) (hI : IR I) (hN : NR N) {p k v : Int} (hk : 0 ≤ k ∧ k < 6) (h9 : N 9 = 6) (h8 : N 8 < 260) (hr : F 9 k < (if k = 0 then 150 else if k = 4 then 30 else 20)) : Sd (rm 1 24 0 0) mX2_addSign [.ref 20, J p, J k, J v] (cls I N F ++ T) (cls I (uN N 8 (N 8 + 1)) (uN (uN F 9 (uI (F 9) k (F 9 k + 1))) 8 (uI (adf (F 8) 2 (N 8) k) (N 8 * 2 + 1) v)) ++ T) (some (J 1)) := by
  unfold Sd
  unfold NR at hN
  have hq := hF 9 k
  refine sp_of (ls := [some (.ref 20), some (J p), some (J k), some (J v), none]) (by decide) (nle rfl) rfl rfl ?_
  refine v_aload_n (dec_of DX2_addSign 0 rfl) rfl ?_
  refine v_get fX2_22 (dec_of DX2_addSign 1 rfl) rfl rfl ?_
  refine v_iload_n (dec_of DX2_addSign 2 rfl) rfl ?_
  refine vi_const (dec_of DX2_addSign 3 rfl) ?_
  refine v_V2r (c9_get (by first | omega | exact bnd_r _ _ | exact hF _ _ | exact hI _ | exact hG _ _ | exact hK _ | (simp [uN] <;> omega)) (by first | omega | exact bnd_r _ _ | exact hF _ _ | exact hI _ | exact hG _ _ | exact hK _ | (simp [uN] <;> omega))) lX2_43 (dec_of DX2_addSign 4 rfl) rfl rfl (by decide) (nle rfl) rfl ?_
  refine v_istore (dec_of DX2_addSign 5 rfl) (by decide) ?_
  dsimp only [List.set]
  refine v_iload (dec_of DX2_addSign 6 rfl) rfl ?_
  refine v_iload_n (dec_of DX2_addSign 7 rfl) rfl ?_
  refine v_S1r (k_roomOf (by omega)) lX2_175 (dec_of DX2_addSign 8 rfl) (by decide) (nle rfl) rfl ?_
  refine vi_icmp_lt (tgt := 28) (dec_of DX2_addSign 9 rfl) (by decide) (by first | omega | exact bnd_r _ _ | exact hF _ _ | exact hI _ | exact hG _ _ | exact hK _ | (simp [uN] <;> omega)) (by first | omega | exact bnd_r _ _ | exact hF _ _ | exact hI _ | exact hG _ _ | exact hK _ | (simp [uN] <;> omega)) (fun c17 => ?_) (fun c17 => absurd c17 (by omega))
  refine v_aload_n (dec_of DX2_addSign 16 rfl) rfl ?_
  refine v_get fX2_22 (dec_of DX2_addSign 17 rfl) rfl rfl ?_
  refine v_iload_n (dec_of DX2_addSign 18 rfl) rfl ?_
  refine vi_const (dec_of DX2_addSign 19 rfl) ?_
  refine v_iload (dec_of DX2_addSign 20 rfl) rfl ?_
  refine vi_const (dec_of DX2_addSign 21 rfl) ?_
  refine vi_add (dec_of DX2_addSign 22 rfl) ?_
  refine v_V3v (c9_set (by first | omega | exact bnd_r _ _ | exact hF _ _ | exact hI _ | exact hG _ _ | exact hK _ | (simp [uN] <;> omega)) (by first | omega | exact bnd_r _ _ | exact hF _ _ | exact hI _ | exact hG _ _ | exact hK _ | (simp [uN] <;> omega))) lX2_109 (dec_of DX2_addSign 23 rfl) rfl rfl (by decide) (nle rfl) rfl ?_
  refine v_aload_n (dec_of DX2_addSign 24 rfl) rfl ?_
  refine v_get fX2_9 (dec_of DX2_addSign 25 rfl) rfl rfl ?_
  refine v_get fX2_122 (dec_of DX2_addSign 26 rfl) rfl rfl ?_
  refine v_aload_n (dec_of DX2_addSign 27 rfl) rfl ?_
  refine v_get fX2_9 (dec_of DX2_addSign 28 rfl) rfl rfl ?_
  refine v_get fX2_122 (dec_of DX2_addSign 29 rfl) rfl rfl ?_
  refine v_iload_n (dec_of DX2_addSign 30 rfl) rfl ?_
  refine v_V1r (c8_add (by first | omega | exact bnd_r _ _ | exact hF _ _ | exact hI _ | exact hG _ _ | exact hK _ | (simp [uN] <;> omega))) lX2_92 (dec_of DX2_addSign 31 rfl) rfl rfl (by decide) (nle rfl) rfl ?_
  refine vi_const (dec_of DX2_addSign 32 rfl) ?_
  refine v_iload_n (dec_of DX2_addSign 33 rfl) rfl ?_
  refine v_V3v (c8_set (by first | omega | exact bnd_r _ _ | exact hF _ _ | exact hI _ | exact hG _ _ | exact hK _ | (simp [uN] <;> omega)) (by first | omega | exact bnd_r _ _ | exact hF _ _ | exact hI _ | exact hG _ _ | exact hK _ | (simp [uN] <;> omega)) (by first | omega | exact bnd_r _ _ | exact hF _ _ | exact hI _ | exact hG _ _ | exact hK _ | (simp [uN] <;> omega))) lX2_109 (dec_of DX2_addSign 34 rfl) rfl rfl (by decide) (nle rfl) rfl ?_
  refine vi_const (dec_of DX2_addSign 35 rfl) ?_
  exact vi_retz (dec_of DX2_addSign 36 rfl) rfl (by first | omega | exact bnd_r _ _ | exact hF _ _ | exact hI _ | exact hG _ _ | exact hK _ | (simp [uN] <;> omega)) ⟨by decide, by decide⟩ (⟨rfl, rfl⟩)
set_option maxRecDepth 100000 in
set_option maxHeartbeats 4000000 in
theorem k_addSign_full {T : XW} {I N : Nat → Int} {F : Nat → Int → Int} (hF : FR F) (hI : IR I) (hN : NR N) {p k v : Int} (hk : 0 ≤ k ∧ k < 6) (h9 : N 9 = 6) (hr : ¬ F 9 k < (if k = 0 then 150 else if k = 4 then 30 else 20)) : Sd (rm 1 24 0 0) mX2_addSign [.ref 20, J p, J k, J v] (cls I N F ++ T) (cls (uN (uN I 3 2) 4 p) N F ++ T) (some (J 0)) := by
  unfold Sd
  unfold NR at hN
  have hq := hF 9 k
  refine sp_of (ls := [some (.ref 20), some (J p), some (J k), some (J v), none]) (by decide) (nle rfl) rfl rfl ?_
  refine v_aload_n (dec_of DX2_addSign 0 rfl) rfl ?_
  refine v_get fX2_22 (dec_of DX2_addSign 1 rfl) rfl rfl ?_
  refine v_iload_n (dec_of DX2_addSign 2 rfl) rfl ?_
  refine vi_const (dec_of DX2_addSign 3 rfl) ?_
  refine v_V2r (c9_get (by first | omega | exact bnd_r _ _ | exact hF _ _ | exact hI _ | exact hG _ _ | exact hK _ | (simp [uN] <;> omega)) (by first | omega | exact bnd_r _ _ | exact hF _ _ | exact hI _ | exact hG _ _ | exact hK _ | (simp [uN] <;> omega))) lX2_43 (dec_of DX2_addSign 4 rfl) rfl rfl (by decide) (nle rfl) rfl ?_
  refine v_istore (dec_of DX2_addSign 5 rfl) (by decide) ?_
  dsimp only [List.set]
  refine v_iload (dec_of DX2_addSign 6 rfl) rfl ?_
  refine v_iload_n (dec_of DX2_addSign 7 rfl) rfl ?_
  refine v_S1r (k_roomOf (by omega)) lX2_175 (dec_of DX2_addSign 8 rfl) (by decide) (nle rfl) rfl ?_
  refine vi_icmp_lt (tgt := 28) (dec_of DX2_addSign 9 rfl) (by decide) (by first | omega | exact bnd_r _ _ | exact hF _ _ | exact hI _ | exact hG _ _ | exact hK _ | (simp [uN] <;> omega)) (by first | omega | exact bnd_r _ _ | exact hF _ _ | exact hI _ | exact hG _ _ | exact hK _ | (simp [uN] <;> omega)) (fun c17 => absurd c17 (by omega)) (fun c17 => ?_)
  refine v_aload_n (dec_of DX2_addSign 10 rfl) rfl ?_
  refine vi_const (dec_of DX2_addSign 11 rfl) ?_
  refine v_iload_n (dec_of DX2_addSign 12 rfl) rfl ?_
  refine v_V2v (k_refuse) lX2_58 (dec_of DX2_addSign 13 rfl) rfl rfl (by decide) (nle rfl) rfl ?_
  refine vi_const (dec_of DX2_addSign 14 rfl) ?_
  exact vi_retz (dec_of DX2_addSign 15 rfl) rfl (by first | omega | exact bnd_r _ _ | exact hF _ _ | exact hI _ | exact hG _ _ | exact hK _ | (simp [uN] <;> omega)) ⟨by decide, by decide⟩ (⟨rfl, rfl⟩)
end
section
/-! Reader: its methods path by path (printed by wip/tools/gen_c2.py) -/
theorem bxr7 {a : Int} (ha : -2147483648 ≤ a ∧ a < 2147483648) : bxr a 7 < 0 ↔ a < 0 := by
  have h1 : ((iI a ^^^ iI 7).toBitVec).msb = (iI a).toBitVec.msb := by
    rw [Int32.toBitVec_xor, BitVec.msb_xor, show (iI 7).toBitVec.msb = false by decide, Bool.xor_false]
  rw [BitVec.msb_eq_toInt, BitVec.msb_eq_toInt, decide_eq_decide] at h1
  have h2 : (iI a).toBitVec.toInt = a := iI_toInt ha
  rw [h2] at h1
  exact h1
theorem td7 (a : Int) : (0 ≤ a → a.tdiv 7 = a / 7 ∧ a.tmod 7 = a % 7) ∧ (a < 0 → a.tdiv 7 = -((-a) / 7) ∧ a.tmod 7 = -((-a) % 7)) := by
  refine ⟨fun h => ⟨Int.tdiv_eq_ediv_of_nonneg h, Int.tmod_eq_emod_of_nonneg h⟩, fun h => ?_⟩
  have h1 := Int.neg_tdiv (-a) 7
  have h2 := Int.neg_tmod (-a) 7
  rw [Int.neg_neg] at h1 h2
  rw [h1, h2, Int.tdiv_eq_ediv_of_nonneg (by omega), Int.tmod_eq_emod_of_nonneg (by omega)]
  exact ⟨rfl, rfl⟩
set_option maxHeartbeats 4000000 in
/-- the same for a method of the JDK that the machine has no entry for -/
theorem sp_ofJ {R : Room} {M : MI} {av : List Value} {w : XW} {Z : XW → Option Value → Prop} {ls : List (Option Value)} (hy : plainFor M.1 = true) (hl : av.length ≤ M.2.2.1) (hc : av.all (fun v => decide (v.category = 1)) = true) (hls : ls = en M.2.2.1 av) (k : Vd R [] M w.length Z 0 0 0 ls [] w) : Sp R M av w Z := by
  intro l D cI ad sz
  refine va_MetF (cc := M.2.1) (maxL := M.2.2.1) (ret := M.2.2.2) hy rfl ?_
  intro p e s m args below meth c s₁ B hml hv
  obtain ⟨rfl, hsz, hP, hK, hD0, hX, hlen⟩ := hv
  have hts := atoms_spec (ws := xws M) B.pre
  have hown : s.vm.findClass M.1.cls = some m.cls := findClass_of_methodNamed B.named
  have hin : meth.name = M.1.name := (name_of_methodNamed B.named B.method).1
  subst hsz
  have hD := hD0.self (sz := s.heap.size)
  have hA : ∀ q : Nat, s.heap.size ≤ q → va_A (xw cI ad w) s.heap.size q := fun q h => Or.inr h
  have hcat : ∀ v ∈ av, v.category = 1 := fun v hv => by simpa using List.all_eq_true.mp hc v hv
  have hcat' : ∀ v ∈ av.map (xv ad), v.category = 1 := by
    intro v hv
    obtain ⟨u, hu, rfl⟩ := List.mem_map.mp hv
    rw [xv_cat]; exact hcat u hu
  have hL := lv_entry (av.map (xv ad)) (n := M.2.2.1) (by rw [lg_sl_len hcat', List.length_map]; exact hl)
  rw [lg_entry_eq]
  refine k p l e s m _ below meth c D cI ad (va_A (xw cI ad w) s.heap.size) _ ⟨B.exec, B.bytes, hml, B.returns, B.notSynchronized, hown, fun w hw => hts w (List.mem_cons_of_mem _ hw), hin, hK, hA, hX⟩ ?_ ad s.heap [] _ ⟨ag.rf, Nat.le_refl _, hlen, hP, hD, va_S.rf⟩ ⟨hL.1, hL.2.1, ?_⟩
  · intro w' ad' H locs lsA pc hR
    obtain ⟨r1, r2, r3, r4, r5, r6⟩ := hR
    have fin : ∀ (r : Option Value), Z w' r → ∀ t : State, t.heap = H → s.WarmedH t.vm → XPost cI D ad (va_A (xw cI ad w) s.heap.size) w.length Z s (.returned (r.map (xv ad'))) t := fun r hz t ht hW => ⟨w', r, ad', hz, rfl, r1, r2, r3, by rw [ht]; exact r4, r5, r6.F ht⟩
    refine ⟨fun x hd hret hz => ?_, fun q hd hret hz => ?_, fun hd hret hz => ?_⟩
    · rcases hret with hret | ⟨hret, hx⟩
      · exact W.zret (ty := .int) B.exec B.bytes (B.returns.trans hret) rfl (fun t ht hW => fin (some (.int x)) hz t ht hW) r6.2.2 hd
      · exact W.zret (ty := .boolean) B.exec B.bytes (B.returns.trans hret) (by rcases hx with rfl | rfl <;> decide) (fun t ht hW => fin (some (.int x)) hz t ht hW) r6.2.2 hd
    · obtain ⟨C, hC⟩ := hret
      exact W.aret B.exec B.bytes (B.returns.trans hC) (Or.inl ⟨C, rfl⟩) (Or.inr ⟨_, rfl⟩) (fun t ht hW => fin (some (.ref q)) hz t ht hW) r6.2.2 hd
    · exact W.vret B.exec B.bytes (B.returns.trans hret) (fun t ht hW => fin none hz t ht hW) r6.2.2 hd
  · intro j v hj
    rw [hls] at hj
    have hjl : j < av.length ∧ av[j]? = some v := by
      unfold en at hj
      by_cases h : j < av.length
      · rw [List.getElem?_append_left (by simpa using h), List.getElem?_map] at hj
        refine ⟨h, ?_⟩
        cases hv : av[j]? with
        | none => rw [hv] at hj; simp at hj
        | some u => rw [hv] at hj; simp at hj; rw [hj]
      · rw [List.getElem?_append_right (by simpa using h)] at hj
        have := List.mem_of_getElem? hj
        simp at this
    refine ⟨hL.2.2 (j, xv ad v) ?_, hcat v (List.mem_of_getElem? hjl.2)⟩
    have := lv_args_cat hcat' 0 j (xv ad v) (by rw [List.getElem?_map, hjl.2]; rfl)
    simpa using this
def scI : Int → Int := tI [0, 2, 4, 5, 7, 9, 11]
theorem sc_tab {a : Int} (h : 0 ≤ a ∧ a < 7) : tF tScale a.toNat = iI (scI a) := by
  have key : ∀ n : Nat, n < 7 → tF tScale n = iI (([0, 2, 4, 5, 7, 9, 11] : List Int).getD n 0) := by decide
  exact key a.toNat (by omega)
set_option maxRecDepth 100000 in
set_option maxHeartbeats 4000000 in
theorem k_floorMod {w : XW} {a : Int} (ha : -2147483648 < a ∧ a < 2147483648) : Sd (rm 0 0 0 0) mJ9_floorMod_7cf53 [J a, J 7] (w) (w) (some (J (a % 7))) := by
  unfold Sd
  have hm : (a < 0 ∧ a.tmod 7 ≠ 0 → a.tmod 7 + 7 = a % 7) ∧ (¬ (a < 0 ∧ a.tmod 7 ≠ 0) → a.tmod 7 = a % 7) := by have := td7 a; omega
  refine sp_ofJ (ls := [some (J a), some (J 7), none]) (by decide +kernel) (nle rfl) rfl rfl ?_
  refine v_iload_n (dec_of DJ9_floorMod_7cf53 0 rfl) rfl ?_
  refine v_iload_n (dec_of DJ9_floorMod_7cf53 1 rfl) rfl ?_
  refine vi_rem (by first | omega | exact bxr_r _ _ | exact bnd_r _ _) (by first | omega | exact bxr_r _ _ | exact bnd_r _ _) (dec_of DJ9_floorMod_7cf53 2 rfl) ?_
  refine v_istore_n (dec_of DJ9_floorMod_7cf53 3 rfl) (by decide) ?_
  dsimp only [List.set]
  refine v_iload_n (dec_of DJ9_floorMod_7cf53 4 rfl) rfl ?_
  refine v_iload_n (dec_of DJ9_floorMod_7cf53 5 rfl) rfl ?_
  refine vi_xor (dec_of DJ9_floorMod_7cf53 6 rfl) ?_
  refine vi_if_ge (tgt := 18) (dec_of DJ9_floorMod_7cf53 7 rfl) (by decide) (by first | omega | exact bxr_r _ _ | exact bnd_r _ _) (fun c7 => ?_) (fun c7 => ?_)
  · refine v_iload_n (dec_of DJ9_floorMod_7cf53 14 rfl) rfl ?_
    exact vi_ret (dec_of DJ9_floorMod_7cf53 15 rfl) rfl ⟨by decide, by decide⟩ (⟨rfl, by rw [hm.2 (by have := bxr7 (a := a) (by omega); omega)]⟩)
  · refine v_iload_n (dec_of DJ9_floorMod_7cf53 8 rfl) rfl ?_
    refine vi_if_eq (tgt := 18) (dec_of DJ9_floorMod_7cf53 9 rfl) (by decide) (by first | omega | exact bxr_r _ _ | exact bnd_r _ _) (fun c11 => ?_) (fun c11 => ?_)
    · refine v_iload_n (dec_of DJ9_floorMod_7cf53 14 rfl) rfl ?_
      exact vi_ret (dec_of DJ9_floorMod_7cf53 15 rfl) rfl ⟨by decide, by decide⟩ (⟨rfl, by rw [hm.2 (by have := bxr7 (a := a) (by omega); omega)]⟩)
    · refine v_iload_n (dec_of DJ9_floorMod_7cf53 10 rfl) rfl ?_
      refine v_iload_n (dec_of DJ9_floorMod_7cf53 11 rfl) rfl ?_
      refine vi_add (dec_of DJ9_floorMod_7cf53 12 rfl) ?_
      exact vi_ret (dec_of DJ9_floorMod_7cf53 13 rfl) rfl ⟨by decide, by decide⟩ (⟨rfl, by rw [hm.1 (by have := bxr7 (a := a) (by omega); omega)]⟩)
set_option maxRecDepth 100000 in
set_option maxHeartbeats 4000000 in
theorem k_floorDiv {w : XW} {a : Int} (ha : -2147483648 < a ∧ a < 2147483648) : Sd (rm 0 0 0 0) mJ9_floorDiv_7cf53 [J a, J 7] (w) (w) (some (J (a / 7))) := by
  unfold Sd
  have hm : (a < 0 ∧ a.tdiv 7 * 7 ≠ a → a.tdiv 7 - 1 = a / 7) ∧ (¬ (a < 0 ∧ a.tdiv 7 * 7 ≠ a) → a.tdiv 7 = a / 7) := by have := td7 a; omega
  refine sp_ofJ (ls := [some (J a), some (J 7), none]) (by decide +kernel) (nle rfl) rfl rfl ?_
  refine v_iload_n (dec_of DJ9_floorDiv_7cf53 0 rfl) rfl ?_
  refine v_iload_n (dec_of DJ9_floorDiv_7cf53 1 rfl) rfl ?_
  refine vi_div (by first | omega | exact bxr_r _ _ | exact bnd_r _ _) (by first | omega | exact bxr_r _ _ | exact bnd_r _ _) (dec_of DJ9_floorDiv_7cf53 2 rfl) ?_
  refine v_istore_n (dec_of DJ9_floorDiv_7cf53 3 rfl) (by decide) ?_
  dsimp only [List.set]
  refine v_iload_n (dec_of DJ9_floorDiv_7cf53 4 rfl) rfl ?_
  refine v_iload_n (dec_of DJ9_floorDiv_7cf53 5 rfl) rfl ?_
  refine vi_xor (dec_of DJ9_floorDiv_7cf53 6 rfl) ?_
  refine vi_if_ge (tgt := 21) (dec_of DJ9_floorDiv_7cf53 7 rfl) (by decide) (by first | omega | exact bxr_r _ _ | exact bnd_r _ _) (fun c7 => ?_) (fun c7 => ?_)
  · refine v_iload_n (dec_of DJ9_floorDiv_7cf53 17 rfl) rfl ?_
    exact vi_ret (dec_of DJ9_floorDiv_7cf53 18 rfl) rfl ⟨by decide, by decide⟩ (⟨rfl, by rw [hm.2 (by have := bxr7 (a := a) (by omega); omega)]⟩)
  · refine v_iload_n (dec_of DJ9_floorDiv_7cf53 8 rfl) rfl ?_
    refine v_iload_n (dec_of DJ9_floorDiv_7cf53 9 rfl) rfl ?_
    refine vi_mul (dec_of DJ9_floorDiv_7cf53 10 rfl) ?_
    refine v_iload_n (dec_of DJ9_floorDiv_7cf53 11 rfl) rfl ?_
    refine vi_icmp_eq (tgt := 21) (dec_of DJ9_floorDiv_7cf53 12 rfl) (by decide) (by first | omega | exact bxr_r _ _ | exact bnd_r _ _) (by first | omega | exact bxr_r _ _ | exact bnd_r _ _) (fun c14 => ?_) (fun c14 => ?_)
    · refine v_iload_n (dec_of DJ9_floorDiv_7cf53 17 rfl) rfl ?_
      exact vi_ret (dec_of DJ9_floorDiv_7cf53 18 rfl) rfl ⟨by decide, by decide⟩ (⟨rfl, by rw [hm.2 (by have := bxr7 (a := a) (by omega); omega)]⟩)
    · refine v_iload_n (dec_of DJ9_floorDiv_7cf53 13 rfl) rfl ?_
      refine vi_const (dec_of DJ9_floorDiv_7cf53 14 rfl) ?_
      refine vi_sub (dec_of DJ9_floorDiv_7cf53 15 rfl) ?_
      exact vi_ret (dec_of DJ9_floorDiv_7cf53 16 rfl) rfl ⟨by decide, by decide⟩ (⟨rfl, by rw [hm.1 (by have := bxr7 (a := a) (by omega); omega)]⟩)
set_option maxRecDepth 100000 in
set_option maxHeartbeats 4000000 in
theorem k_semitonesOf {w : XW} {a : Int} (ha : -1000000 < a ∧ a < 1000000) : Sd (rm 1 22 0 0) mX2_semitonesOf [J a] (w) (w) (some (J (12 * (a / 7) + scI (a % 7)))) := by
  unfold Sd
  refine sp_of (ls := [some (J a), none, none, none]) (by decide) (nle rfl) rfl rfl ?_
  refine v_iload_n (dec_of DX2_semitonesOf 0 rfl) rfl ?_
  refine vi_bi (dec_of DX2_semitonesOf 1 rfl) (by decide) ?_
  refine v_S2r (k_floorMod (by omega)) lX2_178 (dec_of DX2_semitonesOf 2 rfl) (by decide) (nle rfl) rfl ?_
  refine v_istore_n (dec_of DX2_semitonesOf 3 rfl) (by decide) ?_
  dsimp only [List.set]
  refine v_iload_n (dec_of DX2_semitonesOf 4 rfl) rfl ?_
  refine vi_bi (dec_of DX2_semitonesOf 5 rfl) (by decide) ?_
  refine v_S2r (k_floorDiv (by omega)) lX2_183 (dec_of DX2_semitonesOf 6 rfl) (by decide) (nle rfl) rfl ?_
  refine v_istore_n (dec_of DX2_semitonesOf 7 rfl) (by decide) ?_
  dsimp only [List.set]
  refine v_iload_n (dec_of DX2_semitonesOf 8 rfl) rfl ?_
  refine vi_if_lt (tgt := 34) (dec_of DX2_semitonesOf 9 rfl) (by decide) (by first | omega | exact bnd_r _ _ | exact hF _ _ | exact hI _ | exact hG _ _ | exact hK _ | (simp [uN] <;> omega)) (fun c15 => absurd c15 (by omega)) (fun c15 => ?_)
  refine v_iload_n (dec_of DX2_semitonesOf 10 rfl) rfl ?_
  refine v_gets (j := 0) (q := ("ChantNeumes$Reader", "SCALE")) (dec_of DX2_semitonesOf 11 rfl) sX2_186 rfl ?_
  refine vi_slen (dec_of DX2_semitonesOf 12 rfl) rfl ?_
  refine vi_icmp_ge (tgt := 34) (dec_of DX2_semitonesOf 13 rfl) (by decide) (by first | omega | exact bnd_r _ _ | exact hF _ _ | exact hI _ | exact hG _ _ | exact hK _ | (simp [uN] <;> omega)) (by first | omega | exact bnd_r _ _ | exact hF _ _ | exact hI _ | exact hG _ _ | exact hK _ | (simp [uN] <;> omega)) (fun c23 => absurd c23 (by omega)) (fun c23 => ?_)
  refine v_gets (j := 0) (q := ("ChantNeumes$Reader", "SCALE")) (dec_of DX2_semitonesOf 14 rfl) sX2_186 rfl ?_
  refine v_iload_n (dec_of DX2_semitonesOf 15 rfl) rfl ?_
  refine vi_sald (dec_of DX2_semitonesOf 16 rfl) rfl (by first | omega | exact bnd_r _ _ | exact hF _ _ | exact hI _ | exact hG _ _ | exact hK _ | (simp [uN] <;> omega)) (by decide) (sc_tab (by omega)) ?_
  refine v_goto (tgt := 35) (dec_of DX2_semitonesOf 17 rfl) (by decide) ?_
  refine v_istore_n (dec_of DX2_semitonesOf 19 rfl) (by decide) ?_
  dsimp only [List.set]
  refine vi_bi (dec_of DX2_semitonesOf 20 rfl) (by decide) ?_
  refine v_iload_n (dec_of DX2_semitonesOf 21 rfl) rfl ?_
  refine vi_mul (dec_of DX2_semitonesOf 22 rfl) ?_
  refine v_iload_n (dec_of DX2_semitonesOf 23 rfl) rfl ?_
  refine vi_add (dec_of DX2_semitonesOf 24 rfl) ?_
  exact vi_ret (dec_of DX2_semitonesOf 25 rfl) rfl ⟨by decide, by decide⟩ (⟨rfl, rfl⟩)
def bgF (N : Nat → Int) (F : Nat → Int → Int) (wd : Int) : Nat → Int → Int := uN F 3 (uI (uI (uI (adf (F 3) 9 (N 3) wd) (N 3 * 9 + 5) (-100)) (N 3 * 9 + 6) (N 2)) (N 3 * 9 + 7) (N 8))
theorem bgF_r {N : Nat → Int} {F : Nat → Int → Int} (hF : FR F) {wd : Int} (hw : -2000 ≤ wd ∧ wd ≤ 2000) (hN : (0 ≤ N 0 ∧ N 0 ≤ 1500) ∧ (0 ≤ N 1 ∧ N 1 ≤ 1500) ∧ (0 ≤ N 2 ∧ N 2 ≤ 1500) ∧ (0 ≤ N 3 ∧ N 3 ≤ 60) ∧ (0 ≤ N 4 ∧ N 4 ≤ 150) ∧ (0 ≤ N 5 ∧ N 5 ≤ 150) ∧ (0 ≤ N 6 ∧ N 6 ≤ 30) ∧ (0 ≤ N 7 ∧ N 7 ≤ 20) ∧ (0 ≤ N 8 ∧ N 8 ≤ 260) ∧ (0 ≤ N 9 ∧ N 9 ≤ 6) ∧ (0 ≤ N 10 ∧ N 10 ≤ 40) ∧ (0 ≤ N 11 ∧ N 11 ≤ 40) ∧ (0 ≤ N 12 ∧ N 12 ≤ 41)) : FR (bgF N F wd) :=
  hF.up (uI_r (uI_r (uI_r (adf_r (hF 3) (by omega)) (by omega)) (by omega)) (by omega))
def ltF (N : Nat → Int) (F : Nat → Int → Int) (b : Int) : Nat → Int → Int := uN (uN F 2 (uI (F 2) (N 2) b)) 3 (if b = 39 then uI (uI (F 3) ((N 3 - 1) * 9 + 1) (F 3 ((N 3 - 1) * 9 + 1) + 1)) ((N 3 - 1) * 9 + 2) 1 else uI (F 3) ((N 3 - 1) * 9 + 1) (F 3 ((N 3 - 1) * 9 + 1) + 1))
set_option maxRecDepth 100000 in
set_option maxHeartbeats 4000000 in
theorem k_begin_full {T : XW} {I N : Nat → Int} {F : Nat → Int → Int} (hF : FR F) (hI : IR I) (hN : NR N) {p : Int} (h3 : 60 ≤ N 3) : Sd (rm 1 24 0 0) mX2_beginSyllable [.ref 20, J p] (cls I N F ++ T) (cls (uN (uN I 3 2) 4 p) N F ++ T) (some (J 0)) := by
  unfold Sd
  unfold NR at hN
  refine sp_of (ls := [some (.ref 20), some (J p), none]) (by decide) (nle rfl) rfl rfl ?_
  refine v_aload_n (dec_of DX2_beginSyllable 0 rfl) rfl ?_
  refine v_get fX2_9 (dec_of DX2_beginSyllable 1 rfl) rfl rfl ?_
  refine v_get fX2_106 (dec_of DX2_beginSyllable 2 rfl) rfl rfl ?_
  refine v_V0r (c3_full (by first | omega | exact bnd_r _ _ | exact hF _ _ | exact hI _ | exact hG _ _ | exact hK _ | (simp [uN] <;> omega))) lX2_115 (dec_of DX2_beginSyllable 3 rfl) rfl rfl (by decide) (nle rfl) rfl ?_
  refine vi_if_eq (tgt := 21) (dec_of DX2_beginSyllable 4 rfl) (by decide) (by first | omega | exact bnd_r _ _ | exact hF _ _ | exact hI _ | exact hG _ _ | exact hK _ | (simp [uN] <;> omega)) (fun c10 => absurd c10 (by omega)) (fun c10 => ?_)
  refine v_aload_n (dec_of DX2_beginSyllable 5 rfl) rfl ?_
  refine vi_const (dec_of DX2_beginSyllable 6 rfl) ?_
  refine v_iload_n (dec_of DX2_beginSyllable 7 rfl) rfl ?_
  refine v_V2v (k_refuse) lX2_58 (dec_of DX2_beginSyllable 8 rfl) rfl rfl (by decide) (nle rfl) rfl ?_
  refine vi_const (dec_of DX2_beginSyllable 9 rfl) ?_
  exact vi_retz (dec_of DX2_beginSyllable 10 rfl) rfl (by first | omega | exact bnd_r _ _ | exact hF _ _ | exact hI _ | exact hG _ _ | exact hK _ | (simp [uN] <;> omega)) ⟨by decide, by decide⟩ (⟨rfl, rfl⟩)
set_option maxRecDepth 100000 in
set_option maxHeartbeats 4000000 in
theorem k_begin_new {T : XW} {I N : Nat → Int} {F : Nat → Int → Int} (hF : FR F) (hI : IR I) (hN : NR N) {p : Int} (h3 : N 3 < 60) (h10 : I 10 = 0) : Sd (rm 1 24 0 0) mX2_beginSyllable [.ref 20, J p] (cls I N F ++ T) (cls (uN (uN (uN I 10 1) 1 (I 1 + 1)) 9 1) (uN N 3 (N 3 + 1)) (bgF N F (I 1 + 1 - 1)) ++ T) (some (J 1)) := by
  unfold Sd
  unfold NR at hN
  refine sp_of (ls := [some (.ref 20), some (J p), none]) (by decide) (nle rfl) rfl rfl ?_
  refine v_aload_n (dec_of DX2_beginSyllable 0 rfl) rfl ?_
  refine v_get fX2_9 (dec_of DX2_beginSyllable 1 rfl) rfl rfl ?_
  refine v_get fX2_106 (dec_of DX2_beginSyllable 2 rfl) rfl rfl ?_
  refine v_V0r (c3_full (by first | omega | exact bnd_r _ _ | exact hF _ _ | exact hI _ | exact hG _ _ | exact hK _ | (simp [uN] <;> omega))) lX2_115 (dec_of DX2_beginSyllable 3 rfl) rfl rfl (by decide) (nle rfl) rfl ?_
  refine vi_if_eq (tgt := 21) (dec_of DX2_beginSyllable 4 rfl) (by decide) (by first | omega | exact bnd_r _ _ | exact hF _ _ | exact hI _ | exact hG _ _ | exact hK _ | (simp [uN] <;> omega)) (fun c10 => ?_) (fun c10 => absurd c10 (by omega))
  refine v_aload_n (dec_of DX2_beginSyllable 11 rfl) rfl ?_
  refine v_get fX2_76 (dec_of DX2_beginSyllable 12 rfl) rfl rfl ?_
  refine vi_if_ne (tgt := 46) (dec_of DX2_beginSyllable 13 rfl) (by decide) (by first | omega | exact bnd_r _ _ | exact hF _ _ | exact hI _ | exact hG _ _ | exact hK _ | (simp [uN] <;> omega)) (fun c25 => absurd c25 (by omega)) (fun c25 => ?_)
  refine v_aload_n (dec_of DX2_beginSyllable 14 rfl) rfl ?_
  refine vi_const (dec_of DX2_beginSyllable 15 rfl) ?_
  refine cp_10 fX2_76 (dec_of DX2_beginSyllable 16 rfl) (by omega) ?_
  refine v_aload_n (dec_of DX2_beginSyllable 17 rfl) rfl ?_
  refine v_get fX2_9 (dec_of DX2_beginSyllable 18 rfl) rfl rfl ?_
  refine v_dup (dec_of DX2_beginSyllable 19 rfl) rfl ?_
  refine v_get fX2_119 (dec_of DX2_beginSyllable 20 rfl) rfl rfl ?_
  refine vi_const (dec_of DX2_beginSyllable 21 rfl) ?_
  refine vi_add (dec_of DX2_beginSyllable 22 rfl) ?_
  refine cp_1 fX2_119 (dec_of DX2_beginSyllable 23 rfl) ?_
  refine v_aload_n (dec_of DX2_beginSyllable 24 rfl) rfl ?_
  refine vi_const (dec_of DX2_beginSyllable 25 rfl) ?_
  refine cp_9 fX2_73 (dec_of DX2_beginSyllable 26 rfl) (by omega) ?_
  refine v_aload_n (dec_of DX2_beginSyllable 27 rfl) rfl ?_
  refine v_get fX2_9 (dec_of DX2_beginSyllable 28 rfl) rfl rfl ?_
  refine v_get fX2_106 (dec_of DX2_beginSyllable 29 rfl) rfl rfl ?_
  refine v_aload_n (dec_of DX2_beginSyllable 30 rfl) rfl ?_
  refine v_get fX2_9 (dec_of DX2_beginSyllable 31 rfl) rfl rfl ?_
  refine v_get fX2_119 (dec_of DX2_beginSyllable 32 rfl) rfl rfl ?_
  refine vi_const (dec_of DX2_beginSyllable 33 rfl) ?_
  refine vi_sub (dec_of DX2_beginSyllable 34 rfl) ?_
  refine v_V1r (c3_add (by first | omega | exact bnd_r _ _ | exact hF _ _ | exact hI _ | exact hG _ _ | exact hK _ | (simp [uN] <;> omega))) lX2_92 (dec_of DX2_beginSyllable 35 rfl) rfl rfl (by decide) (nle rfl) rfl ?_
  refine v_istore_n (dec_of DX2_beginSyllable 36 rfl) (by decide) ?_
  dsimp only [List.set]
  refine v_aload_n (dec_of DX2_beginSyllable 37 rfl) rfl ?_
  refine v_get fX2_9 (dec_of DX2_beginSyllable 38 rfl) rfl rfl ?_
  refine v_get fX2_106 (dec_of DX2_beginSyllable 39 rfl) rfl rfl ?_
  refine v_iload_n (dec_of DX2_beginSyllable 40 rfl) rfl ?_
  refine vi_const (dec_of DX2_beginSyllable 41 rfl) ?_
  refine vi_bi (dec_of DX2_beginSyllable 42 rfl) (by decide) ?_
  refine v_V3v (c3_set (by first | omega | exact bnd_r _ _ | exact hF _ _ | exact hI _ | exact hG _ _ | exact hK _ | (simp [uN] <;> omega)) (by first | omega | exact bnd_r _ _ | exact hF _ _ | exact hI _ | exact hG _ _ | exact hK _ | (simp [uN] <;> omega)) (by first | omega | exact bnd_r _ _ | exact hF _ _ | exact hI _ | exact hG _ _ | exact hK _ | (simp [uN] <;> omega))) lX2_109 (dec_of DX2_beginSyllable 43 rfl) rfl rfl (by decide) (nle rfl) rfl ?_
  refine v_aload_n (dec_of DX2_beginSyllable 44 rfl) rfl ?_
  refine v_get fX2_9 (dec_of DX2_beginSyllable 45 rfl) rfl rfl ?_
  refine v_get fX2_106 (dec_of DX2_beginSyllable 46 rfl) rfl rfl ?_
  refine v_iload_n (dec_of DX2_beginSyllable 47 rfl) rfl ?_
  refine vi_bi (dec_of DX2_beginSyllable 48 rfl) (by decide) ?_
  refine v_aload_n (dec_of DX2_beginSyllable 49 rfl) rfl ?_
  refine v_get fX2_9 (dec_of DX2_beginSyllable 50 rfl) rfl rfl ?_
  refine v_get fX2_112 (dec_of DX2_beginSyllable 51 rfl) rfl rfl ?_
  refine v_V0r (c2_size) lX2_33 (dec_of DX2_beginSyllable 52 rfl) rfl rfl (by decide) (nle rfl) rfl ?_
  refine v_V3v (c3_set (by first | omega | exact bnd_r _ _ | exact hF _ _ | exact hI _ | exact hG _ _ | exact hK _ | (simp [uN] <;> omega)) (by first | omega | exact bnd_r _ _ | exact hF _ _ | exact hI _ | exact hG _ _ | exact hK _ | (simp [uN] <;> omega)) (by first | omega | exact bnd_r _ _ | exact hF _ _ | exact hI _ | exact hG _ _ | exact hK _ | (simp [uN] <;> omega))) lX2_109 (dec_of DX2_beginSyllable 53 rfl) rfl rfl (by decide) (nle rfl) rfl ?_
  refine v_aload_n (dec_of DX2_beginSyllable 54 rfl) rfl ?_
  refine v_get fX2_9 (dec_of DX2_beginSyllable 55 rfl) rfl rfl ?_
  refine v_get fX2_106 (dec_of DX2_beginSyllable 56 rfl) rfl rfl ?_
  refine v_iload_n (dec_of DX2_beginSyllable 57 rfl) rfl ?_
  refine vi_bi (dec_of DX2_beginSyllable 58 rfl) (by decide) ?_
  refine v_aload_n (dec_of DX2_beginSyllable 59 rfl) rfl ?_
  refine v_get fX2_9 (dec_of DX2_beginSyllable 60 rfl) rfl rfl ?_
  refine v_get fX2_122 (dec_of DX2_beginSyllable 61 rfl) rfl rfl ?_
  refine v_V0r (c8_size) lX2_33 (dec_of DX2_beginSyllable 62 rfl) rfl rfl (by decide) (nle rfl) rfl ?_
  refine v_V3v (c3_set (by first | omega | exact bnd_r _ _ | exact hF _ _ | exact hI _ | exact hG _ _ | exact hK _ | (simp [uN] <;> omega)) (by first | omega | exact bnd_r _ _ | exact hF _ _ | exact hI _ | exact hG _ _ | exact hK _ | (simp [uN] <;> omega)) (by first | omega | exact bnd_r _ _ | exact hF _ _ | exact hI _ | exact hG _ _ | exact hK _ | (simp [uN] <;> omega))) lX2_109 (dec_of DX2_beginSyllable 63 rfl) rfl rfl (by decide) (nle rfl) rfl ?_
  refine vi_const (dec_of DX2_beginSyllable 64 rfl) ?_
  exact vi_retz (dec_of DX2_beginSyllable 65 rfl) rfl (by first | omega | exact bnd_r _ _ | exact hF _ _ | exact hI _ | exact hG _ _ | exact hK _ | (simp [uN] <;> omega)) ⟨by decide, by decide⟩ (⟨rfl, rfl⟩)
set_option maxRecDepth 100000 in
set_option maxHeartbeats 4000000 in
theorem k_begin_old {T : XW} {I N : Nat → Int} {F : Nat → Int → Int} (hF : FR F) (hI : IR I) (hN : NR N) {p : Int} (h3 : N 3 < 60) (h10 : ¬ I 10 = 0) : Sd (rm 1 24 0 0) mX2_beginSyllable [.ref 20, J p] (cls I N F ++ T) (cls (uN I 9 1) (uN N 3 (N 3 + 1)) (bgF N F (I 1 - 1)) ++ T) (some (J 1)) := by
  unfold Sd
  unfold NR at hN
  refine sp_of (ls := [some (.ref 20), some (J p), none]) (by decide) (nle rfl) rfl rfl ?_
  refine v_aload_n (dec_of DX2_beginSyllable 0 rfl) rfl ?_
  refine v_get fX2_9 (dec_of DX2_beginSyllable 1 rfl) rfl rfl ?_
  refine v_get fX2_106 (dec_of DX2_beginSyllable 2 rfl) rfl rfl ?_
  refine v_V0r (c3_full (by first | omega | exact bnd_r _ _ | exact hF _ _ | exact hI _ | exact hG _ _ | exact hK _ | (simp [uN] <;> omega))) lX2_115 (dec_of DX2_beginSyllable 3 rfl) rfl rfl (by decide) (nle rfl) rfl ?_
  refine vi_if_eq (tgt := 21) (dec_of DX2_beginSyllable 4 rfl) (by decide) (by first | omega | exact bnd_r _ _ | exact hF _ _ | exact hI _ | exact hG _ _ | exact hK _ | (simp [uN] <;> omega)) (fun c10 => ?_) (fun c10 => absurd c10 (by omega))
  refine v_aload_n (dec_of DX2_beginSyllable 11 rfl) rfl ?_
  refine v_get fX2_76 (dec_of DX2_beginSyllable 12 rfl) rfl rfl ?_
  refine vi_if_ne (tgt := 46) (dec_of DX2_beginSyllable 13 rfl) (by decide) (by first | omega | exact bnd_r _ _ | exact hF _ _ | exact hI _ | exact hG _ _ | exact hK _ | (simp [uN] <;> omega)) (fun c25 => ?_) (fun c25 => absurd c25 (by omega))
  refine v_aload_n (dec_of DX2_beginSyllable 24 rfl) rfl ?_
  refine vi_const (dec_of DX2_beginSyllable 25 rfl) ?_
  refine cp_9 fX2_73 (dec_of DX2_beginSyllable 26 rfl) (by omega) ?_
  refine v_aload_n (dec_of DX2_beginSyllable 27 rfl) rfl ?_
  refine v_get fX2_9 (dec_of DX2_beginSyllable 28 rfl) rfl rfl ?_
  refine v_get fX2_106 (dec_of DX2_beginSyllable 29 rfl) rfl rfl ?_
  refine v_aload_n (dec_of DX2_beginSyllable 30 rfl) rfl ?_
  refine v_get fX2_9 (dec_of DX2_beginSyllable 31 rfl) rfl rfl ?_
  refine v_get fX2_119 (dec_of DX2_beginSyllable 32 rfl) rfl rfl ?_
  refine vi_const (dec_of DX2_beginSyllable 33 rfl) ?_
  refine vi_sub (dec_of DX2_beginSyllable 34 rfl) ?_
  refine v_V1r (c3_add (by first | omega | exact bnd_r _ _ | exact hF _ _ | exact hI _ | exact hG _ _ | exact hK _ | (simp [uN] <;> omega))) lX2_92 (dec_of DX2_beginSyllable 35 rfl) rfl rfl (by decide) (nle rfl) rfl ?_
  refine v_istore_n (dec_of DX2_beginSyllable 36 rfl) (by decide) ?_
  dsimp only [List.set]
  refine v_aload_n (dec_of DX2_beginSyllable 37 rfl) rfl ?_
  refine v_get fX2_9 (dec_of DX2_beginSyllable 38 rfl) rfl rfl ?_
  refine v_get fX2_106 (dec_of DX2_beginSyllable 39 rfl) rfl rfl ?_
  refine v_iload_n (dec_of DX2_beginSyllable 40 rfl) rfl ?_
  refine vi_const (dec_of DX2_beginSyllable 41 rfl) ?_
  refine vi_bi (dec_of DX2_beginSyllable 42 rfl) (by decide) ?_
  refine v_V3v (c3_set (by first | omega | exact bnd_r _ _ | exact hF _ _ | exact hI _ | exact hG _ _ | exact hK _ | (simp [uN] <;> omega)) (by first | omega | exact bnd_r _ _ | exact hF _ _ | exact hI _ | exact hG _ _ | exact hK _ | (simp [uN] <;> omega)) (by first | omega | exact bnd_r _ _ | exact hF _ _ | exact hI _ | exact hG _ _ | exact hK _ | (simp [uN] <;> omega))) lX2_109 (dec_of DX2_beginSyllable 43 rfl) rfl rfl (by decide) (nle rfl) rfl ?_
  refine v_aload_n (dec_of DX2_beginSyllable 44 rfl) rfl ?_
  refine v_get fX2_9 (dec_of DX2_beginSyllable 45 rfl) rfl rfl ?_
  refine v_get fX2_106 (dec_of DX2_beginSyllable 46 rfl) rfl rfl ?_
  refine v_iload_n (dec_of DX2_beginSyllable 47 rfl) rfl ?_
  refine vi_bi (dec_of DX2_beginSyllable 48 rfl) (by decide) ?_
  refine v_aload_n (dec_of DX2_beginSyllable 49 rfl) rfl ?_
  refine v_get fX2_9 (dec_of DX2_beginSyllable 50 rfl) rfl rfl ?_
  refine v_get fX2_112 (dec_of DX2_beginSyllable 51 rfl) rfl rfl ?_
  refine v_V0r (c2_size) lX2_33 (dec_of DX2_beginSyllable 52 rfl) rfl rfl (by decide) (nle rfl) rfl ?_
  refine v_V3v (c3_set (by first | omega | exact bnd_r _ _ | exact hF _ _ | exact hI _ | exact hG _ _ | exact hK _ | (simp [uN] <;> omega)) (by first | omega | exact bnd_r _ _ | exact hF _ _ | exact hI _ | exact hG _ _ | exact hK _ | (simp [uN] <;> omega)) (by first | omega | exact bnd_r _ _ | exact hF _ _ | exact hI _ | exact hG _ _ | exact hK _ | (simp [uN] <;> omega))) lX2_109 (dec_of DX2_beginSyllable 53 rfl) rfl rfl (by decide) (nle rfl) rfl ?_
  refine v_aload_n (dec_of DX2_beginSyllable 54 rfl) rfl ?_
  refine v_get fX2_9 (dec_of DX2_beginSyllable 55 rfl) rfl rfl ?_
  refine v_get fX2_106 (dec_of DX2_beginSyllable 56 rfl) rfl rfl ?_
  refine v_iload_n (dec_of DX2_beginSyllable 57 rfl) rfl ?_
  refine vi_bi (dec_of DX2_beginSyllable 58 rfl) (by decide) ?_
  refine v_aload_n (dec_of DX2_beginSyllable 59 rfl) rfl ?_
  refine v_get fX2_9 (dec_of DX2_beginSyllable 60 rfl) rfl rfl ?_
  refine v_get fX2_122 (dec_of DX2_beginSyllable 61 rfl) rfl rfl ?_
  refine v_V0r (c8_size) lX2_33 (dec_of DX2_beginSyllable 62 rfl) rfl rfl (by decide) (nle rfl) rfl ?_
  refine v_V3v (c3_set (by first | omega | exact bnd_r _ _ | exact hF _ _ | exact hI _ | exact hG _ _ | exact hK _ | (simp [uN] <;> omega)) (by first | omega | exact bnd_r _ _ | exact hF _ _ | exact hI _ | exact hG _ _ | exact hK _ | (simp [uN] <;> omega)) (by first | omega | exact bnd_r _ _ | exact hF _ _ | exact hI _ | exact hG _ _ | exact hK _ | (simp [uN] <;> omega))) lX2_109 (dec_of DX2_beginSyllable 63 rfl) rfl rfl (by decide) (nle rfl) rfl ?_
  refine vi_const (dec_of DX2_beginSyllable 64 rfl) ?_
  exact vi_retz (dec_of DX2_beginSyllable 65 rfl) rfl (by first | omega | exact bnd_r _ _ | exact hF _ _ | exact hI _ | exact hG _ _ | exact hK _ | (simp [uN] <;> omega)) ⟨by decide, by decide⟩ (⟨rfl, rfl⟩)
set_option maxRecDepth 100000 in
set_option maxHeartbeats 4000000 in
theorem k_out_blank {T : XW} {I N : Nat → Int} {F : Nat → Int → Int} (hF : FR F) (hI : IR I) (hN : NR N) {p b : Int} (hb : 0 ≤ b ∧ b < 256) (h : (b = 32 ∨ b = 10)) : Sd (rm 2 46 0 0) mX2_takeOutside [.ref 20, J p, J b] (cls I N F ++ T) (cls (uN (uN (uN I 9 0) 10 0) 7 0) N F ++ T) (none) := by
  unfold Sd
  unfold NR at hN
  refine sp_of (ls := [some (.ref 20), some (J p), some (J b), none, none]) (by decide) (nle rfl) rfl rfl ?_
  refine v_iload_n (dec_of DX2_takeOutside 0 rfl) rfl ?_
  refine v_S1r (k_isBlank (by omega)) lX2_96 (dec_of DX2_takeOutside 1 rfl) (by decide) (nle rfl) rfl ?_
  refine vi_if_eq (tgt := 23) (dec_of DX2_takeOutside 2 rfl) (by decide) (by first | omega | exact bnd_r _ _ | exact hF _ _ | exact hI _ | exact hG _ _ | exact hK _ | (simp [uN] <;> omega)) (fun c4 => absurd c4 (by omega)) (fun c4 => ?_)
  refine v_aload_n (dec_of DX2_takeOutside 3 rfl) rfl ?_
  refine vi_const (dec_of DX2_takeOutside 4 rfl) ?_
  refine cp_9 fX2_73 (dec_of DX2_takeOutside 5 rfl) (by omega) ?_
  refine v_aload_n (dec_of DX2_takeOutside 6 rfl) rfl ?_
  refine vi_const (dec_of DX2_takeOutside 7 rfl) ?_
  refine cp_10 fX2_76 (dec_of DX2_takeOutside 8 rfl) (by omega) ?_
  refine v_aload_n (dec_of DX2_takeOutside 9 rfl) rfl ?_
  refine vi_const (dec_of DX2_takeOutside 10 rfl) ?_
  refine cp_7 fX2_85 (dec_of DX2_takeOutside 11 rfl) ?_
  exact vi_vret (dec_of DX2_takeOutside 12 rfl) rfl ⟨by decide, by decide⟩ (⟨rfl, rfl⟩)
set_option maxRecDepth 100000 in
set_option maxHeartbeats 4000000 in
theorem k_out_strange {T : XW} {I N : Nat → Int} {F : Nat → Int → Int} (hF : FR F) (hI : IR I) (hN : NR N) {p b : Int} (hb : 0 ≤ b ∧ b < 256) (h : ¬ (b = 32 ∨ b = 10) ∧ b ≠ 40 ∧ ¬ ((97 ≤ b ∧ b ≤ 122) ∨ (65 ≤ b ∧ b ≤ 90) ∨ b = 39)) : Sd (rm 2 46 0 0) mX2_takeOutside [.ref 20, J p, J b] (cls I N F ++ T) (cls (uN (uN I 3 1) 4 p) N F ++ T) (none) := by
  unfold Sd
  unfold NR at hN
  refine sp_of (ls := [some (.ref 20), some (J p), some (J b), none, none]) (by decide) (nle rfl) rfl rfl ?_
  refine v_iload_n (dec_of DX2_takeOutside 0 rfl) rfl ?_
  refine v_S1r (k_isBlank (by omega)) lX2_96 (dec_of DX2_takeOutside 1 rfl) (by decide) (nle rfl) rfl ?_
  refine vi_if_eq (tgt := 23) (dec_of DX2_takeOutside 2 rfl) (by decide) (by first | omega | exact bnd_r _ _ | exact hF _ _ | exact hI _ | exact hG _ _ | exact hK _ | (simp [uN] <;> omega)) (fun c4 => ?_) (fun c4 => absurd c4 (by omega))
  refine v_iload_n (dec_of DX2_takeOutside 13 rfl) rfl ?_
  refine vi_bi (dec_of DX2_takeOutside 14 rfl) (by decide) ?_
  refine vi_icmp_eq (tgt := 43) (dec_of DX2_takeOutside 15 rfl) (by decide) (by first | omega | exact bnd_r _ _ | exact hF _ _ | exact hI _ | exact hG _ _ | exact hK _ | (simp [uN] <;> omega)) (by first | omega | exact bnd_r _ _ | exact hF _ _ | exact hI _ | exact hG _ _ | exact hK _ | (simp [uN] <;> omega)) (fun c26 => absurd c26 (by omega)) (fun c26 => ?_)
  refine v_iload_n (dec_of DX2_takeOutside 16 rfl) rfl ?_
  refine v_S1r (k_isLetter (by omega)) lX2_100 (dec_of DX2_takeOutside 17 rfl) (by decide) (nle rfl) rfl ?_
  refine vi_if_ne (tgt := 43) (dec_of DX2_takeOutside 18 rfl) (by decide) (by first | omega | exact bnd_r _ _ | exact hF _ _ | exact hI _ | exact hG _ _ | exact hK _ | (simp [uN] <;> omega)) (fun c33 => absurd c33 (by omega)) (fun c33 => ?_)
  refine v_aload_n (dec_of DX2_takeOutside 19 rfl) rfl ?_
  refine vi_const (dec_of DX2_takeOutside 20 rfl) ?_
  refine v_iload_n (dec_of DX2_takeOutside 21 rfl) rfl ?_
  refine v_V2v (k_refuse) lX2_58 (dec_of DX2_takeOutside 22 rfl) rfl rfl (by decide) (nle rfl) rfl ?_
  exact vi_vret (dec_of DX2_takeOutside 23 rfl) rfl ⟨by decide, by decide⟩ (⟨rfl, rfl⟩)
set_option maxRecDepth 100000 in
set_option maxHeartbeats 4000000 in
theorem k_out_full {T : XW} {I N : Nat → Int} {F : Nat → Int → Int} (hF : FR F) (hI : IR I) (hN : NR N) {p b : Int} (hb : 0 ≤ b ∧ b < 256) (h : b = 40 ∨ ((97 ≤ b ∧ b ≤ 122) ∨ (65 ≤ b ∧ b ≤ 90) ∨ b = 39)) (h9 : I 9 = 0) (h3 : 60 ≤ N 3) : Sd (rm 2 46 0 0) mX2_takeOutside [.ref 20, J p, J b] (cls I N F ++ T) (cls (uN (uN I 3 2) 4 p) N F ++ T) (none) := by
  unfold Sd
  unfold NR at hN
  refine sp_of (ls := [some (.ref 20), some (J p), some (J b), none, none]) (by decide) (nle rfl) rfl rfl ?_
  refine v_iload_n (dec_of DX2_takeOutside 0 rfl) rfl ?_
  refine v_S1r (k_isBlank (by omega)) lX2_96 (dec_of DX2_takeOutside 1 rfl) (by decide) (nle rfl) rfl ?_
  refine vi_if_eq (tgt := 23) (dec_of DX2_takeOutside 2 rfl) (by decide) (by first | omega | exact bnd_r _ _ | exact hF _ _ | exact hI _ | exact hG _ _ | exact hK _ | (simp [uN] <;> omega)) (fun c4 => ?_) (fun c4 => absurd c4 (by omega))
  refine v_iload_n (dec_of DX2_takeOutside 13 rfl) rfl ?_
  refine vi_bi (dec_of DX2_takeOutside 14 rfl) (by decide) ?_
  refine vi_icmp_eq (tgt := 43) (dec_of DX2_takeOutside 15 rfl) (by decide) (by first | omega | exact bnd_r _ _ | exact hF _ _ | exact hI _ | exact hG _ _ | exact hK _ | (simp [uN] <;> omega)) (by first | omega | exact bnd_r _ _ | exact hF _ _ | exact hI _ | exact hG _ _ | exact hK _ | (simp [uN] <;> omega)) (fun c26 => ?_) (fun c26 => ?_)
  · refine v_aload_n (dec_of DX2_takeOutside 24 rfl) rfl ?_
    refine v_get fX2_73 (dec_of DX2_takeOutside 25 rfl) rfl rfl ?_
    refine vi_if_ne (tgt := 59) (dec_of DX2_takeOutside 26 rfl) (by decide) (by first | omega | exact bnd_r _ _ | exact hF _ _ | exact hI _ | exact hG _ _ | exact hK _ | (simp [uN] <;> omega)) (fun c47 => absurd c47 (by omega)) (fun c47 => ?_)
    refine v_aload_n (dec_of DX2_takeOutside 27 rfl) rfl ?_
    refine v_iload_n (dec_of DX2_takeOutside 28 rfl) rfl ?_
    refine v_V1r (k_begin_full hF hI (by unfold NR; exact hN) (by omega)) lX2_103 (dec_of DX2_takeOutside 29 rfl) rfl rfl (by decide) (nle rfl) rfl ?_
    refine vi_if_ne (tgt := 59) (dec_of DX2_takeOutside 30 rfl) (by decide) (by first | omega | exact bnd_r _ _ | exact hF _ _ | exact hI _ | exact hG _ _ | exact hK _ | (simp [uN] <;> omega)) (fun c55 => absurd c55 (by omega)) (fun c55 => ?_)
    exact vi_vret (dec_of DX2_takeOutside 31 rfl) rfl ⟨by decide, by decide⟩ (⟨rfl, rfl⟩)
  · refine v_iload_n (dec_of DX2_takeOutside 16 rfl) rfl ?_
    refine v_S1r (k_isLetter (by omega)) lX2_100 (dec_of DX2_takeOutside 17 rfl) (by decide) (nle rfl) rfl ?_
    refine vi_if_ne (tgt := 43) (dec_of DX2_takeOutside 18 rfl) (by decide) (by first | omega | exact bnd_r _ _ | exact hF _ _ | exact hI _ | exact hG _ _ | exact hK _ | (simp [uN] <;> omega)) (fun c33 => ?_) (fun c33 => absurd c33 (by omega))
    refine v_aload_n (dec_of DX2_takeOutside 24 rfl) rfl ?_
    refine v_get fX2_73 (dec_of DX2_takeOutside 25 rfl) rfl rfl ?_
    refine vi_if_ne (tgt := 59) (dec_of DX2_takeOutside 26 rfl) (by decide) (by first | omega | exact bnd_r _ _ | exact hF _ _ | exact hI _ | exact hG _ _ | exact hK _ | (simp [uN] <;> omega)) (fun c47 => absurd c47 (by omega)) (fun c47 => ?_)
    refine v_aload_n (dec_of DX2_takeOutside 27 rfl) rfl ?_
    refine v_iload_n (dec_of DX2_takeOutside 28 rfl) rfl ?_
    refine v_V1r (k_begin_full hF hI (by unfold NR; exact hN) (by omega)) lX2_103 (dec_of DX2_takeOutside 29 rfl) rfl rfl (by decide) (nle rfl) rfl ?_
    refine vi_if_ne (tgt := 59) (dec_of DX2_takeOutside 30 rfl) (by decide) (by first | omega | exact bnd_r _ _ | exact hF _ _ | exact hI _ | exact hG _ _ | exact hK _ | (simp [uN] <;> omega)) (fun c55 => absurd c55 (by omega)) (fun c55 => ?_)
    exact vi_vret (dec_of DX2_takeOutside 31 rfl) rfl ⟨by decide, by decide⟩ (⟨rfl, rfl⟩)
set_option maxRecDepth 100000 in
set_option maxHeartbeats 4000000 in
theorem k_ot_par {T : XW} {I N : Nat → Int} {F : Nat → Int → Int} (hF : FR F) (hI : IR I) (hN : NR N) {n0 : Nat} {Z : XW → Option Value → Prop} {p b : Int} (hb : 0 ≤ b ∧ b < 256) (h : b = 40) (h3 : 0 < N 3) (hz : Z (cls (uN I 8 1) N (uN F 3 (uI (F 3) ((N 3 - 1) * 9 + 3) 1)) ++ T) none) : Vd (rm 2 46 0 0) [] mX2_takeOutside n0 Z 0 0 59 [some (.ref 20), some (J p), some (J b), none, none] [] (cls I N F ++ T) := by
  unfold NR at hN
  refine v_aload_n (dec_of DX2_takeOutside 32 rfl) rfl ?_
  refine v_get fX2_9 (dec_of DX2_takeOutside 33 rfl) rfl rfl ?_
  refine v_get fX2_106 (dec_of DX2_takeOutside 34 rfl) rfl rfl ?_
  refine v_V0r (c3_size) lX2_33 (dec_of DX2_takeOutside 35 rfl) rfl rfl (by decide) (nle rfl) rfl ?_
  refine vi_const (dec_of DX2_takeOutside 36 rfl) ?_
  refine vi_sub (dec_of DX2_takeOutside 37 rfl) ?_
  refine v_istore_n (dec_of DX2_takeOutside 38 rfl) (by decide) ?_
  dsimp only [List.set]
  refine v_iload_n (dec_of DX2_takeOutside 39 rfl) rfl ?_
  refine vi_bi (dec_of DX2_takeOutside 40 rfl) (by decide) ?_
  refine vi_icmp_ne (tgt := 97) (dec_of DX2_takeOutside 41 rfl) (by decide) (by first | omega | exact bnd_r _ _ | exact hF _ _ | exact hI _ | exact hG _ _ | exact hK _ | (simp [uN] <;> omega)) (by first | omega | exact bnd_r _ _ | exact hF _ _ | exact hI _ | exact hG _ _ | exact hK _ | (simp [uN] <;> omega)) (fun c75 => absurd c75 (by omega)) (fun c75 => ?_)
  refine v_aload_n (dec_of DX2_takeOutside 42 rfl) rfl ?_
  refine vi_const (dec_of DX2_takeOutside 43 rfl) ?_
  refine cp_8 fX2_47 (dec_of DX2_takeOutside 44 rfl) (by omega) ?_
  refine v_aload_n (dec_of DX2_takeOutside 45 rfl) rfl ?_
  refine v_get fX2_9 (dec_of DX2_takeOutside 46 rfl) rfl rfl ?_
  refine v_get fX2_106 (dec_of DX2_takeOutside 47 rfl) rfl rfl ?_
  refine v_iload_n (dec_of DX2_takeOutside 48 rfl) rfl ?_
  refine vi_const (dec_of DX2_takeOutside 49 rfl) ?_
  refine vi_const (dec_of DX2_takeOutside 50 rfl) ?_
  refine v_V3v (c3_set (by first | omega | exact bnd_r _ _ | exact hF _ _ | exact hI _ | exact hG _ _ | exact hK _ | (simp [uN] <;> omega)) (by first | omega | exact bnd_r _ _ | exact hF _ _ | exact hI _ | exact hG _ _ | exact hK _ | (simp [uN] <;> omega)) (by first | omega | exact bnd_r _ _ | exact hF _ _ | exact hI _ | exact hG _ _ | exact hK _ | (simp [uN] <;> omega))) lX2_109 (dec_of DX2_takeOutside 51 rfl) rfl rfl (by decide) (nle rfl) rfl ?_
  exact vi_vret (dec_of DX2_takeOutside 52 rfl) rfl ⟨by decide, by decide⟩ (hz)
set_option maxRecDepth 100000 in
set_option maxHeartbeats 4000000 in
theorem k_ot_let {T : XW} {I N : Nat → Int} {F : Nat → Int → Int} (hF : FR F) (hI : IR I) (hN : NR N) {n0 : Nat} {Z : XW → Option Value → Prop} {p b : Int} (hb : 0 ≤ b ∧ b < 256) (h : ((97 ≤ b ∧ b ≤ 122) ∨ (65 ≤ b ∧ b ≤ 90) ∨ b = 39)) (h3 : 0 < N 3) (h2 : N 2 < 1500) (hz : Z (cls I (uN N 2 (N 2 + 1)) (ltF N F b) ++ T) none) : Vd (rm 2 46 0 0) [] mX2_takeOutside n0 Z 0 0 59 [some (.ref 20), some (J p), some (J b), none, none] [] (cls I N F ++ T) := by
  unfold NR at hN
  refine v_aload_n (dec_of DX2_takeOutside 32 rfl) rfl ?_
  refine v_get fX2_9 (dec_of DX2_takeOutside 33 rfl) rfl rfl ?_
  refine v_get fX2_106 (dec_of DX2_takeOutside 34 rfl) rfl rfl ?_
  refine v_V0r (c3_size) lX2_33 (dec_of DX2_takeOutside 35 rfl) rfl rfl (by decide) (nle rfl) rfl ?_
  refine vi_const (dec_of DX2_takeOutside 36 rfl) ?_
  refine vi_sub (dec_of DX2_takeOutside 37 rfl) ?_
  refine v_istore_n (dec_of DX2_takeOutside 38 rfl) (by decide) ?_
  dsimp only [List.set]
  refine v_iload_n (dec_of DX2_takeOutside 39 rfl) rfl ?_
  refine vi_bi (dec_of DX2_takeOutside 40 rfl) (by decide) ?_
  refine vi_icmp_ne (tgt := 97) (dec_of DX2_takeOutside 41 rfl) (by decide) (by first | omega | exact bnd_r _ _ | exact hF _ _ | exact hI _ | exact hG _ _ | exact hK _ | (simp [uN] <;> omega)) (by first | omega | exact bnd_r _ _ | exact hF _ _ | exact hI _ | exact hG _ _ | exact hK _ | (simp [uN] <;> omega)) (fun c75 => ?_) (fun c75 => absurd c75 (by omega))
  refine v_aload_n (dec_of DX2_takeOutside 53 rfl) rfl ?_
  refine v_get fX2_9 (dec_of DX2_takeOutside 54 rfl) rfl rfl ?_
  refine v_get fX2_112 (dec_of DX2_takeOutside 55 rfl) rfl rfl ?_
  refine v_iload_n (dec_of DX2_takeOutside 56 rfl) rfl ?_
  refine v_V1r (c2_add (by first | omega | exact bnd_r _ _ | exact hF _ _ | exact hI _ | exact hG _ _ | exact hK _ | (simp [uN] <;> omega))) lX2_92 (dec_of DX2_takeOutside 57 rfl) rfl rfl (by decide) (nle rfl) rfl ?_
  refine v_pop (dec_of DX2_takeOutside 58 rfl) rfl ?_
  refine v_aload_n (dec_of DX2_takeOutside 59 rfl) rfl ?_
  refine v_get fX2_9 (dec_of DX2_takeOutside 60 rfl) rfl rfl ?_
  refine v_get fX2_106 (dec_of DX2_takeOutside 61 rfl) rfl rfl ?_
  refine v_iload_n (dec_of DX2_takeOutside 62 rfl) rfl ?_
  refine vi_const (dec_of DX2_takeOutside 63 rfl) ?_
  refine v_V2r (c3_get (by first | omega | exact bnd_r _ _ | exact hF _ _ | exact hI _ | exact hG _ _ | exact hK _ | (simp [uN] <;> omega)) (by first | omega | exact bnd_r _ _ | exact hF _ _ | exact hI _ | exact hG _ _ | exact hK _ | (simp [uN] <;> omega)) (by first | omega | exact bnd_r _ _ | exact hF _ _ | exact hI _ | exact hG _ _ | exact hK _ | (simp [uN] <;> omega))) lX2_43 (dec_of DX2_takeOutside 64 rfl) rfl rfl (by decide) (nle rfl) rfl ?_
  refine v_istore (dec_of DX2_takeOutside 65 rfl) (by decide) ?_
  dsimp only [List.set]
  refine v_aload_n (dec_of DX2_takeOutside 66 rfl) rfl ?_
  refine v_get fX2_9 (dec_of DX2_takeOutside 67 rfl) rfl rfl ?_
  refine v_get fX2_106 (dec_of DX2_takeOutside 68 rfl) rfl rfl ?_
  refine v_iload_n (dec_of DX2_takeOutside 69 rfl) rfl ?_
  refine vi_const (dec_of DX2_takeOutside 70 rfl) ?_
  refine v_iload (dec_of DX2_takeOutside 71 rfl) rfl ?_
  refine vi_const (dec_of DX2_takeOutside 72 rfl) ?_
  refine vi_add (dec_of DX2_takeOutside 73 rfl) ?_
  refine v_V3v (c3_set (by first | omega | exact bnd_r _ _ | exact hF _ _ | exact hI _ | exact hG _ _ | exact hK _ | (simp [uN] <;> omega)) (by first | omega | exact bnd_r _ _ | exact hF _ _ | exact hI _ | exact hG _ _ | exact hK _ | (simp [uN] <;> omega)) (by first | omega | exact bnd_r _ _ | exact hF _ _ | exact hI _ | exact hG _ _ | exact hK _ | (simp [uN] <;> omega))) lX2_109 (dec_of DX2_takeOutside 74 rfl) rfl rfl (by decide) (nle rfl) rfl ?_
  refine v_iload_n (dec_of DX2_takeOutside 75 rfl) rfl ?_
  refine vi_bi (dec_of DX2_takeOutside 76 rfl) (by decide) ?_
  refine vi_icmp_ne (tgt := 158) (dec_of DX2_takeOutside 77 rfl) (by decide) (by first | omega | exact bnd_r _ _ | exact hF _ _ | exact hI _ | exact hG _ _ | exact hK _ | (simp [uN] <;> omega)) (by first | omega | exact bnd_r _ _ | exact hF _ _ | exact hI _ | exact hG _ _ | exact hK _ | (simp [uN] <;> omega)) (fun c142 => ?_) (fun c142 => ?_)
  · exact vi_vret (dec_of DX2_takeOutside 85 rfl) rfl ⟨by decide, by decide⟩ (by first | (rw [ltF, if_pos (by omega)] at hz; exact hz) | (rw [ltF, if_neg (by omega)] at hz; exact hz))
  · refine v_aload_n (dec_of DX2_takeOutside 78 rfl) rfl ?_
    refine v_get fX2_9 (dec_of DX2_takeOutside 79 rfl) rfl rfl ?_
    refine v_get fX2_106 (dec_of DX2_takeOutside 80 rfl) rfl rfl ?_
    refine v_iload_n (dec_of DX2_takeOutside 81 rfl) rfl ?_
    refine vi_const (dec_of DX2_takeOutside 82 rfl) ?_
    refine vi_const (dec_of DX2_takeOutside 83 rfl) ?_
    refine v_V3v (c3_set (by first | omega | exact bnd_r _ _ | exact hF _ _ | exact hI _ | exact hG _ _ | exact hK _ | (simp [uN] <;> omega)) (by first | omega | exact bnd_r _ _ | exact hF _ _ | exact hI _ | exact hG _ _ | exact hK _ | (simp [uN] <;> omega)) (by first | omega | exact bnd_r _ _ | exact hF _ _ | exact hI _ | exact hG _ _ | exact hK _ | (simp [uN] <;> omega))) lX2_109 (dec_of DX2_takeOutside 84 rfl) rfl rfl (by decide) (nle rfl) rfl ?_
    exact vi_vret (dec_of DX2_takeOutside 85 rfl) rfl ⟨by decide, by decide⟩ (by first | (rw [ltF, if_pos (by omega)] at hz; exact hz) | (rw [ltF, if_neg (by omega)] at hz; exact hz))
set_option maxRecDepth 100000 in
set_option maxHeartbeats 4000000 in
theorem k_out_par_in {T : XW} {I N : Nat → Int} {F : Nat → Int → Int} (hF : FR F) (hI : IR I) (hN : NR N) {p b : Int} (hb : 0 ≤ b ∧ b < 256) (h : b = 40) (h9 : ¬ I 9 = 0) (h3 : 0 < N 3) : Sd (rm 2 46 0 0) mX2_takeOutside [.ref 20, J p, J b] (cls I N F ++ T) (cls (uN (I) 8 1) (N) (uN (F) 3 (uI ((F) 3) (((N) 3 - 1) * 9 + 3) 1)) ++ T) (none) := by
  unfold Sd
  unfold NR at hN
  refine sp_of (ls := [some (.ref 20), some (J p), some (J b), none, none]) (by decide) (nle rfl) rfl rfl ?_
  refine v_iload_n (dec_of DX2_takeOutside 0 rfl) rfl ?_
  refine v_S1r (k_isBlank (by omega)) lX2_96 (dec_of DX2_takeOutside 1 rfl) (by decide) (nle rfl) rfl ?_
  refine vi_if_eq (tgt := 23) (dec_of DX2_takeOutside 2 rfl) (by decide) (by first | omega | exact bnd_r _ _ | exact hF _ _ | exact hI _ | exact hG _ _ | exact hK _ | (simp [uN] <;> omega)) (fun c4 => ?_) (fun c4 => absurd c4 (by omega))
  refine v_iload_n (dec_of DX2_takeOutside 13 rfl) rfl ?_
  refine vi_bi (dec_of DX2_takeOutside 14 rfl) (by decide) ?_
  refine vi_icmp_eq (tgt := 43) (dec_of DX2_takeOutside 15 rfl) (by decide) (by first | omega | exact bnd_r _ _ | exact hF _ _ | exact hI _ | exact hG _ _ | exact hK _ | (simp [uN] <;> omega)) (by first | omega | exact bnd_r _ _ | exact hF _ _ | exact hI _ | exact hG _ _ | exact hK _ | (simp [uN] <;> omega)) (fun c26 => ?_) (fun c26 => ?_)
  · refine v_aload_n (dec_of DX2_takeOutside 24 rfl) rfl ?_
    refine v_get fX2_73 (dec_of DX2_takeOutside 25 rfl) rfl rfl ?_
    refine vi_if_ne (tgt := 59) (dec_of DX2_takeOutside 26 rfl) (by decide) (by first | omega | exact bnd_r _ _ | exact hF _ _ | exact hI _ | exact hG _ _ | exact hK _ | (simp [uN] <;> omega)) (fun c47 => ?_) (fun c47 => absurd c47 (by omega))
    exact k_ot_par hF hI (by unfold NR; exact hN) hb h h3 ⟨rfl, rfl⟩
  · refine v_iload_n (dec_of DX2_takeOutside 16 rfl) rfl ?_
    refine v_S1r (k_isLetter (by omega)) lX2_100 (dec_of DX2_takeOutside 17 rfl) (by decide) (nle rfl) rfl ?_
    refine vi_if_ne (tgt := 43) (dec_of DX2_takeOutside 18 rfl) (by decide) (by first | omega | exact bnd_r _ _ | exact hF _ _ | exact hI _ | exact hG _ _ | exact hK _ | (simp [uN] <;> omega)) (fun c33 => ?_) (fun c33 => absurd c33 (by omega))
    refine v_aload_n (dec_of DX2_takeOutside 24 rfl) rfl ?_
    refine v_get fX2_73 (dec_of DX2_takeOutside 25 rfl) rfl rfl ?_
    refine vi_if_ne (tgt := 59) (dec_of DX2_takeOutside 26 rfl) (by decide) (by first | omega | exact bnd_r _ _ | exact hF _ _ | exact hI _ | exact hG _ _ | exact hK _ | (simp [uN] <;> omega)) (fun c47 => ?_) (fun c47 => absurd c47 (by omega))
    exact k_ot_par hF hI (by unfold NR; exact hN) hb h h3 ⟨rfl, rfl⟩
set_option maxRecDepth 100000 in
set_option maxHeartbeats 4000000 in
theorem k_out_par_new {T : XW} {I N : Nat → Int} {F : Nat → Int → Int} (hF : FR F) (hI : IR I) (hN : NR N) {p b : Int} (hb : 0 ≤ b ∧ b < 256) (h : b = 40) (h9 : I 9 = 0) (h10 : I 10 = 0) (h3 : N 3 < 60) (hw : -1000 ≤ I 1 ∧ I 1 ≤ 1000) : Sd (rm 2 46 0 0) mX2_takeOutside [.ref 20, J p, J b] (cls I N F ++ T) (cls (uN (uN (uN (uN I 10 1) 1 (I 1 + 1)) 9 1) 8 1) (uN N 3 (N 3 + 1)) (uN (bgF N F (I 1 + 1 - 1)) 3 (uI ((bgF N F (I 1 + 1 - 1)) 3) (((uN N 3 (N 3 + 1)) 3 - 1) * 9 + 3) 1)) ++ T) (none) := by
  unfold Sd
  unfold NR at hN
  refine sp_of (ls := [some (.ref 20), some (J p), some (J b), none, none]) (by decide) (nle rfl) rfl rfl ?_
  refine v_iload_n (dec_of DX2_takeOutside 0 rfl) rfl ?_
  refine v_S1r (k_isBlank (by omega)) lX2_96 (dec_of DX2_takeOutside 1 rfl) (by decide) (nle rfl) rfl ?_
  refine vi_if_eq (tgt := 23) (dec_of DX2_takeOutside 2 rfl) (by decide) (by first | omega | exact bnd_r _ _ | exact hF _ _ | exact hI _ | exact hG _ _ | exact hK _ | (simp [uN] <;> omega)) (fun c4 => ?_) (fun c4 => absurd c4 (by omega))
  refine v_iload_n (dec_of DX2_takeOutside 13 rfl) rfl ?_
  refine vi_bi (dec_of DX2_takeOutside 14 rfl) (by decide) ?_
  refine vi_icmp_eq (tgt := 43) (dec_of DX2_takeOutside 15 rfl) (by decide) (by first | omega | exact bnd_r _ _ | exact hF _ _ | exact hI _ | exact hG _ _ | exact hK _ | (simp [uN] <;> omega)) (by first | omega | exact bnd_r _ _ | exact hF _ _ | exact hI _ | exact hG _ _ | exact hK _ | (simp [uN] <;> omega)) (fun c26 => ?_) (fun c26 => ?_)
  · refine v_aload_n (dec_of DX2_takeOutside 24 rfl) rfl ?_
    refine v_get fX2_73 (dec_of DX2_takeOutside 25 rfl) rfl rfl ?_
    refine vi_if_ne (tgt := 59) (dec_of DX2_takeOutside 26 rfl) (by decide) (by first | omega | exact bnd_r _ _ | exact hF _ _ | exact hI _ | exact hG _ _ | exact hK _ | (simp [uN] <;> omega)) (fun c47 => absurd c47 (by omega)) (fun c47 => ?_)
    refine v_aload_n (dec_of DX2_takeOutside 27 rfl) rfl ?_
    refine v_iload_n (dec_of DX2_takeOutside 28 rfl) rfl ?_
    refine v_V1r (k_begin_new hF hI (by unfold NR; exact hN) (by omega) h10) lX2_103 (dec_of DX2_takeOutside 29 rfl) rfl rfl (by decide) (nle rfl) rfl ?_
    refine vi_if_ne (tgt := 59) (dec_of DX2_takeOutside 30 rfl) (by decide) (by first | omega | exact bnd_r _ _ | exact hF _ _ | exact hI _ | exact hG _ _ | exact hK _ | (simp [uN] <;> omega)) (fun c55 => ?_) (fun c55 => absurd c55 (by omega))
    exact k_ot_par (bgF_r hF (by omega) hN) (((hI.up (by omega)).up (by omega)).up (by omega)) (by unfold NR; simp [uN]; omega) hb h (by simp [uN]; omega) ⟨rfl, rfl⟩
  · refine v_iload_n (dec_of DX2_takeOutside 16 rfl) rfl ?_
    refine v_S1r (k_isLetter (by omega)) lX2_100 (dec_of DX2_takeOutside 17 rfl) (by decide) (nle rfl) rfl ?_
    refine vi_if_ne (tgt := 43) (dec_of DX2_takeOutside 18 rfl) (by decide) (by first | omega | exact bnd_r _ _ | exact hF _ _ | exact hI _ | exact hG _ _ | exact hK _ | (simp [uN] <;> omega)) (fun c33 => ?_) (fun c33 => absurd c33 (by omega))
    refine v_aload_n (dec_of DX2_takeOutside 24 rfl) rfl ?_
    refine v_get fX2_73 (dec_of DX2_takeOutside 25 rfl) rfl rfl ?_
    refine vi_if_ne (tgt := 59) (dec_of DX2_takeOutside 26 rfl) (by decide) (by first | omega | exact bnd_r _ _ | exact hF _ _ | exact hI _ | exact hG _ _ | exact hK _ | (simp [uN] <;> omega)) (fun c47 => absurd c47 (by omega)) (fun c47 => ?_)
    refine v_aload_n (dec_of DX2_takeOutside 27 rfl) rfl ?_
    refine v_iload_n (dec_of DX2_takeOutside 28 rfl) rfl ?_
    refine v_V1r (k_begin_new hF hI (by unfold NR; exact hN) (by omega) h10) lX2_103 (dec_of DX2_takeOutside 29 rfl) rfl rfl (by decide) (nle rfl) rfl ?_
    refine vi_if_ne (tgt := 59) (dec_of DX2_takeOutside 30 rfl) (by decide) (by first | omega | exact bnd_r _ _ | exact hF _ _ | exact hI _ | exact hG _ _ | exact hK _ | (simp [uN] <;> omega)) (fun c55 => ?_) (fun c55 => absurd c55 (by omega))
    exact k_ot_par (bgF_r hF (by omega) hN) (((hI.up (by omega)).up (by omega)).up (by omega)) (by unfold NR; simp [uN]; omega) hb h (by simp [uN]; omega) ⟨rfl, rfl⟩
set_option maxRecDepth 100000 in
set_option maxHeartbeats 4000000 in
theorem k_out_par_old {T : XW} {I N : Nat → Int} {F : Nat → Int → Int} (hF : FR F) (hI : IR I) (hN : NR N) {p b : Int} (hb : 0 ≤ b ∧ b < 256) (h : b = 40) (h9 : I 9 = 0) (h10 : ¬ I 10 = 0) (h3 : N 3 < 60) (hw : -1000 ≤ I 1 ∧ I 1 ≤ 1000) : Sd (rm 2 46 0 0) mX2_takeOutside [.ref 20, J p, J b] (cls I N F ++ T) (cls (uN (uN I 9 1) 8 1) (uN N 3 (N 3 + 1)) (uN (bgF N F (I 1 - 1)) 3 (uI ((bgF N F (I 1 - 1)) 3) (((uN N 3 (N 3 + 1)) 3 - 1) * 9 + 3) 1)) ++ T) (none) := by
  unfold Sd
  unfold NR at hN
  refine sp_of (ls := [some (.ref 20), some (J p), some (J b), none, none]) (by decide) (nle rfl) rfl rfl ?_
  refine v_iload_n (dec_of DX2_takeOutside 0 rfl) rfl ?_
  refine v_S1r (k_isBlank (by omega)) lX2_96 (dec_of DX2_takeOutside 1 rfl) (by decide) (nle rfl) rfl ?_
  refine vi_if_eq (tgt := 23) (dec_of DX2_takeOutside 2 rfl) (by decide) (by first | omega | exact bnd_r _ _ | exact hF _ _ | exact hI _ | exact hG _ _ | exact hK _ | (simp [uN] <;> omega)) (fun c4 => ?_) (fun c4 => absurd c4 (by omega))
  refine v_iload_n (dec_of DX2_takeOutside 13 rfl) rfl ?_
  refine vi_bi (dec_of DX2_takeOutside 14 rfl) (by decide) ?_
  refine vi_icmp_eq (tgt := 43) (dec_of DX2_takeOutside 15 rfl) (by decide) (by first | omega | exact bnd_r _ _ | exact hF _ _ | exact hI _ | exact hG _ _ | exact hK _ | (simp [uN] <;> omega)) (by first | omega | exact bnd_r _ _ | exact hF _ _ | exact hI _ | exact hG _ _ | exact hK _ | (simp [uN] <;> omega)) (fun c26 => ?_) (fun c26 => ?_)
  · refine v_aload_n (dec_of DX2_takeOutside 24 rfl) rfl ?_
    refine v_get fX2_73 (dec_of DX2_takeOutside 25 rfl) rfl rfl ?_
    refine vi_if_ne (tgt := 59) (dec_of DX2_takeOutside 26 rfl) (by decide) (by first | omega | exact bnd_r _ _ | exact hF _ _ | exact hI _ | exact hG _ _ | exact hK _ | (simp [uN] <;> omega)) (fun c47 => absurd c47 (by omega)) (fun c47 => ?_)
    refine v_aload_n (dec_of DX2_takeOutside 27 rfl) rfl ?_
    refine v_iload_n (dec_of DX2_takeOutside 28 rfl) rfl ?_
    refine v_V1r (k_begin_old hF hI (by unfold NR; exact hN) (by omega) h10) lX2_103 (dec_of DX2_takeOutside 29 rfl) rfl rfl (by decide) (nle rfl) rfl ?_
    refine vi_if_ne (tgt := 59) (dec_of DX2_takeOutside 30 rfl) (by decide) (by first | omega | exact bnd_r _ _ | exact hF _ _ | exact hI _ | exact hG _ _ | exact hK _ | (simp [uN] <;> omega)) (fun c55 => ?_) (fun c55 => absurd c55 (by omega))
    exact k_ot_par (bgF_r hF (by omega) hN) (hI.up (by omega)) (by unfold NR; simp [uN]; omega) hb h (by simp [uN]; omega) ⟨rfl, rfl⟩
  · refine v_iload_n (dec_of DX2_takeOutside 16 rfl) rfl ?_
    refine v_S1r (k_isLetter (by omega)) lX2_100 (dec_of DX2_takeOutside 17 rfl) (by decide) (nle rfl) rfl ?_
    refine vi_if_ne (tgt := 43) (dec_of DX2_takeOutside 18 rfl) (by decide) (by first | omega | exact bnd_r _ _ | exact hF _ _ | exact hI _ | exact hG _ _ | exact hK _ | (simp [uN] <;> omega)) (fun c33 => ?_) (fun c33 => absurd c33 (by omega))
    refine v_aload_n (dec_of DX2_takeOutside 24 rfl) rfl ?_
    refine v_get fX2_73 (dec_of DX2_takeOutside 25 rfl) rfl rfl ?_
    refine vi_if_ne (tgt := 59) (dec_of DX2_takeOutside 26 rfl) (by decide) (by first | omega | exact bnd_r _ _ | exact hF _ _ | exact hI _ | exact hG _ _ | exact hK _ | (simp [uN] <;> omega)) (fun c47 => absurd c47 (by omega)) (fun c47 => ?_)
    refine v_aload_n (dec_of DX2_takeOutside 27 rfl) rfl ?_
    refine v_iload_n (dec_of DX2_takeOutside 28 rfl) rfl ?_
    refine v_V1r (k_begin_old hF hI (by unfold NR; exact hN) (by omega) h10) lX2_103 (dec_of DX2_takeOutside 29 rfl) rfl rfl (by decide) (nle rfl) rfl ?_
    refine vi_if_ne (tgt := 59) (dec_of DX2_takeOutside 30 rfl) (by decide) (by first | omega | exact bnd_r _ _ | exact hF _ _ | exact hI _ | exact hG _ _ | exact hK _ | (simp [uN] <;> omega)) (fun c55 => ?_) (fun c55 => absurd c55 (by omega))
    exact k_ot_par (bgF_r hF (by omega) hN) (hI.up (by omega)) (by unfold NR; simp [uN]; omega) hb h (by simp [uN]; omega) ⟨rfl, rfl⟩
set_option maxRecDepth 100000 in
set_option maxHeartbeats 4000000 in
theorem k_out_let_in {T : XW} {I N : Nat → Int} {F : Nat → Int → Int} (hF : FR F) (hI : IR I) (hN : NR N) {p b : Int} (hb : 0 ≤ b ∧ b < 256) (h : ((97 ≤ b ∧ b ≤ 122) ∨ (65 ≤ b ∧ b ≤ 90) ∨ b = 39)) (h2 : N 2 < 1500) (h9 : ¬ I 9 = 0) (h3 : 0 < N 3) : Sd (rm 2 46 0 0) mX2_takeOutside [.ref 20, J p, J b] (cls I N F ++ T) (cls (I) (uN (N) 2 ((N) 2 + 1)) (ltF (N) (F) b) ++ T) (none) := by
  unfold Sd
  unfold NR at hN
  refine sp_of (ls := [some (.ref 20), some (J p), some (J b), none, none]) (by decide) (nle rfl) rfl rfl ?_
  refine v_iload_n (dec_of DX2_takeOutside 0 rfl) rfl ?_
  refine v_S1r (k_isBlank (by omega)) lX2_96 (dec_of DX2_takeOutside 1 rfl) (by decide) (nle rfl) rfl ?_
  refine vi_if_eq (tgt := 23) (dec_of DX2_takeOutside 2 rfl) (by decide) (by first | omega | exact bnd_r _ _ | exact hF _ _ | exact hI _ | exact hG _ _ | exact hK _ | (simp [uN] <;> omega)) (fun c4 => ?_) (fun c4 => absurd c4 (by omega))
  refine v_iload_n (dec_of DX2_takeOutside 13 rfl) rfl ?_
  refine vi_bi (dec_of DX2_takeOutside 14 rfl) (by decide) ?_
  refine vi_icmp_eq (tgt := 43) (dec_of DX2_takeOutside 15 rfl) (by decide) (by first | omega | exact bnd_r _ _ | exact hF _ _ | exact hI _ | exact hG _ _ | exact hK _ | (simp [uN] <;> omega)) (by first | omega | exact bnd_r _ _ | exact hF _ _ | exact hI _ | exact hG _ _ | exact hK _ | (simp [uN] <;> omega)) (fun c26 => ?_) (fun c26 => ?_)
  · refine v_aload_n (dec_of DX2_takeOutside 24 rfl) rfl ?_
    refine v_get fX2_73 (dec_of DX2_takeOutside 25 rfl) rfl rfl ?_
    refine vi_if_ne (tgt := 59) (dec_of DX2_takeOutside 26 rfl) (by decide) (by first | omega | exact bnd_r _ _ | exact hF _ _ | exact hI _ | exact hG _ _ | exact hK _ | (simp [uN] <;> omega)) (fun c47 => ?_) (fun c47 => absurd c47 (by omega))
    exact k_ot_let hF hI (by unfold NR; exact hN) hb h h3 h2 ⟨rfl, rfl⟩
  · refine v_iload_n (dec_of DX2_takeOutside 16 rfl) rfl ?_
    refine v_S1r (k_isLetter (by omega)) lX2_100 (dec_of DX2_takeOutside 17 rfl) (by decide) (nle rfl) rfl ?_
    refine vi_if_ne (tgt := 43) (dec_of DX2_takeOutside 18 rfl) (by decide) (by first | omega | exact bnd_r _ _ | exact hF _ _ | exact hI _ | exact hG _ _ | exact hK _ | (simp [uN] <;> omega)) (fun c33 => ?_) (fun c33 => absurd c33 (by omega))
    refine v_aload_n (dec_of DX2_takeOutside 24 rfl) rfl ?_
    refine v_get fX2_73 (dec_of DX2_takeOutside 25 rfl) rfl rfl ?_
    refine vi_if_ne (tgt := 59) (dec_of DX2_takeOutside 26 rfl) (by decide) (by first | omega | exact bnd_r _ _ | exact hF _ _ | exact hI _ | exact hG _ _ | exact hK _ | (simp [uN] <;> omega)) (fun c47 => ?_) (fun c47 => absurd c47 (by omega))
    exact k_ot_let hF hI (by unfold NR; exact hN) hb h h3 h2 ⟨rfl, rfl⟩
set_option maxRecDepth 100000 in
set_option maxHeartbeats 4000000 in
theorem k_out_let_new {T : XW} {I N : Nat → Int} {F : Nat → Int → Int} (hF : FR F) (hI : IR I) (hN : NR N) {p b : Int} (hb : 0 ≤ b ∧ b < 256) (h : ((97 ≤ b ∧ b ≤ 122) ∨ (65 ≤ b ∧ b ≤ 90) ∨ b = 39)) (h2 : N 2 < 1500) (h9 : I 9 = 0) (h10 : I 10 = 0) (h3 : N 3 < 60) (hw : -1000 ≤ I 1 ∧ I 1 ≤ 1000) : Sd (rm 2 46 0 0) mX2_takeOutside [.ref 20, J p, J b] (cls I N F ++ T) (cls (uN (uN (uN I 10 1) 1 (I 1 + 1)) 9 1) (uN (uN N 3 (N 3 + 1)) 2 ((uN N 3 (N 3 + 1)) 2 + 1)) (ltF (uN N 3 (N 3 + 1)) (bgF N F (I 1 + 1 - 1)) b) ++ T) (none) := by
  unfold Sd
  unfold NR at hN
  refine sp_of (ls := [some (.ref 20), some (J p), some (J b), none, none]) (by decide) (nle rfl) rfl rfl ?_
  refine v_iload_n (dec_of DX2_takeOutside 0 rfl) rfl ?_
  refine v_S1r (k_isBlank (by omega)) lX2_96 (dec_of DX2_takeOutside 1 rfl) (by decide) (nle rfl) rfl ?_
  refine vi_if_eq (tgt := 23) (dec_of DX2_takeOutside 2 rfl) (by decide) (by first | omega | exact bnd_r _ _ | exact hF _ _ | exact hI _ | exact hG _ _ | exact hK _ | (simp [uN] <;> omega)) (fun c4 => ?_) (fun c4 => absurd c4 (by omega))
  refine v_iload_n (dec_of DX2_takeOutside 13 rfl) rfl ?_
  refine vi_bi (dec_of DX2_takeOutside 14 rfl) (by decide) ?_
  refine vi_icmp_eq (tgt := 43) (dec_of DX2_takeOutside 15 rfl) (by decide) (by first | omega | exact bnd_r _ _ | exact hF _ _ | exact hI _ | exact hG _ _ | exact hK _ | (simp [uN] <;> omega)) (by first | omega | exact bnd_r _ _ | exact hF _ _ | exact hI _ | exact hG _ _ | exact hK _ | (simp [uN] <;> omega)) (fun c26 => ?_) (fun c26 => ?_)
  · refine v_aload_n (dec_of DX2_takeOutside 24 rfl) rfl ?_
    refine v_get fX2_73 (dec_of DX2_takeOutside 25 rfl) rfl rfl ?_
    refine vi_if_ne (tgt := 59) (dec_of DX2_takeOutside 26 rfl) (by decide) (by first | omega | exact bnd_r _ _ | exact hF _ _ | exact hI _ | exact hG _ _ | exact hK _ | (simp [uN] <;> omega)) (fun c47 => absurd c47 (by omega)) (fun c47 => ?_)
    refine v_aload_n (dec_of DX2_takeOutside 27 rfl) rfl ?_
    refine v_iload_n (dec_of DX2_takeOutside 28 rfl) rfl ?_
    refine v_V1r (k_begin_new hF hI (by unfold NR; exact hN) (by omega) h10) lX2_103 (dec_of DX2_takeOutside 29 rfl) rfl rfl (by decide) (nle rfl) rfl ?_
    refine vi_if_ne (tgt := 59) (dec_of DX2_takeOutside 30 rfl) (by decide) (by first | omega | exact bnd_r _ _ | exact hF _ _ | exact hI _ | exact hG _ _ | exact hK _ | (simp [uN] <;> omega)) (fun c55 => ?_) (fun c55 => absurd c55 (by omega))
    exact k_ot_let (bgF_r hF (by omega) hN) (((hI.up (by omega)).up (by omega)).up (by omega)) (by unfold NR; simp [uN]; omega) hb h (by simp [uN]; omega) (by simp [uN]; omega) ⟨rfl, rfl⟩
  · refine v_iload_n (dec_of DX2_takeOutside 16 rfl) rfl ?_
    refine v_S1r (k_isLetter (by omega)) lX2_100 (dec_of DX2_takeOutside 17 rfl) (by decide) (nle rfl) rfl ?_
    refine vi_if_ne (tgt := 43) (dec_of DX2_takeOutside 18 rfl) (by decide) (by first | omega | exact bnd_r _ _ | exact hF _ _ | exact hI _ | exact hG _ _ | exact hK _ | (simp [uN] <;> omega)) (fun c33 => ?_) (fun c33 => absurd c33 (by omega))
    refine v_aload_n (dec_of DX2_takeOutside 24 rfl) rfl ?_
    refine v_get fX2_73 (dec_of DX2_takeOutside 25 rfl) rfl rfl ?_
    refine vi_if_ne (tgt := 59) (dec_of DX2_takeOutside 26 rfl) (by decide) (by first | omega | exact bnd_r _ _ | exact hF _ _ | exact hI _ | exact hG _ _ | exact hK _ | (simp [uN] <;> omega)) (fun c47 => absurd c47 (by omega)) (fun c47 => ?_)
    refine v_aload_n (dec_of DX2_takeOutside 27 rfl) rfl ?_
    refine v_iload_n (dec_of DX2_takeOutside 28 rfl) rfl ?_
    refine v_V1r (k_begin_new hF hI (by unfold NR; exact hN) (by omega) h10) lX2_103 (dec_of DX2_takeOutside 29 rfl) rfl rfl (by decide) (nle rfl) rfl ?_
    refine vi_if_ne (tgt := 59) (dec_of DX2_takeOutside 30 rfl) (by decide) (by first | omega | exact bnd_r _ _ | exact hF _ _ | exact hI _ | exact hG _ _ | exact hK _ | (simp [uN] <;> omega)) (fun c55 => ?_) (fun c55 => absurd c55 (by omega))
    exact k_ot_let (bgF_r hF (by omega) hN) (((hI.up (by omega)).up (by omega)).up (by omega)) (by unfold NR; simp [uN]; omega) hb h (by simp [uN]; omega) (by simp [uN]; omega) ⟨rfl, rfl⟩
set_option maxRecDepth 100000 in
set_option maxHeartbeats 4000000 in
theorem k_out_let_old {T : XW} {I N : Nat → Int} {F : Nat → Int → Int} (hF : FR F) (hI : IR I) (hN : NR N) {p b : Int} (hb : 0 ≤ b ∧ b < 256) (h : ((97 ≤ b ∧ b ≤ 122) ∨ (65 ≤ b ∧ b ≤ 90) ∨ b = 39)) (h2 : N 2 < 1500) (h9 : I 9 = 0) (h10 : ¬ I 10 = 0) (h3 : N 3 < 60) (hw : -1000 ≤ I 1 ∧ I 1 ≤ 1000) : Sd (rm 2 46 0 0) mX2_takeOutside [.ref 20, J p, J b] (cls I N F ++ T) (cls (uN I 9 1) (uN (uN N 3 (N 3 + 1)) 2 ((uN N 3 (N 3 + 1)) 2 + 1)) (ltF (uN N 3 (N 3 + 1)) (bgF N F (I 1 - 1)) b) ++ T) (none) := by
  unfold Sd
  unfold NR at hN
  refine sp_of (ls := [some (.ref 20), some (J p), some (J b), none, none]) (by decide) (nle rfl) rfl rfl ?_
  refine v_iload_n (dec_of DX2_takeOutside 0 rfl) rfl ?_
  refine v_S1r (k_isBlank (by omega)) lX2_96 (dec_of DX2_takeOutside 1 rfl) (by decide) (nle rfl) rfl ?_
  refine vi_if_eq (tgt := 23) (dec_of DX2_takeOutside 2 rfl) (by decide) (by first | omega | exact bnd_r _ _ | exact hF _ _ | exact hI _ | exact hG _ _ | exact hK _ | (simp [uN] <;> omega)) (fun c4 => ?_) (fun c4 => absurd c4 (by omega))
  refine v_iload_n (dec_of DX2_takeOutside 13 rfl) rfl ?_
  refine vi_bi (dec_of DX2_takeOutside 14 rfl) (by decide) ?_
  refine vi_icmp_eq (tgt := 43) (dec_of DX2_takeOutside 15 rfl) (by decide) (by first | omega | exact bnd_r _ _ | exact hF _ _ | exact hI _ | exact hG _ _ | exact hK _ | (simp [uN] <;> omega)) (by first | omega | exact bnd_r _ _ | exact hF _ _ | exact hI _ | exact hG _ _ | exact hK _ | (simp [uN] <;> omega)) (fun c26 => ?_) (fun c26 => ?_)
  · refine v_aload_n (dec_of DX2_takeOutside 24 rfl) rfl ?_
    refine v_get fX2_73 (dec_of DX2_takeOutside 25 rfl) rfl rfl ?_
    refine vi_if_ne (tgt := 59) (dec_of DX2_takeOutside 26 rfl) (by decide) (by first | omega | exact bnd_r _ _ | exact hF _ _ | exact hI _ | exact hG _ _ | exact hK _ | (simp [uN] <;> omega)) (fun c47 => absurd c47 (by omega)) (fun c47 => ?_)
    refine v_aload_n (dec_of DX2_takeOutside 27 rfl) rfl ?_
    refine v_iload_n (dec_of DX2_takeOutside 28 rfl) rfl ?_
    refine v_V1r (k_begin_old hF hI (by unfold NR; exact hN) (by omega) h10) lX2_103 (dec_of DX2_takeOutside 29 rfl) rfl rfl (by decide) (nle rfl) rfl ?_
    refine vi_if_ne (tgt := 59) (dec_of DX2_takeOutside 30 rfl) (by decide) (by first | omega | exact bnd_r _ _ | exact hF _ _ | exact hI _ | exact hG _ _ | exact hK _ | (simp [uN] <;> omega)) (fun c55 => ?_) (fun c55 => absurd c55 (by omega))
    exact k_ot_let (bgF_r hF (by omega) hN) (hI.up (by omega)) (by unfold NR; simp [uN]; omega) hb h (by simp [uN]; omega) (by simp [uN]; omega) ⟨rfl, rfl⟩
  · refine v_iload_n (dec_of DX2_takeOutside 16 rfl) rfl ?_
    refine v_S1r (k_isLetter (by omega)) lX2_100 (dec_of DX2_takeOutside 17 rfl) (by decide) (nle rfl) rfl ?_
    refine vi_if_ne (tgt := 43) (dec_of DX2_takeOutside 18 rfl) (by decide) (by first | omega | exact bnd_r _ _ | exact hF _ _ | exact hI _ | exact hG _ _ | exact hK _ | (simp [uN] <;> omega)) (fun c33 => ?_) (fun c33 => absurd c33 (by omega))
    refine v_aload_n (dec_of DX2_takeOutside 24 rfl) rfl ?_
    refine v_get fX2_73 (dec_of DX2_takeOutside 25 rfl) rfl rfl ?_
    refine vi_if_ne (tgt := 59) (dec_of DX2_takeOutside 26 rfl) (by decide) (by first | omega | exact bnd_r _ _ | exact hF _ _ | exact hI _ | exact hG _ _ | exact hK _ | (simp [uN] <;> omega)) (fun c47 => absurd c47 (by omega)) (fun c47 => ?_)
    refine v_aload_n (dec_of DX2_takeOutside 27 rfl) rfl ?_
    refine v_iload_n (dec_of DX2_takeOutside 28 rfl) rfl ?_
    refine v_V1r (k_begin_old hF hI (by unfold NR; exact hN) (by omega) h10) lX2_103 (dec_of DX2_takeOutside 29 rfl) rfl rfl (by decide) (nle rfl) rfl ?_
    refine vi_if_ne (tgt := 59) (dec_of DX2_takeOutside 30 rfl) (by decide) (by first | omega | exact bnd_r _ _ | exact hF _ _ | exact hI _ | exact hG _ _ | exact hK _ | (simp [uN] <;> omega)) (fun c55 => ?_) (fun c55 => absurd c55 (by omega))
    exact k_ot_let (bgF_r hF (by omega) hN) (hI.up (by omega)) (by unfold NR; simp [uN]; omega) hb h (by simp [uN]; omega) (by simp [uN]; omega) ⟨rfl, rfl⟩
end
section
/-! Reader: within brackets (printed by wip/tools/gen_c3.py) -/
/-- a sign of kind k with value v comes behind -/
def sgF (N : Nat → Int) (F : Nat → Int → Int) (k v : Int) : Nat → Int → Int := uN (uN F 9 (uI (F 9) k (F 9 k + 1))) 8 (uI (adf (F 8) 2 (N 8) k) (N 8 * 2 + 1) v)
def rmK (k : Int) : Int := if k = 0 then 150 else if k = 4 then 30 else 20
theorem k_addS {T : XW} {I N : Nat → Int} {F : Nat → Int → Int} (hF : FR F) (hI : IR I) (hN : NR N) {p k v : Int} (hk : 0 ≤ k ∧ k < 6) (h9 : N 9 = 6) (h8 : N 8 < 260) (hr : F 9 k < rmK k) : Sd (rm 1 24 0 0) mX2_addSign [.ref 20, J p, J k, J v] (cls I N F ++ T) (cls I (uN N 8 (N 8 + 1)) (sgF N F k v) ++ T) (some (J 1)) := k_addSign hF hI hN hk h9 h8 hr
theorem k_addSf {T : XW} {I N : Nat → Int} {F : Nat → Int → Int} (hF : FR F) (hI : IR I) (hN : NR N) {p k v : Int} (hk : 0 ≤ k ∧ k < 6) (h9 : N 9 = 6) (hr : ¬ F 9 k < rmK k) : Sd (rm 1 24 0 0) mX2_addSign [.ref 20, J p, J k, J v] (cls I N F ++ T) (cls (uN (uN I 3 2) 4 p) N F ++ T) (some (J 0)) := k_addSign_full hF hI hN hk h9 hr
def ntF (I N : Nat → Int) (F : Nat → Int → Int) (h g : Int) : Nat → Int → Int :=
  uN (uN (sgF N F 0 (N 4)) 4 (uI (uI (uI (uI (adf (F 4) 8 (N 4) h) (N 4 * 8 + 2) (N 3 - 1)) (N 4 * 8 + 3) (g - 1)) (N 4 * 8 + 5) (h - I 6)) (N 4 * 8 + 6) (12 * ((h - I 6) / 7) + scI ((h - I 6) % 7) - bnd (bsr (I 7) h) 1))) 3
    (if F 3 ((N 3 - 1) * 9 + 4) = 0 then uI (uI (F 3) ((N 3 - 1) * 9 + 5) (N 4)) ((N 3 - 1) * 9 + 4) (F 3 ((N 3 - 1) * 9 + 4) + 1) else uI (F 3) ((N 3 - 1) * 9 + 4) (F 3 ((N 3 - 1) * 9 + 4) + 1))
set_option maxRecDepth 100000 in
set_option maxHeartbeats 4000000 in
theorem k_endSyl {T : XW} {I N : Nat → Int} {F : Nat → Int → Int} (hF : FR F) (hI : IR I) (hN : NR N) (h3 : 0 < N 3) : Sd (rm 1 24 0 0) mX2_endSyllable [.ref 20] (cls I N F ++ T) (cls (uN (uN I 8 0) 9 0) N (uN F 3 (uI (F 3) ((N 3 - 1) * 9 + 8) (N 8 - F 3 ((N 3 - 1) * 9 + 7)))) ++ T) (none) := by
  unfold Sd
  unfold NR at hN
  refine sp_of (ls := [some (.ref 20), none, none]) (by decide) (nle rfl) rfl rfl ?_
  refine v_aload_n (dec_of DX2_endSyllable 0 rfl) rfl ?_
  refine vi_const (dec_of DX2_endSyllable 1 rfl) ?_
  refine cp_8 fX2_47 (dec_of DX2_endSyllable 2 rfl) (by omega) ?_
  refine v_aload_n (dec_of DX2_endSyllable 3 rfl) rfl ?_
  refine vi_const (dec_of DX2_endSyllable 4 rfl) ?_
  refine cp_9 fX2_73 (dec_of DX2_endSyllable 5 rfl) (by omega) ?_
  refine v_aload_n (dec_of DX2_endSyllable 6 rfl) rfl ?_
  refine v_get fX2_9 (dec_of DX2_endSyllable 7 rfl) rfl rfl ?_
  refine v_get fX2_106 (dec_of DX2_endSyllable 8 rfl) rfl rfl ?_
  refine v_V0r (c3_size) lX2_33 (dec_of DX2_endSyllable 9 rfl) rfl rfl (by decide) (nle rfl) rfl ?_
  refine vi_const (dec_of DX2_endSyllable 10 rfl) ?_
  refine vi_sub (dec_of DX2_endSyllable 11 rfl) ?_
  refine v_istore_n (dec_of DX2_endSyllable 12 rfl) (by decide) ?_
  dsimp only [List.set]
  refine v_aload_n (dec_of DX2_endSyllable 13 rfl) rfl ?_
  refine v_get fX2_9 (dec_of DX2_endSyllable 14 rfl) rfl rfl ?_
  refine v_get fX2_122 (dec_of DX2_endSyllable 15 rfl) rfl rfl ?_
  refine v_V0r (c8_size) lX2_33 (dec_of DX2_endSyllable 16 rfl) rfl rfl (by decide) (nle rfl) rfl ?_
  refine v_aload_n (dec_of DX2_endSyllable 17 rfl) rfl ?_
  refine v_get fX2_9 (dec_of DX2_endSyllable 18 rfl) rfl rfl ?_
  refine v_get fX2_106 (dec_of DX2_endSyllable 19 rfl) rfl rfl ?_
  refine v_iload_n (dec_of DX2_endSyllable 20 rfl) rfl ?_
  refine vi_bi (dec_of DX2_endSyllable 21 rfl) (by decide) ?_
  refine v_V2r (c3_get (by first | omega | exact bnd_r _ _ | exact hF _ _ | exact hI _ | exact hG _ _ | exact hK _ | (simp [uN] <;> omega)) (by first | omega | exact bnd_r _ _ | exact hF _ _ | exact hI _ | exact hG _ _ | exact hK _ | (simp [uN] <;> omega)) (by first | omega | exact bnd_r _ _ | exact hF _ _ | exact hI _ | exact hG _ _ | exact hK _ | (simp [uN] <;> omega))) lX2_43 (dec_of DX2_endSyllable 22 rfl) rfl rfl (by decide) (nle rfl) rfl ?_
  refine vi_sub (dec_of DX2_endSyllable 23 rfl) ?_
  refine v_istore_n (dec_of DX2_endSyllable 24 rfl) (by decide) ?_
  dsimp only [List.set]
  refine v_aload_n (dec_of DX2_endSyllable 25 rfl) rfl ?_
  refine v_get fX2_9 (dec_of DX2_endSyllable 26 rfl) rfl rfl ?_
  refine v_get fX2_106 (dec_of DX2_endSyllable 27 rfl) rfl rfl ?_
  refine v_iload_n (dec_of DX2_endSyllable 28 rfl) rfl ?_
  refine vi_bi (dec_of DX2_endSyllable 29 rfl) (by decide) ?_
  refine v_iload_n (dec_of DX2_endSyllable 30 rfl) rfl ?_
  refine v_V3v (c3_set (by first | omega | exact bnd_r _ _ | exact hF _ _ | exact hI _ | exact hG _ _ | exact hK _ | (simp [uN] <;> omega)) (by first | omega | exact bnd_r _ _ | exact hF _ _ | exact hI _ | exact hG _ _ | exact hK _ | (simp [uN] <;> omega)) (by first | omega | exact bnd_r _ _ | exact hF _ _ | exact hI _ | exact hG _ _ | exact hK _ | (simp [uN] <;> omega))) lX2_109 (dec_of DX2_endSyllable 31 rfl) rfl rfl (by decide) (nle rfl) rfl ?_
  exact vi_vret (dec_of DX2_endSyllable 32 rfl) rfl ⟨by decide, by decide⟩ (⟨rfl, rfl⟩)
set_option maxRecDepth 100000 in
set_option maxHeartbeats 4000000 in
theorem k_mark_strange {T : XW} {I N : Nat → Int} {F : Nat → Int → Int} (hF : FR F) (hI : IR I) (hN : NR N) {p m : Int} (hm : -2147483648 ≤ m ∧ m < 2147483648) (h12 : I 12 = 0) : Sd (rm 2 45 0 0) mX2_takeMark [.ref 20, J p, J m] (cls I N F ++ T) (cls (uN (uN I 3 1) 4 p) N F ++ T) (none) := by
  unfold Sd
  unfold NR at hN
  refine sp_of (ls := [some (.ref 20), some (J p), some (J m), none]) (by decide) (nle rfl) rfl rfl ?_
  refine v_aload_n (dec_of DX2_takeMark 0 rfl) rfl ?_
  refine v_get fX2_9 (dec_of DX2_takeMark 1 rfl) rfl rfl ?_
  refine v_get fX2_143 (dec_of DX2_takeMark 2 rfl) rfl rfl ?_
  refine v_V0r (c4_size) lX2_33 (dec_of DX2_takeMark 3 rfl) rfl rfl (by decide) (nle rfl) rfl ?_
  refine vi_const (dec_of DX2_takeMark 4 rfl) ?_
  refine vi_sub (dec_of DX2_takeMark 5 rfl) ?_
  refine v_istore_n (dec_of DX2_takeMark 6 rfl) (by decide) ?_
  dsimp only [List.set]
  refine v_aload_n (dec_of DX2_takeMark 7 rfl) rfl ?_
  refine v_get fX2_82 (dec_of DX2_takeMark 8 rfl) rfl rfl ?_
  refine vi_if_ne (tgt := 29) (dec_of DX2_takeMark 9 rfl) (by decide) (by first | omega | exact bnd_r _ _ | exact hF _ _ | exact hI _ | exact hG _ _ | exact hK _ | (simp [uN] <;> omega)) (fun c17 => absurd c17 (by omega)) (fun c17 => ?_)
  refine v_aload_n (dec_of DX2_takeMark 10 rfl) rfl ?_
  refine vi_const (dec_of DX2_takeMark 11 rfl) ?_
  refine v_iload_n (dec_of DX2_takeMark 12 rfl) rfl ?_
  refine v_V2v (k_refuse) lX2_58 (dec_of DX2_takeMark 13 rfl) rfl rfl (by decide) (nle rfl) rfl ?_
  refine v_goto (tgt := 76) (dec_of DX2_takeMark 14 rfl) (by decide) ?_
  exact vi_vret (dec_of DX2_takeMark 40 rfl) rfl ⟨by decide, by decide⟩ (⟨rfl, rfl⟩)
set_option maxRecDepth 100000 in
set_option maxHeartbeats 4000000 in
theorem k_mark_twice {T : XW} {I N : Nat → Int} {F : Nat → Int → Int} (hF : FR F) (hI : IR I) (hN : NR N) {p m : Int} (hm : -2147483648 ≤ m ∧ m < 2147483648) (h12 : ¬ I 12 = 0) (h4 : 0 < N 4) (hb : ¬ bnd (F 4 ((N 4 - 1) * 8 + 1)) m = 0) : Sd (rm 2 45 0 0) mX2_takeMark [.ref 20, J p, J m] (cls I N F ++ T) (cls (uN (uN I 3 3) 4 p) N F ++ T) (none) := by
  unfold Sd
  unfold NR at hN
  refine sp_of (ls := [some (.ref 20), some (J p), some (J m), none]) (by decide) (nle rfl) rfl rfl ?_
  refine v_aload_n (dec_of DX2_takeMark 0 rfl) rfl ?_
  refine v_get fX2_9 (dec_of DX2_takeMark 1 rfl) rfl rfl ?_
  refine v_get fX2_143 (dec_of DX2_takeMark 2 rfl) rfl rfl ?_
  refine v_V0r (c4_size) lX2_33 (dec_of DX2_takeMark 3 rfl) rfl rfl (by decide) (nle rfl) rfl ?_
  refine vi_const (dec_of DX2_takeMark 4 rfl) ?_
  refine vi_sub (dec_of DX2_takeMark 5 rfl) ?_
  refine v_istore_n (dec_of DX2_takeMark 6 rfl) (by decide) ?_
  dsimp only [List.set]
  refine v_aload_n (dec_of DX2_takeMark 7 rfl) rfl ?_
  refine v_get fX2_82 (dec_of DX2_takeMark 8 rfl) rfl rfl ?_
  refine vi_if_ne (tgt := 29) (dec_of DX2_takeMark 9 rfl) (by decide) (by first | omega | exact bnd_r _ _ | exact hF _ _ | exact hI _ | exact hG _ _ | exact hK _ | (simp [uN] <;> omega)) (fun c17 => ?_) (fun c17 => absurd c17 (by omega))
  refine v_aload_n (dec_of DX2_takeMark 15 rfl) rfl ?_
  refine v_get fX2_9 (dec_of DX2_takeMark 16 rfl) rfl rfl ?_
  refine v_iload_n (dec_of DX2_takeMark 17 rfl) rfl ?_
  refine v_iload_n (dec_of DX2_takeMark 18 rfl) rfl ?_
  refine v_V2r (k_hasMark hF hI (by unfold NR; exact hN) (by omega)) lX2_146 (dec_of DX2_takeMark 19 rfl) rfl rfl (by decide) (nle rfl) rfl ?_
  refine vi_if_eq (tgt := 50) (dec_of DX2_takeMark 20 rfl) (by decide) (by first | omega | exact bnd_r _ _ | exact hF _ _ | exact hI _ | exact hG _ _ | exact hK _ | (simp [uN] <;> omega)) (fun c38 => absurd c38 (by omega)) (fun c38 => ?_)
  refine v_aload_n (dec_of DX2_takeMark 21 rfl) rfl ?_
  refine vi_const (dec_of DX2_takeMark 22 rfl) ?_
  refine v_iload_n (dec_of DX2_takeMark 23 rfl) rfl ?_
  refine v_V2v (k_refuse) lX2_58 (dec_of DX2_takeMark 24 rfl) rfl rfl (by decide) (nle rfl) rfl ?_
  refine v_goto (tgt := 76) (dec_of DX2_takeMark 25 rfl) (by decide) ?_
  exact vi_vret (dec_of DX2_takeMark 40 rfl) rfl ⟨by decide, by decide⟩ (⟨rfl, rfl⟩)
set_option maxRecDepth 100000 in
set_option maxHeartbeats 4000000 in
theorem k_mark_ok {T : XW} {I N : Nat → Int} {F : Nat → Int → Int} (hF : FR F) (hI : IR I) (hN : NR N) {p m : Int} (hm : -2147483648 ≤ m ∧ m < 2147483648) (h12 : ¬ I 12 = 0) (h4 : 0 < N 4) (hb : bnd (F 4 ((N 4 - 1) * 8 + 1)) m = 0) : Sd (rm 2 45 0 0) mX2_takeMark [.ref 20, J p, J m] (cls I N F ++ T) (cls I N (uN F 4 (uI (F 4) ((N 4 - 1) * 8 + 1) (F 4 ((N 4 - 1) * 8 + 1) + m))) ++ T) (none) := by
  unfold Sd
  unfold NR at hN
  refine sp_of (ls := [some (.ref 20), some (J p), some (J m), none]) (by decide) (nle rfl) rfl rfl ?_
  refine v_aload_n (dec_of DX2_takeMark 0 rfl) rfl ?_
  refine v_get fX2_9 (dec_of DX2_takeMark 1 rfl) rfl rfl ?_
  refine v_get fX2_143 (dec_of DX2_takeMark 2 rfl) rfl rfl ?_
  refine v_V0r (c4_size) lX2_33 (dec_of DX2_takeMark 3 rfl) rfl rfl (by decide) (nle rfl) rfl ?_
  refine vi_const (dec_of DX2_takeMark 4 rfl) ?_
  refine vi_sub (dec_of DX2_takeMark 5 rfl) ?_
  refine v_istore_n (dec_of DX2_takeMark 6 rfl) (by decide) ?_
  dsimp only [List.set]
  refine v_aload_n (dec_of DX2_takeMark 7 rfl) rfl ?_
  refine v_get fX2_82 (dec_of DX2_takeMark 8 rfl) rfl rfl ?_
  refine vi_if_ne (tgt := 29) (dec_of DX2_takeMark 9 rfl) (by decide) (by first | omega | exact bnd_r _ _ | exact hF _ _ | exact hI _ | exact hG _ _ | exact hK _ | (simp [uN] <;> omega)) (fun c17 => ?_) (fun c17 => absurd c17 (by omega))
  refine v_aload_n (dec_of DX2_takeMark 15 rfl) rfl ?_
  refine v_get fX2_9 (dec_of DX2_takeMark 16 rfl) rfl rfl ?_
  refine v_iload_n (dec_of DX2_takeMark 17 rfl) rfl ?_
  refine v_iload_n (dec_of DX2_takeMark 18 rfl) rfl ?_
  refine v_V2r (k_hasMark hF hI (by unfold NR; exact hN) (by omega)) lX2_146 (dec_of DX2_takeMark 19 rfl) rfl rfl (by decide) (nle rfl) rfl ?_
  refine vi_if_eq (tgt := 50) (dec_of DX2_takeMark 20 rfl) (by decide) (by first | omega | exact bnd_r _ _ | exact hF _ _ | exact hI _ | exact hG _ _ | exact hK _ | (simp [uN] <;> omega)) (fun c38 => ?_) (fun c38 => absurd c38 (by omega))
  refine v_aload_n (dec_of DX2_takeMark 26 rfl) rfl ?_
  refine v_get fX2_9 (dec_of DX2_takeMark 27 rfl) rfl rfl ?_
  refine v_get fX2_143 (dec_of DX2_takeMark 28 rfl) rfl rfl ?_
  refine v_iload_n (dec_of DX2_takeMark 29 rfl) rfl ?_
  refine vi_const (dec_of DX2_takeMark 30 rfl) ?_
  refine v_aload_n (dec_of DX2_takeMark 31 rfl) rfl ?_
  refine v_get fX2_9 (dec_of DX2_takeMark 32 rfl) rfl rfl ?_
  refine v_get fX2_143 (dec_of DX2_takeMark 33 rfl) rfl rfl ?_
  refine v_iload_n (dec_of DX2_takeMark 34 rfl) rfl ?_
  refine vi_const (dec_of DX2_takeMark 35 rfl) ?_
  refine v_V2r (c4_get (by first | omega | exact bnd_r _ _ | exact hF _ _ | exact hI _ | exact hG _ _ | exact hK _ | (simp [uN] <;> omega)) (by first | omega | exact bnd_r _ _ | exact hF _ _ | exact hI _ | exact hG _ _ | exact hK _ | (simp [uN] <;> omega)) (by first | omega | exact bnd_r _ _ | exact hF _ _ | exact hI _ | exact hG _ _ | exact hK _ | (simp [uN] <;> omega))) lX2_43 (dec_of DX2_takeMark 36 rfl) rfl rfl (by decide) (nle rfl) rfl ?_
  refine v_iload_n (dec_of DX2_takeMark 37 rfl) rfl ?_
  refine vi_add (dec_of DX2_takeMark 38 rfl) ?_
  refine v_V3v (c4_set (by first | omega | exact bnd_r _ _ | exact hF _ _ | exact hI _ | exact hG _ _ | exact hK _ | (simp [uN] <;> omega)) (by first | omega | exact bnd_r _ _ | exact hF _ _ | exact hI _ | exact hG _ _ | exact hK _ | (simp [uN] <;> omega)) (by first | omega | exact bnd_r _ _ | exact hF _ _ | exact hI _ | exact hG _ _ | exact hK _ | (simp [uN] <;> omega))) lX2_109 (dec_of DX2_takeMark 39 rfl) rfl rfl (by decide) (nle rfl) rfl ?_
  exact vi_vret (dec_of DX2_takeMark 40 rfl) rfl ⟨by decide, by decide⟩ (⟨rfl, rfl⟩)
set_option maxRecDepth 100000 in
set_option maxHeartbeats 4000000 in
theorem k_flat {T : XW} {I N : Nat → Int} {F : Nat → Int → Int} (hF : FR F) (hI : IR I) (hN : NR N) {p k h : Int} (hp : 0 ≤ p ∧ p ≤ 2000) (hh : 0 ≤ h ∧ h ≤ 12) (hk : k = 1) (h9 : N 9 = 6) (h8 : N 8 < 260) (hr : F 9 k < rmK k) : Sd (rm 2 48 0 0) mX2_takeAccidental [.ref 20, J p, J k, J h] (cls I N F ++ T) (cls (uN (uN I 5 (p + 2)) 7 (bor (I 7) (bsl 1 h))) (uN N 8 (N 8 + 1)) (sgF N F k h) ++ T) (none) := by
  unfold Sd
  unfold NR at hN
  refine sp_of (ls := [some (.ref 20), some (J p), some (J k), some (J h), none]) (by decide) (nle rfl) rfl rfl ?_
  refine v_aload_n (dec_of DX2_takeAccidental 0 rfl) rfl ?_
  refine v_iload_n (dec_of DX2_takeAccidental 1 rfl) rfl ?_
  refine vi_const (dec_of DX2_takeAccidental 2 rfl) ?_
  refine vi_add (dec_of DX2_takeAccidental 3 rfl) ?_
  refine cp_5 fX2_40 (dec_of DX2_takeAccidental 4 rfl) ?_
  refine v_aload_n (dec_of DX2_takeAccidental 5 rfl) rfl ?_
  refine v_iload_n (dec_of DX2_takeAccidental 6 rfl) rfl ?_
  refine v_iload_n (dec_of DX2_takeAccidental 7 rfl) rfl ?_
  refine v_iload_n (dec_of DX2_takeAccidental 8 rfl) rfl ?_
  refine v_V3r (k_addS hF (hI.up (by omega)) (by unfold NR; exact hN) (by omega) h9 h8 hr) lX2_159 (dec_of DX2_takeAccidental 9 rfl) rfl rfl (by decide) (nle rfl) rfl ?_
  refine vi_if_eq (tgt := 50) (dec_of DX2_takeAccidental 10 rfl) (by decide) (by first | omega | exact bnd_r _ _ | exact hF _ _ | exact hI _ | exact hG _ _ | exact hK _ | (simp [uN] <;> omega)) (fun c14 => absurd c14 (by omega)) (fun c14 => ?_)
  refine vi_const (dec_of DX2_takeAccidental 11 rfl) ?_
  refine v_iload_n (dec_of DX2_takeAccidental 12 rfl) rfl ?_
  refine vi_shl (dec_of DX2_takeAccidental 13 rfl) ?_
  refine v_istore (dec_of DX2_takeAccidental 14 rfl) (by decide) ?_
  dsimp only [List.set]
  refine v_aload_n (dec_of DX2_takeAccidental 15 rfl) rfl ?_
  refine v_iload_n (dec_of DX2_takeAccidental 16 rfl) rfl ?_
  refine vi_const (dec_of DX2_takeAccidental 17 rfl) ?_
  refine vi_icmp_ne (tgt := 38) (dec_of DX2_takeAccidental 18 rfl) (by decide) (by first | omega | exact bnd_r _ _ | exact hF _ _ | exact hI _ | exact hG _ _ | exact hK _ | (simp [uN] <;> omega)) (by first | omega | exact bnd_r _ _ | exact hF _ _ | exact hI _ | exact hG _ _ | exact hK _ | (simp [uN] <;> omega)) (fun c25 => absurd c25 (by omega)) (fun c25 => ?_)
  refine v_aload_n (dec_of DX2_takeAccidental 19 rfl) rfl ?_
  refine v_get fX2_85 (dec_of DX2_takeAccidental 20 rfl) rfl rfl ?_
  refine v_iload (dec_of DX2_takeAccidental 21 rfl) rfl ?_
  refine vi_or (dec_of DX2_takeAccidental 22 rfl) ?_
  refine v_goto (tgt := 47) (dec_of DX2_takeAccidental 23 rfl) (by decide) ?_
  refine cp_7 fX2_85 (dec_of DX2_takeAccidental 30 rfl) ?_
  exact vi_vret (dec_of DX2_takeAccidental 31 rfl) rfl ⟨by decide, by decide⟩ (⟨rfl, rfl⟩)
set_option maxRecDepth 100000 in
set_option maxHeartbeats 4000000 in
theorem k_nat {T : XW} {I N : Nat → Int} {F : Nat → Int → Int} (hF : FR F) (hI : IR I) (hN : NR N) {p k h : Int} (hp : 0 ≤ p ∧ p ≤ 2000) (hh : 0 ≤ h ∧ h ≤ 12) (hk : k = 2) (h9 : N 9 = 6) (h8 : N 8 < 260) (hr : F 9 k < rmK k) : Sd (rm 2 48 0 0) mX2_takeAccidental [.ref 20, J p, J k, J h] (cls I N F ++ T) (cls (uN (uN I 5 (p + 2)) 7 (bnd (I 7) (bxr (bsl 1 h) (-1)))) (uN N 8 (N 8 + 1)) (sgF N F k h) ++ T) (none) := by
  unfold Sd
  unfold NR at hN
  refine sp_of (ls := [some (.ref 20), some (J p), some (J k), some (J h), none]) (by decide) (nle rfl) rfl rfl ?_
  refine v_aload_n (dec_of DX2_takeAccidental 0 rfl) rfl ?_
  refine v_iload_n (dec_of DX2_takeAccidental 1 rfl) rfl ?_
  refine vi_const (dec_of DX2_takeAccidental 2 rfl) ?_
  refine vi_add (dec_of DX2_takeAccidental 3 rfl) ?_
  refine cp_5 fX2_40 (dec_of DX2_takeAccidental 4 rfl) ?_
  refine v_aload_n (dec_of DX2_takeAccidental 5 rfl) rfl ?_
  refine v_iload_n (dec_of DX2_takeAccidental 6 rfl) rfl ?_
  refine v_iload_n (dec_of DX2_takeAccidental 7 rfl) rfl ?_
  refine v_iload_n (dec_of DX2_takeAccidental 8 rfl) rfl ?_
  refine v_V3r (k_addS hF (hI.up (by omega)) (by unfold NR; exact hN) (by omega) h9 h8 hr) lX2_159 (dec_of DX2_takeAccidental 9 rfl) rfl rfl (by decide) (nle rfl) rfl ?_
  refine vi_if_eq (tgt := 50) (dec_of DX2_takeAccidental 10 rfl) (by decide) (by first | omega | exact bnd_r _ _ | exact hF _ _ | exact hI _ | exact hG _ _ | exact hK _ | (simp [uN] <;> omega)) (fun c14 => absurd c14 (by omega)) (fun c14 => ?_)
  refine vi_const (dec_of DX2_takeAccidental 11 rfl) ?_
  refine v_iload_n (dec_of DX2_takeAccidental 12 rfl) rfl ?_
  refine vi_shl (dec_of DX2_takeAccidental 13 rfl) ?_
  refine v_istore (dec_of DX2_takeAccidental 14 rfl) (by decide) ?_
  dsimp only [List.set]
  refine v_aload_n (dec_of DX2_takeAccidental 15 rfl) rfl ?_
  refine v_iload_n (dec_of DX2_takeAccidental 16 rfl) rfl ?_
  refine vi_const (dec_of DX2_takeAccidental 17 rfl) ?_
  refine vi_icmp_ne (tgt := 38) (dec_of DX2_takeAccidental 18 rfl) (by decide) (by first | omega | exact bnd_r _ _ | exact hF _ _ | exact hI _ | exact hG _ _ | exact hK _ | (simp [uN] <;> omega)) (by first | omega | exact bnd_r _ _ | exact hF _ _ | exact hI _ | exact hG _ _ | exact hK _ | (simp [uN] <;> omega)) (fun c25 => ?_) (fun c25 => absurd c25 (by omega))
  refine v_aload_n (dec_of DX2_takeAccidental 24 rfl) rfl ?_
  refine v_get fX2_85 (dec_of DX2_takeAccidental 25 rfl) rfl rfl ?_
  refine v_iload (dec_of DX2_takeAccidental 26 rfl) rfl ?_
  refine vi_const (dec_of DX2_takeAccidental 27 rfl) ?_
  refine vi_xor (dec_of DX2_takeAccidental 28 rfl) ?_
  refine vi_and (dec_of DX2_takeAccidental 29 rfl) ?_
  refine cp_7 fX2_85 (dec_of DX2_takeAccidental 30 rfl) ?_
  exact vi_vret (dec_of DX2_takeAccidental 31 rfl) rfl ⟨by decide, by decide⟩ (⟨rfl, rfl⟩)
set_option maxRecDepth 100000 in
set_option maxHeartbeats 4000000 in
theorem k_acc_full {T : XW} {I N : Nat → Int} {F : Nat → Int → Int} (hF : FR F) (hI : IR I) (hN : NR N) {p k h : Int} (hp : 0 ≤ p ∧ p ≤ 2000) (hh : 0 ≤ h ∧ h ≤ 12) (hk : k = 1 ∨ k = 2) (h9 : N 9 = 6) (hr : ¬ F 9 k < rmK k) : Sd (rm 2 48 0 0) mX2_takeAccidental [.ref 20, J p, J k, J h] (cls I N F ++ T) (cls (uN (uN (uN I 5 (p + 2)) 3 2) 4 p) N F ++ T) (none) := by
  unfold Sd
  unfold NR at hN
  refine sp_of (ls := [some (.ref 20), some (J p), some (J k), some (J h), none]) (by decide) (nle rfl) rfl rfl ?_
  refine v_aload_n (dec_of DX2_takeAccidental 0 rfl) rfl ?_
  refine v_iload_n (dec_of DX2_takeAccidental 1 rfl) rfl ?_
  refine vi_const (dec_of DX2_takeAccidental 2 rfl) ?_
  refine vi_add (dec_of DX2_takeAccidental 3 rfl) ?_
  refine cp_5 fX2_40 (dec_of DX2_takeAccidental 4 rfl) ?_
  refine v_aload_n (dec_of DX2_takeAccidental 5 rfl) rfl ?_
  refine v_iload_n (dec_of DX2_takeAccidental 6 rfl) rfl ?_
  refine v_iload_n (dec_of DX2_takeAccidental 7 rfl) rfl ?_
  refine v_iload_n (dec_of DX2_takeAccidental 8 rfl) rfl ?_
  refine v_V3r (k_addSf hF (hI.up (by omega)) (by unfold NR; exact hN) (by omega) h9 hr) lX2_159 (dec_of DX2_takeAccidental 9 rfl) rfl rfl (by decide) (nle rfl) rfl ?_
  refine vi_if_eq (tgt := 50) (dec_of DX2_takeAccidental 10 rfl) (by decide) (by first | omega | exact bnd_r _ _ | exact hF _ _ | exact hI _ | exact hG _ _ | exact hK _ | (simp [uN] <;> omega)) (fun c14 => ?_) (fun c14 => absurd c14 (by omega))
  exact vi_vret (dec_of DX2_takeAccidental 31 rfl) rfl ⟨by decide, by decide⟩ (⟨rfl, rfl⟩)
set_option maxRecDepth 100000 in
set_option maxHeartbeats 4000000 in
theorem k_clef_f {T : XW} {I N : Nat → Int} {F : Nat → Int → Int} (hF : FR F) (hI : IR I) (hN : NR N) {p h n : Int} (hp : 0 ≤ p ∧ p ≤ 2000) (hh : 0 ≤ h ∧ h ≤ 12) (hn : 1 ≤ n ∧ n ≤ 4) (h5 : h = 5) (h9 : N 9 = 6) (h8 : N 8 < 260) (hr : F 9 3 < 20) : Sd (rm 2 48 0 0) mX2_takeClef [.ref 20, J p, J h, J n] (cls I N F ++ T) (cls (uN (uN (uN (uN I 5 (p + 2)) 11 0) 6 (2 * n + 1 + 4)) 7 0) (uN N 8 (N 8 + 1)) (sgF N F 3 (n + 4)) ++ T) (none) := by
  unfold Sd
  unfold NR at hN
  refine sp_of (ls := [some (.ref 20), some (J p), some (J h), some (J n), none]) (by decide) (nle rfl) rfl rfl ?_
  refine v_aload_n (dec_of DX2_takeClef 0 rfl) rfl ?_
  refine v_iload_n (dec_of DX2_takeClef 1 rfl) rfl ?_
  refine vi_const (dec_of DX2_takeClef 2 rfl) ?_
  refine vi_add (dec_of DX2_takeClef 3 rfl) ?_
  refine cp_5 fX2_40 (dec_of DX2_takeClef 4 rfl) ?_
  refine v_aload_n (dec_of DX2_takeClef 5 rfl) rfl ?_
  refine vi_const (dec_of DX2_takeClef 6 rfl) ?_
  refine cp_11 fX2_79 (dec_of DX2_takeClef 7 rfl) (by omega) ?_
  refine v_iload_n (dec_of DX2_takeClef 8 rfl) rfl ?_
  refine vi_const (dec_of DX2_takeClef 9 rfl) ?_
  refine vi_icmp_ne (tgt := 21) (dec_of DX2_takeClef 10 rfl) (by decide) (by first | omega | exact bnd_r _ _ | exact hF _ _ | exact hI _ | exact hG _ _ | exact hK _ | (simp [uN] <;> omega)) (by first | omega | exact bnd_r _ _ | exact hF _ _ | exact hI _ | exact hG _ _ | exact hK _ | (simp [uN] <;> omega)) (fun c14 => absurd c14 (by omega)) (fun c14 => ?_)
  refine vi_const (dec_of DX2_takeClef 11 rfl) ?_
  refine v_goto (tgt := 22) (dec_of DX2_takeClef 12 rfl) (by decide) ?_
  refine v_istore (dec_of DX2_takeClef 14 rfl) (by decide) ?_
  dsimp only [List.set]
  refine v_aload_n (dec_of DX2_takeClef 15 rfl) rfl ?_
  refine v_iload_n (dec_of DX2_takeClef 16 rfl) rfl ?_
  refine vi_const (dec_of DX2_takeClef 17 rfl) ?_
  refine v_iload (dec_of DX2_takeClef 18 rfl) rfl ?_
  refine vi_if_eq (tgt := 38) (dec_of DX2_takeClef 19 rfl) (by decide) (by first | omega | exact bnd_r _ _ | exact hF _ _ | exact hI _ | exact hG _ _ | exact hK _ | (simp [uN] <;> omega)) (fun c29 => absurd c29 (by omega)) (fun c29 => ?_)
  refine v_iload_n (dec_of DX2_takeClef 20 rfl) rfl ?_
  refine vi_const (dec_of DX2_takeClef 21 rfl) ?_
  refine vi_add (dec_of DX2_takeClef 22 rfl) ?_
  refine v_goto (tgt := 39) (dec_of DX2_takeClef 23 rfl) (by decide) ?_
  refine v_V3r (k_addS hF ((hI.up (by omega)).up (by omega)) (by unfold NR; exact hN) (by omega) h9 h8 hr) lX2_159 (dec_of DX2_takeClef 25 rfl) rfl rfl (by decide) (nle rfl) rfl ?_
  refine vi_if_eq (tgt := 70) (dec_of DX2_takeClef 26 rfl) (by decide) (by first | omega | exact bnd_r _ _ | exact hF _ _ | exact hI _ | exact hG _ _ | exact hK _ | (simp [uN] <;> omega)) (fun c42 => absurd c42 (by omega)) (fun c42 => ?_)
  refine v_aload_n (dec_of DX2_takeClef 27 rfl) rfl ?_
  refine vi_const (dec_of DX2_takeClef 28 rfl) ?_
  refine v_iload_n (dec_of DX2_takeClef 29 rfl) rfl ?_
  refine vi_mul (dec_of DX2_takeClef 30 rfl) ?_
  refine vi_const (dec_of DX2_takeClef 31 rfl) ?_
  refine vi_add (dec_of DX2_takeClef 32 rfl) ?_
  refine v_iload (dec_of DX2_takeClef 33 rfl) rfl ?_
  refine vi_if_eq (tgt := 60) (dec_of DX2_takeClef 34 rfl) (by decide) (by first | omega | exact bnd_r _ _ | exact hF _ _ | exact hI _ | exact hG _ _ | exact hK _ | (simp [uN] <;> omega)) (fun c53 => absurd c53 (by omega)) (fun c53 => ?_)
  refine vi_const (dec_of DX2_takeClef 35 rfl) ?_
  refine v_goto (tgt := 61) (dec_of DX2_takeClef 36 rfl) (by decide) ?_
  refine vi_add (dec_of DX2_takeClef 38 rfl) ?_
  refine cp_6 fX2_70 (dec_of DX2_takeClef 39 rfl) ?_
  refine v_aload_n (dec_of DX2_takeClef 40 rfl) rfl ?_
  refine vi_const (dec_of DX2_takeClef 41 rfl) ?_
  refine cp_7 fX2_85 (dec_of DX2_takeClef 42 rfl) ?_
  exact vi_vret (dec_of DX2_takeClef 43 rfl) rfl ⟨by decide, by decide⟩ (⟨rfl, rfl⟩)
set_option maxRecDepth 100000 in
set_option maxHeartbeats 4000000 in
theorem k_clef_f_full {T : XW} {I N : Nat → Int} {F : Nat → Int → Int} (hF : FR F) (hI : IR I) (hN : NR N) {p h n : Int} (hp : 0 ≤ p ∧ p ≤ 2000) (hh : 0 ≤ h ∧ h ≤ 12) (hn : 1 ≤ n ∧ n ≤ 4) (h5 : h = 5) (h9 : N 9 = 6) (hr : ¬ F 9 3 < 20) : Sd (rm 2 48 0 0) mX2_takeClef [.ref 20, J p, J h, J n] (cls I N F ++ T) (cls (uN (uN (uN (uN I 5 (p + 2)) 11 0) 3 2) 4 p) N F ++ T) (none) := by
  unfold Sd
  unfold NR at hN
  refine sp_of (ls := [some (.ref 20), some (J p), some (J h), some (J n), none]) (by decide) (nle rfl) rfl rfl ?_
  refine v_aload_n (dec_of DX2_takeClef 0 rfl) rfl ?_
  refine v_iload_n (dec_of DX2_takeClef 1 rfl) rfl ?_
  refine vi_const (dec_of DX2_takeClef 2 rfl) ?_
  refine vi_add (dec_of DX2_takeClef 3 rfl) ?_
  refine cp_5 fX2_40 (dec_of DX2_takeClef 4 rfl) ?_
  refine v_aload_n (dec_of DX2_takeClef 5 rfl) rfl ?_
  refine vi_const (dec_of DX2_takeClef 6 rfl) ?_
  refine cp_11 fX2_79 (dec_of DX2_takeClef 7 rfl) (by omega) ?_
  refine v_iload_n (dec_of DX2_takeClef 8 rfl) rfl ?_
  refine vi_const (dec_of DX2_takeClef 9 rfl) ?_
  refine vi_icmp_ne (tgt := 21) (dec_of DX2_takeClef 10 rfl) (by decide) (by first | omega | exact bnd_r _ _ | exact hF _ _ | exact hI _ | exact hG _ _ | exact hK _ | (simp [uN] <;> omega)) (by first | omega | exact bnd_r _ _ | exact hF _ _ | exact hI _ | exact hG _ _ | exact hK _ | (simp [uN] <;> omega)) (fun c14 => absurd c14 (by omega)) (fun c14 => ?_)
  refine vi_const (dec_of DX2_takeClef 11 rfl) ?_
  refine v_goto (tgt := 22) (dec_of DX2_takeClef 12 rfl) (by decide) ?_
  refine v_istore (dec_of DX2_takeClef 14 rfl) (by decide) ?_
  dsimp only [List.set]
  refine v_aload_n (dec_of DX2_takeClef 15 rfl) rfl ?_
  refine v_iload_n (dec_of DX2_takeClef 16 rfl) rfl ?_
  refine vi_const (dec_of DX2_takeClef 17 rfl) ?_
  refine v_iload (dec_of DX2_takeClef 18 rfl) rfl ?_
  refine vi_if_eq (tgt := 38) (dec_of DX2_takeClef 19 rfl) (by decide) (by first | omega | exact bnd_r _ _ | exact hF _ _ | exact hI _ | exact hG _ _ | exact hK _ | (simp [uN] <;> omega)) (fun c29 => absurd c29 (by omega)) (fun c29 => ?_)
  refine v_iload_n (dec_of DX2_takeClef 20 rfl) rfl ?_
  refine vi_const (dec_of DX2_takeClef 21 rfl) ?_
  refine vi_add (dec_of DX2_takeClef 22 rfl) ?_
  refine v_goto (tgt := 39) (dec_of DX2_takeClef 23 rfl) (by decide) ?_
  refine v_V3r (k_addSf hF ((hI.up (by omega)).up (by omega)) (by unfold NR; exact hN) (by omega) h9 hr) lX2_159 (dec_of DX2_takeClef 25 rfl) rfl rfl (by decide) (nle rfl) rfl ?_
  refine vi_if_eq (tgt := 70) (dec_of DX2_takeClef 26 rfl) (by decide) (by first | omega | exact bnd_r _ _ | exact hF _ _ | exact hI _ | exact hG _ _ | exact hK _ | (simp [uN] <;> omega)) (fun c42 => ?_) (fun c42 => absurd c42 (by omega))
  exact vi_vret (dec_of DX2_takeClef 43 rfl) rfl ⟨by decide, by decide⟩ (⟨rfl, rfl⟩)
set_option maxRecDepth 100000 in
set_option maxHeartbeats 4000000 in
theorem k_clef_c {T : XW} {I N : Nat → Int} {F : Nat → Int → Int} (hF : FR F) (hI : IR I) (hN : NR N) {p h n : Int} (hp : 0 ≤ p ∧ p ≤ 2000) (hh : 0 ≤ h ∧ h ≤ 12) (hn : 1 ≤ n ∧ n ≤ 4) (h5 : ¬ h = 5) (h9 : N 9 = 6) (h8 : N 8 < 260) (hr : F 9 3 < 20) : Sd (rm 2 48 0 0) mX2_takeClef [.ref 20, J p, J h, J n] (cls I N F ++ T) (cls (uN (uN (uN (uN I 5 (p + 2)) 11 0) 6 (2 * n + 1 + 0)) 7 0) (uN N 8 (N 8 + 1)) (sgF N F 3 (n)) ++ T) (none) := by
  unfold Sd
  unfold NR at hN
  refine sp_of (ls := [some (.ref 20), some (J p), some (J h), some (J n), none]) (by decide) (nle rfl) rfl rfl ?_
  refine v_aload_n (dec_of DX2_takeClef 0 rfl) rfl ?_
  refine v_iload_n (dec_of DX2_takeClef 1 rfl) rfl ?_
  refine vi_const (dec_of DX2_takeClef 2 rfl) ?_
  refine vi_add (dec_of DX2_takeClef 3 rfl) ?_
  refine cp_5 fX2_40 (dec_of DX2_takeClef 4 rfl) ?_
  refine v_aload_n (dec_of DX2_takeClef 5 rfl) rfl ?_
  refine vi_const (dec_of DX2_takeClef 6 rfl) ?_
  refine cp_11 fX2_79 (dec_of DX2_takeClef 7 rfl) (by omega) ?_
  refine v_iload_n (dec_of DX2_takeClef 8 rfl) rfl ?_
  refine vi_const (dec_of DX2_takeClef 9 rfl) ?_
  refine vi_icmp_ne (tgt := 21) (dec_of DX2_takeClef 10 rfl) (by decide) (by first | omega | exact bnd_r _ _ | exact hF _ _ | exact hI _ | exact hG _ _ | exact hK _ | (simp [uN] <;> omega)) (by first | omega | exact bnd_r _ _ | exact hF _ _ | exact hI _ | exact hG _ _ | exact hK _ | (simp [uN] <;> omega)) (fun c14 => ?_) (fun c14 => absurd c14 (by omega))
  refine vi_const (dec_of DX2_takeClef 13 rfl) ?_
  refine v_istore (dec_of DX2_takeClef 14 rfl) (by decide) ?_
  dsimp only [List.set]
  refine v_aload_n (dec_of DX2_takeClef 15 rfl) rfl ?_
  refine v_iload_n (dec_of DX2_takeClef 16 rfl) rfl ?_
  refine vi_const (dec_of DX2_takeClef 17 rfl) ?_
  refine v_iload (dec_of DX2_takeClef 18 rfl) rfl ?_
  refine vi_if_eq (tgt := 38) (dec_of DX2_takeClef 19 rfl) (by decide) (by first | omega | exact bnd_r _ _ | exact hF _ _ | exact hI _ | exact hG _ _ | exact hK _ | (simp [uN] <;> omega)) (fun c29 => ?_) (fun c29 => absurd c29 (by omega))
  refine v_iload_n (dec_of DX2_takeClef 24 rfl) rfl ?_
  refine v_V3r (k_addS hF ((hI.up (by omega)).up (by omega)) (by unfold NR; exact hN) (by omega) h9 h8 hr) lX2_159 (dec_of DX2_takeClef 25 rfl) rfl rfl (by decide) (nle rfl) rfl ?_
  refine vi_if_eq (tgt := 70) (dec_of DX2_takeClef 26 rfl) (by decide) (by first | omega | exact bnd_r _ _ | exact hF _ _ | exact hI _ | exact hG _ _ | exact hK _ | (simp [uN] <;> omega)) (fun c42 => absurd c42 (by omega)) (fun c42 => ?_)
  refine v_aload_n (dec_of DX2_takeClef 27 rfl) rfl ?_
  refine vi_const (dec_of DX2_takeClef 28 rfl) ?_
  refine v_iload_n (dec_of DX2_takeClef 29 rfl) rfl ?_
  refine vi_mul (dec_of DX2_takeClef 30 rfl) ?_
  refine vi_const (dec_of DX2_takeClef 31 rfl) ?_
  refine vi_add (dec_of DX2_takeClef 32 rfl) ?_
  refine v_iload (dec_of DX2_takeClef 33 rfl) rfl ?_
  refine vi_if_eq (tgt := 60) (dec_of DX2_takeClef 34 rfl) (by decide) (by first | omega | exact bnd_r _ _ | exact hF _ _ | exact hI _ | exact hG _ _ | exact hK _ | (simp [uN] <;> omega)) (fun c53 => ?_) (fun c53 => absurd c53 (by omega))
  refine vi_const (dec_of DX2_takeClef 37 rfl) ?_
  refine vi_add (dec_of DX2_takeClef 38 rfl) ?_
  refine cp_6 fX2_70 (dec_of DX2_takeClef 39 rfl) ?_
  refine v_aload_n (dec_of DX2_takeClef 40 rfl) rfl ?_
  refine vi_const (dec_of DX2_takeClef 41 rfl) ?_
  refine cp_7 fX2_85 (dec_of DX2_takeClef 42 rfl) ?_
  exact vi_vret (dec_of DX2_takeClef 43 rfl) rfl ⟨by decide, by decide⟩ (⟨rfl, rfl⟩)
set_option maxRecDepth 100000 in
set_option maxHeartbeats 4000000 in
theorem k_clef_c_full {T : XW} {I N : Nat → Int} {F : Nat → Int → Int} (hF : FR F) (hI : IR I) (hN : NR N) {p h n : Int} (hp : 0 ≤ p ∧ p ≤ 2000) (hh : 0 ≤ h ∧ h ≤ 12) (hn : 1 ≤ n ∧ n ≤ 4) (h5 : ¬ h = 5) (h9 : N 9 = 6) (hr : ¬ F 9 3 < 20) : Sd (rm 2 48 0 0) mX2_takeClef [.ref 20, J p, J h, J n] (cls I N F ++ T) (cls (uN (uN (uN (uN I 5 (p + 2)) 11 0) 3 2) 4 p) N F ++ T) (none) := by
  unfold Sd
  unfold NR at hN
  refine sp_of (ls := [some (.ref 20), some (J p), some (J h), some (J n), none]) (by decide) (nle rfl) rfl rfl ?_
  refine v_aload_n (dec_of DX2_takeClef 0 rfl) rfl ?_
  refine v_iload_n (dec_of DX2_takeClef 1 rfl) rfl ?_
  refine vi_const (dec_of DX2_takeClef 2 rfl) ?_
  refine vi_add (dec_of DX2_takeClef 3 rfl) ?_
  refine cp_5 fX2_40 (dec_of DX2_takeClef 4 rfl) ?_
  refine v_aload_n (dec_of DX2_takeClef 5 rfl) rfl ?_
  refine vi_const (dec_of DX2_takeClef 6 rfl) ?_
  refine cp_11 fX2_79 (dec_of DX2_takeClef 7 rfl) (by omega) ?_
  refine v_iload_n (dec_of DX2_takeClef 8 rfl) rfl ?_
  refine vi_const (dec_of DX2_takeClef 9 rfl) ?_
  refine vi_icmp_ne (tgt := 21) (dec_of DX2_takeClef 10 rfl) (by decide) (by first | omega | exact bnd_r _ _ | exact hF _ _ | exact hI _ | exact hG _ _ | exact hK _ | (simp [uN] <;> omega)) (by first | omega | exact bnd_r _ _ | exact hF _ _ | exact hI _ | exact hG _ _ | exact hK _ | (simp [uN] <;> omega)) (fun c14 => ?_) (fun c14 => absurd c14 (by omega))
  refine vi_const (dec_of DX2_takeClef 13 rfl) ?_
  refine v_istore (dec_of DX2_takeClef 14 rfl) (by decide) ?_
  dsimp only [List.set]
  refine v_aload_n (dec_of DX2_takeClef 15 rfl) rfl ?_
  refine v_iload_n (dec_of DX2_takeClef 16 rfl) rfl ?_
  refine vi_const (dec_of DX2_takeClef 17 rfl) ?_
  refine v_iload (dec_of DX2_takeClef 18 rfl) rfl ?_
  refine vi_if_eq (tgt := 38) (dec_of DX2_takeClef 19 rfl) (by decide) (by first | omega | exact bnd_r _ _ | exact hF _ _ | exact hI _ | exact hG _ _ | exact hK _ | (simp [uN] <;> omega)) (fun c29 => ?_) (fun c29 => absurd c29 (by omega))
  refine v_iload_n (dec_of DX2_takeClef 24 rfl) rfl ?_
  refine v_V3r (k_addSf hF ((hI.up (by omega)).up (by omega)) (by unfold NR; exact hN) (by omega) h9 hr) lX2_159 (dec_of DX2_takeClef 25 rfl) rfl rfl (by decide) (nle rfl) rfl ?_
  refine vi_if_eq (tgt := 70) (dec_of DX2_takeClef 26 rfl) (by decide) (by first | omega | exact bnd_r _ _ | exact hF _ _ | exact hI _ | exact hG _ _ | exact hK _ | (simp [uN] <;> omega)) (fun c42 => ?_) (fun c42 => absurd c42 (by omega))
  exact vi_vret (dec_of DX2_takeClef 43 rfl) rfl ⟨by decide, by decide⟩ (⟨rfl, rfl⟩)
set_option maxRecDepth 100000 in
set_option maxHeartbeats 4000000 in
theorem k_note_full {T : XW} {I N : Nat → Int} {F : Nat → Int → Int} (hF : FR F) (hI : IR I) (hN : NR N) {p h : Int} (hh : 0 ≤ h ∧ h ≤ 12) (h9 : N 9 = 6) (hr : ¬ F 9 0 < 150) : Sd (rm 2 48 0 0) mX2_takeNote [.ref 20, J p, J h] (cls I N F ++ T) (cls (uN (uN I 3 2) 4 p) N F ++ T) (none) := by
  unfold Sd
  unfold NR at hN
  refine sp_of (ls := [some (.ref 20), some (J p), some (J h), none, none, none, none]) (by decide) (nle rfl) rfl rfl ?_
  refine v_aload_n (dec_of DX2_takeNote 0 rfl) rfl ?_
  refine v_iload_n (dec_of DX2_takeNote 1 rfl) rfl ?_
  refine vi_const (dec_of DX2_takeNote 2 rfl) ?_
  refine v_aload_n (dec_of DX2_takeNote 3 rfl) rfl ?_
  refine v_get fX2_9 (dec_of DX2_takeNote 4 rfl) rfl rfl ?_
  refine v_get fX2_143 (dec_of DX2_takeNote 5 rfl) rfl rfl ?_
  refine v_V0r (c4_size) lX2_33 (dec_of DX2_takeNote 6 rfl) rfl rfl (by decide) (nle rfl) rfl ?_
  refine v_V3r (k_addSf hF hI (by unfold NR; exact hN) (by omega) h9 hr) lX2_159 (dec_of DX2_takeNote 7 rfl) rfl rfl (by decide) (nle rfl) rfl ?_
  refine vi_if_ne (tgt := 20) (dec_of DX2_takeNote 8 rfl) (by decide) (by first | omega | exact bnd_r _ _ | exact hF _ _ | exact hI _ | exact hG _ _ | exact hK _ | (simp [uN] <;> omega)) (fun c16 => absurd c16 (by omega)) (fun c16 => ?_)
  exact vi_vret (dec_of DX2_takeNote 9 rfl) rfl ⟨by decide, by decide⟩ (⟨rfl, rfl⟩)
set_option maxRecDepth 100000 in
set_option maxHeartbeats 4000000 in
theorem k_note_new {T : XW} {I N : Nat → Int} {F : Nat → Int → Int} (hF : FR F) (hI : IR I) (hN : NR N) {p h : Int} (hh : 0 ≤ h ∧ h ≤ 12) (h11 : I 11 = 0) (h9 : N 9 = 6) (h8 : N 8 < 260) (hr : F 9 0 < 150) (h4 : N 4 < 150) (h3 : 0 < N 3) (h6 : -100 ≤ I 6 ∧ I 6 ≤ 100) : Sd (rm 2 48 0 0) mX2_takeNote [.ref 20, J p, J h] (cls I N F ++ T) (cls (uN (uN (uN I 11 1) 2 (I 2 + 1)) 12 1) (uN (uN N 8 (N 8 + 1)) 4 (N 4 + 1)) (ntF I N F h (I 2 + 1)) ++ T) (none) := by
  unfold Sd
  unfold NR at hN
  refine sp_of (ls := [some (.ref 20), some (J p), some (J h), none, none, none, none]) (by decide) (nle rfl) rfl rfl ?_
  refine v_aload_n (dec_of DX2_takeNote 0 rfl) rfl ?_
  refine v_iload_n (dec_of DX2_takeNote 1 rfl) rfl ?_
  refine vi_const (dec_of DX2_takeNote 2 rfl) ?_
  refine v_aload_n (dec_of DX2_takeNote 3 rfl) rfl ?_
  refine v_get fX2_9 (dec_of DX2_takeNote 4 rfl) rfl rfl ?_
  refine v_get fX2_143 (dec_of DX2_takeNote 5 rfl) rfl rfl ?_
  refine v_V0r (c4_size) lX2_33 (dec_of DX2_takeNote 6 rfl) rfl rfl (by decide) (nle rfl) rfl ?_
  refine v_V3r (k_addS hF hI (by unfold NR; exact hN) (by omega) h9 h8 hr) lX2_159 (dec_of DX2_takeNote 7 rfl) rfl rfl (by decide) (nle rfl) rfl ?_
  refine vi_if_ne (tgt := 20) (dec_of DX2_takeNote 8 rfl) (by decide) (by first | omega | exact bnd_r _ _ | exact hF _ _ | exact hI _ | exact hG _ _ | exact hK _ | (simp [uN] <;> omega)) (fun c16 => ?_) (fun c16 => absurd c16 (by omega))
  refine v_aload_n (dec_of DX2_takeNote 10 rfl) rfl ?_
  refine v_get fX2_79 (dec_of DX2_takeNote 11 rfl) rfl rfl ?_
  refine vi_if_ne (tgt := 45) (dec_of DX2_takeNote 12 rfl) (by decide) (by first | omega | exact bnd_r _ _ | exact hF _ _ | exact hI _ | exact hG _ _ | exact hK _ | (simp [uN] <;> omega)) (fun c24 => absurd c24 (by omega)) (fun c24 => ?_)
  refine v_aload_n (dec_of DX2_takeNote 13 rfl) rfl ?_
  refine vi_const (dec_of DX2_takeNote 14 rfl) ?_
  refine cp_11 fX2_79 (dec_of DX2_takeNote 15 rfl) (by omega) ?_
  refine v_aload_n (dec_of DX2_takeNote 16 rfl) rfl ?_
  refine v_get fX2_9 (dec_of DX2_takeNote 17 rfl) rfl rfl ?_
  refine v_dup (dec_of DX2_takeNote 18 rfl) rfl ?_
  refine v_get fX2_163 (dec_of DX2_takeNote 19 rfl) rfl rfl ?_
  refine vi_const (dec_of DX2_takeNote 20 rfl) ?_
  refine vi_add (dec_of DX2_takeNote 21 rfl) ?_
  refine cp_2 fX2_163 (dec_of DX2_takeNote 22 rfl) ?_
  refine v_aload_n (dec_of DX2_takeNote 23 rfl) rfl ?_
  refine vi_const (dec_of DX2_takeNote 24 rfl) ?_
  refine cp_12 fX2_82 (dec_of DX2_takeNote 25 rfl) (by omega) ?_
  refine v_iload_n (dec_of DX2_takeNote 26 rfl) rfl ?_
  refine v_aload_n (dec_of DX2_takeNote 27 rfl) rfl ?_
  refine v_get fX2_70 (dec_of DX2_takeNote 28 rfl) rfl rfl ?_
  refine vi_sub (dec_of DX2_takeNote 29 rfl) ?_
  refine v_istore_n (dec_of DX2_takeNote 30 rfl) (by decide) ?_
  dsimp only [List.set]
  refine v_aload_n (dec_of DX2_takeNote 31 rfl) rfl ?_
  refine v_get fX2_9 (dec_of DX2_takeNote 32 rfl) rfl rfl ?_
  refine v_get fX2_106 (dec_of DX2_takeNote 33 rfl) rfl rfl ?_
  refine v_V0r (c3_size) lX2_33 (dec_of DX2_takeNote 34 rfl) rfl rfl (by decide) (nle rfl) rfl ?_
  refine vi_const (dec_of DX2_takeNote 35 rfl) ?_
  refine vi_sub (dec_of DX2_takeNote 36 rfl) ?_
  refine v_istore (dec_of DX2_takeNote 37 rfl) (by decide) ?_
  dsimp only [List.set]
  refine v_aload_n (dec_of DX2_takeNote 38 rfl) rfl ?_
  refine v_get fX2_9 (dec_of DX2_takeNote 39 rfl) rfl rfl ?_
  refine v_get fX2_143 (dec_of DX2_takeNote 40 rfl) rfl rfl ?_
  refine v_iload_n (dec_of DX2_takeNote 41 rfl) rfl ?_
  refine v_V1r (c4_add (by first | omega | exact bnd_r _ _ | exact hF _ _ | exact hI _ | exact hG _ _ | exact hK _ | (simp [uN] <;> omega))) lX2_92 (dec_of DX2_takeNote 42 rfl) rfl rfl (by decide) (nle rfl) rfl ?_
  refine v_istore (dec_of DX2_takeNote 43 rfl) (by decide) ?_
  dsimp only [List.set]
  refine v_aload_n (dec_of DX2_takeNote 44 rfl) rfl ?_
  refine v_get fX2_9 (dec_of DX2_takeNote 45 rfl) rfl rfl ?_
  refine v_get fX2_143 (dec_of DX2_takeNote 46 rfl) rfl rfl ?_
  refine v_iload (dec_of DX2_takeNote 47 rfl) rfl ?_
  refine vi_const (dec_of DX2_takeNote 48 rfl) ?_
  refine v_iload (dec_of DX2_takeNote 49 rfl) rfl ?_
  refine v_V3v (c4_set (by first | omega | exact bnd_r _ _ | exact hF _ _ | exact hI _ | exact hG _ _ | exact hK _ | (simp [uN] <;> omega)) (by first | omega | exact bnd_r _ _ | exact hF _ _ | exact hI _ | exact hG _ _ | exact hK _ | (simp [uN] <;> omega)) (by first | omega | exact bnd_r _ _ | exact hF _ _ | exact hI _ | exact hG _ _ | exact hK _ | (simp [uN] <;> omega))) lX2_109 (dec_of DX2_takeNote 50 rfl) rfl rfl (by decide) (nle rfl) rfl ?_
  refine v_aload_n (dec_of DX2_takeNote 51 rfl) rfl ?_
  refine v_get fX2_9 (dec_of DX2_takeNote 52 rfl) rfl rfl ?_
  refine v_get fX2_143 (dec_of DX2_takeNote 53 rfl) rfl rfl ?_
  refine v_iload (dec_of DX2_takeNote 54 rfl) rfl ?_
  refine vi_const (dec_of DX2_takeNote 55 rfl) ?_
  refine v_aload_n (dec_of DX2_takeNote 56 rfl) rfl ?_
  refine v_get fX2_9 (dec_of DX2_takeNote 57 rfl) rfl rfl ?_
  refine v_get fX2_163 (dec_of DX2_takeNote 58 rfl) rfl rfl ?_
  refine vi_const (dec_of DX2_takeNote 59 rfl) ?_
  refine vi_sub (dec_of DX2_takeNote 60 rfl) ?_
  refine v_V3v (c4_set (by first | omega | exact bnd_r _ _ | exact hF _ _ | exact hI _ | exact hG _ _ | exact hK _ | (simp [uN] <;> omega)) (by first | omega | exact bnd_r _ _ | exact hF _ _ | exact hI _ | exact hG _ _ | exact hK _ | (simp [uN] <;> omega)) (by first | omega | exact bnd_r _ _ | exact hF _ _ | exact hI _ | exact hG _ _ | exact hK _ | (simp [uN] <;> omega))) lX2_109 (dec_of DX2_takeNote 61 rfl) rfl rfl (by decide) (nle rfl) rfl ?_
  refine v_aload_n (dec_of DX2_takeNote 62 rfl) rfl ?_
  refine v_get fX2_9 (dec_of DX2_takeNote 63 rfl) rfl rfl ?_
  refine v_get fX2_143 (dec_of DX2_takeNote 64 rfl) rfl rfl ?_
  refine v_iload (dec_of DX2_takeNote 65 rfl) rfl ?_
  refine vi_const (dec_of DX2_takeNote 66 rfl) ?_
  refine v_iload_n (dec_of DX2_takeNote 67 rfl) rfl ?_
  refine v_V3v (c4_set (by first | omega | exact bnd_r _ _ | exact hF _ _ | exact hI _ | exact hG _ _ | exact hK _ | (simp [uN] <;> omega)) (by first | omega | exact bnd_r _ _ | exact hF _ _ | exact hI _ | exact hG _ _ | exact hK _ | (simp [uN] <;> omega)) (by first | omega | exact bnd_r _ _ | exact hF _ _ | exact hI _ | exact hG _ _ | exact hK _ | (simp [uN] <;> omega))) lX2_109 (dec_of DX2_takeNote 68 rfl) rfl rfl (by decide) (nle rfl) rfl ?_
  refine v_aload_n (dec_of DX2_takeNote 69 rfl) rfl ?_
  refine v_get fX2_9 (dec_of DX2_takeNote 70 rfl) rfl rfl ?_
  refine v_get fX2_143 (dec_of DX2_takeNote 71 rfl) rfl rfl ?_
  refine v_iload (dec_of DX2_takeNote 72 rfl) rfl ?_
  refine vi_bi (dec_of DX2_takeNote 73 rfl) (by decide) ?_
  refine v_iload_n (dec_of DX2_takeNote 74 rfl) rfl ?_
  refine v_S1r (k_semitonesOf (by first | omega | (simp [uN]; omega))) lX2_166 (dec_of DX2_takeNote 75 rfl) (by decide) (nle rfl) rfl ?_
  refine v_aload_n (dec_of DX2_takeNote 76 rfl) rfl ?_
  refine v_get fX2_85 (dec_of DX2_takeNote 77 rfl) rfl rfl ?_
  refine v_iload_n (dec_of DX2_takeNote 78 rfl) rfl ?_
  refine vi_shr (dec_of DX2_takeNote 79 rfl) ?_
  refine vi_const (dec_of DX2_takeNote 80 rfl) ?_
  refine vi_and (dec_of DX2_takeNote 81 rfl) ?_
  refine vi_sub (dec_of DX2_takeNote 82 rfl) ?_
  refine v_V3v (c4_set (by first | omega | exact bnd_r _ _ | exact hF _ _ | exact hI _ | exact hG _ _ | exact hK _ | (simp [uN] <;> omega)) (by first | omega | exact bnd_r _ _ | exact hF _ _ | exact hI _ | exact hG _ _ | exact hK _ | (simp [uN] <;> omega)) (by first | omega | exact bnd_r _ _ | exact hF _ _ | exact hI _ | exact hG _ _ | exact hK _ | (simp [uN] <;> omega))) lX2_109 (dec_of DX2_takeNote 83 rfl) rfl rfl (by decide) (nle rfl) rfl ?_
  refine v_aload_n (dec_of DX2_takeNote 84 rfl) rfl ?_
  refine v_get fX2_9 (dec_of DX2_takeNote 85 rfl) rfl rfl ?_
  refine v_get fX2_106 (dec_of DX2_takeNote 86 rfl) rfl rfl ?_
  refine v_iload (dec_of DX2_takeNote 87 rfl) rfl ?_
  refine vi_const (dec_of DX2_takeNote 88 rfl) ?_
  refine v_V2r (c3_get (by first | omega | exact bnd_r _ _ | exact hF _ _ | exact hI _ | exact hG _ _ | exact hK _ | (simp [uN] <;> omega)) (by first | omega | exact bnd_r _ _ | exact hF _ _ | exact hI _ | exact hG _ _ | exact hK _ | (simp [uN] <;> omega)) (by first | omega | exact bnd_r _ _ | exact hF _ _ | exact hI _ | exact hG _ _ | exact hK _ | (simp [uN] <;> omega))) lX2_43 (dec_of DX2_takeNote 89 rfl) rfl rfl (by decide) (nle rfl) rfl ?_
  refine v_istore (dec_of DX2_takeNote 90 rfl) (by decide) ?_
  dsimp only [List.set]
  refine v_iload (dec_of DX2_takeNote 91 rfl) rfl ?_
  refine vi_if_ne (tgt := 197) (dec_of DX2_takeNote 92 rfl) (by decide) (by first | omega | exact bnd_r _ _ | exact hF _ _ | exact hI _ | exact hG _ _ | exact hK _ | (simp [uN] <;> omega)) (fun c179 => ?_) (fun c179 => ?_)
  · refine v_aload_n (dec_of DX2_takeNote 100 rfl) rfl ?_
    refine v_get fX2_9 (dec_of DX2_takeNote 101 rfl) rfl rfl ?_
    refine v_get fX2_106 (dec_of DX2_takeNote 102 rfl) rfl rfl ?_
    refine v_iload (dec_of DX2_takeNote 103 rfl) rfl ?_
    refine vi_const (dec_of DX2_takeNote 104 rfl) ?_
    refine v_iload (dec_of DX2_takeNote 105 rfl) rfl ?_
    refine vi_const (dec_of DX2_takeNote 106 rfl) ?_
    refine vi_add (dec_of DX2_takeNote 107 rfl) ?_
    refine v_V3v (c3_set (by first | omega | exact bnd_r _ _ | exact hF _ _ | exact hI _ | exact hG _ _ | exact hK _ | (simp [uN] <;> omega)) (by first | omega | exact bnd_r _ _ | exact hF _ _ | exact hI _ | exact hG _ _ | exact hK _ | (simp [uN] <;> omega)) (by first | omega | exact bnd_r _ _ | exact hF _ _ | exact hI _ | exact hG _ _ | exact hK _ | (simp [uN] <;> omega))) lX2_109 (dec_of DX2_takeNote 108 rfl) rfl rfl (by decide) (nle rfl) rfl ?_
    exact vi_vret (dec_of DX2_takeNote 109 rfl) rfl ⟨by decide, by decide⟩ (⟨by first | (rw [ntF, if_pos (by assumption)]; rfl) | (rw [ntF, if_neg (by assumption)]; rfl), rfl⟩)
  · refine v_aload_n (dec_of DX2_takeNote 93 rfl) rfl ?_
    refine v_get fX2_9 (dec_of DX2_takeNote 94 rfl) rfl rfl ?_
    refine v_get fX2_106 (dec_of DX2_takeNote 95 rfl) rfl rfl ?_
    refine v_iload (dec_of DX2_takeNote 96 rfl) rfl ?_
    refine vi_const (dec_of DX2_takeNote 97 rfl) ?_
    refine v_iload (dec_of DX2_takeNote 98 rfl) rfl ?_
    refine v_V3v (c3_set (by first | omega | exact bnd_r _ _ | exact hF _ _ | exact hI _ | exact hG _ _ | exact hK _ | (simp [uN] <;> omega)) (by first | omega | exact bnd_r _ _ | exact hF _ _ | exact hI _ | exact hG _ _ | exact hK _ | (simp [uN] <;> omega)) (by first | omega | exact bnd_r _ _ | exact hF _ _ | exact hI _ | exact hG _ _ | exact hK _ | (simp [uN] <;> omega))) lX2_109 (dec_of DX2_takeNote 99 rfl) rfl rfl (by decide) (nle rfl) rfl ?_
    refine v_aload_n (dec_of DX2_takeNote 100 rfl) rfl ?_
    refine v_get fX2_9 (dec_of DX2_takeNote 101 rfl) rfl rfl ?_
    refine v_get fX2_106 (dec_of DX2_takeNote 102 rfl) rfl rfl ?_
    refine v_iload (dec_of DX2_takeNote 103 rfl) rfl ?_
    refine vi_const (dec_of DX2_takeNote 104 rfl) ?_
    refine v_iload (dec_of DX2_takeNote 105 rfl) rfl ?_
    refine vi_const (dec_of DX2_takeNote 106 rfl) ?_
    refine vi_add (dec_of DX2_takeNote 107 rfl) ?_
    refine v_V3v (c3_set (by first | omega | exact bnd_r _ _ | exact hF _ _ | exact hI _ | exact hG _ _ | exact hK _ | (simp [uN] <;> omega)) (by first | omega | exact bnd_r _ _ | exact hF _ _ | exact hI _ | exact hG _ _ | exact hK _ | (simp [uN] <;> omega)) (by first | omega | exact bnd_r _ _ | exact hF _ _ | exact hI _ | exact hG _ _ | exact hK _ | (simp [uN] <;> omega))) lX2_109 (dec_of DX2_takeNote 108 rfl) rfl rfl (by decide) (nle rfl) rfl ?_
    exact vi_vret (dec_of DX2_takeNote 109 rfl) rfl ⟨by decide, by decide⟩ (⟨by first | (rw [ntF, if_pos (by assumption)]; rfl) | (rw [ntF, if_neg (by assumption)]; rfl), rfl⟩)
set_option maxRecDepth 100000 in
set_option maxHeartbeats 4000000 in
theorem k_note_old {T : XW} {I N : Nat → Int} {F : Nat → Int → Int} (hF : FR F) (hI : IR I) (hN : NR N) {p h : Int} (hh : 0 ≤ h ∧ h ≤ 12) (h11 : ¬ I 11 = 0) (h9 : N 9 = 6) (h8 : N 8 < 260) (hr : F 9 0 < 150) (h4 : N 4 < 150) (h3 : 0 < N 3) (h6 : -100 ≤ I 6 ∧ I 6 ≤ 100) : Sd (rm 2 48 0 0) mX2_takeNote [.ref 20, J p, J h] (cls I N F ++ T) (cls (uN I 12 1) (uN (uN N 8 (N 8 + 1)) 4 (N 4 + 1)) (ntF I N F h (I 2)) ++ T) (none) := by
  unfold Sd
  unfold NR at hN
  refine sp_of (ls := [some (.ref 20), some (J p), some (J h), none, none, none, none]) (by decide) (nle rfl) rfl rfl ?_
  refine v_aload_n (dec_of DX2_takeNote 0 rfl) rfl ?_
  refine v_iload_n (dec_of DX2_takeNote 1 rfl) rfl ?_
  refine vi_const (dec_of DX2_takeNote 2 rfl) ?_
  refine v_aload_n (dec_of DX2_takeNote 3 rfl) rfl ?_
  refine v_get fX2_9 (dec_of DX2_takeNote 4 rfl) rfl rfl ?_
  refine v_get fX2_143 (dec_of DX2_takeNote 5 rfl) rfl rfl ?_
  refine v_V0r (c4_size) lX2_33 (dec_of DX2_takeNote 6 rfl) rfl rfl (by decide) (nle rfl) rfl ?_
  refine v_V3r (k_addS hF hI (by unfold NR; exact hN) (by omega) h9 h8 hr) lX2_159 (dec_of DX2_takeNote 7 rfl) rfl rfl (by decide) (nle rfl) rfl ?_
  refine vi_if_ne (tgt := 20) (dec_of DX2_takeNote 8 rfl) (by decide) (by first | omega | exact bnd_r _ _ | exact hF _ _ | exact hI _ | exact hG _ _ | exact hK _ | (simp [uN] <;> omega)) (fun c16 => ?_) (fun c16 => absurd c16 (by omega))
  refine v_aload_n (dec_of DX2_takeNote 10 rfl) rfl ?_
  refine v_get fX2_79 (dec_of DX2_takeNote 11 rfl) rfl rfl ?_
  refine vi_if_ne (tgt := 45) (dec_of DX2_takeNote 12 rfl) (by decide) (by first | omega | exact bnd_r _ _ | exact hF _ _ | exact hI _ | exact hG _ _ | exact hK _ | (simp [uN] <;> omega)) (fun c24 => ?_) (fun c24 => absurd c24 (by omega))
  refine v_aload_n (dec_of DX2_takeNote 23 rfl) rfl ?_
  refine vi_const (dec_of DX2_takeNote 24 rfl) ?_
  refine cp_12 fX2_82 (dec_of DX2_takeNote 25 rfl) (by omega) ?_
  refine v_iload_n (dec_of DX2_takeNote 26 rfl) rfl ?_
  refine v_aload_n (dec_of DX2_takeNote 27 rfl) rfl ?_
  refine v_get fX2_70 (dec_of DX2_takeNote 28 rfl) rfl rfl ?_
  refine vi_sub (dec_of DX2_takeNote 29 rfl) ?_
  refine v_istore_n (dec_of DX2_takeNote 30 rfl) (by decide) ?_
  dsimp only [List.set]
  refine v_aload_n (dec_of DX2_takeNote 31 rfl) rfl ?_
  refine v_get fX2_9 (dec_of DX2_takeNote 32 rfl) rfl rfl ?_
  refine v_get fX2_106 (dec_of DX2_takeNote 33 rfl) rfl rfl ?_
  refine v_V0r (c3_size) lX2_33 (dec_of DX2_takeNote 34 rfl) rfl rfl (by decide) (nle rfl) rfl ?_
  refine vi_const (dec_of DX2_takeNote 35 rfl) ?_
  refine vi_sub (dec_of DX2_takeNote 36 rfl) ?_
  refine v_istore (dec_of DX2_takeNote 37 rfl) (by decide) ?_
  dsimp only [List.set]
  refine v_aload_n (dec_of DX2_takeNote 38 rfl) rfl ?_
  refine v_get fX2_9 (dec_of DX2_takeNote 39 rfl) rfl rfl ?_
  refine v_get fX2_143 (dec_of DX2_takeNote 40 rfl) rfl rfl ?_
  refine v_iload_n (dec_of DX2_takeNote 41 rfl) rfl ?_
  refine v_V1r (c4_add (by first | omega | exact bnd_r _ _ | exact hF _ _ | exact hI _ | exact hG _ _ | exact hK _ | (simp [uN] <;> omega))) lX2_92 (dec_of DX2_takeNote 42 rfl) rfl rfl (by decide) (nle rfl) rfl ?_
  refine v_istore (dec_of DX2_takeNote 43 rfl) (by decide) ?_
  dsimp only [List.set]
  refine v_aload_n (dec_of DX2_takeNote 44 rfl) rfl ?_
  refine v_get fX2_9 (dec_of DX2_takeNote 45 rfl) rfl rfl ?_
  refine v_get fX2_143 (dec_of DX2_takeNote 46 rfl) rfl rfl ?_
  refine v_iload (dec_of DX2_takeNote 47 rfl) rfl ?_
  refine vi_const (dec_of DX2_takeNote 48 rfl) ?_
  refine v_iload (dec_of DX2_takeNote 49 rfl) rfl ?_
  refine v_V3v (c4_set (by first | omega | exact bnd_r _ _ | exact hF _ _ | exact hI _ | exact hG _ _ | exact hK _ | (simp [uN] <;> omega)) (by first | omega | exact bnd_r _ _ | exact hF _ _ | exact hI _ | exact hG _ _ | exact hK _ | (simp [uN] <;> omega)) (by first | omega | exact bnd_r _ _ | exact hF _ _ | exact hI _ | exact hG _ _ | exact hK _ | (simp [uN] <;> omega))) lX2_109 (dec_of DX2_takeNote 50 rfl) rfl rfl (by decide) (nle rfl) rfl ?_
  refine v_aload_n (dec_of DX2_takeNote 51 rfl) rfl ?_
  refine v_get fX2_9 (dec_of DX2_takeNote 52 rfl) rfl rfl ?_
  refine v_get fX2_143 (dec_of DX2_takeNote 53 rfl) rfl rfl ?_
  refine v_iload (dec_of DX2_takeNote 54 rfl) rfl ?_
  refine vi_const (dec_of DX2_takeNote 55 rfl) ?_
  refine v_aload_n (dec_of DX2_takeNote 56 rfl) rfl ?_
  refine v_get fX2_9 (dec_of DX2_takeNote 57 rfl) rfl rfl ?_
  refine v_get fX2_163 (dec_of DX2_takeNote 58 rfl) rfl rfl ?_
  refine vi_const (dec_of DX2_takeNote 59 rfl) ?_
  refine vi_sub (dec_of DX2_takeNote 60 rfl) ?_
  refine v_V3v (c4_set (by first | omega | exact bnd_r _ _ | exact hF _ _ | exact hI _ | exact hG _ _ | exact hK _ | (simp [uN] <;> omega)) (by first | omega | exact bnd_r _ _ | exact hF _ _ | exact hI _ | exact hG _ _ | exact hK _ | (simp [uN] <;> omega)) (by first | omega | exact bnd_r _ _ | exact hF _ _ | exact hI _ | exact hG _ _ | exact hK _ | (simp [uN] <;> omega))) lX2_109 (dec_of DX2_takeNote 61 rfl) rfl rfl (by decide) (nle rfl) rfl ?_
  refine v_aload_n (dec_of DX2_takeNote 62 rfl) rfl ?_
  refine v_get fX2_9 (dec_of DX2_takeNote 63 rfl) rfl rfl ?_
  refine v_get fX2_143 (dec_of DX2_takeNote 64 rfl) rfl rfl ?_
  refine v_iload (dec_of DX2_takeNote 65 rfl) rfl ?_
  refine vi_const (dec_of DX2_takeNote 66 rfl) ?_
  refine v_iload_n (dec_of DX2_takeNote 67 rfl) rfl ?_
  refine v_V3v (c4_set (by first | omega | exact bnd_r _ _ | exact hF _ _ | exact hI _ | exact hG _ _ | exact hK _ | (simp [uN] <;> omega)) (by first | omega | exact bnd_r _ _ | exact hF _ _ | exact hI _ | exact hG _ _ | exact hK _ | (simp [uN] <;> omega)) (by first | omega | exact bnd_r _ _ | exact hF _ _ | exact hI _ | exact hG _ _ | exact hK _ | (simp [uN] <;> omega))) lX2_109 (dec_of DX2_takeNote 68 rfl) rfl rfl (by decide) (nle rfl) rfl ?_
  refine v_aload_n (dec_of DX2_takeNote 69 rfl) rfl ?_
  refine v_get fX2_9 (dec_of DX2_takeNote 70 rfl) rfl rfl ?_
  refine v_get fX2_143 (dec_of DX2_takeNote 71 rfl) rfl rfl ?_
  refine v_iload (dec_of DX2_takeNote 72 rfl) rfl ?_
  refine vi_bi (dec_of DX2_takeNote 73 rfl) (by decide) ?_
  refine v_iload_n (dec_of DX2_takeNote 74 rfl) rfl ?_
  refine v_S1r (k_semitonesOf (by first | omega | (simp [uN]; omega))) lX2_166 (dec_of DX2_takeNote 75 rfl) (by decide) (nle rfl) rfl ?_
  refine v_aload_n (dec_of DX2_takeNote 76 rfl) rfl ?_
  refine v_get fX2_85 (dec_of DX2_takeNote 77 rfl) rfl rfl ?_
  refine v_iload_n (dec_of DX2_takeNote 78 rfl) rfl ?_
  refine vi_shr (dec_of DX2_takeNote 79 rfl) ?_
  refine vi_const (dec_of DX2_takeNote 80 rfl) ?_
  refine vi_and (dec_of DX2_takeNote 81 rfl) ?_
  refine vi_sub (dec_of DX2_takeNote 82 rfl) ?_
  refine v_V3v (c4_set (by first | omega | exact bnd_r _ _ | exact hF _ _ | exact hI _ | exact hG _ _ | exact hK _ | (simp [uN] <;> omega)) (by first | omega | exact bnd_r _ _ | exact hF _ _ | exact hI _ | exact hG _ _ | exact hK _ | (simp [uN] <;> omega)) (by first | omega | exact bnd_r _ _ | exact hF _ _ | exact hI _ | exact hG _ _ | exact hK _ | (simp [uN] <;> omega))) lX2_109 (dec_of DX2_takeNote 83 rfl) rfl rfl (by decide) (nle rfl) rfl ?_
  refine v_aload_n (dec_of DX2_takeNote 84 rfl) rfl ?_
  refine v_get fX2_9 (dec_of DX2_takeNote 85 rfl) rfl rfl ?_
  refine v_get fX2_106 (dec_of DX2_takeNote 86 rfl) rfl rfl ?_
  refine v_iload (dec_of DX2_takeNote 87 rfl) rfl ?_
  refine vi_const (dec_of DX2_takeNote 88 rfl) ?_
  refine v_V2r (c3_get (by first | omega | exact bnd_r _ _ | exact hF _ _ | exact hI _ | exact hG _ _ | exact hK _ | (simp [uN] <;> omega)) (by first | omega | exact bnd_r _ _ | exact hF _ _ | exact hI _ | exact hG _ _ | exact hK _ | (simp [uN] <;> omega)) (by first | omega | exact bnd_r _ _ | exact hF _ _ | exact hI _ | exact hG _ _ | exact hK _ | (simp [uN] <;> omega))) lX2_43 (dec_of DX2_takeNote 89 rfl) rfl rfl (by decide) (nle rfl) rfl ?_
  refine v_istore (dec_of DX2_takeNote 90 rfl) (by decide) ?_
  dsimp only [List.set]
  refine v_iload (dec_of DX2_takeNote 91 rfl) rfl ?_
  refine vi_if_ne (tgt := 197) (dec_of DX2_takeNote 92 rfl) (by decide) (by first | omega | exact bnd_r _ _ | exact hF _ _ | exact hI _ | exact hG _ _ | exact hK _ | (simp [uN] <;> omega)) (fun c179 => ?_) (fun c179 => ?_)
  · refine v_aload_n (dec_of DX2_takeNote 100 rfl) rfl ?_
    refine v_get fX2_9 (dec_of DX2_takeNote 101 rfl) rfl rfl ?_
    refine v_get fX2_106 (dec_of DX2_takeNote 102 rfl) rfl rfl ?_
    refine v_iload (dec_of DX2_takeNote 103 rfl) rfl ?_
    refine vi_const (dec_of DX2_takeNote 104 rfl) ?_
    refine v_iload (dec_of DX2_takeNote 105 rfl) rfl ?_
    refine vi_const (dec_of DX2_takeNote 106 rfl) ?_
    refine vi_add (dec_of DX2_takeNote 107 rfl) ?_
    refine v_V3v (c3_set (by first | omega | exact bnd_r _ _ | exact hF _ _ | exact hI _ | exact hG _ _ | exact hK _ | (simp [uN] <;> omega)) (by first | omega | exact bnd_r _ _ | exact hF _ _ | exact hI _ | exact hG _ _ | exact hK _ | (simp [uN] <;> omega)) (by first | omega | exact bnd_r _ _ | exact hF _ _ | exact hI _ | exact hG _ _ | exact hK _ | (simp [uN] <;> omega))) lX2_109 (dec_of DX2_takeNote 108 rfl) rfl rfl (by decide) (nle rfl) rfl ?_
    exact vi_vret (dec_of DX2_takeNote 109 rfl) rfl ⟨by decide, by decide⟩ (⟨by first | (rw [ntF, if_pos (by assumption)]; rfl) | (rw [ntF, if_neg (by assumption)]; rfl), rfl⟩)
  · refine v_aload_n (dec_of DX2_takeNote 93 rfl) rfl ?_
    refine v_get fX2_9 (dec_of DX2_takeNote 94 rfl) rfl rfl ?_
    refine v_get fX2_106 (dec_of DX2_takeNote 95 rfl) rfl rfl ?_
    refine v_iload (dec_of DX2_takeNote 96 rfl) rfl ?_
    refine vi_const (dec_of DX2_takeNote 97 rfl) ?_
    refine v_iload (dec_of DX2_takeNote 98 rfl) rfl ?_
    refine v_V3v (c3_set (by first | omega | exact bnd_r _ _ | exact hF _ _ | exact hI _ | exact hG _ _ | exact hK _ | (simp [uN] <;> omega)) (by first | omega | exact bnd_r _ _ | exact hF _ _ | exact hI _ | exact hG _ _ | exact hK _ | (simp [uN] <;> omega)) (by first | omega | exact bnd_r _ _ | exact hF _ _ | exact hI _ | exact hG _ _ | exact hK _ | (simp [uN] <;> omega))) lX2_109 (dec_of DX2_takeNote 99 rfl) rfl rfl (by decide) (nle rfl) rfl ?_
    refine v_aload_n (dec_of DX2_takeNote 100 rfl) rfl ?_
    refine v_get fX2_9 (dec_of DX2_takeNote 101 rfl) rfl rfl ?_
    refine v_get fX2_106 (dec_of DX2_takeNote 102 rfl) rfl rfl ?_
    refine v_iload (dec_of DX2_takeNote 103 rfl) rfl ?_
    refine vi_const (dec_of DX2_takeNote 104 rfl) ?_
    refine v_iload (dec_of DX2_takeNote 105 rfl) rfl ?_
    refine vi_const (dec_of DX2_takeNote 106 rfl) ?_
    refine vi_add (dec_of DX2_takeNote 107 rfl) ?_
    refine v_V3v (c3_set (by first | omega | exact bnd_r _ _ | exact hF _ _ | exact hI _ | exact hG _ _ | exact hK _ | (simp [uN] <;> omega)) (by first | omega | exact bnd_r _ _ | exact hF _ _ | exact hI _ | exact hG _ _ | exact hK _ | (simp [uN] <;> omega)) (by first | omega | exact bnd_r _ _ | exact hF _ _ | exact hI _ | exact hG _ _ | exact hK _ | (simp [uN] <;> omega))) lX2_109 (dec_of DX2_takeNote 108 rfl) rfl rfl (by decide) (nle rfl) rfl ?_
    exact vi_vret (dec_of DX2_takeNote 109 rfl) rfl ⟨by decide, by decide⟩ (⟨by first | (rw [ntF, if_pos (by assumption)]; rfl) | (rw [ntF, if_neg (by assumption)]; rfl), rfl⟩)
set_option maxRecDepth 100000 in
set_option maxHeartbeats 4000000 in
theorem k_bar2 {T : XW} {I N : Nat → Int} {F : Nat → Int → Int} (hF : FR F) (hI : IR I) (hN : NR N) {p k : Int} (hp : 0 ≤ p ∧ p ≤ 2000) (hk : 1 ≤ k ∧ k ≤ 4) (h4 : k = 4) (h9 : N 9 = 6) (h8 : N 8 < 260) (hr : F 9 4 < 30) (h6 : N 6 < 30) : Sd (rm 2 48 0 0) mX2_takeBar [.ref 20, J p, J k] (cls I N F ++ T) (cls (uN (uN I 5 (p + 2)) 7 0) (uN (uN N 8 (N 8 + 1)) 6 (N 6 + 1)) (uN (sgF N F 4 k) 6 (uI (adf (F 6) 2 (N 6) k) (N 6 * 2 + 1) (N 4))) ++ T) (none) := by
  unfold Sd
  unfold NR at hN
  refine sp_of (ls := [some (.ref 20), some (J p), some (J k), none]) (by decide) (nle rfl) rfl rfl ?_
  refine v_iload_n (dec_of DX2_takeBar 0 rfl) rfl ?_
  refine vi_const (dec_of DX2_takeBar 1 rfl) ?_
  refine vi_icmp_ne (tgt := 12) (dec_of DX2_takeBar 2 rfl) (by decide) (by first | omega | exact bnd_r _ _ | exact hF _ _ | exact hI _ | exact hG _ _ | exact hK _ | (simp [uN] <;> omega)) (by first | omega | exact bnd_r _ _ | exact hF _ _ | exact hI _ | exact hG _ _ | exact hK _ | (simp [uN] <;> omega)) (fun c2 => absurd c2 (by omega)) (fun c2 => ?_)
  refine v_aload_n (dec_of DX2_takeBar 3 rfl) rfl ?_
  refine v_iload_n (dec_of DX2_takeBar 4 rfl) rfl ?_
  refine vi_const (dec_of DX2_takeBar 5 rfl) ?_
  refine vi_add (dec_of DX2_takeBar 6 rfl) ?_
  refine cp_5 fX2_40 (dec_of DX2_takeBar 7 rfl) ?_
  refine v_aload_n (dec_of DX2_takeBar 8 rfl) rfl ?_
  refine v_iload_n (dec_of DX2_takeBar 9 rfl) rfl ?_
  refine vi_const (dec_of DX2_takeBar 10 rfl) ?_
  refine v_iload_n (dec_of DX2_takeBar 11 rfl) rfl ?_
  refine v_V3r (k_addS hF (hI.up (by omega)) (by unfold NR; exact hN) (by omega) h9 h8 hr) lX2_159 (dec_of DX2_takeBar 12 rfl) rfl rfl (by decide) (nle rfl) rfl ?_
  refine vi_if_eq (tgt := 61) (dec_of DX2_takeBar 13 rfl) (by decide) (by first | omega | exact bnd_r _ _ | exact hF _ _ | exact hI _ | exact hG _ _ | exact hK _ | (simp [uN] <;> omega)) (fun c19 => absurd c19 (by omega)) (fun c19 => ?_)
  refine v_aload_n (dec_of DX2_takeBar 14 rfl) rfl ?_
  refine v_get fX2_9 (dec_of DX2_takeBar 15 rfl) rfl rfl ?_
  refine v_get fX2_169 (dec_of DX2_takeBar 16 rfl) rfl rfl ?_
  refine v_iload_n (dec_of DX2_takeBar 17 rfl) rfl ?_
  refine v_V1r (c6_add (by first | omega | exact bnd_r _ _ | exact hF _ _ | exact hI _ | exact hG _ _ | exact hK _ | (simp [uN] <;> omega))) lX2_92 (dec_of DX2_takeBar 18 rfl) rfl rfl (by decide) (nle rfl) rfl ?_
  refine v_istore_n (dec_of DX2_takeBar 19 rfl) (by decide) ?_
  dsimp only [List.set]
  refine v_aload_n (dec_of DX2_takeBar 20 rfl) rfl ?_
  refine v_get fX2_9 (dec_of DX2_takeBar 21 rfl) rfl rfl ?_
  refine v_get fX2_169 (dec_of DX2_takeBar 22 rfl) rfl rfl ?_
  refine v_iload_n (dec_of DX2_takeBar 23 rfl) rfl ?_
  refine vi_const (dec_of DX2_takeBar 24 rfl) ?_
  refine v_aload_n (dec_of DX2_takeBar 25 rfl) rfl ?_
  refine v_get fX2_9 (dec_of DX2_takeBar 26 rfl) rfl rfl ?_
  refine v_get fX2_143 (dec_of DX2_takeBar 27 rfl) rfl rfl ?_
  refine v_V0r (c4_size) lX2_33 (dec_of DX2_takeBar 28 rfl) rfl rfl (by decide) (nle rfl) rfl ?_
  refine v_V3v (c6_set (by first | omega | exact bnd_r _ _ | exact hF _ _ | exact hI _ | exact hG _ _ | exact hK _ | (simp [uN] <;> omega)) (by first | omega | exact bnd_r _ _ | exact hF _ _ | exact hI _ | exact hG _ _ | exact hK _ | (simp [uN] <;> omega)) (by first | omega | exact bnd_r _ _ | exact hF _ _ | exact hI _ | exact hG _ _ | exact hK _ | (simp [uN] <;> omega))) lX2_109 (dec_of DX2_takeBar 29 rfl) rfl rfl (by decide) (nle rfl) rfl ?_
  refine v_aload_n (dec_of DX2_takeBar 30 rfl) rfl ?_
  refine vi_const (dec_of DX2_takeBar 31 rfl) ?_
  refine cp_7 fX2_85 (dec_of DX2_takeBar 32 rfl) ?_
  exact vi_vret (dec_of DX2_takeBar 33 rfl) rfl ⟨by decide, by decide⟩ (⟨rfl, rfl⟩)
set_option maxRecDepth 100000 in
set_option maxHeartbeats 4000000 in
theorem k_bar2_full {T : XW} {I N : Nat → Int} {F : Nat → Int → Int} (hF : FR F) (hI : IR I) (hN : NR N) {p k : Int} (hp : 0 ≤ p ∧ p ≤ 2000) (hk : 1 ≤ k ∧ k ≤ 4) (h4 : k = 4) (h9 : N 9 = 6) (hr : ¬ F 9 4 < 30) : Sd (rm 2 48 0 0) mX2_takeBar [.ref 20, J p, J k] (cls I N F ++ T) (cls (uN (uN (uN I 5 (p + 2)) 3 2) 4 p) N F ++ T) (none) := by
  unfold Sd
  unfold NR at hN
  refine sp_of (ls := [some (.ref 20), some (J p), some (J k), none]) (by decide) (nle rfl) rfl rfl ?_
  refine v_iload_n (dec_of DX2_takeBar 0 rfl) rfl ?_
  refine vi_const (dec_of DX2_takeBar 1 rfl) ?_
  refine vi_icmp_ne (tgt := 12) (dec_of DX2_takeBar 2 rfl) (by decide) (by first | omega | exact bnd_r _ _ | exact hF _ _ | exact hI _ | exact hG _ _ | exact hK _ | (simp [uN] <;> omega)) (by first | omega | exact bnd_r _ _ | exact hF _ _ | exact hI _ | exact hG _ _ | exact hK _ | (simp [uN] <;> omega)) (fun c2 => absurd c2 (by omega)) (fun c2 => ?_)
  refine v_aload_n (dec_of DX2_takeBar 3 rfl) rfl ?_
  refine v_iload_n (dec_of DX2_takeBar 4 rfl) rfl ?_
  refine vi_const (dec_of DX2_takeBar 5 rfl) ?_
  refine vi_add (dec_of DX2_takeBar 6 rfl) ?_
  refine cp_5 fX2_40 (dec_of DX2_takeBar 7 rfl) ?_
  refine v_aload_n (dec_of DX2_takeBar 8 rfl) rfl ?_
  refine v_iload_n (dec_of DX2_takeBar 9 rfl) rfl ?_
  refine vi_const (dec_of DX2_takeBar 10 rfl) ?_
  refine v_iload_n (dec_of DX2_takeBar 11 rfl) rfl ?_
  refine v_V3r (k_addSf hF (hI.up (by omega)) (by unfold NR; exact hN) (by omega) h9 hr) lX2_159 (dec_of DX2_takeBar 12 rfl) rfl rfl (by decide) (nle rfl) rfl ?_
  refine vi_if_eq (tgt := 61) (dec_of DX2_takeBar 13 rfl) (by decide) (by first | omega | exact bnd_r _ _ | exact hF _ _ | exact hI _ | exact hG _ _ | exact hK _ | (simp [uN] <;> omega)) (fun c19 => ?_) (fun c19 => absurd c19 (by omega))
  exact vi_vret (dec_of DX2_takeBar 33 rfl) rfl ⟨by decide, by decide⟩ (⟨rfl, rfl⟩)
set_option maxRecDepth 100000 in
set_option maxHeartbeats 4000000 in
theorem k_bar1 {T : XW} {I N : Nat → Int} {F : Nat → Int → Int} (hF : FR F) (hI : IR I) (hN : NR N) {p k : Int} (hp : 0 ≤ p ∧ p ≤ 2000) (hk : 1 ≤ k ∧ k ≤ 4) (h4 : ¬ k = 4) (h9 : N 9 = 6) (h8 : N 8 < 260) (hr : F 9 4 < 30) (h6 : N 6 < 30) : Sd (rm 2 48 0 0) mX2_takeBar [.ref 20, J p, J k] (cls I N F ++ T) (cls (uN (I) 7 0) (uN (uN N 8 (N 8 + 1)) 6 (N 6 + 1)) (uN (sgF N F 4 k) 6 (uI (adf (F 6) 2 (N 6) k) (N 6 * 2 + 1) (N 4))) ++ T) (none) := by
  unfold Sd
  unfold NR at hN
  refine sp_of (ls := [some (.ref 20), some (J p), some (J k), none]) (by decide) (nle rfl) rfl rfl ?_
  refine v_iload_n (dec_of DX2_takeBar 0 rfl) rfl ?_
  refine vi_const (dec_of DX2_takeBar 1 rfl) ?_
  refine vi_icmp_ne (tgt := 12) (dec_of DX2_takeBar 2 rfl) (by decide) (by first | omega | exact bnd_r _ _ | exact hF _ _ | exact hI _ | exact hG _ _ | exact hK _ | (simp [uN] <;> omega)) (by first | omega | exact bnd_r _ _ | exact hF _ _ | exact hI _ | exact hG _ _ | exact hK _ | (simp [uN] <;> omega)) (fun c2 => ?_) (fun c2 => absurd c2 (by omega))
  refine v_aload_n (dec_of DX2_takeBar 8 rfl) rfl ?_
  refine v_iload_n (dec_of DX2_takeBar 9 rfl) rfl ?_
  refine vi_const (dec_of DX2_takeBar 10 rfl) ?_
  refine v_iload_n (dec_of DX2_takeBar 11 rfl) rfl ?_
  refine v_V3r (k_addS hF hI (by unfold NR; exact hN) (by omega) h9 h8 hr) lX2_159 (dec_of DX2_takeBar 12 rfl) rfl rfl (by decide) (nle rfl) rfl ?_
  refine vi_if_eq (tgt := 61) (dec_of DX2_takeBar 13 rfl) (by decide) (by first | omega | exact bnd_r _ _ | exact hF _ _ | exact hI _ | exact hG _ _ | exact hK _ | (simp [uN] <;> omega)) (fun c19 => absurd c19 (by omega)) (fun c19 => ?_)
  refine v_aload_n (dec_of DX2_takeBar 14 rfl) rfl ?_
  refine v_get fX2_9 (dec_of DX2_takeBar 15 rfl) rfl rfl ?_
  refine v_get fX2_169 (dec_of DX2_takeBar 16 rfl) rfl rfl ?_
  refine v_iload_n (dec_of DX2_takeBar 17 rfl) rfl ?_
  refine v_V1r (c6_add (by first | omega | exact bnd_r _ _ | exact hF _ _ | exact hI _ | exact hG _ _ | exact hK _ | (simp [uN] <;> omega))) lX2_92 (dec_of DX2_takeBar 18 rfl) rfl rfl (by decide) (nle rfl) rfl ?_
  refine v_istore_n (dec_of DX2_takeBar 19 rfl) (by decide) ?_
  dsimp only [List.set]
  refine v_aload_n (dec_of DX2_takeBar 20 rfl) rfl ?_
  refine v_get fX2_9 (dec_of DX2_takeBar 21 rfl) rfl rfl ?_
  refine v_get fX2_169 (dec_of DX2_takeBar 22 rfl) rfl rfl ?_
  refine v_iload_n (dec_of DX2_takeBar 23 rfl) rfl ?_
  refine vi_const (dec_of DX2_takeBar 24 rfl) ?_
  refine v_aload_n (dec_of DX2_takeBar 25 rfl) rfl ?_
  refine v_get fX2_9 (dec_of DX2_takeBar 26 rfl) rfl rfl ?_
  refine v_get fX2_143 (dec_of DX2_takeBar 27 rfl) rfl rfl ?_
  refine v_V0r (c4_size) lX2_33 (dec_of DX2_takeBar 28 rfl) rfl rfl (by decide) (nle rfl) rfl ?_
  refine v_V3v (c6_set (by first | omega | exact bnd_r _ _ | exact hF _ _ | exact hI _ | exact hG _ _ | exact hK _ | (simp [uN] <;> omega)) (by first | omega | exact bnd_r _ _ | exact hF _ _ | exact hI _ | exact hG _ _ | exact hK _ | (simp [uN] <;> omega)) (by first | omega | exact bnd_r _ _ | exact hF _ _ | exact hI _ | exact hG _ _ | exact hK _ | (simp [uN] <;> omega))) lX2_109 (dec_of DX2_takeBar 29 rfl) rfl rfl (by decide) (nle rfl) rfl ?_
  refine v_aload_n (dec_of DX2_takeBar 30 rfl) rfl ?_
  refine vi_const (dec_of DX2_takeBar 31 rfl) ?_
  refine cp_7 fX2_85 (dec_of DX2_takeBar 32 rfl) ?_
  exact vi_vret (dec_of DX2_takeBar 33 rfl) rfl ⟨by decide, by decide⟩ (⟨rfl, rfl⟩)
set_option maxRecDepth 100000 in
set_option maxHeartbeats 4000000 in
theorem k_bar1_full {T : XW} {I N : Nat → Int} {F : Nat → Int → Int} (hF : FR F) (hI : IR I) (hN : NR N) {p k : Int} (hp : 0 ≤ p ∧ p ≤ 2000) (hk : 1 ≤ k ∧ k ≤ 4) (h4 : ¬ k = 4) (h9 : N 9 = 6) (hr : ¬ F 9 4 < 30) : Sd (rm 2 48 0 0) mX2_takeBar [.ref 20, J p, J k] (cls I N F ++ T) (cls (uN (uN (I) 3 2) 4 p) N F ++ T) (none) := by
  unfold Sd
  unfold NR at hN
  refine sp_of (ls := [some (.ref 20), some (J p), some (J k), none]) (by decide) (nle rfl) rfl rfl ?_
  refine v_iload_n (dec_of DX2_takeBar 0 rfl) rfl ?_
  refine vi_const (dec_of DX2_takeBar 1 rfl) ?_
  refine vi_icmp_ne (tgt := 12) (dec_of DX2_takeBar 2 rfl) (by decide) (by first | omega | exact bnd_r _ _ | exact hF _ _ | exact hI _ | exact hG _ _ | exact hK _ | (simp [uN] <;> omega)) (by first | omega | exact bnd_r _ _ | exact hF _ _ | exact hI _ | exact hG _ _ | exact hK _ | (simp [uN] <;> omega)) (fun c2 => ?_) (fun c2 => absurd c2 (by omega))
  refine v_aload_n (dec_of DX2_takeBar 8 rfl) rfl ?_
  refine v_iload_n (dec_of DX2_takeBar 9 rfl) rfl ?_
  refine vi_const (dec_of DX2_takeBar 10 rfl) ?_
  refine v_iload_n (dec_of DX2_takeBar 11 rfl) rfl ?_
  refine v_V3r (k_addSf hF hI (by unfold NR; exact hN) (by omega) h9 hr) lX2_159 (dec_of DX2_takeBar 12 rfl) rfl rfl (by decide) (nle rfl) rfl ?_
  refine vi_if_eq (tgt := 61) (dec_of DX2_takeBar 13 rfl) (by decide) (by first | omega | exact bnd_r _ _ | exact hF _ _ | exact hI _ | exact hG _ _ | exact hK _ | (simp [uN] <;> omega)) (fun c19 => ?_) (fun c19 => absurd c19 (by omega))
  exact vi_vret (dec_of DX2_takeBar 33 rfl) rfl ⟨by decide, by decide⟩ (⟨rfl, rfl⟩)
set_option maxRecDepth 100000 in
set_option maxHeartbeats 4000000 in
theorem k_end {T : XW} {I N : Nat → Int} {F : Nat → Int → Int} (hF : FR F) (hI : IR I) (hN : NR N) {p : Int} (h9 : N 9 = 6) (h8 : N 8 < 260) (hr : F 9 5 < 20) (h7 : N 7 < 20) : Sd (rm 2 48 0 0) mX2_takeLineEnd [.ref 20, J p] (cls I N F ++ T) (cls I (uN (uN N 8 (N 8 + 1)) 7 (N 7 + 1)) (uN (sgF N F 5 0) 7 (uI (adf (F 7) 2 (N 7) (N 4)) (N 7 * 2 + 1) (I 6))) ++ T) (none) := by
  unfold Sd
  unfold NR at hN
  refine sp_of (ls := [some (.ref 20), some (J p), none]) (by decide) (nle rfl) rfl rfl ?_
  refine v_aload_n (dec_of DX2_takeLineEnd 0 rfl) rfl ?_
  refine v_iload_n (dec_of DX2_takeLineEnd 1 rfl) rfl ?_
  refine vi_const (dec_of DX2_takeLineEnd 2 rfl) ?_
  refine vi_const (dec_of DX2_takeLineEnd 3 rfl) ?_
  refine v_V3r (k_addS hF hI (by unfold NR; exact hN) (by omega) h9 h8 hr) lX2_159 (dec_of DX2_takeLineEnd 4 rfl) rfl rfl (by decide) (nle rfl) rfl ?_
  refine vi_if_eq (tgt := 47) (dec_of DX2_takeLineEnd 5 rfl) (by decide) (by first | omega | exact bnd_r _ _ | exact hF _ _ | exact hI _ | exact hG _ _ | exact hK _ | (simp [uN] <;> omega)) (fun c7 => absurd c7 (by omega)) (fun c7 => ?_)
  refine v_aload_n (dec_of DX2_takeLineEnd 6 rfl) rfl ?_
  refine v_get fX2_9 (dec_of DX2_takeLineEnd 7 rfl) rfl rfl ?_
  refine v_get fX2_172 (dec_of DX2_takeLineEnd 8 rfl) rfl rfl ?_
  refine v_aload_n (dec_of DX2_takeLineEnd 9 rfl) rfl ?_
  refine v_get fX2_9 (dec_of DX2_takeLineEnd 10 rfl) rfl rfl ?_
  refine v_get fX2_143 (dec_of DX2_takeLineEnd 11 rfl) rfl rfl ?_
  refine v_V0r (c4_size) lX2_33 (dec_of DX2_takeLineEnd 12 rfl) rfl rfl (by decide) (nle rfl) rfl ?_
  refine v_V1r (c7_add (by first | omega | exact bnd_r _ _ | exact hF _ _ | exact hI _ | exact hG _ _ | exact hK _ | (simp [uN] <;> omega))) lX2_92 (dec_of DX2_takeLineEnd 13 rfl) rfl rfl (by decide) (nle rfl) rfl ?_
  refine v_istore_n (dec_of DX2_takeLineEnd 14 rfl) (by decide) ?_
  dsimp only [List.set]
  refine v_aload_n (dec_of DX2_takeLineEnd 15 rfl) rfl ?_
  refine v_get fX2_9 (dec_of DX2_takeLineEnd 16 rfl) rfl rfl ?_
  refine v_get fX2_172 (dec_of DX2_takeLineEnd 17 rfl) rfl rfl ?_
  refine v_iload_n (dec_of DX2_takeLineEnd 18 rfl) rfl ?_
  refine vi_const (dec_of DX2_takeLineEnd 19 rfl) ?_
  refine v_aload_n (dec_of DX2_takeLineEnd 20 rfl) rfl ?_
  refine v_get fX2_70 (dec_of DX2_takeLineEnd 21 rfl) rfl rfl ?_
  refine v_V3v (c7_set (by first | omega | exact bnd_r _ _ | exact hF _ _ | exact hI _ | exact hG _ _ | exact hK _ | (simp [uN] <;> omega)) (by first | omega | exact bnd_r _ _ | exact hF _ _ | exact hI _ | exact hG _ _ | exact hK _ | (simp [uN] <;> omega)) (by first | omega | exact bnd_r _ _ | exact hF _ _ | exact hI _ | exact hG _ _ | exact hK _ | (simp [uN] <;> omega))) lX2_109 (dec_of DX2_takeLineEnd 22 rfl) rfl rfl (by decide) (nle rfl) rfl ?_
  exact vi_vret (dec_of DX2_takeLineEnd 23 rfl) rfl ⟨by decide, by decide⟩ (⟨rfl, rfl⟩)
set_option maxRecDepth 100000 in
set_option maxHeartbeats 4000000 in
theorem k_end_full {T : XW} {I N : Nat → Int} {F : Nat → Int → Int} (hF : FR F) (hI : IR I) (hN : NR N) {p : Int} (h9 : N 9 = 6) (hr : ¬ F 9 5 < 20) : Sd (rm 2 48 0 0) mX2_takeLineEnd [.ref 20, J p] (cls I N F ++ T) (cls (uN (uN I 3 2) 4 p) N F ++ T) (none) := by
  unfold Sd
  unfold NR at hN
  refine sp_of (ls := [some (.ref 20), some (J p), none]) (by decide) (nle rfl) rfl rfl ?_
  refine v_aload_n (dec_of DX2_takeLineEnd 0 rfl) rfl ?_
  refine v_iload_n (dec_of DX2_takeLineEnd 1 rfl) rfl ?_
  refine vi_const (dec_of DX2_takeLineEnd 2 rfl) ?_
  refine vi_const (dec_of DX2_takeLineEnd 3 rfl) ?_
  refine v_V3r (k_addSf hF hI (by unfold NR; exact hN) (by omega) h9 hr) lX2_159 (dec_of DX2_takeLineEnd 4 rfl) rfl rfl (by decide) (nle rfl) rfl ?_
  refine vi_if_eq (tgt := 47) (dec_of DX2_takeLineEnd 5 rfl) (by decide) (by first | omega | exact bnd_r _ _ | exact hF _ _ | exact hI _ | exact hG _ _ | exact hK _ | (simp [uN] <;> omega)) (fun c7 => ?_) (fun c7 => absurd c7 (by omega))
  exact vi_vret (dec_of DX2_takeLineEnd 23 rfl) rfl ⟨by decide, by decide⟩ (⟨rfl, rfl⟩)
set_option maxRecDepth 100000 in
set_option maxHeartbeats 4000000 in
theorem k_h_flat {T : XW} {I N : Nat → Int} {F : Nat → Int → Int} {w2 : XW} {p h b : Int} (hh : 0 ≤ h ∧ h ≤ 12) (hb : -1 ≤ b ∧ b < 256) (hc : b = 120) (hs : Sd (rm 2 48 0 0) mX2_takeAccidental [.ref 20, J p, J 1, J h] (cls I N F ++ T) w2 none) : Sd (rm 3 74 0 0) mX2_takeHeight [.ref 20, J p, J h, J b] (cls I N F ++ T) (w2) (none) := by
  unfold Sd
  refine sp_of (ls := [some (.ref 20), some (J p), some (J h), some (J b), none]) (by decide) (nle rfl) rfl rfl ?_
  refine v_iload_n (dec_of DX2_takeHeight 0 rfl) rfl ?_
  refine vi_const (dec_of DX2_takeHeight 1 rfl) ?_
  refine vi_icmp_eq (tgt := 10) (dec_of DX2_takeHeight 2 rfl) (by decide) (by first | omega | exact bnd_r _ _ | exact hF _ _ | exact hI _ | exact hG _ _ | exact hK _ | (simp [uN] <;> omega)) (by first | omega | exact bnd_r _ _ | exact hF _ _ | exact hI _ | exact hG _ _ | exact hK _ | (simp [uN] <;> omega)) (fun c2 => ?_) (fun c2 => ?_)
  · refine vi_const (dec_of DX2_takeHeight 6 rfl) ?_
    refine v_goto (tgt := 15) (dec_of DX2_takeHeight 7 rfl) (by decide) ?_
    refine v_istore (dec_of DX2_takeHeight 9 rfl) (by decide) ?_
    dsimp only [List.set]
    refine v_iload_n (dec_of DX2_takeHeight 10 rfl) rfl ?_
    refine vi_bi (dec_of DX2_takeHeight 11 rfl) (by decide) ?_
    refine vi_icmp_ne (tgt := 33) (dec_of DX2_takeHeight 12 rfl) (by decide) (by first | omega | exact bnd_r _ _ | exact hF _ _ | exact hI _ | exact hG _ _ | exact hK _ | (simp [uN] <;> omega)) (by first | omega | exact bnd_r _ _ | exact hF _ _ | exact hI _ | exact hG _ _ | exact hK _ | (simp [uN] <;> omega)) (fun c20 => absurd c20 (by omega)) (fun c20 => ?_)
    refine v_aload_n (dec_of DX2_takeHeight 13 rfl) rfl ?_
    refine v_iload_n (dec_of DX2_takeHeight 14 rfl) rfl ?_
    refine vi_const (dec_of DX2_takeHeight 15 rfl) ?_
    refine v_iload_n (dec_of DX2_takeHeight 16 rfl) rfl ?_
    refine v_V3v (hs) lX2_150 (dec_of DX2_takeHeight 17 rfl) rfl rfl (by decide) (nle rfl) rfl ?_
    refine v_goto (tgt := 85) (dec_of DX2_takeHeight 18 rfl) (by decide) ?_
    exact vi_vret (dec_of DX2_takeHeight 48 rfl) rfl ⟨by decide, by decide⟩ (⟨rfl, rfl⟩)
  · refine v_iload_n (dec_of DX2_takeHeight 3 rfl) rfl ?_
    refine vi_const (dec_of DX2_takeHeight 4 rfl) ?_
    refine vi_icmp_ne (tgt := 14) (dec_of DX2_takeHeight 5 rfl) (by decide) (by first | omega | exact bnd_r _ _ | exact hF _ _ | exact hI _ | exact hG _ _ | exact hK _ | (simp [uN] <;> omega)) (by first | omega | exact bnd_r _ _ | exact hF _ _ | exact hI _ | exact hG _ _ | exact hK _ | (simp [uN] <;> omega)) (fun c7 => ?_) (fun c7 => ?_)
    · refine vi_const (dec_of DX2_takeHeight 8 rfl) ?_
      refine v_istore (dec_of DX2_takeHeight 9 rfl) (by decide) ?_
      dsimp only [List.set]
      refine v_iload_n (dec_of DX2_takeHeight 10 rfl) rfl ?_
      refine vi_bi (dec_of DX2_takeHeight 11 rfl) (by decide) ?_
      refine vi_icmp_ne (tgt := 33) (dec_of DX2_takeHeight 12 rfl) (by decide) (by first | omega | exact bnd_r _ _ | exact hF _ _ | exact hI _ | exact hG _ _ | exact hK _ | (simp [uN] <;> omega)) (by first | omega | exact bnd_r _ _ | exact hF _ _ | exact hI _ | exact hG _ _ | exact hK _ | (simp [uN] <;> omega)) (fun c20 => absurd c20 (by omega)) (fun c20 => ?_)
      refine v_aload_n (dec_of DX2_takeHeight 13 rfl) rfl ?_
      refine v_iload_n (dec_of DX2_takeHeight 14 rfl) rfl ?_
      refine vi_const (dec_of DX2_takeHeight 15 rfl) ?_
      refine v_iload_n (dec_of DX2_takeHeight 16 rfl) rfl ?_
      refine v_V3v (hs) lX2_150 (dec_of DX2_takeHeight 17 rfl) rfl rfl (by decide) (nle rfl) rfl ?_
      refine v_goto (tgt := 85) (dec_of DX2_takeHeight 18 rfl) (by decide) ?_
      exact vi_vret (dec_of DX2_takeHeight 48 rfl) rfl ⟨by decide, by decide⟩ (⟨rfl, rfl⟩)
    · refine vi_const (dec_of DX2_takeHeight 6 rfl) ?_
      refine v_goto (tgt := 15) (dec_of DX2_takeHeight 7 rfl) (by decide) ?_
      refine v_istore (dec_of DX2_takeHeight 9 rfl) (by decide) ?_
      dsimp only [List.set]
      refine v_iload_n (dec_of DX2_takeHeight 10 rfl) rfl ?_
      refine vi_bi (dec_of DX2_takeHeight 11 rfl) (by decide) ?_
      refine vi_icmp_ne (tgt := 33) (dec_of DX2_takeHeight 12 rfl) (by decide) (by first | omega | exact bnd_r _ _ | exact hF _ _ | exact hI _ | exact hG _ _ | exact hK _ | (simp [uN] <;> omega)) (by first | omega | exact bnd_r _ _ | exact hF _ _ | exact hI _ | exact hG _ _ | exact hK _ | (simp [uN] <;> omega)) (fun c20 => absurd c20 (by omega)) (fun c20 => ?_)
      refine v_aload_n (dec_of DX2_takeHeight 13 rfl) rfl ?_
      refine v_iload_n (dec_of DX2_takeHeight 14 rfl) rfl ?_
      refine vi_const (dec_of DX2_takeHeight 15 rfl) ?_
      refine v_iload_n (dec_of DX2_takeHeight 16 rfl) rfl ?_
      refine v_V3v (hs) lX2_150 (dec_of DX2_takeHeight 17 rfl) rfl rfl (by decide) (nle rfl) rfl ?_
      refine v_goto (tgt := 85) (dec_of DX2_takeHeight 18 rfl) (by decide) ?_
      exact vi_vret (dec_of DX2_takeHeight 48 rfl) rfl ⟨by decide, by decide⟩ (⟨rfl, rfl⟩)
set_option maxRecDepth 100000 in
set_option maxHeartbeats 4000000 in
theorem k_h_nat {T : XW} {I N : Nat → Int} {F : Nat → Int → Int} {w2 : XW} {p h b : Int} (hh : 0 ≤ h ∧ h ≤ 12) (hb : -1 ≤ b ∧ b < 256) (hc : b = 121) (hs : Sd (rm 2 48 0 0) mX2_takeAccidental [.ref 20, J p, J 2, J h] (cls I N F ++ T) w2 none) : Sd (rm 3 74 0 0) mX2_takeHeight [.ref 20, J p, J h, J b] (cls I N F ++ T) (w2) (none) := by
  unfold Sd
  refine sp_of (ls := [some (.ref 20), some (J p), some (J h), some (J b), none]) (by decide) (nle rfl) rfl rfl ?_
  refine v_iload_n (dec_of DX2_takeHeight 0 rfl) rfl ?_
  refine vi_const (dec_of DX2_takeHeight 1 rfl) ?_
  refine vi_icmp_eq (tgt := 10) (dec_of DX2_takeHeight 2 rfl) (by decide) (by first | omega | exact bnd_r _ _ | exact hF _ _ | exact hI _ | exact hG _ _ | exact hK _ | (simp [uN] <;> omega)) (by first | omega | exact bnd_r _ _ | exact hF _ _ | exact hI _ | exact hG _ _ | exact hK _ | (simp [uN] <;> omega)) (fun c2 => ?_) (fun c2 => ?_)
  · refine vi_const (dec_of DX2_takeHeight 6 rfl) ?_
    refine v_goto (tgt := 15) (dec_of DX2_takeHeight 7 rfl) (by decide) ?_
    refine v_istore (dec_of DX2_takeHeight 9 rfl) (by decide) ?_
    dsimp only [List.set]
    refine v_iload_n (dec_of DX2_takeHeight 10 rfl) rfl ?_
    refine vi_bi (dec_of DX2_takeHeight 11 rfl) (by decide) ?_
    refine vi_icmp_ne (tgt := 33) (dec_of DX2_takeHeight 12 rfl) (by decide) (by first | omega | exact bnd_r _ _ | exact hF _ _ | exact hI _ | exact hG _ _ | exact hK _ | (simp [uN] <;> omega)) (by first | omega | exact bnd_r _ _ | exact hF _ _ | exact hI _ | exact hG _ _ | exact hK _ | (simp [uN] <;> omega)) (fun c20 => ?_) (fun c20 => absurd c20 (by omega))
    refine v_iload_n (dec_of DX2_takeHeight 19 rfl) rfl ?_
    refine vi_bi (dec_of DX2_takeHeight 20 rfl) (by decide) ?_
    refine vi_icmp_ne (tgt := 49) (dec_of DX2_takeHeight 21 rfl) (by decide) (by first | omega | exact bnd_r _ _ | exact hF _ _ | exact hI _ | exact hG _ _ | exact hK _ | (simp [uN] <;> omega)) (by first | omega | exact bnd_r _ _ | exact hF _ _ | exact hI _ | exact hG _ _ | exact hK _ | (simp [uN] <;> omega)) (fun c36 => absurd c36 (by omega)) (fun c36 => ?_)
    refine v_aload_n (dec_of DX2_takeHeight 22 rfl) rfl ?_
    refine v_iload_n (dec_of DX2_takeHeight 23 rfl) rfl ?_
    refine vi_const (dec_of DX2_takeHeight 24 rfl) ?_
    refine v_iload_n (dec_of DX2_takeHeight 25 rfl) rfl ?_
    refine v_V3v (hs) lX2_150 (dec_of DX2_takeHeight 26 rfl) rfl rfl (by decide) (nle rfl) rfl ?_
    refine v_goto (tgt := 85) (dec_of DX2_takeHeight 27 rfl) (by decide) ?_
    exact vi_vret (dec_of DX2_takeHeight 48 rfl) rfl ⟨by decide, by decide⟩ (⟨rfl, rfl⟩)
  · refine v_iload_n (dec_of DX2_takeHeight 3 rfl) rfl ?_
    refine vi_const (dec_of DX2_takeHeight 4 rfl) ?_
    refine vi_icmp_ne (tgt := 14) (dec_of DX2_takeHeight 5 rfl) (by decide) (by first | omega | exact bnd_r _ _ | exact hF _ _ | exact hI _ | exact hG _ _ | exact hK _ | (simp [uN] <;> omega)) (by first | omega | exact bnd_r _ _ | exact hF _ _ | exact hI _ | exact hG _ _ | exact hK _ | (simp [uN] <;> omega)) (fun c7 => ?_) (fun c7 => ?_)
    · refine vi_const (dec_of DX2_takeHeight 8 rfl) ?_
      refine v_istore (dec_of DX2_takeHeight 9 rfl) (by decide) ?_
      dsimp only [List.set]
      refine v_iload_n (dec_of DX2_takeHeight 10 rfl) rfl ?_
      refine vi_bi (dec_of DX2_takeHeight 11 rfl) (by decide) ?_
      refine vi_icmp_ne (tgt := 33) (dec_of DX2_takeHeight 12 rfl) (by decide) (by first | omega | exact bnd_r _ _ | exact hF _ _ | exact hI _ | exact hG _ _ | exact hK _ | (simp [uN] <;> omega)) (by first | omega | exact bnd_r _ _ | exact hF _ _ | exact hI _ | exact hG _ _ | exact hK _ | (simp [uN] <;> omega)) (fun c20 => ?_) (fun c20 => absurd c20 (by omega))
      refine v_iload_n (dec_of DX2_takeHeight 19 rfl) rfl ?_
      refine vi_bi (dec_of DX2_takeHeight 20 rfl) (by decide) ?_
      refine vi_icmp_ne (tgt := 49) (dec_of DX2_takeHeight 21 rfl) (by decide) (by first | omega | exact bnd_r _ _ | exact hF _ _ | exact hI _ | exact hG _ _ | exact hK _ | (simp [uN] <;> omega)) (by first | omega | exact bnd_r _ _ | exact hF _ _ | exact hI _ | exact hG _ _ | exact hK _ | (simp [uN] <;> omega)) (fun c36 => absurd c36 (by omega)) (fun c36 => ?_)
      refine v_aload_n (dec_of DX2_takeHeight 22 rfl) rfl ?_
      refine v_iload_n (dec_of DX2_takeHeight 23 rfl) rfl ?_
      refine vi_const (dec_of DX2_takeHeight 24 rfl) ?_
      refine v_iload_n (dec_of DX2_takeHeight 25 rfl) rfl ?_
      refine v_V3v (hs) lX2_150 (dec_of DX2_takeHeight 26 rfl) rfl rfl (by decide) (nle rfl) rfl ?_
      refine v_goto (tgt := 85) (dec_of DX2_takeHeight 27 rfl) (by decide) ?_
      exact vi_vret (dec_of DX2_takeHeight 48 rfl) rfl ⟨by decide, by decide⟩ (⟨rfl, rfl⟩)
    · refine vi_const (dec_of DX2_takeHeight 6 rfl) ?_
      refine v_goto (tgt := 15) (dec_of DX2_takeHeight 7 rfl) (by decide) ?_
      refine v_istore (dec_of DX2_takeHeight 9 rfl) (by decide) ?_
      dsimp only [List.set]
      refine v_iload_n (dec_of DX2_takeHeight 10 rfl) rfl ?_
      refine vi_bi (dec_of DX2_takeHeight 11 rfl) (by decide) ?_
      refine vi_icmp_ne (tgt := 33) (dec_of DX2_takeHeight 12 rfl) (by decide) (by first | omega | exact bnd_r _ _ | exact hF _ _ | exact hI _ | exact hG _ _ | exact hK _ | (simp [uN] <;> omega)) (by first | omega | exact bnd_r _ _ | exact hF _ _ | exact hI _ | exact hG _ _ | exact hK _ | (simp [uN] <;> omega)) (fun c20 => ?_) (fun c20 => absurd c20 (by omega))
      refine v_iload_n (dec_of DX2_takeHeight 19 rfl) rfl ?_
      refine vi_bi (dec_of DX2_takeHeight 20 rfl) (by decide) ?_
      refine vi_icmp_ne (tgt := 49) (dec_of DX2_takeHeight 21 rfl) (by decide) (by first | omega | exact bnd_r _ _ | exact hF _ _ | exact hI _ | exact hG _ _ | exact hK _ | (simp [uN] <;> omega)) (by first | omega | exact bnd_r _ _ | exact hF _ _ | exact hI _ | exact hG _ _ | exact hK _ | (simp [uN] <;> omega)) (fun c36 => absurd c36 (by omega)) (fun c36 => ?_)
      refine v_aload_n (dec_of DX2_takeHeight 22 rfl) rfl ?_
      refine v_iload_n (dec_of DX2_takeHeight 23 rfl) rfl ?_
      refine vi_const (dec_of DX2_takeHeight 24 rfl) ?_
      refine v_iload_n (dec_of DX2_takeHeight 25 rfl) rfl ?_
      refine v_V3v (hs) lX2_150 (dec_of DX2_takeHeight 26 rfl) rfl rfl (by decide) (nle rfl) rfl ?_
      refine v_goto (tgt := 85) (dec_of DX2_takeHeight 27 rfl) (by decide) ?_
      exact vi_vret (dec_of DX2_takeHeight 48 rfl) rfl ⟨by decide, by decide⟩ (⟨rfl, rfl⟩)
set_option maxRecDepth 100000 in
set_option maxHeartbeats 4000000 in
theorem k_h_clef {T : XW} {I N : Nat → Int} {F : Nat → Int → Int} {w2 : XW} {p h b : Int} (hh : 0 ≤ h ∧ h ≤ 12) (hb : -1 ≤ b ∧ b < 256) (hc : (h = 2 ∨ h = 5) ∧ 49 ≤ b ∧ b ≤ 52) (hs : Sd (rm 2 48 0 0) mX2_takeClef [.ref 20, J p, J h, J (b - 48)] (cls I N F ++ T) w2 none) : Sd (rm 3 74 0 0) mX2_takeHeight [.ref 20, J p, J h, J b] (cls I N F ++ T) (w2) (none) := by
  unfold Sd
  refine sp_of (ls := [some (.ref 20), some (J p), some (J h), some (J b), none]) (by decide) (nle rfl) rfl rfl ?_
  refine v_iload_n (dec_of DX2_takeHeight 0 rfl) rfl ?_
  refine vi_const (dec_of DX2_takeHeight 1 rfl) ?_
  refine vi_icmp_eq (tgt := 10) (dec_of DX2_takeHeight 2 rfl) (by decide) (by first | omega | exact bnd_r _ _ | exact hF _ _ | exact hI _ | exact hG _ _ | exact hK _ | (simp [uN] <;> omega)) (by first | omega | exact bnd_r _ _ | exact hF _ _ | exact hI _ | exact hG _ _ | exact hK _ | (simp [uN] <;> omega)) (fun c2 => ?_) (fun c2 => ?_)
  · refine vi_const (dec_of DX2_takeHeight 6 rfl) ?_
    refine v_goto (tgt := 15) (dec_of DX2_takeHeight 7 rfl) (by decide) ?_
    refine v_istore (dec_of DX2_takeHeight 9 rfl) (by decide) ?_
    dsimp only [List.set]
    refine v_iload_n (dec_of DX2_takeHeight 10 rfl) rfl ?_
    refine vi_bi (dec_of DX2_takeHeight 11 rfl) (by decide) ?_
    refine vi_icmp_ne (tgt := 33) (dec_of DX2_takeHeight 12 rfl) (by decide) (by first | omega | exact bnd_r _ _ | exact hF _ _ | exact hI _ | exact hG _ _ | exact hK _ | (simp [uN] <;> omega)) (by first | omega | exact bnd_r _ _ | exact hF _ _ | exact hI _ | exact hG _ _ | exact hK _ | (simp [uN] <;> omega)) (fun c20 => ?_) (fun c20 => absurd c20 (by omega))
    refine v_iload_n (dec_of DX2_takeHeight 19 rfl) rfl ?_
    refine vi_bi (dec_of DX2_takeHeight 20 rfl) (by decide) ?_
    refine vi_icmp_ne (tgt := 49) (dec_of DX2_takeHeight 21 rfl) (by decide) (by first | omega | exact bnd_r _ _ | exact hF _ _ | exact hI _ | exact hG _ _ | exact hK _ | (simp [uN] <;> omega)) (by first | omega | exact bnd_r _ _ | exact hF _ _ | exact hI _ | exact hG _ _ | exact hK _ | (simp [uN] <;> omega)) (fun c36 => ?_) (fun c36 => absurd c36 (by omega))
    refine v_iload (dec_of DX2_takeHeight 28 rfl) rfl ?_
    refine vi_if_eq (tgt := 79) (dec_of DX2_takeHeight 29 rfl) (by decide) (by first | omega | exact bnd_r _ _ | exact hF _ _ | exact hI _ | exact hG _ _ | exact hK _ | (simp [uN] <;> omega)) (fun c51 => absurd c51 (by omega)) (fun c51 => ?_)
    refine v_iload_n (dec_of DX2_takeHeight 30 rfl) rfl ?_
    refine vi_bi (dec_of DX2_takeHeight 31 rfl) (by decide) ?_
    refine vi_icmp_lt (tgt := 79) (dec_of DX2_takeHeight 32 rfl) (by decide) (by first | omega | exact bnd_r _ _ | exact hF _ _ | exact hI _ | exact hG _ _ | exact hK _ | (simp [uN] <;> omega)) (by first | omega | exact bnd_r _ _ | exact hF _ _ | exact hI _ | exact hG _ _ | exact hK _ | (simp [uN] <;> omega)) (fun c57 => absurd c57 (by omega)) (fun c57 => ?_)
    refine v_iload_n (dec_of DX2_takeHeight 33 rfl) rfl ?_
    refine vi_bi (dec_of DX2_takeHeight 34 rfl) (by decide) ?_
    refine vi_icmp_gt (tgt := 79) (dec_of DX2_takeHeight 35 rfl) (by decide) (by first | omega | exact bnd_r _ _ | exact hF _ _ | exact hI _ | exact hG _ _ | exact hK _ | (simp [uN] <;> omega)) (by first | omega | exact bnd_r _ _ | exact hF _ _ | exact hI _ | exact hG _ _ | exact hK _ | (simp [uN] <;> omega)) (fun c63 => absurd c63 (by omega)) (fun c63 => ?_)
    refine v_aload_n (dec_of DX2_takeHeight 36 rfl) rfl ?_
    refine v_iload_n (dec_of DX2_takeHeight 37 rfl) rfl ?_
    refine v_iload_n (dec_of DX2_takeHeight 38 rfl) rfl ?_
    refine v_iload_n (dec_of DX2_takeHeight 39 rfl) rfl ?_
    refine vi_bi (dec_of DX2_takeHeight 40 rfl) (by decide) ?_
    refine vi_sub (dec_of DX2_takeHeight 41 rfl) ?_
    refine v_V3v (hs) lX2_153 (dec_of DX2_takeHeight 42 rfl) rfl rfl (by decide) (nle rfl) rfl ?_
    refine v_goto (tgt := 85) (dec_of DX2_takeHeight 43 rfl) (by decide) ?_
    exact vi_vret (dec_of DX2_takeHeight 48 rfl) rfl ⟨by decide, by decide⟩ (⟨rfl, rfl⟩)
  · refine v_iload_n (dec_of DX2_takeHeight 3 rfl) rfl ?_
    refine vi_const (dec_of DX2_takeHeight 4 rfl) ?_
    refine vi_icmp_ne (tgt := 14) (dec_of DX2_takeHeight 5 rfl) (by decide) (by first | omega | exact bnd_r _ _ | exact hF _ _ | exact hI _ | exact hG _ _ | exact hK _ | (simp [uN] <;> omega)) (by first | omega | exact bnd_r _ _ | exact hF _ _ | exact hI _ | exact hG _ _ | exact hK _ | (simp [uN] <;> omega)) (fun c7 => absurd c7 (by omega)) (fun c7 => ?_)
    refine vi_const (dec_of DX2_takeHeight 6 rfl) ?_
    refine v_goto (tgt := 15) (dec_of DX2_takeHeight 7 rfl) (by decide) ?_
    refine v_istore (dec_of DX2_takeHeight 9 rfl) (by decide) ?_
    dsimp only [List.set]
    refine v_iload_n (dec_of DX2_takeHeight 10 rfl) rfl ?_
    refine vi_bi (dec_of DX2_takeHeight 11 rfl) (by decide) ?_
    refine vi_icmp_ne (tgt := 33) (dec_of DX2_takeHeight 12 rfl) (by decide) (by first | omega | exact bnd_r _ _ | exact hF _ _ | exact hI _ | exact hG _ _ | exact hK _ | (simp [uN] <;> omega)) (by first | omega | exact bnd_r _ _ | exact hF _ _ | exact hI _ | exact hG _ _ | exact hK _ | (simp [uN] <;> omega)) (fun c20 => ?_) (fun c20 => absurd c20 (by omega))
    refine v_iload_n (dec_of DX2_takeHeight 19 rfl) rfl ?_
    refine vi_bi (dec_of DX2_takeHeight 20 rfl) (by decide) ?_
    refine vi_icmp_ne (tgt := 49) (dec_of DX2_takeHeight 21 rfl) (by decide) (by first | omega | exact bnd_r _ _ | exact hF _ _ | exact hI _ | exact hG _ _ | exact hK _ | (simp [uN] <;> omega)) (by first | omega | exact bnd_r _ _ | exact hF _ _ | exact hI _ | exact hG _ _ | exact hK _ | (simp [uN] <;> omega)) (fun c36 => ?_) (fun c36 => absurd c36 (by omega))
    refine v_iload (dec_of DX2_takeHeight 28 rfl) rfl ?_
    refine vi_if_eq (tgt := 79) (dec_of DX2_takeHeight 29 rfl) (by decide) (by first | omega | exact bnd_r _ _ | exact hF _ _ | exact hI _ | exact hG _ _ | exact hK _ | (simp [uN] <;> omega)) (fun c51 => absurd c51 (by omega)) (fun c51 => ?_)
    refine v_iload_n (dec_of DX2_takeHeight 30 rfl) rfl ?_
    refine vi_bi (dec_of DX2_takeHeight 31 rfl) (by decide) ?_
    refine vi_icmp_lt (tgt := 79) (dec_of DX2_takeHeight 32 rfl) (by decide) (by first | omega | exact bnd_r _ _ | exact hF _ _ | exact hI _ | exact hG _ _ | exact hK _ | (simp [uN] <;> omega)) (by first | omega | exact bnd_r _ _ | exact hF _ _ | exact hI _ | exact hG _ _ | exact hK _ | (simp [uN] <;> omega)) (fun c57 => absurd c57 (by omega)) (fun c57 => ?_)
    refine v_iload_n (dec_of DX2_takeHeight 33 rfl) rfl ?_
    refine vi_bi (dec_of DX2_takeHeight 34 rfl) (by decide) ?_
    refine vi_icmp_gt (tgt := 79) (dec_of DX2_takeHeight 35 rfl) (by decide) (by first | omega | exact bnd_r _ _ | exact hF _ _ | exact hI _ | exact hG _ _ | exact hK _ | (simp [uN] <;> omega)) (by first | omega | exact bnd_r _ _ | exact hF _ _ | exact hI _ | exact hG _ _ | exact hK _ | (simp [uN] <;> omega)) (fun c63 => absurd c63 (by omega)) (fun c63 => ?_)
    refine v_aload_n (dec_of DX2_takeHeight 36 rfl) rfl ?_
    refine v_iload_n (dec_of DX2_takeHeight 37 rfl) rfl ?_
    refine v_iload_n (dec_of DX2_takeHeight 38 rfl) rfl ?_
    refine v_iload_n (dec_of DX2_takeHeight 39 rfl) rfl ?_
    refine vi_bi (dec_of DX2_takeHeight 40 rfl) (by decide) ?_
    refine vi_sub (dec_of DX2_takeHeight 41 rfl) ?_
    refine v_V3v (hs) lX2_153 (dec_of DX2_takeHeight 42 rfl) rfl rfl (by decide) (nle rfl) rfl ?_
    refine v_goto (tgt := 85) (dec_of DX2_takeHeight 43 rfl) (by decide) ?_
    exact vi_vret (dec_of DX2_takeHeight 48 rfl) rfl ⟨by decide, by decide⟩ (⟨rfl, rfl⟩)
set_option maxRecDepth 100000 in
set_option maxHeartbeats 4000000 in
theorem k_h_note {T : XW} {I N : Nat → Int} {F : Nat → Int → Int} {w2 : XW} {p h b : Int} (hh : 0 ≤ h ∧ h ≤ 12) (hb : -1 ≤ b ∧ b < 256) (hc : b ≠ 120 ∧ b ≠ 121 ∧ ¬ ((h = 2 ∨ h = 5) ∧ 49 ≤ b ∧ b ≤ 52)) (hs : Sd (rm 2 48 0 0) mX2_takeNote [.ref 20, J p, J h] (cls I N F ++ T) w2 none) : Sd (rm 3 74 0 0) mX2_takeHeight [.ref 20, J p, J h, J b] (cls I N F ++ T) (w2) (none) := by
  unfold Sd
  refine sp_of (ls := [some (.ref 20), some (J p), some (J h), some (J b), none]) (by decide) (nle rfl) rfl rfl ?_
  refine v_iload_n (dec_of DX2_takeHeight 0 rfl) rfl ?_
  refine vi_const (dec_of DX2_takeHeight 1 rfl) ?_
  refine vi_icmp_eq (tgt := 10) (dec_of DX2_takeHeight 2 rfl) (by decide) (by first | omega | exact bnd_r _ _ | exact hF _ _ | exact hI _ | exact hG _ _ | exact hK _ | (simp [uN] <;> omega)) (by first | omega | exact bnd_r _ _ | exact hF _ _ | exact hI _ | exact hG _ _ | exact hK _ | (simp [uN] <;> omega)) (fun c2 => ?_) (fun c2 => ?_)
  · refine vi_const (dec_of DX2_takeHeight 6 rfl) ?_
    refine v_goto (tgt := 15) (dec_of DX2_takeHeight 7 rfl) (by decide) ?_
    refine v_istore (dec_of DX2_takeHeight 9 rfl) (by decide) ?_
    dsimp only [List.set]
    refine v_iload_n (dec_of DX2_takeHeight 10 rfl) rfl ?_
    refine vi_bi (dec_of DX2_takeHeight 11 rfl) (by decide) ?_
    refine vi_icmp_ne (tgt := 33) (dec_of DX2_takeHeight 12 rfl) (by decide) (by first | omega | exact bnd_r _ _ | exact hF _ _ | exact hI _ | exact hG _ _ | exact hK _ | (simp [uN] <;> omega)) (by first | omega | exact bnd_r _ _ | exact hF _ _ | exact hI _ | exact hG _ _ | exact hK _ | (simp [uN] <;> omega)) (fun c20 => ?_) (fun c20 => absurd c20 (by omega))
    refine v_iload_n (dec_of DX2_takeHeight 19 rfl) rfl ?_
    refine vi_bi (dec_of DX2_takeHeight 20 rfl) (by decide) ?_
    refine vi_icmp_ne (tgt := 49) (dec_of DX2_takeHeight 21 rfl) (by decide) (by first | omega | exact bnd_r _ _ | exact hF _ _ | exact hI _ | exact hG _ _ | exact hK _ | (simp [uN] <;> omega)) (by first | omega | exact bnd_r _ _ | exact hF _ _ | exact hI _ | exact hG _ _ | exact hK _ | (simp [uN] <;> omega)) (fun c36 => ?_) (fun c36 => absurd c36 (by omega))
    refine v_iload (dec_of DX2_takeHeight 28 rfl) rfl ?_
    refine vi_if_eq (tgt := 79) (dec_of DX2_takeHeight 29 rfl) (by decide) (by first | omega | exact bnd_r _ _ | exact hF _ _ | exact hI _ | exact hG _ _ | exact hK _ | (simp [uN] <;> omega)) (fun c51 => ?_) (fun c51 => ?_)
    · refine v_aload_n (dec_of DX2_takeHeight 44 rfl) rfl ?_
      refine v_iload_n (dec_of DX2_takeHeight 45 rfl) rfl ?_
      refine v_iload_n (dec_of DX2_takeHeight 46 rfl) rfl ?_
      refine v_V2v (hs) lX2_156 (dec_of DX2_takeHeight 47 rfl) rfl rfl (by decide) (nle rfl) rfl ?_
      exact vi_vret (dec_of DX2_takeHeight 48 rfl) rfl ⟨by decide, by decide⟩ (⟨rfl, rfl⟩)
    · refine v_iload_n (dec_of DX2_takeHeight 30 rfl) rfl ?_
      refine vi_bi (dec_of DX2_takeHeight 31 rfl) (by decide) ?_
      refine vi_icmp_lt (tgt := 79) (dec_of DX2_takeHeight 32 rfl) (by decide) (by first | omega | exact bnd_r _ _ | exact hF _ _ | exact hI _ | exact hG _ _ | exact hK _ | (simp [uN] <;> omega)) (by first | omega | exact bnd_r _ _ | exact hF _ _ | exact hI _ | exact hG _ _ | exact hK _ | (simp [uN] <;> omega)) (fun c57 => ?_) (fun c57 => ?_)
      · refine v_aload_n (dec_of DX2_takeHeight 44 rfl) rfl ?_
        refine v_iload_n (dec_of DX2_takeHeight 45 rfl) rfl ?_
        refine v_iload_n (dec_of DX2_takeHeight 46 rfl) rfl ?_
        refine v_V2v (hs) lX2_156 (dec_of DX2_takeHeight 47 rfl) rfl rfl (by decide) (nle rfl) rfl ?_
        exact vi_vret (dec_of DX2_takeHeight 48 rfl) rfl ⟨by decide, by decide⟩ (⟨rfl, rfl⟩)
      · refine v_iload_n (dec_of DX2_takeHeight 33 rfl) rfl ?_
        refine vi_bi (dec_of DX2_takeHeight 34 rfl) (by decide) ?_
        refine vi_icmp_gt (tgt := 79) (dec_of DX2_takeHeight 35 rfl) (by decide) (by first | omega | exact bnd_r _ _ | exact hF _ _ | exact hI _ | exact hG _ _ | exact hK _ | (simp [uN] <;> omega)) (by first | omega | exact bnd_r _ _ | exact hF _ _ | exact hI _ | exact hG _ _ | exact hK _ | (simp [uN] <;> omega)) (fun c63 => ?_) (fun c63 => ?_)
        · refine v_aload_n (dec_of DX2_takeHeight 44 rfl) rfl ?_
          refine v_iload_n (dec_of DX2_takeHeight 45 rfl) rfl ?_
          refine v_iload_n (dec_of DX2_takeHeight 46 rfl) rfl ?_
          refine v_V2v (hs) lX2_156 (dec_of DX2_takeHeight 47 rfl) rfl rfl (by decide) (nle rfl) rfl ?_
          exact vi_vret (dec_of DX2_takeHeight 48 rfl) rfl ⟨by decide, by decide⟩ (⟨rfl, rfl⟩)
        · exact absurd hc (by omega)
  · refine v_iload_n (dec_of DX2_takeHeight 3 rfl) rfl ?_
    refine vi_const (dec_of DX2_takeHeight 4 rfl) ?_
    refine vi_icmp_ne (tgt := 14) (dec_of DX2_takeHeight 5 rfl) (by decide) (by first | omega | exact bnd_r _ _ | exact hF _ _ | exact hI _ | exact hG _ _ | exact hK _ | (simp [uN] <;> omega)) (by first | omega | exact bnd_r _ _ | exact hF _ _ | exact hI _ | exact hG _ _ | exact hK _ | (simp [uN] <;> omega)) (fun c7 => ?_) (fun c7 => ?_)
    · refine vi_const (dec_of DX2_takeHeight 8 rfl) ?_
      refine v_istore (dec_of DX2_takeHeight 9 rfl) (by decide) ?_
      dsimp only [List.set]
      refine v_iload_n (dec_of DX2_takeHeight 10 rfl) rfl ?_
      refine vi_bi (dec_of DX2_takeHeight 11 rfl) (by decide) ?_
      refine vi_icmp_ne (tgt := 33) (dec_of DX2_takeHeight 12 rfl) (by decide) (by first | omega | exact bnd_r _ _ | exact hF _ _ | exact hI _ | exact hG _ _ | exact hK _ | (simp [uN] <;> omega)) (by first | omega | exact bnd_r _ _ | exact hF _ _ | exact hI _ | exact hG _ _ | exact hK _ | (simp [uN] <;> omega)) (fun c20 => ?_) (fun c20 => absurd c20 (by omega))
      refine v_iload_n (dec_of DX2_takeHeight 19 rfl) rfl ?_
      refine vi_bi (dec_of DX2_takeHeight 20 rfl) (by decide) ?_
      refine vi_icmp_ne (tgt := 49) (dec_of DX2_takeHeight 21 rfl) (by decide) (by first | omega | exact bnd_r _ _ | exact hF _ _ | exact hI _ | exact hG _ _ | exact hK _ | (simp [uN] <;> omega)) (by first | omega | exact bnd_r _ _ | exact hF _ _ | exact hI _ | exact hG _ _ | exact hK _ | (simp [uN] <;> omega)) (fun c36 => ?_) (fun c36 => absurd c36 (by omega))
      refine v_iload (dec_of DX2_takeHeight 28 rfl) rfl ?_
      refine vi_if_eq (tgt := 79) (dec_of DX2_takeHeight 29 rfl) (by decide) (by first | omega | exact bnd_r _ _ | exact hF _ _ | exact hI _ | exact hG _ _ | exact hK _ | (simp [uN] <;> omega)) (fun c51 => ?_) (fun c51 => ?_)
      · refine v_aload_n (dec_of DX2_takeHeight 44 rfl) rfl ?_
        refine v_iload_n (dec_of DX2_takeHeight 45 rfl) rfl ?_
        refine v_iload_n (dec_of DX2_takeHeight 46 rfl) rfl ?_
        refine v_V2v (hs) lX2_156 (dec_of DX2_takeHeight 47 rfl) rfl rfl (by decide) (nle rfl) rfl ?_
        exact vi_vret (dec_of DX2_takeHeight 48 rfl) rfl ⟨by decide, by decide⟩ (⟨rfl, rfl⟩)
      · refine v_iload_n (dec_of DX2_takeHeight 30 rfl) rfl ?_
        refine vi_bi (dec_of DX2_takeHeight 31 rfl) (by decide) ?_
        refine vi_icmp_lt (tgt := 79) (dec_of DX2_takeHeight 32 rfl) (by decide) (by first | omega | exact bnd_r _ _ | exact hF _ _ | exact hI _ | exact hG _ _ | exact hK _ | (simp [uN] <;> omega)) (by first | omega | exact bnd_r _ _ | exact hF _ _ | exact hI _ | exact hG _ _ | exact hK _ | (simp [uN] <;> omega)) (fun c57 => ?_) (fun c57 => ?_)
        · refine v_aload_n (dec_of DX2_takeHeight 44 rfl) rfl ?_
          refine v_iload_n (dec_of DX2_takeHeight 45 rfl) rfl ?_
          refine v_iload_n (dec_of DX2_takeHeight 46 rfl) rfl ?_
          refine v_V2v (hs) lX2_156 (dec_of DX2_takeHeight 47 rfl) rfl rfl (by decide) (nle rfl) rfl ?_
          exact vi_vret (dec_of DX2_takeHeight 48 rfl) rfl ⟨by decide, by decide⟩ (⟨rfl, rfl⟩)
        · refine v_iload_n (dec_of DX2_takeHeight 33 rfl) rfl ?_
          refine vi_bi (dec_of DX2_takeHeight 34 rfl) (by decide) ?_
          refine vi_icmp_gt (tgt := 79) (dec_of DX2_takeHeight 35 rfl) (by decide) (by first | omega | exact bnd_r _ _ | exact hF _ _ | exact hI _ | exact hG _ _ | exact hK _ | (simp [uN] <;> omega)) (by first | omega | exact bnd_r _ _ | exact hF _ _ | exact hI _ | exact hG _ _ | exact hK _ | (simp [uN] <;> omega)) (fun c63 => ?_) (fun c63 => ?_)
          · refine v_aload_n (dec_of DX2_takeHeight 44 rfl) rfl ?_
            refine v_iload_n (dec_of DX2_takeHeight 45 rfl) rfl ?_
            refine v_iload_n (dec_of DX2_takeHeight 46 rfl) rfl ?_
            refine v_V2v (hs) lX2_156 (dec_of DX2_takeHeight 47 rfl) rfl rfl (by decide) (nle rfl) rfl ?_
            exact vi_vret (dec_of DX2_takeHeight 48 rfl) rfl ⟨by decide, by decide⟩ (⟨rfl, rfl⟩)
          · exact absurd hc (by omega)
    · refine vi_const (dec_of DX2_takeHeight 6 rfl) ?_
      refine v_goto (tgt := 15) (dec_of DX2_takeHeight 7 rfl) (by decide) ?_
      refine v_istore (dec_of DX2_takeHeight 9 rfl) (by decide) ?_
      dsimp only [List.set]
      refine v_iload_n (dec_of DX2_takeHeight 10 rfl) rfl ?_
      refine vi_bi (dec_of DX2_takeHeight 11 rfl) (by decide) ?_
      refine vi_icmp_ne (tgt := 33) (dec_of DX2_takeHeight 12 rfl) (by decide) (by first | omega | exact bnd_r _ _ | exact hF _ _ | exact hI _ | exact hG _ _ | exact hK _ | (simp [uN] <;> omega)) (by first | omega | exact bnd_r _ _ | exact hF _ _ | exact hI _ | exact hG _ _ | exact hK _ | (simp [uN] <;> omega)) (fun c20 => ?_) (fun c20 => absurd c20 (by omega))
      refine v_iload_n (dec_of DX2_takeHeight 19 rfl) rfl ?_
      refine vi_bi (dec_of DX2_takeHeight 20 rfl) (by decide) ?_
      refine vi_icmp_ne (tgt := 49) (dec_of DX2_takeHeight 21 rfl) (by decide) (by first | omega | exact bnd_r _ _ | exact hF _ _ | exact hI _ | exact hG _ _ | exact hK _ | (simp [uN] <;> omega)) (by first | omega | exact bnd_r _ _ | exact hF _ _ | exact hI _ | exact hG _ _ | exact hK _ | (simp [uN] <;> omega)) (fun c36 => ?_) (fun c36 => absurd c36 (by omega))
      refine v_iload (dec_of DX2_takeHeight 28 rfl) rfl ?_
      refine vi_if_eq (tgt := 79) (dec_of DX2_takeHeight 29 rfl) (by decide) (by first | omega | exact bnd_r _ _ | exact hF _ _ | exact hI _ | exact hG _ _ | exact hK _ | (simp [uN] <;> omega)) (fun c51 => ?_) (fun c51 => ?_)
      · refine v_aload_n (dec_of DX2_takeHeight 44 rfl) rfl ?_
        refine v_iload_n (dec_of DX2_takeHeight 45 rfl) rfl ?_
        refine v_iload_n (dec_of DX2_takeHeight 46 rfl) rfl ?_
        refine v_V2v (hs) lX2_156 (dec_of DX2_takeHeight 47 rfl) rfl rfl (by decide) (nle rfl) rfl ?_
        exact vi_vret (dec_of DX2_takeHeight 48 rfl) rfl ⟨by decide, by decide⟩ (⟨rfl, rfl⟩)
      · refine v_iload_n (dec_of DX2_takeHeight 30 rfl) rfl ?_
        refine vi_bi (dec_of DX2_takeHeight 31 rfl) (by decide) ?_
        refine vi_icmp_lt (tgt := 79) (dec_of DX2_takeHeight 32 rfl) (by decide) (by first | omega | exact bnd_r _ _ | exact hF _ _ | exact hI _ | exact hG _ _ | exact hK _ | (simp [uN] <;> omega)) (by first | omega | exact bnd_r _ _ | exact hF _ _ | exact hI _ | exact hG _ _ | exact hK _ | (simp [uN] <;> omega)) (fun c57 => ?_) (fun c57 => ?_)
        · refine v_aload_n (dec_of DX2_takeHeight 44 rfl) rfl ?_
          refine v_iload_n (dec_of DX2_takeHeight 45 rfl) rfl ?_
          refine v_iload_n (dec_of DX2_takeHeight 46 rfl) rfl ?_
          refine v_V2v (hs) lX2_156 (dec_of DX2_takeHeight 47 rfl) rfl rfl (by decide) (nle rfl) rfl ?_
          exact vi_vret (dec_of DX2_takeHeight 48 rfl) rfl ⟨by decide, by decide⟩ (⟨rfl, rfl⟩)
        · refine v_iload_n (dec_of DX2_takeHeight 33 rfl) rfl ?_
          refine vi_bi (dec_of DX2_takeHeight 34 rfl) (by decide) ?_
          refine vi_icmp_gt (tgt := 79) (dec_of DX2_takeHeight 35 rfl) (by decide) (by first | omega | exact bnd_r _ _ | exact hF _ _ | exact hI _ | exact hG _ _ | exact hK _ | (simp [uN] <;> omega)) (by first | omega | exact bnd_r _ _ | exact hF _ _ | exact hI _ | exact hG _ _ | exact hK _ | (simp [uN] <;> omega)) (fun c63 => ?_) (fun c63 => ?_)
          · refine v_aload_n (dec_of DX2_takeHeight 44 rfl) rfl ?_
            refine v_iload_n (dec_of DX2_takeHeight 45 rfl) rfl ?_
            refine v_iload_n (dec_of DX2_takeHeight 46 rfl) rfl ?_
            refine v_V2v (hs) lX2_156 (dec_of DX2_takeHeight 47 rfl) rfl rfl (by decide) (nle rfl) rfl ?_
            exact vi_vret (dec_of DX2_takeHeight 48 rfl) rfl ⟨by decide, by decide⟩ (⟨rfl, rfl⟩)
          · exact absurd hc (by omega)
end
section
/-! Reader: takeInside, start (printed by wip/tools/gen_c4.py) -/
theorem mkOf_r (b : Int) : 0 ≤ mkOf b ∧ mkOf b ≤ 16 := by unfold mkOf; omega
set_option maxRecDepth 100000 in
set_option maxHeartbeats 4000000 in
theorem k_in_mark {T : XW} {I N : Nat → Int} {F : Nat → Int → Int} {w2 : XW} {p b q : Int} (hb : 0 ≤ b ∧ b < 256) (hq : -1 ≤ q ∧ q < 256) (hc : ¬ mkOf b = 0) (hs : Sd (rm 2 45 0 0) mX2_takeMark [.ref 20, J p, J (mkOf b)] (cls I N F ++ T) w2 none) : Sd (rm 4 98 0 0) mX2_takeInside [.ref 20, J p, J b, J q] (cls I N F ++ T) (w2) (none) := by
  unfold Sd
  have hm := mkOf_r b
  refine sp_of (ls := [some (.ref 20), some (J p), some (J b), some (J q), none]) (by decide) (nle rfl) rfl rfl ?_
  refine v_iload_n (dec_of DX2_takeInside 0 rfl) rfl ?_
  refine v_S1r (k_markOf (by omega)) lX2_125 (dec_of DX2_takeInside 1 rfl) (by decide) (nle rfl) rfl ?_
  refine v_istore (dec_of DX2_takeInside 2 rfl) (by decide) ?_
  dsimp only [List.set]
  refine v_iload (dec_of DX2_takeInside 3 rfl) rfl ?_
  refine vi_if_eq (tgt := 19) (dec_of DX2_takeInside 4 rfl) (by decide) (by first | omega | exact bnd_r _ _ | exact hF _ _ | exact hI _ | exact hG _ _ | exact hK _ | (simp [uN] <;> omega)) (fun c8 => absurd c8 (by omega)) (fun c8 => ?_)
  refine v_aload_n (dec_of DX2_takeInside 5 rfl) rfl ?_
  refine v_iload_n (dec_of DX2_takeInside 6 rfl) rfl ?_
  refine v_iload (dec_of DX2_takeInside 7 rfl) rfl ?_
  refine v_V2v (hs) lX2_128 (dec_of DX2_takeInside 8 rfl) rfl rfl (by decide) (nle rfl) rfl ?_
  exact vi_vret (dec_of DX2_takeInside 9 rfl) rfl ⟨by decide, by decide⟩ (⟨rfl, rfl⟩)
set_option maxRecDepth 100000 in
set_option maxHeartbeats 4000000 in
theorem k_in_height {T : XW} {I N : Nat → Int} {F : Nat → Int → Int} {w2 : XW} {p b q : Int} (hb : 0 ≤ b ∧ b < 256) (hq : -1 ≤ q ∧ q < 256) (hc : 97 ≤ b ∧ b ≤ 109) (hs : Sd (rm 3 74 0 0) mX2_takeHeight [.ref 20, J p, J (b - 97), J q] (cls (uN I 12 0) N F ++ T) w2 none) : Sd (rm 4 98 0 0) mX2_takeInside [.ref 20, J p, J b, J q] (cls I N F ++ T) (w2) (none) := by
  unfold Sd
  have hm := mkOf_r b
  have hm0 : mkOf b = 0 := by unfold mkOf; omega
  refine sp_of (ls := [some (.ref 20), some (J p), some (J b), some (J q), none]) (by decide) (nle rfl) rfl rfl ?_
  refine v_iload_n (dec_of DX2_takeInside 0 rfl) rfl ?_
  refine v_S1r (k_markOf (by omega)) lX2_125 (dec_of DX2_takeInside 1 rfl) (by decide) (nle rfl) rfl ?_
  refine v_istore (dec_of DX2_takeInside 2 rfl) (by decide) ?_
  dsimp only [List.set]
  refine v_iload (dec_of DX2_takeInside 3 rfl) rfl ?_
  refine vi_if_eq (tgt := 19) (dec_of DX2_takeInside 4 rfl) (by decide) (by first | omega | exact bnd_r _ _ | exact hF _ _ | exact hI _ | exact hG _ _ | exact hK _ | (simp [uN] <;> omega)) (fun c8 => ?_) (fun c8 => absurd c8 (by omega))
  refine v_aload_n (dec_of DX2_takeInside 10 rfl) rfl ?_
  refine vi_const (dec_of DX2_takeInside 11 rfl) ?_
  refine cp_12 fX2_82 (dec_of DX2_takeInside 12 rfl) (by omega) ?_
  refine v_iload_n (dec_of DX2_takeInside 13 rfl) rfl ?_
  refine vi_bi (dec_of DX2_takeInside 14 rfl) (by decide) ?_
  refine vi_icmp_lt (tgt := 47) (dec_of DX2_takeInside 15 rfl) (by decide) (by first | omega | exact bnd_r _ _ | exact hF _ _ | exact hI _ | exact hG _ _ | exact hK _ | (simp [uN] <;> omega)) (by first | omega | exact bnd_r _ _ | exact hF _ _ | exact hI _ | exact hG _ _ | exact hK _ | (simp [uN] <;> omega)) (fun c27 => absurd c27 (by omega)) (fun c27 => ?_)
  refine v_iload_n (dec_of DX2_takeInside 16 rfl) rfl ?_
  refine vi_bi (dec_of DX2_takeInside 17 rfl) (by decide) ?_
  refine vi_icmp_gt (tgt := 47) (dec_of DX2_takeInside 18 rfl) (by decide) (by first | omega | exact bnd_r _ _ | exact hF _ _ | exact hI _ | exact hG _ _ | exact hK _ | (simp [uN] <;> omega)) (by first | omega | exact bnd_r _ _ | exact hF _ _ | exact hI _ | exact hG _ _ | exact hK _ | (simp [uN] <;> omega)) (fun c33 => absurd c33 (by omega)) (fun c33 => ?_)
  refine v_aload_n (dec_of DX2_takeInside 19 rfl) rfl ?_
  refine v_iload_n (dec_of DX2_takeInside 20 rfl) rfl ?_
  refine v_iload_n (dec_of DX2_takeInside 21 rfl) rfl ?_
  refine vi_bi (dec_of DX2_takeInside 22 rfl) (by decide) ?_
  refine vi_sub (dec_of DX2_takeInside 23 rfl) ?_
  refine v_iload_n (dec_of DX2_takeInside 24 rfl) rfl ?_
  refine v_V3v (hs) lX2_131 (dec_of DX2_takeInside 25 rfl) rfl rfl (by decide) (nle rfl) rfl ?_
  exact vi_vret (dec_of DX2_takeInside 26 rfl) rfl ⟨by decide, by decide⟩ (⟨rfl, rfl⟩)
set_option maxRecDepth 100000 in
set_option maxHeartbeats 4000000 in
theorem k_in_sep32 {T : XW} {I N : Nat → Int} {F : Nat → Int → Int} {p q : Int} (hq : -1 ≤ q ∧ q < 256)  : Sd (rm 4 98 0 0) mX2_takeInside [.ref 20, J p, J 32, J q] (cls I N F ++ T) (cls (uN (uN I 12 0) 11 0) N F ++ T) (none) := by
  unfold Sd
  refine sp_of (ls := [some (.ref 20), some (J p), some (J 32), some (J q), none]) (by decide) (nle rfl) rfl rfl ?_
  refine v_iload_n (dec_of DX2_takeInside 0 rfl) rfl ?_
  refine v_S1r (k_markOf (by omega)) lX2_125 (dec_of DX2_takeInside 1 rfl) (by decide) (nle rfl) rfl ?_
  refine v_istore (dec_of DX2_takeInside 2 rfl) (by decide) ?_
  dsimp only [List.set]
  refine v_iload (dec_of DX2_takeInside 3 rfl) rfl ?_
  refine vi_if_eq (tgt := 19) (dec_of DX2_takeInside 4 rfl) (by decide) (by decide) (fun c8 => ?_) (fun c8 => absurd c8 (by decide))
  refine v_aload_n (dec_of DX2_takeInside 10 rfl) rfl ?_
  refine vi_const (dec_of DX2_takeInside 11 rfl) ?_
  refine cp_12 fX2_82 (dec_of DX2_takeInside 12 rfl) (by omega) ?_
  refine v_iload_n (dec_of DX2_takeInside 13 rfl) rfl ?_
  refine vi_bi (dec_of DX2_takeInside 14 rfl) (by decide) ?_
  refine vi_icmp_lt (tgt := 47) (dec_of DX2_takeInside 15 rfl) (by decide) (by first | omega | exact bnd_r _ _ | exact hF _ _ | exact hI _ | exact hG _ _ | exact hK _ | (simp [uN] <;> omega)) (by first | omega | exact bnd_r _ _ | exact hF _ _ | exact hI _ | exact hG _ _ | exact hK _ | (simp [uN] <;> omega)) (fun c27 => ?_) (fun c27 => absurd c27 (by omega))
  refine v_aload_n (dec_of DX2_takeInside 27 rfl) rfl ?_
  refine vi_const (dec_of DX2_takeInside 28 rfl) ?_
  refine cp_11 fX2_79 (dec_of DX2_takeInside 29 rfl) (by omega) ?_
  refine v_iload_n (dec_of DX2_takeInside 30 rfl) rfl ?_
  refine vi_lookup (tgt := 128) (dec_of DX2_takeInside 31 rfl) (by decide) (by decide) rfl (by decide) ?_
  refine v_goto (tgt := 189) (dec_of DX2_takeInside 32 rfl) (by decide) ?_
  exact vi_vret (dec_of DX2_takeInside 64 rfl) rfl ⟨by decide, by decide⟩ (⟨rfl, rfl⟩)
set_option maxRecDepth 100000 in
set_option maxHeartbeats 4000000 in
theorem k_in_sep10 {T : XW} {I N : Nat → Int} {F : Nat → Int → Int} {p q : Int} (hq : -1 ≤ q ∧ q < 256)  : Sd (rm 4 98 0 0) mX2_takeInside [.ref 20, J p, J 10, J q] (cls I N F ++ T) (cls (uN (uN I 12 0) 11 0) N F ++ T) (none) := by
  unfold Sd
  refine sp_of (ls := [some (.ref 20), some (J p), some (J 10), some (J q), none]) (by decide) (nle rfl) rfl rfl ?_
  refine v_iload_n (dec_of DX2_takeInside 0 rfl) rfl ?_
  refine v_S1r (k_markOf (by omega)) lX2_125 (dec_of DX2_takeInside 1 rfl) (by decide) (nle rfl) rfl ?_
  refine v_istore (dec_of DX2_takeInside 2 rfl) (by decide) ?_
  dsimp only [List.set]
  refine v_iload (dec_of DX2_takeInside 3 rfl) rfl ?_
  refine vi_if_eq (tgt := 19) (dec_of DX2_takeInside 4 rfl) (by decide) (by decide) (fun c8 => ?_) (fun c8 => absurd c8 (by decide))
  refine v_aload_n (dec_of DX2_takeInside 10 rfl) rfl ?_
  refine vi_const (dec_of DX2_takeInside 11 rfl) ?_
  refine cp_12 fX2_82 (dec_of DX2_takeInside 12 rfl) (by omega) ?_
  refine v_iload_n (dec_of DX2_takeInside 13 rfl) rfl ?_
  refine vi_bi (dec_of DX2_takeInside 14 rfl) (by decide) ?_
  refine vi_icmp_lt (tgt := 47) (dec_of DX2_takeInside 15 rfl) (by decide) (by first | omega | exact bnd_r _ _ | exact hF _ _ | exact hI _ | exact hG _ _ | exact hK _ | (simp [uN] <;> omega)) (by first | omega | exact bnd_r _ _ | exact hF _ _ | exact hI _ | exact hG _ _ | exact hK _ | (simp [uN] <;> omega)) (fun c27 => ?_) (fun c27 => absurd c27 (by omega))
  refine v_aload_n (dec_of DX2_takeInside 27 rfl) rfl ?_
  refine vi_const (dec_of DX2_takeInside 28 rfl) ?_
  refine cp_11 fX2_79 (dec_of DX2_takeInside 29 rfl) (by omega) ?_
  refine v_iload_n (dec_of DX2_takeInside 30 rfl) rfl ?_
  refine vi_lookup (tgt := 128) (dec_of DX2_takeInside 31 rfl) (by decide) (by decide) rfl (by decide) ?_
  refine v_goto (tgt := 189) (dec_of DX2_takeInside 32 rfl) (by decide) ?_
  exact vi_vret (dec_of DX2_takeInside 64 rfl) rfl ⟨by decide, by decide⟩ (⟨rfl, rfl⟩)
set_option maxRecDepth 100000 in
set_option maxHeartbeats 4000000 in
theorem k_in_sep47 {T : XW} {I N : Nat → Int} {F : Nat → Int → Int} {p q : Int} (hq : -1 ≤ q ∧ q < 256)  : Sd (rm 4 98 0 0) mX2_takeInside [.ref 20, J p, J 47, J q] (cls I N F ++ T) (cls (uN (uN I 12 0) 11 0) N F ++ T) (none) := by
  unfold Sd
  refine sp_of (ls := [some (.ref 20), some (J p), some (J 47), some (J q), none]) (by decide) (nle rfl) rfl rfl ?_
  refine v_iload_n (dec_of DX2_takeInside 0 rfl) rfl ?_
  refine v_S1r (k_markOf (by omega)) lX2_125 (dec_of DX2_takeInside 1 rfl) (by decide) (nle rfl) rfl ?_
  refine v_istore (dec_of DX2_takeInside 2 rfl) (by decide) ?_
  dsimp only [List.set]
  refine v_iload (dec_of DX2_takeInside 3 rfl) rfl ?_
  refine vi_if_eq (tgt := 19) (dec_of DX2_takeInside 4 rfl) (by decide) (by decide) (fun c8 => ?_) (fun c8 => absurd c8 (by decide))
  refine v_aload_n (dec_of DX2_takeInside 10 rfl) rfl ?_
  refine vi_const (dec_of DX2_takeInside 11 rfl) ?_
  refine cp_12 fX2_82 (dec_of DX2_takeInside 12 rfl) (by omega) ?_
  refine v_iload_n (dec_of DX2_takeInside 13 rfl) rfl ?_
  refine vi_bi (dec_of DX2_takeInside 14 rfl) (by decide) ?_
  refine vi_icmp_lt (tgt := 47) (dec_of DX2_takeInside 15 rfl) (by decide) (by first | omega | exact bnd_r _ _ | exact hF _ _ | exact hI _ | exact hG _ _ | exact hK _ | (simp [uN] <;> omega)) (by first | omega | exact bnd_r _ _ | exact hF _ _ | exact hI _ | exact hG _ _ | exact hK _ | (simp [uN] <;> omega)) (fun c27 => ?_) (fun c27 => absurd c27 (by omega))
  refine v_aload_n (dec_of DX2_takeInside 27 rfl) rfl ?_
  refine vi_const (dec_of DX2_takeInside 28 rfl) ?_
  refine cp_11 fX2_79 (dec_of DX2_takeInside 29 rfl) (by omega) ?_
  refine v_iload_n (dec_of DX2_takeInside 30 rfl) rfl ?_
  refine vi_lookup (tgt := 128) (dec_of DX2_takeInside 31 rfl) (by decide) (by decide) rfl (by decide) ?_
  refine v_goto (tgt := 189) (dec_of DX2_takeInside 32 rfl) (by decide) ?_
  exact vi_vret (dec_of DX2_takeInside 64 rfl) rfl ⟨by decide, by decide⟩ (⟨rfl, rfl⟩)
set_option maxRecDepth 100000 in
set_option maxHeartbeats 4000000 in
theorem k_in_close {T : XW} {I N : Nat → Int} {F : Nat → Int → Int} {w2 : XW} {p q : Int} (hq : -1 ≤ q ∧ q < 256) (hs : Sd (rm 1 24 0 0) mX2_endSyllable [.ref 20] (cls (uN (uN I 12 0) 11 0) N F ++ T) w2 none) : Sd (rm 4 98 0 0) mX2_takeInside [.ref 20, J p, J 41, J q] (cls I N F ++ T) (w2) (none) := by
  unfold Sd
  refine sp_of (ls := [some (.ref 20), some (J p), some (J 41), some (J q), none]) (by decide) (nle rfl) rfl rfl ?_
  refine v_iload_n (dec_of DX2_takeInside 0 rfl) rfl ?_
  refine v_S1r (k_markOf (by omega)) lX2_125 (dec_of DX2_takeInside 1 rfl) (by decide) (nle rfl) rfl ?_
  refine v_istore (dec_of DX2_takeInside 2 rfl) (by decide) ?_
  dsimp only [List.set]
  refine v_iload (dec_of DX2_takeInside 3 rfl) rfl ?_
  refine vi_if_eq (tgt := 19) (dec_of DX2_takeInside 4 rfl) (by decide) (by decide) (fun c8 => ?_) (fun c8 => absurd c8 (by decide))
  refine v_aload_n (dec_of DX2_takeInside 10 rfl) rfl ?_
  refine vi_const (dec_of DX2_takeInside 11 rfl) ?_
  refine cp_12 fX2_82 (dec_of DX2_takeInside 12 rfl) (by omega) ?_
  refine v_iload_n (dec_of DX2_takeInside 13 rfl) rfl ?_
  refine vi_bi (dec_of DX2_takeInside 14 rfl) (by decide) ?_
  refine vi_icmp_lt (tgt := 47) (dec_of DX2_takeInside 15 rfl) (by decide) (by first | omega | exact bnd_r _ _ | exact hF _ _ | exact hI _ | exact hG _ _ | exact hK _ | (simp [uN] <;> omega)) (by first | omega | exact bnd_r _ _ | exact hF _ _ | exact hI _ | exact hG _ _ | exact hK _ | (simp [uN] <;> omega)) (fun c27 => ?_) (fun c27 => absurd c27 (by omega))
  refine v_aload_n (dec_of DX2_takeInside 27 rfl) rfl ?_
  refine vi_const (dec_of DX2_takeInside 28 rfl) ?_
  refine cp_11 fX2_79 (dec_of DX2_takeInside 29 rfl) (by omega) ?_
  refine v_iload_n (dec_of DX2_takeInside 30 rfl) rfl ?_
  refine vi_lookup (tgt := 131) (dec_of DX2_takeInside 31 rfl) (by decide) (by decide) rfl (by decide) ?_
  refine v_aload_n (dec_of DX2_takeInside 33 rfl) rfl ?_
  refine v_V0v (hs) lX2_134 (dec_of DX2_takeInside 34 rfl) rfl rfl (by decide) (nle rfl) rfl ?_
  refine v_goto (tgt := 189) (dec_of DX2_takeInside 35 rfl) (by decide) ?_
  exact vi_vret (dec_of DX2_takeInside 64 rfl) rfl ⟨by decide, by decide⟩ (⟨rfl, rfl⟩)
set_option maxRecDepth 100000 in
set_option maxHeartbeats 4000000 in
theorem k_in_comma {T : XW} {I N : Nat → Int} {F : Nat → Int → Int} {w2 : XW} {p q : Int} (hq : -1 ≤ q ∧ q < 256) (hs : Sd (rm 2 48 0 0) mX2_takeBar [.ref 20, J p, J 1] (cls (uN (uN I 12 0) 11 0) N F ++ T) w2 none) : Sd (rm 4 98 0 0) mX2_takeInside [.ref 20, J p, J 44, J q] (cls I N F ++ T) (w2) (none) := by
  unfold Sd
  refine sp_of (ls := [some (.ref 20), some (J p), some (J 44), some (J q), none]) (by decide) (nle rfl) rfl rfl ?_
  refine v_iload_n (dec_of DX2_takeInside 0 rfl) rfl ?_
  refine v_S1r (k_markOf (by omega)) lX2_125 (dec_of DX2_takeInside 1 rfl) (by decide) (nle rfl) rfl ?_
  refine v_istore (dec_of DX2_takeInside 2 rfl) (by decide) ?_
  dsimp only [List.set]
  refine v_iload (dec_of DX2_takeInside 3 rfl) rfl ?_
  refine vi_if_eq (tgt := 19) (dec_of DX2_takeInside 4 rfl) (by decide) (by decide) (fun c8 => ?_) (fun c8 => absurd c8 (by decide))
  refine v_aload_n (dec_of DX2_takeInside 10 rfl) rfl ?_
  refine vi_const (dec_of DX2_takeInside 11 rfl) ?_
  refine cp_12 fX2_82 (dec_of DX2_takeInside 12 rfl) (by omega) ?_
  refine v_iload_n (dec_of DX2_takeInside 13 rfl) rfl ?_
  refine vi_bi (dec_of DX2_takeInside 14 rfl) (by decide) ?_
  refine vi_icmp_lt (tgt := 47) (dec_of DX2_takeInside 15 rfl) (by decide) (by first | omega | exact bnd_r _ _ | exact hF _ _ | exact hI _ | exact hG _ _ | exact hK _ | (simp [uN] <;> omega)) (by first | omega | exact bnd_r _ _ | exact hF _ _ | exact hI _ | exact hG _ _ | exact hK _ | (simp [uN] <;> omega)) (fun c27 => ?_) (fun c27 => absurd c27 (by omega))
  refine v_aload_n (dec_of DX2_takeInside 27 rfl) rfl ?_
  refine vi_const (dec_of DX2_takeInside 28 rfl) ?_
  refine cp_11 fX2_79 (dec_of DX2_takeInside 29 rfl) (by omega) ?_
  refine v_iload_n (dec_of DX2_takeInside 30 rfl) rfl ?_
  refine vi_lookup (tgt := 138) (dec_of DX2_takeInside 31 rfl) (by decide) (by decide) rfl (by decide) ?_
  refine v_aload_n (dec_of DX2_takeInside 36 rfl) rfl ?_
  refine v_iload_n (dec_of DX2_takeInside 37 rfl) rfl ?_
  refine vi_const (dec_of DX2_takeInside 38 rfl) ?_
  refine v_V2v (hs) lX2_137 (dec_of DX2_takeInside 39 rfl) rfl rfl (by decide) (nle rfl) rfl ?_
  refine v_goto (tgt := 189) (dec_of DX2_takeInside 40 rfl) (by decide) ?_
  exact vi_vret (dec_of DX2_takeInside 64 rfl) rfl ⟨by decide, by decide⟩ (⟨rfl, rfl⟩)
set_option maxRecDepth 100000 in
set_option maxHeartbeats 4000000 in
theorem k_in_semi {T : XW} {I N : Nat → Int} {F : Nat → Int → Int} {w2 : XW} {p q : Int} (hq : -1 ≤ q ∧ q < 256) (hs : Sd (rm 2 48 0 0) mX2_takeBar [.ref 20, J p, J 2] (cls (uN (uN I 12 0) 11 0) N F ++ T) w2 none) : Sd (rm 4 98 0 0) mX2_takeInside [.ref 20, J p, J 59, J q] (cls I N F ++ T) (w2) (none) := by
  unfold Sd
  refine sp_of (ls := [some (.ref 20), some (J p), some (J 59), some (J q), none]) (by decide) (nle rfl) rfl rfl ?_
  refine v_iload_n (dec_of DX2_takeInside 0 rfl) rfl ?_
  refine v_S1r (k_markOf (by omega)) lX2_125 (dec_of DX2_takeInside 1 rfl) (by decide) (nle rfl) rfl ?_
  refine v_istore (dec_of DX2_takeInside 2 rfl) (by decide) ?_
  dsimp only [List.set]
  refine v_iload (dec_of DX2_takeInside 3 rfl) rfl ?_
  refine vi_if_eq (tgt := 19) (dec_of DX2_takeInside 4 rfl) (by decide) (by decide) (fun c8 => ?_) (fun c8 => absurd c8 (by decide))
  refine v_aload_n (dec_of DX2_takeInside 10 rfl) rfl ?_
  refine vi_const (dec_of DX2_takeInside 11 rfl) ?_
  refine cp_12 fX2_82 (dec_of DX2_takeInside 12 rfl) (by omega) ?_
  refine v_iload_n (dec_of DX2_takeInside 13 rfl) rfl ?_
  refine vi_bi (dec_of DX2_takeInside 14 rfl) (by decide) ?_
  refine vi_icmp_lt (tgt := 47) (dec_of DX2_takeInside 15 rfl) (by decide) (by first | omega | exact bnd_r _ _ | exact hF _ _ | exact hI _ | exact hG _ _ | exact hK _ | (simp [uN] <;> omega)) (by first | omega | exact bnd_r _ _ | exact hF _ _ | exact hI _ | exact hG _ _ | exact hK _ | (simp [uN] <;> omega)) (fun c27 => ?_) (fun c27 => absurd c27 (by omega))
  refine v_aload_n (dec_of DX2_takeInside 27 rfl) rfl ?_
  refine vi_const (dec_of DX2_takeInside 28 rfl) ?_
  refine cp_11 fX2_79 (dec_of DX2_takeInside 29 rfl) (by omega) ?_
  refine v_iload_n (dec_of DX2_takeInside 30 rfl) rfl ?_
  refine vi_lookup (tgt := 147) (dec_of DX2_takeInside 31 rfl) (by decide) (by decide) rfl (by decide) ?_
  refine v_aload_n (dec_of DX2_takeInside 41 rfl) rfl ?_
  refine v_iload_n (dec_of DX2_takeInside 42 rfl) rfl ?_
  refine vi_const (dec_of DX2_takeInside 43 rfl) ?_
  refine v_V2v (hs) lX2_137 (dec_of DX2_takeInside 44 rfl) rfl rfl (by decide) (nle rfl) rfl ?_
  refine v_goto (tgt := 189) (dec_of DX2_takeInside 45 rfl) (by decide) ?_
  exact vi_vret (dec_of DX2_takeInside 64 rfl) rfl ⟨by decide, by decide⟩ (⟨rfl, rfl⟩)
set_option maxRecDepth 100000 in
set_option maxHeartbeats 4000000 in
theorem k_in_colon2 {T : XW} {I N : Nat → Int} {F : Nat → Int → Int} {w2 : XW} {p q : Int} (hq : -1 ≤ q ∧ q < 256) (hc : q = 58) (hs : Sd (rm 2 48 0 0) mX2_takeBar [.ref 20, J p, J 4] (cls (uN (uN I 12 0) 11 0) N F ++ T) w2 none) : Sd (rm 4 98 0 0) mX2_takeInside [.ref 20, J p, J 58, J q] (cls I N F ++ T) (w2) (none) := by
  unfold Sd
  refine sp_of (ls := [some (.ref 20), some (J p), some (J 58), some (J q), none]) (by decide) (nle rfl) rfl rfl ?_
  refine v_iload_n (dec_of DX2_takeInside 0 rfl) rfl ?_
  refine v_S1r (k_markOf (by omega)) lX2_125 (dec_of DX2_takeInside 1 rfl) (by decide) (nle rfl) rfl ?_
  refine v_istore (dec_of DX2_takeInside 2 rfl) (by decide) ?_
  dsimp only [List.set]
  refine v_iload (dec_of DX2_takeInside 3 rfl) rfl ?_
  refine vi_if_eq (tgt := 19) (dec_of DX2_takeInside 4 rfl) (by decide) (by decide) (fun c8 => ?_) (fun c8 => absurd c8 (by decide))
  refine v_aload_n (dec_of DX2_takeInside 10 rfl) rfl ?_
  refine vi_const (dec_of DX2_takeInside 11 rfl) ?_
  refine cp_12 fX2_82 (dec_of DX2_takeInside 12 rfl) (by omega) ?_
  refine v_iload_n (dec_of DX2_takeInside 13 rfl) rfl ?_
  refine vi_bi (dec_of DX2_takeInside 14 rfl) (by decide) ?_
  refine vi_icmp_lt (tgt := 47) (dec_of DX2_takeInside 15 rfl) (by decide) (by first | omega | exact bnd_r _ _ | exact hF _ _ | exact hI _ | exact hG _ _ | exact hK _ | (simp [uN] <;> omega)) (by first | omega | exact bnd_r _ _ | exact hF _ _ | exact hI _ | exact hG _ _ | exact hK _ | (simp [uN] <;> omega)) (fun c27 => ?_) (fun c27 => absurd c27 (by omega))
  refine v_aload_n (dec_of DX2_takeInside 27 rfl) rfl ?_
  refine vi_const (dec_of DX2_takeInside 28 rfl) ?_
  refine cp_11 fX2_79 (dec_of DX2_takeInside 29 rfl) (by omega) ?_
  refine v_iload_n (dec_of DX2_takeInside 30 rfl) rfl ?_
  refine vi_lookup (tgt := 156) (dec_of DX2_takeInside 31 rfl) (by decide) (by decide) rfl (by decide) ?_
  refine v_aload_n (dec_of DX2_takeInside 46 rfl) rfl ?_
  refine v_iload_n (dec_of DX2_takeInside 47 rfl) rfl ?_
  refine v_iload_n (dec_of DX2_takeInside 48 rfl) rfl ?_
  refine vi_bi (dec_of DX2_takeInside 49 rfl) (by decide) ?_
  refine vi_icmp_ne (tgt := 168) (dec_of DX2_takeInside 50 rfl) (by decide) (by first | omega | exact bnd_r _ _ | exact hF _ _ | exact hI _ | exact hG _ _ | exact hK _ | (simp [uN] <;> omega)) (by first | omega | exact bnd_r _ _ | exact hF _ _ | exact hI _ | exact hG _ _ | exact hK _ | (simp [uN] <;> omega)) (fun c161 => absurd c161 (by omega)) (fun c161 => ?_)
  refine vi_const (dec_of DX2_takeInside 51 rfl) ?_
  refine v_goto (tgt := 169) (dec_of DX2_takeInside 52 rfl) (by decide) ?_
  refine v_V2v (hs) lX2_137 (dec_of DX2_takeInside 54 rfl) rfl rfl (by decide) (nle rfl) rfl ?_
  refine v_goto (tgt := 189) (dec_of DX2_takeInside 55 rfl) (by decide) ?_
  exact vi_vret (dec_of DX2_takeInside 64 rfl) rfl ⟨by decide, by decide⟩ (⟨rfl, rfl⟩)
set_option maxRecDepth 100000 in
set_option maxHeartbeats 4000000 in
theorem k_in_colon1 {T : XW} {I N : Nat → Int} {F : Nat → Int → Int} {w2 : XW} {p q : Int} (hq : -1 ≤ q ∧ q < 256) (hc : ¬ q = 58) (hs : Sd (rm 2 48 0 0) mX2_takeBar [.ref 20, J p, J 3] (cls (uN (uN I 12 0) 11 0) N F ++ T) w2 none) : Sd (rm 4 98 0 0) mX2_takeInside [.ref 20, J p, J 58, J q] (cls I N F ++ T) (w2) (none) := by
  unfold Sd
  refine sp_of (ls := [some (.ref 20), some (J p), some (J 58), some (J q), none]) (by decide) (nle rfl) rfl rfl ?_
  refine v_iload_n (dec_of DX2_takeInside 0 rfl) rfl ?_
  refine v_S1r (k_markOf (by omega)) lX2_125 (dec_of DX2_takeInside 1 rfl) (by decide) (nle rfl) rfl ?_
  refine v_istore (dec_of DX2_takeInside 2 rfl) (by decide) ?_
  dsimp only [List.set]
  refine v_iload (dec_of DX2_takeInside 3 rfl) rfl ?_
  refine vi_if_eq (tgt := 19) (dec_of DX2_takeInside 4 rfl) (by decide) (by decide) (fun c8 => ?_) (fun c8 => absurd c8 (by decide))
  refine v_aload_n (dec_of DX2_takeInside 10 rfl) rfl ?_
  refine vi_const (dec_of DX2_takeInside 11 rfl) ?_
  refine cp_12 fX2_82 (dec_of DX2_takeInside 12 rfl) (by omega) ?_
  refine v_iload_n (dec_of DX2_takeInside 13 rfl) rfl ?_
  refine vi_bi (dec_of DX2_takeInside 14 rfl) (by decide) ?_
  refine vi_icmp_lt (tgt := 47) (dec_of DX2_takeInside 15 rfl) (by decide) (by first | omega | exact bnd_r _ _ | exact hF _ _ | exact hI _ | exact hG _ _ | exact hK _ | (simp [uN] <;> omega)) (by first | omega | exact bnd_r _ _ | exact hF _ _ | exact hI _ | exact hG _ _ | exact hK _ | (simp [uN] <;> omega)) (fun c27 => ?_) (fun c27 => absurd c27 (by omega))
  refine v_aload_n (dec_of DX2_takeInside 27 rfl) rfl ?_
  refine vi_const (dec_of DX2_takeInside 28 rfl) ?_
  refine cp_11 fX2_79 (dec_of DX2_takeInside 29 rfl) (by omega) ?_
  refine v_iload_n (dec_of DX2_takeInside 30 rfl) rfl ?_
  refine vi_lookup (tgt := 156) (dec_of DX2_takeInside 31 rfl) (by decide) (by decide) rfl (by decide) ?_
  refine v_aload_n (dec_of DX2_takeInside 46 rfl) rfl ?_
  refine v_iload_n (dec_of DX2_takeInside 47 rfl) rfl ?_
  refine v_iload_n (dec_of DX2_takeInside 48 rfl) rfl ?_
  refine vi_bi (dec_of DX2_takeInside 49 rfl) (by decide) ?_
  refine vi_icmp_ne (tgt := 168) (dec_of DX2_takeInside 50 rfl) (by decide) (by first | omega | exact bnd_r _ _ | exact hF _ _ | exact hI _ | exact hG _ _ | exact hK _ | (simp [uN] <;> omega)) (by first | omega | exact bnd_r _ _ | exact hF _ _ | exact hI _ | exact hG _ _ | exact hK _ | (simp [uN] <;> omega)) (fun c161 => ?_) (fun c161 => absurd c161 (by omega))
  refine vi_const (dec_of DX2_takeInside 53 rfl) ?_
  refine v_V2v (hs) lX2_137 (dec_of DX2_takeInside 54 rfl) rfl rfl (by decide) (nle rfl) rfl ?_
  refine v_goto (tgt := 189) (dec_of DX2_takeInside 55 rfl) (by decide) ?_
  exact vi_vret (dec_of DX2_takeInside 64 rfl) rfl ⟨by decide, by decide⟩ (⟨rfl, rfl⟩)
set_option maxRecDepth 100000 in
set_option maxHeartbeats 4000000 in
theorem k_in_z {T : XW} {I N : Nat → Int} {F : Nat → Int → Int} {w2 : XW} {p q : Int} (hq : -1 ≤ q ∧ q < 256) (hs : Sd (rm 2 48 0 0) mX2_takeLineEnd [.ref 20, J p] (cls (uN (uN I 12 0) 11 0) N F ++ T) w2 none) : Sd (rm 4 98 0 0) mX2_takeInside [.ref 20, J p, J 122, J q] (cls I N F ++ T) (w2) (none) := by
  unfold Sd
  refine sp_of (ls := [some (.ref 20), some (J p), some (J 122), some (J q), none]) (by decide) (nle rfl) rfl rfl ?_
  refine v_iload_n (dec_of DX2_takeInside 0 rfl) rfl ?_
  refine v_S1r (k_markOf (by omega)) lX2_125 (dec_of DX2_takeInside 1 rfl) (by decide) (nle rfl) rfl ?_
  refine v_istore (dec_of DX2_takeInside 2 rfl) (by decide) ?_
  dsimp only [List.set]
  refine v_iload (dec_of DX2_takeInside 3 rfl) rfl ?_
  refine vi_if_eq (tgt := 19) (dec_of DX2_takeInside 4 rfl) (by decide) (by decide) (fun c8 => ?_) (fun c8 => absurd c8 (by decide))
  refine v_aload_n (dec_of DX2_takeInside 10 rfl) rfl ?_
  refine vi_const (dec_of DX2_takeInside 11 rfl) ?_
  refine cp_12 fX2_82 (dec_of DX2_takeInside 12 rfl) (by omega) ?_
  refine v_iload_n (dec_of DX2_takeInside 13 rfl) rfl ?_
  refine vi_bi (dec_of DX2_takeInside 14 rfl) (by decide) ?_
  refine vi_icmp_lt (tgt := 47) (dec_of DX2_takeInside 15 rfl) (by decide) (by first | omega | exact bnd_r _ _ | exact hF _ _ | exact hI _ | exact hG _ _ | exact hK _ | (simp [uN] <;> omega)) (by first | omega | exact bnd_r _ _ | exact hF _ _ | exact hI _ | exact hG _ _ | exact hK _ | (simp [uN] <;> omega)) (fun c27 => absurd c27 (by omega)) (fun c27 => ?_)
  refine v_iload_n (dec_of DX2_takeInside 16 rfl) rfl ?_
  refine vi_bi (dec_of DX2_takeInside 17 rfl) (by decide) ?_
  refine vi_icmp_gt (tgt := 47) (dec_of DX2_takeInside 18 rfl) (by decide) (by first | omega | exact bnd_r _ _ | exact hF _ _ | exact hI _ | exact hG _ _ | exact hK _ | (simp [uN] <;> omega)) (by first | omega | exact bnd_r _ _ | exact hF _ _ | exact hI _ | exact hG _ _ | exact hK _ | (simp [uN] <;> omega)) (fun c33 => ?_) (fun c33 => absurd c33 (by omega))
  refine v_aload_n (dec_of DX2_takeInside 27 rfl) rfl ?_
  refine vi_const (dec_of DX2_takeInside 28 rfl) ?_
  refine cp_11 fX2_79 (dec_of DX2_takeInside 29 rfl) (by omega) ?_
  refine v_iload_n (dec_of DX2_takeInside 30 rfl) rfl ?_
  refine vi_lookup (tgt := 175) (dec_of DX2_takeInside 31 rfl) (by decide) (by decide) rfl (by decide) ?_
  refine v_aload_n (dec_of DX2_takeInside 56 rfl) rfl ?_
  refine v_iload_n (dec_of DX2_takeInside 57 rfl) rfl ?_
  refine v_V1v (hs) lX2_140 (dec_of DX2_takeInside 58 rfl) rfl rfl (by decide) (nle rfl) rfl ?_
  refine v_goto (tgt := 189) (dec_of DX2_takeInside 59 rfl) (by decide) ?_
  exact vi_vret (dec_of DX2_takeInside 64 rfl) rfl ⟨by decide, by decide⟩ (⟨rfl, rfl⟩)
set_option maxRecDepth 100000 in
set_option maxHeartbeats 4000000 in
theorem k_in_strange {T : XW} {I N : Nat → Int} {F : Nat → Int → Int} {p b q : Int} (hb : 0 ≤ b ∧ b < 256) (hq : -1 ≤ q ∧ q < 256) (hm0 : mkOf b = 0) (hc : ¬ (97 ≤ b ∧ b ≤ 109)) (h1 : ¬ b = 10) (h2 : ¬ b = 32) (h3 : ¬ b = 41) (h4 : ¬ b = 44) (h5 : ¬ b = 47) (h6 : ¬ b = 58) (h7 : ¬ b = 59) (h8 : ¬ b = 122) : Sd (rm 4 98 0 0) mX2_takeInside [.ref 20, J p, J b, J q] (cls I N F ++ T) (cls (uN (uN (uN (uN I 12 0) 11 0) 3 1) 4 p) N F ++ T) (none) := by
  unfold Sd
  refine sp_of (ls := [some (.ref 20), some (J p), some (J b), some (J q), none]) (by decide) (nle rfl) rfl rfl ?_
  refine v_iload_n (dec_of DX2_takeInside 0 rfl) rfl ?_
  refine v_S1r (k_markOf (by omega)) lX2_125 (dec_of DX2_takeInside 1 rfl) (by decide) (nle rfl) rfl ?_
  refine v_istore (dec_of DX2_takeInside 2 rfl) (by decide) ?_
  dsimp only [List.set]
  refine v_iload (dec_of DX2_takeInside 3 rfl) rfl ?_
  refine vi_if_eq (tgt := 19) (dec_of DX2_takeInside 4 rfl) (by decide) (by first | omega | exact bnd_r _ _ | exact hF _ _ | exact hI _ | exact hG _ _ | exact hK _ | (simp [uN] <;> omega)) (fun c8 => ?_) (fun c8 => absurd c8 (by omega))
  refine v_aload_n (dec_of DX2_takeInside 10 rfl) rfl ?_
  refine vi_const (dec_of DX2_takeInside 11 rfl) ?_
  refine cp_12 fX2_82 (dec_of DX2_takeInside 12 rfl) (by omega) ?_
  refine v_iload_n (dec_of DX2_takeInside 13 rfl) rfl ?_
  refine vi_bi (dec_of DX2_takeInside 14 rfl) (by decide) ?_
  refine vi_icmp_lt (tgt := 47) (dec_of DX2_takeInside 15 rfl) (by decide) (by first | omega | exact bnd_r _ _ | exact hF _ _ | exact hI _ | exact hG _ _ | exact hK _ | (simp [uN] <;> omega)) (by first | omega | exact bnd_r _ _ | exact hF _ _ | exact hI _ | exact hG _ _ | exact hK _ | (simp [uN] <;> omega)) (fun c27 => ?_) (fun c27 => ?_)
  · refine v_aload_n (dec_of DX2_takeInside 27 rfl) rfl ?_
    refine vi_const (dec_of DX2_takeInside 28 rfl) ?_
    refine cp_11 fX2_79 (dec_of DX2_takeInside 29 rfl) (by omega) ?_
    refine v_iload_n (dec_of DX2_takeInside 30 rfl) rfl ?_
    refine vi_lookup (off := 130) (tgt := 183) (dec_of DX2_takeInside 31 rfl) (by omega) (by decide) (by simp [Op.lookupswitch.offset, List.find?, h1, h2, h3, h4, h5, h6, h7, h8, Ne.symm h1, Ne.symm h2, Ne.symm h3, Ne.symm h4, Ne.symm h5, Ne.symm h6, Ne.symm h7, Ne.symm h8]) (by decide) ?_
    refine v_aload_n (dec_of DX2_takeInside 60 rfl) rfl ?_
    refine vi_const (dec_of DX2_takeInside 61 rfl) ?_
    refine v_iload_n (dec_of DX2_takeInside 62 rfl) rfl ?_
    refine v_V2v (k_refuse) lX2_58 (dec_of DX2_takeInside 63 rfl) rfl rfl (by decide) (nle rfl) rfl ?_
    exact vi_vret (dec_of DX2_takeInside 64 rfl) rfl ⟨by decide, by decide⟩ (⟨rfl, rfl⟩)
  · refine v_iload_n (dec_of DX2_takeInside 16 rfl) rfl ?_
    refine vi_bi (dec_of DX2_takeInside 17 rfl) (by decide) ?_
    refine vi_icmp_gt (tgt := 47) (dec_of DX2_takeInside 18 rfl) (by decide) (by first | omega | exact bnd_r _ _ | exact hF _ _ | exact hI _ | exact hG _ _ | exact hK _ | (simp [uN] <;> omega)) (by first | omega | exact bnd_r _ _ | exact hF _ _ | exact hI _ | exact hG _ _ | exact hK _ | (simp [uN] <;> omega)) (fun c33 => ?_) (fun c33 => ?_)
    · refine v_aload_n (dec_of DX2_takeInside 27 rfl) rfl ?_
      refine vi_const (dec_of DX2_takeInside 28 rfl) ?_
      refine cp_11 fX2_79 (dec_of DX2_takeInside 29 rfl) (by omega) ?_
      refine v_iload_n (dec_of DX2_takeInside 30 rfl) rfl ?_
      refine vi_lookup (off := 130) (tgt := 183) (dec_of DX2_takeInside 31 rfl) (by omega) (by decide) (by simp [Op.lookupswitch.offset, List.find?, h1, h2, h3, h4, h5, h6, h7, h8, Ne.symm h1, Ne.symm h2, Ne.symm h3, Ne.symm h4, Ne.symm h5, Ne.symm h6, Ne.symm h7, Ne.symm h8]) (by decide) ?_
      refine v_aload_n (dec_of DX2_takeInside 60 rfl) rfl ?_
      refine vi_const (dec_of DX2_takeInside 61 rfl) ?_
      refine v_iload_n (dec_of DX2_takeInside 62 rfl) rfl ?_
      refine v_V2v (k_refuse) lX2_58 (dec_of DX2_takeInside 63 rfl) rfl rfl (by decide) (nle rfl) rfl ?_
      exact vi_vret (dec_of DX2_takeInside 64 rfl) rfl ⟨by decide, by decide⟩ (⟨rfl, rfl⟩)
    · exact absurd (show 97 ≤ b ∧ b ≤ 109 by omega) hc
def stI (I : Nat → Int) : Nat → Int := uN (uN (uN (uN (uN (uN (uN (uN (uN (uN (uN (uN I 1 0) 2 0) 3 0) 4 (-100)) 5 0) 6 9) 8 0) 9 0) 10 0) 11 0) 12 0) 7 0
def stN (N : Nat → Int) : Nat → Int := uN (uN (uN (uN (uN (uN (uN (uN N 2 0) 3 0) 4 0) 5 0) 6 0) 7 0) 8 0) 9 6
def stF (F : Nat → Int → Int) : Nat → Int → Int := uN F 9 (uI (uI (uI (uI (uI (uI (F 9) 0 0) 1 0) 2 0) 3 0) 4 0) 5 0)
set_option maxRecDepth 100000 in
set_option maxHeartbeats 4000000 in
theorem k_start {T : XW} {I N : Nat → Int} {F : Nat → Int → Int} (hF : FR F) (hI : IR I) (hN : NR N)  : Sd (rm 2 41 0 0) mX2_start [.ref 20] (cls I N F ++ T) (cls (stI I) (stN N) (stF F) ++ T) (none) := by
  unfold Sd
  unfold NR at hN
  refine sp_of (ls := [some (.ref 20), none]) (by decide) (nle rfl) rfl rfl ?_
  refine v_aload_n (dec_of DX2_start 0 rfl) rfl ?_
  refine v_get fX2_9 (dec_of DX2_start 1 rfl) rfl rfl ?_
  refine v_V0v (k_clear hF hI (by unfold NR; exact hN)) lX2_67 (dec_of DX2_start 2 rfl) rfl rfl (by decide) (nle rfl) rfl ?_
  refine v_aload_n (dec_of DX2_start 3 rfl) rfl ?_
  refine vi_const (dec_of DX2_start 4 rfl) ?_
  refine cp_3 fX2_37 (dec_of DX2_start 5 rfl) ?_
  refine v_aload_n (dec_of DX2_start 6 rfl) rfl ?_
  refine vi_bi (dec_of DX2_start 7 rfl) (by decide) ?_
  refine cp_4 fX2_26 (dec_of DX2_start 8 rfl) ?_
  refine v_aload_n (dec_of DX2_start 9 rfl) rfl ?_
  refine vi_const (dec_of DX2_start 10 rfl) ?_
  refine cp_5 fX2_40 (dec_of DX2_start 11 rfl) ?_
  refine v_aload_n (dec_of DX2_start 12 rfl) rfl ?_
  refine vi_bi (dec_of DX2_start 13 rfl) (by decide) ?_
  refine cp_6 fX2_70 (dec_of DX2_start 14 rfl) ?_
  refine v_aload_n (dec_of DX2_start 15 rfl) rfl ?_
  refine vi_const (dec_of DX2_start 16 rfl) ?_
  refine cp_8 fX2_47 (dec_of DX2_start 17 rfl) (by omega) ?_
  refine v_aload_n (dec_of DX2_start 18 rfl) rfl ?_
  refine vi_const (dec_of DX2_start 19 rfl) ?_
  refine cp_9 fX2_73 (dec_of DX2_start 20 rfl) (by omega) ?_
  refine v_aload_n (dec_of DX2_start 21 rfl) rfl ?_
  refine vi_const (dec_of DX2_start 22 rfl) ?_
  refine cp_10 fX2_76 (dec_of DX2_start 23 rfl) (by omega) ?_
  refine v_aload_n (dec_of DX2_start 24 rfl) rfl ?_
  refine vi_const (dec_of DX2_start 25 rfl) ?_
  refine cp_11 fX2_79 (dec_of DX2_start 26 rfl) (by omega) ?_
  refine v_aload_n (dec_of DX2_start 27 rfl) rfl ?_
  refine vi_const (dec_of DX2_start 28 rfl) ?_
  refine cp_12 fX2_82 (dec_of DX2_start 29 rfl) (by omega) ?_
  refine v_aload_n (dec_of DX2_start 30 rfl) rfl ?_
  refine vi_const (dec_of DX2_start 31 rfl) ?_
  refine cp_7 fX2_85 (dec_of DX2_start 32 rfl) ?_
  refine v_aload_n (dec_of DX2_start 33 rfl) rfl ?_
  refine v_get fX2_22 (dec_of DX2_start 34 rfl) rfl rfl ?_
  refine vi_const (dec_of DX2_start 35 rfl) ?_
  refine v_V1v (c9_keep (by first | omega | exact bnd_r _ _ | exact hF _ _ | exact hI _ | exact hG _ _ | exact hK _ | (simp [uN] <;> omega)) (by first | omega | exact bnd_r _ _ | exact hF _ _ | exact hI _ | exact hG _ _ | exact hK _ | (simp [uN] <;> omega))) lX2_88 (dec_of DX2_start 36 rfl) rfl rfl (by decide) (nle rfl) rfl ?_
  refine vi_const (dec_of DX2_start 37 rfl) ?_
  refine v_istore_n (dec_of DX2_start 38 rfl) (by decide) ?_
  dsimp only [List.set]
  refine v_iload_n (dec_of DX2_start 39 rfl) rfl ?_
  refine vi_bi (dec_of DX2_start 40 rfl) (by decide) ?_
  refine vi_icmp_ge (tgt := 90) (dec_of DX2_start 41 rfl) (by decide) (by first | omega | exact bnd_r _ _ | exact hF _ _ | exact hI _ | exact hG _ _ | exact hK _ | (simp [uN] <;> omega)) (by first | omega | exact bnd_r _ _ | exact hF _ _ | exact hI _ | exact hG _ _ | exact hK _ | (simp [uN] <;> omega)) (fun c72 => absurd c72 (by omega)) (fun c72 => ?_)
  refine v_aload_n (dec_of DX2_start 42 rfl) rfl ?_
  refine v_get fX2_22 (dec_of DX2_start 43 rfl) rfl rfl ?_
  refine vi_const (dec_of DX2_start 44 rfl) ?_
  refine v_V1r (c9_add (by first | omega | exact bnd_r _ _ | exact hF _ _ | exact hI _ | exact hG _ _ | exact hK _ | (simp [uN] <;> omega))) lX2_92 (dec_of DX2_start 45 rfl) rfl rfl (by decide) (nle rfl) rfl ?_
  refine v_pop (dec_of DX2_start 46 rfl) rfl ?_
  refine vi_inc (dec_of DX2_start 47 rfl) rfl (by decide) ?_
  dsimp only [List.set]
  refine v_goto (tgt := 69) (dec_of DX2_start 48 rfl) (by decide) ?_
  refine v_iload_n (dec_of DX2_start 39 rfl) rfl ?_
  refine vi_bi (dec_of DX2_start 40 rfl) (by decide) ?_
  refine vi_icmp_ge (tgt := 90) (dec_of DX2_start 41 rfl) (by decide) (by first | omega | exact bnd_r _ _ | exact hF _ _ | exact hI _ | exact hG _ _ | exact hK _ | (simp [uN] <;> omega)) (by first | omega | exact bnd_r _ _ | exact hF _ _ | exact hI _ | exact hG _ _ | exact hK _ | (simp [uN] <;> omega)) (fun c72 => absurd c72 (by omega)) (fun c72 => ?_)
  refine v_aload_n (dec_of DX2_start 42 rfl) rfl ?_
  refine v_get fX2_22 (dec_of DX2_start 43 rfl) rfl rfl ?_
  refine vi_const (dec_of DX2_start 44 rfl) ?_
  refine v_V1r (c9_add (by first | omega | exact bnd_r _ _ | exact hF _ _ | exact hI _ | exact hG _ _ | exact hK _ | (simp [uN] <;> omega))) lX2_92 (dec_of DX2_start 45 rfl) rfl rfl (by decide) (nle rfl) rfl ?_
  refine v_pop (dec_of DX2_start 46 rfl) rfl ?_
  refine vi_inc (dec_of DX2_start 47 rfl) rfl (by decide) ?_
  dsimp only [List.set]
  refine v_goto (tgt := 69) (dec_of DX2_start 48 rfl) (by decide) ?_
  refine v_iload_n (dec_of DX2_start 39 rfl) rfl ?_
  refine vi_bi (dec_of DX2_start 40 rfl) (by decide) ?_
  refine vi_icmp_ge (tgt := 90) (dec_of DX2_start 41 rfl) (by decide) (by first | omega | exact bnd_r _ _ | exact hF _ _ | exact hI _ | exact hG _ _ | exact hK _ | (simp [uN] <;> omega)) (by first | omega | exact bnd_r _ _ | exact hF _ _ | exact hI _ | exact hG _ _ | exact hK _ | (simp [uN] <;> omega)) (fun c72 => absurd c72 (by omega)) (fun c72 => ?_)
  refine v_aload_n (dec_of DX2_start 42 rfl) rfl ?_
  refine v_get fX2_22 (dec_of DX2_start 43 rfl) rfl rfl ?_
  refine vi_const (dec_of DX2_start 44 rfl) ?_
  refine v_V1r (c9_add (by first | omega | exact bnd_r _ _ | exact hF _ _ | exact hI _ | exact hG _ _ | exact hK _ | (simp [uN] <;> omega))) lX2_92 (dec_of DX2_start 45 rfl) rfl rfl (by decide) (nle rfl) rfl ?_
  refine v_pop (dec_of DX2_start 46 rfl) rfl ?_
  refine vi_inc (dec_of DX2_start 47 rfl) rfl (by decide) ?_
  dsimp only [List.set]
  refine v_goto (tgt := 69) (dec_of DX2_start 48 rfl) (by decide) ?_
  refine v_iload_n (dec_of DX2_start 39 rfl) rfl ?_
  refine vi_bi (dec_of DX2_start 40 rfl) (by decide) ?_
  refine vi_icmp_ge (tgt := 90) (dec_of DX2_start 41 rfl) (by decide) (by first | omega | exact bnd_r _ _ | exact hF _ _ | exact hI _ | exact hG _ _ | exact hK _ | (simp [uN] <;> omega)) (by first | omega | exact bnd_r _ _ | exact hF _ _ | exact hI _ | exact hG _ _ | exact hK _ | (simp [uN] <;> omega)) (fun c72 => absurd c72 (by omega)) (fun c72 => ?_)
  refine v_aload_n (dec_of DX2_start 42 rfl) rfl ?_
  refine v_get fX2_22 (dec_of DX2_start 43 rfl) rfl rfl ?_
  refine vi_const (dec_of DX2_start 44 rfl) ?_
  refine v_V1r (c9_add (by first | omega | exact bnd_r _ _ | exact hF _ _ | exact hI _ | exact hG _ _ | exact hK _ | (simp [uN] <;> omega))) lX2_92 (dec_of DX2_start 45 rfl) rfl rfl (by decide) (nle rfl) rfl ?_
  refine v_pop (dec_of DX2_start 46 rfl) rfl ?_
  refine vi_inc (dec_of DX2_start 47 rfl) rfl (by decide) ?_
  dsimp only [List.set]
  refine v_goto (tgt := 69) (dec_of DX2_start 48 rfl) (by decide) ?_
  refine v_iload_n (dec_of DX2_start 39 rfl) rfl ?_
  refine vi_bi (dec_of DX2_start 40 rfl) (by decide) ?_
  refine vi_icmp_ge (tgt := 90) (dec_of DX2_start 41 rfl) (by decide) (by first | omega | exact bnd_r _ _ | exact hF _ _ | exact hI _ | exact hG _ _ | exact hK _ | (simp [uN] <;> omega)) (by first | omega | exact bnd_r _ _ | exact hF _ _ | exact hI _ | exact hG _ _ | exact hK _ | (simp [uN] <;> omega)) (fun c72 => absurd c72 (by omega)) (fun c72 => ?_)
  refine v_aload_n (dec_of DX2_start 42 rfl) rfl ?_
  refine v_get fX2_22 (dec_of DX2_start 43 rfl) rfl rfl ?_
  refine vi_const (dec_of DX2_start 44 rfl) ?_
  refine v_V1r (c9_add (by first | omega | exact bnd_r _ _ | exact hF _ _ | exact hI _ | exact hG _ _ | exact hK _ | (simp [uN] <;> omega))) lX2_92 (dec_of DX2_start 45 rfl) rfl rfl (by decide) (nle rfl) rfl ?_
  refine v_pop (dec_of DX2_start 46 rfl) rfl ?_
  refine vi_inc (dec_of DX2_start 47 rfl) rfl (by decide) ?_
  dsimp only [List.set]
  refine v_goto (tgt := 69) (dec_of DX2_start 48 rfl) (by decide) ?_
  refine v_iload_n (dec_of DX2_start 39 rfl) rfl ?_
  refine vi_bi (dec_of DX2_start 40 rfl) (by decide) ?_
  refine vi_icmp_ge (tgt := 90) (dec_of DX2_start 41 rfl) (by decide) (by first | omega | exact bnd_r _ _ | exact hF _ _ | exact hI _ | exact hG _ _ | exact hK _ | (simp [uN] <;> omega)) (by first | omega | exact bnd_r _ _ | exact hF _ _ | exact hI _ | exact hG _ _ | exact hK _ | (simp [uN] <;> omega)) (fun c72 => absurd c72 (by omega)) (fun c72 => ?_)
  refine v_aload_n (dec_of DX2_start 42 rfl) rfl ?_
  refine v_get fX2_22 (dec_of DX2_start 43 rfl) rfl rfl ?_
  refine vi_const (dec_of DX2_start 44 rfl) ?_
  refine v_V1r (c9_add (by first | omega | exact bnd_r _ _ | exact hF _ _ | exact hI _ | exact hG _ _ | exact hK _ | (simp [uN] <;> omega))) lX2_92 (dec_of DX2_start 45 rfl) rfl rfl (by decide) (nle rfl) rfl ?_
  refine v_pop (dec_of DX2_start 46 rfl) rfl ?_
  refine vi_inc (dec_of DX2_start 47 rfl) rfl (by decide) ?_
  dsimp only [List.set]
  refine v_goto (tgt := 69) (dec_of DX2_start 48 rfl) (by decide) ?_
  refine v_iload_n (dec_of DX2_start 39 rfl) rfl ?_
  refine vi_bi (dec_of DX2_start 40 rfl) (by decide) ?_
  refine vi_icmp_ge (tgt := 90) (dec_of DX2_start 41 rfl) (by decide) (by first | omega | exact bnd_r _ _ | exact hF _ _ | exact hI _ | exact hG _ _ | exact hK _ | (simp [uN] <;> omega)) (by first | omega | exact bnd_r _ _ | exact hF _ _ | exact hI _ | exact hG _ _ | exact hK _ | (simp [uN] <;> omega)) (fun c72 => ?_) (fun c72 => absurd c72 (by omega))
  exact vi_vret (dec_of DX2_start 49 rfl) rfl ⟨by decide, by decide⟩ (⟨rfl, rfl⟩)
end
section
/-! Tones, Fitting, Psalm (printed by wip/tools/gen_c5.py) -/
def tabC : List Int := [-2, -1, 0, 0, 0, 2, 1, 0, -1, -1, 0, 2, -1, -2, 1, 0, 0, -1, -1, -3, -2, 0, 0, 0, 0, 1, 0, 0, 1, 0, 0, 1, -1, 0, 1, 0, 0, -2, -2, -2, -4, -1, 0, 0, 0, 2, 1, 0, -1, -1, 0, 1, 0, 0, 1, 0, 0, -2, -2, -1, -1, -2, 2, -1, 0, 1, 0, 0, 1, 0, 0, 0, 0, 0, 2, -1, 0, 1, -1, -2, -4, -2, 0, 0, 0, 1, 0, 0, 1, 0, 0, 0, 0, 0, 2, 1, 1, -1, -1, -2, -2, -1, 0, 0, 0, 2, 1, 0, -1, -1, 0, 2, -2, -1, 1, 0, 0, -1, -1, -2, -1, -2, 0, 0, 0, 2, 2, 1, -1, -1, 0, 0, 0, 0, 2, 1, 0, -1, -1, -2, -3, -2, 0, 0, 0, 1, 0, 0, 1, 0, 0, 2, 0, -1, 1, 0, 0, 1, 1, -3]
def cel : Int → Int := tI tabC
theorem cel_tab {a : Int} (h : 0 ≤ a ∧ a < 160) : tF tCells a.toNat = iI (cel a) := by
  have key : ∀ n : Nat, n < 160 → tF tCells n = iI (tabC.getD n 0) := by decide +kernel
  exact key a.toNat (by omega)
theorem cel_r (a : Int) : -4 ≤ cel a ∧ cel a ≤ 2 := by
  have key : ∀ n : Nat, n < 160 → -4 ≤ tabC.getD n 0 ∧ tabC.getD n 0 ≤ 2 := by decide +kernel
  by_cases h : a.toNat < 160
  · exact key _ h
  · have hl : tabC.length = 160 := by decide +kernel
    have e : tabC[a.toNat]? = none := List.getElem?_eq_none (by omega)
    have e2 : cel a = 0 := by
      show tabC.getD a.toNat 0 = 0
      rw [List.getD_eq_getElem?_getD, e, Option.getD_none]
    rw [e2]
    decide
theorem uN_uu {α : Type} {f : Nat → α} {k : Nat} {a b : α} : uN (uN f k a) k b = uN f k b := by
  funext j
  unfold uN
  by_cases h : j = k <;> simp [h]
/-- a cell of a tone's close -/
def cc (t h i : Int) : Int := cel ((t - 1) * 20 + (2 + h * 9 + i))
theorem cc_r (t h i : Int) : -4 ≤ cc t h i ∧ cc t h i ≤ 2 := cel_r _
/-- the last place below n with 1 -/
def accB (f : Int → Int) : Nat → Int
  | 0 => -100
  | n + 1 => if f n = 1 then n else accB f n
theorem accB_r (f : Int → Int) (n : Nat) : accB f n = -100 ∨ (0 ≤ accB f n ∧ accB f n < n) := by
  induction n with
  | zero => exact Or.inl rfl
  | succ n ih =>
    unfold accB
    by_cases h : f n = 1
    · rw [if_pos h]; omega
    · rw [if_neg h]; omega
def lastP (f : Int → Int) (n : Int) : Int := if accB f n.toNat = -100 then (if n - 2 < 0 then 0 else n - 2) else accB f n.toNat
def firstP (f : Int → Int) (l : Int) : Int := if accB f l.toNat = -100 then (if 2 ≤ l then l - 2 else -100) else accB f l.toNat
set_option maxRecDepth 100000 in
set_option maxHeartbeats 4000000 in
theorem k_max {w : XW} {a b : Int} (ha : -2147483648 ≤ a ∧ a < 2147483648) (hb : -2147483648 ≤ b ∧ b < 2147483648) : Sd (rm 0 0 0 0) mJ9_max_7cf53 [J a, J b] (w) (w) (some (J (if a < b then b else a))) := by
  unfold Sd
  refine sp_ofJ (ls := [some (J a), some (J b)]) (by decide +kernel) (nle rfl) rfl rfl ?_
  refine v_iload_n (dec_of DJ9_max_7cf53 0 rfl) rfl ?_
  refine v_iload_n (dec_of DJ9_max_7cf53 1 rfl) rfl ?_
  refine vi_icmp_lt (tgt := 9) (dec_of DJ9_max_7cf53 2 rfl) (by decide) (by first | omega | exact bnd_r _ _ | exact hF _ _ | exact hI _ | exact hG _ _ | exact hK _ | (simp [uN] <;> omega)) (by first | omega | exact bnd_r _ _ | exact hF _ _ | exact hI _ | exact hG _ _ | exact hK _ | (simp [uN] <;> omega)) (fun c2 => ?_) (fun c2 => ?_)
  · rw [if_pos (by omega)]
    refine v_iload_n (dec_of DJ9_max_7cf53 5 rfl) rfl ?_
    exact vi_ret (dec_of DJ9_max_7cf53 6 rfl) rfl ⟨by decide, by decide⟩ (⟨rfl, rfl⟩)
  · rw [if_neg (by omega)]
    refine v_iload_n (dec_of DJ9_max_7cf53 3 rfl) rfl ?_
    refine v_goto (tgt := 10) (dec_of DJ9_max_7cf53 4 rfl) (by decide) ?_
    exact vi_ret (dec_of DJ9_max_7cf53 6 rfl) rfl ⟨by decide, by decide⟩ (⟨rfl, rfl⟩)
set_option maxRecDepth 100000 in
set_option maxHeartbeats 4000000 in
theorem k_min {w : XW} {a b : Int} (ha : -2147483648 ≤ a ∧ a < 2147483648) (hb : -2147483648 ≤ b ∧ b < 2147483648) : Sd (rm 0 0 0 0) mJ9_min_7cf53 [J a, J b] (w) (w) (some (J (if b < a then b else a))) := by
  unfold Sd
  refine sp_ofJ (ls := [some (J a), some (J b)]) (by decide +kernel) (nle rfl) rfl rfl ?_
  refine v_iload_n (dec_of DJ9_min_7cf53 0 rfl) rfl ?_
  refine v_iload_n (dec_of DJ9_min_7cf53 1 rfl) rfl ?_
  refine vi_icmp_gt (tgt := 9) (dec_of DJ9_min_7cf53 2 rfl) (by decide) (by first | omega | exact bnd_r _ _ | exact hF _ _ | exact hI _ | exact hG _ _ | exact hK _ | (simp [uN] <;> omega)) (by first | omega | exact bnd_r _ _ | exact hF _ _ | exact hI _ | exact hG _ _ | exact hK _ | (simp [uN] <;> omega)) (fun c2 => ?_) (fun c2 => ?_)
  · rw [if_pos (by omega)]
    refine v_iload_n (dec_of DJ9_min_7cf53 5 rfl) rfl ?_
    exact vi_ret (dec_of DJ9_min_7cf53 6 rfl) rfl ⟨by decide, by decide⟩ (⟨rfl, rfl⟩)
  · rw [if_neg (by omega)]
    refine v_iload_n (dec_of DJ9_min_7cf53 3 rfl) rfl ?_
    refine v_goto (tgt := 10) (dec_of DJ9_min_7cf53 4 rfl) (by decide) ?_
    exact vi_ret (dec_of DJ9_min_7cf53 6 rfl) rfl ⟨by decide, by decide⟩ (⟨rfl, rfl⟩)
set_option maxRecDepth 100000 in
set_option maxHeartbeats 4000000 in
theorem k_cell {w : XW} {t i : Int} (ht : 0 ≤ t ∧ t ≤ 100) (hi : 0 ≤ (t - 1) * 20 + i ∧ (t - 1) * 20 + i < 160) : Sd (rm 0 0 0 0) mX6_cell [J t, J i] (w) (w) (some (J (cel ((t - 1) * 20 + i)))) := by
  unfold Sd
  refine sp_of (ls := [some (J t), some (J i), none]) (by decide) (nle rfl) rfl rfl ?_
  refine v_iload_n (dec_of DX6_cell 0 rfl) rfl ?_
  refine vi_const (dec_of DX6_cell 1 rfl) ?_
  refine vi_sub (dec_of DX6_cell 2 rfl) ?_
  refine vi_bi (dec_of DX6_cell 3 rfl) (by decide) ?_
  refine vi_mul (dec_of DX6_cell 4 rfl) ?_
  refine v_iload_n (dec_of DX6_cell 5 rfl) rfl ?_
  refine vi_add (dec_of DX6_cell 6 rfl) ?_
  refine v_istore_n (dec_of DX6_cell 7 rfl) (by decide) ?_
  dsimp only [List.set]
  refine v_iload_n (dec_of DX6_cell 8 rfl) rfl ?_
  refine vi_if_lt (tgt := 29) (dec_of DX6_cell 9 rfl) (by decide) (by first | omega | exact bnd_r _ _ | exact hF _ _ | exact hI _ | exact hG _ _ | exact hK _ | (simp [uN] <;> omega)) (fun c10 => absurd c10 (by omega)) (fun c10 => ?_)
  refine v_iload_n (dec_of DX6_cell 10 rfl) rfl ?_
  refine v_gets (j := 3) (q := ("ChantNeumes$Tones", "CELLS")) (dec_of DX6_cell 11 rfl) sX6_9 rfl ?_
  refine vi_slen (dec_of DX6_cell 12 rfl) rfl ?_
  refine vi_icmp_ge (tgt := 29) (dec_of DX6_cell 13 rfl) (by decide) (by first | omega | exact bnd_r _ _ | exact hF _ _ | exact hI _ | exact hG _ _ | exact hK _ | (simp [uN] <;> omega)) (by first | omega | exact bnd_r _ _ | exact hF _ _ | exact hI _ | exact hG _ _ | exact hK _ | (simp [uN] <;> omega)) (fun c18 => absurd c18 (by omega)) (fun c18 => ?_)
  refine v_gets (j := 3) (q := ("ChantNeumes$Tones", "CELLS")) (dec_of DX6_cell 14 rfl) sX6_9 rfl ?_
  refine v_iload_n (dec_of DX6_cell 15 rfl) rfl ?_
  refine vi_sald (dec_of DX6_cell 16 rfl) rfl (by first | omega | exact bnd_r _ _ | exact hF _ _ | exact hI _ | exact hG _ _ | exact hK _ | (simp [uN] <;> omega)) (by decide) (cel_tab (by omega)) ?_
  refine v_goto (tgt := 30) (dec_of DX6_cell 17 rfl) (by decide) ?_
  exact vi_ret (dec_of DX6_cell 19 rfl) rfl ⟨by decide, by decide⟩ (⟨rfl, rfl⟩)
set_option maxRecDepth 100000 in
set_option maxHeartbeats 4000000 in
theorem k_closeStart {w : XW} {h : Int} : Sd (rm 0 0 0 0) mX6_closeStart [J h] (w) (w) (some (J (2 + h * 9))) := by
  unfold Sd
  refine sp_of (ls := [some (J h)]) (by decide) (nle rfl) rfl rfl ?_
  refine vi_const (dec_of DX6_closeStart 0 rfl) ?_
  refine v_iload_n (dec_of DX6_closeStart 1 rfl) rfl ?_
  refine vi_bi (dec_of DX6_closeStart 2 rfl) (by decide) ?_
  refine vi_mul (dec_of DX6_closeStart 3 rfl) ?_
  refine vi_add (dec_of DX6_closeStart 4 rfl) ?_
  exact vi_ret (dec_of DX6_closeStart 5 rfl) rfl ⟨by decide, by decide⟩ (⟨rfl, rfl⟩)
set_option maxRecDepth 100000 in
set_option maxHeartbeats 4000000 in
theorem k_cc {T : XW} {I N : Nat → Int} {F : Nat → Int → Int} (hF : FR F) (hI : IR I) (hN : NR N) {i : Int} (hT : 1 ≤ I 17 ∧ I 17 ≤ 8) (hH : 0 ≤ I 18 ∧ I 18 ≤ 1) (hi : 0 ≤ i ∧ i ≤ 8) : Sd (rm 1 22 0 0) mX0_closeCell [.ref 28, J i] (cls I N F ++ T) (cls I N F ++ T) (some (J (cc (I 17) (I 18) i))) := by
  unfold Sd
  unfold NR at hN
  refine sp_of (ls := [some (.ref 28), some (J i)]) (by decide) (nle rfl) rfl rfl ?_
  refine v_aload_n (dec_of DX0_closeCell 0 rfl) rfl ?_
  refine v_get fX0_20 (dec_of DX0_closeCell 1 rfl) rfl rfl ?_
  refine v_aload_n (dec_of DX0_closeCell 2 rfl) rfl ?_
  refine v_get fX0_24 (dec_of DX0_closeCell 3 rfl) rfl rfl ?_
  refine v_S1r (k_closeStart) lX0_93 (dec_of DX0_closeCell 4 rfl) (by decide) (nle rfl) rfl ?_
  refine v_iload_n (dec_of DX0_closeCell 5 rfl) rfl ?_
  refine vi_add (dec_of DX0_closeCell 6 rfl) ?_
  refine v_S2r (k_cell (by omega) (by omega)) lX0_90 (dec_of DX0_closeCell 7 rfl) (by decide) (nle rfl) rfl ?_
  exact vi_ret (dec_of DX0_closeCell 8 rfl) rfl ⟨by decide, by decide⟩ (⟨rfl, rfl⟩)
set_option maxRecDepth 100000 in
set_option maxHeartbeats 4000000 in
theorem k_firstPlaced {T : XW} {I N : Nat → Int} {F : Nat → Int → Int} (hF : FR F) (hI : IR I) (hN : NR N)  : Sd (rm 0 0 0 0) mX0_firstPlaced [.ref 28] (cls I N F ++ T) (cls I N F ++ T) (some (J (if I 15 = -100 then I 16 else I 15))) := by
  unfold Sd
  unfold NR at hN
  refine sp_of (ls := [some (.ref 28)]) (by decide) (nle rfl) rfl rfl ?_
  refine v_aload_n (dec_of DX0_firstPlaced 0 rfl) rfl ?_
  refine v_get fX0_35 (dec_of DX0_firstPlaced 1 rfl) rfl rfl ?_
  refine vi_bi (dec_of DX0_firstPlaced 2 rfl) (by decide) ?_
  refine vi_icmp_ne (tgt := 16) (dec_of DX0_firstPlaced 3 rfl) (by decide) (by first | omega | exact bnd_r _ _ | exact hF _ _ | exact hI _ | exact hG _ _ | exact hK _ | (simp [uN] <;> omega)) (by first | omega | exact bnd_r _ _ | exact hF _ _ | exact hI _ | exact hG _ _ | exact hK _ | (simp [uN] <;> omega)) (fun c6 => ?_) (fun c6 => ?_)
  · rw [if_neg c6]
    refine v_aload_n (dec_of DX0_firstPlaced 7 rfl) rfl ?_
    refine v_get fX0_35 (dec_of DX0_firstPlaced 8 rfl) rfl rfl ?_
    exact vi_ret (dec_of DX0_firstPlaced 9 rfl) rfl ⟨by decide, by decide⟩ (⟨rfl, rfl⟩)
  · rw [if_pos c6]
    refine v_aload_n (dec_of DX0_firstPlaced 4 rfl) rfl ?_
    refine v_get fX0_38 (dec_of DX0_firstPlaced 5 rfl) rfl rfl ?_
    refine v_goto (tgt := 20) (dec_of DX0_firstPlaced 6 rfl) (by decide) ?_
    exact vi_ret (dec_of DX0_firstPlaced 9 rfl) rfl ⟨by decide, by decide⟩ (⟨rfl, rfl⟩)
set_option maxRecDepth 100000 in
set_option maxHeartbeats 4000000 in
theorem k_addStep {T : XW} {I N : Nat → Int} {F : Nat → Int → Int} (hF : FR F) (hI : IR I) (hN : NR N) {s v : Int} (h12 : N 12 < 41) : Sd (rm 1 24 0 0) mX0_addStep [.ref 28, J s, J v] (cls I N F ++ T) (cls I (uN N 12 (N 12 + 1)) (uN F 12 (uI (adf (F 12) 2 (N 12) s) (N 12 * 2 + 1) v)) ++ T) (none) := by
  unfold Sd
  unfold NR at hN
  refine sp_of (ls := [some (.ref 28), some (J s), some (J v)]) (by decide) (nle rfl) rfl rfl ?_
  refine v_aload_n (dec_of DX0_addStep 0 rfl) rfl ?_
  refine v_get fX0_14 (dec_of DX0_addStep 1 rfl) rfl rfl ?_
  refine v_aload_n (dec_of DX0_addStep 2 rfl) rfl ?_
  refine v_get fX0_14 (dec_of DX0_addStep 3 rfl) rfl rfl ?_
  refine v_iload_n (dec_of DX0_addStep 4 rfl) rfl ?_
  refine v_V1r (c12_add (by first | omega | exact bnd_r _ _ | exact hF _ _ | exact hI _ | exact hG _ _ | exact hK _ | (simp [uN] <;> omega))) lX0_96 (dec_of DX0_addStep 5 rfl) rfl rfl (by decide) (nle rfl) rfl ?_
  refine vi_const (dec_of DX0_addStep 6 rfl) ?_
  refine v_iload_n (dec_of DX0_addStep 7 rfl) rfl ?_
  refine v_V3v (c12_set (by first | omega | exact bnd_r _ _ | exact hF _ _ | exact hI _ | exact hG _ _ | exact hK _ | (simp [uN] <;> omega)) (by first | omega | exact bnd_r _ _ | exact hF _ _ | exact hI _ | exact hG _ _ | exact hK _ | (simp [uN] <;> omega)) (by first | omega | exact bnd_r _ _ | exact hF _ _ | exact hI _ | exact hG _ _ | exact hK _ | (simp [uN] <;> omega))) lX0_99 (dec_of DX0_addStep 8 rfl) rfl rfl (by decide) (nle rfl) rfl ?_
  exact vi_vret (dec_of DX0_addStep 9 rfl) rfl ⟨by decide, by decide⟩ (⟨rfl, rfl⟩)
set_option maxRecDepth 100000 in
set_option maxHeartbeats 4000000 in
theorem k_acc_loop10 {T : XW} {I N : Nat → Int} {F : Nat → Int → Int} (hF : FR F) (hI : IR I) (hN : NR N) {n0 : Nat} {Z : XW → Option Value → Prop} {b : Int} : ∀ n : Nat, (n : Int) ≤ N 10 → Z (cls I N F ++ T) (some (J (accB (F 10) n))) → Vd (rm 1 23 0 0) [] mX0_accentBefore n0 Z 0 0 4 [some (.ref 24), some (J b), some (J ((n : Int) - 1))] [] (cls I N F ++ T) := by
  unfold NR at hN
  intro n
  induction n with
  | zero =>
    intro hn hz
    refine v_iload_n (dec_of DX0_accentBefore 4 rfl) rfl ?_
    refine vi_if_lt (tgt := 26) (dec_of DX0_accentBefore 5 rfl) (by decide) (by first | omega | exact bnd_r _ _ | exact hF _ _ | exact hI _ | exact hG _ _ | exact hK _ | (simp [uN] <;> omega)) (fun c5 => ?_) (fun c5 => absurd c5 (by omega))
    refine vi_bi (dec_of DX0_accentBefore 16 rfl) (by decide) ?_
    exact vi_ret (dec_of DX0_accentBefore 17 rfl) rfl ⟨by decide, by decide⟩ (hz)
  | succ n ih =>
    intro hn hz
    rw [show ((n + 1 : Nat) : Int) - 1 = (n : Int) by omega]
    by_cases h1 : F 10 n = 1
    · rw [accB, if_pos h1] at hz
      refine v_iload_n (dec_of DX0_accentBefore 4 rfl) rfl ?_
      refine vi_if_lt (tgt := 26) (dec_of DX0_accentBefore 5 rfl) (by decide) (by first | omega | exact bnd_r _ _ | exact hF _ _ | exact hI _ | exact hG _ _ | exact hK _ | (simp [uN] <;> omega)) (fun c5 => absurd c5 (by omega)) (fun c5 => ?_)
      refine v_aload_n (dec_of DX0_accentBefore 6 rfl) rfl ?_
      refine v_iload_n (dec_of DX0_accentBefore 7 rfl) rfl ?_
      refine vi_const (dec_of DX0_accentBefore 8 rfl) ?_
      refine v_V2r (c10_get (by first | omega | exact bnd_r _ _ | exact hF _ _ | exact hI _ | exact hG _ _ | exact hK _ | (simp [uN] <;> omega)) (by first | omega | exact bnd_r _ _ | exact hF _ _ | exact hI _ | exact hG _ _ | exact hK _ | (simp [uN] <;> omega))) lX0_72 (dec_of DX0_accentBefore 9 rfl) rfl rfl (by decide) (nle rfl) rfl ?_
      refine vi_const (dec_of DX0_accentBefore 10 rfl) ?_
      refine vi_icmp_ne (tgt := 20) (dec_of DX0_accentBefore 11 rfl) (by decide) (by first | omega | exact bnd_r _ _ | exact hF _ _ | exact hI _ | exact hG _ _ | exact hK _ | (simp [uN] <;> omega)) (by first | omega | exact bnd_r _ _ | exact hF _ _ | exact hI _ | exact hG _ _ | exact hK _ | (simp [uN] <;> omega)) (fun c15 => absurd c15 (by omega)) (fun c15 => ?_)
      refine v_iload_n (dec_of DX0_accentBefore 12 rfl) rfl ?_
      exact vi_ret (dec_of DX0_accentBefore 13 rfl) rfl ⟨by decide, by decide⟩ (hz)
    · rw [accB, if_neg h1] at hz
      refine v_iload_n (dec_of DX0_accentBefore 4 rfl) rfl ?_
      refine vi_if_lt (tgt := 26) (dec_of DX0_accentBefore 5 rfl) (by decide) (by first | omega | exact bnd_r _ _ | exact hF _ _ | exact hI _ | exact hG _ _ | exact hK _ | (simp [uN] <;> omega)) (fun c5 => absurd c5 (by omega)) (fun c5 => ?_)
      refine v_aload_n (dec_of DX0_accentBefore 6 rfl) rfl ?_
      refine v_iload_n (dec_of DX0_accentBefore 7 rfl) rfl ?_
      refine vi_const (dec_of DX0_accentBefore 8 rfl) ?_
      refine v_V2r (c10_get (by first | omega | exact bnd_r _ _ | exact hF _ _ | exact hI _ | exact hG _ _ | exact hK _ | (simp [uN] <;> omega)) (by first | omega | exact bnd_r _ _ | exact hF _ _ | exact hI _ | exact hG _ _ | exact hK _ | (simp [uN] <;> omega))) lX0_72 (dec_of DX0_accentBefore 9 rfl) rfl rfl (by decide) (nle rfl) rfl ?_
      refine vi_const (dec_of DX0_accentBefore 10 rfl) ?_
      refine vi_icmp_ne (tgt := 20) (dec_of DX0_accentBefore 11 rfl) (by decide) (by first | omega | exact bnd_r _ _ | exact hF _ _ | exact hI _ | exact hG _ _ | exact hK _ | (simp [uN] <;> omega)) (by first | omega | exact bnd_r _ _ | exact hF _ _ | exact hI _ | exact hG _ _ | exact hK _ | (simp [uN] <;> omega)) (fun c15 => ?_) (fun c15 => absurd c15 (by omega))
      refine vi_inc (dec_of DX0_accentBefore 14 rfl) rfl (by decide) ?_
      dsimp only [List.set]
      refine v_goto (tgt := 4) (dec_of DX0_accentBefore 15 rfl) (by decide) ?_
      rw [show (n : Int) + -1 = (n : Int) - 1 by omega]
      exact ih (by omega) hz
set_option maxRecDepth 100000 in
set_option maxHeartbeats 4000000 in
theorem k_acc10 {T : XW} {I N : Nat → Int} {F : Nat → Int → Int} (hF : FR F) (hI : IR I) (hN : NR N) {b : Int} (hb : 0 ≤ b ∧ b ≤ N 10) : Sd (rm 1 23 0 0) mX0_accentBefore [.ref 24, J b] (cls I N F ++ T) (cls I N F ++ T) (some (J (accB (F 10) b.toNat))) := by
  unfold Sd
  unfold NR at hN
  refine sp_of (ls := [some (.ref 24), some (J b), none]) (by decide) (nle rfl) rfl rfl ?_
  refine v_iload_n (dec_of DX0_accentBefore 0 rfl) rfl ?_
  refine vi_const (dec_of DX0_accentBefore 1 rfl) ?_
  refine vi_sub (dec_of DX0_accentBefore 2 rfl) ?_
  refine v_istore_n (dec_of DX0_accentBefore 3 rfl) (by decide) ?_
  dsimp only [List.set]
  have e : b = (b.toNat : Int) := by omega
  rw [show b - 1 = (b.toNat : Int) - 1 by omega]
  exact k_acc_loop10 hF hI (by unfold NR; exact hN) b.toNat (by omega) ⟨rfl, rfl⟩
set_option maxRecDepth 100000 in
set_option maxHeartbeats 4000000 in
theorem k_place_t10 {T : XW} {I N : Nat → Int} {F : Nat → Int → Int} (hF : FR F) (hI : IR I) (hN : NR N) {n0 : Nat} {Z : XW → Option Value → Prop} {n : Int} (hT : 1 ≤ I 17 ∧ I 17 ≤ 8) (hH : 0 ≤ I 18 ∧ I 18 ≤ 1) (hl : 0 ≤ I 16 ∧ I 16 ≤ N 10) (hz : Z (cls (if cc (I 17) (I 18) 3 = 2 then uN I 15 (firstP (F 10) (I 16)) else I) N F ++ T) none) : Vd (rm 2 45 0 0) [] mX0_placeAccents n0 Z 0 0 34 [some (.ref 28), some (.ref 24), some (J n)] [] (cls I N F ++ T) := by
  unfold NR at hN
  by_cases h2 : cc (I 17) (I 18) 3 = 2
  · rw [if_pos h2] at hz
    by_cases h3 : accB (F 10) (I 16).toNat = -100
    · by_cases h4 : 2 ≤ I 16
      · rw [firstP, if_pos h3, if_pos h4] at hz
        refine v_aload_n (dec_of DX0_placeAccents 19 rfl) rfl ?_
        refine vi_const (dec_of DX0_placeAccents 20 rfl) ?_
        refine v_V1r (k_cc hF hI (by unfold NR; exact hN) hT hH (by omega)) lX0_68 (dec_of DX0_placeAccents 21 rfl) rfl rfl (by decide) (nle rfl) rfl ?_
        refine vi_const (dec_of DX0_placeAccents 22 rfl) ?_
        refine vi_icmp_ne (tgt := 82) (dec_of DX0_placeAccents 23 rfl) (by decide) (by first | omega | exact hI _ | (have := cc_r (I 17) (I 18) 3; omega) | (have := accB_r (F 10) (I 16).toNat; simp [uN]; omega)) (by first | omega | exact hI _ | (have := cc_r (I 17) (I 18) 3; omega) | (have := accB_r (F 10) (I 16).toNat; simp [uN]; omega)) (fun c40 => absurd c40 (by omega)) (fun c40 => ?_)
        refine v_aload_n (dec_of DX0_placeAccents 24 rfl) rfl ?_
        refine v_aload_n (dec_of DX0_placeAccents 25 rfl) rfl ?_
        refine v_aload_n (dec_of DX0_placeAccents 26 rfl) rfl ?_
        refine v_get fX0_38 (dec_of DX0_placeAccents 27 rfl) rfl rfl ?_
        refine v_S2r (k_acc10 hF hI (by unfold NR; exact hN) (by first | omega | (simp [uN]; omega))) lX0_56 (dec_of DX0_placeAccents 28 rfl) (by decide) (nle rfl) rfl ?_
        refine cp_15 fX0_35 (dec_of DX0_placeAccents 29 rfl) ?_
        refine v_aload_n (dec_of DX0_placeAccents 30 rfl) rfl ?_
        refine v_get fX0_35 (dec_of DX0_placeAccents 31 rfl) rfl rfl ?_
        refine vi_bi (dec_of DX0_placeAccents 32 rfl) (by decide) ?_
        refine vi_icmp_ne (tgt := 82) (dec_of DX0_placeAccents 33 rfl) (by decide) (by first | omega | exact hI _ | (have := cc_r (I 17) (I 18) 3; omega) | (have := accB_r (F 10) (I 16).toNat; simp [uN]; omega)) (by first | omega | exact hI _ | (have := cc_r (I 17) (I 18) 3; omega) | (have := accB_r (F 10) (I 16).toNat; simp [uN]; omega)) (fun c61 => absurd c61 (by simp only [uN_s]; omega)) (fun c61 => ?_)
        refine v_aload_n (dec_of DX0_placeAccents 34 rfl) rfl ?_
        refine v_get fX0_38 (dec_of DX0_placeAccents 35 rfl) rfl rfl ?_
        refine vi_const (dec_of DX0_placeAccents 36 rfl) ?_
        refine vi_icmp_lt (tgt := 82) (dec_of DX0_placeAccents 37 rfl) (by decide) (by first | omega | exact hI _ | (have := cc_r (I 17) (I 18) 3; omega) | (have := accB_r (F 10) (I 16).toNat; simp [uN]; omega)) (by first | omega | exact hI _ | (have := cc_r (I 17) (I 18) 3; omega) | (have := accB_r (F 10) (I 16).toNat; simp [uN]; omega)) (fun c69 => absurd c69 (by simp only [uN_n (show (16:Nat) ≠ 15 by decide)]; omega)) (fun c69 => ?_)
        refine v_aload_n (dec_of DX0_placeAccents 38 rfl) rfl ?_
        refine v_aload_n (dec_of DX0_placeAccents 39 rfl) rfl ?_
        refine v_get fX0_38 (dec_of DX0_placeAccents 40 rfl) rfl rfl ?_
        refine vi_const (dec_of DX0_placeAccents 41 rfl) ?_
        refine vi_sub (dec_of DX0_placeAccents 42 rfl) ?_
        refine cp_15 fX0_35 (dec_of DX0_placeAccents 43 rfl) ?_
        exact vi_vret (dec_of DX0_placeAccents 44 rfl) rfl ⟨by decide, by decide⟩ (hz)
      · rw [firstP, if_pos h3, if_neg h4, ← h3] at hz
        refine v_aload_n (dec_of DX0_placeAccents 19 rfl) rfl ?_
        refine vi_const (dec_of DX0_placeAccents 20 rfl) ?_
        refine v_V1r (k_cc hF hI (by unfold NR; exact hN) hT hH (by omega)) lX0_68 (dec_of DX0_placeAccents 21 rfl) rfl rfl (by decide) (nle rfl) rfl ?_
        refine vi_const (dec_of DX0_placeAccents 22 rfl) ?_
        refine vi_icmp_ne (tgt := 82) (dec_of DX0_placeAccents 23 rfl) (by decide) (by first | omega | exact hI _ | (have := cc_r (I 17) (I 18) 3; omega) | (have := accB_r (F 10) (I 16).toNat; simp [uN]; omega)) (by first | omega | exact hI _ | (have := cc_r (I 17) (I 18) 3; omega) | (have := accB_r (F 10) (I 16).toNat; simp [uN]; omega)) (fun c40 => absurd c40 (by omega)) (fun c40 => ?_)
        refine v_aload_n (dec_of DX0_placeAccents 24 rfl) rfl ?_
        refine v_aload_n (dec_of DX0_placeAccents 25 rfl) rfl ?_
        refine v_aload_n (dec_of DX0_placeAccents 26 rfl) rfl ?_
        refine v_get fX0_38 (dec_of DX0_placeAccents 27 rfl) rfl rfl ?_
        refine v_S2r (k_acc10 hF hI (by unfold NR; exact hN) (by first | omega | (simp [uN]; omega))) lX0_56 (dec_of DX0_placeAccents 28 rfl) (by decide) (nle rfl) rfl ?_
        refine cp_15 fX0_35 (dec_of DX0_placeAccents 29 rfl) ?_
        refine v_aload_n (dec_of DX0_placeAccents 30 rfl) rfl ?_
        refine v_get fX0_35 (dec_of DX0_placeAccents 31 rfl) rfl rfl ?_
        refine vi_bi (dec_of DX0_placeAccents 32 rfl) (by decide) ?_
        refine vi_icmp_ne (tgt := 82) (dec_of DX0_placeAccents 33 rfl) (by decide) (by first | omega | exact hI _ | (have := cc_r (I 17) (I 18) 3; omega) | (have := accB_r (F 10) (I 16).toNat; simp [uN]; omega)) (by first | omega | exact hI _ | (have := cc_r (I 17) (I 18) 3; omega) | (have := accB_r (F 10) (I 16).toNat; simp [uN]; omega)) (fun c61 => absurd c61 (by simp only [uN_s]; omega)) (fun c61 => ?_)
        refine v_aload_n (dec_of DX0_placeAccents 34 rfl) rfl ?_
        refine v_get fX0_38 (dec_of DX0_placeAccents 35 rfl) rfl rfl ?_
        refine vi_const (dec_of DX0_placeAccents 36 rfl) ?_
        refine vi_icmp_lt (tgt := 82) (dec_of DX0_placeAccents 37 rfl) (by decide) (by first | omega | exact hI _ | (have := cc_r (I 17) (I 18) 3; omega) | (have := accB_r (F 10) (I 16).toNat; simp [uN]; omega)) (by first | omega | exact hI _ | (have := cc_r (I 17) (I 18) 3; omega) | (have := accB_r (F 10) (I 16).toNat; simp [uN]; omega)) (fun c69 => ?_) (fun c69 => absurd c69 (by simp only [uN_n (show (16:Nat) ≠ 15 by decide)]; omega))
        exact vi_vret (dec_of DX0_placeAccents 44 rfl) rfl ⟨by decide, by decide⟩ (hz)
    · rw [firstP, if_neg h3] at hz
      refine v_aload_n (dec_of DX0_placeAccents 19 rfl) rfl ?_
      refine vi_const (dec_of DX0_placeAccents 20 rfl) ?_
      refine v_V1r (k_cc hF hI (by unfold NR; exact hN) hT hH (by omega)) lX0_68 (dec_of DX0_placeAccents 21 rfl) rfl rfl (by decide) (nle rfl) rfl ?_
      refine vi_const (dec_of DX0_placeAccents 22 rfl) ?_
      refine vi_icmp_ne (tgt := 82) (dec_of DX0_placeAccents 23 rfl) (by decide) (by first | omega | exact hI _ | (have := cc_r (I 17) (I 18) 3; omega) | (have := accB_r (F 10) (I 16).toNat; simp [uN]; omega)) (by first | omega | exact hI _ | (have := cc_r (I 17) (I 18) 3; omega) | (have := accB_r (F 10) (I 16).toNat; simp [uN]; omega)) (fun c40 => absurd c40 (by omega)) (fun c40 => ?_)
      refine v_aload_n (dec_of DX0_placeAccents 24 rfl) rfl ?_
      refine v_aload_n (dec_of DX0_placeAccents 25 rfl) rfl ?_
      refine v_aload_n (dec_of DX0_placeAccents 26 rfl) rfl ?_
      refine v_get fX0_38 (dec_of DX0_placeAccents 27 rfl) rfl rfl ?_
      refine v_S2r (k_acc10 hF hI (by unfold NR; exact hN) (by first | omega | (simp [uN]; omega))) lX0_56 (dec_of DX0_placeAccents 28 rfl) (by decide) (nle rfl) rfl ?_
      refine cp_15 fX0_35 (dec_of DX0_placeAccents 29 rfl) ?_
      refine v_aload_n (dec_of DX0_placeAccents 30 rfl) rfl ?_
      refine v_get fX0_35 (dec_of DX0_placeAccents 31 rfl) rfl rfl ?_
      refine vi_bi (dec_of DX0_placeAccents 32 rfl) (by decide) ?_
      refine vi_icmp_ne (tgt := 82) (dec_of DX0_placeAccents 33 rfl) (by decide) (by first | omega | exact hI _ | (have := cc_r (I 17) (I 18) 3; omega) | (have := accB_r (F 10) (I 16).toNat; simp [uN]; omega)) (by first | omega | exact hI _ | (have := cc_r (I 17) (I 18) 3; omega) | (have := accB_r (F 10) (I 16).toNat; simp [uN]; omega)) (fun c61 => ?_) (fun c61 => absurd c61 (by simp only [uN_s]; omega))
      exact vi_vret (dec_of DX0_placeAccents 44 rfl) rfl ⟨by decide, by decide⟩ (hz)
  · rw [if_neg h2] at hz
    refine v_aload_n (dec_of DX0_placeAccents 19 rfl) rfl ?_
    refine vi_const (dec_of DX0_placeAccents 20 rfl) ?_
    refine v_V1r (k_cc hF hI (by unfold NR; exact hN) hT hH (by omega)) lX0_68 (dec_of DX0_placeAccents 21 rfl) rfl rfl (by decide) (nle rfl) rfl ?_
    refine vi_const (dec_of DX0_placeAccents 22 rfl) ?_
    refine vi_icmp_ne (tgt := 82) (dec_of DX0_placeAccents 23 rfl) (by decide) (by first | omega | exact hI _ | (have := cc_r (I 17) (I 18) 3; omega) | (have := accB_r (F 10) (I 16).toNat; simp [uN]; omega)) (by first | omega | exact hI _ | (have := cc_r (I 17) (I 18) 3; omega) | (have := accB_r (F 10) (I 16).toNat; simp [uN]; omega)) (fun c40 => ?_) (fun c40 => absurd c40 (by omega))
    exact vi_vret (dec_of DX0_placeAccents 44 rfl) rfl ⟨by decide, by decide⟩ (hz)
set_option maxRecDepth 100000 in
set_option maxHeartbeats 4000000 in
theorem k_place10 {T : XW} {I N : Nat → Int} {F : Nat → Int → Int} (hF : FR F) (hI : IR I) (hN : NR N) (hT : 1 ≤ I 17 ∧ I 17 ≤ 8) (hH : 0 ≤ I 18 ∧ I 18 ≤ 1) (hn : 0 < N 10) : Sd (rm 2 45 0 0) mX0_placeAccents [.ref 28, .ref 24] (cls I N F ++ T) (cls (if cc (I 17) (I 18) 3 = 2 then uN (uN I 16 (lastP (F 10) (N 10))) 15 (firstP (F 10) (lastP (F 10) (N 10))) else uN I 16 (lastP (F 10) (N 10))) N F ++ T) (none) := by
  unfold Sd
  unfold NR at hN
  have hz := accB_r (F 10) (N 10).toNat
  refine sp_of (ls := [some (.ref 28), some (.ref 24), none]) (by decide) (nle rfl) rfl rfl ?_
  by_cases h1 : accB (F 10) (N 10).toNat = -100
  · have eL : lastP (F 10) (N 10) = (if N 10 - 2 < 0 then 0 else N 10 - 2) := by rw [lastP, if_pos h1]
    rw [eL]
    refine v_aload_n (dec_of DX0_placeAccents 0 rfl) rfl ?_
    refine v_V0r (c10_size) lX0_41 (dec_of DX0_placeAccents 1 rfl) rfl rfl (by decide) (nle rfl) rfl ?_
    refine v_istore_n (dec_of DX0_placeAccents 2 rfl) (by decide) ?_
    dsimp only [List.set]
    refine v_aload_n (dec_of DX0_placeAccents 3 rfl) rfl ?_
    refine v_aload_n (dec_of DX0_placeAccents 4 rfl) rfl ?_
    refine v_iload_n (dec_of DX0_placeAccents 5 rfl) rfl ?_
    refine v_S2r (k_acc10 hF hI (by unfold NR; exact hN) (by omega)) lX0_56 (dec_of DX0_placeAccents 6 rfl) (by decide) (nle rfl) rfl ?_
    refine cp_16 fX0_38 (dec_of DX0_placeAccents 7 rfl) ?_
    refine v_aload_n (dec_of DX0_placeAccents 8 rfl) rfl ?_
    refine v_get fX0_38 (dec_of DX0_placeAccents 9 rfl) rfl rfl ?_
    refine vi_bi (dec_of DX0_placeAccents 10 rfl) (by decide) ?_
    refine vi_icmp_ne (tgt := 34) (dec_of DX0_placeAccents 11 rfl) (by decide) (by first | omega | exact hI _ | (simp only [uN_s]; omega)) (by first | omega | exact hI _ | (simp only [uN_s]; omega)) (fun c20 => absurd c20 (by simp only [uN_s]; omega)) (fun c20 => ?_)
    refine v_aload_n (dec_of DX0_placeAccents 12 rfl) rfl ?_
    refine v_iload_n (dec_of DX0_placeAccents 13 rfl) rfl ?_
    refine vi_const (dec_of DX0_placeAccents 14 rfl) ?_
    refine vi_sub (dec_of DX0_placeAccents 15 rfl) ?_
    refine vi_const (dec_of DX0_placeAccents 16 rfl) ?_
    refine v_S2r (k_max (by omega) (by omega)) lX0_60 (dec_of DX0_placeAccents 17 rfl) (by decide) (nle rfl) rfl ?_
    refine cp_16 fX0_38 (dec_of DX0_placeAccents 18 rfl) ?_
    rw [uN_uu]
    exact k_place_t10 hF (hI.up (by omega)) (by unfold NR; exact hN) hT hH (by simp only [uN_s]; omega) ⟨rfl, rfl⟩
  · have eL : lastP (F 10) (N 10) = accB (F 10) (N 10).toNat := by rw [lastP, if_neg h1]
    rw [eL]
    refine v_aload_n (dec_of DX0_placeAccents 0 rfl) rfl ?_
    refine v_V0r (c10_size) lX0_41 (dec_of DX0_placeAccents 1 rfl) rfl rfl (by decide) (nle rfl) rfl ?_
    refine v_istore_n (dec_of DX0_placeAccents 2 rfl) (by decide) ?_
    dsimp only [List.set]
    refine v_aload_n (dec_of DX0_placeAccents 3 rfl) rfl ?_
    refine v_aload_n (dec_of DX0_placeAccents 4 rfl) rfl ?_
    refine v_iload_n (dec_of DX0_placeAccents 5 rfl) rfl ?_
    refine v_S2r (k_acc10 hF hI (by unfold NR; exact hN) (by omega)) lX0_56 (dec_of DX0_placeAccents 6 rfl) (by decide) (nle rfl) rfl ?_
    refine cp_16 fX0_38 (dec_of DX0_placeAccents 7 rfl) ?_
    refine v_aload_n (dec_of DX0_placeAccents 8 rfl) rfl ?_
    refine v_get fX0_38 (dec_of DX0_placeAccents 9 rfl) rfl rfl ?_
    refine vi_bi (dec_of DX0_placeAccents 10 rfl) (by decide) ?_
    refine vi_icmp_ne (tgt := 34) (dec_of DX0_placeAccents 11 rfl) (by decide) (by first | omega | exact hI _ | (simp only [uN_s]; omega)) (by first | omega | exact hI _ | (simp only [uN_s]; omega)) (fun c20 => ?_) (fun c20 => absurd c20 (by simp only [uN_s]; omega))
    exact k_place_t10 hF (hI.up (by omega)) (by unfold NR; exact hN) hT hH (by simp only [uN_s]; omega) ⟨rfl, rfl⟩
set_option maxRecDepth 100000 in
set_option maxHeartbeats 4000000 in
theorem k_acc_loop11 {T : XW} {I N : Nat → Int} {F : Nat → Int → Int} (hF : FR F) (hI : IR I) (hN : NR N) {n0 : Nat} {Z : XW → Option Value → Prop} {b : Int} : ∀ n : Nat, (n : Int) ≤ N 11 → Z (cls I N F ++ T) (some (J (accB (F 11) n))) → Vd (rm 1 23 0 0) [] mX0_accentBefore n0 Z 0 0 4 [some (.ref 26), some (J b), some (J ((n : Int) - 1))] [] (cls I N F ++ T) := by
  unfold NR at hN
  intro n
  induction n with
  | zero =>
    intro hn hz
    refine v_iload_n (dec_of DX0_accentBefore 4 rfl) rfl ?_
    refine vi_if_lt (tgt := 26) (dec_of DX0_accentBefore 5 rfl) (by decide) (by first | omega | exact bnd_r _ _ | exact hF _ _ | exact hI _ | exact hG _ _ | exact hK _ | (simp [uN] <;> omega)) (fun c5 => ?_) (fun c5 => absurd c5 (by omega))
    refine vi_bi (dec_of DX0_accentBefore 16 rfl) (by decide) ?_
    exact vi_ret (dec_of DX0_accentBefore 17 rfl) rfl ⟨by decide, by decide⟩ (hz)
  | succ n ih =>
    intro hn hz
    rw [show ((n + 1 : Nat) : Int) - 1 = (n : Int) by omega]
    by_cases h1 : F 11 n = 1
    · rw [accB, if_pos h1] at hz
      refine v_iload_n (dec_of DX0_accentBefore 4 rfl) rfl ?_
      refine vi_if_lt (tgt := 26) (dec_of DX0_accentBefore 5 rfl) (by decide) (by first | omega | exact bnd_r _ _ | exact hF _ _ | exact hI _ | exact hG _ _ | exact hK _ | (simp [uN] <;> omega)) (fun c5 => absurd c5 (by omega)) (fun c5 => ?_)
      refine v_aload_n (dec_of DX0_accentBefore 6 rfl) rfl ?_
      refine v_iload_n (dec_of DX0_accentBefore 7 rfl) rfl ?_
      refine vi_const (dec_of DX0_accentBefore 8 rfl) ?_
      refine v_V2r (c11_get (by first | omega | exact bnd_r _ _ | exact hF _ _ | exact hI _ | exact hG _ _ | exact hK _ | (simp [uN] <;> omega)) (by first | omega | exact bnd_r _ _ | exact hF _ _ | exact hI _ | exact hG _ _ | exact hK _ | (simp [uN] <;> omega))) lX0_72 (dec_of DX0_accentBefore 9 rfl) rfl rfl (by decide) (nle rfl) rfl ?_
      refine vi_const (dec_of DX0_accentBefore 10 rfl) ?_
      refine vi_icmp_ne (tgt := 20) (dec_of DX0_accentBefore 11 rfl) (by decide) (by first | omega | exact bnd_r _ _ | exact hF _ _ | exact hI _ | exact hG _ _ | exact hK _ | (simp [uN] <;> omega)) (by first | omega | exact bnd_r _ _ | exact hF _ _ | exact hI _ | exact hG _ _ | exact hK _ | (simp [uN] <;> omega)) (fun c15 => absurd c15 (by omega)) (fun c15 => ?_)
      refine v_iload_n (dec_of DX0_accentBefore 12 rfl) rfl ?_
      exact vi_ret (dec_of DX0_accentBefore 13 rfl) rfl ⟨by decide, by decide⟩ (hz)
    · rw [accB, if_neg h1] at hz
      refine v_iload_n (dec_of DX0_accentBefore 4 rfl) rfl ?_
      refine vi_if_lt (tgt := 26) (dec_of DX0_accentBefore 5 rfl) (by decide) (by first | omega | exact bnd_r _ _ | exact hF _ _ | exact hI _ | exact hG _ _ | exact hK _ | (simp [uN] <;> omega)) (fun c5 => absurd c5 (by omega)) (fun c5 => ?_)
      refine v_aload_n (dec_of DX0_accentBefore 6 rfl) rfl ?_
      refine v_iload_n (dec_of DX0_accentBefore 7 rfl) rfl ?_
      refine vi_const (dec_of DX0_accentBefore 8 rfl) ?_
      refine v_V2r (c11_get (by first | omega | exact bnd_r _ _ | exact hF _ _ | exact hI _ | exact hG _ _ | exact hK _ | (simp [uN] <;> omega)) (by first | omega | exact bnd_r _ _ | exact hF _ _ | exact hI _ | exact hG _ _ | exact hK _ | (simp [uN] <;> omega))) lX0_72 (dec_of DX0_accentBefore 9 rfl) rfl rfl (by decide) (nle rfl) rfl ?_
      refine vi_const (dec_of DX0_accentBefore 10 rfl) ?_
      refine vi_icmp_ne (tgt := 20) (dec_of DX0_accentBefore 11 rfl) (by decide) (by first | omega | exact bnd_r _ _ | exact hF _ _ | exact hI _ | exact hG _ _ | exact hK _ | (simp [uN] <;> omega)) (by first | omega | exact bnd_r _ _ | exact hF _ _ | exact hI _ | exact hG _ _ | exact hK _ | (simp [uN] <;> omega)) (fun c15 => ?_) (fun c15 => absurd c15 (by omega))
      refine vi_inc (dec_of DX0_accentBefore 14 rfl) rfl (by decide) ?_
      dsimp only [List.set]
      refine v_goto (tgt := 4) (dec_of DX0_accentBefore 15 rfl) (by decide) ?_
      rw [show (n : Int) + -1 = (n : Int) - 1 by omega]
      exact ih (by omega) hz
set_option maxRecDepth 100000 in
set_option maxHeartbeats 4000000 in
theorem k_acc11 {T : XW} {I N : Nat → Int} {F : Nat → Int → Int} (hF : FR F) (hI : IR I) (hN : NR N) {b : Int} (hb : 0 ≤ b ∧ b ≤ N 11) : Sd (rm 1 23 0 0) mX0_accentBefore [.ref 26, J b] (cls I N F ++ T) (cls I N F ++ T) (some (J (accB (F 11) b.toNat))) := by
  unfold Sd
  unfold NR at hN
  refine sp_of (ls := [some (.ref 26), some (J b), none]) (by decide) (nle rfl) rfl rfl ?_
  refine v_iload_n (dec_of DX0_accentBefore 0 rfl) rfl ?_
  refine vi_const (dec_of DX0_accentBefore 1 rfl) ?_
  refine vi_sub (dec_of DX0_accentBefore 2 rfl) ?_
  refine v_istore_n (dec_of DX0_accentBefore 3 rfl) (by decide) ?_
  dsimp only [List.set]
  have e : b = (b.toNat : Int) := by omega
  rw [show b - 1 = (b.toNat : Int) - 1 by omega]
  exact k_acc_loop11 hF hI (by unfold NR; exact hN) b.toNat (by omega) ⟨rfl, rfl⟩
set_option maxRecDepth 100000 in
set_option maxHeartbeats 4000000 in
theorem k_place_t11 {T : XW} {I N : Nat → Int} {F : Nat → Int → Int} (hF : FR F) (hI : IR I) (hN : NR N) {n0 : Nat} {Z : XW → Option Value → Prop} {n : Int} (hT : 1 ≤ I 17 ∧ I 17 ≤ 8) (hH : 0 ≤ I 18 ∧ I 18 ≤ 1) (hl : 0 ≤ I 16 ∧ I 16 ≤ N 11) (hz : Z (cls (if cc (I 17) (I 18) 3 = 2 then uN I 15 (firstP (F 11) (I 16)) else I) N F ++ T) none) : Vd (rm 2 45 0 0) [] mX0_placeAccents n0 Z 0 0 34 [some (.ref 28), some (.ref 26), some (J n)] [] (cls I N F ++ T) := by
  unfold NR at hN
  by_cases h2 : cc (I 17) (I 18) 3 = 2
  · rw [if_pos h2] at hz
    by_cases h3 : accB (F 11) (I 16).toNat = -100
    · by_cases h4 : 2 ≤ I 16
      · rw [firstP, if_pos h3, if_pos h4] at hz
        refine v_aload_n (dec_of DX0_placeAccents 19 rfl) rfl ?_
        refine vi_const (dec_of DX0_placeAccents 20 rfl) ?_
        refine v_V1r (k_cc hF hI (by unfold NR; exact hN) hT hH (by omega)) lX0_68 (dec_of DX0_placeAccents 21 rfl) rfl rfl (by decide) (nle rfl) rfl ?_
        refine vi_const (dec_of DX0_placeAccents 22 rfl) ?_
        refine vi_icmp_ne (tgt := 82) (dec_of DX0_placeAccents 23 rfl) (by decide) (by first | omega | exact hI _ | (have := cc_r (I 17) (I 18) 3; omega) | (have := accB_r (F 11) (I 16).toNat; simp [uN]; omega)) (by first | omega | exact hI _ | (have := cc_r (I 17) (I 18) 3; omega) | (have := accB_r (F 11) (I 16).toNat; simp [uN]; omega)) (fun c40 => absurd c40 (by omega)) (fun c40 => ?_)
        refine v_aload_n (dec_of DX0_placeAccents 24 rfl) rfl ?_
        refine v_aload_n (dec_of DX0_placeAccents 25 rfl) rfl ?_
        refine v_aload_n (dec_of DX0_placeAccents 26 rfl) rfl ?_
        refine v_get fX0_38 (dec_of DX0_placeAccents 27 rfl) rfl rfl ?_
        refine v_S2r (k_acc11 hF hI (by unfold NR; exact hN) (by first | omega | (simp [uN]; omega))) lX0_56 (dec_of DX0_placeAccents 28 rfl) (by decide) (nle rfl) rfl ?_
        refine cp_15 fX0_35 (dec_of DX0_placeAccents 29 rfl) ?_
        refine v_aload_n (dec_of DX0_placeAccents 30 rfl) rfl ?_
        refine v_get fX0_35 (dec_of DX0_placeAccents 31 rfl) rfl rfl ?_
        refine vi_bi (dec_of DX0_placeAccents 32 rfl) (by decide) ?_
        refine vi_icmp_ne (tgt := 82) (dec_of DX0_placeAccents 33 rfl) (by decide) (by first | omega | exact hI _ | (have := cc_r (I 17) (I 18) 3; omega) | (have := accB_r (F 11) (I 16).toNat; simp [uN]; omega)) (by first | omega | exact hI _ | (have := cc_r (I 17) (I 18) 3; omega) | (have := accB_r (F 11) (I 16).toNat; simp [uN]; omega)) (fun c61 => absurd c61 (by simp only [uN_s]; omega)) (fun c61 => ?_)
        refine v_aload_n (dec_of DX0_placeAccents 34 rfl) rfl ?_
        refine v_get fX0_38 (dec_of DX0_placeAccents 35 rfl) rfl rfl ?_
        refine vi_const (dec_of DX0_placeAccents 36 rfl) ?_
        refine vi_icmp_lt (tgt := 82) (dec_of DX0_placeAccents 37 rfl) (by decide) (by first | omega | exact hI _ | (have := cc_r (I 17) (I 18) 3; omega) | (have := accB_r (F 11) (I 16).toNat; simp [uN]; omega)) (by first | omega | exact hI _ | (have := cc_r (I 17) (I 18) 3; omega) | (have := accB_r (F 11) (I 16).toNat; simp [uN]; omega)) (fun c69 => absurd c69 (by simp only [uN_n (show (16:Nat) ≠ 15 by decide)]; omega)) (fun c69 => ?_)
        refine v_aload_n (dec_of DX0_placeAccents 38 rfl) rfl ?_
        refine v_aload_n (dec_of DX0_placeAccents 39 rfl) rfl ?_
        refine v_get fX0_38 (dec_of DX0_placeAccents 40 rfl) rfl rfl ?_
        refine vi_const (dec_of DX0_placeAccents 41 rfl) ?_
        refine vi_sub (dec_of DX0_placeAccents 42 rfl) ?_
        refine cp_15 fX0_35 (dec_of DX0_placeAccents 43 rfl) ?_
        exact vi_vret (dec_of DX0_placeAccents 44 rfl) rfl ⟨by decide, by decide⟩ (hz)
      · rw [firstP, if_pos h3, if_neg h4, ← h3] at hz
        refine v_aload_n (dec_of DX0_placeAccents 19 rfl) rfl ?_
        refine vi_const (dec_of DX0_placeAccents 20 rfl) ?_
        refine v_V1r (k_cc hF hI (by unfold NR; exact hN) hT hH (by omega)) lX0_68 (dec_of DX0_placeAccents 21 rfl) rfl rfl (by decide) (nle rfl) rfl ?_
        refine vi_const (dec_of DX0_placeAccents 22 rfl) ?_
        refine vi_icmp_ne (tgt := 82) (dec_of DX0_placeAccents 23 rfl) (by decide) (by first | omega | exact hI _ | (have := cc_r (I 17) (I 18) 3; omega) | (have := accB_r (F 11) (I 16).toNat; simp [uN]; omega)) (by first | omega | exact hI _ | (have := cc_r (I 17) (I 18) 3; omega) | (have := accB_r (F 11) (I 16).toNat; simp [uN]; omega)) (fun c40 => absurd c40 (by omega)) (fun c40 => ?_)
        refine v_aload_n (dec_of DX0_placeAccents 24 rfl) rfl ?_
        refine v_aload_n (dec_of DX0_placeAccents 25 rfl) rfl ?_
        refine v_aload_n (dec_of DX0_placeAccents 26 rfl) rfl ?_
        refine v_get fX0_38 (dec_of DX0_placeAccents 27 rfl) rfl rfl ?_
        refine v_S2r (k_acc11 hF hI (by unfold NR; exact hN) (by first | omega | (simp [uN]; omega))) lX0_56 (dec_of DX0_placeAccents 28 rfl) (by decide) (nle rfl) rfl ?_
        refine cp_15 fX0_35 (dec_of DX0_placeAccents 29 rfl) ?_
        refine v_aload_n (dec_of DX0_placeAccents 30 rfl) rfl ?_
        refine v_get fX0_35 (dec_of DX0_placeAccents 31 rfl) rfl rfl ?_
        refine vi_bi (dec_of DX0_placeAccents 32 rfl) (by decide) ?_
        refine vi_icmp_ne (tgt := 82) (dec_of DX0_placeAccents 33 rfl) (by decide) (by first | omega | exact hI _ | (have := cc_r (I 17) (I 18) 3; omega) | (have := accB_r (F 11) (I 16).toNat; simp [uN]; omega)) (by first | omega | exact hI _ | (have := cc_r (I 17) (I 18) 3; omega) | (have := accB_r (F 11) (I 16).toNat; simp [uN]; omega)) (fun c61 => absurd c61 (by simp only [uN_s]; omega)) (fun c61 => ?_)
        refine v_aload_n (dec_of DX0_placeAccents 34 rfl) rfl ?_
        refine v_get fX0_38 (dec_of DX0_placeAccents 35 rfl) rfl rfl ?_
        refine vi_const (dec_of DX0_placeAccents 36 rfl) ?_
        refine vi_icmp_lt (tgt := 82) (dec_of DX0_placeAccents 37 rfl) (by decide) (by first | omega | exact hI _ | (have := cc_r (I 17) (I 18) 3; omega) | (have := accB_r (F 11) (I 16).toNat; simp [uN]; omega)) (by first | omega | exact hI _ | (have := cc_r (I 17) (I 18) 3; omega) | (have := accB_r (F 11) (I 16).toNat; simp [uN]; omega)) (fun c69 => ?_) (fun c69 => absurd c69 (by simp only [uN_n (show (16:Nat) ≠ 15 by decide)]; omega))
        exact vi_vret (dec_of DX0_placeAccents 44 rfl) rfl ⟨by decide, by decide⟩ (hz)
    · rw [firstP, if_neg h3] at hz
      refine v_aload_n (dec_of DX0_placeAccents 19 rfl) rfl ?_
      refine vi_const (dec_of DX0_placeAccents 20 rfl) ?_
      refine v_V1r (k_cc hF hI (by unfold NR; exact hN) hT hH (by omega)) lX0_68 (dec_of DX0_placeAccents 21 rfl) rfl rfl (by decide) (nle rfl) rfl ?_
      refine vi_const (dec_of DX0_placeAccents 22 rfl) ?_
      refine vi_icmp_ne (tgt := 82) (dec_of DX0_placeAccents 23 rfl) (by decide) (by first | omega | exact hI _ | (have := cc_r (I 17) (I 18) 3; omega) | (have := accB_r (F 11) (I 16).toNat; simp [uN]; omega)) (by first | omega | exact hI _ | (have := cc_r (I 17) (I 18) 3; omega) | (have := accB_r (F 11) (I 16).toNat; simp [uN]; omega)) (fun c40 => absurd c40 (by omega)) (fun c40 => ?_)
      refine v_aload_n (dec_of DX0_placeAccents 24 rfl) rfl ?_
      refine v_aload_n (dec_of DX0_placeAccents 25 rfl) rfl ?_
      refine v_aload_n (dec_of DX0_placeAccents 26 rfl) rfl ?_
      refine v_get fX0_38 (dec_of DX0_placeAccents 27 rfl) rfl rfl ?_
      refine v_S2r (k_acc11 hF hI (by unfold NR; exact hN) (by first | omega | (simp [uN]; omega))) lX0_56 (dec_of DX0_placeAccents 28 rfl) (by decide) (nle rfl) rfl ?_
      refine cp_15 fX0_35 (dec_of DX0_placeAccents 29 rfl) ?_
      refine v_aload_n (dec_of DX0_placeAccents 30 rfl) rfl ?_
      refine v_get fX0_35 (dec_of DX0_placeAccents 31 rfl) rfl rfl ?_
      refine vi_bi (dec_of DX0_placeAccents 32 rfl) (by decide) ?_
      refine vi_icmp_ne (tgt := 82) (dec_of DX0_placeAccents 33 rfl) (by decide) (by first | omega | exact hI _ | (have := cc_r (I 17) (I 18) 3; omega) | (have := accB_r (F 11) (I 16).toNat; simp [uN]; omega)) (by first | omega | exact hI _ | (have := cc_r (I 17) (I 18) 3; omega) | (have := accB_r (F 11) (I 16).toNat; simp [uN]; omega)) (fun c61 => ?_) (fun c61 => absurd c61 (by simp only [uN_s]; omega))
      exact vi_vret (dec_of DX0_placeAccents 44 rfl) rfl ⟨by decide, by decide⟩ (hz)
  · rw [if_neg h2] at hz
    refine v_aload_n (dec_of DX0_placeAccents 19 rfl) rfl ?_
    refine vi_const (dec_of DX0_placeAccents 20 rfl) ?_
    refine v_V1r (k_cc hF hI (by unfold NR; exact hN) hT hH (by omega)) lX0_68 (dec_of DX0_placeAccents 21 rfl) rfl rfl (by decide) (nle rfl) rfl ?_
    refine vi_const (dec_of DX0_placeAccents 22 rfl) ?_
    refine vi_icmp_ne (tgt := 82) (dec_of DX0_placeAccents 23 rfl) (by decide) (by first | omega | exact hI _ | (have := cc_r (I 17) (I 18) 3; omega) | (have := accB_r (F 11) (I 16).toNat; simp [uN]; omega)) (by first | omega | exact hI _ | (have := cc_r (I 17) (I 18) 3; omega) | (have := accB_r (F 11) (I 16).toNat; simp [uN]; omega)) (fun c40 => ?_) (fun c40 => absurd c40 (by omega))
    exact vi_vret (dec_of DX0_placeAccents 44 rfl) rfl ⟨by decide, by decide⟩ (hz)
set_option maxRecDepth 100000 in
set_option maxHeartbeats 4000000 in
theorem k_place11 {T : XW} {I N : Nat → Int} {F : Nat → Int → Int} (hF : FR F) (hI : IR I) (hN : NR N) (hT : 1 ≤ I 17 ∧ I 17 ≤ 8) (hH : 0 ≤ I 18 ∧ I 18 ≤ 1) (hn : 0 < N 11) : Sd (rm 2 45 0 0) mX0_placeAccents [.ref 28, .ref 26] (cls I N F ++ T) (cls (if cc (I 17) (I 18) 3 = 2 then uN (uN I 16 (lastP (F 11) (N 11))) 15 (firstP (F 11) (lastP (F 11) (N 11))) else uN I 16 (lastP (F 11) (N 11))) N F ++ T) (none) := by
  unfold Sd
  unfold NR at hN
  have hz := accB_r (F 11) (N 11).toNat
  refine sp_of (ls := [some (.ref 28), some (.ref 26), none]) (by decide) (nle rfl) rfl rfl ?_
  by_cases h1 : accB (F 11) (N 11).toNat = -100
  · have eL : lastP (F 11) (N 11) = (if N 11 - 2 < 0 then 0 else N 11 - 2) := by rw [lastP, if_pos h1]
    rw [eL]
    refine v_aload_n (dec_of DX0_placeAccents 0 rfl) rfl ?_
    refine v_V0r (c11_size) lX0_41 (dec_of DX0_placeAccents 1 rfl) rfl rfl (by decide) (nle rfl) rfl ?_
    refine v_istore_n (dec_of DX0_placeAccents 2 rfl) (by decide) ?_
    dsimp only [List.set]
    refine v_aload_n (dec_of DX0_placeAccents 3 rfl) rfl ?_
    refine v_aload_n (dec_of DX0_placeAccents 4 rfl) rfl ?_
    refine v_iload_n (dec_of DX0_placeAccents 5 rfl) rfl ?_
    refine v_S2r (k_acc11 hF hI (by unfold NR; exact hN) (by omega)) lX0_56 (dec_of DX0_placeAccents 6 rfl) (by decide) (nle rfl) rfl ?_
    refine cp_16 fX0_38 (dec_of DX0_placeAccents 7 rfl) ?_
    refine v_aload_n (dec_of DX0_placeAccents 8 rfl) rfl ?_
    refine v_get fX0_38 (dec_of DX0_placeAccents 9 rfl) rfl rfl ?_
    refine vi_bi (dec_of DX0_placeAccents 10 rfl) (by decide) ?_
    refine vi_icmp_ne (tgt := 34) (dec_of DX0_placeAccents 11 rfl) (by decide) (by first | omega | exact hI _ | (simp only [uN_s]; omega)) (by first | omega | exact hI _ | (simp only [uN_s]; omega)) (fun c20 => absurd c20 (by simp only [uN_s]; omega)) (fun c20 => ?_)
    refine v_aload_n (dec_of DX0_placeAccents 12 rfl) rfl ?_
    refine v_iload_n (dec_of DX0_placeAccents 13 rfl) rfl ?_
    refine vi_const (dec_of DX0_placeAccents 14 rfl) ?_
    refine vi_sub (dec_of DX0_placeAccents 15 rfl) ?_
    refine vi_const (dec_of DX0_placeAccents 16 rfl) ?_
    refine v_S2r (k_max (by omega) (by omega)) lX0_60 (dec_of DX0_placeAccents 17 rfl) (by decide) (nle rfl) rfl ?_
    refine cp_16 fX0_38 (dec_of DX0_placeAccents 18 rfl) ?_
    rw [uN_uu]
    exact k_place_t11 hF (hI.up (by omega)) (by unfold NR; exact hN) hT hH (by simp only [uN_s]; omega) ⟨rfl, rfl⟩
  · have eL : lastP (F 11) (N 11) = accB (F 11) (N 11).toNat := by rw [lastP, if_neg h1]
    rw [eL]
    refine v_aload_n (dec_of DX0_placeAccents 0 rfl) rfl ?_
    refine v_V0r (c11_size) lX0_41 (dec_of DX0_placeAccents 1 rfl) rfl rfl (by decide) (nle rfl) rfl ?_
    refine v_istore_n (dec_of DX0_placeAccents 2 rfl) (by decide) ?_
    dsimp only [List.set]
    refine v_aload_n (dec_of DX0_placeAccents 3 rfl) rfl ?_
    refine v_aload_n (dec_of DX0_placeAccents 4 rfl) rfl ?_
    refine v_iload_n (dec_of DX0_placeAccents 5 rfl) rfl ?_
    refine v_S2r (k_acc11 hF hI (by unfold NR; exact hN) (by omega)) lX0_56 (dec_of DX0_placeAccents 6 rfl) (by decide) (nle rfl) rfl ?_
    refine cp_16 fX0_38 (dec_of DX0_placeAccents 7 rfl) ?_
    refine v_aload_n (dec_of DX0_placeAccents 8 rfl) rfl ?_
    refine v_get fX0_38 (dec_of DX0_placeAccents 9 rfl) rfl rfl ?_
    refine vi_bi (dec_of DX0_placeAccents 10 rfl) (by decide) ?_
    refine vi_icmp_ne (tgt := 34) (dec_of DX0_placeAccents 11 rfl) (by decide) (by first | omega | exact hI _ | (simp only [uN_s]; omega)) (by first | omega | exact hI _ | (simp only [uN_s]; omega)) (fun c20 => ?_) (fun c20 => absurd c20 (by simp only [uN_s]; omega))
    exact k_place_t11 hF (hI.up (by omega)) (by unfold NR; exact hN) hT hH (by simp only [uN_s]; omega) ⟨rfl, rfl⟩
end
section
/-! Fitting.fit, Psalm (printed by wip/tools/gen_c6.py) -/
theorem cc0 {t h : Int} (ht : 1 ≤ t ∧ t ≤ 8) (hh : 0 ≤ h ∧ h ≤ 1) : 0 ≤ cc t h 0 ∧ cc t h 0 ≤ 2 := by
  have key : ∀ n : Nat, n < 8 → ∀ m : Nat, m < 2 → 0 ≤ tabC.getD (n * 20 + (2 + m * 9 + 0)) 0 ∧ tabC.getD (n * 20 + (2 + m * 9 + 0)) 0 ≤ 2 := by decide +kernel
  have := key (t - 1).toNat (by omega) h.toNat (by omega)
  unfold cc cel tI
  rw [show ((t - 1) * 20 + (2 + h * 9 + 0)).toNat = (t - 1).toNat * 20 + (2 + h.toNat * 9 + 0) by omega]
  exact this
theorem r32c {a : Int} (h : -4 ≤ a ∧ a ≤ 2) : -2147483648 ≤ a ∧ a < 2147483648 := by omega
def opn (h : Int) : Int := if h = 0 then 2 else 0
def frs (I : Nat → Int) : Int := if I 15 = -100 then I 16 else I 15
abbrev shr (I : Nat → Int) : Prop := (cc (I 17) (I 18) 3 = 2 ∧ I 15 = -100) ∨ frs I < opn (I 18) + cc (I 17) (I 18) 0 + 1
set_option maxRecDepth 100000 in
set_option maxHeartbeats 4000000 in
theorem k_choose_short {T : XW} {I N : Nat → Int} {F : Nat → Int → Int} (hF : FR F) (hI : IR I) (hN : NR N) (hT : 1 ≤ I 17 ∧ I 17 ≤ 8) (hH : 0 ≤ I 18 ∧ I 18 ≤ 1) (hs : shr I) : Sd (rm 2 43 0 0) mX0_chooseForm [.ref 28] (cls I N F ++ T) (cls (uN (uN (uN (uN I 14 1) 15 (-100)) 19 0) 20 0) N F ++ T) (none) := by
  unfold Sd
  unfold NR at hN
  have hc0 := cc_r (I 17) (I 18) 0
  have hc3 := cc_r (I 17) (I 18) 3
  refine sp_of (ls := [some (.ref 28), none]) (by decide) (nle rfl) rfl rfl ?_
  refine v_aload_n (dec_of DX0_chooseForm 0 rfl) rfl ?_
  refine v_aload_n (dec_of DX0_chooseForm 1 rfl) rfl ?_
  refine v_get fX0_24 (dec_of DX0_chooseForm 2 rfl) rfl rfl ?_
  try simp (disch := decide) only [uN_s, uN_n]
  refine vi_if_ne (tgt := 12) (dec_of DX0_chooseForm 3 rfl) (by decide) (by first | omega | exact hI _ | exact r32c (cc_r _ _ _) | (have h15 := hI 15; have h16 := hI 16; omega) | (have := cc_r (I 17) (I 18) 3; omega) | (have := cc_r (I 17) (I 18) 3; simp [uN]; omega) | (have h15 := hI 15; have h16 := hI 16; have := cc_r (I 17) (I 18) 0; simp [uN]; omega)) (fun c5 => ?_) (fun c5 => ?_)
  · refine vi_const (dec_of DX0_chooseForm 6 rfl) ?_
    refine cp_19 fX0_75 (dec_of DX0_chooseForm 7 rfl) ?_
    refine v_aload_n (dec_of DX0_chooseForm 8 rfl) rfl ?_
    refine v_aload_n (dec_of DX0_chooseForm 9 rfl) rfl ?_
    refine vi_const (dec_of DX0_chooseForm 10 rfl) ?_
    refine v_V1r (k_cc hF (hI.up (by omega)) (by unfold NR; exact hN) hT hH (by omega)) lX0_68 (dec_of DX0_chooseForm 11 rfl) rfl rfl (by decide) (nle rfl) rfl ?_
    try simp (disch := decide) only [uN_s, uN_n]
    refine cp_20 fX0_78 (dec_of DX0_chooseForm 12 rfl) ?_
    refine v_aload_n (dec_of DX0_chooseForm 13 rfl) rfl ?_
    refine vi_const (dec_of DX0_chooseForm 14 rfl) ?_
    refine v_V1r (k_cc hF ((hI.up (by omega)).up (by first | omega | exact r32c (cc_r _ _ _))) (by unfold NR; exact hN) hT hH (by omega)) lX0_68 (dec_of DX0_chooseForm 15 rfl) rfl rfl (by decide) (nle rfl) rfl ?_
    try simp (disch := decide) only [uN_s, uN_n]
    refine vi_const (dec_of DX0_chooseForm 16 rfl) ?_
    refine vi_icmp_ne (tgt := 47) (dec_of DX0_chooseForm 17 rfl) (by decide) (by first | omega | exact hI _ | exact r32c (cc_r _ _ _) | (have h15 := hI 15; have h16 := hI 16; omega) | (have := cc_r (I 17) (I 18) 3; omega) | (have := cc_r (I 17) (I 18) 3; simp [uN]; omega) | (have h15 := hI 15; have h16 := hI 16; have := cc_r (I 17) (I 18) 0; simp [uN]; omega)) (by first | omega | exact hI _ | exact r32c (cc_r _ _ _) | (have h15 := hI 15; have h16 := hI 16; omega) | (have := cc_r (I 17) (I 18) 3; omega) | (have := cc_r (I 17) (I 18) 3; simp [uN]; omega) | (have h15 := hI 15; have h16 := hI 16; have := cc_r (I 17) (I 18) 0; simp [uN]; omega)) (fun c31 => ?_) (fun c31 => ?_)
    · refine vi_const (dec_of DX0_chooseForm 24 rfl) ?_
      refine v_istore_n (dec_of DX0_chooseForm 25 rfl) (by decide) ?_
      dsimp only [List.set]
      refine v_aload_n (dec_of DX0_chooseForm 26 rfl) rfl ?_
      refine v_iload_n (dec_of DX0_chooseForm 27 rfl) rfl ?_
      refine vi_if_ne (tgt := 72) (dec_of DX0_chooseForm 28 rfl) (by decide) (by first | omega | exact hI _ | exact r32c (cc_r _ _ _) | (have h15 := hI 15; have h16 := hI 16; omega) | (have := cc_r (I 17) (I 18) 3; omega) | (have := cc_r (I 17) (I 18) 3; simp [uN]; omega) | (have h15 := hI 15; have h16 := hI 16; have := cc_r (I 17) (I 18) 0; simp [uN]; omega)) (fun c51 => ?_) (fun c51 => ?_)
      · refine vi_const (dec_of DX0_chooseForm 39 rfl) ?_
        refine v_goto (tgt := 77) (dec_of DX0_chooseForm 40 rfl) (by decide) ?_
        refine cp_14 fX0_31 (dec_of DX0_chooseForm 42 rfl) (by omega) ?_
        refine v_aload_n (dec_of DX0_chooseForm 43 rfl) rfl ?_
        refine v_get fX0_31 (dec_of DX0_chooseForm 44 rfl) rfl rfl ?_
        try simp (disch := decide) only [uN_s, uN_n]
        refine vi_if_eq (tgt := 103) (dec_of DX0_chooseForm 45 rfl) (by decide) (by first | omega | exact hI _ | exact r32c (cc_r _ _ _) | (have h15 := hI 15; have h16 := hI 16; omega) | (have := cc_r (I 17) (I 18) 3; omega) | (have := cc_r (I 17) (I 18) 3; simp [uN]; omega) | (have h15 := hI 15; have h16 := hI 16; have := cc_r (I 17) (I 18) 0; simp [uN]; omega)) (fun c84 => absurd c84 (by first | decide | simp [uN])) (fun c84 => ?_)
        refine v_aload_n (dec_of DX0_chooseForm 46 rfl) rfl ?_
        refine vi_bi (dec_of DX0_chooseForm 47 rfl) (by decide) ?_
        refine cp_15 fX0_35 (dec_of DX0_chooseForm 48 rfl) ?_
        refine v_aload_n (dec_of DX0_chooseForm 49 rfl) rfl ?_
        refine vi_const (dec_of DX0_chooseForm 50 rfl) ?_
        refine cp_19 fX0_75 (dec_of DX0_chooseForm 51 rfl) ?_
        refine v_aload_n (dec_of DX0_chooseForm 52 rfl) rfl ?_
        refine vi_const (dec_of DX0_chooseForm 53 rfl) ?_
        refine cp_20 fX0_78 (dec_of DX0_chooseForm 54 rfl) ?_
        exact vi_vret (dec_of DX0_chooseForm 55 rfl) rfl ⟨by decide, by decide⟩ (⟨by first | rfl | (rw [opn, if_pos (by assumption)]; rfl) | (rw [opn, if_neg (by assumption)]; rfl), rfl⟩)
      · refine v_aload_n (dec_of DX0_chooseForm 29 rfl) rfl ?_
        refine v_V0r (k_firstPlaced hF ((hI.up (by omega)).up (by first | omega | exact r32c (cc_r _ _ _))) (by unfold NR; exact hN)) lX0_81 (dec_of DX0_chooseForm 30 rfl) rfl rfl (by decide) (nle rfl) rfl ?_
        try simp (disch := decide) only [uN_s, uN_n]
        refine v_aload_n (dec_of DX0_chooseForm 31 rfl) rfl ?_
        refine v_get fX0_75 (dec_of DX0_chooseForm 32 rfl) rfl rfl ?_
        try simp (disch := decide) only [uN_s, uN_n]
        refine v_aload_n (dec_of DX0_chooseForm 33 rfl) rfl ?_
        refine v_get fX0_78 (dec_of DX0_chooseForm 34 rfl) rfl rfl ?_
        try simp (disch := decide) only [uN_s, uN_n]
        refine vi_add (dec_of DX0_chooseForm 35 rfl) ?_
        refine vi_const (dec_of DX0_chooseForm 36 rfl) ?_
        refine vi_add (dec_of DX0_chooseForm 37 rfl) ?_
        refine vi_icmp_ge (tgt := 76) (dec_of DX0_chooseForm 38 rfl) (by decide) (by first | omega | exact hI _ | exact r32c (cc_r _ _ _) | (have h15 := hI 15; have h16 := hI 16; omega) | (have := cc_r (I 17) (I 18) 3; omega) | (have := cc_r (I 17) (I 18) 3; simp [uN]; omega) | (have h15 := hI 15; have h16 := hI 16; have := cc_r (I 17) (I 18) 0; simp [uN]; omega)) (by first | omega | exact hI _ | exact r32c (cc_r _ _ _) | (have h15 := hI 15; have h16 := hI 16; omega) | (have := cc_r (I 17) (I 18) 3; omega) | (have := cc_r (I 17) (I 18) 3; simp [uN]; omega) | (have h15 := hI 15; have h16 := hI 16; have := cc_r (I 17) (I 18) 0; simp [uN]; omega)) (fun c69 => ?_) (fun c69 => ?_)
        · exact absurd hs (by unfold shr frs opn; omega)
        · refine vi_const (dec_of DX0_chooseForm 39 rfl) ?_
          refine v_goto (tgt := 77) (dec_of DX0_chooseForm 40 rfl) (by decide) ?_
          refine cp_14 fX0_31 (dec_of DX0_chooseForm 42 rfl) (by omega) ?_
          refine v_aload_n (dec_of DX0_chooseForm 43 rfl) rfl ?_
          refine v_get fX0_31 (dec_of DX0_chooseForm 44 rfl) rfl rfl ?_
          try simp (disch := decide) only [uN_s, uN_n]
          refine vi_if_eq (tgt := 103) (dec_of DX0_chooseForm 45 rfl) (by decide) (by first | omega | exact hI _ | exact r32c (cc_r _ _ _) | (have h15 := hI 15; have h16 := hI 16; omega) | (have := cc_r (I 17) (I 18) 3; omega) | (have := cc_r (I 17) (I 18) 3; simp [uN]; omega) | (have h15 := hI 15; have h16 := hI 16; have := cc_r (I 17) (I 18) 0; simp [uN]; omega)) (fun c84 => absurd c84 (by first | decide | simp [uN])) (fun c84 => ?_)
          refine v_aload_n (dec_of DX0_chooseForm 46 rfl) rfl ?_
          refine vi_bi (dec_of DX0_chooseForm 47 rfl) (by decide) ?_
          refine cp_15 fX0_35 (dec_of DX0_chooseForm 48 rfl) ?_
          refine v_aload_n (dec_of DX0_chooseForm 49 rfl) rfl ?_
          refine vi_const (dec_of DX0_chooseForm 50 rfl) ?_
          refine cp_19 fX0_75 (dec_of DX0_chooseForm 51 rfl) ?_
          refine v_aload_n (dec_of DX0_chooseForm 52 rfl) rfl ?_
          refine vi_const (dec_of DX0_chooseForm 53 rfl) ?_
          refine cp_20 fX0_78 (dec_of DX0_chooseForm 54 rfl) ?_
          exact vi_vret (dec_of DX0_chooseForm 55 rfl) rfl ⟨by decide, by decide⟩ (⟨by first | rfl | (rw [opn, if_pos (by assumption)]; rfl) | (rw [opn, if_neg (by assumption)]; rfl), rfl⟩)
    · refine v_aload_n (dec_of DX0_chooseForm 18 rfl) rfl ?_
      refine v_get fX0_35 (dec_of DX0_chooseForm 19 rfl) rfl rfl ?_
      try simp (disch := decide) only [uN_s, uN_n]
      refine vi_bi (dec_of DX0_chooseForm 20 rfl) (by decide) ?_
      refine vi_icmp_ne (tgt := 47) (dec_of DX0_chooseForm 21 rfl) (by decide) (by first | omega | exact hI _ | exact r32c (cc_r _ _ _) | (have h15 := hI 15; have h16 := hI 16; omega) | (have := cc_r (I 17) (I 18) 3; omega) | (have := cc_r (I 17) (I 18) 3; simp [uN]; omega) | (have h15 := hI 15; have h16 := hI 16; have := cc_r (I 17) (I 18) 0; simp [uN]; omega)) (by first | omega | exact hI _ | exact r32c (cc_r _ _ _) | (have h15 := hI 15; have h16 := hI 16; omega) | (have := cc_r (I 17) (I 18) 3; omega) | (have := cc_r (I 17) (I 18) 3; simp [uN]; omega) | (have h15 := hI 15; have h16 := hI 16; have := cc_r (I 17) (I 18) 0; simp [uN]; omega)) (fun c40 => ?_) (fun c40 => ?_)
      · refine vi_const (dec_of DX0_chooseForm 24 rfl) ?_
        refine v_istore_n (dec_of DX0_chooseForm 25 rfl) (by decide) ?_
        dsimp only [List.set]
        refine v_aload_n (dec_of DX0_chooseForm 26 rfl) rfl ?_
        refine v_iload_n (dec_of DX0_chooseForm 27 rfl) rfl ?_
        refine vi_if_ne (tgt := 72) (dec_of DX0_chooseForm 28 rfl) (by decide) (by first | omega | exact hI _ | exact r32c (cc_r _ _ _) | (have h15 := hI 15; have h16 := hI 16; omega) | (have := cc_r (I 17) (I 18) 3; omega) | (have := cc_r (I 17) (I 18) 3; simp [uN]; omega) | (have h15 := hI 15; have h16 := hI 16; have := cc_r (I 17) (I 18) 0; simp [uN]; omega)) (fun c51 => ?_) (fun c51 => ?_)
        · refine vi_const (dec_of DX0_chooseForm 39 rfl) ?_
          refine v_goto (tgt := 77) (dec_of DX0_chooseForm 40 rfl) (by decide) ?_
          refine cp_14 fX0_31 (dec_of DX0_chooseForm 42 rfl) (by omega) ?_
          refine v_aload_n (dec_of DX0_chooseForm 43 rfl) rfl ?_
          refine v_get fX0_31 (dec_of DX0_chooseForm 44 rfl) rfl rfl ?_
          try simp (disch := decide) only [uN_s, uN_n]
          refine vi_if_eq (tgt := 103) (dec_of DX0_chooseForm 45 rfl) (by decide) (by first | omega | exact hI _ | exact r32c (cc_r _ _ _) | (have h15 := hI 15; have h16 := hI 16; omega) | (have := cc_r (I 17) (I 18) 3; omega) | (have := cc_r (I 17) (I 18) 3; simp [uN]; omega) | (have h15 := hI 15; have h16 := hI 16; have := cc_r (I 17) (I 18) 0; simp [uN]; omega)) (fun c84 => absurd c84 (by first | decide | simp [uN])) (fun c84 => ?_)
          refine v_aload_n (dec_of DX0_chooseForm 46 rfl) rfl ?_
          refine vi_bi (dec_of DX0_chooseForm 47 rfl) (by decide) ?_
          refine cp_15 fX0_35 (dec_of DX0_chooseForm 48 rfl) ?_
          refine v_aload_n (dec_of DX0_chooseForm 49 rfl) rfl ?_
          refine vi_const (dec_of DX0_chooseForm 50 rfl) ?_
          refine cp_19 fX0_75 (dec_of DX0_chooseForm 51 rfl) ?_
          refine v_aload_n (dec_of DX0_chooseForm 52 rfl) rfl ?_
          refine vi_const (dec_of DX0_chooseForm 53 rfl) ?_
          refine cp_20 fX0_78 (dec_of DX0_chooseForm 54 rfl) ?_
          exact vi_vret (dec_of DX0_chooseForm 55 rfl) rfl ⟨by decide, by decide⟩ (⟨by first | rfl | (rw [opn, if_pos (by assumption)]; rfl) | (rw [opn, if_neg (by assumption)]; rfl), rfl⟩)
        · refine v_aload_n (dec_of DX0_chooseForm 29 rfl) rfl ?_
          refine v_V0r (k_firstPlaced hF ((hI.up (by omega)).up (by first | omega | exact r32c (cc_r _ _ _))) (by unfold NR; exact hN)) lX0_81 (dec_of DX0_chooseForm 30 rfl) rfl rfl (by decide) (nle rfl) rfl ?_
          try simp (disch := decide) only [uN_s, uN_n]
          refine v_aload_n (dec_of DX0_chooseForm 31 rfl) rfl ?_
          refine v_get fX0_75 (dec_of DX0_chooseForm 32 rfl) rfl rfl ?_
          try simp (disch := decide) only [uN_s, uN_n]
          refine v_aload_n (dec_of DX0_chooseForm 33 rfl) rfl ?_
          refine v_get fX0_78 (dec_of DX0_chooseForm 34 rfl) rfl rfl ?_
          try simp (disch := decide) only [uN_s, uN_n]
          refine vi_add (dec_of DX0_chooseForm 35 rfl) ?_
          refine vi_const (dec_of DX0_chooseForm 36 rfl) ?_
          refine vi_add (dec_of DX0_chooseForm 37 rfl) ?_
          refine vi_icmp_ge (tgt := 76) (dec_of DX0_chooseForm 38 rfl) (by decide) (by first | omega | exact hI _ | exact r32c (cc_r _ _ _) | (have h15 := hI 15; have h16 := hI 16; omega) | (have := cc_r (I 17) (I 18) 3; omega) | (have := cc_r (I 17) (I 18) 3; simp [uN]; omega) | (have h15 := hI 15; have h16 := hI 16; have := cc_r (I 17) (I 18) 0; simp [uN]; omega)) (by first | omega | exact hI _ | exact r32c (cc_r _ _ _) | (have h15 := hI 15; have h16 := hI 16; omega) | (have := cc_r (I 17) (I 18) 3; omega) | (have := cc_r (I 17) (I 18) 3; simp [uN]; omega) | (have h15 := hI 15; have h16 := hI 16; have := cc_r (I 17) (I 18) 0; simp [uN]; omega)) (fun c69 => ?_) (fun c69 => ?_)
          · exact absurd hs (by unfold shr frs opn; omega)
          · refine vi_const (dec_of DX0_chooseForm 39 rfl) ?_
            refine v_goto (tgt := 77) (dec_of DX0_chooseForm 40 rfl) (by decide) ?_
            refine cp_14 fX0_31 (dec_of DX0_chooseForm 42 rfl) (by omega) ?_
            refine v_aload_n (dec_of DX0_chooseForm 43 rfl) rfl ?_
            refine v_get fX0_31 (dec_of DX0_chooseForm 44 rfl) rfl rfl ?_
            try simp (disch := decide) only [uN_s, uN_n]
            refine vi_if_eq (tgt := 103) (dec_of DX0_chooseForm 45 rfl) (by decide) (by first | omega | exact hI _ | exact r32c (cc_r _ _ _) | (have h15 := hI 15; have h16 := hI 16; omega) | (have := cc_r (I 17) (I 18) 3; omega) | (have := cc_r (I 17) (I 18) 3; simp [uN]; omega) | (have h15 := hI 15; have h16 := hI 16; have := cc_r (I 17) (I 18) 0; simp [uN]; omega)) (fun c84 => absurd c84 (by first | decide | simp [uN])) (fun c84 => ?_)
            refine v_aload_n (dec_of DX0_chooseForm 46 rfl) rfl ?_
            refine vi_bi (dec_of DX0_chooseForm 47 rfl) (by decide) ?_
            refine cp_15 fX0_35 (dec_of DX0_chooseForm 48 rfl) ?_
            refine v_aload_n (dec_of DX0_chooseForm 49 rfl) rfl ?_
            refine vi_const (dec_of DX0_chooseForm 50 rfl) ?_
            refine cp_19 fX0_75 (dec_of DX0_chooseForm 51 rfl) ?_
            refine v_aload_n (dec_of DX0_chooseForm 52 rfl) rfl ?_
            refine vi_const (dec_of DX0_chooseForm 53 rfl) ?_
            refine cp_20 fX0_78 (dec_of DX0_chooseForm 54 rfl) ?_
            exact vi_vret (dec_of DX0_chooseForm 55 rfl) rfl ⟨by decide, by decide⟩ (⟨by first | rfl | (rw [opn, if_pos (by assumption)]; rfl) | (rw [opn, if_neg (by assumption)]; rfl), rfl⟩)
      · refine vi_const (dec_of DX0_chooseForm 22 rfl) ?_
        refine v_goto (tgt := 48) (dec_of DX0_chooseForm 23 rfl) (by decide) ?_
        refine v_istore_n (dec_of DX0_chooseForm 25 rfl) (by decide) ?_
        dsimp only [List.set]
        refine v_aload_n (dec_of DX0_chooseForm 26 rfl) rfl ?_
        refine v_iload_n (dec_of DX0_chooseForm 27 rfl) rfl ?_
        refine vi_if_ne (tgt := 72) (dec_of DX0_chooseForm 28 rfl) (by decide) (by first | omega | exact hI _ | exact r32c (cc_r _ _ _) | (have h15 := hI 15; have h16 := hI 16; omega) | (have := cc_r (I 17) (I 18) 3; omega) | (have := cc_r (I 17) (I 18) 3; simp [uN]; omega) | (have h15 := hI 15; have h16 := hI 16; have := cc_r (I 17) (I 18) 0; simp [uN]; omega)) (fun c51 => ?_) (fun c51 => ?_)
        · refine vi_const (dec_of DX0_chooseForm 39 rfl) ?_
          refine v_goto (tgt := 77) (dec_of DX0_chooseForm 40 rfl) (by decide) ?_
          refine cp_14 fX0_31 (dec_of DX0_chooseForm 42 rfl) (by omega) ?_
          refine v_aload_n (dec_of DX0_chooseForm 43 rfl) rfl ?_
          refine v_get fX0_31 (dec_of DX0_chooseForm 44 rfl) rfl rfl ?_
          try simp (disch := decide) only [uN_s, uN_n]
          refine vi_if_eq (tgt := 103) (dec_of DX0_chooseForm 45 rfl) (by decide) (by first | omega | exact hI _ | exact r32c (cc_r _ _ _) | (have h15 := hI 15; have h16 := hI 16; omega) | (have := cc_r (I 17) (I 18) 3; omega) | (have := cc_r (I 17) (I 18) 3; simp [uN]; omega) | (have h15 := hI 15; have h16 := hI 16; have := cc_r (I 17) (I 18) 0; simp [uN]; omega)) (fun c84 => absurd c84 (by first | decide | simp [uN])) (fun c84 => ?_)
          refine v_aload_n (dec_of DX0_chooseForm 46 rfl) rfl ?_
          refine vi_bi (dec_of DX0_chooseForm 47 rfl) (by decide) ?_
          refine cp_15 fX0_35 (dec_of DX0_chooseForm 48 rfl) ?_
          refine v_aload_n (dec_of DX0_chooseForm 49 rfl) rfl ?_
          refine vi_const (dec_of DX0_chooseForm 50 rfl) ?_
          refine cp_19 fX0_75 (dec_of DX0_chooseForm 51 rfl) ?_
          refine v_aload_n (dec_of DX0_chooseForm 52 rfl) rfl ?_
          refine vi_const (dec_of DX0_chooseForm 53 rfl) ?_
          refine cp_20 fX0_78 (dec_of DX0_chooseForm 54 rfl) ?_
          exact vi_vret (dec_of DX0_chooseForm 55 rfl) rfl ⟨by decide, by decide⟩ (⟨by first | rfl | (rw [opn, if_pos (by assumption)]; rfl) | (rw [opn, if_neg (by assumption)]; rfl), rfl⟩)
        · refine v_aload_n (dec_of DX0_chooseForm 29 rfl) rfl ?_
          refine v_V0r (k_firstPlaced hF ((hI.up (by omega)).up (by first | omega | exact r32c (cc_r _ _ _))) (by unfold NR; exact hN)) lX0_81 (dec_of DX0_chooseForm 30 rfl) rfl rfl (by decide) (nle rfl) rfl ?_
          try simp (disch := decide) only [uN_s, uN_n]
          refine v_aload_n (dec_of DX0_chooseForm 31 rfl) rfl ?_
          refine v_get fX0_75 (dec_of DX0_chooseForm 32 rfl) rfl rfl ?_
          try simp (disch := decide) only [uN_s, uN_n]
          refine v_aload_n (dec_of DX0_chooseForm 33 rfl) rfl ?_
          refine v_get fX0_78 (dec_of DX0_chooseForm 34 rfl) rfl rfl ?_
          try simp (disch := decide) only [uN_s, uN_n]
          refine vi_add (dec_of DX0_chooseForm 35 rfl) ?_
          refine vi_const (dec_of DX0_chooseForm 36 rfl) ?_
          refine vi_add (dec_of DX0_chooseForm 37 rfl) ?_
          refine vi_icmp_ge (tgt := 76) (dec_of DX0_chooseForm 38 rfl) (by decide) (by first | omega | exact hI _ | exact r32c (cc_r _ _ _) | (have h15 := hI 15; have h16 := hI 16; omega) | (have := cc_r (I 17) (I 18) 3; omega) | (have := cc_r (I 17) (I 18) 3; simp [uN]; omega) | (have h15 := hI 15; have h16 := hI 16; have := cc_r (I 17) (I 18) 0; simp [uN]; omega)) (by first | omega | exact hI _ | exact r32c (cc_r _ _ _) | (have h15 := hI 15; have h16 := hI 16; omega) | (have := cc_r (I 17) (I 18) 3; omega) | (have := cc_r (I 17) (I 18) 3; simp [uN]; omega) | (have h15 := hI 15; have h16 := hI 16; have := cc_r (I 17) (I 18) 0; simp [uN]; omega)) (fun c69 => ?_) (fun c69 => ?_)
          · exact absurd hs (by unfold shr frs opn; omega)
          · refine vi_const (dec_of DX0_chooseForm 39 rfl) ?_
            refine v_goto (tgt := 77) (dec_of DX0_chooseForm 40 rfl) (by decide) ?_
            refine cp_14 fX0_31 (dec_of DX0_chooseForm 42 rfl) (by omega) ?_
            refine v_aload_n (dec_of DX0_chooseForm 43 rfl) rfl ?_
            refine v_get fX0_31 (dec_of DX0_chooseForm 44 rfl) rfl rfl ?_
            try simp (disch := decide) only [uN_s, uN_n]
            refine vi_if_eq (tgt := 103) (dec_of DX0_chooseForm 45 rfl) (by decide) (by first | omega | exact hI _ | exact r32c (cc_r _ _ _) | (have h15 := hI 15; have h16 := hI 16; omega) | (have := cc_r (I 17) (I 18) 3; omega) | (have := cc_r (I 17) (I 18) 3; simp [uN]; omega) | (have h15 := hI 15; have h16 := hI 16; have := cc_r (I 17) (I 18) 0; simp [uN]; omega)) (fun c84 => absurd c84 (by first | decide | simp [uN])) (fun c84 => ?_)
            refine v_aload_n (dec_of DX0_chooseForm 46 rfl) rfl ?_
            refine vi_bi (dec_of DX0_chooseForm 47 rfl) (by decide) ?_
            refine cp_15 fX0_35 (dec_of DX0_chooseForm 48 rfl) ?_
            refine v_aload_n (dec_of DX0_chooseForm 49 rfl) rfl ?_
            refine vi_const (dec_of DX0_chooseForm 50 rfl) ?_
            refine cp_19 fX0_75 (dec_of DX0_chooseForm 51 rfl) ?_
            refine v_aload_n (dec_of DX0_chooseForm 52 rfl) rfl ?_
            refine vi_const (dec_of DX0_chooseForm 53 rfl) ?_
            refine cp_20 fX0_78 (dec_of DX0_chooseForm 54 rfl) ?_
            exact vi_vret (dec_of DX0_chooseForm 55 rfl) rfl ⟨by decide, by decide⟩ (⟨by first | rfl | (rw [opn, if_pos (by assumption)]; rfl) | (rw [opn, if_neg (by assumption)]; rfl), rfl⟩)
  · refine vi_const (dec_of DX0_chooseForm 4 rfl) ?_
    refine v_goto (tgt := 13) (dec_of DX0_chooseForm 5 rfl) (by decide) ?_
    refine cp_19 fX0_75 (dec_of DX0_chooseForm 7 rfl) ?_
    refine v_aload_n (dec_of DX0_chooseForm 8 rfl) rfl ?_
    refine v_aload_n (dec_of DX0_chooseForm 9 rfl) rfl ?_
    refine vi_const (dec_of DX0_chooseForm 10 rfl) ?_
    refine v_V1r (k_cc hF (hI.up (by omega)) (by unfold NR; exact hN) hT hH (by omega)) lX0_68 (dec_of DX0_chooseForm 11 rfl) rfl rfl (by decide) (nle rfl) rfl ?_
    try simp (disch := decide) only [uN_s, uN_n]
    refine cp_20 fX0_78 (dec_of DX0_chooseForm 12 rfl) ?_
    refine v_aload_n (dec_of DX0_chooseForm 13 rfl) rfl ?_
    refine vi_const (dec_of DX0_chooseForm 14 rfl) ?_
    refine v_V1r (k_cc hF ((hI.up (by omega)).up (by first | omega | exact r32c (cc_r _ _ _))) (by unfold NR; exact hN) hT hH (by omega)) lX0_68 (dec_of DX0_chooseForm 15 rfl) rfl rfl (by decide) (nle rfl) rfl ?_
    try simp (disch := decide) only [uN_s, uN_n]
    refine vi_const (dec_of DX0_chooseForm 16 rfl) ?_
    refine vi_icmp_ne (tgt := 47) (dec_of DX0_chooseForm 17 rfl) (by decide) (by first | omega | exact hI _ | exact r32c (cc_r _ _ _) | (have h15 := hI 15; have h16 := hI 16; omega) | (have := cc_r (I 17) (I 18) 3; omega) | (have := cc_r (I 17) (I 18) 3; simp [uN]; omega) | (have h15 := hI 15; have h16 := hI 16; have := cc_r (I 17) (I 18) 0; simp [uN]; omega)) (by first | omega | exact hI _ | exact r32c (cc_r _ _ _) | (have h15 := hI 15; have h16 := hI 16; omega) | (have := cc_r (I 17) (I 18) 3; omega) | (have := cc_r (I 17) (I 18) 3; simp [uN]; omega) | (have h15 := hI 15; have h16 := hI 16; have := cc_r (I 17) (I 18) 0; simp [uN]; omega)) (fun c31 => ?_) (fun c31 => ?_)
    · refine vi_const (dec_of DX0_chooseForm 24 rfl) ?_
      refine v_istore_n (dec_of DX0_chooseForm 25 rfl) (by decide) ?_
      dsimp only [List.set]
      refine v_aload_n (dec_of DX0_chooseForm 26 rfl) rfl ?_
      refine v_iload_n (dec_of DX0_chooseForm 27 rfl) rfl ?_
      refine vi_if_ne (tgt := 72) (dec_of DX0_chooseForm 28 rfl) (by decide) (by first | omega | exact hI _ | exact r32c (cc_r _ _ _) | (have h15 := hI 15; have h16 := hI 16; omega) | (have := cc_r (I 17) (I 18) 3; omega) | (have := cc_r (I 17) (I 18) 3; simp [uN]; omega) | (have h15 := hI 15; have h16 := hI 16; have := cc_r (I 17) (I 18) 0; simp [uN]; omega)) (fun c51 => ?_) (fun c51 => ?_)
      · refine vi_const (dec_of DX0_chooseForm 39 rfl) ?_
        refine v_goto (tgt := 77) (dec_of DX0_chooseForm 40 rfl) (by decide) ?_
        refine cp_14 fX0_31 (dec_of DX0_chooseForm 42 rfl) (by omega) ?_
        refine v_aload_n (dec_of DX0_chooseForm 43 rfl) rfl ?_
        refine v_get fX0_31 (dec_of DX0_chooseForm 44 rfl) rfl rfl ?_
        try simp (disch := decide) only [uN_s, uN_n]
        refine vi_if_eq (tgt := 103) (dec_of DX0_chooseForm 45 rfl) (by decide) (by first | omega | exact hI _ | exact r32c (cc_r _ _ _) | (have h15 := hI 15; have h16 := hI 16; omega) | (have := cc_r (I 17) (I 18) 3; omega) | (have := cc_r (I 17) (I 18) 3; simp [uN]; omega) | (have h15 := hI 15; have h16 := hI 16; have := cc_r (I 17) (I 18) 0; simp [uN]; omega)) (fun c84 => absurd c84 (by first | decide | simp [uN])) (fun c84 => ?_)
        refine v_aload_n (dec_of DX0_chooseForm 46 rfl) rfl ?_
        refine vi_bi (dec_of DX0_chooseForm 47 rfl) (by decide) ?_
        refine cp_15 fX0_35 (dec_of DX0_chooseForm 48 rfl) ?_
        refine v_aload_n (dec_of DX0_chooseForm 49 rfl) rfl ?_
        refine vi_const (dec_of DX0_chooseForm 50 rfl) ?_
        refine cp_19 fX0_75 (dec_of DX0_chooseForm 51 rfl) ?_
        refine v_aload_n (dec_of DX0_chooseForm 52 rfl) rfl ?_
        refine vi_const (dec_of DX0_chooseForm 53 rfl) ?_
        refine cp_20 fX0_78 (dec_of DX0_chooseForm 54 rfl) ?_
        exact vi_vret (dec_of DX0_chooseForm 55 rfl) rfl ⟨by decide, by decide⟩ (⟨by first | rfl | (rw [opn, if_pos (by assumption)]; rfl) | (rw [opn, if_neg (by assumption)]; rfl), rfl⟩)
      · refine v_aload_n (dec_of DX0_chooseForm 29 rfl) rfl ?_
        refine v_V0r (k_firstPlaced hF ((hI.up (by omega)).up (by first | omega | exact r32c (cc_r _ _ _))) (by unfold NR; exact hN)) lX0_81 (dec_of DX0_chooseForm 30 rfl) rfl rfl (by decide) (nle rfl) rfl ?_
        try simp (disch := decide) only [uN_s, uN_n]
        refine v_aload_n (dec_of DX0_chooseForm 31 rfl) rfl ?_
        refine v_get fX0_75 (dec_of DX0_chooseForm 32 rfl) rfl rfl ?_
        try simp (disch := decide) only [uN_s, uN_n]
        refine v_aload_n (dec_of DX0_chooseForm 33 rfl) rfl ?_
        refine v_get fX0_78 (dec_of DX0_chooseForm 34 rfl) rfl rfl ?_
        try simp (disch := decide) only [uN_s, uN_n]
        refine vi_add (dec_of DX0_chooseForm 35 rfl) ?_
        refine vi_const (dec_of DX0_chooseForm 36 rfl) ?_
        refine vi_add (dec_of DX0_chooseForm 37 rfl) ?_
        refine vi_icmp_ge (tgt := 76) (dec_of DX0_chooseForm 38 rfl) (by decide) (by first | omega | exact hI _ | exact r32c (cc_r _ _ _) | (have h15 := hI 15; have h16 := hI 16; omega) | (have := cc_r (I 17) (I 18) 3; omega) | (have := cc_r (I 17) (I 18) 3; simp [uN]; omega) | (have h15 := hI 15; have h16 := hI 16; have := cc_r (I 17) (I 18) 0; simp [uN]; omega)) (by first | omega | exact hI _ | exact r32c (cc_r _ _ _) | (have h15 := hI 15; have h16 := hI 16; omega) | (have := cc_r (I 17) (I 18) 3; omega) | (have := cc_r (I 17) (I 18) 3; simp [uN]; omega) | (have h15 := hI 15; have h16 := hI 16; have := cc_r (I 17) (I 18) 0; simp [uN]; omega)) (fun c69 => ?_) (fun c69 => ?_)
        · exact absurd hs (by unfold shr frs opn; omega)
        · refine vi_const (dec_of DX0_chooseForm 39 rfl) ?_
          refine v_goto (tgt := 77) (dec_of DX0_chooseForm 40 rfl) (by decide) ?_
          refine cp_14 fX0_31 (dec_of DX0_chooseForm 42 rfl) (by omega) ?_
          refine v_aload_n (dec_of DX0_chooseForm 43 rfl) rfl ?_
          refine v_get fX0_31 (dec_of DX0_chooseForm 44 rfl) rfl rfl ?_
          try simp (disch := decide) only [uN_s, uN_n]
          refine vi_if_eq (tgt := 103) (dec_of DX0_chooseForm 45 rfl) (by decide) (by first | omega | exact hI _ | exact r32c (cc_r _ _ _) | (have h15 := hI 15; have h16 := hI 16; omega) | (have := cc_r (I 17) (I 18) 3; omega) | (have := cc_r (I 17) (I 18) 3; simp [uN]; omega) | (have h15 := hI 15; have h16 := hI 16; have := cc_r (I 17) (I 18) 0; simp [uN]; omega)) (fun c84 => absurd c84 (by first | decide | simp [uN])) (fun c84 => ?_)
          refine v_aload_n (dec_of DX0_chooseForm 46 rfl) rfl ?_
          refine vi_bi (dec_of DX0_chooseForm 47 rfl) (by decide) ?_
          refine cp_15 fX0_35 (dec_of DX0_chooseForm 48 rfl) ?_
          refine v_aload_n (dec_of DX0_chooseForm 49 rfl) rfl ?_
          refine vi_const (dec_of DX0_chooseForm 50 rfl) ?_
          refine cp_19 fX0_75 (dec_of DX0_chooseForm 51 rfl) ?_
          refine v_aload_n (dec_of DX0_chooseForm 52 rfl) rfl ?_
          refine vi_const (dec_of DX0_chooseForm 53 rfl) ?_
          refine cp_20 fX0_78 (dec_of DX0_chooseForm 54 rfl) ?_
          exact vi_vret (dec_of DX0_chooseForm 55 rfl) rfl ⟨by decide, by decide⟩ (⟨by first | rfl | (rw [opn, if_pos (by assumption)]; rfl) | (rw [opn, if_neg (by assumption)]; rfl), rfl⟩)
    · refine v_aload_n (dec_of DX0_chooseForm 18 rfl) rfl ?_
      refine v_get fX0_35 (dec_of DX0_chooseForm 19 rfl) rfl rfl ?_
      try simp (disch := decide) only [uN_s, uN_n]
      refine vi_bi (dec_of DX0_chooseForm 20 rfl) (by decide) ?_
      refine vi_icmp_ne (tgt := 47) (dec_of DX0_chooseForm 21 rfl) (by decide) (by first | omega | exact hI _ | exact r32c (cc_r _ _ _) | (have h15 := hI 15; have h16 := hI 16; omega) | (have := cc_r (I 17) (I 18) 3; omega) | (have := cc_r (I 17) (I 18) 3; simp [uN]; omega) | (have h15 := hI 15; have h16 := hI 16; have := cc_r (I 17) (I 18) 0; simp [uN]; omega)) (by first | omega | exact hI _ | exact r32c (cc_r _ _ _) | (have h15 := hI 15; have h16 := hI 16; omega) | (have := cc_r (I 17) (I 18) 3; omega) | (have := cc_r (I 17) (I 18) 3; simp [uN]; omega) | (have h15 := hI 15; have h16 := hI 16; have := cc_r (I 17) (I 18) 0; simp [uN]; omega)) (fun c40 => ?_) (fun c40 => ?_)
      · refine vi_const (dec_of DX0_chooseForm 24 rfl) ?_
        refine v_istore_n (dec_of DX0_chooseForm 25 rfl) (by decide) ?_
        dsimp only [List.set]
        refine v_aload_n (dec_of DX0_chooseForm 26 rfl) rfl ?_
        refine v_iload_n (dec_of DX0_chooseForm 27 rfl) rfl ?_
        refine vi_if_ne (tgt := 72) (dec_of DX0_chooseForm 28 rfl) (by decide) (by first | omega | exact hI _ | exact r32c (cc_r _ _ _) | (have h15 := hI 15; have h16 := hI 16; omega) | (have := cc_r (I 17) (I 18) 3; omega) | (have := cc_r (I 17) (I 18) 3; simp [uN]; omega) | (have h15 := hI 15; have h16 := hI 16; have := cc_r (I 17) (I 18) 0; simp [uN]; omega)) (fun c51 => ?_) (fun c51 => ?_)
        · refine vi_const (dec_of DX0_chooseForm 39 rfl) ?_
          refine v_goto (tgt := 77) (dec_of DX0_chooseForm 40 rfl) (by decide) ?_
          refine cp_14 fX0_31 (dec_of DX0_chooseForm 42 rfl) (by omega) ?_
          refine v_aload_n (dec_of DX0_chooseForm 43 rfl) rfl ?_
          refine v_get fX0_31 (dec_of DX0_chooseForm 44 rfl) rfl rfl ?_
          try simp (disch := decide) only [uN_s, uN_n]
          refine vi_if_eq (tgt := 103) (dec_of DX0_chooseForm 45 rfl) (by decide) (by first | omega | exact hI _ | exact r32c (cc_r _ _ _) | (have h15 := hI 15; have h16 := hI 16; omega) | (have := cc_r (I 17) (I 18) 3; omega) | (have := cc_r (I 17) (I 18) 3; simp [uN]; omega) | (have h15 := hI 15; have h16 := hI 16; have := cc_r (I 17) (I 18) 0; simp [uN]; omega)) (fun c84 => absurd c84 (by first | decide | simp [uN])) (fun c84 => ?_)
          refine v_aload_n (dec_of DX0_chooseForm 46 rfl) rfl ?_
          refine vi_bi (dec_of DX0_chooseForm 47 rfl) (by decide) ?_
          refine cp_15 fX0_35 (dec_of DX0_chooseForm 48 rfl) ?_
          refine v_aload_n (dec_of DX0_chooseForm 49 rfl) rfl ?_
          refine vi_const (dec_of DX0_chooseForm 50 rfl) ?_
          refine cp_19 fX0_75 (dec_of DX0_chooseForm 51 rfl) ?_
          refine v_aload_n (dec_of DX0_chooseForm 52 rfl) rfl ?_
          refine vi_const (dec_of DX0_chooseForm 53 rfl) ?_
          refine cp_20 fX0_78 (dec_of DX0_chooseForm 54 rfl) ?_
          exact vi_vret (dec_of DX0_chooseForm 55 rfl) rfl ⟨by decide, by decide⟩ (⟨by first | rfl | (rw [opn, if_pos (by assumption)]; rfl) | (rw [opn, if_neg (by assumption)]; rfl), rfl⟩)
        · refine v_aload_n (dec_of DX0_chooseForm 29 rfl) rfl ?_
          refine v_V0r (k_firstPlaced hF ((hI.up (by omega)).up (by first | omega | exact r32c (cc_r _ _ _))) (by unfold NR; exact hN)) lX0_81 (dec_of DX0_chooseForm 30 rfl) rfl rfl (by decide) (nle rfl) rfl ?_
          try simp (disch := decide) only [uN_s, uN_n]
          refine v_aload_n (dec_of DX0_chooseForm 31 rfl) rfl ?_
          refine v_get fX0_75 (dec_of DX0_chooseForm 32 rfl) rfl rfl ?_
          try simp (disch := decide) only [uN_s, uN_n]
          refine v_aload_n (dec_of DX0_chooseForm 33 rfl) rfl ?_
          refine v_get fX0_78 (dec_of DX0_chooseForm 34 rfl) rfl rfl ?_
          try simp (disch := decide) only [uN_s, uN_n]
          refine vi_add (dec_of DX0_chooseForm 35 rfl) ?_
          refine vi_const (dec_of DX0_chooseForm 36 rfl) ?_
          refine vi_add (dec_of DX0_chooseForm 37 rfl) ?_
          refine vi_icmp_ge (tgt := 76) (dec_of DX0_chooseForm 38 rfl) (by decide) (by first | omega | exact hI _ | exact r32c (cc_r _ _ _) | (have h15 := hI 15; have h16 := hI 16; omega) | (have := cc_r (I 17) (I 18) 3; omega) | (have := cc_r (I 17) (I 18) 3; simp [uN]; omega) | (have h15 := hI 15; have h16 := hI 16; have := cc_r (I 17) (I 18) 0; simp [uN]; omega)) (by first | omega | exact hI _ | exact r32c (cc_r _ _ _) | (have h15 := hI 15; have h16 := hI 16; omega) | (have := cc_r (I 17) (I 18) 3; omega) | (have := cc_r (I 17) (I 18) 3; simp [uN]; omega) | (have h15 := hI 15; have h16 := hI 16; have := cc_r (I 17) (I 18) 0; simp [uN]; omega)) (fun c69 => ?_) (fun c69 => ?_)
          · exact absurd hs (by unfold shr frs opn; omega)
          · refine vi_const (dec_of DX0_chooseForm 39 rfl) ?_
            refine v_goto (tgt := 77) (dec_of DX0_chooseForm 40 rfl) (by decide) ?_
            refine cp_14 fX0_31 (dec_of DX0_chooseForm 42 rfl) (by omega) ?_
            refine v_aload_n (dec_of DX0_chooseForm 43 rfl) rfl ?_
            refine v_get fX0_31 (dec_of DX0_chooseForm 44 rfl) rfl rfl ?_
            try simp (disch := decide) only [uN_s, uN_n]
            refine vi_if_eq (tgt := 103) (dec_of DX0_chooseForm 45 rfl) (by decide) (by first | omega | exact hI _ | exact r32c (cc_r _ _ _) | (have h15 := hI 15; have h16 := hI 16; omega) | (have := cc_r (I 17) (I 18) 3; omega) | (have := cc_r (I 17) (I 18) 3; simp [uN]; omega) | (have h15 := hI 15; have h16 := hI 16; have := cc_r (I 17) (I 18) 0; simp [uN]; omega)) (fun c84 => absurd c84 (by first | decide | simp [uN])) (fun c84 => ?_)
            refine v_aload_n (dec_of DX0_chooseForm 46 rfl) rfl ?_
            refine vi_bi (dec_of DX0_chooseForm 47 rfl) (by decide) ?_
            refine cp_15 fX0_35 (dec_of DX0_chooseForm 48 rfl) ?_
            refine v_aload_n (dec_of DX0_chooseForm 49 rfl) rfl ?_
            refine vi_const (dec_of DX0_chooseForm 50 rfl) ?_
            refine cp_19 fX0_75 (dec_of DX0_chooseForm 51 rfl) ?_
            refine v_aload_n (dec_of DX0_chooseForm 52 rfl) rfl ?_
            refine vi_const (dec_of DX0_chooseForm 53 rfl) ?_
            refine cp_20 fX0_78 (dec_of DX0_chooseForm 54 rfl) ?_
            exact vi_vret (dec_of DX0_chooseForm 55 rfl) rfl ⟨by decide, by decide⟩ (⟨by first | rfl | (rw [opn, if_pos (by assumption)]; rfl) | (rw [opn, if_neg (by assumption)]; rfl), rfl⟩)
      · refine vi_const (dec_of DX0_chooseForm 22 rfl) ?_
        refine v_goto (tgt := 48) (dec_of DX0_chooseForm 23 rfl) (by decide) ?_
        refine v_istore_n (dec_of DX0_chooseForm 25 rfl) (by decide) ?_
        dsimp only [List.set]
        refine v_aload_n (dec_of DX0_chooseForm 26 rfl) rfl ?_
        refine v_iload_n (dec_of DX0_chooseForm 27 rfl) rfl ?_
        refine vi_if_ne (tgt := 72) (dec_of DX0_chooseForm 28 rfl) (by decide) (by first | omega | exact hI _ | exact r32c (cc_r _ _ _) | (have h15 := hI 15; have h16 := hI 16; omega) | (have := cc_r (I 17) (I 18) 3; omega) | (have := cc_r (I 17) (I 18) 3; simp [uN]; omega) | (have h15 := hI 15; have h16 := hI 16; have := cc_r (I 17) (I 18) 0; simp [uN]; omega)) (fun c51 => ?_) (fun c51 => ?_)
        · refine vi_const (dec_of DX0_chooseForm 39 rfl) ?_
          refine v_goto (tgt := 77) (dec_of DX0_chooseForm 40 rfl) (by decide) ?_
          refine cp_14 fX0_31 (dec_of DX0_chooseForm 42 rfl) (by omega) ?_
          refine v_aload_n (dec_of DX0_chooseForm 43 rfl) rfl ?_
          refine v_get fX0_31 (dec_of DX0_chooseForm 44 rfl) rfl rfl ?_
          try simp (disch := decide) only [uN_s, uN_n]
          refine vi_if_eq (tgt := 103) (dec_of DX0_chooseForm 45 rfl) (by decide) (by first | omega | exact hI _ | exact r32c (cc_r _ _ _) | (have h15 := hI 15; have h16 := hI 16; omega) | (have := cc_r (I 17) (I 18) 3; omega) | (have := cc_r (I 17) (I 18) 3; simp [uN]; omega) | (have h15 := hI 15; have h16 := hI 16; have := cc_r (I 17) (I 18) 0; simp [uN]; omega)) (fun c84 => absurd c84 (by first | decide | simp [uN])) (fun c84 => ?_)
          refine v_aload_n (dec_of DX0_chooseForm 46 rfl) rfl ?_
          refine vi_bi (dec_of DX0_chooseForm 47 rfl) (by decide) ?_
          refine cp_15 fX0_35 (dec_of DX0_chooseForm 48 rfl) ?_
          refine v_aload_n (dec_of DX0_chooseForm 49 rfl) rfl ?_
          refine vi_const (dec_of DX0_chooseForm 50 rfl) ?_
          refine cp_19 fX0_75 (dec_of DX0_chooseForm 51 rfl) ?_
          refine v_aload_n (dec_of DX0_chooseForm 52 rfl) rfl ?_
          refine vi_const (dec_of DX0_chooseForm 53 rfl) ?_
          refine cp_20 fX0_78 (dec_of DX0_chooseForm 54 rfl) ?_
          exact vi_vret (dec_of DX0_chooseForm 55 rfl) rfl ⟨by decide, by decide⟩ (⟨by first | rfl | (rw [opn, if_pos (by assumption)]; rfl) | (rw [opn, if_neg (by assumption)]; rfl), rfl⟩)
        · refine v_aload_n (dec_of DX0_chooseForm 29 rfl) rfl ?_
          refine v_V0r (k_firstPlaced hF ((hI.up (by omega)).up (by first | omega | exact r32c (cc_r _ _ _))) (by unfold NR; exact hN)) lX0_81 (dec_of DX0_chooseForm 30 rfl) rfl rfl (by decide) (nle rfl) rfl ?_
          try simp (disch := decide) only [uN_s, uN_n]
          refine v_aload_n (dec_of DX0_chooseForm 31 rfl) rfl ?_
          refine v_get fX0_75 (dec_of DX0_chooseForm 32 rfl) rfl rfl ?_
          try simp (disch := decide) only [uN_s, uN_n]
          refine v_aload_n (dec_of DX0_chooseForm 33 rfl) rfl ?_
          refine v_get fX0_78 (dec_of DX0_chooseForm 34 rfl) rfl rfl ?_
          try simp (disch := decide) only [uN_s, uN_n]
          refine vi_add (dec_of DX0_chooseForm 35 rfl) ?_
          refine vi_const (dec_of DX0_chooseForm 36 rfl) ?_
          refine vi_add (dec_of DX0_chooseForm 37 rfl) ?_
          refine vi_icmp_ge (tgt := 76) (dec_of DX0_chooseForm 38 rfl) (by decide) (by first | omega | exact hI _ | exact r32c (cc_r _ _ _) | (have h15 := hI 15; have h16 := hI 16; omega) | (have := cc_r (I 17) (I 18) 3; omega) | (have := cc_r (I 17) (I 18) 3; simp [uN]; omega) | (have h15 := hI 15; have h16 := hI 16; have := cc_r (I 17) (I 18) 0; simp [uN]; omega)) (by first | omega | exact hI _ | exact r32c (cc_r _ _ _) | (have h15 := hI 15; have h16 := hI 16; omega) | (have := cc_r (I 17) (I 18) 3; omega) | (have := cc_r (I 17) (I 18) 3; simp [uN]; omega) | (have h15 := hI 15; have h16 := hI 16; have := cc_r (I 17) (I 18) 0; simp [uN]; omega)) (fun c69 => ?_) (fun c69 => ?_)
          · exact absurd hs (by unfold shr frs opn; omega)
          · refine vi_const (dec_of DX0_chooseForm 39 rfl) ?_
            refine v_goto (tgt := 77) (dec_of DX0_chooseForm 40 rfl) (by decide) ?_
            refine cp_14 fX0_31 (dec_of DX0_chooseForm 42 rfl) (by omega) ?_
            refine v_aload_n (dec_of DX0_chooseForm 43 rfl) rfl ?_
            refine v_get fX0_31 (dec_of DX0_chooseForm 44 rfl) rfl rfl ?_
            try simp (disch := decide) only [uN_s, uN_n]
            refine vi_if_eq (tgt := 103) (dec_of DX0_chooseForm 45 rfl) (by decide) (by first | omega | exact hI _ | exact r32c (cc_r _ _ _) | (have h15 := hI 15; have h16 := hI 16; omega) | (have := cc_r (I 17) (I 18) 3; omega) | (have := cc_r (I 17) (I 18) 3; simp [uN]; omega) | (have h15 := hI 15; have h16 := hI 16; have := cc_r (I 17) (I 18) 0; simp [uN]; omega)) (fun c84 => absurd c84 (by first | decide | simp [uN])) (fun c84 => ?_)
            refine v_aload_n (dec_of DX0_chooseForm 46 rfl) rfl ?_
            refine vi_bi (dec_of DX0_chooseForm 47 rfl) (by decide) ?_
            refine cp_15 fX0_35 (dec_of DX0_chooseForm 48 rfl) ?_
            refine v_aload_n (dec_of DX0_chooseForm 49 rfl) rfl ?_
            refine vi_const (dec_of DX0_chooseForm 50 rfl) ?_
            refine cp_19 fX0_75 (dec_of DX0_chooseForm 51 rfl) ?_
            refine v_aload_n (dec_of DX0_chooseForm 52 rfl) rfl ?_
            refine vi_const (dec_of DX0_chooseForm 53 rfl) ?_
            refine cp_20 fX0_78 (dec_of DX0_chooseForm 54 rfl) ?_
            exact vi_vret (dec_of DX0_chooseForm 55 rfl) rfl ⟨by decide, by decide⟩ (⟨by first | rfl | (rw [opn, if_pos (by assumption)]; rfl) | (rw [opn, if_neg (by assumption)]; rfl), rfl⟩)
set_option maxRecDepth 100000 in
set_option maxHeartbeats 4000000 in
theorem k_choose_long {T : XW} {I N : Nat → Int} {F : Nat → Int → Int} (hF : FR F) (hI : IR I) (hN : NR N) (hT : 1 ≤ I 17 ∧ I 17 ≤ 8) (hH : 0 ≤ I 18 ∧ I 18 ≤ 1) (hs : ¬ shr I) : Sd (rm 2 43 0 0) mX0_chooseForm [.ref 28] (cls I N F ++ T) (cls (uN (uN (uN I 14 0) 19 (opn (I 18))) 20 (cc (I 17) (I 18) 0)) N F ++ T) (none) := by
  unfold Sd
  unfold NR at hN
  have hc0 := cc_r (I 17) (I 18) 0
  have hc3 := cc_r (I 17) (I 18) 3
  refine sp_of (ls := [some (.ref 28), none]) (by decide) (nle rfl) rfl rfl ?_
  refine v_aload_n (dec_of DX0_chooseForm 0 rfl) rfl ?_
  refine v_aload_n (dec_of DX0_chooseForm 1 rfl) rfl ?_
  refine v_get fX0_24 (dec_of DX0_chooseForm 2 rfl) rfl rfl ?_
  try simp (disch := decide) only [uN_s, uN_n]
  refine vi_if_ne (tgt := 12) (dec_of DX0_chooseForm 3 rfl) (by decide) (by first | omega | exact hI _ | exact r32c (cc_r _ _ _) | (have h15 := hI 15; have h16 := hI 16; omega) | (have := cc_r (I 17) (I 18) 3; omega) | (have := cc_r (I 17) (I 18) 3; simp [uN]; omega) | (have h15 := hI 15; have h16 := hI 16; have := cc_r (I 17) (I 18) 0; simp [uN]; omega)) (fun c5 => ?_) (fun c5 => ?_)
  · refine vi_const (dec_of DX0_chooseForm 6 rfl) ?_
    refine cp_19 fX0_75 (dec_of DX0_chooseForm 7 rfl) ?_
    refine v_aload_n (dec_of DX0_chooseForm 8 rfl) rfl ?_
    refine v_aload_n (dec_of DX0_chooseForm 9 rfl) rfl ?_
    refine vi_const (dec_of DX0_chooseForm 10 rfl) ?_
    refine v_V1r (k_cc hF (hI.up (by omega)) (by unfold NR; exact hN) hT hH (by omega)) lX0_68 (dec_of DX0_chooseForm 11 rfl) rfl rfl (by decide) (nle rfl) rfl ?_
    try simp (disch := decide) only [uN_s, uN_n]
    refine cp_20 fX0_78 (dec_of DX0_chooseForm 12 rfl) ?_
    refine v_aload_n (dec_of DX0_chooseForm 13 rfl) rfl ?_
    refine vi_const (dec_of DX0_chooseForm 14 rfl) ?_
    refine v_V1r (k_cc hF ((hI.up (by omega)).up (by first | omega | exact r32c (cc_r _ _ _))) (by unfold NR; exact hN) hT hH (by omega)) lX0_68 (dec_of DX0_chooseForm 15 rfl) rfl rfl (by decide) (nle rfl) rfl ?_
    try simp (disch := decide) only [uN_s, uN_n]
    refine vi_const (dec_of DX0_chooseForm 16 rfl) ?_
    refine vi_icmp_ne (tgt := 47) (dec_of DX0_chooseForm 17 rfl) (by decide) (by first | omega | exact hI _ | exact r32c (cc_r _ _ _) | (have h15 := hI 15; have h16 := hI 16; omega) | (have := cc_r (I 17) (I 18) 3; omega) | (have := cc_r (I 17) (I 18) 3; simp [uN]; omega) | (have h15 := hI 15; have h16 := hI 16; have := cc_r (I 17) (I 18) 0; simp [uN]; omega)) (by first | omega | exact hI _ | exact r32c (cc_r _ _ _) | (have h15 := hI 15; have h16 := hI 16; omega) | (have := cc_r (I 17) (I 18) 3; omega) | (have := cc_r (I 17) (I 18) 3; simp [uN]; omega) | (have h15 := hI 15; have h16 := hI 16; have := cc_r (I 17) (I 18) 0; simp [uN]; omega)) (fun c31 => ?_) (fun c31 => ?_)
    · refine vi_const (dec_of DX0_chooseForm 24 rfl) ?_
      refine v_istore_n (dec_of DX0_chooseForm 25 rfl) (by decide) ?_
      dsimp only [List.set]
      refine v_aload_n (dec_of DX0_chooseForm 26 rfl) rfl ?_
      refine v_iload_n (dec_of DX0_chooseForm 27 rfl) rfl ?_
      refine vi_if_ne (tgt := 72) (dec_of DX0_chooseForm 28 rfl) (by decide) (by first | omega | exact hI _ | exact r32c (cc_r _ _ _) | (have h15 := hI 15; have h16 := hI 16; omega) | (have := cc_r (I 17) (I 18) 3; omega) | (have := cc_r (I 17) (I 18) 3; simp [uN]; omega) | (have h15 := hI 15; have h16 := hI 16; have := cc_r (I 17) (I 18) 0; simp [uN]; omega)) (fun c51 => ?_) (fun c51 => ?_)
      · exact absurd (show shr I from by unfold shr frs opn; omega) hs
      · refine v_aload_n (dec_of DX0_chooseForm 29 rfl) rfl ?_
        refine v_V0r (k_firstPlaced hF ((hI.up (by omega)).up (by first | omega | exact r32c (cc_r _ _ _))) (by unfold NR; exact hN)) lX0_81 (dec_of DX0_chooseForm 30 rfl) rfl rfl (by decide) (nle rfl) rfl ?_
        try simp (disch := decide) only [uN_s, uN_n]
        refine v_aload_n (dec_of DX0_chooseForm 31 rfl) rfl ?_
        refine v_get fX0_75 (dec_of DX0_chooseForm 32 rfl) rfl rfl ?_
        try simp (disch := decide) only [uN_s, uN_n]
        refine v_aload_n (dec_of DX0_chooseForm 33 rfl) rfl ?_
        refine v_get fX0_78 (dec_of DX0_chooseForm 34 rfl) rfl rfl ?_
        try simp (disch := decide) only [uN_s, uN_n]
        refine vi_add (dec_of DX0_chooseForm 35 rfl) ?_
        refine vi_const (dec_of DX0_chooseForm 36 rfl) ?_
        refine vi_add (dec_of DX0_chooseForm 37 rfl) ?_
        refine vi_icmp_ge (tgt := 76) (dec_of DX0_chooseForm 38 rfl) (by decide) (by first | omega | exact hI _ | exact r32c (cc_r _ _ _) | (have h15 := hI 15; have h16 := hI 16; omega) | (have := cc_r (I 17) (I 18) 3; omega) | (have := cc_r (I 17) (I 18) 3; simp [uN]; omega) | (have h15 := hI 15; have h16 := hI 16; have := cc_r (I 17) (I 18) 0; simp [uN]; omega)) (by first | omega | exact hI _ | exact r32c (cc_r _ _ _) | (have h15 := hI 15; have h16 := hI 16; omega) | (have := cc_r (I 17) (I 18) 3; omega) | (have := cc_r (I 17) (I 18) 3; simp [uN]; omega) | (have h15 := hI 15; have h16 := hI 16; have := cc_r (I 17) (I 18) 0; simp [uN]; omega)) (fun c69 => ?_) (fun c69 => ?_)
        · refine vi_const (dec_of DX0_chooseForm 41 rfl) ?_
          refine cp_14 fX0_31 (dec_of DX0_chooseForm 42 rfl) (by omega) ?_
          refine v_aload_n (dec_of DX0_chooseForm 43 rfl) rfl ?_
          refine v_get fX0_31 (dec_of DX0_chooseForm 44 rfl) rfl rfl ?_
          try simp (disch := decide) only [uN_s, uN_n]
          refine vi_if_eq (tgt := 103) (dec_of DX0_chooseForm 45 rfl) (by decide) (by first | omega | exact hI _ | exact r32c (cc_r _ _ _) | (have h15 := hI 15; have h16 := hI 16; omega) | (have := cc_r (I 17) (I 18) 3; omega) | (have := cc_r (I 17) (I 18) 3; simp [uN]; omega) | (have h15 := hI 15; have h16 := hI 16; have := cc_r (I 17) (I 18) 0; simp [uN]; omega)) (fun c84 => ?_) (fun c84 => absurd c84 (by first | decide | simp [uN]))
          exact vi_vret (dec_of DX0_chooseForm 55 rfl) rfl ⟨by decide, by decide⟩ (⟨by first | rfl | (rw [opn, if_pos (by assumption)]; rfl) | (rw [opn, if_neg (by assumption)]; rfl), rfl⟩)
        · exact absurd (show shr I from by unfold shr frs opn; omega) hs
    · refine v_aload_n (dec_of DX0_chooseForm 18 rfl) rfl ?_
      refine v_get fX0_35 (dec_of DX0_chooseForm 19 rfl) rfl rfl ?_
      try simp (disch := decide) only [uN_s, uN_n]
      refine vi_bi (dec_of DX0_chooseForm 20 rfl) (by decide) ?_
      refine vi_icmp_ne (tgt := 47) (dec_of DX0_chooseForm 21 rfl) (by decide) (by first | omega | exact hI _ | exact r32c (cc_r _ _ _) | (have h15 := hI 15; have h16 := hI 16; omega) | (have := cc_r (I 17) (I 18) 3; omega) | (have := cc_r (I 17) (I 18) 3; simp [uN]; omega) | (have h15 := hI 15; have h16 := hI 16; have := cc_r (I 17) (I 18) 0; simp [uN]; omega)) (by first | omega | exact hI _ | exact r32c (cc_r _ _ _) | (have h15 := hI 15; have h16 := hI 16; omega) | (have := cc_r (I 17) (I 18) 3; omega) | (have := cc_r (I 17) (I 18) 3; simp [uN]; omega) | (have h15 := hI 15; have h16 := hI 16; have := cc_r (I 17) (I 18) 0; simp [uN]; omega)) (fun c40 => ?_) (fun c40 => ?_)
      · refine vi_const (dec_of DX0_chooseForm 24 rfl) ?_
        refine v_istore_n (dec_of DX0_chooseForm 25 rfl) (by decide) ?_
        dsimp only [List.set]
        refine v_aload_n (dec_of DX0_chooseForm 26 rfl) rfl ?_
        refine v_iload_n (dec_of DX0_chooseForm 27 rfl) rfl ?_
        refine vi_if_ne (tgt := 72) (dec_of DX0_chooseForm 28 rfl) (by decide) (by first | omega | exact hI _ | exact r32c (cc_r _ _ _) | (have h15 := hI 15; have h16 := hI 16; omega) | (have := cc_r (I 17) (I 18) 3; omega) | (have := cc_r (I 17) (I 18) 3; simp [uN]; omega) | (have h15 := hI 15; have h16 := hI 16; have := cc_r (I 17) (I 18) 0; simp [uN]; omega)) (fun c51 => ?_) (fun c51 => ?_)
        · exact absurd (show shr I from by unfold shr frs opn; omega) hs
        · refine v_aload_n (dec_of DX0_chooseForm 29 rfl) rfl ?_
          refine v_V0r (k_firstPlaced hF ((hI.up (by omega)).up (by first | omega | exact r32c (cc_r _ _ _))) (by unfold NR; exact hN)) lX0_81 (dec_of DX0_chooseForm 30 rfl) rfl rfl (by decide) (nle rfl) rfl ?_
          try simp (disch := decide) only [uN_s, uN_n]
          refine v_aload_n (dec_of DX0_chooseForm 31 rfl) rfl ?_
          refine v_get fX0_75 (dec_of DX0_chooseForm 32 rfl) rfl rfl ?_
          try simp (disch := decide) only [uN_s, uN_n]
          refine v_aload_n (dec_of DX0_chooseForm 33 rfl) rfl ?_
          refine v_get fX0_78 (dec_of DX0_chooseForm 34 rfl) rfl rfl ?_
          try simp (disch := decide) only [uN_s, uN_n]
          refine vi_add (dec_of DX0_chooseForm 35 rfl) ?_
          refine vi_const (dec_of DX0_chooseForm 36 rfl) ?_
          refine vi_add (dec_of DX0_chooseForm 37 rfl) ?_
          refine vi_icmp_ge (tgt := 76) (dec_of DX0_chooseForm 38 rfl) (by decide) (by first | omega | exact hI _ | exact r32c (cc_r _ _ _) | (have h15 := hI 15; have h16 := hI 16; omega) | (have := cc_r (I 17) (I 18) 3; omega) | (have := cc_r (I 17) (I 18) 3; simp [uN]; omega) | (have h15 := hI 15; have h16 := hI 16; have := cc_r (I 17) (I 18) 0; simp [uN]; omega)) (by first | omega | exact hI _ | exact r32c (cc_r _ _ _) | (have h15 := hI 15; have h16 := hI 16; omega) | (have := cc_r (I 17) (I 18) 3; omega) | (have := cc_r (I 17) (I 18) 3; simp [uN]; omega) | (have h15 := hI 15; have h16 := hI 16; have := cc_r (I 17) (I 18) 0; simp [uN]; omega)) (fun c69 => ?_) (fun c69 => ?_)
          · refine vi_const (dec_of DX0_chooseForm 41 rfl) ?_
            refine cp_14 fX0_31 (dec_of DX0_chooseForm 42 rfl) (by omega) ?_
            refine v_aload_n (dec_of DX0_chooseForm 43 rfl) rfl ?_
            refine v_get fX0_31 (dec_of DX0_chooseForm 44 rfl) rfl rfl ?_
            try simp (disch := decide) only [uN_s, uN_n]
            refine vi_if_eq (tgt := 103) (dec_of DX0_chooseForm 45 rfl) (by decide) (by first | omega | exact hI _ | exact r32c (cc_r _ _ _) | (have h15 := hI 15; have h16 := hI 16; omega) | (have := cc_r (I 17) (I 18) 3; omega) | (have := cc_r (I 17) (I 18) 3; simp [uN]; omega) | (have h15 := hI 15; have h16 := hI 16; have := cc_r (I 17) (I 18) 0; simp [uN]; omega)) (fun c84 => ?_) (fun c84 => absurd c84 (by first | decide | simp [uN]))
            exact vi_vret (dec_of DX0_chooseForm 55 rfl) rfl ⟨by decide, by decide⟩ (⟨by first | rfl | (rw [opn, if_pos (by assumption)]; rfl) | (rw [opn, if_neg (by assumption)]; rfl), rfl⟩)
          · exact absurd (show shr I from by unfold shr frs opn; omega) hs
      · refine vi_const (dec_of DX0_chooseForm 22 rfl) ?_
        refine v_goto (tgt := 48) (dec_of DX0_chooseForm 23 rfl) (by decide) ?_
        refine v_istore_n (dec_of DX0_chooseForm 25 rfl) (by decide) ?_
        dsimp only [List.set]
        refine v_aload_n (dec_of DX0_chooseForm 26 rfl) rfl ?_
        refine v_iload_n (dec_of DX0_chooseForm 27 rfl) rfl ?_
        refine vi_if_ne (tgt := 72) (dec_of DX0_chooseForm 28 rfl) (by decide) (by first | omega | exact hI _ | exact r32c (cc_r _ _ _) | (have h15 := hI 15; have h16 := hI 16; omega) | (have := cc_r (I 17) (I 18) 3; omega) | (have := cc_r (I 17) (I 18) 3; simp [uN]; omega) | (have h15 := hI 15; have h16 := hI 16; have := cc_r (I 17) (I 18) 0; simp [uN]; omega)) (fun c51 => ?_) (fun c51 => ?_)
        · exact absurd (show shr I from by unfold shr frs opn; omega) hs
        · refine v_aload_n (dec_of DX0_chooseForm 29 rfl) rfl ?_
          refine v_V0r (k_firstPlaced hF ((hI.up (by omega)).up (by first | omega | exact r32c (cc_r _ _ _))) (by unfold NR; exact hN)) lX0_81 (dec_of DX0_chooseForm 30 rfl) rfl rfl (by decide) (nle rfl) rfl ?_
          try simp (disch := decide) only [uN_s, uN_n]
          refine v_aload_n (dec_of DX0_chooseForm 31 rfl) rfl ?_
          refine v_get fX0_75 (dec_of DX0_chooseForm 32 rfl) rfl rfl ?_
          try simp (disch := decide) only [uN_s, uN_n]
          refine v_aload_n (dec_of DX0_chooseForm 33 rfl) rfl ?_
          refine v_get fX0_78 (dec_of DX0_chooseForm 34 rfl) rfl rfl ?_
          try simp (disch := decide) only [uN_s, uN_n]
          refine vi_add (dec_of DX0_chooseForm 35 rfl) ?_
          refine vi_const (dec_of DX0_chooseForm 36 rfl) ?_
          refine vi_add (dec_of DX0_chooseForm 37 rfl) ?_
          refine vi_icmp_ge (tgt := 76) (dec_of DX0_chooseForm 38 rfl) (by decide) (by first | omega | exact hI _ | exact r32c (cc_r _ _ _) | (have h15 := hI 15; have h16 := hI 16; omega) | (have := cc_r (I 17) (I 18) 3; omega) | (have := cc_r (I 17) (I 18) 3; simp [uN]; omega) | (have h15 := hI 15; have h16 := hI 16; have := cc_r (I 17) (I 18) 0; simp [uN]; omega)) (by first | omega | exact hI _ | exact r32c (cc_r _ _ _) | (have h15 := hI 15; have h16 := hI 16; omega) | (have := cc_r (I 17) (I 18) 3; omega) | (have := cc_r (I 17) (I 18) 3; simp [uN]; omega) | (have h15 := hI 15; have h16 := hI 16; have := cc_r (I 17) (I 18) 0; simp [uN]; omega)) (fun c69 => ?_) (fun c69 => ?_)
          · refine vi_const (dec_of DX0_chooseForm 41 rfl) ?_
            refine cp_14 fX0_31 (dec_of DX0_chooseForm 42 rfl) (by omega) ?_
            refine v_aload_n (dec_of DX0_chooseForm 43 rfl) rfl ?_
            refine v_get fX0_31 (dec_of DX0_chooseForm 44 rfl) rfl rfl ?_
            try simp (disch := decide) only [uN_s, uN_n]
            refine vi_if_eq (tgt := 103) (dec_of DX0_chooseForm 45 rfl) (by decide) (by first | omega | exact hI _ | exact r32c (cc_r _ _ _) | (have h15 := hI 15; have h16 := hI 16; omega) | (have := cc_r (I 17) (I 18) 3; omega) | (have := cc_r (I 17) (I 18) 3; simp [uN]; omega) | (have h15 := hI 15; have h16 := hI 16; have := cc_r (I 17) (I 18) 0; simp [uN]; omega)) (fun c84 => ?_) (fun c84 => absurd c84 (by first | decide | simp [uN]))
            exact vi_vret (dec_of DX0_chooseForm 55 rfl) rfl ⟨by decide, by decide⟩ (⟨by first | rfl | (rw [opn, if_pos (by assumption)]; rfl) | (rw [opn, if_neg (by assumption)]; rfl), rfl⟩)
          · exact absurd (show shr I from by unfold shr frs opn; omega) hs
  · refine vi_const (dec_of DX0_chooseForm 4 rfl) ?_
    refine v_goto (tgt := 13) (dec_of DX0_chooseForm 5 rfl) (by decide) ?_
    refine cp_19 fX0_75 (dec_of DX0_chooseForm 7 rfl) ?_
    refine v_aload_n (dec_of DX0_chooseForm 8 rfl) rfl ?_
    refine v_aload_n (dec_of DX0_chooseForm 9 rfl) rfl ?_
    refine vi_const (dec_of DX0_chooseForm 10 rfl) ?_
    refine v_V1r (k_cc hF (hI.up (by omega)) (by unfold NR; exact hN) hT hH (by omega)) lX0_68 (dec_of DX0_chooseForm 11 rfl) rfl rfl (by decide) (nle rfl) rfl ?_
    try simp (disch := decide) only [uN_s, uN_n]
    refine cp_20 fX0_78 (dec_of DX0_chooseForm 12 rfl) ?_
    refine v_aload_n (dec_of DX0_chooseForm 13 rfl) rfl ?_
    refine vi_const (dec_of DX0_chooseForm 14 rfl) ?_
    refine v_V1r (k_cc hF ((hI.up (by omega)).up (by first | omega | exact r32c (cc_r _ _ _))) (by unfold NR; exact hN) hT hH (by omega)) lX0_68 (dec_of DX0_chooseForm 15 rfl) rfl rfl (by decide) (nle rfl) rfl ?_
    try simp (disch := decide) only [uN_s, uN_n]
    refine vi_const (dec_of DX0_chooseForm 16 rfl) ?_
    refine vi_icmp_ne (tgt := 47) (dec_of DX0_chooseForm 17 rfl) (by decide) (by first | omega | exact hI _ | exact r32c (cc_r _ _ _) | (have h15 := hI 15; have h16 := hI 16; omega) | (have := cc_r (I 17) (I 18) 3; omega) | (have := cc_r (I 17) (I 18) 3; simp [uN]; omega) | (have h15 := hI 15; have h16 := hI 16; have := cc_r (I 17) (I 18) 0; simp [uN]; omega)) (by first | omega | exact hI _ | exact r32c (cc_r _ _ _) | (have h15 := hI 15; have h16 := hI 16; omega) | (have := cc_r (I 17) (I 18) 3; omega) | (have := cc_r (I 17) (I 18) 3; simp [uN]; omega) | (have h15 := hI 15; have h16 := hI 16; have := cc_r (I 17) (I 18) 0; simp [uN]; omega)) (fun c31 => ?_) (fun c31 => ?_)
    · refine vi_const (dec_of DX0_chooseForm 24 rfl) ?_
      refine v_istore_n (dec_of DX0_chooseForm 25 rfl) (by decide) ?_
      dsimp only [List.set]
      refine v_aload_n (dec_of DX0_chooseForm 26 rfl) rfl ?_
      refine v_iload_n (dec_of DX0_chooseForm 27 rfl) rfl ?_
      refine vi_if_ne (tgt := 72) (dec_of DX0_chooseForm 28 rfl) (by decide) (by first | omega | exact hI _ | exact r32c (cc_r _ _ _) | (have h15 := hI 15; have h16 := hI 16; omega) | (have := cc_r (I 17) (I 18) 3; omega) | (have := cc_r (I 17) (I 18) 3; simp [uN]; omega) | (have h15 := hI 15; have h16 := hI 16; have := cc_r (I 17) (I 18) 0; simp [uN]; omega)) (fun c51 => ?_) (fun c51 => ?_)
      · exact absurd (show shr I from by unfold shr frs opn; omega) hs
      · refine v_aload_n (dec_of DX0_chooseForm 29 rfl) rfl ?_
        refine v_V0r (k_firstPlaced hF ((hI.up (by omega)).up (by first | omega | exact r32c (cc_r _ _ _))) (by unfold NR; exact hN)) lX0_81 (dec_of DX0_chooseForm 30 rfl) rfl rfl (by decide) (nle rfl) rfl ?_
        try simp (disch := decide) only [uN_s, uN_n]
        refine v_aload_n (dec_of DX0_chooseForm 31 rfl) rfl ?_
        refine v_get fX0_75 (dec_of DX0_chooseForm 32 rfl) rfl rfl ?_
        try simp (disch := decide) only [uN_s, uN_n]
        refine v_aload_n (dec_of DX0_chooseForm 33 rfl) rfl ?_
        refine v_get fX0_78 (dec_of DX0_chooseForm 34 rfl) rfl rfl ?_
        try simp (disch := decide) only [uN_s, uN_n]
        refine vi_add (dec_of DX0_chooseForm 35 rfl) ?_
        refine vi_const (dec_of DX0_chooseForm 36 rfl) ?_
        refine vi_add (dec_of DX0_chooseForm 37 rfl) ?_
        refine vi_icmp_ge (tgt := 76) (dec_of DX0_chooseForm 38 rfl) (by decide) (by first | omega | exact hI _ | exact r32c (cc_r _ _ _) | (have h15 := hI 15; have h16 := hI 16; omega) | (have := cc_r (I 17) (I 18) 3; omega) | (have := cc_r (I 17) (I 18) 3; simp [uN]; omega) | (have h15 := hI 15; have h16 := hI 16; have := cc_r (I 17) (I 18) 0; simp [uN]; omega)) (by first | omega | exact hI _ | exact r32c (cc_r _ _ _) | (have h15 := hI 15; have h16 := hI 16; omega) | (have := cc_r (I 17) (I 18) 3; omega) | (have := cc_r (I 17) (I 18) 3; simp [uN]; omega) | (have h15 := hI 15; have h16 := hI 16; have := cc_r (I 17) (I 18) 0; simp [uN]; omega)) (fun c69 => ?_) (fun c69 => ?_)
        · refine vi_const (dec_of DX0_chooseForm 41 rfl) ?_
          refine cp_14 fX0_31 (dec_of DX0_chooseForm 42 rfl) (by omega) ?_
          refine v_aload_n (dec_of DX0_chooseForm 43 rfl) rfl ?_
          refine v_get fX0_31 (dec_of DX0_chooseForm 44 rfl) rfl rfl ?_
          try simp (disch := decide) only [uN_s, uN_n]
          refine vi_if_eq (tgt := 103) (dec_of DX0_chooseForm 45 rfl) (by decide) (by first | omega | exact hI _ | exact r32c (cc_r _ _ _) | (have h15 := hI 15; have h16 := hI 16; omega) | (have := cc_r (I 17) (I 18) 3; omega) | (have := cc_r (I 17) (I 18) 3; simp [uN]; omega) | (have h15 := hI 15; have h16 := hI 16; have := cc_r (I 17) (I 18) 0; simp [uN]; omega)) (fun c84 => ?_) (fun c84 => absurd c84 (by first | decide | simp [uN]))
          exact vi_vret (dec_of DX0_chooseForm 55 rfl) rfl ⟨by decide, by decide⟩ (⟨by first | rfl | (rw [opn, if_pos (by assumption)]; rfl) | (rw [opn, if_neg (by assumption)]; rfl), rfl⟩)
        · exact absurd (show shr I from by unfold shr frs opn; omega) hs
    · refine v_aload_n (dec_of DX0_chooseForm 18 rfl) rfl ?_
      refine v_get fX0_35 (dec_of DX0_chooseForm 19 rfl) rfl rfl ?_
      try simp (disch := decide) only [uN_s, uN_n]
      refine vi_bi (dec_of DX0_chooseForm 20 rfl) (by decide) ?_
      refine vi_icmp_ne (tgt := 47) (dec_of DX0_chooseForm 21 rfl) (by decide) (by first | omega | exact hI _ | exact r32c (cc_r _ _ _) | (have h15 := hI 15; have h16 := hI 16; omega) | (have := cc_r (I 17) (I 18) 3; omega) | (have := cc_r (I 17) (I 18) 3; simp [uN]; omega) | (have h15 := hI 15; have h16 := hI 16; have := cc_r (I 17) (I 18) 0; simp [uN]; omega)) (by first | omega | exact hI _ | exact r32c (cc_r _ _ _) | (have h15 := hI 15; have h16 := hI 16; omega) | (have := cc_r (I 17) (I 18) 3; omega) | (have := cc_r (I 17) (I 18) 3; simp [uN]; omega) | (have h15 := hI 15; have h16 := hI 16; have := cc_r (I 17) (I 18) 0; simp [uN]; omega)) (fun c40 => ?_) (fun c40 => ?_)
      · refine vi_const (dec_of DX0_chooseForm 24 rfl) ?_
        refine v_istore_n (dec_of DX0_chooseForm 25 rfl) (by decide) ?_
        dsimp only [List.set]
        refine v_aload_n (dec_of DX0_chooseForm 26 rfl) rfl ?_
        refine v_iload_n (dec_of DX0_chooseForm 27 rfl) rfl ?_
        refine vi_if_ne (tgt := 72) (dec_of DX0_chooseForm 28 rfl) (by decide) (by first | omega | exact hI _ | exact r32c (cc_r _ _ _) | (have h15 := hI 15; have h16 := hI 16; omega) | (have := cc_r (I 17) (I 18) 3; omega) | (have := cc_r (I 17) (I 18) 3; simp [uN]; omega) | (have h15 := hI 15; have h16 := hI 16; have := cc_r (I 17) (I 18) 0; simp [uN]; omega)) (fun c51 => ?_) (fun c51 => ?_)
        · exact absurd (show shr I from by unfold shr frs opn; omega) hs
        · refine v_aload_n (dec_of DX0_chooseForm 29 rfl) rfl ?_
          refine v_V0r (k_firstPlaced hF ((hI.up (by omega)).up (by first | omega | exact r32c (cc_r _ _ _))) (by unfold NR; exact hN)) lX0_81 (dec_of DX0_chooseForm 30 rfl) rfl rfl (by decide) (nle rfl) rfl ?_
          try simp (disch := decide) only [uN_s, uN_n]
          refine v_aload_n (dec_of DX0_chooseForm 31 rfl) rfl ?_
          refine v_get fX0_75 (dec_of DX0_chooseForm 32 rfl) rfl rfl ?_
          try simp (disch := decide) only [uN_s, uN_n]
          refine v_aload_n (dec_of DX0_chooseForm 33 rfl) rfl ?_
          refine v_get fX0_78 (dec_of DX0_chooseForm 34 rfl) rfl rfl ?_
          try simp (disch := decide) only [uN_s, uN_n]
          refine vi_add (dec_of DX0_chooseForm 35 rfl) ?_
          refine vi_const (dec_of DX0_chooseForm 36 rfl) ?_
          refine vi_add (dec_of DX0_chooseForm 37 rfl) ?_
          refine vi_icmp_ge (tgt := 76) (dec_of DX0_chooseForm 38 rfl) (by decide) (by first | omega | exact hI _ | exact r32c (cc_r _ _ _) | (have h15 := hI 15; have h16 := hI 16; omega) | (have := cc_r (I 17) (I 18) 3; omega) | (have := cc_r (I 17) (I 18) 3; simp [uN]; omega) | (have h15 := hI 15; have h16 := hI 16; have := cc_r (I 17) (I 18) 0; simp [uN]; omega)) (by first | omega | exact hI _ | exact r32c (cc_r _ _ _) | (have h15 := hI 15; have h16 := hI 16; omega) | (have := cc_r (I 17) (I 18) 3; omega) | (have := cc_r (I 17) (I 18) 3; simp [uN]; omega) | (have h15 := hI 15; have h16 := hI 16; have := cc_r (I 17) (I 18) 0; simp [uN]; omega)) (fun c69 => ?_) (fun c69 => ?_)
          · refine vi_const (dec_of DX0_chooseForm 41 rfl) ?_
            refine cp_14 fX0_31 (dec_of DX0_chooseForm 42 rfl) (by omega) ?_
            refine v_aload_n (dec_of DX0_chooseForm 43 rfl) rfl ?_
            refine v_get fX0_31 (dec_of DX0_chooseForm 44 rfl) rfl rfl ?_
            try simp (disch := decide) only [uN_s, uN_n]
            refine vi_if_eq (tgt := 103) (dec_of DX0_chooseForm 45 rfl) (by decide) (by first | omega | exact hI _ | exact r32c (cc_r _ _ _) | (have h15 := hI 15; have h16 := hI 16; omega) | (have := cc_r (I 17) (I 18) 3; omega) | (have := cc_r (I 17) (I 18) 3; simp [uN]; omega) | (have h15 := hI 15; have h16 := hI 16; have := cc_r (I 17) (I 18) 0; simp [uN]; omega)) (fun c84 => ?_) (fun c84 => absurd c84 (by first | decide | simp [uN]))
            exact vi_vret (dec_of DX0_chooseForm 55 rfl) rfl ⟨by decide, by decide⟩ (⟨by first | rfl | (rw [opn, if_pos (by assumption)]; rfl) | (rw [opn, if_neg (by assumption)]; rfl), rfl⟩)
          · exact absurd (show shr I from by unfold shr frs opn; omega) hs
      · refine vi_const (dec_of DX0_chooseForm 22 rfl) ?_
        refine v_goto (tgt := 48) (dec_of DX0_chooseForm 23 rfl) (by decide) ?_
        refine v_istore_n (dec_of DX0_chooseForm 25 rfl) (by decide) ?_
        dsimp only [List.set]
        refine v_aload_n (dec_of DX0_chooseForm 26 rfl) rfl ?_
        refine v_iload_n (dec_of DX0_chooseForm 27 rfl) rfl ?_
        refine vi_if_ne (tgt := 72) (dec_of DX0_chooseForm 28 rfl) (by decide) (by first | omega | exact hI _ | exact r32c (cc_r _ _ _) | (have h15 := hI 15; have h16 := hI 16; omega) | (have := cc_r (I 17) (I 18) 3; omega) | (have := cc_r (I 17) (I 18) 3; simp [uN]; omega) | (have h15 := hI 15; have h16 := hI 16; have := cc_r (I 17) (I 18) 0; simp [uN]; omega)) (fun c51 => ?_) (fun c51 => ?_)
        · exact absurd (show shr I from by unfold shr frs opn; omega) hs
        · refine v_aload_n (dec_of DX0_chooseForm 29 rfl) rfl ?_
          refine v_V0r (k_firstPlaced hF ((hI.up (by omega)).up (by first | omega | exact r32c (cc_r _ _ _))) (by unfold NR; exact hN)) lX0_81 (dec_of DX0_chooseForm 30 rfl) rfl rfl (by decide) (nle rfl) rfl ?_
          try simp (disch := decide) only [uN_s, uN_n]
          refine v_aload_n (dec_of DX0_chooseForm 31 rfl) rfl ?_
          refine v_get fX0_75 (dec_of DX0_chooseForm 32 rfl) rfl rfl ?_
          try simp (disch := decide) only [uN_s, uN_n]
          refine v_aload_n (dec_of DX0_chooseForm 33 rfl) rfl ?_
          refine v_get fX0_78 (dec_of DX0_chooseForm 34 rfl) rfl rfl ?_
          try simp (disch := decide) only [uN_s, uN_n]
          refine vi_add (dec_of DX0_chooseForm 35 rfl) ?_
          refine vi_const (dec_of DX0_chooseForm 36 rfl) ?_
          refine vi_add (dec_of DX0_chooseForm 37 rfl) ?_
          refine vi_icmp_ge (tgt := 76) (dec_of DX0_chooseForm 38 rfl) (by decide) (by first | omega | exact hI _ | exact r32c (cc_r _ _ _) | (have h15 := hI 15; have h16 := hI 16; omega) | (have := cc_r (I 17) (I 18) 3; omega) | (have := cc_r (I 17) (I 18) 3; simp [uN]; omega) | (have h15 := hI 15; have h16 := hI 16; have := cc_r (I 17) (I 18) 0; simp [uN]; omega)) (by first | omega | exact hI _ | exact r32c (cc_r _ _ _) | (have h15 := hI 15; have h16 := hI 16; omega) | (have := cc_r (I 17) (I 18) 3; omega) | (have := cc_r (I 17) (I 18) 3; simp [uN]; omega) | (have h15 := hI 15; have h16 := hI 16; have := cc_r (I 17) (I 18) 0; simp [uN]; omega)) (fun c69 => ?_) (fun c69 => ?_)
          · refine vi_const (dec_of DX0_chooseForm 41 rfl) ?_
            refine cp_14 fX0_31 (dec_of DX0_chooseForm 42 rfl) (by omega) ?_
            refine v_aload_n (dec_of DX0_chooseForm 43 rfl) rfl ?_
            refine v_get fX0_31 (dec_of DX0_chooseForm 44 rfl) rfl rfl ?_
            try simp (disch := decide) only [uN_s, uN_n]
            refine vi_if_eq (tgt := 103) (dec_of DX0_chooseForm 45 rfl) (by decide) (by first | omega | exact hI _ | exact r32c (cc_r _ _ _) | (have h15 := hI 15; have h16 := hI 16; omega) | (have := cc_r (I 17) (I 18) 3; omega) | (have := cc_r (I 17) (I 18) 3; simp [uN]; omega) | (have h15 := hI 15; have h16 := hI 16; have := cc_r (I 17) (I 18) 0; simp [uN]; omega)) (fun c84 => ?_) (fun c84 => absurd c84 (by first | decide | simp [uN]))
            exact vi_vret (dec_of DX0_chooseForm 55 rfl) rfl ⟨by decide, by decide⟩ (⟨by first | rfl | (rw [opn, if_pos (by assumption)]; rfl) | (rw [opn, if_neg (by assumption)]; rfl), rfl⟩)
          · exact absurd (show shr I from by unfold shr frs opn; omega) hs
/-- what a syllable of the half is sung by, its last step apart -/
def stp (I : Nat → Int) (s : Int) : Int := if s = I 16 then cc (I 17) (I 18) 6 else if I 16 < s then cc (I 17) (I 18) 7 else if s = frs I then cc (I 17) (I 18) 4 else if frs I < s then cc (I 17) (I 18) 5 else if frs I - I 20 ≤ s then cc (I 17) (I 18) (1 + (s - (frs I - I 20))) else if s < I 19 then cel ((I 17 - 1) * 20 + s) else 0
theorem stp_r (I : Nat → Int) (s : Int) : -4 ≤ stp I s ∧ stp I s ≤ 2 := by
  unfold stp
  split
  · exact cc_r _ _ _
  split
  · exact cc_r _ _ _
  split
  · exact cc_r _ _ _
  split
  · exact cc_r _ _ _
  split
  · exact cc_r _ _ _
  split
  · exact cel_r _
  · decide
set_option maxRecDepth 100000 in
set_option maxHeartbeats 4000000 in
theorem k_stepOf {T : XW} {I N : Nat → Int} {F : Nat → Int → Int} (hF : FR F) (hI : IR I) (hN : NR N) (hT : 1 ≤ I 17 ∧ I 17 ≤ 8) (hH : 0 ≤ I 18 ∧ I 18 ≤ 1) {s : Int} (hs : 0 ≤ s ∧ s ≤ 100) (h20 : 0 ≤ I 20 ∧ I 20 ≤ 2) (h19 : 0 ≤ I 19 ∧ I 19 ≤ 2) (hf : -200 ≤ frs I ∧ frs I ≤ 200) (h16 : -200 ≤ I 16 ∧ I 16 ≤ 200) : Sd (rm 2 43 0 0) mX0_stepOf [.ref 28, J s] (cls I N F ++ T) (cls I N F ++ T) (some (J (stp I s))) := by
  unfold Sd
  unfold NR at hN
  refine sp_of (ls := [some (.ref 28), some (J s), none, none]) (by decide) (nle rfl) rfl rfl ?_
  refine v_iload_n (dec_of DX0_stepOf 0 rfl) rfl ?_
  refine v_aload_n (dec_of DX0_stepOf 1 rfl) rfl ?_
  refine v_get fX0_38 (dec_of DX0_stepOf 2 rfl) rfl rfl ?_
  refine vi_icmp_ne (tgt := 15) (dec_of DX0_stepOf 3 rfl) (by decide) (by first | omega | exact bnd_r _ _ | exact hF _ _ | exact hI _ | exact hG _ _ | exact hK _ | (simp [uN] <;> omega)) (by first | omega | exact bnd_r _ _ | exact hF _ _ | exact hI _ | exact hG _ _ | exact hK _ | (simp [uN] <;> omega)) (fun c5 => ?_) (fun c5 => ?_)
  · refine v_iload_n (dec_of DX0_stepOf 8 rfl) rfl ?_
    refine v_aload_n (dec_of DX0_stepOf 9 rfl) rfl ?_
    refine v_get fX0_38 (dec_of DX0_stepOf 10 rfl) rfl rfl ?_
    refine vi_icmp_le (tgt := 30) (dec_of DX0_stepOf 11 rfl) (by decide) (by first | omega | exact bnd_r _ _ | exact hF _ _ | exact hI _ | exact hG _ _ | exact hK _ | (simp [uN] <;> omega)) (by first | omega | exact bnd_r _ _ | exact hF _ _ | exact hI _ | exact hG _ _ | exact hK _ | (simp [uN] <;> omega)) (fun c20 => ?_) (fun c20 => ?_)
    · refine v_aload_n (dec_of DX0_stepOf 16 rfl) rfl ?_
      refine v_V0r (k_firstPlaced hF hI (by unfold NR; exact hN)) lX0_81 (dec_of DX0_stepOf 17 rfl) rfl rfl (by decide) (nle rfl) rfl ?_
      change Vd _ _ _ _ _ _ _ _ _ (J (frs I) :: _) _
      refine v_istore_n (dec_of DX0_stepOf 18 rfl) (by decide) ?_
      dsimp only [List.set]
      refine v_iload_n (dec_of DX0_stepOf 19 rfl) rfl ?_
      refine v_iload_n (dec_of DX0_stepOf 20 rfl) rfl ?_
      refine vi_icmp_ne (tgt := 46) (dec_of DX0_stepOf 21 rfl) (by decide) (by first | omega | exact bnd_r _ _ | exact hF _ _ | exact hI _ | exact hG _ _ | exact hK _ | (simp [uN] <;> omega)) (by first | omega | exact bnd_r _ _ | exact hF _ _ | exact hI _ | exact hG _ _ | exact hK _ | (simp [uN] <;> omega)) (fun c37 => ?_) (fun c37 => ?_)
      · refine v_iload_n (dec_of DX0_stepOf 26 rfl) rfl ?_
        refine v_iload_n (dec_of DX0_stepOf 27 rfl) rfl ?_
        refine vi_icmp_le (tgt := 57) (dec_of DX0_stepOf 28 rfl) (by decide) (by first | omega | exact bnd_r _ _ | exact hF _ _ | exact hI _ | exact hG _ _ | exact hK _ | (simp [uN] <;> omega)) (by first | omega | exact bnd_r _ _ | exact hF _ _ | exact hI _ | exact hG _ _ | exact hK _ | (simp [uN] <;> omega)) (fun c48 => ?_) (fun c48 => ?_)
        · refine v_iload_n (dec_of DX0_stepOf 33 rfl) rfl ?_
          refine v_iload_n (dec_of DX0_stepOf 34 rfl) rfl ?_
          refine v_aload_n (dec_of DX0_stepOf 35 rfl) rfl ?_
          refine v_get fX0_78 (dec_of DX0_stepOf 36 rfl) rfl rfl ?_
          refine vi_sub (dec_of DX0_stepOf 37 rfl) ?_
          refine vi_sub (dec_of DX0_stepOf 38 rfl) ?_
          refine v_istore_n (dec_of DX0_stepOf 39 rfl) (by decide) ?_
          dsimp only [List.set]
          refine v_iload_n (dec_of DX0_stepOf 40 rfl) rfl ?_
          refine vi_if_lt (tgt := 78) (dec_of DX0_stepOf 41 rfl) (by decide) (by first | omega | exact bnd_r _ _ | exact hF _ _ | exact hI _ | exact hG _ _ | exact hK _ | (simp [uN] <;> omega)) (fun c67 => ?_) (fun c67 => ?_)
          · refine v_iload_n (dec_of DX0_stepOf 48 rfl) rfl ?_
            refine v_aload_n (dec_of DX0_stepOf 49 rfl) rfl ?_
            refine v_get fX0_75 (dec_of DX0_stepOf 50 rfl) rfl rfl ?_
            refine vi_icmp_ge (tgt := 97) (dec_of DX0_stepOf 51 rfl) (by decide) (by first | omega | exact bnd_r _ _ | exact hF _ _ | exact hI _ | exact hG _ _ | exact hK _ | (simp [uN] <;> omega)) (by first | omega | exact bnd_r _ _ | exact hF _ _ | exact hI _ | exact hG _ _ | exact hK _ | (simp [uN] <;> omega)) (fun c83 => ?_) (fun c83 => ?_)
            · rw [stp, if_neg c5, if_neg (by omega), if_neg c37, if_neg (by omega), if_neg (by omega), if_neg (by omega)]
              refine vi_const (dec_of DX0_stepOf 57 rfl) ?_
              exact vi_ret (dec_of DX0_stepOf 58 rfl) rfl ⟨by decide, by decide⟩ (⟨rfl, rfl⟩)
            · refine v_aload_n (dec_of DX0_stepOf 52 rfl) rfl ?_
              refine v_get fX0_20 (dec_of DX0_stepOf 53 rfl) rfl rfl ?_
              refine v_iload_n (dec_of DX0_stepOf 54 rfl) rfl ?_
              rw [stp, if_neg c5, if_neg (by omega), if_neg c37, if_neg (by omega), if_neg (by omega), if_pos c83]
              refine v_S2r (k_cell (by omega) (by omega)) lX0_90 (dec_of DX0_stepOf 55 rfl) (by decide) (nle rfl) rfl ?_
              refine v_goto (tgt := 98) (dec_of DX0_stepOf 56 rfl) (by decide) ?_
              exact vi_ret (dec_of DX0_stepOf 58 rfl) rfl ⟨by decide, by decide⟩ (⟨rfl, rfl⟩)
          · refine v_aload_n (dec_of DX0_stepOf 42 rfl) rfl ?_
            refine vi_const (dec_of DX0_stepOf 43 rfl) ?_
            refine v_iload_n (dec_of DX0_stepOf 44 rfl) rfl ?_
            refine vi_add (dec_of DX0_stepOf 45 rfl) ?_
            rw [stp, if_neg c5, if_neg (by omega), if_neg c37, if_neg (by omega), if_pos (by omega)]
            refine v_V1r (k_cc hF hI (by unfold NR; exact hN) hT hH (by omega)) lX0_68 (dec_of DX0_stepOf 46 rfl) rfl rfl (by decide) (nle rfl) rfl ?_
            exact vi_ret (dec_of DX0_stepOf 47 rfl) rfl ⟨by decide, by decide⟩ (⟨rfl, rfl⟩)
        · refine v_aload_n (dec_of DX0_stepOf 29 rfl) rfl ?_
          refine vi_const (dec_of DX0_stepOf 30 rfl) ?_
          rw [stp, if_neg c5, if_neg (by omega), if_neg c37, if_pos c48]
          refine v_V1r (k_cc hF hI (by unfold NR; exact hN) hT hH (by omega)) lX0_68 (dec_of DX0_stepOf 31 rfl) rfl rfl (by decide) (nle rfl) rfl ?_
          exact vi_ret (dec_of DX0_stepOf 32 rfl) rfl ⟨by decide, by decide⟩ (⟨rfl, rfl⟩)
      · refine v_aload_n (dec_of DX0_stepOf 22 rfl) rfl ?_
        refine vi_const (dec_of DX0_stepOf 23 rfl) ?_
        rw [stp, if_neg c5, if_neg (by omega), if_pos c37]
        refine v_V1r (k_cc hF hI (by unfold NR; exact hN) hT hH (by omega)) lX0_68 (dec_of DX0_stepOf 24 rfl) rfl rfl (by decide) (nle rfl) rfl ?_
        exact vi_ret (dec_of DX0_stepOf 25 rfl) rfl ⟨by decide, by decide⟩ (⟨rfl, rfl⟩)
    · refine v_aload_n (dec_of DX0_stepOf 12 rfl) rfl ?_
      refine vi_bi (dec_of DX0_stepOf 13 rfl) (by decide) ?_
      rw [stp, if_neg c5, if_pos c20]
      refine v_V1r (k_cc hF hI (by unfold NR; exact hN) hT hH (by omega)) lX0_68 (dec_of DX0_stepOf 14 rfl) rfl rfl (by decide) (nle rfl) rfl ?_
      exact vi_ret (dec_of DX0_stepOf 15 rfl) rfl ⟨by decide, by decide⟩ (⟨rfl, rfl⟩)
  · refine v_aload_n (dec_of DX0_stepOf 4 rfl) rfl ?_
    refine vi_bi (dec_of DX0_stepOf 5 rfl) (by decide) ?_
    rw [stp, if_pos c5]
    refine v_V1r (k_cc hF hI (by unfold NR; exact hN) hT hH (by omega)) lX0_68 (dec_of DX0_stepOf 6 rfl) rfl rfl (by decide) (nle rfl) rfl ?_
    exact vi_ret (dec_of DX0_stepOf 7 rfl) rfl ⟨by decide, by decide⟩ (⟨rfl, rfl⟩)
def adS (N : Nat → Int) (F : Nat → Int → Int) (s v : Int) : Nat → Int → Int := uN F 12 (uI (adf (F 12) 2 (N 12) s) (N 12 * 2 + 1) v)
theorem adS_r {N : Nat → Int} {F : Nat → Int → Int} (hF : FR F) {s v : Int} (hs : -2147483648 ≤ s ∧ s < 2147483648) (hv : -2147483648 ≤ v ∧ v < 2147483648) : FR (adS N F s v) := hF.up (uI_r (adf_r (hF 12) hs) hv)
set_option maxRecDepth 100000 in
set_option maxHeartbeats 4000000 in
theorem k_sing_mid {T : XW} {I N : Nat → Int} {F : Nat → Int → Int} (hF : FR F) (hI : IR I) (hN : NR N) (hT : 1 ≤ I 17 ∧ I 17 ≤ 8) (hH : 0 ≤ I 18 ∧ I 18 ≤ 1) {b : Int} (hb : b = 0) {s : Int} (hs : 0 ≤ s ∧ s ≤ 100) (h20 : 0 ≤ I 20 ∧ I 20 ≤ 2) (h19 : 0 ≤ I 19 ∧ I 19 ≤ 2) (hf : -200 ≤ frs I ∧ frs I ≤ 200) (h16 : -200 ≤ I 16 ∧ I 16 ≤ 200) (h12 : N 12 < 40) : Sd (rm 3 66 0 0) mX0_singSyllable [.ref 28, J s, J b] (cls I N F ++ T) (cls I (uN N 12 (N 12 + 1)) (adS N F s (stp I s)) ++ T) (none) := by
  unfold Sd
  unfold NR at hN
  refine sp_of (ls := [some (.ref 28), some (J s), some (J b)]) (by decide) (nle rfl) rfl rfl ?_
  refine v_iload_n (dec_of DX0_singSyllable 0 rfl) rfl ?_
  refine vi_if_eq (tgt := 12) (dec_of DX0_singSyllable 1 rfl) (by decide) (by first | omega | exact bnd_r _ _ | exact hF _ _ | exact hI _ | exact hG _ _ | exact hK _ | (simp [uN] <;> omega)) (fun c1 => ?_) (fun c1 => absurd c1 (by omega))
  refine v_aload_n (dec_of DX0_singSyllable 6 rfl) rfl ?_
  refine v_iload_n (dec_of DX0_singSyllable 7 rfl) rfl ?_
  refine v_aload_n (dec_of DX0_singSyllable 8 rfl) rfl ?_
  refine v_iload_n (dec_of DX0_singSyllable 9 rfl) rfl ?_
  refine v_V1r (k_stepOf hF hI (by unfold NR; exact hN) hT hH hs h20 h19 hf h16) lX0_84 (dec_of DX0_singSyllable 10 rfl) rfl rfl (by decide) (nle rfl) rfl ?_
  refine v_V2v (k_addStep hF hI (by unfold NR; exact hN) (by omega)) lX0_87 (dec_of DX0_singSyllable 11 rfl) rfl rfl (by decide) (nle rfl) rfl ?_
  refine v_iload_n (dec_of DX0_singSyllable 12 rfl) rfl ?_
  refine vi_if_eq (tgt := 37) (dec_of DX0_singSyllable 13 rfl) (by decide) (by first | omega | exact bnd_r _ _ | exact hF _ _ | exact hI _ | exact hG _ _ | exact hK _ | (simp [uN] <;> omega)) (fun c23 => ?_) (fun c23 => absurd c23 (by omega))
  exact vi_vret (dec_of DX0_singSyllable 20 rfl) rfl ⟨by decide, by decide⟩ (⟨rfl, rfl⟩)
set_option maxRecDepth 100000 in
set_option maxHeartbeats 4000000 in
theorem k_sing_one {T : XW} {I N : Nat → Int} {F : Nat → Int → Int} (hF : FR F) (hI : IR I) (hN : NR N) (hT : 1 ≤ I 17 ∧ I 17 ≤ 8) (hH : 0 ≤ I 18 ∧ I 18 ≤ 1) {b : Int} (hb : b = 1) {s : Int} (hs : 0 ≤ s ∧ s ≤ 100) (h20 : 0 ≤ I 20 ∧ I 20 ≤ 2) (h19 : 0 ≤ I 19 ∧ I 19 ≤ 2) (hf : -200 ≤ frs I ∧ frs I ≤ 200) (h16 : -200 ≤ I 16 ∧ I 16 ≤ 200) (h12 : N 12 < 40) (hl : ¬ s = I 16) : Sd (rm 3 66 0 0) mX0_singSyllable [.ref 28, J s, J b] (cls I N F ++ T) (cls I (uN N 12 (N 12 + 1)) (adS N F s (cc (I 17) (I 18) 8)) ++ T) (none) := by
  unfold Sd
  unfold NR at hN
  refine sp_of (ls := [some (.ref 28), some (J s), some (J b)]) (by decide) (nle rfl) rfl rfl ?_
  refine v_iload_n (dec_of DX0_singSyllable 0 rfl) rfl ?_
  refine vi_if_eq (tgt := 12) (dec_of DX0_singSyllable 1 rfl) (by decide) (by first | omega | exact bnd_r _ _ | exact hF _ _ | exact hI _ | exact hG _ _ | exact hK _ | (simp [uN] <;> omega)) (fun c1 => absurd c1 (by omega)) (fun c1 => ?_)
  refine v_iload_n (dec_of DX0_singSyllable 2 rfl) rfl ?_
  refine v_aload_n (dec_of DX0_singSyllable 3 rfl) rfl ?_
  refine v_get fX0_38 (dec_of DX0_singSyllable 4 rfl) rfl rfl ?_
  refine vi_icmp_ne (tgt := 22) (dec_of DX0_singSyllable 5 rfl) (by decide) (by first | omega | exact bnd_r _ _ | exact hF _ _ | exact hI _ | exact hG _ _ | exact hK _ | (simp [uN] <;> omega)) (by first | omega | exact bnd_r _ _ | exact hF _ _ | exact hI _ | exact hG _ _ | exact hK _ | (simp [uN] <;> omega)) (fun c9 => ?_) (fun c9 => absurd c9 (by omega))
  refine v_iload_n (dec_of DX0_singSyllable 12 rfl) rfl ?_
  refine vi_if_eq (tgt := 37) (dec_of DX0_singSyllable 13 rfl) (by decide) (by first | omega | exact bnd_r _ _ | exact hF _ _ | exact hI _ | exact hG _ _ | exact hK _ | (simp [uN] <;> omega)) (fun c23 => absurd c23 (by omega)) (fun c23 => ?_)
  refine v_aload_n (dec_of DX0_singSyllable 14 rfl) rfl ?_
  refine v_iload_n (dec_of DX0_singSyllable 15 rfl) rfl ?_
  refine v_aload_n (dec_of DX0_singSyllable 16 rfl) rfl ?_
  refine vi_bi (dec_of DX0_singSyllable 17 rfl) (by decide) ?_
  refine v_V1r (k_cc hF hI (by unfold NR; exact hN) hT hH (by omega)) lX0_68 (dec_of DX0_singSyllable 18 rfl) rfl rfl (by decide) (nle rfl) rfl ?_
  refine v_V2v (k_addStep hF hI (by unfold NR; exact hN) (by omega)) lX0_87 (dec_of DX0_singSyllable 19 rfl) rfl rfl (by decide) (nle rfl) rfl ?_
  exact vi_vret (dec_of DX0_singSyllable 20 rfl) rfl ⟨by decide, by decide⟩ (⟨rfl, rfl⟩)
set_option maxRecDepth 100000 in
set_option maxHeartbeats 4000000 in
theorem k_sing_two {T : XW} {I N : Nat → Int} {F : Nat → Int → Int} (hF : FR F) (hI : IR I) (hN : NR N) (hT : 1 ≤ I 17 ∧ I 17 ≤ 8) (hH : 0 ≤ I 18 ∧ I 18 ≤ 1) {b : Int} (hb : b = 1) {s : Int} (hs : 0 ≤ s ∧ s ≤ 100) (h20 : 0 ≤ I 20 ∧ I 20 ≤ 2) (h19 : 0 ≤ I 19 ∧ I 19 ≤ 2) (hf : -200 ≤ frs I ∧ frs I ≤ 200) (h16 : -200 ≤ I 16 ∧ I 16 ≤ 200) (h12 : N 12 < 40) (hl : s = I 16) : Sd (rm 3 66 0 0) mX0_singSyllable [.ref 28, J s, J b] (cls I N F ++ T) (cls I (uN (uN N 12 (N 12 + 1)) 12 (N 12 + 1 + 1)) (adS (uN N 12 (N 12 + 1)) (adS N F s (stp I s)) s (cc (I 17) (I 18) 8)) ++ T) (none) := by
  unfold Sd
  unfold NR at hN
  refine sp_of (ls := [some (.ref 28), some (J s), some (J b)]) (by decide) (nle rfl) rfl rfl ?_
  refine v_iload_n (dec_of DX0_singSyllable 0 rfl) rfl ?_
  refine vi_if_eq (tgt := 12) (dec_of DX0_singSyllable 1 rfl) (by decide) (by first | omega | exact bnd_r _ _ | exact hF _ _ | exact hI _ | exact hG _ _ | exact hK _ | (simp [uN] <;> omega)) (fun c1 => absurd c1 (by omega)) (fun c1 => ?_)
  refine v_iload_n (dec_of DX0_singSyllable 2 rfl) rfl ?_
  refine v_aload_n (dec_of DX0_singSyllable 3 rfl) rfl ?_
  refine v_get fX0_38 (dec_of DX0_singSyllable 4 rfl) rfl rfl ?_
  refine vi_icmp_ne (tgt := 22) (dec_of DX0_singSyllable 5 rfl) (by decide) (by first | omega | exact bnd_r _ _ | exact hF _ _ | exact hI _ | exact hG _ _ | exact hK _ | (simp [uN] <;> omega)) (by first | omega | exact bnd_r _ _ | exact hF _ _ | exact hI _ | exact hG _ _ | exact hK _ | (simp [uN] <;> omega)) (fun c9 => absurd c9 (by omega)) (fun c9 => ?_)
  refine v_aload_n (dec_of DX0_singSyllable 6 rfl) rfl ?_
  refine v_iload_n (dec_of DX0_singSyllable 7 rfl) rfl ?_
  refine v_aload_n (dec_of DX0_singSyllable 8 rfl) rfl ?_
  refine v_iload_n (dec_of DX0_singSyllable 9 rfl) rfl ?_
  refine v_V1r (k_stepOf hF hI (by unfold NR; exact hN) hT hH hs h20 h19 hf h16) lX0_84 (dec_of DX0_singSyllable 10 rfl) rfl rfl (by decide) (nle rfl) rfl ?_
  refine v_V2v (k_addStep hF hI (by unfold NR; exact hN) (by omega)) lX0_87 (dec_of DX0_singSyllable 11 rfl) rfl rfl (by decide) (nle rfl) rfl ?_
  refine v_iload_n (dec_of DX0_singSyllable 12 rfl) rfl ?_
  refine vi_if_eq (tgt := 37) (dec_of DX0_singSyllable 13 rfl) (by decide) (by first | omega | exact bnd_r _ _ | exact hF _ _ | exact hI _ | exact hG _ _ | exact hK _ | (simp [uN] <;> omega)) (fun c23 => absurd c23 (by omega)) (fun c23 => ?_)
  refine v_aload_n (dec_of DX0_singSyllable 14 rfl) rfl ?_
  refine v_iload_n (dec_of DX0_singSyllable 15 rfl) rfl ?_
  refine v_aload_n (dec_of DX0_singSyllable 16 rfl) rfl ?_
  refine vi_bi (dec_of DX0_singSyllable 17 rfl) (by decide) ?_
  refine v_V1r (k_cc (adS_r hF (by omega) (by have := stp_r I s; omega)) hI (by unfold NR; simp [uN]; omega) hT hH (by omega)) lX0_68 (dec_of DX0_singSyllable 18 rfl) rfl rfl (by decide) (nle rfl) rfl ?_
  refine v_V2v (k_addStep (adS_r hF (by omega) (by have := stp_r I s; omega)) hI (by unfold NR; simp [uN]; omega) (by simp [uN]; omega)) lX0_87 (dec_of DX0_singSyllable 19 rfl) rfl rfl (by decide) (nle rfl) rfl ?_
  exact vi_vret (dec_of DX0_singSyllable 20 rfl) rfl ⟨by decide, by decide⟩ (⟨rfl, rfl⟩)
end
section
/-! Fitting.fit's loop, Psalm (printed by wip/tools/gen_c7.py) -/
theorem Vd_w {R : Room} {ex : List (Nat × (Nat → Int32))} {M : MI} {n0 : Nat} {Z : XW → Option Value → Prop} {ca sl pc : Nat} {ls : List (Option Value)} {st : List Value} {w w' : XW} (h : w = w') (k : Vd R ex M n0 Z ca sl pc ls st w') : Vd R ex M n0 Z ca sl pc ls st w := h ▸ k
theorem uN_self {α : Type} {f : Nat → α} {k : Nat} : uN f k (f k) = f := by
  funext j
  unfold uN
  by_cases h : j = k
  · rw [if_pos h, h]
  · rw [if_neg h]
def fitM (I : Nat → Int) (n : Int) : Int := if I 16 = n - 1 then n + 1 else n
def onP (n k : Int) : Int := if k < n then k else n - 1
def byP (I : Nat → Int) (n k : Int) : Int := if k < n - 1 ∨ (k = n - 1 ∧ I 16 = n - 1) then stp I k else cc (I 17) (I 18) 8
def rowsOK (I : Nat → Int) (n m : Int) (g : Int → Int) : Prop := ∀ k : Int, 0 ≤ k → k < m → g (k * 2 + 0) = onP n k ∧ g (k * 2 + 1) = byP I n k
theorem row2_0 {g : Int → Int} {a s v k : Int} : (uI (adf g 2 a s) (a * 2 + 1) v) (k * 2 + 0) = if k = a then s else g (k * 2 + 0) := by
  simp only [adf, clr, uI]
  by_cases h : k = a
  · subst h
    rw [if_pos rfl, if_neg (by omega), if_neg (by omega), if_pos (by omega)]
  · rw [if_neg h, if_neg (by omega), if_neg (by omega), if_neg (by omega)]
theorem row2_1 {g : Int → Int} {a s v k : Int} : (uI (adf g 2 a s) (a * 2 + 1) v) (k * 2 + 1) = if k = a then v else g (k * 2 + 1) := by
  simp only [adf, clr, uI]
  by_cases h : k = a
  · subst h
    rw [if_pos rfl, if_pos rfl]
  · rw [if_neg h, if_neg (by omega), if_neg (by omega), if_neg (by omega)]
theorem rows_add {I : Nat → Int} {n m s v : Int} {g : Int → Int} (h : rowsOK I n m g) (hs : s = onP n m) (hv : v = byP I n m) : rowsOK I n (m + 1) (uI (adf g 2 m s) (m * 2 + 1) v) := by
  intro k h0 h1
  rw [row2_0, row2_1]
  by_cases hk : k = m
  · subst hk
    rw [if_pos rfl, if_pos rfl]
    exact ⟨hs, hv⟩
  · rw [if_neg hk, if_neg hk]
    exact h k h0 (by omega)
theorem NR12 {N : Nat → Int} (h : NR N) {a : Int} (ha : 0 ≤ a ∧ a ≤ 41) : NR (uN N 12 a) := by
  unfold NR at *
  simp (disch := decide) only [uN_s, uN_n]
  omega
set_option maxRecDepth 100000 in
set_option maxHeartbeats 4000000 in
theorem k_fit_loop10 {T : XW} {I N : Nat → Int} {F : Nat → Int → Int} (hF : FR F) (hI : IR I) (hN : NR N) (hT : 1 ≤ I 17 ∧ I 17 ≤ 8) (hH : 0 ≤ I 18 ∧ I 18 ≤ 1) (h20 : 0 ≤ I 20 ∧ I 20 ≤ 2) (h19 : 0 ≤ I 19 ∧ I 19 ≤ 2) (hf : -200 ≤ frs I ∧ frs I ≤ 200) (h16 : -200 ≤ I 16 ∧ I 16 ≤ 200) {n0 : Nat} {Z : XW → Option Value → Prop} {n tn hh : Int} (hn : 0 < n ∧ n ≤ 40) (hz : ∀ g, rowsOK I n (fitM I n) g → Z (cls I (uN N 12 (fitM I n)) (uN F 12 g) ++ T) none) : ∀ (m : Nat) (s a : Int) (g : Int → Int), s + m = n → 0 ≤ s → (∀ i, -2147483648 ≤ g i ∧ g i < 2147483648) → a = (if m = 0 then fitM I n else s) → rowsOK I n a g → Vd (rm 4 88 0 0) [] mX0_fit n0 Z 0 0 58 [some (.ref 28), some (.ref 24), some (J tn), some (J hh), some (J n), some (J s)] [] (cls I (uN N 12 a) (uN F 12 g) ++ T) := by
  intro m
  induction m with
  | zero =>
    intro s a g h1 h2 hg ha hr
    rw [if_pos rfl] at ha
    subst ha
    refine v_iload (dec_of DX0_fit 31 rfl) rfl ?_
    refine v_iload (dec_of DX0_fit 32 rfl) rfl ?_
    refine vi_icmp_ge (tgt := 91) (dec_of DX0_fit 33 rfl) (by decide) (by first | omega | exact bnd_r _ _ | exact hF _ _ | exact hI _ | exact hG _ _ | exact hK _ | (simp [uN] <;> omega)) (by first | omega | exact bnd_r _ _ | exact hF _ _ | exact hI _ | exact hG _ _ | exact hK _ | (simp [uN] <;> omega)) (fun c62 => ?_) (fun c62 => absurd c62 (by omega))
    exact vi_vret (dec_of DX0_fit 47 rfl) rfl ⟨by decide, by decide⟩ (hz g hr)
  | succ m ih =>
    intro s a g h1 h2 hg ha hr
    rw [if_neg (by omega)] at ha
    subst ha
    have hF2 := hF.up (t := 12) hg
    have hN2 := NR12 hN (a := a) (by omega)
    by_cases hs : a = n - 1
    · by_cases hl : a = I 16
      · have hM : fitM I n = a + 1 + 1 := by unfold fitM; rw [if_pos (by omega)]; omega
        refine v_iload (dec_of DX0_fit 31 rfl) rfl ?_
        refine v_iload (dec_of DX0_fit 32 rfl) rfl ?_
        refine vi_icmp_ge (tgt := 91) (dec_of DX0_fit 33 rfl) (by decide) (by first | omega | exact bnd_r _ _ | exact hF _ _ | exact hI _ | exact hG _ _ | exact hK _ | (simp [uN] <;> omega)) (by first | omega | exact bnd_r _ _ | exact hF _ _ | exact hI _ | exact hG _ _ | exact hK _ | (simp [uN] <;> omega)) (fun c62 => absurd c62 (by omega)) (fun c62 => ?_)
        refine v_aload_n (dec_of DX0_fit 34 rfl) rfl ?_
        refine v_iload (dec_of DX0_fit 35 rfl) rfl ?_
        refine v_iload (dec_of DX0_fit 36 rfl) rfl ?_
        refine v_iload (dec_of DX0_fit 37 rfl) rfl ?_
        refine vi_const (dec_of DX0_fit 38 rfl) ?_
        refine vi_sub (dec_of DX0_fit 39 rfl) ?_
        refine vi_icmp_ne (tgt := 81) (dec_of DX0_fit 40 rfl) (by decide) (by first | omega | exact bnd_r _ _ | exact hF _ _ | exact hI _ | exact hG _ _ | exact hK _ | (simp [uN] <;> omega)) (by first | omega | exact bnd_r _ _ | exact hF _ _ | exact hI _ | exact hG _ _ | exact hK _ | (simp [uN] <;> omega)) (fun c74 => absurd c74 (by omega)) (fun c74 => ?_)
        refine vi_const (dec_of DX0_fit 41 rfl) ?_
        refine v_goto (tgt := 82) (dec_of DX0_fit 42 rfl) (by decide) ?_
        refine v_V2v (k_sing_two hF2 hI hN2 hT hH (by decide) (by omega) h20 h19 hf h16 (by simp only [uN_s]; omega) hl) lX0_52 (dec_of DX0_fit 44 rfl) rfl rfl (by decide) (nle rfl) rfl ?_
        refine Vd_w (w' := cls I (uN N 12 (a + 1 + 1)) (uN F 12 (uI (adf (uI (adf g 2 a a) (a * 2 + 1) (stp I a)) 2 (a + 1) a) ((a + 1) * 2 + 1) (cc (I 17) (I 18) 8))) ++ T) rfl ?_
        refine vi_inc (dec_of DX0_fit 45 rfl) rfl (by decide) ?_
        dsimp only [List.set]
        refine v_goto (tgt := 58) (dec_of DX0_fit 46 rfl) (by decide) ?_
        refine ih (a + 1) (a + 1 + 1) _ (by omega) (by omega) (uI_r (adf_r (uI_r (adf_r hg (by omega)) (by have := stp_r I a; omega)) (by omega)) (r32c (cc_r _ _ _))) (by rw [if_pos (by omega), hM]) ?_
        exact rows_add (rows_add hr (by unfold onP; omega) (by unfold byP; rw [if_pos (by omega)])) (by unfold onP; omega) (by unfold byP; rw [if_neg (by omega)])
      · have hM : fitM I n = a + 1 := by unfold fitM; rw [if_neg (by omega)]; omega
        refine v_iload (dec_of DX0_fit 31 rfl) rfl ?_
        refine v_iload (dec_of DX0_fit 32 rfl) rfl ?_
        refine vi_icmp_ge (tgt := 91) (dec_of DX0_fit 33 rfl) (by decide) (by first | omega | exact bnd_r _ _ | exact hF _ _ | exact hI _ | exact hG _ _ | exact hK _ | (simp [uN] <;> omega)) (by first | omega | exact bnd_r _ _ | exact hF _ _ | exact hI _ | exact hG _ _ | exact hK _ | (simp [uN] <;> omega)) (fun c62 => absurd c62 (by omega)) (fun c62 => ?_)
        refine v_aload_n (dec_of DX0_fit 34 rfl) rfl ?_
        refine v_iload (dec_of DX0_fit 35 rfl) rfl ?_
        refine v_iload (dec_of DX0_fit 36 rfl) rfl ?_
        refine v_iload (dec_of DX0_fit 37 rfl) rfl ?_
        refine vi_const (dec_of DX0_fit 38 rfl) ?_
        refine vi_sub (dec_of DX0_fit 39 rfl) ?_
        refine vi_icmp_ne (tgt := 81) (dec_of DX0_fit 40 rfl) (by decide) (by first | omega | exact bnd_r _ _ | exact hF _ _ | exact hI _ | exact hG _ _ | exact hK _ | (simp [uN] <;> omega)) (by first | omega | exact bnd_r _ _ | exact hF _ _ | exact hI _ | exact hG _ _ | exact hK _ | (simp [uN] <;> omega)) (fun c74 => absurd c74 (by omega)) (fun c74 => ?_)
        refine vi_const (dec_of DX0_fit 41 rfl) ?_
        refine v_goto (tgt := 82) (dec_of DX0_fit 42 rfl) (by decide) ?_
        refine v_V2v (k_sing_one hF2 hI hN2 hT hH (by decide) (by omega) h20 h19 hf h16 (by simp only [uN_s]; omega) hl) lX0_52 (dec_of DX0_fit 44 rfl) rfl rfl (by decide) (nle rfl) rfl ?_
        refine Vd_w (w' := cls I (uN N 12 (a + 1)) (uN F 12 (uI (adf g 2 a a) (a * 2 + 1) (cc (I 17) (I 18) 8))) ++ T) rfl ?_
        refine vi_inc (dec_of DX0_fit 45 rfl) rfl (by decide) ?_
        dsimp only [List.set]
        refine v_goto (tgt := 58) (dec_of DX0_fit 46 rfl) (by decide) ?_
        refine ih (a + 1) (a + 1) _ (by omega) (by omega) (uI_r (adf_r hg (by omega)) (r32c (cc_r _ _ _))) (by rw [if_pos (by omega), hM]) ?_
        exact rows_add hr (by unfold onP; omega) (by unfold byP; rw [if_neg (by omega)])
    · skip
      refine v_iload (dec_of DX0_fit 31 rfl) rfl ?_
      refine v_iload (dec_of DX0_fit 32 rfl) rfl ?_
      refine vi_icmp_ge (tgt := 91) (dec_of DX0_fit 33 rfl) (by decide) (by first | omega | exact bnd_r _ _ | exact hF _ _ | exact hI _ | exact hG _ _ | exact hK _ | (simp [uN] <;> omega)) (by first | omega | exact bnd_r _ _ | exact hF _ _ | exact hI _ | exact hG _ _ | exact hK _ | (simp [uN] <;> omega)) (fun c62 => absurd c62 (by omega)) (fun c62 => ?_)
      refine v_aload_n (dec_of DX0_fit 34 rfl) rfl ?_
      refine v_iload (dec_of DX0_fit 35 rfl) rfl ?_
      refine v_iload (dec_of DX0_fit 36 rfl) rfl ?_
      refine v_iload (dec_of DX0_fit 37 rfl) rfl ?_
      refine vi_const (dec_of DX0_fit 38 rfl) ?_
      refine vi_sub (dec_of DX0_fit 39 rfl) ?_
      refine vi_icmp_ne (tgt := 81) (dec_of DX0_fit 40 rfl) (by decide) (by first | omega | exact bnd_r _ _ | exact hF _ _ | exact hI _ | exact hG _ _ | exact hK _ | (simp [uN] <;> omega)) (by first | omega | exact bnd_r _ _ | exact hF _ _ | exact hI _ | exact hG _ _ | exact hK _ | (simp [uN] <;> omega)) (fun c74 => ?_) (fun c74 => absurd c74 (by omega))
      refine vi_const (dec_of DX0_fit 43 rfl) ?_
      refine v_V2v (k_sing_mid hF2 hI hN2 hT hH (by decide) (by omega) h20 h19 hf h16 (by simp only [uN_s]; omega)) lX0_52 (dec_of DX0_fit 44 rfl) rfl rfl (by decide) (nle rfl) rfl ?_
      refine Vd_w (w' := cls I (uN N 12 (a + 1)) (uN F 12 (uI (adf g 2 a a) (a * 2 + 1) (stp I a))) ++ T) rfl ?_
      refine vi_inc (dec_of DX0_fit 45 rfl) rfl (by decide) ?_
      dsimp only [List.set]
      refine v_goto (tgt := 58) (dec_of DX0_fit 46 rfl) (by decide) ?_
      refine ih (a + 1) (a + 1) _ (by omega) (by omega) (uI_r (adf_r hg (by omega)) (by have := stp_r I a; omega)) (by rw [if_neg (by omega)]) ?_
      exact rows_add hr (by unfold onP; omega) (by unfold byP; rw [if_pos (by omega)])
set_option maxRecDepth 100000 in
set_option maxHeartbeats 4000000 in
theorem k_fit_loop11 {T : XW} {I N : Nat → Int} {F : Nat → Int → Int} (hF : FR F) (hI : IR I) (hN : NR N) (hT : 1 ≤ I 17 ∧ I 17 ≤ 8) (hH : 0 ≤ I 18 ∧ I 18 ≤ 1) (h20 : 0 ≤ I 20 ∧ I 20 ≤ 2) (h19 : 0 ≤ I 19 ∧ I 19 ≤ 2) (hf : -200 ≤ frs I ∧ frs I ≤ 200) (h16 : -200 ≤ I 16 ∧ I 16 ≤ 200) {n0 : Nat} {Z : XW → Option Value → Prop} {n tn hh : Int} (hn : 0 < n ∧ n ≤ 40) (hz : ∀ g, rowsOK I n (fitM I n) g → Z (cls I (uN N 12 (fitM I n)) (uN F 12 g) ++ T) none) : ∀ (m : Nat) (s a : Int) (g : Int → Int), s + m = n → 0 ≤ s → (∀ i, -2147483648 ≤ g i ∧ g i < 2147483648) → a = (if m = 0 then fitM I n else s) → rowsOK I n a g → Vd (rm 4 88 0 0) [] mX0_fit n0 Z 0 0 58 [some (.ref 28), some (.ref 26), some (J tn), some (J hh), some (J n), some (J s)] [] (cls I (uN N 12 a) (uN F 12 g) ++ T) := by
  intro m
  induction m with
  | zero =>
    intro s a g h1 h2 hg ha hr
    rw [if_pos rfl] at ha
    subst ha
    refine v_iload (dec_of DX0_fit 31 rfl) rfl ?_
    refine v_iload (dec_of DX0_fit 32 rfl) rfl ?_
    refine vi_icmp_ge (tgt := 91) (dec_of DX0_fit 33 rfl) (by decide) (by first | omega | exact bnd_r _ _ | exact hF _ _ | exact hI _ | exact hG _ _ | exact hK _ | (simp [uN] <;> omega)) (by first | omega | exact bnd_r _ _ | exact hF _ _ | exact hI _ | exact hG _ _ | exact hK _ | (simp [uN] <;> omega)) (fun c62 => ?_) (fun c62 => absurd c62 (by omega))
    exact vi_vret (dec_of DX0_fit 47 rfl) rfl ⟨by decide, by decide⟩ (hz g hr)
  | succ m ih =>
    intro s a g h1 h2 hg ha hr
    rw [if_neg (by omega)] at ha
    subst ha
    have hF2 := hF.up (t := 12) hg
    have hN2 := NR12 hN (a := a) (by omega)
    by_cases hs : a = n - 1
    · by_cases hl : a = I 16
      · have hM : fitM I n = a + 1 + 1 := by unfold fitM; rw [if_pos (by omega)]; omega
        refine v_iload (dec_of DX0_fit 31 rfl) rfl ?_
        refine v_iload (dec_of DX0_fit 32 rfl) rfl ?_
        refine vi_icmp_ge (tgt := 91) (dec_of DX0_fit 33 rfl) (by decide) (by first | omega | exact bnd_r _ _ | exact hF _ _ | exact hI _ | exact hG _ _ | exact hK _ | (simp [uN] <;> omega)) (by first | omega | exact bnd_r _ _ | exact hF _ _ | exact hI _ | exact hG _ _ | exact hK _ | (simp [uN] <;> omega)) (fun c62 => absurd c62 (by omega)) (fun c62 => ?_)
        refine v_aload_n (dec_of DX0_fit 34 rfl) rfl ?_
        refine v_iload (dec_of DX0_fit 35 rfl) rfl ?_
        refine v_iload (dec_of DX0_fit 36 rfl) rfl ?_
        refine v_iload (dec_of DX0_fit 37 rfl) rfl ?_
        refine vi_const (dec_of DX0_fit 38 rfl) ?_
        refine vi_sub (dec_of DX0_fit 39 rfl) ?_
        refine vi_icmp_ne (tgt := 81) (dec_of DX0_fit 40 rfl) (by decide) (by first | omega | exact bnd_r _ _ | exact hF _ _ | exact hI _ | exact hG _ _ | exact hK _ | (simp [uN] <;> omega)) (by first | omega | exact bnd_r _ _ | exact hF _ _ | exact hI _ | exact hG _ _ | exact hK _ | (simp [uN] <;> omega)) (fun c74 => absurd c74 (by omega)) (fun c74 => ?_)
        refine vi_const (dec_of DX0_fit 41 rfl) ?_
        refine v_goto (tgt := 82) (dec_of DX0_fit 42 rfl) (by decide) ?_
        refine v_V2v (k_sing_two hF2 hI hN2 hT hH (by decide) (by omega) h20 h19 hf h16 (by simp only [uN_s]; omega) hl) lX0_52 (dec_of DX0_fit 44 rfl) rfl rfl (by decide) (nle rfl) rfl ?_
        refine Vd_w (w' := cls I (uN N 12 (a + 1 + 1)) (uN F 12 (uI (adf (uI (adf g 2 a a) (a * 2 + 1) (stp I a)) 2 (a + 1) a) ((a + 1) * 2 + 1) (cc (I 17) (I 18) 8))) ++ T) rfl ?_
        refine vi_inc (dec_of DX0_fit 45 rfl) rfl (by decide) ?_
        dsimp only [List.set]
        refine v_goto (tgt := 58) (dec_of DX0_fit 46 rfl) (by decide) ?_
        refine ih (a + 1) (a + 1 + 1) _ (by omega) (by omega) (uI_r (adf_r (uI_r (adf_r hg (by omega)) (by have := stp_r I a; omega)) (by omega)) (r32c (cc_r _ _ _))) (by rw [if_pos (by omega), hM]) ?_
        exact rows_add (rows_add hr (by unfold onP; omega) (by unfold byP; rw [if_pos (by omega)])) (by unfold onP; omega) (by unfold byP; rw [if_neg (by omega)])
      · have hM : fitM I n = a + 1 := by unfold fitM; rw [if_neg (by omega)]; omega
        refine v_iload (dec_of DX0_fit 31 rfl) rfl ?_
        refine v_iload (dec_of DX0_fit 32 rfl) rfl ?_
        refine vi_icmp_ge (tgt := 91) (dec_of DX0_fit 33 rfl) (by decide) (by first | omega | exact bnd_r _ _ | exact hF _ _ | exact hI _ | exact hG _ _ | exact hK _ | (simp [uN] <;> omega)) (by first | omega | exact bnd_r _ _ | exact hF _ _ | exact hI _ | exact hG _ _ | exact hK _ | (simp [uN] <;> omega)) (fun c62 => absurd c62 (by omega)) (fun c62 => ?_)
        refine v_aload_n (dec_of DX0_fit 34 rfl) rfl ?_
        refine v_iload (dec_of DX0_fit 35 rfl) rfl ?_
        refine v_iload (dec_of DX0_fit 36 rfl) rfl ?_
        refine v_iload (dec_of DX0_fit 37 rfl) rfl ?_
        refine vi_const (dec_of DX0_fit 38 rfl) ?_
        refine vi_sub (dec_of DX0_fit 39 rfl) ?_
        refine vi_icmp_ne (tgt := 81) (dec_of DX0_fit 40 rfl) (by decide) (by first | omega | exact bnd_r _ _ | exact hF _ _ | exact hI _ | exact hG _ _ | exact hK _ | (simp [uN] <;> omega)) (by first | omega | exact bnd_r _ _ | exact hF _ _ | exact hI _ | exact hG _ _ | exact hK _ | (simp [uN] <;> omega)) (fun c74 => absurd c74 (by omega)) (fun c74 => ?_)
        refine vi_const (dec_of DX0_fit 41 rfl) ?_
        refine v_goto (tgt := 82) (dec_of DX0_fit 42 rfl) (by decide) ?_
        refine v_V2v (k_sing_one hF2 hI hN2 hT hH (by decide) (by omega) h20 h19 hf h16 (by simp only [uN_s]; omega) hl) lX0_52 (dec_of DX0_fit 44 rfl) rfl rfl (by decide) (nle rfl) rfl ?_
        refine Vd_w (w' := cls I (uN N 12 (a + 1)) (uN F 12 (uI (adf g 2 a a) (a * 2 + 1) (cc (I 17) (I 18) 8))) ++ T) rfl ?_
        refine vi_inc (dec_of DX0_fit 45 rfl) rfl (by decide) ?_
        dsimp only [List.set]
        refine v_goto (tgt := 58) (dec_of DX0_fit 46 rfl) (by decide) ?_
        refine ih (a + 1) (a + 1) _ (by omega) (by omega) (uI_r (adf_r hg (by omega)) (r32c (cc_r _ _ _))) (by rw [if_pos (by omega), hM]) ?_
        exact rows_add hr (by unfold onP; omega) (by unfold byP; rw [if_neg (by omega)])
    · skip
      refine v_iload (dec_of DX0_fit 31 rfl) rfl ?_
      refine v_iload (dec_of DX0_fit 32 rfl) rfl ?_
      refine vi_icmp_ge (tgt := 91) (dec_of DX0_fit 33 rfl) (by decide) (by first | omega | exact bnd_r _ _ | exact hF _ _ | exact hI _ | exact hG _ _ | exact hK _ | (simp [uN] <;> omega)) (by first | omega | exact bnd_r _ _ | exact hF _ _ | exact hI _ | exact hG _ _ | exact hK _ | (simp [uN] <;> omega)) (fun c62 => absurd c62 (by omega)) (fun c62 => ?_)
      refine v_aload_n (dec_of DX0_fit 34 rfl) rfl ?_
      refine v_iload (dec_of DX0_fit 35 rfl) rfl ?_
      refine v_iload (dec_of DX0_fit 36 rfl) rfl ?_
      refine v_iload (dec_of DX0_fit 37 rfl) rfl ?_
      refine vi_const (dec_of DX0_fit 38 rfl) ?_
      refine vi_sub (dec_of DX0_fit 39 rfl) ?_
      refine vi_icmp_ne (tgt := 81) (dec_of DX0_fit 40 rfl) (by decide) (by first | omega | exact bnd_r _ _ | exact hF _ _ | exact hI _ | exact hG _ _ | exact hK _ | (simp [uN] <;> omega)) (by first | omega | exact bnd_r _ _ | exact hF _ _ | exact hI _ | exact hG _ _ | exact hK _ | (simp [uN] <;> omega)) (fun c74 => ?_) (fun c74 => absurd c74 (by omega))
      refine vi_const (dec_of DX0_fit 43 rfl) ?_
      refine v_V2v (k_sing_mid hF2 hI hN2 hT hH (by decide) (by omega) h20 h19 hf h16 (by simp only [uN_s]; omega)) lX0_52 (dec_of DX0_fit 44 rfl) rfl rfl (by decide) (nle rfl) rfl ?_
      refine Vd_w (w' := cls I (uN N 12 (a + 1)) (uN F 12 (uI (adf g 2 a a) (a * 2 + 1) (stp I a))) ++ T) rfl ?_
      refine vi_inc (dec_of DX0_fit 45 rfl) rfl (by decide) ?_
      dsimp only [List.set]
      refine v_goto (tgt := 58) (dec_of DX0_fit 46 rfl) (by decide) ?_
      refine ih (a + 1) (a + 1) _ (by omega) (by omega) (uI_r (adf_r hg (by omega)) (by have := stp_r I a; omega)) (by rw [if_neg (by omega)]) ?_
      exact rows_add hr (by unfold onP; omega) (by unfold byP; rw [if_pos (by omega)])
/-- behind chooseForm -/
def chI (I : Nat → Int) : Nat → Int := fun k => if shr I then uN (uN (uN (uN I 14 1) 15 (-100)) 19 0) 20 0 k else uN (uN (uN I 14 0) 19 (opn (I 18))) 20 (cc (I 17) (I 18) 0) k
theorem chI_s {I : Nat → Int} (h : shr I) : chI I = uN (uN (uN (uN I 14 1) 15 (-100)) 19 0) 20 0 := by funext k; unfold chI; rw [if_pos h]
theorem chI_l {I : Nat → Int} (h : ¬ shr I) : chI I = uN (uN (uN I 14 0) 19 (opn (I 18))) 20 (cc (I 17) (I 18) 0) := by funext k; unfold chI; rw [if_neg h]
theorem opn_r (h : Int) : 0 ≤ opn h ∧ opn h ≤ 2 := by unfold opn; omega
/-- behind placeAccents -/
def plI (I : Nat → Int) (f : Int → Int) (n : Int) : Nat → Int := if cc (I 17) (I 18) 3 = 2 then uN (uN I 16 (lastP f n)) 15 (firstP f (lastP f n)) else uN I 16 (lastP f n)
theorem lastP_r {f : Int → Int} {n : Int} (hn : 0 < n) : 0 ≤ lastP f n ∧ lastP f n < n := by
  have := accB_r f n.toNat
  unfold lastP
  omega
theorem firstP_r {f : Int → Int} {l : Int} (hl : 0 ≤ l) : firstP f l = -100 ∨ (0 ≤ firstP f l ∧ firstP f l < l) := by
  have := accB_r f l.toNat
  unfold firstP
  omega
def ft0 (I : Nat → Int) (tn hh : Int) : Nat → Int := uN (uN (uN (uN (uN I 17 tn) 18 hh) 14 1) 15 (-100)) 16 (-100)
def fitI (I : Nat → Int) (f : Int → Int) (n tn hh : Int) : Nat → Int := fun k => if 0 < n then chI (plI (ft0 I tn hh) f n) k else ft0 I tn hh k
theorem plI_e {I : Nat → Int} {f : Int → Int} {n : Int} {k : Nat} (h15 : k ≠ 15) (h16 : k ≠ 16) : plI I f n k = I k := by
  unfold plI
  split
  · rw [uN_n h15, uN_n h16]
  · rw [uN_n h16]
theorem plI_16 {I : Nat → Int} {f : Int → Int} {n : Int} : plI I f n 16 = lastP f n := by
  unfold plI
  split
  · rw [uN_n (by decide), uN_s]
  · rw [uN_s]
theorem plI_15 {I : Nat → Int} {f : Int → Int} {n : Int} : plI I f n 15 = if cc (I 17) (I 18) 3 = 2 then firstP f (lastP f n) else I 15 := by
  unfold plI
  split
  · rw [uN_s]
  · rw [uN_n (by decide)]
set_option maxRecDepth 100000 in
set_option maxHeartbeats 4000000 in
theorem k_fit_t10 {T : XW} {I N : Nat → Int} {F : Nat → Int → Int} (hF : FR F) (hI : IR I) (hN : NR N) {n0 : Nat} {Z : XW → Option Value → Prop} (hT : 1 ≤ I 17 ∧ I 17 ≤ 8) (hH : 0 ≤ I 18 ∧ I 18 ≤ 1) {n tn hh : Int} (hn : 0 < n ∧ n ≤ 40) (h16 : 0 ≤ I 16 ∧ I 16 ≤ 40) (h15 : I 15 = -100 ∨ (0 ≤ I 15 ∧ I 15 ≤ 40)) (h12 : N 12 = 0) (hz : ∀ g, rowsOK (chI I) n (fitM (chI I) n) g → Z (cls (chI I) (uN N 12 (fitM (chI I) n)) (uN F 12 g) ++ T) none) : Vd (rm 4 88 0 0) [] mX0_fit n0 Z 0 0 51 [some (.ref 28), some (.ref 24), some (J tn), some (J hh), some (J n), none] [] (cls I N F ++ T) := by
  unfold NR at hN
  have hc0 := cc0 hT hH
  have ho := opn_r (I 18)
  by_cases hs : shr I
  · rw [chI_s hs] at hz
    refine v_aload_n (dec_of DX0_fit 27 rfl) rfl ?_
    refine v_V0v (k_choose_short hF hI (by unfold NR; exact hN) hT hH hs) lX0_49 (dec_of DX0_fit 28 rfl) rfl rfl (by decide) (nle rfl) rfl ?_
    refine vi_const (dec_of DX0_fit 29 rfl) ?_
    refine v_istore (dec_of DX0_fit 30 rfl) (by decide) ?_
    dsimp only [List.set]
    have e12 : uN N 12 0 = N := by have h9 := uN_self (f := N) (k := 12); rw [h12] at h9; exact h9
    refine Vd_w (w' := cls (uN (uN (uN (uN I 14 1) 15 (-100)) 19 0) 20 0) (uN N 12 0) (uN F 12 (F 12)) ++ T) (by rw [e12, uN_self]) ?_
    exact k_fit_loop10 (I := uN (uN (uN (uN I 14 1) 15 (-100)) 19 0) 20 0) hF ((((hI.up (by omega)).up (by omega)).up (by omega)).up (by omega)) (by unfold NR; exact hN) hT hH (by simp (disch := decide) only [uN_s, uN_n]; omega) (by simp (disch := decide) only [uN_s, uN_n]; omega) (by unfold frs; simp (disch := decide) only [uN_s, uN_n]; omega) (by simp (disch := decide) only [uN_s, uN_n]; omega) hn hz n.toNat 0 0 (F 12) (by omega) (by omega) (hF 12) (by rw [if_neg (by omega)]) (fun k h0 h1 => absurd h1 (by omega))
  · rw [chI_l hs] at hz
    refine v_aload_n (dec_of DX0_fit 27 rfl) rfl ?_
    refine v_V0v (k_choose_long hF hI (by unfold NR; exact hN) hT hH hs) lX0_49 (dec_of DX0_fit 28 rfl) rfl rfl (by decide) (nle rfl) rfl ?_
    refine vi_const (dec_of DX0_fit 29 rfl) ?_
    refine v_istore (dec_of DX0_fit 30 rfl) (by decide) ?_
    dsimp only [List.set]
    have e12 : uN N 12 0 = N := by have h9 := uN_self (f := N) (k := 12); rw [h12] at h9; exact h9
    refine Vd_w (w' := cls (uN (uN (uN I 14 0) 19 (opn (I 18))) 20 (cc (I 17) (I 18) 0)) (uN N 12 0) (uN F 12 (F 12)) ++ T) (by rw [e12, uN_self]) ?_
    exact k_fit_loop10 (I := uN (uN (uN I 14 0) 19 (opn (I 18))) 20 (cc (I 17) (I 18) 0)) hF (((hI.up (by omega)).up (by omega)).up (by omega)) (by unfold NR; exact hN) hT hH (by simp (disch := decide) only [uN_s, uN_n]; omega) (by simp (disch := decide) only [uN_s, uN_n]; omega) (by unfold frs; simp (disch := decide) only [uN_s, uN_n]; omega) (by simp (disch := decide) only [uN_s, uN_n]; omega) hn hz n.toNat 0 0 (F 12) (by omega) (by omega) (hF 12) (by rw [if_neg (by omega)]) (fun k h0 h1 => absurd h1 (by omega))
set_option maxRecDepth 100000 in
set_option maxHeartbeats 4000000 in
theorem k_fit10 {T : XW} {I N : Nat → Int} {F : Nat → Int → Int} (hF : FR F) (hI : IR I) (hN : NR N) {tn hh : Int} (ht : 1 ≤ tn ∧ tn ≤ 8) (hh1 : 0 ≤ hh ∧ hh ≤ 1) : Sp (rm 4 88 0 0) mX0_fit [.ref 28, .ref 24, J tn, J hh] (cls I N F ++ T) (fun w r => r = none ∧ ∃ (m : Int) (g : Int → Int), m = (if 0 < N 10 then fitM (fitI I (F 10) (N 10) tn hh) (N 10) else 0) ∧ w = cls (fitI I (F 10) (N 10) tn hh) (uN N 12 m) (uN F 12 g) ++ T ∧ rowsOK (fitI I (F 10) (N 10) tn hh) (N 10) m g) := by
  unfold NR at hN
  refine sp_of (ls := [some (.ref 28), some (.ref 24), some (J tn), some (J hh), none, none]) (by decide) (nle rfl) rfl rfl ?_
  have hI0 : IR (ft0 I tn hh) := (((((hI.up (by omega)).up (by omega)).up (by omega)).up (by omega)).up (by omega))
  have hN0 : NR (uN N 12 0) := NR12 (by unfold NR; exact hN) (by omega)
  by_cases hn : 0 < N 10
  · have eI : fitI I (F 10) (N 10) tn hh = chI (plI (ft0 I tn hh) (F 10) (N 10)) := by funext k; unfold fitI; rw [if_pos hn]
    have hL := lastP_r (f := F 10) hn
    have hFp := firstP_r (f := F 10) (l := lastP (F 10) (N 10)) hL.1
    rw [eI, if_pos hn]
    have hI1 : IR (plI (ft0 I tn hh) (F 10) (N 10)) := by unfold plI; split; exact ((hI0.up (by omega)).up (by omega)); exact hI0.up (by omega)
    refine v_aload_n (dec_of DX0_fit 0 rfl) rfl ?_
    refine v_iload_n (dec_of DX0_fit 1 rfl) rfl ?_
    refine cp_17 fX0_20 (dec_of DX0_fit 2 rfl) ?_
    refine v_aload_n (dec_of DX0_fit 3 rfl) rfl ?_
    refine v_iload_n (dec_of DX0_fit 4 rfl) rfl ?_
    refine cp_18 fX0_24 (dec_of DX0_fit 5 rfl) ?_
    refine v_aload_n (dec_of DX0_fit 6 rfl) rfl ?_
    refine v_get fX0_14 (dec_of DX0_fit 7 rfl) rfl rfl ?_
    try simp (disch := decide) only [uN_s, uN_n]
    refine vi_const (dec_of DX0_fit 8 rfl) ?_
    refine v_V1v (c12_keep (by first | omega | (simp (disch := decide) only [uN_s, uN_n]; omega)) (by first | omega | (simp (disch := decide) only [uN_s, uN_n]; omega))) lX0_27 (dec_of DX0_fit 9 rfl) rfl rfl (by decide) (nle rfl) rfl ?_
    try simp (disch := decide) only [uN_s, uN_n]
    refine v_aload_n (dec_of DX0_fit 10 rfl) rfl ?_
    refine vi_const (dec_of DX0_fit 11 rfl) ?_
    refine cp_14 fX0_31 (dec_of DX0_fit 12 rfl) (by omega) ?_
    refine v_aload_n (dec_of DX0_fit 13 rfl) rfl ?_
    refine vi_bi (dec_of DX0_fit 14 rfl) (by decide) ?_
    refine cp_15 fX0_35 (dec_of DX0_fit 15 rfl) ?_
    refine v_aload_n (dec_of DX0_fit 16 rfl) rfl ?_
    refine vi_bi (dec_of DX0_fit 17 rfl) (by decide) ?_
    refine cp_16 fX0_38 (dec_of DX0_fit 18 rfl) ?_
    refine v_aload_n (dec_of DX0_fit 19 rfl) rfl ?_
    refine v_V0r (c10_size) lX0_41 (dec_of DX0_fit 20 rfl) rfl rfl (by decide) (nle rfl) rfl ?_
    try simp (disch := decide) only [uN_s, uN_n]
    refine v_istore (dec_of DX0_fit 21 rfl) (by decide) ?_
    dsimp only [List.set]
    refine v_iload (dec_of DX0_fit 22 rfl) rfl ?_
    refine vi_if_le (tgt := 91) (dec_of DX0_fit 23 rfl) (by decide) (by first | omega | (simp (disch := decide) only [uN_s, uN_n]; omega)) (fun c43 => absurd c43 (by omega)) (fun c43 => ?_)
    refine v_aload_n (dec_of DX0_fit 24 rfl) rfl ?_
    refine v_aload_n (dec_of DX0_fit 25 rfl) rfl ?_
    refine Vd_w (w' := cls (ft0 I tn hh) (uN N 12 0) F ++ T) rfl ?_
    refine v_V1v (k_place10 hF hI0 hN0 (by simp (disch := decide) only [ft0, uN_s, uN_n]; omega) (by simp (disch := decide) only [ft0, uN_s, uN_n]; omega) (by simp (disch := decide) only [uN_n]; omega)) lX0_45 (dec_of DX0_fit 26 rfl) rfl rfl (by decide) (nle rfl) rfl ?_
    try simp (disch := decide) only [uN_s, uN_n]
    refine Vd_w (w' := cls (plI (ft0 I tn hh) (F 10) (N 10)) (uN N 12 0) F ++ T) rfl ?_
    exact k_fit_t10 hF hI1 hN0 (by rw [plI_e (by decide) (by decide)]; simp (disch := decide) only [ft0, uN_s, uN_n]; omega) (by rw [plI_e (by decide) (by decide)]; simp (disch := decide) only [ft0, uN_s, uN_n]; omega) (by omega) (by rw [plI_16]; omega) (by rw [plI_15]; simp (disch := decide) only [ft0, uN_s, uN_n]; split <;> omega) (by rw [uN_s]) (fun g hg => ⟨rfl, _, g, rfl, by rw [uN_uu], hg⟩)
  · have eI : fitI I (F 10) (N 10) tn hh = ft0 I tn hh := by funext k; unfold fitI; rw [if_neg hn]
    rw [eI, if_neg hn]
    refine v_aload_n (dec_of DX0_fit 0 rfl) rfl ?_
    refine v_iload_n (dec_of DX0_fit 1 rfl) rfl ?_
    refine cp_17 fX0_20 (dec_of DX0_fit 2 rfl) ?_
    refine v_aload_n (dec_of DX0_fit 3 rfl) rfl ?_
    refine v_iload_n (dec_of DX0_fit 4 rfl) rfl ?_
    refine cp_18 fX0_24 (dec_of DX0_fit 5 rfl) ?_
    refine v_aload_n (dec_of DX0_fit 6 rfl) rfl ?_
    refine v_get fX0_14 (dec_of DX0_fit 7 rfl) rfl rfl ?_
    try simp (disch := decide) only [uN_s, uN_n]
    refine vi_const (dec_of DX0_fit 8 rfl) ?_
    refine v_V1v (c12_keep (by first | omega | (simp (disch := decide) only [uN_s, uN_n]; omega)) (by first | omega | (simp (disch := decide) only [uN_s, uN_n]; omega))) lX0_27 (dec_of DX0_fit 9 rfl) rfl rfl (by decide) (nle rfl) rfl ?_
    try simp (disch := decide) only [uN_s, uN_n]
    refine v_aload_n (dec_of DX0_fit 10 rfl) rfl ?_
    refine vi_const (dec_of DX0_fit 11 rfl) ?_
    refine cp_14 fX0_31 (dec_of DX0_fit 12 rfl) (by omega) ?_
    refine v_aload_n (dec_of DX0_fit 13 rfl) rfl ?_
    refine vi_bi (dec_of DX0_fit 14 rfl) (by decide) ?_
    refine cp_15 fX0_35 (dec_of DX0_fit 15 rfl) ?_
    refine v_aload_n (dec_of DX0_fit 16 rfl) rfl ?_
    refine vi_bi (dec_of DX0_fit 17 rfl) (by decide) ?_
    refine cp_16 fX0_38 (dec_of DX0_fit 18 rfl) ?_
    refine v_aload_n (dec_of DX0_fit 19 rfl) rfl ?_
    refine v_V0r (c10_size) lX0_41 (dec_of DX0_fit 20 rfl) rfl rfl (by decide) (nle rfl) rfl ?_
    try simp (disch := decide) only [uN_s, uN_n]
    refine v_istore (dec_of DX0_fit 21 rfl) (by decide) ?_
    dsimp only [List.set]
    refine v_iload (dec_of DX0_fit 22 rfl) rfl ?_
    refine vi_if_le (tgt := 91) (dec_of DX0_fit 23 rfl) (by decide) (by first | omega | (simp (disch := decide) only [uN_s, uN_n]; omega)) (fun c43 => ?_) (fun c43 => absurd c43 (by omega))
    exact vi_vret (dec_of DX0_fit 47 rfl) rfl ⟨by decide, by decide⟩ (⟨rfl, 0, F 12, rfl, rfl, fun k h0 h1 => absurd h1 (by omega)⟩)
set_option maxRecDepth 100000 in
set_option maxHeartbeats 4000000 in
theorem k_fit_t11 {T : XW} {I N : Nat → Int} {F : Nat → Int → Int} (hF : FR F) (hI : IR I) (hN : NR N) {n0 : Nat} {Z : XW → Option Value → Prop} (hT : 1 ≤ I 17 ∧ I 17 ≤ 8) (hH : 0 ≤ I 18 ∧ I 18 ≤ 1) {n tn hh : Int} (hn : 0 < n ∧ n ≤ 40) (h16 : 0 ≤ I 16 ∧ I 16 ≤ 40) (h15 : I 15 = -100 ∨ (0 ≤ I 15 ∧ I 15 ≤ 40)) (h12 : N 12 = 0) (hz : ∀ g, rowsOK (chI I) n (fitM (chI I) n) g → Z (cls (chI I) (uN N 12 (fitM (chI I) n)) (uN F 12 g) ++ T) none) : Vd (rm 4 88 0 0) [] mX0_fit n0 Z 0 0 51 [some (.ref 28), some (.ref 26), some (J tn), some (J hh), some (J n), none] [] (cls I N F ++ T) := by
  unfold NR at hN
  have hc0 := cc0 hT hH
  have ho := opn_r (I 18)
  by_cases hs : shr I
  · rw [chI_s hs] at hz
    refine v_aload_n (dec_of DX0_fit 27 rfl) rfl ?_
    refine v_V0v (k_choose_short hF hI (by unfold NR; exact hN) hT hH hs) lX0_49 (dec_of DX0_fit 28 rfl) rfl rfl (by decide) (nle rfl) rfl ?_
    refine vi_const (dec_of DX0_fit 29 rfl) ?_
    refine v_istore (dec_of DX0_fit 30 rfl) (by decide) ?_
    dsimp only [List.set]
    have e12 : uN N 12 0 = N := by have h9 := uN_self (f := N) (k := 12); rw [h12] at h9; exact h9
    refine Vd_w (w' := cls (uN (uN (uN (uN I 14 1) 15 (-100)) 19 0) 20 0) (uN N 12 0) (uN F 12 (F 12)) ++ T) (by rw [e12, uN_self]) ?_
    exact k_fit_loop11 (I := uN (uN (uN (uN I 14 1) 15 (-100)) 19 0) 20 0) hF ((((hI.up (by omega)).up (by omega)).up (by omega)).up (by omega)) (by unfold NR; exact hN) hT hH (by simp (disch := decide) only [uN_s, uN_n]; omega) (by simp (disch := decide) only [uN_s, uN_n]; omega) (by unfold frs; simp (disch := decide) only [uN_s, uN_n]; omega) (by simp (disch := decide) only [uN_s, uN_n]; omega) hn hz n.toNat 0 0 (F 12) (by omega) (by omega) (hF 12) (by rw [if_neg (by omega)]) (fun k h0 h1 => absurd h1 (by omega))
  · rw [chI_l hs] at hz
    refine v_aload_n (dec_of DX0_fit 27 rfl) rfl ?_
    refine v_V0v (k_choose_long hF hI (by unfold NR; exact hN) hT hH hs) lX0_49 (dec_of DX0_fit 28 rfl) rfl rfl (by decide) (nle rfl) rfl ?_
    refine vi_const (dec_of DX0_fit 29 rfl) ?_
    refine v_istore (dec_of DX0_fit 30 rfl) (by decide) ?_
    dsimp only [List.set]
    have e12 : uN N 12 0 = N := by have h9 := uN_self (f := N) (k := 12); rw [h12] at h9; exact h9
    refine Vd_w (w' := cls (uN (uN (uN I 14 0) 19 (opn (I 18))) 20 (cc (I 17) (I 18) 0)) (uN N 12 0) (uN F 12 (F 12)) ++ T) (by rw [e12, uN_self]) ?_
    exact k_fit_loop11 (I := uN (uN (uN I 14 0) 19 (opn (I 18))) 20 (cc (I 17) (I 18) 0)) hF (((hI.up (by omega)).up (by omega)).up (by omega)) (by unfold NR; exact hN) hT hH (by simp (disch := decide) only [uN_s, uN_n]; omega) (by simp (disch := decide) only [uN_s, uN_n]; omega) (by unfold frs; simp (disch := decide) only [uN_s, uN_n]; omega) (by simp (disch := decide) only [uN_s, uN_n]; omega) hn hz n.toNat 0 0 (F 12) (by omega) (by omega) (hF 12) (by rw [if_neg (by omega)]) (fun k h0 h1 => absurd h1 (by omega))
set_option maxRecDepth 100000 in
set_option maxHeartbeats 4000000 in
theorem k_fit11 {T : XW} {I N : Nat → Int} {F : Nat → Int → Int} (hF : FR F) (hI : IR I) (hN : NR N) {tn hh : Int} (ht : 1 ≤ tn ∧ tn ≤ 8) (hh1 : 0 ≤ hh ∧ hh ≤ 1) : Sp (rm 4 88 0 0) mX0_fit [.ref 28, .ref 26, J tn, J hh] (cls I N F ++ T) (fun w r => r = none ∧ ∃ (m : Int) (g : Int → Int), m = (if 0 < N 11 then fitM (fitI I (F 11) (N 11) tn hh) (N 11) else 0) ∧ w = cls (fitI I (F 11) (N 11) tn hh) (uN N 12 m) (uN F 12 g) ++ T ∧ rowsOK (fitI I (F 11) (N 11) tn hh) (N 11) m g) := by
  unfold NR at hN
  refine sp_of (ls := [some (.ref 28), some (.ref 26), some (J tn), some (J hh), none, none]) (by decide) (nle rfl) rfl rfl ?_
  have hI0 : IR (ft0 I tn hh) := (((((hI.up (by omega)).up (by omega)).up (by omega)).up (by omega)).up (by omega))
  have hN0 : NR (uN N 12 0) := NR12 (by unfold NR; exact hN) (by omega)
  by_cases hn : 0 < N 11
  · have eI : fitI I (F 11) (N 11) tn hh = chI (plI (ft0 I tn hh) (F 11) (N 11)) := by funext k; unfold fitI; rw [if_pos hn]
    have hL := lastP_r (f := F 11) hn
    have hFp := firstP_r (f := F 11) (l := lastP (F 11) (N 11)) hL.1
    rw [eI, if_pos hn]
    have hI1 : IR (plI (ft0 I tn hh) (F 11) (N 11)) := by unfold plI; split; exact ((hI0.up (by omega)).up (by omega)); exact hI0.up (by omega)
    refine v_aload_n (dec_of DX0_fit 0 rfl) rfl ?_
    refine v_iload_n (dec_of DX0_fit 1 rfl) rfl ?_
    refine cp_17 fX0_20 (dec_of DX0_fit 2 rfl) ?_
    refine v_aload_n (dec_of DX0_fit 3 rfl) rfl ?_
    refine v_iload_n (dec_of DX0_fit 4 rfl) rfl ?_
    refine cp_18 fX0_24 (dec_of DX0_fit 5 rfl) ?_
    refine v_aload_n (dec_of DX0_fit 6 rfl) rfl ?_
    refine v_get fX0_14 (dec_of DX0_fit 7 rfl) rfl rfl ?_
    try simp (disch := decide) only [uN_s, uN_n]
    refine vi_const (dec_of DX0_fit 8 rfl) ?_
    refine v_V1v (c12_keep (by first | omega | (simp (disch := decide) only [uN_s, uN_n]; omega)) (by first | omega | (simp (disch := decide) only [uN_s, uN_n]; omega))) lX0_27 (dec_of DX0_fit 9 rfl) rfl rfl (by decide) (nle rfl) rfl ?_
    try simp (disch := decide) only [uN_s, uN_n]
    refine v_aload_n (dec_of DX0_fit 10 rfl) rfl ?_
    refine vi_const (dec_of DX0_fit 11 rfl) ?_
    refine cp_14 fX0_31 (dec_of DX0_fit 12 rfl) (by omega) ?_
    refine v_aload_n (dec_of DX0_fit 13 rfl) rfl ?_
    refine vi_bi (dec_of DX0_fit 14 rfl) (by decide) ?_
    refine cp_15 fX0_35 (dec_of DX0_fit 15 rfl) ?_
    refine v_aload_n (dec_of DX0_fit 16 rfl) rfl ?_
    refine vi_bi (dec_of DX0_fit 17 rfl) (by decide) ?_
    refine cp_16 fX0_38 (dec_of DX0_fit 18 rfl) ?_
    refine v_aload_n (dec_of DX0_fit 19 rfl) rfl ?_
    refine v_V0r (c11_size) lX0_41 (dec_of DX0_fit 20 rfl) rfl rfl (by decide) (nle rfl) rfl ?_
    try simp (disch := decide) only [uN_s, uN_n]
    refine v_istore (dec_of DX0_fit 21 rfl) (by decide) ?_
    dsimp only [List.set]
    refine v_iload (dec_of DX0_fit 22 rfl) rfl ?_
    refine vi_if_le (tgt := 91) (dec_of DX0_fit 23 rfl) (by decide) (by first | omega | (simp (disch := decide) only [uN_s, uN_n]; omega)) (fun c43 => absurd c43 (by omega)) (fun c43 => ?_)
    refine v_aload_n (dec_of DX0_fit 24 rfl) rfl ?_
    refine v_aload_n (dec_of DX0_fit 25 rfl) rfl ?_
    refine Vd_w (w' := cls (ft0 I tn hh) (uN N 12 0) F ++ T) rfl ?_
    refine v_V1v (k_place11 hF hI0 hN0 (by simp (disch := decide) only [ft0, uN_s, uN_n]; omega) (by simp (disch := decide) only [ft0, uN_s, uN_n]; omega) (by simp (disch := decide) only [uN_n]; omega)) lX0_45 (dec_of DX0_fit 26 rfl) rfl rfl (by decide) (nle rfl) rfl ?_
    try simp (disch := decide) only [uN_s, uN_n]
    refine Vd_w (w' := cls (plI (ft0 I tn hh) (F 11) (N 11)) (uN N 12 0) F ++ T) rfl ?_
    exact k_fit_t11 hF hI1 hN0 (by rw [plI_e (by decide) (by decide)]; simp (disch := decide) only [ft0, uN_s, uN_n]; omega) (by rw [plI_e (by decide) (by decide)]; simp (disch := decide) only [ft0, uN_s, uN_n]; omega) (by omega) (by rw [plI_16]; omega) (by rw [plI_15]; simp (disch := decide) only [ft0, uN_s, uN_n]; split <;> omega) (by rw [uN_s]) (fun g hg => ⟨rfl, _, g, rfl, by rw [uN_uu], hg⟩)
  · have eI : fitI I (F 11) (N 11) tn hh = ft0 I tn hh := by funext k; unfold fitI; rw [if_neg hn]
    rw [eI, if_neg hn]
    refine v_aload_n (dec_of DX0_fit 0 rfl) rfl ?_
    refine v_iload_n (dec_of DX0_fit 1 rfl) rfl ?_
    refine cp_17 fX0_20 (dec_of DX0_fit 2 rfl) ?_
    refine v_aload_n (dec_of DX0_fit 3 rfl) rfl ?_
    refine v_iload_n (dec_of DX0_fit 4 rfl) rfl ?_
    refine cp_18 fX0_24 (dec_of DX0_fit 5 rfl) ?_
    refine v_aload_n (dec_of DX0_fit 6 rfl) rfl ?_
    refine v_get fX0_14 (dec_of DX0_fit 7 rfl) rfl rfl ?_
    try simp (disch := decide) only [uN_s, uN_n]
    refine vi_const (dec_of DX0_fit 8 rfl) ?_
    refine v_V1v (c12_keep (by first | omega | (simp (disch := decide) only [uN_s, uN_n]; omega)) (by first | omega | (simp (disch := decide) only [uN_s, uN_n]; omega))) lX0_27 (dec_of DX0_fit 9 rfl) rfl rfl (by decide) (nle rfl) rfl ?_
    try simp (disch := decide) only [uN_s, uN_n]
    refine v_aload_n (dec_of DX0_fit 10 rfl) rfl ?_
    refine vi_const (dec_of DX0_fit 11 rfl) ?_
    refine cp_14 fX0_31 (dec_of DX0_fit 12 rfl) (by omega) ?_
    refine v_aload_n (dec_of DX0_fit 13 rfl) rfl ?_
    refine vi_bi (dec_of DX0_fit 14 rfl) (by decide) ?_
    refine cp_15 fX0_35 (dec_of DX0_fit 15 rfl) ?_
    refine v_aload_n (dec_of DX0_fit 16 rfl) rfl ?_
    refine vi_bi (dec_of DX0_fit 17 rfl) (by decide) ?_
    refine cp_16 fX0_38 (dec_of DX0_fit 18 rfl) ?_
    refine v_aload_n (dec_of DX0_fit 19 rfl) rfl ?_
    refine v_V0r (c11_size) lX0_41 (dec_of DX0_fit 20 rfl) rfl rfl (by decide) (nle rfl) rfl ?_
    try simp (disch := decide) only [uN_s, uN_n]
    refine v_istore (dec_of DX0_fit 21 rfl) (by decide) ?_
    dsimp only [List.set]
    refine v_iload (dec_of DX0_fit 22 rfl) rfl ?_
    refine vi_if_le (tgt := 91) (dec_of DX0_fit 23 rfl) (by decide) (by first | omega | (simp (disch := decide) only [uN_s, uN_n]; omega)) (fun c43 => ?_) (fun c43 => absurd c43 (by omega))
    exact vi_vret (dec_of DX0_fit 47 rfl) rfl ⟨by decide, by decide⟩ (⟨rfl, 0, F 12, rfl, rfl, fun k h0 h1 => absurd h1 (by omega)⟩)
end
section
/-! Psalm, the public methods but read and write (printed by wip/tools/gen_c8.py) -/
set_option maxRecDepth 100000 in
set_option maxHeartbeats 4000000 in
theorem k_isHalf {w : XW} {a : Int} (ha : -2147483648 ≤ a ∧ a < 2147483648) : Sd (rm 0 0 0 0) mX1_isHalf [J a] (w) (w) (some (J (if a = 0 ∨ a = 1 then 1 else 0))) := by
  unfold Sd
  refine sp_of (ls := [some (J a)]) (by decide) (nle rfl) rfl rfl ?_
  refine v_iload_n (dec_of DX1_isHalf 0 rfl) rfl ?_
  refine vi_if_eq (tgt := 9) (dec_of DX1_isHalf 1 rfl) (by decide) (by first | omega | exact bnd_r _ _ | exact hF _ _ | exact hI _ | exact hG _ _ | exact hK _ | (simp [uN] <;> omega)) (fun c1 => ?_) (fun c1 => ?_)
  · rw [if_pos (by omega)]
    refine vi_const (dec_of DX1_isHalf 5 rfl) ?_
    refine v_goto (tgt := 14) (dec_of DX1_isHalf 6 rfl) (by decide) ?_
    exact vi_retz (dec_of DX1_isHalf 8 rfl) rfl (by first | omega | exact bnd_r _ _ | exact hF _ _ | exact hI _ | exact hG _ _ | exact hK _ | (simp [uN] <;> omega)) ⟨by decide, by decide⟩ (⟨rfl, rfl⟩)
  · refine v_iload_n (dec_of DX1_isHalf 2 rfl) rfl ?_
    refine vi_const (dec_of DX1_isHalf 3 rfl) ?_
    refine vi_icmp_ne (tgt := 13) (dec_of DX1_isHalf 4 rfl) (by decide) (by first | omega | exact bnd_r _ _ | exact hF _ _ | exact hI _ | exact hG _ _ | exact hK _ | (simp [uN] <;> omega)) (by first | omega | exact bnd_r _ _ | exact hF _ _ | exact hI _ | exact hG _ _ | exact hK _ | (simp [uN] <;> omega)) (fun c6 => ?_) (fun c6 => ?_)
    · rw [if_neg (by omega)]
      refine vi_const (dec_of DX1_isHalf 7 rfl) ?_
      exact vi_retz (dec_of DX1_isHalf 8 rfl) rfl (by first | omega | exact bnd_r _ _ | exact hF _ _ | exact hI _ | exact hG _ _ | exact hK _ | (simp [uN] <;> omega)) ⟨by decide, by decide⟩ (⟨rfl, rfl⟩)
    · rw [if_pos (by omega)]
      refine vi_const (dec_of DX1_isHalf 5 rfl) ?_
      refine v_goto (tgt := 14) (dec_of DX1_isHalf 6 rfl) (by decide) ?_
      exact vi_retz (dec_of DX1_isHalf 8 rfl) rfl (by first | omega | exact bnd_r _ _ | exact hF _ _ | exact hI _ | exact hG _ _ | exact hK _ | (simp [uN] <;> omega)) ⟨by decide, by decide⟩ (⟨rfl, rfl⟩)
set_option maxRecDepth 100000 in
set_option maxHeartbeats 4000000 in
theorem k_ctone_ok {T : XW} {I N : Nat → Int} {F : Nat → Int → Int} (hF : FR F) (hI : IR I) (hN : NR N) {a : Int} (h : 1 ≤ a ∧ a ≤ 8) : Sd (rm 0 0 0 0) mX1_changeTone [.ref 23, J a] (cls I N F ++ T) (cls (uN I 13 a) N F ++ T) (some (J (I 13))) := by
  unfold Sd
  unfold NR at hN
  refine sp_of (ls := [some (.ref 23), some (J a), none]) (by decide) (nle rfl) rfl rfl ?_
  refine v_iload_n (dec_of DX1_changeTone 0 rfl) rfl ?_
  refine vi_const (dec_of DX1_changeTone 1 rfl) ?_
  refine vi_icmp_lt (tgt := 11) (dec_of DX1_changeTone 2 rfl) (by decide) (by first | omega | exact bnd_r _ _ | exact hF _ _ | exact hI _ | exact hG _ _ | exact hK _ | (simp [uN] <;> omega)) (by first | omega | exact bnd_r _ _ | exact hF _ _ | exact hI _ | exact hG _ _ | exact hK _ | (simp [uN] <;> omega)) (fun c2 => absurd c2 (by omega)) (fun c2 => ?_)
  refine v_iload_n (dec_of DX1_changeTone 3 rfl) rfl ?_
  refine vi_bi (dec_of DX1_changeTone 4 rfl) (by decide) ?_
  refine vi_icmp_le (tgt := 14) (dec_of DX1_changeTone 5 rfl) (by decide) (by first | omega | exact bnd_r _ _ | exact hF _ _ | exact hI _ | exact hG _ _ | exact hK _ | (simp [uN] <;> omega)) (by first | omega | exact bnd_r _ _ | exact hF _ _ | exact hI _ | exact hG _ _ | exact hK _ | (simp [uN] <;> omega)) (fun c8 => ?_) (fun c8 => absurd c8 (by omega))
  refine v_aload_n (dec_of DX1_changeTone 8 rfl) rfl ?_
  refine v_get fX1_32 (dec_of DX1_changeTone 9 rfl) rfl rfl ?_
  refine v_istore_n (dec_of DX1_changeTone 10 rfl) (by decide) ?_
  dsimp only [List.set]
  refine v_aload_n (dec_of DX1_changeTone 11 rfl) rfl ?_
  refine v_iload_n (dec_of DX1_changeTone 12 rfl) rfl ?_
  refine cp_13 fX1_32 (dec_of DX1_changeTone 13 rfl) ?_
  refine v_iload_n (dec_of DX1_changeTone 14 rfl) rfl ?_
  exact vi_ret (dec_of DX1_changeTone 15 rfl) rfl ⟨by decide, by decide⟩ (⟨rfl, rfl⟩)
set_option maxRecDepth 100000 in
set_option maxHeartbeats 4000000 in
theorem k_ctone_out {T : XW} {I N : Nat → Int} {F : Nat → Int → Int} (hF : FR F) (hI : IR I) (hN : NR N) {a : Int} (ha : -2147483648 ≤ a ∧ a < 2147483648) (h : ¬ (1 ≤ a ∧ a ≤ 8)) : Sd (rm 0 0 0 0) mX1_changeTone [.ref 23, J a] (cls I N F ++ T) (cls I N F ++ T) (some (J (-102))) := by
  unfold Sd
  unfold NR at hN
  refine sp_of (ls := [some (.ref 23), some (J a), none]) (by decide) (nle rfl) rfl rfl ?_
  refine v_iload_n (dec_of DX1_changeTone 0 rfl) rfl ?_
  refine vi_const (dec_of DX1_changeTone 1 rfl) ?_
  refine vi_icmp_lt (tgt := 11) (dec_of DX1_changeTone 2 rfl) (by decide) (by first | omega | exact bnd_r _ _ | exact hF _ _ | exact hI _ | exact hG _ _ | exact hK _ | (simp [uN] <;> omega)) (by first | omega | exact bnd_r _ _ | exact hF _ _ | exact hI _ | exact hG _ _ | exact hK _ | (simp [uN] <;> omega)) (fun c2 => ?_) (fun c2 => ?_)
  · refine vi_bi (dec_of DX1_changeTone 6 rfl) (by decide) ?_
    exact vi_ret (dec_of DX1_changeTone 7 rfl) rfl ⟨by decide, by decide⟩ (⟨rfl, rfl⟩)
  · refine v_iload_n (dec_of DX1_changeTone 3 rfl) rfl ?_
    refine vi_bi (dec_of DX1_changeTone 4 rfl) (by decide) ?_
    refine vi_icmp_le (tgt := 14) (dec_of DX1_changeTone 5 rfl) (by decide) (by first | omega | exact bnd_r _ _ | exact hF _ _ | exact hI _ | exact hG _ _ | exact hK _ | (simp [uN] <;> omega)) (by first | omega | exact bnd_r _ _ | exact hF _ _ | exact hI _ | exact hG _ _ | exact hK _ | (simp [uN] <;> omega)) (fun c8 => ?_) (fun c8 => ?_)
    · exact absurd (show 1 ≤ a ∧ a ≤ 8 by omega) h
    · refine vi_bi (dec_of DX1_changeTone 6 rfl) (by decide) ?_
      exact vi_ret (dec_of DX1_changeTone 7 rfl) rfl ⟨by decide, by decide⟩ (⟨rfl, rfl⟩)
set_option maxRecDepth 100000 in
set_option maxHeartbeats 4000000 in
theorem k_accOf0 {T : XW} {I N : Nat → Int} {F : Nat → Int → Int} (hF : FR F) (hI : IR I) (hN : NR N) {a : Int} (ha : -2147483648 ≤ a ∧ a < 2147483648) (h : a = 0) : Sd (rm 0 0 0 0) mX1_accentsOf [.ref 23, J a] (cls I N F ++ T) (cls I N F ++ T) (some (.ref 24)) := by
  unfold Sd
  unfold NR at hN
  refine sp_of (ls := [some (.ref 23), some (J a)]) (by decide) (nle rfl) rfl rfl ?_
  refine v_iload_n (dec_of DX1_accentsOf 0 rfl) rfl ?_
  refine vi_if_ne (tgt := 11) (dec_of DX1_accentsOf 1 rfl) (by decide) (by first | omega | exact bnd_r _ _ | exact hF _ _ | exact hI _ | exact hG _ _ | exact hK _ | (simp [uN] <;> omega)) (fun c1 => absurd c1 (by omega)) (fun c1 => ?_)
  refine v_aload_n (dec_of DX1_accentsOf 2 rfl) rfl ?_
  refine v_get fX1_16 (dec_of DX1_accentsOf 3 rfl) rfl rfl ?_
  refine v_goto (tgt := 15) (dec_of DX1_accentsOf 4 rfl) (by decide) ?_
  exact vi_aret (dec_of DX1_accentsOf 7 rfl) ⟨_, rfl⟩ ⟨by decide, by decide⟩ (⟨rfl, rfl⟩)
set_option maxRecDepth 100000 in
set_option maxHeartbeats 4000000 in
theorem k_addS0_full {T : XW} {I N : Nat → Int} {F : Nat → Int → Int} (hF : FR F) (hI : IR I) (hN : NR N) {a b : Int} (hb : b = 0 ∨ b = 1) (h : a = 0) (hf : 40 ≤ N 10) : Sd (rm 1 23 0 0) mX1_addSyllable [.ref 23, J a, J b] (cls I N F ++ T) (cls I N F ++ T) (some (J (-104))) := by
  unfold Sd
  unfold NR at hN
  refine sp_of (ls := [some (.ref 23), some (J a), some (J b), none]) (by decide) (nle rfl) rfl rfl ?_
  refine v_iload_n (dec_of DX1_addSyllable 0 rfl) rfl ?_
  refine v_S1r (k_isHalf (by omega)) lX1_38 (dec_of DX1_addSyllable 1 rfl) (by decide) (nle rfl) rfl ?_
  refine vi_if_ne (tgt := 10) (dec_of DX1_addSyllable 2 rfl) (by decide) (by first | omega | exact bnd_r _ _ | exact hF _ _ | exact hI _ | exact hG _ _ | exact hK _ | (simp [uN] <;> omega)) (fun c4 => ?_) (fun c4 => absurd c4 (by omega))
  refine v_aload_n (dec_of DX1_addSyllable 5 rfl) rfl ?_
  refine v_iload_n (dec_of DX1_addSyllable 6 rfl) rfl ?_
  refine v_V1r (k_accOf0 hF hI (by unfold NR; exact hN) (by omega) (by omega)) lX1_42 (dec_of DX1_addSyllable 7 rfl) rfl rfl (by decide) (nle rfl) rfl ?_
  refine v_astore_n (dec_of DX1_addSyllable 8 rfl) (by decide) ?_
  dsimp only [List.set]
  refine v_aload_n (dec_of DX1_addSyllable 9 rfl) rfl ?_
  refine v_V0r (c10_full (by first | omega | exact bnd_r _ _ | exact hF _ _ | exact hI _ | exact hG _ _ | exact hK _ | (simp [uN] <;> omega))) lX1_46 (dec_of DX1_addSyllable 10 rfl) rfl rfl (by decide) (nle rfl) rfl ?_
  refine vi_if_eq (tgt := 26) (dec_of DX1_addSyllable 11 rfl) (by decide) (by first | omega | exact bnd_r _ _ | exact hF _ _ | exact hI _ | exact hG _ _ | exact hK _ | (simp [uN] <;> omega)) (fun c20 => absurd c20 (by omega)) (fun c20 => ?_)
  refine vi_bi (dec_of DX1_addSyllable 12 rfl) (by decide) ?_
  exact vi_ret (dec_of DX1_addSyllable 13 rfl) rfl ⟨by decide, by decide⟩ (⟨rfl, rfl⟩)
set_option maxRecDepth 100000 in
set_option maxHeartbeats 4000000 in
theorem k_addS0 {T : XW} {I N : Nat → Int} {F : Nat → Int → Int} (hF : FR F) (hI : IR I) (hN : NR N) {a b : Int} (hb : b = 0 ∨ b = 1) (h : a = 0) (hf : N 10 < 40) : Sd (rm 1 23 0 0) mX1_addSyllable [.ref 23, J a, J b] (cls I N F ++ T) (cls I (uN N 10 (N 10 + 1)) (uN F 10 (uI (F 10) (N 10) b)) ++ T) (some (J (N 10 + 1))) := by
  unfold Sd
  unfold NR at hN
  refine sp_of (ls := [some (.ref 23), some (J a), some (J b), none]) (by decide) (nle rfl) rfl rfl ?_
  refine v_iload_n (dec_of DX1_addSyllable 0 rfl) rfl ?_
  refine v_S1r (k_isHalf (by omega)) lX1_38 (dec_of DX1_addSyllable 1 rfl) (by decide) (nle rfl) rfl ?_
  refine vi_if_ne (tgt := 10) (dec_of DX1_addSyllable 2 rfl) (by decide) (by first | omega | exact bnd_r _ _ | exact hF _ _ | exact hI _ | exact hG _ _ | exact hK _ | (simp [uN] <;> omega)) (fun c4 => ?_) (fun c4 => absurd c4 (by omega))
  refine v_aload_n (dec_of DX1_addSyllable 5 rfl) rfl ?_
  refine v_iload_n (dec_of DX1_addSyllable 6 rfl) rfl ?_
  refine v_V1r (k_accOf0 hF hI (by unfold NR; exact hN) (by omega) (by omega)) lX1_42 (dec_of DX1_addSyllable 7 rfl) rfl rfl (by decide) (nle rfl) rfl ?_
  refine v_astore_n (dec_of DX1_addSyllable 8 rfl) (by decide) ?_
  dsimp only [List.set]
  refine v_aload_n (dec_of DX1_addSyllable 9 rfl) rfl ?_
  refine v_V0r (c10_full (by first | omega | exact bnd_r _ _ | exact hF _ _ | exact hI _ | exact hG _ _ | exact hK _ | (simp [uN] <;> omega))) lX1_46 (dec_of DX1_addSyllable 10 rfl) rfl rfl (by decide) (nle rfl) rfl ?_
  refine vi_if_eq (tgt := 26) (dec_of DX1_addSyllable 11 rfl) (by decide) (by first | omega | exact bnd_r _ _ | exact hF _ _ | exact hI _ | exact hG _ _ | exact hK _ | (simp [uN] <;> omega)) (fun c20 => ?_) (fun c20 => absurd c20 (by omega))
  refine v_aload_n (dec_of DX1_addSyllable 14 rfl) rfl ?_
  refine v_iload_n (dec_of DX1_addSyllable 15 rfl) rfl ?_
  refine vi_if_eq (tgt := 35) (dec_of DX1_addSyllable 16 rfl) (by decide) (by first | omega | exact bnd_r _ _ | exact hF _ _ | exact hI _ | exact hG _ _ | exact hK _ | (simp [uN] <;> omega)) (fun c28 => ?_) (fun c28 => ?_)
  · obtain rfl : b = 0 := by omega
    refine vi_const (dec_of DX1_addSyllable 19 rfl) ?_
    refine v_V1r (c10_add (by first | omega | exact bnd_r _ _ | exact hF _ _ | exact hI _ | exact hG _ _ | exact hK _ | (simp [uN] <;> omega))) lX1_50 (dec_of DX1_addSyllable 20 rfl) rfl rfl (by decide) (nle rfl) rfl ?_
    refine v_pop (dec_of DX1_addSyllable 21 rfl) rfl ?_
    refine v_aload_n (dec_of DX1_addSyllable 22 rfl) rfl ?_
    refine v_V0r (c10_size) lX1_54 (dec_of DX1_addSyllable 23 rfl) rfl rfl (by decide) (nle rfl) rfl ?_
    exact vi_ret (dec_of DX1_addSyllable 24 rfl) rfl ⟨by decide, by decide⟩ (⟨rfl, rfl⟩)
  · obtain rfl : b = 1 := by omega
    refine vi_const (dec_of DX1_addSyllable 17 rfl) ?_
    refine v_goto (tgt := 36) (dec_of DX1_addSyllable 18 rfl) (by decide) ?_
    refine v_V1r (c10_add (by first | omega | exact bnd_r _ _ | exact hF _ _ | exact hI _ | exact hG _ _ | exact hK _ | (simp [uN] <;> omega))) lX1_50 (dec_of DX1_addSyllable 20 rfl) rfl rfl (by decide) (nle rfl) rfl ?_
    refine v_pop (dec_of DX1_addSyllable 21 rfl) rfl ?_
    refine v_aload_n (dec_of DX1_addSyllable 22 rfl) rfl ?_
    refine v_V0r (c10_size) lX1_54 (dec_of DX1_addSyllable 23 rfl) rfl rfl (by decide) (nle rfl) rfl ?_
    exact vi_ret (dec_of DX1_addSyllable 24 rfl) rfl ⟨by decide, by decide⟩ (⟨rfl, rfl⟩)
set_option maxRecDepth 100000 in
set_option maxHeartbeats 4000000 in
theorem k_accOf1 {T : XW} {I N : Nat → Int} {F : Nat → Int → Int} (hF : FR F) (hI : IR I) (hN : NR N) {a : Int} (ha : -2147483648 ≤ a ∧ a < 2147483648) (h : ¬ a = 0) : Sd (rm 0 0 0 0) mX1_accentsOf [.ref 23, J a] (cls I N F ++ T) (cls I N F ++ T) (some (.ref 26)) := by
  unfold Sd
  unfold NR at hN
  refine sp_of (ls := [some (.ref 23), some (J a)]) (by decide) (nle rfl) rfl rfl ?_
  refine v_iload_n (dec_of DX1_accentsOf 0 rfl) rfl ?_
  refine vi_if_ne (tgt := 11) (dec_of DX1_accentsOf 1 rfl) (by decide) (by first | omega | exact bnd_r _ _ | exact hF _ _ | exact hI _ | exact hG _ _ | exact hK _ | (simp [uN] <;> omega)) (fun c1 => ?_) (fun c1 => absurd c1 (by omega))
  refine v_aload_n (dec_of DX1_accentsOf 5 rfl) rfl ?_
  refine v_get fX1_20 (dec_of DX1_accentsOf 6 rfl) rfl rfl ?_
  exact vi_aret (dec_of DX1_accentsOf 7 rfl) ⟨_, rfl⟩ ⟨by decide, by decide⟩ (⟨rfl, rfl⟩)
set_option maxRecDepth 100000 in
set_option maxHeartbeats 4000000 in
theorem k_addS1_full {T : XW} {I N : Nat → Int} {F : Nat → Int → Int} (hF : FR F) (hI : IR I) (hN : NR N) {a b : Int} (hb : b = 0 ∨ b = 1) (h : a = 1) (hf : 40 ≤ N 11) : Sd (rm 1 23 0 0) mX1_addSyllable [.ref 23, J a, J b] (cls I N F ++ T) (cls I N F ++ T) (some (J (-104))) := by
  unfold Sd
  unfold NR at hN
  refine sp_of (ls := [some (.ref 23), some (J a), some (J b), none]) (by decide) (nle rfl) rfl rfl ?_
  refine v_iload_n (dec_of DX1_addSyllable 0 rfl) rfl ?_
  refine v_S1r (k_isHalf (by omega)) lX1_38 (dec_of DX1_addSyllable 1 rfl) (by decide) (nle rfl) rfl ?_
  refine vi_if_ne (tgt := 10) (dec_of DX1_addSyllable 2 rfl) (by decide) (by first | omega | exact bnd_r _ _ | exact hF _ _ | exact hI _ | exact hG _ _ | exact hK _ | (simp [uN] <;> omega)) (fun c4 => ?_) (fun c4 => absurd c4 (by omega))
  refine v_aload_n (dec_of DX1_addSyllable 5 rfl) rfl ?_
  refine v_iload_n (dec_of DX1_addSyllable 6 rfl) rfl ?_
  refine v_V1r (k_accOf1 hF hI (by unfold NR; exact hN) (by omega) (by omega)) lX1_42 (dec_of DX1_addSyllable 7 rfl) rfl rfl (by decide) (nle rfl) rfl ?_
  refine v_astore_n (dec_of DX1_addSyllable 8 rfl) (by decide) ?_
  dsimp only [List.set]
  refine v_aload_n (dec_of DX1_addSyllable 9 rfl) rfl ?_
  refine v_V0r (c11_full (by first | omega | exact bnd_r _ _ | exact hF _ _ | exact hI _ | exact hG _ _ | exact hK _ | (simp [uN] <;> omega))) lX1_46 (dec_of DX1_addSyllable 10 rfl) rfl rfl (by decide) (nle rfl) rfl ?_
  refine vi_if_eq (tgt := 26) (dec_of DX1_addSyllable 11 rfl) (by decide) (by first | omega | exact bnd_r _ _ | exact hF _ _ | exact hI _ | exact hG _ _ | exact hK _ | (simp [uN] <;> omega)) (fun c20 => absurd c20 (by omega)) (fun c20 => ?_)
  refine vi_bi (dec_of DX1_addSyllable 12 rfl) (by decide) ?_
  exact vi_ret (dec_of DX1_addSyllable 13 rfl) rfl ⟨by decide, by decide⟩ (⟨rfl, rfl⟩)
set_option maxRecDepth 100000 in
set_option maxHeartbeats 4000000 in
theorem k_addS1 {T : XW} {I N : Nat → Int} {F : Nat → Int → Int} (hF : FR F) (hI : IR I) (hN : NR N) {a b : Int} (hb : b = 0 ∨ b = 1) (h : a = 1) (hf : N 11 < 40) : Sd (rm 1 23 0 0) mX1_addSyllable [.ref 23, J a, J b] (cls I N F ++ T) (cls I (uN N 11 (N 11 + 1)) (uN F 11 (uI (F 11) (N 11) b)) ++ T) (some (J (N 11 + 1))) := by
  unfold Sd
  unfold NR at hN
  refine sp_of (ls := [some (.ref 23), some (J a), some (J b), none]) (by decide) (nle rfl) rfl rfl ?_
  refine v_iload_n (dec_of DX1_addSyllable 0 rfl) rfl ?_
  refine v_S1r (k_isHalf (by omega)) lX1_38 (dec_of DX1_addSyllable 1 rfl) (by decide) (nle rfl) rfl ?_
  refine vi_if_ne (tgt := 10) (dec_of DX1_addSyllable 2 rfl) (by decide) (by first | omega | exact bnd_r _ _ | exact hF _ _ | exact hI _ | exact hG _ _ | exact hK _ | (simp [uN] <;> omega)) (fun c4 => ?_) (fun c4 => absurd c4 (by omega))
  refine v_aload_n (dec_of DX1_addSyllable 5 rfl) rfl ?_
  refine v_iload_n (dec_of DX1_addSyllable 6 rfl) rfl ?_
  refine v_V1r (k_accOf1 hF hI (by unfold NR; exact hN) (by omega) (by omega)) lX1_42 (dec_of DX1_addSyllable 7 rfl) rfl rfl (by decide) (nle rfl) rfl ?_
  refine v_astore_n (dec_of DX1_addSyllable 8 rfl) (by decide) ?_
  dsimp only [List.set]
  refine v_aload_n (dec_of DX1_addSyllable 9 rfl) rfl ?_
  refine v_V0r (c11_full (by first | omega | exact bnd_r _ _ | exact hF _ _ | exact hI _ | exact hG _ _ | exact hK _ | (simp [uN] <;> omega))) lX1_46 (dec_of DX1_addSyllable 10 rfl) rfl rfl (by decide) (nle rfl) rfl ?_
  refine vi_if_eq (tgt := 26) (dec_of DX1_addSyllable 11 rfl) (by decide) (by first | omega | exact bnd_r _ _ | exact hF _ _ | exact hI _ | exact hG _ _ | exact hK _ | (simp [uN] <;> omega)) (fun c20 => ?_) (fun c20 => absurd c20 (by omega))
  refine v_aload_n (dec_of DX1_addSyllable 14 rfl) rfl ?_
  refine v_iload_n (dec_of DX1_addSyllable 15 rfl) rfl ?_
  refine vi_if_eq (tgt := 35) (dec_of DX1_addSyllable 16 rfl) (by decide) (by first | omega | exact bnd_r _ _ | exact hF _ _ | exact hI _ | exact hG _ _ | exact hK _ | (simp [uN] <;> omega)) (fun c28 => ?_) (fun c28 => ?_)
  · obtain rfl : b = 0 := by omega
    refine vi_const (dec_of DX1_addSyllable 19 rfl) ?_
    refine v_V1r (c11_add (by first | omega | exact bnd_r _ _ | exact hF _ _ | exact hI _ | exact hG _ _ | exact hK _ | (simp [uN] <;> omega))) lX1_50 (dec_of DX1_addSyllable 20 rfl) rfl rfl (by decide) (nle rfl) rfl ?_
    refine v_pop (dec_of DX1_addSyllable 21 rfl) rfl ?_
    refine v_aload_n (dec_of DX1_addSyllable 22 rfl) rfl ?_
    refine v_V0r (c11_size) lX1_54 (dec_of DX1_addSyllable 23 rfl) rfl rfl (by decide) (nle rfl) rfl ?_
    exact vi_ret (dec_of DX1_addSyllable 24 rfl) rfl ⟨by decide, by decide⟩ (⟨rfl, rfl⟩)
  · obtain rfl : b = 1 := by omega
    refine vi_const (dec_of DX1_addSyllable 17 rfl) ?_
    refine v_goto (tgt := 36) (dec_of DX1_addSyllable 18 rfl) (by decide) ?_
    refine v_V1r (c11_add (by first | omega | exact bnd_r _ _ | exact hF _ _ | exact hI _ | exact hG _ _ | exact hK _ | (simp [uN] <;> omega))) lX1_50 (dec_of DX1_addSyllable 20 rfl) rfl rfl (by decide) (nle rfl) rfl ?_
    refine v_pop (dec_of DX1_addSyllable 21 rfl) rfl ?_
    refine v_aload_n (dec_of DX1_addSyllable 22 rfl) rfl ?_
    refine v_V0r (c11_size) lX1_54 (dec_of DX1_addSyllable 23 rfl) rfl rfl (by decide) (nle rfl) rfl ?_
    exact vi_ret (dec_of DX1_addSyllable 24 rfl) rfl ⟨by decide, by decide⟩ (⟨rfl, rfl⟩)
set_option maxRecDepth 100000 in
set_option maxHeartbeats 4000000 in
theorem k_addS_out {T : XW} {I N : Nat → Int} {F : Nat → Int → Int} (hF : FR F) (hI : IR I) (hN : NR N) {a b : Int} (ha : -2147483648 ≤ a ∧ a < 2147483648) (h : ¬ (a = 0 ∨ a = 1)) : Sd (rm 1 23 0 0) mX1_addSyllable [.ref 23, J a, J b] (cls I N F ++ T) (cls I N F ++ T) (some (J (-102))) := by
  unfold Sd
  unfold NR at hN
  refine sp_of (ls := [some (.ref 23), some (J a), some (J b), none]) (by decide) (nle rfl) rfl rfl ?_
  refine v_iload_n (dec_of DX1_addSyllable 0 rfl) rfl ?_
  refine v_S1r (k_isHalf (by omega)) lX1_38 (dec_of DX1_addSyllable 1 rfl) (by decide) (nle rfl) rfl ?_
  refine vi_if_ne (tgt := 10) (dec_of DX1_addSyllable 2 rfl) (by decide) (by first | omega | exact bnd_r _ _ | exact hF _ _ | exact hI _ | exact hG _ _ | exact hK _ | (simp [uN] <;> omega)) (fun c4 => absurd c4 (by omega)) (fun c4 => ?_)
  refine vi_bi (dec_of DX1_addSyllable 3 rfl) (by decide) ?_
  exact vi_ret (dec_of DX1_addSyllable 4 rfl) rfl ⟨by decide, by decide⟩ (⟨rfl, rfl⟩)
set_option maxRecDepth 100000 in
set_option maxHeartbeats 4000000 in
theorem k_forget {T : XW} {I N : Nat → Int} {F : Nat → Int → Int} (hF : FR F) (hI : IR I) (hN : NR N)  : Sd (rm 1 21 0 0) mX1_forgetVerse [.ref 23] (cls I N F ++ T) (cls I (uN (uN N 10 0) 11 0) F ++ T) (some (J (N 10 + N 11))) := by
  unfold Sd
  unfold NR at hN
  refine sp_of (ls := [some (.ref 23), none]) (by decide) (nle rfl) rfl rfl ?_
  refine v_aload_n (dec_of DX1_forgetVerse 0 rfl) rfl ?_
  refine v_get fX1_16 (dec_of DX1_forgetVerse 1 rfl) rfl rfl ?_
  refine v_V0r (c10_size) lX1_54 (dec_of DX1_forgetVerse 2 rfl) rfl rfl (by decide) (nle rfl) rfl ?_
  refine v_aload_n (dec_of DX1_forgetVerse 3 rfl) rfl ?_
  refine v_get fX1_20 (dec_of DX1_forgetVerse 4 rfl) rfl rfl ?_
  refine v_V0r (c11_size) lX1_54 (dec_of DX1_forgetVerse 5 rfl) rfl rfl (by decide) (nle rfl) rfl ?_
  refine vi_add (dec_of DX1_forgetVerse 6 rfl) ?_
  refine v_istore_n (dec_of DX1_forgetVerse 7 rfl) (by decide) ?_
  dsimp only [List.set]
  refine v_aload_n (dec_of DX1_forgetVerse 8 rfl) rfl ?_
  refine v_get fX1_16 (dec_of DX1_forgetVerse 9 rfl) rfl rfl ?_
  refine vi_const (dec_of DX1_forgetVerse 10 rfl) ?_
  refine v_V1v (c10_keep (by first | omega | exact bnd_r _ _ | exact hF _ _ | exact hI _ | exact hG _ _ | exact hK _ | (simp [uN] <;> omega)) (by first | omega | exact bnd_r _ _ | exact hF _ _ | exact hI _ | exact hG _ _ | exact hK _ | (simp [uN] <;> omega))) lX1_58 (dec_of DX1_forgetVerse 11 rfl) rfl rfl (by decide) (nle rfl) rfl ?_
  refine v_aload_n (dec_of DX1_forgetVerse 12 rfl) rfl ?_
  refine v_get fX1_20 (dec_of DX1_forgetVerse 13 rfl) rfl rfl ?_
  refine vi_const (dec_of DX1_forgetVerse 14 rfl) ?_
  refine v_V1v (c11_keep (by first | omega | exact bnd_r _ _ | exact hF _ _ | exact hI _ | exact hG _ _ | exact hK _ | (simp [uN] <;> omega)) (by first | omega | exact bnd_r _ _ | exact hF _ _ | exact hI _ | exact hG _ _ | exact hK _ | (simp [uN] <;> omega))) lX1_58 (dec_of DX1_forgetVerse 15 rfl) rfl rfl (by decide) (nle rfl) rfl ?_
  refine v_iload_n (dec_of DX1_forgetVerse 16 rfl) rfl ?_
  exact vi_ret (dec_of DX1_forgetVerse 17 rfl) rfl ⟨by decide, by decide⟩ (⟨rfl, rfl⟩)
set_option maxRecDepth 100000 in
set_option maxHeartbeats 4000000 in
theorem x_tone_ok {T : XW} {I N : Nat → Int} {F : Nat → Int → Int} (hF : FR F) (hI : IR I) (hN : NR N) {a : Int} (h : 1 ≤ a ∧ a ≤ 8) : Sd (rm 1 22 0 0) mX8_tone [.ref 0, J a] (cls I N F ++ T) (cls (uN I 13 a) N F ++ T) (some (J (I 13))) := by
  unfold Sd
  unfold NR at hN
  refine sp_of (ls := [some (.ref 0), some (J a)]) (by decide) (nle rfl) rfl rfl ?_
  refine v_aload_n (dec_of DX8_tone 0 rfl) rfl ?_
  refine v_get fX8_40 (dec_of DX8_tone 1 rfl) rfl rfl ?_
  refine v_iload_n (dec_of DX8_tone 2 rfl) rfl ?_
  refine v_V1r (k_ctone_ok hF hI (by unfold NR; exact hN) h) lX8_111 (dec_of DX8_tone 3 rfl) rfl rfl (by decide) (nle rfl) rfl ?_
  exact vi_ret (dec_of DX8_tone 4 rfl) rfl ⟨by decide, by decide⟩ (⟨rfl, rfl⟩)
set_option maxRecDepth 100000 in
set_option maxHeartbeats 4000000 in
theorem x_tone_out {T : XW} {I N : Nat → Int} {F : Nat → Int → Int} (hF : FR F) (hI : IR I) (hN : NR N) {a : Int} (ha : -2147483648 ≤ a ∧ a < 2147483648) (h : ¬ (1 ≤ a ∧ a ≤ 8)) : Sd (rm 1 22 0 0) mX8_tone [.ref 0, J a] (cls I N F ++ T) (cls I N F ++ T) (some (J (-102))) := by
  unfold Sd
  unfold NR at hN
  refine sp_of (ls := [some (.ref 0), some (J a)]) (by decide) (nle rfl) rfl rfl ?_
  refine v_aload_n (dec_of DX8_tone 0 rfl) rfl ?_
  refine v_get fX8_40 (dec_of DX8_tone 1 rfl) rfl rfl ?_
  refine v_iload_n (dec_of DX8_tone 2 rfl) rfl ?_
  refine v_V1r (k_ctone_out hF hI (by unfold NR; exact hN) (by omega) h) lX8_111 (dec_of DX8_tone 3 rfl) rfl rfl (by decide) (nle rfl) rfl ?_
  exact vi_ret (dec_of DX8_tone 4 rfl) rfl ⟨by decide, by decide⟩ (⟨rfl, rfl⟩)
set_option maxRecDepth 100000 in
set_option maxHeartbeats 4000000 in
theorem x_point0 {T : XW} {I N : Nat → Int} {F : Nat → Int → Int} (hF : FR F) (hI : IR I) (hN : NR N) {a b : Int} (hb : b = 0 ∨ b = 1) (h : a = 0) (hf : N 10 < 40) : Sd (rm 2 46 0 0) mX8_point [.ref 0, J a, J b] (cls I N F ++ T) (cls I (uN N 10 (N 10 + 1)) (uN F 10 (uI (F 10) (N 10) b)) ++ T) (some (J (N 10 + 1))) := by
  unfold Sd
  unfold NR at hN
  refine sp_of (ls := [some (.ref 0), some (J a), some (J b)]) (by decide) (nle rfl) rfl rfl ?_
  refine v_aload_n (dec_of DX8_point 0 rfl) rfl ?_
  refine v_get fX8_40 (dec_of DX8_point 1 rfl) rfl rfl ?_
  refine v_iload_n (dec_of DX8_point 2 rfl) rfl ?_
  refine v_iload_n (dec_of DX8_point 3 rfl) rfl ?_
  refine v_V2r (k_addS0 hF hI (by unfold NR; exact hN) hb h hf) lX8_114 (dec_of DX8_point 4 rfl) rfl rfl (by decide) (nle rfl) rfl ?_
  exact vi_ret (dec_of DX8_point 5 rfl) rfl ⟨by decide, by decide⟩ (⟨rfl, rfl⟩)
set_option maxRecDepth 100000 in
set_option maxHeartbeats 4000000 in
theorem x_point0_full {T : XW} {I N : Nat → Int} {F : Nat → Int → Int} (hF : FR F) (hI : IR I) (hN : NR N) {a b : Int} (hb : b = 0 ∨ b = 1) (h : a = 0) (hf : 40 ≤ N 10) : Sd (rm 2 46 0 0) mX8_point [.ref 0, J a, J b] (cls I N F ++ T) (cls I N F ++ T) (some (J (-104))) := by
  unfold Sd
  unfold NR at hN
  refine sp_of (ls := [some (.ref 0), some (J a), some (J b)]) (by decide) (nle rfl) rfl rfl ?_
  refine v_aload_n (dec_of DX8_point 0 rfl) rfl ?_
  refine v_get fX8_40 (dec_of DX8_point 1 rfl) rfl rfl ?_
  refine v_iload_n (dec_of DX8_point 2 rfl) rfl ?_
  refine v_iload_n (dec_of DX8_point 3 rfl) rfl ?_
  refine v_V2r (k_addS0_full hF hI (by unfold NR; exact hN) hb h hf) lX8_114 (dec_of DX8_point 4 rfl) rfl rfl (by decide) (nle rfl) rfl ?_
  exact vi_ret (dec_of DX8_point 5 rfl) rfl ⟨by decide, by decide⟩ (⟨rfl, rfl⟩)
set_option maxRecDepth 100000 in
set_option maxHeartbeats 4000000 in
theorem x_point1 {T : XW} {I N : Nat → Int} {F : Nat → Int → Int} (hF : FR F) (hI : IR I) (hN : NR N) {a b : Int} (hb : b = 0 ∨ b = 1) (h : a = 1) (hf : N 11 < 40) : Sd (rm 2 46 0 0) mX8_point [.ref 0, J a, J b] (cls I N F ++ T) (cls I (uN N 11 (N 11 + 1)) (uN F 11 (uI (F 11) (N 11) b)) ++ T) (some (J (N 11 + 1))) := by
  unfold Sd
  unfold NR at hN
  refine sp_of (ls := [some (.ref 0), some (J a), some (J b)]) (by decide) (nle rfl) rfl rfl ?_
  refine v_aload_n (dec_of DX8_point 0 rfl) rfl ?_
  refine v_get fX8_40 (dec_of DX8_point 1 rfl) rfl rfl ?_
  refine v_iload_n (dec_of DX8_point 2 rfl) rfl ?_
  refine v_iload_n (dec_of DX8_point 3 rfl) rfl ?_
  refine v_V2r (k_addS1 hF hI (by unfold NR; exact hN) hb h hf) lX8_114 (dec_of DX8_point 4 rfl) rfl rfl (by decide) (nle rfl) rfl ?_
  exact vi_ret (dec_of DX8_point 5 rfl) rfl ⟨by decide, by decide⟩ (⟨rfl, rfl⟩)
set_option maxRecDepth 100000 in
set_option maxHeartbeats 4000000 in
theorem x_point1_full {T : XW} {I N : Nat → Int} {F : Nat → Int → Int} (hF : FR F) (hI : IR I) (hN : NR N) {a b : Int} (hb : b = 0 ∨ b = 1) (h : a = 1) (hf : 40 ≤ N 11) : Sd (rm 2 46 0 0) mX8_point [.ref 0, J a, J b] (cls I N F ++ T) (cls I N F ++ T) (some (J (-104))) := by
  unfold Sd
  unfold NR at hN
  refine sp_of (ls := [some (.ref 0), some (J a), some (J b)]) (by decide) (nle rfl) rfl rfl ?_
  refine v_aload_n (dec_of DX8_point 0 rfl) rfl ?_
  refine v_get fX8_40 (dec_of DX8_point 1 rfl) rfl rfl ?_
  refine v_iload_n (dec_of DX8_point 2 rfl) rfl ?_
  refine v_iload_n (dec_of DX8_point 3 rfl) rfl ?_
  refine v_V2r (k_addS1_full hF hI (by unfold NR; exact hN) hb h hf) lX8_114 (dec_of DX8_point 4 rfl) rfl rfl (by decide) (nle rfl) rfl ?_
  exact vi_ret (dec_of DX8_point 5 rfl) rfl ⟨by decide, by decide⟩ (⟨rfl, rfl⟩)
set_option maxRecDepth 100000 in
set_option maxHeartbeats 4000000 in
theorem x_point_out {T : XW} {I N : Nat → Int} {F : Nat → Int → Int} (hF : FR F) (hI : IR I) (hN : NR N) {a b : Int} (ha : -2147483648 ≤ a ∧ a < 2147483648) (h : ¬ (a = 0 ∨ a = 1)) : Sd (rm 2 46 0 0) mX8_point [.ref 0, J a, J b] (cls I N F ++ T) (cls I N F ++ T) (some (J (-102))) := by
  unfold Sd
  unfold NR at hN
  refine sp_of (ls := [some (.ref 0), some (J a), some (J b)]) (by decide) (nle rfl) rfl rfl ?_
  refine v_aload_n (dec_of DX8_point 0 rfl) rfl ?_
  refine v_get fX8_40 (dec_of DX8_point 1 rfl) rfl rfl ?_
  refine v_iload_n (dec_of DX8_point 2 rfl) rfl ?_
  refine v_iload_n (dec_of DX8_point 3 rfl) rfl ?_
  refine v_V2r (k_addS_out hF hI (by unfold NR; exact hN) (by omega) h) lX8_114 (dec_of DX8_point 4 rfl) rfl rfl (by decide) (nle rfl) rfl ?_
  exact vi_ret (dec_of DX8_point 5 rfl) rfl ⟨by decide, by decide⟩ (⟨rfl, rfl⟩)
set_option maxRecDepth 100000 in
set_option maxHeartbeats 4000000 in
theorem x_fresh {T : XW} {I N : Nat → Int} {F : Nat → Int → Int} (hF : FR F) (hI : IR I) (hN : NR N)  : Sd (rm 2 42 0 0) mX8_fresh [.ref 0] (cls I N F ++ T) (cls I (uN (uN N 10 0) 11 0) F ++ T) (some (J (N 10 + N 11))) := by
  unfold Sd
  unfold NR at hN
  refine sp_of (ls := [some (.ref 0)]) (by decide) (nle rfl) rfl rfl ?_
  refine v_aload_n (dec_of DX8_fresh 0 rfl) rfl ?_
  refine v_get fX8_40 (dec_of DX8_fresh 1 rfl) rfl rfl ?_
  refine v_V0r (k_forget hF hI (by unfold NR; exact hN)) lX8_118 (dec_of DX8_fresh 2 rfl) rfl rfl (by decide) (nle rfl) rfl ?_
  exact vi_ret (dec_of DX8_fresh 3 rfl) rfl ⟨by decide, by decide⟩ (⟨rfl, rfl⟩)
set_option maxRecDepth 100000 in
set_option maxHeartbeats 4000000 in
theorem x_place {T : XW} {I N : Nat → Int} {F : Nat → Int → Int} (hF : FR F) (hI : IR I) (hN : NR N)  : Sd (rm 0 0 0 0) mX8_place [.ref 0] (cls I N F ++ T) (cls I N F ++ T) (some (J (I 0))) := by
  unfold Sd
  unfold NR at hN
  refine sp_of (ls := [some (.ref 0)]) (by decide) (nle rfl) rfl rfl ?_
  refine v_aload_n (dec_of DX8_place 0 rfl) rfl ?_
  refine v_get fX8_44 (dec_of DX8_place 1 rfl) rfl rfl ?_
  exact vi_ret (dec_of DX8_place 2 rfl) rfl ⟨by decide, by decide⟩ (⟨rfl, rfl⟩)
set_option maxRecDepth 100000 in
set_option maxHeartbeats 4000000 in
theorem x_end_ok {T : XW} {I N : Nat → Int} {F : Nat → Int → Int} (hF : FR F) (hI : IR I) (hN : NR N) {a : Int} (h : 0 ≤ a ∧ a ≤ N 0) : Sd (rm 1 21 0 0) mX8_end [.ref 0, J a] (cls I N F ++ T) (cls I (uN N 0 a) F ++ T) (some (J a)) := by
  unfold Sd
  unfold NR at hN
  refine sp_of (ls := [some (.ref 0), some (J a)]) (by decide) (nle rfl) rfl rfl ?_
  refine v_iload_n (dec_of DX8_end 0 rfl) rfl ?_
  refine vi_if_lt (tgt := 15) (dec_of DX8_end 1 rfl) (by decide) (by first | omega | exact bnd_r _ _ | exact hF _ _ | exact hI _ | exact hG _ _ | exact hK _ | (simp [uN] <;> omega)) (fun c1 => absurd c1 (by omega)) (fun c1 => ?_)
  refine v_iload_n (dec_of DX8_end 2 rfl) rfl ?_
  refine v_aload_n (dec_of DX8_end 3 rfl) rfl ?_
  refine v_get fX8_14 (dec_of DX8_end 4 rfl) rfl rfl ?_
  refine v_V0r (c0_size) lX8_48 (dec_of DX8_end 5 rfl) rfl rfl (by decide) (nle rfl) rfl ?_
  refine vi_icmp_le (tgt := 18) (dec_of DX8_end 6 rfl) (by decide) (by first | omega | exact bnd_r _ _ | exact hF _ _ | exact hI _ | exact hG _ _ | exact hK _ | (simp [uN] <;> omega)) (by first | omega | exact bnd_r _ _ | exact hF _ _ | exact hI _ | exact hG _ _ | exact hK _ | (simp [uN] <;> omega)) (fun c12 => ?_) (fun c12 => absurd c12 (by omega))
  refine v_aload_n (dec_of DX8_end 9 rfl) rfl ?_
  refine v_get fX8_14 (dec_of DX8_end 10 rfl) rfl rfl ?_
  refine v_iload_n (dec_of DX8_end 11 rfl) rfl ?_
  refine v_V1v (c0_keep (by first | omega | exact bnd_r _ _ | exact hF _ _ | exact hI _ | exact hG _ _ | exact hK _ | (simp [uN] <;> omega)) (by first | omega | exact bnd_r _ _ | exact hF _ _ | exact hI _ | exact hG _ _ | exact hK _ | (simp [uN] <;> omega))) lX8_60 (dec_of DX8_end 12 rfl) rfl rfl (by decide) (nle rfl) rfl ?_
  refine v_iload_n (dec_of DX8_end 13 rfl) rfl ?_
  exact vi_ret (dec_of DX8_end 14 rfl) rfl ⟨by decide, by decide⟩ (⟨rfl, rfl⟩)
set_option maxRecDepth 100000 in
set_option maxHeartbeats 4000000 in
theorem x_end_out {T : XW} {I N : Nat → Int} {F : Nat → Int → Int} (hF : FR F) (hI : IR I) (hN : NR N) {a : Int} (ha : -2147483648 ≤ a ∧ a < 2147483648) (h : ¬ (0 ≤ a ∧ a ≤ N 0)) : Sd (rm 1 21 0 0) mX8_end [.ref 0, J a] (cls I N F ++ T) (cls I N F ++ T) (some (J (-102))) := by
  unfold Sd
  unfold NR at hN
  refine sp_of (ls := [some (.ref 0), some (J a)]) (by decide) (nle rfl) rfl rfl ?_
  refine v_iload_n (dec_of DX8_end 0 rfl) rfl ?_
  refine vi_if_lt (tgt := 15) (dec_of DX8_end 1 rfl) (by decide) (by first | omega | exact bnd_r _ _ | exact hF _ _ | exact hI _ | exact hG _ _ | exact hK _ | (simp [uN] <;> omega)) (fun c1 => ?_) (fun c1 => ?_)
  · refine vi_bi (dec_of DX8_end 7 rfl) (by decide) ?_
    exact vi_ret (dec_of DX8_end 8 rfl) rfl ⟨by decide, by decide⟩ (⟨rfl, rfl⟩)
  · refine v_iload_n (dec_of DX8_end 2 rfl) rfl ?_
    refine v_aload_n (dec_of DX8_end 3 rfl) rfl ?_
    refine v_get fX8_14 (dec_of DX8_end 4 rfl) rfl rfl ?_
    refine v_V0r (c0_size) lX8_48 (dec_of DX8_end 5 rfl) rfl rfl (by decide) (nle rfl) rfl ?_
    refine vi_icmp_le (tgt := 18) (dec_of DX8_end 6 rfl) (by decide) (by first | omega | exact bnd_r _ _ | exact hF _ _ | exact hI _ | exact hG _ _ | exact hK _ | (simp [uN] <;> omega)) (by first | omega | exact bnd_r _ _ | exact hF _ _ | exact hI _ | exact hG _ _ | exact hK _ | (simp [uN] <;> omega)) (fun c12 => ?_) (fun c12 => ?_)
    · exact absurd (show 0 ≤ a ∧ a ≤ N 0 by omega) h
    · refine vi_bi (dec_of DX8_end 7 rfl) (by decide) ?_
      exact vi_ret (dec_of DX8_end 8 rfl) rfl ⟨by decide, by decide⟩ (⟨rfl, rfl⟩)
set_option maxRecDepth 100000 in
set_option maxHeartbeats 4000000 in
theorem x_syllable {T : XW} {I N : Nat → Int} {F : Nat → Int → Int} (hF : FR F) (hI : IR I) (hN : NR N) {a b : Int} (ha : -2147483648 ≤ a ∧ a < 2147483648) (hb : -2147483648 ≤ b ∧ b < 2147483648) : Sd (rm 2 46 0 0) mX8_syllable [.ref 0, J a, J b] (cls I N F ++ T) (cls I N F ++ T) (some (J (if 0 ≤ a ∧ a < N 3 then (if 0 ≤ b ∧ b < 6 then F 3 (a * 9 + b) else -102) else -101))) := by
  unfold Sd
  unfold NR at hN
  refine sp_of (ls := [some (.ref 0), some (J a), some (J b)]) (by decide) (nle rfl) rfl rfl ?_
  refine v_aload_n (dec_of DX8_syllable 0 rfl) rfl ?_
  refine v_get fX8_24 (dec_of DX8_syllable 1 rfl) rfl rfl ?_
  refine v_get fX8_73 (dec_of DX8_syllable 2 rfl) rfl rfl ?_
  refine v_iload_n (dec_of DX8_syllable 3 rfl) rfl ?_
  refine v_iload_n (dec_of DX8_syllable 4 rfl) rfl ?_
  refine vi_bi (dec_of DX8_syllable 5 rfl) (by decide) ?_
  refine v_V3r (c3_ask (by first | omega | exact bnd_r _ _ | exact hF _ _ | exact hI _ | exact hG _ _ | exact hK _ | (simp [uN] <;> omega)) (by first | omega | exact bnd_r _ _ | exact hF _ _ | exact hI _ | exact hG _ _ | exact hK _ | (simp [uN] <;> omega)) (by first | omega | exact bnd_r _ _ | exact hF _ _ | exact hI _ | exact hG _ _ | exact hK _ | (simp [uN] <;> omega)) (by first | omega | exact bnd_r _ _ | exact hF _ _ | exact hI _ | exact hG _ _ | exact hK _ | (simp [uN] <;> omega))) lX8_76 (dec_of DX8_syllable 6 rfl) rfl rfl (by decide) (nle rfl) rfl ?_
  exact vi_ret (dec_of DX8_syllable 7 rfl) rfl ⟨by decide, by decide⟩ (⟨rfl, rfl⟩)
set_option maxRecDepth 100000 in
set_option maxHeartbeats 4000000 in
theorem x_note {T : XW} {I N : Nat → Int} {F : Nat → Int → Int} (hF : FR F) (hI : IR I) (hN : NR N) {a b : Int} (ha : -2147483648 ≤ a ∧ a < 2147483648) (hb : -2147483648 ≤ b ∧ b < 2147483648) : Sd (rm 2 46 0 0) mX8_note [.ref 0, J a, J b] (cls I N F ++ T) (cls I N F ++ T) (some (J (if 0 ≤ a ∧ a < N 4 then (if 0 ≤ b ∧ b < 8 then F 4 (a * 8 + b) else -102) else -101))) := by
  unfold Sd
  unfold NR at hN
  refine sp_of (ls := [some (.ref 0), some (J a), some (J b)]) (by decide) (nle rfl) rfl rfl ?_
  refine v_aload_n (dec_of DX8_note 0 rfl) rfl ?_
  refine v_get fX8_24 (dec_of DX8_note 1 rfl) rfl rfl ?_
  refine v_get fX8_70 (dec_of DX8_note 2 rfl) rfl rfl ?_
  refine v_iload_n (dec_of DX8_note 3 rfl) rfl ?_
  refine v_iload_n (dec_of DX8_note 4 rfl) rfl ?_
  refine vi_bi (dec_of DX8_note 5 rfl) (by decide) ?_
  refine v_V3r (c4_ask (by first | omega | exact bnd_r _ _ | exact hF _ _ | exact hI _ | exact hG _ _ | exact hK _ | (simp [uN] <;> omega)) (by first | omega | exact bnd_r _ _ | exact hF _ _ | exact hI _ | exact hG _ _ | exact hK _ | (simp [uN] <;> omega)) (by first | omega | exact bnd_r _ _ | exact hF _ _ | exact hI _ | exact hG _ _ | exact hK _ | (simp [uN] <;> omega)) (by first | omega | exact bnd_r _ _ | exact hF _ _ | exact hI _ | exact hG _ _ | exact hK _ | (simp [uN] <;> omega))) lX8_76 (dec_of DX8_note 6 rfl) rfl rfl (by decide) (nle rfl) rfl ?_
  exact vi_ret (dec_of DX8_note 7 rfl) rfl ⟨by decide, by decide⟩ (⟨rfl, rfl⟩)
set_option maxRecDepth 100000 in
set_option maxHeartbeats 4000000 in
theorem x_neume {T : XW} {I N : Nat → Int} {F : Nat → Int → Int} (hF : FR F) (hI : IR I) (hN : NR N) {a b : Int} (ha : -2147483648 ≤ a ∧ a < 2147483648) (hb : -2147483648 ≤ b ∧ b < 2147483648) : Sd (rm 2 46 0 0) mX8_neume [.ref 0, J a, J b] (cls I N F ++ T) (cls I N F ++ T) (some (J (if 0 ≤ a ∧ a < N 5 then (if 0 ≤ b ∧ b < 4 then F 5 (a * 4 + b) else -102) else -101))) := by
  unfold Sd
  unfold NR at hN
  refine sp_of (ls := [some (.ref 0), some (J a), some (J b)]) (by decide) (nle rfl) rfl rfl ?_
  refine v_aload_n (dec_of DX8_neume 0 rfl) rfl ?_
  refine v_get fX8_24 (dec_of DX8_neume 1 rfl) rfl rfl ?_
  refine v_get fX8_80 (dec_of DX8_neume 2 rfl) rfl rfl ?_
  refine v_iload_n (dec_of DX8_neume 3 rfl) rfl ?_
  refine v_iload_n (dec_of DX8_neume 4 rfl) rfl ?_
  refine vi_const (dec_of DX8_neume 5 rfl) ?_
  refine v_V3r (c5_ask (by first | omega | exact bnd_r _ _ | exact hF _ _ | exact hI _ | exact hG _ _ | exact hK _ | (simp [uN] <;> omega)) (by first | omega | exact bnd_r _ _ | exact hF _ _ | exact hI _ | exact hG _ _ | exact hK _ | (simp [uN] <;> omega)) (by first | omega | exact bnd_r _ _ | exact hF _ _ | exact hI _ | exact hG _ _ | exact hK _ | (simp [uN] <;> omega)) (by first | omega | exact bnd_r _ _ | exact hF _ _ | exact hI _ | exact hG _ _ | exact hK _ | (simp [uN] <;> omega))) lX8_76 (dec_of DX8_neume 6 rfl) rfl rfl (by decide) (nle rfl) rfl ?_
  exact vi_ret (dec_of DX8_neume 7 rfl) rfl ⟨by decide, by decide⟩ (⟨rfl, rfl⟩)
set_option maxRecDepth 100000 in
set_option maxHeartbeats 4000000 in
theorem x_bar {T : XW} {I N : Nat → Int} {F : Nat → Int → Int} (hF : FR F) (hI : IR I) (hN : NR N) {a b : Int} (ha : -2147483648 ≤ a ∧ a < 2147483648) (hb : -2147483648 ≤ b ∧ b < 2147483648) : Sd (rm 2 46 0 0) mX8_bar [.ref 0, J a, J b] (cls I N F ++ T) (cls I N F ++ T) (some (J (if 0 ≤ a ∧ a < N 6 then (if 0 ≤ b ∧ b < 2 then F 6 (a * 2 + b) else -102) else -101))) := by
  unfold Sd
  unfold NR at hN
  refine sp_of (ls := [some (.ref 0), some (J a), some (J b)]) (by decide) (nle rfl) rfl rfl ?_
  refine v_aload_n (dec_of DX8_bar 0 rfl) rfl ?_
  refine v_get fX8_24 (dec_of DX8_bar 1 rfl) rfl rfl ?_
  refine v_get fX8_83 (dec_of DX8_bar 2 rfl) rfl rfl ?_
  refine v_iload_n (dec_of DX8_bar 3 rfl) rfl ?_
  refine v_iload_n (dec_of DX8_bar 4 rfl) rfl ?_
  refine vi_const (dec_of DX8_bar 5 rfl) ?_
  refine v_V3r (c6_ask (by first | omega | exact bnd_r _ _ | exact hF _ _ | exact hI _ | exact hG _ _ | exact hK _ | (simp [uN] <;> omega)) (by first | omega | exact bnd_r _ _ | exact hF _ _ | exact hI _ | exact hG _ _ | exact hK _ | (simp [uN] <;> omega)) (by first | omega | exact bnd_r _ _ | exact hF _ _ | exact hI _ | exact hG _ _ | exact hK _ | (simp [uN] <;> omega)) (by first | omega | exact bnd_r _ _ | exact hF _ _ | exact hI _ | exact hG _ _ | exact hK _ | (simp [uN] <;> omega))) lX8_76 (dec_of DX8_bar 6 rfl) rfl rfl (by decide) (nle rfl) rfl ?_
  exact vi_ret (dec_of DX8_bar 7 rfl) rfl ⟨by decide, by decide⟩ (⟨rfl, rfl⟩)
set_option maxRecDepth 100000 in
set_option maxHeartbeats 4000000 in
theorem x_guide_un {T : XW} {I N : Nat → Int} {F : Nat → Int → Int} (hF : FR F) (hI : IR I) (hN : NR N) {a : Int} (ha : -2147483648 ≤ a ∧ a < 2147483648) (h : ¬ (0 ≤ a ∧ a < N 7)) : Sd (rm 2 46 0 0) mX8_guide [.ref 0, J a] (cls I N F ++ T) (cls I N F ++ T) (some (J (-101))) := by
  unfold Sd
  unfold NR at hN
  refine sp_of (ls := [some (.ref 0), some (J a)]) (by decide) (nle rfl) rfl rfl ?_
  refine v_aload_n (dec_of DX8_guide 0 rfl) rfl ?_
  refine v_get fX8_24 (dec_of DX8_guide 1 rfl) rfl rfl ?_
  refine v_get fX8_86 (dec_of DX8_guide 2 rfl) rfl rfl ?_
  refine v_iload_n (dec_of DX8_guide 3 rfl) rfl ?_
  refine v_V1r (c7_has (by first | omega | exact bnd_r _ _ | exact hF _ _ | exact hI _ | exact hG _ _ | exact hK _ | (simp [uN] <;> omega)) (by first | omega | exact bnd_r _ _ | exact hF _ _ | exact hI _ | exact hG _ _ | exact hK _ | (simp [uN] <;> omega))) lX8_89 (dec_of DX8_guide 4 rfl) rfl rfl (by decide) (nle rfl) rfl ?_
  refine vi_if_eq (tgt := 25) (dec_of DX8_guide 5 rfl) (by decide) (by first | omega | exact bnd_r _ _ | exact hF _ _ | exact hI _ | exact hG _ _ | exact hK _ | (simp [uN] <;> omega)) (fun c11 => ?_) (fun c11 => absurd c11 (by omega))
  refine vi_bi (dec_of DX8_guide 11 rfl) (by decide) ?_
  exact vi_ret (dec_of DX8_guide 12 rfl) rfl ⟨by decide, by decide⟩ (⟨rfl, rfl⟩)
set_option maxRecDepth 100000 in
set_option maxHeartbeats 4000000 in
theorem x_guide {T : XW} {I N : Nat → Int} {F : Nat → Int → Int} (hF : FR F) (hI : IR I) (hN : NR N) {a : Int} (h : 0 ≤ a ∧ a < N 7) (hh : 0 ≤ F 7 (a * 2 + 0) ∧ F 7 (a * 2 + 0) < N 4 → -1000 ≤ F 4 (F 7 (a * 2 + 0) * 8 + 5) + F 7 (a * 2 + 1) ∧ F 4 (F 7 (a * 2 + 0) * 8 + 5) + F 7 (a * 2 + 1) ≤ 1000) : Sd (rm 2 46 0 0) mX8_guide [.ref 0, J a] (cls I N F ++ T) (cls I N F ++ T) (some (J (if (0 ≤ F 7 (a * 2 + 0) ∧ F 7 (a * 2 + 0) < N 4) ∧ 0 ≤ F 4 (F 7 (a * 2 + 0) * 8 + 5) + F 7 (a * 2 + 1) ∧ F 4 (F 7 (a * 2 + 0) * 8 + 5) + F 7 (a * 2 + 1) ≤ 12 then F 4 (F 7 (a * 2 + 0) * 8 + 5) + F 7 (a * 2 + 1) else -100))) := by
  unfold Sd
  unfold NR at hN
  refine sp_of (ls := [some (.ref 0), some (J a)]) (by decide) (nle rfl) rfl rfl ?_
  refine v_aload_n (dec_of DX8_guide 0 rfl) rfl ?_
  refine v_get fX8_24 (dec_of DX8_guide 1 rfl) rfl rfl ?_
  refine v_get fX8_86 (dec_of DX8_guide 2 rfl) rfl rfl ?_
  refine v_iload_n (dec_of DX8_guide 3 rfl) rfl ?_
  refine v_V1r (c7_has (by first | omega | exact bnd_r _ _ | exact hF _ _ | exact hI _ | exact hG _ _ | exact hK _ | (simp [uN] <;> omega)) (by first | omega | exact bnd_r _ _ | exact hF _ _ | exact hI _ | exact hG _ _ | exact hK _ | (simp [uN] <;> omega))) lX8_89 (dec_of DX8_guide 4 rfl) rfl rfl (by decide) (nle rfl) rfl ?_
  refine vi_if_eq (tgt := 25) (dec_of DX8_guide 5 rfl) (by decide) (by first | omega | exact bnd_r _ _ | exact hF _ _ | exact hI _ | exact hG _ _ | exact hK _ | (simp [uN] <;> omega)) (fun c11 => absurd c11 (by omega)) (fun c11 => ?_)
  refine v_aload_n (dec_of DX8_guide 6 rfl) rfl ?_
  refine v_get fX8_24 (dec_of DX8_guide 7 rfl) rfl rfl ?_
  refine v_iload_n (dec_of DX8_guide 8 rfl) rfl ?_
  refine v_V1r (k_guideOf hF hI (by unfold NR; exact hN) h hh) lX8_93 (dec_of DX8_guide 9 rfl) rfl rfl (by decide) (nle rfl) rfl ?_
  refine v_goto (tgt := 27) (dec_of DX8_guide 10 rfl) (by decide) ?_
  exact vi_ret (dec_of DX8_guide 12 rfl) rfl ⟨by decide, by decide⟩ (⟨rfl, rfl⟩)
set_option maxRecDepth 100000 in
set_option maxHeartbeats 4000000 in
theorem x_at {T : XW} {I N : Nat → Int} {F : Nat → Int → Int} (hF : FR F) (hI : IR I) (hN : NR N) {a : Int} (ha : -2147483648 ≤ a ∧ a < 2147483648) : Sd (rm 1 23 0 0) mX8_at [.ref 0, J a] (cls I N F ++ T) (cls I N F ++ T) (some (J (if 0 ≤ a ∧ a < N 1 then F 1 a else -100))) := by
  unfold Sd
  unfold NR at hN
  refine sp_of (ls := [some (.ref 0), some (J a)]) (by decide) (nle rfl) rfl rfl ?_
  refine v_aload_n (dec_of DX8_at 0 rfl) rfl ?_
  refine v_get fX8_18 (dec_of DX8_at 1 rfl) rfl rfl ?_
  refine v_iload_n (dec_of DX8_at 2 rfl) rfl ?_
  refine v_V1r (c1_has (by first | omega | exact bnd_r _ _ | exact hF _ _ | exact hI _ | exact hG _ _ | exact hK _ | (simp [uN] <;> omega)) (by first | omega | exact bnd_r _ _ | exact hF _ _ | exact hI _ | exact hG _ _ | exact hK _ | (simp [uN] <;> omega))) lX8_89 (dec_of DX8_at 3 rfl) rfl rfl (by decide) (nle rfl) rfl ?_
  refine vi_if_eq (tgt := 23) (dec_of DX8_at 4 rfl) (by decide) (by first | omega | exact bnd_r _ _ | exact hF _ _ | exact hI _ | exact hG _ _ | exact hK _ | (simp [uN] <;> omega)) (fun c8 => ?_) (fun c8 => ?_)
  · rw [if_neg (by omega)]
    refine vi_bi (dec_of DX8_at 11 rfl) (by decide) ?_
    exact vi_ret (dec_of DX8_at 12 rfl) rfl ⟨by decide, by decide⟩ (⟨rfl, rfl⟩)
  · rw [if_pos (by omega)]
    refine v_aload_n (dec_of DX8_at 5 rfl) rfl ?_
    refine v_get fX8_18 (dec_of DX8_at 6 rfl) rfl rfl ?_
    refine v_iload_n (dec_of DX8_at 7 rfl) rfl ?_
    refine vi_const (dec_of DX8_at 8 rfl) ?_
    refine v_V2r (c1_get (by first | omega | exact bnd_r _ _ | exact hF _ _ | exact hI _ | exact hG _ _ | exact hK _ | (simp [uN] <;> omega)) (by first | omega | exact bnd_r _ _ | exact hF _ _ | exact hI _ | exact hG _ _ | exact hK _ | (simp [uN] <;> omega))) lX8_143 (dec_of DX8_at 9 rfl) rfl rfl (by decide) (nle rfl) rfl ?_
    refine v_goto (tgt := 25) (dec_of DX8_at 10 rfl) (by decide) ?_
    exact vi_ret (dec_of DX8_at 12 rfl) rfl ⟨by decide, by decide⟩ (⟨rfl, rfl⟩)
def fdF (f : Int → Int) (n a : Int) : Int → Int := uI (uI (uI (uI f n (bnd (bus a 24) 255)) (n + 1) (bnd (bus a 16) 255)) (n + 1 + 1) (bnd (bus a 8) 255)) (n + 1 + 1 + 1) (bnd (bus a 0) 255)
theorem fdF_r {f : Int → Int} {n a : Int} (h : ∀ i, -2147483648 ≤ f i ∧ f i < 2147483648) : ∀ i, -2147483648 ≤ fdF f n a i ∧ fdF f n a i < 2147483648 := uI_r (uI_r (uI_r (uI_r h (bnd_r _ _)) (bnd_r _ _)) (bnd_r _ _)) (bnd_r _ _)
theorem NR0 {N : Nat → Int} (h : NR N) {a : Int} (ha : 0 ≤ a ∧ a ≤ 1500) : NR (uN N 0 a) := by
  unfold NR at *
  simp (disch := decide) only [uN_s, uN_n]
  omega
set_option maxRecDepth 100000 in
set_option maxHeartbeats 4000000 in
theorem k_feedN {T : XW} {I N : Nat → Int} {F : Nat → Int → Int} (hF : FR F) (hI : IR I) (hN : NR N) {a : Int} (h0 : N 0 + 4 ≤ 1500) : Sd (rm 1 23 0 0) mX8_feedNumber [.ref 0, J a] (cls I N F ++ T) (cls I (uN N 0 (N 0 + 1 + 1 + 1 + 1)) (uN F 0 (fdF (F 0) (N 0) a)) ++ T) (none) := by
  unfold Sd
  unfold NR at hN
  refine sp_of (ls := [some (.ref 0), some (J a), none]) (by decide) (nle rfl) rfl rfl ?_
  refine vi_bi (dec_of DX8_feedNumber 0 rfl) (by decide) ?_
  refine v_istore_n (dec_of DX8_feedNumber 1 rfl) (by decide) ?_
  dsimp only [List.set]
  refine v_iload_n (dec_of DX8_feedNumber 2 rfl) rfl ?_
  refine vi_if_lt (tgt := 28) (dec_of DX8_feedNumber 3 rfl) (by decide) (by first | omega | exact bnd_r _ _ | exact hF _ _ | exact hI _ | exact hG _ _ | exact hK _ | (simp [uN] <;> omega)) (fun c4 => absurd c4 (by omega)) (fun c4 => ?_)
  refine v_aload_n (dec_of DX8_feedNumber 4 rfl) rfl ?_
  refine v_get fX8_14 (dec_of DX8_feedNumber 5 rfl) rfl rfl ?_
  refine v_iload_n (dec_of DX8_feedNumber 6 rfl) rfl ?_
  refine v_iload_n (dec_of DX8_feedNumber 7 rfl) rfl ?_
  refine vi_ushr (dec_of DX8_feedNumber 8 rfl) ?_
  refine vi_si (dec_of DX8_feedNumber 9 rfl) (by decide) ?_
  refine vi_and (dec_of DX8_feedNumber 10 rfl) ?_
  refine v_V1r (c0_add (by first | omega | exact bnd_r _ _ | exact hF _ _ | exact hI _ | exact hG _ _ | exact hK _ | (simp [uN] <;> omega))) lX8_56 (dec_of DX8_feedNumber 11 rfl) rfl rfl (by decide) (nle rfl) rfl ?_
  refine v_pop (dec_of DX8_feedNumber 12 rfl) rfl ?_
  refine vi_inc (dec_of DX8_feedNumber 13 rfl) rfl (by decide) ?_
  dsimp only [List.set]
  refine v_goto (tgt := 3) (dec_of DX8_feedNumber 14 rfl) (by decide) ?_
  refine v_iload_n (dec_of DX8_feedNumber 2 rfl) rfl ?_
  refine vi_if_lt (tgt := 28) (dec_of DX8_feedNumber 3 rfl) (by decide) (by first | omega | exact bnd_r _ _ | exact hF _ _ | exact hI _ | exact hG _ _ | exact hK _ | (simp [uN] <;> omega)) (fun c4 => absurd c4 (by omega)) (fun c4 => ?_)
  refine v_aload_n (dec_of DX8_feedNumber 4 rfl) rfl ?_
  refine v_get fX8_14 (dec_of DX8_feedNumber 5 rfl) rfl rfl ?_
  refine v_iload_n (dec_of DX8_feedNumber 6 rfl) rfl ?_
  refine v_iload_n (dec_of DX8_feedNumber 7 rfl) rfl ?_
  refine vi_ushr (dec_of DX8_feedNumber 8 rfl) ?_
  refine vi_si (dec_of DX8_feedNumber 9 rfl) (by decide) ?_
  refine vi_and (dec_of DX8_feedNumber 10 rfl) ?_
  refine v_V1r (c0_add (by first | omega | exact bnd_r _ _ | exact hF _ _ | exact hI _ | exact hG _ _ | exact hK _ | (simp [uN] <;> omega))) lX8_56 (dec_of DX8_feedNumber 11 rfl) rfl rfl (by decide) (nle rfl) rfl ?_
  refine v_pop (dec_of DX8_feedNumber 12 rfl) rfl ?_
  refine vi_inc (dec_of DX8_feedNumber 13 rfl) rfl (by decide) ?_
  dsimp only [List.set]
  refine v_goto (tgt := 3) (dec_of DX8_feedNumber 14 rfl) (by decide) ?_
  refine v_iload_n (dec_of DX8_feedNumber 2 rfl) rfl ?_
  refine vi_if_lt (tgt := 28) (dec_of DX8_feedNumber 3 rfl) (by decide) (by first | omega | exact bnd_r _ _ | exact hF _ _ | exact hI _ | exact hG _ _ | exact hK _ | (simp [uN] <;> omega)) (fun c4 => absurd c4 (by omega)) (fun c4 => ?_)
  refine v_aload_n (dec_of DX8_feedNumber 4 rfl) rfl ?_
  refine v_get fX8_14 (dec_of DX8_feedNumber 5 rfl) rfl rfl ?_
  refine v_iload_n (dec_of DX8_feedNumber 6 rfl) rfl ?_
  refine v_iload_n (dec_of DX8_feedNumber 7 rfl) rfl ?_
  refine vi_ushr (dec_of DX8_feedNumber 8 rfl) ?_
  refine vi_si (dec_of DX8_feedNumber 9 rfl) (by decide) ?_
  refine vi_and (dec_of DX8_feedNumber 10 rfl) ?_
  refine v_V1r (c0_add (by first | omega | exact bnd_r _ _ | exact hF _ _ | exact hI _ | exact hG _ _ | exact hK _ | (simp [uN] <;> omega))) lX8_56 (dec_of DX8_feedNumber 11 rfl) rfl rfl (by decide) (nle rfl) rfl ?_
  refine v_pop (dec_of DX8_feedNumber 12 rfl) rfl ?_
  refine vi_inc (dec_of DX8_feedNumber 13 rfl) rfl (by decide) ?_
  dsimp only [List.set]
  refine v_goto (tgt := 3) (dec_of DX8_feedNumber 14 rfl) (by decide) ?_
  refine v_iload_n (dec_of DX8_feedNumber 2 rfl) rfl ?_
  refine vi_if_lt (tgt := 28) (dec_of DX8_feedNumber 3 rfl) (by decide) (by first | omega | exact bnd_r _ _ | exact hF _ _ | exact hI _ | exact hG _ _ | exact hK _ | (simp [uN] <;> omega)) (fun c4 => absurd c4 (by omega)) (fun c4 => ?_)
  refine v_aload_n (dec_of DX8_feedNumber 4 rfl) rfl ?_
  refine v_get fX8_14 (dec_of DX8_feedNumber 5 rfl) rfl rfl ?_
  refine v_iload_n (dec_of DX8_feedNumber 6 rfl) rfl ?_
  refine v_iload_n (dec_of DX8_feedNumber 7 rfl) rfl ?_
  refine vi_ushr (dec_of DX8_feedNumber 8 rfl) ?_
  refine vi_si (dec_of DX8_feedNumber 9 rfl) (by decide) ?_
  refine vi_and (dec_of DX8_feedNumber 10 rfl) ?_
  refine v_V1r (c0_add (by first | omega | exact bnd_r _ _ | exact hF _ _ | exact hI _ | exact hG _ _ | exact hK _ | (simp [uN] <;> omega))) lX8_56 (dec_of DX8_feedNumber 11 rfl) rfl rfl (by decide) (nle rfl) rfl ?_
  refine v_pop (dec_of DX8_feedNumber 12 rfl) rfl ?_
  refine vi_inc (dec_of DX8_feedNumber 13 rfl) rfl (by decide) ?_
  dsimp only [List.set]
  refine v_goto (tgt := 3) (dec_of DX8_feedNumber 14 rfl) (by decide) ?_
  refine v_iload_n (dec_of DX8_feedNumber 2 rfl) rfl ?_
  refine vi_if_lt (tgt := 28) (dec_of DX8_feedNumber 3 rfl) (by decide) (by first | omega | exact bnd_r _ _ | exact hF _ _ | exact hI _ | exact hG _ _ | exact hK _ | (simp [uN] <;> omega)) (fun c4 => ?_) (fun c4 => absurd c4 (by omega))
  exact vi_vret (dec_of DX8_feedNumber 15 rfl) rfl ⟨by decide, by decide⟩ (⟨rfl, rfl⟩)
set_option maxRecDepth 100000 in
set_option maxHeartbeats 4000000 in
theorem x_feed {T : XW} {I N : Nat → Int} {F : Nat → Int → Int} (hF : FR F) (hI : IR I) (hN : NR N) {a1 a2 a3 a4 a5 : Int} (h0 : N 0 + 20 ≤ 1500) : Sd (rm 2 45 0 0) mX8_feed [.ref 0, J a1, J a2, J a3, J a4, J a5] (cls I N F ++ T) (cls I (uN N 0 (N 0 + 1 + 1 + 1 + 1 + 1 + 1 + 1 + 1 + 1 + 1 + 1 + 1 + 1 + 1 + 1 + 1 + 1 + 1 + 1 + 1)) (uN F 0 (fdF (fdF (fdF (fdF (fdF (F 0) (N 0) a1) (N 0 + 1 + 1 + 1 + 1) a2) (N 0 + 1 + 1 + 1 + 1 + 1 + 1 + 1 + 1) a3) (N 0 + 1 + 1 + 1 + 1 + 1 + 1 + 1 + 1 + 1 + 1 + 1 + 1) a4) (N 0 + 1 + 1 + 1 + 1 + 1 + 1 + 1 + 1 + 1 + 1 + 1 + 1 + 1 + 1 + 1 + 1) a5)) ++ T) (some (J (N 0 + 1 + 1 + 1 + 1 + 1 + 1 + 1 + 1 + 1 + 1 + 1 + 1 + 1 + 1 + 1 + 1 + 1 + 1 + 1 + 1))) := by
  unfold Sd
  unfold NR at hN
  refine sp_of (ls := [some (.ref 0), some (J a1), some (J a2), some (J a3), some (J a4), some (J a5)]) (by decide) (nle rfl) rfl rfl ?_
  refine v_aload_n (dec_of DX8_feed 0 rfl) rfl ?_
  refine v_get fX8_14 (dec_of DX8_feed 1 rfl) rfl rfl ?_
  refine v_V0r (c0_size) lX8_48 (dec_of DX8_feed 2 rfl) rfl rfl (by decide) (nle rfl) rfl ?_
  refine vi_bi (dec_of DX8_feed 3 rfl) (by decide) ?_
  refine vi_add (dec_of DX8_feed 4 rfl) ?_
  refine vi_si (dec_of DX8_feed 5 rfl) (by decide) ?_
  refine vi_icmp_le (tgt := 19) (dec_of DX8_feed 6 rfl) (by decide) (by first | omega | exact bnd_r _ _ | exact hF _ _ | exact hI _ | exact hG _ _ | exact hK _ | (simp [uN] <;> omega)) (by first | omega | exact bnd_r _ _ | exact hF _ _ | exact hI _ | exact hG _ _ | exact hK _ | (simp [uN] <;> omega)) (fun c13 => ?_) (fun c13 => absurd c13 (by omega))
  refine v_aload_n (dec_of DX8_feed 9 rfl) rfl ?_
  refine v_iload_n (dec_of DX8_feed 10 rfl) rfl ?_
  refine v_V1v (k_feedN (hF) hI (by unfold NR; exact hN) (by first | omega | (simp only [uN_s]; omega))) lX8_52 (dec_of DX8_feed 11 rfl) rfl rfl (by decide) (nle rfl) rfl ?_
  refine Vd_w (w' := cls I (uN N 0 (N 0 + 1 + 1 + 1 + 1)) (uN F 0 (fdF (F 0) (N 0) a1)) ++ T) rfl ?_
  refine v_aload_n (dec_of DX8_feed 12 rfl) rfl ?_
  refine v_iload_n (dec_of DX8_feed 13 rfl) rfl ?_
  refine v_V1v (k_feedN (hF.up (fdF_r (hF 0))) hI (NR0 (by unfold NR; exact hN) (by omega)) (by first | omega | (simp only [uN_s]; omega))) lX8_52 (dec_of DX8_feed 14 rfl) rfl rfl (by decide) (nle rfl) rfl ?_
  refine Vd_w (w' := cls I (uN N 0 (N 0 + 1 + 1 + 1 + 1 + 1 + 1 + 1 + 1)) (uN F 0 (fdF (fdF (F 0) (N 0) a1) (N 0 + 1 + 1 + 1 + 1) a2)) ++ T) rfl ?_
  refine v_aload_n (dec_of DX8_feed 15 rfl) rfl ?_
  refine v_iload_n (dec_of DX8_feed 16 rfl) rfl ?_
  refine v_V1v (k_feedN (hF.up (fdF_r (fdF_r (hF 0)))) hI (NR0 (by unfold NR; exact hN) (by omega)) (by first | omega | (simp only [uN_s]; omega))) lX8_52 (dec_of DX8_feed 17 rfl) rfl rfl (by decide) (nle rfl) rfl ?_
  refine Vd_w (w' := cls I (uN N 0 (N 0 + 1 + 1 + 1 + 1 + 1 + 1 + 1 + 1 + 1 + 1 + 1 + 1)) (uN F 0 (fdF (fdF (fdF (F 0) (N 0) a1) (N 0 + 1 + 1 + 1 + 1) a2) (N 0 + 1 + 1 + 1 + 1 + 1 + 1 + 1 + 1) a3)) ++ T) rfl ?_
  refine v_aload_n (dec_of DX8_feed 18 rfl) rfl ?_
  refine v_iload (dec_of DX8_feed 19 rfl) rfl ?_
  refine v_V1v (k_feedN (hF.up (fdF_r (fdF_r (fdF_r (hF 0))))) hI (NR0 (by unfold NR; exact hN) (by omega)) (by first | omega | (simp only [uN_s]; omega))) lX8_52 (dec_of DX8_feed 20 rfl) rfl rfl (by decide) (nle rfl) rfl ?_
  refine Vd_w (w' := cls I (uN N 0 (N 0 + 1 + 1 + 1 + 1 + 1 + 1 + 1 + 1 + 1 + 1 + 1 + 1 + 1 + 1 + 1 + 1)) (uN F 0 (fdF (fdF (fdF (fdF (F 0) (N 0) a1) (N 0 + 1 + 1 + 1 + 1) a2) (N 0 + 1 + 1 + 1 + 1 + 1 + 1 + 1 + 1) a3) (N 0 + 1 + 1 + 1 + 1 + 1 + 1 + 1 + 1 + 1 + 1 + 1 + 1) a4)) ++ T) rfl ?_
  refine v_aload_n (dec_of DX8_feed 21 rfl) rfl ?_
  refine v_iload (dec_of DX8_feed 22 rfl) rfl ?_
  refine v_V1v (k_feedN (hF.up (fdF_r (fdF_r (fdF_r (fdF_r (hF 0)))))) hI (NR0 (by unfold NR; exact hN) (by omega)) (by first | omega | (simp only [uN_s]; omega))) lX8_52 (dec_of DX8_feed 23 rfl) rfl rfl (by decide) (nle rfl) rfl ?_
  refine Vd_w (w' := cls I (uN N 0 (N 0 + 1 + 1 + 1 + 1 + 1 + 1 + 1 + 1 + 1 + 1 + 1 + 1 + 1 + 1 + 1 + 1 + 1 + 1 + 1 + 1)) (uN F 0 (fdF (fdF (fdF (fdF (fdF (F 0) (N 0) a1) (N 0 + 1 + 1 + 1 + 1) a2) (N 0 + 1 + 1 + 1 + 1 + 1 + 1 + 1 + 1) a3) (N 0 + 1 + 1 + 1 + 1 + 1 + 1 + 1 + 1 + 1 + 1 + 1 + 1) a4) (N 0 + 1 + 1 + 1 + 1 + 1 + 1 + 1 + 1 + 1 + 1 + 1 + 1 + 1 + 1 + 1 + 1) a5)) ++ T) rfl ?_
  refine v_aload_n (dec_of DX8_feed 24 rfl) rfl ?_
  refine v_get fX8_14 (dec_of DX8_feed 25 rfl) rfl rfl ?_
  refine v_V0r (c0_size) lX8_48 (dec_of DX8_feed 26 rfl) rfl rfl (by decide) (nle rfl) rfl ?_
  exact vi_ret (dec_of DX8_feed 27 rfl) rfl ⟨by decide, by decide⟩ (⟨rfl, rfl⟩)
set_option maxRecDepth 100000 in
set_option maxHeartbeats 4000000 in
theorem x_feed_full {T : XW} {I N : Nat → Int} {F : Nat → Int → Int} (hF : FR F) (hI : IR I) (hN : NR N) {a1 a2 a3 a4 a5 : Int} (h0 : ¬ N 0 + 20 ≤ 1500) : Sd (rm 2 45 0 0) mX8_feed [.ref 0, J a1, J a2, J a3, J a4, J a5] (cls I N F ++ T) (cls I N F ++ T) (some (J (-104))) := by
  unfold Sd
  unfold NR at hN
  refine sp_of (ls := [some (.ref 0), some (J a1), some (J a2), some (J a3), some (J a4), some (J a5)]) (by decide) (nle rfl) rfl rfl ?_
  refine v_aload_n (dec_of DX8_feed 0 rfl) rfl ?_
  refine v_get fX8_14 (dec_of DX8_feed 1 rfl) rfl rfl ?_
  refine v_V0r (c0_size) lX8_48 (dec_of DX8_feed 2 rfl) rfl rfl (by decide) (nle rfl) rfl ?_
  refine vi_bi (dec_of DX8_feed 3 rfl) (by decide) ?_
  refine vi_add (dec_of DX8_feed 4 rfl) ?_
  refine vi_si (dec_of DX8_feed 5 rfl) (by decide) ?_
  refine vi_icmp_le (tgt := 19) (dec_of DX8_feed 6 rfl) (by decide) (by first | omega | exact bnd_r _ _ | exact hF _ _ | exact hI _ | exact hG _ _ | exact hK _ | (simp [uN] <;> omega)) (by first | omega | exact bnd_r _ _ | exact hF _ _ | exact hI _ | exact hG _ _ | exact hK _ | (simp [uN] <;> omega)) (fun c13 => absurd c13 (by omega)) (fun c13 => ?_)
  refine vi_bi (dec_of DX8_feed 7 rfl) (by decide) ?_
  exact vi_ret (dec_of DX8_feed 8 rfl) rfl ⟨by decide, by decide⟩ (⟨rfl, rfl⟩)
end
section
/-! fitted, half, sung, mode, count of the class (printed by wip/tools/gen_c9.py) -/
theorem tl_n {rest : List Value} : (none : Option Value).toList ++ rest = rest := rfl
theorem tl_s {v : Value} {rest : List Value} : (some v).toList ++ rest = v :: rest := rfl
theorem fitI_14 {I : Nat → Int} {f : Int → Int} {n tn hh : Int} : -2147483648 ≤ fitI I f n tn hh 14 ∧ fitI I f n tn hh 14 < 2147483648 := by
  unfold fitI
  split
  · unfold chI
    split
    · simp (disch := decide) only [uN_s, uN_n]; decide
    · simp (disch := decide) only [uN_s, uN_n]; decide
  · simp (disch := decide) only [ft0, uN_s, uN_n]; decide
set_option maxRecDepth 100000 in
set_option maxHeartbeats 4000000 in
theorem k_fitted0 {T : XW} {I N : Nat → Int} {F : Nat → Int → Int} (hF : FR F) (hI : IR I) (hN : NR N) (hT : 1 ≤ I 13 ∧ I 13 ≤ 8) : Sp (rm 5 113 0 0) mX1_fitted [.ref 23, J 0] (cls I N F ++ T) (fun w r => r = some (.ref 28) ∧ ∃ (m : Int) (g : Int → Int), m = (if 0 < N 10 then fitM (fitI I (F 10) (N 10) (I 13) 0) (N 10) else 0) ∧ w = cls (fitI I (F 10) (N 10) (I 13) 0) (uN N 12 m) (uN F 12 g) ++ T ∧ rowsOK (fitI I (F 10) (N 10) (I 13) 0) (N 10) m g) := by
  unfold NR at hN
  refine sp_of (ls := [some (.ref 23), some (J 0)]) (by decide) (nle rfl) rfl rfl ?_
  refine v_aload_n (dec_of DX1_fitted 0 rfl) rfl ?_
  refine v_get fX1_28 (dec_of DX1_fitted 1 rfl) rfl rfl ?_
  refine v_aload_n (dec_of DX1_fitted 2 rfl) rfl ?_
  refine v_iload_n (dec_of DX1_fitted 3 rfl) rfl ?_
  refine v_V1r (k_accOf0 hF hI (by unfold NR; exact hN) (by decide) (by decide)) lX1_42 (dec_of DX1_fitted 4 rfl) rfl rfl (by decide) (nle rfl) rfl ?_
  refine v_aload_n (dec_of DX1_fitted 5 rfl) rfl ?_
  refine v_get fX1_32 (dec_of DX1_fitted 6 rfl) rfl rfl ?_
  refine v_iload_n (dec_of DX1_fitted 7 rfl) rfl ?_
  refine v_V3p (k_fit10 hF hI (by unfold NR; exact hN) hT (by decide)) lX1_61 (dec_of DX1_fitted 8 rfl) rfl rfl (by decide) (nle rfl) rfl (fun w r hz => ?_)
  obtain ⟨rfl, m, g, hm, rfl, hr⟩ := hz
  rw [tl_n]
  refine v_aload_n (dec_of DX1_fitted 9 rfl) rfl ?_
  refine v_get fX1_28 (dec_of DX1_fitted 10 rfl) rfl rfl ?_
  exact vi_aret (dec_of DX1_fitted 11 rfl) ⟨_, rfl⟩ ⟨by decide, by decide⟩ (⟨rfl, m, g, hm, rfl, hr⟩)
theorem fitM_r0 {I N : Nat → Int} {F : Nat → Int → Int} (hN : NR N) {J1 : Nat → Int} {m : Int} (hm : m = (if 0 < N 10 then fitM J1 (N 10) else 0)) : 0 ≤ m ∧ m ≤ 41 := by
  unfold NR at hN
  unfold fitM at hm
  omega
set_option maxRecDepth 100000 in
set_option maxHeartbeats 4000000 in
theorem x_half0_0 {T : XW} {I N : Nat → Int} {F : Nat → Int → Int} (hF : FR F) (hI : IR I) (hN : NR N) (hT : 1 ≤ I 13 ∧ I 13 ≤ 8) : Sp (rm 6 134 0 0) mX8_half [.ref 0, J 0, J 0] (cls I N F ++ T) (fun w r => ∃ (m : Int) (g : Int → Int), r = some (J (m)) ∧ m = (if 0 < N 10 then fitM (fitI I (F 10) (N 10) (I 13) 0) (N 10) else 0) ∧ w = cls (fitI I (F 10) (N 10) (I 13) 0) (uN N 12 m) (uN F 12 g) ++ T ∧ rowsOK (fitI I (F 10) (N 10) (I 13) 0) (N 10) m g) := by
  unfold NR at hN
  refine sp_of (ls := [some (.ref 0), some (J 0), some (J 0), none]) (by decide) (nle rfl) rfl rfl ?_
  refine v_iload_n (dec_of DX8_half 0 rfl) rfl ?_
  refine v_S1r (k_isHalf (by decide)) lX8_121 (dec_of DX8_half 1 rfl) (by decide) (nle rfl) rfl ?_
  refine vi_if_eq (tgt := 16) (dec_of DX8_half 2 rfl) (by decide) (by first | omega | decide) (fun c4 => absurd c4 (by omega)) (fun c4 => ?_)
  refine v_iload_n (dec_of DX8_half 3 rfl) rfl ?_
  refine vi_if_lt (tgt := 16) (dec_of DX8_half 4 rfl) (by decide) (by first | omega | decide) (fun c8 => absurd c8 (by omega)) (fun c8 => ?_)
  refine v_iload_n (dec_of DX8_half 5 rfl) rfl ?_
  refine vi_const (dec_of DX8_half 6 rfl) ?_
  refine vi_icmp_le (tgt := 19) (dec_of DX8_half 7 rfl) (by decide) (by first | omega | decide) (by first | omega | decide) (fun c13 => ?_) (fun c13 => absurd c13 (by omega))
  refine v_aload_n (dec_of DX8_half 10 rfl) rfl ?_
  refine v_get fX8_40 (dec_of DX8_half 11 rfl) rfl rfl ?_
  refine v_iload_n (dec_of DX8_half 12 rfl) rfl ?_
  refine v_V1p (k_fitted0 hF hI (by unfold NR; exact hN) hT) lX8_124 (dec_of DX8_half 13 rfl) rfl rfl (by decide) (nle rfl) rfl (fun w r hz => ?_)
  obtain ⟨rfl, m, g, hm, rfl, hr⟩ := hz
  rw [tl_s]
  refine v_astore_n (dec_of DX8_half 14 rfl) (by decide) ?_
  dsimp only [List.set]
  refine v_iload_n (dec_of DX8_half 15 rfl) rfl ?_
  refine vi_tabIn (tgt := 56) (dec_of DX8_half 16 rfl) (by decide) (by decide) (by decide) rfl (by decide) ?_
  refine v_aload_n (dec_of DX8_half 17 rfl) rfl ?_
  refine v_get fX8_128 (dec_of DX8_half 18 rfl) rfl rfl ?_
  refine v_V0r (c12_size) lX8_48 (dec_of DX8_half 19 rfl) rfl rfl (by decide) (nle rfl) rfl ?_
  exact vi_ret (dec_of DX8_half 20 rfl) rfl ⟨by decide, by decide⟩ (⟨m, g, by simp only [uN_s], hm, rfl, hr⟩)
set_option maxRecDepth 100000 in
set_option maxHeartbeats 4000000 in
theorem x_half0_1 {T : XW} {I N : Nat → Int} {F : Nat → Int → Int} (hF : FR F) (hI : IR I) (hN : NR N) (hT : 1 ≤ I 13 ∧ I 13 ≤ 8) : Sp (rm 6 134 0 0) mX8_half [.ref 0, J 0, J 1] (cls I N F ++ T) (fun w r => ∃ (m : Int) (g : Int → Int), r = some (J ((if (fitI I (F 10) (N 10) (I 13) 0) 14 = 0 then 0 else 1))) ∧ m = (if 0 < N 10 then fitM (fitI I (F 10) (N 10) (I 13) 0) (N 10) else 0) ∧ w = cls (fitI I (F 10) (N 10) (I 13) 0) (uN N 12 m) (uN F 12 g) ++ T ∧ rowsOK (fitI I (F 10) (N 10) (I 13) 0) (N 10) m g) := by
  unfold NR at hN
  have hb14 : -2147483648 ≤ (fitI I (F 10) (N 10) (I 13) 0) 14 ∧ (fitI I (F 10) (N 10) (I 13) 0) 14 < 2147483648 := fitI_14
  refine sp_of (ls := [some (.ref 0), some (J 0), some (J 1), none]) (by decide) (nle rfl) rfl rfl ?_
  refine v_iload_n (dec_of DX8_half 0 rfl) rfl ?_
  refine v_S1r (k_isHalf (by decide)) lX8_121 (dec_of DX8_half 1 rfl) (by decide) (nle rfl) rfl ?_
  refine vi_if_eq (tgt := 16) (dec_of DX8_half 2 rfl) (by decide) (by first | omega | decide | exact hb14) (fun c4 => absurd c4 (by omega)) (fun c4 => ?_)
  refine v_iload_n (dec_of DX8_half 3 rfl) rfl ?_
  refine vi_if_lt (tgt := 16) (dec_of DX8_half 4 rfl) (by decide) (by first | omega | decide | exact hb14) (fun c8 => absurd c8 (by omega)) (fun c8 => ?_)
  refine v_iload_n (dec_of DX8_half 5 rfl) rfl ?_
  refine vi_const (dec_of DX8_half 6 rfl) ?_
  refine vi_icmp_le (tgt := 19) (dec_of DX8_half 7 rfl) (by decide) (by first | omega | decide | exact hb14) (by first | omega | decide | exact hb14) (fun c13 => ?_) (fun c13 => absurd c13 (by omega))
  refine v_aload_n (dec_of DX8_half 10 rfl) rfl ?_
  refine v_get fX8_40 (dec_of DX8_half 11 rfl) rfl rfl ?_
  refine v_iload_n (dec_of DX8_half 12 rfl) rfl ?_
  refine v_V1p (k_fitted0 hF hI (by unfold NR; exact hN) hT) lX8_124 (dec_of DX8_half 13 rfl) rfl rfl (by decide) (nle rfl) rfl (fun w r hz => ?_)
  obtain ⟨rfl, m, g, hm, rfl, hr⟩ := hz
  rw [tl_s]
  refine v_astore_n (dec_of DX8_half 14 rfl) (by decide) ?_
  dsimp only [List.set]
  refine v_iload_n (dec_of DX8_half 15 rfl) rfl ?_
  refine vi_tabIn (tgt := 64) (dec_of DX8_half 16 rfl) (by decide) (by decide) (by decide) rfl (by decide) ?_
  refine v_aload_n (dec_of DX8_half 21 rfl) rfl ?_
  refine v_get fX8_133 (dec_of DX8_half 22 rfl) rfl rfl ?_
  refine vi_if_eq (tgt := 75) (dec_of DX8_half 23 rfl) (by decide) (by first | omega | decide | exact hb14) (fun c68 => ?_) (fun c68 => ?_)
  · refine vi_const (dec_of DX8_half 26 rfl) ?_
    exact vi_ret (dec_of DX8_half 27 rfl) rfl ⟨by decide, by decide⟩ (⟨m, g, by first | rw [if_neg c68] | rw [if_pos c68], hm, rfl, hr⟩)
  · refine vi_const (dec_of DX8_half 24 rfl) ?_
    refine v_goto (tgt := 76) (dec_of DX8_half 25 rfl) (by decide) ?_
    exact vi_ret (dec_of DX8_half 27 rfl) rfl ⟨by decide, by decide⟩ (⟨m, g, by first | rw [if_neg c68] | rw [if_pos c68], hm, rfl, hr⟩)
set_option maxRecDepth 100000 in
set_option maxHeartbeats 4000000 in
theorem x_half0_2 {T : XW} {I N : Nat → Int} {F : Nat → Int → Int} (hF : FR F) (hI : IR I) (hN : NR N) (hT : 1 ≤ I 13 ∧ I 13 ≤ 8) : Sp (rm 6 134 0 0) mX8_half [.ref 0, J 0, J 2] (cls I N F ++ T) (fun w r => ∃ (m : Int) (g : Int → Int), r = some (J ((fitI I (F 10) (N 10) (I 13) 0) 15)) ∧ m = (if 0 < N 10 then fitM (fitI I (F 10) (N 10) (I 13) 0) (N 10) else 0) ∧ w = cls (fitI I (F 10) (N 10) (I 13) 0) (uN N 12 m) (uN F 12 g) ++ T ∧ rowsOK (fitI I (F 10) (N 10) (I 13) 0) (N 10) m g) := by
  unfold NR at hN
  refine sp_of (ls := [some (.ref 0), some (J 0), some (J 2), none]) (by decide) (nle rfl) rfl rfl ?_
  refine v_iload_n (dec_of DX8_half 0 rfl) rfl ?_
  refine v_S1r (k_isHalf (by decide)) lX8_121 (dec_of DX8_half 1 rfl) (by decide) (nle rfl) rfl ?_
  refine vi_if_eq (tgt := 16) (dec_of DX8_half 2 rfl) (by decide) (by first | omega | decide) (fun c4 => absurd c4 (by omega)) (fun c4 => ?_)
  refine v_iload_n (dec_of DX8_half 3 rfl) rfl ?_
  refine vi_if_lt (tgt := 16) (dec_of DX8_half 4 rfl) (by decide) (by first | omega | decide) (fun c8 => absurd c8 (by omega)) (fun c8 => ?_)
  refine v_iload_n (dec_of DX8_half 5 rfl) rfl ?_
  refine vi_const (dec_of DX8_half 6 rfl) ?_
  refine vi_icmp_le (tgt := 19) (dec_of DX8_half 7 rfl) (by decide) (by first | omega | decide) (by first | omega | decide) (fun c13 => ?_) (fun c13 => absurd c13 (by omega))
  refine v_aload_n (dec_of DX8_half 10 rfl) rfl ?_
  refine v_get fX8_40 (dec_of DX8_half 11 rfl) rfl rfl ?_
  refine v_iload_n (dec_of DX8_half 12 rfl) rfl ?_
  refine v_V1p (k_fitted0 hF hI (by unfold NR; exact hN) hT) lX8_124 (dec_of DX8_half 13 rfl) rfl rfl (by decide) (nle rfl) rfl (fun w r hz => ?_)
  obtain ⟨rfl, m, g, hm, rfl, hr⟩ := hz
  rw [tl_s]
  refine v_astore_n (dec_of DX8_half 14 rfl) (by decide) ?_
  dsimp only [List.set]
  refine v_iload_n (dec_of DX8_half 15 rfl) rfl ?_
  refine vi_tabIn (tgt := 77) (dec_of DX8_half 16 rfl) (by decide) (by decide) (by decide) rfl (by decide) ?_
  refine v_aload_n (dec_of DX8_half 28 rfl) rfl ?_
  refine v_get fX8_137 (dec_of DX8_half 29 rfl) rfl rfl ?_
  exact vi_ret (dec_of DX8_half 30 rfl) rfl ⟨by decide, by decide⟩ (⟨m, g, rfl, hm, rfl, hr⟩)
set_option maxRecDepth 100000 in
set_option maxHeartbeats 4000000 in
theorem x_half0_3 {T : XW} {I N : Nat → Int} {F : Nat → Int → Int} (hF : FR F) (hI : IR I) (hN : NR N) (hT : 1 ≤ I 13 ∧ I 13 ≤ 8) : Sp (rm 6 134 0 0) mX8_half [.ref 0, J 0, J 3] (cls I N F ++ T) (fun w r => ∃ (m : Int) (g : Int → Int), r = some (J ((fitI I (F 10) (N 10) (I 13) 0) 16)) ∧ m = (if 0 < N 10 then fitM (fitI I (F 10) (N 10) (I 13) 0) (N 10) else 0) ∧ w = cls (fitI I (F 10) (N 10) (I 13) 0) (uN N 12 m) (uN F 12 g) ++ T ∧ rowsOK (fitI I (F 10) (N 10) (I 13) 0) (N 10) m g) := by
  unfold NR at hN
  refine sp_of (ls := [some (.ref 0), some (J 0), some (J 3), none]) (by decide) (nle rfl) rfl rfl ?_
  refine v_iload_n (dec_of DX8_half 0 rfl) rfl ?_
  refine v_S1r (k_isHalf (by decide)) lX8_121 (dec_of DX8_half 1 rfl) (by decide) (nle rfl) rfl ?_
  refine vi_if_eq (tgt := 16) (dec_of DX8_half 2 rfl) (by decide) (by first | omega | decide) (fun c4 => absurd c4 (by omega)) (fun c4 => ?_)
  refine v_iload_n (dec_of DX8_half 3 rfl) rfl ?_
  refine vi_if_lt (tgt := 16) (dec_of DX8_half 4 rfl) (by decide) (by first | omega | decide) (fun c8 => absurd c8 (by omega)) (fun c8 => ?_)
  refine v_iload_n (dec_of DX8_half 5 rfl) rfl ?_
  refine vi_const (dec_of DX8_half 6 rfl) ?_
  refine vi_icmp_le (tgt := 19) (dec_of DX8_half 7 rfl) (by decide) (by first | omega | decide) (by first | omega | decide) (fun c13 => ?_) (fun c13 => absurd c13 (by omega))
  refine v_aload_n (dec_of DX8_half 10 rfl) rfl ?_
  refine v_get fX8_40 (dec_of DX8_half 11 rfl) rfl rfl ?_
  refine v_iload_n (dec_of DX8_half 12 rfl) rfl ?_
  refine v_V1p (k_fitted0 hF hI (by unfold NR; exact hN) hT) lX8_124 (dec_of DX8_half 13 rfl) rfl rfl (by decide) (nle rfl) rfl (fun w r hz => ?_)
  obtain ⟨rfl, m, g, hm, rfl, hr⟩ := hz
  rw [tl_s]
  refine v_astore_n (dec_of DX8_half 14 rfl) (by decide) ?_
  dsimp only [List.set]
  refine v_iload_n (dec_of DX8_half 15 rfl) rfl ?_
  refine vi_tabOut (tgt := 82) (dec_of DX8_half 16 rfl) (by decide) (Or.inr (by decide)) (by decide) ?_
  refine v_aload_n (dec_of DX8_half 31 rfl) rfl ?_
  refine v_get fX8_140 (dec_of DX8_half 32 rfl) rfl rfl ?_
  exact vi_ret (dec_of DX8_half 33 rfl) rfl ⟨by decide, by decide⟩ (⟨m, g, rfl, hm, rfl, hr⟩)
set_option maxRecDepth 100000 in
set_option maxHeartbeats 4000000 in
theorem x_sung0_0 {T : XW} {I N : Nat → Int} {F : Nat → Int → Int} (hF : FR F) (hI : IR I) (hN : NR N) (hT : 1 ≤ I 13 ∧ I 13 ≤ 8) {k : Int} (hk : -2147483648 ≤ k ∧ k < 2147483648) : Sp (rm 6 134 0 0) mX8_sung [.ref 0, J 0, J k, J 0] (cls I N F ++ T) (fun w r => ∃ (m : Int) (g : Int → Int), r = some (J (if 0 ≤ k ∧ k < m then g (k * 2 + 0) else -100)) ∧ m = (if 0 < N 10 then fitM (fitI I (F 10) (N 10) (I 13) 0) (N 10) else 0) ∧ w = cls (fitI I (F 10) (N 10) (I 13) 0) (uN N 12 m) (uN F 12 g) ++ T ∧ rowsOK (fitI I (F 10) (N 10) (I 13) 0) (N 10) m g) := by
  unfold NR at hN
  refine sp_of (ls := [some (.ref 0), some (J 0), some (J k), some (J 0), none]) (by decide) (nle rfl) rfl rfl ?_
  refine v_iload_n (dec_of DX8_sung 0 rfl) rfl ?_
  refine v_S1r (k_isHalf (by decide)) lX8_121 (dec_of DX8_sung 1 rfl) (by decide) (nle rfl) rfl ?_
  refine vi_if_eq (tgt := 16) (dec_of DX8_sung 2 rfl) (by decide) (by first | omega | decide) (fun c4 => absurd c4 (by omega)) (fun c4 => ?_)
  refine v_iload_n (dec_of DX8_sung 3 rfl) rfl ?_
  refine vi_if_lt (tgt := 16) (dec_of DX8_sung 4 rfl) (by decide) (by first | omega | decide) (fun c8 => absurd c8 (by omega)) (fun c8 => ?_)
  refine v_iload_n (dec_of DX8_sung 5 rfl) rfl ?_
  refine vi_const (dec_of DX8_sung 6 rfl) ?_
  refine vi_icmp_le (tgt := 19) (dec_of DX8_sung 7 rfl) (by decide) (by first | omega | decide) (by first | omega | decide) (fun c13 => ?_) (fun c13 => absurd c13 (by omega))
  refine v_aload_n (dec_of DX8_sung 10 rfl) rfl ?_
  refine v_get fX8_40 (dec_of DX8_sung 11 rfl) rfl rfl ?_
  refine v_iload_n (dec_of DX8_sung 12 rfl) rfl ?_
  refine v_V1p (k_fitted0 hF hI (by unfold NR; exact hN) hT) lX8_124 (dec_of DX8_sung 13 rfl) rfl rfl (by decide) (nle rfl) rfl (fun w r hz => ?_)
  obtain ⟨rfl, m, g, hm, rfl, hr⟩ := hz
  rw [tl_s]
  have hm2 := fitM_r0 (F := F) (I := I) (by unfold NR; exact hN) hm
  refine v_get fX8_128 (dec_of DX8_sung 14 rfl) rfl rfl ?_
  refine v_astore (dec_of DX8_sung 15 rfl) (by decide) ?_
  dsimp only [List.set]
  refine v_aload (dec_of DX8_sung 16 rfl) rfl ?_
  refine v_iload_n (dec_of DX8_sung 17 rfl) rfl ?_
  refine v_V1r (c12_has (by simp only [uN_s]; omega) (by omega)) lX8_89 (dec_of DX8_sung 18 rfl) rfl rfl (by decide) (nle rfl) rfl ?_
  simp only [uN_s]
  refine vi_if_eq (tgt := 51) (dec_of DX8_sung 19 rfl) (by decide) (by first | omega | decide) (fun c38 => ?_) (fun c38 => ?_)
  · refine vi_bi (dec_of DX8_sung 25 rfl) (by decide) ?_
    exact vi_ret (dec_of DX8_sung 26 rfl) rfl ⟨by decide, by decide⟩ (⟨m, g, by first | rw [if_pos (by omega)] | rw [if_neg (by omega)], hm, rfl, hr⟩)
  · refine v_aload (dec_of DX8_sung 20 rfl) rfl ?_
    refine v_iload_n (dec_of DX8_sung 21 rfl) rfl ?_
    refine v_iload_n (dec_of DX8_sung 22 rfl) rfl ?_
    refine v_V2r (c12_get (by simp only [uN_s]; omega) (by simp only [uN_s]; omega) (by decide)) lX8_143 (dec_of DX8_sung 23 rfl) rfl rfl (by decide) (nle rfl) rfl ?_
    simp only [uN_s]
    refine v_goto (tgt := 53) (dec_of DX8_sung 24 rfl) (by decide) ?_
    exact vi_ret (dec_of DX8_sung 26 rfl) rfl ⟨by decide, by decide⟩ (⟨m, g, by first | rw [if_pos (by omega)] | rw [if_neg (by omega)], hm, rfl, hr⟩)
set_option maxRecDepth 100000 in
set_option maxHeartbeats 4000000 in
theorem x_sung0_1 {T : XW} {I N : Nat → Int} {F : Nat → Int → Int} (hF : FR F) (hI : IR I) (hN : NR N) (hT : 1 ≤ I 13 ∧ I 13 ≤ 8) {k : Int} (hk : -2147483648 ≤ k ∧ k < 2147483648) : Sp (rm 6 134 0 0) mX8_sung [.ref 0, J 0, J k, J 1] (cls I N F ++ T) (fun w r => ∃ (m : Int) (g : Int → Int), r = some (J (if 0 ≤ k ∧ k < m then g (k * 2 + 1) else -100)) ∧ m = (if 0 < N 10 then fitM (fitI I (F 10) (N 10) (I 13) 0) (N 10) else 0) ∧ w = cls (fitI I (F 10) (N 10) (I 13) 0) (uN N 12 m) (uN F 12 g) ++ T ∧ rowsOK (fitI I (F 10) (N 10) (I 13) 0) (N 10) m g) := by
  unfold NR at hN
  refine sp_of (ls := [some (.ref 0), some (J 0), some (J k), some (J 1), none]) (by decide) (nle rfl) rfl rfl ?_
  refine v_iload_n (dec_of DX8_sung 0 rfl) rfl ?_
  refine v_S1r (k_isHalf (by decide)) lX8_121 (dec_of DX8_sung 1 rfl) (by decide) (nle rfl) rfl ?_
  refine vi_if_eq (tgt := 16) (dec_of DX8_sung 2 rfl) (by decide) (by first | omega | decide) (fun c4 => absurd c4 (by omega)) (fun c4 => ?_)
  refine v_iload_n (dec_of DX8_sung 3 rfl) rfl ?_
  refine vi_if_lt (tgt := 16) (dec_of DX8_sung 4 rfl) (by decide) (by first | omega | decide) (fun c8 => absurd c8 (by omega)) (fun c8 => ?_)
  refine v_iload_n (dec_of DX8_sung 5 rfl) rfl ?_
  refine vi_const (dec_of DX8_sung 6 rfl) ?_
  refine vi_icmp_le (tgt := 19) (dec_of DX8_sung 7 rfl) (by decide) (by first | omega | decide) (by first | omega | decide) (fun c13 => ?_) (fun c13 => absurd c13 (by omega))
  refine v_aload_n (dec_of DX8_sung 10 rfl) rfl ?_
  refine v_get fX8_40 (dec_of DX8_sung 11 rfl) rfl rfl ?_
  refine v_iload_n (dec_of DX8_sung 12 rfl) rfl ?_
  refine v_V1p (k_fitted0 hF hI (by unfold NR; exact hN) hT) lX8_124 (dec_of DX8_sung 13 rfl) rfl rfl (by decide) (nle rfl) rfl (fun w r hz => ?_)
  obtain ⟨rfl, m, g, hm, rfl, hr⟩ := hz
  rw [tl_s]
  have hm2 := fitM_r0 (F := F) (I := I) (by unfold NR; exact hN) hm
  refine v_get fX8_128 (dec_of DX8_sung 14 rfl) rfl rfl ?_
  refine v_astore (dec_of DX8_sung 15 rfl) (by decide) ?_
  dsimp only [List.set]
  refine v_aload (dec_of DX8_sung 16 rfl) rfl ?_
  refine v_iload_n (dec_of DX8_sung 17 rfl) rfl ?_
  refine v_V1r (c12_has (by simp only [uN_s]; omega) (by omega)) lX8_89 (dec_of DX8_sung 18 rfl) rfl rfl (by decide) (nle rfl) rfl ?_
  simp only [uN_s]
  refine vi_if_eq (tgt := 51) (dec_of DX8_sung 19 rfl) (by decide) (by first | omega | decide) (fun c38 => ?_) (fun c38 => ?_)
  · refine vi_bi (dec_of DX8_sung 25 rfl) (by decide) ?_
    exact vi_ret (dec_of DX8_sung 26 rfl) rfl ⟨by decide, by decide⟩ (⟨m, g, by first | rw [if_pos (by omega)] | rw [if_neg (by omega)], hm, rfl, hr⟩)
  · refine v_aload (dec_of DX8_sung 20 rfl) rfl ?_
    refine v_iload_n (dec_of DX8_sung 21 rfl) rfl ?_
    refine v_iload_n (dec_of DX8_sung 22 rfl) rfl ?_
    refine v_V2r (c12_get (by simp only [uN_s]; omega) (by simp only [uN_s]; omega) (by decide)) lX8_143 (dec_of DX8_sung 23 rfl) rfl rfl (by decide) (nle rfl) rfl ?_
    simp only [uN_s]
    refine v_goto (tgt := 53) (dec_of DX8_sung 24 rfl) (by decide) ?_
    exact vi_ret (dec_of DX8_sung 26 rfl) rfl ⟨by decide, by decide⟩ (⟨m, g, by first | rw [if_pos (by omega)] | rw [if_neg (by omega)], hm, rfl, hr⟩)
set_option maxRecDepth 100000 in
set_option maxHeartbeats 4000000 in
theorem k_fitted1 {T : XW} {I N : Nat → Int} {F : Nat → Int → Int} (hF : FR F) (hI : IR I) (hN : NR N) (hT : 1 ≤ I 13 ∧ I 13 ≤ 8) : Sp (rm 5 113 0 0) mX1_fitted [.ref 23, J 1] (cls I N F ++ T) (fun w r => r = some (.ref 28) ∧ ∃ (m : Int) (g : Int → Int), m = (if 0 < N 11 then fitM (fitI I (F 11) (N 11) (I 13) 1) (N 11) else 0) ∧ w = cls (fitI I (F 11) (N 11) (I 13) 1) (uN N 12 m) (uN F 12 g) ++ T ∧ rowsOK (fitI I (F 11) (N 11) (I 13) 1) (N 11) m g) := by
  unfold NR at hN
  refine sp_of (ls := [some (.ref 23), some (J 1)]) (by decide) (nle rfl) rfl rfl ?_
  refine v_aload_n (dec_of DX1_fitted 0 rfl) rfl ?_
  refine v_get fX1_28 (dec_of DX1_fitted 1 rfl) rfl rfl ?_
  refine v_aload_n (dec_of DX1_fitted 2 rfl) rfl ?_
  refine v_iload_n (dec_of DX1_fitted 3 rfl) rfl ?_
  refine v_V1r (k_accOf1 hF hI (by unfold NR; exact hN) (by decide) (by decide)) lX1_42 (dec_of DX1_fitted 4 rfl) rfl rfl (by decide) (nle rfl) rfl ?_
  refine v_aload_n (dec_of DX1_fitted 5 rfl) rfl ?_
  refine v_get fX1_32 (dec_of DX1_fitted 6 rfl) rfl rfl ?_
  refine v_iload_n (dec_of DX1_fitted 7 rfl) rfl ?_
  refine v_V3p (k_fit11 hF hI (by unfold NR; exact hN) hT (by decide)) lX1_61 (dec_of DX1_fitted 8 rfl) rfl rfl (by decide) (nle rfl) rfl (fun w r hz => ?_)
  obtain ⟨rfl, m, g, hm, rfl, hr⟩ := hz
  rw [tl_n]
  refine v_aload_n (dec_of DX1_fitted 9 rfl) rfl ?_
  refine v_get fX1_28 (dec_of DX1_fitted 10 rfl) rfl rfl ?_
  exact vi_aret (dec_of DX1_fitted 11 rfl) ⟨_, rfl⟩ ⟨by decide, by decide⟩ (⟨rfl, m, g, hm, rfl, hr⟩)
theorem fitM_r1 {I N : Nat → Int} {F : Nat → Int → Int} (hN : NR N) {J1 : Nat → Int} {m : Int} (hm : m = (if 0 < N 11 then fitM J1 (N 11) else 0)) : 0 ≤ m ∧ m ≤ 41 := by
  unfold NR at hN
  unfold fitM at hm
  omega
set_option maxRecDepth 100000 in
set_option maxHeartbeats 4000000 in
theorem x_half1_0 {T : XW} {I N : Nat → Int} {F : Nat → Int → Int} (hF : FR F) (hI : IR I) (hN : NR N) (hT : 1 ≤ I 13 ∧ I 13 ≤ 8) : Sp (rm 6 134 0 0) mX8_half [.ref 0, J 1, J 0] (cls I N F ++ T) (fun w r => ∃ (m : Int) (g : Int → Int), r = some (J (m)) ∧ m = (if 0 < N 11 then fitM (fitI I (F 11) (N 11) (I 13) 1) (N 11) else 0) ∧ w = cls (fitI I (F 11) (N 11) (I 13) 1) (uN N 12 m) (uN F 12 g) ++ T ∧ rowsOK (fitI I (F 11) (N 11) (I 13) 1) (N 11) m g) := by
  unfold NR at hN
  refine sp_of (ls := [some (.ref 0), some (J 1), some (J 0), none]) (by decide) (nle rfl) rfl rfl ?_
  refine v_iload_n (dec_of DX8_half 0 rfl) rfl ?_
  refine v_S1r (k_isHalf (by decide)) lX8_121 (dec_of DX8_half 1 rfl) (by decide) (nle rfl) rfl ?_
  refine vi_if_eq (tgt := 16) (dec_of DX8_half 2 rfl) (by decide) (by first | omega | decide) (fun c4 => absurd c4 (by omega)) (fun c4 => ?_)
  refine v_iload_n (dec_of DX8_half 3 rfl) rfl ?_
  refine vi_if_lt (tgt := 16) (dec_of DX8_half 4 rfl) (by decide) (by first | omega | decide) (fun c8 => absurd c8 (by omega)) (fun c8 => ?_)
  refine v_iload_n (dec_of DX8_half 5 rfl) rfl ?_
  refine vi_const (dec_of DX8_half 6 rfl) ?_
  refine vi_icmp_le (tgt := 19) (dec_of DX8_half 7 rfl) (by decide) (by first | omega | decide) (by first | omega | decide) (fun c13 => ?_) (fun c13 => absurd c13 (by omega))
  refine v_aload_n (dec_of DX8_half 10 rfl) rfl ?_
  refine v_get fX8_40 (dec_of DX8_half 11 rfl) rfl rfl ?_
  refine v_iload_n (dec_of DX8_half 12 rfl) rfl ?_
  refine v_V1p (k_fitted1 hF hI (by unfold NR; exact hN) hT) lX8_124 (dec_of DX8_half 13 rfl) rfl rfl (by decide) (nle rfl) rfl (fun w r hz => ?_)
  obtain ⟨rfl, m, g, hm, rfl, hr⟩ := hz
  rw [tl_s]
  refine v_astore_n (dec_of DX8_half 14 rfl) (by decide) ?_
  dsimp only [List.set]
  refine v_iload_n (dec_of DX8_half 15 rfl) rfl ?_
  refine vi_tabIn (tgt := 56) (dec_of DX8_half 16 rfl) (by decide) (by decide) (by decide) rfl (by decide) ?_
  refine v_aload_n (dec_of DX8_half 17 rfl) rfl ?_
  refine v_get fX8_128 (dec_of DX8_half 18 rfl) rfl rfl ?_
  refine v_V0r (c12_size) lX8_48 (dec_of DX8_half 19 rfl) rfl rfl (by decide) (nle rfl) rfl ?_
  exact vi_ret (dec_of DX8_half 20 rfl) rfl ⟨by decide, by decide⟩ (⟨m, g, by simp only [uN_s], hm, rfl, hr⟩)
set_option maxRecDepth 100000 in
set_option maxHeartbeats 4000000 in
theorem x_half1_1 {T : XW} {I N : Nat → Int} {F : Nat → Int → Int} (hF : FR F) (hI : IR I) (hN : NR N) (hT : 1 ≤ I 13 ∧ I 13 ≤ 8) : Sp (rm 6 134 0 0) mX8_half [.ref 0, J 1, J 1] (cls I N F ++ T) (fun w r => ∃ (m : Int) (g : Int → Int), r = some (J ((if (fitI I (F 11) (N 11) (I 13) 1) 14 = 0 then 0 else 1))) ∧ m = (if 0 < N 11 then fitM (fitI I (F 11) (N 11) (I 13) 1) (N 11) else 0) ∧ w = cls (fitI I (F 11) (N 11) (I 13) 1) (uN N 12 m) (uN F 12 g) ++ T ∧ rowsOK (fitI I (F 11) (N 11) (I 13) 1) (N 11) m g) := by
  unfold NR at hN
  have hb14 : -2147483648 ≤ (fitI I (F 11) (N 11) (I 13) 1) 14 ∧ (fitI I (F 11) (N 11) (I 13) 1) 14 < 2147483648 := fitI_14
  refine sp_of (ls := [some (.ref 0), some (J 1), some (J 1), none]) (by decide) (nle rfl) rfl rfl ?_
  refine v_iload_n (dec_of DX8_half 0 rfl) rfl ?_
  refine v_S1r (k_isHalf (by decide)) lX8_121 (dec_of DX8_half 1 rfl) (by decide) (nle rfl) rfl ?_
  refine vi_if_eq (tgt := 16) (dec_of DX8_half 2 rfl) (by decide) (by first | omega | decide | exact hb14) (fun c4 => absurd c4 (by omega)) (fun c4 => ?_)
  refine v_iload_n (dec_of DX8_half 3 rfl) rfl ?_
  refine vi_if_lt (tgt := 16) (dec_of DX8_half 4 rfl) (by decide) (by first | omega | decide | exact hb14) (fun c8 => absurd c8 (by omega)) (fun c8 => ?_)
  refine v_iload_n (dec_of DX8_half 5 rfl) rfl ?_
  refine vi_const (dec_of DX8_half 6 rfl) ?_
  refine vi_icmp_le (tgt := 19) (dec_of DX8_half 7 rfl) (by decide) (by first | omega | decide | exact hb14) (by first | omega | decide | exact hb14) (fun c13 => ?_) (fun c13 => absurd c13 (by omega))
  refine v_aload_n (dec_of DX8_half 10 rfl) rfl ?_
  refine v_get fX8_40 (dec_of DX8_half 11 rfl) rfl rfl ?_
  refine v_iload_n (dec_of DX8_half 12 rfl) rfl ?_
  refine v_V1p (k_fitted1 hF hI (by unfold NR; exact hN) hT) lX8_124 (dec_of DX8_half 13 rfl) rfl rfl (by decide) (nle rfl) rfl (fun w r hz => ?_)
  obtain ⟨rfl, m, g, hm, rfl, hr⟩ := hz
  rw [tl_s]
  refine v_astore_n (dec_of DX8_half 14 rfl) (by decide) ?_
  dsimp only [List.set]
  refine v_iload_n (dec_of DX8_half 15 rfl) rfl ?_
  refine vi_tabIn (tgt := 64) (dec_of DX8_half 16 rfl) (by decide) (by decide) (by decide) rfl (by decide) ?_
  refine v_aload_n (dec_of DX8_half 21 rfl) rfl ?_
  refine v_get fX8_133 (dec_of DX8_half 22 rfl) rfl rfl ?_
  refine vi_if_eq (tgt := 75) (dec_of DX8_half 23 rfl) (by decide) (by first | omega | decide | exact hb14) (fun c68 => ?_) (fun c68 => ?_)
  · refine vi_const (dec_of DX8_half 26 rfl) ?_
    exact vi_ret (dec_of DX8_half 27 rfl) rfl ⟨by decide, by decide⟩ (⟨m, g, by first | rw [if_neg c68] | rw [if_pos c68], hm, rfl, hr⟩)
  · refine vi_const (dec_of DX8_half 24 rfl) ?_
    refine v_goto (tgt := 76) (dec_of DX8_half 25 rfl) (by decide) ?_
    exact vi_ret (dec_of DX8_half 27 rfl) rfl ⟨by decide, by decide⟩ (⟨m, g, by first | rw [if_neg c68] | rw [if_pos c68], hm, rfl, hr⟩)
set_option maxRecDepth 100000 in
set_option maxHeartbeats 4000000 in
theorem x_half1_2 {T : XW} {I N : Nat → Int} {F : Nat → Int → Int} (hF : FR F) (hI : IR I) (hN : NR N) (hT : 1 ≤ I 13 ∧ I 13 ≤ 8) : Sp (rm 6 134 0 0) mX8_half [.ref 0, J 1, J 2] (cls I N F ++ T) (fun w r => ∃ (m : Int) (g : Int → Int), r = some (J ((fitI I (F 11) (N 11) (I 13) 1) 15)) ∧ m = (if 0 < N 11 then fitM (fitI I (F 11) (N 11) (I 13) 1) (N 11) else 0) ∧ w = cls (fitI I (F 11) (N 11) (I 13) 1) (uN N 12 m) (uN F 12 g) ++ T ∧ rowsOK (fitI I (F 11) (N 11) (I 13) 1) (N 11) m g) := by
  unfold NR at hN
  refine sp_of (ls := [some (.ref 0), some (J 1), some (J 2), none]) (by decide) (nle rfl) rfl rfl ?_
  refine v_iload_n (dec_of DX8_half 0 rfl) rfl ?_
  refine v_S1r (k_isHalf (by decide)) lX8_121 (dec_of DX8_half 1 rfl) (by decide) (nle rfl) rfl ?_
  refine vi_if_eq (tgt := 16) (dec_of DX8_half 2 rfl) (by decide) (by first | omega | decide) (fun c4 => absurd c4 (by omega)) (fun c4 => ?_)
  refine v_iload_n (dec_of DX8_half 3 rfl) rfl ?_
  refine vi_if_lt (tgt := 16) (dec_of DX8_half 4 rfl) (by decide) (by first | omega | decide) (fun c8 => absurd c8 (by omega)) (fun c8 => ?_)
  refine v_iload_n (dec_of DX8_half 5 rfl) rfl ?_
  refine vi_const (dec_of DX8_half 6 rfl) ?_
  refine vi_icmp_le (tgt := 19) (dec_of DX8_half 7 rfl) (by decide) (by first | omega | decide) (by first | omega | decide) (fun c13 => ?_) (fun c13 => absurd c13 (by omega))
  refine v_aload_n (dec_of DX8_half 10 rfl) rfl ?_
  refine v_get fX8_40 (dec_of DX8_half 11 rfl) rfl rfl ?_
  refine v_iload_n (dec_of DX8_half 12 rfl) rfl ?_
  refine v_V1p (k_fitted1 hF hI (by unfold NR; exact hN) hT) lX8_124 (dec_of DX8_half 13 rfl) rfl rfl (by decide) (nle rfl) rfl (fun w r hz => ?_)
  obtain ⟨rfl, m, g, hm, rfl, hr⟩ := hz
  rw [tl_s]
  refine v_astore_n (dec_of DX8_half 14 rfl) (by decide) ?_
  dsimp only [List.set]
  refine v_iload_n (dec_of DX8_half 15 rfl) rfl ?_
  refine vi_tabIn (tgt := 77) (dec_of DX8_half 16 rfl) (by decide) (by decide) (by decide) rfl (by decide) ?_
  refine v_aload_n (dec_of DX8_half 28 rfl) rfl ?_
  refine v_get fX8_137 (dec_of DX8_half 29 rfl) rfl rfl ?_
  exact vi_ret (dec_of DX8_half 30 rfl) rfl ⟨by decide, by decide⟩ (⟨m, g, rfl, hm, rfl, hr⟩)
set_option maxRecDepth 100000 in
set_option maxHeartbeats 4000000 in
theorem x_half1_3 {T : XW} {I N : Nat → Int} {F : Nat → Int → Int} (hF : FR F) (hI : IR I) (hN : NR N) (hT : 1 ≤ I 13 ∧ I 13 ≤ 8) : Sp (rm 6 134 0 0) mX8_half [.ref 0, J 1, J 3] (cls I N F ++ T) (fun w r => ∃ (m : Int) (g : Int → Int), r = some (J ((fitI I (F 11) (N 11) (I 13) 1) 16)) ∧ m = (if 0 < N 11 then fitM (fitI I (F 11) (N 11) (I 13) 1) (N 11) else 0) ∧ w = cls (fitI I (F 11) (N 11) (I 13) 1) (uN N 12 m) (uN F 12 g) ++ T ∧ rowsOK (fitI I (F 11) (N 11) (I 13) 1) (N 11) m g) := by
  unfold NR at hN
  refine sp_of (ls := [some (.ref 0), some (J 1), some (J 3), none]) (by decide) (nle rfl) rfl rfl ?_
  refine v_iload_n (dec_of DX8_half 0 rfl) rfl ?_
  refine v_S1r (k_isHalf (by decide)) lX8_121 (dec_of DX8_half 1 rfl) (by decide) (nle rfl) rfl ?_
  refine vi_if_eq (tgt := 16) (dec_of DX8_half 2 rfl) (by decide) (by first | omega | decide) (fun c4 => absurd c4 (by omega)) (fun c4 => ?_)
  refine v_iload_n (dec_of DX8_half 3 rfl) rfl ?_
  refine vi_if_lt (tgt := 16) (dec_of DX8_half 4 rfl) (by decide) (by first | omega | decide) (fun c8 => absurd c8 (by omega)) (fun c8 => ?_)
  refine v_iload_n (dec_of DX8_half 5 rfl) rfl ?_
  refine vi_const (dec_of DX8_half 6 rfl) ?_
  refine vi_icmp_le (tgt := 19) (dec_of DX8_half 7 rfl) (by decide) (by first | omega | decide) (by first | omega | decide) (fun c13 => ?_) (fun c13 => absurd c13 (by omega))
  refine v_aload_n (dec_of DX8_half 10 rfl) rfl ?_
  refine v_get fX8_40 (dec_of DX8_half 11 rfl) rfl rfl ?_
  refine v_iload_n (dec_of DX8_half 12 rfl) rfl ?_
  refine v_V1p (k_fitted1 hF hI (by unfold NR; exact hN) hT) lX8_124 (dec_of DX8_half 13 rfl) rfl rfl (by decide) (nle rfl) rfl (fun w r hz => ?_)
  obtain ⟨rfl, m, g, hm, rfl, hr⟩ := hz
  rw [tl_s]
  refine v_astore_n (dec_of DX8_half 14 rfl) (by decide) ?_
  dsimp only [List.set]
  refine v_iload_n (dec_of DX8_half 15 rfl) rfl ?_
  refine vi_tabOut (tgt := 82) (dec_of DX8_half 16 rfl) (by decide) (Or.inr (by decide)) (by decide) ?_
  refine v_aload_n (dec_of DX8_half 31 rfl) rfl ?_
  refine v_get fX8_140 (dec_of DX8_half 32 rfl) rfl rfl ?_
  exact vi_ret (dec_of DX8_half 33 rfl) rfl ⟨by decide, by decide⟩ (⟨m, g, rfl, hm, rfl, hr⟩)
set_option maxRecDepth 100000 in
set_option maxHeartbeats 4000000 in
theorem x_sung1_0 {T : XW} {I N : Nat → Int} {F : Nat → Int → Int} (hF : FR F) (hI : IR I) (hN : NR N) (hT : 1 ≤ I 13 ∧ I 13 ≤ 8) {k : Int} (hk : -2147483648 ≤ k ∧ k < 2147483648) : Sp (rm 6 134 0 0) mX8_sung [.ref 0, J 1, J k, J 0] (cls I N F ++ T) (fun w r => ∃ (m : Int) (g : Int → Int), r = some (J (if 0 ≤ k ∧ k < m then g (k * 2 + 0) else -100)) ∧ m = (if 0 < N 11 then fitM (fitI I (F 11) (N 11) (I 13) 1) (N 11) else 0) ∧ w = cls (fitI I (F 11) (N 11) (I 13) 1) (uN N 12 m) (uN F 12 g) ++ T ∧ rowsOK (fitI I (F 11) (N 11) (I 13) 1) (N 11) m g) := by
  unfold NR at hN
  refine sp_of (ls := [some (.ref 0), some (J 1), some (J k), some (J 0), none]) (by decide) (nle rfl) rfl rfl ?_
  refine v_iload_n (dec_of DX8_sung 0 rfl) rfl ?_
  refine v_S1r (k_isHalf (by decide)) lX8_121 (dec_of DX8_sung 1 rfl) (by decide) (nle rfl) rfl ?_
  refine vi_if_eq (tgt := 16) (dec_of DX8_sung 2 rfl) (by decide) (by first | omega | decide) (fun c4 => absurd c4 (by omega)) (fun c4 => ?_)
  refine v_iload_n (dec_of DX8_sung 3 rfl) rfl ?_
  refine vi_if_lt (tgt := 16) (dec_of DX8_sung 4 rfl) (by decide) (by first | omega | decide) (fun c8 => absurd c8 (by omega)) (fun c8 => ?_)
  refine v_iload_n (dec_of DX8_sung 5 rfl) rfl ?_
  refine vi_const (dec_of DX8_sung 6 rfl) ?_
  refine vi_icmp_le (tgt := 19) (dec_of DX8_sung 7 rfl) (by decide) (by first | omega | decide) (by first | omega | decide) (fun c13 => ?_) (fun c13 => absurd c13 (by omega))
  refine v_aload_n (dec_of DX8_sung 10 rfl) rfl ?_
  refine v_get fX8_40 (dec_of DX8_sung 11 rfl) rfl rfl ?_
  refine v_iload_n (dec_of DX8_sung 12 rfl) rfl ?_
  refine v_V1p (k_fitted1 hF hI (by unfold NR; exact hN) hT) lX8_124 (dec_of DX8_sung 13 rfl) rfl rfl (by decide) (nle rfl) rfl (fun w r hz => ?_)
  obtain ⟨rfl, m, g, hm, rfl, hr⟩ := hz
  rw [tl_s]
  have hm2 := fitM_r1 (F := F) (I := I) (by unfold NR; exact hN) hm
  refine v_get fX8_128 (dec_of DX8_sung 14 rfl) rfl rfl ?_
  refine v_astore (dec_of DX8_sung 15 rfl) (by decide) ?_
  dsimp only [List.set]
  refine v_aload (dec_of DX8_sung 16 rfl) rfl ?_
  refine v_iload_n (dec_of DX8_sung 17 rfl) rfl ?_
  refine v_V1r (c12_has (by simp only [uN_s]; omega) (by omega)) lX8_89 (dec_of DX8_sung 18 rfl) rfl rfl (by decide) (nle rfl) rfl ?_
  simp only [uN_s]
  refine vi_if_eq (tgt := 51) (dec_of DX8_sung 19 rfl) (by decide) (by first | omega | decide) (fun c38 => ?_) (fun c38 => ?_)
  · refine vi_bi (dec_of DX8_sung 25 rfl) (by decide) ?_
    exact vi_ret (dec_of DX8_sung 26 rfl) rfl ⟨by decide, by decide⟩ (⟨m, g, by first | rw [if_pos (by omega)] | rw [if_neg (by omega)], hm, rfl, hr⟩)
  · refine v_aload (dec_of DX8_sung 20 rfl) rfl ?_
    refine v_iload_n (dec_of DX8_sung 21 rfl) rfl ?_
    refine v_iload_n (dec_of DX8_sung 22 rfl) rfl ?_
    refine v_V2r (c12_get (by simp only [uN_s]; omega) (by simp only [uN_s]; omega) (by decide)) lX8_143 (dec_of DX8_sung 23 rfl) rfl rfl (by decide) (nle rfl) rfl ?_
    simp only [uN_s]
    refine v_goto (tgt := 53) (dec_of DX8_sung 24 rfl) (by decide) ?_
    exact vi_ret (dec_of DX8_sung 26 rfl) rfl ⟨by decide, by decide⟩ (⟨m, g, by first | rw [if_pos (by omega)] | rw [if_neg (by omega)], hm, rfl, hr⟩)
set_option maxRecDepth 100000 in
set_option maxHeartbeats 4000000 in
theorem x_sung1_1 {T : XW} {I N : Nat → Int} {F : Nat → Int → Int} (hF : FR F) (hI : IR I) (hN : NR N) (hT : 1 ≤ I 13 ∧ I 13 ≤ 8) {k : Int} (hk : -2147483648 ≤ k ∧ k < 2147483648) : Sp (rm 6 134 0 0) mX8_sung [.ref 0, J 1, J k, J 1] (cls I N F ++ T) (fun w r => ∃ (m : Int) (g : Int → Int), r = some (J (if 0 ≤ k ∧ k < m then g (k * 2 + 1) else -100)) ∧ m = (if 0 < N 11 then fitM (fitI I (F 11) (N 11) (I 13) 1) (N 11) else 0) ∧ w = cls (fitI I (F 11) (N 11) (I 13) 1) (uN N 12 m) (uN F 12 g) ++ T ∧ rowsOK (fitI I (F 11) (N 11) (I 13) 1) (N 11) m g) := by
  unfold NR at hN
  refine sp_of (ls := [some (.ref 0), some (J 1), some (J k), some (J 1), none]) (by decide) (nle rfl) rfl rfl ?_
  refine v_iload_n (dec_of DX8_sung 0 rfl) rfl ?_
  refine v_S1r (k_isHalf (by decide)) lX8_121 (dec_of DX8_sung 1 rfl) (by decide) (nle rfl) rfl ?_
  refine vi_if_eq (tgt := 16) (dec_of DX8_sung 2 rfl) (by decide) (by first | omega | decide) (fun c4 => absurd c4 (by omega)) (fun c4 => ?_)
  refine v_iload_n (dec_of DX8_sung 3 rfl) rfl ?_
  refine vi_if_lt (tgt := 16) (dec_of DX8_sung 4 rfl) (by decide) (by first | omega | decide) (fun c8 => absurd c8 (by omega)) (fun c8 => ?_)
  refine v_iload_n (dec_of DX8_sung 5 rfl) rfl ?_
  refine vi_const (dec_of DX8_sung 6 rfl) ?_
  refine vi_icmp_le (tgt := 19) (dec_of DX8_sung 7 rfl) (by decide) (by first | omega | decide) (by first | omega | decide) (fun c13 => ?_) (fun c13 => absurd c13 (by omega))
  refine v_aload_n (dec_of DX8_sung 10 rfl) rfl ?_
  refine v_get fX8_40 (dec_of DX8_sung 11 rfl) rfl rfl ?_
  refine v_iload_n (dec_of DX8_sung 12 rfl) rfl ?_
  refine v_V1p (k_fitted1 hF hI (by unfold NR; exact hN) hT) lX8_124 (dec_of DX8_sung 13 rfl) rfl rfl (by decide) (nle rfl) rfl (fun w r hz => ?_)
  obtain ⟨rfl, m, g, hm, rfl, hr⟩ := hz
  rw [tl_s]
  have hm2 := fitM_r1 (F := F) (I := I) (by unfold NR; exact hN) hm
  refine v_get fX8_128 (dec_of DX8_sung 14 rfl) rfl rfl ?_
  refine v_astore (dec_of DX8_sung 15 rfl) (by decide) ?_
  dsimp only [List.set]
  refine v_aload (dec_of DX8_sung 16 rfl) rfl ?_
  refine v_iload_n (dec_of DX8_sung 17 rfl) rfl ?_
  refine v_V1r (c12_has (by simp only [uN_s]; omega) (by omega)) lX8_89 (dec_of DX8_sung 18 rfl) rfl rfl (by decide) (nle rfl) rfl ?_
  simp only [uN_s]
  refine vi_if_eq (tgt := 51) (dec_of DX8_sung 19 rfl) (by decide) (by first | omega | decide) (fun c38 => ?_) (fun c38 => ?_)
  · refine vi_bi (dec_of DX8_sung 25 rfl) (by decide) ?_
    exact vi_ret (dec_of DX8_sung 26 rfl) rfl ⟨by decide, by decide⟩ (⟨m, g, by first | rw [if_pos (by omega)] | rw [if_neg (by omega)], hm, rfl, hr⟩)
  · refine v_aload (dec_of DX8_sung 20 rfl) rfl ?_
    refine v_iload_n (dec_of DX8_sung 21 rfl) rfl ?_
    refine v_iload_n (dec_of DX8_sung 22 rfl) rfl ?_
    refine v_V2r (c12_get (by simp only [uN_s]; omega) (by simp only [uN_s]; omega) (by decide)) lX8_143 (dec_of DX8_sung 23 rfl) rfl rfl (by decide) (nle rfl) rfl ?_
    simp only [uN_s]
    refine v_goto (tgt := 53) (dec_of DX8_sung 24 rfl) (by decide) ?_
    exact vi_ret (dec_of DX8_sung 26 rfl) rfl ⟨by decide, by decide⟩ (⟨m, g, by first | rw [if_pos (by omega)] | rw [if_neg (by omega)], hm, rfl, hr⟩)
set_option maxRecDepth 100000 in
set_option maxHeartbeats 4000000 in
theorem x_half_out {T : XW} {I N : Nat → Int} {F : Nat → Int → Int} (hF : FR F) (hI : IR I) (hN : NR N) {a b : Int} (ha : -2147483648 ≤ a ∧ a < 2147483648) (hb : -2147483648 ≤ b ∧ b < 2147483648) (h : ¬ ((a = 0 ∨ a = 1) ∧ 0 ≤ b ∧ b ≤ 3)) : Sd (rm 6 134 0 0) mX8_half [.ref 0, J a, J b] (cls I N F ++ T) (cls I N F ++ T) (some (J (-102))) := by
  unfold Sd
  unfold NR at hN
  refine sp_of (ls := [some (.ref 0), some (J a), some (J b), none]) (by decide) (nle rfl) rfl rfl ?_
  refine v_iload_n (dec_of DX8_half 0 rfl) rfl ?_
  refine v_S1r (k_isHalf (by omega)) lX8_121 (dec_of DX8_half 1 rfl) (by decide) (nle rfl) rfl ?_
  refine vi_if_eq (tgt := 16) (dec_of DX8_half 2 rfl) (by decide) (by first | omega | exact bnd_r _ _ | exact hF _ _ | exact hI _ | exact hG _ _ | exact hK _ | (simp [uN] <;> omega)) (fun c4 => ?_) (fun c4 => ?_)
  · refine vi_bi (dec_of DX8_half 8 rfl) (by decide) ?_
    exact vi_ret (dec_of DX8_half 9 rfl) rfl ⟨by decide, by decide⟩ (⟨rfl, rfl⟩)
  · refine v_iload_n (dec_of DX8_half 3 rfl) rfl ?_
    refine vi_if_lt (tgt := 16) (dec_of DX8_half 4 rfl) (by decide) (by first | omega | exact bnd_r _ _ | exact hF _ _ | exact hI _ | exact hG _ _ | exact hK _ | (simp [uN] <;> omega)) (fun c8 => ?_) (fun c8 => ?_)
    · refine vi_bi (dec_of DX8_half 8 rfl) (by decide) ?_
      exact vi_ret (dec_of DX8_half 9 rfl) rfl ⟨by decide, by decide⟩ (⟨rfl, rfl⟩)
    · refine v_iload_n (dec_of DX8_half 5 rfl) rfl ?_
      refine vi_const (dec_of DX8_half 6 rfl) ?_
      refine vi_icmp_le (tgt := 19) (dec_of DX8_half 7 rfl) (by decide) (by first | omega | exact bnd_r _ _ | exact hF _ _ | exact hI _ | exact hG _ _ | exact hK _ | (simp [uN] <;> omega)) (by first | omega | exact bnd_r _ _ | exact hF _ _ | exact hI _ | exact hG _ _ | exact hK _ | (simp [uN] <;> omega)) (fun c13 => ?_) (fun c13 => ?_)
      · exact absurd (show (a = 0 ∨ a = 1) ∧ 0 ≤ b ∧ b ≤ 3 by omega) h
      · refine vi_bi (dec_of DX8_half 8 rfl) (by decide) ?_
        exact vi_ret (dec_of DX8_half 9 rfl) rfl ⟨by decide, by decide⟩ (⟨rfl, rfl⟩)
set_option maxRecDepth 100000 in
set_option maxHeartbeats 4000000 in
theorem x_sung_out {T : XW} {I N : Nat → Int} {F : Nat → Int → Int} (hF : FR F) (hI : IR I) (hN : NR N) {a k b : Int} (ha : -2147483648 ≤ a ∧ a < 2147483648) (hb : -2147483648 ≤ b ∧ b < 2147483648) (h : ¬ ((a = 0 ∨ a = 1) ∧ 0 ≤ b ∧ b ≤ 1)) : Sd (rm 6 134 0 0) mX8_sung [.ref 0, J a, J k, J b] (cls I N F ++ T) (cls I N F ++ T) (some (J (-102))) := by
  unfold Sd
  unfold NR at hN
  refine sp_of (ls := [some (.ref 0), some (J a), some (J k), some (J b), none]) (by decide) (nle rfl) rfl rfl ?_
  refine v_iload_n (dec_of DX8_sung 0 rfl) rfl ?_
  refine v_S1r (k_isHalf (by omega)) lX8_121 (dec_of DX8_sung 1 rfl) (by decide) (nle rfl) rfl ?_
  refine vi_if_eq (tgt := 16) (dec_of DX8_sung 2 rfl) (by decide) (by first | omega | exact bnd_r _ _ | exact hF _ _ | exact hI _ | exact hG _ _ | exact hK _ | (simp [uN] <;> omega)) (fun c4 => ?_) (fun c4 => ?_)
  · refine vi_bi (dec_of DX8_sung 8 rfl) (by decide) ?_
    exact vi_ret (dec_of DX8_sung 9 rfl) rfl ⟨by decide, by decide⟩ (⟨rfl, rfl⟩)
  · refine v_iload_n (dec_of DX8_sung 3 rfl) rfl ?_
    refine vi_if_lt (tgt := 16) (dec_of DX8_sung 4 rfl) (by decide) (by first | omega | exact bnd_r _ _ | exact hF _ _ | exact hI _ | exact hG _ _ | exact hK _ | (simp [uN] <;> omega)) (fun c8 => ?_) (fun c8 => ?_)
    · refine vi_bi (dec_of DX8_sung 8 rfl) (by decide) ?_
      exact vi_ret (dec_of DX8_sung 9 rfl) rfl ⟨by decide, by decide⟩ (⟨rfl, rfl⟩)
    · refine v_iload_n (dec_of DX8_sung 5 rfl) rfl ?_
      refine vi_const (dec_of DX8_sung 6 rfl) ?_
      refine vi_icmp_le (tgt := 19) (dec_of DX8_sung 7 rfl) (by decide) (by first | omega | exact bnd_r _ _ | exact hF _ _ | exact hI _ | exact hG _ _ | exact hK _ | (simp [uN] <;> omega)) (by first | omega | exact bnd_r _ _ | exact hF _ _ | exact hI _ | exact hG _ _ | exact hK _ | (simp [uN] <;> omega)) (fun c13 => ?_) (fun c13 => ?_)
      · exact absurd (show (a = 0 ∨ a = 1) ∧ 0 ≤ b ∧ b ≤ 1 by omega) h
      · refine vi_bi (dec_of DX8_sung 8 rfl) (by decide) ?_
        exact vi_ret (dec_of DX8_sung 9 rfl) rfl ⟨by decide, by decide⟩ (⟨rfl, rfl⟩)
end
