section
-- ===== PART A: goes FIRST, ahead of the names: the tables' words, and 'selects' of the private methods out of them =====
/-- a private method of a class that the tables say can be made, by its rows of tables_1 -/
def lw_okq (q : MethodName × Nat) : Prop := (q.1.cls ≠ "java/lang/invoke/MethodHandle" ∧ q.1.cls ≠ "java/lang/invoke/VarHandle") ∧ Cond.instantiable q.1.cls q.2 ∈ tables_1 ∧ Cond.privateMethod q.1 ∈ tables_1 ∧ Cond.instanceMethod q.1 ∈ tables_1
theorem lw_p0 : lw_okq (⟨"ChooseOnce$Row", "cut", "(J)J"⟩, 3) := ⟨⟨by decide +kernel, by decide +kernel⟩, List.mem_of_getElem? (i := 259) (by decide +kernel), List.mem_of_getElem? (i := 348) (by decide +kernel), List.mem_of_getElem? (i := 349) (by decide +kernel)⟩
theorem lw_p1 : lw_okq (⟨"ChooseOnce$Book", "addPair", "(II)V"⟩, 4) := ⟨⟨by decide +kernel, by decide +kernel⟩, List.mem_of_getElem? (i := 83) (by decide +kernel), List.mem_of_getElem? (i := 364) (by decide +kernel), List.mem_of_getElem? (i := 365) (by decide +kernel)⟩
theorem lw_p2 : lw_okq (⟨"ChooseOnce", "isBook", "(I)Z"⟩, 9) := ⟨⟨by decide +kernel, by decide +kernel⟩, List.mem_of_getElem? (i := 18) (by decide +kernel), List.mem_of_getElem? (i := 372) (by decide +kernel), List.mem_of_getElem? (i := 373) (by decide +kernel)⟩
theorem lw_p3 : lw_okq (⟨"ChooseOnce$Comers", "follow", "([I)V"⟩, 10) := ⟨⟨by decide +kernel, by decide +kernel⟩, List.mem_of_getElem? (i := 71) (by decide +kernel), List.mem_of_getElem? (i := 423) (by decide +kernel), List.mem_of_getElem? (i := 424) (by decide +kernel)⟩
theorem lw_p4 : lw_okq (⟨"ChooseOnce$Comers", "choose", "(I)V"⟩, 10) := ⟨⟨by decide +kernel, by decide +kernel⟩, List.mem_of_getElem? (i := 71) (by decide +kernel), List.mem_of_getElem? (i := 500) (by decide +kernel), List.mem_of_getElem? (i := 501) (by decide +kernel)⟩
theorem lw_p5 : lw_okq (⟨"ChooseOnce$Comers", "chooseAt", "(LChooseOnce$Book;LChooseOnce$Natural;LChooseOnce$Natural;)I"⟩, 10) := ⟨⟨by decide +kernel, by decide +kernel⟩, List.mem_of_getElem? (i := 71) (by decide +kernel), List.mem_of_getElem? (i := 504) (by decide +kernel), List.mem_of_getElem? (i := 505) (by decide +kernel)⟩
theorem lw_p6 : lw_okq (⟨"ChooseOnce$Comers", "lowestBar", "(LChooseOnce$Book;LChooseOnce$Natural;LChooseOnce$Natural;)I"⟩, 10) := ⟨⟨by decide +kernel, by decide +kernel⟩, List.mem_of_getElem? (i := 71) (by decide +kernel), List.mem_of_getElem? (i := 508) (by decide +kernel), List.mem_of_getElem? (i := 509) (by decide +kernel)⟩
theorem lw_p7 : lw_okq (⟨"ChooseOnce$Comers", "foresee", "()V"⟩, 10) := ⟨⟨by decide +kernel, by decide +kernel⟩, List.mem_of_getElem? (i := 71) (by decide +kernel), List.mem_of_getElem? (i := 546) (by decide +kernel), List.mem_of_getElem? (i := 547) (by decide +kernel)⟩
theorem lw_p8 : lw_okq (⟨"ChooseOnce$Passing", "letOneLess", "(I)V"⟩, 5) := ⟨⟨by decide +kernel, by decide +kernel⟩, List.mem_of_getElem? (i := 146) (by decide +kernel), List.mem_of_getElem? (i := 593) (by decide +kernel), List.mem_of_getElem? (i := 594) (by decide +kernel)⟩
theorem lw_p9 : lw_okq (⟨"ChooseOnce$Ranking", "comeBackTo", "(II)V"⟩, 4) := ⟨⟨by decide +kernel, by decide +kernel⟩, List.mem_of_getElem? (i := 177) (by decide +kernel), List.mem_of_getElem? (i := 631) (by decide +kernel), List.mem_of_getElem? (i := 632) (by decide +kernel)⟩
theorem lw_p10 : lw_okq (⟨"ChooseOnce$Ranking", "goAhead", "(I)V"⟩, 4) := ⟨⟨by decide +kernel, by decide +kernel⟩, List.mem_of_getElem? (i := 177) (by decide +kernel), List.mem_of_getElem? (i := 637) (by decide +kernel), List.mem_of_getElem? (i := 638) (by decide +kernel)⟩
theorem lw_p11 : lw_okq (⟨"ChooseOnce$Ranking", "unseeNext", "(I)V"⟩, 4) := ⟨⟨by decide +kernel, by decide +kernel⟩, List.mem_of_getElem? (i := 177) (by decide +kernel), List.mem_of_getElem? (i := 644) (by decide +kernel), List.mem_of_getElem? (i := 645) (by decide +kernel)⟩
theorem lw_p12 : lw_okq (⟨"ChooseOnce$Happenings", "startAt", "(I)V"⟩, 6) := ⟨⟨by decide +kernel, by decide +kernel⟩, List.mem_of_getElem? (i := 198) (by decide +kernel), List.mem_of_getElem? (i := 685) (by decide +kernel), List.mem_of_getElem? (i := 686) (by decide +kernel)⟩
theorem lw_p13 : lw_okq (⟨"ChooseOnce$Boxes", "findFairBar", "(I)V"⟩, 8) := ⟨⟨by decide +kernel, by decide +kernel⟩, List.mem_of_getElem? (i := 225) (by decide +kernel), List.mem_of_getElem? (i := 705) (by decide +kernel), List.mem_of_getElem? (i := 706) (by decide +kernel)⟩
theorem lw_p14 : lw_okq (⟨"ChooseOnce$Boxes", "isAbove", "(JJI)Z"⟩, 8) := ⟨⟨by decide +kernel, by decide +kernel⟩, List.mem_of_getElem? (i := 225) (by decide +kernel), List.mem_of_getElem? (i := 714) (by decide +kernel), List.mem_of_getElem? (i := 715) (by decide +kernel)⟩
theorem lw_p15 : lw_okq (⟨"ChooseOnce$Boxes", "putInOrder", "(I)V"⟩, 8) := ⟨⟨by decide +kernel, by decide +kernel⟩, List.mem_of_getElem? (i := 225) (by decide +kernel), List.mem_of_getElem? (i := 718) (by decide +kernel), List.mem_of_getElem? (i := 719) (by decide +kernel)⟩
def lw_privs_1 : List (MethodName × Nat) := [(⟨"ChooseOnce$Row", "cut", "(J)J"⟩, 3), (⟨"ChooseOnce$Book", "addPair", "(II)V"⟩, 4), (⟨"ChooseOnce", "isBook", "(I)Z"⟩, 9), (⟨"ChooseOnce$Comers", "follow", "([I)V"⟩, 10), (⟨"ChooseOnce$Comers", "choose", "(I)V"⟩, 10), (⟨"ChooseOnce$Comers", "chooseAt", "(LChooseOnce$Book;LChooseOnce$Natural;LChooseOnce$Natural;)I"⟩, 10), (⟨"ChooseOnce$Comers", "lowestBar", "(LChooseOnce$Book;LChooseOnce$Natural;LChooseOnce$Natural;)I"⟩, 10), (⟨"ChooseOnce$Comers", "foresee", "()V"⟩, 10), (⟨"ChooseOnce$Passing", "letOneLess", "(I)V"⟩, 5), (⟨"ChooseOnce$Ranking", "comeBackTo", "(II)V"⟩, 4), (⟨"ChooseOnce$Ranking", "goAhead", "(I)V"⟩, 4), (⟨"ChooseOnce$Ranking", "unseeNext", "(I)V"⟩, 4), (⟨"ChooseOnce$Happenings", "startAt", "(I)V"⟩, 6), (⟨"ChooseOnce$Boxes", "findFairBar", "(I)V"⟩, 8), (⟨"ChooseOnce$Boxes", "isAbove", "(JJI)Z"⟩, 8), (⟨"ChooseOnce$Boxes", "putInOrder", "(I)V"⟩, 8)]
theorem lw_r1 : ∀ q ∈ lw_privs_1, lw_okq q := List.forall_mem_cons.mpr ⟨lw_p0, List.forall_mem_cons.mpr ⟨lw_p1, List.forall_mem_cons.mpr ⟨lw_p2, List.forall_mem_cons.mpr ⟨lw_p3, List.forall_mem_cons.mpr ⟨lw_p4, List.forall_mem_cons.mpr ⟨lw_p5, List.forall_mem_cons.mpr ⟨lw_p6, List.forall_mem_cons.mpr ⟨lw_p7, List.forall_mem_cons.mpr ⟨lw_p8, List.forall_mem_cons.mpr ⟨lw_p9, List.forall_mem_cons.mpr ⟨lw_p10, List.forall_mem_cons.mpr ⟨lw_p11, List.forall_mem_cons.mpr ⟨lw_p12, List.forall_mem_cons.mpr ⟨lw_p13, List.forall_mem_cons.mpr ⟨lw_p14, List.forall_mem_cons.mpr ⟨lw_p15, fun _ h => absurd h List.not_mem_nil⟩⟩⟩⟩⟩⟩⟩⟩⟩⟩⟩⟩⟩⟩⟩⟩
theorem lw_p16 : lw_okq (⟨"ChooseOnce$Boxes", "addGains", "(I)V"⟩, 8) := ⟨⟨by decide +kernel, by decide +kernel⟩, List.mem_of_getElem? (i := 225) (by decide +kernel), List.mem_of_getElem? (i := 766) (by decide +kernel), List.mem_of_getElem? (i := 767) (by decide +kernel)⟩
theorem lw_p17 : lw_okq (⟨"ChooseOnce$Boxes", "gainAbove", "(II)I"⟩, 8) := ⟨⟨by decide +kernel, by decide +kernel⟩, List.mem_of_getElem? (i := 225) (by decide +kernel), List.mem_of_getElem? (i := 770) (by decide +kernel), List.mem_of_getElem? (i := 771) (by decide +kernel)⟩
theorem lw_p18 : lw_okq (⟨"ChooseOnce", "rowsThere", "()I"⟩, 9) := ⟨⟨by decide +kernel, by decide +kernel⟩, List.mem_of_getElem? (i := 18) (by decide +kernel), List.mem_of_getElem? (i := 821) (by decide +kernel), List.mem_of_getElem? (i := 822) (by decide +kernel)⟩
theorem lw_p19 : lw_okq (⟨"ChooseOnceModel", "set", "(IJ)V"⟩, 21) := ⟨⟨by decide +kernel, by decide +kernel⟩, List.mem_of_getElem? (i := 825) (by decide +kernel), List.mem_of_getElem? (i := 832) (by decide +kernel), List.mem_of_getElem? (i := 833) (by decide +kernel)⟩
theorem lw_p20 : lw_okq (⟨"ChooseOnceModel", "carry", "(I)V"⟩, 21) := ⟨⟨by decide +kernel, by decide +kernel⟩, List.mem_of_getElem? (i := 825) (by decide +kernel), List.mem_of_getElem? (i := 836) (by decide +kernel), List.mem_of_getElem? (i := 837) (by decide +kernel)⟩
theorem lw_p21 : lw_okq (⟨"ChooseOnceModel", "isBook", "(I)Z"⟩, 21) := ⟨⟨by decide +kernel, by decide +kernel⟩, List.mem_of_getElem? (i := 825) (by decide +kernel), List.mem_of_getElem? (i := 933) (by decide +kernel), List.mem_of_getElem? (i := 934) (by decide +kernel)⟩
theorem lw_p22 : lw_okq (⟨"ChooseOnceModel", "worthOf", "(I)V"⟩, 21) := ⟨⟨by decide +kernel, by decide +kernel⟩, List.mem_of_getElem? (i := 825) (by decide +kernel), List.mem_of_getElem? (i := 949) (by decide +kernel), List.mem_of_getElem? (i := 950) (by decide +kernel)⟩
theorem lw_p23 : lw_okq (⟨"ChooseOnceModel", "weightOf", "(III)I"⟩, 21) := ⟨⟨by decide +kernel, by decide +kernel⟩, List.mem_of_getElem? (i := 825) (by decide +kernel), List.mem_of_getElem? (i := 953) (by decide +kernel), List.mem_of_getElem? (i := 954) (by decide +kernel)⟩
theorem lw_p24 : lw_okq (⟨"ChooseOnceModel", "times", "(IJ)V"⟩, 21) := ⟨⟨by decide +kernel, by decide +kernel⟩, List.mem_of_getElem? (i := 825) (by decide +kernel), List.mem_of_getElem? (i := 957) (by decide +kernel), List.mem_of_getElem? (i := 958) (by decide +kernel)⟩
theorem lw_p25 : lw_okq (⟨"ChooseOnceModel", "more", "(IIJ)V"⟩, 21) := ⟨⟨by decide +kernel, by decide +kernel⟩, List.mem_of_getElem? (i := 825) (by decide +kernel), List.mem_of_getElem? (i := 961) (by decide +kernel), List.mem_of_getElem? (i := 962) (by decide +kernel)⟩
theorem lw_p26 : lw_okq (⟨"ChooseOnceModel", "copy", "(II)V"⟩, 21) := ⟨⟨by decide +kernel, by decide +kernel⟩, List.mem_of_getElem? (i := 825) (by decide +kernel), List.mem_of_getElem? (i := 965) (by decide +kernel), List.mem_of_getElem? (i := 966) (by decide +kernel)⟩
theorem lw_p27 : lw_okq (⟨"ChooseOnceModel", "result", "(II)V"⟩, 21) := ⟨⟨by decide +kernel, by decide +kernel⟩, List.mem_of_getElem? (i := 825) (by decide +kernel), List.mem_of_getElem? (i := 969) (by decide +kernel), List.mem_of_getElem? (i := 970) (by decide +kernel)⟩
theorem lw_p28 : lw_okq (⟨"ChooseOnceModel", "isZero", "(I)Z"⟩, 21) := ⟨⟨by decide +kernel, by decide +kernel⟩, List.mem_of_getElem? (i := 825) (by decide +kernel), List.mem_of_getElem? (i := 974) (by decide +kernel), List.mem_of_getElem? (i := 975) (by decide +kernel)⟩
theorem lw_p29 : lw_okq (⟨"ChooseOnceModel", "isEven", "(I)Z"⟩, 21) := ⟨⟨by decide +kernel, by decide +kernel⟩, List.mem_of_getElem? (i := 825) (by decide +kernel), List.mem_of_getElem? (i := 978) (by decide +kernel), List.mem_of_getElem? (i := 979) (by decide +kernel)⟩
theorem lw_p30 : lw_okq (⟨"ChooseOnceModel", "over", "(IJ)V"⟩, 21) := ⟨⟨by decide +kernel, by decide +kernel⟩, List.mem_of_getElem? (i := 825) (by decide +kernel), List.mem_of_getElem? (i := 982) (by decide +kernel), List.mem_of_getElem? (i := 983) (by decide +kernel)⟩
theorem lw_p31 : lw_okq (⟨"ChooseOnceModel", "compared", "(II)I"⟩, 21) := ⟨⟨by decide +kernel, by decide +kernel⟩, List.mem_of_getElem? (i := 825) (by decide +kernel), List.mem_of_getElem? (i := 986) (by decide +kernel), List.mem_of_getElem? (i := 987) (by decide +kernel)⟩
def lw_privs_2 : List (MethodName × Nat) := [(⟨"ChooseOnce$Boxes", "addGains", "(I)V"⟩, 8), (⟨"ChooseOnce$Boxes", "gainAbove", "(II)I"⟩, 8), (⟨"ChooseOnce", "rowsThere", "()I"⟩, 9), (⟨"ChooseOnceModel", "set", "(IJ)V"⟩, 21), (⟨"ChooseOnceModel", "carry", "(I)V"⟩, 21), (⟨"ChooseOnceModel", "isBook", "(I)Z"⟩, 21), (⟨"ChooseOnceModel", "worthOf", "(I)V"⟩, 21), (⟨"ChooseOnceModel", "weightOf", "(III)I"⟩, 21), (⟨"ChooseOnceModel", "times", "(IJ)V"⟩, 21), (⟨"ChooseOnceModel", "more", "(IIJ)V"⟩, 21), (⟨"ChooseOnceModel", "copy", "(II)V"⟩, 21), (⟨"ChooseOnceModel", "result", "(II)V"⟩, 21), (⟨"ChooseOnceModel", "isZero", "(I)Z"⟩, 21), (⟨"ChooseOnceModel", "isEven", "(I)Z"⟩, 21), (⟨"ChooseOnceModel", "over", "(IJ)V"⟩, 21), (⟨"ChooseOnceModel", "compared", "(II)I"⟩, 21)]
theorem lw_r2 : ∀ q ∈ lw_privs_2, lw_okq q := List.forall_mem_cons.mpr ⟨lw_p16, List.forall_mem_cons.mpr ⟨lw_p17, List.forall_mem_cons.mpr ⟨lw_p18, List.forall_mem_cons.mpr ⟨lw_p19, List.forall_mem_cons.mpr ⟨lw_p20, List.forall_mem_cons.mpr ⟨lw_p21, List.forall_mem_cons.mpr ⟨lw_p22, List.forall_mem_cons.mpr ⟨lw_p23, List.forall_mem_cons.mpr ⟨lw_p24, List.forall_mem_cons.mpr ⟨lw_p25, List.forall_mem_cons.mpr ⟨lw_p26, List.forall_mem_cons.mpr ⟨lw_p27, List.forall_mem_cons.mpr ⟨lw_p28, List.forall_mem_cons.mpr ⟨lw_p29, List.forall_mem_cons.mpr ⟨lw_p30, List.forall_mem_cons.mpr ⟨lw_p31, fun _ h => absurd h List.not_mem_nil⟩⟩⟩⟩⟩⟩⟩⟩⟩⟩⟩⟩⟩⟩⟩⟩
theorem lw_p32 : lw_okq (⟨"ChooseOnceModel", "parted", "(II)V"⟩, 21) := ⟨⟨by decide +kernel, by decide +kernel⟩, List.mem_of_getElem? (i := 825) (by decide +kernel), List.mem_of_getElem? (i := 990) (by decide +kernel), List.mem_of_getElem? (i := 991) (by decide +kernel)⟩
theorem lw_p33 : lw_okq (⟨"ChooseOnceModel", "bestFrom", "()V"⟩, 21) := ⟨⟨by decide +kernel, by decide +kernel⟩, List.mem_of_getElem? (i := 825) (by decide +kernel), List.mem_of_getElem? (i := 999) (by decide +kernel), List.mem_of_getElem? (i := 1000) (by decide +kernel)⟩
theorem lw_p34 : lw_okq (⟨"ChooseOnceModel", "foresees", "()V"⟩, 21) := ⟨⟨by decide +kernel, by decide +kernel⟩, List.mem_of_getElem? (i := 825) (by decide +kernel), List.mem_of_getElem? (i := 1016) (by decide +kernel), List.mem_of_getElem? (i := 1017) (by decide +kernel)⟩
theorem lw_p35 : lw_okq (⟨"ChooseOnceModel", "multiple", "(II)V"⟩, 21) := ⟨⟨by decide +kernel, by decide +kernel⟩, List.mem_of_getElem? (i := 825) (by decide +kernel), List.mem_of_getElem? (i := 1028) (by decide +kernel), List.mem_of_getElem? (i := 1029) (by decide +kernel)⟩
theorem lw_p36 : lw_okq (⟨"ChooseOnceModel", "lets", "(II)V"⟩, 21) := ⟨⟨by decide +kernel, by decide +kernel⟩, List.mem_of_getElem? (i := 825) (by decide +kernel), List.mem_of_getElem? (i := 1035) (by decide +kernel), List.mem_of_getElem? (i := 1036) (by decide +kernel)⟩
theorem lw_p37 : lw_okq (⟨"ChooseOnceModel", "goesOn", "(I)V"⟩, 21) := ⟨⟨by decide +kernel, by decide +kernel⟩, List.mem_of_getElem? (i := 825) (by decide +kernel), List.mem_of_getElem? (i := 1051) (by decide +kernel), List.mem_of_getElem? (i := 1052) (by decide +kernel)⟩
theorem lw_p38 : lw_okq (⟨"ChooseOnceModel", "yesOf", "(III)V"⟩, 21) := ⟨⟨by decide +kernel, by decide +kernel⟩, List.mem_of_getElem? (i := 825) (by decide +kernel), List.mem_of_getElem? (i := 1055) (by decide +kernel), List.mem_of_getElem? (i := 1056) (by decide +kernel)⟩
theorem lw_p39 : lw_okq (⟨"ChooseOnceModel", "placeOf", "(I)I"⟩, 21) := ⟨⟨by decide +kernel, by decide +kernel⟩, List.mem_of_getElem? (i := 825) (by decide +kernel), List.mem_of_getElem? (i := 1094) (by decide +kernel), List.mem_of_getElem? (i := 1095) (by decide +kernel)⟩
theorem lw_p40 : lw_okq (⟨"ChooseOnceModel", "bare", "()V"⟩, 21) := ⟨⟨by decide +kernel, by decide +kernel⟩, List.mem_of_getElem? (i := 825) (by decide +kernel), List.mem_of_getElem? (i := 1102) (by decide +kernel), List.mem_of_getElem? (i := 1103) (by decide +kernel)⟩
theorem lw_p41 : lw_okq (⟨"ChooseOnceModel", "sign", "()I"⟩, 21) := ⟨⟨by decide +kernel, by decide +kernel⟩, List.mem_of_getElem? (i := 825) (by decide +kernel), List.mem_of_getElem? (i := 1106) (by decide +kernel), List.mem_of_getElem? (i := 1107) (by decide +kernel)⟩
theorem lw_p42 : lw_okq (⟨"ChooseOnceModel", "manyParts", "(I)I"⟩, 21) := ⟨⟨by decide +kernel, by decide +kernel⟩, List.mem_of_getElem? (i := 825) (by decide +kernel), List.mem_of_getElem? (i := 1110) (by decide +kernel), List.mem_of_getElem? (i := 1111) (by decide +kernel)⟩
def lw_privs_3 : List (MethodName × Nat) := [(⟨"ChooseOnceModel", "parted", "(II)V"⟩, 21), (⟨"ChooseOnceModel", "bestFrom", "()V"⟩, 21), (⟨"ChooseOnceModel", "foresees", "()V"⟩, 21), (⟨"ChooseOnceModel", "multiple", "(II)V"⟩, 21), (⟨"ChooseOnceModel", "lets", "(II)V"⟩, 21), (⟨"ChooseOnceModel", "goesOn", "(I)V"⟩, 21), (⟨"ChooseOnceModel", "yesOf", "(III)V"⟩, 21), (⟨"ChooseOnceModel", "placeOf", "(I)I"⟩, 21), (⟨"ChooseOnceModel", "bare", "()V"⟩, 21), (⟨"ChooseOnceModel", "sign", "()I"⟩, 21), (⟨"ChooseOnceModel", "manyParts", "(I)I"⟩, 21)]
theorem lw_r3 : ∀ q ∈ lw_privs_3, lw_okq q := List.forall_mem_cons.mpr ⟨lw_p32, List.forall_mem_cons.mpr ⟨lw_p33, List.forall_mem_cons.mpr ⟨lw_p34, List.forall_mem_cons.mpr ⟨lw_p35, List.forall_mem_cons.mpr ⟨lw_p36, List.forall_mem_cons.mpr ⟨lw_p37, List.forall_mem_cons.mpr ⟨lw_p38, List.forall_mem_cons.mpr ⟨lw_p39, List.forall_mem_cons.mpr ⟨lw_p40, List.forall_mem_cons.mpr ⟨lw_p41, List.forall_mem_cons.mpr ⟨lw_p42, fun _ h => absurd h List.not_mem_nil⟩⟩⟩⟩⟩⟩⟩⟩⟩⟩⟩
def lw_privs : List (MethodName × Nat) := lw_privs_1 ++ (lw_privs_2 ++ (lw_privs_3))
def lw_tbl : List Cond := k2_sels lw_privs ++ tables_1
theorem lw_privs_ok : ∀ q ∈ lw_privs, lw_okq q := by
  show ∀ q ∈ lw_privs_1 ++ (lw_privs_2 ++ (lw_privs_3)), lw_okq q
  exact List.forall_mem_append.mpr ⟨lw_r1, List.forall_mem_append.mpr ⟨lw_r2, lw_r3⟩⟩
end
section
/-! ===== BEGIN words of one list among another's, by their places ===== -/
theorem goodIn_r {big : List Cond} (ws : List Cond) (ps : List Nat) (hp : ws = ps.filterMap (fun i => big[i]?)) (h : ws.all goodWord = true) : GoodIn big ws := by
  intro w hw
  have h1 := List.all_eq_true.mp h w hw
  rw [hp] at hw
  obtain ⟨i, -, hi⟩ := List.mem_filterMap.mp hw
  have hm : w ∈ big := by first | exact List.mem_of_getElem? hi | exact List.getElem?_mem hi
  exact ⟨hm, good_of_word h1⟩
theorem goodIn_app {big a b : List Cond} (ha : GoodIn big a) (hb : GoodIn big b) : GoodIn big (a ++ b) := fun w h => (List.mem_append.mp h).elim (ha w) (hb w)
theorem goodIn_ca {big a b : List Cond} {c : Cond} (ha : GoodIn big (c :: a)) (hb : GoodIn big b) : GoodIn big (c :: (a ++ b)) := fun w h => (List.mem_cons.mp h).elim (fun e => ha w (List.mem_cons.mpr (Or.inl e))) (fun h => (List.mem_append.mp h).elim (fun h => ha w (List.mem_cons.mpr (Or.inr h))) (hb w))
theorem goodIn_sub {big ws : List Cond} (hm : ∀ w ∈ ws, w ∈ big) (h : ws.all goodWord = true) : GoodIn big ws := fun w hw => ⟨hm w hw, good_of_word (List.all_eq_true.mp h w hw)⟩
/-! ===== END ===== -/

/-! ===== BEGIN printed: names, fields, word lists, decode rows ===== -/
def RX0 : String := "ChooseOnce$Book"
def TX0 : u_T := fun k => match k with
  | 0 => ("ChooseOnce$Book", "worths", "[I", true)
  | 1 => ("ChooseOnce$Book", "weights", "[I", true)
  | 2 => ("ChooseOnce$Book", "size", "I", false)
  | _ => ("ChooseOnce$Book", "total", "I", false)
def tyX0 : Nat → FieldType := fun k => match k with
  | 0 => .array .int
  | 1 => .array .int
  | 2 => .int
  | _ => .int
abbrev wsX00 : List Cond := u_ws RX0 TX0 4
theorem nmX0 : ∀ a, a < 4 → ∀ b, b < 4 → a ≠ b → (TX0 a).2.1 ≠ (TX0 b).2.1 := by decide +kernel
theorem tyX0_ok : ∀ k, k < 4 → parseFieldDescriptor (TX0 k).2.2.1 = some (tyX0 k) := by decide +kernel
abbrev cX0_init : ByteArray := prog_2_method_1_code
def yX0_init : MethodName := ⟨RX0, "<init>", "()V"⟩
abbrev cX0_readFrom : ByteArray := prog_2_method_2_code
def yX0_readFrom : MethodName := ⟨RX0, "readFrom", "(LChooseOnce$Row;)I"⟩
abbrev cX0_addPair : ByteArray := prog_2_method_3_code
def yX0_addPair : MethodName := ⟨RX0, "addPair", "(II)V"⟩
abbrev cX0_total : ByteArray := prog_2_method_4_code
def yX0_total : MethodName := ⟨RX0, "total", "()I"⟩
abbrev cX0_below : ByteArray := prog_2_method_5_code
def yX0_below : MethodName := ⟨RX0, "below", "(I)I"⟩
abbrev cX0_gathered : ByteArray := prog_2_method_6_code
def yX0_gathered : MethodName := ⟨RX0, "gathered", "(I)I"⟩
abbrev cX0_leastFrom : ByteArray := prog_2_method_7_code
def yX0_leastFrom : MethodName := ⟨RX0, "leastFrom", "(I)I"⟩
def RX1 : String := "ChooseOnce$Boxes"
def TX1 : u_T := fun k => match k with
  | 0 => ("ChooseOnce$Boxes", "all", "LChooseOnce$Crowd;", true)
  | 1 => ("ChooseOnce$Boxes", "opened", "LChooseOnce$Crowd;", true)
  | 2 => ("ChooseOnce$Boxes", "prices", "[I", true)
  | 3 => ("ChooseOnce$Boxes", "fairTops", "[I", true)
  | 4 => ("ChooseOnce$Boxes", "fairBottoms", "[I", true)
  | 5 => ("ChooseOnce$Boxes", "order", "[I", true)
  | 6 => ("ChooseOnce$Boxes", "sum", "LChooseOnce$Natural;", true)
  | _ => ("ChooseOnce$Boxes", "ways", "LChooseOnce$Natural;", true)
def tyX1 : Nat → FieldType := fun k => match k with
  | 0 => .object "ChooseOnce$Crowd"
  | 1 => .object "ChooseOnce$Crowd"
  | 2 => .array .int
  | 3 => .array .int
  | 4 => .array .int
  | 5 => .array .int
  | 6 => .object "ChooseOnce$Natural"
  | _ => .object "ChooseOnce$Natural"
abbrev wsX10 : List Cond := u_ws RX1 TX1 8
theorem nmX1 : ∀ a, a < 8 → ∀ b, b < 8 → a ≠ b → (TX1 a).2.1 ≠ (TX1 b).2.1 := by decide +kernel
theorem tyX1_ok : ∀ k, k < 8 → parseFieldDescriptor (TX1 k).2.2.1 = some (tyX1 k) := by decide +kernel
abbrev cX1_init : ByteArray := prog_3_method_1_code
def yX1_init : MethodName := ⟨RX1, "<init>", "()V"⟩
abbrev cX1_size : ByteArray := prog_3_method_2_code
def yX1_size : MethodName := ⟨RX1, "size", "()I"⟩
abbrev cX1_join : ByteArray := prog_3_method_3_code
def yX1_join : MethodName := ⟨RX1, "join", "(LChooseOnce$Book;I)I"⟩
abbrev cX1_clear : ByteArray := prog_3_method_4_code
def yX1_clear : MethodName := ⟨RX1, "clear", "()I"⟩
abbrev cX1_findFairBar : ByteArray := prog_3_method_5_code
def yX1_findFairBar : MethodName := ⟨RX1, "findFairBar", "(I)V"⟩
abbrev cX1_isAbove : ByteArray := prog_3_method_6_code
def yX1_isAbove : MethodName := ⟨RX1, "isAbove", "(JJI)Z"⟩
abbrev cX1_putInOrder : ByteArray := prog_3_method_7_code
def yX1_putInOrder : MethodName := ⟨RX1, "putInOrder", "(I)V"⟩
abbrev cX1_fairBarInto : ByteArray := prog_3_method_8_code
def yX1_fairBarInto : MethodName := ⟨RX1, "fairBarInto", "(ILChooseOnce$Result;)V"⟩
abbrev cX1_searchInto : ByteArray := prog_3_method_9_code
def yX1_searchInto : MethodName := ⟨RX1, "searchInto", "(LChooseOnce$Result;)V"⟩
abbrev cX1_addGains : ByteArray := prog_3_method_10_code
def yX1_addGains : MethodName := ⟨RX1, "addGains", "(I)V"⟩
abbrev cX1_gainAbove : ByteArray := prog_3_method_11_code
def yX1_gainAbove : MethodName := ⟨RX1, "gainAbove", "(II)I"⟩
def RX2 : String := "ChooseOnce$Comers"
def TX2 : u_T := fun k => match k with
  | 0 => ("ChooseOnce$Comers", "crowd", "LChooseOnce$Crowd;", true)
  | 1 => ("ChooseOnce$Comers", "toldBars", "[I", true)
  | 2 => ("ChooseOnce$Comers", "bestBars", "[I", true)
  | 3 => ("ChooseOnce$Comers", "evenBars", "[I", true)
  | 4 => ("ChooseOnce$Comers", "means", "[LChooseOnce$Natural;", true)
  | 5 => ("ChooseOnce$Comers", "mean", "LChooseOnce$Natural;", true)
  | 6 => ("ChooseOnce$Comers", "all", "LChooseOnce$Natural;", true)
  | 7 => ("ChooseOnce$Comers", "trial", "LChooseOnce$Natural;", true)
  | 8 => ("ChooseOnce$Comers", "before", "LChooseOnce$Natural;", true)
  | _ => ("ChooseOnce$Comers", "foreseen", "LChooseOnce$Natural;", true)
def tyX2 : Nat → FieldType := fun k => match k with
  | 0 => .object "ChooseOnce$Crowd"
  | 1 => .array .int
  | 2 => .array .int
  | 3 => .array .int
  | 4 => .array (.object "ChooseOnce$Natural")
  | 5 => .object "ChooseOnce$Natural"
  | 6 => .object "ChooseOnce$Natural"
  | 7 => .object "ChooseOnce$Natural"
  | 8 => .object "ChooseOnce$Natural"
  | _ => .object "ChooseOnce$Natural"
abbrev wsX20 : List Cond := u_ws RX2 TX2 10
theorem nmX2 : ∀ a, a < 10 → ∀ b, b < 10 → a ≠ b → (TX2 a).2.1 ≠ (TX2 b).2.1 := by decide +kernel
theorem tyX2_ok : ∀ k, k < 10 → parseFieldDescriptor (TX2 k).2.2.1 = some (tyX2 k) := by decide +kernel
abbrev cX2_init : ByteArray := prog_4_method_1_code
def yX2_init : MethodName := ⟨RX2, "<init>", "()V"⟩
abbrev cX2_size : ByteArray := prog_4_method_2_code
def yX2_size : MethodName := ⟨RX2, "size", "()I"⟩
abbrev cX2_join : ByteArray := prog_4_method_3_code
def yX2_join : MethodName := ⟨RX2, "join", "(LChooseOnce$Book;)I"⟩
abbrev cX2_clear : ByteArray := prog_4_method_4_code
def yX2_clear : MethodName := ⟨RX2, "clear", "()I"⟩
abbrev cX2_setBar : ByteArray := prog_4_method_5_code
def yX2_setBar : MethodName := ⟨RX2, "setBar", "(II)V"⟩
abbrev cX2_followTold : ByteArray := prog_4_method_6_code
def yX2_followTold : MethodName := ⟨RX2, "followTold", "(LChooseOnce$Result;)V"⟩
abbrev cX2_follow : ByteArray := prog_4_method_7_code
def yX2_follow : MethodName := ⟨RX2, "follow", "([I)V"⟩
abbrev cX2_chooseUpTo : ByteArray := prog_4_method_8_code
def yX2_chooseUpTo : MethodName := ⟨RX2, "chooseUpTo", "(ILChooseOnce$Result;)V"⟩
abbrev cX2_bestBar : ByteArray := prog_4_method_9_code
def yX2_bestBar : MethodName := ⟨RX2, "bestBar", "(I)I"⟩
abbrev cX2_choose : ByteArray := prog_4_method_10_code
def yX2_choose : MethodName := ⟨RX2, "choose", "(I)V"⟩
abbrev cX2_chooseAt : ByteArray := prog_4_method_11_code
def yX2_chooseAt : MethodName := ⟨RX2, "chooseAt", "(LChooseOnce$Book;LChooseOnce$Natural;LChooseOnce$Natural;)I"⟩
abbrev cX2_lowestBar : ByteArray := prog_4_method_12_code
def yX2_lowestBar : MethodName := ⟨RX2, "lowestBar", "(LChooseOnce$Book;LChooseOnce$Natural;LChooseOnce$Natural;)I"⟩
abbrev cX2_foreseeInto : ByteArray := prog_4_method_13_code
def yX2_foreseeInto : MethodName := ⟨RX2, "foreseeInto", "(LChooseOnce$Result;)V"⟩
abbrev cX2_foresee : ByteArray := prog_4_method_14_code
def yX2_foresee : MethodName := ⟨RX2, "foresee", "()V"⟩
abbrev cX2_lowestBarForHalf : ByteArray := prog_4_method_15_code
def yX2_lowestBarForHalf : MethodName := ⟨RX2, "lowestBarForHalf", "()I"⟩
def RX3 : String := "ChooseOnce$Crowd"
def TX3 : u_T := fun k => match k with
  | 0 => ("ChooseOnce$Crowd", "blank", "LChooseOnce$Book;", true)
  | 1 => ("ChooseOnce$Crowd", "books", "[LChooseOnce$Book;", true)
  | _ => ("ChooseOnce$Crowd", "size", "I", false)
def tyX3 : Nat → FieldType := fun k => match k with
  | 0 => .object "ChooseOnce$Book"
  | 1 => .array (.object "ChooseOnce$Book")
  | _ => .int
abbrev wsX30 : List Cond := u_ws RX3 TX3 3
theorem nmX3 : ∀ a, a < 3 → ∀ b, b < 3 → a ≠ b → (TX3 a).2.1 ≠ (TX3 b).2.1 := by decide +kernel
theorem tyX3_ok : ∀ k, k < 3 → parseFieldDescriptor (TX3 k).2.2.1 = some (tyX3 k) := by decide +kernel
abbrev cX3_init : ByteArray := prog_5_method_1_code
def yX3_init : MethodName := ⟨RX3, "<init>", "()V"⟩
abbrev cX3_size : ByteArray := prog_5_method_2_code
def yX3_size : MethodName := ⟨RX3, "size", "()I"⟩
abbrev cX3_clear : ByteArray := prog_5_method_3_code
def yX3_clear : MethodName := ⟨RX3, "clear", "()V"⟩
abbrev cX3_join : ByteArray := prog_5_method_4_code
def yX3_join : MethodName := ⟨RX3, "join", "(LChooseOnce$Book;)V"⟩
abbrev cX3_at : ByteArray := prog_5_method_5_code
def yX3_at : MethodName := ⟨RX3, "at", "(I)LChooseOnce$Book;"⟩
abbrev cX3_leastFrom : ByteArray := prog_5_method_6_code
def yX3_leastFrom : MethodName := ⟨RX3, "leastFrom", "(I)I"⟩
abbrev cX3_waysUpTo : ByteArray := prog_5_method_7_code
def yX3_waysUpTo : MethodName := ⟨RX3, "waysUpTo", "(ILChooseOnce$Natural;)V"⟩
abbrev cX3_divide : ByteArray := prog_5_method_8_code
def yX3_divide : MethodName := ⟨RX3, "divide", "(LChooseOnce$Natural;LChooseOnce$Result;)V"⟩
def RX4 : String := "ChooseOnce$Happenings"
def TX4 : u_T := fun k => match k with
  | 0 => ("ChooseOnce$Happenings", "tops", "[I", true)
  | 1 => ("ChooseOnce$Happenings", "bottoms", "[I", true)
  | 2 => ("ChooseOnce$Happenings", "size", "I", false)
  | 3 => ("ChooseOnce$Happenings", "win", "LChooseOnce$Natural;", true)
  | 4 => ("ChooseOnce$Happenings", "quiet", "LChooseOnce$Natural;", true)
  | _ => ("ChooseOnce$Happenings", "most", "LChooseOnce$Natural;", true)
def tyX4 : Nat → FieldType := fun k => match k with
  | 0 => .array .int
  | 1 => .array .int
  | 2 => .int
  | 3 => .object "ChooseOnce$Natural"
  | 4 => .object "ChooseOnce$Natural"
  | _ => .object "ChooseOnce$Natural"
abbrev wsX40 : List Cond := u_ws RX4 TX4 6
theorem nmX4 : ∀ a, a < 6 → ∀ b, b < 6 → a ≠ b → (TX4 a).2.1 ≠ (TX4 b).2.1 := by decide +kernel
theorem tyX4_ok : ∀ k, k < 6 → parseFieldDescriptor (TX4 k).2.2.1 = some (tyX4 k) := by decide +kernel
abbrev cX4_init : ByteArray := prog_6_method_1_code
def yX4_init : MethodName := ⟨RX4, "<init>", "()V"⟩
abbrev cX4_size : ByteArray := prog_6_method_2_code
def yX4_size : MethodName := ⟨RX4, "size", "()I"⟩
abbrev cX4_join : ByteArray := prog_6_method_3_code
def yX4_join : MethodName := ⟨RX4, "join", "(II)I"⟩
abbrev cX4_clear : ByteArray := prog_6_method_4_code
def yX4_clear : MethodName := ⟨RX4, "clear", "()I"⟩
abbrev cX4_bestStart : ByteArray := prog_6_method_5_code
def yX4_bestStart : MethodName := ⟨RX4, "bestStart", "(LChooseOnce$Result;)I"⟩
abbrev cX4_startAt : ByteArray := prog_6_method_6_code
def yX4_startAt : MethodName := ⟨RX4, "startAt", "(I)V"⟩
def RX5 : String := "ChooseOnce$Natural"
def TX5 : u_T := fun k => match k with
  | _ => ("ChooseOnce$Natural", "parts", "[I", true)
def tyX5 : Nat → FieldType := fun k => match k with
  | _ => .array .int
abbrev wsX50 : List Cond := u_ws RX5 TX5 1
theorem nmX5 : ∀ a, a < 1 → ∀ b, b < 1 → a ≠ b → (TX5 a).2.1 ≠ (TX5 b).2.1 := by decide +kernel
theorem tyX5_ok : ∀ k, k < 1 → parseFieldDescriptor (TX5 k).2.2.1 = some (tyX5 k) := by decide +kernel
abbrev cX5_init : ByteArray := prog_7_method_1_code
def yX5_init : MethodName := ⟨RX5, "<init>", "()V"⟩
abbrev cX5_put : ByteArray := prog_7_method_2_code
def yX5_put : MethodName := ⟨RX5, "put", "(J)V"⟩
abbrev cX5_copy : ByteArray := prog_7_method_3_code
def yX5_copy : MethodName := ⟨RX5, "copy", "(LChooseOnce$Natural;)V"⟩
abbrev cX5_times : ByteArray := prog_7_method_4_code
def yX5_times : MethodName := ⟨RX5, "times", "(J)V"⟩
abbrev cX5_addTimes : ByteArray := prog_7_method_5_code
def yX5_addTimes : MethodName := ⟨RX5, "addTimes", "(LChooseOnce$Natural;J)V"⟩
abbrev cX5_takeTimes : ByteArray := prog_7_method_6_code
def yX5_takeTimes : MethodName := ⟨RX5, "takeTimes", "(LChooseOnce$Natural;J)V"⟩
abbrev cX5_divide : ByteArray := prog_7_method_7_code
def yX5_divide : MethodName := ⟨RX5, "divide", "(I)V"⟩
abbrev cX5_rest : ByteArray := prog_7_method_8_code
def yX5_rest : MethodName := ⟨RX5, "rest", "(I)I"⟩
abbrev cX5_against : ByteArray := prog_7_method_9_code
def yX5_against : MethodName := ⟨RX5, "against", "(LChooseOnce$Natural;)I"⟩
abbrev cX5_isZero : ByteArray := prog_7_method_10_code
def yX5_isZero : MethodName := ⟨RX5, "isZero", "()Z"⟩
abbrev cX5_partCount : ByteArray := prog_7_method_11_code
def yX5_partCount : MethodName := ⟨RX5, "partCount", "()I"⟩
abbrev cX5_partAt : ByteArray := prog_7_method_12_code
def yX5_partAt : MethodName := ⟨RX5, "partAt", "(I)I"⟩
def RX6 : String := "ChooseOnce$Passing"
def TX6 : u_T := fun k => match k with
  | 0 => ("ChooseOnce$Passing", "whole", "LChooseOnce$Natural;", true)
  | 1 => ("ChooseOnce$Passing", "share", "LChooseOnce$Natural;", true)
  | 2 => ("ChooseOnce$Passing", "shares", "LChooseOnce$Natural;", true)
  | 3 => ("ChooseOnce$Passing", "wins", "LChooseOnce$Natural;", true)
  | _ => ("ChooseOnce$Passing", "most", "LChooseOnce$Natural;", true)
def tyX6 : Nat → FieldType := fun k => match k with
  | 0 => .object "ChooseOnce$Natural"
  | 1 => .object "ChooseOnce$Natural"
  | 2 => .object "ChooseOnce$Natural"
  | 3 => .object "ChooseOnce$Natural"
  | _ => .object "ChooseOnce$Natural"
abbrev wsX60 : List Cond := u_ws RX6 TX6 5
theorem nmX6 : ∀ a, a < 5 → ∀ b, b < 5 → a ≠ b → (TX6 a).2.1 ≠ (TX6 b).2.1 := by decide +kernel
theorem tyX6_ok : ∀ k, k < 5 → parseFieldDescriptor (TX6 k).2.2.1 = some (tyX6 k) := by decide +kernel
abbrev cX6_init : ByteArray := prog_8_method_1_code
def yX6_init : MethodName := ⟨RX6, "<init>", "()V"⟩
abbrev cX6_winLetting : ByteArray := prog_8_method_2_code
def yX6_winLetting : MethodName := ⟨RX6, "winLetting", "(IILChooseOnce$Result;)V"⟩
abbrev cX6_bestToLet : ByteArray := prog_8_method_3_code
def yX6_bestToLet : MethodName := ⟨RX6, "bestToLet", "(I)I"⟩
abbrev cX6_letOneLess : ByteArray := prog_8_method_4_code
def yX6_letOneLess : MethodName := ⟨RX6, "letOneLess", "(I)V"⟩
def RX7 : String := "ChooseOnce$Ranking"
def TX7 : u_T := fun k => match k with
  | 0 => ("ChooseOnce$Ranking", "pays", "[I", true)
  | 1 => ("ChooseOnce$Ranking", "yeses", "[LChooseOnce$Natural;", true)
  | 2 => ("ChooseOnce$Ranking", "no", "LChooseOnce$Natural;", true)
  | _ => ("ChooseOnce$Ranking", "sum", "LChooseOnce$Natural;", true)
def tyX7 : Nat → FieldType := fun k => match k with
  | 0 => .array .int
  | 1 => .array (.object "ChooseOnce$Natural")
  | 2 => .object "ChooseOnce$Natural"
  | _ => .object "ChooseOnce$Natural"
abbrev wsX70 : List Cond := u_ws RX7 TX7 4
theorem nmX7 : ∀ a, a < 4 → ∀ b, b < 4 → a ≠ b → (TX7 a).2.1 ≠ (TX7 b).2.1 := by decide +kernel
theorem tyX7_ok : ∀ k, k < 4 → parseFieldDescriptor (TX7 k).2.2.1 = some (tyX7 k) := by decide +kernel
abbrev cX7_init : ByteArray := prog_9_method_1_code
def yX7_init : MethodName := ⟨RX7, "<init>", "()V"⟩
abbrev cX7_setPay : ByteArray := prog_9_method_2_code
def yX7_setPay : MethodName := ⟨RX7, "setPay", "(II)V"⟩
abbrev cX7_meanInto : ByteArray := prog_9_method_3_code
def yX7_meanInto : MethodName := ⟨RX7, "meanInto", "(ILChooseOnce$Result;)V"⟩
abbrev cX7_isTaken : ByteArray := prog_9_method_4_code
def yX7_isTaken : MethodName := ⟨RX7, "isTaken", "(III)Z"⟩
abbrev cX7_comeBackTo : ByteArray := prog_9_method_5_code
def yX7_comeBackTo : MethodName := ⟨RX7, "comeBackTo", "(II)V"⟩
abbrev cX7_goAhead : ByteArray := prog_9_method_6_code
def yX7_goAhead : MethodName := ⟨RX7, "goAhead", "(I)V"⟩
abbrev cX7_unseeNext : ByteArray := prog_9_method_7_code
def yX7_unseeNext : MethodName := ⟨RX7, "unseeNext", "(I)V"⟩
def RX8 : String := "ChooseOnce$Result"
def TX8 : u_T := fun k => match k with
  | 0 => ("ChooseOnce$Result", "top", "LChooseOnce$Natural;", true)
  | 1 => ("ChooseOnce$Result", "bottom", "LChooseOnce$Natural;", true)
  | 2 => ("ChooseOnce$Result", "left", "LChooseOnce$Natural;", true)
  | 3 => ("ChooseOnce$Result", "right", "LChooseOnce$Natural;", true)
  | _ => ("ChooseOnce$Result", "sign", "I", false)
def tyX8 : Nat → FieldType := fun k => match k with
  | 0 => .object "ChooseOnce$Natural"
  | 1 => .object "ChooseOnce$Natural"
  | 2 => .object "ChooseOnce$Natural"
  | 3 => .object "ChooseOnce$Natural"
  | _ => .int
abbrev wsX80 : List Cond := u_ws RX8 TX8 5
theorem nmX8 : ∀ a, a < 5 → ∀ b, b < 5 → a ≠ b → (TX8 a).2.1 ≠ (TX8 b).2.1 := by decide +kernel
theorem tyX8_ok : ∀ k, k < 5 → parseFieldDescriptor (TX8 k).2.2.1 = some (tyX8 k) := by decide +kernel
abbrev cX8_init : ByteArray := prog_10_method_1_code
def yX8_init : MethodName := ⟨RX8, "<init>", "()V"⟩
abbrev cX8_put : ByteArray := prog_10_method_2_code
def yX8_put : MethodName := ⟨RX8, "put", "(LChooseOnce$Natural;)V"⟩
abbrev cX8_putSmall : ByteArray := prog_10_method_3_code
def yX8_putSmall : MethodName := ⟨RX8, "putSmall", "(II)V"⟩
abbrev cX8_over : ByteArray := prog_10_method_4_code
def yX8_over : MethodName := ⟨RX8, "over", "(I)V"⟩
abbrev cX8_commonDivisor : ByteArray := prog_10_method_5_code
def yX8_commonDivisor : MethodName := ⟨RX8, "commonDivisor", "(II)I"⟩
abbrev cX8_sign : ByteArray := prog_10_method_6_code
def yX8_sign : MethodName := ⟨RX8, "sign", "()I"⟩
abbrev cX8_digits : ByteArray := prog_10_method_7_code
def yX8_digits : MethodName := ⟨RX8, "digits", "(Z)LChooseOnce$Natural;"⟩
abbrev cX8_against : ByteArray := prog_10_method_8_code
def yX8_against : MethodName := ⟨RX8, "against", "(II)I"⟩
def RX9 : String := "ChooseOnce$Row"
def TX9 : u_T := fun k => match k with
  | 0 => ("ChooseOnce$Row", "numbers", "[J", true)
  | 1 => ("ChooseOnce$Row", "width", "I", false)
  | _ => ("ChooseOnce$Row", "length", "I", false)
def tyX9 : Nat → FieldType := fun k => match k with
  | 0 => .array .long
  | 1 => .int
  | _ => .int
abbrev wsX90 : List Cond := u_ws RX9 TX9 3
theorem nmX9 : ∀ a, a < 3 → ∀ b, b < 3 → a ≠ b → (TX9 a).2.1 ≠ (TX9 b).2.1 := by decide +kernel
theorem tyX9_ok : ∀ k, k < 3 → parseFieldDescriptor (TX9 k).2.2.1 = some (tyX9 k) := by decide +kernel
abbrev cX9_init : ByteArray := prog_11_method_1_code
def yX9_init : MethodName := ⟨RX9, "<init>", "()V"⟩
abbrev cX9_isThere : ByteArray := prog_11_method_2_code
def yX9_isThere : MethodName := ⟨RX9, "isThere", "()Z"⟩
abbrev cX9_lay : ByteArray := prog_11_method_3_code
def yX9_lay : MethodName := ⟨RX9, "lay", "(II)V"⟩
abbrev cX9_remove : ByteArray := prog_11_method_4_code
def yX9_remove : MethodName := ⟨RX9, "remove", "()V"⟩
abbrev cX9_put : ByteArray := prog_11_method_5_code
def yX9_put : MethodName := ⟨RX9, "put", "(IJ)Z"⟩
abbrev cX9_cut : ByteArray := prog_11_method_6_code
def yX9_cut : MethodName := ⟨RX9, "cut", "(J)J"⟩
abbrev cX9_read : ByteArray := prog_11_method_7_code
def yX9_read : MethodName := ⟨RX9, "read", "(III)I"⟩
def RX10 : String := "ChooseOnce"
def TX10 : u_T := fun k => match k with
  | 0 => ("ChooseOnce", "rows", "[LChooseOnce$Row;", true)
  | 1 => ("ChooseOnce", "books", "[LChooseOnce$Book;", true)
  | 2 => ("ChooseOnce", "bookCount", "I", false)
  | 3 => ("ChooseOnce", "result", "LChooseOnce$Result;", true)
  | 4 => ("ChooseOnce", "comers", "LChooseOnce$Comers;", true)
  | 5 => ("ChooseOnce", "passing", "LChooseOnce$Passing;", true)
  | 6 => ("ChooseOnce", "ranking", "LChooseOnce$Ranking;", true)
  | 7 => ("ChooseOnce", "happenings", "LChooseOnce$Happenings;", true)
  | _ => ("ChooseOnce", "boxes", "LChooseOnce$Boxes;", true)
def tyX10 : Nat → FieldType := fun k => match k with
  | 0 => .array (.object "ChooseOnce$Row")
  | 1 => .array (.object "ChooseOnce$Book")
  | 2 => .int
  | 3 => .object "ChooseOnce$Result"
  | 4 => .object "ChooseOnce$Comers"
  | 5 => .object "ChooseOnce$Passing"
  | 6 => .object "ChooseOnce$Ranking"
  | 7 => .object "ChooseOnce$Happenings"
  | _ => .object "ChooseOnce$Boxes"
abbrev wsX100 : List Cond := u_ws RX10 TX10 9
theorem nmX10 : ∀ a, a < 9 → ∀ b, b < 9 → a ≠ b → (TX10 a).2.1 ≠ (TX10 b).2.1 := by decide +kernel
theorem tyX10_ok : ∀ k, k < 9 → parseFieldDescriptor (TX10 k).2.2.1 = some (tyX10 k) := by decide +kernel
abbrev cX10_init : ByteArray := prog_1_method_1_code
def yX10_init : MethodName := ⟨RX10, "<init>", "()V"⟩
abbrev cX10_row : ByteArray := prog_1_method_2_code
def yX10_row : MethodName := ⟨RX10, "row", "(III)I"⟩
abbrev cX10_tear : ByteArray := prog_1_method_3_code
def yX10_tear : MethodName := ⟨RX10, "tear", "(I)Z"⟩
abbrev cX10_write : ByteArray := prog_1_method_4_code
def yX10_write : MethodName := ⟨RX10, "write", "(IIJ)I"⟩
abbrev cX10_book : ByteArray := prog_1_method_5_code
def yX10_book : MethodName := ⟨RX10, "book", "(I)I"⟩
abbrev cX10_comer : ByteArray := prog_1_method_6_code
def yX10_comer : MethodName := ⟨RX10, "comer", "(I)I"⟩
abbrev cX10_dismiss : ByteArray := prog_1_method_7_code
def yX10_dismiss : MethodName := ⟨RX10, "dismiss", "()I"⟩
abbrev cX10_tell : ByteArray := prog_1_method_8_code
def yX10_tell : MethodName := ⟨RX10, "tell", "(II)Z"⟩
abbrev cX10_told : ByteArray := prog_1_method_9_code
def yX10_told : MethodName := ⟨RX10, "told", "()V"⟩
abbrev cX10_best : ByteArray := prog_1_method_10_code
def yX10_best : MethodName := ⟨RX10, "best", "()V"⟩
abbrev cX10_bar : ByteArray := prog_1_method_11_code
def yX10_bar : MethodName := ⟨RX10, "bar", "(I)I"⟩
abbrev cX10_few : ByteArray := prog_1_method_12_code
def yX10_few : MethodName := ⟨RX10, "few", "(I)Z"⟩
abbrev cX10_foresight : ByteArray := prog_1_method_13_code
def yX10_foresight : MethodName := ⟨RX10, "foresight", "()V"⟩
abbrev cX10_half : ByteArray := prog_1_method_14_code
def yX10_half : MethodName := ⟨RX10, "half", "()I"⟩
abbrev cX10_letting : ByteArray := prog_1_method_15_code
def yX10_letting : MethodName := ⟨RX10, "letting", "(II)Z"⟩
abbrev cX10_pass : ByteArray := prog_1_method_16_code
def yX10_pass : MethodName := ⟨RX10, "pass", "(I)I"⟩
abbrev cX10_pay : ByteArray := prog_1_method_17_code
def yX10_pay : MethodName := ⟨RX10, "pay", "(II)Z"⟩
abbrev cX10_ranks : ByteArray := prog_1_method_18_code
def yX10_ranks : MethodName := ⟨RX10, "ranks", "(I)Z"⟩
abbrev cX10_yes : ByteArray := prog_1_method_19_code
def yX10_yes : MethodName := ⟨RX10, "yes", "(III)I"⟩
abbrev cX10_happen : ByteArray := prog_1_method_20_code
def yX10_happen : MethodName := ⟨RX10, "happen", "(II)I"⟩
abbrev cX10_forget : ByteArray := prog_1_method_21_code
def yX10_forget : MethodName := ⟨RX10, "forget", "()I"⟩
abbrev cX10_last : ByteArray := prog_1_method_22_code
def yX10_last : MethodName := ⟨RX10, "last", "()I"⟩
abbrev cX10_box : ByteArray := prog_1_method_23_code
def yX10_box : MethodName := ⟨RX10, "box", "(II)I"⟩
abbrev cX10_empty : ByteArray := prog_1_method_24_code
def yX10_empty : MethodName := ⟨RX10, "empty", "()I"⟩
abbrev cX10_fair : ByteArray := prog_1_method_25_code
def yX10_fair : MethodName := ⟨RX10, "fair", "(I)Z"⟩
abbrev cX10_search : ByteArray := prog_1_method_26_code
def yX10_search : MethodName := ⟨RX10, "search", "()V"⟩
abbrev cX10_look : ByteArray := prog_1_method_27_code
def yX10_look : MethodName := ⟨RX10, "look", "(I)I"⟩
abbrev cX10_part : ByteArray := prog_1_method_28_code
def yX10_part : MethodName := ⟨RX10, "part", "(ZI)I"⟩
abbrev cX10_compare : ByteArray := prog_1_method_29_code
def yX10_compare : MethodName := ⟨RX10, "compare", "(II)I"⟩
abbrev cX10_count : ByteArray := prog_1_method_30_code
def yX10_count : MethodName := ⟨RX10, "count", "(I)I"⟩
abbrev cX10_rowsThere : ByteArray := prog_1_method_31_code
def yX10_rowsThere : MethodName := ⟨RX10, "rowsThere", "()I"⟩
abbrev cX10_isBook : ByteArray := prog_1_method_32_code
def yX10_isBook : MethodName := ⟨RX10, "isBook", "(I)Z"⟩
abbrev cX10_isSlot : ByteArray := prog_1_method_33_code
def yX10_isSlot : MethodName := ⟨RX10, "isSlot", "(I)Z"⟩
abbrev cX10_isWithin : ByteArray := prog_1_method_34_code
def yX10_isWithin : MethodName := ⟨RX10, "isWithin", "(JJJ)Z"⟩
def RX11 : String := "ChooseOnceModel"
def TX11 : u_T := fun k => match k with
  | 0 => ("ChooseOnceModel", "n", "[J", true)
  | 1 => ("ChooseOnceModel", "ends", "[I", true)
  | 2 => ("ChooseOnceModel", "widths", "[I", true)
  | 3 => ("ChooseOnceModel", "numbers", "[J", true)
  | 4 => ("ChooseOnceModel", "books", "I", false)
  | 5 => ("ChooseOnceModel", "pairs", "[I", true)
  | 6 => ("ChooseOnceModel", "worth", "[I", true)
  | 7 => ("ChooseOnceModel", "weight", "[I", true)
  | 8 => ("ChooseOnceModel", "sum", "[I", true)
  | 9 => ("ChooseOnceModel", "comers", "I", false)
  | 10 => ("ChooseOnceModel", "comer", "[I", true)
  | 11 => ("ChooseOnceModel", "bars", "[I", true)
  | 12 => ("ChooseOnceModel", "pays", "[I", true)
  | 13 => ("ChooseOnceModel", "happenings", "I", false)
  | 14 => ("ChooseOnceModel", "happenA", "[I", true)
  | 15 => ("ChooseOnceModel", "happenB", "[I", true)
  | 16 => ("ChooseOnceModel", "boxes", "I", false)
  | 17 => ("ChooseOnceModel", "box", "[I", true)
  | 18 => ("ChooseOnceModel", "price", "[I", true)
  | 19 => ("ChooseOnceModel", "had", "[I", true)
  | _ => ("ChooseOnceModel", "hads", "I", false)
def tyX11 : Nat → FieldType := fun k => match k with
  | 0 => .array .long
  | 1 => .array .int
  | 2 => .array .int
  | 3 => .array .long
  | 4 => .int
  | 5 => .array .int
  | 6 => .array .int
  | 7 => .array .int
  | 8 => .array .int
  | 9 => .int
  | 10 => .array .int
  | 11 => .array .int
  | 12 => .array .int
  | 13 => .int
  | 14 => .array .int
  | 15 => .array .int
  | 16 => .int
  | 17 => .array .int
  | 18 => .array .int
  | 19 => .array .int
  | _ => .int
abbrev wsX110 : List Cond := u_ws RX11 TX11 21
theorem nmX11 : ∀ a, a < 21 → ∀ b, b < 21 → a ≠ b → (TX11 a).2.1 ≠ (TX11 b).2.1 := by decide +kernel
theorem tyX11_ok : ∀ k, k < 21 → parseFieldDescriptor (TX11 k).2.2.1 = some (tyX11 k) := by decide +kernel
abbrev cX11_init : ByteArray := prog_13_method_1_code
def yX11_init : MethodName := ⟨RX11, "<init>", "()V"⟩
abbrev cX11_carry : ByteArray := prog_13_method_2_code
def yX11_carry : MethodName := ⟨RX11, "carry", "(I)V"⟩
abbrev cX11_set : ByteArray := prog_13_method_3_code
def yX11_set : MethodName := ⟨RX11, "set", "(IJ)V"⟩
abbrev cX11_copy : ByteArray := prog_13_method_4_code
def yX11_copy : MethodName := ⟨RX11, "copy", "(II)V"⟩
abbrev cX11_more : ByteArray := prog_13_method_5_code
def yX11_more : MethodName := ⟨RX11, "more", "(IIJ)V"⟩
abbrev cX11_times : ByteArray := prog_13_method_6_code
def yX11_times : MethodName := ⟨RX11, "times", "(IJ)V"⟩
abbrev cX11_over : ByteArray := prog_13_method_7_code
def yX11_over : MethodName := ⟨RX11, "over", "(IJ)V"⟩
abbrev cX11_compared : ByteArray := prog_13_method_8_code
def yX11_compared : MethodName := ⟨RX11, "compared", "(II)I"⟩
abbrev cX11_isZero : ByteArray := prog_13_method_9_code
def yX11_isZero : MethodName := ⟨RX11, "isZero", "(I)Z"⟩
abbrev cX11_isEven : ByteArray := prog_13_method_10_code
def yX11_isEven : MethodName := ⟨RX11, "isEven", "(I)Z"⟩
abbrev cX11_parted : ByteArray := prog_13_method_11_code
def yX11_parted : MethodName := ⟨RX11, "parted", "(II)V"⟩
abbrev cX11_result : ByteArray := prog_13_method_12_code
def yX11_result : MethodName := ⟨RX11, "result", "(II)V"⟩
abbrev cX11_isSlot : ByteArray := prog_13_method_13_code
def yX11_isSlot : MethodName := ⟨RX11, "isSlot", "(I)Z"⟩
abbrev cX11_row : ByteArray := prog_13_method_14_code
def yX11_row : MethodName := ⟨RX11, "row", "(III)I"⟩
abbrev cX11_tear : ByteArray := prog_13_method_15_code
def yX11_tear : MethodName := ⟨RX11, "tear", "(I)Z"⟩
abbrev cX11_write : ByteArray := prog_13_method_16_code
def yX11_write : MethodName := ⟨RX11, "write", "(IIJ)I"⟩
abbrev cX11_book : ByteArray := prog_13_method_17_code
def yX11_book : MethodName := ⟨RX11, "book", "(I)I"⟩
abbrev cX11_isBook : ByteArray := prog_13_method_18_code
def yX11_isBook : MethodName := ⟨RX11, "isBook", "(I)Z"⟩
abbrev cX11_weightOf : ByteArray := prog_13_method_19_code
def yX11_weightOf : MethodName := ⟨RX11, "weightOf", "(III)I"⟩
abbrev cX11_comer : ByteArray := prog_13_method_20_code
def yX11_comer : MethodName := ⟨RX11, "comer", "(I)I"⟩
abbrev cX11_dismiss : ByteArray := prog_13_method_21_code
def yX11_dismiss : MethodName := ⟨RX11, "dismiss", "()I"⟩
abbrev cX11_tell : ByteArray := prog_13_method_22_code
def yX11_tell : MethodName := ⟨RX11, "tell", "(II)Z"⟩
abbrev cX11_worthOf : ByteArray := prog_13_method_23_code
def yX11_worthOf : MethodName := ⟨RX11, "worthOf", "(I)V"⟩
abbrev cX11_told : ByteArray := prog_13_method_24_code
def yX11_told : MethodName := ⟨RX11, "told", "()V"⟩
abbrev cX11_bestFrom : ByteArray := prog_13_method_25_code
def yX11_bestFrom : MethodName := ⟨RX11, "bestFrom", "()V"⟩
abbrev cX11_best : ByteArray := prog_13_method_26_code
def yX11_best : MethodName := ⟨RX11, "best", "()V"⟩
abbrev cX11_bar : ByteArray := prog_13_method_27_code
def yX11_bar : MethodName := ⟨RX11, "bar", "(I)I"⟩
abbrev cX11_few : ByteArray := prog_13_method_28_code
def yX11_few : MethodName := ⟨RX11, "few", "(I)Z"⟩
abbrev cX11_foresees : ByteArray := prog_13_method_29_code
def yX11_foresees : MethodName := ⟨RX11, "foresees", "()V"⟩
abbrev cX11_foresight : ByteArray := prog_13_method_30_code
def yX11_foresight : MethodName := ⟨RX11, "foresight", "()V"⟩
abbrev cX11_half : ByteArray := prog_13_method_31_code
def yX11_half : MethodName := ⟨RX11, "half", "()I"⟩
abbrev cX11_common : ByteArray := prog_13_method_32_code
def yX11_common : MethodName := ⟨RX11, "common", "(II)I"⟩
abbrev cX11_multiple : ByteArray := prog_13_method_33_code
def yX11_multiple : MethodName := ⟨RX11, "multiple", "(II)V"⟩
abbrev cX11_lets : ByteArray := prog_13_method_34_code
def yX11_lets : MethodName := ⟨RX11, "lets", "(II)V"⟩
abbrev cX11_letting : ByteArray := prog_13_method_35_code
def yX11_letting : MethodName := ⟨RX11, "letting", "(II)Z"⟩
abbrev cX11_pass : ByteArray := prog_13_method_36_code
def yX11_pass : MethodName := ⟨RX11, "pass", "(I)I"⟩
abbrev cX11_pay : ByteArray := prog_13_method_37_code
def yX11_pay : MethodName := ⟨RX11, "pay", "(II)Z"⟩
abbrev cX11_choose : ByteArray := prog_13_method_38_code
def yX11_choose : MethodName := ⟨RX11, "choose", "(II)J"⟩
abbrev cX11_yesOf : ByteArray := prog_13_method_39_code
def yX11_yesOf : MethodName := ⟨RX11, "yesOf", "(III)V"⟩
abbrev cX11_goesOn : ByteArray := prog_13_method_40_code
def yX11_goesOn : MethodName := ⟨RX11, "goesOn", "(I)V"⟩
abbrev cX11_ranks : ByteArray := prog_13_method_41_code
def yX11_ranks : MethodName := ⟨RX11, "ranks", "(I)Z"⟩
abbrev cX11_yes : ByteArray := prog_13_method_42_code
def yX11_yes : MethodName := ⟨RX11, "yes", "(III)I"⟩
abbrev cX11_happen : ByteArray := prog_13_method_43_code
def yX11_happen : MethodName := ⟨RX11, "happen", "(II)I"⟩
abbrev cX11_forget : ByteArray := prog_13_method_44_code
def yX11_forget : MethodName := ⟨RX11, "forget", "()I"⟩
abbrev cX11_last : ByteArray := prog_13_method_45_code
def yX11_last : MethodName := ⟨RX11, "last", "()I"⟩
abbrev cX11_box : ByteArray := prog_13_method_46_code
def yX11_box : MethodName := ⟨RX11, "box", "(II)I"⟩
abbrev cX11_empty : ByteArray := prog_13_method_47_code
def yX11_empty : MethodName := ⟨RX11, "empty", "()I"⟩
abbrev cX11_fair : ByteArray := prog_13_method_48_code
def yX11_fair : MethodName := ⟨RX11, "fair", "(I)Z"⟩
abbrev cX11_placeOf : ByteArray := prog_13_method_49_code
def yX11_placeOf : MethodName := ⟨RX11, "placeOf", "(I)I"⟩
abbrev cX11_search : ByteArray := prog_13_method_50_code
def yX11_search : MethodName := ⟨RX11, "search", "()V"⟩
abbrev cX11_sign : ByteArray := prog_13_method_51_code
def yX11_sign : MethodName := ⟨RX11, "sign", "()I"⟩
abbrev cX11_manyParts : ByteArray := prog_13_method_52_code
def yX11_manyParts : MethodName := ⟨RX11, "manyParts", "(I)I"⟩
abbrev cX11_bare : ByteArray := prog_13_method_53_code
def yX11_bare : MethodName := ⟨RX11, "bare", "()V"⟩
abbrev cX11_look : ByteArray := prog_13_method_54_code
def yX11_look : MethodName := ⟨RX11, "look", "(I)I"⟩
abbrev cX11_part : ByteArray := prog_13_method_55_code
def yX11_part : MethodName := ⟨RX11, "part", "(ZI)I"⟩
abbrev cX11_compare : ByteArray := prog_13_method_56_code
def yX11_compare : MethodName := ⟨RX11, "compare", "(II)I"⟩
abbrev cX11_count : ByteArray := prog_13_method_57_code
def yX11_count : MethodName := ⟨RX11, "count", "(I)I"⟩
def RJ6 : String := "java/lang/Integer"
def TJ6 : u_T := fun k => match k with
  | _ => ("", "", "", false)
def tyJ6 : Nat → FieldType := fun k => match k with
  | _ => .int
abbrev wsJ60 : List Cond := u_ws RJ6 TJ6 0
theorem nmJ6 : ∀ a, a < 0 → ∀ b, b < 0 → a ≠ b → (TJ6 a).2.1 ≠ (TJ6 b).2.1 := by decide +kernel
theorem tyJ6_ok : ∀ k, k < 0 → parseFieldDescriptor (TJ6 k).2.2.1 = some (tyJ6 k) := by decide +kernel
abbrev cJ6_compare_7cf53 : ByteArray := prog_14_method_40_code
def yJ6_compare_7cf53 : MethodName := ⟨RJ6, "compare", "(II)I"⟩
def RJ9 : String := "java/lang/Math"
def TJ9 : u_T := fun k => match k with
  | _ => ("", "", "", false)
def tyJ9 : Nat → FieldType := fun k => match k with
  | _ => .int
abbrev wsJ90 : List Cond := u_ws RJ9 TJ9 0
theorem nmJ9 : ∀ a, a < 0 → ∀ b, b < 0 → a ≠ b → (TJ9 a).2.1 ≠ (TJ9 b).2.1 := by decide +kernel
theorem tyJ9_ok : ∀ k, k < 0 → parseFieldDescriptor (TJ9 k).2.2.1 = some (tyJ9 k) := by decide +kernel
abbrev cJ9_floorDiv_f86c9 : ByteArray := prog_15_method_49_code
def yJ9_floorDiv_f86c9 : MethodName := ⟨RJ9, "floorDiv", "(JJ)J"⟩
abbrev cJ9_floorMod_f86c9 : ByteArray := prog_15_method_52_code
def yJ9_floorMod_f86c9 : MethodName := ⟨RJ9, "floorMod", "(JJ)J"⟩
abbrev cJ9_abs_067f4 : ByteArray := prog_15_method_61_code
def yJ9_abs_067f4 : MethodName := ⟨RJ9, "abs", "(J)J"⟩
abbrev cJ9_max_7cf53 : ByteArray := prog_15_method_65_code
def yJ9_max_7cf53 : MethodName := ⟨RJ9, "max", "(II)I"⟩
abbrev cJ9_max_f86c9 : ByteArray := prog_15_method_66_code
def yJ9_max_f86c9 : MethodName := ⟨RJ9, "max", "(JJ)J"⟩
abbrev cJ9_min_7cf53 : ByteArray := prog_15_method_69_code
def yJ9_min_7cf53 : MethodName := ⟨RJ9, "min", "(II)I"⟩
def RJ10 : String := "java/lang/System"
def TJ10 : u_T := fun k => match k with
  | _ => ("", "", "", false)
def tyJ10 : Nat → FieldType := fun k => match k with
  | _ => .int
abbrev wsJ100 : List Cond := u_ws RJ10 TJ10 0
theorem nmJ10 : ∀ a, a < 0 → ∀ b, b < 0 → a ≠ b → (TJ10 a).2.1 ≠ (TJ10 b).2.1 := by decide +kernel
theorem tyJ10_ok : ∀ k, k < 0 → parseFieldDescriptor (TJ10 k).2.2.1 = some (tyJ10 k) := by decide +kernel
def RJ7 : String := "java/util/Arrays"
def TJ7 : u_T := fun k => match k with
  | _ => ("", "", "", false)
def tyJ7 : Nat → FieldType := fun k => match k with
  | _ => .int
abbrev wsJ70 : List Cond := u_ws RJ7 TJ7 0
theorem nmJ7 : ∀ a, a < 0 → ∀ b, b < 0 → a ≠ b → (TJ7 a).2.1 ≠ (TJ7 b).2.1 := by decide +kernel
theorem tyJ7_ok : ∀ k, k < 0 → parseFieldDescriptor (TJ7 k).2.2.1 = some (tyJ7 k) := by decide +kernel
abbrev cJ7_fill_d0a16 : ByteArray := prog_17_method_101_code
def yJ7_fill_d0a16 : MethodName := ⟨RJ7, "fill", "([JJ)V"⟩
abbrev cJ7_fill_53178 : ByteArray := prog_17_method_103_code
def yJ7_fill_53178 : MethodName := ⟨RJ7, "fill", "([II)V"⟩
def RL : String := "ChooseOnceLaw"
abbrev cL_law : ByteArray := code
def yL_law : MethodName := ⟨RL, "law", "([I)Z"⟩
abbrev vwCl : List vw_C := [(RX0, TX0, 4), (RX1, TX1, 8), (RX2, TX2, 10), (RX3, TX3, 3), (RX4, TX4, 6), (RX5, TX5, 1), (RX6, TX6, 5), (RX7, TX7, 4), (RX8, TX8, 5), (RX9, TX9, 3), (RX10, TX10, 9), (RX11, TX11, 21)]
end
section
def wsX0_init : List Cond := .code yX0_init cX0_init 1 none :: ([.methodLink RX0 3 objectInit, .instanceMethod objectInit, .code objectInit ⟨#[0xb1]⟩ 1 none, .arrayClass .int, .fieldLink RX0 9 "ChooseOnce$Book" "worths" "[I", .fieldLink RX0 15 "ChooseOnce$Book" "weights" "[I", .fieldLink RX0 18 "ChooseOnce$Book" "size" "I", .fieldLink RX0 22 "ChooseOnce$Book" "total" "I"] ++ wsX00)
def wsX10_isWithin : List Cond := .code yX10_isWithin cX10_isWithin 6 (some .boolean) :: ([])
def wsX9_read : List Cond := .code yX9_read cX9_read 4 (some .int) :: ([.fieldLink RX9 19 "ChooseOnce$Row" "length" "I", .fieldLink RX9 9 "ChooseOnce$Row" "numbers" "[J", .static yX10_isWithin, .initialized RX10, .code yX10_isWithin cX10_isWithin 6 (some .boolean)] ++ wsX90)
def wsX0_addPair : List Cond := .code yX0_addPair cX0_addPair 5 none :: ([.fieldLink RX0 18 "ChooseOnce$Book" "size" "I", .fieldLink RX0 22 "ChooseOnce$Book" "total" "I", .fieldLink RX0 9 "ChooseOnce$Book" "worths" "[I", .fieldLink RX0 15 "ChooseOnce$Book" "weights" "[I"] ++ wsX00)
def wsX0_readFrom : List Cond := .code yX0_readFrom cX0_readFrom 6 (some .int) :: ([.fieldLink RX0 18 "ChooseOnce$Book" "size" "I", .fieldLink RX0 22 "ChooseOnce$Book" "total" "I", .methodLink RX0 25 yX9_read, .instanceMethod yX9_read, .selects RX9 yX9_read yX9_read, .initialized RX9, .code yX9_read cX9_read 4 (some .int), .fieldLink RX9 19 "ChooseOnce$Row" "length" "I", .fieldLink RX9 9 "ChooseOnce$Row" "numbers" "[J", .static yX10_isWithin, .initialized RX10, .code yX10_isWithin cX10_isWithin 6 (some .boolean), .methodLink RX0 31 yX0_addPair, .instanceMethod yX0_addPair, .selects RX0 yX0_addPair yX0_addPair, .initialized RX0, .code yX0_addPair cX0_addPair 5 none, .fieldLink RX0 9 "ChooseOnce$Book" "worths" "[I", .fieldLink RX0 15 "ChooseOnce$Book" "weights" "[I"] ++ wsX00 ++ wsX90)
def wsX0_total : List Cond := .code yX0_total cX0_total 1 (some .int) :: ([.fieldLink RX0 22 "ChooseOnce$Book" "total" "I"] ++ wsX00)
def wsX0_below : List Cond := .code yX0_below cX0_below 4 (some .int) :: ([.fieldLink RX0 18 "ChooseOnce$Book" "size" "I", .fieldLink RX0 9 "ChooseOnce$Book" "worths" "[I", .fieldLink RX0 15 "ChooseOnce$Book" "weights" "[I"] ++ wsX00)
def wsX0_gathered : List Cond := .code yX0_gathered cX0_gathered 4 (some .int) :: ([.fieldLink RX0 18 "ChooseOnce$Book" "size" "I", .fieldLink RX0 9 "ChooseOnce$Book" "worths" "[I", .fieldLink RX0 15 "ChooseOnce$Book" "weights" "[I"] ++ wsX00)
def wsX0_leastFrom : List Cond := .code yX0_leastFrom cX0_leastFrom 3 (some .int) :: ([.fieldLink RX0 18 "ChooseOnce$Book" "size" "I", .fieldLink RX0 9 "ChooseOnce$Book" "worths" "[I"] ++ wsX00)
def wsX3_init : List Cond := .code yX3_init cX3_init 2 none :: ([.methodLink RX3 3 objectInit, .instanceMethod objectInit, .code objectInit ⟨#[0xb1]⟩ 1 none, .classLink RX3 9 RX0, .instantiable RX0 4, .initialized RX0, .fieldLink RX3 12 "ChooseOnce$Crowd" "blank" "LChooseOnce$Book;", .fieldLink RX3 18 "ChooseOnce$Crowd" "books" "[LChooseOnce$Book;", .fieldLink RX3 22 "ChooseOnce$Crowd" "size" "I", .instanceMethod yX0_init, .code yX0_init cX0_init 1 none, .methodLink RX0 3 objectInit, .arrayClass .int, .fieldLink RX0 9 "ChooseOnce$Book" "worths" "[I", .fieldLink RX0 15 "ChooseOnce$Book" "weights" "[I", .fieldLink RX0 18 "ChooseOnce$Book" "size" "I", .fieldLink RX0 22 "ChooseOnce$Book" "total" "I"] ++ wsX00 ++ wsX30)
def wsX5_init : List Cond := .code yX5_init cX5_init 1 none :: ([.methodLink RX5 1 objectInit, .instanceMethod objectInit, .code objectInit ⟨#[0xb1]⟩ 1 none, .arrayClass .int, .fieldLink RX5 9 "ChooseOnce$Natural" "parts" "[I"] ++ wsX50)
def wsX1_init_r1 : List Cond := [Cond.methodLink RX1 3 objectInit, Cond.instanceMethod objectInit, Cond.code objectInit ⟨#[0xb1]⟩ 1 none, Cond.classLink RX1 9 RX3, Cond.instantiable RX3 3, Cond.initialized RX3, Cond.fieldLink RX1 12 "ChooseOnce$Boxes" "all" "LChooseOnce$Crowd;", Cond.fieldLink RX1 18 "ChooseOnce$Boxes" "opened" "LChooseOnce$Crowd;", Cond.arrayClass .int, Cond.fieldLink RX1 21 "ChooseOnce$Boxes" "prices" "[I", Cond.fieldLink RX1 25 "ChooseOnce$Boxes" "fairTops" "[I", Cond.fieldLink RX1 28 "ChooseOnce$Boxes" "fairBottoms" "[I", Cond.fieldLink RX1 31 "ChooseOnce$Boxes" "order" "[I", Cond.classLink RX1 34 RX5, Cond.instantiable RX5 1, Cond.initialized RX5, Cond.fieldLink RX1 37 "ChooseOnce$Boxes" "sum" "LChooseOnce$Natural;", Cond.fieldLink RX1 41 "ChooseOnce$Boxes" "ways" "LChooseOnce$Natural;", Cond.methodLink RX1 11 yX3_init, Cond.instanceMethod yX3_init, Cond.code yX3_init cX3_init 2 none, Cond.methodLink RX3 3 objectInit, Cond.classLink RX3 9 RX0, Cond.instantiable RX0 4]
def wsX1_init_r2 : List Cond := [Cond.initialized RX0, Cond.fieldLink RX3 12 "ChooseOnce$Crowd" "blank" "LChooseOnce$Book;", Cond.fieldLink RX3 18 "ChooseOnce$Crowd" "books" "[LChooseOnce$Book;", Cond.fieldLink RX3 22 "ChooseOnce$Crowd" "size" "I", Cond.instanceMethod yX0_init, Cond.code yX0_init cX0_init 1 none, Cond.methodLink RX0 3 objectInit, Cond.fieldLink RX0 9 "ChooseOnce$Book" "worths" "[I", Cond.fieldLink RX0 15 "ChooseOnce$Book" "weights" "[I", Cond.fieldLink RX0 18 "ChooseOnce$Book" "size" "I", Cond.fieldLink RX0 22 "ChooseOnce$Book" "total" "I", Cond.instanceMethod yX5_init, Cond.code yX5_init cX5_init 1 none, Cond.methodLink RX5 1 objectInit, Cond.fieldLink RX5 9 "ChooseOnce$Natural" "parts" "[I"]
def wsX1_init : List Cond := .code yX1_init cX1_init 1 none :: ((wsX1_init_r1 ++ wsX1_init_r2) ++ wsX30 ++ wsX10 ++ wsX50 ++ wsX00)
def wsX3_size : List Cond := .code yX3_size cX3_size 1 (some .int) :: ([.fieldLink RX3 22 "ChooseOnce$Crowd" "size" "I"] ++ wsX30)
def wsX1_size : List Cond := .code yX1_size cX1_size 1 (some .int) :: ([.fieldLink RX1 12 "ChooseOnce$Boxes" "all" "LChooseOnce$Crowd;", .methodLink RX1 44 yX3_size, .instanceMethod yX3_size, .selects RX3 yX3_size yX3_size, .initialized RX3, .code yX3_size cX3_size 1 (some .int), .fieldLink RX3 22 "ChooseOnce$Crowd" "size" "I"] ++ wsX10 ++ wsX30)
def wsX3_join : List Cond := .code yX3_join cX3_join 2 none :: ([.fieldLink RX3 22 "ChooseOnce$Crowd" "size" "I", .fieldLink RX3 18 "ChooseOnce$Crowd" "books" "[LChooseOnce$Book;"] ++ wsX30)
def wsX3_at : List Cond := .code yX3_at cX3_at 2 (some (.object "ChooseOnce$Book")) :: ([.fieldLink RX3 22 "ChooseOnce$Crowd" "size" "I", .fieldLink RX3 18 "ChooseOnce$Crowd" "books" "[LChooseOnce$Book;", .fieldLink RX3 12 "ChooseOnce$Crowd" "blank" "LChooseOnce$Book;", .static yX10_isWithin, .initialized RX10, .code yX10_isWithin cX10_isWithin 6 (some .boolean)] ++ wsX30)
def wsX1_isAbove : List Cond := .code yX1_isAbove cX1_isAbove 6 (some .boolean) :: ([.fieldLink RX1 28 "ChooseOnce$Boxes" "fairBottoms" "[I", .fieldLink RX1 25 "ChooseOnce$Boxes" "fairTops" "[I"] ++ wsX10)
def wsX1_findFairBar_r1 : List Cond := [Cond.fieldLink RX1 12 "ChooseOnce$Boxes" "all" "LChooseOnce$Crowd;", Cond.fieldLink RX1 21 "ChooseOnce$Boxes" "prices" "[I", Cond.fieldLink RX1 28 "ChooseOnce$Boxes" "fairBottoms" "[I", Cond.fieldLink RX1 25 "ChooseOnce$Boxes" "fairTops" "[I", Cond.methodLink RX1 62 yX3_at, Cond.instanceMethod yX3_at, Cond.selects RX3 yX3_at yX3_at, Cond.initialized RX3, Cond.code yX3_at cX3_at 2 (some (.object "ChooseOnce$Book")), Cond.fieldLink RX3 22 "ChooseOnce$Crowd" "size" "I", Cond.fieldLink RX3 18 "ChooseOnce$Crowd" "books" "[LChooseOnce$Book;", Cond.fieldLink RX3 12 "ChooseOnce$Crowd" "blank" "LChooseOnce$Book;", Cond.static yX10_isWithin, Cond.initialized RX10, Cond.code yX10_isWithin cX10_isWithin 6 (some .boolean), Cond.methodLink RX1 66 yX0_total, Cond.instanceMethod yX0_total, Cond.selects RX0 yX0_total yX0_total, Cond.initialized RX0, Cond.code yX0_total cX0_total 1 (some .int), Cond.fieldLink RX0 22 "ChooseOnce$Book" "total" "I", Cond.methodLink RX1 71 yX0_leastFrom, Cond.instanceMethod yX0_leastFrom, Cond.selects RX0 yX0_leastFrom yX0_leastFrom]
def wsX1_findFairBar_r2 : List Cond := [Cond.code yX0_leastFrom cX0_leastFrom 3 (some .int), Cond.fieldLink RX0 18 "ChooseOnce$Book" "size" "I", Cond.fieldLink RX0 9 "ChooseOnce$Book" "worths" "[I", Cond.methodLink RX1 75 yX0_gathered, Cond.instanceMethod yX0_gathered, Cond.selects RX0 yX0_gathered yX0_gathered, Cond.code yX0_gathered cX0_gathered 4 (some .int), Cond.fieldLink RX0 15 "ChooseOnce$Book" "weights" "[I", Cond.methodLink RX1 78 yX0_below, Cond.instanceMethod yX0_below, Cond.selects RX0 yX0_below yX0_below, Cond.code yX0_below cX0_below 4 (some .int), Cond.methodLink RX1 81 yX1_isAbove, Cond.instanceMethod yX1_isAbove, Cond.selects RX1 yX1_isAbove yX1_isAbove, Cond.initialized RX1, Cond.code yX1_isAbove cX1_isAbove 6 (some .boolean)]
def wsX1_findFairBar : List Cond := .code yX1_findFairBar cX1_findFairBar 8 none :: ((wsX1_findFairBar_r1 ++ wsX1_findFairBar_r2) ++ wsX10 ++ wsX30 ++ wsX00)
def wsX1_putInOrder : List Cond := .code yX1_putInOrder cX1_putInOrder 3 none :: ([.fieldLink RX1 25 "ChooseOnce$Boxes" "fairTops" "[I", .fieldLink RX1 28 "ChooseOnce$Boxes" "fairBottoms" "[I", .fieldLink RX1 31 "ChooseOnce$Boxes" "order" "[I", .methodLink RX1 81 yX1_isAbove, .instanceMethod yX1_isAbove, .selects RX1 yX1_isAbove yX1_isAbove, .initialized RX1, .code yX1_isAbove cX1_isAbove 6 (some .boolean)] ++ wsX10)
def wsX1_join_r1 : List Cond := [Cond.fieldLink RX1 12 "ChooseOnce$Boxes" "all" "LChooseOnce$Crowd;", Cond.fieldLink RX1 21 "ChooseOnce$Boxes" "prices" "[I", Cond.methodLink RX1 44 yX3_size, Cond.instanceMethod yX3_size, Cond.selects RX3 yX3_size yX3_size, Cond.initialized RX3, Cond.code yX3_size cX3_size 1 (some .int), Cond.fieldLink RX3 22 "ChooseOnce$Crowd" "size" "I", Cond.methodLink RX1 48 yX3_join, Cond.instanceMethod yX3_join, Cond.selects RX3 yX3_join yX3_join, Cond.code yX3_join cX3_join 2 none, Cond.fieldLink RX3 18 "ChooseOnce$Crowd" "books" "[LChooseOnce$Book;", Cond.methodLink RX1 52 yX1_findFairBar, Cond.instanceMethod yX1_findFairBar, Cond.selects RX1 yX1_findFairBar yX1_findFairBar, Cond.initialized RX1, Cond.code yX1_findFairBar cX1_findFairBar 8 none, Cond.fieldLink RX1 28 "ChooseOnce$Boxes" "fairBottoms" "[I", Cond.fieldLink RX1 25 "ChooseOnce$Boxes" "fairTops" "[I", Cond.methodLink RX1 62 yX3_at, Cond.instanceMethod yX3_at, Cond.selects RX3 yX3_at yX3_at, Cond.code yX3_at cX3_at 2 (some (.object "ChooseOnce$Book"))]
def wsX1_join_r2 : List Cond := [Cond.fieldLink RX3 12 "ChooseOnce$Crowd" "blank" "LChooseOnce$Book;", Cond.static yX10_isWithin, Cond.initialized RX10, Cond.code yX10_isWithin cX10_isWithin 6 (some .boolean), Cond.methodLink RX1 66 yX0_total, Cond.instanceMethod yX0_total, Cond.selects RX0 yX0_total yX0_total, Cond.initialized RX0, Cond.code yX0_total cX0_total 1 (some .int), Cond.fieldLink RX0 22 "ChooseOnce$Book" "total" "I", Cond.methodLink RX1 71 yX0_leastFrom, Cond.instanceMethod yX0_leastFrom, Cond.selects RX0 yX0_leastFrom yX0_leastFrom, Cond.code yX0_leastFrom cX0_leastFrom 3 (some .int), Cond.fieldLink RX0 18 "ChooseOnce$Book" "size" "I", Cond.fieldLink RX0 9 "ChooseOnce$Book" "worths" "[I", Cond.methodLink RX1 75 yX0_gathered, Cond.instanceMethod yX0_gathered, Cond.selects RX0 yX0_gathered yX0_gathered, Cond.code yX0_gathered cX0_gathered 4 (some .int), Cond.fieldLink RX0 15 "ChooseOnce$Book" "weights" "[I", Cond.methodLink RX1 78 yX0_below, Cond.instanceMethod yX0_below, Cond.selects RX0 yX0_below yX0_below]
def wsX1_join_r3 : List Cond := [Cond.code yX0_below cX0_below 4 (some .int), Cond.methodLink RX1 81 yX1_isAbove, Cond.instanceMethod yX1_isAbove, Cond.selects RX1 yX1_isAbove yX1_isAbove, Cond.code yX1_isAbove cX1_isAbove 6 (some .boolean), Cond.methodLink RX1 56 yX1_putInOrder, Cond.instanceMethod yX1_putInOrder, Cond.selects RX1 yX1_putInOrder yX1_putInOrder, Cond.code yX1_putInOrder cX1_putInOrder 3 none, Cond.fieldLink RX1 31 "ChooseOnce$Boxes" "order" "[I"]
def wsX1_join : List Cond := .code yX1_join cX1_join 4 (some .int) :: ((wsX1_join_r1 ++ (wsX1_join_r2 ++ wsX1_join_r3)) ++ wsX10 ++ wsX30 ++ wsX00)
def wsX3_clear : List Cond := .code yX3_clear cX3_clear 1 none :: ([.fieldLink RX3 22 "ChooseOnce$Crowd" "size" "I"] ++ wsX30)
def wsX1_clear : List Cond := .code yX1_clear cX1_clear 2 (some .int) :: ([.fieldLink RX1 12 "ChooseOnce$Boxes" "all" "LChooseOnce$Crowd;", .methodLink RX1 44 yX3_size, .instanceMethod yX3_size, .selects RX3 yX3_size yX3_size, .initialized RX3, .code yX3_size cX3_size 1 (some .int), .fieldLink RX3 22 "ChooseOnce$Crowd" "size" "I", .methodLink RX1 59 yX3_clear, .instanceMethod yX3_clear, .selects RX3 yX3_clear yX3_clear, .code yX3_clear cX3_clear 1 none] ++ wsX10 ++ wsX30)
def wsX5_put : List Cond := .code yX5_put cX5_put 6 none :: ([.methodLink RX5 13 Lib.MathLoose.max_long.x, .static Lib.MathLoose.max_long.x, .initialized "java/lang/Math", .code Lib.MathLoose.max_long.x Lib.MathLoose.max_long.code 4 (some .long), .fieldLink RX5 9 "ChooseOnce$Natural" "parts" "[I", .constantLong RX5 19 (1000000000)] ++ wsX50)
def wsX5_copy : List Cond := .code yX5_copy cX5_copy 2 none :: ([.fieldLink RX5 9 "ChooseOnce$Natural" "parts" "[I", .methodLink RX5 21 arraycopyName, .native arraycopyName, .static arraycopyName, .initialized "java/lang/System"] ++ wsX50)
def wsX5_partCount : List Cond := .code yX5_partCount cX5_partCount 2 (some .int) :: ([.fieldLink RX5 9 "ChooseOnce$Natural" "parts" "[I"] ++ wsX50)
def wsX5_isZero : List Cond := .code yX5_isZero cX5_isZero 1 (some .boolean) :: ([.fieldLink RX5 9 "ChooseOnce$Natural" "parts" "[I", .methodLink RX5 39 yX5_partCount, .instanceMethod yX5_partCount, .selects RX5 yX5_partCount yX5_partCount, .initialized RX5, .code yX5_partCount cX5_partCount 2 (some .int)] ++ wsX50)
def wsX8_put_r1 : List Cond := [Cond.fieldLink RX8 10 "ChooseOnce$Result" "top" "LChooseOnce$Natural;", Cond.fieldLink RX8 16 "ChooseOnce$Result" "bottom" "LChooseOnce$Natural;", Cond.fieldLink RX8 25 "ChooseOnce$Result" "sign" "I", Cond.methodLink RX8 33 yX5_copy, Cond.instanceMethod yX5_copy, Cond.selects RX5 yX5_copy yX5_copy, Cond.initialized RX5, Cond.code yX5_copy cX5_copy 2 none, Cond.fieldLink RX5 9 "ChooseOnce$Natural" "parts" "[I", Cond.methodLink RX5 21 arraycopyName, Cond.native arraycopyName, Cond.static arraycopyName, Cond.initialized "java/lang/System", Cond.methodLink RX8 29 yX5_put, Cond.instanceMethod yX5_put, Cond.selects RX5 yX5_put yX5_put, Cond.code yX5_put cX5_put 6 none, Cond.methodLink RX5 13 Lib.MathLoose.max_long.x, Cond.static Lib.MathLoose.max_long.x, Cond.initialized "java/lang/Math", Cond.code Lib.MathLoose.max_long.x Lib.MathLoose.max_long.code 4 (some .long), Cond.constantLong RX5 19 (1000000000), Cond.methodLink RX8 37 yX5_isZero, Cond.instanceMethod yX5_isZero]
def wsX8_put_r2 : List Cond := [Cond.selects RX5 yX5_isZero yX5_isZero, Cond.code yX5_isZero cX5_isZero 1 (some .boolean), Cond.methodLink RX5 39 yX5_partCount, Cond.instanceMethod yX5_partCount, Cond.selects RX5 yX5_partCount yX5_partCount, Cond.code yX5_partCount cX5_partCount 2 (some .int)]
def wsX8_put : List Cond := .code yX8_put cX8_put 2 none :: ((wsX8_put_r1 ++ wsX8_put_r2) ++ wsX80 ++ wsX50)
def wsX5_rest : List Cond := .code yX5_rest cX5_rest 5 (some .int) :: ([.constantLong RX5 19 (1000000000), .fieldLink RX5 9 "ChooseOnce$Natural" "parts" "[I"] ++ wsX50)
def wsX8_commonDivisor : List Cond := .code yX8_commonDivisor cX8_commonDivisor 6 (some .int) :: ([])
def wsX5_divide : List Cond := .code yX5_divide cX5_divide 5 none :: ([.constantLong RX5 19 (1000000000), .fieldLink RX5 9 "ChooseOnce$Natural" "parts" "[I"] ++ wsX50)
def wsX5_times : List Cond := .code yX5_times cX5_times 6 none :: ([.fieldLink RX5 9 "ChooseOnce$Natural" "parts" "[I", .constantLong RX5 19 (1000000000)] ++ wsX50)
def wsX8_over : List Cond := .code yX8_over cX8_over 3 none :: ([.fieldLink RX8 10 "ChooseOnce$Result" "top" "LChooseOnce$Natural;", .fieldLink RX8 16 "ChooseOnce$Result" "bottom" "LChooseOnce$Natural;", .methodLink RX8 59 yX5_rest, .instanceMethod yX5_rest, .selects RX5 yX5_rest yX5_rest, .initialized RX5, .code yX5_rest cX5_rest 5 (some .int), .constantLong RX5 19 (1000000000), .fieldLink RX5 9 "ChooseOnce$Natural" "parts" "[I", .methodLink RX8 63 yX8_commonDivisor, .static yX8_commonDivisor, .initialized RX8, .code yX8_commonDivisor cX8_commonDivisor 6 (some .int), .methodLink RX8 66 yX5_divide, .instanceMethod yX5_divide, .selects RX5 yX5_divide yX5_divide, .code yX5_divide cX5_divide 5 none, .methodLink RX8 69 yX5_times, .instanceMethod yX5_times, .selects RX5 yX5_times yX5_times, .code yX5_times cX5_times 6 none] ++ wsX80 ++ wsX50)
def wsJ6_compare_7cf53 : List Cond := .code yJ6_compare_7cf53 cJ6_compare_7cf53 2 (some .int) :: ([])
def wsX8_putSmall_r1 : List Cond := [Cond.fieldLink RX8 19 "ChooseOnce$Result" "left" "LChooseOnce$Natural;", Cond.methodLink RX8 41 Lib.MathLoose.abs_long.x, Cond.static Lib.MathLoose.abs_long.x, Cond.initialized "java/lang/Math", Cond.code Lib.MathLoose.abs_long.x Lib.MathLoose.abs_long.code 2 (some .long), Cond.fieldLink RX8 25 "ChooseOnce$Result" "sign" "I", Cond.methodLink RX8 29 yX5_put, Cond.instanceMethod yX5_put, Cond.selects RX5 yX5_put yX5_put, Cond.initialized RX5, Cond.code yX5_put cX5_put 6 none, Cond.methodLink RX5 13 Lib.MathLoose.max_long.x, Cond.static Lib.MathLoose.max_long.x, Cond.code Lib.MathLoose.max_long.x Lib.MathLoose.max_long.code 4 (some .long), Cond.fieldLink RX5 9 "ChooseOnce$Natural" "parts" "[I", Cond.constantLong RX5 19 (1000000000), Cond.methodLink RX8 47 yX8_put, Cond.instanceMethod yX8_put, Cond.selects RX8 yX8_put yX8_put, Cond.initialized RX8, Cond.code yX8_put cX8_put 2 none, Cond.fieldLink RX8 10 "ChooseOnce$Result" "top" "LChooseOnce$Natural;", Cond.fieldLink RX8 16 "ChooseOnce$Result" "bottom" "LChooseOnce$Natural;", Cond.methodLink RX8 33 yX5_copy]
def wsX8_putSmall_r2 : List Cond := [Cond.instanceMethod yX5_copy, Cond.selects RX5 yX5_copy yX5_copy, Cond.code yX5_copy cX5_copy 2 none, Cond.methodLink RX5 21 arraycopyName, Cond.native arraycopyName, Cond.static arraycopyName, Cond.initialized "java/lang/System", Cond.methodLink RX8 37 yX5_isZero, Cond.instanceMethod yX5_isZero, Cond.selects RX5 yX5_isZero yX5_isZero, Cond.code yX5_isZero cX5_isZero 1 (some .boolean), Cond.methodLink RX5 39 yX5_partCount, Cond.instanceMethod yX5_partCount, Cond.selects RX5 yX5_partCount yX5_partCount, Cond.code yX5_partCount cX5_partCount 2 (some .int), Cond.methodLink RX8 49 yX8_over, Cond.instanceMethod yX8_over, Cond.selects RX8 yX8_over yX8_over, Cond.code yX8_over cX8_over 3 none, Cond.methodLink RX8 59 yX5_rest, Cond.instanceMethod yX5_rest, Cond.selects RX5 yX5_rest yX5_rest, Cond.code yX5_rest cX5_rest 5 (some .int), Cond.methodLink RX8 63 yX8_commonDivisor]
def wsX8_putSmall_r3 : List Cond := [Cond.static yX8_commonDivisor, Cond.code yX8_commonDivisor cX8_commonDivisor 6 (some .int), Cond.methodLink RX8 66 yX5_divide, Cond.instanceMethod yX5_divide, Cond.selects RX5 yX5_divide yX5_divide, Cond.code yX5_divide cX5_divide 5 none, Cond.methodLink RX8 69 yX5_times, Cond.instanceMethod yX5_times, Cond.selects RX5 yX5_times yX5_times, Cond.code yX5_times cX5_times 6 none, Cond.methodLink RX8 53 yJ6_compare_7cf53, Cond.static yJ6_compare_7cf53, Cond.initialized RJ6, Cond.code yJ6_compare_7cf53 cJ6_compare_7cf53 2 (some .int)]
def wsX8_putSmall : List Cond := .code yX8_putSmall cX8_putSmall 3 none :: ((wsX8_putSmall_r1 ++ (wsX8_putSmall_r2 ++ wsX8_putSmall_r3)) ++ wsX80 ++ wsX50)
def wsX1_fairBarInto_r1 : List Cond := [Cond.constantLong RX1 85 (5), Cond.fieldLink RX1 25 "ChooseOnce$Boxes" "fairTops" "[I", Cond.fieldLink RX1 28 "ChooseOnce$Boxes" "fairBottoms" "[I", Cond.static yX10_isWithin, Cond.initialized RX10, Cond.code yX10_isWithin cX10_isWithin 6 (some .boolean), Cond.methodLink RX1 91 yX8_putSmall, Cond.instanceMethod yX8_putSmall, Cond.selects RX8 yX8_putSmall yX8_putSmall, Cond.initialized RX8, Cond.code yX8_putSmall cX8_putSmall 3 none, Cond.fieldLink RX8 19 "ChooseOnce$Result" "left" "LChooseOnce$Natural;", Cond.methodLink RX8 41 Lib.MathLoose.abs_long.x, Cond.static Lib.MathLoose.abs_long.x, Cond.initialized "java/lang/Math", Cond.code Lib.MathLoose.abs_long.x Lib.MathLoose.abs_long.code 2 (some .long), Cond.fieldLink RX8 25 "ChooseOnce$Result" "sign" "I", Cond.methodLink RX8 29 yX5_put, Cond.instanceMethod yX5_put, Cond.selects RX5 yX5_put yX5_put, Cond.initialized RX5, Cond.code yX5_put cX5_put 6 none, Cond.methodLink RX5 13 Lib.MathLoose.max_long.x, Cond.static Lib.MathLoose.max_long.x]
def wsX1_fairBarInto_r2 : List Cond := [Cond.code Lib.MathLoose.max_long.x Lib.MathLoose.max_long.code 4 (some .long), Cond.fieldLink RX5 9 "ChooseOnce$Natural" "parts" "[I", Cond.constantLong RX5 19 (1000000000), Cond.methodLink RX8 47 yX8_put, Cond.instanceMethod yX8_put, Cond.selects RX8 yX8_put yX8_put, Cond.code yX8_put cX8_put 2 none, Cond.fieldLink RX8 10 "ChooseOnce$Result" "top" "LChooseOnce$Natural;", Cond.fieldLink RX8 16 "ChooseOnce$Result" "bottom" "LChooseOnce$Natural;", Cond.methodLink RX8 33 yX5_copy, Cond.instanceMethod yX5_copy, Cond.selects RX5 yX5_copy yX5_copy, Cond.code yX5_copy cX5_copy 2 none, Cond.methodLink RX5 21 arraycopyName, Cond.native arraycopyName, Cond.static arraycopyName, Cond.initialized "java/lang/System", Cond.methodLink RX8 37 yX5_isZero, Cond.instanceMethod yX5_isZero, Cond.selects RX5 yX5_isZero yX5_isZero, Cond.code yX5_isZero cX5_isZero 1 (some .boolean), Cond.methodLink RX5 39 yX5_partCount, Cond.instanceMethod yX5_partCount, Cond.selects RX5 yX5_partCount yX5_partCount]
def wsX1_fairBarInto_r3 : List Cond := [Cond.code yX5_partCount cX5_partCount 2 (some .int), Cond.methodLink RX8 49 yX8_over, Cond.instanceMethod yX8_over, Cond.selects RX8 yX8_over yX8_over, Cond.code yX8_over cX8_over 3 none, Cond.methodLink RX8 59 yX5_rest, Cond.instanceMethod yX5_rest, Cond.selects RX5 yX5_rest yX5_rest, Cond.code yX5_rest cX5_rest 5 (some .int), Cond.methodLink RX8 63 yX8_commonDivisor, Cond.static yX8_commonDivisor, Cond.code yX8_commonDivisor cX8_commonDivisor 6 (some .int), Cond.methodLink RX8 66 yX5_divide, Cond.instanceMethod yX5_divide, Cond.selects RX5 yX5_divide yX5_divide, Cond.code yX5_divide cX5_divide 5 none, Cond.methodLink RX8 69 yX5_times, Cond.instanceMethod yX5_times, Cond.selects RX5 yX5_times yX5_times, Cond.code yX5_times cX5_times 6 none, Cond.methodLink RX8 53 yJ6_compare_7cf53, Cond.static yJ6_compare_7cf53, Cond.initialized RJ6, Cond.code yJ6_compare_7cf53 cJ6_compare_7cf53 2 (some .int)]
def wsX1_fairBarInto : List Cond := .code yX1_fairBarInto cX1_fairBarInto 3 none :: ((wsX1_fairBarInto_r1 ++ (wsX1_fairBarInto_r2 ++ wsX1_fairBarInto_r3)) ++ wsX10 ++ wsX80 ++ wsX50)
def wsX1_gainAbove_r1 : List Cond := [Cond.fieldLink RX1 12 "ChooseOnce$Boxes" "all" "LChooseOnce$Crowd;", Cond.fieldLink RX1 21 "ChooseOnce$Boxes" "prices" "[I", Cond.methodLink RX1 129 Lib.Math.max.name, Cond.static Lib.Math.max.name, Cond.initialized "java/lang/Math", Cond.code Lib.Math.max.name Lib.Math.max.code 2 (some .int), Cond.methodLink RX1 62 yX3_at, Cond.instanceMethod yX3_at, Cond.selects RX3 yX3_at yX3_at, Cond.initialized RX3, Cond.code yX3_at cX3_at 2 (some (.object "ChooseOnce$Book")), Cond.fieldLink RX3 22 "ChooseOnce$Crowd" "size" "I", Cond.fieldLink RX3 18 "ChooseOnce$Crowd" "books" "[LChooseOnce$Book;", Cond.fieldLink RX3 12 "ChooseOnce$Crowd" "blank" "LChooseOnce$Book;", Cond.static yX10_isWithin, Cond.initialized RX10, Cond.code yX10_isWithin cX10_isWithin 6 (some .boolean), Cond.methodLink RX1 66 yX0_total, Cond.instanceMethod yX0_total, Cond.selects RX0 yX0_total yX0_total, Cond.initialized RX0, Cond.code yX0_total cX0_total 1 (some .int), Cond.fieldLink RX0 22 "ChooseOnce$Book" "total" "I", Cond.methodLink RX1 78 yX0_below]
def wsX1_gainAbove_r2 : List Cond := [Cond.instanceMethod yX0_below, Cond.selects RX0 yX0_below yX0_below, Cond.code yX0_below cX0_below 4 (some .int), Cond.fieldLink RX0 18 "ChooseOnce$Book" "size" "I", Cond.fieldLink RX0 9 "ChooseOnce$Book" "worths" "[I", Cond.fieldLink RX0 15 "ChooseOnce$Book" "weights" "[I", Cond.methodLink RX1 75 yX0_gathered, Cond.instanceMethod yX0_gathered, Cond.selects RX0 yX0_gathered yX0_gathered, Cond.code yX0_gathered cX0_gathered 4 (some .int)]
def wsX1_gainAbove : List Cond := .code yX1_gainAbove cX1_gainAbove 5 (some .int) :: ((wsX1_gainAbove_r1 ++ wsX1_gainAbove_r2) ++ wsX10 ++ wsX30 ++ wsX00)
def wsX3_leastFrom : List Cond := .code yX3_leastFrom cX3_leastFrom 5 (some .int) :: ([.fieldLink RX3 22 "ChooseOnce$Crowd" "size" "I", .methodLink RX3 30 yX3_at, .instanceMethod yX3_at, .selects RX3 yX3_at yX3_at, .initialized RX3, .code yX3_at cX3_at 2 (some (.object "ChooseOnce$Book")), .fieldLink RX3 18 "ChooseOnce$Crowd" "books" "[LChooseOnce$Book;", .fieldLink RX3 12 "ChooseOnce$Crowd" "blank" "LChooseOnce$Book;", .static yX10_isWithin, .initialized RX10, .code yX10_isWithin cX10_isWithin 6 (some .boolean), .methodLink RX3 34 yX0_leastFrom, .instanceMethod yX0_leastFrom, .selects RX0 yX0_leastFrom yX0_leastFrom, .initialized RX0, .code yX0_leastFrom cX0_leastFrom 3 (some .int), .fieldLink RX0 18 "ChooseOnce$Book" "size" "I", .fieldLink RX0 9 "ChooseOnce$Book" "worths" "[I"] ++ wsX30 ++ wsX00)
def wsX3_waysUpTo_r1 : List Cond := [Cond.fieldLink RX3 22 "ChooseOnce$Crowd" "size" "I", Cond.methodLink RX3 38 yX5_put, Cond.instanceMethod yX5_put, Cond.selects RX5 yX5_put yX5_put, Cond.initialized RX5, Cond.code yX5_put cX5_put 6 none, Cond.methodLink RX5 13 Lib.MathLoose.max_long.x, Cond.static Lib.MathLoose.max_long.x, Cond.initialized "java/lang/Math", Cond.code Lib.MathLoose.max_long.x Lib.MathLoose.max_long.code 4 (some .long), Cond.fieldLink RX5 9 "ChooseOnce$Natural" "parts" "[I", Cond.constantLong RX5 19 (1000000000), Cond.methodLink RX3 30 yX3_at, Cond.instanceMethod yX3_at, Cond.selects RX3 yX3_at yX3_at, Cond.initialized RX3, Cond.code yX3_at cX3_at 2 (some (.object "ChooseOnce$Book")), Cond.fieldLink RX3 18 "ChooseOnce$Crowd" "books" "[LChooseOnce$Book;", Cond.fieldLink RX3 12 "ChooseOnce$Crowd" "blank" "LChooseOnce$Book;", Cond.static yX10_isWithin, Cond.initialized RX10, Cond.code yX10_isWithin cX10_isWithin 6 (some .boolean), Cond.methodLink RX3 44 yX0_below, Cond.instanceMethod yX0_below]
def wsX3_waysUpTo_r2 : List Cond := [Cond.selects RX0 yX0_below yX0_below, Cond.initialized RX0, Cond.code yX0_below cX0_below 4 (some .int), Cond.fieldLink RX0 18 "ChooseOnce$Book" "size" "I", Cond.fieldLink RX0 9 "ChooseOnce$Book" "worths" "[I", Cond.fieldLink RX0 15 "ChooseOnce$Book" "weights" "[I", Cond.methodLink RX3 47 yX5_times, Cond.instanceMethod yX5_times, Cond.selects RX5 yX5_times yX5_times, Cond.code yX5_times cX5_times 6 none]
def wsX3_waysUpTo : List Cond := .code yX3_waysUpTo cX3_waysUpTo 4 none :: ((wsX3_waysUpTo_r1 ++ wsX3_waysUpTo_r2) ++ wsX30 ++ wsX50 ++ wsX00)
def wsX5_addTimes : List Cond := .code yX5_addTimes cX5_addTimes 7 none :: ([.fieldLink RX5 9 "ChooseOnce$Natural" "parts" "[I", .constantLong RX5 19 (1000000000)] ++ wsX50)
def wsX1_addGains_r1 : List Cond := [Cond.fieldLink RX1 18 "ChooseOnce$Boxes" "opened" "LChooseOnce$Crowd;", Cond.fieldLink RX1 41 "ChooseOnce$Boxes" "ways" "LChooseOnce$Natural;", Cond.fieldLink RX1 37 "ChooseOnce$Boxes" "sum" "LChooseOnce$Natural;", Cond.methodLink RX1 117 yX1_gainAbove, Cond.instanceMethod yX1_gainAbove, Cond.selects RX1 yX1_gainAbove yX1_gainAbove, Cond.initialized RX1, Cond.code yX1_gainAbove cX1_gainAbove 5 (some .int), Cond.fieldLink RX1 12 "ChooseOnce$Boxes" "all" "LChooseOnce$Crowd;", Cond.fieldLink RX1 21 "ChooseOnce$Boxes" "prices" "[I", Cond.methodLink RX1 129 Lib.Math.max.name, Cond.static Lib.Math.max.name, Cond.initialized "java/lang/Math", Cond.code Lib.Math.max.name Lib.Math.max.code 2 (some .int), Cond.methodLink RX1 62 yX3_at, Cond.instanceMethod yX3_at, Cond.selects RX3 yX3_at yX3_at, Cond.initialized RX3, Cond.code yX3_at cX3_at 2 (some (.object "ChooseOnce$Book")), Cond.fieldLink RX3 22 "ChooseOnce$Crowd" "size" "I", Cond.fieldLink RX3 18 "ChooseOnce$Crowd" "books" "[LChooseOnce$Book;", Cond.fieldLink RX3 12 "ChooseOnce$Crowd" "blank" "LChooseOnce$Book;", Cond.static yX10_isWithin, Cond.initialized RX10]
def wsX1_addGains_r2 : List Cond := [Cond.code yX10_isWithin cX10_isWithin 6 (some .boolean), Cond.methodLink RX1 66 yX0_total, Cond.instanceMethod yX0_total, Cond.selects RX0 yX0_total yX0_total, Cond.initialized RX0, Cond.code yX0_total cX0_total 1 (some .int), Cond.fieldLink RX0 22 "ChooseOnce$Book" "total" "I", Cond.methodLink RX1 78 yX0_below, Cond.instanceMethod yX0_below, Cond.selects RX0 yX0_below yX0_below, Cond.code yX0_below cX0_below 4 (some .int), Cond.fieldLink RX0 18 "ChooseOnce$Book" "size" "I", Cond.fieldLink RX0 9 "ChooseOnce$Book" "worths" "[I", Cond.fieldLink RX0 15 "ChooseOnce$Book" "weights" "[I", Cond.methodLink RX1 75 yX0_gathered, Cond.instanceMethod yX0_gathered, Cond.selects RX0 yX0_gathered yX0_gathered, Cond.code yX0_gathered cX0_gathered 4 (some .int), Cond.methodLink RX1 120 yX3_leastFrom, Cond.instanceMethod yX3_leastFrom, Cond.selects RX3 yX3_leastFrom yX3_leastFrom, Cond.code yX3_leastFrom cX3_leastFrom 5 (some .int), Cond.methodLink RX3 30 yX3_at, Cond.methodLink RX3 34 yX0_leastFrom]
def wsX1_addGains_r3 : List Cond := [Cond.instanceMethod yX0_leastFrom, Cond.selects RX0 yX0_leastFrom yX0_leastFrom, Cond.code yX0_leastFrom cX0_leastFrom 3 (some .int), Cond.methodLink RX1 121 yX3_waysUpTo, Cond.instanceMethod yX3_waysUpTo, Cond.selects RX3 yX3_waysUpTo yX3_waysUpTo, Cond.code yX3_waysUpTo cX3_waysUpTo 4 none, Cond.methodLink RX3 38 yX5_put, Cond.instanceMethod yX5_put, Cond.selects RX5 yX5_put yX5_put, Cond.initialized RX5, Cond.code yX5_put cX5_put 6 none, Cond.methodLink RX5 13 Lib.MathLoose.max_long.x, Cond.static Lib.MathLoose.max_long.x, Cond.code Lib.MathLoose.max_long.x Lib.MathLoose.max_long.code 4 (some .long), Cond.fieldLink RX5 9 "ChooseOnce$Natural" "parts" "[I", Cond.constantLong RX5 19 (1000000000), Cond.methodLink RX3 44 yX0_below, Cond.methodLink RX3 47 yX5_times, Cond.instanceMethod yX5_times, Cond.selects RX5 yX5_times yX5_times, Cond.code yX5_times cX5_times 6 none, Cond.methodLink RX1 125 yX5_addTimes, Cond.instanceMethod yX5_addTimes]
def wsX1_addGains_r4 : List Cond := [Cond.selects RX5 yX5_addTimes yX5_addTimes, Cond.code yX5_addTimes cX5_addTimes 7 none]
def wsX1_addGains : List Cond := .code yX1_addGains cX1_addGains 7 none :: ((wsX1_addGains_r1 ++ (wsX1_addGains_r2 ++ (wsX1_addGains_r3 ++ wsX1_addGains_r4))) ++ wsX10 ++ wsX30 ++ wsX00 ++ wsX50)
def wsX3_divide_r1 : List Cond := [Cond.fieldLink RX3 22 "ChooseOnce$Crowd" "size" "I", Cond.methodLink RX3 50 yX8_put, Cond.instanceMethod yX8_put, Cond.selects RX8 yX8_put yX8_put, Cond.initialized RX8, Cond.code yX8_put cX8_put 2 none, Cond.fieldLink RX8 10 "ChooseOnce$Result" "top" "LChooseOnce$Natural;", Cond.fieldLink RX8 16 "ChooseOnce$Result" "bottom" "LChooseOnce$Natural;", Cond.fieldLink RX8 25 "ChooseOnce$Result" "sign" "I", Cond.methodLink RX8 33 yX5_copy, Cond.instanceMethod yX5_copy, Cond.selects RX5 yX5_copy yX5_copy, Cond.initialized RX5, Cond.code yX5_copy cX5_copy 2 none, Cond.fieldLink RX5 9 "ChooseOnce$Natural" "parts" "[I", Cond.methodLink RX5 21 arraycopyName, Cond.native arraycopyName, Cond.static arraycopyName, Cond.initialized "java/lang/System", Cond.methodLink RX8 29 yX5_put, Cond.instanceMethod yX5_put, Cond.selects RX5 yX5_put yX5_put, Cond.code yX5_put cX5_put 6 none, Cond.methodLink RX5 13 Lib.MathLoose.max_long.x]
def wsX3_divide_r2 : List Cond := [Cond.static Lib.MathLoose.max_long.x, Cond.initialized "java/lang/Math", Cond.code Lib.MathLoose.max_long.x Lib.MathLoose.max_long.code 4 (some .long), Cond.constantLong RX5 19 (1000000000), Cond.methodLink RX8 37 yX5_isZero, Cond.instanceMethod yX5_isZero, Cond.selects RX5 yX5_isZero yX5_isZero, Cond.code yX5_isZero cX5_isZero 1 (some .boolean), Cond.methodLink RX5 39 yX5_partCount, Cond.instanceMethod yX5_partCount, Cond.selects RX5 yX5_partCount yX5_partCount, Cond.code yX5_partCount cX5_partCount 2 (some .int), Cond.methodLink RX3 30 yX3_at, Cond.instanceMethod yX3_at, Cond.selects RX3 yX3_at yX3_at, Cond.initialized RX3, Cond.code yX3_at cX3_at 2 (some (.object "ChooseOnce$Book")), Cond.fieldLink RX3 18 "ChooseOnce$Crowd" "books" "[LChooseOnce$Book;", Cond.fieldLink RX3 12 "ChooseOnce$Crowd" "blank" "LChooseOnce$Book;", Cond.static yX10_isWithin, Cond.initialized RX10, Cond.code yX10_isWithin cX10_isWithin 6 (some .boolean), Cond.methodLink RX3 55 yX0_total, Cond.instanceMethod yX0_total]
def wsX3_divide_r3 : List Cond := [Cond.selects RX0 yX0_total yX0_total, Cond.initialized RX0, Cond.code yX0_total cX0_total 1 (some .int), Cond.fieldLink RX0 22 "ChooseOnce$Book" "total" "I", Cond.methodLink RX3 59 yX8_over, Cond.instanceMethod yX8_over, Cond.selects RX8 yX8_over yX8_over, Cond.code yX8_over cX8_over 3 none, Cond.methodLink RX8 59 yX5_rest, Cond.instanceMethod yX5_rest, Cond.selects RX5 yX5_rest yX5_rest, Cond.code yX5_rest cX5_rest 5 (some .int), Cond.methodLink RX8 63 yX8_commonDivisor, Cond.static yX8_commonDivisor, Cond.code yX8_commonDivisor cX8_commonDivisor 6 (some .int), Cond.methodLink RX8 66 yX5_divide, Cond.instanceMethod yX5_divide, Cond.selects RX5 yX5_divide yX5_divide, Cond.code yX5_divide cX5_divide 5 none, Cond.methodLink RX8 69 yX5_times, Cond.instanceMethod yX5_times, Cond.selects RX5 yX5_times yX5_times, Cond.code yX5_times cX5_times 6 none]
def wsX3_divide : List Cond := .code yX3_divide cX3_divide 4 none :: ((wsX3_divide_r1 ++ (wsX3_divide_r2 ++ wsX3_divide_r3)) ++ wsX30 ++ wsX80 ++ wsX50 ++ wsX00)
def wsX1_searchInto_r1 : List Cond := [Cond.fieldLink RX1 18 "ChooseOnce$Boxes" "opened" "LChooseOnce$Crowd;", Cond.fieldLink RX1 37 "ChooseOnce$Boxes" "sum" "LChooseOnce$Natural;", Cond.fieldLink RX1 12 "ChooseOnce$Boxes" "all" "LChooseOnce$Crowd;", Cond.methodLink RX1 101 Lib.Math.min.name, Cond.static Lib.Math.min.name, Cond.initialized "java/lang/Math", Cond.code Lib.Math.min.name Lib.Math.min.code 2 (some .int), Cond.fieldLink RX1 31 "ChooseOnce$Boxes" "order" "[I", Cond.methodLink RX1 59 yX3_clear, Cond.instanceMethod yX3_clear, Cond.selects RX3 yX3_clear yX3_clear, Cond.initialized RX3, Cond.code yX3_clear cX3_clear 1 none, Cond.fieldLink RX3 22 "ChooseOnce$Crowd" "size" "I", Cond.methodLink RX1 97 yX5_put, Cond.instanceMethod yX5_put, Cond.selects RX5 yX5_put yX5_put, Cond.initialized RX5, Cond.code yX5_put cX5_put 6 none, Cond.methodLink RX5 13 Lib.MathLoose.max_long.x, Cond.static Lib.MathLoose.max_long.x, Cond.code Lib.MathLoose.max_long.x Lib.MathLoose.max_long.code 4 (some .long), Cond.fieldLink RX5 9 "ChooseOnce$Natural" "parts" "[I", Cond.constantLong RX5 19 (1000000000)]
def wsX1_searchInto_r2 : List Cond := [Cond.methodLink RX1 44 yX3_size, Cond.instanceMethod yX3_size, Cond.selects RX3 yX3_size yX3_size, Cond.code yX3_size cX3_size 1 (some .int), Cond.methodLink RX1 62 yX3_at, Cond.instanceMethod yX3_at, Cond.selects RX3 yX3_at yX3_at, Cond.code yX3_at cX3_at 2 (some (.object "ChooseOnce$Book")), Cond.fieldLink RX3 18 "ChooseOnce$Crowd" "books" "[LChooseOnce$Book;", Cond.fieldLink RX3 12 "ChooseOnce$Crowd" "blank" "LChooseOnce$Book;", Cond.static yX10_isWithin, Cond.initialized RX10, Cond.code yX10_isWithin cX10_isWithin 6 (some .boolean), Cond.methodLink RX1 66 yX0_total, Cond.instanceMethod yX0_total, Cond.selects RX0 yX0_total yX0_total, Cond.initialized RX0, Cond.code yX0_total cX0_total 1 (some .int), Cond.fieldLink RX0 22 "ChooseOnce$Book" "total" "I", Cond.methodLink RX1 107 yX5_times, Cond.instanceMethod yX5_times, Cond.selects RX5 yX5_times yX5_times, Cond.code yX5_times cX5_times 6 none, Cond.methodLink RX1 110 yX1_addGains]
def wsX1_searchInto_r3 : List Cond := [Cond.instanceMethod yX1_addGains, Cond.selects RX1 yX1_addGains yX1_addGains, Cond.initialized RX1, Cond.code yX1_addGains cX1_addGains 7 none, Cond.fieldLink RX1 41 "ChooseOnce$Boxes" "ways" "LChooseOnce$Natural;", Cond.methodLink RX1 117 yX1_gainAbove, Cond.instanceMethod yX1_gainAbove, Cond.selects RX1 yX1_gainAbove yX1_gainAbove, Cond.code yX1_gainAbove cX1_gainAbove 5 (some .int), Cond.fieldLink RX1 21 "ChooseOnce$Boxes" "prices" "[I", Cond.methodLink RX1 129 Lib.Math.max.name, Cond.static Lib.Math.max.name, Cond.code Lib.Math.max.name Lib.Math.max.code 2 (some .int), Cond.methodLink RX1 78 yX0_below, Cond.instanceMethod yX0_below, Cond.selects RX0 yX0_below yX0_below, Cond.code yX0_below cX0_below 4 (some .int), Cond.fieldLink RX0 18 "ChooseOnce$Book" "size" "I", Cond.fieldLink RX0 9 "ChooseOnce$Book" "worths" "[I", Cond.fieldLink RX0 15 "ChooseOnce$Book" "weights" "[I", Cond.methodLink RX1 75 yX0_gathered, Cond.instanceMethod yX0_gathered, Cond.selects RX0 yX0_gathered yX0_gathered, Cond.code yX0_gathered cX0_gathered 4 (some .int)]
def wsX1_searchInto_r4 : List Cond := [Cond.methodLink RX1 120 yX3_leastFrom, Cond.instanceMethod yX3_leastFrom, Cond.selects RX3 yX3_leastFrom yX3_leastFrom, Cond.code yX3_leastFrom cX3_leastFrom 5 (some .int), Cond.methodLink RX3 30 yX3_at, Cond.methodLink RX3 34 yX0_leastFrom, Cond.instanceMethod yX0_leastFrom, Cond.selects RX0 yX0_leastFrom yX0_leastFrom, Cond.code yX0_leastFrom cX0_leastFrom 3 (some .int), Cond.methodLink RX1 121 yX3_waysUpTo, Cond.instanceMethod yX3_waysUpTo, Cond.selects RX3 yX3_waysUpTo yX3_waysUpTo, Cond.code yX3_waysUpTo cX3_waysUpTo 4 none, Cond.methodLink RX3 38 yX5_put, Cond.methodLink RX3 44 yX0_below, Cond.methodLink RX3 47 yX5_times, Cond.methodLink RX1 125 yX5_addTimes, Cond.instanceMethod yX5_addTimes, Cond.selects RX5 yX5_addTimes yX5_addTimes, Cond.code yX5_addTimes cX5_addTimes 7 none, Cond.methodLink RX1 48 yX3_join, Cond.instanceMethod yX3_join, Cond.selects RX3 yX3_join yX3_join, Cond.code yX3_join cX3_join 2 none]
def wsX1_searchInto_r5 : List Cond := [Cond.methodLink RX1 113 yX3_divide, Cond.instanceMethod yX3_divide, Cond.selects RX3 yX3_divide yX3_divide, Cond.code yX3_divide cX3_divide 4 none, Cond.methodLink RX3 50 yX8_put, Cond.instanceMethod yX8_put, Cond.selects RX8 yX8_put yX8_put, Cond.initialized RX8, Cond.code yX8_put cX8_put 2 none, Cond.fieldLink RX8 10 "ChooseOnce$Result" "top" "LChooseOnce$Natural;", Cond.fieldLink RX8 16 "ChooseOnce$Result" "bottom" "LChooseOnce$Natural;", Cond.fieldLink RX8 25 "ChooseOnce$Result" "sign" "I", Cond.methodLink RX8 33 yX5_copy, Cond.instanceMethod yX5_copy, Cond.selects RX5 yX5_copy yX5_copy, Cond.code yX5_copy cX5_copy 2 none, Cond.methodLink RX5 21 arraycopyName, Cond.native arraycopyName, Cond.static arraycopyName, Cond.initialized "java/lang/System", Cond.methodLink RX8 29 yX5_put, Cond.methodLink RX8 37 yX5_isZero, Cond.instanceMethod yX5_isZero, Cond.selects RX5 yX5_isZero yX5_isZero]
def wsX1_searchInto_r6 : List Cond := [Cond.code yX5_isZero cX5_isZero 1 (some .boolean), Cond.methodLink RX5 39 yX5_partCount, Cond.instanceMethod yX5_partCount, Cond.selects RX5 yX5_partCount yX5_partCount, Cond.code yX5_partCount cX5_partCount 2 (some .int), Cond.methodLink RX3 55 yX0_total, Cond.methodLink RX3 59 yX8_over, Cond.instanceMethod yX8_over, Cond.selects RX8 yX8_over yX8_over, Cond.code yX8_over cX8_over 3 none, Cond.methodLink RX8 59 yX5_rest, Cond.instanceMethod yX5_rest, Cond.selects RX5 yX5_rest yX5_rest, Cond.code yX5_rest cX5_rest 5 (some .int), Cond.methodLink RX8 63 yX8_commonDivisor, Cond.static yX8_commonDivisor, Cond.code yX8_commonDivisor cX8_commonDivisor 6 (some .int), Cond.methodLink RX8 66 yX5_divide, Cond.instanceMethod yX5_divide, Cond.selects RX5 yX5_divide yX5_divide, Cond.code yX5_divide cX5_divide 5 none, Cond.methodLink RX8 69 yX5_times]
def wsX1_searchInto : List Cond := .code yX1_searchInto cX1_searchInto 4 none :: ((wsX1_searchInto_r1 ++ (wsX1_searchInto_r2 ++ (wsX1_searchInto_r3 ++ (wsX1_searchInto_r4 ++ (wsX1_searchInto_r5 ++ wsX1_searchInto_r6))))) ++ wsX10 ++ wsX30 ++ wsX50 ++ wsX00 ++ wsX80)
def wsX2_init_r1 : List Cond := [Cond.methodLink RX2 3 objectInit, Cond.instanceMethod objectInit, Cond.code objectInit ⟨#[0xb1]⟩ 1 none, Cond.classLink RX2 9 RX3, Cond.instantiable RX3 3, Cond.initialized RX3, Cond.fieldLink RX2 12 "ChooseOnce$Comers" "crowd" "LChooseOnce$Crowd;", Cond.arrayClass .int, Cond.fieldLink RX2 18 "ChooseOnce$Comers" "toldBars" "[I", Cond.fieldLink RX2 22 "ChooseOnce$Comers" "bestBars" "[I", Cond.fieldLink RX2 25 "ChooseOnce$Comers" "evenBars" "[I", Cond.classLink RX2 28 RX5, Cond.fieldLink RX2 30 "ChooseOnce$Comers" "means" "[LChooseOnce$Natural;", Cond.instantiable RX5 1, Cond.initialized RX5, Cond.fieldLink RX2 35 "ChooseOnce$Comers" "mean" "LChooseOnce$Natural;", Cond.fieldLink RX2 39 "ChooseOnce$Comers" "all" "LChooseOnce$Natural;", Cond.fieldLink RX2 42 "ChooseOnce$Comers" "trial" "LChooseOnce$Natural;", Cond.fieldLink RX2 45 "ChooseOnce$Comers" "before" "LChooseOnce$Natural;", Cond.fieldLink RX2 48 "ChooseOnce$Comers" "foreseen" "LChooseOnce$Natural;", Cond.methodLink RX2 11 yX3_init, Cond.instanceMethod yX3_init, Cond.code yX3_init cX3_init 2 none, Cond.methodLink RX3 3 objectInit]
def wsX2_init_r2 : List Cond := [Cond.classLink RX3 9 RX0, Cond.instantiable RX0 4, Cond.initialized RX0, Cond.fieldLink RX3 12 "ChooseOnce$Crowd" "blank" "LChooseOnce$Book;", Cond.fieldLink RX3 18 "ChooseOnce$Crowd" "books" "[LChooseOnce$Book;", Cond.fieldLink RX3 22 "ChooseOnce$Crowd" "size" "I", Cond.instanceMethod yX0_init, Cond.code yX0_init cX0_init 1 none, Cond.methodLink RX0 3 objectInit, Cond.fieldLink RX0 9 "ChooseOnce$Book" "worths" "[I", Cond.fieldLink RX0 15 "ChooseOnce$Book" "weights" "[I", Cond.fieldLink RX0 18 "ChooseOnce$Book" "size" "I", Cond.fieldLink RX0 22 "ChooseOnce$Book" "total" "I", Cond.instanceMethod yX5_init, Cond.code yX5_init cX5_init 1 none, Cond.methodLink RX5 1 objectInit, Cond.fieldLink RX5 9 "ChooseOnce$Natural" "parts" "[I"]
def wsX2_init : List Cond := .code yX2_init cX2_init 2 none :: ((wsX2_init_r1 ++ wsX2_init_r2) ++ wsX30 ++ wsX20 ++ wsX50 ++ wsX00)
def wsX2_size : List Cond := .code yX2_size cX2_size 1 (some .int) :: ([.fieldLink RX2 12 "ChooseOnce$Comers" "crowd" "LChooseOnce$Crowd;", .methodLink RX2 51 yX3_size, .instanceMethod yX3_size, .selects RX3 yX3_size yX3_size, .initialized RX3, .code yX3_size cX3_size 1 (some .int), .fieldLink RX3 22 "ChooseOnce$Crowd" "size" "I"] ++ wsX20 ++ wsX30)
def wsX2_join : List Cond := .code yX2_join cX2_join 3 (some .int) :: ([.fieldLink RX2 12 "ChooseOnce$Comers" "crowd" "LChooseOnce$Crowd;", .fieldLink RX2 18 "ChooseOnce$Comers" "toldBars" "[I", .methodLink RX2 51 yX3_size, .instanceMethod yX3_size, .selects RX3 yX3_size yX3_size, .initialized RX3, .code yX3_size cX3_size 1 (some .int), .fieldLink RX3 22 "ChooseOnce$Crowd" "size" "I", .methodLink RX2 55 yX3_join, .instanceMethod yX3_join, .selects RX3 yX3_join yX3_join, .code yX3_join cX3_join 2 none, .fieldLink RX3 18 "ChooseOnce$Crowd" "books" "[LChooseOnce$Book;"] ++ wsX20 ++ wsX30)
def wsX2_clear : List Cond := .code yX2_clear cX2_clear 2 (some .int) :: ([.fieldLink RX2 12 "ChooseOnce$Comers" "crowd" "LChooseOnce$Crowd;", .methodLink RX2 51 yX3_size, .instanceMethod yX3_size, .selects RX3 yX3_size yX3_size, .initialized RX3, .code yX3_size cX3_size 1 (some .int), .fieldLink RX3 22 "ChooseOnce$Crowd" "size" "I", .methodLink RX2 59 yX3_clear, .instanceMethod yX3_clear, .selects RX3 yX3_clear yX3_clear, .code yX3_clear cX3_clear 1 none] ++ wsX20 ++ wsX30)
def wsX2_setBar : List Cond := .code yX2_setBar cX2_setBar 3 none :: ([.constantLong RX2 62 (9), .fieldLink RX2 18 "ChooseOnce$Comers" "toldBars" "[I", .static yX10_isWithin, .initialized RX10, .code yX10_isWithin cX10_isWithin 6 (some .boolean)] ++ wsX20)
def wsX2_follow_r1 : List Cond := [Cond.fieldLink RX2 35 "ChooseOnce$Comers" "mean" "LChooseOnce$Natural;", Cond.fieldLink RX2 39 "ChooseOnce$Comers" "all" "LChooseOnce$Natural;", Cond.fieldLink RX2 12 "ChooseOnce$Comers" "crowd" "LChooseOnce$Crowd;", Cond.methodLink RX2 80 Lib.Math.min.name, Cond.static Lib.Math.min.name, Cond.initialized "java/lang/Math", Cond.code Lib.Math.min.name Lib.Math.min.code 2 (some .int), Cond.methodLink RX2 76 yX5_put, Cond.instanceMethod yX5_put, Cond.selects RX5 yX5_put yX5_put, Cond.initialized RX5, Cond.code yX5_put cX5_put 6 none, Cond.methodLink RX5 13 Lib.MathLoose.max_long.x, Cond.static Lib.MathLoose.max_long.x, Cond.code Lib.MathLoose.max_long.x Lib.MathLoose.max_long.code 4 (some .long), Cond.fieldLink RX5 9 "ChooseOnce$Natural" "parts" "[I", Cond.constantLong RX5 19 (1000000000), Cond.methodLink RX2 51 yX3_size, Cond.instanceMethod yX3_size, Cond.selects RX3 yX3_size yX3_size, Cond.initialized RX3, Cond.code yX3_size cX3_size 1 (some .int), Cond.fieldLink RX3 22 "ChooseOnce$Crowd" "size" "I", Cond.methodLink RX2 86 yX3_at]
def wsX2_follow_r2 : List Cond := [Cond.instanceMethod yX3_at, Cond.selects RX3 yX3_at yX3_at, Cond.code yX3_at cX3_at 2 (some (.object "ChooseOnce$Book")), Cond.fieldLink RX3 18 "ChooseOnce$Crowd" "books" "[LChooseOnce$Book;", Cond.fieldLink RX3 12 "ChooseOnce$Crowd" "blank" "LChooseOnce$Book;", Cond.static yX10_isWithin, Cond.initialized RX10, Cond.code yX10_isWithin cX10_isWithin 6 (some .boolean), Cond.methodLink RX2 90 yX0_below, Cond.instanceMethod yX0_below, Cond.selects RX0 yX0_below yX0_below, Cond.initialized RX0, Cond.code yX0_below cX0_below 4 (some .int), Cond.fieldLink RX0 18 "ChooseOnce$Book" "size" "I", Cond.fieldLink RX0 9 "ChooseOnce$Book" "worths" "[I", Cond.fieldLink RX0 15 "ChooseOnce$Book" "weights" "[I", Cond.methodLink RX2 96 yX5_times, Cond.instanceMethod yX5_times, Cond.selects RX5 yX5_times yX5_times, Cond.code yX5_times cX5_times 6 none, Cond.methodLink RX2 99 yX0_gathered, Cond.instanceMethod yX0_gathered, Cond.selects RX0 yX0_gathered yX0_gathered, Cond.code yX0_gathered cX0_gathered 4 (some .int)]
def wsX2_follow_r3 : List Cond := [Cond.methodLink RX2 102 yX5_addTimes, Cond.instanceMethod yX5_addTimes, Cond.selects RX5 yX5_addTimes yX5_addTimes, Cond.code yX5_addTimes cX5_addTimes 7 none, Cond.methodLink RX2 106 yX0_total, Cond.instanceMethod yX0_total, Cond.selects RX0 yX0_total yX0_total, Cond.code yX0_total cX0_total 1 (some .int), Cond.fieldLink RX0 22 "ChooseOnce$Book" "total" "I"]
def wsX2_follow : List Cond := .code yX2_follow cX2_follow 4 none :: ((wsX2_follow_r1 ++ (wsX2_follow_r2 ++ wsX2_follow_r3)) ++ wsX20 ++ wsX50 ++ wsX30 ++ wsX00)
def wsX2_followTold_r1 : List Cond := [Cond.fieldLink RX2 18 "ChooseOnce$Comers" "toldBars" "[I", Cond.fieldLink RX2 12 "ChooseOnce$Comers" "crowd" "LChooseOnce$Crowd;", Cond.fieldLink RX2 35 "ChooseOnce$Comers" "mean" "LChooseOnce$Natural;", Cond.methodLink RX2 68 yX2_follow, Cond.instanceMethod yX2_follow, Cond.selects RX2 yX2_follow yX2_follow, Cond.initialized RX2, Cond.code yX2_follow cX2_follow 4 none, Cond.fieldLink RX2 39 "ChooseOnce$Comers" "all" "LChooseOnce$Natural;", Cond.methodLink RX2 80 Lib.Math.min.name, Cond.static Lib.Math.min.name, Cond.initialized "java/lang/Math", Cond.code Lib.Math.min.name Lib.Math.min.code 2 (some .int), Cond.methodLink RX2 76 yX5_put, Cond.instanceMethod yX5_put, Cond.selects RX5 yX5_put yX5_put, Cond.initialized RX5, Cond.code yX5_put cX5_put 6 none, Cond.methodLink RX5 13 Lib.MathLoose.max_long.x, Cond.static Lib.MathLoose.max_long.x, Cond.code Lib.MathLoose.max_long.x Lib.MathLoose.max_long.code 4 (some .long), Cond.fieldLink RX5 9 "ChooseOnce$Natural" "parts" "[I", Cond.constantLong RX5 19 (1000000000), Cond.methodLink RX2 51 yX3_size]
def wsX2_followTold_r2 : List Cond := [Cond.instanceMethod yX3_size, Cond.selects RX3 yX3_size yX3_size, Cond.initialized RX3, Cond.code yX3_size cX3_size 1 (some .int), Cond.fieldLink RX3 22 "ChooseOnce$Crowd" "size" "I", Cond.methodLink RX2 86 yX3_at, Cond.instanceMethod yX3_at, Cond.selects RX3 yX3_at yX3_at, Cond.code yX3_at cX3_at 2 (some (.object "ChooseOnce$Book")), Cond.fieldLink RX3 18 "ChooseOnce$Crowd" "books" "[LChooseOnce$Book;", Cond.fieldLink RX3 12 "ChooseOnce$Crowd" "blank" "LChooseOnce$Book;", Cond.static yX10_isWithin, Cond.initialized RX10, Cond.code yX10_isWithin cX10_isWithin 6 (some .boolean), Cond.methodLink RX2 90 yX0_below, Cond.instanceMethod yX0_below, Cond.selects RX0 yX0_below yX0_below, Cond.initialized RX0, Cond.code yX0_below cX0_below 4 (some .int), Cond.fieldLink RX0 18 "ChooseOnce$Book" "size" "I", Cond.fieldLink RX0 9 "ChooseOnce$Book" "worths" "[I", Cond.fieldLink RX0 15 "ChooseOnce$Book" "weights" "[I", Cond.methodLink RX2 96 yX5_times, Cond.instanceMethod yX5_times]
def wsX2_followTold_r3 : List Cond := [Cond.selects RX5 yX5_times yX5_times, Cond.code yX5_times cX5_times 6 none, Cond.methodLink RX2 99 yX0_gathered, Cond.instanceMethod yX0_gathered, Cond.selects RX0 yX0_gathered yX0_gathered, Cond.code yX0_gathered cX0_gathered 4 (some .int), Cond.methodLink RX2 102 yX5_addTimes, Cond.instanceMethod yX5_addTimes, Cond.selects RX5 yX5_addTimes yX5_addTimes, Cond.code yX5_addTimes cX5_addTimes 7 none, Cond.methodLink RX2 106 yX0_total, Cond.instanceMethod yX0_total, Cond.selects RX0 yX0_total yX0_total, Cond.code yX0_total cX0_total 1 (some .int), Cond.fieldLink RX0 22 "ChooseOnce$Book" "total" "I", Cond.methodLink RX2 72 yX3_divide, Cond.instanceMethod yX3_divide, Cond.selects RX3 yX3_divide yX3_divide, Cond.code yX3_divide cX3_divide 4 none, Cond.methodLink RX3 50 yX8_put, Cond.instanceMethod yX8_put, Cond.selects RX8 yX8_put yX8_put, Cond.initialized RX8, Cond.code yX8_put cX8_put 2 none]
def wsX2_followTold_r4 : List Cond := [Cond.fieldLink RX8 10 "ChooseOnce$Result" "top" "LChooseOnce$Natural;", Cond.fieldLink RX8 16 "ChooseOnce$Result" "bottom" "LChooseOnce$Natural;", Cond.fieldLink RX8 25 "ChooseOnce$Result" "sign" "I", Cond.methodLink RX8 33 yX5_copy, Cond.instanceMethod yX5_copy, Cond.selects RX5 yX5_copy yX5_copy, Cond.code yX5_copy cX5_copy 2 none, Cond.methodLink RX5 21 arraycopyName, Cond.native arraycopyName, Cond.static arraycopyName, Cond.initialized "java/lang/System", Cond.methodLink RX8 29 yX5_put, Cond.methodLink RX8 37 yX5_isZero, Cond.instanceMethod yX5_isZero, Cond.selects RX5 yX5_isZero yX5_isZero, Cond.code yX5_isZero cX5_isZero 1 (some .boolean), Cond.methodLink RX5 39 yX5_partCount, Cond.instanceMethod yX5_partCount, Cond.selects RX5 yX5_partCount yX5_partCount, Cond.code yX5_partCount cX5_partCount 2 (some .int), Cond.methodLink RX3 30 yX3_at, Cond.methodLink RX3 55 yX0_total, Cond.methodLink RX3 59 yX8_over, Cond.instanceMethod yX8_over]
def wsX2_followTold_r5 : List Cond := [Cond.selects RX8 yX8_over yX8_over, Cond.code yX8_over cX8_over 3 none, Cond.methodLink RX8 59 yX5_rest, Cond.instanceMethod yX5_rest, Cond.selects RX5 yX5_rest yX5_rest, Cond.code yX5_rest cX5_rest 5 (some .int), Cond.methodLink RX8 63 yX8_commonDivisor, Cond.static yX8_commonDivisor, Cond.code yX8_commonDivisor cX8_commonDivisor 6 (some .int), Cond.methodLink RX8 66 yX5_divide, Cond.instanceMethod yX5_divide, Cond.selects RX5 yX5_divide yX5_divide, Cond.code yX5_divide cX5_divide 5 none, Cond.methodLink RX8 69 yX5_times]
def wsX2_followTold : List Cond := .code yX2_followTold cX2_followTold 2 none :: ((wsX2_followTold_r1 ++ (wsX2_followTold_r2 ++ (wsX2_followTold_r3 ++ (wsX2_followTold_r4 ++ wsX2_followTold_r5)))) ++ wsX20 ++ wsX50 ++ wsX30 ++ wsX00 ++ wsX80)
def wsX5_against : List Cond := .code yX5_against cX5_against 3 (some .int) :: ([.fieldLink RX5 9 "ChooseOnce$Natural" "parts" "[I", .methodLink RX5 33 yJ6_compare_7cf53, .static yJ6_compare_7cf53, .initialized RJ6, .code yJ6_compare_7cf53 cJ6_compare_7cf53 2 (some .int)] ++ wsX50)
def wsX2_lowestBar_r1 : List Cond := [Cond.fieldLink RX2 42 "ChooseOnce$Comers" "trial" "LChooseOnce$Natural;", Cond.fieldLink RX2 39 "ChooseOnce$Comers" "all" "LChooseOnce$Natural;", Cond.methodLink RX2 122 yX0_leastFrom, Cond.instanceMethod yX0_leastFrom, Cond.selects RX0 yX0_leastFrom yX0_leastFrom, Cond.initialized RX0, Cond.code yX0_leastFrom cX0_leastFrom 3 (some .int), Cond.fieldLink RX0 18 "ChooseOnce$Book" "size" "I", Cond.fieldLink RX0 9 "ChooseOnce$Book" "worths" "[I", Cond.methodLink RX2 125 yX5_copy, Cond.instanceMethod yX5_copy, Cond.selects RX5 yX5_copy yX5_copy, Cond.initialized RX5, Cond.code yX5_copy cX5_copy 2 none, Cond.fieldLink RX5 9 "ChooseOnce$Natural" "parts" "[I", Cond.methodLink RX5 21 arraycopyName, Cond.native arraycopyName, Cond.static arraycopyName, Cond.initialized "java/lang/System", Cond.methodLink RX2 102 yX5_addTimes, Cond.instanceMethod yX5_addTimes, Cond.selects RX5 yX5_addTimes yX5_addTimes, Cond.code yX5_addTimes cX5_addTimes 7 none, Cond.constantLong RX5 19 (1000000000)]
def wsX2_lowestBar_r2 : List Cond := [Cond.methodLink RX2 129 yX5_against, Cond.instanceMethod yX5_against, Cond.selects RX5 yX5_against yX5_against, Cond.code yX5_against cX5_against 3 (some .int), Cond.methodLink RX5 33 yJ6_compare_7cf53, Cond.static yJ6_compare_7cf53, Cond.initialized RJ6, Cond.code yJ6_compare_7cf53 cJ6_compare_7cf53 2 (some .int)]
def wsX2_lowestBar : List Cond := .code yX2_lowestBar cX2_lowestBar 7 (some .int) :: ((wsX2_lowestBar_r1 ++ wsX2_lowestBar_r2) ++ wsX20 ++ wsX00 ++ wsX50)
def wsX2_chooseAt_r1 : List Cond := [Cond.fieldLink RX2 39 "ChooseOnce$Comers" "all" "LChooseOnce$Natural;", Cond.methodLink RX2 119 yX2_lowestBar, Cond.instanceMethod yX2_lowestBar, Cond.selects RX2 yX2_lowestBar yX2_lowestBar, Cond.initialized RX2, Cond.code yX2_lowestBar cX2_lowestBar 7 (some .int), Cond.fieldLink RX2 42 "ChooseOnce$Comers" "trial" "LChooseOnce$Natural;", Cond.methodLink RX2 122 yX0_leastFrom, Cond.instanceMethod yX0_leastFrom, Cond.selects RX0 yX0_leastFrom yX0_leastFrom, Cond.initialized RX0, Cond.code yX0_leastFrom cX0_leastFrom 3 (some .int), Cond.fieldLink RX0 18 "ChooseOnce$Book" "size" "I", Cond.fieldLink RX0 9 "ChooseOnce$Book" "worths" "[I", Cond.methodLink RX2 125 yX5_copy, Cond.instanceMethod yX5_copy, Cond.selects RX5 yX5_copy yX5_copy, Cond.initialized RX5, Cond.code yX5_copy cX5_copy 2 none, Cond.fieldLink RX5 9 "ChooseOnce$Natural" "parts" "[I", Cond.methodLink RX5 21 arraycopyName, Cond.native arraycopyName, Cond.static arraycopyName, Cond.initialized "java/lang/System"]
def wsX2_chooseAt_r2 : List Cond := [Cond.methodLink RX2 102 yX5_addTimes, Cond.instanceMethod yX5_addTimes, Cond.selects RX5 yX5_addTimes yX5_addTimes, Cond.code yX5_addTimes cX5_addTimes 7 none, Cond.constantLong RX5 19 (1000000000), Cond.methodLink RX2 129 yX5_against, Cond.instanceMethod yX5_against, Cond.selects RX5 yX5_against yX5_against, Cond.code yX5_against cX5_against 3 (some .int), Cond.methodLink RX5 33 yJ6_compare_7cf53, Cond.static yJ6_compare_7cf53, Cond.initialized RJ6, Cond.code yJ6_compare_7cf53 cJ6_compare_7cf53 2 (some .int), Cond.methodLink RX2 90 yX0_below, Cond.instanceMethod yX0_below, Cond.selects RX0 yX0_below yX0_below, Cond.code yX0_below cX0_below 4 (some .int), Cond.fieldLink RX0 15 "ChooseOnce$Book" "weights" "[I", Cond.methodLink RX2 96 yX5_times, Cond.instanceMethod yX5_times, Cond.selects RX5 yX5_times yX5_times, Cond.code yX5_times cX5_times 6 none, Cond.methodLink RX2 106 yX0_total, Cond.instanceMethod yX0_total]
def wsX2_chooseAt_r3 : List Cond := [Cond.selects RX0 yX0_total yX0_total, Cond.code yX0_total cX0_total 1 (some .int), Cond.fieldLink RX0 22 "ChooseOnce$Book" "total" "I", Cond.methodLink RX2 99 yX0_gathered, Cond.instanceMethod yX0_gathered, Cond.selects RX0 yX0_gathered yX0_gathered, Cond.code yX0_gathered cX0_gathered 4 (some .int)]
def wsX2_chooseAt : List Cond := .code yX2_chooseAt cX2_chooseAt 6 (some .int) :: ((wsX2_chooseAt_r1 ++ (wsX2_chooseAt_r2 ++ wsX2_chooseAt_r3)) ++ wsX20 ++ wsX00 ++ wsX50)
def wsX2_choose_r1 : List Cond := [Cond.fieldLink RX2 30 "ChooseOnce$Comers" "means" "[LChooseOnce$Natural;", Cond.fieldLink RX2 39 "ChooseOnce$Comers" "all" "LChooseOnce$Natural;", Cond.fieldLink RX2 12 "ChooseOnce$Comers" "crowd" "LChooseOnce$Crowd;", Cond.methodLink RX2 80 Lib.Math.min.name, Cond.static Lib.Math.min.name, Cond.initialized "java/lang/Math", Cond.code Lib.Math.min.name Lib.Math.min.code 2 (some .int), Cond.fieldLink RX2 22 "ChooseOnce$Comers" "bestBars" "[I", Cond.methodLink RX2 76 yX5_put, Cond.instanceMethod yX5_put, Cond.selects RX5 yX5_put yX5_put, Cond.initialized RX5, Cond.code yX5_put cX5_put 6 none, Cond.methodLink RX5 13 Lib.MathLoose.max_long.x, Cond.static Lib.MathLoose.max_long.x, Cond.code Lib.MathLoose.max_long.x Lib.MathLoose.max_long.code 4 (some .long), Cond.fieldLink RX5 9 "ChooseOnce$Natural" "parts" "[I", Cond.constantLong RX5 19 (1000000000), Cond.methodLink RX2 51 yX3_size, Cond.instanceMethod yX3_size, Cond.selects RX3 yX3_size yX3_size, Cond.initialized RX3, Cond.code yX3_size cX3_size 1 (some .int), Cond.fieldLink RX3 22 "ChooseOnce$Crowd" "size" "I"]
def wsX2_choose_r2 : List Cond := [Cond.methodLink RX2 86 yX3_at, Cond.instanceMethod yX3_at, Cond.selects RX3 yX3_at yX3_at, Cond.code yX3_at cX3_at 2 (some (.object "ChooseOnce$Book")), Cond.fieldLink RX3 18 "ChooseOnce$Crowd" "books" "[LChooseOnce$Book;", Cond.fieldLink RX3 12 "ChooseOnce$Crowd" "blank" "LChooseOnce$Book;", Cond.static yX10_isWithin, Cond.initialized RX10, Cond.code yX10_isWithin cX10_isWithin 6 (some .boolean), Cond.methodLink RX2 115 yX2_chooseAt, Cond.instanceMethod yX2_chooseAt, Cond.selects RX2 yX2_chooseAt yX2_chooseAt, Cond.initialized RX2, Cond.code yX2_chooseAt cX2_chooseAt 6 (some .int), Cond.methodLink RX2 119 yX2_lowestBar, Cond.instanceMethod yX2_lowestBar, Cond.selects RX2 yX2_lowestBar yX2_lowestBar, Cond.code yX2_lowestBar cX2_lowestBar 7 (some .int), Cond.fieldLink RX2 42 "ChooseOnce$Comers" "trial" "LChooseOnce$Natural;", Cond.methodLink RX2 122 yX0_leastFrom, Cond.instanceMethod yX0_leastFrom, Cond.selects RX0 yX0_leastFrom yX0_leastFrom, Cond.initialized RX0, Cond.code yX0_leastFrom cX0_leastFrom 3 (some .int)]
def wsX2_choose_r3 : List Cond := [Cond.fieldLink RX0 18 "ChooseOnce$Book" "size" "I", Cond.fieldLink RX0 9 "ChooseOnce$Book" "worths" "[I", Cond.methodLink RX2 125 yX5_copy, Cond.instanceMethod yX5_copy, Cond.selects RX5 yX5_copy yX5_copy, Cond.code yX5_copy cX5_copy 2 none, Cond.methodLink RX5 21 arraycopyName, Cond.native arraycopyName, Cond.static arraycopyName, Cond.initialized "java/lang/System", Cond.methodLink RX2 102 yX5_addTimes, Cond.instanceMethod yX5_addTimes, Cond.selects RX5 yX5_addTimes yX5_addTimes, Cond.code yX5_addTimes cX5_addTimes 7 none, Cond.methodLink RX2 129 yX5_against, Cond.instanceMethod yX5_against, Cond.selects RX5 yX5_against yX5_against, Cond.code yX5_against cX5_against 3 (some .int), Cond.methodLink RX5 33 yJ6_compare_7cf53, Cond.static yJ6_compare_7cf53, Cond.initialized RJ6, Cond.code yJ6_compare_7cf53 cJ6_compare_7cf53 2 (some .int), Cond.methodLink RX2 90 yX0_below, Cond.instanceMethod yX0_below]
def wsX2_choose_r4 : List Cond := [Cond.selects RX0 yX0_below yX0_below, Cond.code yX0_below cX0_below 4 (some .int), Cond.fieldLink RX0 15 "ChooseOnce$Book" "weights" "[I", Cond.methodLink RX2 96 yX5_times, Cond.instanceMethod yX5_times, Cond.selects RX5 yX5_times yX5_times, Cond.code yX5_times cX5_times 6 none, Cond.methodLink RX2 106 yX0_total, Cond.instanceMethod yX0_total, Cond.selects RX0 yX0_total yX0_total, Cond.code yX0_total cX0_total 1 (some .int), Cond.fieldLink RX0 22 "ChooseOnce$Book" "total" "I", Cond.methodLink RX2 99 yX0_gathered, Cond.instanceMethod yX0_gathered, Cond.selects RX0 yX0_gathered yX0_gathered, Cond.code yX0_gathered cX0_gathered 4 (some .int)]
def wsX2_choose : List Cond := .code yX2_choose cX2_choose 5 none :: ((wsX2_choose_r1 ++ (wsX2_choose_r2 ++ (wsX2_choose_r3 ++ wsX2_choose_r4))) ++ wsX20 ++ wsX50 ++ wsX30 ++ wsX00)
def wsX2_chooseUpTo_r1 : List Cond := [Cond.fieldLink RX2 12 "ChooseOnce$Comers" "crowd" "LChooseOnce$Crowd;", Cond.fieldLink RX2 30 "ChooseOnce$Comers" "means" "[LChooseOnce$Natural;", Cond.constantLong RX2 113 (10), Cond.methodLink RX2 109 yX2_choose, Cond.instanceMethod yX2_choose, Cond.selects RX2 yX2_choose yX2_choose, Cond.initialized RX2, Cond.code yX2_choose cX2_choose 5 none, Cond.fieldLink RX2 39 "ChooseOnce$Comers" "all" "LChooseOnce$Natural;", Cond.methodLink RX2 80 Lib.Math.min.name, Cond.static Lib.Math.min.name, Cond.initialized "java/lang/Math", Cond.code Lib.Math.min.name Lib.Math.min.code 2 (some .int), Cond.fieldLink RX2 22 "ChooseOnce$Comers" "bestBars" "[I", Cond.methodLink RX2 76 yX5_put, Cond.instanceMethod yX5_put, Cond.selects RX5 yX5_put yX5_put, Cond.initialized RX5, Cond.code yX5_put cX5_put 6 none, Cond.methodLink RX5 13 Lib.MathLoose.max_long.x, Cond.static Lib.MathLoose.max_long.x, Cond.code Lib.MathLoose.max_long.x Lib.MathLoose.max_long.code 4 (some .long), Cond.fieldLink RX5 9 "ChooseOnce$Natural" "parts" "[I", Cond.constantLong RX5 19 (1000000000)]
def wsX2_chooseUpTo_r2 : List Cond := [Cond.methodLink RX2 51 yX3_size, Cond.instanceMethod yX3_size, Cond.selects RX3 yX3_size yX3_size, Cond.initialized RX3, Cond.code yX3_size cX3_size 1 (some .int), Cond.fieldLink RX3 22 "ChooseOnce$Crowd" "size" "I", Cond.methodLink RX2 86 yX3_at, Cond.instanceMethod yX3_at, Cond.selects RX3 yX3_at yX3_at, Cond.code yX3_at cX3_at 2 (some (.object "ChooseOnce$Book")), Cond.fieldLink RX3 18 "ChooseOnce$Crowd" "books" "[LChooseOnce$Book;", Cond.fieldLink RX3 12 "ChooseOnce$Crowd" "blank" "LChooseOnce$Book;", Cond.static yX10_isWithin, Cond.initialized RX10, Cond.code yX10_isWithin cX10_isWithin 6 (some .boolean), Cond.methodLink RX2 115 yX2_chooseAt, Cond.instanceMethod yX2_chooseAt, Cond.selects RX2 yX2_chooseAt yX2_chooseAt, Cond.code yX2_chooseAt cX2_chooseAt 6 (some .int), Cond.methodLink RX2 119 yX2_lowestBar, Cond.instanceMethod yX2_lowestBar, Cond.selects RX2 yX2_lowestBar yX2_lowestBar, Cond.code yX2_lowestBar cX2_lowestBar 7 (some .int), Cond.fieldLink RX2 42 "ChooseOnce$Comers" "trial" "LChooseOnce$Natural;"]
def wsX2_chooseUpTo_r3 : List Cond := [Cond.methodLink RX2 122 yX0_leastFrom, Cond.instanceMethod yX0_leastFrom, Cond.selects RX0 yX0_leastFrom yX0_leastFrom, Cond.initialized RX0, Cond.code yX0_leastFrom cX0_leastFrom 3 (some .int), Cond.fieldLink RX0 18 "ChooseOnce$Book" "size" "I", Cond.fieldLink RX0 9 "ChooseOnce$Book" "worths" "[I", Cond.methodLink RX2 125 yX5_copy, Cond.instanceMethod yX5_copy, Cond.selects RX5 yX5_copy yX5_copy, Cond.code yX5_copy cX5_copy 2 none, Cond.methodLink RX5 21 arraycopyName, Cond.native arraycopyName, Cond.static arraycopyName, Cond.initialized "java/lang/System", Cond.methodLink RX2 102 yX5_addTimes, Cond.instanceMethod yX5_addTimes, Cond.selects RX5 yX5_addTimes yX5_addTimes, Cond.code yX5_addTimes cX5_addTimes 7 none, Cond.methodLink RX2 129 yX5_against, Cond.instanceMethod yX5_against, Cond.selects RX5 yX5_against yX5_against, Cond.code yX5_against cX5_against 3 (some .int), Cond.methodLink RX5 33 yJ6_compare_7cf53]
def wsX2_chooseUpTo_r4 : List Cond := [Cond.static yJ6_compare_7cf53, Cond.initialized RJ6, Cond.code yJ6_compare_7cf53 cJ6_compare_7cf53 2 (some .int), Cond.methodLink RX2 90 yX0_below, Cond.instanceMethod yX0_below, Cond.selects RX0 yX0_below yX0_below, Cond.code yX0_below cX0_below 4 (some .int), Cond.fieldLink RX0 15 "ChooseOnce$Book" "weights" "[I", Cond.methodLink RX2 96 yX5_times, Cond.instanceMethod yX5_times, Cond.selects RX5 yX5_times yX5_times, Cond.code yX5_times cX5_times 6 none, Cond.methodLink RX2 106 yX0_total, Cond.instanceMethod yX0_total, Cond.selects RX0 yX0_total yX0_total, Cond.code yX0_total cX0_total 1 (some .int), Cond.fieldLink RX0 22 "ChooseOnce$Book" "total" "I", Cond.methodLink RX2 99 yX0_gathered, Cond.instanceMethod yX0_gathered, Cond.selects RX0 yX0_gathered yX0_gathered, Cond.code yX0_gathered cX0_gathered 4 (some .int), Cond.methodLink RX2 72 yX3_divide, Cond.instanceMethod yX3_divide, Cond.selects RX3 yX3_divide yX3_divide]
def wsX2_chooseUpTo_r5 : List Cond := [Cond.code yX3_divide cX3_divide 4 none, Cond.methodLink RX3 50 yX8_put, Cond.instanceMethod yX8_put, Cond.selects RX8 yX8_put yX8_put, Cond.initialized RX8, Cond.code yX8_put cX8_put 2 none, Cond.fieldLink RX8 10 "ChooseOnce$Result" "top" "LChooseOnce$Natural;", Cond.fieldLink RX8 16 "ChooseOnce$Result" "bottom" "LChooseOnce$Natural;", Cond.fieldLink RX8 25 "ChooseOnce$Result" "sign" "I", Cond.methodLink RX8 33 yX5_copy, Cond.methodLink RX8 29 yX5_put, Cond.methodLink RX8 37 yX5_isZero, Cond.instanceMethod yX5_isZero, Cond.selects RX5 yX5_isZero yX5_isZero, Cond.code yX5_isZero cX5_isZero 1 (some .boolean), Cond.methodLink RX5 39 yX5_partCount, Cond.instanceMethod yX5_partCount, Cond.selects RX5 yX5_partCount yX5_partCount, Cond.code yX5_partCount cX5_partCount 2 (some .int), Cond.methodLink RX3 30 yX3_at, Cond.methodLink RX3 55 yX0_total, Cond.methodLink RX3 59 yX8_over, Cond.instanceMethod yX8_over, Cond.selects RX8 yX8_over yX8_over]
def wsX2_chooseUpTo_r6 : List Cond := [Cond.code yX8_over cX8_over 3 none, Cond.methodLink RX8 59 yX5_rest, Cond.instanceMethod yX5_rest, Cond.selects RX5 yX5_rest yX5_rest, Cond.code yX5_rest cX5_rest 5 (some .int), Cond.methodLink RX8 63 yX8_commonDivisor, Cond.static yX8_commonDivisor, Cond.code yX8_commonDivisor cX8_commonDivisor 6 (some .int), Cond.methodLink RX8 66 yX5_divide, Cond.instanceMethod yX5_divide, Cond.selects RX5 yX5_divide yX5_divide, Cond.code yX5_divide cX5_divide 5 none, Cond.methodLink RX8 69 yX5_times]
def wsX2_chooseUpTo : List Cond := .code yX2_chooseUpTo cX2_chooseUpTo 3 none :: ((wsX2_chooseUpTo_r1 ++ (wsX2_chooseUpTo_r2 ++ (wsX2_chooseUpTo_r3 ++ (wsX2_chooseUpTo_r4 ++ (wsX2_chooseUpTo_r5 ++ wsX2_chooseUpTo_r6))))) ++ wsX20 ++ wsX50 ++ wsX30 ++ wsX00 ++ wsX80)
def wsX2_bestBar_r1 : List Cond := [Cond.constantLong RX2 62 (9), Cond.fieldLink RX2 22 "ChooseOnce$Comers" "bestBars" "[I", Cond.methodLink RX2 109 yX2_choose, Cond.instanceMethod yX2_choose, Cond.selects RX2 yX2_choose yX2_choose, Cond.initialized RX2, Cond.code yX2_choose cX2_choose 5 none, Cond.fieldLink RX2 30 "ChooseOnce$Comers" "means" "[LChooseOnce$Natural;", Cond.fieldLink RX2 39 "ChooseOnce$Comers" "all" "LChooseOnce$Natural;", Cond.fieldLink RX2 12 "ChooseOnce$Comers" "crowd" "LChooseOnce$Crowd;", Cond.methodLink RX2 80 Lib.Math.min.name, Cond.static Lib.Math.min.name, Cond.initialized "java/lang/Math", Cond.code Lib.Math.min.name Lib.Math.min.code 2 (some .int), Cond.methodLink RX2 76 yX5_put, Cond.instanceMethod yX5_put, Cond.selects RX5 yX5_put yX5_put, Cond.initialized RX5, Cond.code yX5_put cX5_put 6 none, Cond.methodLink RX5 13 Lib.MathLoose.max_long.x, Cond.static Lib.MathLoose.max_long.x, Cond.code Lib.MathLoose.max_long.x Lib.MathLoose.max_long.code 4 (some .long), Cond.fieldLink RX5 9 "ChooseOnce$Natural" "parts" "[I", Cond.constantLong RX5 19 (1000000000)]
def wsX2_bestBar_r2 : List Cond := [Cond.methodLink RX2 51 yX3_size, Cond.instanceMethod yX3_size, Cond.selects RX3 yX3_size yX3_size, Cond.initialized RX3, Cond.code yX3_size cX3_size 1 (some .int), Cond.fieldLink RX3 22 "ChooseOnce$Crowd" "size" "I", Cond.methodLink RX2 86 yX3_at, Cond.instanceMethod yX3_at, Cond.selects RX3 yX3_at yX3_at, Cond.code yX3_at cX3_at 2 (some (.object "ChooseOnce$Book")), Cond.fieldLink RX3 18 "ChooseOnce$Crowd" "books" "[LChooseOnce$Book;", Cond.fieldLink RX3 12 "ChooseOnce$Crowd" "blank" "LChooseOnce$Book;", Cond.static yX10_isWithin, Cond.initialized RX10, Cond.code yX10_isWithin cX10_isWithin 6 (some .boolean), Cond.methodLink RX2 115 yX2_chooseAt, Cond.instanceMethod yX2_chooseAt, Cond.selects RX2 yX2_chooseAt yX2_chooseAt, Cond.code yX2_chooseAt cX2_chooseAt 6 (some .int), Cond.methodLink RX2 119 yX2_lowestBar, Cond.instanceMethod yX2_lowestBar, Cond.selects RX2 yX2_lowestBar yX2_lowestBar, Cond.code yX2_lowestBar cX2_lowestBar 7 (some .int), Cond.fieldLink RX2 42 "ChooseOnce$Comers" "trial" "LChooseOnce$Natural;"]
def wsX2_bestBar_r3 : List Cond := [Cond.methodLink RX2 122 yX0_leastFrom, Cond.instanceMethod yX0_leastFrom, Cond.selects RX0 yX0_leastFrom yX0_leastFrom, Cond.initialized RX0, Cond.code yX0_leastFrom cX0_leastFrom 3 (some .int), Cond.fieldLink RX0 18 "ChooseOnce$Book" "size" "I", Cond.fieldLink RX0 9 "ChooseOnce$Book" "worths" "[I", Cond.methodLink RX2 125 yX5_copy, Cond.instanceMethod yX5_copy, Cond.selects RX5 yX5_copy yX5_copy, Cond.code yX5_copy cX5_copy 2 none, Cond.methodLink RX5 21 arraycopyName, Cond.native arraycopyName, Cond.static arraycopyName, Cond.initialized "java/lang/System", Cond.methodLink RX2 102 yX5_addTimes, Cond.instanceMethod yX5_addTimes, Cond.selects RX5 yX5_addTimes yX5_addTimes, Cond.code yX5_addTimes cX5_addTimes 7 none, Cond.methodLink RX2 129 yX5_against, Cond.instanceMethod yX5_against, Cond.selects RX5 yX5_against yX5_against, Cond.code yX5_against cX5_against 3 (some .int), Cond.methodLink RX5 33 yJ6_compare_7cf53]
def wsX2_bestBar_r4 : List Cond := [Cond.static yJ6_compare_7cf53, Cond.initialized RJ6, Cond.code yJ6_compare_7cf53 cJ6_compare_7cf53 2 (some .int), Cond.methodLink RX2 90 yX0_below, Cond.instanceMethod yX0_below, Cond.selects RX0 yX0_below yX0_below, Cond.code yX0_below cX0_below 4 (some .int), Cond.fieldLink RX0 15 "ChooseOnce$Book" "weights" "[I", Cond.methodLink RX2 96 yX5_times, Cond.instanceMethod yX5_times, Cond.selects RX5 yX5_times yX5_times, Cond.code yX5_times cX5_times 6 none, Cond.methodLink RX2 106 yX0_total, Cond.instanceMethod yX0_total, Cond.selects RX0 yX0_total yX0_total, Cond.code yX0_total cX0_total 1 (some .int), Cond.fieldLink RX0 22 "ChooseOnce$Book" "total" "I", Cond.methodLink RX2 99 yX0_gathered, Cond.instanceMethod yX0_gathered, Cond.selects RX0 yX0_gathered yX0_gathered, Cond.code yX0_gathered cX0_gathered 4 (some .int)]
def wsX2_bestBar : List Cond := .code yX2_bestBar cX2_bestBar 2 (some .int) :: ((wsX2_bestBar_r1 ++ (wsX2_bestBar_r2 ++ (wsX2_bestBar_r3 ++ wsX2_bestBar_r4))) ++ wsX20 ++ wsX50 ++ wsX30 ++ wsX00)
def wsJ9_floorMod_f86c9 : List Cond := .code yJ9_floorMod_f86c9 cJ9_floorMod_f86c9 6 (some .long) :: ([])
def wsJ9_floorDiv_f86c9 : List Cond := .code yJ9_floorDiv_f86c9 cJ9_floorDiv_f86c9 6 (some .long) :: ([])
def wsX5_takeTimes : List Cond := .code yX5_takeTimes cX5_takeTimes 7 none :: ([.fieldLink RX5 9 "ChooseOnce$Natural" "parts" "[I", .constantLong RX5 19 (1000000000), .methodLink RX5 27 yJ9_floorMod_f86c9, .static yJ9_floorMod_f86c9, .initialized RJ9, .code yJ9_floorMod_f86c9 cJ9_floorMod_f86c9 6 (some .long), .methodLink RX5 30 yJ9_floorDiv_f86c9, .static yJ9_floorDiv_f86c9, .code yJ9_floorDiv_f86c9 cJ9_floorDiv_f86c9 6 (some .long)] ++ wsX50)
def wsX2_foresee_r1 : List Cond := [Cond.fieldLink RX2 48 "ChooseOnce$Comers" "foreseen" "LChooseOnce$Natural;", Cond.fieldLink RX2 45 "ChooseOnce$Comers" "before" "LChooseOnce$Natural;", Cond.fieldLink RX2 12 "ChooseOnce$Comers" "crowd" "LChooseOnce$Crowd;", Cond.fieldLink RX2 42 "ChooseOnce$Comers" "trial" "LChooseOnce$Natural;", Cond.methodLink RX2 76 yX5_put, Cond.instanceMethod yX5_put, Cond.selects RX5 yX5_put yX5_put, Cond.initialized RX5, Cond.code yX5_put cX5_put 6 none, Cond.methodLink RX5 13 Lib.MathLoose.max_long.x, Cond.static Lib.MathLoose.max_long.x, Cond.initialized "java/lang/Math", Cond.code Lib.MathLoose.max_long.x Lib.MathLoose.max_long.code 4 (some .long), Cond.fieldLink RX5 9 "ChooseOnce$Natural" "parts" "[I", Cond.constantLong RX5 19 (1000000000), Cond.methodLink RX2 136 yX3_leastFrom, Cond.instanceMethod yX3_leastFrom, Cond.selects RX3 yX3_leastFrom yX3_leastFrom, Cond.initialized RX3, Cond.code yX3_leastFrom cX3_leastFrom 5 (some .int), Cond.fieldLink RX3 22 "ChooseOnce$Crowd" "size" "I", Cond.methodLink RX3 30 yX3_at, Cond.instanceMethod yX3_at, Cond.selects RX3 yX3_at yX3_at]
def wsX2_foresee_r2 : List Cond := [Cond.code yX3_at cX3_at 2 (some (.object "ChooseOnce$Book")), Cond.fieldLink RX3 18 "ChooseOnce$Crowd" "books" "[LChooseOnce$Book;", Cond.fieldLink RX3 12 "ChooseOnce$Crowd" "blank" "LChooseOnce$Book;", Cond.static yX10_isWithin, Cond.initialized RX10, Cond.code yX10_isWithin cX10_isWithin 6 (some .boolean), Cond.methodLink RX3 34 yX0_leastFrom, Cond.instanceMethod yX0_leastFrom, Cond.selects RX0 yX0_leastFrom yX0_leastFrom, Cond.initialized RX0, Cond.code yX0_leastFrom cX0_leastFrom 3 (some .int), Cond.fieldLink RX0 18 "ChooseOnce$Book" "size" "I", Cond.fieldLink RX0 9 "ChooseOnce$Book" "worths" "[I", Cond.methodLink RX2 137 yX3_waysUpTo, Cond.instanceMethod yX3_waysUpTo, Cond.selects RX3 yX3_waysUpTo yX3_waysUpTo, Cond.code yX3_waysUpTo cX3_waysUpTo 4 none, Cond.methodLink RX3 38 yX5_put, Cond.methodLink RX3 44 yX0_below, Cond.instanceMethod yX0_below, Cond.selects RX0 yX0_below yX0_below, Cond.code yX0_below cX0_below 4 (some .int), Cond.fieldLink RX0 15 "ChooseOnce$Book" "weights" "[I", Cond.methodLink RX3 47 yX5_times]
def wsX2_foresee_r3 : List Cond := [Cond.instanceMethod yX5_times, Cond.selects RX5 yX5_times yX5_times, Cond.code yX5_times cX5_times 6 none, Cond.methodLink RX2 102 yX5_addTimes, Cond.instanceMethod yX5_addTimes, Cond.selects RX5 yX5_addTimes yX5_addTimes, Cond.code yX5_addTimes cX5_addTimes 7 none, Cond.methodLink RX2 141 yX5_takeTimes, Cond.instanceMethod yX5_takeTimes, Cond.selects RX5 yX5_takeTimes yX5_takeTimes, Cond.code yX5_takeTimes cX5_takeTimes 7 none, Cond.methodLink RX5 27 yJ9_floorMod_f86c9, Cond.static yJ9_floorMod_f86c9, Cond.initialized RJ9, Cond.code yJ9_floorMod_f86c9 cJ9_floorMod_f86c9 6 (some .long), Cond.methodLink RX5 30 yJ9_floorDiv_f86c9, Cond.static yJ9_floorDiv_f86c9, Cond.code yJ9_floorDiv_f86c9 cJ9_floorDiv_f86c9 6 (some .long), Cond.methodLink RX2 125 yX5_copy, Cond.instanceMethod yX5_copy, Cond.selects RX5 yX5_copy yX5_copy, Cond.code yX5_copy cX5_copy 2 none, Cond.methodLink RX5 21 arraycopyName, Cond.native arraycopyName]
def wsX2_foresee_r4 : List Cond := [Cond.static arraycopyName, Cond.initialized "java/lang/System"]
def wsX2_foresee : List Cond := .code yX2_foresee cX2_foresee 3 none :: ((wsX2_foresee_r1 ++ (wsX2_foresee_r2 ++ (wsX2_foresee_r3 ++ wsX2_foresee_r4))) ++ wsX20 ++ wsX50 ++ wsX30 ++ wsX00)
def wsX2_foreseeInto_r1 : List Cond := [Cond.fieldLink RX2 12 "ChooseOnce$Comers" "crowd" "LChooseOnce$Crowd;", Cond.fieldLink RX2 48 "ChooseOnce$Comers" "foreseen" "LChooseOnce$Natural;", Cond.methodLink RX2 133 yX2_foresee, Cond.instanceMethod yX2_foresee, Cond.selects RX2 yX2_foresee yX2_foresee, Cond.initialized RX2, Cond.code yX2_foresee cX2_foresee 3 none, Cond.fieldLink RX2 45 "ChooseOnce$Comers" "before" "LChooseOnce$Natural;", Cond.fieldLink RX2 42 "ChooseOnce$Comers" "trial" "LChooseOnce$Natural;", Cond.methodLink RX2 76 yX5_put, Cond.instanceMethod yX5_put, Cond.selects RX5 yX5_put yX5_put, Cond.initialized RX5, Cond.code yX5_put cX5_put 6 none, Cond.methodLink RX5 13 Lib.MathLoose.max_long.x, Cond.static Lib.MathLoose.max_long.x, Cond.initialized "java/lang/Math", Cond.code Lib.MathLoose.max_long.x Lib.MathLoose.max_long.code 4 (some .long), Cond.fieldLink RX5 9 "ChooseOnce$Natural" "parts" "[I", Cond.constantLong RX5 19 (1000000000), Cond.methodLink RX2 136 yX3_leastFrom, Cond.instanceMethod yX3_leastFrom, Cond.selects RX3 yX3_leastFrom yX3_leastFrom, Cond.initialized RX3]
def wsX2_foreseeInto_r2 : List Cond := [Cond.code yX3_leastFrom cX3_leastFrom 5 (some .int), Cond.fieldLink RX3 22 "ChooseOnce$Crowd" "size" "I", Cond.methodLink RX3 30 yX3_at, Cond.instanceMethod yX3_at, Cond.selects RX3 yX3_at yX3_at, Cond.code yX3_at cX3_at 2 (some (.object "ChooseOnce$Book")), Cond.fieldLink RX3 18 "ChooseOnce$Crowd" "books" "[LChooseOnce$Book;", Cond.fieldLink RX3 12 "ChooseOnce$Crowd" "blank" "LChooseOnce$Book;", Cond.static yX10_isWithin, Cond.initialized RX10, Cond.code yX10_isWithin cX10_isWithin 6 (some .boolean), Cond.methodLink RX3 34 yX0_leastFrom, Cond.instanceMethod yX0_leastFrom, Cond.selects RX0 yX0_leastFrom yX0_leastFrom, Cond.initialized RX0, Cond.code yX0_leastFrom cX0_leastFrom 3 (some .int), Cond.fieldLink RX0 18 "ChooseOnce$Book" "size" "I", Cond.fieldLink RX0 9 "ChooseOnce$Book" "worths" "[I", Cond.methodLink RX2 137 yX3_waysUpTo, Cond.instanceMethod yX3_waysUpTo, Cond.selects RX3 yX3_waysUpTo yX3_waysUpTo, Cond.code yX3_waysUpTo cX3_waysUpTo 4 none, Cond.methodLink RX3 38 yX5_put, Cond.methodLink RX3 44 yX0_below]
def wsX2_foreseeInto_r3 : List Cond := [Cond.instanceMethod yX0_below, Cond.selects RX0 yX0_below yX0_below, Cond.code yX0_below cX0_below 4 (some .int), Cond.fieldLink RX0 15 "ChooseOnce$Book" "weights" "[I", Cond.methodLink RX3 47 yX5_times, Cond.instanceMethod yX5_times, Cond.selects RX5 yX5_times yX5_times, Cond.code yX5_times cX5_times 6 none, Cond.methodLink RX2 102 yX5_addTimes, Cond.instanceMethod yX5_addTimes, Cond.selects RX5 yX5_addTimes yX5_addTimes, Cond.code yX5_addTimes cX5_addTimes 7 none, Cond.methodLink RX2 141 yX5_takeTimes, Cond.instanceMethod yX5_takeTimes, Cond.selects RX5 yX5_takeTimes yX5_takeTimes, Cond.code yX5_takeTimes cX5_takeTimes 7 none, Cond.methodLink RX5 27 yJ9_floorMod_f86c9, Cond.static yJ9_floorMod_f86c9, Cond.initialized RJ9, Cond.code yJ9_floorMod_f86c9 cJ9_floorMod_f86c9 6 (some .long), Cond.methodLink RX5 30 yJ9_floorDiv_f86c9, Cond.static yJ9_floorDiv_f86c9, Cond.code yJ9_floorDiv_f86c9 cJ9_floorDiv_f86c9 6 (some .long), Cond.methodLink RX2 125 yX5_copy]
def wsX2_foreseeInto_r4 : List Cond := [Cond.instanceMethod yX5_copy, Cond.selects RX5 yX5_copy yX5_copy, Cond.code yX5_copy cX5_copy 2 none, Cond.methodLink RX5 21 arraycopyName, Cond.native arraycopyName, Cond.static arraycopyName, Cond.initialized "java/lang/System", Cond.methodLink RX2 72 yX3_divide, Cond.instanceMethod yX3_divide, Cond.selects RX3 yX3_divide yX3_divide, Cond.code yX3_divide cX3_divide 4 none, Cond.methodLink RX3 50 yX8_put, Cond.instanceMethod yX8_put, Cond.selects RX8 yX8_put yX8_put, Cond.initialized RX8, Cond.code yX8_put cX8_put 2 none, Cond.fieldLink RX8 10 "ChooseOnce$Result" "top" "LChooseOnce$Natural;", Cond.fieldLink RX8 16 "ChooseOnce$Result" "bottom" "LChooseOnce$Natural;", Cond.fieldLink RX8 25 "ChooseOnce$Result" "sign" "I", Cond.methodLink RX8 33 yX5_copy, Cond.methodLink RX8 29 yX5_put, Cond.methodLink RX8 37 yX5_isZero, Cond.instanceMethod yX5_isZero, Cond.selects RX5 yX5_isZero yX5_isZero]
def wsX2_foreseeInto_r5 : List Cond := [Cond.code yX5_isZero cX5_isZero 1 (some .boolean), Cond.methodLink RX5 39 yX5_partCount, Cond.instanceMethod yX5_partCount, Cond.selects RX5 yX5_partCount yX5_partCount, Cond.code yX5_partCount cX5_partCount 2 (some .int), Cond.methodLink RX3 55 yX0_total, Cond.instanceMethod yX0_total, Cond.selects RX0 yX0_total yX0_total, Cond.code yX0_total cX0_total 1 (some .int), Cond.fieldLink RX0 22 "ChooseOnce$Book" "total" "I", Cond.methodLink RX3 59 yX8_over, Cond.instanceMethod yX8_over, Cond.selects RX8 yX8_over yX8_over, Cond.code yX8_over cX8_over 3 none, Cond.methodLink RX8 59 yX5_rest, Cond.instanceMethod yX5_rest, Cond.selects RX5 yX5_rest yX5_rest, Cond.code yX5_rest cX5_rest 5 (some .int), Cond.methodLink RX8 63 yX8_commonDivisor, Cond.static yX8_commonDivisor, Cond.code yX8_commonDivisor cX8_commonDivisor 6 (some .int), Cond.methodLink RX8 66 yX5_divide, Cond.instanceMethod yX5_divide, Cond.selects RX5 yX5_divide yX5_divide]
def wsX2_foreseeInto_r6 : List Cond := [Cond.code yX5_divide cX5_divide 5 none, Cond.methodLink RX8 69 yX5_times]
def wsX2_foreseeInto : List Cond := .code yX2_foreseeInto cX2_foreseeInto 2 none :: ((wsX2_foreseeInto_r1 ++ (wsX2_foreseeInto_r2 ++ (wsX2_foreseeInto_r3 ++ (wsX2_foreseeInto_r4 ++ (wsX2_foreseeInto_r5 ++ wsX2_foreseeInto_r6))))) ++ wsX20 ++ wsX50 ++ wsX30 ++ wsX00 ++ wsX80)
def wsJ7_fill_53178 : List Cond := .code yJ7_fill_53178 cJ7_fill_53178 4 none :: ([])
def wsX2_lowestBarForHalf_r1 : List Cond := [Cond.fieldLink RX2 25 "ChooseOnce$Comers" "evenBars" "[I", Cond.fieldLink RX2 35 "ChooseOnce$Comers" "mean" "LChooseOnce$Natural;", Cond.constantLong RX2 150 (2), Cond.fieldLink RX2 12 "ChooseOnce$Comers" "crowd" "LChooseOnce$Crowd;", Cond.fieldLink RX2 48 "ChooseOnce$Comers" "foreseen" "LChooseOnce$Natural;", Cond.methodLink RX2 133 yX2_foresee, Cond.instanceMethod yX2_foresee, Cond.selects RX2 yX2_foresee yX2_foresee, Cond.initialized RX2, Cond.code yX2_foresee cX2_foresee 3 none, Cond.fieldLink RX2 45 "ChooseOnce$Comers" "before" "LChooseOnce$Natural;", Cond.fieldLink RX2 42 "ChooseOnce$Comers" "trial" "LChooseOnce$Natural;", Cond.methodLink RX2 76 yX5_put, Cond.instanceMethod yX5_put, Cond.selects RX5 yX5_put yX5_put, Cond.initialized RX5, Cond.code yX5_put cX5_put 6 none, Cond.methodLink RX5 13 Lib.MathLoose.max_long.x, Cond.static Lib.MathLoose.max_long.x, Cond.initialized "java/lang/Math", Cond.code Lib.MathLoose.max_long.x Lib.MathLoose.max_long.code 4 (some .long), Cond.fieldLink RX5 9 "ChooseOnce$Natural" "parts" "[I", Cond.constantLong RX5 19 (1000000000), Cond.methodLink RX2 136 yX3_leastFrom]
def wsX2_lowestBarForHalf_r2 : List Cond := [Cond.instanceMethod yX3_leastFrom, Cond.selects RX3 yX3_leastFrom yX3_leastFrom, Cond.initialized RX3, Cond.code yX3_leastFrom cX3_leastFrom 5 (some .int), Cond.fieldLink RX3 22 "ChooseOnce$Crowd" "size" "I", Cond.methodLink RX3 30 yX3_at, Cond.instanceMethod yX3_at, Cond.selects RX3 yX3_at yX3_at, Cond.code yX3_at cX3_at 2 (some (.object "ChooseOnce$Book")), Cond.fieldLink RX3 18 "ChooseOnce$Crowd" "books" "[LChooseOnce$Book;", Cond.fieldLink RX3 12 "ChooseOnce$Crowd" "blank" "LChooseOnce$Book;", Cond.static yX10_isWithin, Cond.initialized RX10, Cond.code yX10_isWithin cX10_isWithin 6 (some .boolean), Cond.methodLink RX3 34 yX0_leastFrom, Cond.instanceMethod yX0_leastFrom, Cond.selects RX0 yX0_leastFrom yX0_leastFrom, Cond.initialized RX0, Cond.code yX0_leastFrom cX0_leastFrom 3 (some .int), Cond.fieldLink RX0 18 "ChooseOnce$Book" "size" "I", Cond.fieldLink RX0 9 "ChooseOnce$Book" "worths" "[I", Cond.methodLink RX2 137 yX3_waysUpTo, Cond.instanceMethod yX3_waysUpTo, Cond.selects RX3 yX3_waysUpTo yX3_waysUpTo]
def wsX2_lowestBarForHalf_r3 : List Cond := [Cond.code yX3_waysUpTo cX3_waysUpTo 4 none, Cond.methodLink RX3 38 yX5_put, Cond.methodLink RX3 44 yX0_below, Cond.instanceMethod yX0_below, Cond.selects RX0 yX0_below yX0_below, Cond.code yX0_below cX0_below 4 (some .int), Cond.fieldLink RX0 15 "ChooseOnce$Book" "weights" "[I", Cond.methodLink RX3 47 yX5_times, Cond.instanceMethod yX5_times, Cond.selects RX5 yX5_times yX5_times, Cond.code yX5_times cX5_times 6 none, Cond.methodLink RX2 102 yX5_addTimes, Cond.instanceMethod yX5_addTimes, Cond.selects RX5 yX5_addTimes yX5_addTimes, Cond.code yX5_addTimes cX5_addTimes 7 none, Cond.methodLink RX2 141 yX5_takeTimes, Cond.instanceMethod yX5_takeTimes, Cond.selects RX5 yX5_takeTimes yX5_takeTimes, Cond.code yX5_takeTimes cX5_takeTimes 7 none, Cond.methodLink RX5 27 yJ9_floorMod_f86c9, Cond.static yJ9_floorMod_f86c9, Cond.initialized RJ9, Cond.code yJ9_floorMod_f86c9 cJ9_floorMod_f86c9 6 (some .long), Cond.methodLink RX5 30 yJ9_floorDiv_f86c9]
def wsX2_lowestBarForHalf_r4 : List Cond := [Cond.static yJ9_floorDiv_f86c9, Cond.code yJ9_floorDiv_f86c9 cJ9_floorDiv_f86c9 6 (some .long), Cond.methodLink RX2 125 yX5_copy, Cond.instanceMethod yX5_copy, Cond.selects RX5 yX5_copy yX5_copy, Cond.code yX5_copy cX5_copy 2 none, Cond.methodLink RX5 21 arraycopyName, Cond.native arraycopyName, Cond.static arraycopyName, Cond.initialized "java/lang/System", Cond.methodLink RX2 144 yJ7_fill_53178, Cond.static yJ7_fill_53178, Cond.initialized RJ7, Cond.code yJ7_fill_53178 cJ7_fill_53178 4 none, Cond.methodLink RX2 68 yX2_follow, Cond.instanceMethod yX2_follow, Cond.selects RX2 yX2_follow yX2_follow, Cond.code yX2_follow cX2_follow 4 none, Cond.fieldLink RX2 39 "ChooseOnce$Comers" "all" "LChooseOnce$Natural;", Cond.methodLink RX2 80 Lib.Math.min.name, Cond.static Lib.Math.min.name, Cond.code Lib.Math.min.name Lib.Math.min.code 2 (some .int), Cond.methodLink RX2 51 yX3_size, Cond.instanceMethod yX3_size]
def wsX2_lowestBarForHalf_r5 : List Cond := [Cond.selects RX3 yX3_size yX3_size, Cond.code yX3_size cX3_size 1 (some .int), Cond.methodLink RX2 86 yX3_at, Cond.methodLink RX2 90 yX0_below, Cond.methodLink RX2 96 yX5_times, Cond.methodLink RX2 99 yX0_gathered, Cond.instanceMethod yX0_gathered, Cond.selects RX0 yX0_gathered yX0_gathered, Cond.code yX0_gathered cX0_gathered 4 (some .int), Cond.methodLink RX2 106 yX0_total, Cond.instanceMethod yX0_total, Cond.selects RX0 yX0_total yX0_total, Cond.code yX0_total cX0_total 1 (some .int), Cond.fieldLink RX0 22 "ChooseOnce$Book" "total" "I", Cond.methodLink RX2 129 yX5_against, Cond.instanceMethod yX5_against, Cond.selects RX5 yX5_against yX5_against, Cond.code yX5_against cX5_against 3 (some .int), Cond.methodLink RX5 33 yJ6_compare_7cf53, Cond.static yJ6_compare_7cf53, Cond.initialized RJ6, Cond.code yJ6_compare_7cf53 cJ6_compare_7cf53 2 (some .int)]
def wsX2_lowestBarForHalf : List Cond := .code yX2_lowestBarForHalf cX2_lowestBarForHalf 4 (some .int) :: ((wsX2_lowestBarForHalf_r1 ++ (wsX2_lowestBarForHalf_r2 ++ (wsX2_lowestBarForHalf_r3 ++ (wsX2_lowestBarForHalf_r4 ++ wsX2_lowestBarForHalf_r5)))) ++ wsX20 ++ wsX50 ++ wsX30 ++ wsX00)
def wsX4_init : List Cond := .code yX4_init cX4_init 1 none :: ([.methodLink RX4 3 objectInit, .instanceMethod objectInit, .code objectInit ⟨#[0xb1]⟩ 1 none, .arrayClass .int, .fieldLink RX4 9 "ChooseOnce$Happenings" "tops" "[I", .fieldLink RX4 15 "ChooseOnce$Happenings" "bottoms" "[I", .fieldLink RX4 18 "ChooseOnce$Happenings" "size" "I", .classLink RX4 22 RX5, .instantiable RX5 1, .initialized RX5, .fieldLink RX4 25 "ChooseOnce$Happenings" "win" "LChooseOnce$Natural;", .fieldLink RX4 29 "ChooseOnce$Happenings" "quiet" "LChooseOnce$Natural;", .fieldLink RX4 32 "ChooseOnce$Happenings" "most" "LChooseOnce$Natural;", .instanceMethod yX5_init, .code yX5_init cX5_init 1 none, .methodLink RX5 1 objectInit, .fieldLink RX5 9 "ChooseOnce$Natural" "parts" "[I"] ++ wsX40 ++ wsX50)
def wsX4_size : List Cond := .code yX4_size cX4_size 1 (some .int) :: ([.fieldLink RX4 18 "ChooseOnce$Happenings" "size" "I"] ++ wsX40)
def wsX4_join : List Cond := .code yX4_join cX4_join 3 (some .int) :: ([.fieldLink RX4 18 "ChooseOnce$Happenings" "size" "I", .fieldLink RX4 9 "ChooseOnce$Happenings" "tops" "[I", .fieldLink RX4 15 "ChooseOnce$Happenings" "bottoms" "[I"] ++ wsX40)
def wsX4_clear : List Cond := .code yX4_clear cX4_clear 2 (some .int) :: ([.fieldLink RX4 18 "ChooseOnce$Happenings" "size" "I"] ++ wsX40)
def wsX4_startAt : List Cond := .code yX4_startAt cX4_startAt 3 none :: ([.fieldLink RX4 15 "ChooseOnce$Happenings" "bottoms" "[I", .fieldLink RX4 9 "ChooseOnce$Happenings" "tops" "[I", .fieldLink RX4 25 "ChooseOnce$Happenings" "win" "LChooseOnce$Natural;", .fieldLink RX4 29 "ChooseOnce$Happenings" "quiet" "LChooseOnce$Natural;", .fieldLink RX4 32 "ChooseOnce$Happenings" "most" "LChooseOnce$Natural;", .methodLink RX4 58 yX5_times, .instanceMethod yX5_times, .selects RX5 yX5_times yX5_times, .initialized RX5, .code yX5_times cX5_times 6 none, .fieldLink RX5 9 "ChooseOnce$Natural" "parts" "[I", .constantLong RX5 19 (1000000000), .methodLink RX4 61 yX5_addTimes, .instanceMethod yX5_addTimes, .selects RX5 yX5_addTimes yX5_addTimes, .code yX5_addTimes cX5_addTimes 7 none] ++ wsX40 ++ wsX50)
def wsX4_bestStart_r1 : List Cond := [Cond.fieldLink RX4 18 "ChooseOnce$Happenings" "size" "I", Cond.fieldLink RX4 25 "ChooseOnce$Happenings" "win" "LChooseOnce$Natural;", Cond.fieldLink RX4 29 "ChooseOnce$Happenings" "quiet" "LChooseOnce$Natural;", Cond.fieldLink RX4 32 "ChooseOnce$Happenings" "most" "LChooseOnce$Natural;", Cond.fieldLink RX4 15 "ChooseOnce$Happenings" "bottoms" "[I", Cond.methodLink RX4 35 yX5_put, Cond.instanceMethod yX5_put, Cond.selects RX5 yX5_put yX5_put, Cond.initialized RX5, Cond.code yX5_put cX5_put 6 none, Cond.methodLink RX5 13 Lib.MathLoose.max_long.x, Cond.static Lib.MathLoose.max_long.x, Cond.initialized "java/lang/Math", Cond.code Lib.MathLoose.max_long.x Lib.MathLoose.max_long.code 4 (some .long), Cond.fieldLink RX5 9 "ChooseOnce$Natural" "parts" "[I", Cond.constantLong RX5 19 (1000000000), Cond.methodLink RX4 39 yX4_startAt, Cond.instanceMethod yX4_startAt, Cond.selects RX4 yX4_startAt yX4_startAt, Cond.initialized RX4, Cond.code yX4_startAt cX4_startAt 3 none, Cond.fieldLink RX4 9 "ChooseOnce$Happenings" "tops" "[I", Cond.methodLink RX4 58 yX5_times, Cond.instanceMethod yX5_times]
def wsX4_bestStart_r2 : List Cond := [Cond.selects RX5 yX5_times yX5_times, Cond.code yX5_times cX5_times 6 none, Cond.methodLink RX4 61 yX5_addTimes, Cond.instanceMethod yX5_addTimes, Cond.selects RX5 yX5_addTimes yX5_addTimes, Cond.code yX5_addTimes cX5_addTimes 7 none, Cond.methodLink RX4 43 yX5_against, Cond.instanceMethod yX5_against, Cond.selects RX5 yX5_against yX5_against, Cond.code yX5_against cX5_against 3 (some .int), Cond.methodLink RX5 33 yJ6_compare_7cf53, Cond.static yJ6_compare_7cf53, Cond.initialized RJ6, Cond.code yJ6_compare_7cf53 cJ6_compare_7cf53 2 (some .int), Cond.methodLink RX4 47 yX5_copy, Cond.instanceMethod yX5_copy, Cond.selects RX5 yX5_copy yX5_copy, Cond.code yX5_copy cX5_copy 2 none, Cond.methodLink RX5 21 arraycopyName, Cond.native arraycopyName, Cond.static arraycopyName, Cond.initialized "java/lang/System", Cond.methodLink RX4 51 yX8_put, Cond.instanceMethod yX8_put]
def wsX4_bestStart_r3 : List Cond := [Cond.selects RX8 yX8_put yX8_put, Cond.initialized RX8, Cond.code yX8_put cX8_put 2 none, Cond.fieldLink RX8 10 "ChooseOnce$Result" "top" "LChooseOnce$Natural;", Cond.fieldLink RX8 16 "ChooseOnce$Result" "bottom" "LChooseOnce$Natural;", Cond.fieldLink RX8 25 "ChooseOnce$Result" "sign" "I", Cond.methodLink RX8 33 yX5_copy, Cond.methodLink RX8 29 yX5_put, Cond.methodLink RX8 37 yX5_isZero, Cond.instanceMethod yX5_isZero, Cond.selects RX5 yX5_isZero yX5_isZero, Cond.code yX5_isZero cX5_isZero 1 (some .boolean), Cond.methodLink RX5 39 yX5_partCount, Cond.instanceMethod yX5_partCount, Cond.selects RX5 yX5_partCount yX5_partCount, Cond.code yX5_partCount cX5_partCount 2 (some .int), Cond.methodLink RX4 55 yX8_over, Cond.instanceMethod yX8_over, Cond.selects RX8 yX8_over yX8_over, Cond.code yX8_over cX8_over 3 none, Cond.methodLink RX8 59 yX5_rest, Cond.instanceMethod yX5_rest, Cond.selects RX5 yX5_rest yX5_rest, Cond.code yX5_rest cX5_rest 5 (some .int)]
def wsX4_bestStart_r4 : List Cond := [Cond.methodLink RX8 63 yX8_commonDivisor, Cond.static yX8_commonDivisor, Cond.code yX8_commonDivisor cX8_commonDivisor 6 (some .int), Cond.methodLink RX8 66 yX5_divide, Cond.instanceMethod yX5_divide, Cond.selects RX5 yX5_divide yX5_divide, Cond.code yX5_divide cX5_divide 5 none, Cond.methodLink RX8 69 yX5_times]
def wsX4_bestStart : List Cond := .code yX4_bestStart cX4_bestStart 4 (some .int) :: ((wsX4_bestStart_r1 ++ (wsX4_bestStart_r2 ++ (wsX4_bestStart_r3 ++ wsX4_bestStart_r4))) ++ wsX40 ++ wsX50 ++ wsX80)
def wsX5_partAt : List Cond := .code yX5_partAt cX5_partAt 2 (some .int) :: ([.constantLong RX5 43 (5), .fieldLink RX5 9 "ChooseOnce$Natural" "parts" "[I", .static yX10_isWithin, .initialized RX10, .code yX10_isWithin cX10_isWithin 6 (some .boolean)] ++ wsX50)
def wsX6_init_r1 : List Cond := [Cond.methodLink RX6 1 objectInit, Cond.instanceMethod objectInit, Cond.code objectInit ⟨#[0xb1]⟩ 1 none, Cond.classLink RX6 7 RX5, Cond.instantiable RX5 1, Cond.initialized RX5, Cond.fieldLink RX6 10 "ChooseOnce$Passing" "whole" "LChooseOnce$Natural;", Cond.fieldLink RX6 16 "ChooseOnce$Passing" "share" "LChooseOnce$Natural;", Cond.fieldLink RX6 19 "ChooseOnce$Passing" "shares" "LChooseOnce$Natural;", Cond.fieldLink RX6 22 "ChooseOnce$Passing" "wins" "LChooseOnce$Natural;", Cond.fieldLink RX6 25 "ChooseOnce$Passing" "most" "LChooseOnce$Natural;", Cond.fieldLink RX6 32 "ChooseOnce$Passing" "PRIME_POWERS" "[I", Cond.instanceMethod yX5_init, Cond.code yX5_init cX5_init 1 none, Cond.methodLink RX5 1 objectInit, Cond.arrayClass .int, Cond.fieldLink RX5 9 "ChooseOnce$Natural" "parts" "[I", Cond.methodLink RX6 28 yX5_put, Cond.instanceMethod yX5_put, Cond.selects RX5 yX5_put yX5_put, Cond.code yX5_put cX5_put 6 none, Cond.methodLink RX5 13 Lib.MathLoose.max_long.x, Cond.static Lib.MathLoose.max_long.x, Cond.initialized "java/lang/Math"]
def wsX6_init_r2 : List Cond := [Cond.code Lib.MathLoose.max_long.x Lib.MathLoose.max_long.code 4 (some .long), Cond.constantLong RX5 19 (1000000000), Cond.methodLink RX6 36 yX5_times, Cond.instanceMethod yX5_times, Cond.selects RX5 yX5_times yX5_times, Cond.code yX5_times cX5_times 6 none]
def wsX6_init : List Cond := .code yX6_init cX6_init 2 none :: ((wsX6_init_r1 ++ wsX6_init_r2) ++ wsX50 ++ wsX60)
def wsX6_letOneLess_r1 : List Cond := [Cond.fieldLink RX6 22 "ChooseOnce$Passing" "wins" "LChooseOnce$Natural;", Cond.fieldLink RX6 10 "ChooseOnce$Passing" "whole" "LChooseOnce$Natural;", Cond.fieldLink RX6 16 "ChooseOnce$Passing" "share" "LChooseOnce$Natural;", Cond.fieldLink RX6 19 "ChooseOnce$Passing" "shares" "LChooseOnce$Natural;", Cond.methodLink RX6 55 yX5_copy, Cond.instanceMethod yX5_copy, Cond.selects RX5 yX5_copy yX5_copy, Cond.initialized RX5, Cond.code yX5_copy cX5_copy 2 none, Cond.fieldLink RX5 9 "ChooseOnce$Natural" "parts" "[I", Cond.methodLink RX5 21 arraycopyName, Cond.native arraycopyName, Cond.static arraycopyName, Cond.initialized "java/lang/System", Cond.methodLink RX6 58 yX5_divide, Cond.instanceMethod yX5_divide, Cond.selects RX5 yX5_divide yX5_divide, Cond.code yX5_divide cX5_divide 5 none, Cond.constantLong RX5 19 (1000000000), Cond.methodLink RX6 61 yX5_addTimes, Cond.instanceMethod yX5_addTimes, Cond.selects RX5 yX5_addTimes yX5_addTimes, Cond.code yX5_addTimes cX5_addTimes 7 none, Cond.methodLink RX6 36 yX5_times]
def wsX6_letOneLess_r2 : List Cond := [Cond.instanceMethod yX5_times, Cond.selects RX5 yX5_times yX5_times, Cond.code yX5_times cX5_times 6 none]
def wsX6_letOneLess : List Cond := .code yX6_letOneLess cX6_letOneLess 2 none :: ((wsX6_letOneLess_r1 ++ wsX6_letOneLess_r2) ++ wsX60 ++ wsX50)
def wsX6_winLetting_r1 : List Cond := [Cond.fieldLink RX6 19 "ChooseOnce$Passing" "shares" "LChooseOnce$Natural;", Cond.fieldLink RX6 22 "ChooseOnce$Passing" "wins" "LChooseOnce$Natural;", Cond.fieldLink RX6 32 "ChooseOnce$Passing" "PRIME_POWERS" "[I", Cond.methodLink RX6 28 yX5_put, Cond.instanceMethod yX5_put, Cond.selects RX5 yX5_put yX5_put, Cond.initialized RX5, Cond.code yX5_put cX5_put 6 none, Cond.methodLink RX5 13 Lib.MathLoose.max_long.x, Cond.static Lib.MathLoose.max_long.x, Cond.initialized "java/lang/Math", Cond.code Lib.MathLoose.max_long.x Lib.MathLoose.max_long.code 4 (some .long), Cond.fieldLink RX5 9 "ChooseOnce$Natural" "parts" "[I", Cond.constantLong RX5 19 (1000000000), Cond.methodLink RX6 39 yX6_letOneLess, Cond.instanceMethod yX6_letOneLess, Cond.selects RX6 yX6_letOneLess yX6_letOneLess, Cond.initialized RX6, Cond.code yX6_letOneLess cX6_letOneLess 2 none, Cond.fieldLink RX6 10 "ChooseOnce$Passing" "whole" "LChooseOnce$Natural;", Cond.fieldLink RX6 16 "ChooseOnce$Passing" "share" "LChooseOnce$Natural;", Cond.methodLink RX6 55 yX5_copy, Cond.instanceMethod yX5_copy, Cond.selects RX5 yX5_copy yX5_copy]
def wsX6_winLetting_r2 : List Cond := [Cond.code yX5_copy cX5_copy 2 none, Cond.methodLink RX5 21 arraycopyName, Cond.native arraycopyName, Cond.static arraycopyName, Cond.initialized "java/lang/System", Cond.methodLink RX6 58 yX5_divide, Cond.instanceMethod yX5_divide, Cond.selects RX5 yX5_divide yX5_divide, Cond.code yX5_divide cX5_divide 5 none, Cond.methodLink RX6 61 yX5_addTimes, Cond.instanceMethod yX5_addTimes, Cond.selects RX5 yX5_addTimes yX5_addTimes, Cond.code yX5_addTimes cX5_addTimes 7 none, Cond.methodLink RX6 36 yX5_times, Cond.instanceMethod yX5_times, Cond.selects RX5 yX5_times yX5_times, Cond.code yX5_times cX5_times 6 none, Cond.methodLink RX6 43 yX8_put, Cond.instanceMethod yX8_put, Cond.selects RX8 yX8_put yX8_put, Cond.initialized RX8, Cond.code yX8_put cX8_put 2 none, Cond.fieldLink RX8 10 "ChooseOnce$Result" "top" "LChooseOnce$Natural;", Cond.fieldLink RX8 16 "ChooseOnce$Result" "bottom" "LChooseOnce$Natural;"]
def wsX6_winLetting_r3 : List Cond := [Cond.fieldLink RX8 25 "ChooseOnce$Result" "sign" "I", Cond.methodLink RX8 33 yX5_copy, Cond.methodLink RX8 29 yX5_put, Cond.methodLink RX8 37 yX5_isZero, Cond.instanceMethod yX5_isZero, Cond.selects RX5 yX5_isZero yX5_isZero, Cond.code yX5_isZero cX5_isZero 1 (some .boolean), Cond.methodLink RX5 39 yX5_partCount, Cond.instanceMethod yX5_partCount, Cond.selects RX5 yX5_partCount yX5_partCount, Cond.code yX5_partCount cX5_partCount 2 (some .int), Cond.methodLink RX6 48 yX8_over, Cond.instanceMethod yX8_over, Cond.selects RX8 yX8_over yX8_over, Cond.code yX8_over cX8_over 3 none, Cond.methodLink RX8 59 yX5_rest, Cond.instanceMethod yX5_rest, Cond.selects RX5 yX5_rest yX5_rest, Cond.code yX5_rest cX5_rest 5 (some .int), Cond.methodLink RX8 63 yX8_commonDivisor, Cond.static yX8_commonDivisor, Cond.code yX8_commonDivisor cX8_commonDivisor 6 (some .int), Cond.methodLink RX8 66 yX5_divide, Cond.methodLink RX8 69 yX5_times]
def wsX6_winLetting : List Cond := .code yX6_winLetting cX6_winLetting 5 none :: ((wsX6_winLetting_r1 ++ (wsX6_winLetting_r2 ++ wsX6_winLetting_r3)) ++ wsX60 ++ wsX50 ++ wsX80)
def wsX6_bestToLet_r1 : List Cond := [Cond.fieldLink RX6 19 "ChooseOnce$Passing" "shares" "LChooseOnce$Natural;", Cond.fieldLink RX6 25 "ChooseOnce$Passing" "most" "LChooseOnce$Natural;", Cond.fieldLink RX6 22 "ChooseOnce$Passing" "wins" "LChooseOnce$Natural;", Cond.methodLink RX6 28 yX5_put, Cond.instanceMethod yX5_put, Cond.selects RX5 yX5_put yX5_put, Cond.initialized RX5, Cond.code yX5_put cX5_put 6 none, Cond.methodLink RX5 13 Lib.MathLoose.max_long.x, Cond.static Lib.MathLoose.max_long.x, Cond.initialized "java/lang/Math", Cond.code Lib.MathLoose.max_long.x Lib.MathLoose.max_long.code 4 (some .long), Cond.fieldLink RX5 9 "ChooseOnce$Natural" "parts" "[I", Cond.constantLong RX5 19 (1000000000), Cond.methodLink RX6 39 yX6_letOneLess, Cond.instanceMethod yX6_letOneLess, Cond.selects RX6 yX6_letOneLess yX6_letOneLess, Cond.initialized RX6, Cond.code yX6_letOneLess cX6_letOneLess 2 none, Cond.fieldLink RX6 10 "ChooseOnce$Passing" "whole" "LChooseOnce$Natural;", Cond.fieldLink RX6 16 "ChooseOnce$Passing" "share" "LChooseOnce$Natural;", Cond.methodLink RX6 55 yX5_copy, Cond.instanceMethod yX5_copy, Cond.selects RX5 yX5_copy yX5_copy]
def wsX6_bestToLet_r2 : List Cond := [Cond.code yX5_copy cX5_copy 2 none, Cond.methodLink RX5 21 arraycopyName, Cond.native arraycopyName, Cond.static arraycopyName, Cond.initialized "java/lang/System", Cond.methodLink RX6 58 yX5_divide, Cond.instanceMethod yX5_divide, Cond.selects RX5 yX5_divide yX5_divide, Cond.code yX5_divide cX5_divide 5 none, Cond.methodLink RX6 61 yX5_addTimes, Cond.instanceMethod yX5_addTimes, Cond.selects RX5 yX5_addTimes yX5_addTimes, Cond.code yX5_addTimes cX5_addTimes 7 none, Cond.methodLink RX6 36 yX5_times, Cond.instanceMethod yX5_times, Cond.selects RX5 yX5_times yX5_times, Cond.code yX5_times cX5_times 6 none, Cond.methodLink RX6 51 yX5_against, Cond.instanceMethod yX5_against, Cond.selects RX5 yX5_against yX5_against, Cond.code yX5_against cX5_against 3 (some .int), Cond.methodLink RX5 33 yJ6_compare_7cf53, Cond.static yJ6_compare_7cf53, Cond.initialized RJ6]
def wsX6_bestToLet_r3 : List Cond := [Cond.code yJ6_compare_7cf53 cJ6_compare_7cf53 2 (some .int)]
def wsX6_bestToLet : List Cond := .code yX6_bestToLet cX6_bestToLet 4 (some .int) :: ((wsX6_bestToLet_r1 ++ (wsX6_bestToLet_r2 ++ wsX6_bestToLet_r3)) ++ wsX60 ++ wsX50)
def wsX7_init : List Cond := .code yX7_init cX7_init 2 none :: ([.methodLink RX7 3 objectInit, .instanceMethod objectInit, .code objectInit ⟨#[0xb1]⟩ 1 none, .arrayClass .int, .fieldLink RX7 9 "ChooseOnce$Ranking" "pays" "[I", .classLink RX7 15 RX5, .fieldLink RX7 17 "ChooseOnce$Ranking" "yeses" "[LChooseOnce$Natural;", .instantiable RX5 1, .initialized RX5, .fieldLink RX7 22 "ChooseOnce$Ranking" "no" "LChooseOnce$Natural;", .fieldLink RX7 26 "ChooseOnce$Ranking" "sum" "LChooseOnce$Natural;", .instanceMethod yX5_init, .code yX5_init cX5_init 1 none, .methodLink RX5 1 objectInit, .fieldLink RX5 9 "ChooseOnce$Natural" "parts" "[I"] ++ wsX70 ++ wsX50)
def wsX7_setPay : List Cond := .code yX7_setPay cX7_setPay 3 none :: ([.constantLong RX7 29 (20), .fieldLink RX7 9 "ChooseOnce$Ranking" "pays" "[I", .static yX10_isWithin, .initialized RX10, .code yX10_isWithin cX10_isWithin 6 (some .boolean)] ++ wsX70)
def wsX7_goAhead_r1 : List Cond := [Cond.fieldLink RX7 26 "ChooseOnce$Ranking" "sum" "LChooseOnce$Natural;", Cond.methodLink RX7 59 Lib.Math.min.name, Cond.static Lib.Math.min.name, Cond.initialized "java/lang/Math", Cond.code Lib.Math.min.name Lib.Math.min.code 2 (some .int), Cond.fieldLink RX7 17 "ChooseOnce$Ranking" "yeses" "[LChooseOnce$Natural;", Cond.fieldLink RX7 22 "ChooseOnce$Ranking" "no" "LChooseOnce$Natural;", Cond.methodLink RX7 56 yX5_put, Cond.instanceMethod yX5_put, Cond.selects RX5 yX5_put yX5_put, Cond.initialized RX5, Cond.code yX5_put cX5_put 6 none, Cond.methodLink RX5 13 Lib.MathLoose.max_long.x, Cond.static Lib.MathLoose.max_long.x, Cond.code Lib.MathLoose.max_long.x Lib.MathLoose.max_long.code 4 (some .long), Cond.fieldLink RX5 9 "ChooseOnce$Natural" "parts" "[I", Cond.constantLong RX5 19 (1000000000), Cond.methodLink RX7 52 yX5_against, Cond.instanceMethod yX5_against, Cond.selects RX5 yX5_against yX5_against, Cond.code yX5_against cX5_against 3 (some .int), Cond.methodLink RX5 33 yJ6_compare_7cf53, Cond.static yJ6_compare_7cf53, Cond.initialized RJ6]
def wsX7_goAhead_r2 : List Cond := [Cond.code yJ6_compare_7cf53 cJ6_compare_7cf53 2 (some .int), Cond.methodLink RX7 68 yX5_addTimes, Cond.instanceMethod yX5_addTimes, Cond.selects RX5 yX5_addTimes yX5_addTimes, Cond.code yX5_addTimes cX5_addTimes 7 none, Cond.methodLink RX7 72 yX5_copy, Cond.instanceMethod yX5_copy, Cond.selects RX5 yX5_copy yX5_copy, Cond.code yX5_copy cX5_copy 2 none, Cond.methodLink RX5 21 arraycopyName, Cond.native arraycopyName, Cond.static arraycopyName, Cond.initialized "java/lang/System"]
def wsX7_goAhead : List Cond := .code yX7_goAhead cX7_goAhead 3 none :: ((wsX7_goAhead_r1 ++ wsX7_goAhead_r2) ++ wsX70 ++ wsX50)
def wsX7_unseeNext : List Cond := .code yX7_unseeNext cX7_unseeNext 3 none :: ([.methodLink RX7 59 Lib.Math.min.name, .static Lib.Math.min.name, .initialized "java/lang/Math", .code Lib.Math.min.name Lib.Math.min.code 2 (some .int), .fieldLink RX7 17 "ChooseOnce$Ranking" "yeses" "[LChooseOnce$Natural;", .methodLink RX7 75 yX5_times, .instanceMethod yX5_times, .selects RX5 yX5_times yX5_times, .initialized RX5, .code yX5_times cX5_times 6 none, .fieldLink RX5 9 "ChooseOnce$Natural" "parts" "[I", .constantLong RX5 19 (1000000000), .methodLink RX7 68 yX5_addTimes, .instanceMethod yX5_addTimes, .selects RX5 yX5_addTimes yX5_addTimes, .code yX5_addTimes cX5_addTimes 7 none] ++ wsX70 ++ wsX50)
def wsX7_comeBackTo_r1 : List Cond := [Cond.fieldLink RX7 22 "ChooseOnce$Ranking" "no" "LChooseOnce$Natural;", Cond.methodLink RX7 59 Lib.Math.min.name, Cond.static Lib.Math.min.name, Cond.initialized "java/lang/Math", Cond.code Lib.Math.min.name Lib.Math.min.code 2 (some .int), Cond.fieldLink RX7 17 "ChooseOnce$Ranking" "yeses" "[LChooseOnce$Natural;", Cond.fieldLink RX7 9 "ChooseOnce$Ranking" "pays" "[I", Cond.methodLink RX7 56 yX5_put, Cond.instanceMethod yX5_put, Cond.selects RX5 yX5_put yX5_put, Cond.initialized RX5, Cond.code yX5_put cX5_put 6 none, Cond.methodLink RX5 13 Lib.MathLoose.max_long.x, Cond.static Lib.MathLoose.max_long.x, Cond.code Lib.MathLoose.max_long.x Lib.MathLoose.max_long.code 4 (some .long), Cond.fieldLink RX5 9 "ChooseOnce$Natural" "parts" "[I", Cond.constantLong RX5 19 (1000000000), Cond.methodLink RX7 39 yX7_goAhead, Cond.instanceMethod yX7_goAhead, Cond.selects RX7 yX7_goAhead yX7_goAhead, Cond.initialized RX7, Cond.code yX7_goAhead cX7_goAhead 3 none, Cond.fieldLink RX7 26 "ChooseOnce$Ranking" "sum" "LChooseOnce$Natural;", Cond.methodLink RX7 52 yX5_against]
def wsX7_comeBackTo_r2 : List Cond := [Cond.instanceMethod yX5_against, Cond.selects RX5 yX5_against yX5_against, Cond.code yX5_against cX5_against 3 (some .int), Cond.methodLink RX5 33 yJ6_compare_7cf53, Cond.static yJ6_compare_7cf53, Cond.initialized RJ6, Cond.code yJ6_compare_7cf53 cJ6_compare_7cf53 2 (some .int), Cond.methodLink RX7 68 yX5_addTimes, Cond.instanceMethod yX5_addTimes, Cond.selects RX5 yX5_addTimes yX5_addTimes, Cond.code yX5_addTimes cX5_addTimes 7 none, Cond.methodLink RX7 72 yX5_copy, Cond.instanceMethod yX5_copy, Cond.selects RX5 yX5_copy yX5_copy, Cond.code yX5_copy cX5_copy 2 none, Cond.methodLink RX5 21 arraycopyName, Cond.native arraycopyName, Cond.static arraycopyName, Cond.initialized "java/lang/System", Cond.methodLink RX7 65 yX7_unseeNext, Cond.instanceMethod yX7_unseeNext, Cond.selects RX7 yX7_unseeNext yX7_unseeNext, Cond.code yX7_unseeNext cX7_unseeNext 3 none, Cond.methodLink RX7 75 yX5_times]
def wsX7_comeBackTo_r3 : List Cond := [Cond.instanceMethod yX5_times, Cond.selects RX5 yX5_times yX5_times, Cond.code yX5_times cX5_times 6 none]
def wsX7_comeBackTo : List Cond := .code yX7_comeBackTo cX7_comeBackTo 4 none :: ((wsX7_comeBackTo_r1 ++ (wsX7_comeBackTo_r2 ++ wsX7_comeBackTo_r3)) ++ wsX70 ++ wsX50)
def wsX7_meanInto_r1 : List Cond := [Cond.fieldLink RX7 22 "ChooseOnce$Ranking" "no" "LChooseOnce$Natural;", Cond.methodLink RX7 35 yX7_comeBackTo, Cond.instanceMethod yX7_comeBackTo, Cond.selects RX7 yX7_comeBackTo yX7_comeBackTo, Cond.initialized RX7, Cond.code yX7_comeBackTo cX7_comeBackTo 4 none, Cond.methodLink RX7 59 Lib.Math.min.name, Cond.static Lib.Math.min.name, Cond.initialized "java/lang/Math", Cond.code Lib.Math.min.name Lib.Math.min.code 2 (some .int), Cond.fieldLink RX7 17 "ChooseOnce$Ranking" "yeses" "[LChooseOnce$Natural;", Cond.fieldLink RX7 9 "ChooseOnce$Ranking" "pays" "[I", Cond.methodLink RX7 56 yX5_put, Cond.instanceMethod yX5_put, Cond.selects RX5 yX5_put yX5_put, Cond.initialized RX5, Cond.code yX5_put cX5_put 6 none, Cond.methodLink RX5 13 Lib.MathLoose.max_long.x, Cond.static Lib.MathLoose.max_long.x, Cond.code Lib.MathLoose.max_long.x Lib.MathLoose.max_long.code 4 (some .long), Cond.fieldLink RX5 9 "ChooseOnce$Natural" "parts" "[I", Cond.constantLong RX5 19 (1000000000), Cond.methodLink RX7 39 yX7_goAhead, Cond.instanceMethod yX7_goAhead]
def wsX7_meanInto_r2 : List Cond := [Cond.selects RX7 yX7_goAhead yX7_goAhead, Cond.code yX7_goAhead cX7_goAhead 3 none, Cond.fieldLink RX7 26 "ChooseOnce$Ranking" "sum" "LChooseOnce$Natural;", Cond.methodLink RX7 52 yX5_against, Cond.instanceMethod yX5_against, Cond.selects RX5 yX5_against yX5_against, Cond.code yX5_against cX5_against 3 (some .int), Cond.methodLink RX5 33 yJ6_compare_7cf53, Cond.static yJ6_compare_7cf53, Cond.initialized RJ6, Cond.code yJ6_compare_7cf53 cJ6_compare_7cf53 2 (some .int), Cond.methodLink RX7 68 yX5_addTimes, Cond.instanceMethod yX5_addTimes, Cond.selects RX5 yX5_addTimes yX5_addTimes, Cond.code yX5_addTimes cX5_addTimes 7 none, Cond.methodLink RX7 72 yX5_copy, Cond.instanceMethod yX5_copy, Cond.selects RX5 yX5_copy yX5_copy, Cond.code yX5_copy cX5_copy 2 none, Cond.methodLink RX5 21 arraycopyName, Cond.native arraycopyName, Cond.static arraycopyName, Cond.initialized "java/lang/System", Cond.methodLink RX7 65 yX7_unseeNext]
def wsX7_meanInto_r3 : List Cond := [Cond.instanceMethod yX7_unseeNext, Cond.selects RX7 yX7_unseeNext yX7_unseeNext, Cond.code yX7_unseeNext cX7_unseeNext 3 none, Cond.methodLink RX7 75 yX5_times, Cond.instanceMethod yX5_times, Cond.selects RX5 yX5_times yX5_times, Cond.code yX5_times cX5_times 6 none, Cond.methodLink RX7 43 yX8_put, Cond.instanceMethod yX8_put, Cond.selects RX8 yX8_put yX8_put, Cond.initialized RX8, Cond.code yX8_put cX8_put 2 none, Cond.fieldLink RX8 10 "ChooseOnce$Result" "top" "LChooseOnce$Natural;", Cond.fieldLink RX8 16 "ChooseOnce$Result" "bottom" "LChooseOnce$Natural;", Cond.fieldLink RX8 25 "ChooseOnce$Result" "sign" "I", Cond.methodLink RX8 33 yX5_copy, Cond.methodLink RX8 29 yX5_put, Cond.methodLink RX8 37 yX5_isZero, Cond.instanceMethod yX5_isZero, Cond.selects RX5 yX5_isZero yX5_isZero, Cond.code yX5_isZero cX5_isZero 1 (some .boolean), Cond.methodLink RX5 39 yX5_partCount, Cond.instanceMethod yX5_partCount, Cond.selects RX5 yX5_partCount yX5_partCount]
def wsX7_meanInto_r4 : List Cond := [Cond.code yX5_partCount cX5_partCount 2 (some .int), Cond.methodLink RX7 49 yX8_over, Cond.instanceMethod yX8_over, Cond.selects RX8 yX8_over yX8_over, Cond.code yX8_over cX8_over 3 none, Cond.methodLink RX8 59 yX5_rest, Cond.instanceMethod yX5_rest, Cond.selects RX5 yX5_rest yX5_rest, Cond.code yX5_rest cX5_rest 5 (some .int), Cond.methodLink RX8 63 yX8_commonDivisor, Cond.static yX8_commonDivisor, Cond.code yX8_commonDivisor cX8_commonDivisor 6 (some .int), Cond.methodLink RX8 66 yX5_divide, Cond.instanceMethod yX5_divide, Cond.selects RX5 yX5_divide yX5_divide, Cond.code yX5_divide cX5_divide 5 none, Cond.methodLink RX8 69 yX5_times]
def wsX7_meanInto : List Cond := .code yX7_meanInto cX7_meanInto 4 none :: ((wsX7_meanInto_r1 ++ (wsX7_meanInto_r2 ++ (wsX7_meanInto_r3 ++ wsX7_meanInto_r4))) ++ wsX70 ++ wsX50 ++ wsX80)
def wsX7_isTaken_r1 : List Cond := [Cond.constantLong RX7 29 (20), Cond.fieldLink RX7 17 "ChooseOnce$Ranking" "yeses" "[LChooseOnce$Natural;", Cond.fieldLink RX7 22 "ChooseOnce$Ranking" "no" "LChooseOnce$Natural;", Cond.static yX10_isWithin, Cond.initialized RX10, Cond.code yX10_isWithin cX10_isWithin 6 (some .boolean), Cond.methodLink RX7 35 yX7_comeBackTo, Cond.instanceMethod yX7_comeBackTo, Cond.selects RX7 yX7_comeBackTo yX7_comeBackTo, Cond.initialized RX7, Cond.code yX7_comeBackTo cX7_comeBackTo 4 none, Cond.methodLink RX7 59 Lib.Math.min.name, Cond.static Lib.Math.min.name, Cond.initialized "java/lang/Math", Cond.code Lib.Math.min.name Lib.Math.min.code 2 (some .int), Cond.fieldLink RX7 9 "ChooseOnce$Ranking" "pays" "[I", Cond.methodLink RX7 56 yX5_put, Cond.instanceMethod yX5_put, Cond.selects RX5 yX5_put yX5_put, Cond.initialized RX5, Cond.code yX5_put cX5_put 6 none, Cond.methodLink RX5 13 Lib.MathLoose.max_long.x, Cond.static Lib.MathLoose.max_long.x, Cond.code Lib.MathLoose.max_long.x Lib.MathLoose.max_long.code 4 (some .long)]
def wsX7_isTaken_r2 : List Cond := [Cond.fieldLink RX5 9 "ChooseOnce$Natural" "parts" "[I", Cond.constantLong RX5 19 (1000000000), Cond.methodLink RX7 39 yX7_goAhead, Cond.instanceMethod yX7_goAhead, Cond.selects RX7 yX7_goAhead yX7_goAhead, Cond.code yX7_goAhead cX7_goAhead 3 none, Cond.fieldLink RX7 26 "ChooseOnce$Ranking" "sum" "LChooseOnce$Natural;", Cond.methodLink RX7 52 yX5_against, Cond.instanceMethod yX5_against, Cond.selects RX5 yX5_against yX5_against, Cond.code yX5_against cX5_against 3 (some .int), Cond.methodLink RX5 33 yJ6_compare_7cf53, Cond.static yJ6_compare_7cf53, Cond.initialized RJ6, Cond.code yJ6_compare_7cf53 cJ6_compare_7cf53 2 (some .int), Cond.methodLink RX7 68 yX5_addTimes, Cond.instanceMethod yX5_addTimes, Cond.selects RX5 yX5_addTimes yX5_addTimes, Cond.code yX5_addTimes cX5_addTimes 7 none, Cond.methodLink RX7 72 yX5_copy, Cond.instanceMethod yX5_copy, Cond.selects RX5 yX5_copy yX5_copy, Cond.code yX5_copy cX5_copy 2 none, Cond.methodLink RX5 21 arraycopyName]
def wsX7_isTaken_r3 : List Cond := [Cond.native arraycopyName, Cond.static arraycopyName, Cond.initialized "java/lang/System", Cond.methodLink RX7 65 yX7_unseeNext, Cond.instanceMethod yX7_unseeNext, Cond.selects RX7 yX7_unseeNext yX7_unseeNext, Cond.code yX7_unseeNext cX7_unseeNext 3 none, Cond.methodLink RX7 75 yX5_times, Cond.instanceMethod yX5_times, Cond.selects RX5 yX5_times yX5_times, Cond.code yX5_times cX5_times 6 none]
def wsX7_isTaken : List Cond := .code yX7_isTaken cX7_isTaken 4 (some .boolean) :: ((wsX7_isTaken_r1 ++ (wsX7_isTaken_r2 ++ wsX7_isTaken_r3)) ++ wsX70 ++ wsX50)
def wsX8_init_r1 : List Cond := [Cond.methodLink RX8 1 objectInit, Cond.instanceMethod objectInit, Cond.code objectInit ⟨#[0xb1]⟩ 1 none, Cond.classLink RX8 7 RX5, Cond.instantiable RX5 1, Cond.initialized RX5, Cond.fieldLink RX8 10 "ChooseOnce$Result" "top" "LChooseOnce$Natural;", Cond.fieldLink RX8 16 "ChooseOnce$Result" "bottom" "LChooseOnce$Natural;", Cond.fieldLink RX8 19 "ChooseOnce$Result" "left" "LChooseOnce$Natural;", Cond.fieldLink RX8 22 "ChooseOnce$Result" "right" "LChooseOnce$Natural;", Cond.fieldLink RX8 25 "ChooseOnce$Result" "sign" "I", Cond.instanceMethod yX5_init, Cond.code yX5_init cX5_init 1 none, Cond.methodLink RX5 1 objectInit, Cond.arrayClass .int, Cond.fieldLink RX5 9 "ChooseOnce$Natural" "parts" "[I", Cond.methodLink RX8 29 yX5_put, Cond.instanceMethod yX5_put, Cond.selects RX5 yX5_put yX5_put, Cond.code yX5_put cX5_put 6 none, Cond.methodLink RX5 13 Lib.MathLoose.max_long.x, Cond.static Lib.MathLoose.max_long.x, Cond.initialized "java/lang/Math", Cond.code Lib.MathLoose.max_long.x Lib.MathLoose.max_long.code 4 (some .long)]
def wsX8_init_r2 : List Cond := [Cond.constantLong RX5 19 (1000000000)]
def wsX8_init : List Cond := .code yX8_init cX8_init 1 none :: ((wsX8_init_r1 ++ wsX8_init_r2) ++ wsX50 ++ wsX80)
def wsX8_sign : List Cond := .code yX8_sign cX8_sign 1 (some .int) :: ([.fieldLink RX8 25 "ChooseOnce$Result" "sign" "I"] ++ wsX80)
def wsX8_digits : List Cond := .code yX8_digits cX8_digits 2 (some (.object "ChooseOnce$Natural")) :: ([.fieldLink RX8 16 "ChooseOnce$Result" "bottom" "LChooseOnce$Natural;", .fieldLink RX8 10 "ChooseOnce$Result" "top" "LChooseOnce$Natural;"] ++ wsX80)
def wsX8_against_r1 : List Cond := [Cond.fieldLink RX8 25 "ChooseOnce$Result" "sign" "I", Cond.fieldLink RX8 19 "ChooseOnce$Result" "left" "LChooseOnce$Natural;", Cond.fieldLink RX8 10 "ChooseOnce$Result" "top" "LChooseOnce$Natural;", Cond.fieldLink RX8 22 "ChooseOnce$Result" "right" "LChooseOnce$Natural;", Cond.fieldLink RX8 16 "ChooseOnce$Result" "bottom" "LChooseOnce$Natural;", Cond.methodLink RX8 41 Lib.MathLoose.abs_long.x, Cond.static Lib.MathLoose.abs_long.x, Cond.initialized "java/lang/Math", Cond.code Lib.MathLoose.abs_long.x Lib.MathLoose.abs_long.code 2 (some .long), Cond.methodLink RX8 53 yJ6_compare_7cf53, Cond.static yJ6_compare_7cf53, Cond.initialized RJ6, Cond.code yJ6_compare_7cf53 cJ6_compare_7cf53 2 (some .int), Cond.methodLink RX8 33 yX5_copy, Cond.instanceMethod yX5_copy, Cond.selects RX5 yX5_copy yX5_copy, Cond.initialized RX5, Cond.code yX5_copy cX5_copy 2 none, Cond.fieldLink RX5 9 "ChooseOnce$Natural" "parts" "[I", Cond.methodLink RX5 21 arraycopyName, Cond.native arraycopyName, Cond.static arraycopyName, Cond.initialized "java/lang/System", Cond.methodLink RX8 69 yX5_times]
def wsX8_against_r2 : List Cond := [Cond.instanceMethod yX5_times, Cond.selects RX5 yX5_times yX5_times, Cond.code yX5_times cX5_times 6 none, Cond.constantLong RX5 19 (1000000000), Cond.methodLink RX8 72 yX5_against, Cond.instanceMethod yX5_against, Cond.selects RX5 yX5_against yX5_against, Cond.code yX5_against cX5_against 3 (some .int), Cond.methodLink RX5 33 yJ6_compare_7cf53]
def wsX8_against : List Cond := .code yX8_against cX8_against 4 (some .int) :: ((wsX8_against_r1 ++ wsX8_against_r2) ++ wsX80 ++ wsX50)
def wsX9_init : List Cond := .code yX9_init cX9_init 1 none :: ([.methodLink RX9 3 objectInit, .instanceMethod objectInit, .code objectInit ⟨#[0xb1]⟩ 1 none, .arrayClass .long, .fieldLink RX9 9 "ChooseOnce$Row" "numbers" "[J", .fieldLink RX9 15 "ChooseOnce$Row" "width" "I", .fieldLink RX9 19 "ChooseOnce$Row" "length" "I"] ++ wsX90)
def wsX9_isThere : List Cond := .code yX9_isThere cX9_isThere 1 (some .boolean) :: ([.fieldLink RX9 19 "ChooseOnce$Row" "length" "I"] ++ wsX90)
def wsJ7_fill_d0a16 : List Cond := .code yJ7_fill_d0a16 cJ7_fill_d0a16 5 none :: ([])
def wsX9_lay : List Cond := .code yX9_lay cX9_lay 3 none :: ([.fieldLink RX9 9 "ChooseOnce$Row" "numbers" "[J", .fieldLink RX9 15 "ChooseOnce$Row" "width" "I", .methodLink RX9 28 Lib.Math.min.name, .static Lib.Math.min.name, .initialized "java/lang/Math", .code Lib.Math.min.name Lib.Math.min.code 2 (some .int), .fieldLink RX9 19 "ChooseOnce$Row" "length" "I", .methodLink RX9 22 yJ7_fill_d0a16, .static yJ7_fill_d0a16, .initialized RJ7, .code yJ7_fill_d0a16 cJ7_fill_d0a16 5 none] ++ wsX90)
def wsX9_remove : List Cond := .code yX9_remove cX9_remove 1 none :: ([.fieldLink RX9 19 "ChooseOnce$Row" "length" "I"] ++ wsX90)
def wsX9_cut : List Cond := .code yX9_cut cX9_cut 3 (some .long) :: ([.fieldLink RX9 15 "ChooseOnce$Row" "width" "I"] ++ wsX90)
def wsX9_put : List Cond := .code yX9_put cX9_put 4 (some .boolean) :: ([.fieldLink RX9 19 "ChooseOnce$Row" "length" "I", .fieldLink RX9 9 "ChooseOnce$Row" "numbers" "[J", .static yX10_isWithin, .initialized RX10, .code yX10_isWithin cX10_isWithin 6 (some .boolean), .methodLink RX9 38 yX9_cut, .instanceMethod yX9_cut, .selects RX9 yX9_cut yX9_cut, .initialized RX9, .code yX9_cut cX9_cut 3 (some .long), .fieldLink RX9 15 "ChooseOnce$Row" "width" "I"] ++ wsX90)
def wsX10_init_r1 : List Cond := [Cond.methodLink RX10 3 objectInit, Cond.instanceMethod objectInit, Cond.code objectInit ⟨#[0xb1]⟩ 1 none, Cond.classLink RX10 9 RX9, Cond.fieldLink RX10 11 "ChooseOnce" "rows" "[LChooseOnce$Row;", Cond.classLink RX10 15 RX0, Cond.fieldLink RX10 17 "ChooseOnce" "books" "[LChooseOnce$Book;", Cond.fieldLink RX10 21 "ChooseOnce" "bookCount" "I", Cond.classLink RX10 25 RX8, Cond.instantiable RX8 5, Cond.initialized RX8, Cond.fieldLink RX10 28 "ChooseOnce" "result" "LChooseOnce$Result;", Cond.classLink RX10 32 RX2, Cond.instantiable RX2 10, Cond.initialized RX2, Cond.fieldLink RX10 35 "ChooseOnce" "comers" "LChooseOnce$Comers;", Cond.classLink RX10 39 RX6, Cond.instantiable RX6 5, Cond.initialized RX6, Cond.fieldLink RX10 42 "ChooseOnce" "passing" "LChooseOnce$Passing;", Cond.classLink RX10 46 RX7, Cond.instantiable RX7 4, Cond.initialized RX7, Cond.fieldLink RX10 49 "ChooseOnce" "ranking" "LChooseOnce$Ranking;"]
def wsX10_init_r2 : List Cond := [Cond.classLink RX10 53 RX4, Cond.instantiable RX4 6, Cond.initialized RX4, Cond.fieldLink RX10 56 "ChooseOnce" "happenings" "LChooseOnce$Happenings;", Cond.classLink RX10 60 RX1, Cond.instantiable RX1 8, Cond.initialized RX1, Cond.fieldLink RX10 63 "ChooseOnce" "boxes" "LChooseOnce$Boxes;", Cond.instantiable RX9 3, Cond.initialized RX9, Cond.instantiable RX0 4, Cond.initialized RX0, Cond.methodLink RX10 27 yX8_init, Cond.instanceMethod yX8_init, Cond.code yX8_init cX8_init 1 none, Cond.methodLink RX8 1 objectInit, Cond.classLink RX8 7 RX5, Cond.instantiable RX5 1, Cond.initialized RX5, Cond.fieldLink RX8 10 "ChooseOnce$Result" "top" "LChooseOnce$Natural;", Cond.fieldLink RX8 16 "ChooseOnce$Result" "bottom" "LChooseOnce$Natural;", Cond.fieldLink RX8 19 "ChooseOnce$Result" "left" "LChooseOnce$Natural;", Cond.fieldLink RX8 22 "ChooseOnce$Result" "right" "LChooseOnce$Natural;", Cond.fieldLink RX8 25 "ChooseOnce$Result" "sign" "I"]
def wsX10_init_r3 : List Cond := [Cond.instanceMethod yX5_init, Cond.code yX5_init cX5_init 1 none, Cond.methodLink RX5 1 objectInit, Cond.arrayClass .int, Cond.fieldLink RX5 9 "ChooseOnce$Natural" "parts" "[I", Cond.methodLink RX8 29 yX5_put, Cond.instanceMethod yX5_put, Cond.selects RX5 yX5_put yX5_put, Cond.code yX5_put cX5_put 6 none, Cond.methodLink RX5 13 Lib.MathLoose.max_long.x, Cond.static Lib.MathLoose.max_long.x, Cond.initialized "java/lang/Math", Cond.code Lib.MathLoose.max_long.x Lib.MathLoose.max_long.code 4 (some .long), Cond.constantLong RX5 19 (1000000000), Cond.methodLink RX10 34 yX2_init, Cond.instanceMethod yX2_init, Cond.code yX2_init cX2_init 2 none, Cond.methodLink RX2 3 objectInit, Cond.classLink RX2 9 RX3, Cond.instantiable RX3 3, Cond.initialized RX3, Cond.fieldLink RX2 12 "ChooseOnce$Comers" "crowd" "LChooseOnce$Crowd;", Cond.fieldLink RX2 18 "ChooseOnce$Comers" "toldBars" "[I", Cond.fieldLink RX2 22 "ChooseOnce$Comers" "bestBars" "[I"]
def wsX10_init_r4 : List Cond := [Cond.fieldLink RX2 25 "ChooseOnce$Comers" "evenBars" "[I", Cond.classLink RX2 28 RX5, Cond.fieldLink RX2 30 "ChooseOnce$Comers" "means" "[LChooseOnce$Natural;", Cond.fieldLink RX2 35 "ChooseOnce$Comers" "mean" "LChooseOnce$Natural;", Cond.fieldLink RX2 39 "ChooseOnce$Comers" "all" "LChooseOnce$Natural;", Cond.fieldLink RX2 42 "ChooseOnce$Comers" "trial" "LChooseOnce$Natural;", Cond.fieldLink RX2 45 "ChooseOnce$Comers" "before" "LChooseOnce$Natural;", Cond.fieldLink RX2 48 "ChooseOnce$Comers" "foreseen" "LChooseOnce$Natural;", Cond.methodLink RX2 11 yX3_init, Cond.instanceMethod yX3_init, Cond.code yX3_init cX3_init 2 none, Cond.methodLink RX3 3 objectInit, Cond.classLink RX3 9 RX0, Cond.fieldLink RX3 12 "ChooseOnce$Crowd" "blank" "LChooseOnce$Book;", Cond.fieldLink RX3 18 "ChooseOnce$Crowd" "books" "[LChooseOnce$Book;", Cond.fieldLink RX3 22 "ChooseOnce$Crowd" "size" "I", Cond.instanceMethod yX0_init, Cond.code yX0_init cX0_init 1 none, Cond.methodLink RX0 3 objectInit, Cond.fieldLink RX0 9 "ChooseOnce$Book" "worths" "[I", Cond.fieldLink RX0 15 "ChooseOnce$Book" "weights" "[I", Cond.fieldLink RX0 18 "ChooseOnce$Book" "size" "I", Cond.fieldLink RX0 22 "ChooseOnce$Book" "total" "I", Cond.methodLink RX10 41 yX6_init]
def wsX10_init_r5 : List Cond := [Cond.instanceMethod yX6_init, Cond.code yX6_init cX6_init 2 none, Cond.methodLink RX6 1 objectInit, Cond.classLink RX6 7 RX5, Cond.fieldLink RX6 10 "ChooseOnce$Passing" "whole" "LChooseOnce$Natural;", Cond.fieldLink RX6 16 "ChooseOnce$Passing" "share" "LChooseOnce$Natural;", Cond.fieldLink RX6 19 "ChooseOnce$Passing" "shares" "LChooseOnce$Natural;", Cond.fieldLink RX6 22 "ChooseOnce$Passing" "wins" "LChooseOnce$Natural;", Cond.fieldLink RX6 25 "ChooseOnce$Passing" "most" "LChooseOnce$Natural;", Cond.fieldLink RX6 32 "ChooseOnce$Passing" "PRIME_POWERS" "[I", Cond.methodLink RX6 28 yX5_put, Cond.methodLink RX6 36 yX5_times, Cond.instanceMethod yX5_times, Cond.selects RX5 yX5_times yX5_times, Cond.code yX5_times cX5_times 6 none, Cond.methodLink RX10 48 yX7_init, Cond.instanceMethod yX7_init, Cond.code yX7_init cX7_init 2 none, Cond.methodLink RX7 3 objectInit, Cond.fieldLink RX7 9 "ChooseOnce$Ranking" "pays" "[I", Cond.classLink RX7 15 RX5, Cond.fieldLink RX7 17 "ChooseOnce$Ranking" "yeses" "[LChooseOnce$Natural;", Cond.fieldLink RX7 22 "ChooseOnce$Ranking" "no" "LChooseOnce$Natural;", Cond.fieldLink RX7 26 "ChooseOnce$Ranking" "sum" "LChooseOnce$Natural;"]
def wsX10_init_r6 : List Cond := [Cond.instanceMethod yX4_init, Cond.code yX4_init cX4_init 1 none, Cond.methodLink RX4 3 objectInit, Cond.fieldLink RX4 9 "ChooseOnce$Happenings" "tops" "[I", Cond.fieldLink RX4 15 "ChooseOnce$Happenings" "bottoms" "[I", Cond.fieldLink RX4 18 "ChooseOnce$Happenings" "size" "I", Cond.classLink RX4 22 RX5, Cond.fieldLink RX4 25 "ChooseOnce$Happenings" "win" "LChooseOnce$Natural;", Cond.fieldLink RX4 29 "ChooseOnce$Happenings" "quiet" "LChooseOnce$Natural;", Cond.fieldLink RX4 32 "ChooseOnce$Happenings" "most" "LChooseOnce$Natural;", Cond.instanceMethod yX1_init, Cond.code yX1_init cX1_init 1 none, Cond.methodLink RX1 3 objectInit, Cond.classLink RX1 9 RX3, Cond.fieldLink RX1 12 "ChooseOnce$Boxes" "all" "LChooseOnce$Crowd;", Cond.fieldLink RX1 18 "ChooseOnce$Boxes" "opened" "LChooseOnce$Crowd;", Cond.fieldLink RX1 21 "ChooseOnce$Boxes" "prices" "[I", Cond.fieldLink RX1 25 "ChooseOnce$Boxes" "fairTops" "[I", Cond.fieldLink RX1 28 "ChooseOnce$Boxes" "fairBottoms" "[I", Cond.fieldLink RX1 31 "ChooseOnce$Boxes" "order" "[I", Cond.classLink RX1 34 RX5, Cond.fieldLink RX1 37 "ChooseOnce$Boxes" "sum" "LChooseOnce$Natural;", Cond.fieldLink RX1 41 "ChooseOnce$Boxes" "ways" "LChooseOnce$Natural;", Cond.methodLink RX1 11 yX3_init]
def wsX10_init_r7 : List Cond := [Cond.instanceMethod yX9_init, Cond.code yX9_init cX9_init 1 none, Cond.methodLink RX9 3 objectInit, Cond.arrayClass .long, Cond.fieldLink RX9 9 "ChooseOnce$Row" "numbers" "[J", Cond.fieldLink RX9 15 "ChooseOnce$Row" "width" "I", Cond.fieldLink RX9 19 "ChooseOnce$Row" "length" "I"]
def wsX10_init : List Cond := .code yX10_init cX10_init 2 none :: ((wsX10_init_r1 ++ (wsX10_init_r2 ++ (wsX10_init_r3 ++ (wsX10_init_r4 ++ (wsX10_init_r5 ++ (wsX10_init_r6 ++ wsX10_init_r7)))))) ++ wsX100 ++ wsX80 ++ wsX20 ++ wsX60 ++ wsX70 ++ wsX40 ++ wsX10 ++ wsX90 ++ wsX00 ++ wsX50 ++ wsX30)
def wsX10_isSlot : List Cond := .code yX10_isSlot cX10_isSlot 1 (some .boolean) :: ([.constantLong RX10 203 (9), .methodLink RX10 75 yX10_isWithin, .static yX10_isWithin, .initialized RX10, .code yX10_isWithin cX10_isWithin 6 (some .boolean)])
def wsX10_row_r1 : List Cond := [Cond.constantLong RX10 73 (3), Cond.fieldLink RX10 11 "ChooseOnce" "rows" "[LChooseOnce$Row;", Cond.methodLink RX10 69 yX10_isSlot, Cond.static yX10_isSlot, Cond.initialized RX10, Cond.code yX10_isSlot cX10_isSlot 1 (some .boolean), Cond.constantLong RX10 203 (9), Cond.methodLink RX10 75 yX10_isWithin, Cond.static yX10_isWithin, Cond.code yX10_isWithin cX10_isWithin 6 (some .boolean), Cond.methodLink RX10 79 yX9_lay, Cond.instanceMethod yX9_lay, Cond.selects RX9 yX9_lay yX9_lay, Cond.initialized RX9, Cond.code yX9_lay cX9_lay 3 none, Cond.fieldLink RX9 9 "ChooseOnce$Row" "numbers" "[J", Cond.fieldLink RX9 15 "ChooseOnce$Row" "width" "I", Cond.methodLink RX9 28 Lib.Math.min.name, Cond.static Lib.Math.min.name, Cond.initialized "java/lang/Math", Cond.code Lib.Math.min.name Lib.Math.min.code 2 (some .int), Cond.fieldLink RX9 19 "ChooseOnce$Row" "length" "I", Cond.methodLink RX9 22 yJ7_fill_d0a16, Cond.static yJ7_fill_d0a16]
def wsX10_row_r2 : List Cond := [Cond.initialized RJ7, Cond.code yJ7_fill_d0a16 cJ7_fill_d0a16 5 none]
def wsX10_row : List Cond := .code yX10_row cX10_row 4 (some .int) :: ((wsX10_row_r1 ++ wsX10_row_r2) ++ wsX100 ++ wsX90)
def wsX10_tear : List Cond := .code yX10_tear cX10_tear 2 (some .boolean) :: ([.fieldLink RX10 11 "ChooseOnce" "rows" "[LChooseOnce$Row;", .methodLink RX10 69 yX10_isSlot, .static yX10_isSlot, .initialized RX10, .code yX10_isSlot cX10_isSlot 1 (some .boolean), .constantLong RX10 203 (9), .methodLink RX10 75 yX10_isWithin, .static yX10_isWithin, .code yX10_isWithin cX10_isWithin 6 (some .boolean), .methodLink RX10 83 yX9_isThere, .instanceMethod yX9_isThere, .selects RX9 yX9_isThere yX9_isThere, .initialized RX9, .code yX9_isThere cX9_isThere 1 (some .boolean), .fieldLink RX9 19 "ChooseOnce$Row" "length" "I", .methodLink RX10 87 yX9_remove, .instanceMethod yX9_remove, .selects RX9 yX9_remove yX9_remove, .code yX9_remove cX9_remove 1 none] ++ wsX100 ++ wsX90)
def wsX10_write_r1 : List Cond := [Cond.fieldLink RX10 11 "ChooseOnce" "rows" "[LChooseOnce$Row;", Cond.methodLink RX10 69 yX10_isSlot, Cond.static yX10_isSlot, Cond.initialized RX10, Cond.code yX10_isSlot cX10_isSlot 1 (some .boolean), Cond.constantLong RX10 203 (9), Cond.methodLink RX10 75 yX10_isWithin, Cond.static yX10_isWithin, Cond.code yX10_isWithin cX10_isWithin 6 (some .boolean), Cond.methodLink RX10 83 yX9_isThere, Cond.instanceMethod yX9_isThere, Cond.selects RX9 yX9_isThere yX9_isThere, Cond.initialized RX9, Cond.code yX9_isThere cX9_isThere 1 (some .boolean), Cond.fieldLink RX9 19 "ChooseOnce$Row" "length" "I", Cond.methodLink RX10 90 yX9_put, Cond.instanceMethod yX9_put, Cond.selects RX9 yX9_put yX9_put, Cond.code yX9_put cX9_put 4 (some .boolean), Cond.fieldLink RX9 9 "ChooseOnce$Row" "numbers" "[J", Cond.methodLink RX9 38 yX9_cut, Cond.instanceMethod yX9_cut, Cond.selects RX9 yX9_cut yX9_cut, Cond.code yX9_cut cX9_cut 3 (some .long)]
def wsX10_write_r2 : List Cond := [Cond.fieldLink RX9 15 "ChooseOnce$Row" "width" "I"]
def wsX10_write : List Cond := .code yX10_write cX10_write 5 (some .int) :: ((wsX10_write_r1 ++ wsX10_write_r2) ++ wsX100 ++ wsX90)
def wsX10_book_r1 : List Cond := [Cond.fieldLink RX10 21 "ChooseOnce" "bookCount" "I", Cond.fieldLink RX10 11 "ChooseOnce" "rows" "[LChooseOnce$Row;", Cond.fieldLink RX10 17 "ChooseOnce" "books" "[LChooseOnce$Book;", Cond.methodLink RX10 69 yX10_isSlot, Cond.static yX10_isSlot, Cond.initialized RX10, Cond.code yX10_isSlot cX10_isSlot 1 (some .boolean), Cond.constantLong RX10 203 (9), Cond.methodLink RX10 75 yX10_isWithin, Cond.static yX10_isWithin, Cond.code yX10_isWithin cX10_isWithin 6 (some .boolean), Cond.methodLink RX10 83 yX9_isThere, Cond.instanceMethod yX9_isThere, Cond.selects RX9 yX9_isThere yX9_isThere, Cond.initialized RX9, Cond.code yX9_isThere cX9_isThere 1 (some .boolean), Cond.fieldLink RX9 19 "ChooseOnce$Row" "length" "I", Cond.methodLink RX10 94 yX0_readFrom, Cond.instanceMethod yX0_readFrom, Cond.selects RX0 yX0_readFrom yX0_readFrom, Cond.initialized RX0, Cond.code yX0_readFrom cX0_readFrom 6 (some .int), Cond.fieldLink RX0 18 "ChooseOnce$Book" "size" "I", Cond.fieldLink RX0 22 "ChooseOnce$Book" "total" "I"]
def wsX10_book_r2 : List Cond := [Cond.methodLink RX0 25 yX9_read, Cond.instanceMethod yX9_read, Cond.selects RX9 yX9_read yX9_read, Cond.code yX9_read cX9_read 4 (some .int), Cond.fieldLink RX9 9 "ChooseOnce$Row" "numbers" "[J", Cond.methodLink RX0 31 yX0_addPair, Cond.instanceMethod yX0_addPair, Cond.selects RX0 yX0_addPair yX0_addPair, Cond.code yX0_addPair cX0_addPair 5 none, Cond.fieldLink RX0 9 "ChooseOnce$Book" "worths" "[I", Cond.fieldLink RX0 15 "ChooseOnce$Book" "weights" "[I"]
def wsX10_book : List Cond := .code yX10_book cX10_book 3 (some .int) :: ((wsX10_book_r1 ++ wsX10_book_r2) ++ wsX100 ++ wsX90 ++ wsX00)
def wsX10_isBook : List Cond := .code yX10_isBook cX10_isBook 2 (some .boolean) :: ([.fieldLink RX10 21 "ChooseOnce" "bookCount" "I", .methodLink RX10 75 yX10_isWithin, .static yX10_isWithin, .initialized RX10, .code yX10_isWithin cX10_isWithin 6 (some .boolean)] ++ wsX100)
def wsX10_comer_r1 : List Cond := [Cond.fieldLink RX10 35 "ChooseOnce" "comers" "LChooseOnce$Comers;", Cond.fieldLink RX10 17 "ChooseOnce" "books" "[LChooseOnce$Book;", Cond.methodLink RX10 98 yX10_isBook, Cond.instanceMethod yX10_isBook, Cond.selects RX10 yX10_isBook yX10_isBook, Cond.initialized RX10, Cond.code yX10_isBook cX10_isBook 2 (some .boolean), Cond.fieldLink RX10 21 "ChooseOnce" "bookCount" "I", Cond.methodLink RX10 75 yX10_isWithin, Cond.static yX10_isWithin, Cond.code yX10_isWithin cX10_isWithin 6 (some .boolean), Cond.methodLink RX10 101 yX2_join, Cond.instanceMethod yX2_join, Cond.selects RX2 yX2_join yX2_join, Cond.initialized RX2, Cond.code yX2_join cX2_join 3 (some .int), Cond.fieldLink RX2 12 "ChooseOnce$Comers" "crowd" "LChooseOnce$Crowd;", Cond.fieldLink RX2 18 "ChooseOnce$Comers" "toldBars" "[I", Cond.methodLink RX2 51 yX3_size, Cond.instanceMethod yX3_size, Cond.selects RX3 yX3_size yX3_size, Cond.initialized RX3, Cond.code yX3_size cX3_size 1 (some .int), Cond.fieldLink RX3 22 "ChooseOnce$Crowd" "size" "I"]
def wsX10_comer_r2 : List Cond := [Cond.methodLink RX2 55 yX3_join, Cond.instanceMethod yX3_join, Cond.selects RX3 yX3_join yX3_join, Cond.code yX3_join cX3_join 2 none, Cond.fieldLink RX3 18 "ChooseOnce$Crowd" "books" "[LChooseOnce$Book;"]
def wsX10_comer : List Cond := .code yX10_comer cX10_comer 2 (some .int) :: ((wsX10_comer_r1 ++ wsX10_comer_r2) ++ wsX100 ++ wsX20 ++ wsX30)
def wsX10_dismiss : List Cond := .code yX10_dismiss cX10_dismiss 1 (some .int) :: ([.fieldLink RX10 35 "ChooseOnce" "comers" "LChooseOnce$Comers;", .methodLink RX10 105 yX2_clear, .instanceMethod yX2_clear, .selects RX2 yX2_clear yX2_clear, .initialized RX2, .code yX2_clear cX2_clear 2 (some .int), .fieldLink RX2 12 "ChooseOnce$Comers" "crowd" "LChooseOnce$Crowd;", .methodLink RX2 51 yX3_size, .instanceMethod yX3_size, .selects RX3 yX3_size yX3_size, .initialized RX3, .code yX3_size cX3_size 1 (some .int), .fieldLink RX3 22 "ChooseOnce$Crowd" "size" "I", .methodLink RX2 59 yX3_clear, .instanceMethod yX3_clear, .selects RX3 yX3_clear yX3_clear, .code yX3_clear cX3_clear 1 none] ++ wsX100 ++ wsX20 ++ wsX30)
def wsX10_tell : List Cond := .code yX10_tell cX10_tell 3 (some .boolean) :: ([.fieldLink RX10 35 "ChooseOnce" "comers" "LChooseOnce$Comers;", .constantLong RX10 112 (1001), .methodLink RX10 109 yX2_size, .instanceMethod yX2_size, .selects RX2 yX2_size yX2_size, .initialized RX2, .code yX2_size cX2_size 1 (some .int), .fieldLink RX2 12 "ChooseOnce$Comers" "crowd" "LChooseOnce$Crowd;", .methodLink RX2 51 yX3_size, .instanceMethod yX3_size, .selects RX3 yX3_size yX3_size, .initialized RX3, .code yX3_size cX3_size 1 (some .int), .fieldLink RX3 22 "ChooseOnce$Crowd" "size" "I", .methodLink RX10 75 yX10_isWithin, .static yX10_isWithin, .initialized RX10, .code yX10_isWithin cX10_isWithin 6 (some .boolean), .methodLink RX10 114 yX2_setBar, .instanceMethod yX2_setBar, .selects RX2 yX2_setBar yX2_setBar, .code yX2_setBar cX2_setBar 3 none, .constantLong RX2 62 (9), .fieldLink RX2 18 "ChooseOnce$Comers" "toldBars" "[I"] ++ wsX100 ++ wsX20 ++ wsX30)
def wsX10_told_r1 : List Cond := [Cond.fieldLink RX10 35 "ChooseOnce" "comers" "LChooseOnce$Comers;", Cond.fieldLink RX10 28 "ChooseOnce" "result" "LChooseOnce$Result;", Cond.methodLink RX10 117 yX2_followTold, Cond.instanceMethod yX2_followTold, Cond.selects RX2 yX2_followTold yX2_followTold, Cond.initialized RX2, Cond.code yX2_followTold cX2_followTold 2 none, Cond.fieldLink RX2 18 "ChooseOnce$Comers" "toldBars" "[I", Cond.fieldLink RX2 12 "ChooseOnce$Comers" "crowd" "LChooseOnce$Crowd;", Cond.fieldLink RX2 35 "ChooseOnce$Comers" "mean" "LChooseOnce$Natural;", Cond.methodLink RX2 68 yX2_follow, Cond.instanceMethod yX2_follow, Cond.selects RX2 yX2_follow yX2_follow, Cond.code yX2_follow cX2_follow 4 none, Cond.fieldLink RX2 39 "ChooseOnce$Comers" "all" "LChooseOnce$Natural;", Cond.methodLink RX2 80 Lib.Math.min.name, Cond.static Lib.Math.min.name, Cond.initialized "java/lang/Math", Cond.code Lib.Math.min.name Lib.Math.min.code 2 (some .int), Cond.methodLink RX2 76 yX5_put, Cond.instanceMethod yX5_put, Cond.selects RX5 yX5_put yX5_put, Cond.initialized RX5, Cond.code yX5_put cX5_put 6 none]
def wsX10_told_r2 : List Cond := [Cond.methodLink RX5 13 Lib.MathLoose.max_long.x, Cond.static Lib.MathLoose.max_long.x, Cond.code Lib.MathLoose.max_long.x Lib.MathLoose.max_long.code 4 (some .long), Cond.fieldLink RX5 9 "ChooseOnce$Natural" "parts" "[I", Cond.constantLong RX5 19 (1000000000), Cond.methodLink RX2 51 yX3_size, Cond.instanceMethod yX3_size, Cond.selects RX3 yX3_size yX3_size, Cond.initialized RX3, Cond.code yX3_size cX3_size 1 (some .int), Cond.fieldLink RX3 22 "ChooseOnce$Crowd" "size" "I", Cond.methodLink RX2 86 yX3_at, Cond.instanceMethod yX3_at, Cond.selects RX3 yX3_at yX3_at, Cond.code yX3_at cX3_at 2 (some (.object "ChooseOnce$Book")), Cond.fieldLink RX3 18 "ChooseOnce$Crowd" "books" "[LChooseOnce$Book;", Cond.fieldLink RX3 12 "ChooseOnce$Crowd" "blank" "LChooseOnce$Book;", Cond.static yX10_isWithin, Cond.initialized RX10, Cond.code yX10_isWithin cX10_isWithin 6 (some .boolean), Cond.methodLink RX2 90 yX0_below, Cond.instanceMethod yX0_below, Cond.selects RX0 yX0_below yX0_below, Cond.initialized RX0]
def wsX10_told_r3 : List Cond := [Cond.code yX0_below cX0_below 4 (some .int), Cond.fieldLink RX0 18 "ChooseOnce$Book" "size" "I", Cond.fieldLink RX0 9 "ChooseOnce$Book" "worths" "[I", Cond.fieldLink RX0 15 "ChooseOnce$Book" "weights" "[I", Cond.methodLink RX2 96 yX5_times, Cond.instanceMethod yX5_times, Cond.selects RX5 yX5_times yX5_times, Cond.code yX5_times cX5_times 6 none, Cond.methodLink RX2 99 yX0_gathered, Cond.instanceMethod yX0_gathered, Cond.selects RX0 yX0_gathered yX0_gathered, Cond.code yX0_gathered cX0_gathered 4 (some .int), Cond.methodLink RX2 102 yX5_addTimes, Cond.instanceMethod yX5_addTimes, Cond.selects RX5 yX5_addTimes yX5_addTimes, Cond.code yX5_addTimes cX5_addTimes 7 none, Cond.methodLink RX2 106 yX0_total, Cond.instanceMethod yX0_total, Cond.selects RX0 yX0_total yX0_total, Cond.code yX0_total cX0_total 1 (some .int), Cond.fieldLink RX0 22 "ChooseOnce$Book" "total" "I", Cond.methodLink RX2 72 yX3_divide, Cond.instanceMethod yX3_divide, Cond.selects RX3 yX3_divide yX3_divide]
def wsX10_told_r4 : List Cond := [Cond.code yX3_divide cX3_divide 4 none, Cond.methodLink RX3 50 yX8_put, Cond.instanceMethod yX8_put, Cond.selects RX8 yX8_put yX8_put, Cond.initialized RX8, Cond.code yX8_put cX8_put 2 none, Cond.fieldLink RX8 10 "ChooseOnce$Result" "top" "LChooseOnce$Natural;", Cond.fieldLink RX8 16 "ChooseOnce$Result" "bottom" "LChooseOnce$Natural;", Cond.fieldLink RX8 25 "ChooseOnce$Result" "sign" "I", Cond.methodLink RX8 33 yX5_copy, Cond.instanceMethod yX5_copy, Cond.selects RX5 yX5_copy yX5_copy, Cond.code yX5_copy cX5_copy 2 none, Cond.methodLink RX5 21 arraycopyName, Cond.native arraycopyName, Cond.static arraycopyName, Cond.initialized "java/lang/System", Cond.methodLink RX8 29 yX5_put, Cond.methodLink RX8 37 yX5_isZero, Cond.instanceMethod yX5_isZero, Cond.selects RX5 yX5_isZero yX5_isZero, Cond.code yX5_isZero cX5_isZero 1 (some .boolean), Cond.methodLink RX5 39 yX5_partCount, Cond.instanceMethod yX5_partCount]
def wsX10_told_r5 : List Cond := [Cond.selects RX5 yX5_partCount yX5_partCount, Cond.code yX5_partCount cX5_partCount 2 (some .int), Cond.methodLink RX3 30 yX3_at, Cond.methodLink RX3 55 yX0_total, Cond.methodLink RX3 59 yX8_over, Cond.instanceMethod yX8_over, Cond.selects RX8 yX8_over yX8_over, Cond.code yX8_over cX8_over 3 none, Cond.methodLink RX8 59 yX5_rest, Cond.instanceMethod yX5_rest, Cond.selects RX5 yX5_rest yX5_rest, Cond.code yX5_rest cX5_rest 5 (some .int), Cond.methodLink RX8 63 yX8_commonDivisor, Cond.static yX8_commonDivisor, Cond.code yX8_commonDivisor cX8_commonDivisor 6 (some .int), Cond.methodLink RX8 66 yX5_divide, Cond.instanceMethod yX5_divide, Cond.selects RX5 yX5_divide yX5_divide, Cond.code yX5_divide cX5_divide 5 none, Cond.methodLink RX8 69 yX5_times]
def wsX10_told : List Cond := .code yX10_told cX10_told 1 none :: ((wsX10_told_r1 ++ (wsX10_told_r2 ++ (wsX10_told_r3 ++ (wsX10_told_r4 ++ wsX10_told_r5)))) ++ wsX100 ++ wsX20 ++ wsX50 ++ wsX30 ++ wsX00 ++ wsX80)
def wsX10_best_r1 : List Cond := [Cond.fieldLink RX10 35 "ChooseOnce" "comers" "LChooseOnce$Comers;", Cond.fieldLink RX10 28 "ChooseOnce" "result" "LChooseOnce$Result;", Cond.methodLink RX10 121 yX2_chooseUpTo, Cond.instanceMethod yX2_chooseUpTo, Cond.selects RX2 yX2_chooseUpTo yX2_chooseUpTo, Cond.initialized RX2, Cond.code yX2_chooseUpTo cX2_chooseUpTo 3 none, Cond.fieldLink RX2 12 "ChooseOnce$Comers" "crowd" "LChooseOnce$Crowd;", Cond.fieldLink RX2 30 "ChooseOnce$Comers" "means" "[LChooseOnce$Natural;", Cond.constantLong RX2 113 (10), Cond.methodLink RX2 109 yX2_choose, Cond.instanceMethod yX2_choose, Cond.selects RX2 yX2_choose yX2_choose, Cond.code yX2_choose cX2_choose 5 none, Cond.fieldLink RX2 39 "ChooseOnce$Comers" "all" "LChooseOnce$Natural;", Cond.methodLink RX2 80 Lib.Math.min.name, Cond.static Lib.Math.min.name, Cond.initialized "java/lang/Math", Cond.code Lib.Math.min.name Lib.Math.min.code 2 (some .int), Cond.fieldLink RX2 22 "ChooseOnce$Comers" "bestBars" "[I", Cond.methodLink RX2 76 yX5_put, Cond.instanceMethod yX5_put, Cond.selects RX5 yX5_put yX5_put, Cond.initialized RX5]
def wsX10_best_r2 : List Cond := [Cond.code yX5_put cX5_put 6 none, Cond.methodLink RX5 13 Lib.MathLoose.max_long.x, Cond.static Lib.MathLoose.max_long.x, Cond.code Lib.MathLoose.max_long.x Lib.MathLoose.max_long.code 4 (some .long), Cond.fieldLink RX5 9 "ChooseOnce$Natural" "parts" "[I", Cond.constantLong RX5 19 (1000000000), Cond.methodLink RX2 51 yX3_size, Cond.instanceMethod yX3_size, Cond.selects RX3 yX3_size yX3_size, Cond.initialized RX3, Cond.code yX3_size cX3_size 1 (some .int), Cond.fieldLink RX3 22 "ChooseOnce$Crowd" "size" "I", Cond.methodLink RX2 86 yX3_at, Cond.instanceMethod yX3_at, Cond.selects RX3 yX3_at yX3_at, Cond.code yX3_at cX3_at 2 (some (.object "ChooseOnce$Book")), Cond.fieldLink RX3 18 "ChooseOnce$Crowd" "books" "[LChooseOnce$Book;", Cond.fieldLink RX3 12 "ChooseOnce$Crowd" "blank" "LChooseOnce$Book;", Cond.static yX10_isWithin, Cond.initialized RX10, Cond.code yX10_isWithin cX10_isWithin 6 (some .boolean), Cond.methodLink RX2 115 yX2_chooseAt, Cond.instanceMethod yX2_chooseAt, Cond.selects RX2 yX2_chooseAt yX2_chooseAt]
def wsX10_best_r3 : List Cond := [Cond.code yX2_chooseAt cX2_chooseAt 6 (some .int), Cond.methodLink RX2 119 yX2_lowestBar, Cond.instanceMethod yX2_lowestBar, Cond.selects RX2 yX2_lowestBar yX2_lowestBar, Cond.code yX2_lowestBar cX2_lowestBar 7 (some .int), Cond.fieldLink RX2 42 "ChooseOnce$Comers" "trial" "LChooseOnce$Natural;", Cond.methodLink RX2 122 yX0_leastFrom, Cond.instanceMethod yX0_leastFrom, Cond.selects RX0 yX0_leastFrom yX0_leastFrom, Cond.initialized RX0, Cond.code yX0_leastFrom cX0_leastFrom 3 (some .int), Cond.fieldLink RX0 18 "ChooseOnce$Book" "size" "I", Cond.fieldLink RX0 9 "ChooseOnce$Book" "worths" "[I", Cond.methodLink RX2 125 yX5_copy, Cond.instanceMethod yX5_copy, Cond.selects RX5 yX5_copy yX5_copy, Cond.code yX5_copy cX5_copy 2 none, Cond.methodLink RX5 21 arraycopyName, Cond.native arraycopyName, Cond.static arraycopyName, Cond.initialized "java/lang/System", Cond.methodLink RX2 102 yX5_addTimes, Cond.instanceMethod yX5_addTimes, Cond.selects RX5 yX5_addTimes yX5_addTimes]
def wsX10_best_r4 : List Cond := [Cond.code yX5_addTimes cX5_addTimes 7 none, Cond.methodLink RX2 129 yX5_against, Cond.instanceMethod yX5_against, Cond.selects RX5 yX5_against yX5_against, Cond.code yX5_against cX5_against 3 (some .int), Cond.methodLink RX5 33 yJ6_compare_7cf53, Cond.static yJ6_compare_7cf53, Cond.initialized RJ6, Cond.code yJ6_compare_7cf53 cJ6_compare_7cf53 2 (some .int), Cond.methodLink RX2 90 yX0_below, Cond.instanceMethod yX0_below, Cond.selects RX0 yX0_below yX0_below, Cond.code yX0_below cX0_below 4 (some .int), Cond.fieldLink RX0 15 "ChooseOnce$Book" "weights" "[I", Cond.methodLink RX2 96 yX5_times, Cond.instanceMethod yX5_times, Cond.selects RX5 yX5_times yX5_times, Cond.code yX5_times cX5_times 6 none, Cond.methodLink RX2 106 yX0_total, Cond.instanceMethod yX0_total, Cond.selects RX0 yX0_total yX0_total, Cond.code yX0_total cX0_total 1 (some .int), Cond.fieldLink RX0 22 "ChooseOnce$Book" "total" "I", Cond.methodLink RX2 99 yX0_gathered]
def wsX10_best_r5 : List Cond := [Cond.instanceMethod yX0_gathered, Cond.selects RX0 yX0_gathered yX0_gathered, Cond.code yX0_gathered cX0_gathered 4 (some .int), Cond.methodLink RX2 72 yX3_divide, Cond.instanceMethod yX3_divide, Cond.selects RX3 yX3_divide yX3_divide, Cond.code yX3_divide cX3_divide 4 none, Cond.methodLink RX3 50 yX8_put, Cond.instanceMethod yX8_put, Cond.selects RX8 yX8_put yX8_put, Cond.initialized RX8, Cond.code yX8_put cX8_put 2 none, Cond.fieldLink RX8 10 "ChooseOnce$Result" "top" "LChooseOnce$Natural;", Cond.fieldLink RX8 16 "ChooseOnce$Result" "bottom" "LChooseOnce$Natural;", Cond.fieldLink RX8 25 "ChooseOnce$Result" "sign" "I", Cond.methodLink RX8 33 yX5_copy, Cond.methodLink RX8 29 yX5_put, Cond.methodLink RX8 37 yX5_isZero, Cond.instanceMethod yX5_isZero, Cond.selects RX5 yX5_isZero yX5_isZero, Cond.code yX5_isZero cX5_isZero 1 (some .boolean), Cond.methodLink RX5 39 yX5_partCount, Cond.instanceMethod yX5_partCount, Cond.selects RX5 yX5_partCount yX5_partCount]
def wsX10_best_r6 : List Cond := [Cond.code yX5_partCount cX5_partCount 2 (some .int), Cond.methodLink RX3 30 yX3_at, Cond.methodLink RX3 55 yX0_total, Cond.methodLink RX3 59 yX8_over, Cond.instanceMethod yX8_over, Cond.selects RX8 yX8_over yX8_over, Cond.code yX8_over cX8_over 3 none, Cond.methodLink RX8 59 yX5_rest, Cond.instanceMethod yX5_rest, Cond.selects RX5 yX5_rest yX5_rest, Cond.code yX5_rest cX5_rest 5 (some .int), Cond.methodLink RX8 63 yX8_commonDivisor, Cond.static yX8_commonDivisor, Cond.code yX8_commonDivisor cX8_commonDivisor 6 (some .int), Cond.methodLink RX8 66 yX5_divide, Cond.instanceMethod yX5_divide, Cond.selects RX5 yX5_divide yX5_divide, Cond.code yX5_divide cX5_divide 5 none, Cond.methodLink RX8 69 yX5_times]
def wsX10_best : List Cond := .code yX10_best cX10_best 1 none :: ((wsX10_best_r1 ++ (wsX10_best_r2 ++ (wsX10_best_r3 ++ (wsX10_best_r4 ++ (wsX10_best_r5 ++ wsX10_best_r6))))) ++ wsX100 ++ wsX20 ++ wsX50 ++ wsX30 ++ wsX00 ++ wsX80)
def wsX10_bar_r1 : List Cond := [Cond.fieldLink RX10 35 "ChooseOnce" "comers" "LChooseOnce$Comers;", Cond.methodLink RX10 109 yX2_size, Cond.instanceMethod yX2_size, Cond.selects RX2 yX2_size yX2_size, Cond.initialized RX2, Cond.code yX2_size cX2_size 1 (some .int), Cond.fieldLink RX2 12 "ChooseOnce$Comers" "crowd" "LChooseOnce$Crowd;", Cond.methodLink RX2 51 yX3_size, Cond.instanceMethod yX3_size, Cond.selects RX3 yX3_size yX3_size, Cond.initialized RX3, Cond.code yX3_size cX3_size 1 (some .int), Cond.fieldLink RX3 22 "ChooseOnce$Crowd" "size" "I", Cond.methodLink RX10 75 yX10_isWithin, Cond.static yX10_isWithin, Cond.initialized RX10, Cond.code yX10_isWithin cX10_isWithin 6 (some .boolean), Cond.methodLink RX10 125 yX2_bestBar, Cond.instanceMethod yX2_bestBar, Cond.selects RX2 yX2_bestBar yX2_bestBar, Cond.code yX2_bestBar cX2_bestBar 2 (some .int), Cond.constantLong RX2 62 (9), Cond.fieldLink RX2 22 "ChooseOnce$Comers" "bestBars" "[I", Cond.methodLink RX2 109 yX2_choose]
def wsX10_bar_r2 : List Cond := [Cond.instanceMethod yX2_choose, Cond.selects RX2 yX2_choose yX2_choose, Cond.code yX2_choose cX2_choose 5 none, Cond.fieldLink RX2 30 "ChooseOnce$Comers" "means" "[LChooseOnce$Natural;", Cond.fieldLink RX2 39 "ChooseOnce$Comers" "all" "LChooseOnce$Natural;", Cond.methodLink RX2 80 Lib.Math.min.name, Cond.static Lib.Math.min.name, Cond.initialized "java/lang/Math", Cond.code Lib.Math.min.name Lib.Math.min.code 2 (some .int), Cond.methodLink RX2 76 yX5_put, Cond.instanceMethod yX5_put, Cond.selects RX5 yX5_put yX5_put, Cond.initialized RX5, Cond.code yX5_put cX5_put 6 none, Cond.methodLink RX5 13 Lib.MathLoose.max_long.x, Cond.static Lib.MathLoose.max_long.x, Cond.code Lib.MathLoose.max_long.x Lib.MathLoose.max_long.code 4 (some .long), Cond.fieldLink RX5 9 "ChooseOnce$Natural" "parts" "[I", Cond.constantLong RX5 19 (1000000000), Cond.methodLink RX2 86 yX3_at, Cond.instanceMethod yX3_at, Cond.selects RX3 yX3_at yX3_at, Cond.code yX3_at cX3_at 2 (some (.object "ChooseOnce$Book")), Cond.fieldLink RX3 18 "ChooseOnce$Crowd" "books" "[LChooseOnce$Book;"]
def wsX10_bar_r3 : List Cond := [Cond.fieldLink RX3 12 "ChooseOnce$Crowd" "blank" "LChooseOnce$Book;", Cond.methodLink RX2 115 yX2_chooseAt, Cond.instanceMethod yX2_chooseAt, Cond.selects RX2 yX2_chooseAt yX2_chooseAt, Cond.code yX2_chooseAt cX2_chooseAt 6 (some .int), Cond.methodLink RX2 119 yX2_lowestBar, Cond.instanceMethod yX2_lowestBar, Cond.selects RX2 yX2_lowestBar yX2_lowestBar, Cond.code yX2_lowestBar cX2_lowestBar 7 (some .int), Cond.fieldLink RX2 42 "ChooseOnce$Comers" "trial" "LChooseOnce$Natural;", Cond.methodLink RX2 122 yX0_leastFrom, Cond.instanceMethod yX0_leastFrom, Cond.selects RX0 yX0_leastFrom yX0_leastFrom, Cond.initialized RX0, Cond.code yX0_leastFrom cX0_leastFrom 3 (some .int), Cond.fieldLink RX0 18 "ChooseOnce$Book" "size" "I", Cond.fieldLink RX0 9 "ChooseOnce$Book" "worths" "[I", Cond.methodLink RX2 125 yX5_copy, Cond.instanceMethod yX5_copy, Cond.selects RX5 yX5_copy yX5_copy, Cond.code yX5_copy cX5_copy 2 none, Cond.methodLink RX5 21 arraycopyName, Cond.native arraycopyName, Cond.static arraycopyName]
def wsX10_bar_r4 : List Cond := [Cond.initialized "java/lang/System", Cond.methodLink RX2 102 yX5_addTimes, Cond.instanceMethod yX5_addTimes, Cond.selects RX5 yX5_addTimes yX5_addTimes, Cond.code yX5_addTimes cX5_addTimes 7 none, Cond.methodLink RX2 129 yX5_against, Cond.instanceMethod yX5_against, Cond.selects RX5 yX5_against yX5_against, Cond.code yX5_against cX5_against 3 (some .int), Cond.methodLink RX5 33 yJ6_compare_7cf53, Cond.static yJ6_compare_7cf53, Cond.initialized RJ6, Cond.code yJ6_compare_7cf53 cJ6_compare_7cf53 2 (some .int), Cond.methodLink RX2 90 yX0_below, Cond.instanceMethod yX0_below, Cond.selects RX0 yX0_below yX0_below, Cond.code yX0_below cX0_below 4 (some .int), Cond.fieldLink RX0 15 "ChooseOnce$Book" "weights" "[I", Cond.methodLink RX2 96 yX5_times, Cond.instanceMethod yX5_times, Cond.selects RX5 yX5_times yX5_times, Cond.code yX5_times cX5_times 6 none, Cond.methodLink RX2 106 yX0_total, Cond.instanceMethod yX0_total]
def wsX10_bar_r5 : List Cond := [Cond.selects RX0 yX0_total yX0_total, Cond.code yX0_total cX0_total 1 (some .int), Cond.fieldLink RX0 22 "ChooseOnce$Book" "total" "I", Cond.methodLink RX2 99 yX0_gathered, Cond.instanceMethod yX0_gathered, Cond.selects RX0 yX0_gathered yX0_gathered, Cond.code yX0_gathered cX0_gathered 4 (some .int)]
def wsX10_bar : List Cond := .code yX10_bar cX10_bar 2 (some .int) :: ((wsX10_bar_r1 ++ (wsX10_bar_r2 ++ (wsX10_bar_r3 ++ (wsX10_bar_r4 ++ wsX10_bar_r5)))) ++ wsX100 ++ wsX20 ++ wsX30 ++ wsX50 ++ wsX00)
def wsX10_few_r1 : List Cond := [Cond.constantLong RX10 129 (10), Cond.fieldLink RX10 35 "ChooseOnce" "comers" "LChooseOnce$Comers;", Cond.fieldLink RX10 28 "ChooseOnce" "result" "LChooseOnce$Result;", Cond.methodLink RX10 75 yX10_isWithin, Cond.static yX10_isWithin, Cond.initialized RX10, Cond.code yX10_isWithin cX10_isWithin 6 (some .boolean), Cond.methodLink RX10 121 yX2_chooseUpTo, Cond.instanceMethod yX2_chooseUpTo, Cond.selects RX2 yX2_chooseUpTo yX2_chooseUpTo, Cond.initialized RX2, Cond.code yX2_chooseUpTo cX2_chooseUpTo 3 none, Cond.fieldLink RX2 12 "ChooseOnce$Comers" "crowd" "LChooseOnce$Crowd;", Cond.fieldLink RX2 30 "ChooseOnce$Comers" "means" "[LChooseOnce$Natural;", Cond.constantLong RX2 113 (10), Cond.methodLink RX2 109 yX2_choose, Cond.instanceMethod yX2_choose, Cond.selects RX2 yX2_choose yX2_choose, Cond.code yX2_choose cX2_choose 5 none, Cond.fieldLink RX2 39 "ChooseOnce$Comers" "all" "LChooseOnce$Natural;", Cond.methodLink RX2 80 Lib.Math.min.name, Cond.static Lib.Math.min.name, Cond.initialized "java/lang/Math", Cond.code Lib.Math.min.name Lib.Math.min.code 2 (some .int)]
def wsX10_few_r2 : List Cond := [Cond.fieldLink RX2 22 "ChooseOnce$Comers" "bestBars" "[I", Cond.methodLink RX2 76 yX5_put, Cond.instanceMethod yX5_put, Cond.selects RX5 yX5_put yX5_put, Cond.initialized RX5, Cond.code yX5_put cX5_put 6 none, Cond.methodLink RX5 13 Lib.MathLoose.max_long.x, Cond.static Lib.MathLoose.max_long.x, Cond.code Lib.MathLoose.max_long.x Lib.MathLoose.max_long.code 4 (some .long), Cond.fieldLink RX5 9 "ChooseOnce$Natural" "parts" "[I", Cond.constantLong RX5 19 (1000000000), Cond.methodLink RX2 51 yX3_size, Cond.instanceMethod yX3_size, Cond.selects RX3 yX3_size yX3_size, Cond.initialized RX3, Cond.code yX3_size cX3_size 1 (some .int), Cond.fieldLink RX3 22 "ChooseOnce$Crowd" "size" "I", Cond.methodLink RX2 86 yX3_at, Cond.instanceMethod yX3_at, Cond.selects RX3 yX3_at yX3_at, Cond.code yX3_at cX3_at 2 (some (.object "ChooseOnce$Book")), Cond.fieldLink RX3 18 "ChooseOnce$Crowd" "books" "[LChooseOnce$Book;", Cond.fieldLink RX3 12 "ChooseOnce$Crowd" "blank" "LChooseOnce$Book;", Cond.methodLink RX2 115 yX2_chooseAt]
def wsX10_few_r3 : List Cond := [Cond.instanceMethod yX2_chooseAt, Cond.selects RX2 yX2_chooseAt yX2_chooseAt, Cond.code yX2_chooseAt cX2_chooseAt 6 (some .int), Cond.methodLink RX2 119 yX2_lowestBar, Cond.instanceMethod yX2_lowestBar, Cond.selects RX2 yX2_lowestBar yX2_lowestBar, Cond.code yX2_lowestBar cX2_lowestBar 7 (some .int), Cond.fieldLink RX2 42 "ChooseOnce$Comers" "trial" "LChooseOnce$Natural;", Cond.methodLink RX2 122 yX0_leastFrom, Cond.instanceMethod yX0_leastFrom, Cond.selects RX0 yX0_leastFrom yX0_leastFrom, Cond.initialized RX0, Cond.code yX0_leastFrom cX0_leastFrom 3 (some .int), Cond.fieldLink RX0 18 "ChooseOnce$Book" "size" "I", Cond.fieldLink RX0 9 "ChooseOnce$Book" "worths" "[I", Cond.methodLink RX2 125 yX5_copy, Cond.instanceMethod yX5_copy, Cond.selects RX5 yX5_copy yX5_copy, Cond.code yX5_copy cX5_copy 2 none, Cond.methodLink RX5 21 arraycopyName, Cond.native arraycopyName, Cond.static arraycopyName, Cond.initialized "java/lang/System", Cond.methodLink RX2 102 yX5_addTimes]
def wsX10_few_r4 : List Cond := [Cond.instanceMethod yX5_addTimes, Cond.selects RX5 yX5_addTimes yX5_addTimes, Cond.code yX5_addTimes cX5_addTimes 7 none, Cond.methodLink RX2 129 yX5_against, Cond.instanceMethod yX5_against, Cond.selects RX5 yX5_against yX5_against, Cond.code yX5_against cX5_against 3 (some .int), Cond.methodLink RX5 33 yJ6_compare_7cf53, Cond.static yJ6_compare_7cf53, Cond.initialized RJ6, Cond.code yJ6_compare_7cf53 cJ6_compare_7cf53 2 (some .int), Cond.methodLink RX2 90 yX0_below, Cond.instanceMethod yX0_below, Cond.selects RX0 yX0_below yX0_below, Cond.code yX0_below cX0_below 4 (some .int), Cond.fieldLink RX0 15 "ChooseOnce$Book" "weights" "[I", Cond.methodLink RX2 96 yX5_times, Cond.instanceMethod yX5_times, Cond.selects RX5 yX5_times yX5_times, Cond.code yX5_times cX5_times 6 none, Cond.methodLink RX2 106 yX0_total, Cond.instanceMethod yX0_total, Cond.selects RX0 yX0_total yX0_total, Cond.code yX0_total cX0_total 1 (some .int)]
def wsX10_few_r5 : List Cond := [Cond.fieldLink RX0 22 "ChooseOnce$Book" "total" "I", Cond.methodLink RX2 99 yX0_gathered, Cond.instanceMethod yX0_gathered, Cond.selects RX0 yX0_gathered yX0_gathered, Cond.code yX0_gathered cX0_gathered 4 (some .int), Cond.methodLink RX2 72 yX3_divide, Cond.instanceMethod yX3_divide, Cond.selects RX3 yX3_divide yX3_divide, Cond.code yX3_divide cX3_divide 4 none, Cond.methodLink RX3 50 yX8_put, Cond.instanceMethod yX8_put, Cond.selects RX8 yX8_put yX8_put, Cond.initialized RX8, Cond.code yX8_put cX8_put 2 none, Cond.fieldLink RX8 10 "ChooseOnce$Result" "top" "LChooseOnce$Natural;", Cond.fieldLink RX8 16 "ChooseOnce$Result" "bottom" "LChooseOnce$Natural;", Cond.fieldLink RX8 25 "ChooseOnce$Result" "sign" "I", Cond.methodLink RX8 33 yX5_copy, Cond.methodLink RX8 29 yX5_put, Cond.methodLink RX8 37 yX5_isZero, Cond.instanceMethod yX5_isZero, Cond.selects RX5 yX5_isZero yX5_isZero, Cond.code yX5_isZero cX5_isZero 1 (some .boolean), Cond.methodLink RX5 39 yX5_partCount]
def wsX10_few_r6 : List Cond := [Cond.instanceMethod yX5_partCount, Cond.selects RX5 yX5_partCount yX5_partCount, Cond.code yX5_partCount cX5_partCount 2 (some .int), Cond.methodLink RX3 30 yX3_at, Cond.methodLink RX3 55 yX0_total, Cond.methodLink RX3 59 yX8_over, Cond.instanceMethod yX8_over, Cond.selects RX8 yX8_over yX8_over, Cond.code yX8_over cX8_over 3 none, Cond.methodLink RX8 59 yX5_rest, Cond.instanceMethod yX5_rest, Cond.selects RX5 yX5_rest yX5_rest, Cond.code yX5_rest cX5_rest 5 (some .int), Cond.methodLink RX8 63 yX8_commonDivisor, Cond.static yX8_commonDivisor, Cond.code yX8_commonDivisor cX8_commonDivisor 6 (some .int), Cond.methodLink RX8 66 yX5_divide, Cond.instanceMethod yX5_divide, Cond.selects RX5 yX5_divide yX5_divide, Cond.code yX5_divide cX5_divide 5 none, Cond.methodLink RX8 69 yX5_times]
def wsX10_few : List Cond := .code yX10_few cX10_few 2 (some .boolean) :: ((wsX10_few_r1 ++ (wsX10_few_r2 ++ (wsX10_few_r3 ++ (wsX10_few_r4 ++ (wsX10_few_r5 ++ wsX10_few_r6))))) ++ wsX100 ++ wsX20 ++ wsX50 ++ wsX30 ++ wsX00 ++ wsX80)
def wsX10_foresight_r1 : List Cond := [Cond.fieldLink RX10 35 "ChooseOnce" "comers" "LChooseOnce$Comers;", Cond.fieldLink RX10 28 "ChooseOnce" "result" "LChooseOnce$Result;", Cond.methodLink RX10 131 yX2_foreseeInto, Cond.instanceMethod yX2_foreseeInto, Cond.selects RX2 yX2_foreseeInto yX2_foreseeInto, Cond.initialized RX2, Cond.code yX2_foreseeInto cX2_foreseeInto 2 none, Cond.fieldLink RX2 12 "ChooseOnce$Comers" "crowd" "LChooseOnce$Crowd;", Cond.fieldLink RX2 48 "ChooseOnce$Comers" "foreseen" "LChooseOnce$Natural;", Cond.methodLink RX2 133 yX2_foresee, Cond.instanceMethod yX2_foresee, Cond.selects RX2 yX2_foresee yX2_foresee, Cond.code yX2_foresee cX2_foresee 3 none, Cond.fieldLink RX2 45 "ChooseOnce$Comers" "before" "LChooseOnce$Natural;", Cond.fieldLink RX2 42 "ChooseOnce$Comers" "trial" "LChooseOnce$Natural;", Cond.methodLink RX2 76 yX5_put, Cond.instanceMethod yX5_put, Cond.selects RX5 yX5_put yX5_put, Cond.initialized RX5, Cond.code yX5_put cX5_put 6 none, Cond.methodLink RX5 13 Lib.MathLoose.max_long.x, Cond.static Lib.MathLoose.max_long.x, Cond.initialized "java/lang/Math", Cond.code Lib.MathLoose.max_long.x Lib.MathLoose.max_long.code 4 (some .long)]
def wsX10_foresight_r2 : List Cond := [Cond.fieldLink RX5 9 "ChooseOnce$Natural" "parts" "[I", Cond.constantLong RX5 19 (1000000000), Cond.methodLink RX2 136 yX3_leastFrom, Cond.instanceMethod yX3_leastFrom, Cond.selects RX3 yX3_leastFrom yX3_leastFrom, Cond.initialized RX3, Cond.code yX3_leastFrom cX3_leastFrom 5 (some .int), Cond.fieldLink RX3 22 "ChooseOnce$Crowd" "size" "I", Cond.methodLink RX3 30 yX3_at, Cond.instanceMethod yX3_at, Cond.selects RX3 yX3_at yX3_at, Cond.code yX3_at cX3_at 2 (some (.object "ChooseOnce$Book")), Cond.fieldLink RX3 18 "ChooseOnce$Crowd" "books" "[LChooseOnce$Book;", Cond.fieldLink RX3 12 "ChooseOnce$Crowd" "blank" "LChooseOnce$Book;", Cond.static yX10_isWithin, Cond.initialized RX10, Cond.code yX10_isWithin cX10_isWithin 6 (some .boolean), Cond.methodLink RX3 34 yX0_leastFrom, Cond.instanceMethod yX0_leastFrom, Cond.selects RX0 yX0_leastFrom yX0_leastFrom, Cond.initialized RX0, Cond.code yX0_leastFrom cX0_leastFrom 3 (some .int), Cond.fieldLink RX0 18 "ChooseOnce$Book" "size" "I", Cond.fieldLink RX0 9 "ChooseOnce$Book" "worths" "[I"]
def wsX10_foresight_r3 : List Cond := [Cond.methodLink RX2 137 yX3_waysUpTo, Cond.instanceMethod yX3_waysUpTo, Cond.selects RX3 yX3_waysUpTo yX3_waysUpTo, Cond.code yX3_waysUpTo cX3_waysUpTo 4 none, Cond.methodLink RX3 38 yX5_put, Cond.methodLink RX3 44 yX0_below, Cond.instanceMethod yX0_below, Cond.selects RX0 yX0_below yX0_below, Cond.code yX0_below cX0_below 4 (some .int), Cond.fieldLink RX0 15 "ChooseOnce$Book" "weights" "[I", Cond.methodLink RX3 47 yX5_times, Cond.instanceMethod yX5_times, Cond.selects RX5 yX5_times yX5_times, Cond.code yX5_times cX5_times 6 none, Cond.methodLink RX2 102 yX5_addTimes, Cond.instanceMethod yX5_addTimes, Cond.selects RX5 yX5_addTimes yX5_addTimes, Cond.code yX5_addTimes cX5_addTimes 7 none, Cond.methodLink RX2 141 yX5_takeTimes, Cond.instanceMethod yX5_takeTimes, Cond.selects RX5 yX5_takeTimes yX5_takeTimes, Cond.code yX5_takeTimes cX5_takeTimes 7 none, Cond.methodLink RX5 27 yJ9_floorMod_f86c9, Cond.static yJ9_floorMod_f86c9]
def wsX10_foresight_r4 : List Cond := [Cond.initialized RJ9, Cond.code yJ9_floorMod_f86c9 cJ9_floorMod_f86c9 6 (some .long), Cond.methodLink RX5 30 yJ9_floorDiv_f86c9, Cond.static yJ9_floorDiv_f86c9, Cond.code yJ9_floorDiv_f86c9 cJ9_floorDiv_f86c9 6 (some .long), Cond.methodLink RX2 125 yX5_copy, Cond.instanceMethod yX5_copy, Cond.selects RX5 yX5_copy yX5_copy, Cond.code yX5_copy cX5_copy 2 none, Cond.methodLink RX5 21 arraycopyName, Cond.native arraycopyName, Cond.static arraycopyName, Cond.initialized "java/lang/System", Cond.methodLink RX2 72 yX3_divide, Cond.instanceMethod yX3_divide, Cond.selects RX3 yX3_divide yX3_divide, Cond.code yX3_divide cX3_divide 4 none, Cond.methodLink RX3 50 yX8_put, Cond.instanceMethod yX8_put, Cond.selects RX8 yX8_put yX8_put, Cond.initialized RX8, Cond.code yX8_put cX8_put 2 none, Cond.fieldLink RX8 10 "ChooseOnce$Result" "top" "LChooseOnce$Natural;", Cond.fieldLink RX8 16 "ChooseOnce$Result" "bottom" "LChooseOnce$Natural;"]
def wsX10_foresight_r5 : List Cond := [Cond.fieldLink RX8 25 "ChooseOnce$Result" "sign" "I", Cond.methodLink RX8 33 yX5_copy, Cond.methodLink RX8 29 yX5_put, Cond.methodLink RX8 37 yX5_isZero, Cond.instanceMethod yX5_isZero, Cond.selects RX5 yX5_isZero yX5_isZero, Cond.code yX5_isZero cX5_isZero 1 (some .boolean), Cond.methodLink RX5 39 yX5_partCount, Cond.instanceMethod yX5_partCount, Cond.selects RX5 yX5_partCount yX5_partCount, Cond.code yX5_partCount cX5_partCount 2 (some .int), Cond.methodLink RX3 55 yX0_total, Cond.instanceMethod yX0_total, Cond.selects RX0 yX0_total yX0_total, Cond.code yX0_total cX0_total 1 (some .int), Cond.fieldLink RX0 22 "ChooseOnce$Book" "total" "I", Cond.methodLink RX3 59 yX8_over, Cond.instanceMethod yX8_over, Cond.selects RX8 yX8_over yX8_over, Cond.code yX8_over cX8_over 3 none, Cond.methodLink RX8 59 yX5_rest, Cond.instanceMethod yX5_rest, Cond.selects RX5 yX5_rest yX5_rest, Cond.code yX5_rest cX5_rest 5 (some .int)]
def wsX10_foresight_r6 : List Cond := [Cond.methodLink RX8 63 yX8_commonDivisor, Cond.static yX8_commonDivisor, Cond.code yX8_commonDivisor cX8_commonDivisor 6 (some .int), Cond.methodLink RX8 66 yX5_divide, Cond.instanceMethod yX5_divide, Cond.selects RX5 yX5_divide yX5_divide, Cond.code yX5_divide cX5_divide 5 none, Cond.methodLink RX8 69 yX5_times]
def wsX10_foresight : List Cond := .code yX10_foresight cX10_foresight 1 none :: ((wsX10_foresight_r1 ++ (wsX10_foresight_r2 ++ (wsX10_foresight_r3 ++ (wsX10_foresight_r4 ++ (wsX10_foresight_r5 ++ wsX10_foresight_r6))))) ++ wsX100 ++ wsX20 ++ wsX50 ++ wsX30 ++ wsX00 ++ wsX80)
def wsX10_half_r1 : List Cond := [Cond.fieldLink RX10 35 "ChooseOnce" "comers" "LChooseOnce$Comers;", Cond.methodLink RX10 134 yX2_lowestBarForHalf, Cond.instanceMethod yX2_lowestBarForHalf, Cond.selects RX2 yX2_lowestBarForHalf yX2_lowestBarForHalf, Cond.initialized RX2, Cond.code yX2_lowestBarForHalf cX2_lowestBarForHalf 4 (some .int), Cond.fieldLink RX2 25 "ChooseOnce$Comers" "evenBars" "[I", Cond.fieldLink RX2 35 "ChooseOnce$Comers" "mean" "LChooseOnce$Natural;", Cond.constantLong RX2 150 (2), Cond.fieldLink RX2 12 "ChooseOnce$Comers" "crowd" "LChooseOnce$Crowd;", Cond.fieldLink RX2 48 "ChooseOnce$Comers" "foreseen" "LChooseOnce$Natural;", Cond.methodLink RX2 133 yX2_foresee, Cond.instanceMethod yX2_foresee, Cond.selects RX2 yX2_foresee yX2_foresee, Cond.code yX2_foresee cX2_foresee 3 none, Cond.fieldLink RX2 45 "ChooseOnce$Comers" "before" "LChooseOnce$Natural;", Cond.fieldLink RX2 42 "ChooseOnce$Comers" "trial" "LChooseOnce$Natural;", Cond.methodLink RX2 76 yX5_put, Cond.instanceMethod yX5_put, Cond.selects RX5 yX5_put yX5_put, Cond.initialized RX5, Cond.code yX5_put cX5_put 6 none, Cond.methodLink RX5 13 Lib.MathLoose.max_long.x, Cond.static Lib.MathLoose.max_long.x]
def wsX10_half_r2 : List Cond := [Cond.initialized "java/lang/Math", Cond.code Lib.MathLoose.max_long.x Lib.MathLoose.max_long.code 4 (some .long), Cond.fieldLink RX5 9 "ChooseOnce$Natural" "parts" "[I", Cond.constantLong RX5 19 (1000000000), Cond.methodLink RX2 136 yX3_leastFrom, Cond.instanceMethod yX3_leastFrom, Cond.selects RX3 yX3_leastFrom yX3_leastFrom, Cond.initialized RX3, Cond.code yX3_leastFrom cX3_leastFrom 5 (some .int), Cond.fieldLink RX3 22 "ChooseOnce$Crowd" "size" "I", Cond.methodLink RX3 30 yX3_at, Cond.instanceMethod yX3_at, Cond.selects RX3 yX3_at yX3_at, Cond.code yX3_at cX3_at 2 (some (.object "ChooseOnce$Book")), Cond.fieldLink RX3 18 "ChooseOnce$Crowd" "books" "[LChooseOnce$Book;", Cond.fieldLink RX3 12 "ChooseOnce$Crowd" "blank" "LChooseOnce$Book;", Cond.static yX10_isWithin, Cond.initialized RX10, Cond.code yX10_isWithin cX10_isWithin 6 (some .boolean), Cond.methodLink RX3 34 yX0_leastFrom, Cond.instanceMethod yX0_leastFrom, Cond.selects RX0 yX0_leastFrom yX0_leastFrom, Cond.initialized RX0, Cond.code yX0_leastFrom cX0_leastFrom 3 (some .int)]
def wsX10_half_r3 : List Cond := [Cond.fieldLink RX0 18 "ChooseOnce$Book" "size" "I", Cond.fieldLink RX0 9 "ChooseOnce$Book" "worths" "[I", Cond.methodLink RX2 137 yX3_waysUpTo, Cond.instanceMethod yX3_waysUpTo, Cond.selects RX3 yX3_waysUpTo yX3_waysUpTo, Cond.code yX3_waysUpTo cX3_waysUpTo 4 none, Cond.methodLink RX3 38 yX5_put, Cond.methodLink RX3 44 yX0_below, Cond.instanceMethod yX0_below, Cond.selects RX0 yX0_below yX0_below, Cond.code yX0_below cX0_below 4 (some .int), Cond.fieldLink RX0 15 "ChooseOnce$Book" "weights" "[I", Cond.methodLink RX3 47 yX5_times, Cond.instanceMethod yX5_times, Cond.selects RX5 yX5_times yX5_times, Cond.code yX5_times cX5_times 6 none, Cond.methodLink RX2 102 yX5_addTimes, Cond.instanceMethod yX5_addTimes, Cond.selects RX5 yX5_addTimes yX5_addTimes, Cond.code yX5_addTimes cX5_addTimes 7 none, Cond.methodLink RX2 141 yX5_takeTimes, Cond.instanceMethod yX5_takeTimes, Cond.selects RX5 yX5_takeTimes yX5_takeTimes, Cond.code yX5_takeTimes cX5_takeTimes 7 none]
def wsX10_half_r4 : List Cond := [Cond.methodLink RX5 27 yJ9_floorMod_f86c9, Cond.static yJ9_floorMod_f86c9, Cond.initialized RJ9, Cond.code yJ9_floorMod_f86c9 cJ9_floorMod_f86c9 6 (some .long), Cond.methodLink RX5 30 yJ9_floorDiv_f86c9, Cond.static yJ9_floorDiv_f86c9, Cond.code yJ9_floorDiv_f86c9 cJ9_floorDiv_f86c9 6 (some .long), Cond.methodLink RX2 125 yX5_copy, Cond.instanceMethod yX5_copy, Cond.selects RX5 yX5_copy yX5_copy, Cond.code yX5_copy cX5_copy 2 none, Cond.methodLink RX5 21 arraycopyName, Cond.native arraycopyName, Cond.static arraycopyName, Cond.initialized "java/lang/System", Cond.methodLink RX2 144 yJ7_fill_53178, Cond.static yJ7_fill_53178, Cond.initialized RJ7, Cond.code yJ7_fill_53178 cJ7_fill_53178 4 none, Cond.methodLink RX2 68 yX2_follow, Cond.instanceMethod yX2_follow, Cond.selects RX2 yX2_follow yX2_follow, Cond.code yX2_follow cX2_follow 4 none, Cond.fieldLink RX2 39 "ChooseOnce$Comers" "all" "LChooseOnce$Natural;"]
def wsX10_half_r5 : List Cond := [Cond.methodLink RX2 80 Lib.Math.min.name, Cond.static Lib.Math.min.name, Cond.code Lib.Math.min.name Lib.Math.min.code 2 (some .int), Cond.methodLink RX2 51 yX3_size, Cond.instanceMethod yX3_size, Cond.selects RX3 yX3_size yX3_size, Cond.code yX3_size cX3_size 1 (some .int), Cond.methodLink RX2 86 yX3_at, Cond.methodLink RX2 90 yX0_below, Cond.methodLink RX2 96 yX5_times, Cond.methodLink RX2 99 yX0_gathered, Cond.instanceMethod yX0_gathered, Cond.selects RX0 yX0_gathered yX0_gathered, Cond.code yX0_gathered cX0_gathered 4 (some .int), Cond.methodLink RX2 106 yX0_total, Cond.instanceMethod yX0_total, Cond.selects RX0 yX0_total yX0_total, Cond.code yX0_total cX0_total 1 (some .int), Cond.fieldLink RX0 22 "ChooseOnce$Book" "total" "I", Cond.methodLink RX2 129 yX5_against, Cond.instanceMethod yX5_against, Cond.selects RX5 yX5_against yX5_against, Cond.code yX5_against cX5_against 3 (some .int), Cond.methodLink RX5 33 yJ6_compare_7cf53]
def wsX10_half_r6 : List Cond := [Cond.static yJ6_compare_7cf53, Cond.initialized RJ6, Cond.code yJ6_compare_7cf53 cJ6_compare_7cf53 2 (some .int)]
def wsX10_half : List Cond := .code yX10_half cX10_half 1 (some .int) :: ((wsX10_half_r1 ++ (wsX10_half_r2 ++ (wsX10_half_r3 ++ (wsX10_half_r4 ++ (wsX10_half_r5 ++ wsX10_half_r6))))) ++ wsX100 ++ wsX20 ++ wsX50 ++ wsX30 ++ wsX00)
def wsX10_letting_r1 : List Cond := [Cond.constantLong RX10 137 (60), Cond.fieldLink RX10 42 "ChooseOnce" "passing" "LChooseOnce$Passing;", Cond.fieldLink RX10 28 "ChooseOnce" "result" "LChooseOnce$Result;", Cond.methodLink RX10 75 yX10_isWithin, Cond.static yX10_isWithin, Cond.initialized RX10, Cond.code yX10_isWithin cX10_isWithin 6 (some .boolean), Cond.methodLink RX10 139 yX6_winLetting, Cond.instanceMethod yX6_winLetting, Cond.selects RX6 yX6_winLetting yX6_winLetting, Cond.initialized RX6, Cond.code yX6_winLetting cX6_winLetting 5 none, Cond.fieldLink RX6 19 "ChooseOnce$Passing" "shares" "LChooseOnce$Natural;", Cond.fieldLink RX6 22 "ChooseOnce$Passing" "wins" "LChooseOnce$Natural;", Cond.fieldLink RX6 32 "ChooseOnce$Passing" "PRIME_POWERS" "[I", Cond.methodLink RX6 28 yX5_put, Cond.instanceMethod yX5_put, Cond.selects RX5 yX5_put yX5_put, Cond.initialized RX5, Cond.code yX5_put cX5_put 6 none, Cond.methodLink RX5 13 Lib.MathLoose.max_long.x, Cond.static Lib.MathLoose.max_long.x, Cond.initialized "java/lang/Math", Cond.code Lib.MathLoose.max_long.x Lib.MathLoose.max_long.code 4 (some .long)]
def wsX10_letting_r2 : List Cond := [Cond.fieldLink RX5 9 "ChooseOnce$Natural" "parts" "[I", Cond.constantLong RX5 19 (1000000000), Cond.methodLink RX6 39 yX6_letOneLess, Cond.instanceMethod yX6_letOneLess, Cond.selects RX6 yX6_letOneLess yX6_letOneLess, Cond.code yX6_letOneLess cX6_letOneLess 2 none, Cond.fieldLink RX6 10 "ChooseOnce$Passing" "whole" "LChooseOnce$Natural;", Cond.fieldLink RX6 16 "ChooseOnce$Passing" "share" "LChooseOnce$Natural;", Cond.methodLink RX6 55 yX5_copy, Cond.instanceMethod yX5_copy, Cond.selects RX5 yX5_copy yX5_copy, Cond.code yX5_copy cX5_copy 2 none, Cond.methodLink RX5 21 arraycopyName, Cond.native arraycopyName, Cond.static arraycopyName, Cond.initialized "java/lang/System", Cond.methodLink RX6 58 yX5_divide, Cond.instanceMethod yX5_divide, Cond.selects RX5 yX5_divide yX5_divide, Cond.code yX5_divide cX5_divide 5 none, Cond.methodLink RX6 61 yX5_addTimes, Cond.instanceMethod yX5_addTimes, Cond.selects RX5 yX5_addTimes yX5_addTimes, Cond.code yX5_addTimes cX5_addTimes 7 none]
def wsX10_letting_r3 : List Cond := [Cond.methodLink RX6 36 yX5_times, Cond.instanceMethod yX5_times, Cond.selects RX5 yX5_times yX5_times, Cond.code yX5_times cX5_times 6 none, Cond.methodLink RX6 43 yX8_put, Cond.instanceMethod yX8_put, Cond.selects RX8 yX8_put yX8_put, Cond.initialized RX8, Cond.code yX8_put cX8_put 2 none, Cond.fieldLink RX8 10 "ChooseOnce$Result" "top" "LChooseOnce$Natural;", Cond.fieldLink RX8 16 "ChooseOnce$Result" "bottom" "LChooseOnce$Natural;", Cond.fieldLink RX8 25 "ChooseOnce$Result" "sign" "I", Cond.methodLink RX8 33 yX5_copy, Cond.methodLink RX8 29 yX5_put, Cond.methodLink RX8 37 yX5_isZero, Cond.instanceMethod yX5_isZero, Cond.selects RX5 yX5_isZero yX5_isZero, Cond.code yX5_isZero cX5_isZero 1 (some .boolean), Cond.methodLink RX5 39 yX5_partCount, Cond.instanceMethod yX5_partCount, Cond.selects RX5 yX5_partCount yX5_partCount, Cond.code yX5_partCount cX5_partCount 2 (some .int), Cond.methodLink RX6 48 yX8_over, Cond.instanceMethod yX8_over]
def wsX10_letting_r4 : List Cond := [Cond.selects RX8 yX8_over yX8_over, Cond.code yX8_over cX8_over 3 none, Cond.methodLink RX8 59 yX5_rest, Cond.instanceMethod yX5_rest, Cond.selects RX5 yX5_rest yX5_rest, Cond.code yX5_rest cX5_rest 5 (some .int), Cond.methodLink RX8 63 yX8_commonDivisor, Cond.static yX8_commonDivisor, Cond.code yX8_commonDivisor cX8_commonDivisor 6 (some .int), Cond.methodLink RX8 66 yX5_divide, Cond.methodLink RX8 69 yX5_times]
def wsX10_letting : List Cond := .code yX10_letting cX10_letting 3 (some .boolean) :: ((wsX10_letting_r1 ++ (wsX10_letting_r2 ++ (wsX10_letting_r3 ++ wsX10_letting_r4))) ++ wsX100 ++ wsX60 ++ wsX50 ++ wsX80)
def wsX10_pass_r1 : List Cond := [Cond.constantLong RX10 137 (60), Cond.fieldLink RX10 42 "ChooseOnce" "passing" "LChooseOnce$Passing;", Cond.methodLink RX10 75 yX10_isWithin, Cond.static yX10_isWithin, Cond.initialized RX10, Cond.code yX10_isWithin cX10_isWithin 6 (some .boolean), Cond.methodLink RX10 143 yX6_bestToLet, Cond.instanceMethod yX6_bestToLet, Cond.selects RX6 yX6_bestToLet yX6_bestToLet, Cond.initialized RX6, Cond.code yX6_bestToLet cX6_bestToLet 4 (some .int), Cond.fieldLink RX6 19 "ChooseOnce$Passing" "shares" "LChooseOnce$Natural;", Cond.fieldLink RX6 25 "ChooseOnce$Passing" "most" "LChooseOnce$Natural;", Cond.fieldLink RX6 22 "ChooseOnce$Passing" "wins" "LChooseOnce$Natural;", Cond.methodLink RX6 28 yX5_put, Cond.instanceMethod yX5_put, Cond.selects RX5 yX5_put yX5_put, Cond.initialized RX5, Cond.code yX5_put cX5_put 6 none, Cond.methodLink RX5 13 Lib.MathLoose.max_long.x, Cond.static Lib.MathLoose.max_long.x, Cond.initialized "java/lang/Math", Cond.code Lib.MathLoose.max_long.x Lib.MathLoose.max_long.code 4 (some .long), Cond.fieldLink RX5 9 "ChooseOnce$Natural" "parts" "[I"]
def wsX10_pass_r2 : List Cond := [Cond.constantLong RX5 19 (1000000000), Cond.methodLink RX6 39 yX6_letOneLess, Cond.instanceMethod yX6_letOneLess, Cond.selects RX6 yX6_letOneLess yX6_letOneLess, Cond.code yX6_letOneLess cX6_letOneLess 2 none, Cond.fieldLink RX6 10 "ChooseOnce$Passing" "whole" "LChooseOnce$Natural;", Cond.fieldLink RX6 16 "ChooseOnce$Passing" "share" "LChooseOnce$Natural;", Cond.methodLink RX6 55 yX5_copy, Cond.instanceMethod yX5_copy, Cond.selects RX5 yX5_copy yX5_copy, Cond.code yX5_copy cX5_copy 2 none, Cond.methodLink RX5 21 arraycopyName, Cond.native arraycopyName, Cond.static arraycopyName, Cond.initialized "java/lang/System", Cond.methodLink RX6 58 yX5_divide, Cond.instanceMethod yX5_divide, Cond.selects RX5 yX5_divide yX5_divide, Cond.code yX5_divide cX5_divide 5 none, Cond.methodLink RX6 61 yX5_addTimes, Cond.instanceMethod yX5_addTimes, Cond.selects RX5 yX5_addTimes yX5_addTimes, Cond.code yX5_addTimes cX5_addTimes 7 none, Cond.methodLink RX6 36 yX5_times]
def wsX10_pass_r3 : List Cond := [Cond.instanceMethod yX5_times, Cond.selects RX5 yX5_times yX5_times, Cond.code yX5_times cX5_times 6 none, Cond.methodLink RX6 51 yX5_against, Cond.instanceMethod yX5_against, Cond.selects RX5 yX5_against yX5_against, Cond.code yX5_against cX5_against 3 (some .int), Cond.methodLink RX5 33 yJ6_compare_7cf53, Cond.static yJ6_compare_7cf53, Cond.initialized RJ6, Cond.code yJ6_compare_7cf53 cJ6_compare_7cf53 2 (some .int)]
def wsX10_pass : List Cond := .code yX10_pass cX10_pass 2 (some .int) :: ((wsX10_pass_r1 ++ (wsX10_pass_r2 ++ wsX10_pass_r3)) ++ wsX100 ++ wsX60 ++ wsX50)
def wsX10_pay : List Cond := .code yX10_pay cX10_pay 3 (some .boolean) :: ([.constantLong RX10 146 (20), .constantLong RX10 148 (1000), .fieldLink RX10 49 "ChooseOnce" "ranking" "LChooseOnce$Ranking;", .methodLink RX10 75 yX10_isWithin, .static yX10_isWithin, .initialized RX10, .code yX10_isWithin cX10_isWithin 6 (some .boolean), .methodLink RX10 150 yX7_setPay, .instanceMethod yX7_setPay, .selects RX7 yX7_setPay yX7_setPay, .initialized RX7, .code yX7_setPay cX7_setPay 3 none, .constantLong RX7 29 (20), .fieldLink RX7 9 "ChooseOnce$Ranking" "pays" "[I"] ++ wsX100 ++ wsX70)
def wsX10_ranks_r1 : List Cond := [Cond.constantLong RX10 146 (20), Cond.fieldLink RX10 49 "ChooseOnce" "ranking" "LChooseOnce$Ranking;", Cond.fieldLink RX10 28 "ChooseOnce" "result" "LChooseOnce$Result;", Cond.methodLink RX10 75 yX10_isWithin, Cond.static yX10_isWithin, Cond.initialized RX10, Cond.code yX10_isWithin cX10_isWithin 6 (some .boolean), Cond.methodLink RX10 153 yX7_meanInto, Cond.instanceMethod yX7_meanInto, Cond.selects RX7 yX7_meanInto yX7_meanInto, Cond.initialized RX7, Cond.code yX7_meanInto cX7_meanInto 4 none, Cond.fieldLink RX7 22 "ChooseOnce$Ranking" "no" "LChooseOnce$Natural;", Cond.methodLink RX7 35 yX7_comeBackTo, Cond.instanceMethod yX7_comeBackTo, Cond.selects RX7 yX7_comeBackTo yX7_comeBackTo, Cond.code yX7_comeBackTo cX7_comeBackTo 4 none, Cond.methodLink RX7 59 Lib.Math.min.name, Cond.static Lib.Math.min.name, Cond.initialized "java/lang/Math", Cond.code Lib.Math.min.name Lib.Math.min.code 2 (some .int), Cond.fieldLink RX7 17 "ChooseOnce$Ranking" "yeses" "[LChooseOnce$Natural;", Cond.fieldLink RX7 9 "ChooseOnce$Ranking" "pays" "[I", Cond.methodLink RX7 56 yX5_put]
def wsX10_ranks_r2 : List Cond := [Cond.instanceMethod yX5_put, Cond.selects RX5 yX5_put yX5_put, Cond.initialized RX5, Cond.code yX5_put cX5_put 6 none, Cond.methodLink RX5 13 Lib.MathLoose.max_long.x, Cond.static Lib.MathLoose.max_long.x, Cond.code Lib.MathLoose.max_long.x Lib.MathLoose.max_long.code 4 (some .long), Cond.fieldLink RX5 9 "ChooseOnce$Natural" "parts" "[I", Cond.constantLong RX5 19 (1000000000), Cond.methodLink RX7 39 yX7_goAhead, Cond.instanceMethod yX7_goAhead, Cond.selects RX7 yX7_goAhead yX7_goAhead, Cond.code yX7_goAhead cX7_goAhead 3 none, Cond.fieldLink RX7 26 "ChooseOnce$Ranking" "sum" "LChooseOnce$Natural;", Cond.methodLink RX7 52 yX5_against, Cond.instanceMethod yX5_against, Cond.selects RX5 yX5_against yX5_against, Cond.code yX5_against cX5_against 3 (some .int), Cond.methodLink RX5 33 yJ6_compare_7cf53, Cond.static yJ6_compare_7cf53, Cond.initialized RJ6, Cond.code yJ6_compare_7cf53 cJ6_compare_7cf53 2 (some .int), Cond.methodLink RX7 68 yX5_addTimes, Cond.instanceMethod yX5_addTimes]
def wsX10_ranks_r3 : List Cond := [Cond.selects RX5 yX5_addTimes yX5_addTimes, Cond.code yX5_addTimes cX5_addTimes 7 none, Cond.methodLink RX7 72 yX5_copy, Cond.instanceMethod yX5_copy, Cond.selects RX5 yX5_copy yX5_copy, Cond.code yX5_copy cX5_copy 2 none, Cond.methodLink RX5 21 arraycopyName, Cond.native arraycopyName, Cond.static arraycopyName, Cond.initialized "java/lang/System", Cond.methodLink RX7 65 yX7_unseeNext, Cond.instanceMethod yX7_unseeNext, Cond.selects RX7 yX7_unseeNext yX7_unseeNext, Cond.code yX7_unseeNext cX7_unseeNext 3 none, Cond.methodLink RX7 75 yX5_times, Cond.instanceMethod yX5_times, Cond.selects RX5 yX5_times yX5_times, Cond.code yX5_times cX5_times 6 none, Cond.methodLink RX7 43 yX8_put, Cond.instanceMethod yX8_put, Cond.selects RX8 yX8_put yX8_put, Cond.initialized RX8, Cond.code yX8_put cX8_put 2 none, Cond.fieldLink RX8 10 "ChooseOnce$Result" "top" "LChooseOnce$Natural;"]
def wsX10_ranks_r4 : List Cond := [Cond.fieldLink RX8 16 "ChooseOnce$Result" "bottom" "LChooseOnce$Natural;", Cond.fieldLink RX8 25 "ChooseOnce$Result" "sign" "I", Cond.methodLink RX8 33 yX5_copy, Cond.methodLink RX8 29 yX5_put, Cond.methodLink RX8 37 yX5_isZero, Cond.instanceMethod yX5_isZero, Cond.selects RX5 yX5_isZero yX5_isZero, Cond.code yX5_isZero cX5_isZero 1 (some .boolean), Cond.methodLink RX5 39 yX5_partCount, Cond.instanceMethod yX5_partCount, Cond.selects RX5 yX5_partCount yX5_partCount, Cond.code yX5_partCount cX5_partCount 2 (some .int), Cond.methodLink RX7 49 yX8_over, Cond.instanceMethod yX8_over, Cond.selects RX8 yX8_over yX8_over, Cond.code yX8_over cX8_over 3 none, Cond.methodLink RX8 59 yX5_rest, Cond.instanceMethod yX5_rest, Cond.selects RX5 yX5_rest yX5_rest, Cond.code yX5_rest cX5_rest 5 (some .int), Cond.methodLink RX8 63 yX8_commonDivisor, Cond.static yX8_commonDivisor, Cond.code yX8_commonDivisor cX8_commonDivisor 6 (some .int), Cond.methodLink RX8 66 yX5_divide]
def wsX10_ranks_r5 : List Cond := [Cond.instanceMethod yX5_divide, Cond.selects RX5 yX5_divide yX5_divide, Cond.code yX5_divide cX5_divide 5 none, Cond.methodLink RX8 69 yX5_times]
def wsX10_ranks : List Cond := .code yX10_ranks cX10_ranks 2 (some .boolean) :: ((wsX10_ranks_r1 ++ (wsX10_ranks_r2 ++ (wsX10_ranks_r3 ++ (wsX10_ranks_r4 ++ wsX10_ranks_r5)))) ++ wsX100 ++ wsX70 ++ wsX50 ++ wsX80)
def wsX10_yes_r1 : List Cond := [Cond.constantLong RX10 146 (20), Cond.fieldLink RX10 49 "ChooseOnce" "ranking" "LChooseOnce$Ranking;", Cond.methodLink RX10 75 yX10_isWithin, Cond.static yX10_isWithin, Cond.initialized RX10, Cond.code yX10_isWithin cX10_isWithin 6 (some .boolean), Cond.methodLink RX10 156 yX7_isTaken, Cond.instanceMethod yX7_isTaken, Cond.selects RX7 yX7_isTaken yX7_isTaken, Cond.initialized RX7, Cond.code yX7_isTaken cX7_isTaken 4 (some .boolean), Cond.constantLong RX7 29 (20), Cond.fieldLink RX7 17 "ChooseOnce$Ranking" "yeses" "[LChooseOnce$Natural;", Cond.fieldLink RX7 22 "ChooseOnce$Ranking" "no" "LChooseOnce$Natural;", Cond.methodLink RX7 35 yX7_comeBackTo, Cond.instanceMethod yX7_comeBackTo, Cond.selects RX7 yX7_comeBackTo yX7_comeBackTo, Cond.code yX7_comeBackTo cX7_comeBackTo 4 none, Cond.methodLink RX7 59 Lib.Math.min.name, Cond.static Lib.Math.min.name, Cond.initialized "java/lang/Math", Cond.code Lib.Math.min.name Lib.Math.min.code 2 (some .int), Cond.fieldLink RX7 9 "ChooseOnce$Ranking" "pays" "[I", Cond.methodLink RX7 56 yX5_put]
def wsX10_yes_r2 : List Cond := [Cond.instanceMethod yX5_put, Cond.selects RX5 yX5_put yX5_put, Cond.initialized RX5, Cond.code yX5_put cX5_put 6 none, Cond.methodLink RX5 13 Lib.MathLoose.max_long.x, Cond.static Lib.MathLoose.max_long.x, Cond.code Lib.MathLoose.max_long.x Lib.MathLoose.max_long.code 4 (some .long), Cond.fieldLink RX5 9 "ChooseOnce$Natural" "parts" "[I", Cond.constantLong RX5 19 (1000000000), Cond.methodLink RX7 39 yX7_goAhead, Cond.instanceMethod yX7_goAhead, Cond.selects RX7 yX7_goAhead yX7_goAhead, Cond.code yX7_goAhead cX7_goAhead 3 none, Cond.fieldLink RX7 26 "ChooseOnce$Ranking" "sum" "LChooseOnce$Natural;", Cond.methodLink RX7 52 yX5_against, Cond.instanceMethod yX5_against, Cond.selects RX5 yX5_against yX5_against, Cond.code yX5_against cX5_against 3 (some .int), Cond.methodLink RX5 33 yJ6_compare_7cf53, Cond.static yJ6_compare_7cf53, Cond.initialized RJ6, Cond.code yJ6_compare_7cf53 cJ6_compare_7cf53 2 (some .int), Cond.methodLink RX7 68 yX5_addTimes, Cond.instanceMethod yX5_addTimes]
def wsX10_yes_r3 : List Cond := [Cond.selects RX5 yX5_addTimes yX5_addTimes, Cond.code yX5_addTimes cX5_addTimes 7 none, Cond.methodLink RX7 72 yX5_copy, Cond.instanceMethod yX5_copy, Cond.selects RX5 yX5_copy yX5_copy, Cond.code yX5_copy cX5_copy 2 none, Cond.methodLink RX5 21 arraycopyName, Cond.native arraycopyName, Cond.static arraycopyName, Cond.initialized "java/lang/System", Cond.methodLink RX7 65 yX7_unseeNext, Cond.instanceMethod yX7_unseeNext, Cond.selects RX7 yX7_unseeNext yX7_unseeNext, Cond.code yX7_unseeNext cX7_unseeNext 3 none, Cond.methodLink RX7 75 yX5_times, Cond.instanceMethod yX5_times, Cond.selects RX5 yX5_times yX5_times, Cond.code yX5_times cX5_times 6 none]
def wsX10_yes : List Cond := .code yX10_yes cX10_yes 4 (some .int) :: ((wsX10_yes_r1 ++ (wsX10_yes_r2 ++ wsX10_yes_r3)) ++ wsX100 ++ wsX70 ++ wsX50)
def wsX10_happen : List Cond := .code yX10_happen cX10_happen 3 (some .int) :: ([.constantLong RX10 160 (100), .fieldLink RX10 56 "ChooseOnce" "happenings" "LChooseOnce$Happenings;", .methodLink RX10 75 yX10_isWithin, .static yX10_isWithin, .initialized RX10, .code yX10_isWithin cX10_isWithin 6 (some .boolean), .methodLink RX10 162 yX4_join, .instanceMethod yX4_join, .selects RX4 yX4_join yX4_join, .initialized RX4, .code yX4_join cX4_join 3 (some .int), .fieldLink RX4 18 "ChooseOnce$Happenings" "size" "I", .fieldLink RX4 9 "ChooseOnce$Happenings" "tops" "[I", .fieldLink RX4 15 "ChooseOnce$Happenings" "bottoms" "[I"] ++ wsX100 ++ wsX40)
def wsX10_forget : List Cond := .code yX10_forget cX10_forget 1 (some .int) :: ([.fieldLink RX10 56 "ChooseOnce" "happenings" "LChooseOnce$Happenings;", .methodLink RX10 165 yX4_clear, .instanceMethod yX4_clear, .selects RX4 yX4_clear yX4_clear, .initialized RX4, .code yX4_clear cX4_clear 2 (some .int), .fieldLink RX4 18 "ChooseOnce$Happenings" "size" "I"] ++ wsX100 ++ wsX40)
def wsX10_last_r1 : List Cond := [Cond.fieldLink RX10 56 "ChooseOnce" "happenings" "LChooseOnce$Happenings;", Cond.fieldLink RX10 28 "ChooseOnce" "result" "LChooseOnce$Result;", Cond.methodLink RX10 166 yX4_bestStart, Cond.instanceMethod yX4_bestStart, Cond.selects RX4 yX4_bestStart yX4_bestStart, Cond.initialized RX4, Cond.code yX4_bestStart cX4_bestStart 4 (some .int), Cond.fieldLink RX4 18 "ChooseOnce$Happenings" "size" "I", Cond.fieldLink RX4 25 "ChooseOnce$Happenings" "win" "LChooseOnce$Natural;", Cond.fieldLink RX4 29 "ChooseOnce$Happenings" "quiet" "LChooseOnce$Natural;", Cond.fieldLink RX4 32 "ChooseOnce$Happenings" "most" "LChooseOnce$Natural;", Cond.fieldLink RX4 15 "ChooseOnce$Happenings" "bottoms" "[I", Cond.methodLink RX4 35 yX5_put, Cond.instanceMethod yX5_put, Cond.selects RX5 yX5_put yX5_put, Cond.initialized RX5, Cond.code yX5_put cX5_put 6 none, Cond.methodLink RX5 13 Lib.MathLoose.max_long.x, Cond.static Lib.MathLoose.max_long.x, Cond.initialized "java/lang/Math", Cond.code Lib.MathLoose.max_long.x Lib.MathLoose.max_long.code 4 (some .long), Cond.fieldLink RX5 9 "ChooseOnce$Natural" "parts" "[I", Cond.constantLong RX5 19 (1000000000), Cond.methodLink RX4 39 yX4_startAt]
def wsX10_last_r2 : List Cond := [Cond.instanceMethod yX4_startAt, Cond.selects RX4 yX4_startAt yX4_startAt, Cond.code yX4_startAt cX4_startAt 3 none, Cond.fieldLink RX4 9 "ChooseOnce$Happenings" "tops" "[I", Cond.methodLink RX4 58 yX5_times, Cond.instanceMethod yX5_times, Cond.selects RX5 yX5_times yX5_times, Cond.code yX5_times cX5_times 6 none, Cond.methodLink RX4 61 yX5_addTimes, Cond.instanceMethod yX5_addTimes, Cond.selects RX5 yX5_addTimes yX5_addTimes, Cond.code yX5_addTimes cX5_addTimes 7 none, Cond.methodLink RX4 43 yX5_against, Cond.instanceMethod yX5_against, Cond.selects RX5 yX5_against yX5_against, Cond.code yX5_against cX5_against 3 (some .int), Cond.methodLink RX5 33 yJ6_compare_7cf53, Cond.static yJ6_compare_7cf53, Cond.initialized RJ6, Cond.code yJ6_compare_7cf53 cJ6_compare_7cf53 2 (some .int), Cond.methodLink RX4 47 yX5_copy, Cond.instanceMethod yX5_copy, Cond.selects RX5 yX5_copy yX5_copy, Cond.code yX5_copy cX5_copy 2 none]
def wsX10_last_r3 : List Cond := [Cond.methodLink RX5 21 arraycopyName, Cond.native arraycopyName, Cond.static arraycopyName, Cond.initialized "java/lang/System", Cond.methodLink RX4 51 yX8_put, Cond.instanceMethod yX8_put, Cond.selects RX8 yX8_put yX8_put, Cond.initialized RX8, Cond.code yX8_put cX8_put 2 none, Cond.fieldLink RX8 10 "ChooseOnce$Result" "top" "LChooseOnce$Natural;", Cond.fieldLink RX8 16 "ChooseOnce$Result" "bottom" "LChooseOnce$Natural;", Cond.fieldLink RX8 25 "ChooseOnce$Result" "sign" "I", Cond.methodLink RX8 33 yX5_copy, Cond.methodLink RX8 29 yX5_put, Cond.methodLink RX8 37 yX5_isZero, Cond.instanceMethod yX5_isZero, Cond.selects RX5 yX5_isZero yX5_isZero, Cond.code yX5_isZero cX5_isZero 1 (some .boolean), Cond.methodLink RX5 39 yX5_partCount, Cond.instanceMethod yX5_partCount, Cond.selects RX5 yX5_partCount yX5_partCount, Cond.code yX5_partCount cX5_partCount 2 (some .int), Cond.methodLink RX4 55 yX8_over, Cond.instanceMethod yX8_over]
def wsX10_last_r4 : List Cond := [Cond.selects RX8 yX8_over yX8_over, Cond.code yX8_over cX8_over 3 none, Cond.methodLink RX8 59 yX5_rest, Cond.instanceMethod yX5_rest, Cond.selects RX5 yX5_rest yX5_rest, Cond.code yX5_rest cX5_rest 5 (some .int), Cond.methodLink RX8 63 yX8_commonDivisor, Cond.static yX8_commonDivisor, Cond.code yX8_commonDivisor cX8_commonDivisor 6 (some .int), Cond.methodLink RX8 66 yX5_divide, Cond.instanceMethod yX5_divide, Cond.selects RX5 yX5_divide yX5_divide, Cond.code yX5_divide cX5_divide 5 none, Cond.methodLink RX8 69 yX5_times]
def wsX10_last : List Cond := .code yX10_last cX10_last 1 (some .int) :: ((wsX10_last_r1 ++ (wsX10_last_r2 ++ (wsX10_last_r3 ++ wsX10_last_r4))) ++ wsX100 ++ wsX40 ++ wsX50 ++ wsX80)
def wsX10_box_r1 : List Cond := [Cond.constantLong RX10 148 (1000), Cond.fieldLink RX10 63 "ChooseOnce" "boxes" "LChooseOnce$Boxes;", Cond.fieldLink RX10 17 "ChooseOnce" "books" "[LChooseOnce$Book;", Cond.methodLink RX10 98 yX10_isBook, Cond.instanceMethod yX10_isBook, Cond.selects RX10 yX10_isBook yX10_isBook, Cond.initialized RX10, Cond.code yX10_isBook cX10_isBook 2 (some .boolean), Cond.fieldLink RX10 21 "ChooseOnce" "bookCount" "I", Cond.methodLink RX10 75 yX10_isWithin, Cond.static yX10_isWithin, Cond.code yX10_isWithin cX10_isWithin 6 (some .boolean), Cond.methodLink RX10 170 yX1_join, Cond.instanceMethod yX1_join, Cond.selects RX1 yX1_join yX1_join, Cond.initialized RX1, Cond.code yX1_join cX1_join 4 (some .int), Cond.fieldLink RX1 12 "ChooseOnce$Boxes" "all" "LChooseOnce$Crowd;", Cond.fieldLink RX1 21 "ChooseOnce$Boxes" "prices" "[I", Cond.methodLink RX1 44 yX3_size, Cond.instanceMethod yX3_size, Cond.selects RX3 yX3_size yX3_size, Cond.initialized RX3, Cond.code yX3_size cX3_size 1 (some .int)]
def wsX10_box_r2 : List Cond := [Cond.fieldLink RX3 22 "ChooseOnce$Crowd" "size" "I", Cond.methodLink RX1 48 yX3_join, Cond.instanceMethod yX3_join, Cond.selects RX3 yX3_join yX3_join, Cond.code yX3_join cX3_join 2 none, Cond.fieldLink RX3 18 "ChooseOnce$Crowd" "books" "[LChooseOnce$Book;", Cond.methodLink RX1 52 yX1_findFairBar, Cond.instanceMethod yX1_findFairBar, Cond.selects RX1 yX1_findFairBar yX1_findFairBar, Cond.code yX1_findFairBar cX1_findFairBar 8 none, Cond.fieldLink RX1 28 "ChooseOnce$Boxes" "fairBottoms" "[I", Cond.fieldLink RX1 25 "ChooseOnce$Boxes" "fairTops" "[I", Cond.methodLink RX1 62 yX3_at, Cond.instanceMethod yX3_at, Cond.selects RX3 yX3_at yX3_at, Cond.code yX3_at cX3_at 2 (some (.object "ChooseOnce$Book")), Cond.fieldLink RX3 12 "ChooseOnce$Crowd" "blank" "LChooseOnce$Book;", Cond.methodLink RX1 66 yX0_total, Cond.instanceMethod yX0_total, Cond.selects RX0 yX0_total yX0_total, Cond.initialized RX0, Cond.code yX0_total cX0_total 1 (some .int), Cond.fieldLink RX0 22 "ChooseOnce$Book" "total" "I", Cond.methodLink RX1 71 yX0_leastFrom]
def wsX10_box_r3 : List Cond := [Cond.instanceMethod yX0_leastFrom, Cond.selects RX0 yX0_leastFrom yX0_leastFrom, Cond.code yX0_leastFrom cX0_leastFrom 3 (some .int), Cond.fieldLink RX0 18 "ChooseOnce$Book" "size" "I", Cond.fieldLink RX0 9 "ChooseOnce$Book" "worths" "[I", Cond.methodLink RX1 75 yX0_gathered, Cond.instanceMethod yX0_gathered, Cond.selects RX0 yX0_gathered yX0_gathered, Cond.code yX0_gathered cX0_gathered 4 (some .int), Cond.fieldLink RX0 15 "ChooseOnce$Book" "weights" "[I", Cond.methodLink RX1 78 yX0_below, Cond.instanceMethod yX0_below, Cond.selects RX0 yX0_below yX0_below, Cond.code yX0_below cX0_below 4 (some .int), Cond.methodLink RX1 81 yX1_isAbove, Cond.instanceMethod yX1_isAbove, Cond.selects RX1 yX1_isAbove yX1_isAbove, Cond.code yX1_isAbove cX1_isAbove 6 (some .boolean), Cond.methodLink RX1 56 yX1_putInOrder, Cond.instanceMethod yX1_putInOrder, Cond.selects RX1 yX1_putInOrder yX1_putInOrder, Cond.code yX1_putInOrder cX1_putInOrder 3 none, Cond.fieldLink RX1 31 "ChooseOnce$Boxes" "order" "[I"]
def wsX10_box : List Cond := .code yX10_box cX10_box 3 (some .int) :: ((wsX10_box_r1 ++ (wsX10_box_r2 ++ wsX10_box_r3)) ++ wsX100 ++ wsX10 ++ wsX30 ++ wsX00)
def wsX10_empty : List Cond := .code yX10_empty cX10_empty 1 (some .int) :: ([.fieldLink RX10 63 "ChooseOnce" "boxes" "LChooseOnce$Boxes;", .methodLink RX10 173 yX1_clear, .instanceMethod yX1_clear, .selects RX1 yX1_clear yX1_clear, .initialized RX1, .code yX1_clear cX1_clear 2 (some .int), .fieldLink RX1 12 "ChooseOnce$Boxes" "all" "LChooseOnce$Crowd;", .methodLink RX1 44 yX3_size, .instanceMethod yX3_size, .selects RX3 yX3_size yX3_size, .initialized RX3, .code yX3_size cX3_size 1 (some .int), .fieldLink RX3 22 "ChooseOnce$Crowd" "size" "I", .methodLink RX1 59 yX3_clear, .instanceMethod yX3_clear, .selects RX3 yX3_clear yX3_clear, .code yX3_clear cX3_clear 1 none] ++ wsX100 ++ wsX10 ++ wsX30)
def wsX10_fair_r1 : List Cond := [Cond.fieldLink RX10 63 "ChooseOnce" "boxes" "LChooseOnce$Boxes;", Cond.fieldLink RX10 28 "ChooseOnce" "result" "LChooseOnce$Result;", Cond.methodLink RX10 174 yX1_size, Cond.instanceMethod yX1_size, Cond.selects RX1 yX1_size yX1_size, Cond.initialized RX1, Cond.code yX1_size cX1_size 1 (some .int), Cond.fieldLink RX1 12 "ChooseOnce$Boxes" "all" "LChooseOnce$Crowd;", Cond.methodLink RX1 44 yX3_size, Cond.instanceMethod yX3_size, Cond.selects RX3 yX3_size yX3_size, Cond.initialized RX3, Cond.code yX3_size cX3_size 1 (some .int), Cond.fieldLink RX3 22 "ChooseOnce$Crowd" "size" "I", Cond.methodLink RX10 75 yX10_isWithin, Cond.static yX10_isWithin, Cond.initialized RX10, Cond.code yX10_isWithin cX10_isWithin 6 (some .boolean), Cond.methodLink RX10 175 yX1_fairBarInto, Cond.instanceMethod yX1_fairBarInto, Cond.selects RX1 yX1_fairBarInto yX1_fairBarInto, Cond.code yX1_fairBarInto cX1_fairBarInto 3 none, Cond.constantLong RX1 85 (5), Cond.fieldLink RX1 25 "ChooseOnce$Boxes" "fairTops" "[I"]
def wsX10_fair_r2 : List Cond := [Cond.fieldLink RX1 28 "ChooseOnce$Boxes" "fairBottoms" "[I", Cond.methodLink RX1 91 yX8_putSmall, Cond.instanceMethod yX8_putSmall, Cond.selects RX8 yX8_putSmall yX8_putSmall, Cond.initialized RX8, Cond.code yX8_putSmall cX8_putSmall 3 none, Cond.fieldLink RX8 19 "ChooseOnce$Result" "left" "LChooseOnce$Natural;", Cond.methodLink RX8 41 Lib.MathLoose.abs_long.x, Cond.static Lib.MathLoose.abs_long.x, Cond.initialized "java/lang/Math", Cond.code Lib.MathLoose.abs_long.x Lib.MathLoose.abs_long.code 2 (some .long), Cond.fieldLink RX8 25 "ChooseOnce$Result" "sign" "I", Cond.methodLink RX8 29 yX5_put, Cond.instanceMethod yX5_put, Cond.selects RX5 yX5_put yX5_put, Cond.initialized RX5, Cond.code yX5_put cX5_put 6 none, Cond.methodLink RX5 13 Lib.MathLoose.max_long.x, Cond.static Lib.MathLoose.max_long.x, Cond.code Lib.MathLoose.max_long.x Lib.MathLoose.max_long.code 4 (some .long), Cond.fieldLink RX5 9 "ChooseOnce$Natural" "parts" "[I", Cond.constantLong RX5 19 (1000000000), Cond.methodLink RX8 47 yX8_put, Cond.instanceMethod yX8_put]
def wsX10_fair_r3 : List Cond := [Cond.selects RX8 yX8_put yX8_put, Cond.code yX8_put cX8_put 2 none, Cond.fieldLink RX8 10 "ChooseOnce$Result" "top" "LChooseOnce$Natural;", Cond.fieldLink RX8 16 "ChooseOnce$Result" "bottom" "LChooseOnce$Natural;", Cond.methodLink RX8 33 yX5_copy, Cond.instanceMethod yX5_copy, Cond.selects RX5 yX5_copy yX5_copy, Cond.code yX5_copy cX5_copy 2 none, Cond.methodLink RX5 21 arraycopyName, Cond.native arraycopyName, Cond.static arraycopyName, Cond.initialized "java/lang/System", Cond.methodLink RX8 37 yX5_isZero, Cond.instanceMethod yX5_isZero, Cond.selects RX5 yX5_isZero yX5_isZero, Cond.code yX5_isZero cX5_isZero 1 (some .boolean), Cond.methodLink RX5 39 yX5_partCount, Cond.instanceMethod yX5_partCount, Cond.selects RX5 yX5_partCount yX5_partCount, Cond.code yX5_partCount cX5_partCount 2 (some .int), Cond.methodLink RX8 49 yX8_over, Cond.instanceMethod yX8_over, Cond.selects RX8 yX8_over yX8_over, Cond.code yX8_over cX8_over 3 none]
def wsX10_fair_r4 : List Cond := [Cond.methodLink RX8 59 yX5_rest, Cond.instanceMethod yX5_rest, Cond.selects RX5 yX5_rest yX5_rest, Cond.code yX5_rest cX5_rest 5 (some .int), Cond.methodLink RX8 63 yX8_commonDivisor, Cond.static yX8_commonDivisor, Cond.code yX8_commonDivisor cX8_commonDivisor 6 (some .int), Cond.methodLink RX8 66 yX5_divide, Cond.instanceMethod yX5_divide, Cond.selects RX5 yX5_divide yX5_divide, Cond.code yX5_divide cX5_divide 5 none, Cond.methodLink RX8 69 yX5_times, Cond.instanceMethod yX5_times, Cond.selects RX5 yX5_times yX5_times, Cond.code yX5_times cX5_times 6 none, Cond.methodLink RX8 53 yJ6_compare_7cf53, Cond.static yJ6_compare_7cf53, Cond.initialized RJ6, Cond.code yJ6_compare_7cf53 cJ6_compare_7cf53 2 (some .int)]
def wsX10_fair : List Cond := .code yX10_fair cX10_fair 2 (some .boolean) :: ((wsX10_fair_r1 ++ (wsX10_fair_r2 ++ (wsX10_fair_r3 ++ wsX10_fair_r4))) ++ wsX100 ++ wsX10 ++ wsX30 ++ wsX80 ++ wsX50)
def wsX10_search_r1 : List Cond := [Cond.fieldLink RX10 63 "ChooseOnce" "boxes" "LChooseOnce$Boxes;", Cond.fieldLink RX10 28 "ChooseOnce" "result" "LChooseOnce$Result;", Cond.methodLink RX10 178 yX1_searchInto, Cond.instanceMethod yX1_searchInto, Cond.selects RX1 yX1_searchInto yX1_searchInto, Cond.initialized RX1, Cond.code yX1_searchInto cX1_searchInto 4 none, Cond.fieldLink RX1 18 "ChooseOnce$Boxes" "opened" "LChooseOnce$Crowd;", Cond.fieldLink RX1 37 "ChooseOnce$Boxes" "sum" "LChooseOnce$Natural;", Cond.fieldLink RX1 12 "ChooseOnce$Boxes" "all" "LChooseOnce$Crowd;", Cond.methodLink RX1 101 Lib.Math.min.name, Cond.static Lib.Math.min.name, Cond.initialized "java/lang/Math", Cond.code Lib.Math.min.name Lib.Math.min.code 2 (some .int), Cond.fieldLink RX1 31 "ChooseOnce$Boxes" "order" "[I", Cond.methodLink RX1 59 yX3_clear, Cond.instanceMethod yX3_clear, Cond.selects RX3 yX3_clear yX3_clear, Cond.initialized RX3, Cond.code yX3_clear cX3_clear 1 none, Cond.fieldLink RX3 22 "ChooseOnce$Crowd" "size" "I", Cond.methodLink RX1 97 yX5_put, Cond.instanceMethod yX5_put, Cond.selects RX5 yX5_put yX5_put]
def wsX10_search_r2 : List Cond := [Cond.initialized RX5, Cond.code yX5_put cX5_put 6 none, Cond.methodLink RX5 13 Lib.MathLoose.max_long.x, Cond.static Lib.MathLoose.max_long.x, Cond.code Lib.MathLoose.max_long.x Lib.MathLoose.max_long.code 4 (some .long), Cond.fieldLink RX5 9 "ChooseOnce$Natural" "parts" "[I", Cond.constantLong RX5 19 (1000000000), Cond.methodLink RX1 44 yX3_size, Cond.instanceMethod yX3_size, Cond.selects RX3 yX3_size yX3_size, Cond.code yX3_size cX3_size 1 (some .int), Cond.methodLink RX1 62 yX3_at, Cond.instanceMethod yX3_at, Cond.selects RX3 yX3_at yX3_at, Cond.code yX3_at cX3_at 2 (some (.object "ChooseOnce$Book")), Cond.fieldLink RX3 18 "ChooseOnce$Crowd" "books" "[LChooseOnce$Book;", Cond.fieldLink RX3 12 "ChooseOnce$Crowd" "blank" "LChooseOnce$Book;", Cond.static yX10_isWithin, Cond.initialized RX10, Cond.code yX10_isWithin cX10_isWithin 6 (some .boolean), Cond.methodLink RX1 66 yX0_total, Cond.instanceMethod yX0_total, Cond.selects RX0 yX0_total yX0_total, Cond.initialized RX0]
def wsX10_search_r3 : List Cond := [Cond.code yX0_total cX0_total 1 (some .int), Cond.fieldLink RX0 22 "ChooseOnce$Book" "total" "I", Cond.methodLink RX1 107 yX5_times, Cond.instanceMethod yX5_times, Cond.selects RX5 yX5_times yX5_times, Cond.code yX5_times cX5_times 6 none, Cond.methodLink RX1 110 yX1_addGains, Cond.instanceMethod yX1_addGains, Cond.selects RX1 yX1_addGains yX1_addGains, Cond.code yX1_addGains cX1_addGains 7 none, Cond.fieldLink RX1 41 "ChooseOnce$Boxes" "ways" "LChooseOnce$Natural;", Cond.methodLink RX1 117 yX1_gainAbove, Cond.instanceMethod yX1_gainAbove, Cond.selects RX1 yX1_gainAbove yX1_gainAbove, Cond.code yX1_gainAbove cX1_gainAbove 5 (some .int), Cond.fieldLink RX1 21 "ChooseOnce$Boxes" "prices" "[I", Cond.methodLink RX1 129 Lib.Math.max.name, Cond.static Lib.Math.max.name, Cond.code Lib.Math.max.name Lib.Math.max.code 2 (some .int), Cond.methodLink RX1 78 yX0_below, Cond.instanceMethod yX0_below, Cond.selects RX0 yX0_below yX0_below, Cond.code yX0_below cX0_below 4 (some .int), Cond.fieldLink RX0 18 "ChooseOnce$Book" "size" "I"]
def wsX10_search_r4 : List Cond := [Cond.fieldLink RX0 9 "ChooseOnce$Book" "worths" "[I", Cond.fieldLink RX0 15 "ChooseOnce$Book" "weights" "[I", Cond.methodLink RX1 75 yX0_gathered, Cond.instanceMethod yX0_gathered, Cond.selects RX0 yX0_gathered yX0_gathered, Cond.code yX0_gathered cX0_gathered 4 (some .int), Cond.methodLink RX1 120 yX3_leastFrom, Cond.instanceMethod yX3_leastFrom, Cond.selects RX3 yX3_leastFrom yX3_leastFrom, Cond.code yX3_leastFrom cX3_leastFrom 5 (some .int), Cond.methodLink RX3 30 yX3_at, Cond.methodLink RX3 34 yX0_leastFrom, Cond.instanceMethod yX0_leastFrom, Cond.selects RX0 yX0_leastFrom yX0_leastFrom, Cond.code yX0_leastFrom cX0_leastFrom 3 (some .int), Cond.methodLink RX1 121 yX3_waysUpTo, Cond.instanceMethod yX3_waysUpTo, Cond.selects RX3 yX3_waysUpTo yX3_waysUpTo, Cond.code yX3_waysUpTo cX3_waysUpTo 4 none, Cond.methodLink RX3 38 yX5_put, Cond.methodLink RX3 44 yX0_below, Cond.methodLink RX3 47 yX5_times, Cond.methodLink RX1 125 yX5_addTimes, Cond.instanceMethod yX5_addTimes]
def wsX10_search_r5 : List Cond := [Cond.selects RX5 yX5_addTimes yX5_addTimes, Cond.code yX5_addTimes cX5_addTimes 7 none, Cond.methodLink RX1 48 yX3_join, Cond.instanceMethod yX3_join, Cond.selects RX3 yX3_join yX3_join, Cond.code yX3_join cX3_join 2 none, Cond.methodLink RX1 113 yX3_divide, Cond.instanceMethod yX3_divide, Cond.selects RX3 yX3_divide yX3_divide, Cond.code yX3_divide cX3_divide 4 none, Cond.methodLink RX3 50 yX8_put, Cond.instanceMethod yX8_put, Cond.selects RX8 yX8_put yX8_put, Cond.initialized RX8, Cond.code yX8_put cX8_put 2 none, Cond.fieldLink RX8 10 "ChooseOnce$Result" "top" "LChooseOnce$Natural;", Cond.fieldLink RX8 16 "ChooseOnce$Result" "bottom" "LChooseOnce$Natural;", Cond.fieldLink RX8 25 "ChooseOnce$Result" "sign" "I", Cond.methodLink RX8 33 yX5_copy, Cond.instanceMethod yX5_copy, Cond.selects RX5 yX5_copy yX5_copy, Cond.code yX5_copy cX5_copy 2 none, Cond.methodLink RX5 21 arraycopyName, Cond.native arraycopyName]
def wsX10_search_r6 : List Cond := [Cond.static arraycopyName, Cond.initialized "java/lang/System", Cond.methodLink RX8 29 yX5_put, Cond.methodLink RX8 37 yX5_isZero, Cond.instanceMethod yX5_isZero, Cond.selects RX5 yX5_isZero yX5_isZero, Cond.code yX5_isZero cX5_isZero 1 (some .boolean), Cond.methodLink RX5 39 yX5_partCount, Cond.instanceMethod yX5_partCount, Cond.selects RX5 yX5_partCount yX5_partCount, Cond.code yX5_partCount cX5_partCount 2 (some .int), Cond.methodLink RX3 55 yX0_total, Cond.methodLink RX3 59 yX8_over, Cond.instanceMethod yX8_over, Cond.selects RX8 yX8_over yX8_over, Cond.code yX8_over cX8_over 3 none, Cond.methodLink RX8 59 yX5_rest, Cond.instanceMethod yX5_rest, Cond.selects RX5 yX5_rest yX5_rest, Cond.code yX5_rest cX5_rest 5 (some .int), Cond.methodLink RX8 63 yX8_commonDivisor, Cond.static yX8_commonDivisor, Cond.code yX8_commonDivisor cX8_commonDivisor 6 (some .int), Cond.methodLink RX8 66 yX5_divide]
def wsX10_search_r7 : List Cond := [Cond.instanceMethod yX5_divide, Cond.selects RX5 yX5_divide yX5_divide, Cond.code yX5_divide cX5_divide 5 none, Cond.methodLink RX8 69 yX5_times]
def wsX10_search : List Cond := .code yX10_search cX10_search 1 none :: ((wsX10_search_r1 ++ (wsX10_search_r2 ++ (wsX10_search_r3 ++ (wsX10_search_r4 ++ (wsX10_search_r5 ++ (wsX10_search_r6 ++ wsX10_search_r7)))))) ++ wsX100 ++ wsX10 ++ wsX30 ++ wsX50 ++ wsX00 ++ wsX80)
def wsX10_look : List Cond := .code yX10_look cX10_look 2 (some .int) :: ([.fieldLink RX10 28 "ChooseOnce" "result" "LChooseOnce$Result;", .methodLink RX10 181 yX8_sign, .instanceMethod yX8_sign, .selects RX8 yX8_sign yX8_sign, .initialized RX8, .code yX8_sign cX8_sign 1 (some .int), .fieldLink RX8 25 "ChooseOnce$Result" "sign" "I", .methodLink RX10 184 yX8_digits, .instanceMethod yX8_digits, .selects RX8 yX8_digits yX8_digits, .code yX8_digits cX8_digits 2 (some (.object "ChooseOnce$Natural")), .fieldLink RX8 16 "ChooseOnce$Result" "bottom" "LChooseOnce$Natural;", .fieldLink RX8 10 "ChooseOnce$Result" "top" "LChooseOnce$Natural;", .methodLink RX10 188 yX5_partCount, .instanceMethod yX5_partCount, .selects RX5 yX5_partCount yX5_partCount, .initialized RX5, .code yX5_partCount cX5_partCount 2 (some .int), .fieldLink RX5 9 "ChooseOnce$Natural" "parts" "[I"] ++ wsX100 ++ wsX80 ++ wsX50)
def wsX10_part : List Cond := .code yX10_part cX10_part 3 (some .int) :: ([.fieldLink RX10 28 "ChooseOnce" "result" "LChooseOnce$Result;", .methodLink RX10 184 yX8_digits, .instanceMethod yX8_digits, .selects RX8 yX8_digits yX8_digits, .initialized RX8, .code yX8_digits cX8_digits 2 (some (.object "ChooseOnce$Natural")), .fieldLink RX8 16 "ChooseOnce$Result" "bottom" "LChooseOnce$Natural;", .fieldLink RX8 10 "ChooseOnce$Result" "top" "LChooseOnce$Natural;", .methodLink RX10 193 yX5_partAt, .instanceMethod yX5_partAt, .selects RX5 yX5_partAt yX5_partAt, .initialized RX5, .code yX5_partAt cX5_partAt 2 (some .int), .constantLong RX5 43 (5), .fieldLink RX5 9 "ChooseOnce$Natural" "parts" "[I", .static yX10_isWithin, .initialized RX10, .code yX10_isWithin cX10_isWithin 6 (some .boolean)] ++ wsX100 ++ wsX80 ++ wsX50)
def wsX10_compare_r1 : List Cond := [Cond.fieldLink RX10 28 "ChooseOnce" "result" "LChooseOnce$Result;", Cond.methodLink RX10 196 yX8_against, Cond.instanceMethod yX8_against, Cond.selects RX8 yX8_against yX8_against, Cond.initialized RX8, Cond.code yX8_against cX8_against 4 (some .int), Cond.fieldLink RX8 25 "ChooseOnce$Result" "sign" "I", Cond.fieldLink RX8 19 "ChooseOnce$Result" "left" "LChooseOnce$Natural;", Cond.fieldLink RX8 10 "ChooseOnce$Result" "top" "LChooseOnce$Natural;", Cond.fieldLink RX8 22 "ChooseOnce$Result" "right" "LChooseOnce$Natural;", Cond.fieldLink RX8 16 "ChooseOnce$Result" "bottom" "LChooseOnce$Natural;", Cond.methodLink RX8 41 Lib.MathLoose.abs_long.x, Cond.static Lib.MathLoose.abs_long.x, Cond.initialized "java/lang/Math", Cond.code Lib.MathLoose.abs_long.x Lib.MathLoose.abs_long.code 2 (some .long), Cond.methodLink RX8 53 yJ6_compare_7cf53, Cond.static yJ6_compare_7cf53, Cond.initialized RJ6, Cond.code yJ6_compare_7cf53 cJ6_compare_7cf53 2 (some .int), Cond.methodLink RX8 33 yX5_copy, Cond.instanceMethod yX5_copy, Cond.selects RX5 yX5_copy yX5_copy, Cond.initialized RX5, Cond.code yX5_copy cX5_copy 2 none]
def wsX10_compare_r2 : List Cond := [Cond.fieldLink RX5 9 "ChooseOnce$Natural" "parts" "[I", Cond.methodLink RX5 21 arraycopyName, Cond.native arraycopyName, Cond.static arraycopyName, Cond.initialized "java/lang/System", Cond.methodLink RX8 69 yX5_times, Cond.instanceMethod yX5_times, Cond.selects RX5 yX5_times yX5_times, Cond.code yX5_times cX5_times 6 none, Cond.constantLong RX5 19 (1000000000), Cond.methodLink RX8 72 yX5_against, Cond.instanceMethod yX5_against, Cond.selects RX5 yX5_against yX5_against, Cond.code yX5_against cX5_against 3 (some .int), Cond.methodLink RX5 33 yJ6_compare_7cf53]
def wsX10_compare : List Cond := .code yX10_compare cX10_compare 3 (some .int) :: ((wsX10_compare_r1 ++ wsX10_compare_r2) ++ wsX100 ++ wsX80 ++ wsX50)
def wsX10_rowsThere : List Cond := .code yX10_rowsThere cX10_rowsThere 3 (some .int) :: ([.fieldLink RX10 11 "ChooseOnce" "rows" "[LChooseOnce$Row;", .methodLink RX10 83 yX9_isThere, .instanceMethod yX9_isThere, .selects RX9 yX9_isThere yX9_isThere, .initialized RX9, .code yX9_isThere cX9_isThere 1 (some .boolean), .fieldLink RX9 19 "ChooseOnce$Row" "length" "I"] ++ wsX100 ++ wsX90)
def wsX10_count_r1 : List Cond := [Cond.fieldLink RX10 21 "ChooseOnce" "bookCount" "I", Cond.fieldLink RX10 35 "ChooseOnce" "comers" "LChooseOnce$Comers;", Cond.fieldLink RX10 56 "ChooseOnce" "happenings" "LChooseOnce$Happenings;", Cond.fieldLink RX10 63 "ChooseOnce" "boxes" "LChooseOnce$Boxes;", Cond.methodLink RX10 109 yX2_size, Cond.instanceMethod yX2_size, Cond.selects RX2 yX2_size yX2_size, Cond.initialized RX2, Cond.code yX2_size cX2_size 1 (some .int), Cond.fieldLink RX2 12 "ChooseOnce$Comers" "crowd" "LChooseOnce$Crowd;", Cond.methodLink RX2 51 yX3_size, Cond.instanceMethod yX3_size, Cond.selects RX3 yX3_size yX3_size, Cond.initialized RX3, Cond.code yX3_size cX3_size 1 (some .int), Cond.fieldLink RX3 22 "ChooseOnce$Crowd" "size" "I", Cond.methodLink RX10 199 yX4_size, Cond.instanceMethod yX4_size, Cond.selects RX4 yX4_size yX4_size, Cond.initialized RX4, Cond.code yX4_size cX4_size 1 (some .int), Cond.fieldLink RX4 18 "ChooseOnce$Happenings" "size" "I", Cond.methodLink RX10 174 yX1_size, Cond.instanceMethod yX1_size]
def wsX10_count_r2 : List Cond := [Cond.selects RX1 yX1_size yX1_size, Cond.initialized RX1, Cond.code yX1_size cX1_size 1 (some .int), Cond.fieldLink RX1 12 "ChooseOnce$Boxes" "all" "LChooseOnce$Crowd;", Cond.methodLink RX1 44 yX3_size, Cond.methodLink RX10 200 yX10_rowsThere, Cond.instanceMethod yX10_rowsThere, Cond.selects RX10 yX10_rowsThere yX10_rowsThere, Cond.initialized RX10, Cond.code yX10_rowsThere cX10_rowsThere 3 (some .int), Cond.fieldLink RX10 11 "ChooseOnce" "rows" "[LChooseOnce$Row;", Cond.methodLink RX10 83 yX9_isThere, Cond.instanceMethod yX9_isThere, Cond.selects RX9 yX9_isThere yX9_isThere, Cond.initialized RX9, Cond.code yX9_isThere cX9_isThere 1 (some .boolean), Cond.fieldLink RX9 19 "ChooseOnce$Row" "length" "I"]
def wsX10_count : List Cond := .code yX10_count cX10_count 2 (some .int) :: ((wsX10_count_r1 ++ wsX10_count_r2) ++ wsX100 ++ wsX20 ++ wsX30 ++ wsX40 ++ wsX10 ++ wsX90)
def wsX11_carry : List Cond := .code yX11_carry cX11_carry 5 none :: ([.fieldLink RX11 10 "ChooseOnceModel" "n" "[J", .constantLong RX11 64 (1000000000), .methodLink RX11 66 yJ9_floorMod_f86c9, .static yJ9_floorMod_f86c9, .initialized RJ9, .code yJ9_floorMod_f86c9 cJ9_floorMod_f86c9 6 (some .long), .methodLink RX11 72 yJ9_floorDiv_f86c9, .static yJ9_floorDiv_f86c9, .code yJ9_floorDiv_f86c9 cJ9_floorDiv_f86c9 6 (some .long)] ++ wsX110)
def wsX11_set : List Cond := .code yX11_set cX11_set 5 none :: ([.fieldLink RX11 10 "ChooseOnceModel" "n" "[J", .methodLink RX11 75 yX11_carry, .instanceMethod yX11_carry, .selects RX11 yX11_carry yX11_carry, .initialized RX11, .code yX11_carry cX11_carry 5 none, .constantLong RX11 64 (1000000000), .methodLink RX11 66 yJ9_floorMod_f86c9, .static yJ9_floorMod_f86c9, .initialized RJ9, .code yJ9_floorMod_f86c9 cJ9_floorMod_f86c9 6 (some .long), .methodLink RX11 72 yJ9_floorDiv_f86c9, .static yJ9_floorDiv_f86c9, .code yJ9_floorDiv_f86c9 cJ9_floorDiv_f86c9 6 (some .long)] ++ wsX110)
def wsX11_init_r1 : List Cond := [Cond.methodLink RX11 1 objectInit, Cond.instanceMethod objectInit, Cond.code objectInit ⟨#[0xb1]⟩ 1 none, Cond.constant RX11 9 (40000), Cond.arrayClass .long, Cond.fieldLink RX11 10 "ChooseOnceModel" "n" "[J", Cond.arrayClass .int, Cond.fieldLink RX11 14 "ChooseOnceModel" "ends" "[I", Cond.fieldLink RX11 18 "ChooseOnceModel" "widths" "[I", Cond.fieldLink RX11 21 "ChooseOnceModel" "numbers" "[J", Cond.fieldLink RX11 24 "ChooseOnceModel" "pairs" "[I", Cond.fieldLink RX11 27 "ChooseOnceModel" "worth" "[I", Cond.fieldLink RX11 30 "ChooseOnceModel" "weight" "[I", Cond.fieldLink RX11 33 "ChooseOnceModel" "sum" "[I", Cond.fieldLink RX11 36 "ChooseOnceModel" "comer" "[I", Cond.fieldLink RX11 39 "ChooseOnceModel" "bars" "[I", Cond.fieldLink RX11 42 "ChooseOnceModel" "pays" "[I", Cond.fieldLink RX11 45 "ChooseOnceModel" "happenA" "[I", Cond.fieldLink RX11 48 "ChooseOnceModel" "happenB" "[I", Cond.fieldLink RX11 51 "ChooseOnceModel" "box" "[I", Cond.fieldLink RX11 54 "ChooseOnceModel" "price" "[I", Cond.fieldLink RX11 57 "ChooseOnceModel" "had" "[I", Cond.methodLink RX11 60 yX11_set, Cond.instanceMethod yX11_set]
def wsX11_init_r2 : List Cond := [Cond.selects RX11 yX11_set yX11_set, Cond.initialized RX11, Cond.code yX11_set cX11_set 5 none, Cond.methodLink RX11 75 yX11_carry, Cond.instanceMethod yX11_carry, Cond.selects RX11 yX11_carry yX11_carry, Cond.code yX11_carry cX11_carry 5 none, Cond.constantLong RX11 64 (1000000000), Cond.methodLink RX11 66 yJ9_floorMod_f86c9, Cond.static yJ9_floorMod_f86c9, Cond.initialized RJ9, Cond.code yJ9_floorMod_f86c9 cJ9_floorMod_f86c9 6 (some .long), Cond.methodLink RX11 72 yJ9_floorDiv_f86c9, Cond.static yJ9_floorDiv_f86c9, Cond.code yJ9_floorDiv_f86c9 cJ9_floorDiv_f86c9 6 (some .long)]
def wsX11_init : List Cond := .code yX11_init cX11_init 1 none :: ((wsX11_init_r1 ++ wsX11_init_r2) ++ wsX110)
def wsX11_copy : List Cond := .code yX11_copy cX11_copy 4 none :: ([.fieldLink RX11 10 "ChooseOnceModel" "n" "[J"] ++ wsX110)
def wsX11_more : List Cond := .code yX11_more cX11_more 6 none :: ([.fieldLink RX11 10 "ChooseOnceModel" "n" "[J", .methodLink RX11 75 yX11_carry, .instanceMethod yX11_carry, .selects RX11 yX11_carry yX11_carry, .initialized RX11, .code yX11_carry cX11_carry 5 none, .constantLong RX11 64 (1000000000), .methodLink RX11 66 yJ9_floorMod_f86c9, .static yJ9_floorMod_f86c9, .initialized RJ9, .code yJ9_floorMod_f86c9 cJ9_floorMod_f86c9 6 (some .long), .methodLink RX11 72 yJ9_floorDiv_f86c9, .static yJ9_floorDiv_f86c9, .code yJ9_floorDiv_f86c9 cJ9_floorDiv_f86c9 6 (some .long)] ++ wsX110)
def wsX11_times : List Cond := .code yX11_times cX11_times 5 none :: ([.fieldLink RX11 10 "ChooseOnceModel" "n" "[J", .methodLink RX11 75 yX11_carry, .instanceMethod yX11_carry, .selects RX11 yX11_carry yX11_carry, .initialized RX11, .code yX11_carry cX11_carry 5 none, .constantLong RX11 64 (1000000000), .methodLink RX11 66 yJ9_floorMod_f86c9, .static yJ9_floorMod_f86c9, .initialized RJ9, .code yJ9_floorMod_f86c9 cJ9_floorMod_f86c9 6 (some .long), .methodLink RX11 72 yJ9_floorDiv_f86c9, .static yJ9_floorDiv_f86c9, .code yJ9_floorDiv_f86c9 cJ9_floorDiv_f86c9 6 (some .long)] ++ wsX110)
def wsX11_over : List Cond := .code yX11_over cX11_over 9 none :: ([.constantLong RX11 64 (1000000000), .fieldLink RX11 10 "ChooseOnceModel" "n" "[J"] ++ wsX110)
def wsX11_compared : List Cond := .code yX11_compared cX11_compared 8 (some .int) :: ([.fieldLink RX11 10 "ChooseOnceModel" "n" "[J"] ++ wsX110)
def wsX11_isZero : List Cond := .code yX11_isZero cX11_isZero 3 (some .boolean) :: ([.fieldLink RX11 10 "ChooseOnceModel" "n" "[J"] ++ wsX110)
def wsX11_isEven : List Cond := .code yX11_isEven cX11_isEven 2 (some .boolean) :: ([.fieldLink RX11 10 "ChooseOnceModel" "n" "[J", .constantLong RX11 79 (2)] ++ wsX110)
def wsX11_parted_r1 : List Cond := [Cond.fieldLink RX11 10 "ChooseOnceModel" "n" "[J", Cond.constantLong RX11 81 (999999999), Cond.constantLong RX11 79 (2), Cond.methodLink RX11 60 yX11_set, Cond.instanceMethod yX11_set, Cond.selects RX11 yX11_set yX11_set, Cond.initialized RX11, Cond.code yX11_set cX11_set 5 none, Cond.methodLink RX11 75 yX11_carry, Cond.instanceMethod yX11_carry, Cond.selects RX11 yX11_carry yX11_carry, Cond.code yX11_carry cX11_carry 5 none, Cond.constantLong RX11 64 (1000000000), Cond.methodLink RX11 66 yJ9_floorMod_f86c9, Cond.static yJ9_floorMod_f86c9, Cond.initialized RJ9, Cond.code yJ9_floorMod_f86c9 cJ9_floorMod_f86c9 6 (some .long), Cond.methodLink RX11 72 yJ9_floorDiv_f86c9, Cond.static yJ9_floorDiv_f86c9, Cond.code yJ9_floorDiv_f86c9 cJ9_floorDiv_f86c9 6 (some .long), Cond.methodLink RX11 83 yX11_copy, Cond.instanceMethod yX11_copy, Cond.selects RX11 yX11_copy yX11_copy, Cond.code yX11_copy cX11_copy 4 none]
def wsX11_parted_r2 : List Cond := [Cond.methodLink RX11 87 yX11_more, Cond.instanceMethod yX11_more, Cond.selects RX11 yX11_more yX11_more, Cond.code yX11_more cX11_more 6 none]
def wsX11_parted : List Cond := .code yX11_parted cX11_parted 10 none :: ((wsX11_parted_r1 ++ wsX11_parted_r2) ++ wsX110)
def wsX11_result_r1 : List Cond := [Cond.fieldLink RX11 10 "ChooseOnceModel" "n" "[J", Cond.constantLong RX11 91 (-1), Cond.constantLong RX11 79 (2), Cond.methodLink RX11 83 yX11_copy, Cond.instanceMethod yX11_copy, Cond.selects RX11 yX11_copy yX11_copy, Cond.initialized RX11, Cond.code yX11_copy cX11_copy 4 none, Cond.methodLink RX11 93 yX11_times, Cond.instanceMethod yX11_times, Cond.selects RX11 yX11_times yX11_times, Cond.code yX11_times cX11_times 5 none, Cond.methodLink RX11 75 yX11_carry, Cond.instanceMethod yX11_carry, Cond.selects RX11 yX11_carry yX11_carry, Cond.code yX11_carry cX11_carry 5 none, Cond.constantLong RX11 64 (1000000000), Cond.methodLink RX11 66 yJ9_floorMod_f86c9, Cond.static yJ9_floorMod_f86c9, Cond.initialized RJ9, Cond.code yJ9_floorMod_f86c9 cJ9_floorMod_f86c9 6 (some .long), Cond.methodLink RX11 72 yJ9_floorDiv_f86c9, Cond.static yJ9_floorDiv_f86c9, Cond.code yJ9_floorDiv_f86c9 cJ9_floorDiv_f86c9 6 (some .long)]
def wsX11_result_r2 : List Cond := [Cond.methodLink RX11 96 yX11_isZero, Cond.instanceMethod yX11_isZero, Cond.selects RX11 yX11_isZero yX11_isZero, Cond.code yX11_isZero cX11_isZero 3 (some .boolean), Cond.methodLink RX11 60 yX11_set, Cond.instanceMethod yX11_set, Cond.selects RX11 yX11_set yX11_set, Cond.code yX11_set cX11_set 5 none, Cond.methodLink RX11 100 yX11_isEven, Cond.instanceMethod yX11_isEven, Cond.selects RX11 yX11_isEven yX11_isEven, Cond.code yX11_isEven cX11_isEven 2 (some .boolean), Cond.methodLink RX11 103 yX11_over, Cond.instanceMethod yX11_over, Cond.selects RX11 yX11_over yX11_over, Cond.code yX11_over cX11_over 9 none, Cond.methodLink RX11 106 yX11_compared, Cond.instanceMethod yX11_compared, Cond.selects RX11 yX11_compared yX11_compared, Cond.code yX11_compared cX11_compared 8 (some .int), Cond.methodLink RX11 87 yX11_more, Cond.instanceMethod yX11_more, Cond.selects RX11 yX11_more yX11_more, Cond.code yX11_more cX11_more 6 none]
def wsX11_result_r3 : List Cond := [Cond.methodLink RX11 110 yX11_parted, Cond.instanceMethod yX11_parted, Cond.selects RX11 yX11_parted yX11_parted, Cond.code yX11_parted cX11_parted 10 none, Cond.constantLong RX11 81 (999999999)]
def wsX11_result : List Cond := .code yX11_result cX11_result 6 none :: ((wsX11_result_r1 ++ (wsX11_result_r2 ++ wsX11_result_r3)) ++ wsX110)
def wsX11_isSlot : List Cond := .code yX11_isSlot cX11_isSlot 1 (some .boolean) :: ([])
def wsX11_row : List Cond := .code yX11_row cX11_row 5 (some .int) :: ([.fieldLink RX11 14 "ChooseOnceModel" "ends" "[I", .fieldLink RX11 18 "ChooseOnceModel" "widths" "[I", .fieldLink RX11 21 "ChooseOnceModel" "numbers" "[J", .methodLink RX11 113 yX11_isSlot, .static yX11_isSlot, .initialized RX11, .code yX11_isSlot cX11_isSlot 1 (some .boolean)] ++ wsX110)
def wsX11_tear : List Cond := .code yX11_tear cX11_tear 2 (some .boolean) :: ([.fieldLink RX11 14 "ChooseOnceModel" "ends" "[I", .methodLink RX11 113 yX11_isSlot, .static yX11_isSlot, .initialized RX11, .code yX11_isSlot cX11_isSlot 1 (some .boolean)] ++ wsX110)
def wsX11_write : List Cond := .code yX11_write cX11_write 6 (some .int) :: ([.fieldLink RX11 14 "ChooseOnceModel" "ends" "[I", .fieldLink RX11 18 "ChooseOnceModel" "widths" "[I", .fieldLink RX11 21 "ChooseOnceModel" "numbers" "[J", .methodLink RX11 113 yX11_isSlot, .static yX11_isSlot, .initialized RX11, .code yX11_isSlot cX11_isSlot 1 (some .boolean)] ++ wsX110)
def wsX11_book : List Cond := .code yX11_book cX11_book 10 (some .int) :: ([.fieldLink RX11 116 "ChooseOnceModel" "books" "I", .fieldLink RX11 14 "ChooseOnceModel" "ends" "[I", .fieldLink RX11 21 "ChooseOnceModel" "numbers" "[J", .constantLong RX11 120 (8), .constantLong RX11 79 (2), .constantLong RX11 122 (1000), .fieldLink RX11 27 "ChooseOnceModel" "worth" "[I", .fieldLink RX11 30 "ChooseOnceModel" "weight" "[I", .fieldLink RX11 24 "ChooseOnceModel" "pairs" "[I", .fieldLink RX11 33 "ChooseOnceModel" "sum" "[I", .methodLink RX11 113 yX11_isSlot, .static yX11_isSlot, .initialized RX11, .code yX11_isSlot cX11_isSlot 1 (some .boolean)] ++ wsX110)
def wsX11_isBook : List Cond := .code yX11_isBook cX11_isBook 2 (some .boolean) :: ([.fieldLink RX11 116 "ChooseOnceModel" "books" "I"] ++ wsX110)
def wsX11_weightOf : List Cond := .code yX11_weightOf cX11_weightOf 6 (some .int) :: ([.fieldLink RX11 24 "ChooseOnceModel" "pairs" "[I", .fieldLink RX11 27 "ChooseOnceModel" "worth" "[I", .fieldLink RX11 30 "ChooseOnceModel" "weight" "[I"] ++ wsX110)
def wsX11_comer : List Cond := .code yX11_comer cX11_comer 2 (some .int) :: ([.fieldLink RX11 127 "ChooseOnceModel" "comers" "I", .fieldLink RX11 36 "ChooseOnceModel" "comer" "[I", .fieldLink RX11 39 "ChooseOnceModel" "bars" "[I", .methodLink RX11 124 yX11_isBook, .instanceMethod yX11_isBook, .selects RX11 yX11_isBook yX11_isBook, .initialized RX11, .code yX11_isBook cX11_isBook 2 (some .boolean), .fieldLink RX11 116 "ChooseOnceModel" "books" "I"] ++ wsX110)
def wsX11_dismiss : List Cond := .code yX11_dismiss cX11_dismiss 2 (some .int) :: ([.fieldLink RX11 127 "ChooseOnceModel" "comers" "I"] ++ wsX110)
def wsX11_tell : List Cond := .code yX11_tell cX11_tell 3 (some .boolean) :: ([.fieldLink RX11 127 "ChooseOnceModel" "comers" "I", .fieldLink RX11 39 "ChooseOnceModel" "bars" "[I"] ++ wsX110)
def wsX11_worthOf_r1 : List Cond := [Cond.fieldLink RX11 127 "ChooseOnceModel" "comers" "I", Cond.fieldLink RX11 36 "ChooseOnceModel" "comer" "[I", Cond.fieldLink RX11 39 "ChooseOnceModel" "bars" "[I", Cond.fieldLink RX11 24 "ChooseOnceModel" "pairs" "[I", Cond.fieldLink RX11 27 "ChooseOnceModel" "worth" "[I", Cond.fieldLink RX11 30 "ChooseOnceModel" "weight" "[I", Cond.fieldLink RX11 33 "ChooseOnceModel" "sum" "[I", Cond.methodLink RX11 60 yX11_set, Cond.instanceMethod yX11_set, Cond.selects RX11 yX11_set yX11_set, Cond.initialized RX11, Cond.code yX11_set cX11_set 5 none, Cond.fieldLink RX11 10 "ChooseOnceModel" "n" "[J", Cond.methodLink RX11 75 yX11_carry, Cond.instanceMethod yX11_carry, Cond.selects RX11 yX11_carry yX11_carry, Cond.code yX11_carry cX11_carry 5 none, Cond.constantLong RX11 64 (1000000000), Cond.methodLink RX11 66 yJ9_floorMod_f86c9, Cond.static yJ9_floorMod_f86c9, Cond.initialized RJ9, Cond.code yJ9_floorMod_f86c9 cJ9_floorMod_f86c9 6 (some .long), Cond.methodLink RX11 72 yJ9_floorDiv_f86c9, Cond.static yJ9_floorDiv_f86c9]
def wsX11_worthOf_r2 : List Cond := [Cond.code yJ9_floorDiv_f86c9 cJ9_floorDiv_f86c9 6 (some .long), Cond.methodLink RX11 130 yX11_weightOf, Cond.instanceMethod yX11_weightOf, Cond.selects RX11 yX11_weightOf yX11_weightOf, Cond.code yX11_weightOf cX11_weightOf 6 (some .int), Cond.methodLink RX11 93 yX11_times, Cond.instanceMethod yX11_times, Cond.selects RX11 yX11_times yX11_times, Cond.code yX11_times cX11_times 5 none, Cond.methodLink RX11 87 yX11_more, Cond.instanceMethod yX11_more, Cond.selects RX11 yX11_more yX11_more, Cond.code yX11_more cX11_more 6 none]
def wsX11_worthOf : List Cond := .code yX11_worthOf cX11_worthOf 6 none :: ((wsX11_worthOf_r1 ++ wsX11_worthOf_r2) ++ wsX110)
def wsX11_told_r1 : List Cond := [Cond.methodLink RX11 134 yX11_worthOf, Cond.instanceMethod yX11_worthOf, Cond.selects RX11 yX11_worthOf yX11_worthOf, Cond.initialized RX11, Cond.code yX11_worthOf cX11_worthOf 6 none, Cond.fieldLink RX11 127 "ChooseOnceModel" "comers" "I", Cond.fieldLink RX11 36 "ChooseOnceModel" "comer" "[I", Cond.fieldLink RX11 39 "ChooseOnceModel" "bars" "[I", Cond.fieldLink RX11 24 "ChooseOnceModel" "pairs" "[I", Cond.fieldLink RX11 27 "ChooseOnceModel" "worth" "[I", Cond.fieldLink RX11 30 "ChooseOnceModel" "weight" "[I", Cond.fieldLink RX11 33 "ChooseOnceModel" "sum" "[I", Cond.methodLink RX11 60 yX11_set, Cond.instanceMethod yX11_set, Cond.selects RX11 yX11_set yX11_set, Cond.code yX11_set cX11_set 5 none, Cond.fieldLink RX11 10 "ChooseOnceModel" "n" "[J", Cond.methodLink RX11 75 yX11_carry, Cond.instanceMethod yX11_carry, Cond.selects RX11 yX11_carry yX11_carry, Cond.code yX11_carry cX11_carry 5 none, Cond.constantLong RX11 64 (1000000000), Cond.methodLink RX11 66 yJ9_floorMod_f86c9, Cond.static yJ9_floorMod_f86c9]
def wsX11_told_r2 : List Cond := [Cond.initialized RJ9, Cond.code yJ9_floorMod_f86c9 cJ9_floorMod_f86c9 6 (some .long), Cond.methodLink RX11 72 yJ9_floorDiv_f86c9, Cond.static yJ9_floorDiv_f86c9, Cond.code yJ9_floorDiv_f86c9 cJ9_floorDiv_f86c9 6 (some .long), Cond.methodLink RX11 130 yX11_weightOf, Cond.instanceMethod yX11_weightOf, Cond.selects RX11 yX11_weightOf yX11_weightOf, Cond.code yX11_weightOf cX11_weightOf 6 (some .int), Cond.methodLink RX11 93 yX11_times, Cond.instanceMethod yX11_times, Cond.selects RX11 yX11_times yX11_times, Cond.code yX11_times cX11_times 5 none, Cond.methodLink RX11 87 yX11_more, Cond.instanceMethod yX11_more, Cond.selects RX11 yX11_more yX11_more, Cond.code yX11_more cX11_more 6 none, Cond.methodLink RX11 83 yX11_copy, Cond.instanceMethod yX11_copy, Cond.selects RX11 yX11_copy yX11_copy, Cond.code yX11_copy cX11_copy 4 none, Cond.methodLink RX11 137 yX11_result, Cond.instanceMethod yX11_result, Cond.selects RX11 yX11_result yX11_result]
def wsX11_told_r3 : List Cond := [Cond.code yX11_result cX11_result 6 none, Cond.constantLong RX11 91 (-1), Cond.constantLong RX11 79 (2), Cond.methodLink RX11 96 yX11_isZero, Cond.instanceMethod yX11_isZero, Cond.selects RX11 yX11_isZero yX11_isZero, Cond.code yX11_isZero cX11_isZero 3 (some .boolean), Cond.methodLink RX11 100 yX11_isEven, Cond.instanceMethod yX11_isEven, Cond.selects RX11 yX11_isEven yX11_isEven, Cond.code yX11_isEven cX11_isEven 2 (some .boolean), Cond.methodLink RX11 103 yX11_over, Cond.instanceMethod yX11_over, Cond.selects RX11 yX11_over yX11_over, Cond.code yX11_over cX11_over 9 none, Cond.methodLink RX11 106 yX11_compared, Cond.instanceMethod yX11_compared, Cond.selects RX11 yX11_compared yX11_compared, Cond.code yX11_compared cX11_compared 8 (some .int), Cond.methodLink RX11 110 yX11_parted, Cond.instanceMethod yX11_parted, Cond.selects RX11 yX11_parted yX11_parted, Cond.code yX11_parted cX11_parted 10 none, Cond.constantLong RX11 81 (999999999)]
def wsX11_told : List Cond := .code yX11_told cX11_told 1 none :: ((wsX11_told_r1 ++ (wsX11_told_r2 ++ wsX11_told_r3)) ++ wsX110)
def wsX11_bestFrom_r1 : List Cond := [Cond.fieldLink RX11 127 "ChooseOnceModel" "comers" "I", Cond.fieldLink RX11 36 "ChooseOnceModel" "comer" "[I", Cond.fieldLink RX11 24 "ChooseOnceModel" "pairs" "[I", Cond.fieldLink RX11 27 "ChooseOnceModel" "worth" "[I", Cond.fieldLink RX11 30 "ChooseOnceModel" "weight" "[I", Cond.fieldLink RX11 33 "ChooseOnceModel" "sum" "[I", Cond.methodLink RX11 60 yX11_set, Cond.instanceMethod yX11_set, Cond.selects RX11 yX11_set yX11_set, Cond.initialized RX11, Cond.code yX11_set cX11_set 5 none, Cond.fieldLink RX11 10 "ChooseOnceModel" "n" "[J", Cond.methodLink RX11 75 yX11_carry, Cond.instanceMethod yX11_carry, Cond.selects RX11 yX11_carry yX11_carry, Cond.code yX11_carry cX11_carry 5 none, Cond.constantLong RX11 64 (1000000000), Cond.methodLink RX11 66 yJ9_floorMod_f86c9, Cond.static yJ9_floorMod_f86c9, Cond.initialized RJ9, Cond.code yJ9_floorMod_f86c9 cJ9_floorMod_f86c9 6 (some .long), Cond.methodLink RX11 72 yJ9_floorDiv_f86c9, Cond.static yJ9_floorDiv_f86c9, Cond.code yJ9_floorDiv_f86c9 cJ9_floorDiv_f86c9 6 (some .long)]
def wsX11_bestFrom_r2 : List Cond := [Cond.methodLink RX11 87 yX11_more, Cond.instanceMethod yX11_more, Cond.selects RX11 yX11_more yX11_more, Cond.code yX11_more cX11_more 6 none, Cond.methodLink RX11 106 yX11_compared, Cond.instanceMethod yX11_compared, Cond.selects RX11 yX11_compared yX11_compared, Cond.code yX11_compared cX11_compared 8 (some .int), Cond.methodLink RX11 83 yX11_copy, Cond.instanceMethod yX11_copy, Cond.selects RX11 yX11_copy yX11_copy, Cond.code yX11_copy cX11_copy 4 none, Cond.methodLink RX11 93 yX11_times, Cond.instanceMethod yX11_times, Cond.selects RX11 yX11_times yX11_times, Cond.code yX11_times cX11_times 5 none]
def wsX11_bestFrom : List Cond := .code yX11_bestFrom cX11_bestFrom 5 none :: ((wsX11_bestFrom_r1 ++ wsX11_bestFrom_r2) ++ wsX110)
def wsX11_best_r1 : List Cond := [Cond.methodLink RX11 140 yX11_bestFrom, Cond.instanceMethod yX11_bestFrom, Cond.selects RX11 yX11_bestFrom yX11_bestFrom, Cond.initialized RX11, Cond.code yX11_bestFrom cX11_bestFrom 5 none, Cond.fieldLink RX11 127 "ChooseOnceModel" "comers" "I", Cond.fieldLink RX11 36 "ChooseOnceModel" "comer" "[I", Cond.fieldLink RX11 24 "ChooseOnceModel" "pairs" "[I", Cond.fieldLink RX11 27 "ChooseOnceModel" "worth" "[I", Cond.fieldLink RX11 30 "ChooseOnceModel" "weight" "[I", Cond.fieldLink RX11 33 "ChooseOnceModel" "sum" "[I", Cond.methodLink RX11 60 yX11_set, Cond.instanceMethod yX11_set, Cond.selects RX11 yX11_set yX11_set, Cond.code yX11_set cX11_set 5 none, Cond.fieldLink RX11 10 "ChooseOnceModel" "n" "[J", Cond.methodLink RX11 75 yX11_carry, Cond.instanceMethod yX11_carry, Cond.selects RX11 yX11_carry yX11_carry, Cond.code yX11_carry cX11_carry 5 none, Cond.constantLong RX11 64 (1000000000), Cond.methodLink RX11 66 yJ9_floorMod_f86c9, Cond.static yJ9_floorMod_f86c9, Cond.initialized RJ9]
def wsX11_best_r2 : List Cond := [Cond.code yJ9_floorMod_f86c9 cJ9_floorMod_f86c9 6 (some .long), Cond.methodLink RX11 72 yJ9_floorDiv_f86c9, Cond.static yJ9_floorDiv_f86c9, Cond.code yJ9_floorDiv_f86c9 cJ9_floorDiv_f86c9 6 (some .long), Cond.methodLink RX11 87 yX11_more, Cond.instanceMethod yX11_more, Cond.selects RX11 yX11_more yX11_more, Cond.code yX11_more cX11_more 6 none, Cond.methodLink RX11 106 yX11_compared, Cond.instanceMethod yX11_compared, Cond.selects RX11 yX11_compared yX11_compared, Cond.code yX11_compared cX11_compared 8 (some .int), Cond.methodLink RX11 83 yX11_copy, Cond.instanceMethod yX11_copy, Cond.selects RX11 yX11_copy yX11_copy, Cond.code yX11_copy cX11_copy 4 none, Cond.methodLink RX11 93 yX11_times, Cond.instanceMethod yX11_times, Cond.selects RX11 yX11_times yX11_times, Cond.code yX11_times cX11_times 5 none, Cond.methodLink RX11 137 yX11_result, Cond.instanceMethod yX11_result, Cond.selects RX11 yX11_result yX11_result, Cond.code yX11_result cX11_result 6 none]
def wsX11_best_r3 : List Cond := [Cond.constantLong RX11 91 (-1), Cond.constantLong RX11 79 (2), Cond.methodLink RX11 96 yX11_isZero, Cond.instanceMethod yX11_isZero, Cond.selects RX11 yX11_isZero yX11_isZero, Cond.code yX11_isZero cX11_isZero 3 (some .boolean), Cond.methodLink RX11 100 yX11_isEven, Cond.instanceMethod yX11_isEven, Cond.selects RX11 yX11_isEven yX11_isEven, Cond.code yX11_isEven cX11_isEven 2 (some .boolean), Cond.methodLink RX11 103 yX11_over, Cond.instanceMethod yX11_over, Cond.selects RX11 yX11_over yX11_over, Cond.code yX11_over cX11_over 9 none, Cond.methodLink RX11 110 yX11_parted, Cond.instanceMethod yX11_parted, Cond.selects RX11 yX11_parted yX11_parted, Cond.code yX11_parted cX11_parted 10 none, Cond.constantLong RX11 81 (999999999)]
def wsX11_best : List Cond := .code yX11_best cX11_best 1 none :: ((wsX11_best_r1 ++ (wsX11_best_r2 ++ wsX11_best_r3)) ++ wsX110)
def wsX11_bar_r1 : List Cond := [Cond.fieldLink RX11 127 "ChooseOnceModel" "comers" "I", Cond.fieldLink RX11 36 "ChooseOnceModel" "comer" "[I", Cond.fieldLink RX11 24 "ChooseOnceModel" "pairs" "[I", Cond.fieldLink RX11 27 "ChooseOnceModel" "worth" "[I", Cond.fieldLink RX11 30 "ChooseOnceModel" "weight" "[I", Cond.methodLink RX11 143 Lib.Math.max.name, Cond.static Lib.Math.max.name, Cond.initialized "java/lang/Math", Cond.code Lib.Math.max.name Lib.Math.max.code 2 (some .int), Cond.methodLink RX11 140 yX11_bestFrom, Cond.instanceMethod yX11_bestFrom, Cond.selects RX11 yX11_bestFrom yX11_bestFrom, Cond.initialized RX11, Cond.code yX11_bestFrom cX11_bestFrom 5 none, Cond.fieldLink RX11 33 "ChooseOnceModel" "sum" "[I", Cond.methodLink RX11 60 yX11_set, Cond.instanceMethod yX11_set, Cond.selects RX11 yX11_set yX11_set, Cond.code yX11_set cX11_set 5 none, Cond.fieldLink RX11 10 "ChooseOnceModel" "n" "[J", Cond.methodLink RX11 75 yX11_carry, Cond.instanceMethod yX11_carry, Cond.selects RX11 yX11_carry yX11_carry, Cond.code yX11_carry cX11_carry 5 none]
def wsX11_bar_r2 : List Cond := [Cond.constantLong RX11 64 (1000000000), Cond.methodLink RX11 66 yJ9_floorMod_f86c9, Cond.static yJ9_floorMod_f86c9, Cond.initialized RJ9, Cond.code yJ9_floorMod_f86c9 cJ9_floorMod_f86c9 6 (some .long), Cond.methodLink RX11 72 yJ9_floorDiv_f86c9, Cond.static yJ9_floorDiv_f86c9, Cond.code yJ9_floorDiv_f86c9 cJ9_floorDiv_f86c9 6 (some .long), Cond.methodLink RX11 87 yX11_more, Cond.instanceMethod yX11_more, Cond.selects RX11 yX11_more yX11_more, Cond.code yX11_more cX11_more 6 none, Cond.methodLink RX11 106 yX11_compared, Cond.instanceMethod yX11_compared, Cond.selects RX11 yX11_compared yX11_compared, Cond.code yX11_compared cX11_compared 8 (some .int), Cond.methodLink RX11 83 yX11_copy, Cond.instanceMethod yX11_copy, Cond.selects RX11 yX11_copy yX11_copy, Cond.code yX11_copy cX11_copy 4 none, Cond.methodLink RX11 93 yX11_times, Cond.instanceMethod yX11_times, Cond.selects RX11 yX11_times yX11_times, Cond.code yX11_times cX11_times 5 none]
def wsX11_bar : List Cond := .code yX11_bar cX11_bar 5 (some .int) :: ((wsX11_bar_r1 ++ wsX11_bar_r2) ++ wsX110)
def wsX11_few_r1 : List Cond := [Cond.fieldLink RX11 127 "ChooseOnceModel" "comers" "I", Cond.fieldLink RX11 36 "ChooseOnceModel" "comer" "[I", Cond.fieldLink RX11 24 "ChooseOnceModel" "pairs" "[I", Cond.fieldLink RX11 27 "ChooseOnceModel" "worth" "[I", Cond.fieldLink RX11 30 "ChooseOnceModel" "weight" "[I", Cond.fieldLink RX11 33 "ChooseOnceModel" "sum" "[I", Cond.methodLink RX11 60 yX11_set, Cond.instanceMethod yX11_set, Cond.selects RX11 yX11_set yX11_set, Cond.initialized RX11, Cond.code yX11_set cX11_set 5 none, Cond.fieldLink RX11 10 "ChooseOnceModel" "n" "[J", Cond.methodLink RX11 75 yX11_carry, Cond.instanceMethod yX11_carry, Cond.selects RX11 yX11_carry yX11_carry, Cond.code yX11_carry cX11_carry 5 none, Cond.constantLong RX11 64 (1000000000), Cond.methodLink RX11 66 yJ9_floorMod_f86c9, Cond.static yJ9_floorMod_f86c9, Cond.initialized RJ9, Cond.code yJ9_floorMod_f86c9 cJ9_floorMod_f86c9 6 (some .long), Cond.methodLink RX11 72 yJ9_floorDiv_f86c9, Cond.static yJ9_floorDiv_f86c9, Cond.code yJ9_floorDiv_f86c9 cJ9_floorDiv_f86c9 6 (some .long)]
def wsX11_few_r2 : List Cond := [Cond.methodLink RX11 83 yX11_copy, Cond.instanceMethod yX11_copy, Cond.selects RX11 yX11_copy yX11_copy, Cond.code yX11_copy cX11_copy 4 none, Cond.methodLink RX11 87 yX11_more, Cond.instanceMethod yX11_more, Cond.selects RX11 yX11_more yX11_more, Cond.code yX11_more cX11_more 6 none, Cond.methodLink RX11 106 yX11_compared, Cond.instanceMethod yX11_compared, Cond.selects RX11 yX11_compared yX11_compared, Cond.code yX11_compared cX11_compared 8 (some .int), Cond.methodLink RX11 93 yX11_times, Cond.instanceMethod yX11_times, Cond.selects RX11 yX11_times yX11_times, Cond.code yX11_times cX11_times 5 none, Cond.methodLink RX11 137 yX11_result, Cond.instanceMethod yX11_result, Cond.selects RX11 yX11_result yX11_result, Cond.code yX11_result cX11_result 6 none, Cond.constantLong RX11 91 (-1), Cond.constantLong RX11 79 (2), Cond.methodLink RX11 96 yX11_isZero, Cond.instanceMethod yX11_isZero]
def wsX11_few_r3 : List Cond := [Cond.selects RX11 yX11_isZero yX11_isZero, Cond.code yX11_isZero cX11_isZero 3 (some .boolean), Cond.methodLink RX11 100 yX11_isEven, Cond.instanceMethod yX11_isEven, Cond.selects RX11 yX11_isEven yX11_isEven, Cond.code yX11_isEven cX11_isEven 2 (some .boolean), Cond.methodLink RX11 103 yX11_over, Cond.instanceMethod yX11_over, Cond.selects RX11 yX11_over yX11_over, Cond.code yX11_over cX11_over 9 none, Cond.methodLink RX11 110 yX11_parted, Cond.instanceMethod yX11_parted, Cond.selects RX11 yX11_parted yX11_parted, Cond.code yX11_parted cX11_parted 10 none, Cond.constantLong RX11 81 (999999999)]
def wsX11_few : List Cond := .code yX11_few cX11_few 7 (some .boolean) :: ((wsX11_few_r1 ++ (wsX11_few_r2 ++ wsX11_few_r3)) ++ wsX110)
def wsX11_foresees_r1 : List Cond := [Cond.fieldLink RX11 127 "ChooseOnceModel" "comers" "I", Cond.fieldLink RX11 33 "ChooseOnceModel" "sum" "[I", Cond.fieldLink RX11 36 "ChooseOnceModel" "comer" "[I", Cond.constantLong RX11 91 (-1), Cond.methodLink RX11 60 yX11_set, Cond.instanceMethod yX11_set, Cond.selects RX11 yX11_set yX11_set, Cond.initialized RX11, Cond.code yX11_set cX11_set 5 none, Cond.fieldLink RX11 10 "ChooseOnceModel" "n" "[J", Cond.methodLink RX11 75 yX11_carry, Cond.instanceMethod yX11_carry, Cond.selects RX11 yX11_carry yX11_carry, Cond.code yX11_carry cX11_carry 5 none, Cond.constantLong RX11 64 (1000000000), Cond.methodLink RX11 66 yJ9_floorMod_f86c9, Cond.static yJ9_floorMod_f86c9, Cond.initialized RJ9, Cond.code yJ9_floorMod_f86c9 cJ9_floorMod_f86c9 6 (some .long), Cond.methodLink RX11 72 yJ9_floorDiv_f86c9, Cond.static yJ9_floorDiv_f86c9, Cond.code yJ9_floorDiv_f86c9 cJ9_floorDiv_f86c9 6 (some .long), Cond.methodLink RX11 93 yX11_times, Cond.instanceMethod yX11_times]
def wsX11_foresees_r2 : List Cond := [Cond.selects RX11 yX11_times yX11_times, Cond.code yX11_times cX11_times 5 none, Cond.methodLink RX11 130 yX11_weightOf, Cond.instanceMethod yX11_weightOf, Cond.selects RX11 yX11_weightOf yX11_weightOf, Cond.code yX11_weightOf cX11_weightOf 6 (some .int), Cond.fieldLink RX11 24 "ChooseOnceModel" "pairs" "[I", Cond.fieldLink RX11 27 "ChooseOnceModel" "worth" "[I", Cond.fieldLink RX11 30 "ChooseOnceModel" "weight" "[I", Cond.methodLink RX11 87 yX11_more, Cond.instanceMethod yX11_more, Cond.selects RX11 yX11_more yX11_more, Cond.code yX11_more cX11_more 6 none]
def wsX11_foresees : List Cond := .code yX11_foresees cX11_foresees 3 none :: ((wsX11_foresees_r1 ++ wsX11_foresees_r2) ++ wsX110)
def wsX11_foresight_r1 : List Cond := [Cond.methodLink RX11 146 yX11_foresees, Cond.instanceMethod yX11_foresees, Cond.selects RX11 yX11_foresees yX11_foresees, Cond.initialized RX11, Cond.code yX11_foresees cX11_foresees 3 none, Cond.fieldLink RX11 127 "ChooseOnceModel" "comers" "I", Cond.fieldLink RX11 33 "ChooseOnceModel" "sum" "[I", Cond.fieldLink RX11 36 "ChooseOnceModel" "comer" "[I", Cond.constantLong RX11 91 (-1), Cond.methodLink RX11 60 yX11_set, Cond.instanceMethod yX11_set, Cond.selects RX11 yX11_set yX11_set, Cond.code yX11_set cX11_set 5 none, Cond.fieldLink RX11 10 "ChooseOnceModel" "n" "[J", Cond.methodLink RX11 75 yX11_carry, Cond.instanceMethod yX11_carry, Cond.selects RX11 yX11_carry yX11_carry, Cond.code yX11_carry cX11_carry 5 none, Cond.constantLong RX11 64 (1000000000), Cond.methodLink RX11 66 yJ9_floorMod_f86c9, Cond.static yJ9_floorMod_f86c9, Cond.initialized RJ9, Cond.code yJ9_floorMod_f86c9 cJ9_floorMod_f86c9 6 (some .long), Cond.methodLink RX11 72 yJ9_floorDiv_f86c9]
def wsX11_foresight_r2 : List Cond := [Cond.static yJ9_floorDiv_f86c9, Cond.code yJ9_floorDiv_f86c9 cJ9_floorDiv_f86c9 6 (some .long), Cond.methodLink RX11 93 yX11_times, Cond.instanceMethod yX11_times, Cond.selects RX11 yX11_times yX11_times, Cond.code yX11_times cX11_times 5 none, Cond.methodLink RX11 130 yX11_weightOf, Cond.instanceMethod yX11_weightOf, Cond.selects RX11 yX11_weightOf yX11_weightOf, Cond.code yX11_weightOf cX11_weightOf 6 (some .int), Cond.fieldLink RX11 24 "ChooseOnceModel" "pairs" "[I", Cond.fieldLink RX11 27 "ChooseOnceModel" "worth" "[I", Cond.fieldLink RX11 30 "ChooseOnceModel" "weight" "[I", Cond.methodLink RX11 87 yX11_more, Cond.instanceMethod yX11_more, Cond.selects RX11 yX11_more yX11_more, Cond.code yX11_more cX11_more 6 none, Cond.methodLink RX11 83 yX11_copy, Cond.instanceMethod yX11_copy, Cond.selects RX11 yX11_copy yX11_copy, Cond.code yX11_copy cX11_copy 4 none, Cond.methodLink RX11 137 yX11_result, Cond.instanceMethod yX11_result, Cond.selects RX11 yX11_result yX11_result]
def wsX11_foresight_r3 : List Cond := [Cond.code yX11_result cX11_result 6 none, Cond.constantLong RX11 79 (2), Cond.methodLink RX11 96 yX11_isZero, Cond.instanceMethod yX11_isZero, Cond.selects RX11 yX11_isZero yX11_isZero, Cond.code yX11_isZero cX11_isZero 3 (some .boolean), Cond.methodLink RX11 100 yX11_isEven, Cond.instanceMethod yX11_isEven, Cond.selects RX11 yX11_isEven yX11_isEven, Cond.code yX11_isEven cX11_isEven 2 (some .boolean), Cond.methodLink RX11 103 yX11_over, Cond.instanceMethod yX11_over, Cond.selects RX11 yX11_over yX11_over, Cond.code yX11_over cX11_over 9 none, Cond.methodLink RX11 106 yX11_compared, Cond.instanceMethod yX11_compared, Cond.selects RX11 yX11_compared yX11_compared, Cond.code yX11_compared cX11_compared 8 (some .int), Cond.methodLink RX11 110 yX11_parted, Cond.instanceMethod yX11_parted, Cond.selects RX11 yX11_parted yX11_parted, Cond.code yX11_parted cX11_parted 10 none, Cond.constantLong RX11 81 (999999999)]
def wsX11_foresight : List Cond := .code yX11_foresight cX11_foresight 1 none :: ((wsX11_foresight_r1 ++ (wsX11_foresight_r2 ++ wsX11_foresight_r3)) ++ wsX110)
def wsX11_half_r1 : List Cond := [Cond.constantLong RX11 79 (2), Cond.methodLink RX11 146 yX11_foresees, Cond.instanceMethod yX11_foresees, Cond.selects RX11 yX11_foresees yX11_foresees, Cond.initialized RX11, Cond.code yX11_foresees cX11_foresees 3 none, Cond.fieldLink RX11 127 "ChooseOnceModel" "comers" "I", Cond.fieldLink RX11 33 "ChooseOnceModel" "sum" "[I", Cond.fieldLink RX11 36 "ChooseOnceModel" "comer" "[I", Cond.constantLong RX11 91 (-1), Cond.methodLink RX11 60 yX11_set, Cond.instanceMethod yX11_set, Cond.selects RX11 yX11_set yX11_set, Cond.code yX11_set cX11_set 5 none, Cond.fieldLink RX11 10 "ChooseOnceModel" "n" "[J", Cond.methodLink RX11 75 yX11_carry, Cond.instanceMethod yX11_carry, Cond.selects RX11 yX11_carry yX11_carry, Cond.code yX11_carry cX11_carry 5 none, Cond.constantLong RX11 64 (1000000000), Cond.methodLink RX11 66 yJ9_floorMod_f86c9, Cond.static yJ9_floorMod_f86c9, Cond.initialized RJ9, Cond.code yJ9_floorMod_f86c9 cJ9_floorMod_f86c9 6 (some .long)]
def wsX11_half_r2 : List Cond := [Cond.methodLink RX11 72 yJ9_floorDiv_f86c9, Cond.static yJ9_floorDiv_f86c9, Cond.code yJ9_floorDiv_f86c9 cJ9_floorDiv_f86c9 6 (some .long), Cond.methodLink RX11 93 yX11_times, Cond.instanceMethod yX11_times, Cond.selects RX11 yX11_times yX11_times, Cond.code yX11_times cX11_times 5 none, Cond.methodLink RX11 130 yX11_weightOf, Cond.instanceMethod yX11_weightOf, Cond.selects RX11 yX11_weightOf yX11_weightOf, Cond.code yX11_weightOf cX11_weightOf 6 (some .int), Cond.fieldLink RX11 24 "ChooseOnceModel" "pairs" "[I", Cond.fieldLink RX11 27 "ChooseOnceModel" "worth" "[I", Cond.fieldLink RX11 30 "ChooseOnceModel" "weight" "[I", Cond.methodLink RX11 87 yX11_more, Cond.instanceMethod yX11_more, Cond.selects RX11 yX11_more yX11_more, Cond.code yX11_more cX11_more 6 none, Cond.methodLink RX11 83 yX11_copy, Cond.instanceMethod yX11_copy, Cond.selects RX11 yX11_copy yX11_copy, Cond.code yX11_copy cX11_copy 4 none, Cond.methodLink RX11 134 yX11_worthOf, Cond.instanceMethod yX11_worthOf]
def wsX11_half_r3 : List Cond := [Cond.selects RX11 yX11_worthOf yX11_worthOf, Cond.code yX11_worthOf cX11_worthOf 6 none, Cond.fieldLink RX11 39 "ChooseOnceModel" "bars" "[I", Cond.methodLink RX11 106 yX11_compared, Cond.instanceMethod yX11_compared, Cond.selects RX11 yX11_compared yX11_compared, Cond.code yX11_compared cX11_compared 8 (some .int)]
def wsX11_half : List Cond := .code yX11_half cX11_half 2 (some .int) :: ((wsX11_half_r1 ++ (wsX11_half_r2 ++ wsX11_half_r3)) ++ wsX110)
def wsX11_common : List Cond := .code yX11_common cX11_common 2 (some .int) :: ([.methodLink RX11 149 yX11_common, .static yX11_common, .initialized RX11])
def wsX11_multiple_r1 : List Cond := [Cond.constantLong RX11 64 (1000000000), Cond.fieldLink RX11 10 "ChooseOnceModel" "n" "[J", Cond.methodLink RX11 60 yX11_set, Cond.instanceMethod yX11_set, Cond.selects RX11 yX11_set yX11_set, Cond.initialized RX11, Cond.code yX11_set cX11_set 5 none, Cond.methodLink RX11 75 yX11_carry, Cond.instanceMethod yX11_carry, Cond.selects RX11 yX11_carry yX11_carry, Cond.code yX11_carry cX11_carry 5 none, Cond.methodLink RX11 66 yJ9_floorMod_f86c9, Cond.static yJ9_floorMod_f86c9, Cond.initialized RJ9, Cond.code yJ9_floorMod_f86c9 cJ9_floorMod_f86c9 6 (some .long), Cond.methodLink RX11 72 yJ9_floorDiv_f86c9, Cond.static yJ9_floorDiv_f86c9, Cond.code yJ9_floorDiv_f86c9 cJ9_floorDiv_f86c9 6 (some .long), Cond.methodLink RX11 83 yX11_copy, Cond.instanceMethod yX11_copy, Cond.selects RX11 yX11_copy yX11_copy, Cond.code yX11_copy cX11_copy 4 none, Cond.methodLink RX11 149 yX11_common, Cond.static yX11_common]
def wsX11_multiple_r2 : List Cond := [Cond.code yX11_common cX11_common 2 (some .int), Cond.methodLink RX11 93 yX11_times, Cond.instanceMethod yX11_times, Cond.selects RX11 yX11_times yX11_times, Cond.code yX11_times cX11_times 5 none]
def wsX11_multiple : List Cond := .code yX11_multiple cX11_multiple 7 none :: ((wsX11_multiple_r1 ++ wsX11_multiple_r2) ++ wsX110)
def wsX11_lets_r1 : List Cond := [Cond.methodLink RX11 83 yX11_copy, Cond.instanceMethod yX11_copy, Cond.selects RX11 yX11_copy yX11_copy, Cond.initialized RX11, Cond.code yX11_copy cX11_copy 4 none, Cond.fieldLink RX11 10 "ChooseOnceModel" "n" "[J", Cond.methodLink RX11 60 yX11_set, Cond.instanceMethod yX11_set, Cond.selects RX11 yX11_set yX11_set, Cond.code yX11_set cX11_set 5 none, Cond.methodLink RX11 75 yX11_carry, Cond.instanceMethod yX11_carry, Cond.selects RX11 yX11_carry yX11_carry, Cond.code yX11_carry cX11_carry 5 none, Cond.constantLong RX11 64 (1000000000), Cond.methodLink RX11 66 yJ9_floorMod_f86c9, Cond.static yJ9_floorMod_f86c9, Cond.initialized RJ9, Cond.code yJ9_floorMod_f86c9 cJ9_floorMod_f86c9 6 (some .long), Cond.methodLink RX11 72 yJ9_floorDiv_f86c9, Cond.static yJ9_floorDiv_f86c9, Cond.code yJ9_floorDiv_f86c9 cJ9_floorDiv_f86c9 6 (some .long), Cond.methodLink RX11 103 yX11_over, Cond.instanceMethod yX11_over]
def wsX11_lets_r2 : List Cond := [Cond.selects RX11 yX11_over yX11_over, Cond.code yX11_over cX11_over 9 none, Cond.methodLink RX11 87 yX11_more, Cond.instanceMethod yX11_more, Cond.selects RX11 yX11_more yX11_more, Cond.code yX11_more cX11_more 6 none, Cond.methodLink RX11 93 yX11_times, Cond.instanceMethod yX11_times, Cond.selects RX11 yX11_times yX11_times, Cond.code yX11_times cX11_times 5 none]
def wsX11_lets : List Cond := .code yX11_lets cX11_lets 4 none :: ((wsX11_lets_r1 ++ wsX11_lets_r2) ++ wsX110)
def wsX11_letting_r1 : List Cond := [Cond.methodLink RX11 152 yX11_multiple, Cond.instanceMethod yX11_multiple, Cond.selects RX11 yX11_multiple yX11_multiple, Cond.initialized RX11, Cond.code yX11_multiple cX11_multiple 7 none, Cond.constantLong RX11 64 (1000000000), Cond.fieldLink RX11 10 "ChooseOnceModel" "n" "[J", Cond.methodLink RX11 60 yX11_set, Cond.instanceMethod yX11_set, Cond.selects RX11 yX11_set yX11_set, Cond.code yX11_set cX11_set 5 none, Cond.methodLink RX11 75 yX11_carry, Cond.instanceMethod yX11_carry, Cond.selects RX11 yX11_carry yX11_carry, Cond.code yX11_carry cX11_carry 5 none, Cond.methodLink RX11 66 yJ9_floorMod_f86c9, Cond.static yJ9_floorMod_f86c9, Cond.initialized RJ9, Cond.code yJ9_floorMod_f86c9 cJ9_floorMod_f86c9 6 (some .long), Cond.methodLink RX11 72 yJ9_floorDiv_f86c9, Cond.static yJ9_floorDiv_f86c9, Cond.code yJ9_floorDiv_f86c9 cJ9_floorDiv_f86c9 6 (some .long), Cond.methodLink RX11 83 yX11_copy, Cond.instanceMethod yX11_copy]
def wsX11_letting_r2 : List Cond := [Cond.selects RX11 yX11_copy yX11_copy, Cond.code yX11_copy cX11_copy 4 none, Cond.methodLink RX11 149 yX11_common, Cond.static yX11_common, Cond.code yX11_common cX11_common 2 (some .int), Cond.methodLink RX11 93 yX11_times, Cond.instanceMethod yX11_times, Cond.selects RX11 yX11_times yX11_times, Cond.code yX11_times cX11_times 5 none, Cond.methodLink RX11 155 yX11_lets, Cond.instanceMethod yX11_lets, Cond.selects RX11 yX11_lets yX11_lets, Cond.code yX11_lets cX11_lets 4 none, Cond.methodLink RX11 103 yX11_over, Cond.instanceMethod yX11_over, Cond.selects RX11 yX11_over yX11_over, Cond.code yX11_over cX11_over 9 none, Cond.methodLink RX11 87 yX11_more, Cond.instanceMethod yX11_more, Cond.selects RX11 yX11_more yX11_more, Cond.code yX11_more cX11_more 6 none, Cond.methodLink RX11 137 yX11_result, Cond.instanceMethod yX11_result, Cond.selects RX11 yX11_result yX11_result]
def wsX11_letting_r3 : List Cond := [Cond.code yX11_result cX11_result 6 none, Cond.constantLong RX11 91 (-1), Cond.constantLong RX11 79 (2), Cond.methodLink RX11 96 yX11_isZero, Cond.instanceMethod yX11_isZero, Cond.selects RX11 yX11_isZero yX11_isZero, Cond.code yX11_isZero cX11_isZero 3 (some .boolean), Cond.methodLink RX11 100 yX11_isEven, Cond.instanceMethod yX11_isEven, Cond.selects RX11 yX11_isEven yX11_isEven, Cond.code yX11_isEven cX11_isEven 2 (some .boolean), Cond.methodLink RX11 106 yX11_compared, Cond.instanceMethod yX11_compared, Cond.selects RX11 yX11_compared yX11_compared, Cond.code yX11_compared cX11_compared 8 (some .int), Cond.methodLink RX11 110 yX11_parted, Cond.instanceMethod yX11_parted, Cond.selects RX11 yX11_parted yX11_parted, Cond.code yX11_parted cX11_parted 10 none, Cond.constantLong RX11 81 (999999999)]
def wsX11_letting : List Cond := .code yX11_letting cX11_letting 3 (some .boolean) :: ((wsX11_letting_r1 ++ (wsX11_letting_r2 ++ wsX11_letting_r3)) ++ wsX110)
def wsX11_pass_r1 : List Cond := [Cond.methodLink RX11 152 yX11_multiple, Cond.instanceMethod yX11_multiple, Cond.selects RX11 yX11_multiple yX11_multiple, Cond.initialized RX11, Cond.code yX11_multiple cX11_multiple 7 none, Cond.constantLong RX11 64 (1000000000), Cond.fieldLink RX11 10 "ChooseOnceModel" "n" "[J", Cond.methodLink RX11 60 yX11_set, Cond.instanceMethod yX11_set, Cond.selects RX11 yX11_set yX11_set, Cond.code yX11_set cX11_set 5 none, Cond.methodLink RX11 75 yX11_carry, Cond.instanceMethod yX11_carry, Cond.selects RX11 yX11_carry yX11_carry, Cond.code yX11_carry cX11_carry 5 none, Cond.methodLink RX11 66 yJ9_floorMod_f86c9, Cond.static yJ9_floorMod_f86c9, Cond.initialized RJ9, Cond.code yJ9_floorMod_f86c9 cJ9_floorMod_f86c9 6 (some .long), Cond.methodLink RX11 72 yJ9_floorDiv_f86c9, Cond.static yJ9_floorDiv_f86c9, Cond.code yJ9_floorDiv_f86c9 cJ9_floorDiv_f86c9 6 (some .long), Cond.methodLink RX11 83 yX11_copy, Cond.instanceMethod yX11_copy]
def wsX11_pass_r2 : List Cond := [Cond.selects RX11 yX11_copy yX11_copy, Cond.code yX11_copy cX11_copy 4 none, Cond.methodLink RX11 149 yX11_common, Cond.static yX11_common, Cond.code yX11_common cX11_common 2 (some .int), Cond.methodLink RX11 93 yX11_times, Cond.instanceMethod yX11_times, Cond.selects RX11 yX11_times yX11_times, Cond.code yX11_times cX11_times 5 none, Cond.methodLink RX11 155 yX11_lets, Cond.instanceMethod yX11_lets, Cond.selects RX11 yX11_lets yX11_lets, Cond.code yX11_lets cX11_lets 4 none, Cond.methodLink RX11 103 yX11_over, Cond.instanceMethod yX11_over, Cond.selects RX11 yX11_over yX11_over, Cond.code yX11_over cX11_over 9 none, Cond.methodLink RX11 87 yX11_more, Cond.instanceMethod yX11_more, Cond.selects RX11 yX11_more yX11_more, Cond.code yX11_more cX11_more 6 none, Cond.methodLink RX11 106 yX11_compared, Cond.instanceMethod yX11_compared, Cond.selects RX11 yX11_compared yX11_compared]
def wsX11_pass_r3 : List Cond := [Cond.code yX11_compared cX11_compared 8 (some .int)]
def wsX11_pass : List Cond := .code yX11_pass cX11_pass 4 (some .int) :: ((wsX11_pass_r1 ++ (wsX11_pass_r2 ++ wsX11_pass_r3)) ++ wsX110)
def wsX11_pay : List Cond := .code yX11_pay cX11_pay 3 (some .boolean) :: ([.fieldLink RX11 42 "ChooseOnceModel" "pays" "[I"] ++ wsX110)
def wsX11_choose : List Cond := .code yX11_choose cX11_choose 5 (some .long) :: ([])
def wsX11_yesOf_r1 : List Cond := [Cond.fieldLink RX11 42 "ChooseOnceModel" "pays" "[I", Cond.methodLink RX11 60 yX11_set, Cond.instanceMethod yX11_set, Cond.selects RX11 yX11_set yX11_set, Cond.initialized RX11, Cond.code yX11_set cX11_set 5 none, Cond.fieldLink RX11 10 "ChooseOnceModel" "n" "[J", Cond.methodLink RX11 75 yX11_carry, Cond.instanceMethod yX11_carry, Cond.selects RX11 yX11_carry yX11_carry, Cond.code yX11_carry cX11_carry 5 none, Cond.constantLong RX11 64 (1000000000), Cond.methodLink RX11 66 yJ9_floorMod_f86c9, Cond.static yJ9_floorMod_f86c9, Cond.initialized RJ9, Cond.code yJ9_floorMod_f86c9 cJ9_floorMod_f86c9 6 (some .long), Cond.methodLink RX11 72 yJ9_floorDiv_f86c9, Cond.static yJ9_floorDiv_f86c9, Cond.code yJ9_floorDiv_f86c9 cJ9_floorDiv_f86c9 6 (some .long), Cond.methodLink RX11 158 yX11_choose, Cond.static yX11_choose, Cond.code yX11_choose cX11_choose 5 (some .long), Cond.methodLink RX11 93 yX11_times, Cond.instanceMethod yX11_times]
def wsX11_yesOf_r2 : List Cond := [Cond.selects RX11 yX11_times yX11_times, Cond.code yX11_times cX11_times 5 none, Cond.methodLink RX11 87 yX11_more, Cond.instanceMethod yX11_more, Cond.selects RX11 yX11_more yX11_more, Cond.code yX11_more cX11_more 6 none]
def wsX11_yesOf : List Cond := .code yX11_yesOf cX11_yesOf 5 none :: ((wsX11_yesOf_r1 ++ wsX11_yesOf_r2) ++ wsX110)
def wsX11_goesOn_r1 : List Cond := [Cond.methodLink RX11 60 yX11_set, Cond.instanceMethod yX11_set, Cond.selects RX11 yX11_set yX11_set, Cond.initialized RX11, Cond.code yX11_set cX11_set 5 none, Cond.fieldLink RX11 10 "ChooseOnceModel" "n" "[J", Cond.methodLink RX11 75 yX11_carry, Cond.instanceMethod yX11_carry, Cond.selects RX11 yX11_carry yX11_carry, Cond.code yX11_carry cX11_carry 5 none, Cond.constantLong RX11 64 (1000000000), Cond.methodLink RX11 66 yJ9_floorMod_f86c9, Cond.static yJ9_floorMod_f86c9, Cond.initialized RJ9, Cond.code yJ9_floorMod_f86c9 cJ9_floorMod_f86c9 6 (some .long), Cond.methodLink RX11 72 yJ9_floorDiv_f86c9, Cond.static yJ9_floorDiv_f86c9, Cond.code yJ9_floorDiv_f86c9 cJ9_floorDiv_f86c9 6 (some .long), Cond.methodLink RX11 162 yX11_yesOf, Cond.instanceMethod yX11_yesOf, Cond.selects RX11 yX11_yesOf yX11_yesOf, Cond.code yX11_yesOf cX11_yesOf 5 none, Cond.fieldLink RX11 42 "ChooseOnceModel" "pays" "[I", Cond.methodLink RX11 158 yX11_choose]
def wsX11_goesOn_r2 : List Cond := [Cond.static yX11_choose, Cond.code yX11_choose cX11_choose 5 (some .long), Cond.methodLink RX11 93 yX11_times, Cond.instanceMethod yX11_times, Cond.selects RX11 yX11_times yX11_times, Cond.code yX11_times cX11_times 5 none, Cond.methodLink RX11 87 yX11_more, Cond.instanceMethod yX11_more, Cond.selects RX11 yX11_more yX11_more, Cond.code yX11_more cX11_more 6 none, Cond.methodLink RX11 106 yX11_compared, Cond.instanceMethod yX11_compared, Cond.selects RX11 yX11_compared yX11_compared, Cond.code yX11_compared cX11_compared 8 (some .int)]
def wsX11_goesOn : List Cond := .code yX11_goesOn cX11_goesOn 5 none :: ((wsX11_goesOn_r1 ++ wsX11_goesOn_r2) ++ wsX110)
def wsX11_ranks_r1 : List Cond := [Cond.methodLink RX11 166 yX11_goesOn, Cond.instanceMethod yX11_goesOn, Cond.selects RX11 yX11_goesOn yX11_goesOn, Cond.initialized RX11, Cond.code yX11_goesOn cX11_goesOn 5 none, Cond.methodLink RX11 60 yX11_set, Cond.instanceMethod yX11_set, Cond.selects RX11 yX11_set yX11_set, Cond.code yX11_set cX11_set 5 none, Cond.fieldLink RX11 10 "ChooseOnceModel" "n" "[J", Cond.methodLink RX11 75 yX11_carry, Cond.instanceMethod yX11_carry, Cond.selects RX11 yX11_carry yX11_carry, Cond.code yX11_carry cX11_carry 5 none, Cond.constantLong RX11 64 (1000000000), Cond.methodLink RX11 66 yJ9_floorMod_f86c9, Cond.static yJ9_floorMod_f86c9, Cond.initialized RJ9, Cond.code yJ9_floorMod_f86c9 cJ9_floorMod_f86c9 6 (some .long), Cond.methodLink RX11 72 yJ9_floorDiv_f86c9, Cond.static yJ9_floorDiv_f86c9, Cond.code yJ9_floorDiv_f86c9 cJ9_floorDiv_f86c9 6 (some .long), Cond.methodLink RX11 162 yX11_yesOf, Cond.instanceMethod yX11_yesOf]
def wsX11_ranks_r2 : List Cond := [Cond.selects RX11 yX11_yesOf yX11_yesOf, Cond.code yX11_yesOf cX11_yesOf 5 none, Cond.fieldLink RX11 42 "ChooseOnceModel" "pays" "[I", Cond.methodLink RX11 158 yX11_choose, Cond.static yX11_choose, Cond.code yX11_choose cX11_choose 5 (some .long), Cond.methodLink RX11 93 yX11_times, Cond.instanceMethod yX11_times, Cond.selects RX11 yX11_times yX11_times, Cond.code yX11_times cX11_times 5 none, Cond.methodLink RX11 87 yX11_more, Cond.instanceMethod yX11_more, Cond.selects RX11 yX11_more yX11_more, Cond.code yX11_more cX11_more 6 none, Cond.methodLink RX11 106 yX11_compared, Cond.instanceMethod yX11_compared, Cond.selects RX11 yX11_compared yX11_compared, Cond.code yX11_compared cX11_compared 8 (some .int), Cond.methodLink RX11 137 yX11_result, Cond.instanceMethod yX11_result, Cond.selects RX11 yX11_result yX11_result, Cond.code yX11_result cX11_result 6 none, Cond.constantLong RX11 91 (-1), Cond.constantLong RX11 79 (2)]
def wsX11_ranks_r3 : List Cond := [Cond.methodLink RX11 83 yX11_copy, Cond.instanceMethod yX11_copy, Cond.selects RX11 yX11_copy yX11_copy, Cond.code yX11_copy cX11_copy 4 none, Cond.methodLink RX11 96 yX11_isZero, Cond.instanceMethod yX11_isZero, Cond.selects RX11 yX11_isZero yX11_isZero, Cond.code yX11_isZero cX11_isZero 3 (some .boolean), Cond.methodLink RX11 100 yX11_isEven, Cond.instanceMethod yX11_isEven, Cond.selects RX11 yX11_isEven yX11_isEven, Cond.code yX11_isEven cX11_isEven 2 (some .boolean), Cond.methodLink RX11 103 yX11_over, Cond.instanceMethod yX11_over, Cond.selects RX11 yX11_over yX11_over, Cond.code yX11_over cX11_over 9 none, Cond.methodLink RX11 110 yX11_parted, Cond.instanceMethod yX11_parted, Cond.selects RX11 yX11_parted yX11_parted, Cond.code yX11_parted cX11_parted 10 none, Cond.constantLong RX11 81 (999999999)]
def wsX11_ranks : List Cond := .code yX11_ranks cX11_ranks 3 (some .boolean) :: ((wsX11_ranks_r1 ++ (wsX11_ranks_r2 ++ wsX11_ranks_r3)) ++ wsX110)
def wsX11_yes_r1 : List Cond := [Cond.methodLink RX11 166 yX11_goesOn, Cond.instanceMethod yX11_goesOn, Cond.selects RX11 yX11_goesOn yX11_goesOn, Cond.initialized RX11, Cond.code yX11_goesOn cX11_goesOn 5 none, Cond.methodLink RX11 60 yX11_set, Cond.instanceMethod yX11_set, Cond.selects RX11 yX11_set yX11_set, Cond.code yX11_set cX11_set 5 none, Cond.fieldLink RX11 10 "ChooseOnceModel" "n" "[J", Cond.methodLink RX11 75 yX11_carry, Cond.instanceMethod yX11_carry, Cond.selects RX11 yX11_carry yX11_carry, Cond.code yX11_carry cX11_carry 5 none, Cond.constantLong RX11 64 (1000000000), Cond.methodLink RX11 66 yJ9_floorMod_f86c9, Cond.static yJ9_floorMod_f86c9, Cond.initialized RJ9, Cond.code yJ9_floorMod_f86c9 cJ9_floorMod_f86c9 6 (some .long), Cond.methodLink RX11 72 yJ9_floorDiv_f86c9, Cond.static yJ9_floorDiv_f86c9, Cond.code yJ9_floorDiv_f86c9 cJ9_floorDiv_f86c9 6 (some .long), Cond.methodLink RX11 162 yX11_yesOf, Cond.instanceMethod yX11_yesOf]
def wsX11_yes_r2 : List Cond := [Cond.selects RX11 yX11_yesOf yX11_yesOf, Cond.code yX11_yesOf cX11_yesOf 5 none, Cond.fieldLink RX11 42 "ChooseOnceModel" "pays" "[I", Cond.methodLink RX11 158 yX11_choose, Cond.static yX11_choose, Cond.code yX11_choose cX11_choose 5 (some .long), Cond.methodLink RX11 93 yX11_times, Cond.instanceMethod yX11_times, Cond.selects RX11 yX11_times yX11_times, Cond.code yX11_times cX11_times 5 none, Cond.methodLink RX11 87 yX11_more, Cond.instanceMethod yX11_more, Cond.selects RX11 yX11_more yX11_more, Cond.code yX11_more cX11_more 6 none, Cond.methodLink RX11 106 yX11_compared, Cond.instanceMethod yX11_compared, Cond.selects RX11 yX11_compared yX11_compared, Cond.code yX11_compared cX11_compared 8 (some .int)]
def wsX11_yes : List Cond := .code yX11_yes cX11_yes 4 (some .int) :: ((wsX11_yes_r1 ++ wsX11_yes_r2) ++ wsX110)
def wsX11_happen : List Cond := .code yX11_happen cX11_happen 3 (some .int) :: ([.fieldLink RX11 169 "ChooseOnceModel" "happenings" "I", .fieldLink RX11 45 "ChooseOnceModel" "happenA" "[I", .fieldLink RX11 48 "ChooseOnceModel" "happenB" "[I"] ++ wsX110)
def wsX11_forget : List Cond := .code yX11_forget cX11_forget 2 (some .int) :: ([.fieldLink RX11 169 "ChooseOnceModel" "happenings" "I"] ++ wsX110)
def wsX11_last_r1 : List Cond := [Cond.fieldLink RX11 169 "ChooseOnceModel" "happenings" "I", Cond.fieldLink RX11 48 "ChooseOnceModel" "happenB" "[I", Cond.fieldLink RX11 45 "ChooseOnceModel" "happenA" "[I", Cond.methodLink RX11 60 yX11_set, Cond.instanceMethod yX11_set, Cond.selects RX11 yX11_set yX11_set, Cond.initialized RX11, Cond.code yX11_set cX11_set 5 none, Cond.fieldLink RX11 10 "ChooseOnceModel" "n" "[J", Cond.methodLink RX11 75 yX11_carry, Cond.instanceMethod yX11_carry, Cond.selects RX11 yX11_carry yX11_carry, Cond.code yX11_carry cX11_carry 5 none, Cond.constantLong RX11 64 (1000000000), Cond.methodLink RX11 66 yJ9_floorMod_f86c9, Cond.static yJ9_floorMod_f86c9, Cond.initialized RJ9, Cond.code yJ9_floorMod_f86c9 cJ9_floorMod_f86c9 6 (some .long), Cond.methodLink RX11 72 yJ9_floorDiv_f86c9, Cond.static yJ9_floorDiv_f86c9, Cond.code yJ9_floorDiv_f86c9 cJ9_floorDiv_f86c9 6 (some .long), Cond.methodLink RX11 93 yX11_times, Cond.instanceMethod yX11_times, Cond.selects RX11 yX11_times yX11_times]
def wsX11_last_r2 : List Cond := [Cond.code yX11_times cX11_times 5 none, Cond.methodLink RX11 87 yX11_more, Cond.instanceMethod yX11_more, Cond.selects RX11 yX11_more yX11_more, Cond.code yX11_more cX11_more 6 none, Cond.methodLink RX11 83 yX11_copy, Cond.instanceMethod yX11_copy, Cond.selects RX11 yX11_copy yX11_copy, Cond.code yX11_copy cX11_copy 4 none, Cond.methodLink RX11 106 yX11_compared, Cond.instanceMethod yX11_compared, Cond.selects RX11 yX11_compared yX11_compared, Cond.code yX11_compared cX11_compared 8 (some .int), Cond.methodLink RX11 137 yX11_result, Cond.instanceMethod yX11_result, Cond.selects RX11 yX11_result yX11_result, Cond.code yX11_result cX11_result 6 none, Cond.constantLong RX11 91 (-1), Cond.constantLong RX11 79 (2), Cond.methodLink RX11 96 yX11_isZero, Cond.instanceMethod yX11_isZero, Cond.selects RX11 yX11_isZero yX11_isZero, Cond.code yX11_isZero cX11_isZero 3 (some .boolean), Cond.methodLink RX11 100 yX11_isEven]
def wsX11_last_r3 : List Cond := [Cond.instanceMethod yX11_isEven, Cond.selects RX11 yX11_isEven yX11_isEven, Cond.code yX11_isEven cX11_isEven 2 (some .boolean), Cond.methodLink RX11 103 yX11_over, Cond.instanceMethod yX11_over, Cond.selects RX11 yX11_over yX11_over, Cond.code yX11_over cX11_over 9 none, Cond.methodLink RX11 110 yX11_parted, Cond.instanceMethod yX11_parted, Cond.selects RX11 yX11_parted yX11_parted, Cond.code yX11_parted cX11_parted 10 none, Cond.constantLong RX11 81 (999999999)]
def wsX11_last : List Cond := .code yX11_last cX11_last 6 (some .int) :: ((wsX11_last_r1 ++ (wsX11_last_r2 ++ wsX11_last_r3)) ++ wsX110)
def wsX11_box : List Cond := .code yX11_box cX11_box 3 (some .int) :: ([.fieldLink RX11 172 "ChooseOnceModel" "boxes" "I", .fieldLink RX11 51 "ChooseOnceModel" "box" "[I", .fieldLink RX11 54 "ChooseOnceModel" "price" "[I", .methodLink RX11 124 yX11_isBook, .instanceMethod yX11_isBook, .selects RX11 yX11_isBook yX11_isBook, .initialized RX11, .code yX11_isBook cX11_isBook 2 (some .boolean), .fieldLink RX11 116 "ChooseOnceModel" "books" "I"] ++ wsX110)
def wsX11_empty : List Cond := .code yX11_empty cX11_empty 2 (some .int) :: ([.fieldLink RX11 172 "ChooseOnceModel" "boxes" "I"] ++ wsX110)
def wsX11_fair_r1 : List Cond := [Cond.fieldLink RX11 172 "ChooseOnceModel" "boxes" "I", Cond.fieldLink RX11 51 "ChooseOnceModel" "box" "[I", Cond.fieldLink RX11 54 "ChooseOnceModel" "price" "[I", Cond.fieldLink RX11 33 "ChooseOnceModel" "sum" "[I", Cond.methodLink RX11 130 yX11_weightOf, Cond.instanceMethod yX11_weightOf, Cond.selects RX11 yX11_weightOf yX11_weightOf, Cond.initialized RX11, Cond.code yX11_weightOf cX11_weightOf 6 (some .int), Cond.fieldLink RX11 24 "ChooseOnceModel" "pairs" "[I", Cond.fieldLink RX11 27 "ChooseOnceModel" "worth" "[I", Cond.fieldLink RX11 30 "ChooseOnceModel" "weight" "[I", Cond.methodLink RX11 60 yX11_set, Cond.instanceMethod yX11_set, Cond.selects RX11 yX11_set yX11_set, Cond.code yX11_set cX11_set 5 none, Cond.fieldLink RX11 10 "ChooseOnceModel" "n" "[J", Cond.methodLink RX11 75 yX11_carry, Cond.instanceMethod yX11_carry, Cond.selects RX11 yX11_carry yX11_carry, Cond.code yX11_carry cX11_carry 5 none, Cond.constantLong RX11 64 (1000000000), Cond.methodLink RX11 66 yJ9_floorMod_f86c9, Cond.static yJ9_floorMod_f86c9]
def wsX11_fair_r2 : List Cond := [Cond.initialized RJ9, Cond.code yJ9_floorMod_f86c9 cJ9_floorMod_f86c9 6 (some .long), Cond.methodLink RX11 72 yJ9_floorDiv_f86c9, Cond.static yJ9_floorDiv_f86c9, Cond.code yJ9_floorDiv_f86c9 cJ9_floorDiv_f86c9 6 (some .long), Cond.methodLink RX11 137 yX11_result, Cond.instanceMethod yX11_result, Cond.selects RX11 yX11_result yX11_result, Cond.code yX11_result cX11_result 6 none, Cond.constantLong RX11 91 (-1), Cond.constantLong RX11 79 (2), Cond.methodLink RX11 83 yX11_copy, Cond.instanceMethod yX11_copy, Cond.selects RX11 yX11_copy yX11_copy, Cond.code yX11_copy cX11_copy 4 none, Cond.methodLink RX11 93 yX11_times, Cond.instanceMethod yX11_times, Cond.selects RX11 yX11_times yX11_times, Cond.code yX11_times cX11_times 5 none, Cond.methodLink RX11 96 yX11_isZero, Cond.instanceMethod yX11_isZero, Cond.selects RX11 yX11_isZero yX11_isZero, Cond.code yX11_isZero cX11_isZero 3 (some .boolean), Cond.methodLink RX11 100 yX11_isEven]
def wsX11_fair_r3 : List Cond := [Cond.instanceMethod yX11_isEven, Cond.selects RX11 yX11_isEven yX11_isEven, Cond.code yX11_isEven cX11_isEven 2 (some .boolean), Cond.methodLink RX11 103 yX11_over, Cond.instanceMethod yX11_over, Cond.selects RX11 yX11_over yX11_over, Cond.code yX11_over cX11_over 9 none, Cond.methodLink RX11 106 yX11_compared, Cond.instanceMethod yX11_compared, Cond.selects RX11 yX11_compared yX11_compared, Cond.code yX11_compared cX11_compared 8 (some .int), Cond.methodLink RX11 87 yX11_more, Cond.instanceMethod yX11_more, Cond.selects RX11 yX11_more yX11_more, Cond.code yX11_more cX11_more 6 none, Cond.methodLink RX11 110 yX11_parted, Cond.instanceMethod yX11_parted, Cond.selects RX11 yX11_parted yX11_parted, Cond.code yX11_parted cX11_parted 10 none, Cond.constantLong RX11 81 (999999999)]
def wsX11_fair : List Cond := .code yX11_fair cX11_fair 11 (some .boolean) :: ((wsX11_fair_r1 ++ (wsX11_fair_r2 ++ wsX11_fair_r3)) ++ wsX110)
def wsX11_placeOf : List Cond := .code yX11_placeOf cX11_placeOf 3 (some .int) :: ([.fieldLink RX11 57 "ChooseOnceModel" "had" "[I"] ++ wsX110)
def wsX11_search_r1 : List Cond := [Cond.fieldLink RX11 175 "ChooseOnceModel" "hads" "I", Cond.fieldLink RX11 172 "ChooseOnceModel" "boxes" "I", Cond.fieldLink RX11 51 "ChooseOnceModel" "box" "[I", Cond.fieldLink RX11 24 "ChooseOnceModel" "pairs" "[I", Cond.fieldLink RX11 27 "ChooseOnceModel" "worth" "[I", Cond.fieldLink RX11 57 "ChooseOnceModel" "had" "[I", Cond.fieldLink RX11 33 "ChooseOnceModel" "sum" "[I", Cond.fieldLink RX11 54 "ChooseOnceModel" "price" "[I", Cond.methodLink RX11 143 Lib.Math.max.name, Cond.static Lib.Math.max.name, Cond.initialized "java/lang/Math", Cond.code Lib.Math.max.name Lib.Math.max.code 2 (some .int), Cond.fieldLink RX11 30 "ChooseOnceModel" "weight" "[I", Cond.methodLink RX11 60 yX11_set, Cond.instanceMethod yX11_set, Cond.selects RX11 yX11_set yX11_set, Cond.initialized RX11, Cond.code yX11_set cX11_set 5 none, Cond.fieldLink RX11 10 "ChooseOnceModel" "n" "[J", Cond.methodLink RX11 75 yX11_carry, Cond.instanceMethod yX11_carry, Cond.selects RX11 yX11_carry yX11_carry, Cond.code yX11_carry cX11_carry 5 none, Cond.constantLong RX11 64 (1000000000)]
def wsX11_search_r2 : List Cond := [Cond.methodLink RX11 66 yJ9_floorMod_f86c9, Cond.static yJ9_floorMod_f86c9, Cond.initialized RJ9, Cond.code yJ9_floorMod_f86c9 cJ9_floorMod_f86c9 6 (some .long), Cond.methodLink RX11 72 yJ9_floorDiv_f86c9, Cond.static yJ9_floorDiv_f86c9, Cond.code yJ9_floorDiv_f86c9 cJ9_floorDiv_f86c9 6 (some .long), Cond.methodLink RX11 93 yX11_times, Cond.instanceMethod yX11_times, Cond.selects RX11 yX11_times yX11_times, Cond.code yX11_times cX11_times 5 none, Cond.methodLink RX11 87 yX11_more, Cond.instanceMethod yX11_more, Cond.selects RX11 yX11_more yX11_more, Cond.code yX11_more cX11_more 6 none, Cond.methodLink RX11 178 yX11_placeOf, Cond.instanceMethod yX11_placeOf, Cond.selects RX11 yX11_placeOf yX11_placeOf, Cond.code yX11_placeOf cX11_placeOf 3 (some .int), Cond.methodLink RX11 106 yX11_compared, Cond.instanceMethod yX11_compared, Cond.selects RX11 yX11_compared yX11_compared, Cond.code yX11_compared cX11_compared 8 (some .int), Cond.methodLink RX11 83 yX11_copy]
def wsX11_search_r3 : List Cond := [Cond.instanceMethod yX11_copy, Cond.selects RX11 yX11_copy yX11_copy, Cond.code yX11_copy cX11_copy 4 none, Cond.methodLink RX11 137 yX11_result, Cond.instanceMethod yX11_result, Cond.selects RX11 yX11_result yX11_result, Cond.code yX11_result cX11_result 6 none, Cond.constantLong RX11 91 (-1), Cond.constantLong RX11 79 (2), Cond.methodLink RX11 96 yX11_isZero, Cond.instanceMethod yX11_isZero, Cond.selects RX11 yX11_isZero yX11_isZero, Cond.code yX11_isZero cX11_isZero 3 (some .boolean), Cond.methodLink RX11 100 yX11_isEven, Cond.instanceMethod yX11_isEven, Cond.selects RX11 yX11_isEven yX11_isEven, Cond.code yX11_isEven cX11_isEven 2 (some .boolean), Cond.methodLink RX11 103 yX11_over, Cond.instanceMethod yX11_over, Cond.selects RX11 yX11_over yX11_over, Cond.code yX11_over cX11_over 9 none, Cond.methodLink RX11 110 yX11_parted, Cond.instanceMethod yX11_parted, Cond.selects RX11 yX11_parted yX11_parted]
def wsX11_search_r4 : List Cond := [Cond.code yX11_parted cX11_parted 10 none, Cond.constantLong RX11 81 (999999999)]
def wsX11_search : List Cond := .code yX11_search cX11_search 8 none :: ((wsX11_search_r1 ++ (wsX11_search_r2 ++ (wsX11_search_r3 ++ wsX11_search_r4))) ++ wsX110)
def wsX11_sign : List Cond := .code yX11_sign cX11_sign 1 (some .int) :: ([.fieldLink RX11 10 "ChooseOnceModel" "n" "[J", .methodLink RX11 96 yX11_isZero, .instanceMethod yX11_isZero, .selects RX11 yX11_isZero yX11_isZero, .initialized RX11, .code yX11_isZero cX11_isZero 3 (some .boolean)] ++ wsX110)
def wsX11_manyParts : List Cond := .code yX11_manyParts cX11_manyParts 3 (some .int) :: ([.fieldLink RX11 10 "ChooseOnceModel" "n" "[J"] ++ wsX110)
def wsX11_bare_r1 : List Cond := [Cond.constantLong RX11 91 (-1), Cond.methodLink RX11 83 yX11_copy, Cond.instanceMethod yX11_copy, Cond.selects RX11 yX11_copy yX11_copy, Cond.initialized RX11, Cond.code yX11_copy cX11_copy 4 none, Cond.fieldLink RX11 10 "ChooseOnceModel" "n" "[J", Cond.methodLink RX11 182 yX11_sign, Cond.instanceMethod yX11_sign, Cond.selects RX11 yX11_sign yX11_sign, Cond.code yX11_sign cX11_sign 1 (some .int), Cond.methodLink RX11 96 yX11_isZero, Cond.instanceMethod yX11_isZero, Cond.selects RX11 yX11_isZero yX11_isZero, Cond.code yX11_isZero cX11_isZero 3 (some .boolean), Cond.methodLink RX11 93 yX11_times, Cond.instanceMethod yX11_times, Cond.selects RX11 yX11_times yX11_times, Cond.code yX11_times cX11_times 5 none, Cond.methodLink RX11 75 yX11_carry, Cond.instanceMethod yX11_carry, Cond.selects RX11 yX11_carry yX11_carry, Cond.code yX11_carry cX11_carry 5 none, Cond.constantLong RX11 64 (1000000000)]
def wsX11_bare_r2 : List Cond := [Cond.methodLink RX11 66 yJ9_floorMod_f86c9, Cond.static yJ9_floorMod_f86c9, Cond.initialized RJ9, Cond.code yJ9_floorMod_f86c9 cJ9_floorMod_f86c9 6 (some .long), Cond.methodLink RX11 72 yJ9_floorDiv_f86c9, Cond.static yJ9_floorDiv_f86c9, Cond.code yJ9_floorDiv_f86c9 cJ9_floorDiv_f86c9 6 (some .long)]
def wsX11_bare : List Cond := .code yX11_bare cX11_bare 1 none :: ((wsX11_bare_r1 ++ wsX11_bare_r2) ++ wsX110)
def wsX11_look_r1 : List Cond := [Cond.methodLink RX11 186 yX11_bare, Cond.instanceMethod yX11_bare, Cond.selects RX11 yX11_bare yX11_bare, Cond.initialized RX11, Cond.code yX11_bare cX11_bare 1 none, Cond.constantLong RX11 91 (-1), Cond.methodLink RX11 83 yX11_copy, Cond.instanceMethod yX11_copy, Cond.selects RX11 yX11_copy yX11_copy, Cond.code yX11_copy cX11_copy 4 none, Cond.fieldLink RX11 10 "ChooseOnceModel" "n" "[J", Cond.methodLink RX11 182 yX11_sign, Cond.instanceMethod yX11_sign, Cond.selects RX11 yX11_sign yX11_sign, Cond.code yX11_sign cX11_sign 1 (some .int), Cond.methodLink RX11 96 yX11_isZero, Cond.instanceMethod yX11_isZero, Cond.selects RX11 yX11_isZero yX11_isZero, Cond.code yX11_isZero cX11_isZero 3 (some .boolean), Cond.methodLink RX11 93 yX11_times, Cond.instanceMethod yX11_times, Cond.selects RX11 yX11_times yX11_times, Cond.code yX11_times cX11_times 5 none, Cond.methodLink RX11 75 yX11_carry]
def wsX11_look_r2 : List Cond := [Cond.instanceMethod yX11_carry, Cond.selects RX11 yX11_carry yX11_carry, Cond.code yX11_carry cX11_carry 5 none, Cond.constantLong RX11 64 (1000000000), Cond.methodLink RX11 66 yJ9_floorMod_f86c9, Cond.static yJ9_floorMod_f86c9, Cond.initialized RJ9, Cond.code yJ9_floorMod_f86c9 cJ9_floorMod_f86c9 6 (some .long), Cond.methodLink RX11 72 yJ9_floorDiv_f86c9, Cond.static yJ9_floorDiv_f86c9, Cond.code yJ9_floorDiv_f86c9 cJ9_floorDiv_f86c9 6 (some .long), Cond.methodLink RX11 189 yX11_manyParts, Cond.instanceMethod yX11_manyParts, Cond.selects RX11 yX11_manyParts yX11_manyParts, Cond.code yX11_manyParts cX11_manyParts 3 (some .int)]
def wsX11_look : List Cond := .code yX11_look cX11_look 2 (some .int) :: ((wsX11_look_r1 ++ wsX11_look_r2) ++ wsX110)
def wsX11_part_r1 : List Cond := [Cond.fieldLink RX11 10 "ChooseOnceModel" "n" "[J", Cond.methodLink RX11 186 yX11_bare, Cond.instanceMethod yX11_bare, Cond.selects RX11 yX11_bare yX11_bare, Cond.initialized RX11, Cond.code yX11_bare cX11_bare 1 none, Cond.constantLong RX11 91 (-1), Cond.methodLink RX11 83 yX11_copy, Cond.instanceMethod yX11_copy, Cond.selects RX11 yX11_copy yX11_copy, Cond.code yX11_copy cX11_copy 4 none, Cond.methodLink RX11 182 yX11_sign, Cond.instanceMethod yX11_sign, Cond.selects RX11 yX11_sign yX11_sign, Cond.code yX11_sign cX11_sign 1 (some .int), Cond.methodLink RX11 96 yX11_isZero, Cond.instanceMethod yX11_isZero, Cond.selects RX11 yX11_isZero yX11_isZero, Cond.code yX11_isZero cX11_isZero 3 (some .boolean), Cond.methodLink RX11 93 yX11_times, Cond.instanceMethod yX11_times, Cond.selects RX11 yX11_times yX11_times, Cond.code yX11_times cX11_times 5 none, Cond.methodLink RX11 75 yX11_carry]
def wsX11_part_r2 : List Cond := [Cond.instanceMethod yX11_carry, Cond.selects RX11 yX11_carry yX11_carry, Cond.code yX11_carry cX11_carry 5 none, Cond.constantLong RX11 64 (1000000000), Cond.methodLink RX11 66 yJ9_floorMod_f86c9, Cond.static yJ9_floorMod_f86c9, Cond.initialized RJ9, Cond.code yJ9_floorMod_f86c9 cJ9_floorMod_f86c9 6 (some .long), Cond.methodLink RX11 72 yJ9_floorDiv_f86c9, Cond.static yJ9_floorDiv_f86c9, Cond.code yJ9_floorDiv_f86c9 cJ9_floorDiv_f86c9 6 (some .long)]
def wsX11_part : List Cond := .code yX11_part cX11_part 3 (some .int) :: ((wsX11_part_r1 ++ wsX11_part_r2) ++ wsX110)
def wsX11_compare_r1 : List Cond := [Cond.methodLink RX11 83 yX11_copy, Cond.instanceMethod yX11_copy, Cond.selects RX11 yX11_copy yX11_copy, Cond.initialized RX11, Cond.code yX11_copy cX11_copy 4 none, Cond.fieldLink RX11 10 "ChooseOnceModel" "n" "[J", Cond.methodLink RX11 93 yX11_times, Cond.instanceMethod yX11_times, Cond.selects RX11 yX11_times yX11_times, Cond.code yX11_times cX11_times 5 none, Cond.methodLink RX11 75 yX11_carry, Cond.instanceMethod yX11_carry, Cond.selects RX11 yX11_carry yX11_carry, Cond.code yX11_carry cX11_carry 5 none, Cond.constantLong RX11 64 (1000000000), Cond.methodLink RX11 66 yJ9_floorMod_f86c9, Cond.static yJ9_floorMod_f86c9, Cond.initialized RJ9, Cond.code yJ9_floorMod_f86c9 cJ9_floorMod_f86c9 6 (some .long), Cond.methodLink RX11 72 yJ9_floorDiv_f86c9, Cond.static yJ9_floorDiv_f86c9, Cond.code yJ9_floorDiv_f86c9 cJ9_floorDiv_f86c9 6 (some .long), Cond.methodLink RX11 106 yX11_compared, Cond.instanceMethod yX11_compared]
def wsX11_compare_r2 : List Cond := [Cond.selects RX11 yX11_compared yX11_compared, Cond.code yX11_compared cX11_compared 8 (some .int)]
def wsX11_compare : List Cond := .code yX11_compare cX11_compare 3 (some .int) :: ((wsX11_compare_r1 ++ wsX11_compare_r2) ++ wsX110)
def wsX11_count : List Cond := .code yX11_count cX11_count 4 (some .int) :: ([.fieldLink RX11 116 "ChooseOnceModel" "books" "I", .fieldLink RX11 127 "ChooseOnceModel" "comers" "I", .fieldLink RX11 169 "ChooseOnceModel" "happenings" "I", .fieldLink RX11 172 "ChooseOnceModel" "boxes" "I", .fieldLink RX11 14 "ChooseOnceModel" "ends" "[I"] ++ wsX110)
def wsJ9_abs_067f4 : List Cond := .code yJ9_abs_067f4 cJ9_abs_067f4 2 (some .long) :: ([])
def wsJ9_max_7cf53 : List Cond := .code yJ9_max_7cf53 cJ9_max_7cf53 2 (some .int) :: ([])
def wsJ9_max_f86c9 : List Cond := .code yJ9_max_f86c9 cJ9_max_f86c9 4 (some .long) :: ([])
def wsJ9_min_7cf53 : List Cond := .code yJ9_min_7cf53 cJ9_min_7cf53 2 (some .int) :: ([])
end
section
theorem dX0_init_0 : decode cX0_init 0 = .ok (.aload_n 0, 1) := by decide +kernel
theorem dX0_init_1 : decode cX0_init 1 = .ok (.invokespecial 3, 3) := by decide +kernel
theorem dX0_init_4 : decode cX0_init 4 = .ok (.aload_n 0, 1) := by decide +kernel
theorem dX0_init_5 : decode cX0_init 5 = .ok (.bipush 8, 2) := by decide +kernel
theorem dX0_init_7 : decode cX0_init 7 = .ok (.newarray .int, 2) := by decide +kernel
theorem dX0_init_9 : decode cX0_init 9 = .ok (.putfield 9, 3) := by decide +kernel
theorem dX0_init_12 : decode cX0_init 12 = .ok (.aload_n 0, 1) := by decide +kernel
theorem dX0_init_13 : decode cX0_init 13 = .ok (.bipush 8, 2) := by decide +kernel
theorem dX0_init_15 : decode cX0_init 15 = .ok (.newarray .int, 2) := by decide +kernel
theorem dX0_init_17 : decode cX0_init 17 = .ok (.putfield 15, 3) := by decide +kernel
theorem dX0_init_20 : decode cX0_init 20 = .ok (.aload_n 0, 1) := by decide +kernel
theorem dX0_init_21 : decode cX0_init 21 = .ok (.iconst 0, 1) := by decide +kernel
theorem dX0_init_22 : decode cX0_init 22 = .ok (.putfield 18, 3) := by decide +kernel
theorem dX0_init_25 : decode cX0_init 25 = .ok (.aload_n 0, 1) := by decide +kernel
theorem dX0_init_26 : decode cX0_init 26 = .ok (.iconst 0, 1) := by decide +kernel
theorem dX0_init_27 : decode cX0_init 27 = .ok (.putfield 22, 3) := by decide +kernel
theorem dX0_init_30 : decode cX0_init 30 = .ok (.return_, 1) := by decide +kernel
set_option maxRecDepth 20000 in
theorem ggX0_readFrom_X9_read : GoodIn wsX0_readFrom wsX9_read := goodIn_r _ [7, 8, 9, 10, 11, 12, 24, 25, 26] (by decide +kernel) (by decide +kernel)
set_option maxRecDepth 20000 in
theorem gX0_readFrom_X9_read : GoodIn wsX0_readFrom (wsV RX0 25 RX9 yX9_read wsX9_read) := goodIn_app (goodIn_of _ (by decide +kernel)) ggX0_readFrom_X9_read
set_option maxRecDepth 20000 in
theorem ggX0_readFrom_X0_addPair : GoodIn wsX0_readFrom wsX0_addPair := goodIn_r _ [17, 1, 2, 18, 19, 20, 21, 22, 23] (by decide +kernel) (by decide +kernel)
set_option maxRecDepth 20000 in
theorem gX0_readFrom_X0_addPair : GoodIn wsX0_readFrom (wsV RX0 31 RX0 yX0_addPair wsX0_addPair) := goodIn_app (goodIn_of _ (by decide +kernel)) ggX0_readFrom_X0_addPair
theorem dX0_readFrom_0 : decode cX0_readFrom 0 = .ok (.aload_n 0, 1) := by decide +kernel
theorem dX0_readFrom_1 : decode cX0_readFrom 1 = .ok (.iconst 0, 1) := by decide +kernel
theorem dX0_readFrom_2 : decode cX0_readFrom 2 = .ok (.putfield 18, 3) := by decide +kernel
theorem dX0_readFrom_5 : decode cX0_readFrom 5 = .ok (.aload_n 0, 1) := by decide +kernel
theorem dX0_readFrom_6 : decode cX0_readFrom 6 = .ok (.iconst 0, 1) := by decide +kernel
theorem dX0_readFrom_7 : decode cX0_readFrom 7 = .ok (.putfield 22, 3) := by decide +kernel
theorem dX0_readFrom_10 : decode cX0_readFrom 10 = .ok (.aload_n 1, 1) := by decide +kernel
theorem dX0_readFrom_11 : decode cX0_readFrom 11 = .ok (.iconst 0, 1) := by decide +kernel
theorem dX0_readFrom_12 : decode cX0_readFrom 12 = .ok (.iconst 1, 1) := by decide +kernel
theorem dX0_readFrom_13 : decode cX0_readFrom 13 = .ok (.bipush 8, 2) := by decide +kernel
theorem dX0_readFrom_15 : decode cX0_readFrom 15 = .ok (.invokevirtual 25, 3) := by decide +kernel
theorem dX0_readFrom_18 : decode cX0_readFrom 18 = .ok (.istore_n 2, 1) := by decide +kernel
theorem dX0_readFrom_19 : decode cX0_readFrom 19 = .ok (.iload_n 2, 1) := by decide +kernel
theorem dX0_readFrom_20 : decode cX0_readFrom 20 = .ok (.ifCond .ge 5, 3) := by decide +kernel
theorem dX0_readFrom_23 : decode cX0_readFrom 23 = .ok (.iload_n 2, 1) := by decide +kernel
theorem dX0_readFrom_24 : decode cX0_readFrom 24 = .ok (.ireturn, 1) := by decide +kernel
theorem dX0_readFrom_25 : decode cX0_readFrom 25 = .ok (.iconst 0, 1) := by decide +kernel
theorem dX0_readFrom_26 : decode cX0_readFrom 26 = .ok (.istore_n 3, 1) := by decide +kernel
theorem dX0_readFrom_27 : decode cX0_readFrom 27 = .ok (.iload_n 3, 1) := by decide +kernel
theorem dX0_readFrom_28 : decode cX0_readFrom 28 = .ok (.iload_n 2, 1) := by decide +kernel
theorem dX0_readFrom_29 : decode cX0_readFrom 29 = .ok (.if_icmp .ge 63, 3) := by decide +kernel
theorem dX0_readFrom_32 : decode cX0_readFrom 32 = .ok (.aload_n 1, 1) := by decide +kernel
theorem dX0_readFrom_33 : decode cX0_readFrom 33 = .ok (.iconst 2, 1) := by decide +kernel
theorem dX0_readFrom_34 : decode cX0_readFrom 34 = .ok (.iload_n 3, 1) := by decide +kernel
theorem dX0_readFrom_35 : decode cX0_readFrom 35 = .ok (.imul, 1) := by decide +kernel
theorem dX0_readFrom_36 : decode cX0_readFrom 36 = .ok (.iconst 1, 1) := by decide +kernel
theorem dX0_readFrom_37 : decode cX0_readFrom 37 = .ok (.iadd, 1) := by decide +kernel
theorem dX0_readFrom_38 : decode cX0_readFrom 38 = .ok (.iconst 0, 1) := by decide +kernel
theorem dX0_readFrom_39 : decode cX0_readFrom 39 = .ok (.sipush 1000, 3) := by decide +kernel
theorem dX0_readFrom_42 : decode cX0_readFrom 42 = .ok (.invokevirtual 25, 3) := by decide +kernel
theorem dX0_readFrom_45 : decode cX0_readFrom 45 = .ok (.istore 4, 2) := by decide +kernel
theorem dX0_readFrom_47 : decode cX0_readFrom 47 = .ok (.iload 4, 2) := by decide +kernel
theorem dX0_readFrom_49 : decode cX0_readFrom 49 = .ok (.ifCond .ge 6, 3) := by decide +kernel
theorem dX0_readFrom_52 : decode cX0_readFrom 52 = .ok (.iload 4, 2) := by decide +kernel
theorem dX0_readFrom_54 : decode cX0_readFrom 54 = .ok (.ireturn, 1) := by decide +kernel
theorem dX0_readFrom_55 : decode cX0_readFrom 55 = .ok (.aload_n 1, 1) := by decide +kernel
theorem dX0_readFrom_56 : decode cX0_readFrom 56 = .ok (.iconst 2, 1) := by decide +kernel
theorem dX0_readFrom_57 : decode cX0_readFrom 57 = .ok (.iload_n 3, 1) := by decide +kernel
theorem dX0_readFrom_58 : decode cX0_readFrom 58 = .ok (.imul, 1) := by decide +kernel
theorem dX0_readFrom_59 : decode cX0_readFrom 59 = .ok (.iconst 2, 1) := by decide +kernel
theorem dX0_readFrom_60 : decode cX0_readFrom 60 = .ok (.iadd, 1) := by decide +kernel
theorem dX0_readFrom_61 : decode cX0_readFrom 61 = .ok (.iconst 0, 1) := by decide +kernel
theorem dX0_readFrom_62 : decode cX0_readFrom 62 = .ok (.sipush 1000, 3) := by decide +kernel
theorem dX0_readFrom_65 : decode cX0_readFrom 65 = .ok (.invokevirtual 25, 3) := by decide +kernel
theorem dX0_readFrom_68 : decode cX0_readFrom 68 = .ok (.istore 5, 2) := by decide +kernel
theorem dX0_readFrom_70 : decode cX0_readFrom 70 = .ok (.iload 5, 2) := by decide +kernel
theorem dX0_readFrom_72 : decode cX0_readFrom 72 = .ok (.ifCond .ge 6, 3) := by decide +kernel
theorem dX0_readFrom_75 : decode cX0_readFrom 75 = .ok (.iload 5, 2) := by decide +kernel
theorem dX0_readFrom_77 : decode cX0_readFrom 77 = .ok (.ireturn, 1) := by decide +kernel
theorem dX0_readFrom_78 : decode cX0_readFrom 78 = .ok (.aload_n 0, 1) := by decide +kernel
theorem dX0_readFrom_79 : decode cX0_readFrom 79 = .ok (.iload 4, 2) := by decide +kernel
theorem dX0_readFrom_81 : decode cX0_readFrom 81 = .ok (.iload 5, 2) := by decide +kernel
theorem dX0_readFrom_83 : decode cX0_readFrom 83 = .ok (.invokevirtual 31, 3) := by decide +kernel
theorem dX0_readFrom_86 : decode cX0_readFrom 86 = .ok (.iinc 3 1, 3) := by decide +kernel
theorem dX0_readFrom_89 : decode cX0_readFrom 89 = .ok (.goto (-62), 3) := by decide +kernel
theorem dX0_readFrom_92 : decode cX0_readFrom 92 = .ok (.aload_n 0, 1) := by decide +kernel
theorem dX0_readFrom_93 : decode cX0_readFrom 93 = .ok (.getfield 22, 3) := by decide +kernel
theorem dX0_readFrom_96 : decode cX0_readFrom 96 = .ok (.ifCond .ne 8, 3) := by decide +kernel
theorem dX0_readFrom_99 : decode cX0_readFrom 99 = .ok (.bipush (-4), 2) := by decide +kernel
theorem dX0_readFrom_101 : decode cX0_readFrom 101 = .ok (.goto 4, 3) := by decide +kernel
theorem dX0_readFrom_104 : decode cX0_readFrom 104 = .ok (.iconst 0, 1) := by decide +kernel
theorem dX0_readFrom_105 : decode cX0_readFrom 105 = .ok (.ireturn, 1) := by decide +kernel
theorem dX0_addPair_0 : decode cX0_addPair 0 = .ok (.iload_n 2, 1) := by decide +kernel
theorem dX0_addPair_1 : decode cX0_addPair 1 = .ok (.ifCond .eq 12, 3) := by decide +kernel
theorem dX0_addPair_4 : decode cX0_addPair 4 = .ok (.aload_n 0, 1) := by decide +kernel
theorem dX0_addPair_5 : decode cX0_addPair 5 = .ok (.getfield 18, 3) := by decide +kernel
theorem dX0_addPair_8 : decode cX0_addPair 8 = .ok (.bipush 8, 2) := by decide +kernel
theorem dX0_addPair_10 : decode cX0_addPair 10 = .ok (.if_icmp .lt 4, 3) := by decide +kernel
theorem dX0_addPair_13 : decode cX0_addPair 13 = .ok (.return_, 1) := by decide +kernel
theorem dX0_addPair_14 : decode cX0_addPair 14 = .ok (.aload_n 0, 1) := by decide +kernel
theorem dX0_addPair_15 : decode cX0_addPair 15 = .ok (.dup, 1) := by decide +kernel
theorem dX0_addPair_16 : decode cX0_addPair 16 = .ok (.getfield 22, 3) := by decide +kernel
theorem dX0_addPair_19 : decode cX0_addPair 19 = .ok (.iload_n 2, 1) := by decide +kernel
theorem dX0_addPair_20 : decode cX0_addPair 20 = .ok (.iadd, 1) := by decide +kernel
theorem dX0_addPair_21 : decode cX0_addPair 21 = .ok (.putfield 22, 3) := by decide +kernel
theorem dX0_addPair_24 : decode cX0_addPair 24 = .ok (.iconst 0, 1) := by decide +kernel
theorem dX0_addPair_25 : decode cX0_addPair 25 = .ok (.istore_n 3, 1) := by decide +kernel
theorem dX0_addPair_26 : decode cX0_addPair 26 = .ok (.iload_n 3, 1) := by decide +kernel
theorem dX0_addPair_27 : decode cX0_addPair 27 = .ok (.aload_n 0, 1) := by decide +kernel
theorem dX0_addPair_28 : decode cX0_addPair 28 = .ok (.getfield 18, 3) := by decide +kernel
theorem dX0_addPair_31 : decode cX0_addPair 31 = .ok (.if_icmp .ge 19, 3) := by decide +kernel
theorem dX0_addPair_34 : decode cX0_addPair 34 = .ok (.aload_n 0, 1) := by decide +kernel
theorem dX0_addPair_35 : decode cX0_addPair 35 = .ok (.getfield 9, 3) := by decide +kernel
theorem dX0_addPair_38 : decode cX0_addPair 38 = .ok (.iload_n 3, 1) := by decide +kernel
theorem dX0_addPair_39 : decode cX0_addPair 39 = .ok (.iaload, 1) := by decide +kernel
theorem dX0_addPair_40 : decode cX0_addPair 40 = .ok (.iload_n 1, 1) := by decide +kernel
theorem dX0_addPair_41 : decode cX0_addPair 41 = .ok (.if_icmp .ge 9, 3) := by decide +kernel
theorem dX0_addPair_44 : decode cX0_addPair 44 = .ok (.iinc 3 1, 3) := by decide +kernel
theorem dX0_addPair_47 : decode cX0_addPair 47 = .ok (.goto (-21), 3) := by decide +kernel
theorem dX0_addPair_50 : decode cX0_addPair 50 = .ok (.iload_n 3, 1) := by decide +kernel
theorem dX0_addPair_51 : decode cX0_addPair 51 = .ok (.aload_n 0, 1) := by decide +kernel
theorem dX0_addPair_52 : decode cX0_addPair 52 = .ok (.getfield 18, 3) := by decide +kernel
theorem dX0_addPair_55 : decode cX0_addPair 55 = .ok (.if_icmp .ge 24, 3) := by decide +kernel
theorem dX0_addPair_58 : decode cX0_addPair 58 = .ok (.aload_n 0, 1) := by decide +kernel
theorem dX0_addPair_59 : decode cX0_addPair 59 = .ok (.getfield 9, 3) := by decide +kernel
theorem dX0_addPair_62 : decode cX0_addPair 62 = .ok (.iload_n 3, 1) := by decide +kernel
theorem dX0_addPair_63 : decode cX0_addPair 63 = .ok (.iaload, 1) := by decide +kernel
theorem dX0_addPair_64 : decode cX0_addPair 64 = .ok (.iload_n 1, 1) := by decide +kernel
theorem dX0_addPair_65 : decode cX0_addPair 65 = .ok (.if_icmp .ne 14, 3) := by decide +kernel
theorem dX0_addPair_68 : decode cX0_addPair 68 = .ok (.aload_n 0, 1) := by decide +kernel
theorem dX0_addPair_69 : decode cX0_addPair 69 = .ok (.getfield 15, 3) := by decide +kernel
theorem dX0_addPair_72 : decode cX0_addPair 72 = .ok (.iload_n 3, 1) := by decide +kernel
theorem dX0_addPair_73 : decode cX0_addPair 73 = .ok (.dup2, 1) := by decide +kernel
theorem dX0_addPair_74 : decode cX0_addPair 74 = .ok (.iaload, 1) := by decide +kernel
theorem dX0_addPair_75 : decode cX0_addPair 75 = .ok (.iload_n 2, 1) := by decide +kernel
theorem dX0_addPair_76 : decode cX0_addPair 76 = .ok (.iadd, 1) := by decide +kernel
theorem dX0_addPair_77 : decode cX0_addPair 77 = .ok (.iastore, 1) := by decide +kernel
theorem dX0_addPair_78 : decode cX0_addPair 78 = .ok (.return_, 1) := by decide +kernel
theorem dX0_addPair_79 : decode cX0_addPair 79 = .ok (.aload_n 0, 1) := by decide +kernel
theorem dX0_addPair_80 : decode cX0_addPair 80 = .ok (.getfield 18, 3) := by decide +kernel
theorem dX0_addPair_83 : decode cX0_addPair 83 = .ok (.istore 4, 2) := by decide +kernel
theorem dX0_addPair_85 : decode cX0_addPair 85 = .ok (.iload 4, 2) := by decide +kernel
theorem dX0_addPair_87 : decode cX0_addPair 87 = .ok (.iload_n 3, 1) := by decide +kernel
theorem dX0_addPair_88 : decode cX0_addPair 88 = .ok (.if_icmp .le 41, 3) := by decide +kernel
theorem dX0_addPair_91 : decode cX0_addPair 91 = .ok (.aload_n 0, 1) := by decide +kernel
theorem dX0_addPair_92 : decode cX0_addPair 92 = .ok (.getfield 9, 3) := by decide +kernel
theorem dX0_addPair_95 : decode cX0_addPair 95 = .ok (.iload 4, 2) := by decide +kernel
theorem dX0_addPair_97 : decode cX0_addPair 97 = .ok (.aload_n 0, 1) := by decide +kernel
theorem dX0_addPair_98 : decode cX0_addPair 98 = .ok (.getfield 9, 3) := by decide +kernel
theorem dX0_addPair_101 : decode cX0_addPair 101 = .ok (.iload 4, 2) := by decide +kernel
theorem dX0_addPair_103 : decode cX0_addPair 103 = .ok (.iconst 1, 1) := by decide +kernel
theorem dX0_addPair_104 : decode cX0_addPair 104 = .ok (.isub, 1) := by decide +kernel
theorem dX0_addPair_105 : decode cX0_addPair 105 = .ok (.iaload, 1) := by decide +kernel
theorem dX0_addPair_106 : decode cX0_addPair 106 = .ok (.iastore, 1) := by decide +kernel
theorem dX0_addPair_107 : decode cX0_addPair 107 = .ok (.aload_n 0, 1) := by decide +kernel
theorem dX0_addPair_108 : decode cX0_addPair 108 = .ok (.getfield 15, 3) := by decide +kernel
theorem dX0_addPair_111 : decode cX0_addPair 111 = .ok (.iload 4, 2) := by decide +kernel
theorem dX0_addPair_113 : decode cX0_addPair 113 = .ok (.aload_n 0, 1) := by decide +kernel
theorem dX0_addPair_114 : decode cX0_addPair 114 = .ok (.getfield 15, 3) := by decide +kernel
theorem dX0_addPair_117 : decode cX0_addPair 117 = .ok (.iload 4, 2) := by decide +kernel
theorem dX0_addPair_119 : decode cX0_addPair 119 = .ok (.iconst 1, 1) := by decide +kernel
theorem dX0_addPair_120 : decode cX0_addPair 120 = .ok (.isub, 1) := by decide +kernel
theorem dX0_addPair_121 : decode cX0_addPair 121 = .ok (.iaload, 1) := by decide +kernel
theorem dX0_addPair_122 : decode cX0_addPair 122 = .ok (.iastore, 1) := by decide +kernel
theorem dX0_addPair_123 : decode cX0_addPair 123 = .ok (.iinc 4 (-1), 3) := by decide +kernel
theorem dX0_addPair_126 : decode cX0_addPair 126 = .ok (.goto (-41), 3) := by decide +kernel
theorem dX0_addPair_129 : decode cX0_addPair 129 = .ok (.aload_n 0, 1) := by decide +kernel
theorem dX0_addPair_130 : decode cX0_addPair 130 = .ok (.getfield 9, 3) := by decide +kernel
theorem dX0_addPair_133 : decode cX0_addPair 133 = .ok (.iload_n 3, 1) := by decide +kernel
theorem dX0_addPair_134 : decode cX0_addPair 134 = .ok (.iload_n 1, 1) := by decide +kernel
theorem dX0_addPair_135 : decode cX0_addPair 135 = .ok (.iastore, 1) := by decide +kernel
theorem dX0_addPair_136 : decode cX0_addPair 136 = .ok (.aload_n 0, 1) := by decide +kernel
theorem dX0_addPair_137 : decode cX0_addPair 137 = .ok (.getfield 15, 3) := by decide +kernel
theorem dX0_addPair_140 : decode cX0_addPair 140 = .ok (.iload_n 3, 1) := by decide +kernel
theorem dX0_addPair_141 : decode cX0_addPair 141 = .ok (.iload_n 2, 1) := by decide +kernel
theorem dX0_addPair_142 : decode cX0_addPair 142 = .ok (.iastore, 1) := by decide +kernel
theorem dX0_addPair_143 : decode cX0_addPair 143 = .ok (.aload_n 0, 1) := by decide +kernel
theorem dX0_addPair_144 : decode cX0_addPair 144 = .ok (.dup, 1) := by decide +kernel
theorem dX0_addPair_145 : decode cX0_addPair 145 = .ok (.getfield 18, 3) := by decide +kernel
theorem dX0_addPair_148 : decode cX0_addPair 148 = .ok (.iconst 1, 1) := by decide +kernel
theorem dX0_addPair_149 : decode cX0_addPair 149 = .ok (.iadd, 1) := by decide +kernel
theorem dX0_addPair_150 : decode cX0_addPair 150 = .ok (.putfield 18, 3) := by decide +kernel
theorem dX0_addPair_153 : decode cX0_addPair 153 = .ok (.return_, 1) := by decide +kernel
theorem dX0_total_0 : decode cX0_total 0 = .ok (.aload_n 0, 1) := by decide +kernel
theorem dX0_total_1 : decode cX0_total 1 = .ok (.getfield 22, 3) := by decide +kernel
theorem dX0_total_4 : decode cX0_total 4 = .ok (.ireturn, 1) := by decide +kernel
theorem dX0_below_0 : decode cX0_below 0 = .ok (.iconst 0, 1) := by decide +kernel
theorem dX0_below_1 : decode cX0_below 1 = .ok (.istore_n 2, 1) := by decide +kernel
theorem dX0_below_2 : decode cX0_below 2 = .ok (.iconst 0, 1) := by decide +kernel
theorem dX0_below_3 : decode cX0_below 3 = .ok (.istore_n 3, 1) := by decide +kernel
theorem dX0_below_4 : decode cX0_below 4 = .ok (.iload_n 3, 1) := by decide +kernel
theorem dX0_below_5 : decode cX0_below 5 = .ok (.aload_n 0, 1) := by decide +kernel
theorem dX0_below_6 : decode cX0_below 6 = .ok (.getfield 18, 3) := by decide +kernel
theorem dX0_below_9 : decode cX0_below 9 = .ok (.if_icmp .ge 28, 3) := by decide +kernel
theorem dX0_below_12 : decode cX0_below 12 = .ok (.aload_n 0, 1) := by decide +kernel
theorem dX0_below_13 : decode cX0_below 13 = .ok (.getfield 9, 3) := by decide +kernel
theorem dX0_below_16 : decode cX0_below 16 = .ok (.iload_n 3, 1) := by decide +kernel
theorem dX0_below_17 : decode cX0_below 17 = .ok (.iaload, 1) := by decide +kernel
theorem dX0_below_18 : decode cX0_below 18 = .ok (.iload_n 1, 1) := by decide +kernel
theorem dX0_below_19 : decode cX0_below 19 = .ok (.if_icmp .ge 18, 3) := by decide +kernel
theorem dX0_below_22 : decode cX0_below 22 = .ok (.iload_n 2, 1) := by decide +kernel
theorem dX0_below_23 : decode cX0_below 23 = .ok (.aload_n 0, 1) := by decide +kernel
theorem dX0_below_24 : decode cX0_below 24 = .ok (.getfield 15, 3) := by decide +kernel
theorem dX0_below_27 : decode cX0_below 27 = .ok (.iload_n 3, 1) := by decide +kernel
theorem dX0_below_28 : decode cX0_below 28 = .ok (.iaload, 1) := by decide +kernel
theorem dX0_below_29 : decode cX0_below 29 = .ok (.iadd, 1) := by decide +kernel
theorem dX0_below_30 : decode cX0_below 30 = .ok (.istore_n 2, 1) := by decide +kernel
theorem dX0_below_31 : decode cX0_below 31 = .ok (.iinc 3 1, 3) := by decide +kernel
theorem dX0_below_34 : decode cX0_below 34 = .ok (.goto (-30), 3) := by decide +kernel
theorem dX0_below_37 : decode cX0_below 37 = .ok (.iload_n 2, 1) := by decide +kernel
theorem dX0_below_38 : decode cX0_below 38 = .ok (.ireturn, 1) := by decide +kernel
theorem dX0_gathered_0 : decode cX0_gathered 0 = .ok (.iconst 0, 1) := by decide +kernel
theorem dX0_gathered_1 : decode cX0_gathered 1 = .ok (.istore_n 2, 1) := by decide +kernel
theorem dX0_gathered_2 : decode cX0_gathered 2 = .ok (.aload_n 0, 1) := by decide +kernel
theorem dX0_gathered_3 : decode cX0_gathered 3 = .ok (.getfield 18, 3) := by decide +kernel
theorem dX0_gathered_6 : decode cX0_gathered 6 = .ok (.iconst 1, 1) := by decide +kernel
theorem dX0_gathered_7 : decode cX0_gathered 7 = .ok (.isub, 1) := by decide +kernel
theorem dX0_gathered_8 : decode cX0_gathered 8 = .ok (.istore_n 3, 1) := by decide +kernel
theorem dX0_gathered_9 : decode cX0_gathered 9 = .ok (.iload_n 3, 1) := by decide +kernel
theorem dX0_gathered_10 : decode cX0_gathered 10 = .ok (.ifCond .lt 35, 3) := by decide +kernel
theorem dX0_gathered_13 : decode cX0_gathered 13 = .ok (.aload_n 0, 1) := by decide +kernel
theorem dX0_gathered_14 : decode cX0_gathered 14 = .ok (.getfield 9, 3) := by decide +kernel
theorem dX0_gathered_17 : decode cX0_gathered 17 = .ok (.iload_n 3, 1) := by decide +kernel
theorem dX0_gathered_18 : decode cX0_gathered 18 = .ok (.iaload, 1) := by decide +kernel
theorem dX0_gathered_19 : decode cX0_gathered 19 = .ok (.iload_n 1, 1) := by decide +kernel
theorem dX0_gathered_20 : decode cX0_gathered 20 = .ok (.if_icmp .lt 25, 3) := by decide +kernel
theorem dX0_gathered_23 : decode cX0_gathered 23 = .ok (.iload_n 2, 1) := by decide +kernel
theorem dX0_gathered_24 : decode cX0_gathered 24 = .ok (.aload_n 0, 1) := by decide +kernel
theorem dX0_gathered_25 : decode cX0_gathered 25 = .ok (.getfield 9, 3) := by decide +kernel
theorem dX0_gathered_28 : decode cX0_gathered 28 = .ok (.iload_n 3, 1) := by decide +kernel
theorem dX0_gathered_29 : decode cX0_gathered 29 = .ok (.iaload, 1) := by decide +kernel
theorem dX0_gathered_30 : decode cX0_gathered 30 = .ok (.aload_n 0, 1) := by decide +kernel
theorem dX0_gathered_31 : decode cX0_gathered 31 = .ok (.getfield 15, 3) := by decide +kernel
theorem dX0_gathered_34 : decode cX0_gathered 34 = .ok (.iload_n 3, 1) := by decide +kernel
theorem dX0_gathered_35 : decode cX0_gathered 35 = .ok (.iaload, 1) := by decide +kernel
theorem dX0_gathered_36 : decode cX0_gathered 36 = .ok (.imul, 1) := by decide +kernel
theorem dX0_gathered_37 : decode cX0_gathered 37 = .ok (.iadd, 1) := by decide +kernel
theorem dX0_gathered_38 : decode cX0_gathered 38 = .ok (.istore_n 2, 1) := by decide +kernel
theorem dX0_gathered_39 : decode cX0_gathered 39 = .ok (.iinc 3 (-1), 3) := by decide +kernel
theorem dX0_gathered_42 : decode cX0_gathered 42 = .ok (.goto (-33), 3) := by decide +kernel
theorem dX0_gathered_45 : decode cX0_gathered 45 = .ok (.iload_n 2, 1) := by decide +kernel
theorem dX0_gathered_46 : decode cX0_gathered 46 = .ok (.ireturn, 1) := by decide +kernel
theorem dX0_leastFrom_0 : decode cX0_leastFrom 0 = .ok (.iconst 0, 1) := by decide +kernel
theorem dX0_leastFrom_1 : decode cX0_leastFrom 1 = .ok (.istore_n 2, 1) := by decide +kernel
theorem dX0_leastFrom_2 : decode cX0_leastFrom 2 = .ok (.iload_n 2, 1) := by decide +kernel
theorem dX0_leastFrom_3 : decode cX0_leastFrom 3 = .ok (.aload_n 0, 1) := by decide +kernel
theorem dX0_leastFrom_4 : decode cX0_leastFrom 4 = .ok (.getfield 18, 3) := by decide +kernel
theorem dX0_leastFrom_7 : decode cX0_leastFrom 7 = .ok (.if_icmp .ge 26, 3) := by decide +kernel
theorem dX0_leastFrom_10 : decode cX0_leastFrom 10 = .ok (.aload_n 0, 1) := by decide +kernel
theorem dX0_leastFrom_11 : decode cX0_leastFrom 11 = .ok (.getfield 9, 3) := by decide +kernel
theorem dX0_leastFrom_14 : decode cX0_leastFrom 14 = .ok (.iload_n 2, 1) := by decide +kernel
theorem dX0_leastFrom_15 : decode cX0_leastFrom 15 = .ok (.iaload, 1) := by decide +kernel
theorem dX0_leastFrom_16 : decode cX0_leastFrom 16 = .ok (.iload_n 1, 1) := by decide +kernel
theorem dX0_leastFrom_17 : decode cX0_leastFrom 17 = .ok (.if_icmp .lt 10, 3) := by decide +kernel
theorem dX0_leastFrom_20 : decode cX0_leastFrom 20 = .ok (.aload_n 0, 1) := by decide +kernel
theorem dX0_leastFrom_21 : decode cX0_leastFrom 21 = .ok (.getfield 9, 3) := by decide +kernel
theorem dX0_leastFrom_24 : decode cX0_leastFrom 24 = .ok (.iload_n 2, 1) := by decide +kernel
theorem dX0_leastFrom_25 : decode cX0_leastFrom 25 = .ok (.iaload, 1) := by decide +kernel
theorem dX0_leastFrom_26 : decode cX0_leastFrom 26 = .ok (.ireturn, 1) := by decide +kernel
theorem dX0_leastFrom_27 : decode cX0_leastFrom 27 = .ok (.iinc 2 1, 3) := by decide +kernel
theorem dX0_leastFrom_30 : decode cX0_leastFrom 30 = .ok (.goto (-28), 3) := by decide +kernel
theorem dX0_leastFrom_33 : decode cX0_leastFrom 33 = .ok (.iconst (-1), 1) := by decide +kernel
theorem dX0_leastFrom_34 : decode cX0_leastFrom 34 = .ok (.ireturn, 1) := by decide +kernel
end
section
set_option maxRecDepth 20000 in
theorem ggX1_init_X3_init : GoodIn wsX1_init wsX3_init := goodIn_r _ [21, 22, 2, 3, 23, 24, 25, 26, 27, 28, 29, 30, 31, 9, 32, 33, 34, 35, 52, 53, 54, 55, 40, 41, 42] (by decide +kernel) (by decide +kernel)
set_option maxRecDepth 20000 in
theorem gX1_init_X3_init : GoodIn wsX1_init (wsX3_init) := ggX1_init_X3_init
set_option maxRecDepth 20000 in
theorem ggX1_init_X5_init : GoodIn wsX1_init wsX5_init := goodIn_r _ [37, 38, 2, 3, 9, 39, 51] (by decide +kernel) (by decide +kernel)
set_option maxRecDepth 20000 in
theorem gX1_init_X5_init_n36 : GoodIn wsX1_init (wsX5_init) := ggX1_init_X5_init
theorem dX1_init_0 : decode cX1_init 0 = .ok (.aload_n 0, 1) := by decide +kernel
theorem dX1_init_1 : decode cX1_init 1 = .ok (.invokespecial 3, 3) := by decide +kernel
theorem dX1_init_4 : decode cX1_init 4 = .ok (.aload_n 0, 1) := by decide +kernel
theorem dX1_init_5 : decode cX1_init 5 = .ok (.new 9, 3) := by decide +kernel
theorem dX1_init_8 : decode cX1_init 8 = .ok (.dup, 1) := by decide +kernel
theorem dX1_init_9 : decode cX1_init 9 = .ok (.invokespecial 11, 3) := by decide +kernel
theorem dX1_init_12 : decode cX1_init 12 = .ok (.putfield 12, 3) := by decide +kernel
theorem dX1_init_15 : decode cX1_init 15 = .ok (.aload_n 0, 1) := by decide +kernel
theorem dX1_init_16 : decode cX1_init 16 = .ok (.new 9, 3) := by decide +kernel
theorem dX1_init_19 : decode cX1_init 19 = .ok (.dup, 1) := by decide +kernel
theorem dX1_init_20 : decode cX1_init 20 = .ok (.invokespecial 11, 3) := by decide +kernel
theorem dX1_init_23 : decode cX1_init 23 = .ok (.putfield 18, 3) := by decide +kernel
theorem dX1_init_26 : decode cX1_init 26 = .ok (.aload_n 0, 1) := by decide +kernel
theorem dX1_init_27 : decode cX1_init 27 = .ok (.bipush 6, 2) := by decide +kernel
theorem dX1_init_29 : decode cX1_init 29 = .ok (.newarray .int, 2) := by decide +kernel
theorem dX1_init_31 : decode cX1_init 31 = .ok (.putfield 21, 3) := by decide +kernel
theorem dX1_init_34 : decode cX1_init 34 = .ok (.aload_n 0, 1) := by decide +kernel
theorem dX1_init_35 : decode cX1_init 35 = .ok (.bipush 6, 2) := by decide +kernel
theorem dX1_init_37 : decode cX1_init 37 = .ok (.newarray .int, 2) := by decide +kernel
theorem dX1_init_39 : decode cX1_init 39 = .ok (.putfield 25, 3) := by decide +kernel
theorem dX1_init_42 : decode cX1_init 42 = .ok (.aload_n 0, 1) := by decide +kernel
theorem dX1_init_43 : decode cX1_init 43 = .ok (.bipush 6, 2) := by decide +kernel
theorem dX1_init_45 : decode cX1_init 45 = .ok (.newarray .int, 2) := by decide +kernel
theorem dX1_init_47 : decode cX1_init 47 = .ok (.putfield 28, 3) := by decide +kernel
theorem dX1_init_50 : decode cX1_init 50 = .ok (.aload_n 0, 1) := by decide +kernel
theorem dX1_init_51 : decode cX1_init 51 = .ok (.bipush 6, 2) := by decide +kernel
theorem dX1_init_53 : decode cX1_init 53 = .ok (.newarray .int, 2) := by decide +kernel
theorem dX1_init_55 : decode cX1_init 55 = .ok (.putfield 31, 3) := by decide +kernel
theorem dX1_init_58 : decode cX1_init 58 = .ok (.aload_n 0, 1) := by decide +kernel
theorem dX1_init_59 : decode cX1_init 59 = .ok (.new 34, 3) := by decide +kernel
theorem dX1_init_62 : decode cX1_init 62 = .ok (.dup, 1) := by decide +kernel
theorem dX1_init_63 : decode cX1_init 63 = .ok (.invokespecial 36, 3) := by decide +kernel
theorem dX1_init_66 : decode cX1_init 66 = .ok (.putfield 37, 3) := by decide +kernel
theorem dX1_init_69 : decode cX1_init 69 = .ok (.aload_n 0, 1) := by decide +kernel
theorem dX1_init_70 : decode cX1_init 70 = .ok (.new 34, 3) := by decide +kernel
theorem dX1_init_73 : decode cX1_init 73 = .ok (.dup, 1) := by decide +kernel
theorem dX1_init_74 : decode cX1_init 74 = .ok (.invokespecial 36, 3) := by decide +kernel
theorem dX1_init_77 : decode cX1_init 77 = .ok (.putfield 41, 3) := by decide +kernel
theorem dX1_init_80 : decode cX1_init 80 = .ok (.return_, 1) := by decide +kernel
set_option maxRecDepth 20000 in
theorem ggX1_size_X3_size : GoodIn wsX1_size wsX3_size := goodIn_r _ [6, 7, 16, 17, 18] (by decide +kernel) (by decide +kernel)
set_option maxRecDepth 20000 in
theorem gX1_size_X3_size : GoodIn wsX1_size (wsV RX1 44 RX3 yX3_size wsX3_size) := goodIn_app (goodIn_of _ (by decide +kernel)) ggX1_size_X3_size
theorem dX1_size_0 : decode cX1_size 0 = .ok (.aload_n 0, 1) := by decide +kernel
theorem dX1_size_1 : decode cX1_size 1 = .ok (.getfield 12, 3) := by decide +kernel
theorem dX1_size_4 : decode cX1_size 4 = .ok (.invokevirtual 44, 3) := by decide +kernel
theorem dX1_size_7 : decode cX1_size 7 = .ok (.ireturn, 1) := by decide +kernel
set_option maxRecDepth 20000 in
theorem ggX1_join_X3_size : GoodIn wsX1_join wsX3_size := goodIn_r _ [7, 8, 67, 68, 69] (by decide +kernel) (by decide +kernel)
set_option maxRecDepth 20000 in
theorem gX1_join_X3_size : GoodIn wsX1_join (wsV RX1 44 RX3 yX3_size wsX3_size) := goodIn_app (goodIn_of _ (by decide +kernel)) ggX1_join_X3_size
set_option maxRecDepth 20000 in
theorem ggX1_join_X3_join : GoodIn wsX1_join wsX3_join := goodIn_r _ [12, 8, 13, 67, 68, 69] (by decide +kernel) (by decide +kernel)
set_option maxRecDepth 20000 in
theorem gX1_join_X3_join : GoodIn wsX1_join (wsV RX1 48 RX3 yX3_join wsX3_join) := goodIn_app (goodIn_of _ (by decide +kernel)) ggX1_join_X3_join
set_option maxRecDepth 20000 in
theorem ggX1_join_X1_findFairBar : GoodIn wsX1_join wsX1_findFairBar := goodIn_r _ [18, 1, 2, 19, 20, 21, 22, 23, 6, 24, 8, 13, 25, 26, 27, 28, 29, 30, 31, 32, 33, 34, 35, 36, 37, 38, 39, 40, 41, 42, 43, 44, 45, 46, 47, 48, 49, 50, 51, 52, 17, 53, 59, 60, 61, 62, 63, 64, 65, 66, 67, 68, 69, 70, 71, 72, 73] (by decide +kernel) (by decide +kernel)
set_option maxRecDepth 20000 in
theorem gX1_join_X1_findFairBar : GoodIn wsX1_join (wsV RX1 52 RX1 yX1_findFairBar wsX1_findFairBar) := goodIn_app (goodIn_of _ (by decide +kernel)) ggX1_join_X1_findFairBar
set_option maxRecDepth 20000 in
theorem ggX1_join_X1_putInOrder : GoodIn wsX1_join wsX1_putInOrder := goodIn_r _ [57, 20, 19, 58, 50, 51, 52, 17, 53, 59, 60, 61, 62, 63, 64, 65, 66] (by decide +kernel) (by decide +kernel)
set_option maxRecDepth 20000 in
theorem gX1_join_X1_putInOrder : GoodIn wsX1_join (wsV RX1 56 RX1 yX1_putInOrder wsX1_putInOrder) := goodIn_app (goodIn_of _ (by decide +kernel)) ggX1_join_X1_putInOrder
theorem dX1_join_0 : decode cX1_join 0 = .ok (.aload_n 0, 1) := by decide +kernel
theorem dX1_join_1 : decode cX1_join 1 = .ok (.getfield 12, 3) := by decide +kernel
theorem dX1_join_4 : decode cX1_join 4 = .ok (.invokevirtual 44, 3) := by decide +kernel
theorem dX1_join_7 : decode cX1_join 7 = .ok (.istore_n 3, 1) := by decide +kernel
theorem dX1_join_8 : decode cX1_join 8 = .ok (.iload_n 3, 1) := by decide +kernel
theorem dX1_join_9 : decode cX1_join 9 = .ok (.bipush 6, 2) := by decide +kernel
theorem dX1_join_11 : decode cX1_join 11 = .ok (.if_icmp .lt 6, 3) := by decide +kernel
theorem dX1_join_14 : decode cX1_join 14 = .ok (.bipush (-8), 2) := by decide +kernel
theorem dX1_join_16 : decode cX1_join 16 = .ok (.ireturn, 1) := by decide +kernel
theorem dX1_join_17 : decode cX1_join 17 = .ok (.aload_n 0, 1) := by decide +kernel
theorem dX1_join_18 : decode cX1_join 18 = .ok (.getfield 12, 3) := by decide +kernel
theorem dX1_join_21 : decode cX1_join 21 = .ok (.aload_n 1, 1) := by decide +kernel
theorem dX1_join_22 : decode cX1_join 22 = .ok (.invokevirtual 48, 3) := by decide +kernel
theorem dX1_join_25 : decode cX1_join 25 = .ok (.aload_n 0, 1) := by decide +kernel
theorem dX1_join_26 : decode cX1_join 26 = .ok (.getfield 21, 3) := by decide +kernel
theorem dX1_join_29 : decode cX1_join 29 = .ok (.iload_n 3, 1) := by decide +kernel
theorem dX1_join_30 : decode cX1_join 30 = .ok (.iload_n 2, 1) := by decide +kernel
theorem dX1_join_31 : decode cX1_join 31 = .ok (.iastore, 1) := by decide +kernel
theorem dX1_join_32 : decode cX1_join 32 = .ok (.aload_n 0, 1) := by decide +kernel
theorem dX1_join_33 : decode cX1_join 33 = .ok (.iload_n 3, 1) := by decide +kernel
theorem dX1_join_34 : decode cX1_join 34 = .ok (.invokevirtual 52, 3) := by decide +kernel
theorem dX1_join_37 : decode cX1_join 37 = .ok (.aload_n 0, 1) := by decide +kernel
theorem dX1_join_38 : decode cX1_join 38 = .ok (.iload_n 3, 1) := by decide +kernel
theorem dX1_join_39 : decode cX1_join 39 = .ok (.invokevirtual 56, 3) := by decide +kernel
theorem dX1_join_42 : decode cX1_join 42 = .ok (.iload_n 3, 1) := by decide +kernel
theorem dX1_join_43 : decode cX1_join 43 = .ok (.ireturn, 1) := by decide +kernel
set_option maxRecDepth 20000 in
theorem ggX1_clear_X3_size : GoodIn wsX1_clear wsX3_size := goodIn_r _ [6, 7, 20, 21, 22] (by decide +kernel) (by decide +kernel)
set_option maxRecDepth 20000 in
theorem gX1_clear_X3_size : GoodIn wsX1_clear (wsV RX1 44 RX3 yX3_size wsX3_size) := goodIn_app (goodIn_of _ (by decide +kernel)) ggX1_clear_X3_size
set_option maxRecDepth 20000 in
theorem ggX1_clear_X3_clear : GoodIn wsX1_clear wsX3_clear := goodIn_r _ [11, 7, 20, 21, 22] (by decide +kernel) (by decide +kernel)
set_option maxRecDepth 20000 in
theorem gX1_clear_X3_clear : GoodIn wsX1_clear (wsV RX1 59 RX3 yX3_clear wsX3_clear) := goodIn_app (goodIn_of _ (by decide +kernel)) ggX1_clear_X3_clear
theorem dX1_clear_0 : decode cX1_clear 0 = .ok (.aload_n 0, 1) := by decide +kernel
theorem dX1_clear_1 : decode cX1_clear 1 = .ok (.getfield 12, 3) := by decide +kernel
theorem dX1_clear_4 : decode cX1_clear 4 = .ok (.invokevirtual 44, 3) := by decide +kernel
theorem dX1_clear_7 : decode cX1_clear 7 = .ok (.istore_n 1, 1) := by decide +kernel
theorem dX1_clear_8 : decode cX1_clear 8 = .ok (.aload_n 0, 1) := by decide +kernel
theorem dX1_clear_9 : decode cX1_clear 9 = .ok (.getfield 12, 3) := by decide +kernel
theorem dX1_clear_12 : decode cX1_clear 12 = .ok (.invokevirtual 59, 3) := by decide +kernel
theorem dX1_clear_15 : decode cX1_clear 15 = .ok (.iload_n 1, 1) := by decide +kernel
theorem dX1_clear_16 : decode cX1_clear 16 = .ok (.ireturn, 1) := by decide +kernel
set_option maxRecDepth 20000 in
theorem ggX1_findFairBar_X3_at : GoodIn wsX1_findFairBar wsX3_at := goodIn_r _ [9, 10, 11, 12, 13, 14, 15, 50, 51, 52] (by decide +kernel) (by decide +kernel)
set_option maxRecDepth 20000 in
theorem gX1_findFairBar_X3_at : GoodIn wsX1_findFairBar (wsV RX1 62 RX3 yX3_at wsX3_at) := goodIn_app (goodIn_of _ (by decide +kernel)) ggX1_findFairBar_X3_at
set_option maxRecDepth 20000 in
theorem ggX1_findFairBar_X0_total : GoodIn wsX1_findFairBar wsX0_total := goodIn_r _ [20, 21, 53, 54, 55, 56] (by decide +kernel) (by decide +kernel)
set_option maxRecDepth 20000 in
theorem gX1_findFairBar_X0_total : GoodIn wsX1_findFairBar (wsV RX1 66 RX0 yX0_total wsX0_total) := goodIn_app (goodIn_of _ (by decide +kernel)) ggX1_findFairBar_X0_total
set_option maxRecDepth 20000 in
theorem ggX1_findFairBar_X0_leastFrom : GoodIn wsX1_findFairBar wsX0_leastFrom := goodIn_r _ [25, 26, 27, 53, 54, 55, 56] (by decide +kernel) (by decide +kernel)
set_option maxRecDepth 20000 in
theorem gX1_findFairBar_X0_leastFrom : GoodIn wsX1_findFairBar (wsV RX1 71 RX0 yX0_leastFrom wsX0_leastFrom) := goodIn_app (goodIn_of _ (by decide +kernel)) ggX1_findFairBar_X0_leastFrom
set_option maxRecDepth 20000 in
theorem ggX1_findFairBar_X0_gathered : GoodIn wsX1_findFairBar wsX0_gathered := goodIn_r _ [31, 26, 27, 32, 53, 54, 55, 56] (by decide +kernel) (by decide +kernel)
set_option maxRecDepth 20000 in
theorem gX1_findFairBar_X0_gathered : GoodIn wsX1_findFairBar (wsV RX1 75 RX0 yX0_gathered wsX0_gathered) := goodIn_app (goodIn_of _ (by decide +kernel)) ggX1_findFairBar_X0_gathered
set_option maxRecDepth 20000 in
theorem ggX1_findFairBar_X0_below : GoodIn wsX1_findFairBar wsX0_below := goodIn_r _ [36, 26, 27, 32, 53, 54, 55, 56] (by decide +kernel) (by decide +kernel)
set_option maxRecDepth 20000 in
theorem gX1_findFairBar_X0_below : GoodIn wsX1_findFairBar (wsV RX1 78 RX0 yX0_below wsX0_below) := goodIn_app (goodIn_of _ (by decide +kernel)) ggX1_findFairBar_X0_below
set_option maxRecDepth 20000 in
theorem ggX1_findFairBar_X1_isAbove : GoodIn wsX1_findFairBar wsX1_isAbove := goodIn_r _ [41, 3, 4, 42, 43, 44, 45, 46, 47, 48, 49] (by decide +kernel) (by decide +kernel)
set_option maxRecDepth 20000 in
theorem gX1_findFairBar_X1_isAbove : GoodIn wsX1_findFairBar (wsV RX1 81 RX1 yX1_isAbove wsX1_isAbove) := goodIn_app (goodIn_of _ (by decide +kernel)) ggX1_findFairBar_X1_isAbove
theorem dX1_findFairBar_0 : decode cX1_findFairBar 0 = .ok (.aload_n 0, 1) := by decide +kernel
theorem dX1_findFairBar_1 : decode cX1_findFairBar 1 = .ok (.getfield 12, 3) := by decide +kernel
theorem dX1_findFairBar_4 : decode cX1_findFairBar 4 = .ok (.iload_n 1, 1) := by decide +kernel
theorem dX1_findFairBar_5 : decode cX1_findFairBar 5 = .ok (.invokevirtual 62, 3) := by decide +kernel
theorem dX1_findFairBar_8 : decode cX1_findFairBar 8 = .ok (.astore_n 2, 1) := by decide +kernel
theorem dX1_findFairBar_9 : decode cX1_findFairBar 9 = .ok (.aload_n 0, 1) := by decide +kernel
theorem dX1_findFairBar_10 : decode cX1_findFairBar 10 = .ok (.getfield 21, 3) := by decide +kernel
theorem dX1_findFairBar_13 : decode cX1_findFairBar 13 = .ok (.iload_n 1, 1) := by decide +kernel
theorem dX1_findFairBar_14 : decode cX1_findFairBar 14 = .ok (.iaload, 1) := by decide +kernel
theorem dX1_findFairBar_15 : decode cX1_findFairBar 15 = .ok (.aload_n 2, 1) := by decide +kernel
theorem dX1_findFairBar_16 : decode cX1_findFairBar 16 = .ok (.invokevirtual 66, 3) := by decide +kernel
theorem dX1_findFairBar_19 : decode cX1_findFairBar 19 = .ok (.imul, 1) := by decide +kernel
theorem dX1_findFairBar_20 : decode cX1_findFairBar 20 = .ok (.istore_n 3, 1) := by decide +kernel
theorem dX1_findFairBar_21 : decode cX1_findFairBar 21 = .ok (.aload_n 0, 1) := by decide +kernel
theorem dX1_findFairBar_22 : decode cX1_findFairBar 22 = .ok (.getfield 28, 3) := by decide +kernel
theorem dX1_findFairBar_25 : decode cX1_findFairBar 25 = .ok (.iload_n 1, 1) := by decide +kernel
theorem dX1_findFairBar_26 : decode cX1_findFairBar 26 = .ok (.iconst 0, 1) := by decide +kernel
theorem dX1_findFairBar_27 : decode cX1_findFairBar 27 = .ok (.iastore, 1) := by decide +kernel
theorem dX1_findFairBar_28 : decode cX1_findFairBar 28 = .ok (.aload_n 2, 1) := by decide +kernel
theorem dX1_findFairBar_29 : decode cX1_findFairBar 29 = .ok (.iconst 0, 1) := by decide +kernel
theorem dX1_findFairBar_30 : decode cX1_findFairBar 30 = .ok (.invokevirtual 71, 3) := by decide +kernel
theorem dX1_findFairBar_33 : decode cX1_findFairBar 33 = .ok (.istore 4, 2) := by decide +kernel
theorem dX1_findFairBar_35 : decode cX1_findFairBar 35 = .ok (.iconst 0, 1) := by decide +kernel
theorem dX1_findFairBar_36 : decode cX1_findFairBar 36 = .ok (.istore 5, 2) := by decide +kernel
theorem dX1_findFairBar_38 : decode cX1_findFairBar 38 = .ok (.iload 5, 2) := by decide +kernel
theorem dX1_findFairBar_40 : decode cX1_findFairBar 40 = .ok (.bipush 8, 2) := by decide +kernel
theorem dX1_findFairBar_42 : decode cX1_findFairBar 42 = .ok (.if_icmp .ge 87, 3) := by decide +kernel
theorem dX1_findFairBar_45 : decode cX1_findFairBar 45 = .ok (.iload 4, 2) := by decide +kernel
theorem dX1_findFairBar_47 : decode cX1_findFairBar 47 = .ok (.iconst (-1), 1) := by decide +kernel
theorem dX1_findFairBar_48 : decode cX1_findFairBar 48 = .ok (.if_icmp .eq 81, 3) := by decide +kernel
theorem dX1_findFairBar_51 : decode cX1_findFairBar 51 = .ok (.aload_n 2, 1) := by decide +kernel
theorem dX1_findFairBar_52 : decode cX1_findFairBar 52 = .ok (.iload 4, 2) := by decide +kernel
theorem dX1_findFairBar_54 : decode cX1_findFairBar 54 = .ok (.invokevirtual 75, 3) := by decide +kernel
theorem dX1_findFairBar_57 : decode cX1_findFairBar 57 = .ok (.iload_n 3, 1) := by decide +kernel
theorem dX1_findFairBar_58 : decode cX1_findFairBar 58 = .ok (.isub, 1) := by decide +kernel
theorem dX1_findFairBar_59 : decode cX1_findFairBar 59 = .ok (.istore 6, 2) := by decide +kernel
theorem dX1_findFairBar_61 : decode cX1_findFairBar 61 = .ok (.aload_n 2, 1) := by decide +kernel
theorem dX1_findFairBar_62 : decode cX1_findFairBar 62 = .ok (.invokevirtual 66, 3) := by decide +kernel
theorem dX1_findFairBar_65 : decode cX1_findFairBar 65 = .ok (.aload_n 2, 1) := by decide +kernel
theorem dX1_findFairBar_66 : decode cX1_findFairBar 66 = .ok (.iload 4, 2) := by decide +kernel
theorem dX1_findFairBar_68 : decode cX1_findFairBar 68 = .ok (.invokevirtual 78, 3) := by decide +kernel
theorem dX1_findFairBar_71 : decode cX1_findFairBar 71 = .ok (.isub, 1) := by decide +kernel
theorem dX1_findFairBar_72 : decode cX1_findFairBar 72 = .ok (.istore 7, 2) := by decide +kernel
theorem dX1_findFairBar_74 : decode cX1_findFairBar 74 = .ok (.aload_n 0, 1) := by decide +kernel
theorem dX1_findFairBar_75 : decode cX1_findFairBar 75 = .ok (.getfield 28, 3) := by decide +kernel
theorem dX1_findFairBar_78 : decode cX1_findFairBar 78 = .ok (.iload_n 1, 1) := by decide +kernel
theorem dX1_findFairBar_79 : decode cX1_findFairBar 79 = .ok (.iaload, 1) := by decide +kernel
theorem dX1_findFairBar_80 : decode cX1_findFairBar 80 = .ok (.ifCond .eq 17, 3) := by decide +kernel
theorem dX1_findFairBar_83 : decode cX1_findFairBar 83 = .ok (.aload_n 0, 1) := by decide +kernel
theorem dX1_findFairBar_84 : decode cX1_findFairBar 84 = .ok (.iload 6, 2) := by decide +kernel
theorem dX1_findFairBar_86 : decode cX1_findFairBar 86 = .ok (.i2l, 1) := by decide +kernel
theorem dX1_findFairBar_87 : decode cX1_findFairBar 87 = .ok (.iload 7, 2) := by decide +kernel
theorem dX1_findFairBar_89 : decode cX1_findFairBar 89 = .ok (.i2l, 1) := by decide +kernel
theorem dX1_findFairBar_90 : decode cX1_findFairBar 90 = .ok (.iload_n 1, 1) := by decide +kernel
theorem dX1_findFairBar_91 : decode cX1_findFairBar 91 = .ok (.invokevirtual 81, 3) := by decide +kernel
theorem dX1_findFairBar_94 : decode cX1_findFairBar 94 = .ok (.ifCond .eq 19, 3) := by decide +kernel
theorem dX1_findFairBar_97 : decode cX1_findFairBar 97 = .ok (.aload_n 0, 1) := by decide +kernel
theorem dX1_findFairBar_98 : decode cX1_findFairBar 98 = .ok (.getfield 25, 3) := by decide +kernel
theorem dX1_findFairBar_101 : decode cX1_findFairBar 101 = .ok (.iload_n 1, 1) := by decide +kernel
theorem dX1_findFairBar_102 : decode cX1_findFairBar 102 = .ok (.iload 6, 2) := by decide +kernel
theorem dX1_findFairBar_104 : decode cX1_findFairBar 104 = .ok (.iastore, 1) := by decide +kernel
theorem dX1_findFairBar_105 : decode cX1_findFairBar 105 = .ok (.aload_n 0, 1) := by decide +kernel
theorem dX1_findFairBar_106 : decode cX1_findFairBar 106 = .ok (.getfield 28, 3) := by decide +kernel
theorem dX1_findFairBar_109 : decode cX1_findFairBar 109 = .ok (.iload_n 1, 1) := by decide +kernel
theorem dX1_findFairBar_110 : decode cX1_findFairBar 110 = .ok (.iload 7, 2) := by decide +kernel
theorem dX1_findFairBar_112 : decode cX1_findFairBar 112 = .ok (.iastore, 1) := by decide +kernel
theorem dX1_findFairBar_113 : decode cX1_findFairBar 113 = .ok (.aload_n 2, 1) := by decide +kernel
theorem dX1_findFairBar_114 : decode cX1_findFairBar 114 = .ok (.iload 4, 2) := by decide +kernel
theorem dX1_findFairBar_116 : decode cX1_findFairBar 116 = .ok (.iconst 1, 1) := by decide +kernel
theorem dX1_findFairBar_117 : decode cX1_findFairBar 117 = .ok (.iadd, 1) := by decide +kernel
theorem dX1_findFairBar_118 : decode cX1_findFairBar 118 = .ok (.invokevirtual 71, 3) := by decide +kernel
theorem dX1_findFairBar_121 : decode cX1_findFairBar 121 = .ok (.istore 4, 2) := by decide +kernel
theorem dX1_findFairBar_123 : decode cX1_findFairBar 123 = .ok (.iinc 5 1, 3) := by decide +kernel
theorem dX1_findFairBar_126 : decode cX1_findFairBar 126 = .ok (.goto (-88), 3) := by decide +kernel
theorem dX1_findFairBar_129 : decode cX1_findFairBar 129 = .ok (.return_, 1) := by decide +kernel
theorem dX1_isAbove_0 : decode cX1_isAbove 0 = .ok (.lload_n 1, 1) := by decide +kernel
theorem dX1_isAbove_1 : decode cX1_isAbove 1 = .ok (.aload_n 0, 1) := by decide +kernel
theorem dX1_isAbove_2 : decode cX1_isAbove 2 = .ok (.getfield 28, 3) := by decide +kernel
theorem dX1_isAbove_5 : decode cX1_isAbove 5 = .ok (.iload 5, 2) := by decide +kernel
theorem dX1_isAbove_7 : decode cX1_isAbove 7 = .ok (.iaload, 1) := by decide +kernel
theorem dX1_isAbove_8 : decode cX1_isAbove 8 = .ok (.i2l, 1) := by decide +kernel
theorem dX1_isAbove_9 : decode cX1_isAbove 9 = .ok (.lmul, 1) := by decide +kernel
theorem dX1_isAbove_10 : decode cX1_isAbove 10 = .ok (.aload_n 0, 1) := by decide +kernel
theorem dX1_isAbove_11 : decode cX1_isAbove 11 = .ok (.getfield 25, 3) := by decide +kernel
theorem dX1_isAbove_14 : decode cX1_isAbove 14 = .ok (.iload 5, 2) := by decide +kernel
theorem dX1_isAbove_16 : decode cX1_isAbove 16 = .ok (.iaload, 1) := by decide +kernel
theorem dX1_isAbove_17 : decode cX1_isAbove 17 = .ok (.i2l, 1) := by decide +kernel
theorem dX1_isAbove_18 : decode cX1_isAbove 18 = .ok (.lload_n 3, 1) := by decide +kernel
theorem dX1_isAbove_19 : decode cX1_isAbove 19 = .ok (.lmul, 1) := by decide +kernel
theorem dX1_isAbove_20 : decode cX1_isAbove 20 = .ok (.lcmp, 1) := by decide +kernel
theorem dX1_isAbove_21 : decode cX1_isAbove 21 = .ok (.ifCond .le 7, 3) := by decide +kernel
theorem dX1_isAbove_24 : decode cX1_isAbove 24 = .ok (.iconst 1, 1) := by decide +kernel
theorem dX1_isAbove_25 : decode cX1_isAbove 25 = .ok (.goto 4, 3) := by decide +kernel
theorem dX1_isAbove_28 : decode cX1_isAbove 28 = .ok (.iconst 0, 1) := by decide +kernel
theorem dX1_isAbove_29 : decode cX1_isAbove 29 = .ok (.ireturn, 1) := by decide +kernel
set_option maxRecDepth 20000 in
theorem ggX1_putInOrder_X1_isAbove : GoodIn wsX1_putInOrder wsX1_isAbove := goodIn_r _ [8, 2, 1, 9, 10, 11, 12, 13, 14, 15, 16] (by decide +kernel) (by decide +kernel)
set_option maxRecDepth 20000 in
theorem gX1_putInOrder_X1_isAbove : GoodIn wsX1_putInOrder (wsV RX1 81 RX1 yX1_isAbove wsX1_isAbove) := goodIn_app (goodIn_of _ (by decide +kernel)) ggX1_putInOrder_X1_isAbove
theorem dX1_putInOrder_0 : decode cX1_putInOrder 0 = .ok (.iload_n 1, 1) := by decide +kernel
theorem dX1_putInOrder_1 : decode cX1_putInOrder 1 = .ok (.istore_n 2, 1) := by decide +kernel
theorem dX1_putInOrder_2 : decode cX1_putInOrder 2 = .ok (.iload_n 2, 1) := by decide +kernel
theorem dX1_putInOrder_3 : decode cX1_putInOrder 3 = .ok (.ifCond .le 52, 3) := by decide +kernel
theorem dX1_putInOrder_6 : decode cX1_putInOrder 6 = .ok (.aload_n 0, 1) := by decide +kernel
theorem dX1_putInOrder_7 : decode cX1_putInOrder 7 = .ok (.aload_n 0, 1) := by decide +kernel
theorem dX1_putInOrder_8 : decode cX1_putInOrder 8 = .ok (.getfield 25, 3) := by decide +kernel
theorem dX1_putInOrder_11 : decode cX1_putInOrder 11 = .ok (.iload_n 1, 1) := by decide +kernel
theorem dX1_putInOrder_12 : decode cX1_putInOrder 12 = .ok (.iaload, 1) := by decide +kernel
theorem dX1_putInOrder_13 : decode cX1_putInOrder 13 = .ok (.i2l, 1) := by decide +kernel
theorem dX1_putInOrder_14 : decode cX1_putInOrder 14 = .ok (.aload_n 0, 1) := by decide +kernel
theorem dX1_putInOrder_15 : decode cX1_putInOrder 15 = .ok (.getfield 28, 3) := by decide +kernel
theorem dX1_putInOrder_18 : decode cX1_putInOrder 18 = .ok (.iload_n 1, 1) := by decide +kernel
theorem dX1_putInOrder_19 : decode cX1_putInOrder 19 = .ok (.iaload, 1) := by decide +kernel
theorem dX1_putInOrder_20 : decode cX1_putInOrder 20 = .ok (.i2l, 1) := by decide +kernel
theorem dX1_putInOrder_21 : decode cX1_putInOrder 21 = .ok (.aload_n 0, 1) := by decide +kernel
theorem dX1_putInOrder_22 : decode cX1_putInOrder 22 = .ok (.getfield 31, 3) := by decide +kernel
theorem dX1_putInOrder_25 : decode cX1_putInOrder 25 = .ok (.iload_n 2, 1) := by decide +kernel
theorem dX1_putInOrder_26 : decode cX1_putInOrder 26 = .ok (.iconst 1, 1) := by decide +kernel
theorem dX1_putInOrder_27 : decode cX1_putInOrder 27 = .ok (.isub, 1) := by decide +kernel
theorem dX1_putInOrder_28 : decode cX1_putInOrder 28 = .ok (.iaload, 1) := by decide +kernel
theorem dX1_putInOrder_29 : decode cX1_putInOrder 29 = .ok (.invokevirtual 81, 3) := by decide +kernel
theorem dX1_putInOrder_32 : decode cX1_putInOrder 32 = .ok (.ifCond .eq 23, 3) := by decide +kernel
theorem dX1_putInOrder_35 : decode cX1_putInOrder 35 = .ok (.aload_n 0, 1) := by decide +kernel
theorem dX1_putInOrder_36 : decode cX1_putInOrder 36 = .ok (.getfield 31, 3) := by decide +kernel
theorem dX1_putInOrder_39 : decode cX1_putInOrder 39 = .ok (.iload_n 2, 1) := by decide +kernel
theorem dX1_putInOrder_40 : decode cX1_putInOrder 40 = .ok (.aload_n 0, 1) := by decide +kernel
theorem dX1_putInOrder_41 : decode cX1_putInOrder 41 = .ok (.getfield 31, 3) := by decide +kernel
theorem dX1_putInOrder_44 : decode cX1_putInOrder 44 = .ok (.iload_n 2, 1) := by decide +kernel
theorem dX1_putInOrder_45 : decode cX1_putInOrder 45 = .ok (.iconst 1, 1) := by decide +kernel
theorem dX1_putInOrder_46 : decode cX1_putInOrder 46 = .ok (.isub, 1) := by decide +kernel
theorem dX1_putInOrder_47 : decode cX1_putInOrder 47 = .ok (.iaload, 1) := by decide +kernel
theorem dX1_putInOrder_48 : decode cX1_putInOrder 48 = .ok (.iastore, 1) := by decide +kernel
theorem dX1_putInOrder_49 : decode cX1_putInOrder 49 = .ok (.iinc 2 (-1), 3) := by decide +kernel
theorem dX1_putInOrder_52 : decode cX1_putInOrder 52 = .ok (.goto (-50), 3) := by decide +kernel
theorem dX1_putInOrder_55 : decode cX1_putInOrder 55 = .ok (.aload_n 0, 1) := by decide +kernel
theorem dX1_putInOrder_56 : decode cX1_putInOrder 56 = .ok (.getfield 31, 3) := by decide +kernel
theorem dX1_putInOrder_59 : decode cX1_putInOrder 59 = .ok (.iload_n 2, 1) := by decide +kernel
theorem dX1_putInOrder_60 : decode cX1_putInOrder 60 = .ok (.iload_n 1, 1) := by decide +kernel
theorem dX1_putInOrder_61 : decode cX1_putInOrder 61 = .ok (.iastore, 1) := by decide +kernel
theorem dX1_putInOrder_62 : decode cX1_putInOrder 62 = .ok (.return_, 1) := by decide +kernel
set_option maxRecDepth 20000 in
theorem ggX1_fairBarInto_X10_isWithin : GoodIn wsX1_fairBarInto wsX10_isWithin := goodIn_r _ [6] (by decide +kernel) (by decide +kernel)
set_option maxRecDepth 20000 in
theorem gX1_fairBarInto_X10_isWithin_n87 : GoodIn wsX1_fairBarInto (wsX10_isWithin) := ggX1_fairBarInto_X10_isWithin
set_option maxRecDepth 20000 in
theorem ggX1_fairBarInto_X8_putSmall : GoodIn wsX1_fairBarInto wsX8_putSmall := goodIn_r _ [11, 12, 13, 14, 15, 16, 17, 18, 19, 20, 21, 22, 23, 24, 25, 26, 27, 28, 29, 30, 10, 31, 32, 33, 34, 35, 36, 37, 38, 39, 40, 41, 42, 43, 44, 45, 46, 47, 48, 49, 50, 51, 52, 53, 54, 55, 56, 57, 58, 59, 60, 61, 62, 63, 64, 65, 66, 67, 68, 69, 70, 71, 72, 81, 82, 83, 84, 85, 86] (by decide +kernel) (by decide +kernel)
set_option maxRecDepth 20000 in
theorem gX1_fairBarInto_X8_putSmall : GoodIn wsX1_fairBarInto (wsV RX1 91 RX8 yX8_putSmall wsX8_putSmall) := goodIn_app (goodIn_of _ (by decide +kernel)) ggX1_fairBarInto_X8_putSmall
theorem dX1_fairBarInto_0 : decode cX1_fairBarInto 0 = .ok (.iload_n 1, 1) := by decide +kernel
theorem dX1_fairBarInto_1 : decode cX1_fairBarInto 1 = .ok (.i2l, 1) := by decide +kernel
theorem dX1_fairBarInto_2 : decode cX1_fairBarInto 2 = .ok (.lconst 0, 1) := by decide +kernel
theorem dX1_fairBarInto_3 : decode cX1_fairBarInto 3 = .ok (.ldc2_w 85, 3) := by decide +kernel
theorem dX1_fairBarInto_6 : decode cX1_fairBarInto 6 = .ok (.invokestatic 87, 3) := by decide +kernel
theorem dX1_fairBarInto_9 : decode cX1_fairBarInto 9 = .ok (.ifCond .eq 19, 3) := by decide +kernel
theorem dX1_fairBarInto_12 : decode cX1_fairBarInto 12 = .ok (.aload_n 2, 1) := by decide +kernel
theorem dX1_fairBarInto_13 : decode cX1_fairBarInto 13 = .ok (.aload_n 0, 1) := by decide +kernel
theorem dX1_fairBarInto_14 : decode cX1_fairBarInto 14 = .ok (.getfield 25, 3) := by decide +kernel
theorem dX1_fairBarInto_17 : decode cX1_fairBarInto 17 = .ok (.iload_n 1, 1) := by decide +kernel
theorem dX1_fairBarInto_18 : decode cX1_fairBarInto 18 = .ok (.iaload, 1) := by decide +kernel
theorem dX1_fairBarInto_19 : decode cX1_fairBarInto 19 = .ok (.aload_n 0, 1) := by decide +kernel
theorem dX1_fairBarInto_20 : decode cX1_fairBarInto 20 = .ok (.getfield 28, 3) := by decide +kernel
theorem dX1_fairBarInto_23 : decode cX1_fairBarInto 23 = .ok (.iload_n 1, 1) := by decide +kernel
theorem dX1_fairBarInto_24 : decode cX1_fairBarInto 24 = .ok (.iaload, 1) := by decide +kernel
theorem dX1_fairBarInto_25 : decode cX1_fairBarInto 25 = .ok (.invokevirtual 91, 3) := by decide +kernel
theorem dX1_fairBarInto_28 : decode cX1_fairBarInto 28 = .ok (.return_, 1) := by decide +kernel
set_option maxRecDepth 20000 in
theorem ggX1_searchInto_X3_clear : GoodIn wsX1_searchInto wsX3_clear := goodIn_r _ [13, 14, 151, 152, 153] (by decide +kernel) (by decide +kernel)
set_option maxRecDepth 20000 in
theorem gX1_searchInto_X3_clear : GoodIn wsX1_searchInto (wsV RX1 59 RX3 yX3_clear wsX3_clear) := goodIn_app (goodIn_of _ (by decide +kernel)) ggX1_searchInto_X3_clear
set_option maxRecDepth 20000 in
theorem ggX1_searchInto_X5_put : GoodIn wsX1_searchInto wsX5_put := goodIn_r _ [19, 20, 21, 6, 22, 23, 24, 154] (by decide +kernel) (by decide +kernel)
set_option maxRecDepth 20000 in
theorem gX1_searchInto_X5_put : GoodIn wsX1_searchInto (wsV RX1 97 RX5 yX5_put wsX5_put) := goodIn_app (goodIn_of _ (by decide +kernel)) ggX1_searchInto_X5_put
set_option maxRecDepth 20000 in
theorem ggX1_searchInto_X3_size : GoodIn wsX1_searchInto wsX3_size := goodIn_r _ [28, 14, 151, 152, 153] (by decide +kernel) (by decide +kernel)
set_option maxRecDepth 20000 in
theorem gX1_searchInto_X3_size : GoodIn wsX1_searchInto (wsV RX1 44 RX3 yX3_size wsX3_size) := goodIn_app (goodIn_of _ (by decide +kernel)) ggX1_searchInto_X3_size
set_option maxRecDepth 20000 in
theorem ggX1_searchInto_X3_at : GoodIn wsX1_searchInto wsX3_at := goodIn_r _ [32, 14, 33, 34, 35, 36, 37, 151, 152, 153] (by decide +kernel) (by decide +kernel)
set_option maxRecDepth 20000 in
theorem gX1_searchInto_X3_at : GoodIn wsX1_searchInto (wsV RX1 62 RX3 yX3_at wsX3_at) := goodIn_app (goodIn_of _ (by decide +kernel)) ggX1_searchInto_X3_at
set_option maxRecDepth 20000 in
theorem ggX1_searchInto_X0_total : GoodIn wsX1_searchInto wsX0_total := goodIn_r _ [42, 43, 155, 156, 157, 158] (by decide +kernel) (by decide +kernel)
set_option maxRecDepth 20000 in
theorem gX1_searchInto_X0_total : GoodIn wsX1_searchInto (wsV RX1 66 RX0 yX0_total wsX0_total) := goodIn_app (goodIn_of _ (by decide +kernel)) ggX1_searchInto_X0_total
set_option maxRecDepth 20000 in
theorem ggX1_searchInto_X5_times : GoodIn wsX1_searchInto wsX5_times := goodIn_r _ [47, 23, 24, 154] (by decide +kernel) (by decide +kernel)
set_option maxRecDepth 20000 in
theorem gX1_searchInto_X5_times : GoodIn wsX1_searchInto (wsV RX1 107 RX5 yX5_times wsX5_times) := goodIn_app (goodIn_of _ (by decide +kernel)) ggX1_searchInto_X5_times
set_option maxRecDepth 20000 in
theorem ggX1_searchInto_X1_addGains : GoodIn wsX1_searchInto wsX1_addGains := goodIn_r _ [52, 1, 53, 2, 54, 55, 56, 51, 57, 3, 58, 59, 60, 6, 61, 29, 30, 31, 12, 32, 14, 33, 34, 35, 36, 37, 38, 39, 40, 41, 42, 43, 62, 63, 64, 65, 66, 67, 68, 69, 70, 71, 72, 73, 74, 75, 76, 77, 78, 79, 80, 81, 82, 83, 84, 85, 86, 16, 17, 18, 19, 20, 21, 22, 23, 24, 87, 88, 45, 46, 47, 89, 90, 91, 92, 143, 144, 145, 146, 147, 148, 149, 150, 151, 152, 153, 155, 156, 157, 158, 154] (by decide +kernel) (by decide +kernel)
set_option maxRecDepth 20000 in
theorem gX1_searchInto_X1_addGains : GoodIn wsX1_searchInto (wsV RX1 110 RX1 yX1_addGains wsX1_addGains) := goodIn_app (goodIn_of _ (by decide +kernel)) ggX1_searchInto_X1_addGains
set_option maxRecDepth 20000 in
theorem ggX1_searchInto_X3_join : GoodIn wsX1_searchInto wsX3_join := goodIn_r _ [96, 14, 33, 151, 152, 153] (by decide +kernel) (by decide +kernel)
set_option maxRecDepth 20000 in
theorem gX1_searchInto_X3_join : GoodIn wsX1_searchInto (wsV RX1 48 RX3 yX3_join wsX3_join) := goodIn_app (goodIn_of _ (by decide +kernel)) ggX1_searchInto_X3_join
set_option maxRecDepth 20000 in
theorem ggX1_searchInto_X3_divide : GoodIn wsX1_searchInto wsX3_divide := goodIn_r _ [100, 14, 101, 102, 103, 104, 105, 106, 107, 108, 109, 110, 111, 18, 112, 23, 113, 114, 115, 116, 117, 16, 17, 19, 20, 21, 6, 22, 24, 118, 119, 120, 121, 122, 123, 124, 125, 77, 30, 31, 12, 32, 33, 34, 35, 36, 37, 126, 39, 40, 41, 42, 43, 127, 128, 129, 130, 131, 132, 133, 134, 135, 136, 137, 138, 139, 140, 141, 142, 45, 46, 47, 151, 152, 153, 159, 160, 161, 162, 163, 154, 155, 156, 157, 158] (by decide +kernel) (by decide +kernel)
set_option maxRecDepth 20000 in
theorem gX1_searchInto_X3_divide : GoodIn wsX1_searchInto (wsV RX1 113 RX3 yX3_divide wsX3_divide) := goodIn_app (goodIn_of _ (by decide +kernel)) ggX1_searchInto_X3_divide
theorem dX1_searchInto_0 : decode cX1_searchInto 0 = .ok (.aload_n 0, 1) := by decide +kernel
theorem dX1_searchInto_1 : decode cX1_searchInto 1 = .ok (.getfield 18, 3) := by decide +kernel
theorem dX1_searchInto_4 : decode cX1_searchInto 4 = .ok (.invokevirtual 59, 3) := by decide +kernel
theorem dX1_searchInto_7 : decode cX1_searchInto 7 = .ok (.aload_n 0, 1) := by decide +kernel
theorem dX1_searchInto_8 : decode cX1_searchInto 8 = .ok (.getfield 37, 3) := by decide +kernel
theorem dX1_searchInto_11 : decode cX1_searchInto 11 = .ok (.lconst 0, 1) := by decide +kernel
theorem dX1_searchInto_12 : decode cX1_searchInto 12 = .ok (.invokevirtual 97, 3) := by decide +kernel
theorem dX1_searchInto_15 : decode cX1_searchInto 15 = .ok (.iconst 0, 1) := by decide +kernel
theorem dX1_searchInto_16 : decode cX1_searchInto 16 = .ok (.istore_n 2, 1) := by decide +kernel
theorem dX1_searchInto_17 : decode cX1_searchInto 17 = .ok (.iload_n 2, 1) := by decide +kernel
theorem dX1_searchInto_18 : decode cX1_searchInto 18 = .ok (.aload_n 0, 1) := by decide +kernel
theorem dX1_searchInto_19 : decode cX1_searchInto 19 = .ok (.getfield 12, 3) := by decide +kernel
theorem dX1_searchInto_22 : decode cX1_searchInto 22 = .ok (.invokevirtual 44, 3) := by decide +kernel
theorem dX1_searchInto_25 : decode cX1_searchInto 25 = .ok (.bipush 6, 2) := by decide +kernel
theorem dX1_searchInto_27 : decode cX1_searchInto 27 = .ok (.invokestatic 101, 3) := by decide +kernel
theorem dX1_searchInto_30 : decode cX1_searchInto 30 = .ok (.if_icmp .ge 53, 3) := by decide +kernel
theorem dX1_searchInto_33 : decode cX1_searchInto 33 = .ok (.aload_n 0, 1) := by decide +kernel
theorem dX1_searchInto_34 : decode cX1_searchInto 34 = .ok (.getfield 12, 3) := by decide +kernel
theorem dX1_searchInto_37 : decode cX1_searchInto 37 = .ok (.aload_n 0, 1) := by decide +kernel
theorem dX1_searchInto_38 : decode cX1_searchInto 38 = .ok (.getfield 31, 3) := by decide +kernel
theorem dX1_searchInto_41 : decode cX1_searchInto 41 = .ok (.iload_n 2, 1) := by decide +kernel
theorem dX1_searchInto_42 : decode cX1_searchInto 42 = .ok (.iaload, 1) := by decide +kernel
theorem dX1_searchInto_43 : decode cX1_searchInto 43 = .ok (.invokevirtual 62, 3) := by decide +kernel
theorem dX1_searchInto_46 : decode cX1_searchInto 46 = .ok (.astore_n 3, 1) := by decide +kernel
theorem dX1_searchInto_47 : decode cX1_searchInto 47 = .ok (.aload_n 0, 1) := by decide +kernel
theorem dX1_searchInto_48 : decode cX1_searchInto 48 = .ok (.getfield 37, 3) := by decide +kernel
theorem dX1_searchInto_51 : decode cX1_searchInto 51 = .ok (.aload_n 3, 1) := by decide +kernel
theorem dX1_searchInto_52 : decode cX1_searchInto 52 = .ok (.invokevirtual 66, 3) := by decide +kernel
theorem dX1_searchInto_55 : decode cX1_searchInto 55 = .ok (.i2l, 1) := by decide +kernel
theorem dX1_searchInto_56 : decode cX1_searchInto 56 = .ok (.invokevirtual 107, 3) := by decide +kernel
theorem dX1_searchInto_59 : decode cX1_searchInto 59 = .ok (.aload_n 0, 1) := by decide +kernel
theorem dX1_searchInto_60 : decode cX1_searchInto 60 = .ok (.aload_n 0, 1) := by decide +kernel
theorem dX1_searchInto_61 : decode cX1_searchInto 61 = .ok (.getfield 31, 3) := by decide +kernel
theorem dX1_searchInto_64 : decode cX1_searchInto 64 = .ok (.iload_n 2, 1) := by decide +kernel
theorem dX1_searchInto_65 : decode cX1_searchInto 65 = .ok (.iaload, 1) := by decide +kernel
theorem dX1_searchInto_66 : decode cX1_searchInto 66 = .ok (.invokevirtual 110, 3) := by decide +kernel
theorem dX1_searchInto_69 : decode cX1_searchInto 69 = .ok (.aload_n 0, 1) := by decide +kernel
theorem dX1_searchInto_70 : decode cX1_searchInto 70 = .ok (.getfield 18, 3) := by decide +kernel
theorem dX1_searchInto_73 : decode cX1_searchInto 73 = .ok (.aload_n 3, 1) := by decide +kernel
theorem dX1_searchInto_74 : decode cX1_searchInto 74 = .ok (.invokevirtual 48, 3) := by decide +kernel
theorem dX1_searchInto_77 : decode cX1_searchInto 77 = .ok (.iinc 2 1, 3) := by decide +kernel
theorem dX1_searchInto_80 : decode cX1_searchInto 80 = .ok (.goto (-63), 3) := by decide +kernel
theorem dX1_searchInto_83 : decode cX1_searchInto 83 = .ok (.aload_n 0, 1) := by decide +kernel
theorem dX1_searchInto_84 : decode cX1_searchInto 84 = .ok (.getfield 18, 3) := by decide +kernel
theorem dX1_searchInto_87 : decode cX1_searchInto 87 = .ok (.aload_n 0, 1) := by decide +kernel
theorem dX1_searchInto_88 : decode cX1_searchInto 88 = .ok (.getfield 37, 3) := by decide +kernel
theorem dX1_searchInto_91 : decode cX1_searchInto 91 = .ok (.aload_n 1, 1) := by decide +kernel
theorem dX1_searchInto_92 : decode cX1_searchInto 92 = .ok (.invokevirtual 113, 3) := by decide +kernel
theorem dX1_searchInto_95 : decode cX1_searchInto 95 = .ok (.return_, 1) := by decide +kernel
set_option maxRecDepth 20000 in
theorem ggX1_addGains_X1_gainAbove : GoodIn wsX1_addGains wsX1_gainAbove := goodIn_r _ [8, 9, 10, 11, 12, 13, 14, 15, 16, 17, 18, 19, 20, 21, 22, 23, 24, 25, 26, 27, 28, 29, 30, 31, 32, 33, 34, 35, 36, 37, 38, 39, 40, 41, 42, 75, 76, 77, 78, 79, 80, 81, 82, 83, 84, 85, 86, 87, 88, 89] (by decide +kernel) (by decide +kernel)
set_option maxRecDepth 20000 in
theorem gX1_addGains_X1_gainAbove : GoodIn wsX1_addGains (wsV RX1 117 RX1 yX1_gainAbove wsX1_gainAbove) := goodIn_app (goodIn_of _ (by decide +kernel)) ggX1_addGains_X1_gainAbove
set_option maxRecDepth 20000 in
theorem ggX1_addGains_X3_leastFrom : GoodIn wsX1_addGains wsX3_leastFrom := goodIn_r _ [46, 20, 47, 16, 17, 18, 19, 21, 22, 23, 24, 25, 48, 49, 50, 29, 51, 36, 37, 83, 84, 85, 86, 87, 88, 89] (by decide +kernel) (by decide +kernel)
set_option maxRecDepth 20000 in
theorem gX1_addGains_X3_leastFrom : GoodIn wsX1_addGains (wsV RX1 120 RX3 yX3_leastFrom wsX3_leastFrom) := goodIn_app (goodIn_of _ (by decide +kernel)) ggX1_addGains_X3_leastFrom
set_option maxRecDepth 20000 in
theorem ggX1_addGains_X3_waysUpTo : GoodIn wsX1_addGains wsX3_waysUpTo := goodIn_r _ [55, 20, 56, 57, 58, 59, 60, 61, 62, 13, 63, 64, 65, 47, 16, 17, 18, 19, 21, 22, 23, 24, 25, 66, 33, 34, 29, 35, 36, 37, 38, 67, 68, 69, 70, 83, 84, 85, 90, 86, 87, 88, 89] (by decide +kernel) (by decide +kernel)
set_option maxRecDepth 20000 in
theorem gX1_addGains_X3_waysUpTo : GoodIn wsX1_addGains (wsV RX1 121 RX3 yX3_waysUpTo wsX3_waysUpTo) := goodIn_app (goodIn_of _ (by decide +kernel)) ggX1_addGains_X3_waysUpTo
set_option maxRecDepth 20000 in
theorem ggX1_addGains_X5_addTimes : GoodIn wsX1_addGains wsX5_addTimes := goodIn_r _ [74, 64, 65, 90] (by decide +kernel) (by decide +kernel)
set_option maxRecDepth 20000 in
theorem gX1_addGains_X5_addTimes : GoodIn wsX1_addGains (wsV RX1 125 RX5 yX5_addTimes wsX5_addTimes) := goodIn_app (goodIn_of _ (by decide +kernel)) ggX1_addGains_X5_addTimes
theorem dX1_addGains_0 : decode cX1_addGains 0 = .ok (.iconst 0, 1) := by decide +kernel
theorem dX1_addGains_1 : decode cX1_addGains 1 = .ok (.istore_n 2, 1) := by decide +kernel
theorem dX1_addGains_2 : decode cX1_addGains 2 = .ok (.aload_n 0, 1) := by decide +kernel
theorem dX1_addGains_3 : decode cX1_addGains 3 = .ok (.iload_n 2, 1) := by decide +kernel
theorem dX1_addGains_4 : decode cX1_addGains 4 = .ok (.iload_n 1, 1) := by decide +kernel
theorem dX1_addGains_5 : decode cX1_addGains 5 = .ok (.invokevirtual 117, 3) := by decide +kernel
theorem dX1_addGains_8 : decode cX1_addGains 8 = .ok (.istore_n 3, 1) := by decide +kernel
theorem dX1_addGains_9 : decode cX1_addGains 9 = .ok (.iconst 0, 1) := by decide +kernel
theorem dX1_addGains_10 : decode cX1_addGains 10 = .ok (.istore 4, 2) := by decide +kernel
theorem dX1_addGains_12 : decode cX1_addGains 12 = .ok (.iload 4, 2) := by decide +kernel
theorem dX1_addGains_14 : decode cX1_addGains 14 = .ok (.bipush 80, 2) := by decide +kernel
theorem dX1_addGains_16 : decode cX1_addGains 16 = .ok (.if_icmp .gt 78, 3) := by decide +kernel
theorem dX1_addGains_19 : decode cX1_addGains 19 = .ok (.iload_n 3, 1) := by decide +kernel
theorem dX1_addGains_20 : decode cX1_addGains 20 = .ok (.ifCond .le 74, 3) := by decide +kernel
theorem dX1_addGains_23 : decode cX1_addGains 23 = .ok (.aload_n 0, 1) := by decide +kernel
theorem dX1_addGains_24 : decode cX1_addGains 24 = .ok (.getfield 18, 3) := by decide +kernel
theorem dX1_addGains_27 : decode cX1_addGains 27 = .ok (.iload_n 2, 1) := by decide +kernel
theorem dX1_addGains_28 : decode cX1_addGains 28 = .ok (.iconst 1, 1) := by decide +kernel
theorem dX1_addGains_29 : decode cX1_addGains 29 = .ok (.iadd, 1) := by decide +kernel
theorem dX1_addGains_30 : decode cX1_addGains 30 = .ok (.invokevirtual 120, 3) := by decide +kernel
theorem dX1_addGains_33 : decode cX1_addGains 33 = .ok (.istore 5, 2) := by decide +kernel
theorem dX1_addGains_35 : decode cX1_addGains 35 = .ok (.iload 5, 2) := by decide +kernel
theorem dX1_addGains_37 : decode cX1_addGains 37 = .ok (.iconst (-1), 1) := by decide +kernel
theorem dX1_addGains_38 : decode cX1_addGains 38 = .ok (.if_icmp .ne 7, 3) := by decide +kernel
theorem dX1_addGains_41 : decode cX1_addGains 41 = .ok (.iconst 0, 1) := by decide +kernel
theorem dX1_addGains_42 : decode cX1_addGains 42 = .ok (.goto 10, 3) := by decide +kernel
theorem dX1_addGains_45 : decode cX1_addGains 45 = .ok (.aload_n 0, 1) := by decide +kernel
theorem dX1_addGains_46 : decode cX1_addGains 46 = .ok (.iload 5, 2) := by decide +kernel
theorem dX1_addGains_48 : decode cX1_addGains 48 = .ok (.iload_n 1, 1) := by decide +kernel
theorem dX1_addGains_49 : decode cX1_addGains 49 = .ok (.invokevirtual 117, 3) := by decide +kernel
theorem dX1_addGains_52 : decode cX1_addGains 52 = .ok (.istore 6, 2) := by decide +kernel
theorem dX1_addGains_54 : decode cX1_addGains 54 = .ok (.aload_n 0, 1) := by decide +kernel
theorem dX1_addGains_55 : decode cX1_addGains 55 = .ok (.getfield 18, 3) := by decide +kernel
theorem dX1_addGains_58 : decode cX1_addGains 58 = .ok (.iload_n 2, 1) := by decide +kernel
theorem dX1_addGains_59 : decode cX1_addGains 59 = .ok (.aload_n 0, 1) := by decide +kernel
theorem dX1_addGains_60 : decode cX1_addGains 60 = .ok (.getfield 41, 3) := by decide +kernel
theorem dX1_addGains_63 : decode cX1_addGains 63 = .ok (.invokevirtual 121, 3) := by decide +kernel
theorem dX1_addGains_66 : decode cX1_addGains 66 = .ok (.aload_n 0, 1) := by decide +kernel
theorem dX1_addGains_67 : decode cX1_addGains 67 = .ok (.getfield 37, 3) := by decide +kernel
theorem dX1_addGains_70 : decode cX1_addGains 70 = .ok (.aload_n 0, 1) := by decide +kernel
theorem dX1_addGains_71 : decode cX1_addGains 71 = .ok (.getfield 41, 3) := by decide +kernel
theorem dX1_addGains_74 : decode cX1_addGains 74 = .ok (.iload_n 3, 1) := by decide +kernel
theorem dX1_addGains_75 : decode cX1_addGains 75 = .ok (.iload 6, 2) := by decide +kernel
theorem dX1_addGains_77 : decode cX1_addGains 77 = .ok (.isub, 1) := by decide +kernel
theorem dX1_addGains_78 : decode cX1_addGains 78 = .ok (.i2l, 1) := by decide +kernel
theorem dX1_addGains_79 : decode cX1_addGains 79 = .ok (.invokevirtual 125, 3) := by decide +kernel
theorem dX1_addGains_82 : decode cX1_addGains 82 = .ok (.iload 5, 2) := by decide +kernel
theorem dX1_addGains_84 : decode cX1_addGains 84 = .ok (.istore_n 2, 1) := by decide +kernel
theorem dX1_addGains_85 : decode cX1_addGains 85 = .ok (.iload 6, 2) := by decide +kernel
theorem dX1_addGains_87 : decode cX1_addGains 87 = .ok (.istore_n 3, 1) := by decide +kernel
theorem dX1_addGains_88 : decode cX1_addGains 88 = .ok (.iinc 4 1, 3) := by decide +kernel
theorem dX1_addGains_91 : decode cX1_addGains 91 = .ok (.goto (-79), 3) := by decide +kernel
theorem dX1_addGains_94 : decode cX1_addGains 94 = .ok (.return_, 1) := by decide +kernel
set_option maxRecDepth 20000 in
theorem ggX1_gainAbove_X3_at : GoodIn wsX1_gainAbove wsX3_at := goodIn_r _ [11, 12, 13, 14, 15, 16, 17, 43, 44, 45] (by decide +kernel) (by decide +kernel)
set_option maxRecDepth 20000 in
theorem gX1_gainAbove_X3_at : GoodIn wsX1_gainAbove (wsV RX1 62 RX3 yX3_at wsX3_at) := goodIn_app (goodIn_of _ (by decide +kernel)) ggX1_gainAbove_X3_at
set_option maxRecDepth 20000 in
theorem ggX1_gainAbove_X0_total : GoodIn wsX1_gainAbove wsX0_total := goodIn_r _ [22, 23, 46, 47, 48, 49] (by decide +kernel) (by decide +kernel)
set_option maxRecDepth 20000 in
theorem gX1_gainAbove_X0_total : GoodIn wsX1_gainAbove (wsV RX1 66 RX0 yX0_total wsX0_total) := goodIn_app (goodIn_of _ (by decide +kernel)) ggX1_gainAbove_X0_total
set_option maxRecDepth 20000 in
theorem ggX1_gainAbove_X0_below : GoodIn wsX1_gainAbove wsX0_below := goodIn_r _ [27, 28, 29, 30, 46, 47, 48, 49] (by decide +kernel) (by decide +kernel)
set_option maxRecDepth 20000 in
theorem gX1_gainAbove_X0_below : GoodIn wsX1_gainAbove (wsV RX1 78 RX0 yX0_below wsX0_below) := goodIn_app (goodIn_of _ (by decide +kernel)) ggX1_gainAbove_X0_below
set_option maxRecDepth 20000 in
theorem ggX1_gainAbove_X0_gathered : GoodIn wsX1_gainAbove wsX0_gathered := goodIn_r _ [34, 28, 29, 30, 46, 47, 48, 49] (by decide +kernel) (by decide +kernel)
set_option maxRecDepth 20000 in
theorem gX1_gainAbove_X0_gathered : GoodIn wsX1_gainAbove (wsV RX1 75 RX0 yX0_gathered wsX0_gathered) := goodIn_app (goodIn_of _ (by decide +kernel)) ggX1_gainAbove_X0_gathered
theorem dX1_gainAbove_0 : decode cX1_gainAbove 0 = .ok (.aload_n 0, 1) := by decide +kernel
theorem dX1_gainAbove_1 : decode cX1_gainAbove 1 = .ok (.getfield 12, 3) := by decide +kernel
theorem dX1_gainAbove_4 : decode cX1_gainAbove 4 = .ok (.iload_n 2, 1) := by decide +kernel
theorem dX1_gainAbove_5 : decode cX1_gainAbove 5 = .ok (.invokevirtual 62, 3) := by decide +kernel
theorem dX1_gainAbove_8 : decode cX1_gainAbove 8 = .ok (.astore_n 3, 1) := by decide +kernel
theorem dX1_gainAbove_9 : decode cX1_gainAbove 9 = .ok (.aload_n 3, 1) := by decide +kernel
theorem dX1_gainAbove_10 : decode cX1_gainAbove 10 = .ok (.invokevirtual 66, 3) := by decide +kernel
theorem dX1_gainAbove_13 : decode cX1_gainAbove 13 = .ok (.aload_n 3, 1) := by decide +kernel
theorem dX1_gainAbove_14 : decode cX1_gainAbove 14 = .ok (.iload_n 1, 1) := by decide +kernel
theorem dX1_gainAbove_15 : decode cX1_gainAbove 15 = .ok (.invokevirtual 78, 3) := by decide +kernel
theorem dX1_gainAbove_18 : decode cX1_gainAbove 18 = .ok (.isub, 1) := by decide +kernel
theorem dX1_gainAbove_19 : decode cX1_gainAbove 19 = .ok (.istore 4, 2) := by decide +kernel
theorem dX1_gainAbove_21 : decode cX1_gainAbove 21 = .ok (.iconst 0, 1) := by decide +kernel
theorem dX1_gainAbove_22 : decode cX1_gainAbove 22 = .ok (.aload_n 3, 1) := by decide +kernel
theorem dX1_gainAbove_23 : decode cX1_gainAbove 23 = .ok (.iload_n 1, 1) := by decide +kernel
theorem dX1_gainAbove_24 : decode cX1_gainAbove 24 = .ok (.invokevirtual 75, 3) := by decide +kernel
theorem dX1_gainAbove_27 : decode cX1_gainAbove 27 = .ok (.iload_n 1, 1) := by decide +kernel
theorem dX1_gainAbove_28 : decode cX1_gainAbove 28 = .ok (.iload 4, 2) := by decide +kernel
theorem dX1_gainAbove_30 : decode cX1_gainAbove 30 = .ok (.imul, 1) := by decide +kernel
theorem dX1_gainAbove_31 : decode cX1_gainAbove 31 = .ok (.isub, 1) := by decide +kernel
theorem dX1_gainAbove_32 : decode cX1_gainAbove 32 = .ok (.aload_n 0, 1) := by decide +kernel
theorem dX1_gainAbove_33 : decode cX1_gainAbove 33 = .ok (.getfield 21, 3) := by decide +kernel
theorem dX1_gainAbove_36 : decode cX1_gainAbove 36 = .ok (.iload_n 2, 1) := by decide +kernel
theorem dX1_gainAbove_37 : decode cX1_gainAbove 37 = .ok (.iaload, 1) := by decide +kernel
theorem dX1_gainAbove_38 : decode cX1_gainAbove 38 = .ok (.aload_n 3, 1) := by decide +kernel
theorem dX1_gainAbove_39 : decode cX1_gainAbove 39 = .ok (.invokevirtual 66, 3) := by decide +kernel
theorem dX1_gainAbove_42 : decode cX1_gainAbove 42 = .ok (.imul, 1) := by decide +kernel
theorem dX1_gainAbove_43 : decode cX1_gainAbove 43 = .ok (.isub, 1) := by decide +kernel
theorem dX1_gainAbove_44 : decode cX1_gainAbove 44 = .ok (.invokestatic 129, 3) := by decide +kernel
theorem dX1_gainAbove_47 : decode cX1_gainAbove 47 = .ok (.ireturn, 1) := by decide +kernel
end
section
set_option maxRecDepth 20000 in
theorem ggX2_init_X3_init : GoodIn wsX2_init wsX3_init := goodIn_r _ [23, 24, 2, 3, 25, 26, 27, 28, 29, 30, 31, 32, 33, 8, 34, 35, 36, 37, 56, 57, 58, 59, 42, 43, 44] (by decide +kernel) (by decide +kernel)
set_option maxRecDepth 20000 in
theorem gX2_init_X3_init : GoodIn wsX2_init (wsX3_init) := ggX2_init_X3_init
set_option maxRecDepth 20000 in
theorem ggX2_init_X5_init : GoodIn wsX2_init wsX5_init := goodIn_r _ [39, 40, 2, 3, 8, 41, 55] (by decide +kernel) (by decide +kernel)
set_option maxRecDepth 20000 in
theorem gX2_init_X5_init_n34 : GoodIn wsX2_init (wsX5_init) := ggX2_init_X5_init
theorem dX2_init_0 : decode cX2_init 0 = .ok (.aload_n 0, 1) := by decide +kernel
theorem dX2_init_1 : decode cX2_init 1 = .ok (.invokespecial 3, 3) := by decide +kernel
theorem dX2_init_4 : decode cX2_init 4 = .ok (.aload_n 0, 1) := by decide +kernel
theorem dX2_init_5 : decode cX2_init 5 = .ok (.new 9, 3) := by decide +kernel
theorem dX2_init_8 : decode cX2_init 8 = .ok (.dup, 1) := by decide +kernel
theorem dX2_init_9 : decode cX2_init 9 = .ok (.invokespecial 11, 3) := by decide +kernel
theorem dX2_init_12 : decode cX2_init 12 = .ok (.putfield 12, 3) := by decide +kernel
theorem dX2_init_15 : decode cX2_init 15 = .ok (.aload_n 0, 1) := by decide +kernel
theorem dX2_init_16 : decode cX2_init 16 = .ok (.bipush 10, 2) := by decide +kernel
theorem dX2_init_18 : decode cX2_init 18 = .ok (.newarray .int, 2) := by decide +kernel
theorem dX2_init_20 : decode cX2_init 20 = .ok (.putfield 18, 3) := by decide +kernel
theorem dX2_init_23 : decode cX2_init 23 = .ok (.aload_n 0, 1) := by decide +kernel
theorem dX2_init_24 : decode cX2_init 24 = .ok (.bipush 10, 2) := by decide +kernel
theorem dX2_init_26 : decode cX2_init 26 = .ok (.newarray .int, 2) := by decide +kernel
theorem dX2_init_28 : decode cX2_init 28 = .ok (.putfield 22, 3) := by decide +kernel
theorem dX2_init_31 : decode cX2_init 31 = .ok (.aload_n 0, 1) := by decide +kernel
theorem dX2_init_32 : decode cX2_init 32 = .ok (.bipush 10, 2) := by decide +kernel
theorem dX2_init_34 : decode cX2_init 34 = .ok (.newarray .int, 2) := by decide +kernel
theorem dX2_init_36 : decode cX2_init 36 = .ok (.putfield 25, 3) := by decide +kernel
theorem dX2_init_39 : decode cX2_init 39 = .ok (.aload_n 0, 1) := by decide +kernel
theorem dX2_init_40 : decode cX2_init 40 = .ok (.bipush 11, 2) := by decide +kernel
theorem dX2_init_42 : decode cX2_init 42 = .ok (.anewarray 28, 3) := by decide +kernel
theorem dX2_init_45 : decode cX2_init 45 = .ok (.putfield 30, 3) := by decide +kernel
theorem dX2_init_48 : decode cX2_init 48 = .ok (.aload_n 0, 1) := by decide +kernel
theorem dX2_init_49 : decode cX2_init 49 = .ok (.new 28, 3) := by decide +kernel
theorem dX2_init_52 : decode cX2_init 52 = .ok (.dup, 1) := by decide +kernel
theorem dX2_init_53 : decode cX2_init 53 = .ok (.invokespecial 34, 3) := by decide +kernel
theorem dX2_init_56 : decode cX2_init 56 = .ok (.putfield 35, 3) := by decide +kernel
theorem dX2_init_59 : decode cX2_init 59 = .ok (.aload_n 0, 1) := by decide +kernel
theorem dX2_init_60 : decode cX2_init 60 = .ok (.new 28, 3) := by decide +kernel
theorem dX2_init_63 : decode cX2_init 63 = .ok (.dup, 1) := by decide +kernel
theorem dX2_init_64 : decode cX2_init 64 = .ok (.invokespecial 34, 3) := by decide +kernel
theorem dX2_init_67 : decode cX2_init 67 = .ok (.putfield 39, 3) := by decide +kernel
theorem dX2_init_70 : decode cX2_init 70 = .ok (.aload_n 0, 1) := by decide +kernel
theorem dX2_init_71 : decode cX2_init 71 = .ok (.new 28, 3) := by decide +kernel
theorem dX2_init_74 : decode cX2_init 74 = .ok (.dup, 1) := by decide +kernel
theorem dX2_init_75 : decode cX2_init 75 = .ok (.invokespecial 34, 3) := by decide +kernel
theorem dX2_init_78 : decode cX2_init 78 = .ok (.putfield 42, 3) := by decide +kernel
theorem dX2_init_81 : decode cX2_init 81 = .ok (.aload_n 0, 1) := by decide +kernel
theorem dX2_init_82 : decode cX2_init 82 = .ok (.new 28, 3) := by decide +kernel
theorem dX2_init_85 : decode cX2_init 85 = .ok (.dup, 1) := by decide +kernel
theorem dX2_init_86 : decode cX2_init 86 = .ok (.invokespecial 34, 3) := by decide +kernel
theorem dX2_init_89 : decode cX2_init 89 = .ok (.putfield 45, 3) := by decide +kernel
theorem dX2_init_92 : decode cX2_init 92 = .ok (.aload_n 0, 1) := by decide +kernel
theorem dX2_init_93 : decode cX2_init 93 = .ok (.new 28, 3) := by decide +kernel
theorem dX2_init_96 : decode cX2_init 96 = .ok (.dup, 1) := by decide +kernel
theorem dX2_init_97 : decode cX2_init 97 = .ok (.invokespecial 34, 3) := by decide +kernel
theorem dX2_init_100 : decode cX2_init 100 = .ok (.putfield 48, 3) := by decide +kernel
theorem dX2_init_103 : decode cX2_init 103 = .ok (.iconst 0, 1) := by decide +kernel
theorem dX2_init_104 : decode cX2_init 104 = .ok (.istore_n 1, 1) := by decide +kernel
theorem dX2_init_105 : decode cX2_init 105 = .ok (.iload_n 1, 1) := by decide +kernel
theorem dX2_init_106 : decode cX2_init 106 = .ok (.aload_n 0, 1) := by decide +kernel
theorem dX2_init_107 : decode cX2_init 107 = .ok (.getfield 30, 3) := by decide +kernel
theorem dX2_init_110 : decode cX2_init 110 = .ok (.arraylength, 1) := by decide +kernel
theorem dX2_init_111 : decode cX2_init 111 = .ok (.if_icmp .ge 22, 3) := by decide +kernel
theorem dX2_init_114 : decode cX2_init 114 = .ok (.aload_n 0, 1) := by decide +kernel
theorem dX2_init_115 : decode cX2_init 115 = .ok (.getfield 30, 3) := by decide +kernel
theorem dX2_init_118 : decode cX2_init 118 = .ok (.iload_n 1, 1) := by decide +kernel
theorem dX2_init_119 : decode cX2_init 119 = .ok (.new 28, 3) := by decide +kernel
theorem dX2_init_122 : decode cX2_init 122 = .ok (.dup, 1) := by decide +kernel
theorem dX2_init_123 : decode cX2_init 123 = .ok (.invokespecial 34, 3) := by decide +kernel
theorem dX2_init_126 : decode cX2_init 126 = .ok (.aastore, 1) := by decide +kernel
theorem dX2_init_127 : decode cX2_init 127 = .ok (.iinc 1 1, 3) := by decide +kernel
theorem dX2_init_130 : decode cX2_init 130 = .ok (.goto (-25), 3) := by decide +kernel
theorem dX2_init_133 : decode cX2_init 133 = .ok (.return_, 1) := by decide +kernel
set_option maxRecDepth 20000 in
theorem ggX2_size_X3_size : GoodIn wsX2_size wsX3_size := goodIn_r _ [6, 7, 18, 19, 20] (by decide +kernel) (by decide +kernel)
set_option maxRecDepth 20000 in
theorem gX2_size_X3_size : GoodIn wsX2_size (wsV RX2 51 RX3 yX3_size wsX3_size) := goodIn_app (goodIn_of _ (by decide +kernel)) ggX2_size_X3_size
theorem dX2_size_0 : decode cX2_size 0 = .ok (.aload_n 0, 1) := by decide +kernel
theorem dX2_size_1 : decode cX2_size 1 = .ok (.getfield 12, 3) := by decide +kernel
theorem dX2_size_4 : decode cX2_size 4 = .ok (.invokevirtual 51, 3) := by decide +kernel
theorem dX2_size_7 : decode cX2_size 7 = .ok (.ireturn, 1) := by decide +kernel
set_option maxRecDepth 20000 in
theorem ggX2_join_X3_size : GoodIn wsX2_join wsX3_size := goodIn_r _ [7, 8, 24, 25, 26] (by decide +kernel) (by decide +kernel)
set_option maxRecDepth 20000 in
theorem gX2_join_X3_size : GoodIn wsX2_join (wsV RX2 51 RX3 yX3_size wsX3_size) := goodIn_app (goodIn_of _ (by decide +kernel)) ggX2_join_X3_size
set_option maxRecDepth 20000 in
theorem ggX2_join_X3_join : GoodIn wsX2_join wsX3_join := goodIn_r _ [12, 8, 13, 24, 25, 26] (by decide +kernel) (by decide +kernel)
set_option maxRecDepth 20000 in
theorem gX2_join_X3_join : GoodIn wsX2_join (wsV RX2 55 RX3 yX3_join wsX3_join) := goodIn_app (goodIn_of _ (by decide +kernel)) ggX2_join_X3_join
theorem dX2_join_0 : decode cX2_join 0 = .ok (.aload_n 0, 1) := by decide +kernel
theorem dX2_join_1 : decode cX2_join 1 = .ok (.getfield 12, 3) := by decide +kernel
theorem dX2_join_4 : decode cX2_join 4 = .ok (.invokevirtual 51, 3) := by decide +kernel
theorem dX2_join_7 : decode cX2_join 7 = .ok (.istore_n 2, 1) := by decide +kernel
theorem dX2_join_8 : decode cX2_join 8 = .ok (.iload_n 2, 1) := by decide +kernel
theorem dX2_join_9 : decode cX2_join 9 = .ok (.bipush 10, 2) := by decide +kernel
theorem dX2_join_11 : decode cX2_join 11 = .ok (.if_icmp .lt 6, 3) := by decide +kernel
theorem dX2_join_14 : decode cX2_join 14 = .ok (.bipush (-8), 2) := by decide +kernel
theorem dX2_join_16 : decode cX2_join 16 = .ok (.ireturn, 1) := by decide +kernel
theorem dX2_join_17 : decode cX2_join 17 = .ok (.aload_n 0, 1) := by decide +kernel
theorem dX2_join_18 : decode cX2_join 18 = .ok (.getfield 12, 3) := by decide +kernel
theorem dX2_join_21 : decode cX2_join 21 = .ok (.aload_n 1, 1) := by decide +kernel
theorem dX2_join_22 : decode cX2_join 22 = .ok (.invokevirtual 55, 3) := by decide +kernel
theorem dX2_join_25 : decode cX2_join 25 = .ok (.aload_n 0, 1) := by decide +kernel
theorem dX2_join_26 : decode cX2_join 26 = .ok (.getfield 18, 3) := by decide +kernel
theorem dX2_join_29 : decode cX2_join 29 = .ok (.iload_n 2, 1) := by decide +kernel
theorem dX2_join_30 : decode cX2_join 30 = .ok (.iconst 0, 1) := by decide +kernel
theorem dX2_join_31 : decode cX2_join 31 = .ok (.iastore, 1) := by decide +kernel
theorem dX2_join_32 : decode cX2_join 32 = .ok (.iload_n 2, 1) := by decide +kernel
theorem dX2_join_33 : decode cX2_join 33 = .ok (.ireturn, 1) := by decide +kernel
set_option maxRecDepth 20000 in
theorem ggX2_clear_X3_size : GoodIn wsX2_clear wsX3_size := goodIn_r _ [6, 7, 22, 23, 24] (by decide +kernel) (by decide +kernel)
set_option maxRecDepth 20000 in
theorem gX2_clear_X3_size : GoodIn wsX2_clear (wsV RX2 51 RX3 yX3_size wsX3_size) := goodIn_app (goodIn_of _ (by decide +kernel)) ggX2_clear_X3_size
set_option maxRecDepth 20000 in
theorem ggX2_clear_X3_clear : GoodIn wsX2_clear wsX3_clear := goodIn_r _ [11, 7, 22, 23, 24] (by decide +kernel) (by decide +kernel)
set_option maxRecDepth 20000 in
theorem gX2_clear_X3_clear : GoodIn wsX2_clear (wsV RX2 59 RX3 yX3_clear wsX3_clear) := goodIn_app (goodIn_of _ (by decide +kernel)) ggX2_clear_X3_clear
theorem dX2_clear_0 : decode cX2_clear 0 = .ok (.aload_n 0, 1) := by decide +kernel
theorem dX2_clear_1 : decode cX2_clear 1 = .ok (.getfield 12, 3) := by decide +kernel
theorem dX2_clear_4 : decode cX2_clear 4 = .ok (.invokevirtual 51, 3) := by decide +kernel
theorem dX2_clear_7 : decode cX2_clear 7 = .ok (.istore_n 1, 1) := by decide +kernel
theorem dX2_clear_8 : decode cX2_clear 8 = .ok (.aload_n 0, 1) := by decide +kernel
theorem dX2_clear_9 : decode cX2_clear 9 = .ok (.getfield 12, 3) := by decide +kernel
theorem dX2_clear_12 : decode cX2_clear 12 = .ok (.invokevirtual 59, 3) := by decide +kernel
theorem dX2_clear_15 : decode cX2_clear 15 = .ok (.iload_n 1, 1) := by decide +kernel
theorem dX2_clear_16 : decode cX2_clear 16 = .ok (.ireturn, 1) := by decide +kernel
set_option maxRecDepth 20000 in
theorem ggX2_setBar_X10_isWithin : GoodIn wsX2_setBar wsX10_isWithin := goodIn_r _ [5] (by decide +kernel) (by decide +kernel)
set_option maxRecDepth 20000 in
theorem gX2_setBar_X10_isWithin_n64 : GoodIn wsX2_setBar (wsX10_isWithin) := ggX2_setBar_X10_isWithin
theorem dX2_setBar_0 : decode cX2_setBar 0 = .ok (.iload_n 1, 1) := by decide +kernel
theorem dX2_setBar_1 : decode cX2_setBar 1 = .ok (.i2l, 1) := by decide +kernel
theorem dX2_setBar_2 : decode cX2_setBar 2 = .ok (.lconst 0, 1) := by decide +kernel
theorem dX2_setBar_3 : decode cX2_setBar 3 = .ok (.ldc2_w 62, 3) := by decide +kernel
theorem dX2_setBar_6 : decode cX2_setBar 6 = .ok (.invokestatic 64, 3) := by decide +kernel
theorem dX2_setBar_9 : decode cX2_setBar 9 = .ok (.ifCond .eq 10, 3) := by decide +kernel
theorem dX2_setBar_12 : decode cX2_setBar 12 = .ok (.aload_n 0, 1) := by decide +kernel
theorem dX2_setBar_13 : decode cX2_setBar 13 = .ok (.getfield 18, 3) := by decide +kernel
theorem dX2_setBar_16 : decode cX2_setBar 16 = .ok (.iload_n 1, 1) := by decide +kernel
theorem dX2_setBar_17 : decode cX2_setBar 17 = .ok (.iload_n 2, 1) := by decide +kernel
theorem dX2_setBar_18 : decode cX2_setBar 18 = .ok (.iastore, 1) := by decide +kernel
theorem dX2_setBar_19 : decode cX2_setBar 19 = .ok (.return_, 1) := by decide +kernel
set_option maxRecDepth 20000 in
theorem ggX2_followTold_X2_follow : GoodIn wsX2_followTold wsX2_follow := goodIn_r _ [8, 3, 9, 2, 10, 11, 12, 13, 14, 15, 16, 17, 18, 19, 20, 21, 22, 23, 24, 25, 26, 27, 28, 29, 30, 31, 32, 33, 34, 35, 36, 37, 38, 39, 40, 41, 42, 43, 44, 45, 46, 47, 48, 49, 50, 51, 52, 53, 54, 55, 56, 57, 58, 59, 60, 61, 62, 63, 111, 112, 113, 114, 115, 116, 117, 118, 119, 120, 121, 122, 123, 124, 125, 126, 127, 128] (by decide +kernel) (by decide +kernel)
set_option maxRecDepth 20000 in
theorem gX2_followTold_X2_follow : GoodIn wsX2_followTold (wsV RX2 68 RX2 yX2_follow wsX2_follow) := goodIn_app (goodIn_of _ (by decide +kernel)) ggX2_followTold_X2_follow
set_option maxRecDepth 20000 in
theorem ggX2_followTold_X3_divide : GoodIn wsX2_followTold wsX3_divide := goodIn_r _ [67, 29, 68, 69, 70, 71, 72, 73, 74, 75, 76, 77, 78, 17, 79, 22, 80, 81, 82, 83, 84, 15, 16, 18, 19, 20, 12, 21, 23, 85, 86, 87, 88, 89, 90, 91, 92, 93, 31, 32, 27, 33, 34, 35, 36, 37, 38, 94, 60, 61, 42, 62, 63, 95, 96, 97, 98, 99, 100, 101, 102, 103, 104, 105, 106, 107, 108, 109, 110, 48, 49, 50, 122, 123, 124, 129, 130, 131, 132, 133, 121, 125, 126, 127, 128] (by decide +kernel) (by decide +kernel)
set_option maxRecDepth 20000 in
theorem gX2_followTold_X3_divide : GoodIn wsX2_followTold (wsV RX2 72 RX3 yX3_divide wsX3_divide) := goodIn_app (goodIn_of _ (by decide +kernel)) ggX2_followTold_X3_divide
theorem dX2_followTold_0 : decode cX2_followTold 0 = .ok (.aload_n 0, 1) := by decide +kernel
theorem dX2_followTold_1 : decode cX2_followTold 1 = .ok (.aload_n 0, 1) := by decide +kernel
theorem dX2_followTold_2 : decode cX2_followTold 2 = .ok (.getfield 18, 3) := by decide +kernel
theorem dX2_followTold_5 : decode cX2_followTold 5 = .ok (.invokevirtual 68, 3) := by decide +kernel
theorem dX2_followTold_8 : decode cX2_followTold 8 = .ok (.aload_n 0, 1) := by decide +kernel
theorem dX2_followTold_9 : decode cX2_followTold 9 = .ok (.getfield 12, 3) := by decide +kernel
theorem dX2_followTold_12 : decode cX2_followTold 12 = .ok (.aload_n 0, 1) := by decide +kernel
theorem dX2_followTold_13 : decode cX2_followTold 13 = .ok (.getfield 35, 3) := by decide +kernel
theorem dX2_followTold_16 : decode cX2_followTold 16 = .ok (.aload_n 1, 1) := by decide +kernel
theorem dX2_followTold_17 : decode cX2_followTold 17 = .ok (.invokevirtual 72, 3) := by decide +kernel
theorem dX2_followTold_20 : decode cX2_followTold 20 = .ok (.return_, 1) := by decide +kernel
set_option maxRecDepth 20000 in
theorem ggX2_follow_X5_put : GoodIn wsX2_follow wsX5_put := goodIn_r _ [12, 13, 14, 6, 15, 16, 17, 68] (by decide +kernel) (by decide +kernel)
set_option maxRecDepth 20000 in
theorem gX2_follow_X5_put : GoodIn wsX2_follow (wsV RX2 76 RX5 yX5_put wsX5_put) := goodIn_app (goodIn_of _ (by decide +kernel)) ggX2_follow_X5_put
set_option maxRecDepth 20000 in
theorem ggX2_follow_X3_size : GoodIn wsX2_follow wsX3_size := goodIn_r _ [22, 23, 69, 70, 71] (by decide +kernel) (by decide +kernel)
set_option maxRecDepth 20000 in
theorem gX2_follow_X3_size : GoodIn wsX2_follow (wsV RX2 51 RX3 yX3_size wsX3_size) := goodIn_app (goodIn_of _ (by decide +kernel)) ggX2_follow_X3_size
set_option maxRecDepth 20000 in
theorem ggX2_follow_X3_at : GoodIn wsX2_follow wsX3_at := goodIn_r _ [27, 23, 28, 29, 30, 31, 32, 69, 70, 71] (by decide +kernel) (by decide +kernel)
set_option maxRecDepth 20000 in
theorem gX2_follow_X3_at : GoodIn wsX2_follow (wsV RX2 86 RX3 yX3_at wsX3_at) := goodIn_app (goodIn_of _ (by decide +kernel)) ggX2_follow_X3_at
set_option maxRecDepth 20000 in
theorem ggX2_follow_X0_below : GoodIn wsX2_follow wsX0_below := goodIn_r _ [37, 38, 39, 40, 72, 73, 74, 75] (by decide +kernel) (by decide +kernel)
set_option maxRecDepth 20000 in
theorem gX2_follow_X0_below : GoodIn wsX2_follow (wsV RX2 90 RX0 yX0_below wsX0_below) := goodIn_app (goodIn_of _ (by decide +kernel)) ggX2_follow_X0_below
set_option maxRecDepth 20000 in
theorem ggX2_follow_X5_times : GoodIn wsX2_follow wsX5_times := goodIn_r _ [44, 16, 17, 68] (by decide +kernel) (by decide +kernel)
set_option maxRecDepth 20000 in
theorem gX2_follow_X5_times : GoodIn wsX2_follow (wsV RX2 96 RX5 yX5_times wsX5_times) := goodIn_app (goodIn_of _ (by decide +kernel)) ggX2_follow_X5_times
set_option maxRecDepth 20000 in
theorem ggX2_follow_X0_gathered : GoodIn wsX2_follow wsX0_gathered := goodIn_r _ [48, 38, 39, 40, 72, 73, 74, 75] (by decide +kernel) (by decide +kernel)
set_option maxRecDepth 20000 in
theorem gX2_follow_X0_gathered : GoodIn wsX2_follow (wsV RX2 99 RX0 yX0_gathered wsX0_gathered) := goodIn_app (goodIn_of _ (by decide +kernel)) ggX2_follow_X0_gathered
set_option maxRecDepth 20000 in
theorem ggX2_follow_X5_addTimes : GoodIn wsX2_follow wsX5_addTimes := goodIn_r _ [52, 16, 17, 68] (by decide +kernel) (by decide +kernel)
set_option maxRecDepth 20000 in
theorem gX2_follow_X5_addTimes : GoodIn wsX2_follow (wsV RX2 102 RX5 yX5_addTimes wsX5_addTimes) := goodIn_app (goodIn_of _ (by decide +kernel)) ggX2_follow_X5_addTimes
set_option maxRecDepth 20000 in
theorem ggX2_follow_X0_total : GoodIn wsX2_follow wsX0_total := goodIn_r _ [56, 57, 72, 73, 74, 75] (by decide +kernel) (by decide +kernel)
set_option maxRecDepth 20000 in
theorem gX2_follow_X0_total : GoodIn wsX2_follow (wsV RX2 106 RX0 yX0_total wsX0_total) := goodIn_app (goodIn_of _ (by decide +kernel)) ggX2_follow_X0_total
theorem dX2_follow_0 : decode cX2_follow 0 = .ok (.aload_n 0, 1) := by decide +kernel
theorem dX2_follow_1 : decode cX2_follow 1 = .ok (.getfield 35, 3) := by decide +kernel
theorem dX2_follow_4 : decode cX2_follow 4 = .ok (.lconst 0, 1) := by decide +kernel
theorem dX2_follow_5 : decode cX2_follow 5 = .ok (.invokevirtual 76, 3) := by decide +kernel
theorem dX2_follow_8 : decode cX2_follow 8 = .ok (.aload_n 0, 1) := by decide +kernel
theorem dX2_follow_9 : decode cX2_follow 9 = .ok (.getfield 39, 3) := by decide +kernel
theorem dX2_follow_12 : decode cX2_follow 12 = .ok (.lconst 1, 1) := by decide +kernel
theorem dX2_follow_13 : decode cX2_follow 13 = .ok (.invokevirtual 76, 3) := by decide +kernel
theorem dX2_follow_16 : decode cX2_follow 16 = .ok (.aload_n 0, 1) := by decide +kernel
theorem dX2_follow_17 : decode cX2_follow 17 = .ok (.getfield 12, 3) := by decide +kernel
theorem dX2_follow_20 : decode cX2_follow 20 = .ok (.invokevirtual 51, 3) := by decide +kernel
theorem dX2_follow_23 : decode cX2_follow 23 = .ok (.aload_n 1, 1) := by decide +kernel
theorem dX2_follow_24 : decode cX2_follow 24 = .ok (.arraylength, 1) := by decide +kernel
theorem dX2_follow_25 : decode cX2_follow 25 = .ok (.invokestatic 80, 3) := by decide +kernel
theorem dX2_follow_28 : decode cX2_follow 28 = .ok (.iconst 1, 1) := by decide +kernel
theorem dX2_follow_29 : decode cX2_follow 29 = .ok (.isub, 1) := by decide +kernel
theorem dX2_follow_30 : decode cX2_follow 30 = .ok (.istore_n 2, 1) := by decide +kernel
theorem dX2_follow_31 : decode cX2_follow 31 = .ok (.iload_n 2, 1) := by decide +kernel
theorem dX2_follow_32 : decode cX2_follow 32 = .ok (.ifCond .lt 64, 3) := by decide +kernel
theorem dX2_follow_35 : decode cX2_follow 35 = .ok (.aload_n 0, 1) := by decide +kernel
theorem dX2_follow_36 : decode cX2_follow 36 = .ok (.getfield 12, 3) := by decide +kernel
theorem dX2_follow_39 : decode cX2_follow 39 = .ok (.iload_n 2, 1) := by decide +kernel
theorem dX2_follow_40 : decode cX2_follow 40 = .ok (.invokevirtual 86, 3) := by decide +kernel
theorem dX2_follow_43 : decode cX2_follow 43 = .ok (.astore_n 3, 1) := by decide +kernel
theorem dX2_follow_44 : decode cX2_follow 44 = .ok (.aload_n 0, 1) := by decide +kernel
theorem dX2_follow_45 : decode cX2_follow 45 = .ok (.getfield 35, 3) := by decide +kernel
theorem dX2_follow_48 : decode cX2_follow 48 = .ok (.aload_n 3, 1) := by decide +kernel
theorem dX2_follow_49 : decode cX2_follow 49 = .ok (.aload_n 1, 1) := by decide +kernel
theorem dX2_follow_50 : decode cX2_follow 50 = .ok (.iload_n 2, 1) := by decide +kernel
theorem dX2_follow_51 : decode cX2_follow 51 = .ok (.iaload, 1) := by decide +kernel
theorem dX2_follow_52 : decode cX2_follow 52 = .ok (.invokevirtual 90, 3) := by decide +kernel
theorem dX2_follow_55 : decode cX2_follow 55 = .ok (.i2l, 1) := by decide +kernel
theorem dX2_follow_56 : decode cX2_follow 56 = .ok (.invokevirtual 96, 3) := by decide +kernel
theorem dX2_follow_59 : decode cX2_follow 59 = .ok (.aload_n 0, 1) := by decide +kernel
theorem dX2_follow_60 : decode cX2_follow 60 = .ok (.getfield 35, 3) := by decide +kernel
theorem dX2_follow_63 : decode cX2_follow 63 = .ok (.aload_n 0, 1) := by decide +kernel
theorem dX2_follow_64 : decode cX2_follow 64 = .ok (.getfield 39, 3) := by decide +kernel
theorem dX2_follow_67 : decode cX2_follow 67 = .ok (.aload_n 3, 1) := by decide +kernel
theorem dX2_follow_68 : decode cX2_follow 68 = .ok (.aload_n 1, 1) := by decide +kernel
theorem dX2_follow_69 : decode cX2_follow 69 = .ok (.iload_n 2, 1) := by decide +kernel
theorem dX2_follow_70 : decode cX2_follow 70 = .ok (.iaload, 1) := by decide +kernel
theorem dX2_follow_71 : decode cX2_follow 71 = .ok (.invokevirtual 99, 3) := by decide +kernel
theorem dX2_follow_74 : decode cX2_follow 74 = .ok (.i2l, 1) := by decide +kernel
theorem dX2_follow_75 : decode cX2_follow 75 = .ok (.invokevirtual 102, 3) := by decide +kernel
theorem dX2_follow_78 : decode cX2_follow 78 = .ok (.aload_n 0, 1) := by decide +kernel
theorem dX2_follow_79 : decode cX2_follow 79 = .ok (.getfield 39, 3) := by decide +kernel
theorem dX2_follow_82 : decode cX2_follow 82 = .ok (.aload_n 3, 1) := by decide +kernel
theorem dX2_follow_83 : decode cX2_follow 83 = .ok (.invokevirtual 106, 3) := by decide +kernel
theorem dX2_follow_86 : decode cX2_follow 86 = .ok (.i2l, 1) := by decide +kernel
theorem dX2_follow_87 : decode cX2_follow 87 = .ok (.invokevirtual 96, 3) := by decide +kernel
theorem dX2_follow_90 : decode cX2_follow 90 = .ok (.iinc 2 (-1), 3) := by decide +kernel
theorem dX2_follow_93 : decode cX2_follow 93 = .ok (.goto (-62), 3) := by decide +kernel
theorem dX2_follow_96 : decode cX2_follow 96 = .ok (.return_, 1) := by decide +kernel
set_option maxRecDepth 20000 in
theorem ggX2_chooseUpTo_X2_choose : GoodIn wsX2_chooseUpTo wsX2_choose := goodIn_r _ [8, 2, 9, 1, 10, 11, 12, 13, 14, 15, 16, 17, 18, 19, 20, 21, 22, 23, 24, 25, 26, 27, 28, 29, 30, 31, 32, 33, 34, 35, 36, 37, 38, 39, 40, 41, 42, 7, 43, 44, 45, 46, 47, 48, 49, 50, 51, 52, 53, 54, 55, 56, 57, 58, 59, 60, 61, 62, 63, 64, 65, 66, 67, 68, 69, 70, 71, 72, 73, 74, 75, 76, 77, 78, 79, 80, 81, 82, 83, 84, 85, 86, 87, 88, 89, 90, 91, 92, 93, 134, 135, 136, 137, 138, 139, 140, 141, 142, 143, 144, 145, 146, 147, 148, 149, 150, 151] (by decide +kernel) (by decide +kernel)
set_option maxRecDepth 20000 in
theorem gX2_chooseUpTo_X2_choose : GoodIn wsX2_chooseUpTo (wsV RX2 109 RX2 yX2_choose wsX2_choose) := goodIn_app (goodIn_of _ (by decide +kernel)) ggX2_chooseUpTo_X2_choose
set_option maxRecDepth 20000 in
theorem ggX2_chooseUpTo_X10_isWithin : GoodIn wsX2_chooseUpTo wsX10_isWithin := goodIn_r _ [39] (by decide +kernel) (by decide +kernel)
set_option maxRecDepth 20000 in
theorem gX2_chooseUpTo_X10_isWithin_n64 : GoodIn wsX2_chooseUpTo (wsX10_isWithin) := ggX2_chooseUpTo_X10_isWithin
set_option maxRecDepth 20000 in
theorem ggX2_chooseUpTo_X3_divide : GoodIn wsX2_chooseUpTo wsX3_divide := goodIn_r _ [97, 30, 98, 99, 100, 101, 102, 103, 104, 105, 106, 57, 58, 18, 59, 23, 60, 61, 62, 63, 107, 16, 17, 19, 20, 21, 12, 22, 24, 108, 109, 110, 111, 112, 113, 114, 115, 116, 32, 33, 28, 34, 35, 36, 37, 38, 39, 117, 86, 87, 52, 88, 89, 118, 119, 120, 121, 122, 123, 124, 125, 126, 127, 128, 129, 130, 131, 132, 133, 82, 83, 84, 145, 146, 147, 152, 153, 154, 155, 156, 144, 148, 149, 150, 151] (by decide +kernel) (by decide +kernel)
set_option maxRecDepth 20000 in
theorem gX2_chooseUpTo_X3_divide : GoodIn wsX2_chooseUpTo (wsV RX2 72 RX3 yX3_divide wsX3_divide) := goodIn_app (goodIn_of _ (by decide +kernel)) ggX2_chooseUpTo_X3_divide
theorem dX2_chooseUpTo_0 : decode cX2_chooseUpTo 0 = .ok (.aload_n 0, 1) := by decide +kernel
theorem dX2_chooseUpTo_1 : decode cX2_chooseUpTo 1 = .ok (.iload_n 1, 1) := by decide +kernel
theorem dX2_chooseUpTo_2 : decode cX2_chooseUpTo 2 = .ok (.invokevirtual 109, 3) := by decide +kernel
theorem dX2_chooseUpTo_5 : decode cX2_chooseUpTo 5 = .ok (.aload_n 0, 1) := by decide +kernel
theorem dX2_chooseUpTo_6 : decode cX2_chooseUpTo 6 = .ok (.getfield 12, 3) := by decide +kernel
theorem dX2_chooseUpTo_9 : decode cX2_chooseUpTo 9 = .ok (.aload_n 0, 1) := by decide +kernel
theorem dX2_chooseUpTo_10 : decode cX2_chooseUpTo 10 = .ok (.getfield 30, 3) := by decide +kernel
theorem dX2_chooseUpTo_13 : decode cX2_chooseUpTo 13 = .ok (.iload_n 1, 1) := by decide +kernel
theorem dX2_chooseUpTo_14 : decode cX2_chooseUpTo 14 = .ok (.i2l, 1) := by decide +kernel
theorem dX2_chooseUpTo_15 : decode cX2_chooseUpTo 15 = .ok (.lconst 0, 1) := by decide +kernel
theorem dX2_chooseUpTo_16 : decode cX2_chooseUpTo 16 = .ok (.ldc2_w 113, 3) := by decide +kernel
theorem dX2_chooseUpTo_19 : decode cX2_chooseUpTo 19 = .ok (.invokestatic 64, 3) := by decide +kernel
theorem dX2_chooseUpTo_22 : decode cX2_chooseUpTo 22 = .ok (.ifCond .eq 7, 3) := by decide +kernel
theorem dX2_chooseUpTo_25 : decode cX2_chooseUpTo 25 = .ok (.iload_n 1, 1) := by decide +kernel
theorem dX2_chooseUpTo_26 : decode cX2_chooseUpTo 26 = .ok (.goto 4, 3) := by decide +kernel
theorem dX2_chooseUpTo_29 : decode cX2_chooseUpTo 29 = .ok (.iconst 0, 1) := by decide +kernel
theorem dX2_chooseUpTo_30 : decode cX2_chooseUpTo 30 = .ok (.aaload, 1) := by decide +kernel
theorem dX2_chooseUpTo_31 : decode cX2_chooseUpTo 31 = .ok (.aload_n 2, 1) := by decide +kernel
theorem dX2_chooseUpTo_32 : decode cX2_chooseUpTo 32 = .ok (.invokevirtual 72, 3) := by decide +kernel
theorem dX2_chooseUpTo_35 : decode cX2_chooseUpTo 35 = .ok (.return_, 1) := by decide +kernel
set_option maxRecDepth 20000 in
theorem ggX2_bestBar_X2_choose : GoodIn wsX2_bestBar wsX2_choose := goodIn_r _ [7, 8, 9, 10, 11, 12, 13, 14, 2, 15, 16, 17, 18, 19, 20, 21, 22, 23, 24, 25, 26, 27, 28, 29, 30, 31, 32, 33, 34, 35, 36, 37, 38, 39, 40, 41, 42, 6, 43, 44, 45, 46, 47, 48, 49, 50, 51, 52, 53, 54, 55, 56, 57, 58, 59, 60, 61, 62, 63, 64, 65, 66, 67, 68, 69, 70, 71, 72, 73, 74, 75, 76, 77, 78, 79, 80, 81, 82, 83, 84, 85, 86, 87, 88, 89, 90, 91, 92, 93, 94, 95, 96, 97, 98, 99, 100, 101, 102, 103, 104, 105, 106, 107, 108, 109, 110, 111] (by decide +kernel) (by decide +kernel)
set_option maxRecDepth 20000 in
theorem gX2_bestBar_X2_choose : GoodIn wsX2_bestBar (wsV RX2 109 RX2 yX2_choose wsX2_choose) := goodIn_app (goodIn_of _ (by decide +kernel)) ggX2_bestBar_X2_choose
set_option maxRecDepth 20000 in
theorem ggX2_bestBar_X10_isWithin : GoodIn wsX2_bestBar wsX10_isWithin := goodIn_r _ [39] (by decide +kernel) (by decide +kernel)
set_option maxRecDepth 20000 in
theorem gX2_bestBar_X10_isWithin_n64 : GoodIn wsX2_bestBar (wsX10_isWithin) := ggX2_bestBar_X10_isWithin
theorem dX2_bestBar_0 : decode cX2_bestBar 0 = .ok (.aload_n 0, 1) := by decide +kernel
theorem dX2_bestBar_1 : decode cX2_bestBar 1 = .ok (.iconst 1, 1) := by decide +kernel
theorem dX2_bestBar_2 : decode cX2_bestBar 2 = .ok (.invokevirtual 109, 3) := by decide +kernel
theorem dX2_bestBar_5 : decode cX2_bestBar 5 = .ok (.iload_n 1, 1) := by decide +kernel
theorem dX2_bestBar_6 : decode cX2_bestBar 6 = .ok (.i2l, 1) := by decide +kernel
theorem dX2_bestBar_7 : decode cX2_bestBar 7 = .ok (.lconst 0, 1) := by decide +kernel
theorem dX2_bestBar_8 : decode cX2_bestBar 8 = .ok (.ldc2_w 62, 3) := by decide +kernel
theorem dX2_bestBar_11 : decode cX2_bestBar 11 = .ok (.invokestatic 64, 3) := by decide +kernel
theorem dX2_bestBar_14 : decode cX2_bestBar 14 = .ok (.ifCond .eq 12, 3) := by decide +kernel
theorem dX2_bestBar_17 : decode cX2_bestBar 17 = .ok (.aload_n 0, 1) := by decide +kernel
theorem dX2_bestBar_18 : decode cX2_bestBar 18 = .ok (.getfield 22, 3) := by decide +kernel
theorem dX2_bestBar_21 : decode cX2_bestBar 21 = .ok (.iload_n 1, 1) := by decide +kernel
theorem dX2_bestBar_22 : decode cX2_bestBar 22 = .ok (.iaload, 1) := by decide +kernel
theorem dX2_bestBar_23 : decode cX2_bestBar 23 = .ok (.goto 4, 3) := by decide +kernel
theorem dX2_bestBar_26 : decode cX2_bestBar 26 = .ok (.iconst (-1), 1) := by decide +kernel
theorem dX2_bestBar_27 : decode cX2_bestBar 27 = .ok (.ireturn, 1) := by decide +kernel
set_option maxRecDepth 20000 in
theorem ggX2_choose_X5_put : GoodIn wsX2_choose wsX5_put := goodIn_r _ [13, 14, 15, 6, 16, 17, 18, 99] (by decide +kernel) (by decide +kernel)
set_option maxRecDepth 20000 in
theorem gX2_choose_X5_put : GoodIn wsX2_choose (wsV RX2 76 RX5 yX5_put wsX5_put) := goodIn_app (goodIn_of _ (by decide +kernel)) ggX2_choose_X5_put
set_option maxRecDepth 20000 in
theorem ggX2_choose_X3_size : GoodIn wsX2_choose wsX3_size := goodIn_r _ [23, 24, 100, 101, 102] (by decide +kernel) (by decide +kernel)
set_option maxRecDepth 20000 in
theorem gX2_choose_X3_size : GoodIn wsX2_choose (wsV RX2 51 RX3 yX3_size wsX3_size) := goodIn_app (goodIn_of _ (by decide +kernel)) ggX2_choose_X3_size
set_option maxRecDepth 20000 in
theorem ggX2_choose_X3_at : GoodIn wsX2_choose wsX3_at := goodIn_r _ [28, 24, 29, 30, 31, 32, 33, 100, 101, 102] (by decide +kernel) (by decide +kernel)
set_option maxRecDepth 20000 in
theorem gX2_choose_X3_at : GoodIn wsX2_choose (wsV RX2 86 RX3 yX3_at wsX3_at) := goodIn_app (goodIn_of _ (by decide +kernel)) ggX2_choose_X3_at
set_option maxRecDepth 20000 in
theorem ggX2_choose_X2_chooseAt : GoodIn wsX2_choose wsX2_chooseAt := goodIn_r _ [38, 2, 39, 40, 41, 37, 42, 43, 44, 45, 46, 47, 48, 49, 50, 51, 52, 53, 12, 54, 17, 55, 56, 57, 58, 59, 60, 61, 62, 18, 63, 64, 65, 66, 67, 68, 69, 70, 71, 72, 73, 74, 75, 76, 77, 78, 79, 80, 81, 82, 83, 84, 85, 86, 87, 88, 89, 90, 91, 92, 93, 94, 95, 96, 97, 98, 103, 104, 105, 106, 99] (by decide +kernel) (by decide +kernel)
set_option maxRecDepth 20000 in
theorem gX2_choose_X2_chooseAt : GoodIn wsX2_choose (wsV RX2 115 RX2 yX2_chooseAt wsX2_chooseAt) := goodIn_app (goodIn_of _ (by decide +kernel)) ggX2_choose_X2_chooseAt
set_option maxRecDepth 20000 in
theorem ggX2_choose_X0_total : GoodIn wsX2_choose wsX0_total := goodIn_r _ [83, 84, 103, 104, 105, 106] (by decide +kernel) (by decide +kernel)
set_option maxRecDepth 20000 in
theorem gX2_choose_X0_total : GoodIn wsX2_choose (wsV RX2 106 RX0 yX0_total wsX0_total) := goodIn_app (goodIn_of _ (by decide +kernel)) ggX2_choose_X0_total
set_option maxRecDepth 20000 in
theorem ggX2_choose_X5_times : GoodIn wsX2_choose wsX5_times := goodIn_r _ [79, 17, 18, 99] (by decide +kernel) (by decide +kernel)
set_option maxRecDepth 20000 in
theorem gX2_choose_X5_times : GoodIn wsX2_choose (wsV RX2 96 RX5 yX5_times wsX5_times) := goodIn_app (goodIn_of _ (by decide +kernel)) ggX2_choose_X5_times
theorem dX2_choose_0 : decode cX2_choose 0 = .ok (.iconst 0, 1) := by decide +kernel
theorem dX2_choose_1 : decode cX2_choose 1 = .ok (.istore_n 2, 1) := by decide +kernel
theorem dX2_choose_2 : decode cX2_choose 2 = .ok (.iload_n 2, 1) := by decide +kernel
theorem dX2_choose_3 : decode cX2_choose 3 = .ok (.aload_n 0, 1) := by decide +kernel
theorem dX2_choose_4 : decode cX2_choose 4 = .ok (.getfield 30, 3) := by decide +kernel
theorem dX2_choose_7 : decode cX2_choose 7 = .ok (.arraylength, 1) := by decide +kernel
theorem dX2_choose_8 : decode cX2_choose 8 = .ok (.if_icmp .ge 19, 3) := by decide +kernel
theorem dX2_choose_11 : decode cX2_choose 11 = .ok (.aload_n 0, 1) := by decide +kernel
theorem dX2_choose_12 : decode cX2_choose 12 = .ok (.getfield 30, 3) := by decide +kernel
theorem dX2_choose_15 : decode cX2_choose 15 = .ok (.iload_n 2, 1) := by decide +kernel
theorem dX2_choose_16 : decode cX2_choose 16 = .ok (.aaload, 1) := by decide +kernel
theorem dX2_choose_17 : decode cX2_choose 17 = .ok (.lconst 0, 1) := by decide +kernel
theorem dX2_choose_18 : decode cX2_choose 18 = .ok (.invokevirtual 76, 3) := by decide +kernel
theorem dX2_choose_21 : decode cX2_choose 21 = .ok (.iinc 2 1, 3) := by decide +kernel
theorem dX2_choose_24 : decode cX2_choose 24 = .ok (.goto (-22), 3) := by decide +kernel
theorem dX2_choose_27 : decode cX2_choose 27 = .ok (.aload_n 0, 1) := by decide +kernel
theorem dX2_choose_28 : decode cX2_choose 28 = .ok (.getfield 39, 3) := by decide +kernel
theorem dX2_choose_31 : decode cX2_choose 31 = .ok (.lconst 1, 1) := by decide +kernel
theorem dX2_choose_32 : decode cX2_choose 32 = .ok (.invokevirtual 76, 3) := by decide +kernel
theorem dX2_choose_35 : decode cX2_choose 35 = .ok (.aload_n 0, 1) := by decide +kernel
theorem dX2_choose_36 : decode cX2_choose 36 = .ok (.getfield 12, 3) := by decide +kernel
theorem dX2_choose_39 : decode cX2_choose 39 = .ok (.invokevirtual 51, 3) := by decide +kernel
theorem dX2_choose_42 : decode cX2_choose 42 = .ok (.bipush 10, 2) := by decide +kernel
theorem dX2_choose_44 : decode cX2_choose 44 = .ok (.invokestatic 80, 3) := by decide +kernel
theorem dX2_choose_47 : decode cX2_choose 47 = .ok (.iconst 1, 1) := by decide +kernel
theorem dX2_choose_48 : decode cX2_choose 48 = .ok (.isub, 1) := by decide +kernel
theorem dX2_choose_49 : decode cX2_choose 49 = .ok (.istore_n 2, 1) := by decide +kernel
theorem dX2_choose_50 : decode cX2_choose 50 = .ok (.iload_n 2, 1) := by decide +kernel
theorem dX2_choose_51 : decode cX2_choose 51 = .ok (.ifCond .lt 77, 3) := by decide +kernel
theorem dX2_choose_54 : decode cX2_choose 54 = .ok (.aload_n 0, 1) := by decide +kernel
theorem dX2_choose_55 : decode cX2_choose 55 = .ok (.getfield 12, 3) := by decide +kernel
theorem dX2_choose_58 : decode cX2_choose 58 = .ok (.iload_n 2, 1) := by decide +kernel
theorem dX2_choose_59 : decode cX2_choose 59 = .ok (.invokevirtual 86, 3) := by decide +kernel
theorem dX2_choose_62 : decode cX2_choose 62 = .ok (.astore_n 3, 1) := by decide +kernel
theorem dX2_choose_63 : decode cX2_choose 63 = .ok (.iload_n 1, 1) := by decide +kernel
theorem dX2_choose_64 : decode cX2_choose 64 = .ok (.bipush 10, 2) := by decide +kernel
theorem dX2_choose_66 : decode cX2_choose 66 = .ok (.invokestatic 80, 3) := by decide +kernel
theorem dX2_choose_69 : decode cX2_choose 69 = .ok (.istore 4, 2) := by decide +kernel
theorem dX2_choose_71 : decode cX2_choose 71 = .ok (.iload 4, 2) := by decide +kernel
theorem dX2_choose_73 : decode cX2_choose 73 = .ok (.iconst 1, 1) := by decide +kernel
theorem dX2_choose_74 : decode cX2_choose 74 = .ok (.if_icmp .lt 36, 3) := by decide +kernel
theorem dX2_choose_77 : decode cX2_choose 77 = .ok (.aload_n 0, 1) := by decide +kernel
theorem dX2_choose_78 : decode cX2_choose 78 = .ok (.getfield 22, 3) := by decide +kernel
theorem dX2_choose_81 : decode cX2_choose 81 = .ok (.iload_n 2, 1) := by decide +kernel
theorem dX2_choose_82 : decode cX2_choose 82 = .ok (.aload_n 0, 1) := by decide +kernel
theorem dX2_choose_83 : decode cX2_choose 83 = .ok (.aload_n 3, 1) := by decide +kernel
theorem dX2_choose_84 : decode cX2_choose 84 = .ok (.aload_n 0, 1) := by decide +kernel
theorem dX2_choose_85 : decode cX2_choose 85 = .ok (.getfield 30, 3) := by decide +kernel
theorem dX2_choose_88 : decode cX2_choose 88 = .ok (.iload 4, 2) := by decide +kernel
theorem dX2_choose_90 : decode cX2_choose 90 = .ok (.iconst 1, 1) := by decide +kernel
theorem dX2_choose_91 : decode cX2_choose 91 = .ok (.isub, 1) := by decide +kernel
theorem dX2_choose_92 : decode cX2_choose 92 = .ok (.aaload, 1) := by decide +kernel
theorem dX2_choose_93 : decode cX2_choose 93 = .ok (.aload_n 0, 1) := by decide +kernel
theorem dX2_choose_94 : decode cX2_choose 94 = .ok (.getfield 30, 3) := by decide +kernel
theorem dX2_choose_97 : decode cX2_choose 97 = .ok (.iload 4, 2) := by decide +kernel
theorem dX2_choose_99 : decode cX2_choose 99 = .ok (.aaload, 1) := by decide +kernel
theorem dX2_choose_100 : decode cX2_choose 100 = .ok (.invokevirtual 115, 3) := by decide +kernel
theorem dX2_choose_103 : decode cX2_choose 103 = .ok (.iastore, 1) := by decide +kernel
theorem dX2_choose_104 : decode cX2_choose 104 = .ok (.iinc 4 (-1), 3) := by decide +kernel
theorem dX2_choose_107 : decode cX2_choose 107 = .ok (.goto (-36), 3) := by decide +kernel
theorem dX2_choose_110 : decode cX2_choose 110 = .ok (.aload_n 0, 1) := by decide +kernel
theorem dX2_choose_111 : decode cX2_choose 111 = .ok (.getfield 39, 3) := by decide +kernel
theorem dX2_choose_114 : decode cX2_choose 114 = .ok (.aload_n 3, 1) := by decide +kernel
theorem dX2_choose_115 : decode cX2_choose 115 = .ok (.invokevirtual 106, 3) := by decide +kernel
theorem dX2_choose_118 : decode cX2_choose 118 = .ok (.i2l, 1) := by decide +kernel
theorem dX2_choose_119 : decode cX2_choose 119 = .ok (.invokevirtual 96, 3) := by decide +kernel
theorem dX2_choose_122 : decode cX2_choose 122 = .ok (.iinc 2 (-1), 3) := by decide +kernel
theorem dX2_choose_125 : decode cX2_choose 125 = .ok (.goto (-75), 3) := by decide +kernel
theorem dX2_choose_128 : decode cX2_choose 128 = .ok (.return_, 1) := by decide +kernel
set_option maxRecDepth 20000 in
theorem ggX2_chooseAt_X2_lowestBar : GoodIn wsX2_chooseAt wsX2_lowestBar := goodIn_r _ [6, 7, 1, 8, 9, 10, 11, 12, 13, 14, 15, 16, 17, 18, 19, 20, 21, 22, 23, 24, 25, 26, 27, 28, 29, 30, 31, 32, 33, 34, 35, 36, 37, 56, 57, 58, 59, 60, 61, 62, 63, 64, 65, 66, 67, 68, 69, 70] (by decide +kernel) (by decide +kernel)
set_option maxRecDepth 20000 in
theorem gX2_chooseAt_X2_lowestBar : GoodIn wsX2_chooseAt (wsV RX2 119 RX2 yX2_lowestBar wsX2_lowestBar) := goodIn_app (goodIn_of _ (by decide +kernel)) ggX2_chooseAt_X2_lowestBar
set_option maxRecDepth 20000 in
theorem ggX2_chooseAt_X0_below : GoodIn wsX2_chooseAt wsX0_below := goodIn_r _ [41, 13, 14, 42, 66, 67, 68, 69] (by decide +kernel) (by decide +kernel)
set_option maxRecDepth 20000 in
theorem gX2_chooseAt_X0_below : GoodIn wsX2_chooseAt (wsV RX2 90 RX0 yX0_below wsX0_below) := goodIn_app (goodIn_of _ (by decide +kernel)) ggX2_chooseAt_X0_below
set_option maxRecDepth 20000 in
theorem ggX2_chooseAt_X5_times : GoodIn wsX2_chooseAt wsX5_times := goodIn_r _ [46, 20, 29, 70] (by decide +kernel) (by decide +kernel)
set_option maxRecDepth 20000 in
theorem gX2_chooseAt_X5_times : GoodIn wsX2_chooseAt (wsV RX2 96 RX5 yX5_times wsX5_times) := goodIn_app (goodIn_of _ (by decide +kernel)) ggX2_chooseAt_X5_times
set_option maxRecDepth 20000 in
theorem ggX2_chooseAt_X0_total : GoodIn wsX2_chooseAt wsX0_total := goodIn_r _ [50, 51, 66, 67, 68, 69] (by decide +kernel) (by decide +kernel)
set_option maxRecDepth 20000 in
theorem gX2_chooseAt_X0_total : GoodIn wsX2_chooseAt (wsV RX2 106 RX0 yX0_total wsX0_total) := goodIn_app (goodIn_of _ (by decide +kernel)) ggX2_chooseAt_X0_total
set_option maxRecDepth 20000 in
theorem ggX2_chooseAt_X5_addTimes : GoodIn wsX2_chooseAt wsX5_addTimes := goodIn_r _ [28, 20, 29, 70] (by decide +kernel) (by decide +kernel)
set_option maxRecDepth 20000 in
theorem gX2_chooseAt_X5_addTimes : GoodIn wsX2_chooseAt (wsV RX2 102 RX5 yX5_addTimes wsX5_addTimes) := goodIn_app (goodIn_of _ (by decide +kernel)) ggX2_chooseAt_X5_addTimes
set_option maxRecDepth 20000 in
theorem ggX2_chooseAt_X0_gathered : GoodIn wsX2_chooseAt wsX0_gathered := goodIn_r _ [55, 13, 14, 42, 66, 67, 68, 69] (by decide +kernel) (by decide +kernel)
set_option maxRecDepth 20000 in
theorem gX2_chooseAt_X0_gathered : GoodIn wsX2_chooseAt (wsV RX2 99 RX0 yX0_gathered wsX0_gathered) := goodIn_app (goodIn_of _ (by decide +kernel)) ggX2_chooseAt_X0_gathered
theorem dX2_chooseAt_0 : decode cX2_chooseAt 0 = .ok (.aload_n 0, 1) := by decide +kernel
theorem dX2_chooseAt_1 : decode cX2_chooseAt 1 = .ok (.aload_n 1, 1) := by decide +kernel
theorem dX2_chooseAt_2 : decode cX2_chooseAt 2 = .ok (.aload_n 2, 1) := by decide +kernel
theorem dX2_chooseAt_3 : decode cX2_chooseAt 3 = .ok (.aload_n 3, 1) := by decide +kernel
theorem dX2_chooseAt_4 : decode cX2_chooseAt 4 = .ok (.invokevirtual 119, 3) := by decide +kernel
theorem dX2_chooseAt_7 : decode cX2_chooseAt 7 = .ok (.istore 4, 2) := by decide +kernel
theorem dX2_chooseAt_9 : decode cX2_chooseAt 9 = .ok (.aload_n 1, 1) := by decide +kernel
theorem dX2_chooseAt_10 : decode cX2_chooseAt 10 = .ok (.iload 4, 2) := by decide +kernel
theorem dX2_chooseAt_12 : decode cX2_chooseAt 12 = .ok (.invokevirtual 90, 3) := by decide +kernel
theorem dX2_chooseAt_15 : decode cX2_chooseAt 15 = .ok (.istore 5, 2) := by decide +kernel
theorem dX2_chooseAt_17 : decode cX2_chooseAt 17 = .ok (.aload_n 3, 1) := by decide +kernel
theorem dX2_chooseAt_18 : decode cX2_chooseAt 18 = .ok (.iload 5, 2) := by decide +kernel
theorem dX2_chooseAt_20 : decode cX2_chooseAt 20 = .ok (.i2l, 1) := by decide +kernel
theorem dX2_chooseAt_21 : decode cX2_chooseAt 21 = .ok (.invokevirtual 96, 3) := by decide +kernel
theorem dX2_chooseAt_24 : decode cX2_chooseAt 24 = .ok (.aload_n 3, 1) := by decide +kernel
theorem dX2_chooseAt_25 : decode cX2_chooseAt 25 = .ok (.aload_n 2, 1) := by decide +kernel
theorem dX2_chooseAt_26 : decode cX2_chooseAt 26 = .ok (.aload_n 1, 1) := by decide +kernel
theorem dX2_chooseAt_27 : decode cX2_chooseAt 27 = .ok (.invokevirtual 106, 3) := by decide +kernel
theorem dX2_chooseAt_30 : decode cX2_chooseAt 30 = .ok (.iload 5, 2) := by decide +kernel
theorem dX2_chooseAt_32 : decode cX2_chooseAt 32 = .ok (.isub, 1) := by decide +kernel
theorem dX2_chooseAt_33 : decode cX2_chooseAt 33 = .ok (.i2l, 1) := by decide +kernel
theorem dX2_chooseAt_34 : decode cX2_chooseAt 34 = .ok (.invokevirtual 102, 3) := by decide +kernel
theorem dX2_chooseAt_37 : decode cX2_chooseAt 37 = .ok (.aload_n 3, 1) := by decide +kernel
theorem dX2_chooseAt_38 : decode cX2_chooseAt 38 = .ok (.aload_n 0, 1) := by decide +kernel
theorem dX2_chooseAt_39 : decode cX2_chooseAt 39 = .ok (.getfield 39, 3) := by decide +kernel
theorem dX2_chooseAt_42 : decode cX2_chooseAt 42 = .ok (.aload_n 1, 1) := by decide +kernel
theorem dX2_chooseAt_43 : decode cX2_chooseAt 43 = .ok (.iload 4, 2) := by decide +kernel
theorem dX2_chooseAt_45 : decode cX2_chooseAt 45 = .ok (.invokevirtual 99, 3) := by decide +kernel
theorem dX2_chooseAt_48 : decode cX2_chooseAt 48 = .ok (.i2l, 1) := by decide +kernel
theorem dX2_chooseAt_49 : decode cX2_chooseAt 49 = .ok (.invokevirtual 102, 3) := by decide +kernel
theorem dX2_chooseAt_52 : decode cX2_chooseAt 52 = .ok (.iload 4, 2) := by decide +kernel
theorem dX2_chooseAt_54 : decode cX2_chooseAt 54 = .ok (.ireturn, 1) := by decide +kernel
set_option maxRecDepth 20000 in
theorem ggX2_lowestBar_X0_leastFrom : GoodIn wsX2_lowestBar wsX0_leastFrom := goodIn_r _ [7, 8, 9, 43, 44, 45, 46] (by decide +kernel) (by decide +kernel)
set_option maxRecDepth 20000 in
theorem gX2_lowestBar_X0_leastFrom : GoodIn wsX2_lowestBar (wsV RX2 122 RX0 yX0_leastFrom wsX0_leastFrom) := goodIn_app (goodIn_of _ (by decide +kernel)) ggX2_lowestBar_X0_leastFrom
set_option maxRecDepth 20000 in
theorem ggX2_lowestBar_X5_copy : GoodIn wsX2_lowestBar wsX5_copy := goodIn_r _ [14, 15, 16, 17, 18, 19, 47] (by decide +kernel) (by decide +kernel)
set_option maxRecDepth 20000 in
theorem gX2_lowestBar_X5_copy : GoodIn wsX2_lowestBar (wsV RX2 125 RX5 yX5_copy wsX5_copy) := goodIn_app (goodIn_of _ (by decide +kernel)) ggX2_lowestBar_X5_copy
set_option maxRecDepth 20000 in
theorem ggX2_lowestBar_X5_addTimes : GoodIn wsX2_lowestBar wsX5_addTimes := goodIn_r _ [23, 15, 24, 47] (by decide +kernel) (by decide +kernel)
set_option maxRecDepth 20000 in
theorem gX2_lowestBar_X5_addTimes : GoodIn wsX2_lowestBar (wsV RX2 102 RX5 yX5_addTimes wsX5_addTimes) := goodIn_app (goodIn_of _ (by decide +kernel)) ggX2_lowestBar_X5_addTimes
set_option maxRecDepth 20000 in
theorem ggX2_lowestBar_X5_against : GoodIn wsX2_lowestBar wsX5_against := goodIn_r _ [28, 15, 29, 30, 31, 32, 47] (by decide +kernel) (by decide +kernel)
set_option maxRecDepth 20000 in
theorem gX2_lowestBar_X5_against : GoodIn wsX2_lowestBar (wsV RX2 129 RX5 yX5_against wsX5_against) := goodIn_app (goodIn_of _ (by decide +kernel)) ggX2_lowestBar_X5_against
theorem dX2_lowestBar_0 : decode cX2_lowestBar 0 = .ok (.iconst 0, 1) := by decide +kernel
theorem dX2_lowestBar_1 : decode cX2_lowestBar 1 = .ok (.istore 4, 2) := by decide +kernel
theorem dX2_lowestBar_3 : decode cX2_lowestBar 3 = .ok (.iconst 0, 1) := by decide +kernel
theorem dX2_lowestBar_4 : decode cX2_lowestBar 4 = .ok (.istore 5, 2) := by decide +kernel
theorem dX2_lowestBar_6 : decode cX2_lowestBar 6 = .ok (.iload 5, 2) := by decide +kernel
theorem dX2_lowestBar_8 : decode cX2_lowestBar 8 = .ok (.bipush 8, 2) := by decide +kernel
theorem dX2_lowestBar_10 : decode cX2_lowestBar 10 = .ok (.if_icmp .ge 68, 3) := by decide +kernel
theorem dX2_lowestBar_13 : decode cX2_lowestBar 13 = .ok (.aload_n 1, 1) := by decide +kernel
theorem dX2_lowestBar_14 : decode cX2_lowestBar 14 = .ok (.iload 4, 2) := by decide +kernel
theorem dX2_lowestBar_16 : decode cX2_lowestBar 16 = .ok (.invokevirtual 122, 3) := by decide +kernel
theorem dX2_lowestBar_19 : decode cX2_lowestBar 19 = .ok (.istore 6, 2) := by decide +kernel
theorem dX2_lowestBar_21 : decode cX2_lowestBar 21 = .ok (.iload 6, 2) := by decide +kernel
theorem dX2_lowestBar_23 : decode cX2_lowestBar 23 = .ok (.iconst (-1), 1) := by decide +kernel
theorem dX2_lowestBar_24 : decode cX2_lowestBar 24 = .ok (.if_icmp .ne 6, 3) := by decide +kernel
theorem dX2_lowestBar_27 : decode cX2_lowestBar 27 = .ok (.iload 4, 2) := by decide +kernel
theorem dX2_lowestBar_29 : decode cX2_lowestBar 29 = .ok (.ireturn, 1) := by decide +kernel
theorem dX2_lowestBar_30 : decode cX2_lowestBar 30 = .ok (.aload_n 0, 1) := by decide +kernel
theorem dX2_lowestBar_31 : decode cX2_lowestBar 31 = .ok (.getfield 42, 3) := by decide +kernel
theorem dX2_lowestBar_34 : decode cX2_lowestBar 34 = .ok (.aload_n 2, 1) := by decide +kernel
theorem dX2_lowestBar_35 : decode cX2_lowestBar 35 = .ok (.invokevirtual 125, 3) := by decide +kernel
theorem dX2_lowestBar_38 : decode cX2_lowestBar 38 = .ok (.aload_n 0, 1) := by decide +kernel
theorem dX2_lowestBar_39 : decode cX2_lowestBar 39 = .ok (.getfield 42, 3) := by decide +kernel
theorem dX2_lowestBar_42 : decode cX2_lowestBar 42 = .ok (.aload_n 0, 1) := by decide +kernel
theorem dX2_lowestBar_43 : decode cX2_lowestBar 43 = .ok (.getfield 39, 3) := by decide +kernel
theorem dX2_lowestBar_46 : decode cX2_lowestBar 46 = .ok (.iload 6, 2) := by decide +kernel
theorem dX2_lowestBar_48 : decode cX2_lowestBar 48 = .ok (.i2l, 1) := by decide +kernel
theorem dX2_lowestBar_49 : decode cX2_lowestBar 49 = .ok (.invokevirtual 102, 3) := by decide +kernel
theorem dX2_lowestBar_52 : decode cX2_lowestBar 52 = .ok (.aload_n 0, 1) := by decide +kernel
theorem dX2_lowestBar_53 : decode cX2_lowestBar 53 = .ok (.getfield 42, 3) := by decide +kernel
theorem dX2_lowestBar_56 : decode cX2_lowestBar 56 = .ok (.aload_n 3, 1) := by decide +kernel
theorem dX2_lowestBar_57 : decode cX2_lowestBar 57 = .ok (.invokevirtual 129, 3) := by decide +kernel
theorem dX2_lowestBar_60 : decode cX2_lowestBar 60 = .ok (.ifCond .lt 6, 3) := by decide +kernel
theorem dX2_lowestBar_63 : decode cX2_lowestBar 63 = .ok (.iload 4, 2) := by decide +kernel
theorem dX2_lowestBar_65 : decode cX2_lowestBar 65 = .ok (.ireturn, 1) := by decide +kernel
theorem dX2_lowestBar_66 : decode cX2_lowestBar 66 = .ok (.iload 6, 2) := by decide +kernel
theorem dX2_lowestBar_68 : decode cX2_lowestBar 68 = .ok (.iconst 1, 1) := by decide +kernel
theorem dX2_lowestBar_69 : decode cX2_lowestBar 69 = .ok (.iadd, 1) := by decide +kernel
theorem dX2_lowestBar_70 : decode cX2_lowestBar 70 = .ok (.istore 4, 2) := by decide +kernel
theorem dX2_lowestBar_72 : decode cX2_lowestBar 72 = .ok (.iinc 5 1, 3) := by decide +kernel
theorem dX2_lowestBar_75 : decode cX2_lowestBar 75 = .ok (.goto (-69), 3) := by decide +kernel
theorem dX2_lowestBar_78 : decode cX2_lowestBar 78 = .ok (.iload 4, 2) := by decide +kernel
theorem dX2_lowestBar_80 : decode cX2_lowestBar 80 = .ok (.ireturn, 1) := by decide +kernel
set_option maxRecDepth 20000 in
theorem ggX2_foreseeInto_X2_foresee : GoodIn wsX2_foreseeInto wsX2_foresee := goodIn_r _ [7, 2, 8, 1, 9, 10, 11, 12, 13, 14, 15, 16, 17, 18, 19, 20, 21, 22, 23, 24, 25, 26, 27, 28, 29, 30, 31, 32, 33, 34, 35, 36, 37, 38, 39, 40, 41, 42, 43, 44, 45, 46, 47, 48, 49, 50, 51, 52, 53, 54, 55, 56, 57, 58, 59, 60, 61, 62, 63, 64, 65, 66, 67, 68, 69, 70, 71, 72, 73, 74, 75, 76, 77, 78, 79, 123, 124, 125, 126, 127, 128, 129, 130, 131, 132, 133, 134, 135, 136, 137, 138, 139, 140] (by decide +kernel) (by decide +kernel)
set_option maxRecDepth 20000 in
theorem gX2_foreseeInto_X2_foresee : GoodIn wsX2_foreseeInto (wsV RX2 133 RX2 yX2_foresee wsX2_foresee) := goodIn_app (goodIn_of _ (by decide +kernel)) ggX2_foreseeInto_X2_foresee
set_option maxRecDepth 20000 in
theorem ggX2_foreseeInto_X3_divide : GoodIn wsX2_foreseeInto wsX3_divide := goodIn_r _ [83, 26, 84, 85, 86, 87, 88, 89, 90, 91, 92, 73, 74, 13, 75, 19, 76, 77, 78, 79, 93, 11, 12, 14, 15, 16, 17, 18, 20, 94, 95, 96, 97, 98, 99, 100, 101, 27, 28, 29, 24, 30, 31, 32, 33, 34, 35, 102, 103, 104, 39, 105, 106, 107, 108, 109, 110, 111, 112, 113, 114, 115, 116, 117, 118, 119, 120, 121, 122, 54, 55, 56, 134, 135, 136, 141, 142, 143, 144, 145, 133, 137, 138, 139, 140] (by decide +kernel) (by decide +kernel)
set_option maxRecDepth 20000 in
theorem gX2_foreseeInto_X3_divide : GoodIn wsX2_foreseeInto (wsV RX2 72 RX3 yX3_divide wsX3_divide) := goodIn_app (goodIn_of _ (by decide +kernel)) ggX2_foreseeInto_X3_divide
theorem dX2_foreseeInto_0 : decode cX2_foreseeInto 0 = .ok (.aload_n 0, 1) := by decide +kernel
theorem dX2_foreseeInto_1 : decode cX2_foreseeInto 1 = .ok (.invokevirtual 133, 3) := by decide +kernel
theorem dX2_foreseeInto_4 : decode cX2_foreseeInto 4 = .ok (.aload_n 0, 1) := by decide +kernel
theorem dX2_foreseeInto_5 : decode cX2_foreseeInto 5 = .ok (.getfield 12, 3) := by decide +kernel
theorem dX2_foreseeInto_8 : decode cX2_foreseeInto 8 = .ok (.aload_n 0, 1) := by decide +kernel
theorem dX2_foreseeInto_9 : decode cX2_foreseeInto 9 = .ok (.getfield 48, 3) := by decide +kernel
theorem dX2_foreseeInto_12 : decode cX2_foreseeInto 12 = .ok (.aload_n 1, 1) := by decide +kernel
theorem dX2_foreseeInto_13 : decode cX2_foreseeInto 13 = .ok (.invokevirtual 72, 3) := by decide +kernel
theorem dX2_foreseeInto_16 : decode cX2_foreseeInto 16 = .ok (.return_, 1) := by decide +kernel
set_option maxRecDepth 20000 in
theorem ggX2_foresee_X5_put : GoodIn wsX2_foresee wsX5_put := goodIn_r _ [9, 10, 11, 12, 13, 14, 15, 85] (by decide +kernel) (by decide +kernel)
set_option maxRecDepth 20000 in
theorem gX2_foresee_X5_put : GoodIn wsX2_foresee (wsV RX2 76 RX5 yX5_put wsX5_put) := goodIn_app (goodIn_of _ (by decide +kernel)) ggX2_foresee_X5_put
set_option maxRecDepth 20000 in
theorem ggX2_foresee_X3_leastFrom : GoodIn wsX2_foresee wsX3_leastFrom := goodIn_r _ [20, 21, 22, 23, 24, 19, 25, 26, 27, 28, 29, 30, 31, 32, 33, 34, 35, 36, 37, 86, 87, 88, 89, 90, 91, 92] (by decide +kernel) (by decide +kernel)
set_option maxRecDepth 20000 in
theorem gX2_foresee_X3_leastFrom : GoodIn wsX2_foresee (wsV RX2 136 RX3 yX3_leastFrom wsX3_leastFrom) := goodIn_app (goodIn_of _ (by decide +kernel)) ggX2_foresee_X3_leastFrom
set_option maxRecDepth 20000 in
theorem ggX2_foresee_X3_waysUpTo : GoodIn wsX2_foresee wsX3_waysUpTo := goodIn_r _ [41, 21, 42, 6, 7, 8, 9, 10, 11, 12, 13, 14, 15, 22, 23, 24, 19, 25, 26, 27, 28, 29, 30, 43, 44, 45, 34, 46, 36, 37, 47, 48, 49, 50, 51, 86, 87, 88, 85, 89, 90, 91, 92] (by decide +kernel) (by decide +kernel)
set_option maxRecDepth 20000 in
theorem gX2_foresee_X3_waysUpTo : GoodIn wsX2_foresee (wsV RX2 137 RX3 yX3_waysUpTo wsX3_waysUpTo) := goodIn_app (goodIn_of _ (by decide +kernel)) ggX2_foresee_X3_waysUpTo
set_option maxRecDepth 20000 in
theorem ggX2_foresee_X5_addTimes : GoodIn wsX2_foresee wsX5_addTimes := goodIn_r _ [55, 14, 15, 85] (by decide +kernel) (by decide +kernel)
set_option maxRecDepth 20000 in
theorem gX2_foresee_X5_addTimes : GoodIn wsX2_foresee (wsV RX2 102 RX5 yX5_addTimes wsX5_addTimes) := goodIn_app (goodIn_of _ (by decide +kernel)) ggX2_foresee_X5_addTimes
set_option maxRecDepth 20000 in
theorem ggX2_foresee_X5_takeTimes : GoodIn wsX2_foresee wsX5_takeTimes := goodIn_r _ [59, 14, 15, 60, 61, 62, 63, 64, 65, 66, 85] (by decide +kernel) (by decide +kernel)
set_option maxRecDepth 20000 in
theorem gX2_foresee_X5_takeTimes : GoodIn wsX2_foresee (wsV RX2 141 RX5 yX5_takeTimes wsX5_takeTimes) := goodIn_app (goodIn_of _ (by decide +kernel)) ggX2_foresee_X5_takeTimes
set_option maxRecDepth 20000 in
theorem ggX2_foresee_X5_copy : GoodIn wsX2_foresee wsX5_copy := goodIn_r _ [70, 14, 71, 72, 73, 74, 85] (by decide +kernel) (by decide +kernel)
set_option maxRecDepth 20000 in
theorem gX2_foresee_X5_copy : GoodIn wsX2_foresee (wsV RX2 125 RX5 yX5_copy wsX5_copy) := goodIn_app (goodIn_of _ (by decide +kernel)) ggX2_foresee_X5_copy
theorem dX2_foresee_0 : decode cX2_foresee 0 = .ok (.aload_n 0, 1) := by decide +kernel
theorem dX2_foresee_1 : decode cX2_foresee 1 = .ok (.getfield 48, 3) := by decide +kernel
theorem dX2_foresee_4 : decode cX2_foresee 4 = .ok (.lconst 0, 1) := by decide +kernel
theorem dX2_foresee_5 : decode cX2_foresee 5 = .ok (.invokevirtual 76, 3) := by decide +kernel
theorem dX2_foresee_8 : decode cX2_foresee 8 = .ok (.aload_n 0, 1) := by decide +kernel
theorem dX2_foresee_9 : decode cX2_foresee 9 = .ok (.getfield 45, 3) := by decide +kernel
theorem dX2_foresee_12 : decode cX2_foresee 12 = .ok (.lconst 0, 1) := by decide +kernel
theorem dX2_foresee_13 : decode cX2_foresee 13 = .ok (.invokevirtual 76, 3) := by decide +kernel
theorem dX2_foresee_16 : decode cX2_foresee 16 = .ok (.aload_n 0, 1) := by decide +kernel
theorem dX2_foresee_17 : decode cX2_foresee 17 = .ok (.getfield 12, 3) := by decide +kernel
theorem dX2_foresee_20 : decode cX2_foresee 20 = .ok (.iconst 0, 1) := by decide +kernel
theorem dX2_foresee_21 : decode cX2_foresee 21 = .ok (.invokevirtual 136, 3) := by decide +kernel
theorem dX2_foresee_24 : decode cX2_foresee 24 = .ok (.istore_n 1, 1) := by decide +kernel
theorem dX2_foresee_25 : decode cX2_foresee 25 = .ok (.iconst 0, 1) := by decide +kernel
theorem dX2_foresee_26 : decode cX2_foresee 26 = .ok (.istore_n 2, 1) := by decide +kernel
theorem dX2_foresee_27 : decode cX2_foresee 27 = .ok (.iload_n 2, 1) := by decide +kernel
theorem dX2_foresee_28 : decode cX2_foresee 28 = .ok (.bipush 80, 2) := by decide +kernel
theorem dX2_foresee_30 : decode cX2_foresee 30 = .ok (.if_icmp .ge 74, 3) := by decide +kernel
theorem dX2_foresee_33 : decode cX2_foresee 33 = .ok (.iload_n 1, 1) := by decide +kernel
theorem dX2_foresee_34 : decode cX2_foresee 34 = .ok (.iconst (-1), 1) := by decide +kernel
theorem dX2_foresee_35 : decode cX2_foresee 35 = .ok (.if_icmp .eq 69, 3) := by decide +kernel
theorem dX2_foresee_38 : decode cX2_foresee 38 = .ok (.aload_n 0, 1) := by decide +kernel
theorem dX2_foresee_39 : decode cX2_foresee 39 = .ok (.getfield 12, 3) := by decide +kernel
theorem dX2_foresee_42 : decode cX2_foresee 42 = .ok (.iload_n 1, 1) := by decide +kernel
theorem dX2_foresee_43 : decode cX2_foresee 43 = .ok (.aload_n 0, 1) := by decide +kernel
theorem dX2_foresee_44 : decode cX2_foresee 44 = .ok (.getfield 42, 3) := by decide +kernel
theorem dX2_foresee_47 : decode cX2_foresee 47 = .ok (.invokevirtual 137, 3) := by decide +kernel
theorem dX2_foresee_50 : decode cX2_foresee 50 = .ok (.aload_n 0, 1) := by decide +kernel
theorem dX2_foresee_51 : decode cX2_foresee 51 = .ok (.getfield 48, 3) := by decide +kernel
theorem dX2_foresee_54 : decode cX2_foresee 54 = .ok (.aload_n 0, 1) := by decide +kernel
theorem dX2_foresee_55 : decode cX2_foresee 55 = .ok (.getfield 42, 3) := by decide +kernel
theorem dX2_foresee_58 : decode cX2_foresee 58 = .ok (.iload_n 1, 1) := by decide +kernel
theorem dX2_foresee_59 : decode cX2_foresee 59 = .ok (.i2l, 1) := by decide +kernel
theorem dX2_foresee_60 : decode cX2_foresee 60 = .ok (.invokevirtual 102, 3) := by decide +kernel
theorem dX2_foresee_63 : decode cX2_foresee 63 = .ok (.aload_n 0, 1) := by decide +kernel
theorem dX2_foresee_64 : decode cX2_foresee 64 = .ok (.getfield 48, 3) := by decide +kernel
theorem dX2_foresee_67 : decode cX2_foresee 67 = .ok (.aload_n 0, 1) := by decide +kernel
theorem dX2_foresee_68 : decode cX2_foresee 68 = .ok (.getfield 45, 3) := by decide +kernel
theorem dX2_foresee_71 : decode cX2_foresee 71 = .ok (.iload_n 1, 1) := by decide +kernel
theorem dX2_foresee_72 : decode cX2_foresee 72 = .ok (.i2l, 1) := by decide +kernel
theorem dX2_foresee_73 : decode cX2_foresee 73 = .ok (.invokevirtual 141, 3) := by decide +kernel
theorem dX2_foresee_76 : decode cX2_foresee 76 = .ok (.aload_n 0, 1) := by decide +kernel
theorem dX2_foresee_77 : decode cX2_foresee 77 = .ok (.getfield 45, 3) := by decide +kernel
theorem dX2_foresee_80 : decode cX2_foresee 80 = .ok (.aload_n 0, 1) := by decide +kernel
theorem dX2_foresee_81 : decode cX2_foresee 81 = .ok (.getfield 42, 3) := by decide +kernel
theorem dX2_foresee_84 : decode cX2_foresee 84 = .ok (.invokevirtual 125, 3) := by decide +kernel
theorem dX2_foresee_87 : decode cX2_foresee 87 = .ok (.aload_n 0, 1) := by decide +kernel
theorem dX2_foresee_88 : decode cX2_foresee 88 = .ok (.getfield 12, 3) := by decide +kernel
theorem dX2_foresee_91 : decode cX2_foresee 91 = .ok (.iload_n 1, 1) := by decide +kernel
theorem dX2_foresee_92 : decode cX2_foresee 92 = .ok (.iconst 1, 1) := by decide +kernel
theorem dX2_foresee_93 : decode cX2_foresee 93 = .ok (.iadd, 1) := by decide +kernel
theorem dX2_foresee_94 : decode cX2_foresee 94 = .ok (.invokevirtual 136, 3) := by decide +kernel
theorem dX2_foresee_97 : decode cX2_foresee 97 = .ok (.istore_n 1, 1) := by decide +kernel
theorem dX2_foresee_98 : decode cX2_foresee 98 = .ok (.iinc 2 1, 3) := by decide +kernel
theorem dX2_foresee_101 : decode cX2_foresee 101 = .ok (.goto (-74), 3) := by decide +kernel
theorem dX2_foresee_104 : decode cX2_foresee 104 = .ok (.return_, 1) := by decide +kernel
set_option maxRecDepth 20000 in
theorem ggX2_lowestBarForHalf_X2_foresee : GoodIn wsX2_lowestBarForHalf wsX2_foresee := goodIn_r _ [10, 5, 11, 4, 12, 13, 14, 15, 16, 17, 18, 19, 20, 21, 22, 23, 24, 25, 26, 27, 28, 29, 30, 31, 32, 33, 34, 35, 36, 37, 38, 39, 40, 41, 42, 43, 44, 45, 46, 47, 48, 49, 50, 51, 52, 53, 54, 55, 56, 57, 58, 59, 60, 61, 62, 63, 64, 65, 66, 67, 68, 69, 70, 71, 72, 73, 74, 75, 76, 77, 78, 79, 80, 81, 82, 119, 120, 121, 122, 123, 124, 125, 126, 127, 128, 129, 130, 131, 132, 133, 134, 135, 136] (by decide +kernel) (by decide +kernel)
set_option maxRecDepth 20000 in
theorem gX2_lowestBarForHalf_X2_foresee : GoodIn wsX2_lowestBarForHalf (wsV RX2 133 RX2 yX2_foresee wsX2_foresee) := goodIn_app (goodIn_of _ (by decide +kernel)) ggX2_lowestBarForHalf_X2_foresee
set_option maxRecDepth 20000 in
theorem ggX2_lowestBarForHalf_J7_fill_53178 : GoodIn wsX2_lowestBarForHalf wsJ7_fill_53178 := goodIn_r _ [86] (by decide +kernel) (by decide +kernel)
set_option maxRecDepth 20000 in
theorem gX2_lowestBarForHalf_J7_fill_53178 : GoodIn wsX2_lowestBarForHalf (va_wsS RX2 144 yJ7_fill_53178 wsJ7_fill_53178) := goodIn_app (goodIn_of _ (by decide +kernel)) ggX2_lowestBarForHalf_J7_fill_53178
set_option maxRecDepth 20000 in
theorem ggX2_lowestBarForHalf_X2_follow : GoodIn wsX2_lowestBarForHalf wsX2_follow := goodIn_r _ [90, 2, 91, 4, 92, 93, 20, 94, 13, 14, 15, 16, 17, 18, 19, 21, 22, 23, 95, 96, 97, 27, 98, 29, 99, 31, 32, 33, 34, 35, 36, 37, 38, 100, 52, 53, 42, 54, 44, 45, 55, 101, 57, 58, 59, 102, 103, 104, 105, 60, 61, 62, 63, 106, 107, 108, 109, 110, 119, 120, 121, 122, 123, 124, 125, 126, 127, 128, 129, 130, 131, 132, 133, 134, 135, 136] (by decide +kernel) (by decide +kernel)
set_option maxRecDepth 20000 in
theorem gX2_lowestBarForHalf_X2_follow : GoodIn wsX2_lowestBarForHalf (wsV RX2 68 RX2 yX2_follow wsX2_follow) := goodIn_app (goodIn_of _ (by decide +kernel)) ggX2_lowestBarForHalf_X2_follow
set_option maxRecDepth 20000 in
theorem ggX2_lowestBarForHalf_X5_times : GoodIn wsX2_lowestBarForHalf wsX5_times := goodIn_r _ [59, 22, 23, 129] (by decide +kernel) (by decide +kernel)
set_option maxRecDepth 20000 in
theorem gX2_lowestBarForHalf_X5_times : GoodIn wsX2_lowestBarForHalf (wsV RX2 96 RX5 yX5_times wsX5_times) := goodIn_app (goodIn_of _ (by decide +kernel)) ggX2_lowestBarForHalf_X5_times
set_option maxRecDepth 20000 in
theorem ggX2_lowestBarForHalf_X3_leastFrom : GoodIn wsX2_lowestBarForHalf wsX3_leastFrom := goodIn_r _ [28, 29, 30, 31, 32, 27, 33, 34, 35, 36, 37, 38, 39, 40, 41, 42, 43, 44, 45, 130, 131, 132, 133, 134, 135, 136] (by decide +kernel) (by decide +kernel)
set_option maxRecDepth 20000 in
theorem gX2_lowestBarForHalf_X3_leastFrom : GoodIn wsX2_lowestBarForHalf (wsV RX2 136 RX3 yX3_leastFrom wsX3_leastFrom) := goodIn_app (goodIn_of _ (by decide +kernel)) ggX2_lowestBarForHalf_X3_leastFrom
set_option maxRecDepth 20000 in
theorem ggX2_lowestBarForHalf_X5_against : GoodIn wsX2_lowestBarForHalf wsX5_against := goodIn_r _ [114, 22, 115, 116, 117, 118, 129] (by decide +kernel) (by decide +kernel)
set_option maxRecDepth 20000 in
theorem gX2_lowestBarForHalf_X5_against : GoodIn wsX2_lowestBarForHalf (wsV RX2 129 RX5 yX5_against wsX5_against) := goodIn_app (goodIn_of _ (by decide +kernel)) ggX2_lowestBarForHalf_X5_against
theorem dX2_lowestBarForHalf_0 : decode cX2_lowestBarForHalf 0 = .ok (.aload_n 0, 1) := by decide +kernel
theorem dX2_lowestBarForHalf_1 : decode cX2_lowestBarForHalf 1 = .ok (.invokevirtual 133, 3) := by decide +kernel
theorem dX2_lowestBarForHalf_4 : decode cX2_lowestBarForHalf 4 = .ok (.iconst 0, 1) := by decide +kernel
theorem dX2_lowestBarForHalf_5 : decode cX2_lowestBarForHalf 5 = .ok (.istore_n 1, 1) := by decide +kernel
theorem dX2_lowestBarForHalf_6 : decode cX2_lowestBarForHalf 6 = .ok (.iconst 0, 1) := by decide +kernel
theorem dX2_lowestBarForHalf_7 : decode cX2_lowestBarForHalf 7 = .ok (.istore_n 2, 1) := by decide +kernel
theorem dX2_lowestBarForHalf_8 : decode cX2_lowestBarForHalf 8 = .ok (.iload_n 2, 1) := by decide +kernel
theorem dX2_lowestBarForHalf_9 : decode cX2_lowestBarForHalf 9 = .ok (.bipush 80, 2) := by decide +kernel
theorem dX2_lowestBarForHalf_11 : decode cX2_lowestBarForHalf 11 = .ok (.if_icmp .gt 69, 3) := by decide +kernel
theorem dX2_lowestBarForHalf_14 : decode cX2_lowestBarForHalf 14 = .ok (.aload_n 0, 1) := by decide +kernel
theorem dX2_lowestBarForHalf_15 : decode cX2_lowestBarForHalf 15 = .ok (.getfield 25, 3) := by decide +kernel
theorem dX2_lowestBarForHalf_18 : decode cX2_lowestBarForHalf 18 = .ok (.iload_n 1, 1) := by decide +kernel
theorem dX2_lowestBarForHalf_19 : decode cX2_lowestBarForHalf 19 = .ok (.invokestatic 144, 3) := by decide +kernel
theorem dX2_lowestBarForHalf_22 : decode cX2_lowestBarForHalf 22 = .ok (.aload_n 0, 1) := by decide +kernel
theorem dX2_lowestBarForHalf_23 : decode cX2_lowestBarForHalf 23 = .ok (.aload_n 0, 1) := by decide +kernel
theorem dX2_lowestBarForHalf_24 : decode cX2_lowestBarForHalf 24 = .ok (.getfield 25, 3) := by decide +kernel
theorem dX2_lowestBarForHalf_27 : decode cX2_lowestBarForHalf 27 = .ok (.invokevirtual 68, 3) := by decide +kernel
theorem dX2_lowestBarForHalf_30 : decode cX2_lowestBarForHalf 30 = .ok (.aload_n 0, 1) := by decide +kernel
theorem dX2_lowestBarForHalf_31 : decode cX2_lowestBarForHalf 31 = .ok (.getfield 35, 3) := by decide +kernel
theorem dX2_lowestBarForHalf_34 : decode cX2_lowestBarForHalf 34 = .ok (.ldc2_w 150, 3) := by decide +kernel
theorem dX2_lowestBarForHalf_37 : decode cX2_lowestBarForHalf 37 = .ok (.invokevirtual 96, 3) := by decide +kernel
theorem dX2_lowestBarForHalf_40 : decode cX2_lowestBarForHalf 40 = .ok (.aload_n 0, 1) := by decide +kernel
theorem dX2_lowestBarForHalf_41 : decode cX2_lowestBarForHalf 41 = .ok (.getfield 12, 3) := by decide +kernel
theorem dX2_lowestBarForHalf_44 : decode cX2_lowestBarForHalf 44 = .ok (.iload_n 1, 1) := by decide +kernel
theorem dX2_lowestBarForHalf_45 : decode cX2_lowestBarForHalf 45 = .ok (.invokevirtual 136, 3) := by decide +kernel
theorem dX2_lowestBarForHalf_48 : decode cX2_lowestBarForHalf 48 = .ok (.istore_n 3, 1) := by decide +kernel
theorem dX2_lowestBarForHalf_49 : decode cX2_lowestBarForHalf 49 = .ok (.aload_n 0, 1) := by decide +kernel
theorem dX2_lowestBarForHalf_50 : decode cX2_lowestBarForHalf 50 = .ok (.getfield 35, 3) := by decide +kernel
theorem dX2_lowestBarForHalf_53 : decode cX2_lowestBarForHalf 53 = .ok (.aload_n 0, 1) := by decide +kernel
theorem dX2_lowestBarForHalf_54 : decode cX2_lowestBarForHalf 54 = .ok (.getfield 48, 3) := by decide +kernel
theorem dX2_lowestBarForHalf_57 : decode cX2_lowestBarForHalf 57 = .ok (.invokevirtual 129, 3) := by decide +kernel
theorem dX2_lowestBarForHalf_60 : decode cX2_lowestBarForHalf 60 = .ok (.ifCond .ge 8, 3) := by decide +kernel
theorem dX2_lowestBarForHalf_63 : decode cX2_lowestBarForHalf 63 = .ok (.iload_n 3, 1) := by decide +kernel
theorem dX2_lowestBarForHalf_64 : decode cX2_lowestBarForHalf 64 = .ok (.iconst (-1), 1) := by decide +kernel
theorem dX2_lowestBarForHalf_65 : decode cX2_lowestBarForHalf 65 = .ok (.if_icmp .ne 5, 3) := by decide +kernel
theorem dX2_lowestBarForHalf_68 : decode cX2_lowestBarForHalf 68 = .ok (.iload_n 1, 1) := by decide +kernel
theorem dX2_lowestBarForHalf_69 : decode cX2_lowestBarForHalf 69 = .ok (.ireturn, 1) := by decide +kernel
theorem dX2_lowestBarForHalf_70 : decode cX2_lowestBarForHalf 70 = .ok (.iload_n 3, 1) := by decide +kernel
theorem dX2_lowestBarForHalf_71 : decode cX2_lowestBarForHalf 71 = .ok (.iconst 1, 1) := by decide +kernel
theorem dX2_lowestBarForHalf_72 : decode cX2_lowestBarForHalf 72 = .ok (.iadd, 1) := by decide +kernel
theorem dX2_lowestBarForHalf_73 : decode cX2_lowestBarForHalf 73 = .ok (.istore_n 1, 1) := by decide +kernel
theorem dX2_lowestBarForHalf_74 : decode cX2_lowestBarForHalf 74 = .ok (.iinc 2 1, 3) := by decide +kernel
theorem dX2_lowestBarForHalf_77 : decode cX2_lowestBarForHalf 77 = .ok (.goto (-69), 3) := by decide +kernel
theorem dX2_lowestBarForHalf_80 : decode cX2_lowestBarForHalf 80 = .ok (.iload_n 1, 1) := by decide +kernel
theorem dX2_lowestBarForHalf_81 : decode cX2_lowestBarForHalf 81 = .ok (.ireturn, 1) := by decide +kernel
end
section
set_option maxRecDepth 20000 in
theorem ggX3_init_X0_init : GoodIn wsX3_init wsX0_init := goodIn_r _ [11, 12, 2, 3, 13, 14, 15, 16, 17, 18, 19, 20, 21] (by decide +kernel) (by decide +kernel)
set_option maxRecDepth 20000 in
theorem gX3_init_X0_init_n11 : GoodIn wsX3_init (wsX0_init) := ggX3_init_X0_init
theorem dX3_init_0 : decode cX3_init 0 = .ok (.aload_n 0, 1) := by decide +kernel
theorem dX3_init_1 : decode cX3_init 1 = .ok (.invokespecial 3, 3) := by decide +kernel
theorem dX3_init_4 : decode cX3_init 4 = .ok (.aload_n 0, 1) := by decide +kernel
theorem dX3_init_5 : decode cX3_init 5 = .ok (.new 9, 3) := by decide +kernel
theorem dX3_init_8 : decode cX3_init 8 = .ok (.dup, 1) := by decide +kernel
theorem dX3_init_9 : decode cX3_init 9 = .ok (.invokespecial 11, 3) := by decide +kernel
theorem dX3_init_12 : decode cX3_init 12 = .ok (.putfield 12, 3) := by decide +kernel
theorem dX3_init_15 : decode cX3_init 15 = .ok (.aload_n 0, 1) := by decide +kernel
theorem dX3_init_16 : decode cX3_init 16 = .ok (.bipush 10, 2) := by decide +kernel
theorem dX3_init_18 : decode cX3_init 18 = .ok (.anewarray 9, 3) := by decide +kernel
theorem dX3_init_21 : decode cX3_init 21 = .ok (.putfield 18, 3) := by decide +kernel
theorem dX3_init_24 : decode cX3_init 24 = .ok (.aload_n 0, 1) := by decide +kernel
theorem dX3_init_25 : decode cX3_init 25 = .ok (.iconst 0, 1) := by decide +kernel
theorem dX3_init_26 : decode cX3_init 26 = .ok (.putfield 22, 3) := by decide +kernel
theorem dX3_init_29 : decode cX3_init 29 = .ok (.iconst 0, 1) := by decide +kernel
theorem dX3_init_30 : decode cX3_init 30 = .ok (.istore_n 1, 1) := by decide +kernel
theorem dX3_init_31 : decode cX3_init 31 = .ok (.iload_n 1, 1) := by decide +kernel
theorem dX3_init_32 : decode cX3_init 32 = .ok (.aload_n 0, 1) := by decide +kernel
theorem dX3_init_33 : decode cX3_init 33 = .ok (.getfield 18, 3) := by decide +kernel
theorem dX3_init_36 : decode cX3_init 36 = .ok (.arraylength, 1) := by decide +kernel
theorem dX3_init_37 : decode cX3_init 37 = .ok (.if_icmp .ge 19, 3) := by decide +kernel
theorem dX3_init_40 : decode cX3_init 40 = .ok (.aload_n 0, 1) := by decide +kernel
theorem dX3_init_41 : decode cX3_init 41 = .ok (.getfield 18, 3) := by decide +kernel
theorem dX3_init_44 : decode cX3_init 44 = .ok (.iload_n 1, 1) := by decide +kernel
theorem dX3_init_45 : decode cX3_init 45 = .ok (.aload_n 0, 1) := by decide +kernel
theorem dX3_init_46 : decode cX3_init 46 = .ok (.getfield 12, 3) := by decide +kernel
theorem dX3_init_49 : decode cX3_init 49 = .ok (.aastore, 1) := by decide +kernel
theorem dX3_init_50 : decode cX3_init 50 = .ok (.iinc 1 1, 3) := by decide +kernel
theorem dX3_init_53 : decode cX3_init 53 = .ok (.goto (-22), 3) := by decide +kernel
theorem dX3_init_56 : decode cX3_init 56 = .ok (.return_, 1) := by decide +kernel
theorem dX3_size_0 : decode cX3_size 0 = .ok (.aload_n 0, 1) := by decide +kernel
theorem dX3_size_1 : decode cX3_size 1 = .ok (.getfield 22, 3) := by decide +kernel
theorem dX3_size_4 : decode cX3_size 4 = .ok (.ireturn, 1) := by decide +kernel
theorem dX3_clear_0 : decode cX3_clear 0 = .ok (.aload_n 0, 1) := by decide +kernel
theorem dX3_clear_1 : decode cX3_clear 1 = .ok (.iconst 0, 1) := by decide +kernel
theorem dX3_clear_2 : decode cX3_clear 2 = .ok (.putfield 22, 3) := by decide +kernel
theorem dX3_clear_5 : decode cX3_clear 5 = .ok (.return_, 1) := by decide +kernel
theorem dX3_join_0 : decode cX3_join 0 = .ok (.aload_n 0, 1) := by decide +kernel
theorem dX3_join_1 : decode cX3_join 1 = .ok (.getfield 22, 3) := by decide +kernel
theorem dX3_join_4 : decode cX3_join 4 = .ok (.bipush 10, 2) := by decide +kernel
theorem dX3_join_6 : decode cX3_join 6 = .ok (.if_icmp .ge 23, 3) := by decide +kernel
theorem dX3_join_9 : decode cX3_join 9 = .ok (.aload_n 0, 1) := by decide +kernel
theorem dX3_join_10 : decode cX3_join 10 = .ok (.getfield 18, 3) := by decide +kernel
theorem dX3_join_13 : decode cX3_join 13 = .ok (.aload_n 0, 1) := by decide +kernel
theorem dX3_join_14 : decode cX3_join 14 = .ok (.getfield 22, 3) := by decide +kernel
theorem dX3_join_17 : decode cX3_join 17 = .ok (.aload_n 1, 1) := by decide +kernel
theorem dX3_join_18 : decode cX3_join 18 = .ok (.aastore, 1) := by decide +kernel
theorem dX3_join_19 : decode cX3_join 19 = .ok (.aload_n 0, 1) := by decide +kernel
theorem dX3_join_20 : decode cX3_join 20 = .ok (.dup, 1) := by decide +kernel
theorem dX3_join_21 : decode cX3_join 21 = .ok (.getfield 22, 3) := by decide +kernel
theorem dX3_join_24 : decode cX3_join 24 = .ok (.iconst 1, 1) := by decide +kernel
theorem dX3_join_25 : decode cX3_join 25 = .ok (.iadd, 1) := by decide +kernel
theorem dX3_join_26 : decode cX3_join 26 = .ok (.putfield 22, 3) := by decide +kernel
theorem dX3_join_29 : decode cX3_join 29 = .ok (.return_, 1) := by decide +kernel
set_option maxRecDepth 20000 in
theorem ggX3_at_X10_isWithin : GoodIn wsX3_at wsX10_isWithin := goodIn_r _ [6] (by decide +kernel) (by decide +kernel)
set_option maxRecDepth 20000 in
theorem gX3_at_X10_isWithin_n26 : GoodIn wsX3_at (wsX10_isWithin) := ggX3_at_X10_isWithin
theorem dX3_at_0 : decode cX3_at 0 = .ok (.iload_n 1, 1) := by decide +kernel
theorem dX3_at_1 : decode cX3_at 1 = .ok (.i2l, 1) := by decide +kernel
theorem dX3_at_2 : decode cX3_at 2 = .ok (.lconst 0, 1) := by decide +kernel
theorem dX3_at_3 : decode cX3_at 3 = .ok (.aload_n 0, 1) := by decide +kernel
theorem dX3_at_4 : decode cX3_at 4 = .ok (.getfield 22, 3) := by decide +kernel
theorem dX3_at_7 : decode cX3_at 7 = .ok (.iconst 1, 1) := by decide +kernel
theorem dX3_at_8 : decode cX3_at 8 = .ok (.isub, 1) := by decide +kernel
theorem dX3_at_9 : decode cX3_at 9 = .ok (.i2l, 1) := by decide +kernel
theorem dX3_at_10 : decode cX3_at 10 = .ok (.invokestatic 26, 3) := by decide +kernel
theorem dX3_at_13 : decode cX3_at 13 = .ok (.ifCond .eq 12, 3) := by decide +kernel
theorem dX3_at_16 : decode cX3_at 16 = .ok (.aload_n 0, 1) := by decide +kernel
theorem dX3_at_17 : decode cX3_at 17 = .ok (.getfield 18, 3) := by decide +kernel
theorem dX3_at_20 : decode cX3_at 20 = .ok (.iload_n 1, 1) := by decide +kernel
theorem dX3_at_21 : decode cX3_at 21 = .ok (.aaload, 1) := by decide +kernel
theorem dX3_at_22 : decode cX3_at 22 = .ok (.goto 7, 3) := by decide +kernel
theorem dX3_at_25 : decode cX3_at 25 = .ok (.aload_n 0, 1) := by decide +kernel
theorem dX3_at_26 : decode cX3_at 26 = .ok (.getfield 12, 3) := by decide +kernel
theorem dX3_at_29 : decode cX3_at 29 = .ok (.areturn, 1) := by decide +kernel
set_option maxRecDepth 20000 in
theorem ggX3_leastFrom_X3_at : GoodIn wsX3_leastFrom wsX3_at := goodIn_r _ [6, 1, 7, 8, 9, 10, 11, 19, 20, 21] (by decide +kernel) (by decide +kernel)
set_option maxRecDepth 20000 in
theorem gX3_leastFrom_X3_at : GoodIn wsX3_leastFrom (wsV RX3 30 RX3 yX3_at wsX3_at) := goodIn_app (goodIn_of _ (by decide +kernel)) ggX3_leastFrom_X3_at
set_option maxRecDepth 20000 in
theorem ggX3_leastFrom_X0_leastFrom : GoodIn wsX3_leastFrom wsX0_leastFrom := goodIn_r _ [16, 17, 18, 22, 23, 24, 25] (by decide +kernel) (by decide +kernel)
set_option maxRecDepth 20000 in
theorem gX3_leastFrom_X0_leastFrom : GoodIn wsX3_leastFrom (wsV RX3 34 RX0 yX0_leastFrom wsX0_leastFrom) := goodIn_app (goodIn_of _ (by decide +kernel)) ggX3_leastFrom_X0_leastFrom
theorem dX3_leastFrom_0 : decode cX3_leastFrom 0 = .ok (.iconst (-1), 1) := by decide +kernel
theorem dX3_leastFrom_1 : decode cX3_leastFrom 1 = .ok (.istore_n 2, 1) := by decide +kernel
theorem dX3_leastFrom_2 : decode cX3_leastFrom 2 = .ok (.iconst 0, 1) := by decide +kernel
theorem dX3_leastFrom_3 : decode cX3_leastFrom 3 = .ok (.istore_n 3, 1) := by decide +kernel
theorem dX3_leastFrom_4 : decode cX3_leastFrom 4 = .ok (.iload_n 3, 1) := by decide +kernel
theorem dX3_leastFrom_5 : decode cX3_leastFrom 5 = .ok (.aload_n 0, 1) := by decide +kernel
theorem dX3_leastFrom_6 : decode cX3_leastFrom 6 = .ok (.getfield 22, 3) := by decide +kernel
theorem dX3_leastFrom_9 : decode cX3_leastFrom 9 = .ok (.if_icmp .ge 40, 3) := by decide +kernel
theorem dX3_leastFrom_12 : decode cX3_leastFrom 12 = .ok (.aload_n 0, 1) := by decide +kernel
theorem dX3_leastFrom_13 : decode cX3_leastFrom 13 = .ok (.iload_n 3, 1) := by decide +kernel
theorem dX3_leastFrom_14 : decode cX3_leastFrom 14 = .ok (.invokevirtual 30, 3) := by decide +kernel
theorem dX3_leastFrom_17 : decode cX3_leastFrom 17 = .ok (.iload_n 1, 1) := by decide +kernel
theorem dX3_leastFrom_18 : decode cX3_leastFrom 18 = .ok (.invokevirtual 34, 3) := by decide +kernel
theorem dX3_leastFrom_21 : decode cX3_leastFrom 21 = .ok (.istore 4, 2) := by decide +kernel
theorem dX3_leastFrom_23 : decode cX3_leastFrom 23 = .ok (.iload 4, 2) := by decide +kernel
theorem dX3_leastFrom_25 : decode cX3_leastFrom 25 = .ok (.iconst (-1), 1) := by decide +kernel
theorem dX3_leastFrom_26 : decode cX3_leastFrom 26 = .ok (.if_icmp .eq 17, 3) := by decide +kernel
theorem dX3_leastFrom_29 : decode cX3_leastFrom 29 = .ok (.iload_n 2, 1) := by decide +kernel
theorem dX3_leastFrom_30 : decode cX3_leastFrom 30 = .ok (.iconst (-1), 1) := by decide +kernel
theorem dX3_leastFrom_31 : decode cX3_leastFrom 31 = .ok (.if_icmp .eq 9, 3) := by decide +kernel
theorem dX3_leastFrom_34 : decode cX3_leastFrom 34 = .ok (.iload 4, 2) := by decide +kernel
theorem dX3_leastFrom_36 : decode cX3_leastFrom 36 = .ok (.iload_n 2, 1) := by decide +kernel
theorem dX3_leastFrom_37 : decode cX3_leastFrom 37 = .ok (.if_icmp .ge 6, 3) := by decide +kernel
theorem dX3_leastFrom_40 : decode cX3_leastFrom 40 = .ok (.iload 4, 2) := by decide +kernel
theorem dX3_leastFrom_42 : decode cX3_leastFrom 42 = .ok (.istore_n 2, 1) := by decide +kernel
theorem dX3_leastFrom_43 : decode cX3_leastFrom 43 = .ok (.iinc 3 1, 3) := by decide +kernel
theorem dX3_leastFrom_46 : decode cX3_leastFrom 46 = .ok (.goto (-42), 3) := by decide +kernel
theorem dX3_leastFrom_49 : decode cX3_leastFrom 49 = .ok (.iload_n 2, 1) := by decide +kernel
theorem dX3_leastFrom_50 : decode cX3_leastFrom 50 = .ok (.ireturn, 1) := by decide +kernel
set_option maxRecDepth 20000 in
theorem ggX3_waysUpTo_X5_put : GoodIn wsX3_waysUpTo wsX5_put := goodIn_r _ [6, 7, 8, 9, 10, 11, 12, 38] (by decide +kernel) (by decide +kernel)
set_option maxRecDepth 20000 in
theorem gX3_waysUpTo_X5_put : GoodIn wsX3_waysUpTo (wsV RX3 38 RX5 yX5_put wsX5_put) := goodIn_app (goodIn_of _ (by decide +kernel)) ggX3_waysUpTo_X5_put
set_option maxRecDepth 20000 in
theorem ggX3_waysUpTo_X3_at : GoodIn wsX3_waysUpTo wsX3_at := goodIn_r _ [17, 1, 18, 19, 20, 21, 22, 35, 36, 37] (by decide +kernel) (by decide +kernel)
set_option maxRecDepth 20000 in
theorem gX3_waysUpTo_X3_at : GoodIn wsX3_waysUpTo (wsV RX3 30 RX3 yX3_at wsX3_at) := goodIn_app (goodIn_of _ (by decide +kernel)) ggX3_waysUpTo_X3_at
set_option maxRecDepth 20000 in
theorem ggX3_waysUpTo_X0_below : GoodIn wsX3_waysUpTo wsX0_below := goodIn_r _ [27, 28, 29, 30, 39, 40, 41, 42] (by decide +kernel) (by decide +kernel)
set_option maxRecDepth 20000 in
theorem gX3_waysUpTo_X0_below : GoodIn wsX3_waysUpTo (wsV RX3 44 RX0 yX0_below wsX0_below) := goodIn_app (goodIn_of _ (by decide +kernel)) ggX3_waysUpTo_X0_below
set_option maxRecDepth 20000 in
theorem ggX3_waysUpTo_X5_times : GoodIn wsX3_waysUpTo wsX5_times := goodIn_r _ [34, 11, 12, 38] (by decide +kernel) (by decide +kernel)
set_option maxRecDepth 20000 in
theorem gX3_waysUpTo_X5_times : GoodIn wsX3_waysUpTo (wsV RX3 47 RX5 yX5_times wsX5_times) := goodIn_app (goodIn_of _ (by decide +kernel)) ggX3_waysUpTo_X5_times
theorem dX3_waysUpTo_0 : decode cX3_waysUpTo 0 = .ok (.aload_n 2, 1) := by decide +kernel
theorem dX3_waysUpTo_1 : decode cX3_waysUpTo 1 = .ok (.lconst 1, 1) := by decide +kernel
theorem dX3_waysUpTo_2 : decode cX3_waysUpTo 2 = .ok (.invokevirtual 38, 3) := by decide +kernel
theorem dX3_waysUpTo_5 : decode cX3_waysUpTo 5 = .ok (.iconst 0, 1) := by decide +kernel
theorem dX3_waysUpTo_6 : decode cX3_waysUpTo 6 = .ok (.istore_n 3, 1) := by decide +kernel
theorem dX3_waysUpTo_7 : decode cX3_waysUpTo 7 = .ok (.iload_n 3, 1) := by decide +kernel
theorem dX3_waysUpTo_8 : decode cX3_waysUpTo 8 = .ok (.aload_n 0, 1) := by decide +kernel
theorem dX3_waysUpTo_9 : decode cX3_waysUpTo 9 = .ok (.getfield 22, 3) := by decide +kernel
theorem dX3_waysUpTo_12 : decode cX3_waysUpTo 12 = .ok (.if_icmp .ge 25, 3) := by decide +kernel
theorem dX3_waysUpTo_15 : decode cX3_waysUpTo 15 = .ok (.aload_n 2, 1) := by decide +kernel
theorem dX3_waysUpTo_16 : decode cX3_waysUpTo 16 = .ok (.aload_n 0, 1) := by decide +kernel
theorem dX3_waysUpTo_17 : decode cX3_waysUpTo 17 = .ok (.iload_n 3, 1) := by decide +kernel
theorem dX3_waysUpTo_18 : decode cX3_waysUpTo 18 = .ok (.invokevirtual 30, 3) := by decide +kernel
theorem dX3_waysUpTo_21 : decode cX3_waysUpTo 21 = .ok (.iload_n 1, 1) := by decide +kernel
theorem dX3_waysUpTo_22 : decode cX3_waysUpTo 22 = .ok (.iconst 1, 1) := by decide +kernel
theorem dX3_waysUpTo_23 : decode cX3_waysUpTo 23 = .ok (.iadd, 1) := by decide +kernel
theorem dX3_waysUpTo_24 : decode cX3_waysUpTo 24 = .ok (.invokevirtual 44, 3) := by decide +kernel
theorem dX3_waysUpTo_27 : decode cX3_waysUpTo 27 = .ok (.i2l, 1) := by decide +kernel
theorem dX3_waysUpTo_28 : decode cX3_waysUpTo 28 = .ok (.invokevirtual 47, 3) := by decide +kernel
theorem dX3_waysUpTo_31 : decode cX3_waysUpTo 31 = .ok (.iinc 3 1, 3) := by decide +kernel
theorem dX3_waysUpTo_34 : decode cX3_waysUpTo 34 = .ok (.goto (-27), 3) := by decide +kernel
theorem dX3_waysUpTo_37 : decode cX3_waysUpTo 37 = .ok (.return_, 1) := by decide +kernel
set_option maxRecDepth 20000 in
theorem ggX3_divide_X8_put : GoodIn wsX3_divide wsX8_put := goodIn_r _ [6, 7, 8, 9, 10, 11, 12, 13, 14, 15, 16, 17, 18, 19, 20, 21, 22, 23, 24, 25, 26, 27, 28, 29, 30, 31, 32, 33, 34, 35, 36, 75, 76, 77, 78, 79, 80] (by decide +kernel) (by decide +kernel)
set_option maxRecDepth 20000 in
theorem gX3_divide_X8_put : GoodIn wsX3_divide (wsV RX3 50 RX8 yX8_put wsX8_put) := goodIn_app (goodIn_of _ (by decide +kernel)) ggX3_divide_X8_put
set_option maxRecDepth 20000 in
theorem ggX3_divide_X3_at : GoodIn wsX3_divide wsX3_at := goodIn_r _ [41, 1, 42, 43, 44, 45, 46, 72, 73, 74] (by decide +kernel) (by decide +kernel)
set_option maxRecDepth 20000 in
theorem gX3_divide_X3_at : GoodIn wsX3_divide (wsV RX3 30 RX3 yX3_at wsX3_at) := goodIn_app (goodIn_of _ (by decide +kernel)) ggX3_divide_X3_at
set_option maxRecDepth 20000 in
theorem ggX3_divide_X0_total : GoodIn wsX3_divide wsX0_total := goodIn_r _ [51, 52, 81, 82, 83, 84] (by decide +kernel) (by decide +kernel)
set_option maxRecDepth 20000 in
theorem gX3_divide_X0_total : GoodIn wsX3_divide (wsV RX3 55 RX0 yX0_total wsX0_total) := goodIn_app (goodIn_of _ (by decide +kernel)) ggX3_divide_X0_total
set_option maxRecDepth 20000 in
theorem ggX3_divide_X8_over : GoodIn wsX3_divide wsX8_over := goodIn_r _ [56, 7, 8, 57, 58, 59, 13, 60, 28, 15, 61, 62, 5, 63, 64, 65, 66, 67, 68, 69, 70, 71, 75, 76, 77, 78, 79, 80] (by decide +kernel) (by decide +kernel)
set_option maxRecDepth 20000 in
theorem gX3_divide_X8_over : GoodIn wsX3_divide (wsV RX3 59 RX8 yX8_over wsX8_over) := goodIn_app (goodIn_of _ (by decide +kernel)) ggX3_divide_X8_over
theorem dX3_divide_0 : decode cX3_divide 0 = .ok (.aload_n 2, 1) := by decide +kernel
theorem dX3_divide_1 : decode cX3_divide 1 = .ok (.aload_n 1, 1) := by decide +kernel
theorem dX3_divide_2 : decode cX3_divide 2 = .ok (.invokevirtual 50, 3) := by decide +kernel
theorem dX3_divide_5 : decode cX3_divide 5 = .ok (.iconst 0, 1) := by decide +kernel
theorem dX3_divide_6 : decode cX3_divide 6 = .ok (.istore_n 3, 1) := by decide +kernel
theorem dX3_divide_7 : decode cX3_divide 7 = .ok (.iload_n 3, 1) := by decide +kernel
theorem dX3_divide_8 : decode cX3_divide 8 = .ok (.aload_n 0, 1) := by decide +kernel
theorem dX3_divide_9 : decode cX3_divide 9 = .ok (.getfield 22, 3) := by decide +kernel
theorem dX3_divide_12 : decode cX3_divide 12 = .ok (.if_icmp .ge 21, 3) := by decide +kernel
theorem dX3_divide_15 : decode cX3_divide 15 = .ok (.aload_n 2, 1) := by decide +kernel
theorem dX3_divide_16 : decode cX3_divide 16 = .ok (.aload_n 0, 1) := by decide +kernel
theorem dX3_divide_17 : decode cX3_divide 17 = .ok (.iload_n 3, 1) := by decide +kernel
theorem dX3_divide_18 : decode cX3_divide 18 = .ok (.invokevirtual 30, 3) := by decide +kernel
theorem dX3_divide_21 : decode cX3_divide 21 = .ok (.invokevirtual 55, 3) := by decide +kernel
theorem dX3_divide_24 : decode cX3_divide 24 = .ok (.invokevirtual 59, 3) := by decide +kernel
theorem dX3_divide_27 : decode cX3_divide 27 = .ok (.iinc 3 1, 3) := by decide +kernel
theorem dX3_divide_30 : decode cX3_divide 30 = .ok (.goto (-23), 3) := by decide +kernel
theorem dX3_divide_33 : decode cX3_divide 33 = .ok (.return_, 1) := by decide +kernel
end
section
set_option maxRecDepth 20000 in
theorem ggX4_init_X5_init : GoodIn wsX4_init wsX5_init := goodIn_r _ [15, 16, 2, 3, 4, 17, 24] (by decide +kernel) (by decide +kernel)
set_option maxRecDepth 20000 in
theorem gX4_init_X5_init_n24 : GoodIn wsX4_init (wsX5_init) := ggX4_init_X5_init
theorem dX4_init_0 : decode cX4_init 0 = .ok (.aload_n 0, 1) := by decide +kernel
theorem dX4_init_1 : decode cX4_init 1 = .ok (.invokespecial 3, 3) := by decide +kernel
theorem dX4_init_4 : decode cX4_init 4 = .ok (.aload_n 0, 1) := by decide +kernel
theorem dX4_init_5 : decode cX4_init 5 = .ok (.bipush 20, 2) := by decide +kernel
theorem dX4_init_7 : decode cX4_init 7 = .ok (.newarray .int, 2) := by decide +kernel
theorem dX4_init_9 : decode cX4_init 9 = .ok (.putfield 9, 3) := by decide +kernel
theorem dX4_init_12 : decode cX4_init 12 = .ok (.aload_n 0, 1) := by decide +kernel
theorem dX4_init_13 : decode cX4_init 13 = .ok (.bipush 20, 2) := by decide +kernel
theorem dX4_init_15 : decode cX4_init 15 = .ok (.newarray .int, 2) := by decide +kernel
theorem dX4_init_17 : decode cX4_init 17 = .ok (.putfield 15, 3) := by decide +kernel
theorem dX4_init_20 : decode cX4_init 20 = .ok (.aload_n 0, 1) := by decide +kernel
theorem dX4_init_21 : decode cX4_init 21 = .ok (.iconst 0, 1) := by decide +kernel
theorem dX4_init_22 : decode cX4_init 22 = .ok (.putfield 18, 3) := by decide +kernel
theorem dX4_init_25 : decode cX4_init 25 = .ok (.aload_n 0, 1) := by decide +kernel
theorem dX4_init_26 : decode cX4_init 26 = .ok (.new 22, 3) := by decide +kernel
theorem dX4_init_29 : decode cX4_init 29 = .ok (.dup, 1) := by decide +kernel
theorem dX4_init_30 : decode cX4_init 30 = .ok (.invokespecial 24, 3) := by decide +kernel
theorem dX4_init_33 : decode cX4_init 33 = .ok (.putfield 25, 3) := by decide +kernel
theorem dX4_init_36 : decode cX4_init 36 = .ok (.aload_n 0, 1) := by decide +kernel
theorem dX4_init_37 : decode cX4_init 37 = .ok (.new 22, 3) := by decide +kernel
theorem dX4_init_40 : decode cX4_init 40 = .ok (.dup, 1) := by decide +kernel
theorem dX4_init_41 : decode cX4_init 41 = .ok (.invokespecial 24, 3) := by decide +kernel
theorem dX4_init_44 : decode cX4_init 44 = .ok (.putfield 29, 3) := by decide +kernel
theorem dX4_init_47 : decode cX4_init 47 = .ok (.aload_n 0, 1) := by decide +kernel
theorem dX4_init_48 : decode cX4_init 48 = .ok (.new 22, 3) := by decide +kernel
theorem dX4_init_51 : decode cX4_init 51 = .ok (.dup, 1) := by decide +kernel
theorem dX4_init_52 : decode cX4_init 52 = .ok (.invokespecial 24, 3) := by decide +kernel
theorem dX4_init_55 : decode cX4_init 55 = .ok (.putfield 32, 3) := by decide +kernel
theorem dX4_init_58 : decode cX4_init 58 = .ok (.return_, 1) := by decide +kernel
theorem dX4_size_0 : decode cX4_size 0 = .ok (.aload_n 0, 1) := by decide +kernel
theorem dX4_size_1 : decode cX4_size 1 = .ok (.getfield 18, 3) := by decide +kernel
theorem dX4_size_4 : decode cX4_size 4 = .ok (.ireturn, 1) := by decide +kernel
theorem dX4_join_0 : decode cX4_join 0 = .ok (.aload_n 0, 1) := by decide +kernel
theorem dX4_join_1 : decode cX4_join 1 = .ok (.getfield 18, 3) := by decide +kernel
theorem dX4_join_4 : decode cX4_join 4 = .ok (.bipush 20, 2) := by decide +kernel
theorem dX4_join_6 : decode cX4_join 6 = .ok (.if_icmp .lt 6, 3) := by decide +kernel
theorem dX4_join_9 : decode cX4_join 9 = .ok (.bipush (-8), 2) := by decide +kernel
theorem dX4_join_11 : decode cX4_join 11 = .ok (.ireturn, 1) := by decide +kernel
theorem dX4_join_12 : decode cX4_join 12 = .ok (.aload_n 0, 1) := by decide +kernel
theorem dX4_join_13 : decode cX4_join 13 = .ok (.getfield 9, 3) := by decide +kernel
theorem dX4_join_16 : decode cX4_join 16 = .ok (.aload_n 0, 1) := by decide +kernel
theorem dX4_join_17 : decode cX4_join 17 = .ok (.getfield 18, 3) := by decide +kernel
theorem dX4_join_20 : decode cX4_join 20 = .ok (.iload_n 1, 1) := by decide +kernel
theorem dX4_join_21 : decode cX4_join 21 = .ok (.iastore, 1) := by decide +kernel
theorem dX4_join_22 : decode cX4_join 22 = .ok (.aload_n 0, 1) := by decide +kernel
theorem dX4_join_23 : decode cX4_join 23 = .ok (.getfield 15, 3) := by decide +kernel
theorem dX4_join_26 : decode cX4_join 26 = .ok (.aload_n 0, 1) := by decide +kernel
theorem dX4_join_27 : decode cX4_join 27 = .ok (.getfield 18, 3) := by decide +kernel
theorem dX4_join_30 : decode cX4_join 30 = .ok (.iload_n 2, 1) := by decide +kernel
theorem dX4_join_31 : decode cX4_join 31 = .ok (.iastore, 1) := by decide +kernel
theorem dX4_join_32 : decode cX4_join 32 = .ok (.aload_n 0, 1) := by decide +kernel
theorem dX4_join_33 : decode cX4_join 33 = .ok (.dup, 1) := by decide +kernel
theorem dX4_join_34 : decode cX4_join 34 = .ok (.getfield 18, 3) := by decide +kernel
theorem dX4_join_37 : decode cX4_join 37 = .ok (.iconst 1, 1) := by decide +kernel
theorem dX4_join_38 : decode cX4_join 38 = .ok (.iadd, 1) := by decide +kernel
theorem dX4_join_39 : decode cX4_join 39 = .ok (.putfield 18, 3) := by decide +kernel
theorem dX4_join_42 : decode cX4_join 42 = .ok (.aload_n 0, 1) := by decide +kernel
theorem dX4_join_43 : decode cX4_join 43 = .ok (.getfield 18, 3) := by decide +kernel
theorem dX4_join_46 : decode cX4_join 46 = .ok (.iconst 1, 1) := by decide +kernel
theorem dX4_join_47 : decode cX4_join 47 = .ok (.isub, 1) := by decide +kernel
theorem dX4_join_48 : decode cX4_join 48 = .ok (.ireturn, 1) := by decide +kernel
theorem dX4_clear_0 : decode cX4_clear 0 = .ok (.aload_n 0, 1) := by decide +kernel
theorem dX4_clear_1 : decode cX4_clear 1 = .ok (.getfield 18, 3) := by decide +kernel
theorem dX4_clear_4 : decode cX4_clear 4 = .ok (.istore_n 1, 1) := by decide +kernel
theorem dX4_clear_5 : decode cX4_clear 5 = .ok (.aload_n 0, 1) := by decide +kernel
theorem dX4_clear_6 : decode cX4_clear 6 = .ok (.iconst 0, 1) := by decide +kernel
theorem dX4_clear_7 : decode cX4_clear 7 = .ok (.putfield 18, 3) := by decide +kernel
theorem dX4_clear_10 : decode cX4_clear 10 = .ok (.iload_n 1, 1) := by decide +kernel
theorem dX4_clear_11 : decode cX4_clear 11 = .ok (.ireturn, 1) := by decide +kernel
set_option maxRecDepth 20000 in
theorem ggX4_bestStart_X5_put : GoodIn wsX4_bestStart wsX5_put := goodIn_r _ [10, 11, 12, 13, 14, 15, 16, 87] (by decide +kernel) (by decide +kernel)
set_option maxRecDepth 20000 in
theorem gX4_bestStart_X5_put : GoodIn wsX4_bestStart (wsV RX4 35 RX5 yX5_put wsX5_put) := goodIn_app (goodIn_of _ (by decide +kernel)) ggX4_bestStart_X5_put
set_option maxRecDepth 20000 in
theorem ggX4_bestStart_X4_startAt : GoodIn wsX4_bestStart wsX4_startAt := goodIn_r _ [21, 5, 22, 2, 3, 4, 23, 24, 25, 9, 26, 15, 16, 27, 28, 29, 30, 81, 82, 83, 84, 85, 86, 87] (by decide +kernel) (by decide +kernel)
set_option maxRecDepth 20000 in
theorem gX4_bestStart_X4_startAt : GoodIn wsX4_bestStart (wsV RX4 39 RX4 yX4_startAt wsX4_startAt) := goodIn_app (goodIn_of _ (by decide +kernel)) ggX4_bestStart_X4_startAt
set_option maxRecDepth 20000 in
theorem ggX4_bestStart_X5_against : GoodIn wsX4_bestStart wsX5_against := goodIn_r _ [34, 15, 35, 36, 37, 38, 87] (by decide +kernel) (by decide +kernel)
set_option maxRecDepth 20000 in
theorem gX4_bestStart_X5_against : GoodIn wsX4_bestStart (wsV RX4 43 RX5 yX5_against wsX5_against) := goodIn_app (goodIn_of _ (by decide +kernel)) ggX4_bestStart_X5_against
set_option maxRecDepth 20000 in
theorem ggX4_bestStart_X5_copy : GoodIn wsX4_bestStart wsX5_copy := goodIn_r _ [42, 15, 43, 44, 45, 46, 87] (by decide +kernel) (by decide +kernel)
set_option maxRecDepth 20000 in
theorem gX4_bestStart_X5_copy : GoodIn wsX4_bestStart (wsV RX4 47 RX5 yX5_copy wsX5_copy) := goodIn_app (goodIn_of _ (by decide +kernel)) ggX4_bestStart_X5_copy
set_option maxRecDepth 20000 in
theorem ggX4_bestStart_X8_put : GoodIn wsX4_bestStart wsX8_put := goodIn_r _ [51, 52, 53, 54, 55, 40, 41, 9, 42, 15, 43, 44, 45, 46, 56, 7, 8, 10, 11, 12, 13, 14, 16, 57, 58, 59, 60, 61, 62, 63, 64, 88, 89, 90, 91, 92, 87] (by decide +kernel) (by decide +kernel)
set_option maxRecDepth 20000 in
theorem gX4_bestStart_X8_put : GoodIn wsX4_bestStart (wsV RX4 51 RX8 yX8_put wsX8_put) := goodIn_app (goodIn_of _ (by decide +kernel)) ggX4_bestStart_X8_put
set_option maxRecDepth 20000 in
theorem ggX4_bestStart_X8_over : GoodIn wsX4_bestStart wsX8_over := goodIn_r _ [68, 52, 53, 69, 70, 71, 9, 72, 16, 15, 73, 74, 50, 75, 76, 77, 78, 79, 80, 24, 25, 26, 88, 89, 90, 91, 92, 87] (by decide +kernel) (by decide +kernel)
set_option maxRecDepth 20000 in
theorem gX4_bestStart_X8_over : GoodIn wsX4_bestStart (wsV RX4 55 RX8 yX8_over wsX8_over) := goodIn_app (goodIn_of _ (by decide +kernel)) ggX4_bestStart_X8_over
theorem dX4_bestStart_0 : decode cX4_bestStart 0 = .ok (.aload_n 0, 1) := by decide +kernel
theorem dX4_bestStart_1 : decode cX4_bestStart 1 = .ok (.getfield 18, 3) := by decide +kernel
theorem dX4_bestStart_4 : decode cX4_bestStart 4 = .ok (.ifCond .ne 5, 3) := by decide +kernel
theorem dX4_bestStart_7 : decode cX4_bestStart 7 = .ok (.iconst (-1), 1) := by decide +kernel
theorem dX4_bestStart_8 : decode cX4_bestStart 8 = .ok (.ireturn, 1) := by decide +kernel
theorem dX4_bestStart_9 : decode cX4_bestStart 9 = .ok (.aload_n 0, 1) := by decide +kernel
theorem dX4_bestStart_10 : decode cX4_bestStart 10 = .ok (.getfield 18, 3) := by decide +kernel
theorem dX4_bestStart_13 : decode cX4_bestStart 13 = .ok (.iconst 1, 1) := by decide +kernel
theorem dX4_bestStart_14 : decode cX4_bestStart 14 = .ok (.isub, 1) := by decide +kernel
theorem dX4_bestStart_15 : decode cX4_bestStart 15 = .ok (.istore_n 2, 1) := by decide +kernel
theorem dX4_bestStart_16 : decode cX4_bestStart 16 = .ok (.aload_n 0, 1) := by decide +kernel
theorem dX4_bestStart_17 : decode cX4_bestStart 17 = .ok (.getfield 25, 3) := by decide +kernel
theorem dX4_bestStart_20 : decode cX4_bestStart 20 = .ok (.lconst 0, 1) := by decide +kernel
theorem dX4_bestStart_21 : decode cX4_bestStart 21 = .ok (.invokevirtual 35, 3) := by decide +kernel
theorem dX4_bestStart_24 : decode cX4_bestStart 24 = .ok (.aload_n 0, 1) := by decide +kernel
theorem dX4_bestStart_25 : decode cX4_bestStart 25 = .ok (.getfield 29, 3) := by decide +kernel
theorem dX4_bestStart_28 : decode cX4_bestStart 28 = .ok (.lconst 1, 1) := by decide +kernel
theorem dX4_bestStart_29 : decode cX4_bestStart 29 = .ok (.invokevirtual 35, 3) := by decide +kernel
theorem dX4_bestStart_32 : decode cX4_bestStart 32 = .ok (.aload_n 0, 1) := by decide +kernel
theorem dX4_bestStart_33 : decode cX4_bestStart 33 = .ok (.getfield 32, 3) := by decide +kernel
theorem dX4_bestStart_36 : decode cX4_bestStart 36 = .ok (.lconst 0, 1) := by decide +kernel
theorem dX4_bestStart_37 : decode cX4_bestStart 37 = .ok (.invokevirtual 35, 3) := by decide +kernel
theorem dX4_bestStart_40 : decode cX4_bestStart 40 = .ok (.aload_n 0, 1) := by decide +kernel
theorem dX4_bestStart_41 : decode cX4_bestStart 41 = .ok (.getfield 18, 3) := by decide +kernel
theorem dX4_bestStart_44 : decode cX4_bestStart 44 = .ok (.iconst 1, 1) := by decide +kernel
theorem dX4_bestStart_45 : decode cX4_bestStart 45 = .ok (.isub, 1) := by decide +kernel
theorem dX4_bestStart_46 : decode cX4_bestStart 46 = .ok (.istore_n 3, 1) := by decide +kernel
theorem dX4_bestStart_47 : decode cX4_bestStart 47 = .ok (.iload_n 3, 1) := by decide +kernel
theorem dX4_bestStart_48 : decode cX4_bestStart 48 = .ok (.ifCond .lt 41, 3) := by decide +kernel
theorem dX4_bestStart_51 : decode cX4_bestStart 51 = .ok (.aload_n 0, 1) := by decide +kernel
theorem dX4_bestStart_52 : decode cX4_bestStart 52 = .ok (.iload_n 3, 1) := by decide +kernel
theorem dX4_bestStart_53 : decode cX4_bestStart 53 = .ok (.invokevirtual 39, 3) := by decide +kernel
theorem dX4_bestStart_56 : decode cX4_bestStart 56 = .ok (.aload_n 0, 1) := by decide +kernel
theorem dX4_bestStart_57 : decode cX4_bestStart 57 = .ok (.getfield 25, 3) := by decide +kernel
theorem dX4_bestStart_60 : decode cX4_bestStart 60 = .ok (.aload_n 0, 1) := by decide +kernel
theorem dX4_bestStart_61 : decode cX4_bestStart 61 = .ok (.getfield 32, 3) := by decide +kernel
theorem dX4_bestStart_64 : decode cX4_bestStart 64 = .ok (.invokevirtual 43, 3) := by decide +kernel
theorem dX4_bestStart_67 : decode cX4_bestStart 67 = .ok (.ifCond .le 16, 3) := by decide +kernel
theorem dX4_bestStart_70 : decode cX4_bestStart 70 = .ok (.aload_n 0, 1) := by decide +kernel
theorem dX4_bestStart_71 : decode cX4_bestStart 71 = .ok (.getfield 32, 3) := by decide +kernel
theorem dX4_bestStart_74 : decode cX4_bestStart 74 = .ok (.aload_n 0, 1) := by decide +kernel
theorem dX4_bestStart_75 : decode cX4_bestStart 75 = .ok (.getfield 25, 3) := by decide +kernel
theorem dX4_bestStart_78 : decode cX4_bestStart 78 = .ok (.invokevirtual 47, 3) := by decide +kernel
theorem dX4_bestStart_81 : decode cX4_bestStart 81 = .ok (.iload_n 3, 1) := by decide +kernel
theorem dX4_bestStart_82 : decode cX4_bestStart 82 = .ok (.istore_n 2, 1) := by decide +kernel
theorem dX4_bestStart_83 : decode cX4_bestStart 83 = .ok (.iinc 3 (-1), 3) := by decide +kernel
theorem dX4_bestStart_86 : decode cX4_bestStart 86 = .ok (.goto (-39), 3) := by decide +kernel
theorem dX4_bestStart_89 : decode cX4_bestStart 89 = .ok (.aload_n 1, 1) := by decide +kernel
theorem dX4_bestStart_90 : decode cX4_bestStart 90 = .ok (.aload_n 0, 1) := by decide +kernel
theorem dX4_bestStart_91 : decode cX4_bestStart 91 = .ok (.getfield 32, 3) := by decide +kernel
theorem dX4_bestStart_94 : decode cX4_bestStart 94 = .ok (.invokevirtual 51, 3) := by decide +kernel
theorem dX4_bestStart_97 : decode cX4_bestStart 97 = .ok (.iconst 0, 1) := by decide +kernel
theorem dX4_bestStart_98 : decode cX4_bestStart 98 = .ok (.istore_n 3, 1) := by decide +kernel
theorem dX4_bestStart_99 : decode cX4_bestStart 99 = .ok (.iload_n 3, 1) := by decide +kernel
theorem dX4_bestStart_100 : decode cX4_bestStart 100 = .ok (.aload_n 0, 1) := by decide +kernel
theorem dX4_bestStart_101 : decode cX4_bestStart 101 = .ok (.getfield 18, 3) := by decide +kernel
theorem dX4_bestStart_104 : decode cX4_bestStart 104 = .ok (.if_icmp .ge 19, 3) := by decide +kernel
theorem dX4_bestStart_107 : decode cX4_bestStart 107 = .ok (.aload_n 1, 1) := by decide +kernel
theorem dX4_bestStart_108 : decode cX4_bestStart 108 = .ok (.aload_n 0, 1) := by decide +kernel
theorem dX4_bestStart_109 : decode cX4_bestStart 109 = .ok (.getfield 15, 3) := by decide +kernel
theorem dX4_bestStart_112 : decode cX4_bestStart 112 = .ok (.iload_n 3, 1) := by decide +kernel
theorem dX4_bestStart_113 : decode cX4_bestStart 113 = .ok (.iaload, 1) := by decide +kernel
theorem dX4_bestStart_114 : decode cX4_bestStart 114 = .ok (.invokevirtual 55, 3) := by decide +kernel
theorem dX4_bestStart_117 : decode cX4_bestStart 117 = .ok (.iinc 3 1, 3) := by decide +kernel
theorem dX4_bestStart_120 : decode cX4_bestStart 120 = .ok (.goto (-21), 3) := by decide +kernel
theorem dX4_bestStart_123 : decode cX4_bestStart 123 = .ok (.iload_n 2, 1) := by decide +kernel
theorem dX4_bestStart_124 : decode cX4_bestStart 124 = .ok (.ireturn, 1) := by decide +kernel
set_option maxRecDepth 20000 in
theorem ggX4_startAt_X5_times : GoodIn wsX4_startAt wsX5_times := goodIn_r _ [10, 11, 12, 23] (by decide +kernel) (by decide +kernel)
set_option maxRecDepth 20000 in
theorem gX4_startAt_X5_times : GoodIn wsX4_startAt (wsV RX4 58 RX5 yX5_times wsX5_times) := goodIn_app (goodIn_of _ (by decide +kernel)) ggX4_startAt_X5_times
set_option maxRecDepth 20000 in
theorem ggX4_startAt_X5_addTimes : GoodIn wsX4_startAt wsX5_addTimes := goodIn_r _ [16, 11, 12, 23] (by decide +kernel) (by decide +kernel)
set_option maxRecDepth 20000 in
theorem gX4_startAt_X5_addTimes : GoodIn wsX4_startAt (wsV RX4 61 RX5 yX5_addTimes wsX5_addTimes) := goodIn_app (goodIn_of _ (by decide +kernel)) ggX4_startAt_X5_addTimes
theorem dX4_startAt_0 : decode cX4_startAt 0 = .ok (.aload_n 0, 1) := by decide +kernel
theorem dX4_startAt_1 : decode cX4_startAt 1 = .ok (.getfield 15, 3) := by decide +kernel
theorem dX4_startAt_4 : decode cX4_startAt 4 = .ok (.iload_n 1, 1) := by decide +kernel
theorem dX4_startAt_5 : decode cX4_startAt 5 = .ok (.iaload, 1) := by decide +kernel
theorem dX4_startAt_6 : decode cX4_startAt 6 = .ok (.aload_n 0, 1) := by decide +kernel
theorem dX4_startAt_7 : decode cX4_startAt 7 = .ok (.getfield 9, 3) := by decide +kernel
theorem dX4_startAt_10 : decode cX4_startAt 10 = .ok (.iload_n 1, 1) := by decide +kernel
theorem dX4_startAt_11 : decode cX4_startAt 11 = .ok (.iaload, 1) := by decide +kernel
theorem dX4_startAt_12 : decode cX4_startAt 12 = .ok (.isub, 1) := by decide +kernel
theorem dX4_startAt_13 : decode cX4_startAt 13 = .ok (.istore_n 2, 1) := by decide +kernel
theorem dX4_startAt_14 : decode cX4_startAt 14 = .ok (.aload_n 0, 1) := by decide +kernel
theorem dX4_startAt_15 : decode cX4_startAt 15 = .ok (.getfield 25, 3) := by decide +kernel
theorem dX4_startAt_18 : decode cX4_startAt 18 = .ok (.iload_n 2, 1) := by decide +kernel
theorem dX4_startAt_19 : decode cX4_startAt 19 = .ok (.i2l, 1) := by decide +kernel
theorem dX4_startAt_20 : decode cX4_startAt 20 = .ok (.invokevirtual 58, 3) := by decide +kernel
theorem dX4_startAt_23 : decode cX4_startAt 23 = .ok (.aload_n 0, 1) := by decide +kernel
theorem dX4_startAt_24 : decode cX4_startAt 24 = .ok (.getfield 25, 3) := by decide +kernel
theorem dX4_startAt_27 : decode cX4_startAt 27 = .ok (.aload_n 0, 1) := by decide +kernel
theorem dX4_startAt_28 : decode cX4_startAt 28 = .ok (.getfield 29, 3) := by decide +kernel
theorem dX4_startAt_31 : decode cX4_startAt 31 = .ok (.aload_n 0, 1) := by decide +kernel
theorem dX4_startAt_32 : decode cX4_startAt 32 = .ok (.getfield 9, 3) := by decide +kernel
theorem dX4_startAt_35 : decode cX4_startAt 35 = .ok (.iload_n 1, 1) := by decide +kernel
theorem dX4_startAt_36 : decode cX4_startAt 36 = .ok (.iaload, 1) := by decide +kernel
theorem dX4_startAt_37 : decode cX4_startAt 37 = .ok (.i2l, 1) := by decide +kernel
theorem dX4_startAt_38 : decode cX4_startAt 38 = .ok (.invokevirtual 61, 3) := by decide +kernel
theorem dX4_startAt_41 : decode cX4_startAt 41 = .ok (.aload_n 0, 1) := by decide +kernel
theorem dX4_startAt_42 : decode cX4_startAt 42 = .ok (.getfield 29, 3) := by decide +kernel
theorem dX4_startAt_45 : decode cX4_startAt 45 = .ok (.iload_n 2, 1) := by decide +kernel
theorem dX4_startAt_46 : decode cX4_startAt 46 = .ok (.i2l, 1) := by decide +kernel
theorem dX4_startAt_47 : decode cX4_startAt 47 = .ok (.invokevirtual 58, 3) := by decide +kernel
theorem dX4_startAt_50 : decode cX4_startAt 50 = .ok (.aload_n 0, 1) := by decide +kernel
theorem dX4_startAt_51 : decode cX4_startAt 51 = .ok (.getfield 32, 3) := by decide +kernel
theorem dX4_startAt_54 : decode cX4_startAt 54 = .ok (.aload_n 0, 1) := by decide +kernel
theorem dX4_startAt_55 : decode cX4_startAt 55 = .ok (.getfield 15, 3) := by decide +kernel
theorem dX4_startAt_58 : decode cX4_startAt 58 = .ok (.iload_n 1, 1) := by decide +kernel
theorem dX4_startAt_59 : decode cX4_startAt 59 = .ok (.iaload, 1) := by decide +kernel
theorem dX4_startAt_60 : decode cX4_startAt 60 = .ok (.i2l, 1) := by decide +kernel
theorem dX4_startAt_61 : decode cX4_startAt 61 = .ok (.invokevirtual 58, 3) := by decide +kernel
theorem dX4_startAt_64 : decode cX4_startAt 64 = .ok (.return_, 1) := by decide +kernel
end
section
theorem dX5_init_0 : decode cX5_init 0 = .ok (.aload_n 0, 1) := by decide +kernel
theorem dX5_init_1 : decode cX5_init 1 = .ok (.invokespecial 1, 3) := by decide +kernel
theorem dX5_init_4 : decode cX5_init 4 = .ok (.aload_n 0, 1) := by decide +kernel
theorem dX5_init_5 : decode cX5_init 5 = .ok (.bipush 6, 2) := by decide +kernel
theorem dX5_init_7 : decode cX5_init 7 = .ok (.newarray .int, 2) := by decide +kernel
theorem dX5_init_9 : decode cX5_init 9 = .ok (.putfield 9, 3) := by decide +kernel
theorem dX5_init_12 : decode cX5_init 12 = .ok (.return_, 1) := by decide +kernel
theorem dX5_put_0 : decode cX5_put 0 = .ok (.lconst 0, 1) := by decide +kernel
theorem dX5_put_1 : decode cX5_put 1 = .ok (.lload_n 1, 1) := by decide +kernel
theorem dX5_put_2 : decode cX5_put 2 = .ok (.invokestatic 13, 3) := by decide +kernel
theorem dX5_put_5 : decode cX5_put 5 = .ok (.lstore_n 3, 1) := by decide +kernel
theorem dX5_put_6 : decode cX5_put 6 = .ok (.iconst 0, 1) := by decide +kernel
theorem dX5_put_7 : decode cX5_put 7 = .ok (.istore 5, 2) := by decide +kernel
theorem dX5_put_9 : decode cX5_put 9 = .ok (.iload 5, 2) := by decide +kernel
theorem dX5_put_11 : decode cX5_put 11 = .ok (.bipush 6, 2) := by decide +kernel
theorem dX5_put_13 : decode cX5_put 13 = .ok (.if_icmp .ge 28, 3) := by decide +kernel
theorem dX5_put_16 : decode cX5_put 16 = .ok (.aload_n 0, 1) := by decide +kernel
theorem dX5_put_17 : decode cX5_put 17 = .ok (.getfield 9, 3) := by decide +kernel
theorem dX5_put_20 : decode cX5_put 20 = .ok (.iload 5, 2) := by decide +kernel
theorem dX5_put_22 : decode cX5_put 22 = .ok (.lload_n 3, 1) := by decide +kernel
theorem dX5_put_23 : decode cX5_put 23 = .ok (.ldc2_w 19, 3) := by decide +kernel
theorem dX5_put_26 : decode cX5_put 26 = .ok (.lrem, 1) := by decide +kernel
theorem dX5_put_27 : decode cX5_put 27 = .ok (.l2i, 1) := by decide +kernel
theorem dX5_put_28 : decode cX5_put 28 = .ok (.iastore, 1) := by decide +kernel
theorem dX5_put_29 : decode cX5_put 29 = .ok (.lload_n 3, 1) := by decide +kernel
theorem dX5_put_30 : decode cX5_put 30 = .ok (.ldc2_w 19, 3) := by decide +kernel
theorem dX5_put_33 : decode cX5_put 33 = .ok (.ldiv, 1) := by decide +kernel
theorem dX5_put_34 : decode cX5_put 34 = .ok (.lstore_n 3, 1) := by decide +kernel
theorem dX5_put_35 : decode cX5_put 35 = .ok (.iinc 5 1, 3) := by decide +kernel
theorem dX5_put_38 : decode cX5_put 38 = .ok (.goto (-29), 3) := by decide +kernel
theorem dX5_put_41 : decode cX5_put 41 = .ok (.return_, 1) := by decide +kernel
theorem dX5_copy_0 : decode cX5_copy 0 = .ok (.aload_n 1, 1) := by decide +kernel
theorem dX5_copy_1 : decode cX5_copy 1 = .ok (.getfield 9, 3) := by decide +kernel
theorem dX5_copy_4 : decode cX5_copy 4 = .ok (.iconst 0, 1) := by decide +kernel
theorem dX5_copy_5 : decode cX5_copy 5 = .ok (.aload_n 0, 1) := by decide +kernel
theorem dX5_copy_6 : decode cX5_copy 6 = .ok (.getfield 9, 3) := by decide +kernel
theorem dX5_copy_9 : decode cX5_copy 9 = .ok (.iconst 0, 1) := by decide +kernel
theorem dX5_copy_10 : decode cX5_copy 10 = .ok (.bipush 6, 2) := by decide +kernel
theorem dX5_copy_12 : decode cX5_copy 12 = .ok (.invokestatic 21, 3) := by decide +kernel
theorem dX5_copy_15 : decode cX5_copy 15 = .ok (.return_, 1) := by decide +kernel
theorem dX5_times_0 : decode cX5_times 0 = .ok (.lconst 0, 1) := by decide +kernel
theorem dX5_times_1 : decode cX5_times 1 = .ok (.lstore_n 3, 1) := by decide +kernel
theorem dX5_times_2 : decode cX5_times 2 = .ok (.iconst 0, 1) := by decide +kernel
theorem dX5_times_3 : decode cX5_times 3 = .ok (.istore 5, 2) := by decide +kernel
theorem dX5_times_5 : decode cX5_times 5 = .ok (.iload 5, 2) := by decide +kernel
theorem dX5_times_7 : decode cX5_times 7 = .ok (.bipush 6, 2) := by decide +kernel
theorem dX5_times_9 : decode cX5_times 9 = .ok (.if_icmp .ge 41, 3) := by decide +kernel
theorem dX5_times_12 : decode cX5_times 12 = .ok (.lload_n 3, 1) := by decide +kernel
theorem dX5_times_13 : decode cX5_times 13 = .ok (.aload_n 0, 1) := by decide +kernel
theorem dX5_times_14 : decode cX5_times 14 = .ok (.getfield 9, 3) := by decide +kernel
theorem dX5_times_17 : decode cX5_times 17 = .ok (.iload 5, 2) := by decide +kernel
theorem dX5_times_19 : decode cX5_times 19 = .ok (.iaload, 1) := by decide +kernel
theorem dX5_times_20 : decode cX5_times 20 = .ok (.i2l, 1) := by decide +kernel
theorem dX5_times_21 : decode cX5_times 21 = .ok (.lload_n 1, 1) := by decide +kernel
theorem dX5_times_22 : decode cX5_times 22 = .ok (.lmul, 1) := by decide +kernel
theorem dX5_times_23 : decode cX5_times 23 = .ok (.ladd, 1) := by decide +kernel
theorem dX5_times_24 : decode cX5_times 24 = .ok (.lstore_n 3, 1) := by decide +kernel
theorem dX5_times_25 : decode cX5_times 25 = .ok (.aload_n 0, 1) := by decide +kernel
theorem dX5_times_26 : decode cX5_times 26 = .ok (.getfield 9, 3) := by decide +kernel
theorem dX5_times_29 : decode cX5_times 29 = .ok (.iload 5, 2) := by decide +kernel
theorem dX5_times_31 : decode cX5_times 31 = .ok (.lload_n 3, 1) := by decide +kernel
theorem dX5_times_32 : decode cX5_times 32 = .ok (.ldc2_w 19, 3) := by decide +kernel
theorem dX5_times_35 : decode cX5_times 35 = .ok (.lrem, 1) := by decide +kernel
theorem dX5_times_36 : decode cX5_times 36 = .ok (.l2i, 1) := by decide +kernel
theorem dX5_times_37 : decode cX5_times 37 = .ok (.iastore, 1) := by decide +kernel
theorem dX5_times_38 : decode cX5_times 38 = .ok (.lload_n 3, 1) := by decide +kernel
theorem dX5_times_39 : decode cX5_times 39 = .ok (.ldc2_w 19, 3) := by decide +kernel
theorem dX5_times_42 : decode cX5_times 42 = .ok (.ldiv, 1) := by decide +kernel
theorem dX5_times_43 : decode cX5_times 43 = .ok (.lstore_n 3, 1) := by decide +kernel
theorem dX5_times_44 : decode cX5_times 44 = .ok (.iinc 5 1, 3) := by decide +kernel
theorem dX5_times_47 : decode cX5_times 47 = .ok (.goto (-42), 3) := by decide +kernel
theorem dX5_times_50 : decode cX5_times 50 = .ok (.return_, 1) := by decide +kernel
theorem dX5_addTimes_0 : decode cX5_addTimes 0 = .ok (.lconst 0, 1) := by decide +kernel
theorem dX5_addTimes_1 : decode cX5_addTimes 1 = .ok (.lstore 4, 2) := by decide +kernel
theorem dX5_addTimes_3 : decode cX5_addTimes 3 = .ok (.iconst 0, 1) := by decide +kernel
theorem dX5_addTimes_4 : decode cX5_addTimes 4 = .ok (.istore 6, 2) := by decide +kernel
theorem dX5_addTimes_6 : decode cX5_addTimes 6 = .ok (.iload 6, 2) := by decide +kernel
theorem dX5_addTimes_8 : decode cX5_addTimes 8 = .ok (.bipush 6, 2) := by decide +kernel
theorem dX5_addTimes_10 : decode cX5_addTimes 10 = .ok (.if_icmp .ge 55, 3) := by decide +kernel
theorem dX5_addTimes_13 : decode cX5_addTimes 13 = .ok (.lload 4, 2) := by decide +kernel
theorem dX5_addTimes_15 : decode cX5_addTimes 15 = .ok (.aload_n 0, 1) := by decide +kernel
theorem dX5_addTimes_16 : decode cX5_addTimes 16 = .ok (.getfield 9, 3) := by decide +kernel
theorem dX5_addTimes_19 : decode cX5_addTimes 19 = .ok (.iload 6, 2) := by decide +kernel
theorem dX5_addTimes_21 : decode cX5_addTimes 21 = .ok (.iaload, 1) := by decide +kernel
theorem dX5_addTimes_22 : decode cX5_addTimes 22 = .ok (.i2l, 1) := by decide +kernel
theorem dX5_addTimes_23 : decode cX5_addTimes 23 = .ok (.aload_n 1, 1) := by decide +kernel
theorem dX5_addTimes_24 : decode cX5_addTimes 24 = .ok (.getfield 9, 3) := by decide +kernel
theorem dX5_addTimes_27 : decode cX5_addTimes 27 = .ok (.iload 6, 2) := by decide +kernel
theorem dX5_addTimes_29 : decode cX5_addTimes 29 = .ok (.iaload, 1) := by decide +kernel
theorem dX5_addTimes_30 : decode cX5_addTimes 30 = .ok (.i2l, 1) := by decide +kernel
theorem dX5_addTimes_31 : decode cX5_addTimes 31 = .ok (.lload_n 2, 1) := by decide +kernel
theorem dX5_addTimes_32 : decode cX5_addTimes 32 = .ok (.lmul, 1) := by decide +kernel
theorem dX5_addTimes_33 : decode cX5_addTimes 33 = .ok (.ladd, 1) := by decide +kernel
theorem dX5_addTimes_34 : decode cX5_addTimes 34 = .ok (.ladd, 1) := by decide +kernel
theorem dX5_addTimes_35 : decode cX5_addTimes 35 = .ok (.lstore 4, 2) := by decide +kernel
theorem dX5_addTimes_37 : decode cX5_addTimes 37 = .ok (.aload_n 0, 1) := by decide +kernel
theorem dX5_addTimes_38 : decode cX5_addTimes 38 = .ok (.getfield 9, 3) := by decide +kernel
theorem dX5_addTimes_41 : decode cX5_addTimes 41 = .ok (.iload 6, 2) := by decide +kernel
theorem dX5_addTimes_43 : decode cX5_addTimes 43 = .ok (.lload 4, 2) := by decide +kernel
theorem dX5_addTimes_45 : decode cX5_addTimes 45 = .ok (.ldc2_w 19, 3) := by decide +kernel
theorem dX5_addTimes_48 : decode cX5_addTimes 48 = .ok (.lrem, 1) := by decide +kernel
theorem dX5_addTimes_49 : decode cX5_addTimes 49 = .ok (.l2i, 1) := by decide +kernel
theorem dX5_addTimes_50 : decode cX5_addTimes 50 = .ok (.iastore, 1) := by decide +kernel
theorem dX5_addTimes_51 : decode cX5_addTimes 51 = .ok (.lload 4, 2) := by decide +kernel
theorem dX5_addTimes_53 : decode cX5_addTimes 53 = .ok (.ldc2_w 19, 3) := by decide +kernel
theorem dX5_addTimes_56 : decode cX5_addTimes 56 = .ok (.ldiv, 1) := by decide +kernel
theorem dX5_addTimes_57 : decode cX5_addTimes 57 = .ok (.lstore 4, 2) := by decide +kernel
theorem dX5_addTimes_59 : decode cX5_addTimes 59 = .ok (.iinc 6 1, 3) := by decide +kernel
theorem dX5_addTimes_62 : decode cX5_addTimes 62 = .ok (.goto (-56), 3) := by decide +kernel
theorem dX5_addTimes_65 : decode cX5_addTimes 65 = .ok (.return_, 1) := by decide +kernel
set_option maxRecDepth 20000 in
theorem ggX5_takeTimes_J9_floorMod_f86c9 : GoodIn wsX5_takeTimes wsJ9_floorMod_f86c9 := goodIn_r _ [6] (by decide +kernel) (by decide +kernel)
set_option maxRecDepth 20000 in
theorem gX5_takeTimes_J9_floorMod_f86c9 : GoodIn wsX5_takeTimes (va_wsS RX5 27 yJ9_floorMod_f86c9 wsJ9_floorMod_f86c9) := goodIn_app (goodIn_of _ (by decide +kernel)) ggX5_takeTimes_J9_floorMod_f86c9
set_option maxRecDepth 20000 in
theorem ggX5_takeTimes_J9_floorDiv_f86c9 : GoodIn wsX5_takeTimes wsJ9_floorDiv_f86c9 := goodIn_r _ [9] (by decide +kernel) (by decide +kernel)
set_option maxRecDepth 20000 in
theorem gX5_takeTimes_J9_floorDiv_f86c9 : GoodIn wsX5_takeTimes (va_wsS RX5 30 yJ9_floorDiv_f86c9 wsJ9_floorDiv_f86c9) := goodIn_app (goodIn_of _ (by decide +kernel)) ggX5_takeTimes_J9_floorDiv_f86c9
theorem dX5_takeTimes_0 : decode cX5_takeTimes 0 = .ok (.lconst 0, 1) := by decide +kernel
theorem dX5_takeTimes_1 : decode cX5_takeTimes 1 = .ok (.lstore 4, 2) := by decide +kernel
theorem dX5_takeTimes_3 : decode cX5_takeTimes 3 = .ok (.iconst 0, 1) := by decide +kernel
theorem dX5_takeTimes_4 : decode cX5_takeTimes 4 = .ok (.istore 6, 2) := by decide +kernel
theorem dX5_takeTimes_6 : decode cX5_takeTimes 6 = .ok (.iload 6, 2) := by decide +kernel
theorem dX5_takeTimes_8 : decode cX5_takeTimes 8 = .ok (.bipush 6, 2) := by decide +kernel
theorem dX5_takeTimes_10 : decode cX5_takeTimes 10 = .ok (.if_icmp .ge 59, 3) := by decide +kernel
theorem dX5_takeTimes_13 : decode cX5_takeTimes 13 = .ok (.lload 4, 2) := by decide +kernel
theorem dX5_takeTimes_15 : decode cX5_takeTimes 15 = .ok (.aload_n 0, 1) := by decide +kernel
theorem dX5_takeTimes_16 : decode cX5_takeTimes 16 = .ok (.getfield 9, 3) := by decide +kernel
theorem dX5_takeTimes_19 : decode cX5_takeTimes 19 = .ok (.iload 6, 2) := by decide +kernel
theorem dX5_takeTimes_21 : decode cX5_takeTimes 21 = .ok (.iaload, 1) := by decide +kernel
theorem dX5_takeTimes_22 : decode cX5_takeTimes 22 = .ok (.i2l, 1) := by decide +kernel
theorem dX5_takeTimes_23 : decode cX5_takeTimes 23 = .ok (.aload_n 1, 1) := by decide +kernel
theorem dX5_takeTimes_24 : decode cX5_takeTimes 24 = .ok (.getfield 9, 3) := by decide +kernel
theorem dX5_takeTimes_27 : decode cX5_takeTimes 27 = .ok (.iload 6, 2) := by decide +kernel
theorem dX5_takeTimes_29 : decode cX5_takeTimes 29 = .ok (.iaload, 1) := by decide +kernel
theorem dX5_takeTimes_30 : decode cX5_takeTimes 30 = .ok (.i2l, 1) := by decide +kernel
theorem dX5_takeTimes_31 : decode cX5_takeTimes 31 = .ok (.lload_n 2, 1) := by decide +kernel
theorem dX5_takeTimes_32 : decode cX5_takeTimes 32 = .ok (.lmul, 1) := by decide +kernel
theorem dX5_takeTimes_33 : decode cX5_takeTimes 33 = .ok (.lsub, 1) := by decide +kernel
theorem dX5_takeTimes_34 : decode cX5_takeTimes 34 = .ok (.ladd, 1) := by decide +kernel
theorem dX5_takeTimes_35 : decode cX5_takeTimes 35 = .ok (.lstore 4, 2) := by decide +kernel
theorem dX5_takeTimes_37 : decode cX5_takeTimes 37 = .ok (.aload_n 0, 1) := by decide +kernel
theorem dX5_takeTimes_38 : decode cX5_takeTimes 38 = .ok (.getfield 9, 3) := by decide +kernel
theorem dX5_takeTimes_41 : decode cX5_takeTimes 41 = .ok (.iload 6, 2) := by decide +kernel
theorem dX5_takeTimes_43 : decode cX5_takeTimes 43 = .ok (.lload 4, 2) := by decide +kernel
theorem dX5_takeTimes_45 : decode cX5_takeTimes 45 = .ok (.ldc2_w 19, 3) := by decide +kernel
theorem dX5_takeTimes_48 : decode cX5_takeTimes 48 = .ok (.invokestatic 27, 3) := by decide +kernel
theorem dX5_takeTimes_51 : decode cX5_takeTimes 51 = .ok (.l2i, 1) := by decide +kernel
theorem dX5_takeTimes_52 : decode cX5_takeTimes 52 = .ok (.iastore, 1) := by decide +kernel
theorem dX5_takeTimes_53 : decode cX5_takeTimes 53 = .ok (.lload 4, 2) := by decide +kernel
theorem dX5_takeTimes_55 : decode cX5_takeTimes 55 = .ok (.ldc2_w 19, 3) := by decide +kernel
theorem dX5_takeTimes_58 : decode cX5_takeTimes 58 = .ok (.invokestatic 30, 3) := by decide +kernel
theorem dX5_takeTimes_61 : decode cX5_takeTimes 61 = .ok (.lstore 4, 2) := by decide +kernel
theorem dX5_takeTimes_63 : decode cX5_takeTimes 63 = .ok (.iinc 6 1, 3) := by decide +kernel
theorem dX5_takeTimes_66 : decode cX5_takeTimes 66 = .ok (.goto (-60), 3) := by decide +kernel
theorem dX5_takeTimes_69 : decode cX5_takeTimes 69 = .ok (.return_, 1) := by decide +kernel
theorem dX5_divide_0 : decode cX5_divide 0 = .ok (.iload_n 1, 1) := by decide +kernel
theorem dX5_divide_1 : decode cX5_divide 1 = .ok (.iconst 1, 1) := by decide +kernel
theorem dX5_divide_2 : decode cX5_divide 2 = .ok (.if_icmp .ge 4, 3) := by decide +kernel
theorem dX5_divide_5 : decode cX5_divide 5 = .ok (.return_, 1) := by decide +kernel
theorem dX5_divide_6 : decode cX5_divide 6 = .ok (.lconst 0, 1) := by decide +kernel
theorem dX5_divide_7 : decode cX5_divide 7 = .ok (.lstore_n 2, 1) := by decide +kernel
theorem dX5_divide_8 : decode cX5_divide 8 = .ok (.iconst 5, 1) := by decide +kernel
theorem dX5_divide_9 : decode cX5_divide 9 = .ok (.istore 4, 2) := by decide +kernel
theorem dX5_divide_11 : decode cX5_divide 11 = .ok (.iload 4, 2) := by decide +kernel
theorem dX5_divide_13 : decode cX5_divide 13 = .ok (.ifCond .lt 41, 3) := by decide +kernel
theorem dX5_divide_16 : decode cX5_divide 16 = .ok (.lload_n 2, 1) := by decide +kernel
theorem dX5_divide_17 : decode cX5_divide 17 = .ok (.ldc2_w 19, 3) := by decide +kernel
theorem dX5_divide_20 : decode cX5_divide 20 = .ok (.lmul, 1) := by decide +kernel
theorem dX5_divide_21 : decode cX5_divide 21 = .ok (.aload_n 0, 1) := by decide +kernel
theorem dX5_divide_22 : decode cX5_divide 22 = .ok (.getfield 9, 3) := by decide +kernel
theorem dX5_divide_25 : decode cX5_divide 25 = .ok (.iload 4, 2) := by decide +kernel
theorem dX5_divide_27 : decode cX5_divide 27 = .ok (.iaload, 1) := by decide +kernel
theorem dX5_divide_28 : decode cX5_divide 28 = .ok (.i2l, 1) := by decide +kernel
theorem dX5_divide_29 : decode cX5_divide 29 = .ok (.ladd, 1) := by decide +kernel
theorem dX5_divide_30 : decode cX5_divide 30 = .ok (.lstore_n 2, 1) := by decide +kernel
theorem dX5_divide_31 : decode cX5_divide 31 = .ok (.aload_n 0, 1) := by decide +kernel
theorem dX5_divide_32 : decode cX5_divide 32 = .ok (.getfield 9, 3) := by decide +kernel
theorem dX5_divide_35 : decode cX5_divide 35 = .ok (.iload 4, 2) := by decide +kernel
theorem dX5_divide_37 : decode cX5_divide 37 = .ok (.lload_n 2, 1) := by decide +kernel
theorem dX5_divide_38 : decode cX5_divide 38 = .ok (.iload_n 1, 1) := by decide +kernel
theorem dX5_divide_39 : decode cX5_divide 39 = .ok (.i2l, 1) := by decide +kernel
theorem dX5_divide_40 : decode cX5_divide 40 = .ok (.ldiv, 1) := by decide +kernel
theorem dX5_divide_41 : decode cX5_divide 41 = .ok (.l2i, 1) := by decide +kernel
theorem dX5_divide_42 : decode cX5_divide 42 = .ok (.iastore, 1) := by decide +kernel
theorem dX5_divide_43 : decode cX5_divide 43 = .ok (.lload_n 2, 1) := by decide +kernel
theorem dX5_divide_44 : decode cX5_divide 44 = .ok (.iload_n 1, 1) := by decide +kernel
theorem dX5_divide_45 : decode cX5_divide 45 = .ok (.i2l, 1) := by decide +kernel
theorem dX5_divide_46 : decode cX5_divide 46 = .ok (.lrem, 1) := by decide +kernel
theorem dX5_divide_47 : decode cX5_divide 47 = .ok (.lstore_n 2, 1) := by decide +kernel
theorem dX5_divide_48 : decode cX5_divide 48 = .ok (.iinc 4 (-1), 3) := by decide +kernel
theorem dX5_divide_51 : decode cX5_divide 51 = .ok (.goto (-40), 3) := by decide +kernel
theorem dX5_divide_54 : decode cX5_divide 54 = .ok (.return_, 1) := by decide +kernel
theorem dX5_rest_0 : decode cX5_rest 0 = .ok (.iload_n 1, 1) := by decide +kernel
theorem dX5_rest_1 : decode cX5_rest 1 = .ok (.iconst 1, 1) := by decide +kernel
theorem dX5_rest_2 : decode cX5_rest 2 = .ok (.if_icmp .ge 5, 3) := by decide +kernel
theorem dX5_rest_5 : decode cX5_rest 5 = .ok (.iconst 0, 1) := by decide +kernel
theorem dX5_rest_6 : decode cX5_rest 6 = .ok (.ireturn, 1) := by decide +kernel
theorem dX5_rest_7 : decode cX5_rest 7 = .ok (.lconst 0, 1) := by decide +kernel
theorem dX5_rest_8 : decode cX5_rest 8 = .ok (.lstore_n 2, 1) := by decide +kernel
theorem dX5_rest_9 : decode cX5_rest 9 = .ok (.iconst 5, 1) := by decide +kernel
theorem dX5_rest_10 : decode cX5_rest 10 = .ok (.istore 4, 2) := by decide +kernel
theorem dX5_rest_12 : decode cX5_rest 12 = .ok (.iload 4, 2) := by decide +kernel
theorem dX5_rest_14 : decode cX5_rest 14 = .ok (.ifCond .lt 27, 3) := by decide +kernel
theorem dX5_rest_17 : decode cX5_rest 17 = .ok (.lload_n 2, 1) := by decide +kernel
theorem dX5_rest_18 : decode cX5_rest 18 = .ok (.ldc2_w 19, 3) := by decide +kernel
theorem dX5_rest_21 : decode cX5_rest 21 = .ok (.lmul, 1) := by decide +kernel
theorem dX5_rest_22 : decode cX5_rest 22 = .ok (.aload_n 0, 1) := by decide +kernel
theorem dX5_rest_23 : decode cX5_rest 23 = .ok (.getfield 9, 3) := by decide +kernel
theorem dX5_rest_26 : decode cX5_rest 26 = .ok (.iload 4, 2) := by decide +kernel
theorem dX5_rest_28 : decode cX5_rest 28 = .ok (.iaload, 1) := by decide +kernel
theorem dX5_rest_29 : decode cX5_rest 29 = .ok (.i2l, 1) := by decide +kernel
theorem dX5_rest_30 : decode cX5_rest 30 = .ok (.ladd, 1) := by decide +kernel
theorem dX5_rest_31 : decode cX5_rest 31 = .ok (.iload_n 1, 1) := by decide +kernel
theorem dX5_rest_32 : decode cX5_rest 32 = .ok (.i2l, 1) := by decide +kernel
theorem dX5_rest_33 : decode cX5_rest 33 = .ok (.lrem, 1) := by decide +kernel
theorem dX5_rest_34 : decode cX5_rest 34 = .ok (.lstore_n 2, 1) := by decide +kernel
theorem dX5_rest_35 : decode cX5_rest 35 = .ok (.iinc 4 (-1), 3) := by decide +kernel
theorem dX5_rest_38 : decode cX5_rest 38 = .ok (.goto (-26), 3) := by decide +kernel
theorem dX5_rest_41 : decode cX5_rest 41 = .ok (.lload_n 2, 1) := by decide +kernel
theorem dX5_rest_42 : decode cX5_rest 42 = .ok (.l2i, 1) := by decide +kernel
theorem dX5_rest_43 : decode cX5_rest 43 = .ok (.ireturn, 1) := by decide +kernel
set_option maxRecDepth 20000 in
theorem ggX5_against_J6_compare_7cf53 : GoodIn wsX5_against wsJ6_compare_7cf53 := goodIn_r _ [5] (by decide +kernel) (by decide +kernel)
set_option maxRecDepth 20000 in
theorem gX5_against_J6_compare_7cf53 : GoodIn wsX5_against (va_wsS RX5 33 yJ6_compare_7cf53 wsJ6_compare_7cf53) := goodIn_app (goodIn_of _ (by decide +kernel)) ggX5_against_J6_compare_7cf53
theorem dX5_against_0 : decode cX5_against 0 = .ok (.iconst 5, 1) := by decide +kernel
theorem dX5_against_1 : decode cX5_against 1 = .ok (.istore_n 2, 1) := by decide +kernel
theorem dX5_against_2 : decode cX5_against 2 = .ok (.iload_n 2, 1) := by decide +kernel
theorem dX5_against_3 : decode cX5_against 3 = .ok (.ifCond .lt 40, 3) := by decide +kernel
theorem dX5_against_6 : decode cX5_against 6 = .ok (.aload_n 0, 1) := by decide +kernel
theorem dX5_against_7 : decode cX5_against 7 = .ok (.getfield 9, 3) := by decide +kernel
theorem dX5_against_10 : decode cX5_against 10 = .ok (.iload_n 2, 1) := by decide +kernel
theorem dX5_against_11 : decode cX5_against 11 = .ok (.iaload, 1) := by decide +kernel
theorem dX5_against_12 : decode cX5_against 12 = .ok (.aload_n 1, 1) := by decide +kernel
theorem dX5_against_13 : decode cX5_against 13 = .ok (.getfield 9, 3) := by decide +kernel
theorem dX5_against_16 : decode cX5_against 16 = .ok (.iload_n 2, 1) := by decide +kernel
theorem dX5_against_17 : decode cX5_against 17 = .ok (.iaload, 1) := by decide +kernel
theorem dX5_against_18 : decode cX5_against 18 = .ok (.if_icmp .eq 19, 3) := by decide +kernel
theorem dX5_against_21 : decode cX5_against 21 = .ok (.aload_n 0, 1) := by decide +kernel
theorem dX5_against_22 : decode cX5_against 22 = .ok (.getfield 9, 3) := by decide +kernel
theorem dX5_against_25 : decode cX5_against 25 = .ok (.iload_n 2, 1) := by decide +kernel
theorem dX5_against_26 : decode cX5_against 26 = .ok (.iaload, 1) := by decide +kernel
theorem dX5_against_27 : decode cX5_against 27 = .ok (.aload_n 1, 1) := by decide +kernel
theorem dX5_against_28 : decode cX5_against 28 = .ok (.getfield 9, 3) := by decide +kernel
theorem dX5_against_31 : decode cX5_against 31 = .ok (.iload_n 2, 1) := by decide +kernel
theorem dX5_against_32 : decode cX5_against 32 = .ok (.iaload, 1) := by decide +kernel
theorem dX5_against_33 : decode cX5_against 33 = .ok (.invokestatic 33, 3) := by decide +kernel
theorem dX5_against_36 : decode cX5_against 36 = .ok (.ireturn, 1) := by decide +kernel
theorem dX5_against_37 : decode cX5_against 37 = .ok (.iinc 2 (-1), 3) := by decide +kernel
theorem dX5_against_40 : decode cX5_against 40 = .ok (.goto (-38), 3) := by decide +kernel
theorem dX5_against_43 : decode cX5_against 43 = .ok (.iconst 0, 1) := by decide +kernel
theorem dX5_against_44 : decode cX5_against 44 = .ok (.ireturn, 1) := by decide +kernel
set_option maxRecDepth 20000 in
theorem ggX5_isZero_X5_partCount : GoodIn wsX5_isZero wsX5_partCount := goodIn_r _ [6, 1, 7] (by decide +kernel) (by decide +kernel)
set_option maxRecDepth 20000 in
theorem gX5_isZero_X5_partCount : GoodIn wsX5_isZero (wsV RX5 39 RX5 yX5_partCount wsX5_partCount) := goodIn_app (goodIn_of _ (by decide +kernel)) ggX5_isZero_X5_partCount
theorem dX5_isZero_0 : decode cX5_isZero 0 = .ok (.aload_n 0, 1) := by decide +kernel
theorem dX5_isZero_1 : decode cX5_isZero 1 = .ok (.invokevirtual 39, 3) := by decide +kernel
theorem dX5_isZero_4 : decode cX5_isZero 4 = .ok (.iconst 1, 1) := by decide +kernel
theorem dX5_isZero_5 : decode cX5_isZero 5 = .ok (.if_icmp .ne 16, 3) := by decide +kernel
theorem dX5_isZero_8 : decode cX5_isZero 8 = .ok (.aload_n 0, 1) := by decide +kernel
theorem dX5_isZero_9 : decode cX5_isZero 9 = .ok (.getfield 9, 3) := by decide +kernel
theorem dX5_isZero_12 : decode cX5_isZero 12 = .ok (.iconst 0, 1) := by decide +kernel
theorem dX5_isZero_13 : decode cX5_isZero 13 = .ok (.iaload, 1) := by decide +kernel
theorem dX5_isZero_14 : decode cX5_isZero 14 = .ok (.ifCond .ne 7, 3) := by decide +kernel
theorem dX5_isZero_17 : decode cX5_isZero 17 = .ok (.iconst 1, 1) := by decide +kernel
theorem dX5_isZero_18 : decode cX5_isZero 18 = .ok (.goto 4, 3) := by decide +kernel
theorem dX5_isZero_21 : decode cX5_isZero 21 = .ok (.iconst 0, 1) := by decide +kernel
theorem dX5_isZero_22 : decode cX5_isZero 22 = .ok (.ireturn, 1) := by decide +kernel
theorem dX5_partCount_0 : decode cX5_partCount 0 = .ok (.bipush 6, 2) := by decide +kernel
theorem dX5_partCount_2 : decode cX5_partCount 2 = .ok (.istore_n 1, 1) := by decide +kernel
theorem dX5_partCount_3 : decode cX5_partCount 3 = .ok (.iload_n 1, 1) := by decide +kernel
theorem dX5_partCount_4 : decode cX5_partCount 4 = .ok (.iconst 1, 1) := by decide +kernel
theorem dX5_partCount_5 : decode cX5_partCount 5 = .ok (.if_icmp .le 20, 3) := by decide +kernel
theorem dX5_partCount_8 : decode cX5_partCount 8 = .ok (.aload_n 0, 1) := by decide +kernel
theorem dX5_partCount_9 : decode cX5_partCount 9 = .ok (.getfield 9, 3) := by decide +kernel
theorem dX5_partCount_12 : decode cX5_partCount 12 = .ok (.iload_n 1, 1) := by decide +kernel
theorem dX5_partCount_13 : decode cX5_partCount 13 = .ok (.iconst 1, 1) := by decide +kernel
theorem dX5_partCount_14 : decode cX5_partCount 14 = .ok (.isub, 1) := by decide +kernel
theorem dX5_partCount_15 : decode cX5_partCount 15 = .ok (.iaload, 1) := by decide +kernel
theorem dX5_partCount_16 : decode cX5_partCount 16 = .ok (.ifCond .ne 9, 3) := by decide +kernel
theorem dX5_partCount_19 : decode cX5_partCount 19 = .ok (.iinc 1 (-1), 3) := by decide +kernel
theorem dX5_partCount_22 : decode cX5_partCount 22 = .ok (.goto (-19), 3) := by decide +kernel
theorem dX5_partCount_25 : decode cX5_partCount 25 = .ok (.iload_n 1, 1) := by decide +kernel
theorem dX5_partCount_26 : decode cX5_partCount 26 = .ok (.ireturn, 1) := by decide +kernel
set_option maxRecDepth 20000 in
theorem ggX5_partAt_X10_isWithin : GoodIn wsX5_partAt wsX10_isWithin := goodIn_r _ [5] (by decide +kernel) (by decide +kernel)
set_option maxRecDepth 20000 in
theorem gX5_partAt_X10_isWithin_n45 : GoodIn wsX5_partAt (wsX10_isWithin) := ggX5_partAt_X10_isWithin
theorem dX5_partAt_0 : decode cX5_partAt 0 = .ok (.iload_n 1, 1) := by decide +kernel
theorem dX5_partAt_1 : decode cX5_partAt 1 = .ok (.i2l, 1) := by decide +kernel
theorem dX5_partAt_2 : decode cX5_partAt 2 = .ok (.lconst 0, 1) := by decide +kernel
theorem dX5_partAt_3 : decode cX5_partAt 3 = .ok (.ldc2_w 43, 3) := by decide +kernel
theorem dX5_partAt_6 : decode cX5_partAt 6 = .ok (.invokestatic 45, 3) := by decide +kernel
theorem dX5_partAt_9 : decode cX5_partAt 9 = .ok (.ifCond .eq 12, 3) := by decide +kernel
theorem dX5_partAt_12 : decode cX5_partAt 12 = .ok (.aload_n 0, 1) := by decide +kernel
theorem dX5_partAt_13 : decode cX5_partAt 13 = .ok (.getfield 9, 3) := by decide +kernel
theorem dX5_partAt_16 : decode cX5_partAt 16 = .ok (.iload_n 1, 1) := by decide +kernel
theorem dX5_partAt_17 : decode cX5_partAt 17 = .ok (.iaload, 1) := by decide +kernel
theorem dX5_partAt_18 : decode cX5_partAt 18 = .ok (.goto 4, 3) := by decide +kernel
theorem dX5_partAt_21 : decode cX5_partAt 21 = .ok (.iconst 0, 1) := by decide +kernel
theorem dX5_partAt_22 : decode cX5_partAt 22 = .ok (.ireturn, 1) := by decide +kernel
end
section
set_option maxRecDepth 20000 in
theorem ggX6_init_X5_init : GoodIn wsX6_init wsX5_init := goodIn_r _ [14, 15, 2, 3, 16, 17, 31] (by decide +kernel) (by decide +kernel)
set_option maxRecDepth 20000 in
theorem gX6_init_X5_init_n9 : GoodIn wsX6_init (wsX5_init) := ggX6_init_X5_init
set_option maxRecDepth 20000 in
theorem ggX6_init_X5_put : GoodIn wsX6_init wsX5_put := goodIn_r _ [21, 22, 23, 24, 25, 17, 26, 31] (by decide +kernel) (by decide +kernel)
set_option maxRecDepth 20000 in
theorem gX6_init_X5_put : GoodIn wsX6_init (wsV RX6 28 RX5 yX5_put wsX5_put) := goodIn_app (goodIn_of _ (by decide +kernel)) ggX6_init_X5_put
set_option maxRecDepth 20000 in
theorem ggX6_init_X5_times : GoodIn wsX6_init wsX5_times := goodIn_r _ [30, 17, 26, 31] (by decide +kernel) (by decide +kernel)
set_option maxRecDepth 20000 in
theorem gX6_init_X5_times : GoodIn wsX6_init (wsV RX6 36 RX5 yX5_times wsX5_times) := goodIn_app (goodIn_of _ (by decide +kernel)) ggX6_init_X5_times
theorem dX6_init_0 : decode cX6_init 0 = .ok (.aload_n 0, 1) := by decide +kernel
theorem dX6_init_1 : decode cX6_init 1 = .ok (.invokespecial 1, 3) := by decide +kernel
theorem dX6_init_4 : decode cX6_init 4 = .ok (.aload_n 0, 1) := by decide +kernel
theorem dX6_init_5 : decode cX6_init 5 = .ok (.new 7, 3) := by decide +kernel
theorem dX6_init_8 : decode cX6_init 8 = .ok (.dup, 1) := by decide +kernel
theorem dX6_init_9 : decode cX6_init 9 = .ok (.invokespecial 9, 3) := by decide +kernel
theorem dX6_init_12 : decode cX6_init 12 = .ok (.putfield 10, 3) := by decide +kernel
theorem dX6_init_15 : decode cX6_init 15 = .ok (.aload_n 0, 1) := by decide +kernel
theorem dX6_init_16 : decode cX6_init 16 = .ok (.new 7, 3) := by decide +kernel
theorem dX6_init_19 : decode cX6_init 19 = .ok (.dup, 1) := by decide +kernel
theorem dX6_init_20 : decode cX6_init 20 = .ok (.invokespecial 9, 3) := by decide +kernel
theorem dX6_init_23 : decode cX6_init 23 = .ok (.putfield 16, 3) := by decide +kernel
theorem dX6_init_26 : decode cX6_init 26 = .ok (.aload_n 0, 1) := by decide +kernel
theorem dX6_init_27 : decode cX6_init 27 = .ok (.new 7, 3) := by decide +kernel
theorem dX6_init_30 : decode cX6_init 30 = .ok (.dup, 1) := by decide +kernel
theorem dX6_init_31 : decode cX6_init 31 = .ok (.invokespecial 9, 3) := by decide +kernel
theorem dX6_init_34 : decode cX6_init 34 = .ok (.putfield 19, 3) := by decide +kernel
theorem dX6_init_37 : decode cX6_init 37 = .ok (.aload_n 0, 1) := by decide +kernel
theorem dX6_init_38 : decode cX6_init 38 = .ok (.new 7, 3) := by decide +kernel
theorem dX6_init_41 : decode cX6_init 41 = .ok (.dup, 1) := by decide +kernel
theorem dX6_init_42 : decode cX6_init 42 = .ok (.invokespecial 9, 3) := by decide +kernel
theorem dX6_init_45 : decode cX6_init 45 = .ok (.putfield 22, 3) := by decide +kernel
theorem dX6_init_48 : decode cX6_init 48 = .ok (.aload_n 0, 1) := by decide +kernel
theorem dX6_init_49 : decode cX6_init 49 = .ok (.new 7, 3) := by decide +kernel
theorem dX6_init_52 : decode cX6_init 52 = .ok (.dup, 1) := by decide +kernel
theorem dX6_init_53 : decode cX6_init 53 = .ok (.invokespecial 9, 3) := by decide +kernel
theorem dX6_init_56 : decode cX6_init 56 = .ok (.putfield 25, 3) := by decide +kernel
theorem dX6_init_59 : decode cX6_init 59 = .ok (.aload_n 0, 1) := by decide +kernel
theorem dX6_init_60 : decode cX6_init 60 = .ok (.getfield 10, 3) := by decide +kernel
theorem dX6_init_63 : decode cX6_init 63 = .ok (.lconst 1, 1) := by decide +kernel
theorem dX6_init_64 : decode cX6_init 64 = .ok (.invokevirtual 28, 3) := by decide +kernel
theorem dX6_init_67 : decode cX6_init 67 = .ok (.iconst 0, 1) := by decide +kernel
theorem dX6_init_68 : decode cX6_init 68 = .ok (.istore_n 1, 1) := by decide +kernel
theorem dX6_init_69 : decode cX6_init 69 = .ok (.iload_n 1, 1) := by decide +kernel
theorem dX6_init_70 : decode cX6_init 70 = .ok (.getstatic 32, 3) := by decide +kernel
theorem dX6_init_73 : decode cX6_init 73 = .ok (.arraylength, 1) := by decide +kernel
theorem dX6_init_74 : decode cX6_init 74 = .ok (.if_icmp .ge 22, 3) := by decide +kernel
theorem dX6_init_77 : decode cX6_init 77 = .ok (.aload_n 0, 1) := by decide +kernel
theorem dX6_init_78 : decode cX6_init 78 = .ok (.getfield 10, 3) := by decide +kernel
theorem dX6_init_81 : decode cX6_init 81 = .ok (.getstatic 32, 3) := by decide +kernel
theorem dX6_init_84 : decode cX6_init 84 = .ok (.iload_n 1, 1) := by decide +kernel
theorem dX6_init_85 : decode cX6_init 85 = .ok (.iaload, 1) := by decide +kernel
theorem dX6_init_86 : decode cX6_init 86 = .ok (.i2l, 1) := by decide +kernel
theorem dX6_init_87 : decode cX6_init 87 = .ok (.invokevirtual 36, 3) := by decide +kernel
theorem dX6_init_90 : decode cX6_init 90 = .ok (.iinc 1 1, 3) := by decide +kernel
theorem dX6_init_93 : decode cX6_init 93 = .ok (.goto (-24), 3) := by decide +kernel
theorem dX6_init_96 : decode cX6_init 96 = .ok (.return_, 1) := by decide +kernel
set_option maxRecDepth 20000 in
theorem ggX6_winLetting_X5_put : GoodIn wsX6_winLetting wsX5_put := goodIn_r _ [8, 9, 10, 11, 12, 13, 14, 78] (by decide +kernel) (by decide +kernel)
set_option maxRecDepth 20000 in
theorem gX6_winLetting_X5_put : GoodIn wsX6_winLetting (wsV RX6 28 RX5 yX5_put wsX5_put) := goodIn_app (goodIn_of _ (by decide +kernel)) ggX6_winLetting_X5_put
set_option maxRecDepth 20000 in
theorem ggX6_winLetting_X6_letOneLess : GoodIn wsX6_winLetting wsX6_letOneLess := goodIn_r _ [19, 2, 20, 21, 1, 22, 23, 24, 7, 25, 13, 26, 27, 28, 29, 30, 31, 32, 33, 14, 34, 35, 36, 37, 38, 39, 40, 41, 73, 74, 75, 76, 77, 78] (by decide +kernel) (by decide +kernel)
set_option maxRecDepth 20000 in
theorem gX6_winLetting_X6_letOneLess : GoodIn wsX6_winLetting (wsV RX6 39 RX6 yX6_letOneLess wsX6_letOneLess) := goodIn_app (goodIn_of _ (by decide +kernel)) ggX6_winLetting_X6_letOneLess
set_option maxRecDepth 20000 in
theorem ggX6_winLetting_X8_put : GoodIn wsX6_winLetting wsX8_put := goodIn_r _ [46, 47, 48, 49, 50, 23, 24, 7, 25, 13, 26, 27, 28, 29, 51, 5, 6, 8, 9, 10, 11, 12, 14, 52, 53, 54, 55, 56, 57, 58, 59, 79, 80, 81, 82, 83, 78] (by decide +kernel) (by decide +kernel)
set_option maxRecDepth 20000 in
theorem gX6_winLetting_X8_put : GoodIn wsX6_winLetting (wsV RX6 43 RX8 yX8_put wsX8_put) := goodIn_app (goodIn_of _ (by decide +kernel)) ggX6_winLetting_X8_put
set_option maxRecDepth 20000 in
theorem ggX6_winLetting_X8_over : GoodIn wsX6_winLetting wsX8_over := goodIn_r _ [63, 47, 48, 64, 65, 66, 7, 67, 14, 13, 68, 69, 45, 70, 71, 31, 32, 33, 72, 39, 40, 41, 79, 80, 81, 82, 83, 78] (by decide +kernel) (by decide +kernel)
set_option maxRecDepth 20000 in
theorem gX6_winLetting_X8_over : GoodIn wsX6_winLetting (wsV RX6 48 RX8 yX8_over wsX8_over) := goodIn_app (goodIn_of _ (by decide +kernel)) ggX6_winLetting_X8_over
theorem dX6_winLetting_0 : decode cX6_winLetting 0 = .ok (.aload_n 0, 1) := by decide +kernel
theorem dX6_winLetting_1 : decode cX6_winLetting 1 = .ok (.getfield 19, 3) := by decide +kernel
theorem dX6_winLetting_4 : decode cX6_winLetting 4 = .ok (.lconst 0, 1) := by decide +kernel
theorem dX6_winLetting_5 : decode cX6_winLetting 5 = .ok (.invokevirtual 28, 3) := by decide +kernel
theorem dX6_winLetting_8 : decode cX6_winLetting 8 = .ok (.iload_n 1, 1) := by decide +kernel
theorem dX6_winLetting_9 : decode cX6_winLetting 9 = .ok (.iconst 1, 1) := by decide +kernel
theorem dX6_winLetting_10 : decode cX6_winLetting 10 = .ok (.isub, 1) := by decide +kernel
theorem dX6_winLetting_11 : decode cX6_winLetting 11 = .ok (.istore 4, 2) := by decide +kernel
theorem dX6_winLetting_13 : decode cX6_winLetting 13 = .ok (.iload 4, 2) := by decide +kernel
theorem dX6_winLetting_15 : decode cX6_winLetting 15 = .ok (.iload_n 2, 1) := by decide +kernel
theorem dX6_winLetting_16 : decode cX6_winLetting 16 = .ok (.if_icmp .lt 15, 3) := by decide +kernel
theorem dX6_winLetting_19 : decode cX6_winLetting 19 = .ok (.aload_n 0, 1) := by decide +kernel
theorem dX6_winLetting_20 : decode cX6_winLetting 20 = .ok (.iload 4, 2) := by decide +kernel
theorem dX6_winLetting_22 : decode cX6_winLetting 22 = .ok (.invokevirtual 39, 3) := by decide +kernel
theorem dX6_winLetting_25 : decode cX6_winLetting 25 = .ok (.iinc 4 (-1), 3) := by decide +kernel
theorem dX6_winLetting_28 : decode cX6_winLetting 28 = .ok (.goto (-15), 3) := by decide +kernel
theorem dX6_winLetting_31 : decode cX6_winLetting 31 = .ok (.aload_n 3, 1) := by decide +kernel
theorem dX6_winLetting_32 : decode cX6_winLetting 32 = .ok (.aload_n 0, 1) := by decide +kernel
theorem dX6_winLetting_33 : decode cX6_winLetting 33 = .ok (.getfield 22, 3) := by decide +kernel
theorem dX6_winLetting_36 : decode cX6_winLetting 36 = .ok (.invokevirtual 43, 3) := by decide +kernel
theorem dX6_winLetting_39 : decode cX6_winLetting 39 = .ok (.iconst 0, 1) := by decide +kernel
theorem dX6_winLetting_40 : decode cX6_winLetting 40 = .ok (.istore 4, 2) := by decide +kernel
theorem dX6_winLetting_42 : decode cX6_winLetting 42 = .ok (.iload 4, 2) := by decide +kernel
theorem dX6_winLetting_44 : decode cX6_winLetting 44 = .ok (.getstatic 32, 3) := by decide +kernel
theorem dX6_winLetting_47 : decode cX6_winLetting 47 = .ok (.arraylength, 1) := by decide +kernel
theorem dX6_winLetting_48 : decode cX6_winLetting 48 = .ok (.if_icmp .ge 19, 3) := by decide +kernel
theorem dX6_winLetting_51 : decode cX6_winLetting 51 = .ok (.aload_n 3, 1) := by decide +kernel
theorem dX6_winLetting_52 : decode cX6_winLetting 52 = .ok (.getstatic 32, 3) := by decide +kernel
theorem dX6_winLetting_55 : decode cX6_winLetting 55 = .ok (.iload 4, 2) := by decide +kernel
theorem dX6_winLetting_57 : decode cX6_winLetting 57 = .ok (.iaload, 1) := by decide +kernel
theorem dX6_winLetting_58 : decode cX6_winLetting 58 = .ok (.invokevirtual 48, 3) := by decide +kernel
theorem dX6_winLetting_61 : decode cX6_winLetting 61 = .ok (.iinc 4 1, 3) := by decide +kernel
theorem dX6_winLetting_64 : decode cX6_winLetting 64 = .ok (.goto (-22), 3) := by decide +kernel
theorem dX6_winLetting_67 : decode cX6_winLetting 67 = .ok (.aload_n 3, 1) := by decide +kernel
theorem dX6_winLetting_68 : decode cX6_winLetting 68 = .ok (.iload_n 1, 1) := by decide +kernel
theorem dX6_winLetting_69 : decode cX6_winLetting 69 = .ok (.invokevirtual 48, 3) := by decide +kernel
theorem dX6_winLetting_72 : decode cX6_winLetting 72 = .ok (.return_, 1) := by decide +kernel
set_option maxRecDepth 20000 in
theorem ggX6_bestToLet_X5_put : GoodIn wsX6_bestToLet wsX5_put := goodIn_r _ [8, 9, 10, 11, 12, 13, 14, 55] (by decide +kernel) (by decide +kernel)
set_option maxRecDepth 20000 in
theorem gX6_bestToLet_X5_put : GoodIn wsX6_bestToLet (wsV RX6 28 RX5 yX5_put wsX5_put) := goodIn_app (goodIn_of _ (by decide +kernel)) ggX6_bestToLet_X5_put
set_option maxRecDepth 20000 in
theorem ggX6_bestToLet_X6_letOneLess : GoodIn wsX6_bestToLet wsX6_letOneLess := goodIn_r _ [19, 3, 20, 21, 1, 22, 23, 24, 7, 25, 13, 26, 27, 28, 29, 30, 31, 32, 33, 14, 34, 35, 36, 37, 38, 39, 40, 41, 50, 51, 52, 53, 54, 55] (by decide +kernel) (by decide +kernel)
set_option maxRecDepth 20000 in
theorem gX6_bestToLet_X6_letOneLess : GoodIn wsX6_bestToLet (wsV RX6 39 RX6 yX6_letOneLess wsX6_letOneLess) := goodIn_app (goodIn_of _ (by decide +kernel)) ggX6_bestToLet_X6_letOneLess
set_option maxRecDepth 20000 in
theorem ggX6_bestToLet_X5_against : GoodIn wsX6_bestToLet wsX5_against := goodIn_r _ [45, 13, 46, 47, 48, 49, 55] (by decide +kernel) (by decide +kernel)
set_option maxRecDepth 20000 in
theorem gX6_bestToLet_X5_against : GoodIn wsX6_bestToLet (wsV RX6 51 RX5 yX5_against wsX5_against) := goodIn_app (goodIn_of _ (by decide +kernel)) ggX6_bestToLet_X5_against
set_option maxRecDepth 20000 in
theorem ggX6_bestToLet_X5_copy : GoodIn wsX6_bestToLet wsX5_copy := goodIn_r _ [25, 13, 26, 27, 28, 29, 55] (by decide +kernel) (by decide +kernel)
set_option maxRecDepth 20000 in
theorem gX6_bestToLet_X5_copy : GoodIn wsX6_bestToLet (wsV RX6 55 RX5 yX5_copy wsX5_copy) := goodIn_app (goodIn_of _ (by decide +kernel)) ggX6_bestToLet_X5_copy
theorem dX6_bestToLet_0 : decode cX6_bestToLet 0 = .ok (.aload_n 0, 1) := by decide +kernel
theorem dX6_bestToLet_1 : decode cX6_bestToLet 1 = .ok (.getfield 19, 3) := by decide +kernel
theorem dX6_bestToLet_4 : decode cX6_bestToLet 4 = .ok (.lconst 0, 1) := by decide +kernel
theorem dX6_bestToLet_5 : decode cX6_bestToLet 5 = .ok (.invokevirtual 28, 3) := by decide +kernel
theorem dX6_bestToLet_8 : decode cX6_bestToLet 8 = .ok (.aload_n 0, 1) := by decide +kernel
theorem dX6_bestToLet_9 : decode cX6_bestToLet 9 = .ok (.getfield 25, 3) := by decide +kernel
theorem dX6_bestToLet_12 : decode cX6_bestToLet 12 = .ok (.lconst 0, 1) := by decide +kernel
theorem dX6_bestToLet_13 : decode cX6_bestToLet 13 = .ok (.invokevirtual 28, 3) := by decide +kernel
theorem dX6_bestToLet_16 : decode cX6_bestToLet 16 = .ok (.iconst 0, 1) := by decide +kernel
theorem dX6_bestToLet_17 : decode cX6_bestToLet 17 = .ok (.istore_n 2, 1) := by decide +kernel
theorem dX6_bestToLet_18 : decode cX6_bestToLet 18 = .ok (.iload_n 1, 1) := by decide +kernel
theorem dX6_bestToLet_19 : decode cX6_bestToLet 19 = .ok (.iconst 1, 1) := by decide +kernel
theorem dX6_bestToLet_20 : decode cX6_bestToLet 20 = .ok (.isub, 1) := by decide +kernel
theorem dX6_bestToLet_21 : decode cX6_bestToLet 21 = .ok (.istore_n 3, 1) := by decide +kernel
theorem dX6_bestToLet_22 : decode cX6_bestToLet 22 = .ok (.iload_n 3, 1) := by decide +kernel
theorem dX6_bestToLet_23 : decode cX6_bestToLet 23 = .ok (.ifCond .lt 41, 3) := by decide +kernel
theorem dX6_bestToLet_26 : decode cX6_bestToLet 26 = .ok (.aload_n 0, 1) := by decide +kernel
theorem dX6_bestToLet_27 : decode cX6_bestToLet 27 = .ok (.iload_n 3, 1) := by decide +kernel
theorem dX6_bestToLet_28 : decode cX6_bestToLet 28 = .ok (.invokevirtual 39, 3) := by decide +kernel
theorem dX6_bestToLet_31 : decode cX6_bestToLet 31 = .ok (.aload_n 0, 1) := by decide +kernel
theorem dX6_bestToLet_32 : decode cX6_bestToLet 32 = .ok (.getfield 22, 3) := by decide +kernel
theorem dX6_bestToLet_35 : decode cX6_bestToLet 35 = .ok (.aload_n 0, 1) := by decide +kernel
theorem dX6_bestToLet_36 : decode cX6_bestToLet 36 = .ok (.getfield 25, 3) := by decide +kernel
theorem dX6_bestToLet_39 : decode cX6_bestToLet 39 = .ok (.invokevirtual 51, 3) := by decide +kernel
theorem dX6_bestToLet_42 : decode cX6_bestToLet 42 = .ok (.ifCond .lt 16, 3) := by decide +kernel
theorem dX6_bestToLet_45 : decode cX6_bestToLet 45 = .ok (.aload_n 0, 1) := by decide +kernel
theorem dX6_bestToLet_46 : decode cX6_bestToLet 46 = .ok (.getfield 25, 3) := by decide +kernel
theorem dX6_bestToLet_49 : decode cX6_bestToLet 49 = .ok (.aload_n 0, 1) := by decide +kernel
theorem dX6_bestToLet_50 : decode cX6_bestToLet 50 = .ok (.getfield 22, 3) := by decide +kernel
theorem dX6_bestToLet_53 : decode cX6_bestToLet 53 = .ok (.invokevirtual 55, 3) := by decide +kernel
theorem dX6_bestToLet_56 : decode cX6_bestToLet 56 = .ok (.iload_n 3, 1) := by decide +kernel
theorem dX6_bestToLet_57 : decode cX6_bestToLet 57 = .ok (.istore_n 2, 1) := by decide +kernel
theorem dX6_bestToLet_58 : decode cX6_bestToLet 58 = .ok (.iinc 3 (-1), 3) := by decide +kernel
theorem dX6_bestToLet_61 : decode cX6_bestToLet 61 = .ok (.goto (-39), 3) := by decide +kernel
theorem dX6_bestToLet_64 : decode cX6_bestToLet 64 = .ok (.iload_n 2, 1) := by decide +kernel
theorem dX6_bestToLet_65 : decode cX6_bestToLet 65 = .ok (.ireturn, 1) := by decide +kernel
set_option maxRecDepth 20000 in
theorem ggX6_letOneLess_X5_copy : GoodIn wsX6_letOneLess wsX5_copy := goodIn_r _ [9, 10, 11, 12, 13, 14, 33] (by decide +kernel) (by decide +kernel)
set_option maxRecDepth 20000 in
theorem gX6_letOneLess_X5_copy : GoodIn wsX6_letOneLess (wsV RX6 55 RX5 yX5_copy wsX5_copy) := goodIn_app (goodIn_of _ (by decide +kernel)) ggX6_letOneLess_X5_copy
set_option maxRecDepth 20000 in
theorem ggX6_letOneLess_X5_divide : GoodIn wsX6_letOneLess wsX5_divide := goodIn_r _ [18, 19, 10, 33] (by decide +kernel) (by decide +kernel)
set_option maxRecDepth 20000 in
theorem gX6_letOneLess_X5_divide : GoodIn wsX6_letOneLess (wsV RX6 58 RX5 yX5_divide wsX5_divide) := goodIn_app (goodIn_of _ (by decide +kernel)) ggX6_letOneLess_X5_divide
set_option maxRecDepth 20000 in
theorem ggX6_letOneLess_X5_addTimes : GoodIn wsX6_letOneLess wsX5_addTimes := goodIn_r _ [23, 10, 19, 33] (by decide +kernel) (by decide +kernel)
set_option maxRecDepth 20000 in
theorem gX6_letOneLess_X5_addTimes : GoodIn wsX6_letOneLess (wsV RX6 61 RX5 yX5_addTimes wsX5_addTimes) := goodIn_app (goodIn_of _ (by decide +kernel)) ggX6_letOneLess_X5_addTimes
set_option maxRecDepth 20000 in
theorem ggX6_letOneLess_X5_times : GoodIn wsX6_letOneLess wsX5_times := goodIn_r _ [27, 10, 19, 33] (by decide +kernel) (by decide +kernel)
set_option maxRecDepth 20000 in
theorem gX6_letOneLess_X5_times : GoodIn wsX6_letOneLess (wsV RX6 36 RX5 yX5_times wsX5_times) := goodIn_app (goodIn_of _ (by decide +kernel)) ggX6_letOneLess_X5_times
theorem dX6_letOneLess_0 : decode cX6_letOneLess 0 = .ok (.iload_n 1, 1) := by decide +kernel
theorem dX6_letOneLess_1 : decode cX6_letOneLess 1 = .ok (.iconst 1, 1) := by decide +kernel
theorem dX6_letOneLess_2 : decode cX6_letOneLess 2 = .ok (.if_icmp .ge 15, 3) := by decide +kernel
theorem dX6_letOneLess_5 : decode cX6_letOneLess 5 = .ok (.aload_n 0, 1) := by decide +kernel
theorem dX6_letOneLess_6 : decode cX6_letOneLess 6 = .ok (.getfield 22, 3) := by decide +kernel
theorem dX6_letOneLess_9 : decode cX6_letOneLess 9 = .ok (.aload_n 0, 1) := by decide +kernel
theorem dX6_letOneLess_10 : decode cX6_letOneLess 10 = .ok (.getfield 10, 3) := by decide +kernel
theorem dX6_letOneLess_13 : decode cX6_letOneLess 13 = .ok (.invokevirtual 55, 3) := by decide +kernel
theorem dX6_letOneLess_16 : decode cX6_letOneLess 16 = .ok (.return_, 1) := by decide +kernel
theorem dX6_letOneLess_17 : decode cX6_letOneLess 17 = .ok (.aload_n 0, 1) := by decide +kernel
theorem dX6_letOneLess_18 : decode cX6_letOneLess 18 = .ok (.getfield 16, 3) := by decide +kernel
theorem dX6_letOneLess_21 : decode cX6_letOneLess 21 = .ok (.aload_n 0, 1) := by decide +kernel
theorem dX6_letOneLess_22 : decode cX6_letOneLess 22 = .ok (.getfield 10, 3) := by decide +kernel
theorem dX6_letOneLess_25 : decode cX6_letOneLess 25 = .ok (.invokevirtual 55, 3) := by decide +kernel
theorem dX6_letOneLess_28 : decode cX6_letOneLess 28 = .ok (.aload_n 0, 1) := by decide +kernel
theorem dX6_letOneLess_29 : decode cX6_letOneLess 29 = .ok (.getfield 16, 3) := by decide +kernel
theorem dX6_letOneLess_32 : decode cX6_letOneLess 32 = .ok (.iload_n 1, 1) := by decide +kernel
theorem dX6_letOneLess_33 : decode cX6_letOneLess 33 = .ok (.invokevirtual 58, 3) := by decide +kernel
theorem dX6_letOneLess_36 : decode cX6_letOneLess 36 = .ok (.aload_n 0, 1) := by decide +kernel
theorem dX6_letOneLess_37 : decode cX6_letOneLess 37 = .ok (.getfield 19, 3) := by decide +kernel
theorem dX6_letOneLess_40 : decode cX6_letOneLess 40 = .ok (.aload_n 0, 1) := by decide +kernel
theorem dX6_letOneLess_41 : decode cX6_letOneLess 41 = .ok (.getfield 16, 3) := by decide +kernel
theorem dX6_letOneLess_44 : decode cX6_letOneLess 44 = .ok (.lconst 1, 1) := by decide +kernel
theorem dX6_letOneLess_45 : decode cX6_letOneLess 45 = .ok (.invokevirtual 61, 3) := by decide +kernel
theorem dX6_letOneLess_48 : decode cX6_letOneLess 48 = .ok (.aload_n 0, 1) := by decide +kernel
theorem dX6_letOneLess_49 : decode cX6_letOneLess 49 = .ok (.getfield 22, 3) := by decide +kernel
theorem dX6_letOneLess_52 : decode cX6_letOneLess 52 = .ok (.aload_n 0, 1) := by decide +kernel
theorem dX6_letOneLess_53 : decode cX6_letOneLess 53 = .ok (.getfield 19, 3) := by decide +kernel
theorem dX6_letOneLess_56 : decode cX6_letOneLess 56 = .ok (.invokevirtual 55, 3) := by decide +kernel
theorem dX6_letOneLess_59 : decode cX6_letOneLess 59 = .ok (.aload_n 0, 1) := by decide +kernel
theorem dX6_letOneLess_60 : decode cX6_letOneLess 60 = .ok (.getfield 22, 3) := by decide +kernel
theorem dX6_letOneLess_63 : decode cX6_letOneLess 63 = .ok (.iload_n 1, 1) := by decide +kernel
theorem dX6_letOneLess_64 : decode cX6_letOneLess 64 = .ok (.i2l, 1) := by decide +kernel
theorem dX6_letOneLess_65 : decode cX6_letOneLess 65 = .ok (.invokevirtual 36, 3) := by decide +kernel
theorem dX6_letOneLess_68 : decode cX6_letOneLess 68 = .ok (.return_, 1) := by decide +kernel
end
section
set_option maxRecDepth 20000 in
theorem ggX7_init_X5_init : GoodIn wsX7_init wsX5_init := goodIn_r _ [13, 14, 2, 3, 4, 15, 20] (by decide +kernel) (by decide +kernel)
set_option maxRecDepth 20000 in
theorem gX7_init_X5_init_n21 : GoodIn wsX7_init (wsX5_init) := ggX7_init_X5_init
theorem dX7_init_0 : decode cX7_init 0 = .ok (.aload_n 0, 1) := by decide +kernel
theorem dX7_init_1 : decode cX7_init 1 = .ok (.invokespecial 3, 3) := by decide +kernel
theorem dX7_init_4 : decode cX7_init 4 = .ok (.aload_n 0, 1) := by decide +kernel
theorem dX7_init_5 : decode cX7_init 5 = .ok (.bipush 21, 2) := by decide +kernel
theorem dX7_init_7 : decode cX7_init 7 = .ok (.newarray .int, 2) := by decide +kernel
theorem dX7_init_9 : decode cX7_init 9 = .ok (.putfield 9, 3) := by decide +kernel
theorem dX7_init_12 : decode cX7_init 12 = .ok (.aload_n 0, 1) := by decide +kernel
theorem dX7_init_13 : decode cX7_init 13 = .ok (.bipush 21, 2) := by decide +kernel
theorem dX7_init_15 : decode cX7_init 15 = .ok (.anewarray 15, 3) := by decide +kernel
theorem dX7_init_18 : decode cX7_init 18 = .ok (.putfield 17, 3) := by decide +kernel
theorem dX7_init_21 : decode cX7_init 21 = .ok (.aload_n 0, 1) := by decide +kernel
theorem dX7_init_22 : decode cX7_init 22 = .ok (.new 15, 3) := by decide +kernel
theorem dX7_init_25 : decode cX7_init 25 = .ok (.dup, 1) := by decide +kernel
theorem dX7_init_26 : decode cX7_init 26 = .ok (.invokespecial 21, 3) := by decide +kernel
theorem dX7_init_29 : decode cX7_init 29 = .ok (.putfield 22, 3) := by decide +kernel
theorem dX7_init_32 : decode cX7_init 32 = .ok (.aload_n 0, 1) := by decide +kernel
theorem dX7_init_33 : decode cX7_init 33 = .ok (.new 15, 3) := by decide +kernel
theorem dX7_init_36 : decode cX7_init 36 = .ok (.dup, 1) := by decide +kernel
theorem dX7_init_37 : decode cX7_init 37 = .ok (.invokespecial 21, 3) := by decide +kernel
theorem dX7_init_40 : decode cX7_init 40 = .ok (.putfield 26, 3) := by decide +kernel
theorem dX7_init_43 : decode cX7_init 43 = .ok (.iconst 0, 1) := by decide +kernel
theorem dX7_init_44 : decode cX7_init 44 = .ok (.istore_n 1, 1) := by decide +kernel
theorem dX7_init_45 : decode cX7_init 45 = .ok (.iload_n 1, 1) := by decide +kernel
theorem dX7_init_46 : decode cX7_init 46 = .ok (.aload_n 0, 1) := by decide +kernel
theorem dX7_init_47 : decode cX7_init 47 = .ok (.getfield 17, 3) := by decide +kernel
theorem dX7_init_50 : decode cX7_init 50 = .ok (.arraylength, 1) := by decide +kernel
theorem dX7_init_51 : decode cX7_init 51 = .ok (.if_icmp .ge 22, 3) := by decide +kernel
theorem dX7_init_54 : decode cX7_init 54 = .ok (.aload_n 0, 1) := by decide +kernel
theorem dX7_init_55 : decode cX7_init 55 = .ok (.getfield 17, 3) := by decide +kernel
theorem dX7_init_58 : decode cX7_init 58 = .ok (.iload_n 1, 1) := by decide +kernel
theorem dX7_init_59 : decode cX7_init 59 = .ok (.new 15, 3) := by decide +kernel
theorem dX7_init_62 : decode cX7_init 62 = .ok (.dup, 1) := by decide +kernel
theorem dX7_init_63 : decode cX7_init 63 = .ok (.invokespecial 21, 3) := by decide +kernel
theorem dX7_init_66 : decode cX7_init 66 = .ok (.aastore, 1) := by decide +kernel
theorem dX7_init_67 : decode cX7_init 67 = .ok (.iinc 1 1, 3) := by decide +kernel
theorem dX7_init_70 : decode cX7_init 70 = .ok (.goto (-25), 3) := by decide +kernel
theorem dX7_init_73 : decode cX7_init 73 = .ok (.return_, 1) := by decide +kernel
set_option maxRecDepth 20000 in
theorem ggX7_setPay_X10_isWithin : GoodIn wsX7_setPay wsX10_isWithin := goodIn_r _ [5] (by decide +kernel) (by decide +kernel)
set_option maxRecDepth 20000 in
theorem gX7_setPay_X10_isWithin_n31 : GoodIn wsX7_setPay (wsX10_isWithin) := ggX7_setPay_X10_isWithin
theorem dX7_setPay_0 : decode cX7_setPay 0 = .ok (.iload_n 1, 1) := by decide +kernel
theorem dX7_setPay_1 : decode cX7_setPay 1 = .ok (.i2l, 1) := by decide +kernel
theorem dX7_setPay_2 : decode cX7_setPay 2 = .ok (.lconst 1, 1) := by decide +kernel
theorem dX7_setPay_3 : decode cX7_setPay 3 = .ok (.ldc2_w 29, 3) := by decide +kernel
theorem dX7_setPay_6 : decode cX7_setPay 6 = .ok (.invokestatic 31, 3) := by decide +kernel
theorem dX7_setPay_9 : decode cX7_setPay 9 = .ok (.ifCond .eq 10, 3) := by decide +kernel
theorem dX7_setPay_12 : decode cX7_setPay 12 = .ok (.aload_n 0, 1) := by decide +kernel
theorem dX7_setPay_13 : decode cX7_setPay 13 = .ok (.getfield 9, 3) := by decide +kernel
theorem dX7_setPay_16 : decode cX7_setPay 16 = .ok (.iload_n 1, 1) := by decide +kernel
theorem dX7_setPay_17 : decode cX7_setPay 17 = .ok (.iload_n 2, 1) := by decide +kernel
theorem dX7_setPay_18 : decode cX7_setPay 18 = .ok (.iastore, 1) := by decide +kernel
theorem dX7_setPay_19 : decode cX7_setPay 19 = .ok (.return_, 1) := by decide +kernel
set_option maxRecDepth 20000 in
theorem ggX7_meanInto_X7_comeBackTo : GoodIn wsX7_meanInto wsX7_comeBackTo := goodIn_r _ [6, 1, 7, 8, 9, 10, 11, 12, 13, 14, 15, 16, 17, 18, 19, 20, 21, 22, 23, 24, 25, 5, 26, 27, 28, 29, 30, 31, 32, 33, 34, 35, 36, 37, 38, 39, 40, 41, 42, 43, 44, 45, 46, 47, 48, 49, 50, 51, 52, 53, 54, 55, 90, 91, 92, 93, 94] (by decide +kernel) (by decide +kernel)
set_option maxRecDepth 20000 in
theorem gX7_meanInto_X7_comeBackTo : GoodIn wsX7_meanInto (wsV RX7 35 RX7 yX7_comeBackTo wsX7_comeBackTo) := goodIn_app (goodIn_of _ (by decide +kernel)) ggX7_meanInto_X7_comeBackTo
set_option maxRecDepth 20000 in
theorem ggX7_meanInto_X7_goAhead : GoodIn wsX7_meanInto wsX7_goAhead := goodIn_r _ [26, 27, 7, 8, 9, 10, 11, 1, 13, 14, 15, 16, 17, 18, 19, 20, 21, 22, 28, 29, 30, 31, 32, 33, 34, 35, 36, 37, 38, 39, 40, 41, 42, 43, 44, 45, 46, 47, 90, 91, 92, 93, 94] (by decide +kernel) (by decide +kernel)
set_option maxRecDepth 20000 in
theorem gX7_meanInto_X7_goAhead : GoodIn wsX7_meanInto (wsV RX7 39 RX7 yX7_goAhead wsX7_goAhead) := goodIn_app (goodIn_of _ (by decide +kernel)) ggX7_meanInto_X7_goAhead
set_option maxRecDepth 20000 in
theorem ggX7_meanInto_X8_put : GoodIn wsX7_meanInto wsX8_put := goodIn_r _ [60, 61, 62, 63, 64, 41, 42, 16, 43, 21, 44, 45, 46, 47, 65, 14, 15, 17, 18, 19, 9, 20, 22, 66, 67, 68, 69, 70, 71, 72, 73, 95, 96, 97, 98, 99, 94] (by decide +kernel) (by decide +kernel)
set_option maxRecDepth 20000 in
theorem gX7_meanInto_X8_put : GoodIn wsX7_meanInto (wsV RX7 43 RX8 yX8_put wsX8_put) := goodIn_app (goodIn_of _ (by decide +kernel)) ggX7_meanInto_X8_put
set_option maxRecDepth 20000 in
theorem ggX7_meanInto_X8_over : GoodIn wsX7_meanInto wsX8_over := goodIn_r _ [77, 61, 62, 78, 79, 80, 16, 81, 22, 21, 82, 83, 59, 84, 85, 86, 87, 88, 89, 53, 54, 55, 95, 96, 97, 98, 99, 94] (by decide +kernel) (by decide +kernel)
set_option maxRecDepth 20000 in
theorem gX7_meanInto_X8_over : GoodIn wsX7_meanInto (wsV RX7 49 RX8 yX8_over wsX8_over) := goodIn_app (goodIn_of _ (by decide +kernel)) ggX7_meanInto_X8_over
theorem dX7_meanInto_0 : decode cX7_meanInto 0 = .ok (.aload_n 0, 1) := by decide +kernel
theorem dX7_meanInto_1 : decode cX7_meanInto 1 = .ok (.iload_n 1, 1) := by decide +kernel
theorem dX7_meanInto_2 : decode cX7_meanInto 2 = .ok (.iconst 1, 1) := by decide +kernel
theorem dX7_meanInto_3 : decode cX7_meanInto 3 = .ok (.invokevirtual 35, 3) := by decide +kernel
theorem dX7_meanInto_6 : decode cX7_meanInto 6 = .ok (.aload_n 0, 1) := by decide +kernel
theorem dX7_meanInto_7 : decode cX7_meanInto 7 = .ok (.iconst 1, 1) := by decide +kernel
theorem dX7_meanInto_8 : decode cX7_meanInto 8 = .ok (.invokevirtual 39, 3) := by decide +kernel
theorem dX7_meanInto_11 : decode cX7_meanInto 11 = .ok (.aload_n 2, 1) := by decide +kernel
theorem dX7_meanInto_12 : decode cX7_meanInto 12 = .ok (.aload_n 0, 1) := by decide +kernel
theorem dX7_meanInto_13 : decode cX7_meanInto 13 = .ok (.getfield 22, 3) := by decide +kernel
theorem dX7_meanInto_16 : decode cX7_meanInto 16 = .ok (.invokevirtual 43, 3) := by decide +kernel
theorem dX7_meanInto_19 : decode cX7_meanInto 19 = .ok (.iconst 2, 1) := by decide +kernel
theorem dX7_meanInto_20 : decode cX7_meanInto 20 = .ok (.istore_n 3, 1) := by decide +kernel
theorem dX7_meanInto_21 : decode cX7_meanInto 21 = .ok (.iload_n 3, 1) := by decide +kernel
theorem dX7_meanInto_22 : decode cX7_meanInto 22 = .ok (.iload_n 1, 1) := by decide +kernel
theorem dX7_meanInto_23 : decode cX7_meanInto 23 = .ok (.if_icmp .gt 14, 3) := by decide +kernel
theorem dX7_meanInto_26 : decode cX7_meanInto 26 = .ok (.aload_n 2, 1) := by decide +kernel
theorem dX7_meanInto_27 : decode cX7_meanInto 27 = .ok (.iload_n 3, 1) := by decide +kernel
theorem dX7_meanInto_28 : decode cX7_meanInto 28 = .ok (.invokevirtual 49, 3) := by decide +kernel
theorem dX7_meanInto_31 : decode cX7_meanInto 31 = .ok (.iinc 3 1, 3) := by decide +kernel
theorem dX7_meanInto_34 : decode cX7_meanInto 34 = .ok (.goto (-13), 3) := by decide +kernel
theorem dX7_meanInto_37 : decode cX7_meanInto 37 = .ok (.return_, 1) := by decide +kernel
set_option maxRecDepth 20000 in
theorem ggX7_isTaken_X10_isWithin : GoodIn wsX7_isTaken wsX10_isWithin := goodIn_r _ [6] (by decide +kernel) (by decide +kernel)
set_option maxRecDepth 20000 in
theorem gX7_isTaken_X10_isWithin_n31 : GoodIn wsX7_isTaken (wsX10_isWithin) := ggX7_isTaken_X10_isWithin
set_option maxRecDepth 20000 in
theorem ggX7_isTaken_X7_comeBackTo : GoodIn wsX7_isTaken wsX7_comeBackTo := goodIn_r _ [11, 3, 12, 13, 14, 15, 2, 16, 17, 18, 19, 20, 21, 22, 23, 24, 25, 26, 27, 28, 29, 10, 30, 31, 32, 33, 34, 35, 36, 37, 38, 39, 40, 41, 42, 43, 44, 45, 46, 47, 48, 49, 50, 51, 52, 53, 54, 55, 56, 57, 58, 59, 60, 61, 62, 63, 64] (by decide +kernel) (by decide +kernel)
set_option maxRecDepth 20000 in
theorem gX7_isTaken_X7_comeBackTo : GoodIn wsX7_isTaken (wsV RX7 35 RX7 yX7_comeBackTo wsX7_comeBackTo) := goodIn_app (goodIn_of _ (by decide +kernel)) ggX7_isTaken_X7_comeBackTo
set_option maxRecDepth 20000 in
theorem ggX7_isTaken_X5_against : GoodIn wsX7_isTaken wsX5_against := goodIn_r _ [35, 25, 36, 37, 38, 39, 64] (by decide +kernel) (by decide +kernel)
set_option maxRecDepth 20000 in
theorem gX7_isTaken_X5_against : GoodIn wsX7_isTaken (wsV RX7 52 RX5 yX5_against wsX5_against) := goodIn_app (goodIn_of _ (by decide +kernel)) ggX7_isTaken_X5_against
theorem dX7_isTaken_0 : decode cX7_isTaken 0 = .ok (.iload_n 2, 1) := by decide +kernel
theorem dX7_isTaken_1 : decode cX7_isTaken 1 = .ok (.iload_n 1, 1) := by decide +kernel
theorem dX7_isTaken_2 : decode cX7_isTaken 2 = .ok (.if_icmp .ge 15, 3) := by decide +kernel
theorem dX7_isTaken_5 : decode cX7_isTaken 5 = .ok (.iload_n 3, 1) := by decide +kernel
theorem dX7_isTaken_6 : decode cX7_isTaken 6 = .ok (.i2l, 1) := by decide +kernel
theorem dX7_isTaken_7 : decode cX7_isTaken 7 = .ok (.lconst 1, 1) := by decide +kernel
theorem dX7_isTaken_8 : decode cX7_isTaken 8 = .ok (.ldc2_w 29, 3) := by decide +kernel
theorem dX7_isTaken_11 : decode cX7_isTaken 11 = .ok (.invokestatic 31, 3) := by decide +kernel
theorem dX7_isTaken_14 : decode cX7_isTaken 14 = .ok (.ifCond .ne 5, 3) := by decide +kernel
theorem dX7_isTaken_17 : decode cX7_isTaken 17 = .ok (.iconst 1, 1) := by decide +kernel
theorem dX7_isTaken_18 : decode cX7_isTaken 18 = .ok (.ireturn, 1) := by decide +kernel
theorem dX7_isTaken_19 : decode cX7_isTaken 19 = .ok (.aload_n 0, 1) := by decide +kernel
theorem dX7_isTaken_20 : decode cX7_isTaken 20 = .ok (.iload_n 1, 1) := by decide +kernel
theorem dX7_isTaken_21 : decode cX7_isTaken 21 = .ok (.iload_n 2, 1) := by decide +kernel
theorem dX7_isTaken_22 : decode cX7_isTaken 22 = .ok (.invokevirtual 35, 3) := by decide +kernel
theorem dX7_isTaken_25 : decode cX7_isTaken 25 = .ok (.aload_n 0, 1) := by decide +kernel
theorem dX7_isTaken_26 : decode cX7_isTaken 26 = .ok (.getfield 17, 3) := by decide +kernel
theorem dX7_isTaken_29 : decode cX7_isTaken 29 = .ok (.iload_n 3, 1) := by decide +kernel
theorem dX7_isTaken_30 : decode cX7_isTaken 30 = .ok (.aaload, 1) := by decide +kernel
theorem dX7_isTaken_31 : decode cX7_isTaken 31 = .ok (.aload_n 0, 1) := by decide +kernel
theorem dX7_isTaken_32 : decode cX7_isTaken 32 = .ok (.getfield 22, 3) := by decide +kernel
theorem dX7_isTaken_35 : decode cX7_isTaken 35 = .ok (.invokevirtual 52, 3) := by decide +kernel
theorem dX7_isTaken_38 : decode cX7_isTaken 38 = .ok (.ifCond .lt 7, 3) := by decide +kernel
theorem dX7_isTaken_41 : decode cX7_isTaken 41 = .ok (.iconst 1, 1) := by decide +kernel
theorem dX7_isTaken_42 : decode cX7_isTaken 42 = .ok (.goto 4, 3) := by decide +kernel
theorem dX7_isTaken_45 : decode cX7_isTaken 45 = .ok (.iconst 0, 1) := by decide +kernel
theorem dX7_isTaken_46 : decode cX7_isTaken 46 = .ok (.ireturn, 1) := by decide +kernel
set_option maxRecDepth 20000 in
theorem ggX7_comeBackTo_X5_put : GoodIn wsX7_comeBackTo wsX5_put := goodIn_r _ [12, 13, 14, 4, 15, 16, 17, 56] (by decide +kernel) (by decide +kernel)
set_option maxRecDepth 20000 in
theorem gX7_comeBackTo_X5_put : GoodIn wsX7_comeBackTo (wsV RX7 56 RX5 yX5_put wsX5_put) := goodIn_app (goodIn_of _ (by decide +kernel)) ggX7_comeBackTo_X5_put
set_option maxRecDepth 20000 in
theorem ggX7_comeBackTo_X7_goAhead : GoodIn wsX7_comeBackTo wsX7_goAhead := goodIn_r _ [22, 23, 2, 3, 4, 5, 6, 1, 8, 9, 10, 11, 12, 13, 14, 15, 16, 17, 24, 25, 26, 27, 28, 29, 30, 31, 32, 33, 34, 35, 36, 37, 38, 39, 40, 41, 42, 43, 52, 53, 54, 55, 56] (by decide +kernel) (by decide +kernel)
set_option maxRecDepth 20000 in
theorem gX7_comeBackTo_X7_goAhead : GoodIn wsX7_comeBackTo (wsV RX7 39 RX7 yX7_goAhead wsX7_goAhead) := goodIn_app (goodIn_of _ (by decide +kernel)) ggX7_comeBackTo_X7_goAhead
set_option maxRecDepth 20000 in
theorem ggX7_comeBackTo_X7_unseeNext : GoodIn wsX7_comeBackTo wsX7_unseeNext := goodIn_r _ [47, 2, 3, 4, 5, 6, 48, 49, 50, 11, 51, 16, 17, 32, 33, 34, 35, 52, 53, 54, 55, 56] (by decide +kernel) (by decide +kernel)
set_option maxRecDepth 20000 in
theorem gX7_comeBackTo_X7_unseeNext : GoodIn wsX7_comeBackTo (wsV RX7 65 RX7 yX7_unseeNext wsX7_unseeNext) := goodIn_app (goodIn_of _ (by decide +kernel)) ggX7_comeBackTo_X7_unseeNext
theorem dX7_comeBackTo_0 : decode cX7_comeBackTo 0 = .ok (.aload_n 0, 1) := by decide +kernel
theorem dX7_comeBackTo_1 : decode cX7_comeBackTo 1 = .ok (.getfield 22, 3) := by decide +kernel
theorem dX7_comeBackTo_4 : decode cX7_comeBackTo 4 = .ok (.lconst 0, 1) := by decide +kernel
theorem dX7_comeBackTo_5 : decode cX7_comeBackTo 5 = .ok (.invokevirtual 56, 3) := by decide +kernel
theorem dX7_comeBackTo_8 : decode cX7_comeBackTo 8 = .ok (.iconst 1, 1) := by decide +kernel
theorem dX7_comeBackTo_9 : decode cX7_comeBackTo 9 = .ok (.istore_n 3, 1) := by decide +kernel
theorem dX7_comeBackTo_10 : decode cX7_comeBackTo 10 = .ok (.iload_n 3, 1) := by decide +kernel
theorem dX7_comeBackTo_11 : decode cX7_comeBackTo 11 = .ok (.iload_n 1, 1) := by decide +kernel
theorem dX7_comeBackTo_12 : decode cX7_comeBackTo 12 = .ok (.bipush 20, 2) := by decide +kernel
theorem dX7_comeBackTo_14 : decode cX7_comeBackTo 14 = .ok (.invokestatic 59, 3) := by decide +kernel
theorem dX7_comeBackTo_17 : decode cX7_comeBackTo 17 = .ok (.if_icmp .gt 25, 3) := by decide +kernel
theorem dX7_comeBackTo_20 : decode cX7_comeBackTo 20 = .ok (.aload_n 0, 1) := by decide +kernel
theorem dX7_comeBackTo_21 : decode cX7_comeBackTo 21 = .ok (.getfield 17, 3) := by decide +kernel
theorem dX7_comeBackTo_24 : decode cX7_comeBackTo 24 = .ok (.iload_n 3, 1) := by decide +kernel
theorem dX7_comeBackTo_25 : decode cX7_comeBackTo 25 = .ok (.aaload, 1) := by decide +kernel
theorem dX7_comeBackTo_26 : decode cX7_comeBackTo 26 = .ok (.aload_n 0, 1) := by decide +kernel
theorem dX7_comeBackTo_27 : decode cX7_comeBackTo 27 = .ok (.getfield 9, 3) := by decide +kernel
theorem dX7_comeBackTo_30 : decode cX7_comeBackTo 30 = .ok (.iload_n 3, 1) := by decide +kernel
theorem dX7_comeBackTo_31 : decode cX7_comeBackTo 31 = .ok (.iaload, 1) := by decide +kernel
theorem dX7_comeBackTo_32 : decode cX7_comeBackTo 32 = .ok (.i2l, 1) := by decide +kernel
theorem dX7_comeBackTo_33 : decode cX7_comeBackTo 33 = .ok (.invokevirtual 56, 3) := by decide +kernel
theorem dX7_comeBackTo_36 : decode cX7_comeBackTo 36 = .ok (.iinc 3 1, 3) := by decide +kernel
theorem dX7_comeBackTo_39 : decode cX7_comeBackTo 39 = .ok (.goto (-29), 3) := by decide +kernel
theorem dX7_comeBackTo_42 : decode cX7_comeBackTo 42 = .ok (.iload_n 1, 1) := by decide +kernel
theorem dX7_comeBackTo_43 : decode cX7_comeBackTo 43 = .ok (.bipush 20, 2) := by decide +kernel
theorem dX7_comeBackTo_45 : decode cX7_comeBackTo 45 = .ok (.invokestatic 59, 3) := by decide +kernel
theorem dX7_comeBackTo_48 : decode cX7_comeBackTo 48 = .ok (.iconst 1, 1) := by decide +kernel
theorem dX7_comeBackTo_49 : decode cX7_comeBackTo 49 = .ok (.isub, 1) := by decide +kernel
theorem dX7_comeBackTo_50 : decode cX7_comeBackTo 50 = .ok (.istore_n 3, 1) := by decide +kernel
theorem dX7_comeBackTo_51 : decode cX7_comeBackTo 51 = .ok (.iload_n 3, 1) := by decide +kernel
theorem dX7_comeBackTo_52 : decode cX7_comeBackTo 52 = .ok (.iload_n 2, 1) := by decide +kernel
theorem dX7_comeBackTo_53 : decode cX7_comeBackTo 53 = .ok (.if_icmp .lt 21, 3) := by decide +kernel
theorem dX7_comeBackTo_56 : decode cX7_comeBackTo 56 = .ok (.aload_n 0, 1) := by decide +kernel
theorem dX7_comeBackTo_57 : decode cX7_comeBackTo 57 = .ok (.iload_n 3, 1) := by decide +kernel
theorem dX7_comeBackTo_58 : decode cX7_comeBackTo 58 = .ok (.iconst 1, 1) := by decide +kernel
theorem dX7_comeBackTo_59 : decode cX7_comeBackTo 59 = .ok (.iadd, 1) := by decide +kernel
theorem dX7_comeBackTo_60 : decode cX7_comeBackTo 60 = .ok (.invokevirtual 39, 3) := by decide +kernel
theorem dX7_comeBackTo_63 : decode cX7_comeBackTo 63 = .ok (.aload_n 0, 1) := by decide +kernel
theorem dX7_comeBackTo_64 : decode cX7_comeBackTo 64 = .ok (.iload_n 3, 1) := by decide +kernel
theorem dX7_comeBackTo_65 : decode cX7_comeBackTo 65 = .ok (.invokevirtual 65, 3) := by decide +kernel
theorem dX7_comeBackTo_68 : decode cX7_comeBackTo 68 = .ok (.iinc 3 (-1), 3) := by decide +kernel
theorem dX7_comeBackTo_71 : decode cX7_comeBackTo 71 = .ok (.goto (-20), 3) := by decide +kernel
theorem dX7_comeBackTo_74 : decode cX7_comeBackTo 74 = .ok (.return_, 1) := by decide +kernel
set_option maxRecDepth 20000 in
theorem ggX7_goAhead_X5_put : GoodIn wsX7_goAhead wsX5_put := goodIn_r _ [12, 13, 14, 4, 15, 16, 17, 42] (by decide +kernel) (by decide +kernel)
set_option maxRecDepth 20000 in
theorem gX7_goAhead_X5_put : GoodIn wsX7_goAhead (wsV RX7 56 RX5 yX5_put wsX5_put) := goodIn_app (goodIn_of _ (by decide +kernel)) ggX7_goAhead_X5_put
set_option maxRecDepth 20000 in
theorem ggX7_goAhead_X5_against : GoodIn wsX7_goAhead wsX5_against := goodIn_r _ [21, 16, 22, 23, 24, 25, 42] (by decide +kernel) (by decide +kernel)
set_option maxRecDepth 20000 in
theorem gX7_goAhead_X5_against : GoodIn wsX7_goAhead (wsV RX7 52 RX5 yX5_against wsX5_against) := goodIn_app (goodIn_of _ (by decide +kernel)) ggX7_goAhead_X5_against
set_option maxRecDepth 20000 in
theorem ggX7_goAhead_X5_addTimes : GoodIn wsX7_goAhead wsX5_addTimes := goodIn_r _ [29, 16, 17, 42] (by decide +kernel) (by decide +kernel)
set_option maxRecDepth 20000 in
theorem gX7_goAhead_X5_addTimes : GoodIn wsX7_goAhead (wsV RX7 68 RX5 yX5_addTimes wsX5_addTimes) := goodIn_app (goodIn_of _ (by decide +kernel)) ggX7_goAhead_X5_addTimes
set_option maxRecDepth 20000 in
theorem ggX7_goAhead_X5_copy : GoodIn wsX7_goAhead wsX5_copy := goodIn_r _ [33, 16, 34, 35, 36, 37, 42] (by decide +kernel) (by decide +kernel)
set_option maxRecDepth 20000 in
theorem gX7_goAhead_X5_copy : GoodIn wsX7_goAhead (wsV RX7 72 RX5 yX5_copy wsX5_copy) := goodIn_app (goodIn_of _ (by decide +kernel)) ggX7_goAhead_X5_copy
theorem dX7_goAhead_0 : decode cX7_goAhead 0 = .ok (.aload_n 0, 1) := by decide +kernel
theorem dX7_goAhead_1 : decode cX7_goAhead 1 = .ok (.getfield 26, 3) := by decide +kernel
theorem dX7_goAhead_4 : decode cX7_goAhead 4 = .ok (.lconst 0, 1) := by decide +kernel
theorem dX7_goAhead_5 : decode cX7_goAhead 5 = .ok (.invokevirtual 56, 3) := by decide +kernel
theorem dX7_goAhead_8 : decode cX7_goAhead 8 = .ok (.iconst 1, 1) := by decide +kernel
theorem dX7_goAhead_9 : decode cX7_goAhead 9 = .ok (.istore_n 2, 1) := by decide +kernel
theorem dX7_goAhead_10 : decode cX7_goAhead 10 = .ok (.iload_n 2, 1) := by decide +kernel
theorem dX7_goAhead_11 : decode cX7_goAhead 11 = .ok (.iload_n 1, 1) := by decide +kernel
theorem dX7_goAhead_12 : decode cX7_goAhead 12 = .ok (.bipush 20, 2) := by decide +kernel
theorem dX7_goAhead_14 : decode cX7_goAhead 14 = .ok (.invokestatic 59, 3) := by decide +kernel
theorem dX7_goAhead_17 : decode cX7_goAhead 17 = .ok (.if_icmp .gt 46, 3) := by decide +kernel
theorem dX7_goAhead_20 : decode cX7_goAhead 20 = .ok (.aload_n 0, 1) := by decide +kernel
theorem dX7_goAhead_21 : decode cX7_goAhead 21 = .ok (.getfield 26, 3) := by decide +kernel
theorem dX7_goAhead_24 : decode cX7_goAhead 24 = .ok (.aload_n 0, 1) := by decide +kernel
theorem dX7_goAhead_25 : decode cX7_goAhead 25 = .ok (.getfield 17, 3) := by decide +kernel
theorem dX7_goAhead_28 : decode cX7_goAhead 28 = .ok (.iload_n 2, 1) := by decide +kernel
theorem dX7_goAhead_29 : decode cX7_goAhead 29 = .ok (.aaload, 1) := by decide +kernel
theorem dX7_goAhead_30 : decode cX7_goAhead 30 = .ok (.aload_n 0, 1) := by decide +kernel
theorem dX7_goAhead_31 : decode cX7_goAhead 31 = .ok (.getfield 22, 3) := by decide +kernel
theorem dX7_goAhead_34 : decode cX7_goAhead 34 = .ok (.invokevirtual 52, 3) := by decide +kernel
theorem dX7_goAhead_37 : decode cX7_goAhead 37 = .ok (.ifCond .lt 12, 3) := by decide +kernel
theorem dX7_goAhead_40 : decode cX7_goAhead 40 = .ok (.aload_n 0, 1) := by decide +kernel
theorem dX7_goAhead_41 : decode cX7_goAhead 41 = .ok (.getfield 17, 3) := by decide +kernel
theorem dX7_goAhead_44 : decode cX7_goAhead 44 = .ok (.iload_n 2, 1) := by decide +kernel
theorem dX7_goAhead_45 : decode cX7_goAhead 45 = .ok (.aaload, 1) := by decide +kernel
theorem dX7_goAhead_46 : decode cX7_goAhead 46 = .ok (.goto 7, 3) := by decide +kernel
theorem dX7_goAhead_49 : decode cX7_goAhead 49 = .ok (.aload_n 0, 1) := by decide +kernel
theorem dX7_goAhead_50 : decode cX7_goAhead 50 = .ok (.getfield 22, 3) := by decide +kernel
theorem dX7_goAhead_53 : decode cX7_goAhead 53 = .ok (.lconst 1, 1) := by decide +kernel
theorem dX7_goAhead_54 : decode cX7_goAhead 54 = .ok (.invokevirtual 68, 3) := by decide +kernel
theorem dX7_goAhead_57 : decode cX7_goAhead 57 = .ok (.iinc 2 1, 3) := by decide +kernel
theorem dX7_goAhead_60 : decode cX7_goAhead 60 = .ok (.goto (-50), 3) := by decide +kernel
theorem dX7_goAhead_63 : decode cX7_goAhead 63 = .ok (.aload_n 0, 1) := by decide +kernel
theorem dX7_goAhead_64 : decode cX7_goAhead 64 = .ok (.getfield 22, 3) := by decide +kernel
theorem dX7_goAhead_67 : decode cX7_goAhead 67 = .ok (.aload_n 0, 1) := by decide +kernel
theorem dX7_goAhead_68 : decode cX7_goAhead 68 = .ok (.getfield 26, 3) := by decide +kernel
theorem dX7_goAhead_71 : decode cX7_goAhead 71 = .ok (.invokevirtual 72, 3) := by decide +kernel
theorem dX7_goAhead_74 : decode cX7_goAhead 74 = .ok (.return_, 1) := by decide +kernel
set_option maxRecDepth 20000 in
theorem ggX7_unseeNext_X5_times : GoodIn wsX7_unseeNext wsX5_times := goodIn_r _ [10, 11, 12, 21] (by decide +kernel) (by decide +kernel)
set_option maxRecDepth 20000 in
theorem gX7_unseeNext_X5_times : GoodIn wsX7_unseeNext (wsV RX7 75 RX5 yX5_times wsX5_times) := goodIn_app (goodIn_of _ (by decide +kernel)) ggX7_unseeNext_X5_times
set_option maxRecDepth 20000 in
theorem ggX7_unseeNext_X5_addTimes : GoodIn wsX7_unseeNext wsX5_addTimes := goodIn_r _ [16, 11, 12, 21] (by decide +kernel) (by decide +kernel)
set_option maxRecDepth 20000 in
theorem gX7_unseeNext_X5_addTimes : GoodIn wsX7_unseeNext (wsV RX7 68 RX5 yX5_addTimes wsX5_addTimes) := goodIn_app (goodIn_of _ (by decide +kernel)) ggX7_unseeNext_X5_addTimes
theorem dX7_unseeNext_0 : decode cX7_unseeNext 0 = .ok (.iconst 1, 1) := by decide +kernel
theorem dX7_unseeNext_1 : decode cX7_unseeNext 1 = .ok (.istore_n 2, 1) := by decide +kernel
theorem dX7_unseeNext_2 : decode cX7_unseeNext 2 = .ok (.iload_n 2, 1) := by decide +kernel
theorem dX7_unseeNext_3 : decode cX7_unseeNext 3 = .ok (.iload_n 1, 1) := by decide +kernel
theorem dX7_unseeNext_4 : decode cX7_unseeNext 4 = .ok (.bipush 19, 2) := by decide +kernel
theorem dX7_unseeNext_6 : decode cX7_unseeNext 6 = .ok (.invokestatic 59, 3) := by decide +kernel
theorem dX7_unseeNext_9 : decode cX7_unseeNext 9 = .ok (.if_icmp .gt 43, 3) := by decide +kernel
theorem dX7_unseeNext_12 : decode cX7_unseeNext 12 = .ok (.aload_n 0, 1) := by decide +kernel
theorem dX7_unseeNext_13 : decode cX7_unseeNext 13 = .ok (.getfield 17, 3) := by decide +kernel
theorem dX7_unseeNext_16 : decode cX7_unseeNext 16 = .ok (.iload_n 2, 1) := by decide +kernel
theorem dX7_unseeNext_17 : decode cX7_unseeNext 17 = .ok (.aaload, 1) := by decide +kernel
theorem dX7_unseeNext_18 : decode cX7_unseeNext 18 = .ok (.iload_n 1, 1) := by decide +kernel
theorem dX7_unseeNext_19 : decode cX7_unseeNext 19 = .ok (.iconst 1, 1) := by decide +kernel
theorem dX7_unseeNext_20 : decode cX7_unseeNext 20 = .ok (.iadd, 1) := by decide +kernel
theorem dX7_unseeNext_21 : decode cX7_unseeNext 21 = .ok (.iload_n 2, 1) := by decide +kernel
theorem dX7_unseeNext_22 : decode cX7_unseeNext 22 = .ok (.isub, 1) := by decide +kernel
theorem dX7_unseeNext_23 : decode cX7_unseeNext 23 = .ok (.i2l, 1) := by decide +kernel
theorem dX7_unseeNext_24 : decode cX7_unseeNext 24 = .ok (.invokevirtual 75, 3) := by decide +kernel
theorem dX7_unseeNext_27 : decode cX7_unseeNext 27 = .ok (.aload_n 0, 1) := by decide +kernel
theorem dX7_unseeNext_28 : decode cX7_unseeNext 28 = .ok (.getfield 17, 3) := by decide +kernel
theorem dX7_unseeNext_31 : decode cX7_unseeNext 31 = .ok (.iload_n 2, 1) := by decide +kernel
theorem dX7_unseeNext_32 : decode cX7_unseeNext 32 = .ok (.aaload, 1) := by decide +kernel
theorem dX7_unseeNext_33 : decode cX7_unseeNext 33 = .ok (.aload_n 0, 1) := by decide +kernel
theorem dX7_unseeNext_34 : decode cX7_unseeNext 34 = .ok (.getfield 17, 3) := by decide +kernel
theorem dX7_unseeNext_37 : decode cX7_unseeNext 37 = .ok (.iload_n 2, 1) := by decide +kernel
theorem dX7_unseeNext_38 : decode cX7_unseeNext 38 = .ok (.iconst 1, 1) := by decide +kernel
theorem dX7_unseeNext_39 : decode cX7_unseeNext 39 = .ok (.iadd, 1) := by decide +kernel
theorem dX7_unseeNext_40 : decode cX7_unseeNext 40 = .ok (.aaload, 1) := by decide +kernel
theorem dX7_unseeNext_41 : decode cX7_unseeNext 41 = .ok (.iload_n 2, 1) := by decide +kernel
theorem dX7_unseeNext_42 : decode cX7_unseeNext 42 = .ok (.i2l, 1) := by decide +kernel
theorem dX7_unseeNext_43 : decode cX7_unseeNext 43 = .ok (.invokevirtual 68, 3) := by decide +kernel
theorem dX7_unseeNext_46 : decode cX7_unseeNext 46 = .ok (.iinc 2 1, 3) := by decide +kernel
theorem dX7_unseeNext_49 : decode cX7_unseeNext 49 = .ok (.goto (-47), 3) := by decide +kernel
theorem dX7_unseeNext_52 : decode cX7_unseeNext 52 = .ok (.return_, 1) := by decide +kernel
end
section
set_option maxRecDepth 20000 in
theorem ggX8_init_X5_init : GoodIn wsX8_init wsX5_init := goodIn_r _ [13, 14, 2, 3, 15, 16, 26] (by decide +kernel) (by decide +kernel)
set_option maxRecDepth 20000 in
theorem gX8_init_X5_init_n9 : GoodIn wsX8_init (wsX5_init) := ggX8_init_X5_init
set_option maxRecDepth 20000 in
theorem ggX8_init_X5_put : GoodIn wsX8_init wsX5_put := goodIn_r _ [20, 21, 22, 23, 24, 16, 25, 26] (by decide +kernel) (by decide +kernel)
set_option maxRecDepth 20000 in
theorem gX8_init_X5_put : GoodIn wsX8_init (wsV RX8 29 RX5 yX5_put wsX5_put) := goodIn_app (goodIn_of _ (by decide +kernel)) ggX8_init_X5_put
theorem dX8_init_0 : decode cX8_init 0 = .ok (.aload_n 0, 1) := by decide +kernel
theorem dX8_init_1 : decode cX8_init 1 = .ok (.invokespecial 1, 3) := by decide +kernel
theorem dX8_init_4 : decode cX8_init 4 = .ok (.aload_n 0, 1) := by decide +kernel
theorem dX8_init_5 : decode cX8_init 5 = .ok (.new 7, 3) := by decide +kernel
theorem dX8_init_8 : decode cX8_init 8 = .ok (.dup, 1) := by decide +kernel
theorem dX8_init_9 : decode cX8_init 9 = .ok (.invokespecial 9, 3) := by decide +kernel
theorem dX8_init_12 : decode cX8_init 12 = .ok (.putfield 10, 3) := by decide +kernel
theorem dX8_init_15 : decode cX8_init 15 = .ok (.aload_n 0, 1) := by decide +kernel
theorem dX8_init_16 : decode cX8_init 16 = .ok (.new 7, 3) := by decide +kernel
theorem dX8_init_19 : decode cX8_init 19 = .ok (.dup, 1) := by decide +kernel
theorem dX8_init_20 : decode cX8_init 20 = .ok (.invokespecial 9, 3) := by decide +kernel
theorem dX8_init_23 : decode cX8_init 23 = .ok (.putfield 16, 3) := by decide +kernel
theorem dX8_init_26 : decode cX8_init 26 = .ok (.aload_n 0, 1) := by decide +kernel
theorem dX8_init_27 : decode cX8_init 27 = .ok (.new 7, 3) := by decide +kernel
theorem dX8_init_30 : decode cX8_init 30 = .ok (.dup, 1) := by decide +kernel
theorem dX8_init_31 : decode cX8_init 31 = .ok (.invokespecial 9, 3) := by decide +kernel
theorem dX8_init_34 : decode cX8_init 34 = .ok (.putfield 19, 3) := by decide +kernel
theorem dX8_init_37 : decode cX8_init 37 = .ok (.aload_n 0, 1) := by decide +kernel
theorem dX8_init_38 : decode cX8_init 38 = .ok (.new 7, 3) := by decide +kernel
theorem dX8_init_41 : decode cX8_init 41 = .ok (.dup, 1) := by decide +kernel
theorem dX8_init_42 : decode cX8_init 42 = .ok (.invokespecial 9, 3) := by decide +kernel
theorem dX8_init_45 : decode cX8_init 45 = .ok (.putfield 22, 3) := by decide +kernel
theorem dX8_init_48 : decode cX8_init 48 = .ok (.aload_n 0, 1) := by decide +kernel
theorem dX8_init_49 : decode cX8_init 49 = .ok (.iconst 0, 1) := by decide +kernel
theorem dX8_init_50 : decode cX8_init 50 = .ok (.putfield 25, 3) := by decide +kernel
theorem dX8_init_53 : decode cX8_init 53 = .ok (.aload_n 0, 1) := by decide +kernel
theorem dX8_init_54 : decode cX8_init 54 = .ok (.getfield 16, 3) := by decide +kernel
theorem dX8_init_57 : decode cX8_init 57 = .ok (.lconst 1, 1) := by decide +kernel
theorem dX8_init_58 : decode cX8_init 58 = .ok (.invokevirtual 29, 3) := by decide +kernel
theorem dX8_init_61 : decode cX8_init 61 = .ok (.return_, 1) := by decide +kernel
set_option maxRecDepth 20000 in
theorem ggX8_put_X5_copy : GoodIn wsX8_put wsX5_copy := goodIn_r _ [8, 9, 10, 11, 12, 13, 36] (by decide +kernel) (by decide +kernel)
set_option maxRecDepth 20000 in
theorem gX8_put_X5_copy : GoodIn wsX8_put (wsV RX8 33 RX5 yX5_copy wsX5_copy) := goodIn_app (goodIn_of _ (by decide +kernel)) ggX8_put_X5_copy
set_option maxRecDepth 20000 in
theorem ggX8_put_X5_put : GoodIn wsX8_put wsX5_put := goodIn_r _ [17, 18, 19, 20, 21, 9, 22, 36] (by decide +kernel) (by decide +kernel)
set_option maxRecDepth 20000 in
theorem gX8_put_X5_put : GoodIn wsX8_put (wsV RX8 29 RX5 yX5_put wsX5_put) := goodIn_app (goodIn_of _ (by decide +kernel)) ggX8_put_X5_put
set_option maxRecDepth 20000 in
theorem ggX8_put_X5_isZero : GoodIn wsX8_put wsX5_isZero := goodIn_r _ [26, 9, 27, 28, 29, 7, 30, 36] (by decide +kernel) (by decide +kernel)
set_option maxRecDepth 20000 in
theorem gX8_put_X5_isZero : GoodIn wsX8_put (wsV RX8 37 RX5 yX5_isZero wsX5_isZero) := goodIn_app (goodIn_of _ (by decide +kernel)) ggX8_put_X5_isZero
theorem dX8_put_0 : decode cX8_put 0 = .ok (.aload_n 0, 1) := by decide +kernel
theorem dX8_put_1 : decode cX8_put 1 = .ok (.getfield 10, 3) := by decide +kernel
theorem dX8_put_4 : decode cX8_put 4 = .ok (.aload_n 1, 1) := by decide +kernel
theorem dX8_put_5 : decode cX8_put 5 = .ok (.invokevirtual 33, 3) := by decide +kernel
theorem dX8_put_8 : decode cX8_put 8 = .ok (.aload_n 0, 1) := by decide +kernel
theorem dX8_put_9 : decode cX8_put 9 = .ok (.getfield 16, 3) := by decide +kernel
theorem dX8_put_12 : decode cX8_put 12 = .ok (.lconst 1, 1) := by decide +kernel
theorem dX8_put_13 : decode cX8_put 13 = .ok (.invokevirtual 29, 3) := by decide +kernel
theorem dX8_put_16 : decode cX8_put 16 = .ok (.aload_n 0, 1) := by decide +kernel
theorem dX8_put_17 : decode cX8_put 17 = .ok (.aload_n 1, 1) := by decide +kernel
theorem dX8_put_18 : decode cX8_put 18 = .ok (.invokevirtual 37, 3) := by decide +kernel
theorem dX8_put_21 : decode cX8_put 21 = .ok (.ifCond .eq 7, 3) := by decide +kernel
theorem dX8_put_24 : decode cX8_put 24 = .ok (.iconst 0, 1) := by decide +kernel
theorem dX8_put_25 : decode cX8_put 25 = .ok (.goto 4, 3) := by decide +kernel
theorem dX8_put_28 : decode cX8_put 28 = .ok (.iconst 1, 1) := by decide +kernel
theorem dX8_put_29 : decode cX8_put 29 = .ok (.putfield 25, 3) := by decide +kernel
theorem dX8_put_32 : decode cX8_put 32 = .ok (.return_, 1) := by decide +kernel
set_option maxRecDepth 20000 in
theorem ggX8_putSmall_X5_put : GoodIn wsX8_putSmall wsX5_put := goodIn_r _ [11, 12, 13, 4, 14, 15, 16, 68] (by decide +kernel) (by decide +kernel)
set_option maxRecDepth 20000 in
theorem gX8_putSmall_X5_put : GoodIn wsX8_putSmall (wsV RX8 29 RX5 yX5_put wsX5_put) := goodIn_app (goodIn_of _ (by decide +kernel)) ggX8_putSmall_X5_put
set_option maxRecDepth 20000 in
theorem ggX8_putSmall_X8_put : GoodIn wsX8_putSmall wsX8_put := goodIn_r _ [21, 22, 23, 6, 24, 25, 26, 10, 27, 15, 28, 29, 30, 31, 7, 8, 9, 11, 12, 13, 4, 14, 16, 32, 33, 34, 35, 36, 37, 38, 39, 63, 64, 65, 66, 67, 68] (by decide +kernel) (by decide +kernel)
set_option maxRecDepth 20000 in
theorem gX8_putSmall_X8_put : GoodIn wsX8_putSmall (wsV RX8 47 RX8 yX8_put wsX8_put) := goodIn_app (goodIn_of _ (by decide +kernel)) ggX8_putSmall_X8_put
set_option maxRecDepth 20000 in
theorem ggX8_putSmall_X8_over : GoodIn wsX8_putSmall wsX8_over := goodIn_r _ [43, 22, 23, 44, 45, 46, 10, 47, 16, 15, 48, 49, 20, 50, 51, 52, 53, 54, 55, 56, 57, 58, 63, 64, 65, 66, 67, 68] (by decide +kernel) (by decide +kernel)
set_option maxRecDepth 20000 in
theorem gX8_putSmall_X8_over : GoodIn wsX8_putSmall (wsV RX8 49 RX8 yX8_over wsX8_over) := goodIn_app (goodIn_of _ (by decide +kernel)) ggX8_putSmall_X8_over
set_option maxRecDepth 20000 in
theorem ggX8_putSmall_J6_compare_7cf53 : GoodIn wsX8_putSmall wsJ6_compare_7cf53 := goodIn_r _ [62] (by decide +kernel) (by decide +kernel)
set_option maxRecDepth 20000 in
theorem gX8_putSmall_J6_compare_7cf53 : GoodIn wsX8_putSmall (va_wsS RX8 53 yJ6_compare_7cf53 wsJ6_compare_7cf53) := goodIn_app (goodIn_of _ (by decide +kernel)) ggX8_putSmall_J6_compare_7cf53
theorem dX8_putSmall_0 : decode cX8_putSmall 0 = .ok (.aload_n 0, 1) := by decide +kernel
theorem dX8_putSmall_1 : decode cX8_putSmall 1 = .ok (.getfield 19, 3) := by decide +kernel
theorem dX8_putSmall_4 : decode cX8_putSmall 4 = .ok (.iload_n 1, 1) := by decide +kernel
theorem dX8_putSmall_5 : decode cX8_putSmall 5 = .ok (.i2l, 1) := by decide +kernel
theorem dX8_putSmall_6 : decode cX8_putSmall 6 = .ok (.invokestatic 41, 3) := by decide +kernel
theorem dX8_putSmall_9 : decode cX8_putSmall 9 = .ok (.invokevirtual 29, 3) := by decide +kernel
theorem dX8_putSmall_12 : decode cX8_putSmall 12 = .ok (.aload_n 0, 1) := by decide +kernel
theorem dX8_putSmall_13 : decode cX8_putSmall 13 = .ok (.aload_n 0, 1) := by decide +kernel
theorem dX8_putSmall_14 : decode cX8_putSmall 14 = .ok (.getfield 19, 3) := by decide +kernel
theorem dX8_putSmall_17 : decode cX8_putSmall 17 = .ok (.invokevirtual 47, 3) := by decide +kernel
theorem dX8_putSmall_20 : decode cX8_putSmall 20 = .ok (.aload_n 0, 1) := by decide +kernel
theorem dX8_putSmall_21 : decode cX8_putSmall 21 = .ok (.iload_n 2, 1) := by decide +kernel
theorem dX8_putSmall_22 : decode cX8_putSmall 22 = .ok (.invokevirtual 49, 3) := by decide +kernel
theorem dX8_putSmall_25 : decode cX8_putSmall 25 = .ok (.aload_n 0, 1) := by decide +kernel
theorem dX8_putSmall_26 : decode cX8_putSmall 26 = .ok (.iload_n 1, 1) := by decide +kernel
theorem dX8_putSmall_27 : decode cX8_putSmall 27 = .ok (.iconst 0, 1) := by decide +kernel
theorem dX8_putSmall_28 : decode cX8_putSmall 28 = .ok (.invokestatic 53, 3) := by decide +kernel
theorem dX8_putSmall_31 : decode cX8_putSmall 31 = .ok (.putfield 25, 3) := by decide +kernel
theorem dX8_putSmall_34 : decode cX8_putSmall 34 = .ok (.return_, 1) := by decide +kernel
set_option maxRecDepth 20000 in
theorem ggX8_over_X5_rest : GoodIn wsX8_over wsX5_rest := goodIn_r _ [7, 8, 9, 27] (by decide +kernel) (by decide +kernel)
set_option maxRecDepth 20000 in
theorem gX8_over_X5_rest : GoodIn wsX8_over (wsV RX8 59 RX5 yX5_rest wsX5_rest) := goodIn_app (goodIn_of _ (by decide +kernel)) ggX8_over_X5_rest
set_option maxRecDepth 20000 in
theorem ggX8_over_X8_commonDivisor : GoodIn wsX8_over wsX8_commonDivisor := goodIn_r _ [13] (by decide +kernel) (by decide +kernel)
set_option maxRecDepth 20000 in
theorem gX8_over_X8_commonDivisor : GoodIn wsX8_over (va_wsS RX8 63 yX8_commonDivisor wsX8_commonDivisor) := goodIn_app (goodIn_of _ (by decide +kernel)) ggX8_over_X8_commonDivisor
set_option maxRecDepth 20000 in
theorem ggX8_over_X5_divide : GoodIn wsX8_over wsX5_divide := goodIn_r _ [17, 8, 9, 27] (by decide +kernel) (by decide +kernel)
set_option maxRecDepth 20000 in
theorem gX8_over_X5_divide : GoodIn wsX8_over (wsV RX8 66 RX5 yX5_divide wsX5_divide) := goodIn_app (goodIn_of _ (by decide +kernel)) ggX8_over_X5_divide
set_option maxRecDepth 20000 in
theorem ggX8_over_X5_times : GoodIn wsX8_over wsX5_times := goodIn_r _ [21, 9, 8, 27] (by decide +kernel) (by decide +kernel)
set_option maxRecDepth 20000 in
theorem gX8_over_X5_times : GoodIn wsX8_over (wsV RX8 69 RX5 yX5_times wsX5_times) := goodIn_app (goodIn_of _ (by decide +kernel)) ggX8_over_X5_times
theorem dX8_over_0 : decode cX8_over 0 = .ok (.iload_n 1, 1) := by decide +kernel
theorem dX8_over_1 : decode cX8_over 1 = .ok (.iconst 1, 1) := by decide +kernel
theorem dX8_over_2 : decode cX8_over 2 = .ok (.if_icmp .ge 4, 3) := by decide +kernel
theorem dX8_over_5 : decode cX8_over 5 = .ok (.return_, 1) := by decide +kernel
theorem dX8_over_6 : decode cX8_over 6 = .ok (.iload_n 1, 1) := by decide +kernel
theorem dX8_over_7 : decode cX8_over 7 = .ok (.aload_n 0, 1) := by decide +kernel
theorem dX8_over_8 : decode cX8_over 8 = .ok (.getfield 10, 3) := by decide +kernel
theorem dX8_over_11 : decode cX8_over 11 = .ok (.iload_n 1, 1) := by decide +kernel
theorem dX8_over_12 : decode cX8_over 12 = .ok (.invokevirtual 59, 3) := by decide +kernel
theorem dX8_over_15 : decode cX8_over 15 = .ok (.invokestatic 63, 3) := by decide +kernel
theorem dX8_over_18 : decode cX8_over 18 = .ok (.istore_n 2, 1) := by decide +kernel
theorem dX8_over_19 : decode cX8_over 19 = .ok (.iload_n 2, 1) := by decide +kernel
theorem dX8_over_20 : decode cX8_over 20 = .ok (.iconst 1, 1) := by decide +kernel
theorem dX8_over_21 : decode cX8_over 21 = .ok (.if_icmp .ge 4, 3) := by decide +kernel
theorem dX8_over_24 : decode cX8_over 24 = .ok (.return_, 1) := by decide +kernel
theorem dX8_over_25 : decode cX8_over 25 = .ok (.aload_n 0, 1) := by decide +kernel
theorem dX8_over_26 : decode cX8_over 26 = .ok (.getfield 10, 3) := by decide +kernel
theorem dX8_over_29 : decode cX8_over 29 = .ok (.iload_n 2, 1) := by decide +kernel
theorem dX8_over_30 : decode cX8_over 30 = .ok (.invokevirtual 66, 3) := by decide +kernel
theorem dX8_over_33 : decode cX8_over 33 = .ok (.aload_n 0, 1) := by decide +kernel
theorem dX8_over_34 : decode cX8_over 34 = .ok (.getfield 16, 3) := by decide +kernel
theorem dX8_over_37 : decode cX8_over 37 = .ok (.iload_n 1, 1) := by decide +kernel
theorem dX8_over_38 : decode cX8_over 38 = .ok (.iload_n 2, 1) := by decide +kernel
theorem dX8_over_39 : decode cX8_over 39 = .ok (.idiv, 1) := by decide +kernel
theorem dX8_over_40 : decode cX8_over 40 = .ok (.i2l, 1) := by decide +kernel
theorem dX8_over_41 : decode cX8_over 41 = .ok (.invokevirtual 69, 3) := by decide +kernel
theorem dX8_over_44 : decode cX8_over 44 = .ok (.return_, 1) := by decide +kernel
theorem dX8_commonDivisor_0 : decode cX8_commonDivisor 0 = .ok (.iload_n 0, 1) := by decide +kernel
theorem dX8_commonDivisor_1 : decode cX8_commonDivisor 1 = .ok (.istore_n 2, 1) := by decide +kernel
theorem dX8_commonDivisor_2 : decode cX8_commonDivisor 2 = .ok (.iload_n 1, 1) := by decide +kernel
theorem dX8_commonDivisor_3 : decode cX8_commonDivisor 3 = .ok (.istore_n 3, 1) := by decide +kernel
theorem dX8_commonDivisor_4 : decode cX8_commonDivisor 4 = .ok (.iconst 0, 1) := by decide +kernel
theorem dX8_commonDivisor_5 : decode cX8_commonDivisor 5 = .ok (.istore 4, 2) := by decide +kernel
theorem dX8_commonDivisor_7 : decode cX8_commonDivisor 7 = .ok (.iload 4, 2) := by decide +kernel
theorem dX8_commonDivisor_9 : decode cX8_commonDivisor 9 = .ok (.bipush 64, 2) := by decide +kernel
theorem dX8_commonDivisor_11 : decode cX8_commonDivisor 11 = .ok (.if_icmp .ge 23, 3) := by decide +kernel
theorem dX8_commonDivisor_14 : decode cX8_commonDivisor 14 = .ok (.iload_n 3, 1) := by decide +kernel
theorem dX8_commonDivisor_15 : decode cX8_commonDivisor 15 = .ok (.ifCond .eq 19, 3) := by decide +kernel
theorem dX8_commonDivisor_18 : decode cX8_commonDivisor 18 = .ok (.iload_n 2, 1) := by decide +kernel
theorem dX8_commonDivisor_19 : decode cX8_commonDivisor 19 = .ok (.iload_n 3, 1) := by decide +kernel
theorem dX8_commonDivisor_20 : decode cX8_commonDivisor 20 = .ok (.irem, 1) := by decide +kernel
theorem dX8_commonDivisor_21 : decode cX8_commonDivisor 21 = .ok (.istore 5, 2) := by decide +kernel
theorem dX8_commonDivisor_23 : decode cX8_commonDivisor 23 = .ok (.iload_n 3, 1) := by decide +kernel
theorem dX8_commonDivisor_24 : decode cX8_commonDivisor 24 = .ok (.istore_n 2, 1) := by decide +kernel
theorem dX8_commonDivisor_25 : decode cX8_commonDivisor 25 = .ok (.iload 5, 2) := by decide +kernel
theorem dX8_commonDivisor_27 : decode cX8_commonDivisor 27 = .ok (.istore_n 3, 1) := by decide +kernel
theorem dX8_commonDivisor_28 : decode cX8_commonDivisor 28 = .ok (.iinc 4 1, 3) := by decide +kernel
theorem dX8_commonDivisor_31 : decode cX8_commonDivisor 31 = .ok (.goto (-24), 3) := by decide +kernel
theorem dX8_commonDivisor_34 : decode cX8_commonDivisor 34 = .ok (.iload_n 2, 1) := by decide +kernel
theorem dX8_commonDivisor_35 : decode cX8_commonDivisor 35 = .ok (.ireturn, 1) := by decide +kernel
theorem dX8_sign_0 : decode cX8_sign 0 = .ok (.aload_n 0, 1) := by decide +kernel
theorem dX8_sign_1 : decode cX8_sign 1 = .ok (.getfield 25, 3) := by decide +kernel
theorem dX8_sign_4 : decode cX8_sign 4 = .ok (.ireturn, 1) := by decide +kernel
theorem dX8_digits_0 : decode cX8_digits 0 = .ok (.iload_n 1, 1) := by decide +kernel
theorem dX8_digits_1 : decode cX8_digits 1 = .ok (.ifCond .eq 10, 3) := by decide +kernel
theorem dX8_digits_4 : decode cX8_digits 4 = .ok (.aload_n 0, 1) := by decide +kernel
theorem dX8_digits_5 : decode cX8_digits 5 = .ok (.getfield 16, 3) := by decide +kernel
theorem dX8_digits_8 : decode cX8_digits 8 = .ok (.goto 7, 3) := by decide +kernel
theorem dX8_digits_11 : decode cX8_digits 11 = .ok (.aload_n 0, 1) := by decide +kernel
theorem dX8_digits_12 : decode cX8_digits 12 = .ok (.getfield 10, 3) := by decide +kernel
theorem dX8_digits_15 : decode cX8_digits 15 = .ok (.areturn, 1) := by decide +kernel
set_option maxRecDepth 20000 in
theorem ggX8_against_J6_compare_7cf53 : GoodIn wsX8_against wsJ6_compare_7cf53 := goodIn_r _ [13] (by decide +kernel) (by decide +kernel)
set_option maxRecDepth 20000 in
theorem gX8_against_J6_compare_7cf53 : GoodIn wsX8_against (va_wsS RX8 53 yJ6_compare_7cf53 wsJ6_compare_7cf53) := goodIn_app (goodIn_of _ (by decide +kernel)) ggX8_against_J6_compare_7cf53
set_option maxRecDepth 20000 in
theorem ggX8_against_X5_copy : GoodIn wsX8_against wsX5_copy := goodIn_r _ [18, 19, 20, 21, 22, 23, 39] (by decide +kernel) (by decide +kernel)
set_option maxRecDepth 20000 in
theorem gX8_against_X5_copy : GoodIn wsX8_against (wsV RX8 33 RX5 yX5_copy wsX5_copy) := goodIn_app (goodIn_of _ (by decide +kernel)) ggX8_against_X5_copy
set_option maxRecDepth 20000 in
theorem ggX8_against_X5_times : GoodIn wsX8_against wsX5_times := goodIn_r _ [27, 19, 28, 39] (by decide +kernel) (by decide +kernel)
set_option maxRecDepth 20000 in
theorem gX8_against_X5_times : GoodIn wsX8_against (wsV RX8 69 RX5 yX5_times wsX5_times) := goodIn_app (goodIn_of _ (by decide +kernel)) ggX8_against_X5_times
set_option maxRecDepth 20000 in
theorem ggX8_against_X5_against : GoodIn wsX8_against wsX5_against := goodIn_r _ [32, 19, 33, 11, 12, 13, 39] (by decide +kernel) (by decide +kernel)
set_option maxRecDepth 20000 in
theorem gX8_against_X5_against : GoodIn wsX8_against (wsV RX8 72 RX5 yX5_against wsX5_against) := goodIn_app (goodIn_of _ (by decide +kernel)) ggX8_against_X5_against
theorem dX8_against_0 : decode cX8_against 0 = .ok (.iload_n 1, 1) := by decide +kernel
theorem dX8_against_1 : decode cX8_against 1 = .ok (.iconst 0, 1) := by decide +kernel
theorem dX8_against_2 : decode cX8_against 2 = .ok (.invokestatic 53, 3) := by decide +kernel
theorem dX8_against_5 : decode cX8_against 5 = .ok (.istore_n 3, 1) := by decide +kernel
theorem dX8_against_6 : decode cX8_against 6 = .ok (.aload_n 0, 1) := by decide +kernel
theorem dX8_against_7 : decode cX8_against 7 = .ok (.getfield 25, 3) := by decide +kernel
theorem dX8_against_10 : decode cX8_against 10 = .ok (.iload_n 3, 1) := by decide +kernel
theorem dX8_against_11 : decode cX8_against 11 = .ok (.if_icmp .eq 12, 3) := by decide +kernel
theorem dX8_against_14 : decode cX8_against 14 = .ok (.aload_n 0, 1) := by decide +kernel
theorem dX8_against_15 : decode cX8_against 15 = .ok (.getfield 25, 3) := by decide +kernel
theorem dX8_against_18 : decode cX8_against 18 = .ok (.iload_n 3, 1) := by decide +kernel
theorem dX8_against_19 : decode cX8_against 19 = .ok (.invokestatic 53, 3) := by decide +kernel
theorem dX8_against_22 : decode cX8_against 22 = .ok (.ireturn, 1) := by decide +kernel
theorem dX8_against_23 : decode cX8_against 23 = .ok (.aload_n 0, 1) := by decide +kernel
theorem dX8_against_24 : decode cX8_against 24 = .ok (.getfield 19, 3) := by decide +kernel
theorem dX8_against_27 : decode cX8_against 27 = .ok (.aload_n 0, 1) := by decide +kernel
theorem dX8_against_28 : decode cX8_against 28 = .ok (.getfield 10, 3) := by decide +kernel
theorem dX8_against_31 : decode cX8_against 31 = .ok (.invokevirtual 33, 3) := by decide +kernel
theorem dX8_against_34 : decode cX8_against 34 = .ok (.aload_n 0, 1) := by decide +kernel
theorem dX8_against_35 : decode cX8_against 35 = .ok (.getfield 19, 3) := by decide +kernel
theorem dX8_against_38 : decode cX8_against 38 = .ok (.iload_n 2, 1) := by decide +kernel
theorem dX8_against_39 : decode cX8_against 39 = .ok (.i2l, 1) := by decide +kernel
theorem dX8_against_40 : decode cX8_against 40 = .ok (.invokevirtual 69, 3) := by decide +kernel
theorem dX8_against_43 : decode cX8_against 43 = .ok (.aload_n 0, 1) := by decide +kernel
theorem dX8_against_44 : decode cX8_against 44 = .ok (.getfield 22, 3) := by decide +kernel
theorem dX8_against_47 : decode cX8_against 47 = .ok (.aload_n 0, 1) := by decide +kernel
theorem dX8_against_48 : decode cX8_against 48 = .ok (.getfield 16, 3) := by decide +kernel
theorem dX8_against_51 : decode cX8_against 51 = .ok (.invokevirtual 33, 3) := by decide +kernel
theorem dX8_against_54 : decode cX8_against 54 = .ok (.aload_n 0, 1) := by decide +kernel
theorem dX8_against_55 : decode cX8_against 55 = .ok (.getfield 22, 3) := by decide +kernel
theorem dX8_against_58 : decode cX8_against 58 = .ok (.iload_n 1, 1) := by decide +kernel
theorem dX8_against_59 : decode cX8_against 59 = .ok (.i2l, 1) := by decide +kernel
theorem dX8_against_60 : decode cX8_against 60 = .ok (.invokestatic 41, 3) := by decide +kernel
theorem dX8_against_63 : decode cX8_against 63 = .ok (.invokevirtual 69, 3) := by decide +kernel
theorem dX8_against_66 : decode cX8_against 66 = .ok (.aload_n 0, 1) := by decide +kernel
theorem dX8_against_67 : decode cX8_against 67 = .ok (.getfield 25, 3) := by decide +kernel
theorem dX8_against_70 : decode cX8_against 70 = .ok (.aload_n 0, 1) := by decide +kernel
theorem dX8_against_71 : decode cX8_against 71 = .ok (.getfield 19, 3) := by decide +kernel
theorem dX8_against_74 : decode cX8_against 74 = .ok (.aload_n 0, 1) := by decide +kernel
theorem dX8_against_75 : decode cX8_against 75 = .ok (.getfield 22, 3) := by decide +kernel
theorem dX8_against_78 : decode cX8_against 78 = .ok (.invokevirtual 72, 3) := by decide +kernel
theorem dX8_against_81 : decode cX8_against 81 = .ok (.imul, 1) := by decide +kernel
theorem dX8_against_82 : decode cX8_against 82 = .ok (.ireturn, 1) := by decide +kernel
end
section
theorem dX9_init_0 : decode cX9_init 0 = .ok (.aload_n 0, 1) := by decide +kernel
theorem dX9_init_1 : decode cX9_init 1 = .ok (.invokespecial 3, 3) := by decide +kernel
theorem dX9_init_4 : decode cX9_init 4 = .ok (.aload_n 0, 1) := by decide +kernel
theorem dX9_init_5 : decode cX9_init 5 = .ok (.bipush 40, 2) := by decide +kernel
theorem dX9_init_7 : decode cX9_init 7 = .ok (.newarray .long, 2) := by decide +kernel
theorem dX9_init_9 : decode cX9_init 9 = .ok (.putfield 9, 3) := by decide +kernel
theorem dX9_init_12 : decode cX9_init 12 = .ok (.aload_n 0, 1) := by decide +kernel
theorem dX9_init_13 : decode cX9_init 13 = .ok (.iconst 0, 1) := by decide +kernel
theorem dX9_init_14 : decode cX9_init 14 = .ok (.putfield 15, 3) := by decide +kernel
theorem dX9_init_17 : decode cX9_init 17 = .ok (.aload_n 0, 1) := by decide +kernel
theorem dX9_init_18 : decode cX9_init 18 = .ok (.iconst (-1), 1) := by decide +kernel
theorem dX9_init_19 : decode cX9_init 19 = .ok (.putfield 19, 3) := by decide +kernel
theorem dX9_init_22 : decode cX9_init 22 = .ok (.return_, 1) := by decide +kernel
theorem dX9_isThere_0 : decode cX9_isThere 0 = .ok (.aload_n 0, 1) := by decide +kernel
theorem dX9_isThere_1 : decode cX9_isThere 1 = .ok (.getfield 19, 3) := by decide +kernel
theorem dX9_isThere_4 : decode cX9_isThere 4 = .ok (.iconst (-1), 1) := by decide +kernel
theorem dX9_isThere_5 : decode cX9_isThere 5 = .ok (.if_icmp .eq 7, 3) := by decide +kernel
theorem dX9_isThere_8 : decode cX9_isThere 8 = .ok (.iconst 1, 1) := by decide +kernel
theorem dX9_isThere_9 : decode cX9_isThere 9 = .ok (.goto 4, 3) := by decide +kernel
theorem dX9_isThere_12 : decode cX9_isThere 12 = .ok (.iconst 0, 1) := by decide +kernel
theorem dX9_isThere_13 : decode cX9_isThere 13 = .ok (.ireturn, 1) := by decide +kernel
set_option maxRecDepth 20000 in
theorem ggX9_lay_J7_fill_d0a16 : GoodIn wsX9_lay wsJ7_fill_d0a16 := goodIn_r _ [11] (by decide +kernel) (by decide +kernel)
set_option maxRecDepth 20000 in
theorem gX9_lay_J7_fill_d0a16 : GoodIn wsX9_lay (va_wsS RX9 22 yJ7_fill_d0a16 wsJ7_fill_d0a16) := goodIn_app (goodIn_of _ (by decide +kernel)) ggX9_lay_J7_fill_d0a16
theorem dX9_lay_0 : decode cX9_lay 0 = .ok (.aload_n 0, 1) := by decide +kernel
theorem dX9_lay_1 : decode cX9_lay 1 = .ok (.getfield 9, 3) := by decide +kernel
theorem dX9_lay_4 : decode cX9_lay 4 = .ok (.lconst 0, 1) := by decide +kernel
theorem dX9_lay_5 : decode cX9_lay 5 = .ok (.invokestatic 22, 3) := by decide +kernel
theorem dX9_lay_8 : decode cX9_lay 8 = .ok (.aload_n 0, 1) := by decide +kernel
theorem dX9_lay_9 : decode cX9_lay 9 = .ok (.iload_n 1, 1) := by decide +kernel
theorem dX9_lay_10 : decode cX9_lay 10 = .ok (.putfield 15, 3) := by decide +kernel
theorem dX9_lay_13 : decode cX9_lay 13 = .ok (.aload_n 0, 1) := by decide +kernel
theorem dX9_lay_14 : decode cX9_lay 14 = .ok (.iload_n 2, 1) := by decide +kernel
theorem dX9_lay_15 : decode cX9_lay 15 = .ok (.bipush 40, 2) := by decide +kernel
theorem dX9_lay_17 : decode cX9_lay 17 = .ok (.invokestatic 28, 3) := by decide +kernel
theorem dX9_lay_20 : decode cX9_lay 20 = .ok (.putfield 19, 3) := by decide +kernel
theorem dX9_lay_23 : decode cX9_lay 23 = .ok (.return_, 1) := by decide +kernel
theorem dX9_remove_0 : decode cX9_remove 0 = .ok (.aload_n 0, 1) := by decide +kernel
theorem dX9_remove_1 : decode cX9_remove 1 = .ok (.iconst (-1), 1) := by decide +kernel
theorem dX9_remove_2 : decode cX9_remove 2 = .ok (.putfield 19, 3) := by decide +kernel
theorem dX9_remove_5 : decode cX9_remove 5 = .ok (.return_, 1) := by decide +kernel
set_option maxRecDepth 20000 in
theorem ggX9_put_X10_isWithin : GoodIn wsX9_put wsX10_isWithin := goodIn_r _ [5] (by decide +kernel) (by decide +kernel)
set_option maxRecDepth 20000 in
theorem gX9_put_X10_isWithin_n34 : GoodIn wsX9_put (wsX10_isWithin) := ggX9_put_X10_isWithin
set_option maxRecDepth 20000 in
theorem ggX9_put_X9_cut : GoodIn wsX9_put wsX9_cut := goodIn_r _ [10, 11, 12, 13, 14] (by decide +kernel) (by decide +kernel)
set_option maxRecDepth 20000 in
theorem gX9_put_X9_cut : GoodIn wsX9_put (wsV RX9 38 RX9 yX9_cut wsX9_cut) := goodIn_app (goodIn_of _ (by decide +kernel)) ggX9_put_X9_cut
theorem dX9_put_0 : decode cX9_put 0 = .ok (.iload_n 1, 1) := by decide +kernel
theorem dX9_put_1 : decode cX9_put 1 = .ok (.i2l, 1) := by decide +kernel
theorem dX9_put_2 : decode cX9_put 2 = .ok (.lconst 0, 1) := by decide +kernel
theorem dX9_put_3 : decode cX9_put 3 = .ok (.aload_n 0, 1) := by decide +kernel
theorem dX9_put_4 : decode cX9_put 4 = .ok (.getfield 19, 3) := by decide +kernel
theorem dX9_put_7 : decode cX9_put 7 = .ok (.iconst 1, 1) := by decide +kernel
theorem dX9_put_8 : decode cX9_put 8 = .ok (.isub, 1) := by decide +kernel
theorem dX9_put_9 : decode cX9_put 9 = .ok (.i2l, 1) := by decide +kernel
theorem dX9_put_10 : decode cX9_put 10 = .ok (.invokestatic 34, 3) := by decide +kernel
theorem dX9_put_13 : decode cX9_put 13 = .ok (.ifCond .ne 5, 3) := by decide +kernel
theorem dX9_put_16 : decode cX9_put 16 = .ok (.iconst 0, 1) := by decide +kernel
theorem dX9_put_17 : decode cX9_put 17 = .ok (.ireturn, 1) := by decide +kernel
theorem dX9_put_18 : decode cX9_put 18 = .ok (.aload_n 0, 1) := by decide +kernel
theorem dX9_put_19 : decode cX9_put 19 = .ok (.getfield 9, 3) := by decide +kernel
theorem dX9_put_22 : decode cX9_put 22 = .ok (.iload_n 1, 1) := by decide +kernel
theorem dX9_put_23 : decode cX9_put 23 = .ok (.aload_n 0, 1) := by decide +kernel
theorem dX9_put_24 : decode cX9_put 24 = .ok (.lload_n 2, 1) := by decide +kernel
theorem dX9_put_25 : decode cX9_put 25 = .ok (.invokevirtual 38, 3) := by decide +kernel
theorem dX9_put_28 : decode cX9_put 28 = .ok (.lastore, 1) := by decide +kernel
theorem dX9_put_29 : decode cX9_put 29 = .ok (.iconst 1, 1) := by decide +kernel
theorem dX9_put_30 : decode cX9_put 30 = .ok (.ireturn, 1) := by decide +kernel
theorem dX9_cut_0 : decode cX9_cut 0 = .ok (.aload_n 0, 1) := by decide +kernel
theorem dX9_cut_1 : decode cX9_cut 1 = .ok (.getfield 15, 3) := by decide +kernel
theorem dX9_cut_4 : decode cX9_cut 4 = .ok (.tableswitch 42 0 2 #[28, 33, 38], 28) := by decide +kernel
theorem dX9_cut_32 : decode cX9_cut 32 = .ok (.lload_n 1, 1) := by decide +kernel
theorem dX9_cut_33 : decode cX9_cut 33 = .ok (.l2i, 1) := by decide +kernel
theorem dX9_cut_34 : decode cX9_cut 34 = .ok (.i2b, 1) := by decide +kernel
theorem dX9_cut_35 : decode cX9_cut 35 = .ok (.i2l, 1) := by decide +kernel
theorem dX9_cut_36 : decode cX9_cut 36 = .ok (.lreturn, 1) := by decide +kernel
theorem dX9_cut_37 : decode cX9_cut 37 = .ok (.lload_n 1, 1) := by decide +kernel
theorem dX9_cut_38 : decode cX9_cut 38 = .ok (.l2i, 1) := by decide +kernel
theorem dX9_cut_39 : decode cX9_cut 39 = .ok (.i2s, 1) := by decide +kernel
theorem dX9_cut_40 : decode cX9_cut 40 = .ok (.i2l, 1) := by decide +kernel
theorem dX9_cut_41 : decode cX9_cut 41 = .ok (.lreturn, 1) := by decide +kernel
theorem dX9_cut_42 : decode cX9_cut 42 = .ok (.lload_n 1, 1) := by decide +kernel
theorem dX9_cut_43 : decode cX9_cut 43 = .ok (.l2i, 1) := by decide +kernel
theorem dX9_cut_44 : decode cX9_cut 44 = .ok (.i2l, 1) := by decide +kernel
theorem dX9_cut_45 : decode cX9_cut 45 = .ok (.lreturn, 1) := by decide +kernel
theorem dX9_cut_46 : decode cX9_cut 46 = .ok (.lload_n 1, 1) := by decide +kernel
theorem dX9_cut_47 : decode cX9_cut 47 = .ok (.lreturn, 1) := by decide +kernel
set_option maxRecDepth 20000 in
theorem ggX9_read_X10_isWithin : GoodIn wsX9_read wsX10_isWithin := goodIn_r _ [5] (by decide +kernel) (by decide +kernel)
set_option maxRecDepth 20000 in
theorem gX9_read_X10_isWithin_n34 : GoodIn wsX9_read (wsX10_isWithin) := ggX9_read_X10_isWithin
theorem dX9_read_0 : decode cX9_read 0 = .ok (.iload_n 1, 1) := by decide +kernel
theorem dX9_read_1 : decode cX9_read 1 = .ok (.i2l, 1) := by decide +kernel
theorem dX9_read_2 : decode cX9_read 2 = .ok (.lconst 0, 1) := by decide +kernel
theorem dX9_read_3 : decode cX9_read 3 = .ok (.aload_n 0, 1) := by decide +kernel
theorem dX9_read_4 : decode cX9_read 4 = .ok (.getfield 19, 3) := by decide +kernel
theorem dX9_read_7 : decode cX9_read 7 = .ok (.iconst 1, 1) := by decide +kernel
theorem dX9_read_8 : decode cX9_read 8 = .ok (.isub, 1) := by decide +kernel
theorem dX9_read_9 : decode cX9_read 9 = .ok (.i2l, 1) := by decide +kernel
theorem dX9_read_10 : decode cX9_read 10 = .ok (.invokestatic 34, 3) := by decide +kernel
theorem dX9_read_13 : decode cX9_read 13 = .ok (.ifCond .ne 6, 3) := by decide +kernel
theorem dX9_read_16 : decode cX9_read 16 = .ok (.bipush (-6), 2) := by decide +kernel
theorem dX9_read_18 : decode cX9_read 18 = .ok (.ireturn, 1) := by decide +kernel
theorem dX9_read_19 : decode cX9_read 19 = .ok (.aload_n 0, 1) := by decide +kernel
theorem dX9_read_20 : decode cX9_read 20 = .ok (.getfield 9, 3) := by decide +kernel
theorem dX9_read_23 : decode cX9_read 23 = .ok (.iload_n 1, 1) := by decide +kernel
theorem dX9_read_24 : decode cX9_read 24 = .ok (.laload, 1) := by decide +kernel
theorem dX9_read_25 : decode cX9_read 25 = .ok (.iload_n 2, 1) := by decide +kernel
theorem dX9_read_26 : decode cX9_read 26 = .ok (.i2l, 1) := by decide +kernel
theorem dX9_read_27 : decode cX9_read 27 = .ok (.iload_n 3, 1) := by decide +kernel
theorem dX9_read_28 : decode cX9_read 28 = .ok (.i2l, 1) := by decide +kernel
theorem dX9_read_29 : decode cX9_read 29 = .ok (.invokestatic 34, 3) := by decide +kernel
theorem dX9_read_32 : decode cX9_read 32 = .ok (.ifCond .eq 13, 3) := by decide +kernel
theorem dX9_read_35 : decode cX9_read 35 = .ok (.aload_n 0, 1) := by decide +kernel
theorem dX9_read_36 : decode cX9_read 36 = .ok (.getfield 9, 3) := by decide +kernel
theorem dX9_read_39 : decode cX9_read 39 = .ok (.iload_n 1, 1) := by decide +kernel
theorem dX9_read_40 : decode cX9_read 40 = .ok (.laload, 1) := by decide +kernel
theorem dX9_read_41 : decode cX9_read 41 = .ok (.l2i, 1) := by decide +kernel
theorem dX9_read_42 : decode cX9_read 42 = .ok (.goto 5, 3) := by decide +kernel
theorem dX9_read_45 : decode cX9_read 45 = .ok (.bipush (-4), 2) := by decide +kernel
theorem dX9_read_47 : decode cX9_read 47 = .ok (.ireturn, 1) := by decide +kernel
end
section
set_option maxRecDepth 20000 in
theorem ggX10_init_X8_init : GoodIn wsX10_init wsX8_init := goodIn_r _ [39, 40, 2, 3, 41, 42, 43, 44, 45, 46, 47, 48, 49, 50, 51, 52, 53, 54, 55, 56, 57, 58, 59, 60, 61, 62, 206, 161, 162, 163, 164, 165] (by decide +kernel) (by decide +kernel)
set_option maxRecDepth 20000 in
theorem gX10_init_X8_init : GoodIn wsX10_init (wsX8_init) := ggX10_init_X8_init
set_option maxRecDepth 20000 in
theorem ggX10_init_X2_init : GoodIn wsX10_init wsX2_init := goodIn_r _ [65, 66, 2, 3, 67, 68, 69, 70, 52, 71, 72, 73, 74, 75, 42, 43, 76, 77, 78, 79, 80, 81, 82, 83, 84, 85, 35, 36, 86, 87, 88, 89, 90, 91, 92, 93, 94, 95, 49, 50, 51, 53, 207, 208, 209, 166, 167, 168, 169, 170, 171, 172, 173, 174, 175, 206, 202, 203, 204, 205] (by decide +kernel) (by decide +kernel)
set_option maxRecDepth 20000 in
theorem gX10_init_X2_init : GoodIn wsX10_init (wsX2_init) := ggX10_init_X2_init
set_option maxRecDepth 20000 in
theorem ggX10_init_X6_init : GoodIn wsX10_init wsX6_init := goodIn_r _ [98, 99, 2, 3, 100, 42, 43, 101, 102, 103, 104, 105, 106, 49, 50, 51, 52, 53, 107, 55, 56, 57, 58, 59, 60, 61, 62, 108, 109, 110, 111, 206, 176, 177, 178, 179, 180] (by decide +kernel) (by decide +kernel)
set_option maxRecDepth 20000 in
theorem gX10_init_X6_init : GoodIn wsX10_init (wsX6_init) := ggX10_init_X6_init
set_option maxRecDepth 20000 in
theorem ggX10_init_X7_init : GoodIn wsX10_init wsX7_init := goodIn_r _ [114, 115, 2, 3, 52, 116, 117, 118, 42, 43, 119, 120, 49, 50, 51, 53, 181, 182, 183, 184, 206] (by decide +kernel) (by decide +kernel)
set_option maxRecDepth 20000 in
theorem gX10_init_X7_init : GoodIn wsX10_init (wsX7_init) := ggX10_init_X7_init
set_option maxRecDepth 20000 in
theorem ggX10_init_X4_init : GoodIn wsX10_init wsX4_init := goodIn_r _ [122, 123, 2, 3, 52, 124, 125, 126, 127, 42, 43, 128, 129, 130, 49, 50, 51, 53, 185, 186, 187, 188, 189, 190, 206] (by decide +kernel) (by decide +kernel)
set_option maxRecDepth 20000 in
theorem gX10_init_X4_init_n55 : GoodIn wsX10_init (wsX4_init) := ggX10_init_X4_init
set_option maxRecDepth 20000 in
theorem ggX10_init_X1_init : GoodIn wsX10_init wsX1_init := goodIn_r _ [132, 133, 2, 3, 134, 68, 69, 135, 136, 52, 137, 138, 139, 140, 141, 42, 43, 142, 143, 144, 82, 83, 84, 85, 35, 36, 86, 87, 88, 89, 90, 91, 92, 93, 94, 95, 49, 50, 51, 53, 207, 208, 209, 191, 192, 193, 194, 195, 196, 197, 198, 206, 202, 203, 204, 205] (by decide +kernel) (by decide +kernel)
set_option maxRecDepth 20000 in
theorem gX10_init_X1_init_n62 : GoodIn wsX10_init (wsX1_init) := ggX10_init_X1_init
set_option maxRecDepth 20000 in
theorem ggX10_init_X9_init : GoodIn wsX10_init wsX9_init := goodIn_r _ [146, 147, 2, 3, 148, 149, 150, 151, 199, 200, 201] (by decide +kernel) (by decide +kernel)
set_option maxRecDepth 20000 in
theorem gX10_init_X9_init_n67 : GoodIn wsX10_init (wsX9_init) := ggX10_init_X9_init
set_option maxRecDepth 20000 in
theorem ggX10_init_X0_init : GoodIn wsX10_init wsX0_init := goodIn_r _ [90, 91, 2, 3, 52, 92, 93, 94, 95, 202, 203, 204, 205] (by decide +kernel) (by decide +kernel)
set_option maxRecDepth 20000 in
theorem gX10_init_X0_init_n68 : GoodIn wsX10_init (wsX0_init) := ggX10_init_X0_init
theorem dX10_init_0 : decode cX10_init 0 = .ok (.aload_n 0, 1) := by decide +kernel
theorem dX10_init_1 : decode cX10_init 1 = .ok (.invokespecial 3, 3) := by decide +kernel
theorem dX10_init_4 : decode cX10_init 4 = .ok (.aload_n 0, 1) := by decide +kernel
theorem dX10_init_5 : decode cX10_init 5 = .ok (.bipush 10, 2) := by decide +kernel
theorem dX10_init_7 : decode cX10_init 7 = .ok (.anewarray 9, 3) := by decide +kernel
theorem dX10_init_10 : decode cX10_init 10 = .ok (.putfield 11, 3) := by decide +kernel
theorem dX10_init_13 : decode cX10_init 13 = .ok (.aload_n 0, 1) := by decide +kernel
theorem dX10_init_14 : decode cX10_init 14 = .ok (.bipush 16, 2) := by decide +kernel
theorem dX10_init_16 : decode cX10_init 16 = .ok (.anewarray 15, 3) := by decide +kernel
theorem dX10_init_19 : decode cX10_init 19 = .ok (.putfield 17, 3) := by decide +kernel
theorem dX10_init_22 : decode cX10_init 22 = .ok (.aload_n 0, 1) := by decide +kernel
theorem dX10_init_23 : decode cX10_init 23 = .ok (.iconst 0, 1) := by decide +kernel
theorem dX10_init_24 : decode cX10_init 24 = .ok (.putfield 21, 3) := by decide +kernel
theorem dX10_init_27 : decode cX10_init 27 = .ok (.aload_n 0, 1) := by decide +kernel
theorem dX10_init_28 : decode cX10_init 28 = .ok (.new 25, 3) := by decide +kernel
theorem dX10_init_31 : decode cX10_init 31 = .ok (.dup, 1) := by decide +kernel
theorem dX10_init_32 : decode cX10_init 32 = .ok (.invokespecial 27, 3) := by decide +kernel
theorem dX10_init_35 : decode cX10_init 35 = .ok (.putfield 28, 3) := by decide +kernel
theorem dX10_init_38 : decode cX10_init 38 = .ok (.aload_n 0, 1) := by decide +kernel
theorem dX10_init_39 : decode cX10_init 39 = .ok (.new 32, 3) := by decide +kernel
theorem dX10_init_42 : decode cX10_init 42 = .ok (.dup, 1) := by decide +kernel
theorem dX10_init_43 : decode cX10_init 43 = .ok (.invokespecial 34, 3) := by decide +kernel
theorem dX10_init_46 : decode cX10_init 46 = .ok (.putfield 35, 3) := by decide +kernel
theorem dX10_init_49 : decode cX10_init 49 = .ok (.aload_n 0, 1) := by decide +kernel
theorem dX10_init_50 : decode cX10_init 50 = .ok (.new 39, 3) := by decide +kernel
theorem dX10_init_53 : decode cX10_init 53 = .ok (.dup, 1) := by decide +kernel
theorem dX10_init_54 : decode cX10_init 54 = .ok (.invokespecial 41, 3) := by decide +kernel
theorem dX10_init_57 : decode cX10_init 57 = .ok (.putfield 42, 3) := by decide +kernel
theorem dX10_init_60 : decode cX10_init 60 = .ok (.aload_n 0, 1) := by decide +kernel
theorem dX10_init_61 : decode cX10_init 61 = .ok (.new 46, 3) := by decide +kernel
theorem dX10_init_64 : decode cX10_init 64 = .ok (.dup, 1) := by decide +kernel
theorem dX10_init_65 : decode cX10_init 65 = .ok (.invokespecial 48, 3) := by decide +kernel
theorem dX10_init_68 : decode cX10_init 68 = .ok (.putfield 49, 3) := by decide +kernel
theorem dX10_init_71 : decode cX10_init 71 = .ok (.aload_n 0, 1) := by decide +kernel
theorem dX10_init_72 : decode cX10_init 72 = .ok (.new 53, 3) := by decide +kernel
theorem dX10_init_75 : decode cX10_init 75 = .ok (.dup, 1) := by decide +kernel
theorem dX10_init_76 : decode cX10_init 76 = .ok (.invokespecial 55, 3) := by decide +kernel
theorem dX10_init_79 : decode cX10_init 79 = .ok (.putfield 56, 3) := by decide +kernel
theorem dX10_init_82 : decode cX10_init 82 = .ok (.aload_n 0, 1) := by decide +kernel
theorem dX10_init_83 : decode cX10_init 83 = .ok (.new 60, 3) := by decide +kernel
theorem dX10_init_86 : decode cX10_init 86 = .ok (.dup, 1) := by decide +kernel
theorem dX10_init_87 : decode cX10_init 87 = .ok (.invokespecial 62, 3) := by decide +kernel
theorem dX10_init_90 : decode cX10_init 90 = .ok (.putfield 63, 3) := by decide +kernel
theorem dX10_init_93 : decode cX10_init 93 = .ok (.iconst 0, 1) := by decide +kernel
theorem dX10_init_94 : decode cX10_init 94 = .ok (.istore_n 1, 1) := by decide +kernel
theorem dX10_init_95 : decode cX10_init 95 = .ok (.iload_n 1, 1) := by decide +kernel
theorem dX10_init_96 : decode cX10_init 96 = .ok (.aload_n 0, 1) := by decide +kernel
theorem dX10_init_97 : decode cX10_init 97 = .ok (.getfield 11, 3) := by decide +kernel
theorem dX10_init_100 : decode cX10_init 100 = .ok (.arraylength, 1) := by decide +kernel
theorem dX10_init_101 : decode cX10_init 101 = .ok (.if_icmp .ge 22, 3) := by decide +kernel
theorem dX10_init_104 : decode cX10_init 104 = .ok (.aload_n 0, 1) := by decide +kernel
theorem dX10_init_105 : decode cX10_init 105 = .ok (.getfield 11, 3) := by decide +kernel
theorem dX10_init_108 : decode cX10_init 108 = .ok (.iload_n 1, 1) := by decide +kernel
theorem dX10_init_109 : decode cX10_init 109 = .ok (.new 9, 3) := by decide +kernel
theorem dX10_init_112 : decode cX10_init 112 = .ok (.dup, 1) := by decide +kernel
theorem dX10_init_113 : decode cX10_init 113 = .ok (.invokespecial 67, 3) := by decide +kernel
theorem dX10_init_116 : decode cX10_init 116 = .ok (.aastore, 1) := by decide +kernel
theorem dX10_init_117 : decode cX10_init 117 = .ok (.iinc 1 1, 3) := by decide +kernel
theorem dX10_init_120 : decode cX10_init 120 = .ok (.goto (-25), 3) := by decide +kernel
theorem dX10_init_123 : decode cX10_init 123 = .ok (.iconst 0, 1) := by decide +kernel
theorem dX10_init_124 : decode cX10_init 124 = .ok (.istore_n 1, 1) := by decide +kernel
theorem dX10_init_125 : decode cX10_init 125 = .ok (.iload_n 1, 1) := by decide +kernel
theorem dX10_init_126 : decode cX10_init 126 = .ok (.aload_n 0, 1) := by decide +kernel
theorem dX10_init_127 : decode cX10_init 127 = .ok (.getfield 17, 3) := by decide +kernel
theorem dX10_init_130 : decode cX10_init 130 = .ok (.arraylength, 1) := by decide +kernel
theorem dX10_init_131 : decode cX10_init 131 = .ok (.if_icmp .ge 22, 3) := by decide +kernel
theorem dX10_init_134 : decode cX10_init 134 = .ok (.aload_n 0, 1) := by decide +kernel
theorem dX10_init_135 : decode cX10_init 135 = .ok (.getfield 17, 3) := by decide +kernel
theorem dX10_init_138 : decode cX10_init 138 = .ok (.iload_n 1, 1) := by decide +kernel
theorem dX10_init_139 : decode cX10_init 139 = .ok (.new 15, 3) := by decide +kernel
theorem dX10_init_142 : decode cX10_init 142 = .ok (.dup, 1) := by decide +kernel
theorem dX10_init_143 : decode cX10_init 143 = .ok (.invokespecial 68, 3) := by decide +kernel
theorem dX10_init_146 : decode cX10_init 146 = .ok (.aastore, 1) := by decide +kernel
theorem dX10_init_147 : decode cX10_init 147 = .ok (.iinc 1 1, 3) := by decide +kernel
theorem dX10_init_150 : decode cX10_init 150 = .ok (.goto (-25), 3) := by decide +kernel
theorem dX10_init_153 : decode cX10_init 153 = .ok (.return_, 1) := by decide +kernel
set_option maxRecDepth 20000 in
theorem ggX10_row_X10_isSlot : GoodIn wsX10_row wsX10_isSlot := goodIn_r _ [6, 7, 8, 9, 5, 10] (by decide +kernel) (by decide +kernel)
set_option maxRecDepth 20000 in
theorem gX10_row_X10_isSlot : GoodIn wsX10_row (va_wsS RX10 69 yX10_isSlot wsX10_isSlot) := goodIn_app (goodIn_of _ (by decide +kernel)) ggX10_row_X10_isSlot
set_option maxRecDepth 20000 in
theorem ggX10_row_X10_isWithin : GoodIn wsX10_row wsX10_isWithin := goodIn_r _ [10] (by decide +kernel) (by decide +kernel)
set_option maxRecDepth 20000 in
theorem gX10_row_X10_isWithin : GoodIn wsX10_row (va_wsS RX10 75 yX10_isWithin wsX10_isWithin) := goodIn_app (goodIn_of _ (by decide +kernel)) ggX10_row_X10_isWithin
set_option maxRecDepth 20000 in
theorem ggX10_row_X9_lay : GoodIn wsX10_row wsX9_lay := goodIn_r _ [15, 16, 17, 18, 19, 20, 21, 22, 23, 24, 25, 26, 36, 37, 38] (by decide +kernel) (by decide +kernel)
set_option maxRecDepth 20000 in
theorem gX10_row_X9_lay : GoodIn wsX10_row (wsV RX10 79 RX9 yX9_lay wsX9_lay) := goodIn_app (goodIn_of _ (by decide +kernel)) ggX10_row_X9_lay
theorem dX10_row_0 : decode cX10_row 0 = .ok (.iload_n 1, 1) := by decide +kernel
theorem dX10_row_1 : decode cX10_row 1 = .ok (.invokestatic 69, 3) := by decide +kernel
theorem dX10_row_4 : decode cX10_row 4 = .ok (.ifCond .eq 21, 3) := by decide +kernel
theorem dX10_row_7 : decode cX10_row 7 = .ok (.iload_n 2, 1) := by decide +kernel
theorem dX10_row_8 : decode cX10_row 8 = .ok (.i2l, 1) := by decide +kernel
theorem dX10_row_9 : decode cX10_row 9 = .ok (.lconst 0, 1) := by decide +kernel
theorem dX10_row_10 : decode cX10_row 10 = .ok (.ldc2_w 73, 3) := by decide +kernel
theorem dX10_row_13 : decode cX10_row 13 = .ok (.invokestatic 75, 3) := by decide +kernel
theorem dX10_row_16 : decode cX10_row 16 = .ok (.ifCond .eq 9, 3) := by decide +kernel
theorem dX10_row_19 : decode cX10_row 19 = .ok (.iload_n 3, 1) := by decide +kernel
theorem dX10_row_20 : decode cX10_row 20 = .ok (.bipush 40, 2) := by decide +kernel
theorem dX10_row_22 : decode cX10_row 22 = .ok (.if_icmp .le 6, 3) := by decide +kernel
theorem dX10_row_25 : decode cX10_row 25 = .ok (.bipush (-2), 2) := by decide +kernel
theorem dX10_row_27 : decode cX10_row 27 = .ok (.ireturn, 1) := by decide +kernel
theorem dX10_row_28 : decode cX10_row 28 = .ok (.iload_n 3, 1) := by decide +kernel
theorem dX10_row_29 : decode cX10_row 29 = .ok (.ifCond .ge 6, 3) := by decide +kernel
theorem dX10_row_32 : decode cX10_row 32 = .ok (.bipush (-3), 2) := by decide +kernel
theorem dX10_row_34 : decode cX10_row 34 = .ok (.ireturn, 1) := by decide +kernel
theorem dX10_row_35 : decode cX10_row 35 = .ok (.aload_n 0, 1) := by decide +kernel
theorem dX10_row_36 : decode cX10_row 36 = .ok (.getfield 11, 3) := by decide +kernel
theorem dX10_row_39 : decode cX10_row 39 = .ok (.iload_n 1, 1) := by decide +kernel
theorem dX10_row_40 : decode cX10_row 40 = .ok (.aaload, 1) := by decide +kernel
theorem dX10_row_41 : decode cX10_row 41 = .ok (.iload_n 2, 1) := by decide +kernel
theorem dX10_row_42 : decode cX10_row 42 = .ok (.iload_n 3, 1) := by decide +kernel
theorem dX10_row_43 : decode cX10_row 43 = .ok (.invokevirtual 79, 3) := by decide +kernel
theorem dX10_row_46 : decode cX10_row 46 = .ok (.iconst 0, 1) := by decide +kernel
theorem dX10_row_47 : decode cX10_row 47 = .ok (.ireturn, 1) := by decide +kernel
set_option maxRecDepth 20000 in
theorem ggX10_tear_X10_isSlot : GoodIn wsX10_tear wsX10_isSlot := goodIn_r _ [5, 6, 7, 8, 4, 9] (by decide +kernel) (by decide +kernel)
set_option maxRecDepth 20000 in
theorem gX10_tear_X10_isSlot : GoodIn wsX10_tear (va_wsS RX10 69 yX10_isSlot wsX10_isSlot) := goodIn_app (goodIn_of _ (by decide +kernel)) ggX10_tear_X10_isSlot
set_option maxRecDepth 20000 in
theorem ggX10_tear_X9_isThere : GoodIn wsX10_tear wsX9_isThere := goodIn_r _ [14, 15, 29, 30, 31] (by decide +kernel) (by decide +kernel)
set_option maxRecDepth 20000 in
theorem gX10_tear_X9_isThere : GoodIn wsX10_tear (wsV RX10 83 RX9 yX9_isThere wsX9_isThere) := goodIn_app (goodIn_of _ (by decide +kernel)) ggX10_tear_X9_isThere
set_option maxRecDepth 20000 in
theorem ggX10_tear_X9_remove : GoodIn wsX10_tear wsX9_remove := goodIn_r _ [19, 15, 29, 30, 31] (by decide +kernel) (by decide +kernel)
set_option maxRecDepth 20000 in
theorem gX10_tear_X9_remove : GoodIn wsX10_tear (wsV RX10 87 RX9 yX9_remove wsX9_remove) := goodIn_app (goodIn_of _ (by decide +kernel)) ggX10_tear_X9_remove
theorem dX10_tear_0 : decode cX10_tear 0 = .ok (.iload_n 1, 1) := by decide +kernel
theorem dX10_tear_1 : decode cX10_tear 1 = .ok (.invokestatic 69, 3) := by decide +kernel
theorem dX10_tear_4 : decode cX10_tear 4 = .ok (.ifCond .eq 15, 3) := by decide +kernel
theorem dX10_tear_7 : decode cX10_tear 7 = .ok (.aload_n 0, 1) := by decide +kernel
theorem dX10_tear_8 : decode cX10_tear 8 = .ok (.getfield 11, 3) := by decide +kernel
theorem dX10_tear_11 : decode cX10_tear 11 = .ok (.iload_n 1, 1) := by decide +kernel
theorem dX10_tear_12 : decode cX10_tear 12 = .ok (.aaload, 1) := by decide +kernel
theorem dX10_tear_13 : decode cX10_tear 13 = .ok (.invokevirtual 83, 3) := by decide +kernel
theorem dX10_tear_16 : decode cX10_tear 16 = .ok (.ifCond .ne 5, 3) := by decide +kernel
theorem dX10_tear_19 : decode cX10_tear 19 = .ok (.iconst 0, 1) := by decide +kernel
theorem dX10_tear_20 : decode cX10_tear 20 = .ok (.ireturn, 1) := by decide +kernel
theorem dX10_tear_21 : decode cX10_tear 21 = .ok (.aload_n 0, 1) := by decide +kernel
theorem dX10_tear_22 : decode cX10_tear 22 = .ok (.getfield 11, 3) := by decide +kernel
theorem dX10_tear_25 : decode cX10_tear 25 = .ok (.iload_n 1, 1) := by decide +kernel
theorem dX10_tear_26 : decode cX10_tear 26 = .ok (.aaload, 1) := by decide +kernel
theorem dX10_tear_27 : decode cX10_tear 27 = .ok (.invokevirtual 87, 3) := by decide +kernel
theorem dX10_tear_30 : decode cX10_tear 30 = .ok (.iconst 1, 1) := by decide +kernel
theorem dX10_tear_31 : decode cX10_tear 31 = .ok (.ireturn, 1) := by decide +kernel
set_option maxRecDepth 20000 in
theorem ggX10_write_X10_isSlot : GoodIn wsX10_write wsX10_isSlot := goodIn_r _ [5, 6, 7, 8, 4, 9] (by decide +kernel) (by decide +kernel)
set_option maxRecDepth 20000 in
theorem gX10_write_X10_isSlot : GoodIn wsX10_write (va_wsS RX10 69 yX10_isSlot wsX10_isSlot) := goodIn_app (goodIn_of _ (by decide +kernel)) ggX10_write_X10_isSlot
set_option maxRecDepth 20000 in
theorem ggX10_write_X9_isThere : GoodIn wsX10_write wsX9_isThere := goodIn_r _ [14, 15, 35, 36, 37] (by decide +kernel) (by decide +kernel)
set_option maxRecDepth 20000 in
theorem gX10_write_X9_isThere : GoodIn wsX10_write (wsV RX10 83 RX9 yX9_isThere wsX9_isThere) := goodIn_app (goodIn_of _ (by decide +kernel)) ggX10_write_X9_isThere
set_option maxRecDepth 20000 in
theorem ggX10_write_X9_put : GoodIn wsX10_write wsX9_put := goodIn_r _ [19, 15, 20, 8, 4, 9, 21, 22, 23, 13, 24, 25, 35, 36, 37] (by decide +kernel) (by decide +kernel)
set_option maxRecDepth 20000 in
theorem gX10_write_X9_put : GoodIn wsX10_write (wsV RX10 90 RX9 yX9_put wsX9_put) := goodIn_app (goodIn_of _ (by decide +kernel)) ggX10_write_X9_put
theorem dX10_write_0 : decode cX10_write 0 = .ok (.iload_n 1, 1) := by decide +kernel
theorem dX10_write_1 : decode cX10_write 1 = .ok (.invokestatic 69, 3) := by decide +kernel
theorem dX10_write_4 : decode cX10_write 4 = .ok (.ifCond .ne 6, 3) := by decide +kernel
theorem dX10_write_7 : decode cX10_write 7 = .ok (.bipush (-2), 2) := by decide +kernel
theorem dX10_write_9 : decode cX10_write 9 = .ok (.ireturn, 1) := by decide +kernel
theorem dX10_write_10 : decode cX10_write 10 = .ok (.aload_n 0, 1) := by decide +kernel
theorem dX10_write_11 : decode cX10_write 11 = .ok (.getfield 11, 3) := by decide +kernel
theorem dX10_write_14 : decode cX10_write 14 = .ok (.iload_n 1, 1) := by decide +kernel
theorem dX10_write_15 : decode cX10_write 15 = .ok (.aaload, 1) := by decide +kernel
theorem dX10_write_16 : decode cX10_write 16 = .ok (.invokevirtual 83, 3) := by decide +kernel
theorem dX10_write_19 : decode cX10_write 19 = .ok (.ifCond .ne 6, 3) := by decide +kernel
theorem dX10_write_22 : decode cX10_write 22 = .ok (.bipush (-5), 2) := by decide +kernel
theorem dX10_write_24 : decode cX10_write 24 = .ok (.ireturn, 1) := by decide +kernel
theorem dX10_write_25 : decode cX10_write 25 = .ok (.aload_n 0, 1) := by decide +kernel
theorem dX10_write_26 : decode cX10_write 26 = .ok (.getfield 11, 3) := by decide +kernel
theorem dX10_write_29 : decode cX10_write 29 = .ok (.iload_n 1, 1) := by decide +kernel
theorem dX10_write_30 : decode cX10_write 30 = .ok (.aaload, 1) := by decide +kernel
theorem dX10_write_31 : decode cX10_write 31 = .ok (.iload_n 2, 1) := by decide +kernel
theorem dX10_write_32 : decode cX10_write 32 = .ok (.lload_n 3, 1) := by decide +kernel
theorem dX10_write_33 : decode cX10_write 33 = .ok (.invokevirtual 90, 3) := by decide +kernel
theorem dX10_write_36 : decode cX10_write 36 = .ok (.ifCond .eq 7, 3) := by decide +kernel
theorem dX10_write_39 : decode cX10_write 39 = .ok (.iconst 0, 1) := by decide +kernel
theorem dX10_write_40 : decode cX10_write 40 = .ok (.goto 5, 3) := by decide +kernel
theorem dX10_write_43 : decode cX10_write 43 = .ok (.bipush (-6), 2) := by decide +kernel
theorem dX10_write_45 : decode cX10_write 45 = .ok (.ireturn, 1) := by decide +kernel
set_option maxRecDepth 20000 in
theorem ggX10_book_X10_isSlot : GoodIn wsX10_book wsX10_isSlot := goodIn_r _ [7, 8, 9, 10, 6, 11] (by decide +kernel) (by decide +kernel)
set_option maxRecDepth 20000 in
theorem gX10_book_X10_isSlot : GoodIn wsX10_book (va_wsS RX10 69 yX10_isSlot wsX10_isSlot) := goodIn_app (goodIn_of _ (by decide +kernel)) ggX10_book_X10_isSlot
set_option maxRecDepth 20000 in
theorem ggX10_book_X9_isThere : GoodIn wsX10_book wsX9_isThere := goodIn_r _ [16, 17, 45, 46, 47] (by decide +kernel) (by decide +kernel)
set_option maxRecDepth 20000 in
theorem gX10_book_X9_isThere : GoodIn wsX10_book (wsV RX10 83 RX9 yX9_isThere wsX9_isThere) := goodIn_app (goodIn_of _ (by decide +kernel)) ggX10_book_X9_isThere
set_option maxRecDepth 20000 in
theorem ggX10_book_X0_readFrom : GoodIn wsX10_book wsX0_readFrom := goodIn_r _ [22, 23, 24, 25, 26, 27, 15, 28, 17, 29, 10, 6, 11, 30, 31, 32, 21, 33, 34, 35, 48, 49, 50, 51, 45, 46, 47] (by decide +kernel) (by decide +kernel)
set_option maxRecDepth 20000 in
theorem gX10_book_X0_readFrom : GoodIn wsX10_book (wsV RX10 94 RX0 yX0_readFrom wsX0_readFrom) := goodIn_app (goodIn_of _ (by decide +kernel)) ggX10_book_X0_readFrom
theorem dX10_book_0 : decode cX10_book 0 = .ok (.iload_n 1, 1) := by decide +kernel
theorem dX10_book_1 : decode cX10_book 1 = .ok (.invokestatic 69, 3) := by decide +kernel
theorem dX10_book_4 : decode cX10_book 4 = .ok (.ifCond .ne 6, 3) := by decide +kernel
theorem dX10_book_7 : decode cX10_book 7 = .ok (.bipush (-2), 2) := by decide +kernel
theorem dX10_book_9 : decode cX10_book 9 = .ok (.ireturn, 1) := by decide +kernel
theorem dX10_book_10 : decode cX10_book 10 = .ok (.aload_n 0, 1) := by decide +kernel
theorem dX10_book_11 : decode cX10_book 11 = .ok (.getfield 21, 3) := by decide +kernel
theorem dX10_book_14 : decode cX10_book 14 = .ok (.bipush 16, 2) := by decide +kernel
theorem dX10_book_16 : decode cX10_book 16 = .ok (.if_icmp .lt 6, 3) := by decide +kernel
theorem dX10_book_19 : decode cX10_book 19 = .ok (.bipush (-8), 2) := by decide +kernel
theorem dX10_book_21 : decode cX10_book 21 = .ok (.ireturn, 1) := by decide +kernel
theorem dX10_book_22 : decode cX10_book 22 = .ok (.aload_n 0, 1) := by decide +kernel
theorem dX10_book_23 : decode cX10_book 23 = .ok (.getfield 11, 3) := by decide +kernel
theorem dX10_book_26 : decode cX10_book 26 = .ok (.iload_n 1, 1) := by decide +kernel
theorem dX10_book_27 : decode cX10_book 27 = .ok (.aaload, 1) := by decide +kernel
theorem dX10_book_28 : decode cX10_book 28 = .ok (.invokevirtual 83, 3) := by decide +kernel
theorem dX10_book_31 : decode cX10_book 31 = .ok (.ifCond .ne 6, 3) := by decide +kernel
theorem dX10_book_34 : decode cX10_book 34 = .ok (.bipush (-5), 2) := by decide +kernel
theorem dX10_book_36 : decode cX10_book 36 = .ok (.ireturn, 1) := by decide +kernel
theorem dX10_book_37 : decode cX10_book 37 = .ok (.aload_n 0, 1) := by decide +kernel
theorem dX10_book_38 : decode cX10_book 38 = .ok (.getfield 17, 3) := by decide +kernel
theorem dX10_book_41 : decode cX10_book 41 = .ok (.aload_n 0, 1) := by decide +kernel
theorem dX10_book_42 : decode cX10_book 42 = .ok (.getfield 21, 3) := by decide +kernel
theorem dX10_book_45 : decode cX10_book 45 = .ok (.aaload, 1) := by decide +kernel
theorem dX10_book_46 : decode cX10_book 46 = .ok (.aload_n 0, 1) := by decide +kernel
theorem dX10_book_47 : decode cX10_book 47 = .ok (.getfield 11, 3) := by decide +kernel
theorem dX10_book_50 : decode cX10_book 50 = .ok (.iload_n 1, 1) := by decide +kernel
theorem dX10_book_51 : decode cX10_book 51 = .ok (.aaload, 1) := by decide +kernel
theorem dX10_book_52 : decode cX10_book 52 = .ok (.invokevirtual 94, 3) := by decide +kernel
theorem dX10_book_55 : decode cX10_book 55 = .ok (.istore_n 2, 1) := by decide +kernel
theorem dX10_book_56 : decode cX10_book 56 = .ok (.iload_n 2, 1) := by decide +kernel
theorem dX10_book_57 : decode cX10_book 57 = .ok (.ifCond .eq 5, 3) := by decide +kernel
theorem dX10_book_60 : decode cX10_book 60 = .ok (.iload_n 2, 1) := by decide +kernel
theorem dX10_book_61 : decode cX10_book 61 = .ok (.ireturn, 1) := by decide +kernel
theorem dX10_book_62 : decode cX10_book 62 = .ok (.aload_n 0, 1) := by decide +kernel
theorem dX10_book_63 : decode cX10_book 63 = .ok (.dup, 1) := by decide +kernel
theorem dX10_book_64 : decode cX10_book 64 = .ok (.getfield 21, 3) := by decide +kernel
theorem dX10_book_67 : decode cX10_book 67 = .ok (.iconst 1, 1) := by decide +kernel
theorem dX10_book_68 : decode cX10_book 68 = .ok (.iadd, 1) := by decide +kernel
theorem dX10_book_69 : decode cX10_book 69 = .ok (.putfield 21, 3) := by decide +kernel
theorem dX10_book_72 : decode cX10_book 72 = .ok (.aload_n 0, 1) := by decide +kernel
theorem dX10_book_73 : decode cX10_book 73 = .ok (.getfield 21, 3) := by decide +kernel
theorem dX10_book_76 : decode cX10_book 76 = .ok (.iconst 1, 1) := by decide +kernel
theorem dX10_book_77 : decode cX10_book 77 = .ok (.isub, 1) := by decide +kernel
theorem dX10_book_78 : decode cX10_book 78 = .ok (.ireturn, 1) := by decide +kernel
set_option maxRecDepth 20000 in
theorem ggX10_comer_X10_isBook : GoodIn wsX10_comer wsX10_isBook := goodIn_r _ [7, 8, 9, 10, 6, 11, 30, 31, 32, 33, 34, 35, 36, 37, 38] (by decide +kernel) (by decide +kernel)
set_option maxRecDepth 20000 in
theorem gX10_comer_X10_isBook : GoodIn wsX10_comer (wsV RX10 98 RX10 yX10_isBook wsX10_isBook) := goodIn_app (goodIn_of _ (by decide +kernel)) ggX10_comer_X10_isBook
set_option maxRecDepth 20000 in
theorem ggX10_comer_X2_join : GoodIn wsX10_comer wsX2_join := goodIn_r _ [16, 17, 18, 19, 20, 21, 22, 23, 24, 25, 26, 27, 28, 29, 39, 40, 41, 42, 43, 44, 45, 46, 47, 48, 49, 50, 51] (by decide +kernel) (by decide +kernel)
set_option maxRecDepth 20000 in
theorem gX10_comer_X2_join : GoodIn wsX10_comer (wsV RX10 101 RX2 yX2_join wsX2_join) := goodIn_app (goodIn_of _ (by decide +kernel)) ggX10_comer_X2_join
theorem dX10_comer_0 : decode cX10_comer 0 = .ok (.aload_n 0, 1) := by decide +kernel
theorem dX10_comer_1 : decode cX10_comer 1 = .ok (.iload_n 1, 1) := by decide +kernel
theorem dX10_comer_2 : decode cX10_comer 2 = .ok (.invokevirtual 98, 3) := by decide +kernel
theorem dX10_comer_5 : decode cX10_comer 5 = .ok (.ifCond .ne 6, 3) := by decide +kernel
theorem dX10_comer_8 : decode cX10_comer 8 = .ok (.bipush (-2), 2) := by decide +kernel
theorem dX10_comer_10 : decode cX10_comer 10 = .ok (.ireturn, 1) := by decide +kernel
theorem dX10_comer_11 : decode cX10_comer 11 = .ok (.aload_n 0, 1) := by decide +kernel
theorem dX10_comer_12 : decode cX10_comer 12 = .ok (.getfield 35, 3) := by decide +kernel
theorem dX10_comer_15 : decode cX10_comer 15 = .ok (.aload_n 0, 1) := by decide +kernel
theorem dX10_comer_16 : decode cX10_comer 16 = .ok (.getfield 17, 3) := by decide +kernel
theorem dX10_comer_19 : decode cX10_comer 19 = .ok (.iload_n 1, 1) := by decide +kernel
theorem dX10_comer_20 : decode cX10_comer 20 = .ok (.aaload, 1) := by decide +kernel
theorem dX10_comer_21 : decode cX10_comer 21 = .ok (.invokevirtual 101, 3) := by decide +kernel
theorem dX10_comer_24 : decode cX10_comer 24 = .ok (.ireturn, 1) := by decide +kernel
set_option maxRecDepth 20000 in
theorem ggX10_dismiss_X2_clear : GoodIn wsX10_dismiss wsX2_clear := goodIn_r _ [6, 7, 8, 9, 10, 11, 12, 13, 14, 15, 16, 17, 27, 28, 29, 30, 31, 32, 33, 34, 35, 36, 37, 38, 39] (by decide +kernel) (by decide +kernel)
set_option maxRecDepth 20000 in
theorem gX10_dismiss_X2_clear : GoodIn wsX10_dismiss (wsV RX10 105 RX2 yX2_clear wsX2_clear) := goodIn_app (goodIn_of _ (by decide +kernel)) ggX10_dismiss_X2_clear
theorem dX10_dismiss_0 : decode cX10_dismiss 0 = .ok (.aload_n 0, 1) := by decide +kernel
theorem dX10_dismiss_1 : decode cX10_dismiss 1 = .ok (.getfield 35, 3) := by decide +kernel
theorem dX10_dismiss_4 : decode cX10_dismiss 4 = .ok (.invokevirtual 105, 3) := by decide +kernel
theorem dX10_dismiss_7 : decode cX10_dismiss 7 = .ok (.ireturn, 1) := by decide +kernel
set_option maxRecDepth 20000 in
theorem ggX10_tell_X2_size : GoodIn wsX10_tell wsX2_size := goodIn_r _ [7, 8, 9, 10, 11, 12, 13, 14, 34, 35, 36, 37, 38, 39, 40, 41, 42, 43, 44, 45, 46] (by decide +kernel) (by decide +kernel)
set_option maxRecDepth 20000 in
theorem gX10_tell_X2_size : GoodIn wsX10_tell (wsV RX10 109 RX2 yX2_size wsX2_size) := goodIn_app (goodIn_of _ (by decide +kernel)) ggX10_tell_X2_size
set_option maxRecDepth 20000 in
theorem ggX10_tell_X10_isWithin : GoodIn wsX10_tell wsX10_isWithin := goodIn_r _ [18] (by decide +kernel) (by decide +kernel)
set_option maxRecDepth 20000 in
theorem gX10_tell_X10_isWithin : GoodIn wsX10_tell (va_wsS RX10 75 yX10_isWithin wsX10_isWithin) := goodIn_app (goodIn_of _ (by decide +kernel)) ggX10_tell_X10_isWithin
set_option maxRecDepth 20000 in
theorem ggX10_tell_X2_setBar : GoodIn wsX10_tell wsX2_setBar := goodIn_r _ [22, 23, 24, 16, 17, 18, 34, 35, 36, 37, 38, 39, 40, 41, 42, 43] (by decide +kernel) (by decide +kernel)
set_option maxRecDepth 20000 in
theorem gX10_tell_X2_setBar : GoodIn wsX10_tell (wsV RX10 114 RX2 yX2_setBar wsX2_setBar) := goodIn_app (goodIn_of _ (by decide +kernel)) ggX10_tell_X2_setBar
theorem dX10_tell_0 : decode cX10_tell 0 = .ok (.iload_n 1, 1) := by decide +kernel
theorem dX10_tell_1 : decode cX10_tell 1 = .ok (.i2l, 1) := by decide +kernel
theorem dX10_tell_2 : decode cX10_tell 2 = .ok (.lconst 0, 1) := by decide +kernel
theorem dX10_tell_3 : decode cX10_tell 3 = .ok (.aload_n 0, 1) := by decide +kernel
theorem dX10_tell_4 : decode cX10_tell 4 = .ok (.getfield 35, 3) := by decide +kernel
theorem dX10_tell_7 : decode cX10_tell 7 = .ok (.invokevirtual 109, 3) := by decide +kernel
theorem dX10_tell_10 : decode cX10_tell 10 = .ok (.iconst 1, 1) := by decide +kernel
theorem dX10_tell_11 : decode cX10_tell 11 = .ok (.isub, 1) := by decide +kernel
theorem dX10_tell_12 : decode cX10_tell 12 = .ok (.i2l, 1) := by decide +kernel
theorem dX10_tell_13 : decode cX10_tell 13 = .ok (.invokestatic 75, 3) := by decide +kernel
theorem dX10_tell_16 : decode cX10_tell 16 = .ok (.ifCond .eq 15, 3) := by decide +kernel
theorem dX10_tell_19 : decode cX10_tell 19 = .ok (.iload_n 2, 1) := by decide +kernel
theorem dX10_tell_20 : decode cX10_tell 20 = .ok (.i2l, 1) := by decide +kernel
theorem dX10_tell_21 : decode cX10_tell 21 = .ok (.lconst 0, 1) := by decide +kernel
theorem dX10_tell_22 : decode cX10_tell 22 = .ok (.ldc2_w 112, 3) := by decide +kernel
theorem dX10_tell_25 : decode cX10_tell 25 = .ok (.invokestatic 75, 3) := by decide +kernel
theorem dX10_tell_28 : decode cX10_tell 28 = .ok (.ifCond .ne 5, 3) := by decide +kernel
theorem dX10_tell_31 : decode cX10_tell 31 = .ok (.iconst 0, 1) := by decide +kernel
theorem dX10_tell_32 : decode cX10_tell 32 = .ok (.ireturn, 1) := by decide +kernel
theorem dX10_tell_33 : decode cX10_tell 33 = .ok (.aload_n 0, 1) := by decide +kernel
theorem dX10_tell_34 : decode cX10_tell 34 = .ok (.getfield 35, 3) := by decide +kernel
theorem dX10_tell_37 : decode cX10_tell 37 = .ok (.iload_n 1, 1) := by decide +kernel
theorem dX10_tell_38 : decode cX10_tell 38 = .ok (.iload_n 2, 1) := by decide +kernel
theorem dX10_tell_39 : decode cX10_tell 39 = .ok (.invokevirtual 114, 3) := by decide +kernel
theorem dX10_tell_42 : decode cX10_tell 42 = .ok (.iconst 1, 1) := by decide +kernel
theorem dX10_tell_43 : decode cX10_tell 43 = .ok (.ireturn, 1) := by decide +kernel
set_option maxRecDepth 20000 in
theorem ggX10_told_X2_followTold : GoodIn wsX10_told wsX2_followTold := goodIn_r _ [7, 8, 9, 10, 11, 12, 13, 6, 14, 15, 16, 17, 18, 19, 20, 21, 22, 23, 24, 25, 26, 27, 28, 29, 30, 31, 32, 33, 34, 35, 36, 37, 38, 39, 40, 41, 42, 43, 44, 45, 46, 47, 48, 49, 50, 51, 52, 53, 54, 55, 56, 57, 58, 59, 60, 61, 62, 63, 64, 65, 66, 67, 68, 69, 70, 71, 72, 73, 74, 75, 76, 77, 78, 79, 80, 81, 82, 83, 84, 85, 86, 87, 88, 89, 90, 91, 92, 93, 94, 95, 96, 97, 98, 99, 100, 101, 102, 103, 104, 105, 106, 107, 108, 109, 110, 111, 112, 113, 114, 115, 116, 126, 127, 128, 129, 130, 131, 132, 133, 134, 135, 136, 137, 138, 139, 140, 141, 142, 143, 144, 145, 146, 147, 148] (by decide +kernel) (by decide +kernel)
set_option maxRecDepth 20000 in
theorem gX10_told_X2_followTold : GoodIn wsX10_told (wsV RX10 117 RX2 yX2_followTold wsX2_followTold) := goodIn_app (goodIn_of _ (by decide +kernel)) ggX10_told_X2_followTold
theorem dX10_told_0 : decode cX10_told 0 = .ok (.aload_n 0, 1) := by decide +kernel
theorem dX10_told_1 : decode cX10_told 1 = .ok (.getfield 35, 3) := by decide +kernel
theorem dX10_told_4 : decode cX10_told 4 = .ok (.aload_n 0, 1) := by decide +kernel
theorem dX10_told_5 : decode cX10_told 5 = .ok (.getfield 28, 3) := by decide +kernel
theorem dX10_told_8 : decode cX10_told 8 = .ok (.invokevirtual 117, 3) := by decide +kernel
theorem dX10_told_11 : decode cX10_told 11 = .ok (.return_, 1) := by decide +kernel
set_option maxRecDepth 20000 in
theorem ggX10_best_X2_chooseUpTo : GoodIn wsX10_best wsX2_chooseUpTo := goodIn_r _ [7, 8, 9, 10, 11, 12, 13, 6, 14, 15, 16, 17, 18, 19, 20, 21, 22, 23, 24, 25, 26, 27, 28, 29, 30, 31, 32, 33, 34, 35, 36, 37, 38, 39, 40, 41, 42, 43, 44, 45, 46, 47, 48, 49, 50, 51, 52, 53, 54, 55, 56, 57, 58, 59, 60, 61, 62, 63, 64, 65, 66, 67, 68, 69, 70, 71, 72, 73, 74, 75, 76, 77, 78, 79, 80, 81, 82, 83, 84, 85, 86, 87, 88, 89, 90, 91, 92, 93, 94, 95, 96, 97, 98, 99, 100, 101, 102, 103, 104, 105, 106, 107, 108, 109, 110, 111, 112, 113, 114, 115, 116, 117, 118, 119, 120, 121, 122, 123, 124, 125, 126, 127, 128, 129, 130, 131, 132, 133, 134, 135, 136, 137, 138, 139, 149, 150, 151, 152, 153, 154, 155, 156, 157, 158, 159, 160, 161, 162, 163, 164, 165, 166, 167, 168, 169, 170, 171] (by decide +kernel) (by decide +kernel)
set_option maxRecDepth 20000 in
theorem gX10_best_X2_chooseUpTo : GoodIn wsX10_best (wsV RX10 121 RX2 yX2_chooseUpTo wsX2_chooseUpTo) := goodIn_app (goodIn_of _ (by decide +kernel)) ggX10_best_X2_chooseUpTo
theorem dX10_best_0 : decode cX10_best 0 = .ok (.aload_n 0, 1) := by decide +kernel
theorem dX10_best_1 : decode cX10_best 1 = .ok (.getfield 35, 3) := by decide +kernel
theorem dX10_best_4 : decode cX10_best 4 = .ok (.iconst 1, 1) := by decide +kernel
theorem dX10_best_5 : decode cX10_best 5 = .ok (.aload_n 0, 1) := by decide +kernel
theorem dX10_best_6 : decode cX10_best 6 = .ok (.getfield 28, 3) := by decide +kernel
theorem dX10_best_9 : decode cX10_best 9 = .ok (.invokevirtual 121, 3) := by decide +kernel
theorem dX10_best_12 : decode cX10_best 12 = .ok (.return_, 1) := by decide +kernel
set_option maxRecDepth 20000 in
theorem ggX10_bar_X2_size : GoodIn wsX10_bar wsX2_size := goodIn_r _ [6, 7, 8, 9, 10, 11, 12, 13, 113, 114, 115, 116, 117, 118, 119, 120, 121, 122, 123, 124, 125] (by decide +kernel) (by decide +kernel)
set_option maxRecDepth 20000 in
theorem gX10_bar_X2_size : GoodIn wsX10_bar (wsV RX10 109 RX2 yX2_size wsX2_size) := goodIn_app (goodIn_of _ (by decide +kernel)) ggX10_bar_X2_size
set_option maxRecDepth 20000 in
theorem ggX10_bar_X10_isWithin : GoodIn wsX10_bar wsX10_isWithin := goodIn_r _ [17] (by decide +kernel) (by decide +kernel)
set_option maxRecDepth 20000 in
theorem gX10_bar_X10_isWithin : GoodIn wsX10_bar (va_wsS RX10 75 yX10_isWithin wsX10_isWithin) := goodIn_app (goodIn_of _ (by decide +kernel)) ggX10_bar_X10_isWithin
set_option maxRecDepth 20000 in
theorem ggX10_bar_X2_bestBar : GoodIn wsX10_bar wsX2_bestBar := goodIn_r _ [21, 22, 23, 24, 25, 26, 5, 27, 28, 29, 7, 30, 31, 32, 33, 34, 35, 36, 37, 38, 39, 40, 41, 42, 43, 8, 9, 10, 11, 12, 13, 44, 45, 46, 47, 48, 49, 15, 16, 17, 50, 51, 52, 53, 54, 55, 56, 57, 58, 59, 60, 61, 62, 63, 64, 65, 66, 67, 68, 69, 70, 71, 72, 73, 74, 75, 76, 77, 78, 79, 80, 81, 82, 83, 84, 85, 86, 87, 88, 89, 90, 91, 92, 93, 94, 95, 96, 97, 98, 99, 100, 101, 102, 103, 113, 114, 115, 116, 117, 118, 119, 120, 121, 122, 126, 123, 124, 125, 127, 128, 129, 130] (by decide +kernel) (by decide +kernel)
set_option maxRecDepth 20000 in
theorem gX10_bar_X2_bestBar : GoodIn wsX10_bar (wsV RX10 125 RX2 yX2_bestBar wsX2_bestBar) := goodIn_app (goodIn_of _ (by decide +kernel)) ggX10_bar_X2_bestBar
theorem dX10_bar_0 : decode cX10_bar 0 = .ok (.iload_n 1, 1) := by decide +kernel
theorem dX10_bar_1 : decode cX10_bar 1 = .ok (.i2l, 1) := by decide +kernel
theorem dX10_bar_2 : decode cX10_bar 2 = .ok (.lconst 0, 1) := by decide +kernel
theorem dX10_bar_3 : decode cX10_bar 3 = .ok (.aload_n 0, 1) := by decide +kernel
theorem dX10_bar_4 : decode cX10_bar 4 = .ok (.getfield 35, 3) := by decide +kernel
theorem dX10_bar_7 : decode cX10_bar 7 = .ok (.invokevirtual 109, 3) := by decide +kernel
theorem dX10_bar_10 : decode cX10_bar 10 = .ok (.iconst 1, 1) := by decide +kernel
theorem dX10_bar_11 : decode cX10_bar 11 = .ok (.isub, 1) := by decide +kernel
theorem dX10_bar_12 : decode cX10_bar 12 = .ok (.i2l, 1) := by decide +kernel
theorem dX10_bar_13 : decode cX10_bar 13 = .ok (.invokestatic 75, 3) := by decide +kernel
theorem dX10_bar_16 : decode cX10_bar 16 = .ok (.ifCond .ne 5, 3) := by decide +kernel
theorem dX10_bar_19 : decode cX10_bar 19 = .ok (.iconst (-1), 1) := by decide +kernel
theorem dX10_bar_20 : decode cX10_bar 20 = .ok (.ireturn, 1) := by decide +kernel
theorem dX10_bar_21 : decode cX10_bar 21 = .ok (.aload_n 0, 1) := by decide +kernel
theorem dX10_bar_22 : decode cX10_bar 22 = .ok (.getfield 35, 3) := by decide +kernel
theorem dX10_bar_25 : decode cX10_bar 25 = .ok (.iload_n 1, 1) := by decide +kernel
theorem dX10_bar_26 : decode cX10_bar 26 = .ok (.invokevirtual 125, 3) := by decide +kernel
theorem dX10_bar_29 : decode cX10_bar 29 = .ok (.ireturn, 1) := by decide +kernel
set_option maxRecDepth 20000 in
theorem ggX10_few_X10_isWithin : GoodIn wsX10_few wsX10_isWithin := goodIn_r _ [7] (by decide +kernel) (by decide +kernel)
set_option maxRecDepth 20000 in
theorem gX10_few_X10_isWithin : GoodIn wsX10_few (va_wsS RX10 75 yX10_isWithin wsX10_isWithin) := goodIn_app (goodIn_of _ (by decide +kernel)) ggX10_few_X10_isWithin
set_option maxRecDepth 20000 in
theorem ggX10_few_X2_chooseUpTo : GoodIn wsX10_few wsX2_chooseUpTo := goodIn_r _ [12, 13, 14, 15, 16, 17, 18, 11, 19, 20, 21, 22, 23, 24, 25, 26, 27, 28, 29, 30, 31, 32, 33, 34, 35, 36, 37, 38, 39, 40, 41, 42, 43, 44, 45, 46, 47, 5, 6, 7, 48, 49, 50, 51, 52, 53, 54, 55, 56, 57, 58, 59, 60, 61, 62, 63, 64, 65, 66, 67, 68, 69, 70, 71, 72, 73, 74, 75, 76, 77, 78, 79, 80, 81, 82, 83, 84, 85, 86, 87, 88, 89, 90, 91, 92, 93, 94, 95, 96, 97, 98, 99, 100, 101, 102, 103, 104, 105, 106, 107, 108, 109, 110, 111, 112, 113, 114, 115, 116, 117, 118, 119, 120, 121, 122, 123, 124, 125, 126, 127, 128, 129, 130, 131, 132, 133, 134, 135, 136, 137, 138, 139, 140, 141, 151, 152, 153, 154, 155, 156, 157, 158, 159, 160, 161, 162, 163, 164, 165, 166, 167, 168, 169, 170, 171, 172, 173] (by decide +kernel) (by decide +kernel)
set_option maxRecDepth 20000 in
theorem gX10_few_X2_chooseUpTo : GoodIn wsX10_few (wsV RX10 121 RX2 yX2_chooseUpTo wsX2_chooseUpTo) := goodIn_app (goodIn_of _ (by decide +kernel)) ggX10_few_X2_chooseUpTo
theorem dX10_few_0 : decode cX10_few 0 = .ok (.iload_n 1, 1) := by decide +kernel
theorem dX10_few_1 : decode cX10_few 1 = .ok (.i2l, 1) := by decide +kernel
theorem dX10_few_2 : decode cX10_few 2 = .ok (.lconst 0, 1) := by decide +kernel
theorem dX10_few_3 : decode cX10_few 3 = .ok (.ldc2_w 129, 3) := by decide +kernel
theorem dX10_few_6 : decode cX10_few 6 = .ok (.invokestatic 75, 3) := by decide +kernel
theorem dX10_few_9 : decode cX10_few 9 = .ok (.ifCond .ne 5, 3) := by decide +kernel
theorem dX10_few_12 : decode cX10_few 12 = .ok (.iconst 0, 1) := by decide +kernel
theorem dX10_few_13 : decode cX10_few 13 = .ok (.ireturn, 1) := by decide +kernel
theorem dX10_few_14 : decode cX10_few 14 = .ok (.aload_n 0, 1) := by decide +kernel
theorem dX10_few_15 : decode cX10_few 15 = .ok (.getfield 35, 3) := by decide +kernel
theorem dX10_few_18 : decode cX10_few 18 = .ok (.iload_n 1, 1) := by decide +kernel
theorem dX10_few_19 : decode cX10_few 19 = .ok (.aload_n 0, 1) := by decide +kernel
theorem dX10_few_20 : decode cX10_few 20 = .ok (.getfield 28, 3) := by decide +kernel
theorem dX10_few_23 : decode cX10_few 23 = .ok (.invokevirtual 121, 3) := by decide +kernel
theorem dX10_few_26 : decode cX10_few 26 = .ok (.iconst 1, 1) := by decide +kernel
theorem dX10_few_27 : decode cX10_few 27 = .ok (.ireturn, 1) := by decide +kernel
set_option maxRecDepth 20000 in
theorem ggX10_foresight_X2_foreseeInto : GoodIn wsX10_foresight wsX2_foreseeInto := goodIn_r _ [7, 8, 9, 10, 11, 12, 6, 13, 14, 15, 16, 17, 18, 19, 20, 21, 22, 23, 24, 25, 26, 27, 28, 29, 30, 31, 32, 33, 34, 35, 36, 37, 38, 39, 40, 41, 42, 43, 44, 45, 46, 47, 48, 49, 50, 51, 52, 53, 54, 55, 56, 57, 58, 59, 60, 61, 62, 63, 64, 65, 66, 67, 68, 69, 70, 71, 72, 73, 74, 75, 76, 77, 78, 79, 80, 81, 82, 83, 84, 85, 86, 87, 88, 89, 90, 91, 92, 93, 94, 95, 96, 97, 98, 99, 100, 101, 102, 103, 104, 105, 106, 107, 108, 109, 110, 111, 112, 113, 114, 115, 116, 117, 118, 119, 120, 121, 122, 123, 124, 125, 126, 127, 128, 138, 139, 140, 141, 142, 143, 144, 145, 146, 147, 148, 149, 150, 151, 152, 153, 154, 155, 156, 157, 158, 159, 160] (by decide +kernel) (by decide +kernel)
set_option maxRecDepth 20000 in
theorem gX10_foresight_X2_foreseeInto : GoodIn wsX10_foresight (wsV RX10 131 RX2 yX2_foreseeInto wsX2_foreseeInto) := goodIn_app (goodIn_of _ (by decide +kernel)) ggX10_foresight_X2_foreseeInto
theorem dX10_foresight_0 : decode cX10_foresight 0 = .ok (.aload_n 0, 1) := by decide +kernel
theorem dX10_foresight_1 : decode cX10_foresight 1 = .ok (.getfield 35, 3) := by decide +kernel
theorem dX10_foresight_4 : decode cX10_foresight 4 = .ok (.aload_n 0, 1) := by decide +kernel
theorem dX10_foresight_5 : decode cX10_foresight 5 = .ok (.getfield 28, 3) := by decide +kernel
theorem dX10_foresight_8 : decode cX10_foresight 8 = .ok (.invokevirtual 131, 3) := by decide +kernel
theorem dX10_foresight_11 : decode cX10_foresight 11 = .ok (.return_, 1) := by decide +kernel
set_option maxRecDepth 20000 in
theorem ggX10_half_X2_lowestBarForHalf : GoodIn wsX10_half wsX2_lowestBarForHalf := goodIn_r _ [6, 7, 8, 9, 10, 11, 12, 13, 14, 5, 15, 16, 17, 18, 19, 20, 21, 22, 23, 24, 25, 26, 27, 28, 29, 30, 31, 32, 33, 34, 35, 36, 37, 38, 39, 40, 41, 42, 43, 44, 45, 46, 47, 48, 49, 50, 51, 52, 53, 54, 55, 56, 57, 58, 59, 60, 61, 62, 63, 64, 65, 66, 67, 68, 69, 70, 71, 72, 73, 74, 75, 76, 77, 78, 79, 80, 81, 82, 83, 84, 85, 86, 87, 88, 89, 90, 91, 92, 93, 94, 95, 96, 97, 98, 99, 100, 101, 102, 103, 104, 105, 106, 107, 108, 109, 110, 111, 112, 113, 114, 115, 116, 117, 118, 119, 120, 121, 122, 123, 133, 134, 135, 136, 137, 138, 139, 140, 141, 142, 143, 144, 145, 146, 147, 148, 149, 150] (by decide +kernel) (by decide +kernel)
set_option maxRecDepth 20000 in
theorem gX10_half_X2_lowestBarForHalf : GoodIn wsX10_half (wsV RX10 134 RX2 yX2_lowestBarForHalf wsX2_lowestBarForHalf) := goodIn_app (goodIn_of _ (by decide +kernel)) ggX10_half_X2_lowestBarForHalf
theorem dX10_half_0 : decode cX10_half 0 = .ok (.aload_n 0, 1) := by decide +kernel
theorem dX10_half_1 : decode cX10_half 1 = .ok (.getfield 35, 3) := by decide +kernel
theorem dX10_half_4 : decode cX10_half 4 = .ok (.invokevirtual 134, 3) := by decide +kernel
theorem dX10_half_7 : decode cX10_half 7 = .ok (.ireturn, 1) := by decide +kernel
set_option maxRecDepth 20000 in
theorem ggX10_letting_X10_isWithin : GoodIn wsX10_letting wsX10_isWithin := goodIn_r _ [7] (by decide +kernel) (by decide +kernel)
set_option maxRecDepth 20000 in
theorem gX10_letting_X10_isWithin : GoodIn wsX10_letting (va_wsS RX10 75 yX10_isWithin wsX10_isWithin) := goodIn_app (goodIn_of _ (by decide +kernel)) ggX10_letting_X10_isWithin
set_option maxRecDepth 20000 in
theorem ggX10_letting_X6_winLetting : GoodIn wsX10_letting wsX6_winLetting := goodIn_r _ [12, 13, 14, 15, 16, 17, 18, 19, 20, 21, 22, 23, 24, 25, 26, 27, 28, 29, 11, 30, 31, 32, 33, 34, 35, 36, 37, 38, 39, 40, 41, 42, 43, 44, 45, 46, 47, 48, 49, 50, 51, 52, 53, 54, 55, 56, 57, 58, 59, 60, 61, 62, 63, 64, 65, 66, 67, 68, 69, 70, 71, 72, 73, 74, 75, 76, 77, 78, 79, 80, 81, 82, 83, 93, 94, 95, 96, 97, 98, 99, 100, 101, 102, 103] (by decide +kernel) (by decide +kernel)
set_option maxRecDepth 20000 in
theorem gX10_letting_X6_winLetting : GoodIn wsX10_letting (wsV RX10 139 RX6 yX6_winLetting wsX6_winLetting) := goodIn_app (goodIn_of _ (by decide +kernel)) ggX10_letting_X6_winLetting
theorem dX10_letting_0 : decode cX10_letting 0 = .ok (.iload_n 1, 1) := by decide +kernel
theorem dX10_letting_1 : decode cX10_letting 1 = .ok (.i2l, 1) := by decide +kernel
theorem dX10_letting_2 : decode cX10_letting 2 = .ok (.lconst 1, 1) := by decide +kernel
theorem dX10_letting_3 : decode cX10_letting 3 = .ok (.ldc2_w 137, 3) := by decide +kernel
theorem dX10_letting_6 : decode cX10_letting 6 = .ok (.invokestatic 75, 3) := by decide +kernel
theorem dX10_letting_9 : decode cX10_letting 9 = .ok (.ifCond .eq 16, 3) := by decide +kernel
theorem dX10_letting_12 : decode cX10_letting 12 = .ok (.iload_n 2, 1) := by decide +kernel
theorem dX10_letting_13 : decode cX10_letting 13 = .ok (.i2l, 1) := by decide +kernel
theorem dX10_letting_14 : decode cX10_letting 14 = .ok (.lconst 0, 1) := by decide +kernel
theorem dX10_letting_15 : decode cX10_letting 15 = .ok (.iload_n 1, 1) := by decide +kernel
theorem dX10_letting_16 : decode cX10_letting 16 = .ok (.iconst 1, 1) := by decide +kernel
theorem dX10_letting_17 : decode cX10_letting 17 = .ok (.isub, 1) := by decide +kernel
theorem dX10_letting_18 : decode cX10_letting 18 = .ok (.i2l, 1) := by decide +kernel
theorem dX10_letting_19 : decode cX10_letting 19 = .ok (.invokestatic 75, 3) := by decide +kernel
theorem dX10_letting_22 : decode cX10_letting 22 = .ok (.ifCond .ne 5, 3) := by decide +kernel
theorem dX10_letting_25 : decode cX10_letting 25 = .ok (.iconst 0, 1) := by decide +kernel
theorem dX10_letting_26 : decode cX10_letting 26 = .ok (.ireturn, 1) := by decide +kernel
theorem dX10_letting_27 : decode cX10_letting 27 = .ok (.aload_n 0, 1) := by decide +kernel
theorem dX10_letting_28 : decode cX10_letting 28 = .ok (.getfield 42, 3) := by decide +kernel
theorem dX10_letting_31 : decode cX10_letting 31 = .ok (.iload_n 1, 1) := by decide +kernel
theorem dX10_letting_32 : decode cX10_letting 32 = .ok (.iload_n 2, 1) := by decide +kernel
theorem dX10_letting_33 : decode cX10_letting 33 = .ok (.aload_n 0, 1) := by decide +kernel
theorem dX10_letting_34 : decode cX10_letting 34 = .ok (.getfield 28, 3) := by decide +kernel
theorem dX10_letting_37 : decode cX10_letting 37 = .ok (.invokevirtual 139, 3) := by decide +kernel
theorem dX10_letting_40 : decode cX10_letting 40 = .ok (.iconst 1, 1) := by decide +kernel
theorem dX10_letting_41 : decode cX10_letting 41 = .ok (.ireturn, 1) := by decide +kernel
set_option maxRecDepth 20000 in
theorem ggX10_pass_X10_isWithin : GoodIn wsX10_pass wsX10_isWithin := goodIn_r _ [6] (by decide +kernel) (by decide +kernel)
set_option maxRecDepth 20000 in
theorem gX10_pass_X10_isWithin : GoodIn wsX10_pass (va_wsS RX10 75 yX10_isWithin wsX10_isWithin) := goodIn_app (goodIn_of _ (by decide +kernel)) ggX10_pass_X10_isWithin
set_option maxRecDepth 20000 in
theorem ggX10_pass_X6_bestToLet : GoodIn wsX10_pass wsX6_bestToLet := goodIn_r _ [11, 12, 13, 14, 15, 16, 17, 18, 19, 20, 21, 22, 23, 24, 25, 26, 27, 28, 10, 29, 30, 31, 32, 33, 34, 35, 36, 37, 38, 39, 40, 41, 42, 43, 44, 45, 46, 47, 48, 49, 50, 51, 52, 53, 54, 55, 56, 57, 58, 59, 69, 70, 71, 72, 73, 74] (by decide +kernel) (by decide +kernel)
set_option maxRecDepth 20000 in
theorem gX10_pass_X6_bestToLet : GoodIn wsX10_pass (wsV RX10 143 RX6 yX6_bestToLet wsX6_bestToLet) := goodIn_app (goodIn_of _ (by decide +kernel)) ggX10_pass_X6_bestToLet
theorem dX10_pass_0 : decode cX10_pass 0 = .ok (.iload_n 1, 1) := by decide +kernel
theorem dX10_pass_1 : decode cX10_pass 1 = .ok (.i2l, 1) := by decide +kernel
theorem dX10_pass_2 : decode cX10_pass 2 = .ok (.lconst 1, 1) := by decide +kernel
theorem dX10_pass_3 : decode cX10_pass 3 = .ok (.ldc2_w 137, 3) := by decide +kernel
theorem dX10_pass_6 : decode cX10_pass 6 = .ok (.invokestatic 75, 3) := by decide +kernel
theorem dX10_pass_9 : decode cX10_pass 9 = .ok (.ifCond .ne 5, 3) := by decide +kernel
theorem dX10_pass_12 : decode cX10_pass 12 = .ok (.iconst (-1), 1) := by decide +kernel
theorem dX10_pass_13 : decode cX10_pass 13 = .ok (.ireturn, 1) := by decide +kernel
theorem dX10_pass_14 : decode cX10_pass 14 = .ok (.aload_n 0, 1) := by decide +kernel
theorem dX10_pass_15 : decode cX10_pass 15 = .ok (.getfield 42, 3) := by decide +kernel
theorem dX10_pass_18 : decode cX10_pass 18 = .ok (.iload_n 1, 1) := by decide +kernel
theorem dX10_pass_19 : decode cX10_pass 19 = .ok (.invokevirtual 143, 3) := by decide +kernel
theorem dX10_pass_22 : decode cX10_pass 22 = .ok (.ireturn, 1) := by decide +kernel
set_option maxRecDepth 20000 in
theorem ggX10_pay_X10_isWithin : GoodIn wsX10_pay wsX10_isWithin := goodIn_r _ [7] (by decide +kernel) (by decide +kernel)
set_option maxRecDepth 20000 in
theorem gX10_pay_X10_isWithin : GoodIn wsX10_pay (va_wsS RX10 75 yX10_isWithin wsX10_isWithin) := goodIn_app (goodIn_of _ (by decide +kernel)) ggX10_pay_X10_isWithin
set_option maxRecDepth 20000 in
theorem ggX10_pay_X7_setPay : GoodIn wsX10_pay wsX7_setPay := goodIn_r _ [12, 13, 14, 5, 6, 7, 24, 25, 26, 27] (by decide +kernel) (by decide +kernel)
set_option maxRecDepth 20000 in
theorem gX10_pay_X7_setPay : GoodIn wsX10_pay (wsV RX10 150 RX7 yX7_setPay wsX7_setPay) := goodIn_app (goodIn_of _ (by decide +kernel)) ggX10_pay_X7_setPay
theorem dX10_pay_0 : decode cX10_pay 0 = .ok (.iload_n 1, 1) := by decide +kernel
theorem dX10_pay_1 : decode cX10_pay 1 = .ok (.i2l, 1) := by decide +kernel
theorem dX10_pay_2 : decode cX10_pay 2 = .ok (.lconst 1, 1) := by decide +kernel
theorem dX10_pay_3 : decode cX10_pay 3 = .ok (.ldc2_w 146, 3) := by decide +kernel
theorem dX10_pay_6 : decode cX10_pay 6 = .ok (.invokestatic 75, 3) := by decide +kernel
theorem dX10_pay_9 : decode cX10_pay 9 = .ok (.ifCond .eq 15, 3) := by decide +kernel
theorem dX10_pay_12 : decode cX10_pay 12 = .ok (.iload_n 2, 1) := by decide +kernel
theorem dX10_pay_13 : decode cX10_pay 13 = .ok (.i2l, 1) := by decide +kernel
theorem dX10_pay_14 : decode cX10_pay 14 = .ok (.lconst 0, 1) := by decide +kernel
theorem dX10_pay_15 : decode cX10_pay 15 = .ok (.ldc2_w 148, 3) := by decide +kernel
theorem dX10_pay_18 : decode cX10_pay 18 = .ok (.invokestatic 75, 3) := by decide +kernel
theorem dX10_pay_21 : decode cX10_pay 21 = .ok (.ifCond .ne 5, 3) := by decide +kernel
theorem dX10_pay_24 : decode cX10_pay 24 = .ok (.iconst 0, 1) := by decide +kernel
theorem dX10_pay_25 : decode cX10_pay 25 = .ok (.ireturn, 1) := by decide +kernel
theorem dX10_pay_26 : decode cX10_pay 26 = .ok (.aload_n 0, 1) := by decide +kernel
theorem dX10_pay_27 : decode cX10_pay 27 = .ok (.getfield 49, 3) := by decide +kernel
theorem dX10_pay_30 : decode cX10_pay 30 = .ok (.iload_n 1, 1) := by decide +kernel
theorem dX10_pay_31 : decode cX10_pay 31 = .ok (.iload_n 2, 1) := by decide +kernel
theorem dX10_pay_32 : decode cX10_pay 32 = .ok (.invokevirtual 150, 3) := by decide +kernel
theorem dX10_pay_35 : decode cX10_pay 35 = .ok (.iconst 1, 1) := by decide +kernel
theorem dX10_pay_36 : decode cX10_pay 36 = .ok (.ireturn, 1) := by decide +kernel
set_option maxRecDepth 20000 in
theorem ggX10_ranks_X10_isWithin : GoodIn wsX10_ranks wsX10_isWithin := goodIn_r _ [7] (by decide +kernel) (by decide +kernel)
set_option maxRecDepth 20000 in
theorem gX10_ranks_X10_isWithin : GoodIn wsX10_ranks (va_wsS RX10 75 yX10_isWithin wsX10_isWithin) := goodIn_app (goodIn_of _ (by decide +kernel)) ggX10_ranks_X10_isWithin
set_option maxRecDepth 20000 in
theorem ggX10_ranks_X7_meanInto : GoodIn wsX10_ranks wsX7_meanInto := goodIn_r _ [12, 13, 14, 15, 16, 11, 17, 18, 19, 20, 21, 22, 23, 24, 25, 26, 27, 28, 29, 30, 31, 32, 33, 34, 35, 36, 37, 38, 39, 40, 41, 42, 43, 44, 45, 46, 47, 48, 49, 50, 51, 52, 53, 54, 55, 56, 57, 58, 59, 60, 61, 62, 63, 64, 65, 66, 67, 68, 69, 70, 71, 72, 73, 74, 75, 76, 77, 78, 79, 80, 81, 82, 83, 84, 85, 86, 87, 88, 89, 90, 91, 92, 93, 94, 95, 96, 97, 98, 99, 100, 110, 111, 112, 113, 114, 115, 116, 117, 118, 119] (by decide +kernel) (by decide +kernel)
set_option maxRecDepth 20000 in
theorem gX10_ranks_X7_meanInto : GoodIn wsX10_ranks (wsV RX10 153 RX7 yX7_meanInto wsX7_meanInto) := goodIn_app (goodIn_of _ (by decide +kernel)) ggX10_ranks_X7_meanInto
theorem dX10_ranks_0 : decode cX10_ranks 0 = .ok (.iload_n 1, 1) := by decide +kernel
theorem dX10_ranks_1 : decode cX10_ranks 1 = .ok (.i2l, 1) := by decide +kernel
theorem dX10_ranks_2 : decode cX10_ranks 2 = .ok (.lconst 1, 1) := by decide +kernel
theorem dX10_ranks_3 : decode cX10_ranks 3 = .ok (.ldc2_w 146, 3) := by decide +kernel
theorem dX10_ranks_6 : decode cX10_ranks 6 = .ok (.invokestatic 75, 3) := by decide +kernel
theorem dX10_ranks_9 : decode cX10_ranks 9 = .ok (.ifCond .ne 5, 3) := by decide +kernel
theorem dX10_ranks_12 : decode cX10_ranks 12 = .ok (.iconst 0, 1) := by decide +kernel
theorem dX10_ranks_13 : decode cX10_ranks 13 = .ok (.ireturn, 1) := by decide +kernel
theorem dX10_ranks_14 : decode cX10_ranks 14 = .ok (.aload_n 0, 1) := by decide +kernel
theorem dX10_ranks_15 : decode cX10_ranks 15 = .ok (.getfield 49, 3) := by decide +kernel
theorem dX10_ranks_18 : decode cX10_ranks 18 = .ok (.iload_n 1, 1) := by decide +kernel
theorem dX10_ranks_19 : decode cX10_ranks 19 = .ok (.aload_n 0, 1) := by decide +kernel
theorem dX10_ranks_20 : decode cX10_ranks 20 = .ok (.getfield 28, 3) := by decide +kernel
theorem dX10_ranks_23 : decode cX10_ranks 23 = .ok (.invokevirtual 153, 3) := by decide +kernel
theorem dX10_ranks_26 : decode cX10_ranks 26 = .ok (.iconst 1, 1) := by decide +kernel
theorem dX10_ranks_27 : decode cX10_ranks 27 = .ok (.ireturn, 1) := by decide +kernel
set_option maxRecDepth 20000 in
theorem ggX10_yes_X10_isWithin : GoodIn wsX10_yes wsX10_isWithin := goodIn_r _ [6] (by decide +kernel) (by decide +kernel)
set_option maxRecDepth 20000 in
theorem gX10_yes_X10_isWithin : GoodIn wsX10_yes (va_wsS RX10 75 yX10_isWithin wsX10_isWithin) := goodIn_app (goodIn_of _ (by decide +kernel)) ggX10_yes_X10_isWithin
set_option maxRecDepth 20000 in
theorem ggX10_yes_X7_isTaken : GoodIn wsX10_yes wsX7_isTaken := goodIn_r _ [11, 12, 13, 14, 4, 5, 6, 15, 16, 17, 10, 18, 19, 20, 21, 22, 23, 24, 25, 26, 27, 28, 29, 30, 31, 32, 33, 34, 35, 36, 37, 38, 39, 40, 41, 42, 43, 44, 45, 46, 47, 48, 49, 50, 51, 52, 53, 54, 55, 56, 57, 58, 59, 60, 61, 62, 63, 64, 65, 66, 76, 77, 78, 79, 80] (by decide +kernel) (by decide +kernel)
set_option maxRecDepth 20000 in
theorem gX10_yes_X7_isTaken : GoodIn wsX10_yes (wsV RX10 156 RX7 yX7_isTaken wsX7_isTaken) := goodIn_app (goodIn_of _ (by decide +kernel)) ggX10_yes_X7_isTaken
theorem dX10_yes_0 : decode cX10_yes 0 = .ok (.iload_n 1, 1) := by decide +kernel
theorem dX10_yes_1 : decode cX10_yes 1 = .ok (.i2l, 1) := by decide +kernel
theorem dX10_yes_2 : decode cX10_yes 2 = .ok (.lconst 1, 1) := by decide +kernel
theorem dX10_yes_3 : decode cX10_yes 3 = .ok (.ldc2_w 146, 3) := by decide +kernel
theorem dX10_yes_6 : decode cX10_yes 6 = .ok (.invokestatic 75, 3) := by decide +kernel
theorem dX10_yes_9 : decode cX10_yes 9 = .ok (.ifCond .eq 25, 3) := by decide +kernel
theorem dX10_yes_12 : decode cX10_yes 12 = .ok (.iload_n 2, 1) := by decide +kernel
theorem dX10_yes_13 : decode cX10_yes 13 = .ok (.i2l, 1) := by decide +kernel
theorem dX10_yes_14 : decode cX10_yes 14 = .ok (.lconst 1, 1) := by decide +kernel
theorem dX10_yes_15 : decode cX10_yes 15 = .ok (.iload_n 1, 1) := by decide +kernel
theorem dX10_yes_16 : decode cX10_yes 16 = .ok (.i2l, 1) := by decide +kernel
theorem dX10_yes_17 : decode cX10_yes 17 = .ok (.invokestatic 75, 3) := by decide +kernel
theorem dX10_yes_20 : decode cX10_yes 20 = .ok (.ifCond .eq 14, 3) := by decide +kernel
theorem dX10_yes_23 : decode cX10_yes 23 = .ok (.iload_n 3, 1) := by decide +kernel
theorem dX10_yes_24 : decode cX10_yes 24 = .ok (.i2l, 1) := by decide +kernel
theorem dX10_yes_25 : decode cX10_yes 25 = .ok (.lconst 1, 1) := by decide +kernel
theorem dX10_yes_26 : decode cX10_yes 26 = .ok (.iload_n 2, 1) := by decide +kernel
theorem dX10_yes_27 : decode cX10_yes 27 = .ok (.i2l, 1) := by decide +kernel
theorem dX10_yes_28 : decode cX10_yes 28 = .ok (.invokestatic 75, 3) := by decide +kernel
theorem dX10_yes_31 : decode cX10_yes 31 = .ok (.ifCond .ne 5, 3) := by decide +kernel
theorem dX10_yes_34 : decode cX10_yes 34 = .ok (.iconst (-1), 1) := by decide +kernel
theorem dX10_yes_35 : decode cX10_yes 35 = .ok (.ireturn, 1) := by decide +kernel
theorem dX10_yes_36 : decode cX10_yes 36 = .ok (.aload_n 0, 1) := by decide +kernel
theorem dX10_yes_37 : decode cX10_yes 37 = .ok (.getfield 49, 3) := by decide +kernel
theorem dX10_yes_40 : decode cX10_yes 40 = .ok (.iload_n 1, 1) := by decide +kernel
theorem dX10_yes_41 : decode cX10_yes 41 = .ok (.iload_n 2, 1) := by decide +kernel
theorem dX10_yes_42 : decode cX10_yes 42 = .ok (.iload_n 3, 1) := by decide +kernel
theorem dX10_yes_43 : decode cX10_yes 43 = .ok (.invokevirtual 156, 3) := by decide +kernel
theorem dX10_yes_46 : decode cX10_yes 46 = .ok (.ifCond .eq 7, 3) := by decide +kernel
theorem dX10_yes_49 : decode cX10_yes 49 = .ok (.iconst 1, 1) := by decide +kernel
theorem dX10_yes_50 : decode cX10_yes 50 = .ok (.goto 4, 3) := by decide +kernel
theorem dX10_yes_53 : decode cX10_yes 53 = .ok (.iconst 0, 1) := by decide +kernel
theorem dX10_yes_54 : decode cX10_yes 54 = .ok (.ireturn, 1) := by decide +kernel
set_option maxRecDepth 20000 in
theorem ggX10_happen_X10_isWithin : GoodIn wsX10_happen wsX10_isWithin := goodIn_r _ [6] (by decide +kernel) (by decide +kernel)
set_option maxRecDepth 20000 in
theorem gX10_happen_X10_isWithin : GoodIn wsX10_happen (va_wsS RX10 75 yX10_isWithin wsX10_isWithin) := goodIn_app (goodIn_of _ (by decide +kernel)) ggX10_happen_X10_isWithin
set_option maxRecDepth 20000 in
theorem ggX10_happen_X4_join : GoodIn wsX10_happen wsX4_join := goodIn_r _ [11, 12, 13, 14, 24, 25, 26, 27, 28, 29] (by decide +kernel) (by decide +kernel)
set_option maxRecDepth 20000 in
theorem gX10_happen_X4_join : GoodIn wsX10_happen (wsV RX10 162 RX4 yX4_join wsX4_join) := goodIn_app (goodIn_of _ (by decide +kernel)) ggX10_happen_X4_join
theorem dX10_happen_0 : decode cX10_happen 0 = .ok (.iload_n 2, 1) := by decide +kernel
theorem dX10_happen_1 : decode cX10_happen 1 = .ok (.i2l, 1) := by decide +kernel
theorem dX10_happen_2 : decode cX10_happen 2 = .ok (.lconst 1, 1) := by decide +kernel
theorem dX10_happen_3 : decode cX10_happen 3 = .ok (.ldc2_w 160, 3) := by decide +kernel
theorem dX10_happen_6 : decode cX10_happen 6 = .ok (.invokestatic 75, 3) := by decide +kernel
theorem dX10_happen_9 : decode cX10_happen 9 = .ok (.ifCond .eq 14, 3) := by decide +kernel
theorem dX10_happen_12 : decode cX10_happen 12 = .ok (.iload_n 1, 1) := by decide +kernel
theorem dX10_happen_13 : decode cX10_happen 13 = .ok (.i2l, 1) := by decide +kernel
theorem dX10_happen_14 : decode cX10_happen 14 = .ok (.lconst 0, 1) := by decide +kernel
theorem dX10_happen_15 : decode cX10_happen 15 = .ok (.iload_n 2, 1) := by decide +kernel
theorem dX10_happen_16 : decode cX10_happen 16 = .ok (.i2l, 1) := by decide +kernel
theorem dX10_happen_17 : decode cX10_happen 17 = .ok (.invokestatic 75, 3) := by decide +kernel
theorem dX10_happen_20 : decode cX10_happen 20 = .ok (.ifCond .ne 6, 3) := by decide +kernel
theorem dX10_happen_23 : decode cX10_happen 23 = .ok (.bipush (-2), 2) := by decide +kernel
theorem dX10_happen_25 : decode cX10_happen 25 = .ok (.ireturn, 1) := by decide +kernel
theorem dX10_happen_26 : decode cX10_happen 26 = .ok (.aload_n 0, 1) := by decide +kernel
theorem dX10_happen_27 : decode cX10_happen 27 = .ok (.getfield 56, 3) := by decide +kernel
theorem dX10_happen_30 : decode cX10_happen 30 = .ok (.iload_n 1, 1) := by decide +kernel
theorem dX10_happen_31 : decode cX10_happen 31 = .ok (.iload_n 2, 1) := by decide +kernel
theorem dX10_happen_32 : decode cX10_happen 32 = .ok (.invokevirtual 162, 3) := by decide +kernel
theorem dX10_happen_35 : decode cX10_happen 35 = .ok (.ireturn, 1) := by decide +kernel
set_option maxRecDepth 20000 in
theorem ggX10_forget_X4_clear : GoodIn wsX10_forget wsX4_clear := goodIn_r _ [6, 7, 17, 18, 19, 20, 21, 22] (by decide +kernel) (by decide +kernel)
set_option maxRecDepth 20000 in
theorem gX10_forget_X4_clear : GoodIn wsX10_forget (wsV RX10 165 RX4 yX4_clear wsX4_clear) := goodIn_app (goodIn_of _ (by decide +kernel)) ggX10_forget_X4_clear
theorem dX10_forget_0 : decode cX10_forget 0 = .ok (.aload_n 0, 1) := by decide +kernel
theorem dX10_forget_1 : decode cX10_forget 1 = .ok (.getfield 56, 3) := by decide +kernel
theorem dX10_forget_4 : decode cX10_forget 4 = .ok (.invokevirtual 165, 3) := by decide +kernel
theorem dX10_forget_7 : decode cX10_forget 7 = .ok (.ireturn, 1) := by decide +kernel
set_option maxRecDepth 20000 in
theorem ggX10_last_X4_bestStart : GoodIn wsX10_last wsX4_bestStart := goodIn_r _ [7, 8, 9, 10, 11, 12, 13, 14, 15, 16, 17, 18, 19, 20, 21, 22, 23, 24, 25, 26, 6, 27, 28, 29, 30, 31, 32, 33, 34, 35, 36, 37, 38, 39, 40, 41, 42, 43, 44, 45, 46, 47, 48, 49, 50, 51, 52, 53, 54, 55, 56, 57, 58, 59, 60, 61, 62, 63, 64, 65, 66, 67, 68, 69, 70, 71, 72, 73, 74, 75, 76, 77, 78, 79, 80, 81, 82, 83, 84, 85, 86, 96, 97, 98, 99, 100, 101, 102, 103, 104, 105, 106, 107] (by decide +kernel) (by decide +kernel)
set_option maxRecDepth 20000 in
theorem gX10_last_X4_bestStart : GoodIn wsX10_last (wsV RX10 166 RX4 yX4_bestStart wsX4_bestStart) := goodIn_app (goodIn_of _ (by decide +kernel)) ggX10_last_X4_bestStart
theorem dX10_last_0 : decode cX10_last 0 = .ok (.aload_n 0, 1) := by decide +kernel
theorem dX10_last_1 : decode cX10_last 1 = .ok (.getfield 56, 3) := by decide +kernel
theorem dX10_last_4 : decode cX10_last 4 = .ok (.aload_n 0, 1) := by decide +kernel
theorem dX10_last_5 : decode cX10_last 5 = .ok (.getfield 28, 3) := by decide +kernel
theorem dX10_last_8 : decode cX10_last 8 = .ok (.invokevirtual 166, 3) := by decide +kernel
theorem dX10_last_11 : decode cX10_last 11 = .ok (.ireturn, 1) := by decide +kernel
set_option maxRecDepth 20000 in
theorem ggX10_box_X10_isBook : GoodIn wsX10_box wsX10_isBook := goodIn_r _ [8, 9, 10, 11, 7, 12, 72, 73, 74, 75, 76, 77, 78, 79, 80] (by decide +kernel) (by decide +kernel)
set_option maxRecDepth 20000 in
theorem gX10_box_X10_isBook : GoodIn wsX10_box (wsV RX10 98 RX10 yX10_isBook wsX10_isBook) := goodIn_app (goodIn_of _ (by decide +kernel)) ggX10_box_X10_isBook
set_option maxRecDepth 20000 in
theorem ggX10_box_X10_isWithin : GoodIn wsX10_box wsX10_isWithin := goodIn_r _ [12] (by decide +kernel) (by decide +kernel)
set_option maxRecDepth 20000 in
theorem gX10_box_X10_isWithin : GoodIn wsX10_box (va_wsS RX10 75 yX10_isWithin wsX10_isWithin) := goodIn_app (goodIn_of _ (by decide +kernel)) ggX10_box_X10_isWithin
set_option maxRecDepth 20000 in
theorem ggX10_box_X1_join : GoodIn wsX10_box wsX1_join := goodIn_r _ [17, 18, 19, 20, 21, 22, 23, 24, 25, 26, 27, 28, 29, 30, 31, 32, 33, 16, 34, 35, 36, 37, 38, 39, 40, 41, 11, 7, 12, 42, 43, 44, 45, 46, 47, 48, 49, 50, 51, 52, 53, 54, 55, 56, 57, 58, 59, 60, 61, 62, 63, 64, 65, 66, 67, 68, 69, 70, 71, 81, 82, 83, 84, 85, 86, 87, 88, 89, 90, 91, 92, 93, 94, 95] (by decide +kernel) (by decide +kernel)
set_option maxRecDepth 20000 in
theorem gX10_box_X1_join : GoodIn wsX10_box (wsV RX10 170 RX1 yX1_join wsX1_join) := goodIn_app (goodIn_of _ (by decide +kernel)) ggX10_box_X1_join
theorem dX10_box_0 : decode cX10_box 0 = .ok (.aload_n 0, 1) := by decide +kernel
theorem dX10_box_1 : decode cX10_box 1 = .ok (.iload_n 1, 1) := by decide +kernel
theorem dX10_box_2 : decode cX10_box 2 = .ok (.invokevirtual 98, 3) := by decide +kernel
theorem dX10_box_5 : decode cX10_box 5 = .ok (.ifCond .eq 15, 3) := by decide +kernel
theorem dX10_box_8 : decode cX10_box 8 = .ok (.iload_n 2, 1) := by decide +kernel
theorem dX10_box_9 : decode cX10_box 9 = .ok (.i2l, 1) := by decide +kernel
theorem dX10_box_10 : decode cX10_box 10 = .ok (.lconst 0, 1) := by decide +kernel
theorem dX10_box_11 : decode cX10_box 11 = .ok (.ldc2_w 148, 3) := by decide +kernel
theorem dX10_box_14 : decode cX10_box 14 = .ok (.invokestatic 75, 3) := by decide +kernel
theorem dX10_box_17 : decode cX10_box 17 = .ok (.ifCond .ne 6, 3) := by decide +kernel
theorem dX10_box_20 : decode cX10_box 20 = .ok (.bipush (-2), 2) := by decide +kernel
theorem dX10_box_22 : decode cX10_box 22 = .ok (.ireturn, 1) := by decide +kernel
theorem dX10_box_23 : decode cX10_box 23 = .ok (.aload_n 0, 1) := by decide +kernel
theorem dX10_box_24 : decode cX10_box 24 = .ok (.getfield 63, 3) := by decide +kernel
theorem dX10_box_27 : decode cX10_box 27 = .ok (.aload_n 0, 1) := by decide +kernel
theorem dX10_box_28 : decode cX10_box 28 = .ok (.getfield 17, 3) := by decide +kernel
theorem dX10_box_31 : decode cX10_box 31 = .ok (.iload_n 1, 1) := by decide +kernel
theorem dX10_box_32 : decode cX10_box 32 = .ok (.aaload, 1) := by decide +kernel
theorem dX10_box_33 : decode cX10_box 33 = .ok (.iload_n 2, 1) := by decide +kernel
theorem dX10_box_34 : decode cX10_box 34 = .ok (.invokevirtual 170, 3) := by decide +kernel
theorem dX10_box_37 : decode cX10_box 37 = .ok (.ireturn, 1) := by decide +kernel
set_option maxRecDepth 20000 in
theorem ggX10_empty_X1_clear : GoodIn wsX10_empty wsX1_clear := goodIn_r _ [6, 7, 8, 9, 10, 11, 12, 13, 14, 15, 16, 17, 27, 28, 29, 30, 31, 32, 33, 34, 35, 36, 37] (by decide +kernel) (by decide +kernel)
set_option maxRecDepth 20000 in
theorem gX10_empty_X1_clear : GoodIn wsX10_empty (wsV RX10 173 RX1 yX1_clear wsX1_clear) := goodIn_app (goodIn_of _ (by decide +kernel)) ggX10_empty_X1_clear
theorem dX10_empty_0 : decode cX10_empty 0 = .ok (.aload_n 0, 1) := by decide +kernel
theorem dX10_empty_1 : decode cX10_empty 1 = .ok (.getfield 63, 3) := by decide +kernel
theorem dX10_empty_4 : decode cX10_empty 4 = .ok (.invokevirtual 173, 3) := by decide +kernel
theorem dX10_empty_7 : decode cX10_empty 7 = .ok (.ireturn, 1) := by decide +kernel
set_option maxRecDepth 20000 in
theorem ggX10_fair_X1_size : GoodIn wsX10_fair wsX1_size := goodIn_r _ [7, 8, 9, 10, 11, 12, 13, 14, 101, 102, 103, 104, 105, 106, 107, 108, 109, 110, 111] (by decide +kernel) (by decide +kernel)
set_option maxRecDepth 20000 in
theorem gX10_fair_X1_size : GoodIn wsX10_fair (wsV RX10 174 RX1 yX1_size wsX1_size) := goodIn_app (goodIn_of _ (by decide +kernel)) ggX10_fair_X1_size
set_option maxRecDepth 20000 in
theorem ggX10_fair_X10_isWithin : GoodIn wsX10_fair wsX10_isWithin := goodIn_r _ [18] (by decide +kernel) (by decide +kernel)
set_option maxRecDepth 20000 in
theorem gX10_fair_X10_isWithin : GoodIn wsX10_fair (va_wsS RX10 75 yX10_isWithin wsX10_isWithin) := goodIn_app (goodIn_of _ (by decide +kernel)) ggX10_fair_X10_isWithin
set_option maxRecDepth 20000 in
theorem ggX10_fair_X1_fairBarInto : GoodIn wsX10_fair wsX1_fairBarInto := goodIn_r _ [22, 23, 24, 25, 16, 17, 18, 26, 27, 28, 29, 30, 31, 32, 33, 34, 35, 36, 37, 38, 39, 40, 41, 42, 43, 44, 45, 46, 47, 48, 49, 50, 51, 52, 53, 54, 55, 56, 57, 58, 59, 60, 61, 62, 63, 64, 65, 66, 67, 68, 69, 70, 71, 72, 73, 74, 75, 76, 77, 78, 79, 80, 81, 82, 83, 84, 85, 86, 87, 88, 89, 90, 91, 101, 102, 103, 104, 105, 106, 107, 108, 112, 113, 114, 115, 116, 117] (by decide +kernel) (by decide +kernel)
set_option maxRecDepth 20000 in
theorem gX10_fair_X1_fairBarInto : GoodIn wsX10_fair (wsV RX10 175 RX1 yX1_fairBarInto wsX1_fairBarInto) := goodIn_app (goodIn_of _ (by decide +kernel)) ggX10_fair_X1_fairBarInto
theorem dX10_fair_0 : decode cX10_fair 0 = .ok (.iload_n 1, 1) := by decide +kernel
theorem dX10_fair_1 : decode cX10_fair 1 = .ok (.i2l, 1) := by decide +kernel
theorem dX10_fair_2 : decode cX10_fair 2 = .ok (.lconst 0, 1) := by decide +kernel
theorem dX10_fair_3 : decode cX10_fair 3 = .ok (.aload_n 0, 1) := by decide +kernel
theorem dX10_fair_4 : decode cX10_fair 4 = .ok (.getfield 63, 3) := by decide +kernel
theorem dX10_fair_7 : decode cX10_fair 7 = .ok (.invokevirtual 174, 3) := by decide +kernel
theorem dX10_fair_10 : decode cX10_fair 10 = .ok (.iconst 1, 1) := by decide +kernel
theorem dX10_fair_11 : decode cX10_fair 11 = .ok (.isub, 1) := by decide +kernel
theorem dX10_fair_12 : decode cX10_fair 12 = .ok (.i2l, 1) := by decide +kernel
theorem dX10_fair_13 : decode cX10_fair 13 = .ok (.invokestatic 75, 3) := by decide +kernel
theorem dX10_fair_16 : decode cX10_fair 16 = .ok (.ifCond .ne 5, 3) := by decide +kernel
theorem dX10_fair_19 : decode cX10_fair 19 = .ok (.iconst 0, 1) := by decide +kernel
theorem dX10_fair_20 : decode cX10_fair 20 = .ok (.ireturn, 1) := by decide +kernel
theorem dX10_fair_21 : decode cX10_fair 21 = .ok (.aload_n 0, 1) := by decide +kernel
theorem dX10_fair_22 : decode cX10_fair 22 = .ok (.getfield 63, 3) := by decide +kernel
theorem dX10_fair_25 : decode cX10_fair 25 = .ok (.iload_n 1, 1) := by decide +kernel
theorem dX10_fair_26 : decode cX10_fair 26 = .ok (.aload_n 0, 1) := by decide +kernel
theorem dX10_fair_27 : decode cX10_fair 27 = .ok (.getfield 28, 3) := by decide +kernel
theorem dX10_fair_30 : decode cX10_fair 30 = .ok (.invokevirtual 175, 3) := by decide +kernel
theorem dX10_fair_33 : decode cX10_fair 33 = .ok (.iconst 1, 1) := by decide +kernel
theorem dX10_fair_34 : decode cX10_fair 34 = .ok (.ireturn, 1) := by decide +kernel
set_option maxRecDepth 20000 in
theorem ggX10_search_X1_searchInto : GoodIn wsX10_search wsX1_searchInto := goodIn_r _ [7, 8, 9, 10, 11, 12, 13, 14, 15, 16, 17, 18, 19, 20, 21, 22, 23, 24, 25, 26, 27, 28, 29, 30, 31, 32, 33, 34, 35, 36, 37, 38, 39, 40, 41, 42, 43, 44, 45, 46, 47, 48, 49, 50, 51, 52, 53, 54, 55, 56, 57, 6, 58, 59, 60, 61, 62, 63, 64, 65, 66, 67, 68, 69, 70, 71, 72, 73, 74, 75, 76, 77, 78, 79, 80, 81, 82, 83, 84, 85, 86, 87, 88, 89, 90, 91, 92, 93, 94, 95, 96, 97, 98, 99, 100, 101, 102, 103, 104, 105, 106, 107, 108, 109, 110, 111, 112, 113, 114, 115, 116, 117, 118, 119, 120, 121, 122, 123, 124, 125, 126, 127, 128, 129, 130, 131, 132, 133, 134, 135, 136, 137, 138, 139, 140, 141, 142, 143, 144, 145, 146, 147, 148, 158, 159, 160, 161, 162, 163, 164, 165, 166, 167, 168, 169, 170, 171, 172, 173, 174, 175, 176, 177, 178] (by decide +kernel) (by decide +kernel)
set_option maxRecDepth 20000 in
theorem gX10_search_X1_searchInto : GoodIn wsX10_search (wsV RX10 178 RX1 yX1_searchInto wsX1_searchInto) := goodIn_app (goodIn_of _ (by decide +kernel)) ggX10_search_X1_searchInto
theorem dX10_search_0 : decode cX10_search 0 = .ok (.aload_n 0, 1) := by decide +kernel
theorem dX10_search_1 : decode cX10_search 1 = .ok (.getfield 63, 3) := by decide +kernel
theorem dX10_search_4 : decode cX10_search 4 = .ok (.aload_n 0, 1) := by decide +kernel
theorem dX10_search_5 : decode cX10_search 5 = .ok (.getfield 28, 3) := by decide +kernel
theorem dX10_search_8 : decode cX10_search 8 = .ok (.invokevirtual 178, 3) := by decide +kernel
theorem dX10_search_11 : decode cX10_search 11 = .ok (.return_, 1) := by decide +kernel
set_option maxRecDepth 20000 in
theorem ggX10_look_X8_sign : GoodIn wsX10_look wsX8_sign := goodIn_r _ [6, 7, 29, 30, 31, 32, 33] (by decide +kernel) (by decide +kernel)
set_option maxRecDepth 20000 in
theorem gX10_look_X8_sign : GoodIn wsX10_look (wsV RX10 181 RX8 yX8_sign wsX8_sign) := goodIn_app (goodIn_of _ (by decide +kernel)) ggX10_look_X8_sign
set_option maxRecDepth 20000 in
theorem ggX10_look_X8_digits : GoodIn wsX10_look wsX8_digits := goodIn_r _ [11, 12, 13, 29, 30, 31, 32, 33] (by decide +kernel) (by decide +kernel)
set_option maxRecDepth 20000 in
theorem gX10_look_X8_digits : GoodIn wsX10_look (wsV RX10 184 RX8 yX8_digits wsX8_digits) := goodIn_app (goodIn_of _ (by decide +kernel)) ggX10_look_X8_digits
set_option maxRecDepth 20000 in
theorem ggX10_look_X5_partCount : GoodIn wsX10_look wsX5_partCount := goodIn_r _ [18, 19, 34] (by decide +kernel) (by decide +kernel)
set_option maxRecDepth 20000 in
theorem gX10_look_X5_partCount : GoodIn wsX10_look (wsV RX10 188 RX5 yX5_partCount wsX5_partCount) := goodIn_app (goodIn_of _ (by decide +kernel)) ggX10_look_X5_partCount
theorem dX10_look_0 : decode cX10_look 0 = .ok (.iload_n 1, 1) := by decide +kernel
theorem dX10_look_1 : decode cX10_look 1 = .ok (.tableswitch 59 0 2 #[27, 35, 47], 27) := by decide +kernel
theorem dX10_look_28 : decode cX10_look 28 = .ok (.aload_n 0, 1) := by decide +kernel
theorem dX10_look_29 : decode cX10_look 29 = .ok (.getfield 28, 3) := by decide +kernel
theorem dX10_look_32 : decode cX10_look 32 = .ok (.invokevirtual 181, 3) := by decide +kernel
theorem dX10_look_35 : decode cX10_look 35 = .ok (.ireturn, 1) := by decide +kernel
theorem dX10_look_36 : decode cX10_look 36 = .ok (.aload_n 0, 1) := by decide +kernel
theorem dX10_look_37 : decode cX10_look 37 = .ok (.getfield 28, 3) := by decide +kernel
theorem dX10_look_40 : decode cX10_look 40 = .ok (.iconst 0, 1) := by decide +kernel
theorem dX10_look_41 : decode cX10_look 41 = .ok (.invokevirtual 184, 3) := by decide +kernel
theorem dX10_look_44 : decode cX10_look 44 = .ok (.invokevirtual 188, 3) := by decide +kernel
theorem dX10_look_47 : decode cX10_look 47 = .ok (.ireturn, 1) := by decide +kernel
theorem dX10_look_48 : decode cX10_look 48 = .ok (.aload_n 0, 1) := by decide +kernel
theorem dX10_look_49 : decode cX10_look 49 = .ok (.getfield 28, 3) := by decide +kernel
theorem dX10_look_52 : decode cX10_look 52 = .ok (.iconst 1, 1) := by decide +kernel
theorem dX10_look_53 : decode cX10_look 53 = .ok (.invokevirtual 184, 3) := by decide +kernel
theorem dX10_look_56 : decode cX10_look 56 = .ok (.invokevirtual 188, 3) := by decide +kernel
theorem dX10_look_59 : decode cX10_look 59 = .ok (.ireturn, 1) := by decide +kernel
theorem dX10_look_60 : decode cX10_look 60 = .ok (.iconst (-1), 1) := by decide +kernel
theorem dX10_look_61 : decode cX10_look 61 = .ok (.ireturn, 1) := by decide +kernel
set_option maxRecDepth 20000 in
theorem ggX10_part_X8_digits : GoodIn wsX10_part wsX8_digits := goodIn_r _ [6, 7, 8, 28, 29, 30, 31, 32] (by decide +kernel) (by decide +kernel)
set_option maxRecDepth 20000 in
theorem gX10_part_X8_digits : GoodIn wsX10_part (wsV RX10 184 RX8 yX8_digits wsX8_digits) := goodIn_app (goodIn_of _ (by decide +kernel)) ggX10_part_X8_digits
set_option maxRecDepth 20000 in
theorem ggX10_part_X5_partAt : GoodIn wsX10_part wsX5_partAt := goodIn_r _ [13, 14, 15, 16, 17, 18, 33] (by decide +kernel) (by decide +kernel)
set_option maxRecDepth 20000 in
theorem gX10_part_X5_partAt : GoodIn wsX10_part (wsV RX10 193 RX5 yX5_partAt wsX5_partAt) := goodIn_app (goodIn_of _ (by decide +kernel)) ggX10_part_X5_partAt
theorem dX10_part_0 : decode cX10_part 0 = .ok (.aload_n 0, 1) := by decide +kernel
theorem dX10_part_1 : decode cX10_part 1 = .ok (.getfield 28, 3) := by decide +kernel
theorem dX10_part_4 : decode cX10_part 4 = .ok (.iload_n 1, 1) := by decide +kernel
theorem dX10_part_5 : decode cX10_part 5 = .ok (.invokevirtual 184, 3) := by decide +kernel
theorem dX10_part_8 : decode cX10_part 8 = .ok (.iload_n 2, 1) := by decide +kernel
theorem dX10_part_9 : decode cX10_part 9 = .ok (.invokevirtual 193, 3) := by decide +kernel
theorem dX10_part_12 : decode cX10_part 12 = .ok (.ireturn, 1) := by decide +kernel
set_option maxRecDepth 20000 in
theorem ggX10_compare_X8_against : GoodIn wsX10_compare wsX8_against := goodIn_r _ [6, 7, 8, 9, 10, 11, 12, 13, 14, 15, 16, 17, 18, 19, 20, 21, 22, 23, 24, 25, 26, 27, 28, 29, 30, 31, 32, 33, 34, 35, 36, 37, 38, 39, 49, 50, 51, 52, 53, 54] (by decide +kernel) (by decide +kernel)
set_option maxRecDepth 20000 in
theorem gX10_compare_X8_against : GoodIn wsX10_compare (wsV RX10 196 RX8 yX8_against wsX8_against) := goodIn_app (goodIn_of _ (by decide +kernel)) ggX10_compare_X8_against
theorem dX10_compare_0 : decode cX10_compare 0 = .ok (.iload_n 2, 1) := by decide +kernel
theorem dX10_compare_1 : decode cX10_compare 1 = .ok (.iconst 1, 1) := by decide +kernel
theorem dX10_compare_2 : decode cX10_compare 2 = .ok (.if_icmp .ge 6, 3) := by decide +kernel
theorem dX10_compare_5 : decode cX10_compare 5 = .ok (.bipush (-2), 2) := by decide +kernel
theorem dX10_compare_7 : decode cX10_compare 7 = .ok (.ireturn, 1) := by decide +kernel
theorem dX10_compare_8 : decode cX10_compare 8 = .ok (.aload_n 0, 1) := by decide +kernel
theorem dX10_compare_9 : decode cX10_compare 9 = .ok (.getfield 28, 3) := by decide +kernel
theorem dX10_compare_12 : decode cX10_compare 12 = .ok (.iload_n 1, 1) := by decide +kernel
theorem dX10_compare_13 : decode cX10_compare 13 = .ok (.iload_n 2, 1) := by decide +kernel
theorem dX10_compare_14 : decode cX10_compare 14 = .ok (.invokevirtual 196, 3) := by decide +kernel
theorem dX10_compare_17 : decode cX10_compare 17 = .ok (.ireturn, 1) := by decide +kernel
set_option maxRecDepth 20000 in
theorem ggX10_count_X2_size : GoodIn wsX10_count wsX2_size := goodIn_r _ [9, 10, 11, 12, 13, 14, 15, 16, 51, 52, 53, 54, 55, 56, 57, 58, 59, 60, 61, 62, 63] (by decide +kernel) (by decide +kernel)
set_option maxRecDepth 20000 in
theorem gX10_count_X2_size : GoodIn wsX10_count (wsV RX10 109 RX2 yX2_size wsX2_size) := goodIn_app (goodIn_of _ (by decide +kernel)) ggX10_count_X2_size
set_option maxRecDepth 20000 in
theorem ggX10_count_X4_size : GoodIn wsX10_count wsX4_size := goodIn_r _ [21, 22, 64, 65, 66, 67, 68, 69] (by decide +kernel) (by decide +kernel)
set_option maxRecDepth 20000 in
theorem gX10_count_X4_size : GoodIn wsX10_count (wsV RX10 199 RX4 yX4_size wsX4_size) := goodIn_app (goodIn_of _ (by decide +kernel)) ggX10_count_X4_size
set_option maxRecDepth 20000 in
theorem ggX10_count_X1_size : GoodIn wsX10_count wsX1_size := goodIn_r _ [27, 28, 29, 12, 13, 14, 15, 16, 70, 71, 72, 73, 74, 75, 76, 77, 61, 62, 63] (by decide +kernel) (by decide +kernel)
set_option maxRecDepth 20000 in
theorem gX10_count_X1_size : GoodIn wsX10_count (wsV RX10 174 RX1 yX1_size wsX1_size) := goodIn_app (goodIn_of _ (by decide +kernel)) ggX10_count_X1_size
set_option maxRecDepth 20000 in
theorem ggX10_count_X10_rowsThere : GoodIn wsX10_count wsX10_rowsThere := goodIn_r _ [34, 35, 36, 37, 38, 39, 40, 41, 42, 43, 44, 45, 46, 47, 48, 49, 50, 78, 79, 80] (by decide +kernel) (by decide +kernel)
set_option maxRecDepth 20000 in
theorem gX10_count_X10_rowsThere : GoodIn wsX10_count (wsV RX10 200 RX10 yX10_rowsThere wsX10_rowsThere) := goodIn_app (goodIn_of _ (by decide +kernel)) ggX10_count_X10_rowsThere
theorem dX10_count_0 : decode cX10_count 0 = .ok (.iload_n 1, 1) := by decide +kernel
theorem dX10_count_1 : decode cX10_count 1 = .ok (.tableswitch 69 0 4 #[35, 40, 48, 56, 64], 35) := by decide +kernel
theorem dX10_count_36 : decode cX10_count 36 = .ok (.aload_n 0, 1) := by decide +kernel
theorem dX10_count_37 : decode cX10_count 37 = .ok (.getfield 21, 3) := by decide +kernel
theorem dX10_count_40 : decode cX10_count 40 = .ok (.ireturn, 1) := by decide +kernel
theorem dX10_count_41 : decode cX10_count 41 = .ok (.aload_n 0, 1) := by decide +kernel
theorem dX10_count_42 : decode cX10_count 42 = .ok (.getfield 35, 3) := by decide +kernel
theorem dX10_count_45 : decode cX10_count 45 = .ok (.invokevirtual 109, 3) := by decide +kernel
theorem dX10_count_48 : decode cX10_count 48 = .ok (.ireturn, 1) := by decide +kernel
theorem dX10_count_49 : decode cX10_count 49 = .ok (.aload_n 0, 1) := by decide +kernel
theorem dX10_count_50 : decode cX10_count 50 = .ok (.getfield 56, 3) := by decide +kernel
theorem dX10_count_53 : decode cX10_count 53 = .ok (.invokevirtual 199, 3) := by decide +kernel
theorem dX10_count_56 : decode cX10_count 56 = .ok (.ireturn, 1) := by decide +kernel
theorem dX10_count_57 : decode cX10_count 57 = .ok (.aload_n 0, 1) := by decide +kernel
theorem dX10_count_58 : decode cX10_count 58 = .ok (.getfield 63, 3) := by decide +kernel
theorem dX10_count_61 : decode cX10_count 61 = .ok (.invokevirtual 174, 3) := by decide +kernel
theorem dX10_count_64 : decode cX10_count 64 = .ok (.ireturn, 1) := by decide +kernel
theorem dX10_count_65 : decode cX10_count 65 = .ok (.aload_n 0, 1) := by decide +kernel
theorem dX10_count_66 : decode cX10_count 66 = .ok (.invokevirtual 200, 3) := by decide +kernel
theorem dX10_count_69 : decode cX10_count 69 = .ok (.ireturn, 1) := by decide +kernel
theorem dX10_count_70 : decode cX10_count 70 = .ok (.iconst (-1), 1) := by decide +kernel
theorem dX10_count_71 : decode cX10_count 71 = .ok (.ireturn, 1) := by decide +kernel
set_option maxRecDepth 20000 in
theorem ggX10_rowsThere_X9_isThere : GoodIn wsX10_rowsThere wsX9_isThere := goodIn_r _ [6, 7, 17, 18, 19] (by decide +kernel) (by decide +kernel)
set_option maxRecDepth 20000 in
theorem gX10_rowsThere_X9_isThere : GoodIn wsX10_rowsThere (wsV RX10 83 RX9 yX9_isThere wsX9_isThere) := goodIn_app (goodIn_of _ (by decide +kernel)) ggX10_rowsThere_X9_isThere
theorem dX10_rowsThere_0 : decode cX10_rowsThere 0 = .ok (.iconst 0, 1) := by decide +kernel
theorem dX10_rowsThere_1 : decode cX10_rowsThere 1 = .ok (.istore_n 1, 1) := by decide +kernel
theorem dX10_rowsThere_2 : decode cX10_rowsThere 2 = .ok (.iconst 0, 1) := by decide +kernel
theorem dX10_rowsThere_3 : decode cX10_rowsThere 3 = .ok (.istore_n 2, 1) := by decide +kernel
theorem dX10_rowsThere_4 : decode cX10_rowsThere 4 = .ok (.iload_n 2, 1) := by decide +kernel
theorem dX10_rowsThere_5 : decode cX10_rowsThere 5 = .ok (.aload_n 0, 1) := by decide +kernel
theorem dX10_rowsThere_6 : decode cX10_rowsThere 6 = .ok (.getfield 11, 3) := by decide +kernel
theorem dX10_rowsThere_9 : decode cX10_rowsThere 9 = .ok (.arraylength, 1) := by decide +kernel
theorem dX10_rowsThere_10 : decode cX10_rowsThere 10 = .ok (.if_icmp .ge 24, 3) := by decide +kernel
theorem dX10_rowsThere_13 : decode cX10_rowsThere 13 = .ok (.aload_n 0, 1) := by decide +kernel
theorem dX10_rowsThere_14 : decode cX10_rowsThere 14 = .ok (.getfield 11, 3) := by decide +kernel
theorem dX10_rowsThere_17 : decode cX10_rowsThere 17 = .ok (.iload_n 2, 1) := by decide +kernel
theorem dX10_rowsThere_18 : decode cX10_rowsThere 18 = .ok (.aaload, 1) := by decide +kernel
theorem dX10_rowsThere_19 : decode cX10_rowsThere 19 = .ok (.invokevirtual 83, 3) := by decide +kernel
theorem dX10_rowsThere_22 : decode cX10_rowsThere 22 = .ok (.ifCond .eq 6, 3) := by decide +kernel
theorem dX10_rowsThere_25 : decode cX10_rowsThere 25 = .ok (.iinc 1 1, 3) := by decide +kernel
theorem dX10_rowsThere_28 : decode cX10_rowsThere 28 = .ok (.iinc 2 1, 3) := by decide +kernel
theorem dX10_rowsThere_31 : decode cX10_rowsThere 31 = .ok (.goto (-27), 3) := by decide +kernel
theorem dX10_rowsThere_34 : decode cX10_rowsThere 34 = .ok (.iload_n 1, 1) := by decide +kernel
theorem dX10_rowsThere_35 : decode cX10_rowsThere 35 = .ok (.ireturn, 1) := by decide +kernel
set_option maxRecDepth 20000 in
theorem ggX10_isBook_X10_isWithin : GoodIn wsX10_isBook wsX10_isWithin := goodIn_r _ [5] (by decide +kernel) (by decide +kernel)
set_option maxRecDepth 20000 in
theorem gX10_isBook_X10_isWithin : GoodIn wsX10_isBook (va_wsS RX10 75 yX10_isWithin wsX10_isWithin) := goodIn_app (goodIn_of _ (by decide +kernel)) ggX10_isBook_X10_isWithin
theorem dX10_isBook_0 : decode cX10_isBook 0 = .ok (.iload_n 1, 1) := by decide +kernel
theorem dX10_isBook_1 : decode cX10_isBook 1 = .ok (.i2l, 1) := by decide +kernel
theorem dX10_isBook_2 : decode cX10_isBook 2 = .ok (.lconst 0, 1) := by decide +kernel
theorem dX10_isBook_3 : decode cX10_isBook 3 = .ok (.aload_n 0, 1) := by decide +kernel
theorem dX10_isBook_4 : decode cX10_isBook 4 = .ok (.getfield 21, 3) := by decide +kernel
theorem dX10_isBook_7 : decode cX10_isBook 7 = .ok (.iconst 1, 1) := by decide +kernel
theorem dX10_isBook_8 : decode cX10_isBook 8 = .ok (.isub, 1) := by decide +kernel
theorem dX10_isBook_9 : decode cX10_isBook 9 = .ok (.i2l, 1) := by decide +kernel
theorem dX10_isBook_10 : decode cX10_isBook 10 = .ok (.invokestatic 75, 3) := by decide +kernel
theorem dX10_isBook_13 : decode cX10_isBook 13 = .ok (.ireturn, 1) := by decide +kernel
set_option maxRecDepth 20000 in
theorem ggX10_isSlot_X10_isWithin : GoodIn wsX10_isSlot wsX10_isWithin := goodIn_r _ [5] (by decide +kernel) (by decide +kernel)
set_option maxRecDepth 20000 in
theorem gX10_isSlot_X10_isWithin : GoodIn wsX10_isSlot (va_wsS RX10 75 yX10_isWithin wsX10_isWithin) := goodIn_app (goodIn_of _ (by decide +kernel)) ggX10_isSlot_X10_isWithin
theorem dX10_isSlot_0 : decode cX10_isSlot 0 = .ok (.iload_n 0, 1) := by decide +kernel
theorem dX10_isSlot_1 : decode cX10_isSlot 1 = .ok (.i2l, 1) := by decide +kernel
theorem dX10_isSlot_2 : decode cX10_isSlot 2 = .ok (.lconst 0, 1) := by decide +kernel
theorem dX10_isSlot_3 : decode cX10_isSlot 3 = .ok (.ldc2_w 203, 3) := by decide +kernel
theorem dX10_isSlot_6 : decode cX10_isSlot 6 = .ok (.invokestatic 75, 3) := by decide +kernel
theorem dX10_isSlot_9 : decode cX10_isSlot 9 = .ok (.ireturn, 1) := by decide +kernel
theorem dX10_isWithin_0 : decode cX10_isWithin 0 = .ok (.lload_n 2, 1) := by decide +kernel
theorem dX10_isWithin_1 : decode cX10_isWithin 1 = .ok (.lload_n 0, 1) := by decide +kernel
theorem dX10_isWithin_2 : decode cX10_isWithin 2 = .ok (.lcmp, 1) := by decide +kernel
theorem dX10_isWithin_3 : decode cX10_isWithin 3 = .ok (.ifCond .gt 14, 3) := by decide +kernel
theorem dX10_isWithin_6 : decode cX10_isWithin 6 = .ok (.lload_n 0, 1) := by decide +kernel
theorem dX10_isWithin_7 : decode cX10_isWithin 7 = .ok (.lload 4, 2) := by decide +kernel
theorem dX10_isWithin_9 : decode cX10_isWithin 9 = .ok (.lcmp, 1) := by decide +kernel
theorem dX10_isWithin_10 : decode cX10_isWithin 10 = .ok (.ifCond .gt 7, 3) := by decide +kernel
theorem dX10_isWithin_13 : decode cX10_isWithin 13 = .ok (.iconst 1, 1) := by decide +kernel
theorem dX10_isWithin_14 : decode cX10_isWithin 14 = .ok (.goto 4, 3) := by decide +kernel
theorem dX10_isWithin_17 : decode cX10_isWithin 17 = .ok (.iconst 0, 1) := by decide +kernel
theorem dX10_isWithin_18 : decode cX10_isWithin 18 = .ok (.ireturn, 1) := by decide +kernel
end
section
set_option maxRecDepth 20000 in
theorem ggX11_init_X11_set : GoodIn wsX11_init wsX11_set := goodIn_r _ [27, 6, 28, 29, 30, 26, 31, 32, 33, 34, 35, 36, 37, 38, 39, 40, 41, 42, 43, 44, 45, 46, 47, 48, 49, 50, 51, 52, 53, 54, 55, 56, 57, 58, 59, 60] (by decide +kernel) (by decide +kernel)
set_option maxRecDepth 20000 in
theorem gX11_init_X11_set : GoodIn wsX11_init (wsV RX11 60 RX11 yX11_set wsX11_set) := goodIn_app (goodIn_of _ (by decide +kernel)) ggX11_init_X11_set
theorem dX11_init_0 : decode cX11_init 0 = .ok (.aload_n 0, 1) := by decide +kernel
theorem dX11_init_1 : decode cX11_init 1 = .ok (.invokespecial 1, 3) := by decide +kernel
theorem dX11_init_4 : decode cX11_init 4 = .ok (.aload_n 0, 1) := by decide +kernel
theorem dX11_init_5 : decode cX11_init 5 = .ok (.ldc 9, 2) := by decide +kernel
theorem dX11_init_7 : decode cX11_init 7 = .ok (.newarray .long, 2) := by decide +kernel
theorem dX11_init_9 : decode cX11_init 9 = .ok (.putfield 10, 3) := by decide +kernel
theorem dX11_init_12 : decode cX11_init 12 = .ok (.aload_n 0, 1) := by decide +kernel
theorem dX11_init_13 : decode cX11_init 13 = .ok (.bipush 10, 2) := by decide +kernel
theorem dX11_init_15 : decode cX11_init 15 = .ok (.newarray .int, 2) := by decide +kernel
theorem dX11_init_17 : decode cX11_init 17 = .ok (.putfield 14, 3) := by decide +kernel
theorem dX11_init_20 : decode cX11_init 20 = .ok (.aload_n 0, 1) := by decide +kernel
theorem dX11_init_21 : decode cX11_init 21 = .ok (.bipush 10, 2) := by decide +kernel
theorem dX11_init_23 : decode cX11_init 23 = .ok (.newarray .int, 2) := by decide +kernel
theorem dX11_init_25 : decode cX11_init 25 = .ok (.putfield 18, 3) := by decide +kernel
theorem dX11_init_28 : decode cX11_init 28 = .ok (.aload_n 0, 1) := by decide +kernel
theorem dX11_init_29 : decode cX11_init 29 = .ok (.sipush 400, 3) := by decide +kernel
theorem dX11_init_32 : decode cX11_init 32 = .ok (.newarray .long, 2) := by decide +kernel
theorem dX11_init_34 : decode cX11_init 34 = .ok (.putfield 21, 3) := by decide +kernel
theorem dX11_init_37 : decode cX11_init 37 = .ok (.aload_n 0, 1) := by decide +kernel
theorem dX11_init_38 : decode cX11_init 38 = .ok (.bipush 16, 2) := by decide +kernel
theorem dX11_init_40 : decode cX11_init 40 = .ok (.newarray .int, 2) := by decide +kernel
theorem dX11_init_42 : decode cX11_init 42 = .ok (.putfield 24, 3) := by decide +kernel
theorem dX11_init_45 : decode cX11_init 45 = .ok (.aload_n 0, 1) := by decide +kernel
theorem dX11_init_46 : decode cX11_init 46 = .ok (.sipush 128, 3) := by decide +kernel
theorem dX11_init_49 : decode cX11_init 49 = .ok (.newarray .int, 2) := by decide +kernel
theorem dX11_init_51 : decode cX11_init 51 = .ok (.putfield 27, 3) := by decide +kernel
theorem dX11_init_54 : decode cX11_init 54 = .ok (.aload_n 0, 1) := by decide +kernel
theorem dX11_init_55 : decode cX11_init 55 = .ok (.sipush 128, 3) := by decide +kernel
theorem dX11_init_58 : decode cX11_init 58 = .ok (.newarray .int, 2) := by decide +kernel
theorem dX11_init_60 : decode cX11_init 60 = .ok (.putfield 30, 3) := by decide +kernel
theorem dX11_init_63 : decode cX11_init 63 = .ok (.aload_n 0, 1) := by decide +kernel
theorem dX11_init_64 : decode cX11_init 64 = .ok (.bipush 16, 2) := by decide +kernel
theorem dX11_init_66 : decode cX11_init 66 = .ok (.newarray .int, 2) := by decide +kernel
theorem dX11_init_68 : decode cX11_init 68 = .ok (.putfield 33, 3) := by decide +kernel
theorem dX11_init_71 : decode cX11_init 71 = .ok (.aload_n 0, 1) := by decide +kernel
theorem dX11_init_72 : decode cX11_init 72 = .ok (.bipush 10, 2) := by decide +kernel
theorem dX11_init_74 : decode cX11_init 74 = .ok (.newarray .int, 2) := by decide +kernel
theorem dX11_init_76 : decode cX11_init 76 = .ok (.putfield 36, 3) := by decide +kernel
theorem dX11_init_79 : decode cX11_init 79 = .ok (.aload_n 0, 1) := by decide +kernel
theorem dX11_init_80 : decode cX11_init 80 = .ok (.bipush 10, 2) := by decide +kernel
theorem dX11_init_82 : decode cX11_init 82 = .ok (.newarray .int, 2) := by decide +kernel
theorem dX11_init_84 : decode cX11_init 84 = .ok (.putfield 39, 3) := by decide +kernel
theorem dX11_init_87 : decode cX11_init 87 = .ok (.aload_n 0, 1) := by decide +kernel
theorem dX11_init_88 : decode cX11_init 88 = .ok (.bipush 21, 2) := by decide +kernel
theorem dX11_init_90 : decode cX11_init 90 = .ok (.newarray .int, 2) := by decide +kernel
theorem dX11_init_92 : decode cX11_init 92 = .ok (.putfield 42, 3) := by decide +kernel
theorem dX11_init_95 : decode cX11_init 95 = .ok (.aload_n 0, 1) := by decide +kernel
theorem dX11_init_96 : decode cX11_init 96 = .ok (.bipush 20, 2) := by decide +kernel
theorem dX11_init_98 : decode cX11_init 98 = .ok (.newarray .int, 2) := by decide +kernel
theorem dX11_init_100 : decode cX11_init 100 = .ok (.putfield 45, 3) := by decide +kernel
theorem dX11_init_103 : decode cX11_init 103 = .ok (.aload_n 0, 1) := by decide +kernel
theorem dX11_init_104 : decode cX11_init 104 = .ok (.bipush 20, 2) := by decide +kernel
theorem dX11_init_106 : decode cX11_init 106 = .ok (.newarray .int, 2) := by decide +kernel
theorem dX11_init_108 : decode cX11_init 108 = .ok (.putfield 48, 3) := by decide +kernel
theorem dX11_init_111 : decode cX11_init 111 = .ok (.aload_n 0, 1) := by decide +kernel
theorem dX11_init_112 : decode cX11_init 112 = .ok (.bipush 6, 2) := by decide +kernel
theorem dX11_init_114 : decode cX11_init 114 = .ok (.newarray .int, 2) := by decide +kernel
theorem dX11_init_116 : decode cX11_init 116 = .ok (.putfield 51, 3) := by decide +kernel
theorem dX11_init_119 : decode cX11_init 119 = .ok (.aload_n 0, 1) := by decide +kernel
theorem dX11_init_120 : decode cX11_init 120 = .ok (.bipush 6, 2) := by decide +kernel
theorem dX11_init_122 : decode cX11_init 122 = .ok (.newarray .int, 2) := by decide +kernel
theorem dX11_init_124 : decode cX11_init 124 = .ok (.putfield 54, 3) := by decide +kernel
theorem dX11_init_127 : decode cX11_init 127 = .ok (.aload_n 0, 1) := by decide +kernel
theorem dX11_init_128 : decode cX11_init 128 = .ok (.bipush 50, 2) := by decide +kernel
theorem dX11_init_130 : decode cX11_init 130 = .ok (.newarray .int, 2) := by decide +kernel
theorem dX11_init_132 : decode cX11_init 132 = .ok (.putfield 57, 3) := by decide +kernel
theorem dX11_init_135 : decode cX11_init 135 = .ok (.aload_n 0, 1) := by decide +kernel
theorem dX11_init_136 : decode cX11_init 136 = .ok (.iconst 0, 1) := by decide +kernel
theorem dX11_init_137 : decode cX11_init 137 = .ok (.lconst 0, 1) := by decide +kernel
theorem dX11_init_138 : decode cX11_init 138 = .ok (.invokevirtual 60, 3) := by decide +kernel
theorem dX11_init_141 : decode cX11_init 141 = .ok (.aload_n 0, 1) := by decide +kernel
theorem dX11_init_142 : decode cX11_init 142 = .ok (.iconst 1, 1) := by decide +kernel
theorem dX11_init_143 : decode cX11_init 143 = .ok (.lconst 1, 1) := by decide +kernel
theorem dX11_init_144 : decode cX11_init 144 = .ok (.invokevirtual 60, 3) := by decide +kernel
theorem dX11_init_147 : decode cX11_init 147 = .ok (.return_, 1) := by decide +kernel
set_option maxRecDepth 20000 in
theorem ggX11_carry_J9_floorMod_f86c9 : GoodIn wsX11_carry wsJ9_floorMod_f86c9 := goodIn_r _ [6] (by decide +kernel) (by decide +kernel)
set_option maxRecDepth 20000 in
theorem gX11_carry_J9_floorMod_f86c9 : GoodIn wsX11_carry (va_wsS RX11 66 yJ9_floorMod_f86c9 wsJ9_floorMod_f86c9) := goodIn_app (goodIn_of _ (by decide +kernel)) ggX11_carry_J9_floorMod_f86c9
set_option maxRecDepth 20000 in
theorem ggX11_carry_J9_floorDiv_f86c9 : GoodIn wsX11_carry wsJ9_floorDiv_f86c9 := goodIn_r _ [9] (by decide +kernel) (by decide +kernel)
set_option maxRecDepth 20000 in
theorem gX11_carry_J9_floorDiv_f86c9 : GoodIn wsX11_carry (va_wsS RX11 72 yJ9_floorDiv_f86c9 wsJ9_floorDiv_f86c9) := goodIn_app (goodIn_of _ (by decide +kernel)) ggX11_carry_J9_floorDiv_f86c9
theorem dX11_carry_0 : decode cX11_carry 0 = .ok (.iconst 0, 1) := by decide +kernel
theorem dX11_carry_1 : decode cX11_carry 1 = .ok (.istore_n 2, 1) := by decide +kernel
theorem dX11_carry_2 : decode cX11_carry 2 = .ok (.iload_n 2, 1) := by decide +kernel
theorem dX11_carry_3 : decode cX11_carry 3 = .ok (.bipush 9, 2) := by decide +kernel
theorem dX11_carry_5 : decode cX11_carry 5 = .ok (.if_icmp .ge 62, 3) := by decide +kernel
theorem dX11_carry_8 : decode cX11_carry 8 = .ok (.aload_n 0, 1) := by decide +kernel
theorem dX11_carry_9 : decode cX11_carry 9 = .ok (.getfield 10, 3) := by decide +kernel
theorem dX11_carry_12 : decode cX11_carry 12 = .ok (.bipush 10, 2) := by decide +kernel
theorem dX11_carry_14 : decode cX11_carry 14 = .ok (.iload_n 1, 1) := by decide +kernel
theorem dX11_carry_15 : decode cX11_carry 15 = .ok (.imul, 1) := by decide +kernel
theorem dX11_carry_16 : decode cX11_carry 16 = .ok (.iload_n 2, 1) := by decide +kernel
theorem dX11_carry_17 : decode cX11_carry 17 = .ok (.iadd, 1) := by decide +kernel
theorem dX11_carry_18 : decode cX11_carry 18 = .ok (.laload, 1) := by decide +kernel
theorem dX11_carry_19 : decode cX11_carry 19 = .ok (.lstore_n 3, 1) := by decide +kernel
theorem dX11_carry_20 : decode cX11_carry 20 = .ok (.aload_n 0, 1) := by decide +kernel
theorem dX11_carry_21 : decode cX11_carry 21 = .ok (.getfield 10, 3) := by decide +kernel
theorem dX11_carry_24 : decode cX11_carry 24 = .ok (.bipush 10, 2) := by decide +kernel
theorem dX11_carry_26 : decode cX11_carry 26 = .ok (.iload_n 1, 1) := by decide +kernel
theorem dX11_carry_27 : decode cX11_carry 27 = .ok (.imul, 1) := by decide +kernel
theorem dX11_carry_28 : decode cX11_carry 28 = .ok (.iload_n 2, 1) := by decide +kernel
theorem dX11_carry_29 : decode cX11_carry 29 = .ok (.iadd, 1) := by decide +kernel
theorem dX11_carry_30 : decode cX11_carry 30 = .ok (.lload_n 3, 1) := by decide +kernel
theorem dX11_carry_31 : decode cX11_carry 31 = .ok (.ldc2_w 64, 3) := by decide +kernel
theorem dX11_carry_34 : decode cX11_carry 34 = .ok (.invokestatic 66, 3) := by decide +kernel
theorem dX11_carry_37 : decode cX11_carry 37 = .ok (.lastore, 1) := by decide +kernel
theorem dX11_carry_38 : decode cX11_carry 38 = .ok (.aload_n 0, 1) := by decide +kernel
theorem dX11_carry_39 : decode cX11_carry 39 = .ok (.getfield 10, 3) := by decide +kernel
theorem dX11_carry_42 : decode cX11_carry 42 = .ok (.bipush 10, 2) := by decide +kernel
theorem dX11_carry_44 : decode cX11_carry 44 = .ok (.iload_n 1, 1) := by decide +kernel
theorem dX11_carry_45 : decode cX11_carry 45 = .ok (.imul, 1) := by decide +kernel
theorem dX11_carry_46 : decode cX11_carry 46 = .ok (.iload_n 2, 1) := by decide +kernel
theorem dX11_carry_47 : decode cX11_carry 47 = .ok (.iadd, 1) := by decide +kernel
theorem dX11_carry_48 : decode cX11_carry 48 = .ok (.iconst 1, 1) := by decide +kernel
theorem dX11_carry_49 : decode cX11_carry 49 = .ok (.iadd, 1) := by decide +kernel
theorem dX11_carry_50 : decode cX11_carry 50 = .ok (.dup2, 1) := by decide +kernel
theorem dX11_carry_51 : decode cX11_carry 51 = .ok (.laload, 1) := by decide +kernel
theorem dX11_carry_52 : decode cX11_carry 52 = .ok (.lload_n 3, 1) := by decide +kernel
theorem dX11_carry_53 : decode cX11_carry 53 = .ok (.ldc2_w 64, 3) := by decide +kernel
theorem dX11_carry_56 : decode cX11_carry 56 = .ok (.invokestatic 72, 3) := by decide +kernel
theorem dX11_carry_59 : decode cX11_carry 59 = .ok (.ladd, 1) := by decide +kernel
theorem dX11_carry_60 : decode cX11_carry 60 = .ok (.lastore, 1) := by decide +kernel
theorem dX11_carry_61 : decode cX11_carry 61 = .ok (.iinc 2 1, 3) := by decide +kernel
theorem dX11_carry_64 : decode cX11_carry 64 = .ok (.goto (-62), 3) := by decide +kernel
theorem dX11_carry_67 : decode cX11_carry 67 = .ok (.return_, 1) := by decide +kernel
set_option maxRecDepth 20000 in
theorem ggX11_set_X11_carry : GoodIn wsX11_set wsX11_carry := goodIn_r _ [6, 1, 7, 8, 9, 10, 11, 12, 13, 14, 15, 16, 17, 18, 19, 20, 21, 22, 23, 24, 25, 26, 27, 28, 29, 30, 31, 32, 33, 34, 35] (by decide +kernel) (by decide +kernel)
set_option maxRecDepth 20000 in
theorem gX11_set_X11_carry : GoodIn wsX11_set (wsV RX11 75 RX11 yX11_carry wsX11_carry) := goodIn_app (goodIn_of _ (by decide +kernel)) ggX11_set_X11_carry
theorem dX11_set_0 : decode cX11_set 0 = .ok (.iconst 0, 1) := by decide +kernel
theorem dX11_set_1 : decode cX11_set 1 = .ok (.istore 4, 2) := by decide +kernel
theorem dX11_set_3 : decode cX11_set 3 = .ok (.iload 4, 2) := by decide +kernel
theorem dX11_set_5 : decode cX11_set 5 = .ok (.bipush 10, 2) := by decide +kernel
theorem dX11_set_7 : decode cX11_set 7 = .ok (.if_icmp .ge 31, 3) := by decide +kernel
theorem dX11_set_10 : decode cX11_set 10 = .ok (.aload_n 0, 1) := by decide +kernel
theorem dX11_set_11 : decode cX11_set 11 = .ok (.getfield 10, 3) := by decide +kernel
theorem dX11_set_14 : decode cX11_set 14 = .ok (.bipush 10, 2) := by decide +kernel
theorem dX11_set_16 : decode cX11_set 16 = .ok (.iload_n 1, 1) := by decide +kernel
theorem dX11_set_17 : decode cX11_set 17 = .ok (.imul, 1) := by decide +kernel
theorem dX11_set_18 : decode cX11_set 18 = .ok (.iload 4, 2) := by decide +kernel
theorem dX11_set_20 : decode cX11_set 20 = .ok (.iadd, 1) := by decide +kernel
theorem dX11_set_21 : decode cX11_set 21 = .ok (.iload 4, 2) := by decide +kernel
theorem dX11_set_23 : decode cX11_set 23 = .ok (.ifCond .ne 7, 3) := by decide +kernel
theorem dX11_set_26 : decode cX11_set 26 = .ok (.lload_n 2, 1) := by decide +kernel
theorem dX11_set_27 : decode cX11_set 27 = .ok (.goto 4, 3) := by decide +kernel
theorem dX11_set_30 : decode cX11_set 30 = .ok (.lconst 0, 1) := by decide +kernel
theorem dX11_set_31 : decode cX11_set 31 = .ok (.lastore, 1) := by decide +kernel
theorem dX11_set_32 : decode cX11_set 32 = .ok (.iinc 4 1, 3) := by decide +kernel
theorem dX11_set_35 : decode cX11_set 35 = .ok (.goto (-32), 3) := by decide +kernel
theorem dX11_set_38 : decode cX11_set 38 = .ok (.aload_n 0, 1) := by decide +kernel
theorem dX11_set_39 : decode cX11_set 39 = .ok (.iload_n 1, 1) := by decide +kernel
theorem dX11_set_40 : decode cX11_set 40 = .ok (.invokevirtual 75, 3) := by decide +kernel
theorem dX11_set_43 : decode cX11_set 43 = .ok (.return_, 1) := by decide +kernel
theorem dX11_copy_0 : decode cX11_copy 0 = .ok (.iconst 0, 1) := by decide +kernel
theorem dX11_copy_1 : decode cX11_copy 1 = .ok (.istore_n 3, 1) := by decide +kernel
theorem dX11_copy_2 : decode cX11_copy 2 = .ok (.iload_n 3, 1) := by decide +kernel
theorem dX11_copy_3 : decode cX11_copy 3 = .ok (.bipush 10, 2) := by decide +kernel
theorem dX11_copy_5 : decode cX11_copy 5 = .ok (.if_icmp .ge 31, 3) := by decide +kernel
theorem dX11_copy_8 : decode cX11_copy 8 = .ok (.aload_n 0, 1) := by decide +kernel
theorem dX11_copy_9 : decode cX11_copy 9 = .ok (.getfield 10, 3) := by decide +kernel
theorem dX11_copy_12 : decode cX11_copy 12 = .ok (.bipush 10, 2) := by decide +kernel
theorem dX11_copy_14 : decode cX11_copy 14 = .ok (.iload_n 1, 1) := by decide +kernel
theorem dX11_copy_15 : decode cX11_copy 15 = .ok (.imul, 1) := by decide +kernel
theorem dX11_copy_16 : decode cX11_copy 16 = .ok (.iload_n 3, 1) := by decide +kernel
theorem dX11_copy_17 : decode cX11_copy 17 = .ok (.iadd, 1) := by decide +kernel
theorem dX11_copy_18 : decode cX11_copy 18 = .ok (.aload_n 0, 1) := by decide +kernel
theorem dX11_copy_19 : decode cX11_copy 19 = .ok (.getfield 10, 3) := by decide +kernel
theorem dX11_copy_22 : decode cX11_copy 22 = .ok (.bipush 10, 2) := by decide +kernel
theorem dX11_copy_24 : decode cX11_copy 24 = .ok (.iload_n 2, 1) := by decide +kernel
theorem dX11_copy_25 : decode cX11_copy 25 = .ok (.imul, 1) := by decide +kernel
theorem dX11_copy_26 : decode cX11_copy 26 = .ok (.iload_n 3, 1) := by decide +kernel
theorem dX11_copy_27 : decode cX11_copy 27 = .ok (.iadd, 1) := by decide +kernel
theorem dX11_copy_28 : decode cX11_copy 28 = .ok (.laload, 1) := by decide +kernel
theorem dX11_copy_29 : decode cX11_copy 29 = .ok (.lastore, 1) := by decide +kernel
theorem dX11_copy_30 : decode cX11_copy 30 = .ok (.iinc 3 1, 3) := by decide +kernel
theorem dX11_copy_33 : decode cX11_copy 33 = .ok (.goto (-31), 3) := by decide +kernel
theorem dX11_copy_36 : decode cX11_copy 36 = .ok (.return_, 1) := by decide +kernel
set_option maxRecDepth 20000 in
theorem ggX11_more_X11_carry : GoodIn wsX11_more wsX11_carry := goodIn_r _ [6, 1, 7, 8, 9, 10, 11, 12, 13, 14, 15, 16, 17, 18, 19, 20, 21, 22, 23, 24, 25, 26, 27, 28, 29, 30, 31, 32, 33, 34, 35] (by decide +kernel) (by decide +kernel)
set_option maxRecDepth 20000 in
theorem gX11_more_X11_carry : GoodIn wsX11_more (wsV RX11 75 RX11 yX11_carry wsX11_carry) := goodIn_app (goodIn_of _ (by decide +kernel)) ggX11_more_X11_carry
theorem dX11_more_0 : decode cX11_more 0 = .ok (.iconst 0, 1) := by decide +kernel
theorem dX11_more_1 : decode cX11_more 1 = .ok (.istore 5, 2) := by decide +kernel
theorem dX11_more_3 : decode cX11_more 3 = .ok (.iload 5, 2) := by decide +kernel
theorem dX11_more_5 : decode cX11_more 5 = .ok (.bipush 10, 2) := by decide +kernel
theorem dX11_more_7 : decode cX11_more 7 = .ok (.if_icmp .ge 38, 3) := by decide +kernel
theorem dX11_more_10 : decode cX11_more 10 = .ok (.aload_n 0, 1) := by decide +kernel
theorem dX11_more_11 : decode cX11_more 11 = .ok (.getfield 10, 3) := by decide +kernel
theorem dX11_more_14 : decode cX11_more 14 = .ok (.bipush 10, 2) := by decide +kernel
theorem dX11_more_16 : decode cX11_more 16 = .ok (.iload_n 1, 1) := by decide +kernel
theorem dX11_more_17 : decode cX11_more 17 = .ok (.imul, 1) := by decide +kernel
theorem dX11_more_18 : decode cX11_more 18 = .ok (.iload 5, 2) := by decide +kernel
theorem dX11_more_20 : decode cX11_more 20 = .ok (.iadd, 1) := by decide +kernel
theorem dX11_more_21 : decode cX11_more 21 = .ok (.dup2, 1) := by decide +kernel
theorem dX11_more_22 : decode cX11_more 22 = .ok (.laload, 1) := by decide +kernel
theorem dX11_more_23 : decode cX11_more 23 = .ok (.aload_n 0, 1) := by decide +kernel
theorem dX11_more_24 : decode cX11_more 24 = .ok (.getfield 10, 3) := by decide +kernel
theorem dX11_more_27 : decode cX11_more 27 = .ok (.bipush 10, 2) := by decide +kernel
theorem dX11_more_29 : decode cX11_more 29 = .ok (.iload_n 2, 1) := by decide +kernel
theorem dX11_more_30 : decode cX11_more 30 = .ok (.imul, 1) := by decide +kernel
theorem dX11_more_31 : decode cX11_more 31 = .ok (.iload 5, 2) := by decide +kernel
theorem dX11_more_33 : decode cX11_more 33 = .ok (.iadd, 1) := by decide +kernel
theorem dX11_more_34 : decode cX11_more 34 = .ok (.laload, 1) := by decide +kernel
theorem dX11_more_35 : decode cX11_more 35 = .ok (.lload_n 3, 1) := by decide +kernel
theorem dX11_more_36 : decode cX11_more 36 = .ok (.lmul, 1) := by decide +kernel
theorem dX11_more_37 : decode cX11_more 37 = .ok (.ladd, 1) := by decide +kernel
theorem dX11_more_38 : decode cX11_more 38 = .ok (.lastore, 1) := by decide +kernel
theorem dX11_more_39 : decode cX11_more 39 = .ok (.iinc 5 1, 3) := by decide +kernel
theorem dX11_more_42 : decode cX11_more 42 = .ok (.goto (-39), 3) := by decide +kernel
theorem dX11_more_45 : decode cX11_more 45 = .ok (.aload_n 0, 1) := by decide +kernel
theorem dX11_more_46 : decode cX11_more 46 = .ok (.iload_n 1, 1) := by decide +kernel
theorem dX11_more_47 : decode cX11_more 47 = .ok (.invokevirtual 75, 3) := by decide +kernel
theorem dX11_more_50 : decode cX11_more 50 = .ok (.return_, 1) := by decide +kernel
set_option maxRecDepth 20000 in
theorem ggX11_times_X11_carry : GoodIn wsX11_times wsX11_carry := goodIn_r _ [6, 1, 7, 8, 9, 10, 11, 12, 13, 14, 15, 16, 17, 18, 19, 20, 21, 22, 23, 24, 25, 26, 27, 28, 29, 30, 31, 32, 33, 34, 35] (by decide +kernel) (by decide +kernel)
set_option maxRecDepth 20000 in
theorem gX11_times_X11_carry : GoodIn wsX11_times (wsV RX11 75 RX11 yX11_carry wsX11_carry) := goodIn_app (goodIn_of _ (by decide +kernel)) ggX11_times_X11_carry
theorem dX11_times_0 : decode cX11_times 0 = .ok (.iconst 0, 1) := by decide +kernel
theorem dX11_times_1 : decode cX11_times 1 = .ok (.istore 4, 2) := by decide +kernel
theorem dX11_times_3 : decode cX11_times 3 = .ok (.iload 4, 2) := by decide +kernel
theorem dX11_times_5 : decode cX11_times 5 = .ok (.bipush 10, 2) := by decide +kernel
theorem dX11_times_7 : decode cX11_times 7 = .ok (.if_icmp .ge 25, 3) := by decide +kernel
theorem dX11_times_10 : decode cX11_times 10 = .ok (.aload_n 0, 1) := by decide +kernel
theorem dX11_times_11 : decode cX11_times 11 = .ok (.getfield 10, 3) := by decide +kernel
theorem dX11_times_14 : decode cX11_times 14 = .ok (.bipush 10, 2) := by decide +kernel
theorem dX11_times_16 : decode cX11_times 16 = .ok (.iload_n 1, 1) := by decide +kernel
theorem dX11_times_17 : decode cX11_times 17 = .ok (.imul, 1) := by decide +kernel
theorem dX11_times_18 : decode cX11_times 18 = .ok (.iload 4, 2) := by decide +kernel
theorem dX11_times_20 : decode cX11_times 20 = .ok (.iadd, 1) := by decide +kernel
theorem dX11_times_21 : decode cX11_times 21 = .ok (.dup2, 1) := by decide +kernel
theorem dX11_times_22 : decode cX11_times 22 = .ok (.laload, 1) := by decide +kernel
theorem dX11_times_23 : decode cX11_times 23 = .ok (.lload_n 2, 1) := by decide +kernel
theorem dX11_times_24 : decode cX11_times 24 = .ok (.lmul, 1) := by decide +kernel
theorem dX11_times_25 : decode cX11_times 25 = .ok (.lastore, 1) := by decide +kernel
theorem dX11_times_26 : decode cX11_times 26 = .ok (.iinc 4 1, 3) := by decide +kernel
theorem dX11_times_29 : decode cX11_times 29 = .ok (.goto (-26), 3) := by decide +kernel
theorem dX11_times_32 : decode cX11_times 32 = .ok (.aload_n 0, 1) := by decide +kernel
theorem dX11_times_33 : decode cX11_times 33 = .ok (.iload_n 1, 1) := by decide +kernel
theorem dX11_times_34 : decode cX11_times 34 = .ok (.invokevirtual 75, 3) := by decide +kernel
theorem dX11_times_37 : decode cX11_times 37 = .ok (.return_, 1) := by decide +kernel
theorem dX11_over_0 : decode cX11_over 0 = .ok (.lconst 0, 1) := by decide +kernel
theorem dX11_over_1 : decode cX11_over 1 = .ok (.lstore 4, 2) := by decide +kernel
theorem dX11_over_3 : decode cX11_over 3 = .ok (.bipush 9, 2) := by decide +kernel
theorem dX11_over_5 : decode cX11_over 5 = .ok (.istore 6, 2) := by decide +kernel
theorem dX11_over_7 : decode cX11_over 7 = .ok (.iload 6, 2) := by decide +kernel
theorem dX11_over_9 : decode cX11_over 9 = .ok (.ifCond .lt 52, 3) := by decide +kernel
theorem dX11_over_12 : decode cX11_over 12 = .ok (.lload 4, 2) := by decide +kernel
theorem dX11_over_14 : decode cX11_over 14 = .ok (.ldc2_w 64, 3) := by decide +kernel
theorem dX11_over_17 : decode cX11_over 17 = .ok (.lmul, 1) := by decide +kernel
theorem dX11_over_18 : decode cX11_over 18 = .ok (.aload_n 0, 1) := by decide +kernel
theorem dX11_over_19 : decode cX11_over 19 = .ok (.getfield 10, 3) := by decide +kernel
theorem dX11_over_22 : decode cX11_over 22 = .ok (.bipush 10, 2) := by decide +kernel
theorem dX11_over_24 : decode cX11_over 24 = .ok (.iload_n 1, 1) := by decide +kernel
theorem dX11_over_25 : decode cX11_over 25 = .ok (.imul, 1) := by decide +kernel
theorem dX11_over_26 : decode cX11_over 26 = .ok (.iload 6, 2) := by decide +kernel
theorem dX11_over_28 : decode cX11_over 28 = .ok (.iadd, 1) := by decide +kernel
theorem dX11_over_29 : decode cX11_over 29 = .ok (.laload, 1) := by decide +kernel
theorem dX11_over_30 : decode cX11_over 30 = .ok (.ladd, 1) := by decide +kernel
theorem dX11_over_31 : decode cX11_over 31 = .ok (.lstore 7, 2) := by decide +kernel
theorem dX11_over_33 : decode cX11_over 33 = .ok (.aload_n 0, 1) := by decide +kernel
theorem dX11_over_34 : decode cX11_over 34 = .ok (.getfield 10, 3) := by decide +kernel
theorem dX11_over_37 : decode cX11_over 37 = .ok (.bipush 10, 2) := by decide +kernel
theorem dX11_over_39 : decode cX11_over 39 = .ok (.iload_n 1, 1) := by decide +kernel
theorem dX11_over_40 : decode cX11_over 40 = .ok (.imul, 1) := by decide +kernel
theorem dX11_over_41 : decode cX11_over 41 = .ok (.iload 6, 2) := by decide +kernel
theorem dX11_over_43 : decode cX11_over 43 = .ok (.iadd, 1) := by decide +kernel
theorem dX11_over_44 : decode cX11_over 44 = .ok (.lload 7, 2) := by decide +kernel
theorem dX11_over_46 : decode cX11_over 46 = .ok (.lload_n 2, 1) := by decide +kernel
theorem dX11_over_47 : decode cX11_over 47 = .ok (.ldiv, 1) := by decide +kernel
theorem dX11_over_48 : decode cX11_over 48 = .ok (.lastore, 1) := by decide +kernel
theorem dX11_over_49 : decode cX11_over 49 = .ok (.lload 7, 2) := by decide +kernel
theorem dX11_over_51 : decode cX11_over 51 = .ok (.lload_n 2, 1) := by decide +kernel
theorem dX11_over_52 : decode cX11_over 52 = .ok (.lrem, 1) := by decide +kernel
theorem dX11_over_53 : decode cX11_over 53 = .ok (.lstore 4, 2) := by decide +kernel
theorem dX11_over_55 : decode cX11_over 55 = .ok (.iinc 6 (-1), 3) := by decide +kernel
theorem dX11_over_58 : decode cX11_over 58 = .ok (.goto (-51), 3) := by decide +kernel
theorem dX11_over_61 : decode cX11_over 61 = .ok (.return_, 1) := by decide +kernel
theorem dX11_compared_0 : decode cX11_compared 0 = .ok (.bipush 9, 2) := by decide +kernel
theorem dX11_compared_2 : decode cX11_compared 2 = .ok (.istore_n 3, 1) := by decide +kernel
theorem dX11_compared_3 : decode cX11_compared 3 = .ok (.iload_n 3, 1) := by decide +kernel
theorem dX11_compared_4 : decode cX11_compared 4 = .ok (.ifCond .lt 57, 3) := by decide +kernel
theorem dX11_compared_7 : decode cX11_compared 7 = .ok (.aload_n 0, 1) := by decide +kernel
theorem dX11_compared_8 : decode cX11_compared 8 = .ok (.getfield 10, 3) := by decide +kernel
theorem dX11_compared_11 : decode cX11_compared 11 = .ok (.bipush 10, 2) := by decide +kernel
theorem dX11_compared_13 : decode cX11_compared 13 = .ok (.iload_n 1, 1) := by decide +kernel
theorem dX11_compared_14 : decode cX11_compared 14 = .ok (.imul, 1) := by decide +kernel
theorem dX11_compared_15 : decode cX11_compared 15 = .ok (.iload_n 3, 1) := by decide +kernel
theorem dX11_compared_16 : decode cX11_compared 16 = .ok (.iadd, 1) := by decide +kernel
theorem dX11_compared_17 : decode cX11_compared 17 = .ok (.laload, 1) := by decide +kernel
theorem dX11_compared_18 : decode cX11_compared 18 = .ok (.lstore 4, 2) := by decide +kernel
theorem dX11_compared_20 : decode cX11_compared 20 = .ok (.aload_n 0, 1) := by decide +kernel
theorem dX11_compared_21 : decode cX11_compared 21 = .ok (.getfield 10, 3) := by decide +kernel
theorem dX11_compared_24 : decode cX11_compared 24 = .ok (.bipush 10, 2) := by decide +kernel
theorem dX11_compared_26 : decode cX11_compared 26 = .ok (.iload_n 2, 1) := by decide +kernel
theorem dX11_compared_27 : decode cX11_compared 27 = .ok (.imul, 1) := by decide +kernel
theorem dX11_compared_28 : decode cX11_compared 28 = .ok (.iload_n 3, 1) := by decide +kernel
theorem dX11_compared_29 : decode cX11_compared 29 = .ok (.iadd, 1) := by decide +kernel
theorem dX11_compared_30 : decode cX11_compared 30 = .ok (.laload, 1) := by decide +kernel
theorem dX11_compared_31 : decode cX11_compared 31 = .ok (.lstore 6, 2) := by decide +kernel
theorem dX11_compared_33 : decode cX11_compared 33 = .ok (.lload 4, 2) := by decide +kernel
theorem dX11_compared_35 : decode cX11_compared 35 = .ok (.lload 6, 2) := by decide +kernel
theorem dX11_compared_37 : decode cX11_compared 37 = .ok (.lcmp, 1) := by decide +kernel
theorem dX11_compared_38 : decode cX11_compared 38 = .ok (.ifCond .eq 17, 3) := by decide +kernel
theorem dX11_compared_41 : decode cX11_compared 41 = .ok (.lload 4, 2) := by decide +kernel
theorem dX11_compared_43 : decode cX11_compared 43 = .ok (.lload 6, 2) := by decide +kernel
theorem dX11_compared_45 : decode cX11_compared 45 = .ok (.lcmp, 1) := by decide +kernel
theorem dX11_compared_46 : decode cX11_compared 46 = .ok (.ifCond .ge 7, 3) := by decide +kernel
theorem dX11_compared_49 : decode cX11_compared 49 = .ok (.iconst (-1), 1) := by decide +kernel
theorem dX11_compared_50 : decode cX11_compared 50 = .ok (.goto 4, 3) := by decide +kernel
theorem dX11_compared_53 : decode cX11_compared 53 = .ok (.iconst 1, 1) := by decide +kernel
theorem dX11_compared_54 : decode cX11_compared 54 = .ok (.ireturn, 1) := by decide +kernel
theorem dX11_compared_55 : decode cX11_compared 55 = .ok (.iinc 3 (-1), 3) := by decide +kernel
theorem dX11_compared_58 : decode cX11_compared 58 = .ok (.goto (-55), 3) := by decide +kernel
theorem dX11_compared_61 : decode cX11_compared 61 = .ok (.iconst 0, 1) := by decide +kernel
theorem dX11_compared_62 : decode cX11_compared 62 = .ok (.ireturn, 1) := by decide +kernel
theorem dX11_isZero_0 : decode cX11_isZero 0 = .ok (.iconst 0, 1) := by decide +kernel
theorem dX11_isZero_1 : decode cX11_isZero 1 = .ok (.istore_n 2, 1) := by decide +kernel
theorem dX11_isZero_2 : decode cX11_isZero 2 = .ok (.iload_n 2, 1) := by decide +kernel
theorem dX11_isZero_3 : decode cX11_isZero 3 = .ok (.bipush 10, 2) := by decide +kernel
theorem dX11_isZero_5 : decode cX11_isZero 5 = .ok (.if_icmp .ge 27, 3) := by decide +kernel
theorem dX11_isZero_8 : decode cX11_isZero 8 = .ok (.aload_n 0, 1) := by decide +kernel
theorem dX11_isZero_9 : decode cX11_isZero 9 = .ok (.getfield 10, 3) := by decide +kernel
theorem dX11_isZero_12 : decode cX11_isZero 12 = .ok (.bipush 10, 2) := by decide +kernel
theorem dX11_isZero_14 : decode cX11_isZero 14 = .ok (.iload_n 1, 1) := by decide +kernel
theorem dX11_isZero_15 : decode cX11_isZero 15 = .ok (.imul, 1) := by decide +kernel
theorem dX11_isZero_16 : decode cX11_isZero 16 = .ok (.iload_n 2, 1) := by decide +kernel
theorem dX11_isZero_17 : decode cX11_isZero 17 = .ok (.iadd, 1) := by decide +kernel
theorem dX11_isZero_18 : decode cX11_isZero 18 = .ok (.laload, 1) := by decide +kernel
theorem dX11_isZero_19 : decode cX11_isZero 19 = .ok (.lconst 0, 1) := by decide +kernel
theorem dX11_isZero_20 : decode cX11_isZero 20 = .ok (.lcmp, 1) := by decide +kernel
theorem dX11_isZero_21 : decode cX11_isZero 21 = .ok (.ifCond .eq 5, 3) := by decide +kernel
theorem dX11_isZero_24 : decode cX11_isZero 24 = .ok (.iconst 0, 1) := by decide +kernel
theorem dX11_isZero_25 : decode cX11_isZero 25 = .ok (.ireturn, 1) := by decide +kernel
theorem dX11_isZero_26 : decode cX11_isZero 26 = .ok (.iinc 2 1, 3) := by decide +kernel
theorem dX11_isZero_29 : decode cX11_isZero 29 = .ok (.goto (-27), 3) := by decide +kernel
theorem dX11_isZero_32 : decode cX11_isZero 32 = .ok (.iconst 1, 1) := by decide +kernel
theorem dX11_isZero_33 : decode cX11_isZero 33 = .ok (.ireturn, 1) := by decide +kernel
theorem dX11_isEven_0 : decode cX11_isEven 0 = .ok (.aload_n 0, 1) := by decide +kernel
theorem dX11_isEven_1 : decode cX11_isEven 1 = .ok (.getfield 10, 3) := by decide +kernel
theorem dX11_isEven_4 : decode cX11_isEven 4 = .ok (.bipush 10, 2) := by decide +kernel
theorem dX11_isEven_6 : decode cX11_isEven 6 = .ok (.iload_n 1, 1) := by decide +kernel
theorem dX11_isEven_7 : decode cX11_isEven 7 = .ok (.imul, 1) := by decide +kernel
theorem dX11_isEven_8 : decode cX11_isEven 8 = .ok (.laload, 1) := by decide +kernel
theorem dX11_isEven_9 : decode cX11_isEven 9 = .ok (.ldc2_w 79, 3) := by decide +kernel
theorem dX11_isEven_12 : decode cX11_isEven 12 = .ok (.lrem, 1) := by decide +kernel
theorem dX11_isEven_13 : decode cX11_isEven 13 = .ok (.lconst 0, 1) := by decide +kernel
theorem dX11_isEven_14 : decode cX11_isEven 14 = .ok (.lcmp, 1) := by decide +kernel
theorem dX11_isEven_15 : decode cX11_isEven 15 = .ok (.ifCond .ne 7, 3) := by decide +kernel
theorem dX11_isEven_18 : decode cX11_isEven 18 = .ok (.iconst 1, 1) := by decide +kernel
theorem dX11_isEven_19 : decode cX11_isEven 19 = .ok (.goto 4, 3) := by decide +kernel
theorem dX11_isEven_22 : decode cX11_isEven 22 = .ok (.iconst 0, 1) := by decide +kernel
theorem dX11_isEven_23 : decode cX11_isEven 23 = .ok (.ireturn, 1) := by decide +kernel
set_option maxRecDepth 20000 in
theorem ggX11_parted_X11_set : GoodIn wsX11_parted wsX11_set := goodIn_r _ [8, 1, 9, 10, 11, 7, 12, 13, 14, 15, 16, 17, 18, 19, 20, 29, 30, 31, 32, 33, 34, 35, 36, 37, 38, 39, 40, 41, 42, 43, 44, 45, 46, 47, 48, 49] (by decide +kernel) (by decide +kernel)
set_option maxRecDepth 20000 in
theorem gX11_parted_X11_set : GoodIn wsX11_parted (wsV RX11 60 RX11 yX11_set wsX11_set) := goodIn_app (goodIn_of _ (by decide +kernel)) ggX11_parted_X11_set
set_option maxRecDepth 20000 in
theorem ggX11_parted_X11_copy : GoodIn wsX11_parted wsX11_copy := goodIn_r _ [24, 1, 29, 30, 31, 32, 33, 34, 35, 36, 37, 38, 39, 40, 41, 42, 43, 44, 45, 46, 47, 48, 49] (by decide +kernel) (by decide +kernel)
set_option maxRecDepth 20000 in
theorem gX11_parted_X11_copy : GoodIn wsX11_parted (wsV RX11 83 RX11 yX11_copy wsX11_copy) := goodIn_app (goodIn_of _ (by decide +kernel)) ggX11_parted_X11_copy
set_option maxRecDepth 20000 in
theorem ggX11_parted_X11_more : GoodIn wsX11_parted wsX11_more := goodIn_r _ [28, 1, 9, 10, 11, 7, 12, 13, 14, 15, 16, 17, 18, 19, 20, 29, 30, 31, 32, 33, 34, 35, 36, 37, 38, 39, 40, 41, 42, 43, 44, 45, 46, 47, 48, 49] (by decide +kernel) (by decide +kernel)
set_option maxRecDepth 20000 in
theorem gX11_parted_X11_more : GoodIn wsX11_parted (wsV RX11 87 RX11 yX11_more wsX11_more) := goodIn_app (goodIn_of _ (by decide +kernel)) ggX11_parted_X11_more
theorem dX11_parted_0 : decode cX11_parted 0 = .ok (.aload_n 0, 1) := by decide +kernel
theorem dX11_parted_1 : decode cX11_parted 1 = .ok (.iconst 5, 1) := by decide +kernel
theorem dX11_parted_2 : decode cX11_parted 2 = .ok (.lconst 0, 1) := by decide +kernel
theorem dX11_parted_3 : decode cX11_parted 3 = .ok (.invokevirtual 60, 3) := by decide +kernel
theorem dX11_parted_6 : decode cX11_parted 6 = .ok (.aload_n 0, 1) := by decide +kernel
theorem dX11_parted_7 : decode cX11_parted 7 = .ok (.bipush 6, 2) := by decide +kernel
theorem dX11_parted_9 : decode cX11_parted 9 = .ok (.lconst 0, 1) := by decide +kernel
theorem dX11_parted_10 : decode cX11_parted 10 = .ok (.invokevirtual 60, 3) := by decide +kernel
theorem dX11_parted_13 : decode cX11_parted 13 = .ok (.bipush 9, 2) := by decide +kernel
theorem dX11_parted_15 : decode cX11_parted 15 = .ok (.istore_n 3, 1) := by decide +kernel
theorem dX11_parted_16 : decode cX11_parted 16 = .ok (.iload_n 3, 1) := by decide +kernel
theorem dX11_parted_17 : decode cX11_parted 17 = .ok (.ifCond .lt 158, 3) := by decide +kernel
theorem dX11_parted_20 : decode cX11_parted 20 = .ok (.bipush 9, 2) := by decide +kernel
theorem dX11_parted_22 : decode cX11_parted 22 = .ok (.istore 4, 2) := by decide +kernel
theorem dX11_parted_24 : decode cX11_parted 24 = .ok (.iload 4, 2) := by decide +kernel
theorem dX11_parted_26 : decode cX11_parted 26 = .ok (.ifCond .le 31, 3) := by decide +kernel
theorem dX11_parted_29 : decode cX11_parted 29 = .ok (.aload_n 0, 1) := by decide +kernel
theorem dX11_parted_30 : decode cX11_parted 30 = .ok (.getfield 10, 3) := by decide +kernel
theorem dX11_parted_33 : decode cX11_parted 33 = .ok (.bipush 50, 2) := by decide +kernel
theorem dX11_parted_35 : decode cX11_parted 35 = .ok (.iload 4, 2) := by decide +kernel
theorem dX11_parted_37 : decode cX11_parted 37 = .ok (.iadd, 1) := by decide +kernel
theorem dX11_parted_38 : decode cX11_parted 38 = .ok (.aload_n 0, 1) := by decide +kernel
theorem dX11_parted_39 : decode cX11_parted 39 = .ok (.getfield 10, 3) := by decide +kernel
theorem dX11_parted_42 : decode cX11_parted 42 = .ok (.bipush 50, 2) := by decide +kernel
theorem dX11_parted_44 : decode cX11_parted 44 = .ok (.iload 4, 2) := by decide +kernel
theorem dX11_parted_46 : decode cX11_parted 46 = .ok (.iadd, 1) := by decide +kernel
theorem dX11_parted_47 : decode cX11_parted 47 = .ok (.iconst 1, 1) := by decide +kernel
theorem dX11_parted_48 : decode cX11_parted 48 = .ok (.isub, 1) := by decide +kernel
theorem dX11_parted_49 : decode cX11_parted 49 = .ok (.laload, 1) := by decide +kernel
theorem dX11_parted_50 : decode cX11_parted 50 = .ok (.lastore, 1) := by decide +kernel
theorem dX11_parted_51 : decode cX11_parted 51 = .ok (.iinc 4 (-1), 3) := by decide +kernel
theorem dX11_parted_54 : decode cX11_parted 54 = .ok (.goto (-30), 3) := by decide +kernel
theorem dX11_parted_57 : decode cX11_parted 57 = .ok (.aload_n 0, 1) := by decide +kernel
theorem dX11_parted_58 : decode cX11_parted 58 = .ok (.getfield 10, 3) := by decide +kernel
theorem dX11_parted_61 : decode cX11_parted 61 = .ok (.bipush 50, 2) := by decide +kernel
theorem dX11_parted_63 : decode cX11_parted 63 = .ok (.aload_n 0, 1) := by decide +kernel
theorem dX11_parted_64 : decode cX11_parted 64 = .ok (.getfield 10, 3) := by decide +kernel
theorem dX11_parted_67 : decode cX11_parted 67 = .ok (.bipush 10, 2) := by decide +kernel
theorem dX11_parted_69 : decode cX11_parted 69 = .ok (.iload_n 1, 1) := by decide +kernel
theorem dX11_parted_70 : decode cX11_parted 70 = .ok (.imul, 1) := by decide +kernel
theorem dX11_parted_71 : decode cX11_parted 71 = .ok (.iload_n 3, 1) := by decide +kernel
theorem dX11_parted_72 : decode cX11_parted 72 = .ok (.iadd, 1) := by decide +kernel
theorem dX11_parted_73 : decode cX11_parted 73 = .ok (.laload, 1) := by decide +kernel
theorem dX11_parted_74 : decode cX11_parted 74 = .ok (.lastore, 1) := by decide +kernel
theorem dX11_parted_75 : decode cX11_parted 75 = .ok (.lconst 0, 1) := by decide +kernel
theorem dX11_parted_76 : decode cX11_parted 76 = .ok (.lstore 4, 2) := by decide +kernel
theorem dX11_parted_78 : decode cX11_parted 78 = .ok (.ldc2_w 81, 3) := by decide +kernel
theorem dX11_parted_81 : decode cX11_parted 81 = .ok (.lstore 6, 2) := by decide +kernel
theorem dX11_parted_83 : decode cX11_parted 83 = .ok (.lload 4, 2) := by decide +kernel
theorem dX11_parted_85 : decode cX11_parted 85 = .ok (.lload 6, 2) := by decide +kernel
theorem dX11_parted_87 : decode cX11_parted 87 = .ok (.lcmp, 1) := by decide +kernel
theorem dX11_parted_88 : decode cX11_parted 88 = .ok (.ifCond .ge 61, 3) := by decide +kernel
theorem dX11_parted_91 : decode cX11_parted 91 = .ok (.lload 4, 2) := by decide +kernel
theorem dX11_parted_93 : decode cX11_parted 93 = .ok (.lload 6, 2) := by decide +kernel
theorem dX11_parted_95 : decode cX11_parted 95 = .ok (.ladd, 1) := by decide +kernel
theorem dX11_parted_96 : decode cX11_parted 96 = .ok (.lconst 1, 1) := by decide +kernel
theorem dX11_parted_97 : decode cX11_parted 97 = .ok (.ladd, 1) := by decide +kernel
theorem dX11_parted_98 : decode cX11_parted 98 = .ok (.ldc2_w 79, 3) := by decide +kernel
theorem dX11_parted_101 : decode cX11_parted 101 = .ok (.ldiv, 1) := by decide +kernel
theorem dX11_parted_102 : decode cX11_parted 102 = .ok (.lstore 8, 2) := by decide +kernel
theorem dX11_parted_104 : decode cX11_parted 104 = .ok (.aload_n 0, 1) := by decide +kernel
theorem dX11_parted_105 : decode cX11_parted 105 = .ok (.bipush 7, 2) := by decide +kernel
theorem dX11_parted_107 : decode cX11_parted 107 = .ok (.iconst 5, 1) := by decide +kernel
theorem dX11_parted_108 : decode cX11_parted 108 = .ok (.invokevirtual 83, 3) := by decide +kernel
theorem dX11_parted_111 : decode cX11_parted 111 = .ok (.aload_n 0, 1) := by decide +kernel
theorem dX11_parted_112 : decode cX11_parted 112 = .ok (.bipush 7, 2) := by decide +kernel
theorem dX11_parted_114 : decode cX11_parted 114 = .ok (.iload_n 2, 1) := by decide +kernel
theorem dX11_parted_115 : decode cX11_parted 115 = .ok (.lload 8, 2) := by decide +kernel
theorem dX11_parted_117 : decode cX11_parted 117 = .ok (.lneg, 1) := by decide +kernel
theorem dX11_parted_118 : decode cX11_parted 118 = .ok (.invokevirtual 87, 3) := by decide +kernel
theorem dX11_parted_121 : decode cX11_parted 121 = .ok (.aload_n 0, 1) := by decide +kernel
theorem dX11_parted_122 : decode cX11_parted 122 = .ok (.getfield 10, 3) := by decide +kernel
theorem dX11_parted_125 : decode cX11_parted 125 = .ok (.bipush 79, 2) := by decide +kernel
theorem dX11_parted_127 : decode cX11_parted 127 = .ok (.laload, 1) := by decide +kernel
theorem dX11_parted_128 : decode cX11_parted 128 = .ok (.lconst 0, 1) := by decide +kernel
theorem dX11_parted_129 : decode cX11_parted 129 = .ok (.lcmp, 1) := by decide +kernel
theorem dX11_parted_130 : decode cX11_parted 130 = .ok (.ifCond .ge 12, 3) := by decide +kernel
theorem dX11_parted_133 : decode cX11_parted 133 = .ok (.lload 8, 2) := by decide +kernel
theorem dX11_parted_135 : decode cX11_parted 135 = .ok (.lconst 1, 1) := by decide +kernel
theorem dX11_parted_136 : decode cX11_parted 136 = .ok (.lsub, 1) := by decide +kernel
theorem dX11_parted_137 : decode cX11_parted 137 = .ok (.lstore 6, 2) := by decide +kernel
theorem dX11_parted_139 : decode cX11_parted 139 = .ok (.goto 7, 3) := by decide +kernel
theorem dX11_parted_142 : decode cX11_parted 142 = .ok (.lload 8, 2) := by decide +kernel
theorem dX11_parted_144 : decode cX11_parted 144 = .ok (.lstore 4, 2) := by decide +kernel
theorem dX11_parted_146 : decode cX11_parted 146 = .ok (.goto (-63), 3) := by decide +kernel
theorem dX11_parted_149 : decode cX11_parted 149 = .ok (.aload_n 0, 1) := by decide +kernel
theorem dX11_parted_150 : decode cX11_parted 150 = .ok (.iconst 5, 1) := by decide +kernel
theorem dX11_parted_151 : decode cX11_parted 151 = .ok (.iload_n 2, 1) := by decide +kernel
theorem dX11_parted_152 : decode cX11_parted 152 = .ok (.lload 4, 2) := by decide +kernel
theorem dX11_parted_154 : decode cX11_parted 154 = .ok (.lneg, 1) := by decide +kernel
theorem dX11_parted_155 : decode cX11_parted 155 = .ok (.invokevirtual 87, 3) := by decide +kernel
theorem dX11_parted_158 : decode cX11_parted 158 = .ok (.aload_n 0, 1) := by decide +kernel
theorem dX11_parted_159 : decode cX11_parted 159 = .ok (.getfield 10, 3) := by decide +kernel
theorem dX11_parted_162 : decode cX11_parted 162 = .ok (.bipush 60, 2) := by decide +kernel
theorem dX11_parted_164 : decode cX11_parted 164 = .ok (.iload_n 3, 1) := by decide +kernel
theorem dX11_parted_165 : decode cX11_parted 165 = .ok (.iadd, 1) := by decide +kernel
theorem dX11_parted_166 : decode cX11_parted 166 = .ok (.lload 4, 2) := by decide +kernel
theorem dX11_parted_168 : decode cX11_parted 168 = .ok (.lastore, 1) := by decide +kernel
theorem dX11_parted_169 : decode cX11_parted 169 = .ok (.iinc 3 (-1), 3) := by decide +kernel
theorem dX11_parted_172 : decode cX11_parted 172 = .ok (.goto (-156), 3) := by decide +kernel
theorem dX11_parted_175 : decode cX11_parted 175 = .ok (.aload_n 0, 1) := by decide +kernel
theorem dX11_parted_176 : decode cX11_parted 176 = .ok (.iload_n 1, 1) := by decide +kernel
theorem dX11_parted_177 : decode cX11_parted 177 = .ok (.bipush 6, 2) := by decide +kernel
theorem dX11_parted_179 : decode cX11_parted 179 = .ok (.invokevirtual 83, 3) := by decide +kernel
theorem dX11_parted_182 : decode cX11_parted 182 = .ok (.return_, 1) := by decide +kernel
set_option maxRecDepth 20000 in
theorem ggX11_result_X11_copy : GoodIn wsX11_result wsX11_copy := goodIn_r _ [8, 1, 54, 55, 56, 57, 58, 59, 60, 61, 62, 63, 64, 65, 66, 67, 68, 69, 70, 71, 72, 73, 74] (by decide +kernel) (by decide +kernel)
set_option maxRecDepth 20000 in
theorem gX11_result_X11_copy : GoodIn wsX11_result (wsV RX11 83 RX11 yX11_copy wsX11_copy) := goodIn_app (goodIn_of _ (by decide +kernel)) ggX11_result_X11_copy
set_option maxRecDepth 20000 in
theorem ggX11_result_X11_times : GoodIn wsX11_result wsX11_times := goodIn_r _ [12, 1, 13, 14, 15, 7, 16, 17, 18, 19, 20, 21, 22, 23, 24, 54, 55, 56, 57, 58, 59, 60, 61, 62, 63, 64, 65, 66, 67, 68, 69, 70, 71, 72, 73, 74] (by decide +kernel) (by decide +kernel)
set_option maxRecDepth 20000 in
theorem gX11_result_X11_times : GoodIn wsX11_result (wsV RX11 93 RX11 yX11_times wsX11_times) := goodIn_app (goodIn_of _ (by decide +kernel)) ggX11_result_X11_times
set_option maxRecDepth 20000 in
theorem ggX11_result_X11_isZero : GoodIn wsX11_result wsX11_isZero := goodIn_r _ [28, 1, 54, 55, 56, 57, 58, 59, 60, 61, 62, 63, 64, 65, 66, 67, 68, 69, 70, 71, 72, 73, 74] (by decide +kernel) (by decide +kernel)
set_option maxRecDepth 20000 in
theorem gX11_result_X11_isZero : GoodIn wsX11_result (wsV RX11 96 RX11 yX11_isZero wsX11_isZero) := goodIn_app (goodIn_of _ (by decide +kernel)) ggX11_result_X11_isZero
set_option maxRecDepth 20000 in
theorem ggX11_result_X11_set : GoodIn wsX11_result wsX11_set := goodIn_r _ [32, 1, 13, 14, 15, 7, 16, 17, 18, 19, 20, 21, 22, 23, 24, 54, 55, 56, 57, 58, 59, 60, 61, 62, 63, 64, 65, 66, 67, 68, 69, 70, 71, 72, 73, 74] (by decide +kernel) (by decide +kernel)
set_option maxRecDepth 20000 in
theorem gX11_result_X11_set : GoodIn wsX11_result (wsV RX11 60 RX11 yX11_set wsX11_set) := goodIn_app (goodIn_of _ (by decide +kernel)) ggX11_result_X11_set
set_option maxRecDepth 20000 in
theorem ggX11_result_X11_isEven : GoodIn wsX11_result wsX11_isEven := goodIn_r _ [36, 1, 3, 54, 55, 56, 57, 58, 59, 60, 61, 62, 63, 64, 65, 66, 67, 68, 69, 70, 71, 72, 73, 74] (by decide +kernel) (by decide +kernel)
set_option maxRecDepth 20000 in
theorem gX11_result_X11_isEven : GoodIn wsX11_result (wsV RX11 100 RX11 yX11_isEven wsX11_isEven) := goodIn_app (goodIn_of _ (by decide +kernel)) ggX11_result_X11_isEven
set_option maxRecDepth 20000 in
theorem ggX11_result_X11_over : GoodIn wsX11_result wsX11_over := goodIn_r _ [40, 17, 1, 54, 55, 56, 57, 58, 59, 60, 61, 62, 63, 64, 65, 66, 67, 68, 69, 70, 71, 72, 73, 74] (by decide +kernel) (by decide +kernel)
set_option maxRecDepth 20000 in
theorem gX11_result_X11_over : GoodIn wsX11_result (wsV RX11 103 RX11 yX11_over wsX11_over) := goodIn_app (goodIn_of _ (by decide +kernel)) ggX11_result_X11_over
set_option maxRecDepth 20000 in
theorem ggX11_result_X11_compared : GoodIn wsX11_result wsX11_compared := goodIn_r _ [44, 1, 54, 55, 56, 57, 58, 59, 60, 61, 62, 63, 64, 65, 66, 67, 68, 69, 70, 71, 72, 73, 74] (by decide +kernel) (by decide +kernel)
set_option maxRecDepth 20000 in
theorem gX11_result_X11_compared : GoodIn wsX11_result (wsV RX11 106 RX11 yX11_compared wsX11_compared) := goodIn_app (goodIn_of _ (by decide +kernel)) ggX11_result_X11_compared
set_option maxRecDepth 20000 in
theorem ggX11_result_X11_more : GoodIn wsX11_result wsX11_more := goodIn_r _ [48, 1, 13, 14, 15, 7, 16, 17, 18, 19, 20, 21, 22, 23, 24, 54, 55, 56, 57, 58, 59, 60, 61, 62, 63, 64, 65, 66, 67, 68, 69, 70, 71, 72, 73, 74] (by decide +kernel) (by decide +kernel)
set_option maxRecDepth 20000 in
theorem gX11_result_X11_more : GoodIn wsX11_result (wsV RX11 87 RX11 yX11_more wsX11_more) := goodIn_app (goodIn_of _ (by decide +kernel)) ggX11_result_X11_more
set_option maxRecDepth 20000 in
theorem ggX11_result_X11_parted : GoodIn wsX11_result wsX11_parted := goodIn_r _ [52, 1, 53, 3, 29, 30, 31, 7, 32, 13, 14, 15, 16, 17, 18, 19, 20, 21, 22, 23, 24, 4, 5, 6, 8, 45, 46, 47, 48, 54, 55, 56, 57, 58, 59, 60, 61, 62, 63, 64, 65, 66, 67, 68, 69, 70, 71, 72, 73, 74] (by decide +kernel) (by decide +kernel)
set_option maxRecDepth 20000 in
theorem gX11_result_X11_parted : GoodIn wsX11_result (wsV RX11 110 RX11 yX11_parted wsX11_parted) := goodIn_app (goodIn_of _ (by decide +kernel)) ggX11_result_X11_parted
theorem dX11_result_0 : decode cX11_result 0 = .ok (.aload_n 0, 1) := by decide +kernel
theorem dX11_result_1 : decode cX11_result 1 = .ok (.iconst 0, 1) := by decide +kernel
theorem dX11_result_2 : decode cX11_result 2 = .ok (.iload_n 1, 1) := by decide +kernel
theorem dX11_result_3 : decode cX11_result 3 = .ok (.invokevirtual 83, 3) := by decide +kernel
theorem dX11_result_6 : decode cX11_result 6 = .ok (.aload_n 0, 1) := by decide +kernel
theorem dX11_result_7 : decode cX11_result 7 = .ok (.iconst 1, 1) := by decide +kernel
theorem dX11_result_8 : decode cX11_result 8 = .ok (.iload_n 2, 1) := by decide +kernel
theorem dX11_result_9 : decode cX11_result 9 = .ok (.invokevirtual 83, 3) := by decide +kernel
theorem dX11_result_12 : decode cX11_result 12 = .ok (.aload_n 0, 1) := by decide +kernel
theorem dX11_result_13 : decode cX11_result 13 = .ok (.getfield 10, 3) := by decide +kernel
theorem dX11_result_16 : decode cX11_result 16 = .ok (.bipush 9, 2) := by decide +kernel
theorem dX11_result_18 : decode cX11_result 18 = .ok (.laload, 1) := by decide +kernel
theorem dX11_result_19 : decode cX11_result 19 = .ok (.lconst 0, 1) := by decide +kernel
theorem dX11_result_20 : decode cX11_result 20 = .ok (.lcmp, 1) := by decide +kernel
theorem dX11_result_21 : decode cX11_result 21 = .ok (.ifCond .ge 7, 3) := by decide +kernel
theorem dX11_result_24 : decode cX11_result 24 = .ok (.iconst 1, 1) := by decide +kernel
theorem dX11_result_25 : decode cX11_result 25 = .ok (.goto 4, 3) := by decide +kernel
theorem dX11_result_28 : decode cX11_result 28 = .ok (.iconst 0, 1) := by decide +kernel
theorem dX11_result_29 : decode cX11_result 29 = .ok (.istore_n 3, 1) := by decide +kernel
theorem dX11_result_30 : decode cX11_result 30 = .ok (.iload_n 3, 1) := by decide +kernel
theorem dX11_result_31 : decode cX11_result 31 = .ok (.ifCond .eq 11, 3) := by decide +kernel
theorem dX11_result_34 : decode cX11_result 34 = .ok (.aload_n 0, 1) := by decide +kernel
theorem dX11_result_35 : decode cX11_result 35 = .ok (.iconst 0, 1) := by decide +kernel
theorem dX11_result_36 : decode cX11_result 36 = .ok (.ldc2_w 91, 3) := by decide +kernel
theorem dX11_result_39 : decode cX11_result 39 = .ok (.invokevirtual 93, 3) := by decide +kernel
theorem dX11_result_42 : decode cX11_result 42 = .ok (.aload_n 0, 1) := by decide +kernel
theorem dX11_result_43 : decode cX11_result 43 = .ok (.iconst 0, 1) := by decide +kernel
theorem dX11_result_44 : decode cX11_result 44 = .ok (.invokevirtual 96, 3) := by decide +kernel
theorem dX11_result_47 : decode cX11_result 47 = .ok (.ifCond .eq 10, 3) := by decide +kernel
theorem dX11_result_50 : decode cX11_result 50 = .ok (.aload_n 0, 1) := by decide +kernel
theorem dX11_result_51 : decode cX11_result 51 = .ok (.iconst 1, 1) := by decide +kernel
theorem dX11_result_52 : decode cX11_result 52 = .ok (.lconst 1, 1) := by decide +kernel
theorem dX11_result_53 : decode cX11_result 53 = .ok (.invokevirtual 60, 3) := by decide +kernel
theorem dX11_result_56 : decode cX11_result 56 = .ok (.return_, 1) := by decide +kernel
theorem dX11_result_57 : decode cX11_result 57 = .ok (.aload_n 0, 1) := by decide +kernel
theorem dX11_result_58 : decode cX11_result 58 = .ok (.iconst 2, 1) := by decide +kernel
theorem dX11_result_59 : decode cX11_result 59 = .ok (.iconst 0, 1) := by decide +kernel
theorem dX11_result_60 : decode cX11_result 60 = .ok (.invokevirtual 83, 3) := by decide +kernel
theorem dX11_result_63 : decode cX11_result 63 = .ok (.aload_n 0, 1) := by decide +kernel
theorem dX11_result_64 : decode cX11_result 64 = .ok (.iconst 3, 1) := by decide +kernel
theorem dX11_result_65 : decode cX11_result 65 = .ok (.iconst 1, 1) := by decide +kernel
theorem dX11_result_66 : decode cX11_result 66 = .ok (.invokevirtual 83, 3) := by decide +kernel
theorem dX11_result_69 : decode cX11_result 69 = .ok (.iconst 0, 1) := by decide +kernel
theorem dX11_result_70 : decode cX11_result 70 = .ok (.istore 4, 2) := by decide +kernel
theorem dX11_result_72 : decode cX11_result 72 = .ok (.aload_n 0, 1) := by decide +kernel
theorem dX11_result_73 : decode cX11_result 73 = .ok (.iconst 2, 1) := by decide +kernel
theorem dX11_result_74 : decode cX11_result 74 = .ok (.invokevirtual 100, 3) := by decide +kernel
theorem dX11_result_77 : decode cX11_result 77 = .ok (.ifCond .eq 33, 3) := by decide +kernel
theorem dX11_result_80 : decode cX11_result 80 = .ok (.aload_n 0, 1) := by decide +kernel
theorem dX11_result_81 : decode cX11_result 81 = .ok (.iconst 3, 1) := by decide +kernel
theorem dX11_result_82 : decode cX11_result 82 = .ok (.invokevirtual 100, 3) := by decide +kernel
theorem dX11_result_85 : decode cX11_result 85 = .ok (.ifCond .eq 25, 3) := by decide +kernel
theorem dX11_result_88 : decode cX11_result 88 = .ok (.aload_n 0, 1) := by decide +kernel
theorem dX11_result_89 : decode cX11_result 89 = .ok (.iconst 2, 1) := by decide +kernel
theorem dX11_result_90 : decode cX11_result 90 = .ok (.ldc2_w 79, 3) := by decide +kernel
theorem dX11_result_93 : decode cX11_result 93 = .ok (.invokevirtual 103, 3) := by decide +kernel
theorem dX11_result_96 : decode cX11_result 96 = .ok (.aload_n 0, 1) := by decide +kernel
theorem dX11_result_97 : decode cX11_result 97 = .ok (.iconst 3, 1) := by decide +kernel
theorem dX11_result_98 : decode cX11_result 98 = .ok (.ldc2_w 79, 3) := by decide +kernel
theorem dX11_result_101 : decode cX11_result 101 = .ok (.invokevirtual 103, 3) := by decide +kernel
theorem dX11_result_104 : decode cX11_result 104 = .ok (.iinc 4 1, 3) := by decide +kernel
theorem dX11_result_107 : decode cX11_result 107 = .ok (.goto (-35), 3) := by decide +kernel
theorem dX11_result_110 : decode cX11_result 110 = .ok (.aload_n 0, 1) := by decide +kernel
theorem dX11_result_111 : decode cX11_result 111 = .ok (.iconst 2, 1) := by decide +kernel
theorem dX11_result_112 : decode cX11_result 112 = .ok (.invokevirtual 96, 3) := by decide +kernel
theorem dX11_result_115 : decode cX11_result 115 = .ok (.ifCond .ne 74, 3) := by decide +kernel
theorem dX11_result_118 : decode cX11_result 118 = .ok (.aload_n 0, 1) := by decide +kernel
theorem dX11_result_119 : decode cX11_result 119 = .ok (.iconst 2, 1) := by decide +kernel
theorem dX11_result_120 : decode cX11_result 120 = .ok (.invokevirtual 100, 3) := by decide +kernel
theorem dX11_result_123 : decode cX11_result 123 = .ok (.ifCond .eq 14, 3) := by decide +kernel
theorem dX11_result_126 : decode cX11_result 126 = .ok (.aload_n 0, 1) := by decide +kernel
theorem dX11_result_127 : decode cX11_result 127 = .ok (.iconst 2, 1) := by decide +kernel
theorem dX11_result_128 : decode cX11_result 128 = .ok (.ldc2_w 79, 3) := by decide +kernel
theorem dX11_result_131 : decode cX11_result 131 = .ok (.invokevirtual 103, 3) := by decide +kernel
theorem dX11_result_134 : decode cX11_result 134 = .ok (.goto (-16), 3) := by decide +kernel
theorem dX11_result_137 : decode cX11_result 137 = .ok (.aload_n 0, 1) := by decide +kernel
theorem dX11_result_138 : decode cX11_result 138 = .ok (.iconst 3, 1) := by decide +kernel
theorem dX11_result_139 : decode cX11_result 139 = .ok (.invokevirtual 100, 3) := by decide +kernel
theorem dX11_result_142 : decode cX11_result 142 = .ok (.ifCond .eq 14, 3) := by decide +kernel
theorem dX11_result_145 : decode cX11_result 145 = .ok (.aload_n 0, 1) := by decide +kernel
theorem dX11_result_146 : decode cX11_result 146 = .ok (.iconst 3, 1) := by decide +kernel
theorem dX11_result_147 : decode cX11_result 147 = .ok (.ldc2_w 79, 3) := by decide +kernel
theorem dX11_result_150 : decode cX11_result 150 = .ok (.invokevirtual 103, 3) := by decide +kernel
theorem dX11_result_153 : decode cX11_result 153 = .ok (.goto (-16), 3) := by decide +kernel
theorem dX11_result_156 : decode cX11_result 156 = .ok (.aload_n 0, 1) := by decide +kernel
theorem dX11_result_157 : decode cX11_result 157 = .ok (.iconst 2, 1) := by decide +kernel
theorem dX11_result_158 : decode cX11_result 158 = .ok (.iconst 3, 1) := by decide +kernel
theorem dX11_result_159 : decode cX11_result 159 = .ok (.invokevirtual 106, 3) := by decide +kernel
theorem dX11_result_162 : decode cX11_result 162 = .ok (.ifCond .lt 15, 3) := by decide +kernel
theorem dX11_result_165 : decode cX11_result 165 = .ok (.aload_n 0, 1) := by decide +kernel
theorem dX11_result_166 : decode cX11_result 166 = .ok (.iconst 2, 1) := by decide +kernel
theorem dX11_result_167 : decode cX11_result 167 = .ok (.iconst 3, 1) := by decide +kernel
theorem dX11_result_168 : decode cX11_result 168 = .ok (.ldc2_w 91, 3) := by decide +kernel
theorem dX11_result_171 : decode cX11_result 171 = .ok (.invokevirtual 87, 3) := by decide +kernel
theorem dX11_result_174 : decode cX11_result 174 = .ok (.goto (-64), 3) := by decide +kernel
theorem dX11_result_177 : decode cX11_result 177 = .ok (.aload_n 0, 1) := by decide +kernel
theorem dX11_result_178 : decode cX11_result 178 = .ok (.iconst 3, 1) := by decide +kernel
theorem dX11_result_179 : decode cX11_result 179 = .ok (.iconst 2, 1) := by decide +kernel
theorem dX11_result_180 : decode cX11_result 180 = .ok (.ldc2_w 91, 3) := by decide +kernel
theorem dX11_result_183 : decode cX11_result 183 = .ok (.invokevirtual 87, 3) := by decide +kernel
theorem dX11_result_186 : decode cX11_result 186 = .ok (.goto (-76), 3) := by decide +kernel
theorem dX11_result_189 : decode cX11_result 189 = .ok (.iconst 0, 1) := by decide +kernel
theorem dX11_result_190 : decode cX11_result 190 = .ok (.istore 5, 2) := by decide +kernel
theorem dX11_result_192 : decode cX11_result 192 = .ok (.iload 5, 2) := by decide +kernel
theorem dX11_result_194 : decode cX11_result 194 = .ok (.iload 4, 2) := by decide +kernel
theorem dX11_result_196 : decode cX11_result 196 = .ok (.if_icmp .ge 17, 3) := by decide +kernel
theorem dX11_result_199 : decode cX11_result 199 = .ok (.aload_n 0, 1) := by decide +kernel
theorem dX11_result_200 : decode cX11_result 200 = .ok (.iconst 3, 1) := by decide +kernel
theorem dX11_result_201 : decode cX11_result 201 = .ok (.ldc2_w 79, 3) := by decide +kernel
theorem dX11_result_204 : decode cX11_result 204 = .ok (.invokevirtual 93, 3) := by decide +kernel
theorem dX11_result_207 : decode cX11_result 207 = .ok (.iinc 5 1, 3) := by decide +kernel
theorem dX11_result_210 : decode cX11_result 210 = .ok (.goto (-18), 3) := by decide +kernel
theorem dX11_result_213 : decode cX11_result 213 = .ok (.aload_n 0, 1) := by decide +kernel
theorem dX11_result_214 : decode cX11_result 214 = .ok (.iconst 4, 1) := by decide +kernel
theorem dX11_result_215 : decode cX11_result 215 = .ok (.iconst 3, 1) := by decide +kernel
theorem dX11_result_216 : decode cX11_result 216 = .ok (.invokevirtual 83, 3) := by decide +kernel
theorem dX11_result_219 : decode cX11_result 219 = .ok (.aload_n 0, 1) := by decide +kernel
theorem dX11_result_220 : decode cX11_result 220 = .ok (.iconst 0, 1) := by decide +kernel
theorem dX11_result_221 : decode cX11_result 221 = .ok (.iconst 4, 1) := by decide +kernel
theorem dX11_result_222 : decode cX11_result 222 = .ok (.invokevirtual 110, 3) := by decide +kernel
theorem dX11_result_225 : decode cX11_result 225 = .ok (.aload_n 0, 1) := by decide +kernel
theorem dX11_result_226 : decode cX11_result 226 = .ok (.iconst 1, 1) := by decide +kernel
theorem dX11_result_227 : decode cX11_result 227 = .ok (.iconst 4, 1) := by decide +kernel
theorem dX11_result_228 : decode cX11_result 228 = .ok (.invokevirtual 110, 3) := by decide +kernel
theorem dX11_result_231 : decode cX11_result 231 = .ok (.iload_n 3, 1) := by decide +kernel
theorem dX11_result_232 : decode cX11_result 232 = .ok (.ifCond .eq 11, 3) := by decide +kernel
theorem dX11_result_235 : decode cX11_result 235 = .ok (.aload_n 0, 1) := by decide +kernel
theorem dX11_result_236 : decode cX11_result 236 = .ok (.iconst 0, 1) := by decide +kernel
theorem dX11_result_237 : decode cX11_result 237 = .ok (.ldc2_w 91, 3) := by decide +kernel
theorem dX11_result_240 : decode cX11_result 240 = .ok (.invokevirtual 93, 3) := by decide +kernel
theorem dX11_result_243 : decode cX11_result 243 = .ok (.return_, 1) := by decide +kernel
theorem dX11_isSlot_0 : decode cX11_isSlot 0 = .ok (.iload_n 0, 1) := by decide +kernel
theorem dX11_isSlot_1 : decode cX11_isSlot 1 = .ok (.ifCond .lt 13, 3) := by decide +kernel
theorem dX11_isSlot_4 : decode cX11_isSlot 4 = .ok (.iload_n 0, 1) := by decide +kernel
theorem dX11_isSlot_5 : decode cX11_isSlot 5 = .ok (.bipush 9, 2) := by decide +kernel
theorem dX11_isSlot_7 : decode cX11_isSlot 7 = .ok (.if_icmp .gt 7, 3) := by decide +kernel
theorem dX11_isSlot_10 : decode cX11_isSlot 10 = .ok (.iconst 1, 1) := by decide +kernel
theorem dX11_isSlot_11 : decode cX11_isSlot 11 = .ok (.goto 4, 3) := by decide +kernel
theorem dX11_isSlot_14 : decode cX11_isSlot 14 = .ok (.iconst 0, 1) := by decide +kernel
theorem dX11_isSlot_15 : decode cX11_isSlot 15 = .ok (.ireturn, 1) := by decide +kernel
set_option maxRecDepth 20000 in
theorem ggX11_row_X11_isSlot : GoodIn wsX11_row wsX11_isSlot := goodIn_r _ [7] (by decide +kernel) (by decide +kernel)
set_option maxRecDepth 20000 in
theorem gX11_row_X11_isSlot : GoodIn wsX11_row (va_wsS RX11 113 yX11_isSlot wsX11_isSlot) := goodIn_app (goodIn_of _ (by decide +kernel)) ggX11_row_X11_isSlot
theorem dX11_row_0 : decode cX11_row 0 = .ok (.iload_n 1, 1) := by decide +kernel
theorem dX11_row_1 : decode cX11_row 1 = .ok (.invokestatic 113, 3) := by decide +kernel
theorem dX11_row_4 : decode cX11_row 4 = .ok (.ifCond .eq 18, 3) := by decide +kernel
theorem dX11_row_7 : decode cX11_row 7 = .ok (.iload_n 2, 1) := by decide +kernel
theorem dX11_row_8 : decode cX11_row 8 = .ok (.ifCond .lt 14, 3) := by decide +kernel
theorem dX11_row_11 : decode cX11_row 11 = .ok (.iload_n 2, 1) := by decide +kernel
theorem dX11_row_12 : decode cX11_row 12 = .ok (.iconst 3, 1) := by decide +kernel
theorem dX11_row_13 : decode cX11_row 13 = .ok (.if_icmp .gt 9, 3) := by decide +kernel
theorem dX11_row_16 : decode cX11_row 16 = .ok (.iload_n 3, 1) := by decide +kernel
theorem dX11_row_17 : decode cX11_row 17 = .ok (.bipush 40, 2) := by decide +kernel
theorem dX11_row_19 : decode cX11_row 19 = .ok (.if_icmp .le 6, 3) := by decide +kernel
theorem dX11_row_22 : decode cX11_row 22 = .ok (.bipush (-2), 2) := by decide +kernel
theorem dX11_row_24 : decode cX11_row 24 = .ok (.ireturn, 1) := by decide +kernel
theorem dX11_row_25 : decode cX11_row 25 = .ok (.iload_n 3, 1) := by decide +kernel
theorem dX11_row_26 : decode cX11_row 26 = .ok (.ifCond .ge 6, 3) := by decide +kernel
theorem dX11_row_29 : decode cX11_row 29 = .ok (.bipush (-3), 2) := by decide +kernel
theorem dX11_row_31 : decode cX11_row 31 = .ok (.ireturn, 1) := by decide +kernel
theorem dX11_row_32 : decode cX11_row 32 = .ok (.aload_n 0, 1) := by decide +kernel
theorem dX11_row_33 : decode cX11_row 33 = .ok (.getfield 14, 3) := by decide +kernel
theorem dX11_row_36 : decode cX11_row 36 = .ok (.iload_n 1, 1) := by decide +kernel
theorem dX11_row_37 : decode cX11_row 37 = .ok (.iload_n 3, 1) := by decide +kernel
theorem dX11_row_38 : decode cX11_row 38 = .ok (.iconst 1, 1) := by decide +kernel
theorem dX11_row_39 : decode cX11_row 39 = .ok (.iadd, 1) := by decide +kernel
theorem dX11_row_40 : decode cX11_row 40 = .ok (.iastore, 1) := by decide +kernel
theorem dX11_row_41 : decode cX11_row 41 = .ok (.aload_n 0, 1) := by decide +kernel
theorem dX11_row_42 : decode cX11_row 42 = .ok (.getfield 18, 3) := by decide +kernel
theorem dX11_row_45 : decode cX11_row 45 = .ok (.iload_n 1, 1) := by decide +kernel
theorem dX11_row_46 : decode cX11_row 46 = .ok (.iload_n 2, 1) := by decide +kernel
theorem dX11_row_47 : decode cX11_row 47 = .ok (.iastore, 1) := by decide +kernel
theorem dX11_row_48 : decode cX11_row 48 = .ok (.iconst 0, 1) := by decide +kernel
theorem dX11_row_49 : decode cX11_row 49 = .ok (.istore 4, 2) := by decide +kernel
theorem dX11_row_51 : decode cX11_row 51 = .ok (.iload 4, 2) := by decide +kernel
theorem dX11_row_53 : decode cX11_row 53 = .ok (.iload_n 3, 1) := by decide +kernel
theorem dX11_row_54 : decode cX11_row 54 = .ok (.if_icmp .ge 22, 3) := by decide +kernel
theorem dX11_row_57 : decode cX11_row 57 = .ok (.aload_n 0, 1) := by decide +kernel
theorem dX11_row_58 : decode cX11_row 58 = .ok (.getfield 21, 3) := by decide +kernel
theorem dX11_row_61 : decode cX11_row 61 = .ok (.bipush 40, 2) := by decide +kernel
theorem dX11_row_63 : decode cX11_row 63 = .ok (.iload_n 1, 1) := by decide +kernel
theorem dX11_row_64 : decode cX11_row 64 = .ok (.imul, 1) := by decide +kernel
theorem dX11_row_65 : decode cX11_row 65 = .ok (.iload 4, 2) := by decide +kernel
theorem dX11_row_67 : decode cX11_row 67 = .ok (.iadd, 1) := by decide +kernel
theorem dX11_row_68 : decode cX11_row 68 = .ok (.lconst 0, 1) := by decide +kernel
theorem dX11_row_69 : decode cX11_row 69 = .ok (.lastore, 1) := by decide +kernel
theorem dX11_row_70 : decode cX11_row 70 = .ok (.iinc 4 1, 3) := by decide +kernel
theorem dX11_row_73 : decode cX11_row 73 = .ok (.goto (-22), 3) := by decide +kernel
theorem dX11_row_76 : decode cX11_row 76 = .ok (.iconst 0, 1) := by decide +kernel
theorem dX11_row_77 : decode cX11_row 77 = .ok (.ireturn, 1) := by decide +kernel
set_option maxRecDepth 20000 in
theorem ggX11_tear_X11_isSlot : GoodIn wsX11_tear wsX11_isSlot := goodIn_r _ [5] (by decide +kernel) (by decide +kernel)
set_option maxRecDepth 20000 in
theorem gX11_tear_X11_isSlot : GoodIn wsX11_tear (va_wsS RX11 113 yX11_isSlot wsX11_isSlot) := goodIn_app (goodIn_of _ (by decide +kernel)) ggX11_tear_X11_isSlot
theorem dX11_tear_0 : decode cX11_tear 0 = .ok (.iload_n 1, 1) := by decide +kernel
theorem dX11_tear_1 : decode cX11_tear 1 = .ok (.invokestatic 113, 3) := by decide +kernel
theorem dX11_tear_4 : decode cX11_tear 4 = .ok (.ifCond .eq 12, 3) := by decide +kernel
theorem dX11_tear_7 : decode cX11_tear 7 = .ok (.aload_n 0, 1) := by decide +kernel
theorem dX11_tear_8 : decode cX11_tear 8 = .ok (.getfield 14, 3) := by decide +kernel
theorem dX11_tear_11 : decode cX11_tear 11 = .ok (.iload_n 1, 1) := by decide +kernel
theorem dX11_tear_12 : decode cX11_tear 12 = .ok (.iaload, 1) := by decide +kernel
theorem dX11_tear_13 : decode cX11_tear 13 = .ok (.ifCond .ne 5, 3) := by decide +kernel
theorem dX11_tear_16 : decode cX11_tear 16 = .ok (.iconst 0, 1) := by decide +kernel
theorem dX11_tear_17 : decode cX11_tear 17 = .ok (.ireturn, 1) := by decide +kernel
theorem dX11_tear_18 : decode cX11_tear 18 = .ok (.aload_n 0, 1) := by decide +kernel
theorem dX11_tear_19 : decode cX11_tear 19 = .ok (.getfield 14, 3) := by decide +kernel
theorem dX11_tear_22 : decode cX11_tear 22 = .ok (.iload_n 1, 1) := by decide +kernel
theorem dX11_tear_23 : decode cX11_tear 23 = .ok (.iconst 0, 1) := by decide +kernel
theorem dX11_tear_24 : decode cX11_tear 24 = .ok (.iastore, 1) := by decide +kernel
theorem dX11_tear_25 : decode cX11_tear 25 = .ok (.iconst 1, 1) := by decide +kernel
theorem dX11_tear_26 : decode cX11_tear 26 = .ok (.ireturn, 1) := by decide +kernel
set_option maxRecDepth 20000 in
theorem ggX11_write_X11_isSlot : GoodIn wsX11_write wsX11_isSlot := goodIn_r _ [7] (by decide +kernel) (by decide +kernel)
set_option maxRecDepth 20000 in
theorem gX11_write_X11_isSlot : GoodIn wsX11_write (va_wsS RX11 113 yX11_isSlot wsX11_isSlot) := goodIn_app (goodIn_of _ (by decide +kernel)) ggX11_write_X11_isSlot
theorem dX11_write_0 : decode cX11_write 0 = .ok (.iload_n 1, 1) := by decide +kernel
theorem dX11_write_1 : decode cX11_write 1 = .ok (.invokestatic 113, 3) := by decide +kernel
theorem dX11_write_4 : decode cX11_write 4 = .ok (.ifCond .ne 6, 3) := by decide +kernel
theorem dX11_write_7 : decode cX11_write 7 = .ok (.bipush (-2), 2) := by decide +kernel
theorem dX11_write_9 : decode cX11_write 9 = .ok (.ireturn, 1) := by decide +kernel
theorem dX11_write_10 : decode cX11_write 10 = .ok (.aload_n 0, 1) := by decide +kernel
theorem dX11_write_11 : decode cX11_write 11 = .ok (.getfield 14, 3) := by decide +kernel
theorem dX11_write_14 : decode cX11_write 14 = .ok (.iload_n 1, 1) := by decide +kernel
theorem dX11_write_15 : decode cX11_write 15 = .ok (.iaload, 1) := by decide +kernel
theorem dX11_write_16 : decode cX11_write 16 = .ok (.ifCond .ne 6, 3) := by decide +kernel
theorem dX11_write_19 : decode cX11_write 19 = .ok (.bipush (-5), 2) := by decide +kernel
theorem dX11_write_21 : decode cX11_write 21 = .ok (.ireturn, 1) := by decide +kernel
theorem dX11_write_22 : decode cX11_write 22 = .ok (.iload_n 2, 1) := by decide +kernel
theorem dX11_write_23 : decode cX11_write 23 = .ok (.ifCond .lt 15, 3) := by decide +kernel
theorem dX11_write_26 : decode cX11_write 26 = .ok (.iload_n 2, 1) := by decide +kernel
theorem dX11_write_27 : decode cX11_write 27 = .ok (.aload_n 0, 1) := by decide +kernel
theorem dX11_write_28 : decode cX11_write 28 = .ok (.getfield 14, 3) := by decide +kernel
theorem dX11_write_31 : decode cX11_write 31 = .ok (.iload_n 1, 1) := by decide +kernel
theorem dX11_write_32 : decode cX11_write 32 = .ok (.iaload, 1) := by decide +kernel
theorem dX11_write_33 : decode cX11_write 33 = .ok (.iconst 1, 1) := by decide +kernel
theorem dX11_write_34 : decode cX11_write 34 = .ok (.isub, 1) := by decide +kernel
theorem dX11_write_35 : decode cX11_write 35 = .ok (.if_icmp .lt 6, 3) := by decide +kernel
theorem dX11_write_38 : decode cX11_write 38 = .ok (.bipush (-6), 2) := by decide +kernel
theorem dX11_write_40 : decode cX11_write 40 = .ok (.ireturn, 1) := by decide +kernel
theorem dX11_write_41 : decode cX11_write 41 = .ok (.aload_n 0, 1) := by decide +kernel
theorem dX11_write_42 : decode cX11_write 42 = .ok (.getfield 18, 3) := by decide +kernel
theorem dX11_write_45 : decode cX11_write 45 = .ok (.iload_n 1, 1) := by decide +kernel
theorem dX11_write_46 : decode cX11_write 46 = .ok (.iaload, 1) := by decide +kernel
theorem dX11_write_47 : decode cX11_write 47 = .ok (.istore 5, 2) := by decide +kernel
theorem dX11_write_49 : decode cX11_write 49 = .ok (.aload_n 0, 1) := by decide +kernel
theorem dX11_write_50 : decode cX11_write 50 = .ok (.getfield 21, 3) := by decide +kernel
theorem dX11_write_53 : decode cX11_write 53 = .ok (.bipush 40, 2) := by decide +kernel
theorem dX11_write_55 : decode cX11_write 55 = .ok (.iload_n 1, 1) := by decide +kernel
theorem dX11_write_56 : decode cX11_write 56 = .ok (.imul, 1) := by decide +kernel
theorem dX11_write_57 : decode cX11_write 57 = .ok (.iload_n 2, 1) := by decide +kernel
theorem dX11_write_58 : decode cX11_write 58 = .ok (.iadd, 1) := by decide +kernel
theorem dX11_write_59 : decode cX11_write 59 = .ok (.iload 5, 2) := by decide +kernel
theorem dX11_write_61 : decode cX11_write 61 = .ok (.ifCond .ne 10, 3) := by decide +kernel
theorem dX11_write_64 : decode cX11_write 64 = .ok (.lload_n 3, 1) := by decide +kernel
theorem dX11_write_65 : decode cX11_write 65 = .ok (.l2i, 1) := by decide +kernel
theorem dX11_write_66 : decode cX11_write 66 = .ok (.i2b, 1) := by decide +kernel
theorem dX11_write_67 : decode cX11_write 67 = .ok (.i2l, 1) := by decide +kernel
theorem dX11_write_68 : decode cX11_write 68 = .ok (.goto 29, 3) := by decide +kernel
theorem dX11_write_71 : decode cX11_write 71 = .ok (.iload 5, 2) := by decide +kernel
theorem dX11_write_73 : decode cX11_write 73 = .ok (.iconst 1, 1) := by decide +kernel
theorem dX11_write_74 : decode cX11_write 74 = .ok (.if_icmp .ne 10, 3) := by decide +kernel
theorem dX11_write_77 : decode cX11_write 77 = .ok (.lload_n 3, 1) := by decide +kernel
theorem dX11_write_78 : decode cX11_write 78 = .ok (.l2i, 1) := by decide +kernel
theorem dX11_write_79 : decode cX11_write 79 = .ok (.i2s, 1) := by decide +kernel
theorem dX11_write_80 : decode cX11_write 80 = .ok (.i2l, 1) := by decide +kernel
theorem dX11_write_81 : decode cX11_write 81 = .ok (.goto 16, 3) := by decide +kernel
theorem dX11_write_84 : decode cX11_write 84 = .ok (.iload 5, 2) := by decide +kernel
theorem dX11_write_86 : decode cX11_write 86 = .ok (.iconst 2, 1) := by decide +kernel
theorem dX11_write_87 : decode cX11_write 87 = .ok (.if_icmp .ne 9, 3) := by decide +kernel
theorem dX11_write_90 : decode cX11_write 90 = .ok (.lload_n 3, 1) := by decide +kernel
theorem dX11_write_91 : decode cX11_write 91 = .ok (.l2i, 1) := by decide +kernel
theorem dX11_write_92 : decode cX11_write 92 = .ok (.i2l, 1) := by decide +kernel
theorem dX11_write_93 : decode cX11_write 93 = .ok (.goto 4, 3) := by decide +kernel
theorem dX11_write_96 : decode cX11_write 96 = .ok (.lload_n 3, 1) := by decide +kernel
theorem dX11_write_97 : decode cX11_write 97 = .ok (.lastore, 1) := by decide +kernel
theorem dX11_write_98 : decode cX11_write 98 = .ok (.iconst 0, 1) := by decide +kernel
theorem dX11_write_99 : decode cX11_write 99 = .ok (.ireturn, 1) := by decide +kernel
set_option maxRecDepth 20000 in
theorem ggX11_book_X11_isSlot : GoodIn wsX11_book wsX11_isSlot := goodIn_r _ [14] (by decide +kernel) (by decide +kernel)
set_option maxRecDepth 20000 in
theorem gX11_book_X11_isSlot : GoodIn wsX11_book (va_wsS RX11 113 yX11_isSlot wsX11_isSlot) := goodIn_app (goodIn_of _ (by decide +kernel)) ggX11_book_X11_isSlot
theorem dX11_book_0 : decode cX11_book 0 = .ok (.iload_n 1, 1) := by decide +kernel
theorem dX11_book_1 : decode cX11_book 1 = .ok (.invokestatic 113, 3) := by decide +kernel
theorem dX11_book_4 : decode cX11_book 4 = .ok (.ifCond .ne 6, 3) := by decide +kernel
theorem dX11_book_7 : decode cX11_book 7 = .ok (.bipush (-2), 2) := by decide +kernel
theorem dX11_book_9 : decode cX11_book 9 = .ok (.ireturn, 1) := by decide +kernel
theorem dX11_book_10 : decode cX11_book 10 = .ok (.aload_n 0, 1) := by decide +kernel
theorem dX11_book_11 : decode cX11_book 11 = .ok (.getfield 116, 3) := by decide +kernel
theorem dX11_book_14 : decode cX11_book 14 = .ok (.bipush 16, 2) := by decide +kernel
theorem dX11_book_16 : decode cX11_book 16 = .ok (.if_icmp .ne 6, 3) := by decide +kernel
theorem dX11_book_19 : decode cX11_book 19 = .ok (.bipush (-8), 2) := by decide +kernel
theorem dX11_book_21 : decode cX11_book 21 = .ok (.ireturn, 1) := by decide +kernel
theorem dX11_book_22 : decode cX11_book 22 = .ok (.aload_n 0, 1) := by decide +kernel
theorem dX11_book_23 : decode cX11_book 23 = .ok (.getfield 14, 3) := by decide +kernel
theorem dX11_book_26 : decode cX11_book 26 = .ok (.iload_n 1, 1) := by decide +kernel
theorem dX11_book_27 : decode cX11_book 27 = .ok (.iaload, 1) := by decide +kernel
theorem dX11_book_28 : decode cX11_book 28 = .ok (.ifCond .ne 6, 3) := by decide +kernel
theorem dX11_book_31 : decode cX11_book 31 = .ok (.bipush (-5), 2) := by decide +kernel
theorem dX11_book_33 : decode cX11_book 33 = .ok (.ireturn, 1) := by decide +kernel
theorem dX11_book_34 : decode cX11_book 34 = .ok (.aload_n 0, 1) := by decide +kernel
theorem dX11_book_35 : decode cX11_book 35 = .ok (.getfield 14, 3) := by decide +kernel
theorem dX11_book_38 : decode cX11_book 38 = .ok (.iload_n 1, 1) := by decide +kernel
theorem dX11_book_39 : decode cX11_book 39 = .ok (.iaload, 1) := by decide +kernel
theorem dX11_book_40 : decode cX11_book 40 = .ok (.iconst 1, 1) := by decide +kernel
theorem dX11_book_41 : decode cX11_book 41 = .ok (.isub, 1) := by decide +kernel
theorem dX11_book_42 : decode cX11_book 42 = .ok (.istore_n 2, 1) := by decide +kernel
theorem dX11_book_43 : decode cX11_book 43 = .ok (.iload_n 2, 1) := by decide +kernel
theorem dX11_book_44 : decode cX11_book 44 = .ok (.ifCond .ne 6, 3) := by decide +kernel
theorem dX11_book_47 : decode cX11_book 47 = .ok (.bipush (-6), 2) := by decide +kernel
theorem dX11_book_49 : decode cX11_book 49 = .ok (.ireturn, 1) := by decide +kernel
theorem dX11_book_50 : decode cX11_book 50 = .ok (.aload_n 0, 1) := by decide +kernel
theorem dX11_book_51 : decode cX11_book 51 = .ok (.getfield 21, 3) := by decide +kernel
theorem dX11_book_54 : decode cX11_book 54 = .ok (.bipush 40, 2) := by decide +kernel
theorem dX11_book_56 : decode cX11_book 56 = .ok (.iload_n 1, 1) := by decide +kernel
theorem dX11_book_57 : decode cX11_book 57 = .ok (.imul, 1) := by decide +kernel
theorem dX11_book_58 : decode cX11_book 58 = .ok (.laload, 1) := by decide +kernel
theorem dX11_book_59 : decode cX11_book 59 = .ok (.lstore_n 3, 1) := by decide +kernel
theorem dX11_book_60 : decode cX11_book 60 = .ok (.lload_n 3, 1) := by decide +kernel
theorem dX11_book_61 : decode cX11_book 61 = .ok (.lconst 1, 1) := by decide +kernel
theorem dX11_book_62 : decode cX11_book 62 = .ok (.lcmp, 1) := by decide +kernel
theorem dX11_book_63 : decode cX11_book 63 = .ok (.ifCond .lt 11, 3) := by decide +kernel
theorem dX11_book_66 : decode cX11_book 66 = .ok (.lload_n 3, 1) := by decide +kernel
theorem dX11_book_67 : decode cX11_book 67 = .ok (.ldc2_w 120, 3) := by decide +kernel
theorem dX11_book_70 : decode cX11_book 70 = .ok (.lcmp, 1) := by decide +kernel
theorem dX11_book_71 : decode cX11_book 71 = .ok (.ifCond .le 6, 3) := by decide +kernel
theorem dX11_book_74 : decode cX11_book 74 = .ok (.bipush (-4), 2) := by decide +kernel
theorem dX11_book_76 : decode cX11_book 76 = .ok (.ireturn, 1) := by decide +kernel
theorem dX11_book_77 : decode cX11_book 77 = .ok (.iconst 0, 1) := by decide +kernel
theorem dX11_book_78 : decode cX11_book 78 = .ok (.istore 5, 2) := by decide +kernel
theorem dX11_book_80 : decode cX11_book 80 = .ok (.iconst 1, 1) := by decide +kernel
theorem dX11_book_81 : decode cX11_book 81 = .ok (.istore 6, 2) := by decide +kernel
theorem dX11_book_83 : decode cX11_book 83 = .ok (.iload 6, 2) := by decide +kernel
theorem dX11_book_85 : decode cX11_book 85 = .ok (.i2l, 1) := by decide +kernel
theorem dX11_book_86 : decode cX11_book 86 = .ok (.ldc2_w 79, 3) := by decide +kernel
theorem dX11_book_89 : decode cX11_book 89 = .ok (.lload_n 3, 1) := by decide +kernel
theorem dX11_book_90 : decode cX11_book 90 = .ok (.lmul, 1) := by decide +kernel
theorem dX11_book_91 : decode cX11_book 91 = .ok (.lcmp, 1) := by decide +kernel
theorem dX11_book_92 : decode cX11_book 92 = .ok (.ifCond .gt 106, 3) := by decide +kernel
theorem dX11_book_95 : decode cX11_book 95 = .ok (.iload 6, 2) := by decide +kernel
theorem dX11_book_97 : decode cX11_book 97 = .ok (.iload_n 2, 1) := by decide +kernel
theorem dX11_book_98 : decode cX11_book 98 = .ok (.if_icmp .lt 6, 3) := by decide +kernel
theorem dX11_book_101 : decode cX11_book 101 = .ok (.bipush (-6), 2) := by decide +kernel
theorem dX11_book_103 : decode cX11_book 103 = .ok (.ireturn, 1) := by decide +kernel
theorem dX11_book_104 : decode cX11_book 104 = .ok (.aload_n 0, 1) := by decide +kernel
theorem dX11_book_105 : decode cX11_book 105 = .ok (.getfield 21, 3) := by decide +kernel
theorem dX11_book_108 : decode cX11_book 108 = .ok (.bipush 40, 2) := by decide +kernel
theorem dX11_book_110 : decode cX11_book 110 = .ok (.iload_n 1, 1) := by decide +kernel
theorem dX11_book_111 : decode cX11_book 111 = .ok (.imul, 1) := by decide +kernel
theorem dX11_book_112 : decode cX11_book 112 = .ok (.iload 6, 2) := by decide +kernel
theorem dX11_book_114 : decode cX11_book 114 = .ok (.iadd, 1) := by decide +kernel
theorem dX11_book_115 : decode cX11_book 115 = .ok (.laload, 1) := by decide +kernel
theorem dX11_book_116 : decode cX11_book 116 = .ok (.lstore 7, 2) := by decide +kernel
theorem dX11_book_118 : decode cX11_book 118 = .ok (.lload 7, 2) := by decide +kernel
theorem dX11_book_120 : decode cX11_book 120 = .ok (.lconst 0, 1) := by decide +kernel
theorem dX11_book_121 : decode cX11_book 121 = .ok (.lcmp, 1) := by decide +kernel
theorem dX11_book_122 : decode cX11_book 122 = .ok (.ifCond .lt 12, 3) := by decide +kernel
theorem dX11_book_125 : decode cX11_book 125 = .ok (.lload 7, 2) := by decide +kernel
theorem dX11_book_127 : decode cX11_book 127 = .ok (.ldc2_w 122, 3) := by decide +kernel
theorem dX11_book_130 : decode cX11_book 130 = .ok (.lcmp, 1) := by decide +kernel
theorem dX11_book_131 : decode cX11_book 131 = .ok (.ifCond .le 6, 3) := by decide +kernel
theorem dX11_book_134 : decode cX11_book 134 = .ok (.bipush (-4), 2) := by decide +kernel
theorem dX11_book_136 : decode cX11_book 136 = .ok (.ireturn, 1) := by decide +kernel
theorem dX11_book_137 : decode cX11_book 137 = .ok (.bipush 8, 2) := by decide +kernel
theorem dX11_book_139 : decode cX11_book 139 = .ok (.aload_n 0, 1) := by decide +kernel
theorem dX11_book_140 : decode cX11_book 140 = .ok (.getfield 116, 3) := by decide +kernel
theorem dX11_book_143 : decode cX11_book 143 = .ok (.imul, 1) := by decide +kernel
theorem dX11_book_144 : decode cX11_book 144 = .ok (.iload 6, 2) := by decide +kernel
theorem dX11_book_146 : decode cX11_book 146 = .ok (.iconst 1, 1) := by decide +kernel
theorem dX11_book_147 : decode cX11_book 147 = .ok (.isub, 1) := by decide +kernel
theorem dX11_book_148 : decode cX11_book 148 = .ok (.iconst 2, 1) := by decide +kernel
theorem dX11_book_149 : decode cX11_book 149 = .ok (.idiv, 1) := by decide +kernel
theorem dX11_book_150 : decode cX11_book 150 = .ok (.iadd, 1) := by decide +kernel
theorem dX11_book_151 : decode cX11_book 151 = .ok (.istore 9, 2) := by decide +kernel
theorem dX11_book_153 : decode cX11_book 153 = .ok (.iload 6, 2) := by decide +kernel
theorem dX11_book_155 : decode cX11_book 155 = .ok (.iconst 2, 1) := by decide +kernel
theorem dX11_book_156 : decode cX11_book 156 = .ok (.irem, 1) := by decide +kernel
theorem dX11_book_157 : decode cX11_book 157 = .ok (.iconst 1, 1) := by decide +kernel
theorem dX11_book_158 : decode cX11_book 158 = .ok (.if_icmp .ne 16, 3) := by decide +kernel
theorem dX11_book_161 : decode cX11_book 161 = .ok (.aload_n 0, 1) := by decide +kernel
theorem dX11_book_162 : decode cX11_book 162 = .ok (.getfield 27, 3) := by decide +kernel
theorem dX11_book_165 : decode cX11_book 165 = .ok (.iload 9, 2) := by decide +kernel
theorem dX11_book_167 : decode cX11_book 167 = .ok (.lload 7, 2) := by decide +kernel
theorem dX11_book_169 : decode cX11_book 169 = .ok (.l2i, 1) := by decide +kernel
theorem dX11_book_170 : decode cX11_book 170 = .ok (.iastore, 1) := by decide +kernel
theorem dX11_book_171 : decode cX11_book 171 = .ok (.goto 21, 3) := by decide +kernel
theorem dX11_book_174 : decode cX11_book 174 = .ok (.aload_n 0, 1) := by decide +kernel
theorem dX11_book_175 : decode cX11_book 175 = .ok (.getfield 30, 3) := by decide +kernel
theorem dX11_book_178 : decode cX11_book 178 = .ok (.iload 9, 2) := by decide +kernel
end
section
theorem dX11_book_180 : decode cX11_book 180 = .ok (.lload 7, 2) := by decide +kernel
theorem dX11_book_182 : decode cX11_book 182 = .ok (.l2i, 1) := by decide +kernel
theorem dX11_book_183 : decode cX11_book 183 = .ok (.iastore, 1) := by decide +kernel
theorem dX11_book_184 : decode cX11_book 184 = .ok (.iload 5, 2) := by decide +kernel
theorem dX11_book_186 : decode cX11_book 186 = .ok (.lload 7, 2) := by decide +kernel
theorem dX11_book_188 : decode cX11_book 188 = .ok (.l2i, 1) := by decide +kernel
theorem dX11_book_189 : decode cX11_book 189 = .ok (.iadd, 1) := by decide +kernel
theorem dX11_book_190 : decode cX11_book 190 = .ok (.istore 5, 2) := by decide +kernel
theorem dX11_book_192 : decode cX11_book 192 = .ok (.iinc 6 1, 3) := by decide +kernel
theorem dX11_book_195 : decode cX11_book 195 = .ok (.goto (-112), 3) := by decide +kernel
theorem dX11_book_198 : decode cX11_book 198 = .ok (.iload 5, 2) := by decide +kernel
theorem dX11_book_200 : decode cX11_book 200 = .ok (.ifCond .ne 6, 3) := by decide +kernel
theorem dX11_book_203 : decode cX11_book 203 = .ok (.bipush (-4), 2) := by decide +kernel
theorem dX11_book_205 : decode cX11_book 205 = .ok (.ireturn, 1) := by decide +kernel
theorem dX11_book_206 : decode cX11_book 206 = .ok (.aload_n 0, 1) := by decide +kernel
theorem dX11_book_207 : decode cX11_book 207 = .ok (.getfield 24, 3) := by decide +kernel
theorem dX11_book_210 : decode cX11_book 210 = .ok (.aload_n 0, 1) := by decide +kernel
theorem dX11_book_211 : decode cX11_book 211 = .ok (.getfield 116, 3) := by decide +kernel
theorem dX11_book_214 : decode cX11_book 214 = .ok (.lload_n 3, 1) := by decide +kernel
theorem dX11_book_215 : decode cX11_book 215 = .ok (.l2i, 1) := by decide +kernel
theorem dX11_book_216 : decode cX11_book 216 = .ok (.iastore, 1) := by decide +kernel
theorem dX11_book_217 : decode cX11_book 217 = .ok (.aload_n 0, 1) := by decide +kernel
theorem dX11_book_218 : decode cX11_book 218 = .ok (.getfield 33, 3) := by decide +kernel
theorem dX11_book_221 : decode cX11_book 221 = .ok (.aload_n 0, 1) := by decide +kernel
theorem dX11_book_222 : decode cX11_book 222 = .ok (.getfield 116, 3) := by decide +kernel
theorem dX11_book_225 : decode cX11_book 225 = .ok (.iload 5, 2) := by decide +kernel
theorem dX11_book_227 : decode cX11_book 227 = .ok (.iastore, 1) := by decide +kernel
theorem dX11_book_228 : decode cX11_book 228 = .ok (.aload_n 0, 1) := by decide +kernel
theorem dX11_book_229 : decode cX11_book 229 = .ok (.dup, 1) := by decide +kernel
theorem dX11_book_230 : decode cX11_book 230 = .ok (.getfield 116, 3) := by decide +kernel
theorem dX11_book_233 : decode cX11_book 233 = .ok (.iconst 1, 1) := by decide +kernel
theorem dX11_book_234 : decode cX11_book 234 = .ok (.iadd, 1) := by decide +kernel
theorem dX11_book_235 : decode cX11_book 235 = .ok (.putfield 116, 3) := by decide +kernel
theorem dX11_book_238 : decode cX11_book 238 = .ok (.aload_n 0, 1) := by decide +kernel
theorem dX11_book_239 : decode cX11_book 239 = .ok (.getfield 116, 3) := by decide +kernel
theorem dX11_book_242 : decode cX11_book 242 = .ok (.iconst 1, 1) := by decide +kernel
theorem dX11_book_243 : decode cX11_book 243 = .ok (.isub, 1) := by decide +kernel
theorem dX11_book_244 : decode cX11_book 244 = .ok (.ireturn, 1) := by decide +kernel
theorem dX11_isBook_0 : decode cX11_isBook 0 = .ok (.iload_n 1, 1) := by decide +kernel
theorem dX11_isBook_1 : decode cX11_isBook 1 = .ok (.ifCond .lt 15, 3) := by decide +kernel
theorem dX11_isBook_4 : decode cX11_isBook 4 = .ok (.iload_n 1, 1) := by decide +kernel
theorem dX11_isBook_5 : decode cX11_isBook 5 = .ok (.aload_n 0, 1) := by decide +kernel
theorem dX11_isBook_6 : decode cX11_isBook 6 = .ok (.getfield 116, 3) := by decide +kernel
theorem dX11_isBook_9 : decode cX11_isBook 9 = .ok (.if_icmp .ge 7, 3) := by decide +kernel
theorem dX11_isBook_12 : decode cX11_isBook 12 = .ok (.iconst 1, 1) := by decide +kernel
theorem dX11_isBook_13 : decode cX11_isBook 13 = .ok (.goto 4, 3) := by decide +kernel
theorem dX11_isBook_16 : decode cX11_isBook 16 = .ok (.iconst 0, 1) := by decide +kernel
theorem dX11_isBook_17 : decode cX11_isBook 17 = .ok (.ireturn, 1) := by decide +kernel
theorem dX11_weightOf_0 : decode cX11_weightOf 0 = .ok (.iconst 0, 1) := by decide +kernel
theorem dX11_weightOf_1 : decode cX11_weightOf 1 = .ok (.istore 4, 2) := by decide +kernel
theorem dX11_weightOf_3 : decode cX11_weightOf 3 = .ok (.bipush 8, 2) := by decide +kernel
theorem dX11_weightOf_5 : decode cX11_weightOf 5 = .ok (.iload_n 1, 1) := by decide +kernel
theorem dX11_weightOf_6 : decode cX11_weightOf 6 = .ok (.imul, 1) := by decide +kernel
theorem dX11_weightOf_7 : decode cX11_weightOf 7 = .ok (.istore 5, 2) := by decide +kernel
theorem dX11_weightOf_9 : decode cX11_weightOf 9 = .ok (.iload 5, 2) := by decide +kernel
theorem dX11_weightOf_11 : decode cX11_weightOf 11 = .ok (.bipush 8, 2) := by decide +kernel
theorem dX11_weightOf_13 : decode cX11_weightOf 13 = .ok (.iload_n 1, 1) := by decide +kernel
theorem dX11_weightOf_14 : decode cX11_weightOf 14 = .ok (.imul, 1) := by decide +kernel
theorem dX11_weightOf_15 : decode cX11_weightOf 15 = .ok (.aload_n 0, 1) := by decide +kernel
theorem dX11_weightOf_16 : decode cX11_weightOf 16 = .ok (.getfield 24, 3) := by decide +kernel
theorem dX11_weightOf_19 : decode cX11_weightOf 19 = .ok (.iload_n 1, 1) := by decide +kernel
theorem dX11_weightOf_20 : decode cX11_weightOf 20 = .ok (.iaload, 1) := by decide +kernel
theorem dX11_weightOf_21 : decode cX11_weightOf 21 = .ok (.iadd, 1) := by decide +kernel
theorem dX11_weightOf_22 : decode cX11_weightOf 22 = .ok (.if_icmp .ge 47, 3) := by decide +kernel
theorem dX11_weightOf_25 : decode cX11_weightOf 25 = .ok (.iload 4, 2) := by decide +kernel
theorem dX11_weightOf_27 : decode cX11_weightOf 27 = .ok (.aload_n 0, 1) := by decide +kernel
theorem dX11_weightOf_28 : decode cX11_weightOf 28 = .ok (.getfield 27, 3) := by decide +kernel
theorem dX11_weightOf_31 : decode cX11_weightOf 31 = .ok (.iload 5, 2) := by decide +kernel
theorem dX11_weightOf_33 : decode cX11_weightOf 33 = .ok (.iaload, 1) := by decide +kernel
theorem dX11_weightOf_34 : decode cX11_weightOf 34 = .ok (.iload_n 2, 1) := by decide +kernel
theorem dX11_weightOf_35 : decode cX11_weightOf 35 = .ok (.if_icmp .lt 24, 3) := by decide +kernel
theorem dX11_weightOf_38 : decode cX11_weightOf 38 = .ok (.aload_n 0, 1) := by decide +kernel
theorem dX11_weightOf_39 : decode cX11_weightOf 39 = .ok (.getfield 27, 3) := by decide +kernel
theorem dX11_weightOf_42 : decode cX11_weightOf 42 = .ok (.iload 5, 2) := by decide +kernel
theorem dX11_weightOf_44 : decode cX11_weightOf 44 = .ok (.iaload, 1) := by decide +kernel
theorem dX11_weightOf_45 : decode cX11_weightOf 45 = .ok (.iload_n 3, 1) := by decide +kernel
theorem dX11_weightOf_46 : decode cX11_weightOf 46 = .ok (.if_icmp .gt 13, 3) := by decide +kernel
theorem dX11_weightOf_49 : decode cX11_weightOf 49 = .ok (.aload_n 0, 1) := by decide +kernel
theorem dX11_weightOf_50 : decode cX11_weightOf 50 = .ok (.getfield 30, 3) := by decide +kernel
theorem dX11_weightOf_53 : decode cX11_weightOf 53 = .ok (.iload 5, 2) := by decide +kernel
theorem dX11_weightOf_55 : decode cX11_weightOf 55 = .ok (.iaload, 1) := by decide +kernel
theorem dX11_weightOf_56 : decode cX11_weightOf 56 = .ok (.goto 4, 3) := by decide +kernel
theorem dX11_weightOf_59 : decode cX11_weightOf 59 = .ok (.iconst 0, 1) := by decide +kernel
theorem dX11_weightOf_60 : decode cX11_weightOf 60 = .ok (.iadd, 1) := by decide +kernel
theorem dX11_weightOf_61 : decode cX11_weightOf 61 = .ok (.istore 4, 2) := by decide +kernel
theorem dX11_weightOf_63 : decode cX11_weightOf 63 = .ok (.iinc 5 1, 3) := by decide +kernel
theorem dX11_weightOf_66 : decode cX11_weightOf 66 = .ok (.goto (-57), 3) := by decide +kernel
theorem dX11_weightOf_69 : decode cX11_weightOf 69 = .ok (.iload 4, 2) := by decide +kernel
theorem dX11_weightOf_71 : decode cX11_weightOf 71 = .ok (.ireturn, 1) := by decide +kernel
set_option maxRecDepth 20000 in
theorem ggX11_comer_X11_isBook : GoodIn wsX11_comer wsX11_isBook := goodIn_r _ [8, 9, 10, 11, 12, 13, 14, 15, 16, 17, 18, 19, 20, 21, 22, 23, 24, 25, 26, 27, 28, 29, 30] (by decide +kernel) (by decide +kernel)
set_option maxRecDepth 20000 in
theorem gX11_comer_X11_isBook : GoodIn wsX11_comer (wsV RX11 124 RX11 yX11_isBook wsX11_isBook) := goodIn_app (goodIn_of _ (by decide +kernel)) ggX11_comer_X11_isBook
theorem dX11_comer_0 : decode cX11_comer 0 = .ok (.aload_n 0, 1) := by decide +kernel
theorem dX11_comer_1 : decode cX11_comer 1 = .ok (.iload_n 1, 1) := by decide +kernel
theorem dX11_comer_2 : decode cX11_comer 2 = .ok (.invokevirtual 124, 3) := by decide +kernel
theorem dX11_comer_5 : decode cX11_comer 5 = .ok (.ifCond .ne 6, 3) := by decide +kernel
theorem dX11_comer_8 : decode cX11_comer 8 = .ok (.bipush (-2), 2) := by decide +kernel
theorem dX11_comer_10 : decode cX11_comer 10 = .ok (.ireturn, 1) := by decide +kernel
theorem dX11_comer_11 : decode cX11_comer 11 = .ok (.aload_n 0, 1) := by decide +kernel
theorem dX11_comer_12 : decode cX11_comer 12 = .ok (.getfield 127, 3) := by decide +kernel
theorem dX11_comer_15 : decode cX11_comer 15 = .ok (.bipush 10, 2) := by decide +kernel
theorem dX11_comer_17 : decode cX11_comer 17 = .ok (.if_icmp .ne 6, 3) := by decide +kernel
theorem dX11_comer_20 : decode cX11_comer 20 = .ok (.bipush (-8), 2) := by decide +kernel
theorem dX11_comer_22 : decode cX11_comer 22 = .ok (.ireturn, 1) := by decide +kernel
theorem dX11_comer_23 : decode cX11_comer 23 = .ok (.aload_n 0, 1) := by decide +kernel
theorem dX11_comer_24 : decode cX11_comer 24 = .ok (.getfield 36, 3) := by decide +kernel
theorem dX11_comer_27 : decode cX11_comer 27 = .ok (.aload_n 0, 1) := by decide +kernel
theorem dX11_comer_28 : decode cX11_comer 28 = .ok (.getfield 127, 3) := by decide +kernel
theorem dX11_comer_31 : decode cX11_comer 31 = .ok (.iload_n 1, 1) := by decide +kernel
theorem dX11_comer_32 : decode cX11_comer 32 = .ok (.iastore, 1) := by decide +kernel
theorem dX11_comer_33 : decode cX11_comer 33 = .ok (.aload_n 0, 1) := by decide +kernel
theorem dX11_comer_34 : decode cX11_comer 34 = .ok (.getfield 39, 3) := by decide +kernel
theorem dX11_comer_37 : decode cX11_comer 37 = .ok (.aload_n 0, 1) := by decide +kernel
theorem dX11_comer_38 : decode cX11_comer 38 = .ok (.getfield 127, 3) := by decide +kernel
theorem dX11_comer_41 : decode cX11_comer 41 = .ok (.iconst 0, 1) := by decide +kernel
theorem dX11_comer_42 : decode cX11_comer 42 = .ok (.iastore, 1) := by decide +kernel
theorem dX11_comer_43 : decode cX11_comer 43 = .ok (.aload_n 0, 1) := by decide +kernel
theorem dX11_comer_44 : decode cX11_comer 44 = .ok (.dup, 1) := by decide +kernel
theorem dX11_comer_45 : decode cX11_comer 45 = .ok (.getfield 127, 3) := by decide +kernel
theorem dX11_comer_48 : decode cX11_comer 48 = .ok (.iconst 1, 1) := by decide +kernel
theorem dX11_comer_49 : decode cX11_comer 49 = .ok (.iadd, 1) := by decide +kernel
theorem dX11_comer_50 : decode cX11_comer 50 = .ok (.putfield 127, 3) := by decide +kernel
theorem dX11_comer_53 : decode cX11_comer 53 = .ok (.aload_n 0, 1) := by decide +kernel
theorem dX11_comer_54 : decode cX11_comer 54 = .ok (.getfield 127, 3) := by decide +kernel
theorem dX11_comer_57 : decode cX11_comer 57 = .ok (.iconst 1, 1) := by decide +kernel
theorem dX11_comer_58 : decode cX11_comer 58 = .ok (.isub, 1) := by decide +kernel
theorem dX11_comer_59 : decode cX11_comer 59 = .ok (.ireturn, 1) := by decide +kernel
theorem dX11_dismiss_0 : decode cX11_dismiss 0 = .ok (.aload_n 0, 1) := by decide +kernel
theorem dX11_dismiss_1 : decode cX11_dismiss 1 = .ok (.getfield 127, 3) := by decide +kernel
theorem dX11_dismiss_4 : decode cX11_dismiss 4 = .ok (.istore_n 1, 1) := by decide +kernel
theorem dX11_dismiss_5 : decode cX11_dismiss 5 = .ok (.aload_n 0, 1) := by decide +kernel
theorem dX11_dismiss_6 : decode cX11_dismiss 6 = .ok (.iconst 0, 1) := by decide +kernel
theorem dX11_dismiss_7 : decode cX11_dismiss 7 = .ok (.putfield 127, 3) := by decide +kernel
theorem dX11_dismiss_10 : decode cX11_dismiss 10 = .ok (.iload_n 1, 1) := by decide +kernel
theorem dX11_dismiss_11 : decode cX11_dismiss 11 = .ok (.ireturn, 1) := by decide +kernel
theorem dX11_tell_0 : decode cX11_tell 0 = .ok (.iload_n 1, 1) := by decide +kernel
theorem dX11_tell_1 : decode cX11_tell 1 = .ok (.ifCond .lt 22, 3) := by decide +kernel
theorem dX11_tell_4 : decode cX11_tell 4 = .ok (.iload_n 1, 1) := by decide +kernel
theorem dX11_tell_5 : decode cX11_tell 5 = .ok (.aload_n 0, 1) := by decide +kernel
theorem dX11_tell_6 : decode cX11_tell 6 = .ok (.getfield 127, 3) := by decide +kernel
theorem dX11_tell_9 : decode cX11_tell 9 = .ok (.if_icmp .ge 14, 3) := by decide +kernel
theorem dX11_tell_12 : decode cX11_tell 12 = .ok (.iload_n 2, 1) := by decide +kernel
theorem dX11_tell_13 : decode cX11_tell 13 = .ok (.ifCond .lt 10, 3) := by decide +kernel
theorem dX11_tell_16 : decode cX11_tell 16 = .ok (.iload_n 2, 1) := by decide +kernel
theorem dX11_tell_17 : decode cX11_tell 17 = .ok (.sipush 1001, 3) := by decide +kernel
theorem dX11_tell_20 : decode cX11_tell 20 = .ok (.if_icmp .le 5, 3) := by decide +kernel
theorem dX11_tell_23 : decode cX11_tell 23 = .ok (.iconst 0, 1) := by decide +kernel
theorem dX11_tell_24 : decode cX11_tell 24 = .ok (.ireturn, 1) := by decide +kernel
theorem dX11_tell_25 : decode cX11_tell 25 = .ok (.aload_n 0, 1) := by decide +kernel
theorem dX11_tell_26 : decode cX11_tell 26 = .ok (.getfield 39, 3) := by decide +kernel
theorem dX11_tell_29 : decode cX11_tell 29 = .ok (.iload_n 1, 1) := by decide +kernel
theorem dX11_tell_30 : decode cX11_tell 30 = .ok (.iload_n 2, 1) := by decide +kernel
theorem dX11_tell_31 : decode cX11_tell 31 = .ok (.iastore, 1) := by decide +kernel
theorem dX11_tell_32 : decode cX11_tell 32 = .ok (.iconst 1, 1) := by decide +kernel
theorem dX11_tell_33 : decode cX11_tell 33 = .ok (.ireturn, 1) := by decide +kernel
set_option maxRecDepth 20000 in
theorem ggX11_worthOf_X11_set : GoodIn wsX11_worthOf wsX11_set := goodIn_r _ [12, 13, 14, 15, 16, 11, 17, 18, 19, 20, 21, 22, 23, 24, 25, 38, 39, 40, 41, 42, 43, 44, 45, 46, 47, 48, 49, 50, 51, 52, 53, 54, 55, 56, 57, 58] (by decide +kernel) (by decide +kernel)
set_option maxRecDepth 20000 in
theorem gX11_worthOf_X11_set : GoodIn wsX11_worthOf (wsV RX11 60 RX11 yX11_set wsX11_set) := goodIn_app (goodIn_of _ (by decide +kernel)) ggX11_worthOf_X11_set
set_option maxRecDepth 20000 in
theorem ggX11_worthOf_X11_weightOf : GoodIn wsX11_worthOf wsX11_weightOf := goodIn_r _ [29, 4, 5, 6, 38, 39, 40, 41, 42, 43, 44, 45, 46, 47, 48, 49, 50, 51, 52, 53, 54, 55, 56, 57, 58] (by decide +kernel) (by decide +kernel)
set_option maxRecDepth 20000 in
theorem gX11_worthOf_X11_weightOf : GoodIn wsX11_worthOf (wsV RX11 130 RX11 yX11_weightOf wsX11_weightOf) := goodIn_app (goodIn_of _ (by decide +kernel)) ggX11_worthOf_X11_weightOf
set_option maxRecDepth 20000 in
theorem ggX11_worthOf_X11_times : GoodIn wsX11_worthOf wsX11_times := goodIn_r _ [33, 13, 14, 15, 16, 11, 17, 18, 19, 20, 21, 22, 23, 24, 25, 38, 39, 40, 41, 42, 43, 44, 45, 46, 47, 48, 49, 50, 51, 52, 53, 54, 55, 56, 57, 58] (by decide +kernel) (by decide +kernel)
set_option maxRecDepth 20000 in
theorem gX11_worthOf_X11_times : GoodIn wsX11_worthOf (wsV RX11 93 RX11 yX11_times wsX11_times) := goodIn_app (goodIn_of _ (by decide +kernel)) ggX11_worthOf_X11_times
set_option maxRecDepth 20000 in
theorem ggX11_worthOf_X11_more : GoodIn wsX11_worthOf wsX11_more := goodIn_r _ [37, 13, 14, 15, 16, 11, 17, 18, 19, 20, 21, 22, 23, 24, 25, 38, 39, 40, 41, 42, 43, 44, 45, 46, 47, 48, 49, 50, 51, 52, 53, 54, 55, 56, 57, 58] (by decide +kernel) (by decide +kernel)
set_option maxRecDepth 20000 in
theorem gX11_worthOf_X11_more : GoodIn wsX11_worthOf (wsV RX11 87 RX11 yX11_more wsX11_more) := goodIn_app (goodIn_of _ (by decide +kernel)) ggX11_worthOf_X11_more
theorem dX11_worthOf_0 : decode cX11_worthOf 0 = .ok (.aload_n 0, 1) := by decide +kernel
theorem dX11_worthOf_1 : decode cX11_worthOf 1 = .ok (.iconst 2, 1) := by decide +kernel
theorem dX11_worthOf_2 : decode cX11_worthOf 2 = .ok (.lconst 0, 1) := by decide +kernel
theorem dX11_worthOf_3 : decode cX11_worthOf 3 = .ok (.invokevirtual 60, 3) := by decide +kernel
theorem dX11_worthOf_6 : decode cX11_worthOf 6 = .ok (.aload_n 0, 1) := by decide +kernel
theorem dX11_worthOf_7 : decode cX11_worthOf 7 = .ok (.iconst 3, 1) := by decide +kernel
theorem dX11_worthOf_8 : decode cX11_worthOf 8 = .ok (.lconst 1, 1) := by decide +kernel
theorem dX11_worthOf_9 : decode cX11_worthOf 9 = .ok (.invokevirtual 60, 3) := by decide +kernel
theorem dX11_worthOf_12 : decode cX11_worthOf 12 = .ok (.aload_n 0, 1) := by decide +kernel
theorem dX11_worthOf_13 : decode cX11_worthOf 13 = .ok (.getfield 127, 3) := by decide +kernel
theorem dX11_worthOf_16 : decode cX11_worthOf 16 = .ok (.iconst 1, 1) := by decide +kernel
theorem dX11_worthOf_17 : decode cX11_worthOf 17 = .ok (.isub, 1) := by decide +kernel
theorem dX11_worthOf_18 : decode cX11_worthOf 18 = .ok (.istore_n 2, 1) := by decide +kernel
theorem dX11_worthOf_19 : decode cX11_worthOf 19 = .ok (.iload_n 2, 1) := by decide +kernel
theorem dX11_worthOf_20 : decode cX11_worthOf 20 = .ok (.ifCond .lt 124, 3) := by decide +kernel
theorem dX11_worthOf_23 : decode cX11_worthOf 23 = .ok (.aload_n 0, 1) := by decide +kernel
theorem dX11_worthOf_24 : decode cX11_worthOf 24 = .ok (.getfield 36, 3) := by decide +kernel
theorem dX11_worthOf_27 : decode cX11_worthOf 27 = .ok (.iload_n 2, 1) := by decide +kernel
theorem dX11_worthOf_28 : decode cX11_worthOf 28 = .ok (.iaload, 1) := by decide +kernel
theorem dX11_worthOf_29 : decode cX11_worthOf 29 = .ok (.istore_n 3, 1) := by decide +kernel
theorem dX11_worthOf_30 : decode cX11_worthOf 30 = .ok (.iload_n 1, 1) := by decide +kernel
theorem dX11_worthOf_31 : decode cX11_worthOf 31 = .ok (.iconst (-1), 1) := by decide +kernel
theorem dX11_worthOf_32 : decode cX11_worthOf 32 = .ok (.if_icmp .ne 12, 3) := by decide +kernel
theorem dX11_worthOf_35 : decode cX11_worthOf 35 = .ok (.aload_n 0, 1) := by decide +kernel
theorem dX11_worthOf_36 : decode cX11_worthOf 36 = .ok (.getfield 39, 3) := by decide +kernel
theorem dX11_worthOf_39 : decode cX11_worthOf 39 = .ok (.iload_n 2, 1) := by decide +kernel
theorem dX11_worthOf_40 : decode cX11_worthOf 40 = .ok (.iaload, 1) := by decide +kernel
theorem dX11_worthOf_41 : decode cX11_worthOf 41 = .ok (.goto 4, 3) := by decide +kernel
theorem dX11_worthOf_44 : decode cX11_worthOf 44 = .ok (.iload_n 1, 1) := by decide +kernel
theorem dX11_worthOf_45 : decode cX11_worthOf 45 = .ok (.istore 4, 2) := by decide +kernel
theorem dX11_worthOf_47 : decode cX11_worthOf 47 = .ok (.aload_n 0, 1) := by decide +kernel
theorem dX11_worthOf_48 : decode cX11_worthOf 48 = .ok (.iconst 2, 1) := by decide +kernel
theorem dX11_worthOf_49 : decode cX11_worthOf 49 = .ok (.aload_n 0, 1) := by decide +kernel
theorem dX11_worthOf_50 : decode cX11_worthOf 50 = .ok (.iload_n 3, 1) := by decide +kernel
theorem dX11_worthOf_51 : decode cX11_worthOf 51 = .ok (.iconst 0, 1) := by decide +kernel
theorem dX11_worthOf_52 : decode cX11_worthOf 52 = .ok (.iload 4, 2) := by decide +kernel
theorem dX11_worthOf_54 : decode cX11_worthOf 54 = .ok (.iconst 1, 1) := by decide +kernel
theorem dX11_worthOf_55 : decode cX11_worthOf 55 = .ok (.isub, 1) := by decide +kernel
theorem dX11_worthOf_56 : decode cX11_worthOf 56 = .ok (.invokevirtual 130, 3) := by decide +kernel
theorem dX11_worthOf_59 : decode cX11_worthOf 59 = .ok (.i2l, 1) := by decide +kernel
theorem dX11_worthOf_60 : decode cX11_worthOf 60 = .ok (.invokevirtual 93, 3) := by decide +kernel
theorem dX11_worthOf_63 : decode cX11_worthOf 63 = .ok (.bipush 8, 2) := by decide +kernel
theorem dX11_worthOf_65 : decode cX11_worthOf 65 = .ok (.iload_n 3, 1) := by decide +kernel
theorem dX11_worthOf_66 : decode cX11_worthOf 66 = .ok (.imul, 1) := by decide +kernel
theorem dX11_worthOf_67 : decode cX11_worthOf 67 = .ok (.istore 5, 2) := by decide +kernel
theorem dX11_worthOf_69 : decode cX11_worthOf 69 = .ok (.iload 5, 2) := by decide +kernel
theorem dX11_worthOf_71 : decode cX11_worthOf 71 = .ok (.bipush 8, 2) := by decide +kernel
theorem dX11_worthOf_73 : decode cX11_worthOf 73 = .ok (.iload_n 3, 1) := by decide +kernel
theorem dX11_worthOf_74 : decode cX11_worthOf 74 = .ok (.imul, 1) := by decide +kernel
theorem dX11_worthOf_75 : decode cX11_worthOf 75 = .ok (.aload_n 0, 1) := by decide +kernel
theorem dX11_worthOf_76 : decode cX11_worthOf 76 = .ok (.getfield 24, 3) := by decide +kernel
theorem dX11_worthOf_79 : decode cX11_worthOf 79 = .ok (.iload_n 3, 1) := by decide +kernel
theorem dX11_worthOf_80 : decode cX11_worthOf 80 = .ok (.iaload, 1) := by decide +kernel
theorem dX11_worthOf_81 : decode cX11_worthOf 81 = .ok (.iadd, 1) := by decide +kernel
theorem dX11_worthOf_82 : decode cX11_worthOf 82 = .ok (.if_icmp .ge 44, 3) := by decide +kernel
theorem dX11_worthOf_85 : decode cX11_worthOf 85 = .ok (.aload_n 0, 1) := by decide +kernel
theorem dX11_worthOf_86 : decode cX11_worthOf 86 = .ok (.getfield 27, 3) := by decide +kernel
theorem dX11_worthOf_89 : decode cX11_worthOf 89 = .ok (.iload 5, 2) := by decide +kernel
theorem dX11_worthOf_91 : decode cX11_worthOf 91 = .ok (.iaload, 1) := by decide +kernel
theorem dX11_worthOf_92 : decode cX11_worthOf 92 = .ok (.iload 4, 2) := by decide +kernel
theorem dX11_worthOf_94 : decode cX11_worthOf 94 = .ok (.if_icmp .lt 26, 3) := by decide +kernel
theorem dX11_worthOf_97 : decode cX11_worthOf 97 = .ok (.aload_n 0, 1) := by decide +kernel
theorem dX11_worthOf_98 : decode cX11_worthOf 98 = .ok (.iconst 2, 1) := by decide +kernel
theorem dX11_worthOf_99 : decode cX11_worthOf 99 = .ok (.iconst 3, 1) := by decide +kernel
theorem dX11_worthOf_100 : decode cX11_worthOf 100 = .ok (.aload_n 0, 1) := by decide +kernel
theorem dX11_worthOf_101 : decode cX11_worthOf 101 = .ok (.getfield 30, 3) := by decide +kernel
theorem dX11_worthOf_104 : decode cX11_worthOf 104 = .ok (.iload 5, 2) := by decide +kernel
theorem dX11_worthOf_106 : decode cX11_worthOf 106 = .ok (.iaload, 1) := by decide +kernel
theorem dX11_worthOf_107 : decode cX11_worthOf 107 = .ok (.i2l, 1) := by decide +kernel
theorem dX11_worthOf_108 : decode cX11_worthOf 108 = .ok (.aload_n 0, 1) := by decide +kernel
theorem dX11_worthOf_109 : decode cX11_worthOf 109 = .ok (.getfield 27, 3) := by decide +kernel
theorem dX11_worthOf_112 : decode cX11_worthOf 112 = .ok (.iload 5, 2) := by decide +kernel
theorem dX11_worthOf_114 : decode cX11_worthOf 114 = .ok (.iaload, 1) := by decide +kernel
theorem dX11_worthOf_115 : decode cX11_worthOf 115 = .ok (.i2l, 1) := by decide +kernel
theorem dX11_worthOf_116 : decode cX11_worthOf 116 = .ok (.lmul, 1) := by decide +kernel
theorem dX11_worthOf_117 : decode cX11_worthOf 117 = .ok (.invokevirtual 87, 3) := by decide +kernel
theorem dX11_worthOf_120 : decode cX11_worthOf 120 = .ok (.iinc 5 1, 3) := by decide +kernel
theorem dX11_worthOf_123 : decode cX11_worthOf 123 = .ok (.goto (-54), 3) := by decide +kernel
theorem dX11_worthOf_126 : decode cX11_worthOf 126 = .ok (.aload_n 0, 1) := by decide +kernel
theorem dX11_worthOf_127 : decode cX11_worthOf 127 = .ok (.iconst 3, 1) := by decide +kernel
theorem dX11_worthOf_128 : decode cX11_worthOf 128 = .ok (.aload_n 0, 1) := by decide +kernel
theorem dX11_worthOf_129 : decode cX11_worthOf 129 = .ok (.getfield 33, 3) := by decide +kernel
theorem dX11_worthOf_132 : decode cX11_worthOf 132 = .ok (.iload_n 3, 1) := by decide +kernel
theorem dX11_worthOf_133 : decode cX11_worthOf 133 = .ok (.iaload, 1) := by decide +kernel
theorem dX11_worthOf_134 : decode cX11_worthOf 134 = .ok (.i2l, 1) := by decide +kernel
theorem dX11_worthOf_135 : decode cX11_worthOf 135 = .ok (.invokevirtual 93, 3) := by decide +kernel
theorem dX11_worthOf_138 : decode cX11_worthOf 138 = .ok (.iinc 2 (-1), 3) := by decide +kernel
theorem dX11_worthOf_141 : decode cX11_worthOf 141 = .ok (.goto (-122), 3) := by decide +kernel
theorem dX11_worthOf_144 : decode cX11_worthOf 144 = .ok (.return_, 1) := by decide +kernel
set_option maxRecDepth 20000 in
theorem ggX11_told_X11_worthOf : GoodIn wsX11_told wsX11_worthOf := goodIn_r _ [5, 6, 7, 8, 9, 10, 11, 12, 13, 14, 15, 4, 16, 17, 18, 19, 20, 21, 22, 23, 24, 25, 26, 27, 28, 29, 30, 31, 32, 33, 34, 35, 36, 37, 38, 39, 40, 41, 73, 74, 75, 76, 77, 78, 79, 80, 81, 82, 83, 84, 85, 86, 87, 88, 89, 90, 91, 92, 93] (by decide +kernel) (by decide +kernel)
set_option maxRecDepth 20000 in
theorem gX11_told_X11_worthOf : GoodIn wsX11_told (wsV RX11 134 RX11 yX11_worthOf wsX11_worthOf) := goodIn_app (goodIn_of _ (by decide +kernel)) ggX11_told_X11_worthOf
set_option maxRecDepth 20000 in
theorem ggX11_told_X11_copy : GoodIn wsX11_told wsX11_copy := goodIn_r _ [45, 17, 73, 74, 75, 76, 77, 78, 79, 80, 81, 82, 83, 84, 85, 86, 87, 88, 89, 90, 91, 92, 93] (by decide +kernel) (by decide +kernel)
set_option maxRecDepth 20000 in
theorem gX11_told_X11_copy : GoodIn wsX11_told (wsV RX11 83 RX11 yX11_copy wsX11_copy) := goodIn_app (goodIn_of _ (by decide +kernel)) ggX11_told_X11_copy
set_option maxRecDepth 20000 in
theorem ggX11_told_X11_result : GoodIn wsX11_told wsX11_result := goodIn_r _ [49, 17, 50, 51, 42, 43, 44, 4, 45, 34, 35, 36, 37, 18, 19, 20, 21, 22, 23, 24, 25, 26, 27, 28, 29, 52, 53, 54, 55, 13, 14, 15, 16, 56, 57, 58, 59, 60, 61, 62, 63, 64, 65, 66, 67, 38, 39, 40, 41, 68, 69, 70, 71, 72, 73, 74, 75, 76, 77, 78, 79, 80, 81, 82, 83, 84, 85, 86, 87, 88, 89, 90, 91, 92, 93] (by decide +kernel) (by decide +kernel)
set_option maxRecDepth 20000 in
theorem gX11_told_X11_result : GoodIn wsX11_told (wsV RX11 137 RX11 yX11_result wsX11_result) := goodIn_app (goodIn_of _ (by decide +kernel)) ggX11_told_X11_result
theorem dX11_told_0 : decode cX11_told 0 = .ok (.aload_n 0, 1) := by decide +kernel
theorem dX11_told_1 : decode cX11_told 1 = .ok (.iconst (-1), 1) := by decide +kernel
theorem dX11_told_2 : decode cX11_told 2 = .ok (.invokevirtual 134, 3) := by decide +kernel
theorem dX11_told_5 : decode cX11_told 5 = .ok (.aload_n 0, 1) := by decide +kernel
theorem dX11_told_6 : decode cX11_told 6 = .ok (.bipush 10, 2) := by decide +kernel
theorem dX11_told_8 : decode cX11_told 8 = .ok (.iconst 2, 1) := by decide +kernel
theorem dX11_told_9 : decode cX11_told 9 = .ok (.invokevirtual 83, 3) := by decide +kernel
theorem dX11_told_12 : decode cX11_told 12 = .ok (.aload_n 0, 1) := by decide +kernel
theorem dX11_told_13 : decode cX11_told 13 = .ok (.bipush 11, 2) := by decide +kernel
theorem dX11_told_15 : decode cX11_told 15 = .ok (.iconst 3, 1) := by decide +kernel
theorem dX11_told_16 : decode cX11_told 16 = .ok (.invokevirtual 83, 3) := by decide +kernel
theorem dX11_told_19 : decode cX11_told 19 = .ok (.aload_n 0, 1) := by decide +kernel
theorem dX11_told_20 : decode cX11_told 20 = .ok (.bipush 10, 2) := by decide +kernel
theorem dX11_told_22 : decode cX11_told 22 = .ok (.bipush 11, 2) := by decide +kernel
theorem dX11_told_24 : decode cX11_told 24 = .ok (.invokevirtual 137, 3) := by decide +kernel
theorem dX11_told_27 : decode cX11_told 27 = .ok (.return_, 1) := by decide +kernel
set_option maxRecDepth 20000 in
theorem ggX11_bestFrom_X11_set : GoodIn wsX11_bestFrom wsX11_set := goodIn_r _ [11, 12, 13, 14, 15, 10, 16, 17, 18, 19, 20, 21, 22, 23, 24, 41, 42, 43, 44, 45, 46, 47, 48, 49, 50, 51, 52, 53, 54, 55, 56, 57, 58, 59, 60, 61] (by decide +kernel) (by decide +kernel)
set_option maxRecDepth 20000 in
theorem gX11_bestFrom_X11_set : GoodIn wsX11_bestFrom (wsV RX11 60 RX11 yX11_set wsX11_set) := goodIn_app (goodIn_of _ (by decide +kernel)) ggX11_bestFrom_X11_set
set_option maxRecDepth 20000 in
theorem ggX11_bestFrom_X11_more : GoodIn wsX11_bestFrom wsX11_more := goodIn_r _ [28, 12, 13, 14, 15, 10, 16, 17, 18, 19, 20, 21, 22, 23, 24, 41, 42, 43, 44, 45, 46, 47, 48, 49, 50, 51, 52, 53, 54, 55, 56, 57, 58, 59, 60, 61] (by decide +kernel) (by decide +kernel)
set_option maxRecDepth 20000 in
theorem gX11_bestFrom_X11_more : GoodIn wsX11_bestFrom (wsV RX11 87 RX11 yX11_more wsX11_more) := goodIn_app (goodIn_of _ (by decide +kernel)) ggX11_bestFrom_X11_more
set_option maxRecDepth 20000 in
theorem ggX11_bestFrom_X11_compared : GoodIn wsX11_bestFrom wsX11_compared := goodIn_r _ [32, 12, 41, 42, 43, 44, 45, 46, 47, 48, 49, 50, 51, 52, 53, 54, 55, 56, 57, 58, 59, 60, 61] (by decide +kernel) (by decide +kernel)
set_option maxRecDepth 20000 in
theorem gX11_bestFrom_X11_compared : GoodIn wsX11_bestFrom (wsV RX11 106 RX11 yX11_compared wsX11_compared) := goodIn_app (goodIn_of _ (by decide +kernel)) ggX11_bestFrom_X11_compared
set_option maxRecDepth 20000 in
theorem ggX11_bestFrom_X11_copy : GoodIn wsX11_bestFrom wsX11_copy := goodIn_r _ [36, 12, 41, 42, 43, 44, 45, 46, 47, 48, 49, 50, 51, 52, 53, 54, 55, 56, 57, 58, 59, 60, 61] (by decide +kernel) (by decide +kernel)
set_option maxRecDepth 20000 in
theorem gX11_bestFrom_X11_copy : GoodIn wsX11_bestFrom (wsV RX11 83 RX11 yX11_copy wsX11_copy) := goodIn_app (goodIn_of _ (by decide +kernel)) ggX11_bestFrom_X11_copy
set_option maxRecDepth 20000 in
theorem ggX11_bestFrom_X11_times : GoodIn wsX11_bestFrom wsX11_times := goodIn_r _ [40, 12, 13, 14, 15, 10, 16, 17, 18, 19, 20, 21, 22, 23, 24, 41, 42, 43, 44, 45, 46, 47, 48, 49, 50, 51, 52, 53, 54, 55, 56, 57, 58, 59, 60, 61] (by decide +kernel) (by decide +kernel)
set_option maxRecDepth 20000 in
theorem gX11_bestFrom_X11_times : GoodIn wsX11_bestFrom (wsV RX11 93 RX11 yX11_times wsX11_times) := goodIn_app (goodIn_of _ (by decide +kernel)) ggX11_bestFrom_X11_times
theorem dX11_bestFrom_0 : decode cX11_bestFrom 0 = .ok (.aload_n 0, 1) := by decide +kernel
theorem dX11_bestFrom_1 : decode cX11_bestFrom 1 = .ok (.bipush 10, 2) := by decide +kernel
theorem dX11_bestFrom_3 : decode cX11_bestFrom 3 = .ok (.aload_n 0, 1) := by decide +kernel
theorem dX11_bestFrom_4 : decode cX11_bestFrom 4 = .ok (.getfield 127, 3) := by decide +kernel
theorem dX11_bestFrom_7 : decode cX11_bestFrom 7 = .ok (.iadd, 1) := by decide +kernel
theorem dX11_bestFrom_8 : decode cX11_bestFrom 8 = .ok (.lconst 0, 1) := by decide +kernel
theorem dX11_bestFrom_9 : decode cX11_bestFrom 9 = .ok (.invokevirtual 60, 3) := by decide +kernel
theorem dX11_bestFrom_12 : decode cX11_bestFrom 12 = .ok (.aload_n 0, 1) := by decide +kernel
theorem dX11_bestFrom_13 : decode cX11_bestFrom 13 = .ok (.bipush 30, 2) := by decide +kernel
theorem dX11_bestFrom_15 : decode cX11_bestFrom 15 = .ok (.aload_n 0, 1) := by decide +kernel
theorem dX11_bestFrom_16 : decode cX11_bestFrom 16 = .ok (.getfield 127, 3) := by decide +kernel
theorem dX11_bestFrom_19 : decode cX11_bestFrom 19 = .ok (.iadd, 1) := by decide +kernel
theorem dX11_bestFrom_20 : decode cX11_bestFrom 20 = .ok (.lconst 1, 1) := by decide +kernel
theorem dX11_bestFrom_21 : decode cX11_bestFrom 21 = .ok (.invokevirtual 60, 3) := by decide +kernel
theorem dX11_bestFrom_24 : decode cX11_bestFrom 24 = .ok (.aload_n 0, 1) := by decide +kernel
theorem dX11_bestFrom_25 : decode cX11_bestFrom 25 = .ok (.getfield 127, 3) := by decide +kernel
theorem dX11_bestFrom_28 : decode cX11_bestFrom 28 = .ok (.iconst 1, 1) := by decide +kernel
theorem dX11_bestFrom_29 : decode cX11_bestFrom 29 = .ok (.isub, 1) := by decide +kernel
theorem dX11_bestFrom_30 : decode cX11_bestFrom 30 = .ok (.istore_n 1, 1) := by decide +kernel
theorem dX11_bestFrom_31 : decode cX11_bestFrom 31 = .ok (.iload_n 1, 1) := by decide +kernel
theorem dX11_bestFrom_32 : decode cX11_bestFrom 32 = .ok (.ifCond .lt 155, 3) := by decide +kernel
theorem dX11_bestFrom_35 : decode cX11_bestFrom 35 = .ok (.aload_n 0, 1) := by decide +kernel
theorem dX11_bestFrom_36 : decode cX11_bestFrom 36 = .ok (.getfield 36, 3) := by decide +kernel
theorem dX11_bestFrom_39 : decode cX11_bestFrom 39 = .ok (.iload_n 1, 1) := by decide +kernel
theorem dX11_bestFrom_40 : decode cX11_bestFrom 40 = .ok (.iaload, 1) := by decide +kernel
theorem dX11_bestFrom_41 : decode cX11_bestFrom 41 = .ok (.istore_n 2, 1) := by decide +kernel
theorem dX11_bestFrom_42 : decode cX11_bestFrom 42 = .ok (.aload_n 0, 1) := by decide +kernel
theorem dX11_bestFrom_43 : decode cX11_bestFrom 43 = .ok (.bipush 10, 2) := by decide +kernel
theorem dX11_bestFrom_45 : decode cX11_bestFrom 45 = .ok (.iload_n 1, 1) := by decide +kernel
theorem dX11_bestFrom_46 : decode cX11_bestFrom 46 = .ok (.iadd, 1) := by decide +kernel
theorem dX11_bestFrom_47 : decode cX11_bestFrom 47 = .ok (.lconst 0, 1) := by decide +kernel
theorem dX11_bestFrom_48 : decode cX11_bestFrom 48 = .ok (.invokevirtual 60, 3) := by decide +kernel
theorem dX11_bestFrom_51 : decode cX11_bestFrom 51 = .ok (.bipush 8, 2) := by decide +kernel
theorem dX11_bestFrom_53 : decode cX11_bestFrom 53 = .ok (.iload_n 2, 1) := by decide +kernel
theorem dX11_bestFrom_54 : decode cX11_bestFrom 54 = .ok (.imul, 1) := by decide +kernel
theorem dX11_bestFrom_55 : decode cX11_bestFrom 55 = .ok (.istore_n 3, 1) := by decide +kernel
theorem dX11_bestFrom_56 : decode cX11_bestFrom 56 = .ok (.iload_n 3, 1) := by decide +kernel
theorem dX11_bestFrom_57 : decode cX11_bestFrom 57 = .ok (.bipush 8, 2) := by decide +kernel
theorem dX11_bestFrom_59 : decode cX11_bestFrom 59 = .ok (.iload_n 2, 1) := by decide +kernel
theorem dX11_bestFrom_60 : decode cX11_bestFrom 60 = .ok (.imul, 1) := by decide +kernel
theorem dX11_bestFrom_61 : decode cX11_bestFrom 61 = .ok (.aload_n 0, 1) := by decide +kernel
theorem dX11_bestFrom_62 : decode cX11_bestFrom 62 = .ok (.getfield 24, 3) := by decide +kernel
theorem dX11_bestFrom_65 : decode cX11_bestFrom 65 = .ok (.iload_n 2, 1) := by decide +kernel
theorem dX11_bestFrom_66 : decode cX11_bestFrom 66 = .ok (.iaload, 1) := by decide +kernel
theorem dX11_bestFrom_67 : decode cX11_bestFrom 67 = .ok (.iadd, 1) := by decide +kernel
theorem dX11_bestFrom_68 : decode cX11_bestFrom 68 = .ok (.if_icmp .ge 84, 3) := by decide +kernel
theorem dX11_bestFrom_71 : decode cX11_bestFrom 71 = .ok (.aload_n 0, 1) := by decide +kernel
theorem dX11_bestFrom_72 : decode cX11_bestFrom 72 = .ok (.iconst 2, 1) := by decide +kernel
theorem dX11_bestFrom_73 : decode cX11_bestFrom 73 = .ok (.lconst 0, 1) := by decide +kernel
theorem dX11_bestFrom_74 : decode cX11_bestFrom 74 = .ok (.invokevirtual 60, 3) := by decide +kernel
theorem dX11_bestFrom_77 : decode cX11_bestFrom 77 = .ok (.aload_n 0, 1) := by decide +kernel
theorem dX11_bestFrom_78 : decode cX11_bestFrom 78 = .ok (.iconst 2, 1) := by decide +kernel
theorem dX11_bestFrom_79 : decode cX11_bestFrom 79 = .ok (.bipush 30, 2) := by decide +kernel
theorem dX11_bestFrom_81 : decode cX11_bestFrom 81 = .ok (.iload_n 1, 1) := by decide +kernel
theorem dX11_bestFrom_82 : decode cX11_bestFrom 82 = .ok (.iadd, 1) := by decide +kernel
theorem dX11_bestFrom_83 : decode cX11_bestFrom 83 = .ok (.iconst 1, 1) := by decide +kernel
theorem dX11_bestFrom_84 : decode cX11_bestFrom 84 = .ok (.iadd, 1) := by decide +kernel
theorem dX11_bestFrom_85 : decode cX11_bestFrom 85 = .ok (.aload_n 0, 1) := by decide +kernel
theorem dX11_bestFrom_86 : decode cX11_bestFrom 86 = .ok (.getfield 27, 3) := by decide +kernel
theorem dX11_bestFrom_89 : decode cX11_bestFrom 89 = .ok (.iload_n 3, 1) := by decide +kernel
theorem dX11_bestFrom_90 : decode cX11_bestFrom 90 = .ok (.iaload, 1) := by decide +kernel
theorem dX11_bestFrom_91 : decode cX11_bestFrom 91 = .ok (.i2l, 1) := by decide +kernel
theorem dX11_bestFrom_92 : decode cX11_bestFrom 92 = .ok (.invokevirtual 87, 3) := by decide +kernel
theorem dX11_bestFrom_95 : decode cX11_bestFrom 95 = .ok (.aload_n 0, 1) := by decide +kernel
theorem dX11_bestFrom_96 : decode cX11_bestFrom 96 = .ok (.iconst 2, 1) := by decide +kernel
theorem dX11_bestFrom_97 : decode cX11_bestFrom 97 = .ok (.bipush 10, 2) := by decide +kernel
theorem dX11_bestFrom_99 : decode cX11_bestFrom 99 = .ok (.iload_n 1, 1) := by decide +kernel
theorem dX11_bestFrom_100 : decode cX11_bestFrom 100 = .ok (.iadd, 1) := by decide +kernel
theorem dX11_bestFrom_101 : decode cX11_bestFrom 101 = .ok (.iconst 1, 1) := by decide +kernel
theorem dX11_bestFrom_102 : decode cX11_bestFrom 102 = .ok (.iadd, 1) := by decide +kernel
theorem dX11_bestFrom_103 : decode cX11_bestFrom 103 = .ok (.invokevirtual 106, 3) := by decide +kernel
theorem dX11_bestFrom_106 : decode cX11_bestFrom 106 = .ok (.ifCond .lt 7, 3) := by decide +kernel
theorem dX11_bestFrom_109 : decode cX11_bestFrom 109 = .ok (.iconst 1, 1) := by decide +kernel
theorem dX11_bestFrom_110 : decode cX11_bestFrom 110 = .ok (.goto 4, 3) := by decide +kernel
theorem dX11_bestFrom_113 : decode cX11_bestFrom 113 = .ok (.iconst 0, 1) := by decide +kernel
theorem dX11_bestFrom_114 : decode cX11_bestFrom 114 = .ok (.istore 4, 2) := by decide +kernel
theorem dX11_bestFrom_116 : decode cX11_bestFrom 116 = .ok (.aload_n 0, 1) := by decide +kernel
theorem dX11_bestFrom_117 : decode cX11_bestFrom 117 = .ok (.bipush 10, 2) := by decide +kernel
theorem dX11_bestFrom_119 : decode cX11_bestFrom 119 = .ok (.iload_n 1, 1) := by decide +kernel
theorem dX11_bestFrom_120 : decode cX11_bestFrom 120 = .ok (.iadd, 1) := by decide +kernel
theorem dX11_bestFrom_121 : decode cX11_bestFrom 121 = .ok (.iload 4, 2) := by decide +kernel
theorem dX11_bestFrom_123 : decode cX11_bestFrom 123 = .ok (.ifCond .eq 7, 3) := by decide +kernel
theorem dX11_bestFrom_126 : decode cX11_bestFrom 126 = .ok (.iconst 2, 1) := by decide +kernel
theorem dX11_bestFrom_127 : decode cX11_bestFrom 127 = .ok (.goto 9, 3) := by decide +kernel
theorem dX11_bestFrom_130 : decode cX11_bestFrom 130 = .ok (.bipush 10, 2) := by decide +kernel
theorem dX11_bestFrom_132 : decode cX11_bestFrom 132 = .ok (.iload_n 1, 1) := by decide +kernel
theorem dX11_bestFrom_133 : decode cX11_bestFrom 133 = .ok (.iadd, 1) := by decide +kernel
theorem dX11_bestFrom_134 : decode cX11_bestFrom 134 = .ok (.iconst 1, 1) := by decide +kernel
theorem dX11_bestFrom_135 : decode cX11_bestFrom 135 = .ok (.iadd, 1) := by decide +kernel
theorem dX11_bestFrom_136 : decode cX11_bestFrom 136 = .ok (.aload_n 0, 1) := by decide +kernel
theorem dX11_bestFrom_137 : decode cX11_bestFrom 137 = .ok (.getfield 30, 3) := by decide +kernel
theorem dX11_bestFrom_140 : decode cX11_bestFrom 140 = .ok (.iload_n 3, 1) := by decide +kernel
theorem dX11_bestFrom_141 : decode cX11_bestFrom 141 = .ok (.iaload, 1) := by decide +kernel
theorem dX11_bestFrom_142 : decode cX11_bestFrom 142 = .ok (.i2l, 1) := by decide +kernel
theorem dX11_bestFrom_143 : decode cX11_bestFrom 143 = .ok (.invokevirtual 87, 3) := by decide +kernel
theorem dX11_bestFrom_146 : decode cX11_bestFrom 146 = .ok (.iinc 3 1, 3) := by decide +kernel
theorem dX11_bestFrom_149 : decode cX11_bestFrom 149 = .ok (.goto (-93), 3) := by decide +kernel
theorem dX11_bestFrom_152 : decode cX11_bestFrom 152 = .ok (.aload_n 0, 1) := by decide +kernel
theorem dX11_bestFrom_153 : decode cX11_bestFrom 153 = .ok (.bipush 30, 2) := by decide +kernel
theorem dX11_bestFrom_155 : decode cX11_bestFrom 155 = .ok (.iload_n 1, 1) := by decide +kernel
theorem dX11_bestFrom_156 : decode cX11_bestFrom 156 = .ok (.iadd, 1) := by decide +kernel
theorem dX11_bestFrom_157 : decode cX11_bestFrom 157 = .ok (.bipush 30, 2) := by decide +kernel
theorem dX11_bestFrom_159 : decode cX11_bestFrom 159 = .ok (.iload_n 1, 1) := by decide +kernel
theorem dX11_bestFrom_160 : decode cX11_bestFrom 160 = .ok (.iadd, 1) := by decide +kernel
theorem dX11_bestFrom_161 : decode cX11_bestFrom 161 = .ok (.iconst 1, 1) := by decide +kernel
theorem dX11_bestFrom_162 : decode cX11_bestFrom 162 = .ok (.iadd, 1) := by decide +kernel
theorem dX11_bestFrom_163 : decode cX11_bestFrom 163 = .ok (.invokevirtual 83, 3) := by decide +kernel
theorem dX11_bestFrom_166 : decode cX11_bestFrom 166 = .ok (.aload_n 0, 1) := by decide +kernel
theorem dX11_bestFrom_167 : decode cX11_bestFrom 167 = .ok (.bipush 30, 2) := by decide +kernel
theorem dX11_bestFrom_169 : decode cX11_bestFrom 169 = .ok (.iload_n 1, 1) := by decide +kernel
theorem dX11_bestFrom_170 : decode cX11_bestFrom 170 = .ok (.iadd, 1) := by decide +kernel
theorem dX11_bestFrom_171 : decode cX11_bestFrom 171 = .ok (.aload_n 0, 1) := by decide +kernel
theorem dX11_bestFrom_172 : decode cX11_bestFrom 172 = .ok (.getfield 33, 3) := by decide +kernel
theorem dX11_bestFrom_175 : decode cX11_bestFrom 175 = .ok (.iload_n 2, 1) := by decide +kernel
theorem dX11_bestFrom_176 : decode cX11_bestFrom 176 = .ok (.iaload, 1) := by decide +kernel
theorem dX11_bestFrom_177 : decode cX11_bestFrom 177 = .ok (.i2l, 1) := by decide +kernel
theorem dX11_bestFrom_178 : decode cX11_bestFrom 178 = .ok (.invokevirtual 93, 3) := by decide +kernel
theorem dX11_bestFrom_181 : decode cX11_bestFrom 181 = .ok (.iinc 1 (-1), 3) := by decide +kernel
theorem dX11_bestFrom_184 : decode cX11_bestFrom 184 = .ok (.goto (-153), 3) := by decide +kernel
theorem dX11_bestFrom_187 : decode cX11_bestFrom 187 = .ok (.return_, 1) := by decide +kernel
set_option maxRecDepth 20000 in
theorem ggX11_best_X11_bestFrom : GoodIn wsX11_best wsX11_bestFrom := goodIn_r _ [5, 6, 7, 8, 9, 10, 11, 12, 13, 14, 4, 15, 16, 17, 18, 19, 20, 21, 22, 23, 24, 25, 26, 27, 28, 29, 30, 31, 32, 33, 34, 35, 36, 37, 38, 39, 40, 41, 42, 43, 44, 68, 69, 70, 71, 72, 73, 74, 75, 76, 77, 78, 79, 80, 81, 82, 83, 84, 85, 86, 87, 88] (by decide +kernel) (by decide +kernel)
set_option maxRecDepth 20000 in
theorem gX11_best_X11_bestFrom : GoodIn wsX11_best (wsV RX11 140 RX11 yX11_bestFrom wsX11_bestFrom) := goodIn_app (goodIn_of _ (by decide +kernel)) ggX11_best_X11_bestFrom
set_option maxRecDepth 20000 in
theorem ggX11_best_X11_result : GoodIn wsX11_best wsX11_result := goodIn_r _ [48, 16, 49, 50, 37, 38, 39, 4, 40, 41, 42, 43, 44, 17, 18, 19, 20, 21, 22, 23, 24, 25, 26, 27, 28, 51, 52, 53, 54, 12, 13, 14, 15, 55, 56, 57, 58, 59, 60, 61, 62, 33, 34, 35, 36, 29, 30, 31, 32, 63, 64, 65, 66, 67, 68, 69, 70, 71, 72, 73, 74, 75, 76, 77, 78, 79, 80, 81, 82, 83, 84, 85, 86, 87, 88] (by decide +kernel) (by decide +kernel)
set_option maxRecDepth 20000 in
theorem gX11_best_X11_result : GoodIn wsX11_best (wsV RX11 137 RX11 yX11_result wsX11_result) := goodIn_app (goodIn_of _ (by decide +kernel)) ggX11_best_X11_result
theorem dX11_best_0 : decode cX11_best 0 = .ok (.aload_n 0, 1) := by decide +kernel
theorem dX11_best_1 : decode cX11_best 1 = .ok (.invokevirtual 140, 3) := by decide +kernel
theorem dX11_best_4 : decode cX11_best 4 = .ok (.aload_n 0, 1) := by decide +kernel
theorem dX11_best_5 : decode cX11_best 5 = .ok (.bipush 10, 2) := by decide +kernel
theorem dX11_best_7 : decode cX11_best 7 = .ok (.bipush 30, 2) := by decide +kernel
theorem dX11_best_9 : decode cX11_best 9 = .ok (.invokevirtual 137, 3) := by decide +kernel
theorem dX11_best_12 : decode cX11_best 12 = .ok (.return_, 1) := by decide +kernel
set_option maxRecDepth 20000 in
theorem ggX11_bar_X11_bestFrom : GoodIn wsX11_bar wsX11_bestFrom := goodIn_r _ [14, 1, 2, 3, 4, 5, 15, 16, 17, 18, 13, 19, 20, 21, 22, 23, 24, 25, 26, 27, 28, 29, 30, 31, 32, 33, 34, 35, 36, 37, 38, 39, 40, 41, 42, 43, 44, 45, 46, 47, 48, 49, 50, 51, 52, 53, 54, 55, 56, 57, 58, 59, 60, 61, 62, 63, 64, 65, 66, 67, 68, 69] (by decide +kernel) (by decide +kernel)
set_option maxRecDepth 20000 in
theorem gX11_bar_X11_bestFrom : GoodIn wsX11_bar (wsV RX11 140 RX11 yX11_bestFrom wsX11_bestFrom) := goodIn_app (goodIn_of _ (by decide +kernel)) ggX11_bar_X11_bestFrom
set_option maxRecDepth 20000 in
theorem ggX11_bar_X11_set : GoodIn wsX11_bar wsX11_set := goodIn_r _ [19, 20, 21, 22, 23, 13, 24, 25, 26, 27, 28, 29, 30, 31, 32, 49, 50, 51, 52, 53, 54, 55, 56, 57, 58, 59, 60, 61, 62, 63, 64, 65, 66, 67, 68, 69] (by decide +kernel) (by decide +kernel)
set_option maxRecDepth 20000 in
theorem gX11_bar_X11_set : GoodIn wsX11_bar (wsV RX11 60 RX11 yX11_set wsX11_set) := goodIn_app (goodIn_of _ (by decide +kernel)) ggX11_bar_X11_set
set_option maxRecDepth 20000 in
theorem ggX11_bar_X11_more : GoodIn wsX11_bar wsX11_more := goodIn_r _ [36, 20, 21, 22, 23, 13, 24, 25, 26, 27, 28, 29, 30, 31, 32, 49, 50, 51, 52, 53, 54, 55, 56, 57, 58, 59, 60, 61, 62, 63, 64, 65, 66, 67, 68, 69] (by decide +kernel) (by decide +kernel)
set_option maxRecDepth 20000 in
theorem gX11_bar_X11_more : GoodIn wsX11_bar (wsV RX11 87 RX11 yX11_more wsX11_more) := goodIn_app (goodIn_of _ (by decide +kernel)) ggX11_bar_X11_more
set_option maxRecDepth 20000 in
theorem ggX11_bar_X11_compared : GoodIn wsX11_bar wsX11_compared := goodIn_r _ [40, 20, 49, 50, 51, 52, 53, 54, 55, 56, 57, 58, 59, 60, 61, 62, 63, 64, 65, 66, 67, 68, 69] (by decide +kernel) (by decide +kernel)
set_option maxRecDepth 20000 in
theorem gX11_bar_X11_compared : GoodIn wsX11_bar (wsV RX11 106 RX11 yX11_compared wsX11_compared) := goodIn_app (goodIn_of _ (by decide +kernel)) ggX11_bar_X11_compared
theorem dX11_bar_0 : decode cX11_bar 0 = .ok (.iload_n 1, 1) := by decide +kernel
theorem dX11_bar_1 : decode cX11_bar 1 = .ok (.ifCond .lt 11, 3) := by decide +kernel
theorem dX11_bar_4 : decode cX11_bar 4 = .ok (.iload_n 1, 1) := by decide +kernel
theorem dX11_bar_5 : decode cX11_bar 5 = .ok (.aload_n 0, 1) := by decide +kernel
theorem dX11_bar_6 : decode cX11_bar 6 = .ok (.getfield 127, 3) := by decide +kernel
theorem dX11_bar_9 : decode cX11_bar 9 = .ok (.if_icmp .lt 5, 3) := by decide +kernel
theorem dX11_bar_12 : decode cX11_bar 12 = .ok (.iconst (-1), 1) := by decide +kernel
theorem dX11_bar_13 : decode cX11_bar 13 = .ok (.ireturn, 1) := by decide +kernel
theorem dX11_bar_14 : decode cX11_bar 14 = .ok (.aload_n 0, 1) := by decide +kernel
theorem dX11_bar_15 : decode cX11_bar 15 = .ok (.invokevirtual 140, 3) := by decide +kernel
theorem dX11_bar_18 : decode cX11_bar 18 = .ok (.aload_n 0, 1) := by decide +kernel
theorem dX11_bar_19 : decode cX11_bar 19 = .ok (.getfield 36, 3) := by decide +kernel
theorem dX11_bar_22 : decode cX11_bar 22 = .ok (.iload_n 1, 1) := by decide +kernel
theorem dX11_bar_23 : decode cX11_bar 23 = .ok (.iaload, 1) := by decide +kernel
theorem dX11_bar_24 : decode cX11_bar 24 = .ok (.istore_n 2, 1) := by decide +kernel
theorem dX11_bar_25 : decode cX11_bar 25 = .ok (.iconst 0, 1) := by decide +kernel
theorem dX11_bar_26 : decode cX11_bar 26 = .ok (.istore_n 3, 1) := by decide +kernel
theorem dX11_bar_27 : decode cX11_bar 27 = .ok (.bipush 8, 2) := by decide +kernel
theorem dX11_bar_29 : decode cX11_bar 29 = .ok (.iload_n 2, 1) := by decide +kernel
theorem dX11_bar_30 : decode cX11_bar 30 = .ok (.imul, 1) := by decide +kernel
theorem dX11_bar_31 : decode cX11_bar 31 = .ok (.istore 4, 2) := by decide +kernel
theorem dX11_bar_33 : decode cX11_bar 33 = .ok (.iload 4, 2) := by decide +kernel
theorem dX11_bar_35 : decode cX11_bar 35 = .ok (.bipush 8, 2) := by decide +kernel
theorem dX11_bar_37 : decode cX11_bar 37 = .ok (.iload_n 2, 1) := by decide +kernel
theorem dX11_bar_38 : decode cX11_bar 38 = .ok (.imul, 1) := by decide +kernel
theorem dX11_bar_39 : decode cX11_bar 39 = .ok (.aload_n 0, 1) := by decide +kernel
theorem dX11_bar_40 : decode cX11_bar 40 = .ok (.getfield 24, 3) := by decide +kernel
theorem dX11_bar_43 : decode cX11_bar 43 = .ok (.iload_n 2, 1) := by decide +kernel
theorem dX11_bar_44 : decode cX11_bar 44 = .ok (.iaload, 1) := by decide +kernel
theorem dX11_bar_45 : decode cX11_bar 45 = .ok (.iadd, 1) := by decide +kernel
theorem dX11_bar_46 : decode cX11_bar 46 = .ok (.if_icmp .ge 72, 3) := by decide +kernel
theorem dX11_bar_49 : decode cX11_bar 49 = .ok (.aload_n 0, 1) := by decide +kernel
theorem dX11_bar_50 : decode cX11_bar 50 = .ok (.iconst 2, 1) := by decide +kernel
theorem dX11_bar_51 : decode cX11_bar 51 = .ok (.lconst 0, 1) := by decide +kernel
theorem dX11_bar_52 : decode cX11_bar 52 = .ok (.invokevirtual 60, 3) := by decide +kernel
theorem dX11_bar_55 : decode cX11_bar 55 = .ok (.aload_n 0, 1) := by decide +kernel
theorem dX11_bar_56 : decode cX11_bar 56 = .ok (.iconst 2, 1) := by decide +kernel
theorem dX11_bar_57 : decode cX11_bar 57 = .ok (.bipush 30, 2) := by decide +kernel
theorem dX11_bar_59 : decode cX11_bar 59 = .ok (.iload_n 1, 1) := by decide +kernel
theorem dX11_bar_60 : decode cX11_bar 60 = .ok (.iadd, 1) := by decide +kernel
theorem dX11_bar_61 : decode cX11_bar 61 = .ok (.iconst 1, 1) := by decide +kernel
theorem dX11_bar_62 : decode cX11_bar 62 = .ok (.iadd, 1) := by decide +kernel
theorem dX11_bar_63 : decode cX11_bar 63 = .ok (.aload_n 0, 1) := by decide +kernel
theorem dX11_bar_64 : decode cX11_bar 64 = .ok (.getfield 27, 3) := by decide +kernel
theorem dX11_bar_67 : decode cX11_bar 67 = .ok (.iload 4, 2) := by decide +kernel
theorem dX11_bar_69 : decode cX11_bar 69 = .ok (.iaload, 1) := by decide +kernel
theorem dX11_bar_70 : decode cX11_bar 70 = .ok (.i2l, 1) := by decide +kernel
theorem dX11_bar_71 : decode cX11_bar 71 = .ok (.invokevirtual 87, 3) := by decide +kernel
theorem dX11_bar_74 : decode cX11_bar 74 = .ok (.aload_n 0, 1) := by decide +kernel
theorem dX11_bar_75 : decode cX11_bar 75 = .ok (.getfield 30, 3) := by decide +kernel
theorem dX11_bar_78 : decode cX11_bar 78 = .ok (.iload 4, 2) := by decide +kernel
theorem dX11_bar_80 : decode cX11_bar 80 = .ok (.iaload, 1) := by decide +kernel
theorem dX11_bar_81 : decode cX11_bar 81 = .ok (.ifCond .le 31, 3) := by decide +kernel
theorem dX11_bar_84 : decode cX11_bar 84 = .ok (.aload_n 0, 1) := by decide +kernel
theorem dX11_bar_85 : decode cX11_bar 85 = .ok (.iconst 2, 1) := by decide +kernel
theorem dX11_bar_86 : decode cX11_bar 86 = .ok (.bipush 10, 2) := by decide +kernel
theorem dX11_bar_88 : decode cX11_bar 88 = .ok (.iload_n 1, 1) := by decide +kernel
theorem dX11_bar_89 : decode cX11_bar 89 = .ok (.iadd, 1) := by decide +kernel
theorem dX11_bar_90 : decode cX11_bar 90 = .ok (.iconst 1, 1) := by decide +kernel
theorem dX11_bar_91 : decode cX11_bar 91 = .ok (.iadd, 1) := by decide +kernel
theorem dX11_bar_92 : decode cX11_bar 92 = .ok (.invokevirtual 106, 3) := by decide +kernel
theorem dX11_bar_95 : decode cX11_bar 95 = .ok (.ifCond .ge 17, 3) := by decide +kernel
theorem dX11_bar_98 : decode cX11_bar 98 = .ok (.iload_n 3, 1) := by decide +kernel
theorem dX11_bar_99 : decode cX11_bar 99 = .ok (.aload_n 0, 1) := by decide +kernel
theorem dX11_bar_100 : decode cX11_bar 100 = .ok (.getfield 27, 3) := by decide +kernel
theorem dX11_bar_103 : decode cX11_bar 103 = .ok (.iload 4, 2) := by decide +kernel
theorem dX11_bar_105 : decode cX11_bar 105 = .ok (.iaload, 1) := by decide +kernel
theorem dX11_bar_106 : decode cX11_bar 106 = .ok (.iconst 1, 1) := by decide +kernel
theorem dX11_bar_107 : decode cX11_bar 107 = .ok (.iadd, 1) := by decide +kernel
theorem dX11_bar_108 : decode cX11_bar 108 = .ok (.invokestatic 143, 3) := by decide +kernel
theorem dX11_bar_111 : decode cX11_bar 111 = .ok (.istore_n 3, 1) := by decide +kernel
theorem dX11_bar_112 : decode cX11_bar 112 = .ok (.iinc 4 1, 3) := by decide +kernel
theorem dX11_bar_115 : decode cX11_bar 115 = .ok (.goto (-82), 3) := by decide +kernel
theorem dX11_bar_118 : decode cX11_bar 118 = .ok (.iload_n 3, 1) := by decide +kernel
theorem dX11_bar_119 : decode cX11_bar 119 = .ok (.ireturn, 1) := by decide +kernel
set_option maxRecDepth 20000 in
theorem ggX11_few_X11_set : GoodIn wsX11_few wsX11_set := goodIn_r _ [11, 12, 13, 14, 15, 10, 16, 17, 18, 19, 20, 21, 22, 23, 24, 64, 65, 66, 67, 68, 69, 70, 71, 72, 73, 74, 75, 76, 77, 78, 79, 80, 81, 82, 83, 84] (by decide +kernel) (by decide +kernel)
set_option maxRecDepth 20000 in
theorem gX11_few_X11_set : GoodIn wsX11_few (wsV RX11 60 RX11 yX11_set wsX11_set) := goodIn_app (goodIn_of _ (by decide +kernel)) ggX11_few_X11_set
set_option maxRecDepth 20000 in
theorem ggX11_few_X11_copy : GoodIn wsX11_few wsX11_copy := goodIn_r _ [28, 12, 64, 65, 66, 67, 68, 69, 70, 71, 72, 73, 74, 75, 76, 77, 78, 79, 80, 81, 82, 83, 84] (by decide +kernel) (by decide +kernel)
set_option maxRecDepth 20000 in
theorem gX11_few_X11_copy : GoodIn wsX11_few (wsV RX11 83 RX11 yX11_copy wsX11_copy) := goodIn_app (goodIn_of _ (by decide +kernel)) ggX11_few_X11_copy
set_option maxRecDepth 20000 in
theorem ggX11_few_X11_more : GoodIn wsX11_few wsX11_more := goodIn_r _ [32, 12, 13, 14, 15, 10, 16, 17, 18, 19, 20, 21, 22, 23, 24, 64, 65, 66, 67, 68, 69, 70, 71, 72, 73, 74, 75, 76, 77, 78, 79, 80, 81, 82, 83, 84] (by decide +kernel) (by decide +kernel)
set_option maxRecDepth 20000 in
theorem gX11_few_X11_more : GoodIn wsX11_few (wsV RX11 87 RX11 yX11_more wsX11_more) := goodIn_app (goodIn_of _ (by decide +kernel)) ggX11_few_X11_more
set_option maxRecDepth 20000 in
theorem ggX11_few_X11_compared : GoodIn wsX11_few wsX11_compared := goodIn_r _ [36, 12, 64, 65, 66, 67, 68, 69, 70, 71, 72, 73, 74, 75, 76, 77, 78, 79, 80, 81, 82, 83, 84] (by decide +kernel) (by decide +kernel)
set_option maxRecDepth 20000 in
theorem gX11_few_X11_compared : GoodIn wsX11_few (wsV RX11 106 RX11 yX11_compared wsX11_compared) := goodIn_app (goodIn_of _ (by decide +kernel)) ggX11_few_X11_compared
set_option maxRecDepth 20000 in
theorem ggX11_few_X11_times : GoodIn wsX11_few wsX11_times := goodIn_r _ [40, 12, 13, 14, 15, 10, 16, 17, 18, 19, 20, 21, 22, 23, 24, 64, 65, 66, 67, 68, 69, 70, 71, 72, 73, 74, 75, 76, 77, 78, 79, 80, 81, 82, 83, 84] (by decide +kernel) (by decide +kernel)
set_option maxRecDepth 20000 in
theorem gX11_few_X11_times : GoodIn wsX11_few (wsV RX11 93 RX11 yX11_times wsX11_times) := goodIn_app (goodIn_of _ (by decide +kernel)) ggX11_few_X11_times
set_option maxRecDepth 20000 in
theorem ggX11_few_X11_result : GoodIn wsX11_few wsX11_result := goodIn_r _ [44, 12, 45, 46, 25, 26, 27, 10, 28, 37, 38, 39, 40, 13, 14, 15, 16, 17, 18, 19, 20, 21, 22, 23, 24, 47, 48, 49, 50, 7, 8, 9, 11, 51, 52, 53, 54, 55, 56, 57, 58, 33, 34, 35, 36, 29, 30, 31, 32, 59, 60, 61, 62, 63, 64, 65, 66, 67, 68, 69, 70, 71, 72, 73, 74, 75, 76, 77, 78, 79, 80, 81, 82, 83, 84] (by decide +kernel) (by decide +kernel)
set_option maxRecDepth 20000 in
theorem gX11_few_X11_result : GoodIn wsX11_few (wsV RX11 137 RX11 yX11_result wsX11_result) := goodIn_app (goodIn_of _ (by decide +kernel)) ggX11_few_X11_result
theorem dX11_few_0 : decode cX11_few 0 = .ok (.iload_n 1, 1) := by decide +kernel
theorem dX11_few_1 : decode cX11_few 1 = .ok (.ifCond .lt 9, 3) := by decide +kernel
theorem dX11_few_4 : decode cX11_few 4 = .ok (.iload_n 1, 1) := by decide +kernel
theorem dX11_few_5 : decode cX11_few 5 = .ok (.bipush 10, 2) := by decide +kernel
theorem dX11_few_7 : decode cX11_few 7 = .ok (.if_icmp .le 5, 3) := by decide +kernel
theorem dX11_few_10 : decode cX11_few 10 = .ok (.iconst 0, 1) := by decide +kernel
theorem dX11_few_11 : decode cX11_few 11 = .ok (.ireturn, 1) := by decide +kernel
theorem dX11_few_12 : decode cX11_few 12 = .ok (.iconst 0, 1) := by decide +kernel
theorem dX11_few_13 : decode cX11_few 13 = .ok (.istore_n 2, 1) := by decide +kernel
theorem dX11_few_14 : decode cX11_few 14 = .ok (.iload_n 2, 1) := by decide +kernel
theorem dX11_few_15 : decode cX11_few 15 = .ok (.iload_n 1, 1) := by decide +kernel
theorem dX11_few_16 : decode cX11_few 16 = .ok (.if_icmp .gt 18, 3) := by decide +kernel
theorem dX11_few_19 : decode cX11_few 19 = .ok (.aload_n 0, 1) := by decide +kernel
theorem dX11_few_20 : decode cX11_few 20 = .ok (.bipush 10, 2) := by decide +kernel
theorem dX11_few_22 : decode cX11_few 22 = .ok (.iload_n 2, 1) := by decide +kernel
theorem dX11_few_23 : decode cX11_few 23 = .ok (.iadd, 1) := by decide +kernel
theorem dX11_few_24 : decode cX11_few 24 = .ok (.lconst 0, 1) := by decide +kernel
theorem dX11_few_25 : decode cX11_few 25 = .ok (.invokevirtual 60, 3) := by decide +kernel
theorem dX11_few_28 : decode cX11_few 28 = .ok (.iinc 2 1, 3) := by decide +kernel
theorem dX11_few_31 : decode cX11_few 31 = .ok (.goto (-17), 3) := by decide +kernel
theorem dX11_few_34 : decode cX11_few 34 = .ok (.aload_n 0, 1) := by decide +kernel
theorem dX11_few_35 : decode cX11_few 35 = .ok (.bipush 30, 2) := by decide +kernel
theorem dX11_few_37 : decode cX11_few 37 = .ok (.lconst 1, 1) := by decide +kernel
theorem dX11_few_38 : decode cX11_few 38 = .ok (.invokevirtual 60, 3) := by decide +kernel
theorem dX11_few_41 : decode cX11_few 41 = .ok (.aload_n 0, 1) := by decide +kernel
theorem dX11_few_42 : decode cX11_few 42 = .ok (.getfield 127, 3) := by decide +kernel
theorem dX11_few_45 : decode cX11_few 45 = .ok (.iconst 1, 1) := by decide +kernel
theorem dX11_few_46 : decode cX11_few 46 = .ok (.isub, 1) := by decide +kernel
theorem dX11_few_47 : decode cX11_few 47 = .ok (.istore_n 2, 1) := by decide +kernel
theorem dX11_few_48 : decode cX11_few 48 = .ok (.iload_n 2, 1) := by decide +kernel
theorem dX11_few_49 : decode cX11_few 49 = .ok (.ifCond .lt 164, 3) := by decide +kernel
theorem dX11_few_52 : decode cX11_few 52 = .ok (.aload_n 0, 1) := by decide +kernel
theorem dX11_few_53 : decode cX11_few 53 = .ok (.getfield 36, 3) := by decide +kernel
theorem dX11_few_56 : decode cX11_few 56 = .ok (.iload_n 2, 1) := by decide +kernel
theorem dX11_few_57 : decode cX11_few 57 = .ok (.iaload, 1) := by decide +kernel
theorem dX11_few_58 : decode cX11_few 58 = .ok (.istore_n 3, 1) := by decide +kernel
theorem dX11_few_59 : decode cX11_few 59 = .ok (.iload_n 1, 1) := by decide +kernel
theorem dX11_few_60 : decode cX11_few 60 = .ok (.istore 4, 2) := by decide +kernel
theorem dX11_few_62 : decode cX11_few 62 = .ok (.iload 4, 2) := by decide +kernel
theorem dX11_few_64 : decode cX11_few 64 = .ok (.ifCond .le 130, 3) := by decide +kernel
theorem dX11_few_67 : decode cX11_few 67 = .ok (.aload_n 0, 1) := by decide +kernel
theorem dX11_few_68 : decode cX11_few 68 = .ok (.bipush 31, 2) := by decide +kernel
theorem dX11_few_70 : decode cX11_few 70 = .ok (.lconst 0, 1) := by decide +kernel
theorem dX11_few_71 : decode cX11_few 71 = .ok (.invokevirtual 60, 3) := by decide +kernel
theorem dX11_few_74 : decode cX11_few 74 = .ok (.bipush 8, 2) := by decide +kernel
theorem dX11_few_76 : decode cX11_few 76 = .ok (.iload_n 3, 1) := by decide +kernel
theorem dX11_few_77 : decode cX11_few 77 = .ok (.imul, 1) := by decide +kernel
theorem dX11_few_78 : decode cX11_few 78 = .ok (.istore 5, 2) := by decide +kernel
theorem dX11_few_80 : decode cX11_few 80 = .ok (.iload 5, 2) := by decide +kernel
theorem dX11_few_82 : decode cX11_few 82 = .ok (.bipush 8, 2) := by decide +kernel
theorem dX11_few_84 : decode cX11_few 84 = .ok (.iload_n 3, 1) := by decide +kernel
theorem dX11_few_85 : decode cX11_few 85 = .ok (.imul, 1) := by decide +kernel
theorem dX11_few_86 : decode cX11_few 86 = .ok (.aload_n 0, 1) := by decide +kernel
theorem dX11_few_87 : decode cX11_few 87 = .ok (.getfield 24, 3) := by decide +kernel
theorem dX11_few_90 : decode cX11_few 90 = .ok (.iload_n 3, 1) := by decide +kernel
theorem dX11_few_91 : decode cX11_few 91 = .ok (.iaload, 1) := by decide +kernel
theorem dX11_few_92 : decode cX11_few 92 = .ok (.iadd, 1) := by decide +kernel
theorem dX11_few_93 : decode cX11_few 93 = .ok (.if_icmp .ge 84, 3) := by decide +kernel
theorem dX11_few_96 : decode cX11_few 96 = .ok (.aload_n 0, 1) := by decide +kernel
theorem dX11_few_97 : decode cX11_few 97 = .ok (.iconst 2, 1) := by decide +kernel
theorem dX11_few_98 : decode cX11_few 98 = .ok (.bipush 10, 2) := by decide +kernel
theorem dX11_few_100 : decode cX11_few 100 = .ok (.iload 4, 2) := by decide +kernel
theorem dX11_few_102 : decode cX11_few 102 = .ok (.iadd, 1) := by decide +kernel
theorem dX11_few_103 : decode cX11_few 103 = .ok (.iconst 1, 1) := by decide +kernel
theorem dX11_few_104 : decode cX11_few 104 = .ok (.isub, 1) := by decide +kernel
theorem dX11_few_105 : decode cX11_few 105 = .ok (.invokevirtual 83, 3) := by decide +kernel
theorem dX11_few_108 : decode cX11_few 108 = .ok (.aload_n 0, 1) := by decide +kernel
theorem dX11_few_109 : decode cX11_few 109 = .ok (.iconst 2, 1) := by decide +kernel
theorem dX11_few_110 : decode cX11_few 110 = .ok (.bipush 30, 2) := by decide +kernel
theorem dX11_few_112 : decode cX11_few 112 = .ok (.aload_n 0, 1) := by decide +kernel
theorem dX11_few_113 : decode cX11_few 113 = .ok (.getfield 27, 3) := by decide +kernel
theorem dX11_few_116 : decode cX11_few 116 = .ok (.iload 5, 2) := by decide +kernel
theorem dX11_few_118 : decode cX11_few 118 = .ok (.iaload, 1) := by decide +kernel
theorem dX11_few_119 : decode cX11_few 119 = .ok (.i2l, 1) := by decide +kernel
theorem dX11_few_120 : decode cX11_few 120 = .ok (.invokevirtual 87, 3) := by decide +kernel
theorem dX11_few_123 : decode cX11_few 123 = .ok (.aload_n 0, 1) := by decide +kernel
theorem dX11_few_124 : decode cX11_few 124 = .ok (.iconst 2, 1) := by decide +kernel
theorem dX11_few_125 : decode cX11_few 125 = .ok (.bipush 10, 2) := by decide +kernel
theorem dX11_few_127 : decode cX11_few 127 = .ok (.iload 4, 2) := by decide +kernel
theorem dX11_few_129 : decode cX11_few 129 = .ok (.iadd, 1) := by decide +kernel
theorem dX11_few_130 : decode cX11_few 130 = .ok (.invokevirtual 106, 3) := by decide +kernel
theorem dX11_few_133 : decode cX11_few 133 = .ok (.ifCond .le 7, 3) := by decide +kernel
theorem dX11_few_136 : decode cX11_few 136 = .ok (.iconst 1, 1) := by decide +kernel
theorem dX11_few_137 : decode cX11_few 137 = .ok (.goto 4, 3) := by decide +kernel
theorem dX11_few_140 : decode cX11_few 140 = .ok (.iconst 0, 1) := by decide +kernel
theorem dX11_few_141 : decode cX11_few 141 = .ok (.istore 6, 2) := by decide +kernel
theorem dX11_few_143 : decode cX11_few 143 = .ok (.aload_n 0, 1) := by decide +kernel
theorem dX11_few_144 : decode cX11_few 144 = .ok (.bipush 31, 2) := by decide +kernel
theorem dX11_few_146 : decode cX11_few 146 = .ok (.iload 6, 2) := by decide +kernel
theorem dX11_few_148 : decode cX11_few 148 = .ok (.ifCond .eq 7, 3) := by decide +kernel
theorem dX11_few_151 : decode cX11_few 151 = .ok (.iconst 2, 1) := by decide +kernel
theorem dX11_few_152 : decode cX11_few 152 = .ok (.goto 8, 3) := by decide +kernel
theorem dX11_few_155 : decode cX11_few 155 = .ok (.bipush 10, 2) := by decide +kernel
theorem dX11_few_157 : decode cX11_few 157 = .ok (.iload 4, 2) := by decide +kernel
theorem dX11_few_159 : decode cX11_few 159 = .ok (.iadd, 1) := by decide +kernel
theorem dX11_few_160 : decode cX11_few 160 = .ok (.aload_n 0, 1) := by decide +kernel
theorem dX11_few_161 : decode cX11_few 161 = .ok (.getfield 30, 3) := by decide +kernel
theorem dX11_few_164 : decode cX11_few 164 = .ok (.iload 5, 2) := by decide +kernel
theorem dX11_few_166 : decode cX11_few 166 = .ok (.iaload, 1) := by decide +kernel
theorem dX11_few_167 : decode cX11_few 167 = .ok (.i2l, 1) := by decide +kernel
theorem dX11_few_168 : decode cX11_few 168 = .ok (.invokevirtual 87, 3) := by decide +kernel
theorem dX11_few_171 : decode cX11_few 171 = .ok (.iinc 5 1, 3) := by decide +kernel
theorem dX11_few_174 : decode cX11_few 174 = .ok (.goto (-94), 3) := by decide +kernel
theorem dX11_few_177 : decode cX11_few 177 = .ok (.aload_n 0, 1) := by decide +kernel
theorem dX11_few_178 : decode cX11_few 178 = .ok (.bipush 10, 2) := by decide +kernel
theorem dX11_few_180 : decode cX11_few 180 = .ok (.iload 4, 2) := by decide +kernel
theorem dX11_few_182 : decode cX11_few 182 = .ok (.iadd, 1) := by decide +kernel
theorem dX11_few_183 : decode cX11_few 183 = .ok (.bipush 31, 2) := by decide +kernel
theorem dX11_few_185 : decode cX11_few 185 = .ok (.invokevirtual 83, 3) := by decide +kernel
theorem dX11_few_188 : decode cX11_few 188 = .ok (.iinc 4 (-1), 3) := by decide +kernel
theorem dX11_few_191 : decode cX11_few 191 = .ok (.goto (-129), 3) := by decide +kernel
theorem dX11_few_194 : decode cX11_few 194 = .ok (.aload_n 0, 1) := by decide +kernel
theorem dX11_few_195 : decode cX11_few 195 = .ok (.bipush 30, 2) := by decide +kernel
theorem dX11_few_197 : decode cX11_few 197 = .ok (.aload_n 0, 1) := by decide +kernel
theorem dX11_few_198 : decode cX11_few 198 = .ok (.getfield 33, 3) := by decide +kernel
theorem dX11_few_201 : decode cX11_few 201 = .ok (.iload_n 3, 1) := by decide +kernel
theorem dX11_few_202 : decode cX11_few 202 = .ok (.iaload, 1) := by decide +kernel
theorem dX11_few_203 : decode cX11_few 203 = .ok (.i2l, 1) := by decide +kernel
theorem dX11_few_204 : decode cX11_few 204 = .ok (.invokevirtual 93, 3) := by decide +kernel
theorem dX11_few_207 : decode cX11_few 207 = .ok (.iinc 2 (-1), 3) := by decide +kernel
theorem dX11_few_210 : decode cX11_few 210 = .ok (.goto (-162), 3) := by decide +kernel
theorem dX11_few_213 : decode cX11_few 213 = .ok (.aload_n 0, 1) := by decide +kernel
theorem dX11_few_214 : decode cX11_few 214 = .ok (.bipush 10, 2) := by decide +kernel
theorem dX11_few_216 : decode cX11_few 216 = .ok (.iload_n 1, 1) := by decide +kernel
theorem dX11_few_217 : decode cX11_few 217 = .ok (.iadd, 1) := by decide +kernel
theorem dX11_few_218 : decode cX11_few 218 = .ok (.bipush 30, 2) := by decide +kernel
theorem dX11_few_220 : decode cX11_few 220 = .ok (.invokevirtual 137, 3) := by decide +kernel
theorem dX11_few_223 : decode cX11_few 223 = .ok (.iconst 1, 1) := by decide +kernel
theorem dX11_few_224 : decode cX11_few 224 = .ok (.ireturn, 1) := by decide +kernel
set_option maxRecDepth 20000 in
theorem ggX11_foresees_X11_set : GoodIn wsX11_foresees wsX11_set := goodIn_r _ [9, 10, 11, 12, 13, 8, 14, 15, 16, 17, 18, 19, 20, 21, 22, 38, 39, 40, 41, 42, 43, 44, 45, 46, 47, 48, 49, 50, 51, 52, 53, 54, 55, 56, 57, 58] (by decide +kernel) (by decide +kernel)
set_option maxRecDepth 20000 in
theorem gX11_foresees_X11_set : GoodIn wsX11_foresees (wsV RX11 60 RX11 yX11_set wsX11_set) := goodIn_app (goodIn_of _ (by decide +kernel)) ggX11_foresees_X11_set
set_option maxRecDepth 20000 in
theorem ggX11_foresees_X11_times : GoodIn wsX11_foresees wsX11_times := goodIn_r _ [26, 10, 11, 12, 13, 8, 14, 15, 16, 17, 18, 19, 20, 21, 22, 38, 39, 40, 41, 42, 43, 44, 45, 46, 47, 48, 49, 50, 51, 52, 53, 54, 55, 56, 57, 58] (by decide +kernel) (by decide +kernel)
set_option maxRecDepth 20000 in
theorem gX11_foresees_X11_times : GoodIn wsX11_foresees (wsV RX11 93 RX11 yX11_times wsX11_times) := goodIn_app (goodIn_of _ (by decide +kernel)) ggX11_foresees_X11_times
set_option maxRecDepth 20000 in
theorem ggX11_foresees_X11_weightOf : GoodIn wsX11_foresees wsX11_weightOf := goodIn_r _ [30, 31, 32, 33, 38, 39, 40, 41, 42, 43, 44, 45, 46, 47, 48, 49, 50, 51, 52, 53, 54, 55, 56, 57, 58] (by decide +kernel) (by decide +kernel)
set_option maxRecDepth 20000 in
theorem gX11_foresees_X11_weightOf : GoodIn wsX11_foresees (wsV RX11 130 RX11 yX11_weightOf wsX11_weightOf) := goodIn_app (goodIn_of _ (by decide +kernel)) ggX11_foresees_X11_weightOf
set_option maxRecDepth 20000 in
theorem ggX11_foresees_X11_more : GoodIn wsX11_foresees wsX11_more := goodIn_r _ [37, 10, 11, 12, 13, 8, 14, 15, 16, 17, 18, 19, 20, 21, 22, 38, 39, 40, 41, 42, 43, 44, 45, 46, 47, 48, 49, 50, 51, 52, 53, 54, 55, 56, 57, 58] (by decide +kernel) (by decide +kernel)
set_option maxRecDepth 20000 in
theorem gX11_foresees_X11_more : GoodIn wsX11_foresees (wsV RX11 87 RX11 yX11_more wsX11_more) := goodIn_app (goodIn_of _ (by decide +kernel)) ggX11_foresees_X11_more
theorem dX11_foresees_0 : decode cX11_foresees 0 = .ok (.aload_n 0, 1) := by decide +kernel
theorem dX11_foresees_1 : decode cX11_foresees 1 = .ok (.iconst 4, 1) := by decide +kernel
theorem dX11_foresees_2 : decode cX11_foresees 2 = .ok (.lconst 0, 1) := by decide +kernel
theorem dX11_foresees_3 : decode cX11_foresees 3 = .ok (.invokevirtual 60, 3) := by decide +kernel
theorem dX11_foresees_6 : decode cX11_foresees 6 = .ok (.aload_n 0, 1) := by decide +kernel
theorem dX11_foresees_7 : decode cX11_foresees 7 = .ok (.iconst 5, 1) := by decide +kernel
theorem dX11_foresees_8 : decode cX11_foresees 8 = .ok (.lconst 1, 1) := by decide +kernel
theorem dX11_foresees_9 : decode cX11_foresees 9 = .ok (.invokevirtual 60, 3) := by decide +kernel
theorem dX11_foresees_12 : decode cX11_foresees 12 = .ok (.iconst 0, 1) := by decide +kernel
theorem dX11_foresees_13 : decode cX11_foresees 13 = .ok (.istore_n 1, 1) := by decide +kernel
theorem dX11_foresees_14 : decode cX11_foresees 14 = .ok (.iload_n 1, 1) := by decide +kernel
theorem dX11_foresees_15 : decode cX11_foresees 15 = .ok (.aload_n 0, 1) := by decide +kernel
theorem dX11_foresees_16 : decode cX11_foresees 16 = .ok (.getfield 127, 3) := by decide +kernel
theorem dX11_foresees_19 : decode cX11_foresees 19 = .ok (.if_icmp .ge 26, 3) := by decide +kernel
theorem dX11_foresees_22 : decode cX11_foresees 22 = .ok (.aload_n 0, 1) := by decide +kernel
theorem dX11_foresees_23 : decode cX11_foresees 23 = .ok (.iconst 5, 1) := by decide +kernel
theorem dX11_foresees_24 : decode cX11_foresees 24 = .ok (.aload_n 0, 1) := by decide +kernel
theorem dX11_foresees_25 : decode cX11_foresees 25 = .ok (.getfield 33, 3) := by decide +kernel
theorem dX11_foresees_28 : decode cX11_foresees 28 = .ok (.aload_n 0, 1) := by decide +kernel
theorem dX11_foresees_29 : decode cX11_foresees 29 = .ok (.getfield 36, 3) := by decide +kernel
theorem dX11_foresees_32 : decode cX11_foresees 32 = .ok (.iload_n 1, 1) := by decide +kernel
theorem dX11_foresees_33 : decode cX11_foresees 33 = .ok (.iaload, 1) := by decide +kernel
theorem dX11_foresees_34 : decode cX11_foresees 34 = .ok (.iaload, 1) := by decide +kernel
theorem dX11_foresees_35 : decode cX11_foresees 35 = .ok (.i2l, 1) := by decide +kernel
theorem dX11_foresees_36 : decode cX11_foresees 36 = .ok (.invokevirtual 93, 3) := by decide +kernel
theorem dX11_foresees_39 : decode cX11_foresees 39 = .ok (.iinc 1 1, 3) := by decide +kernel
theorem dX11_foresees_42 : decode cX11_foresees 42 = .ok (.goto (-28), 3) := by decide +kernel
theorem dX11_foresees_45 : decode cX11_foresees 45 = .ok (.iconst 1, 1) := by decide +kernel
theorem dX11_foresees_46 : decode cX11_foresees 46 = .ok (.istore_n 1, 1) := by decide +kernel
theorem dX11_foresees_47 : decode cX11_foresees 47 = .ok (.iload_n 1, 1) := by decide +kernel
theorem dX11_foresees_48 : decode cX11_foresees 48 = .ok (.sipush 1000, 3) := by decide +kernel
theorem dX11_foresees_51 : decode cX11_foresees 51 = .ok (.if_icmp .gt 77, 3) := by decide +kernel
theorem dX11_foresees_54 : decode cX11_foresees 54 = .ok (.aload_n 0, 1) := by decide +kernel
theorem dX11_foresees_55 : decode cX11_foresees 55 = .ok (.getfield 127, 3) := by decide +kernel
theorem dX11_foresees_58 : decode cX11_foresees 58 = .ok (.ifCond .le 70, 3) := by decide +kernel
theorem dX11_foresees_61 : decode cX11_foresees 61 = .ok (.aload_n 0, 1) := by decide +kernel
theorem dX11_foresees_62 : decode cX11_foresees 62 = .ok (.bipush 6, 2) := by decide +kernel
theorem dX11_foresees_64 : decode cX11_foresees 64 = .ok (.lconst 1, 1) := by decide +kernel
theorem dX11_foresees_65 : decode cX11_foresees 65 = .ok (.invokevirtual 60, 3) := by decide +kernel
theorem dX11_foresees_68 : decode cX11_foresees 68 = .ok (.iconst 0, 1) := by decide +kernel
theorem dX11_foresees_69 : decode cX11_foresees 69 = .ok (.istore_n 2, 1) := by decide +kernel
theorem dX11_foresees_70 : decode cX11_foresees 70 = .ok (.iload_n 2, 1) := by decide +kernel
theorem dX11_foresees_71 : decode cX11_foresees 71 = .ok (.aload_n 0, 1) := by decide +kernel
theorem dX11_foresees_72 : decode cX11_foresees 72 = .ok (.getfield 127, 3) := by decide +kernel
theorem dX11_foresees_75 : decode cX11_foresees 75 = .ok (.if_icmp .ge 30, 3) := by decide +kernel
theorem dX11_foresees_78 : decode cX11_foresees 78 = .ok (.aload_n 0, 1) := by decide +kernel
theorem dX11_foresees_79 : decode cX11_foresees 79 = .ok (.bipush 6, 2) := by decide +kernel
theorem dX11_foresees_81 : decode cX11_foresees 81 = .ok (.aload_n 0, 1) := by decide +kernel
theorem dX11_foresees_82 : decode cX11_foresees 82 = .ok (.aload_n 0, 1) := by decide +kernel
theorem dX11_foresees_83 : decode cX11_foresees 83 = .ok (.getfield 36, 3) := by decide +kernel
theorem dX11_foresees_86 : decode cX11_foresees 86 = .ok (.iload_n 2, 1) := by decide +kernel
theorem dX11_foresees_87 : decode cX11_foresees 87 = .ok (.iaload, 1) := by decide +kernel
theorem dX11_foresees_88 : decode cX11_foresees 88 = .ok (.iconst 0, 1) := by decide +kernel
theorem dX11_foresees_89 : decode cX11_foresees 89 = .ok (.iload_n 1, 1) := by decide +kernel
theorem dX11_foresees_90 : decode cX11_foresees 90 = .ok (.iconst 1, 1) := by decide +kernel
theorem dX11_foresees_91 : decode cX11_foresees 91 = .ok (.isub, 1) := by decide +kernel
theorem dX11_foresees_92 : decode cX11_foresees 92 = .ok (.invokevirtual 130, 3) := by decide +kernel
theorem dX11_foresees_95 : decode cX11_foresees 95 = .ok (.i2l, 1) := by decide +kernel
theorem dX11_foresees_96 : decode cX11_foresees 96 = .ok (.invokevirtual 93, 3) := by decide +kernel
theorem dX11_foresees_99 : decode cX11_foresees 99 = .ok (.iinc 2 1, 3) := by decide +kernel
theorem dX11_foresees_102 : decode cX11_foresees 102 = .ok (.goto (-32), 3) := by decide +kernel
theorem dX11_foresees_105 : decode cX11_foresees 105 = .ok (.aload_n 0, 1) := by decide +kernel
theorem dX11_foresees_106 : decode cX11_foresees 106 = .ok (.iconst 4, 1) := by decide +kernel
theorem dX11_foresees_107 : decode cX11_foresees 107 = .ok (.iconst 5, 1) := by decide +kernel
theorem dX11_foresees_108 : decode cX11_foresees 108 = .ok (.lconst 1, 1) := by decide +kernel
theorem dX11_foresees_109 : decode cX11_foresees 109 = .ok (.invokevirtual 87, 3) := by decide +kernel
theorem dX11_foresees_112 : decode cX11_foresees 112 = .ok (.aload_n 0, 1) := by decide +kernel
theorem dX11_foresees_113 : decode cX11_foresees 113 = .ok (.iconst 4, 1) := by decide +kernel
theorem dX11_foresees_114 : decode cX11_foresees 114 = .ok (.bipush 6, 2) := by decide +kernel
theorem dX11_foresees_116 : decode cX11_foresees 116 = .ok (.ldc2_w 91, 3) := by decide +kernel
theorem dX11_foresees_119 : decode cX11_foresees 119 = .ok (.invokevirtual 87, 3) := by decide +kernel
theorem dX11_foresees_122 : decode cX11_foresees 122 = .ok (.iinc 1 1, 3) := by decide +kernel
theorem dX11_foresees_125 : decode cX11_foresees 125 = .ok (.goto (-78), 3) := by decide +kernel
theorem dX11_foresees_128 : decode cX11_foresees 128 = .ok (.return_, 1) := by decide +kernel
set_option maxRecDepth 20000 in
theorem ggX11_foresight_X11_foresees : GoodIn wsX11_foresight wsX11_foresees := goodIn_r _ [5, 6, 7, 8, 9, 10, 11, 12, 4, 13, 14, 15, 16, 17, 18, 19, 20, 21, 22, 23, 24, 25, 26, 27, 28, 29, 30, 31, 32, 33, 34, 35, 36, 37, 38, 39, 40, 41, 72, 73, 74, 75, 76, 77, 78, 79, 80, 81, 82, 83, 84, 85, 86, 87, 88, 89, 90, 91, 92] (by decide +kernel) (by decide +kernel)
set_option maxRecDepth 20000 in
theorem gX11_foresight_X11_foresees : GoodIn wsX11_foresight (wsV RX11 146 RX11 yX11_foresees wsX11_foresees) := goodIn_app (goodIn_of _ (by decide +kernel)) ggX11_foresight_X11_foresees
set_option maxRecDepth 20000 in
theorem ggX11_foresight_X11_copy : GoodIn wsX11_foresight wsX11_copy := goodIn_r _ [45, 14, 72, 73, 74, 75, 76, 77, 78, 79, 80, 81, 82, 83, 84, 85, 86, 87, 88, 89, 90, 91, 92] (by decide +kernel) (by decide +kernel)
set_option maxRecDepth 20000 in
theorem gX11_foresight_X11_copy : GoodIn wsX11_foresight (wsV RX11 83 RX11 yX11_copy wsX11_copy) := goodIn_app (goodIn_of _ (by decide +kernel)) ggX11_foresight_X11_copy
set_option maxRecDepth 20000 in
theorem ggX11_foresight_X11_result : GoodIn wsX11_foresight wsX11_result := goodIn_r _ [49, 14, 9, 50, 42, 43, 44, 4, 45, 27, 28, 29, 30, 15, 16, 17, 18, 19, 20, 21, 22, 23, 24, 25, 26, 51, 52, 53, 54, 10, 11, 12, 13, 55, 56, 57, 58, 59, 60, 61, 62, 63, 64, 65, 66, 38, 39, 40, 41, 67, 68, 69, 70, 71, 72, 73, 74, 75, 76, 77, 78, 79, 80, 81, 82, 83, 84, 85, 86, 87, 88, 89, 90, 91, 92] (by decide +kernel) (by decide +kernel)
set_option maxRecDepth 20000 in
theorem gX11_foresight_X11_result : GoodIn wsX11_foresight (wsV RX11 137 RX11 yX11_result wsX11_result) := goodIn_app (goodIn_of _ (by decide +kernel)) ggX11_foresight_X11_result
theorem dX11_foresight_0 : decode cX11_foresight 0 = .ok (.aload_n 0, 1) := by decide +kernel
theorem dX11_foresight_1 : decode cX11_foresight 1 = .ok (.invokevirtual 146, 3) := by decide +kernel
theorem dX11_foresight_4 : decode cX11_foresight 4 = .ok (.aload_n 0, 1) := by decide +kernel
theorem dX11_foresight_5 : decode cX11_foresight 5 = .ok (.bipush 10, 2) := by decide +kernel
theorem dX11_foresight_7 : decode cX11_foresight 7 = .ok (.iconst 4, 1) := by decide +kernel
theorem dX11_foresight_8 : decode cX11_foresight 8 = .ok (.invokevirtual 83, 3) := by decide +kernel
theorem dX11_foresight_11 : decode cX11_foresight 11 = .ok (.aload_n 0, 1) := by decide +kernel
theorem dX11_foresight_12 : decode cX11_foresight 12 = .ok (.bipush 11, 2) := by decide +kernel
theorem dX11_foresight_14 : decode cX11_foresight 14 = .ok (.iconst 5, 1) := by decide +kernel
theorem dX11_foresight_15 : decode cX11_foresight 15 = .ok (.invokevirtual 83, 3) := by decide +kernel
theorem dX11_foresight_18 : decode cX11_foresight 18 = .ok (.aload_n 0, 1) := by decide +kernel
theorem dX11_foresight_19 : decode cX11_foresight 19 = .ok (.bipush 10, 2) := by decide +kernel
theorem dX11_foresight_21 : decode cX11_foresight 21 = .ok (.bipush 11, 2) := by decide +kernel
theorem dX11_foresight_23 : decode cX11_foresight 23 = .ok (.invokevirtual 137, 3) := by decide +kernel
theorem dX11_foresight_26 : decode cX11_foresight 26 = .ok (.return_, 1) := by decide +kernel
set_option maxRecDepth 20000 in
theorem ggX11_half_X11_foresees : GoodIn wsX11_half wsX11_foresees := goodIn_r _ [6, 7, 8, 9, 10, 11, 12, 13, 5, 14, 15, 16, 17, 18, 19, 20, 21, 22, 23, 24, 25, 26, 27, 28, 29, 30, 31, 32, 33, 34, 35, 36, 37, 38, 39, 40, 41, 42, 56, 57, 58, 59, 60, 61, 62, 63, 64, 65, 66, 67, 68, 69, 70, 71, 72, 73, 74, 75, 76] (by decide +kernel) (by decide +kernel)
set_option maxRecDepth 20000 in
theorem gX11_half_X11_foresees : GoodIn wsX11_half (wsV RX11 146 RX11 yX11_foresees wsX11_foresees) := goodIn_app (goodIn_of _ (by decide +kernel)) ggX11_half_X11_foresees
set_option maxRecDepth 20000 in
theorem ggX11_half_X11_copy : GoodIn wsX11_half wsX11_copy := goodIn_r _ [46, 15, 56, 57, 58, 59, 60, 61, 62, 63, 64, 65, 66, 67, 68, 69, 70, 71, 72, 73, 74, 75, 76] (by decide +kernel) (by decide +kernel)
set_option maxRecDepth 20000 in
theorem gX11_half_X11_copy : GoodIn wsX11_half (wsV RX11 83 RX11 yX11_copy wsX11_copy) := goodIn_app (goodIn_of _ (by decide +kernel)) ggX11_half_X11_copy
set_option maxRecDepth 20000 in
theorem ggX11_half_X11_worthOf : GoodIn wsX11_half wsX11_worthOf := goodIn_r _ [50, 7, 9, 51, 36, 37, 38, 8, 11, 12, 13, 5, 14, 15, 16, 17, 18, 19, 20, 21, 22, 23, 24, 25, 26, 27, 32, 33, 34, 35, 28, 29, 30, 31, 39, 40, 41, 42, 56, 57, 58, 59, 60, 61, 62, 63, 64, 65, 66, 67, 68, 69, 70, 71, 72, 73, 74, 75, 76] (by decide +kernel) (by decide +kernel)
set_option maxRecDepth 20000 in
theorem gX11_half_X11_worthOf : GoodIn wsX11_half (wsV RX11 134 RX11 yX11_worthOf wsX11_worthOf) := goodIn_app (goodIn_of _ (by decide +kernel)) ggX11_half_X11_worthOf
set_option maxRecDepth 20000 in
theorem ggX11_half_X11_times : GoodIn wsX11_half wsX11_times := goodIn_r _ [31, 15, 16, 17, 18, 5, 19, 20, 21, 22, 23, 24, 25, 26, 27, 56, 57, 58, 59, 60, 61, 62, 63, 64, 65, 66, 67, 68, 69, 70, 71, 72, 73, 74, 75, 76] (by decide +kernel) (by decide +kernel)
set_option maxRecDepth 20000 in
theorem gX11_half_X11_times : GoodIn wsX11_half (wsV RX11 93 RX11 yX11_times wsX11_times) := goodIn_app (goodIn_of _ (by decide +kernel)) ggX11_half_X11_times
set_option maxRecDepth 20000 in
theorem ggX11_half_X11_compared : GoodIn wsX11_half wsX11_compared := goodIn_r _ [55, 15, 56, 57, 58, 59, 60, 61, 62, 63, 64, 65, 66, 67, 68, 69, 70, 71, 72, 73, 74, 75, 76] (by decide +kernel) (by decide +kernel)
set_option maxRecDepth 20000 in
theorem gX11_half_X11_compared : GoodIn wsX11_half (wsV RX11 106 RX11 yX11_compared wsX11_compared) := goodIn_app (goodIn_of _ (by decide +kernel)) ggX11_half_X11_compared
theorem dX11_half_0 : decode cX11_half 0 = .ok (.aload_n 0, 1) := by decide +kernel
theorem dX11_half_1 : decode cX11_half 1 = .ok (.invokevirtual 146, 3) := by decide +kernel
theorem dX11_half_4 : decode cX11_half 4 = .ok (.aload_n 0, 1) := by decide +kernel
theorem dX11_half_5 : decode cX11_half 5 = .ok (.bipush 10, 2) := by decide +kernel
theorem dX11_half_7 : decode cX11_half 7 = .ok (.iconst 4, 1) := by decide +kernel
theorem dX11_half_8 : decode cX11_half 8 = .ok (.invokevirtual 83, 3) := by decide +kernel
theorem dX11_half_11 : decode cX11_half 11 = .ok (.iconst 0, 1) := by decide +kernel
theorem dX11_half_12 : decode cX11_half 12 = .ok (.istore_n 1, 1) := by decide +kernel
theorem dX11_half_13 : decode cX11_half 13 = .ok (.iload_n 1, 1) := by decide +kernel
theorem dX11_half_14 : decode cX11_half 14 = .ok (.sipush 1001, 3) := by decide +kernel
theorem dX11_half_17 : decode cX11_half 17 = .ok (.if_icmp .gt 34, 3) := by decide +kernel
theorem dX11_half_20 : decode cX11_half 20 = .ok (.aload_n 0, 1) := by decide +kernel
theorem dX11_half_21 : decode cX11_half 21 = .ok (.iload_n 1, 1) := by decide +kernel
theorem dX11_half_22 : decode cX11_half 22 = .ok (.invokevirtual 134, 3) := by decide +kernel
theorem dX11_half_25 : decode cX11_half 25 = .ok (.aload_n 0, 1) := by decide +kernel
theorem dX11_half_26 : decode cX11_half 26 = .ok (.iconst 2, 1) := by decide +kernel
theorem dX11_half_27 : decode cX11_half 27 = .ok (.ldc2_w 79, 3) := by decide +kernel
theorem dX11_half_30 : decode cX11_half 30 = .ok (.invokevirtual 93, 3) := by decide +kernel
theorem dX11_half_33 : decode cX11_half 33 = .ok (.aload_n 0, 1) := by decide +kernel
theorem dX11_half_34 : decode cX11_half 34 = .ok (.iconst 2, 1) := by decide +kernel
theorem dX11_half_35 : decode cX11_half 35 = .ok (.bipush 10, 2) := by decide +kernel
theorem dX11_half_37 : decode cX11_half 37 = .ok (.invokevirtual 106, 3) := by decide +kernel
theorem dX11_half_40 : decode cX11_half 40 = .ok (.ifCond .lt 5, 3) := by decide +kernel
theorem dX11_half_43 : decode cX11_half 43 = .ok (.iload_n 1, 1) := by decide +kernel
theorem dX11_half_44 : decode cX11_half 44 = .ok (.ireturn, 1) := by decide +kernel
theorem dX11_half_45 : decode cX11_half 45 = .ok (.iinc 1 1, 3) := by decide +kernel
theorem dX11_half_48 : decode cX11_half 48 = .ok (.goto (-35), 3) := by decide +kernel
theorem dX11_half_51 : decode cX11_half 51 = .ok (.iconst (-1), 1) := by decide +kernel
theorem dX11_half_52 : decode cX11_half 52 = .ok (.ireturn, 1) := by decide +kernel
set_option maxRecDepth 20000 in
theorem ggX11_common_X11_common : GoodIn wsX11_common wsX11_common := goodIn_r _ [0, 1, 2, 3] (by decide +kernel) (by decide +kernel)
set_option maxRecDepth 20000 in
theorem gX11_common_X11_common : GoodIn wsX11_common (va_wsS RX11 149 yX11_common wsX11_common) := goodIn_app (goodIn_of _ (by decide +kernel)) ggX11_common_X11_common
theorem dX11_common_0 : decode cX11_common 0 = .ok (.iload_n 1, 1) := by decide +kernel
theorem dX11_common_1 : decode cX11_common 1 = .ok (.ifCond .ne 7, 3) := by decide +kernel
theorem dX11_common_4 : decode cX11_common 4 = .ok (.iload_n 0, 1) := by decide +kernel
theorem dX11_common_5 : decode cX11_common 5 = .ok (.goto 10, 3) := by decide +kernel
theorem dX11_common_8 : decode cX11_common 8 = .ok (.iload_n 1, 1) := by decide +kernel
theorem dX11_common_9 : decode cX11_common 9 = .ok (.iload_n 0, 1) := by decide +kernel
theorem dX11_common_10 : decode cX11_common 10 = .ok (.iload_n 1, 1) := by decide +kernel
theorem dX11_common_11 : decode cX11_common 11 = .ok (.irem, 1) := by decide +kernel
theorem dX11_common_12 : decode cX11_common 12 = .ok (.invokestatic 149, 3) := by decide +kernel
theorem dX11_common_15 : decode cX11_common 15 = .ok (.ireturn, 1) := by decide +kernel
set_option maxRecDepth 20000 in
theorem ggX11_multiple_X11_set : GoodIn wsX11_multiple wsX11_set := goodIn_r _ [7, 2, 8, 9, 10, 6, 11, 1, 12, 13, 14, 15, 16, 17, 18, 30, 31, 32, 33, 34, 35, 36, 37, 38, 39, 40, 41, 42, 43, 44, 45, 46, 47, 48, 49, 50] (by decide +kernel) (by decide +kernel)
set_option maxRecDepth 20000 in
theorem gX11_multiple_X11_set : GoodIn wsX11_multiple (wsV RX11 60 RX11 yX11_set wsX11_set) := goodIn_app (goodIn_of _ (by decide +kernel)) ggX11_multiple_X11_set
set_option maxRecDepth 20000 in
theorem ggX11_multiple_X11_copy : GoodIn wsX11_multiple wsX11_copy := goodIn_r _ [22, 2, 30, 31, 32, 33, 34, 35, 36, 37, 38, 39, 40, 41, 42, 43, 44, 45, 46, 47, 48, 49, 50] (by decide +kernel) (by decide +kernel)
set_option maxRecDepth 20000 in
theorem gX11_multiple_X11_copy : GoodIn wsX11_multiple (wsV RX11 83 RX11 yX11_copy wsX11_copy) := goodIn_app (goodIn_of _ (by decide +kernel)) ggX11_multiple_X11_copy
set_option maxRecDepth 20000 in
theorem ggX11_multiple_X11_common : GoodIn wsX11_multiple wsX11_common := goodIn_r _ [25, 23, 24, 6] (by decide +kernel) (by decide +kernel)
set_option maxRecDepth 20000 in
theorem gX11_multiple_X11_common : GoodIn wsX11_multiple (va_wsS RX11 149 yX11_common wsX11_common) := goodIn_app (goodIn_of _ (by decide +kernel)) ggX11_multiple_X11_common
set_option maxRecDepth 20000 in
theorem ggX11_multiple_X11_times : GoodIn wsX11_multiple wsX11_times := goodIn_r _ [29, 2, 8, 9, 10, 6, 11, 1, 12, 13, 14, 15, 16, 17, 18, 30, 31, 32, 33, 34, 35, 36, 37, 38, 39, 40, 41, 42, 43, 44, 45, 46, 47, 48, 49, 50] (by decide +kernel) (by decide +kernel)
set_option maxRecDepth 20000 in
theorem gX11_multiple_X11_times : GoodIn wsX11_multiple (wsV RX11 93 RX11 yX11_times wsX11_times) := goodIn_app (goodIn_of _ (by decide +kernel)) ggX11_multiple_X11_times
theorem dX11_multiple_0 : decode cX11_multiple 0 = .ok (.aload_n 0, 1) := by decide +kernel
theorem dX11_multiple_1 : decode cX11_multiple 1 = .ok (.iload_n 1, 1) := by decide +kernel
theorem dX11_multiple_2 : decode cX11_multiple 2 = .ok (.lconst 1, 1) := by decide +kernel
theorem dX11_multiple_3 : decode cX11_multiple 3 = .ok (.invokevirtual 60, 3) := by decide +kernel
theorem dX11_multiple_6 : decode cX11_multiple 6 = .ok (.iconst 2, 1) := by decide +kernel
theorem dX11_multiple_7 : decode cX11_multiple 7 = .ok (.istore_n 3, 1) := by decide +kernel
theorem dX11_multiple_8 : decode cX11_multiple 8 = .ok (.iload_n 3, 1) := by decide +kernel
theorem dX11_multiple_9 : decode cX11_multiple 9 = .ok (.iload_n 2, 1) := by decide +kernel
theorem dX11_multiple_10 : decode cX11_multiple 10 = .ok (.if_icmp .ge 71, 3) := by decide +kernel
theorem dX11_multiple_13 : decode cX11_multiple 13 = .ok (.aload_n 0, 1) := by decide +kernel
theorem dX11_multiple_14 : decode cX11_multiple 14 = .ok (.bipush 6, 2) := by decide +kernel
theorem dX11_multiple_16 : decode cX11_multiple 16 = .ok (.iload_n 1, 1) := by decide +kernel
theorem dX11_multiple_17 : decode cX11_multiple 17 = .ok (.invokevirtual 83, 3) := by decide +kernel
theorem dX11_multiple_20 : decode cX11_multiple 20 = .ok (.lconst 0, 1) := by decide +kernel
theorem dX11_multiple_21 : decode cX11_multiple 21 = .ok (.lstore 4, 2) := by decide +kernel
theorem dX11_multiple_23 : decode cX11_multiple 23 = .ok (.bipush 9, 2) := by decide +kernel
end
section
theorem dX11_multiple_25 : decode cX11_multiple 25 = .ok (.istore 6, 2) := by decide +kernel
theorem dX11_multiple_27 : decode cX11_multiple 27 = .ok (.iload 6, 2) := by decide +kernel
theorem dX11_multiple_29 : decode cX11_multiple 29 = .ok (.ifCond .lt 31, 3) := by decide +kernel
theorem dX11_multiple_32 : decode cX11_multiple 32 = .ok (.lload 4, 2) := by decide +kernel
theorem dX11_multiple_34 : decode cX11_multiple 34 = .ok (.ldc2_w 64, 3) := by decide +kernel
theorem dX11_multiple_37 : decode cX11_multiple 37 = .ok (.lmul, 1) := by decide +kernel
theorem dX11_multiple_38 : decode cX11_multiple 38 = .ok (.aload_n 0, 1) := by decide +kernel
theorem dX11_multiple_39 : decode cX11_multiple 39 = .ok (.getfield 10, 3) := by decide +kernel
theorem dX11_multiple_42 : decode cX11_multiple 42 = .ok (.bipush 60, 2) := by decide +kernel
theorem dX11_multiple_44 : decode cX11_multiple 44 = .ok (.iload 6, 2) := by decide +kernel
theorem dX11_multiple_46 : decode cX11_multiple 46 = .ok (.iadd, 1) := by decide +kernel
theorem dX11_multiple_47 : decode cX11_multiple 47 = .ok (.laload, 1) := by decide +kernel
theorem dX11_multiple_48 : decode cX11_multiple 48 = .ok (.ladd, 1) := by decide +kernel
theorem dX11_multiple_49 : decode cX11_multiple 49 = .ok (.iload_n 3, 1) := by decide +kernel
theorem dX11_multiple_50 : decode cX11_multiple 50 = .ok (.i2l, 1) := by decide +kernel
theorem dX11_multiple_51 : decode cX11_multiple 51 = .ok (.lrem, 1) := by decide +kernel
theorem dX11_multiple_52 : decode cX11_multiple 52 = .ok (.lstore 4, 2) := by decide +kernel
theorem dX11_multiple_54 : decode cX11_multiple 54 = .ok (.iinc 6 (-1), 3) := by decide +kernel
theorem dX11_multiple_57 : decode cX11_multiple 57 = .ok (.goto (-30), 3) := by decide +kernel
theorem dX11_multiple_60 : decode cX11_multiple 60 = .ok (.aload_n 0, 1) := by decide +kernel
theorem dX11_multiple_61 : decode cX11_multiple 61 = .ok (.iload_n 1, 1) := by decide +kernel
theorem dX11_multiple_62 : decode cX11_multiple 62 = .ok (.iload_n 3, 1) := by decide +kernel
theorem dX11_multiple_63 : decode cX11_multiple 63 = .ok (.iload_n 3, 1) := by decide +kernel
theorem dX11_multiple_64 : decode cX11_multiple 64 = .ok (.lload 4, 2) := by decide +kernel
theorem dX11_multiple_66 : decode cX11_multiple 66 = .ok (.l2i, 1) := by decide +kernel
theorem dX11_multiple_67 : decode cX11_multiple 67 = .ok (.invokestatic 149, 3) := by decide +kernel
theorem dX11_multiple_70 : decode cX11_multiple 70 = .ok (.idiv, 1) := by decide +kernel
theorem dX11_multiple_71 : decode cX11_multiple 71 = .ok (.i2l, 1) := by decide +kernel
theorem dX11_multiple_72 : decode cX11_multiple 72 = .ok (.invokevirtual 93, 3) := by decide +kernel
theorem dX11_multiple_75 : decode cX11_multiple 75 = .ok (.iinc 3 1, 3) := by decide +kernel
theorem dX11_multiple_78 : decode cX11_multiple 78 = .ok (.goto (-70), 3) := by decide +kernel
theorem dX11_multiple_81 : decode cX11_multiple 81 = .ok (.return_, 1) := by decide +kernel
set_option maxRecDepth 20000 in
theorem ggX11_lets_X11_copy : GoodIn wsX11_lets wsX11_copy := goodIn_r _ [5, 6, 35, 36, 37, 38, 39, 40, 41, 42, 43, 44, 45, 46, 47, 48, 49, 50, 51, 52, 53, 54, 55] (by decide +kernel) (by decide +kernel)
set_option maxRecDepth 20000 in
theorem gX11_lets_X11_copy : GoodIn wsX11_lets (wsV RX11 83 RX11 yX11_copy wsX11_copy) := goodIn_app (goodIn_of _ (by decide +kernel)) ggX11_lets_X11_copy
set_option maxRecDepth 20000 in
theorem ggX11_lets_X11_set : GoodIn wsX11_lets wsX11_set := goodIn_r _ [10, 6, 11, 12, 13, 4, 14, 15, 16, 17, 18, 19, 20, 21, 22, 35, 36, 37, 38, 39, 40, 41, 42, 43, 44, 45, 46, 47, 48, 49, 50, 51, 52, 53, 54, 55] (by decide +kernel) (by decide +kernel)
set_option maxRecDepth 20000 in
theorem gX11_lets_X11_set : GoodIn wsX11_lets (wsV RX11 60 RX11 yX11_set wsX11_set) := goodIn_app (goodIn_of _ (by decide +kernel)) ggX11_lets_X11_set
set_option maxRecDepth 20000 in
theorem ggX11_lets_X11_over : GoodIn wsX11_lets wsX11_over := goodIn_r _ [26, 15, 6, 35, 36, 37, 38, 39, 40, 41, 42, 43, 44, 45, 46, 47, 48, 49, 50, 51, 52, 53, 54, 55] (by decide +kernel) (by decide +kernel)
set_option maxRecDepth 20000 in
theorem gX11_lets_X11_over : GoodIn wsX11_lets (wsV RX11 103 RX11 yX11_over wsX11_over) := goodIn_app (goodIn_of _ (by decide +kernel)) ggX11_lets_X11_over
set_option maxRecDepth 20000 in
theorem ggX11_lets_X11_more : GoodIn wsX11_lets wsX11_more := goodIn_r _ [30, 6, 11, 12, 13, 4, 14, 15, 16, 17, 18, 19, 20, 21, 22, 35, 36, 37, 38, 39, 40, 41, 42, 43, 44, 45, 46, 47, 48, 49, 50, 51, 52, 53, 54, 55] (by decide +kernel) (by decide +kernel)
set_option maxRecDepth 20000 in
theorem gX11_lets_X11_more : GoodIn wsX11_lets (wsV RX11 87 RX11 yX11_more wsX11_more) := goodIn_app (goodIn_of _ (by decide +kernel)) ggX11_lets_X11_more
set_option maxRecDepth 20000 in
theorem ggX11_lets_X11_times : GoodIn wsX11_lets wsX11_times := goodIn_r _ [34, 6, 11, 12, 13, 4, 14, 15, 16, 17, 18, 19, 20, 21, 22, 35, 36, 37, 38, 39, 40, 41, 42, 43, 44, 45, 46, 47, 48, 49, 50, 51, 52, 53, 54, 55] (by decide +kernel) (by decide +kernel)
set_option maxRecDepth 20000 in
theorem gX11_lets_X11_times : GoodIn wsX11_lets (wsV RX11 93 RX11 yX11_times wsX11_times) := goodIn_app (goodIn_of _ (by decide +kernel)) ggX11_lets_X11_times
theorem dX11_lets_0 : decode cX11_lets 0 = .ok (.aload_n 0, 1) := by decide +kernel
theorem dX11_lets_1 : decode cX11_lets 1 = .ok (.iconst 2, 1) := by decide +kernel
theorem dX11_lets_2 : decode cX11_lets 2 = .ok (.iconst 3, 1) := by decide +kernel
theorem dX11_lets_3 : decode cX11_lets 3 = .ok (.invokevirtual 83, 3) := by decide +kernel
theorem dX11_lets_6 : decode cX11_lets 6 = .ok (.iload_n 2, 1) := by decide +kernel
theorem dX11_lets_7 : decode cX11_lets 7 = .ok (.ifCond .ne 4, 3) := by decide +kernel
theorem dX11_lets_10 : decode cX11_lets 10 = .ok (.return_, 1) := by decide +kernel
theorem dX11_lets_11 : decode cX11_lets 11 = .ok (.aload_n 0, 1) := by decide +kernel
theorem dX11_lets_12 : decode cX11_lets 12 = .ok (.iconst 2, 1) := by decide +kernel
theorem dX11_lets_13 : decode cX11_lets 13 = .ok (.lconst 0, 1) := by decide +kernel
theorem dX11_lets_14 : decode cX11_lets 14 = .ok (.invokevirtual 60, 3) := by decide +kernel
theorem dX11_lets_17 : decode cX11_lets 17 = .ok (.iload_n 2, 1) := by decide +kernel
theorem dX11_lets_18 : decode cX11_lets 18 = .ok (.iconst 1, 1) := by decide +kernel
theorem dX11_lets_19 : decode cX11_lets 19 = .ok (.iadd, 1) := by decide +kernel
theorem dX11_lets_20 : decode cX11_lets 20 = .ok (.istore_n 3, 1) := by decide +kernel
theorem dX11_lets_21 : decode cX11_lets 21 = .ok (.iload_n 3, 1) := by decide +kernel
theorem dX11_lets_22 : decode cX11_lets 22 = .ok (.iload_n 1, 1) := by decide +kernel
theorem dX11_lets_23 : decode cX11_lets 23 = .ok (.if_icmp .gt 31, 3) := by decide +kernel
theorem dX11_lets_26 : decode cX11_lets 26 = .ok (.aload_n 0, 1) := by decide +kernel
theorem dX11_lets_27 : decode cX11_lets 27 = .ok (.iconst 4, 1) := by decide +kernel
theorem dX11_lets_28 : decode cX11_lets 28 = .ok (.iconst 3, 1) := by decide +kernel
theorem dX11_lets_29 : decode cX11_lets 29 = .ok (.invokevirtual 83, 3) := by decide +kernel
theorem dX11_lets_32 : decode cX11_lets 32 = .ok (.aload_n 0, 1) := by decide +kernel
theorem dX11_lets_33 : decode cX11_lets 33 = .ok (.iconst 4, 1) := by decide +kernel
theorem dX11_lets_34 : decode cX11_lets 34 = .ok (.iload_n 3, 1) := by decide +kernel
theorem dX11_lets_35 : decode cX11_lets 35 = .ok (.iconst 1, 1) := by decide +kernel
theorem dX11_lets_36 : decode cX11_lets 36 = .ok (.isub, 1) := by decide +kernel
theorem dX11_lets_37 : decode cX11_lets 37 = .ok (.i2l, 1) := by decide +kernel
theorem dX11_lets_38 : decode cX11_lets 38 = .ok (.invokevirtual 103, 3) := by decide +kernel
theorem dX11_lets_41 : decode cX11_lets 41 = .ok (.aload_n 0, 1) := by decide +kernel
theorem dX11_lets_42 : decode cX11_lets 42 = .ok (.iconst 2, 1) := by decide +kernel
theorem dX11_lets_43 : decode cX11_lets 43 = .ok (.iconst 4, 1) := by decide +kernel
theorem dX11_lets_44 : decode cX11_lets 44 = .ok (.lconst 1, 1) := by decide +kernel
theorem dX11_lets_45 : decode cX11_lets 45 = .ok (.invokevirtual 87, 3) := by decide +kernel
theorem dX11_lets_48 : decode cX11_lets 48 = .ok (.iinc 3 1, 3) := by decide +kernel
theorem dX11_lets_51 : decode cX11_lets 51 = .ok (.goto (-30), 3) := by decide +kernel
theorem dX11_lets_54 : decode cX11_lets 54 = .ok (.aload_n 0, 1) := by decide +kernel
theorem dX11_lets_55 : decode cX11_lets 55 = .ok (.iconst 2, 1) := by decide +kernel
theorem dX11_lets_56 : decode cX11_lets 56 = .ok (.iload_n 2, 1) := by decide +kernel
theorem dX11_lets_57 : decode cX11_lets 57 = .ok (.i2l, 1) := by decide +kernel
theorem dX11_lets_58 : decode cX11_lets 58 = .ok (.invokevirtual 93, 3) := by decide +kernel
theorem dX11_lets_61 : decode cX11_lets 61 = .ok (.return_, 1) := by decide +kernel
set_option maxRecDepth 20000 in
theorem ggX11_letting_X11_multiple : GoodIn wsX11_letting wsX11_multiple := goodIn_r _ [5, 6, 7, 8, 9, 10, 4, 11, 12, 13, 14, 15, 16, 17, 18, 19, 20, 21, 22, 23, 24, 25, 26, 27, 28, 29, 30, 31, 32, 33, 69, 70, 71, 72, 73, 74, 75, 76, 77, 78, 79, 80, 81, 82, 83, 84, 85, 86, 87, 88, 89] (by decide +kernel) (by decide +kernel)
set_option maxRecDepth 20000 in
theorem gX11_letting_X11_multiple : GoodIn wsX11_letting (wsV RX11 152 RX11 yX11_multiple wsX11_multiple) := goodIn_app (goodIn_of _ (by decide +kernel)) ggX11_letting_X11_multiple
set_option maxRecDepth 20000 in
theorem ggX11_letting_X11_lets : GoodIn wsX11_letting wsX11_lets := goodIn_r _ [37, 23, 24, 25, 4, 26, 7, 8, 9, 10, 11, 12, 13, 14, 15, 6, 16, 17, 18, 19, 20, 21, 22, 38, 39, 40, 41, 42, 43, 44, 45, 30, 31, 32, 33, 69, 70, 71, 72, 73, 74, 75, 76, 77, 78, 79, 80, 81, 82, 83, 84, 85, 86, 87, 88, 89] (by decide +kernel) (by decide +kernel)
set_option maxRecDepth 20000 in
theorem gX11_letting_X11_lets : GoodIn wsX11_letting (wsV RX11 155 RX11 yX11_lets wsX11_lets) := goodIn_app (goodIn_of _ (by decide +kernel)) ggX11_letting_X11_lets
set_option maxRecDepth 20000 in
theorem ggX11_letting_X11_copy : GoodIn wsX11_letting wsX11_copy := goodIn_r _ [26, 7, 69, 70, 71, 72, 73, 74, 75, 76, 77, 78, 79, 80, 81, 82, 83, 84, 85, 86, 87, 88, 89] (by decide +kernel) (by decide +kernel)
set_option maxRecDepth 20000 in
theorem gX11_letting_X11_copy : GoodIn wsX11_letting (wsV RX11 83 RX11 yX11_copy wsX11_copy) := goodIn_app (goodIn_of _ (by decide +kernel)) ggX11_letting_X11_copy
set_option maxRecDepth 20000 in
theorem ggX11_letting_X11_times : GoodIn wsX11_letting wsX11_times := goodIn_r _ [33, 7, 12, 13, 14, 4, 15, 6, 16, 17, 18, 19, 20, 21, 22, 69, 70, 71, 72, 73, 74, 75, 76, 77, 78, 79, 80, 81, 82, 83, 84, 85, 86, 87, 88, 89] (by decide +kernel) (by decide +kernel)
set_option maxRecDepth 20000 in
theorem gX11_letting_X11_times : GoodIn wsX11_letting (wsV RX11 93 RX11 yX11_times wsX11_times) := goodIn_app (goodIn_of _ (by decide +kernel)) ggX11_letting_X11_times
set_option maxRecDepth 20000 in
theorem ggX11_letting_X11_result : GoodIn wsX11_letting wsX11_result := goodIn_r _ [49, 7, 50, 51, 23, 24, 25, 4, 26, 30, 31, 32, 33, 12, 13, 14, 15, 6, 16, 17, 18, 19, 20, 21, 22, 52, 53, 54, 55, 8, 9, 10, 11, 56, 57, 58, 59, 38, 39, 40, 41, 60, 61, 62, 63, 42, 43, 44, 45, 64, 65, 66, 67, 68, 69, 70, 71, 72, 73, 74, 75, 76, 77, 78, 79, 80, 81, 82, 83, 84, 85, 86, 87, 88, 89] (by decide +kernel) (by decide +kernel)
set_option maxRecDepth 20000 in
theorem gX11_letting_X11_result : GoodIn wsX11_letting (wsV RX11 137 RX11 yX11_result wsX11_result) := goodIn_app (goodIn_of _ (by decide +kernel)) ggX11_letting_X11_result
theorem dX11_letting_0 : decode cX11_letting 0 = .ok (.iload_n 1, 1) := by decide +kernel
theorem dX11_letting_1 : decode cX11_letting 1 = .ok (.iconst 1, 1) := by decide +kernel
theorem dX11_letting_2 : decode cX11_letting 2 = .ok (.if_icmp .lt 18, 3) := by decide +kernel
theorem dX11_letting_5 : decode cX11_letting 5 = .ok (.iload_n 1, 1) := by decide +kernel
theorem dX11_letting_6 : decode cX11_letting 6 = .ok (.bipush 60, 2) := by decide +kernel
theorem dX11_letting_8 : decode cX11_letting 8 = .ok (.if_icmp .gt 12, 3) := by decide +kernel
theorem dX11_letting_11 : decode cX11_letting 11 = .ok (.iload_n 2, 1) := by decide +kernel
theorem dX11_letting_12 : decode cX11_letting 12 = .ok (.ifCond .lt 8, 3) := by decide +kernel
theorem dX11_letting_15 : decode cX11_letting 15 = .ok (.iload_n 2, 1) := by decide +kernel
theorem dX11_letting_16 : decode cX11_letting 16 = .ok (.iload_n 1, 1) := by decide +kernel
theorem dX11_letting_17 : decode cX11_letting 17 = .ok (.if_icmp .lt 5, 3) := by decide +kernel
theorem dX11_letting_20 : decode cX11_letting 20 = .ok (.iconst 0, 1) := by decide +kernel
theorem dX11_letting_21 : decode cX11_letting 21 = .ok (.ireturn, 1) := by decide +kernel
theorem dX11_letting_22 : decode cX11_letting 22 = .ok (.aload_n 0, 1) := by decide +kernel
theorem dX11_letting_23 : decode cX11_letting 23 = .ok (.iconst 3, 1) := by decide +kernel
theorem dX11_letting_24 : decode cX11_letting 24 = .ok (.iload_n 1, 1) := by decide +kernel
theorem dX11_letting_25 : decode cX11_letting 25 = .ok (.invokevirtual 152, 3) := by decide +kernel
theorem dX11_letting_28 : decode cX11_letting 28 = .ok (.aload_n 0, 1) := by decide +kernel
theorem dX11_letting_29 : decode cX11_letting 29 = .ok (.iload_n 1, 1) := by decide +kernel
theorem dX11_letting_30 : decode cX11_letting 30 = .ok (.iload_n 2, 1) := by decide +kernel
theorem dX11_letting_31 : decode cX11_letting 31 = .ok (.invokevirtual 155, 3) := by decide +kernel
theorem dX11_letting_34 : decode cX11_letting 34 = .ok (.aload_n 0, 1) := by decide +kernel
theorem dX11_letting_35 : decode cX11_letting 35 = .ok (.bipush 10, 2) := by decide +kernel
theorem dX11_letting_37 : decode cX11_letting 37 = .ok (.iconst 2, 1) := by decide +kernel
theorem dX11_letting_38 : decode cX11_letting 38 = .ok (.invokevirtual 83, 3) := by decide +kernel
theorem dX11_letting_41 : decode cX11_letting 41 = .ok (.aload_n 0, 1) := by decide +kernel
theorem dX11_letting_42 : decode cX11_letting 42 = .ok (.bipush 11, 2) := by decide +kernel
theorem dX11_letting_44 : decode cX11_letting 44 = .ok (.iconst 3, 1) := by decide +kernel
theorem dX11_letting_45 : decode cX11_letting 45 = .ok (.invokevirtual 83, 3) := by decide +kernel
theorem dX11_letting_48 : decode cX11_letting 48 = .ok (.aload_n 0, 1) := by decide +kernel
theorem dX11_letting_49 : decode cX11_letting 49 = .ok (.bipush 11, 2) := by decide +kernel
theorem dX11_letting_51 : decode cX11_letting 51 = .ok (.iload_n 1, 1) := by decide +kernel
theorem dX11_letting_52 : decode cX11_letting 52 = .ok (.i2l, 1) := by decide +kernel
theorem dX11_letting_53 : decode cX11_letting 53 = .ok (.invokevirtual 93, 3) := by decide +kernel
theorem dX11_letting_56 : decode cX11_letting 56 = .ok (.aload_n 0, 1) := by decide +kernel
theorem dX11_letting_57 : decode cX11_letting 57 = .ok (.bipush 10, 2) := by decide +kernel
theorem dX11_letting_59 : decode cX11_letting 59 = .ok (.bipush 11, 2) := by decide +kernel
theorem dX11_letting_61 : decode cX11_letting 61 = .ok (.invokevirtual 137, 3) := by decide +kernel
theorem dX11_letting_64 : decode cX11_letting 64 = .ok (.iconst 1, 1) := by decide +kernel
theorem dX11_letting_65 : decode cX11_letting 65 = .ok (.ireturn, 1) := by decide +kernel
set_option maxRecDepth 20000 in
theorem ggX11_pass_X11_multiple : GoodIn wsX11_pass wsX11_multiple := goodIn_r _ [5, 6, 7, 8, 9, 10, 4, 11, 12, 13, 14, 15, 16, 17, 18, 19, 20, 21, 22, 23, 24, 25, 26, 27, 28, 29, 30, 31, 32, 33, 50, 51, 52, 53, 54, 55, 56, 57, 58, 59, 60, 61, 62, 63, 64, 65, 66, 67, 68, 69, 70] (by decide +kernel) (by decide +kernel)
set_option maxRecDepth 20000 in
theorem gX11_pass_X11_multiple : GoodIn wsX11_pass (wsV RX11 152 RX11 yX11_multiple wsX11_multiple) := goodIn_app (goodIn_of _ (by decide +kernel)) ggX11_pass_X11_multiple
set_option maxRecDepth 20000 in
theorem ggX11_pass_X11_lets : GoodIn wsX11_pass wsX11_lets := goodIn_r _ [37, 23, 24, 25, 4, 26, 7, 8, 9, 10, 11, 12, 13, 14, 15, 6, 16, 17, 18, 19, 20, 21, 22, 38, 39, 40, 41, 42, 43, 44, 45, 30, 31, 32, 33, 50, 51, 52, 53, 54, 55, 56, 57, 58, 59, 60, 61, 62, 63, 64, 65, 66, 67, 68, 69, 70] (by decide +kernel) (by decide +kernel)
set_option maxRecDepth 20000 in
theorem gX11_pass_X11_lets : GoodIn wsX11_pass (wsV RX11 155 RX11 yX11_lets wsX11_lets) := goodIn_app (goodIn_of _ (by decide +kernel)) ggX11_pass_X11_lets
set_option maxRecDepth 20000 in
theorem ggX11_pass_X11_copy : GoodIn wsX11_pass wsX11_copy := goodIn_r _ [26, 7, 50, 51, 52, 53, 54, 55, 56, 57, 58, 59, 60, 61, 62, 63, 64, 65, 66, 67, 68, 69, 70] (by decide +kernel) (by decide +kernel)
set_option maxRecDepth 20000 in
theorem gX11_pass_X11_copy : GoodIn wsX11_pass (wsV RX11 83 RX11 yX11_copy wsX11_copy) := goodIn_app (goodIn_of _ (by decide +kernel)) ggX11_pass_X11_copy
set_option maxRecDepth 20000 in
theorem ggX11_pass_X11_compared : GoodIn wsX11_pass wsX11_compared := goodIn_r _ [49, 7, 50, 51, 52, 53, 54, 55, 56, 57, 58, 59, 60, 61, 62, 63, 64, 65, 66, 67, 68, 69, 70] (by decide +kernel) (by decide +kernel)
set_option maxRecDepth 20000 in
theorem gX11_pass_X11_compared : GoodIn wsX11_pass (wsV RX11 106 RX11 yX11_compared wsX11_compared) := goodIn_app (goodIn_of _ (by decide +kernel)) ggX11_pass_X11_compared
theorem dX11_pass_0 : decode cX11_pass 0 = .ok (.iload_n 1, 1) := by decide +kernel
theorem dX11_pass_1 : decode cX11_pass 1 = .ok (.iconst 1, 1) := by decide +kernel
theorem dX11_pass_2 : decode cX11_pass 2 = .ok (.if_icmp .lt 9, 3) := by decide +kernel
theorem dX11_pass_5 : decode cX11_pass 5 = .ok (.iload_n 1, 1) := by decide +kernel
theorem dX11_pass_6 : decode cX11_pass 6 = .ok (.bipush 60, 2) := by decide +kernel
theorem dX11_pass_8 : decode cX11_pass 8 = .ok (.if_icmp .le 5, 3) := by decide +kernel
theorem dX11_pass_11 : decode cX11_pass 11 = .ok (.iconst (-1), 1) := by decide +kernel
theorem dX11_pass_12 : decode cX11_pass 12 = .ok (.ireturn, 1) := by decide +kernel
theorem dX11_pass_13 : decode cX11_pass 13 = .ok (.aload_n 0, 1) := by decide +kernel
theorem dX11_pass_14 : decode cX11_pass 14 = .ok (.iconst 3, 1) := by decide +kernel
theorem dX11_pass_15 : decode cX11_pass 15 = .ok (.iload_n 1, 1) := by decide +kernel
theorem dX11_pass_16 : decode cX11_pass 16 = .ok (.invokevirtual 152, 3) := by decide +kernel
theorem dX11_pass_19 : decode cX11_pass 19 = .ok (.iconst 0, 1) := by decide +kernel
theorem dX11_pass_20 : decode cX11_pass 20 = .ok (.istore_n 2, 1) := by decide +kernel
theorem dX11_pass_21 : decode cX11_pass 21 = .ok (.aload_n 0, 1) := by decide +kernel
theorem dX11_pass_22 : decode cX11_pass 22 = .ok (.iload_n 1, 1) := by decide +kernel
theorem dX11_pass_23 : decode cX11_pass 23 = .ok (.iconst 0, 1) := by decide +kernel
theorem dX11_pass_24 : decode cX11_pass 24 = .ok (.invokevirtual 155, 3) := by decide +kernel
theorem dX11_pass_27 : decode cX11_pass 27 = .ok (.aload_n 0, 1) := by decide +kernel
theorem dX11_pass_28 : decode cX11_pass 28 = .ok (.bipush 10, 2) := by decide +kernel
theorem dX11_pass_30 : decode cX11_pass 30 = .ok (.iconst 2, 1) := by decide +kernel
theorem dX11_pass_31 : decode cX11_pass 31 = .ok (.invokevirtual 83, 3) := by decide +kernel
theorem dX11_pass_34 : decode cX11_pass 34 = .ok (.iconst 1, 1) := by decide +kernel
theorem dX11_pass_35 : decode cX11_pass 35 = .ok (.istore_n 3, 1) := by decide +kernel
theorem dX11_pass_36 : decode cX11_pass 36 = .ok (.iload_n 3, 1) := by decide +kernel
theorem dX11_pass_37 : decode cX11_pass 37 = .ok (.iload_n 1, 1) := by decide +kernel
theorem dX11_pass_38 : decode cX11_pass 38 = .ok (.if_icmp .ge 34, 3) := by decide +kernel
theorem dX11_pass_41 : decode cX11_pass 41 = .ok (.aload_n 0, 1) := by decide +kernel
theorem dX11_pass_42 : decode cX11_pass 42 = .ok (.iload_n 1, 1) := by decide +kernel
theorem dX11_pass_43 : decode cX11_pass 43 = .ok (.iload_n 3, 1) := by decide +kernel
theorem dX11_pass_44 : decode cX11_pass 44 = .ok (.invokevirtual 155, 3) := by decide +kernel
theorem dX11_pass_47 : decode cX11_pass 47 = .ok (.aload_n 0, 1) := by decide +kernel
theorem dX11_pass_48 : decode cX11_pass 48 = .ok (.iconst 2, 1) := by decide +kernel
theorem dX11_pass_49 : decode cX11_pass 49 = .ok (.bipush 10, 2) := by decide +kernel
theorem dX11_pass_51 : decode cX11_pass 51 = .ok (.invokevirtual 106, 3) := by decide +kernel
theorem dX11_pass_54 : decode cX11_pass 54 = .ok (.ifCond .le 12, 3) := by decide +kernel
theorem dX11_pass_57 : decode cX11_pass 57 = .ok (.aload_n 0, 1) := by decide +kernel
theorem dX11_pass_58 : decode cX11_pass 58 = .ok (.bipush 10, 2) := by decide +kernel
theorem dX11_pass_60 : decode cX11_pass 60 = .ok (.iconst 2, 1) := by decide +kernel
theorem dX11_pass_61 : decode cX11_pass 61 = .ok (.invokevirtual 83, 3) := by decide +kernel
theorem dX11_pass_64 : decode cX11_pass 64 = .ok (.iload_n 3, 1) := by decide +kernel
theorem dX11_pass_65 : decode cX11_pass 65 = .ok (.istore_n 2, 1) := by decide +kernel
theorem dX11_pass_66 : decode cX11_pass 66 = .ok (.iinc 3 1, 3) := by decide +kernel
theorem dX11_pass_69 : decode cX11_pass 69 = .ok (.goto (-33), 3) := by decide +kernel
theorem dX11_pass_72 : decode cX11_pass 72 = .ok (.iload_n 2, 1) := by decide +kernel
theorem dX11_pass_73 : decode cX11_pass 73 = .ok (.ireturn, 1) := by decide +kernel
theorem dX11_pay_0 : decode cX11_pay 0 = .ok (.iload_n 1, 1) := by decide +kernel
theorem dX11_pay_1 : decode cX11_pay 1 = .ok (.iconst 1, 1) := by decide +kernel
theorem dX11_pay_2 : decode cX11_pay 2 = .ok (.if_icmp .lt 20, 3) := by decide +kernel
theorem dX11_pay_5 : decode cX11_pay 5 = .ok (.iload_n 1, 1) := by decide +kernel
theorem dX11_pay_6 : decode cX11_pay 6 = .ok (.bipush 20, 2) := by decide +kernel
theorem dX11_pay_8 : decode cX11_pay 8 = .ok (.if_icmp .gt 14, 3) := by decide +kernel
theorem dX11_pay_11 : decode cX11_pay 11 = .ok (.iload_n 2, 1) := by decide +kernel
theorem dX11_pay_12 : decode cX11_pay 12 = .ok (.ifCond .lt 10, 3) := by decide +kernel
theorem dX11_pay_15 : decode cX11_pay 15 = .ok (.iload_n 2, 1) := by decide +kernel
theorem dX11_pay_16 : decode cX11_pay 16 = .ok (.sipush 1000, 3) := by decide +kernel
theorem dX11_pay_19 : decode cX11_pay 19 = .ok (.if_icmp .le 5, 3) := by decide +kernel
theorem dX11_pay_22 : decode cX11_pay 22 = .ok (.iconst 0, 1) := by decide +kernel
theorem dX11_pay_23 : decode cX11_pay 23 = .ok (.ireturn, 1) := by decide +kernel
theorem dX11_pay_24 : decode cX11_pay 24 = .ok (.aload_n 0, 1) := by decide +kernel
theorem dX11_pay_25 : decode cX11_pay 25 = .ok (.getfield 42, 3) := by decide +kernel
theorem dX11_pay_28 : decode cX11_pay 28 = .ok (.iload_n 1, 1) := by decide +kernel
theorem dX11_pay_29 : decode cX11_pay 29 = .ok (.iload_n 2, 1) := by decide +kernel
theorem dX11_pay_30 : decode cX11_pay 30 = .ok (.iastore, 1) := by decide +kernel
theorem dX11_pay_31 : decode cX11_pay 31 = .ok (.iconst 1, 1) := by decide +kernel
theorem dX11_pay_32 : decode cX11_pay 32 = .ok (.ireturn, 1) := by decide +kernel
theorem dX11_choose_0 : decode cX11_choose 0 = .ok (.iload_n 1, 1) := by decide +kernel
theorem dX11_choose_1 : decode cX11_choose 1 = .ok (.ifCond .lt 8, 3) := by decide +kernel
theorem dX11_choose_4 : decode cX11_choose 4 = .ok (.iload_n 1, 1) := by decide +kernel
theorem dX11_choose_5 : decode cX11_choose 5 = .ok (.iload_n 0, 1) := by decide +kernel
theorem dX11_choose_6 : decode cX11_choose 6 = .ok (.if_icmp .le 5, 3) := by decide +kernel
theorem dX11_choose_9 : decode cX11_choose 9 = .ok (.lconst 0, 1) := by decide +kernel
theorem dX11_choose_10 : decode cX11_choose 10 = .ok (.lreturn, 1) := by decide +kernel
theorem dX11_choose_11 : decode cX11_choose 11 = .ok (.lconst 1, 1) := by decide +kernel
theorem dX11_choose_12 : decode cX11_choose 12 = .ok (.lstore_n 2, 1) := by decide +kernel
theorem dX11_choose_13 : decode cX11_choose 13 = .ok (.iconst 0, 1) := by decide +kernel
theorem dX11_choose_14 : decode cX11_choose 14 = .ok (.istore 4, 2) := by decide +kernel
theorem dX11_choose_16 : decode cX11_choose 16 = .ok (.iload 4, 2) := by decide +kernel
theorem dX11_choose_18 : decode cX11_choose 18 = .ok (.iload_n 1, 1) := by decide +kernel
theorem dX11_choose_19 : decode cX11_choose 19 = .ok (.if_icmp .ge 23, 3) := by decide +kernel
theorem dX11_choose_22 : decode cX11_choose 22 = .ok (.lload_n 2, 1) := by decide +kernel
theorem dX11_choose_23 : decode cX11_choose 23 = .ok (.iload_n 0, 1) := by decide +kernel
theorem dX11_choose_24 : decode cX11_choose 24 = .ok (.iload 4, 2) := by decide +kernel
theorem dX11_choose_26 : decode cX11_choose 26 = .ok (.isub, 1) := by decide +kernel
theorem dX11_choose_27 : decode cX11_choose 27 = .ok (.i2l, 1) := by decide +kernel
theorem dX11_choose_28 : decode cX11_choose 28 = .ok (.lmul, 1) := by decide +kernel
theorem dX11_choose_29 : decode cX11_choose 29 = .ok (.iload 4, 2) := by decide +kernel
theorem dX11_choose_31 : decode cX11_choose 31 = .ok (.iconst 1, 1) := by decide +kernel
theorem dX11_choose_32 : decode cX11_choose 32 = .ok (.iadd, 1) := by decide +kernel
theorem dX11_choose_33 : decode cX11_choose 33 = .ok (.i2l, 1) := by decide +kernel
theorem dX11_choose_34 : decode cX11_choose 34 = .ok (.ldiv, 1) := by decide +kernel
theorem dX11_choose_35 : decode cX11_choose 35 = .ok (.lstore_n 2, 1) := by decide +kernel
theorem dX11_choose_36 : decode cX11_choose 36 = .ok (.iinc 4 1, 3) := by decide +kernel
theorem dX11_choose_39 : decode cX11_choose 39 = .ok (.goto (-23), 3) := by decide +kernel
theorem dX11_choose_42 : decode cX11_choose 42 = .ok (.lload_n 2, 1) := by decide +kernel
theorem dX11_choose_43 : decode cX11_choose 43 = .ok (.lreturn, 1) := by decide +kernel
set_option maxRecDepth 20000 in
theorem ggX11_yesOf_X11_set : GoodIn wsX11_yesOf wsX11_set := goodIn_r _ [6, 7, 8, 9, 10, 5, 11, 12, 13, 14, 15, 16, 17, 18, 19, 31, 32, 33, 34, 35, 36, 37, 38, 39, 40, 41, 42, 43, 44, 45, 46, 47, 48, 49, 50, 51] (by decide +kernel) (by decide +kernel)
set_option maxRecDepth 20000 in
theorem gX11_yesOf_X11_set : GoodIn wsX11_yesOf (wsV RX11 60 RX11 yX11_set wsX11_set) := goodIn_app (goodIn_of _ (by decide +kernel)) ggX11_yesOf_X11_set
set_option maxRecDepth 20000 in
theorem ggX11_yesOf_X11_choose : GoodIn wsX11_yesOf wsX11_choose := goodIn_r _ [22] (by decide +kernel) (by decide +kernel)
set_option maxRecDepth 20000 in
theorem gX11_yesOf_X11_choose : GoodIn wsX11_yesOf (va_wsS RX11 158 yX11_choose wsX11_choose) := goodIn_app (goodIn_of _ (by decide +kernel)) ggX11_yesOf_X11_choose
set_option maxRecDepth 20000 in
theorem ggX11_yesOf_X11_times : GoodIn wsX11_yesOf wsX11_times := goodIn_r _ [26, 7, 8, 9, 10, 5, 11, 12, 13, 14, 15, 16, 17, 18, 19, 31, 32, 33, 34, 35, 36, 37, 38, 39, 40, 41, 42, 43, 44, 45, 46, 47, 48, 49, 50, 51] (by decide +kernel) (by decide +kernel)
set_option maxRecDepth 20000 in
theorem gX11_yesOf_X11_times : GoodIn wsX11_yesOf (wsV RX11 93 RX11 yX11_times wsX11_times) := goodIn_app (goodIn_of _ (by decide +kernel)) ggX11_yesOf_X11_times
set_option maxRecDepth 20000 in
theorem ggX11_yesOf_X11_more : GoodIn wsX11_yesOf wsX11_more := goodIn_r _ [30, 7, 8, 9, 10, 5, 11, 12, 13, 14, 15, 16, 17, 18, 19, 31, 32, 33, 34, 35, 36, 37, 38, 39, 40, 41, 42, 43, 44, 45, 46, 47, 48, 49, 50, 51] (by decide +kernel) (by decide +kernel)
set_option maxRecDepth 20000 in
theorem gX11_yesOf_X11_more : GoodIn wsX11_yesOf (wsV RX11 87 RX11 yX11_more wsX11_more) := goodIn_app (goodIn_of _ (by decide +kernel)) ggX11_yesOf_X11_more
theorem dX11_yesOf_0 : decode cX11_yesOf 0 = .ok (.aload_n 0, 1) := by decide +kernel
theorem dX11_yesOf_1 : decode cX11_yesOf 1 = .ok (.iconst 2, 1) := by decide +kernel
theorem dX11_yesOf_2 : decode cX11_yesOf 2 = .ok (.lconst 0, 1) := by decide +kernel
theorem dX11_yesOf_3 : decode cX11_yesOf 3 = .ok (.invokevirtual 60, 3) := by decide +kernel
theorem dX11_yesOf_6 : decode cX11_yesOf 6 = .ok (.iconst 1, 1) := by decide +kernel
theorem dX11_yesOf_7 : decode cX11_yesOf 7 = .ok (.istore 4, 2) := by decide +kernel
theorem dX11_yesOf_9 : decode cX11_yesOf 9 = .ok (.iload 4, 2) := by decide +kernel
theorem dX11_yesOf_11 : decode cX11_yesOf 11 = .ok (.iload_n 1, 1) := by decide +kernel
theorem dX11_yesOf_12 : decode cX11_yesOf 12 = .ok (.if_icmp .gt 53, 3) := by decide +kernel
theorem dX11_yesOf_15 : decode cX11_yesOf 15 = .ok (.aload_n 0, 1) := by decide +kernel
theorem dX11_yesOf_16 : decode cX11_yesOf 16 = .ok (.iconst 4, 1) := by decide +kernel
theorem dX11_yesOf_17 : decode cX11_yesOf 17 = .ok (.iload 4, 2) := by decide +kernel
theorem dX11_yesOf_19 : decode cX11_yesOf 19 = .ok (.iconst 1, 1) := by decide +kernel
theorem dX11_yesOf_20 : decode cX11_yesOf 20 = .ok (.isub, 1) := by decide +kernel
theorem dX11_yesOf_21 : decode cX11_yesOf 21 = .ok (.iload_n 3, 1) := by decide +kernel
theorem dX11_yesOf_22 : decode cX11_yesOf 22 = .ok (.iconst 1, 1) := by decide +kernel
theorem dX11_yesOf_23 : decode cX11_yesOf 23 = .ok (.isub, 1) := by decide +kernel
theorem dX11_yesOf_24 : decode cX11_yesOf 24 = .ok (.invokestatic 158, 3) := by decide +kernel
theorem dX11_yesOf_27 : decode cX11_yesOf 27 = .ok (.invokevirtual 60, 3) := by decide +kernel
theorem dX11_yesOf_30 : decode cX11_yesOf 30 = .ok (.aload_n 0, 1) := by decide +kernel
theorem dX11_yesOf_31 : decode cX11_yesOf 31 = .ok (.iconst 4, 1) := by decide +kernel
theorem dX11_yesOf_32 : decode cX11_yesOf 32 = .ok (.iload_n 1, 1) := by decide +kernel
theorem dX11_yesOf_33 : decode cX11_yesOf 33 = .ok (.iload 4, 2) := by decide +kernel
theorem dX11_yesOf_35 : decode cX11_yesOf 35 = .ok (.isub, 1) := by decide +kernel
theorem dX11_yesOf_36 : decode cX11_yesOf 36 = .ok (.iload_n 2, 1) := by decide +kernel
theorem dX11_yesOf_37 : decode cX11_yesOf 37 = .ok (.iload_n 3, 1) := by decide +kernel
theorem dX11_yesOf_38 : decode cX11_yesOf 38 = .ok (.isub, 1) := by decide +kernel
theorem dX11_yesOf_39 : decode cX11_yesOf 39 = .ok (.invokestatic 158, 3) := by decide +kernel
theorem dX11_yesOf_42 : decode cX11_yesOf 42 = .ok (.invokevirtual 93, 3) := by decide +kernel
theorem dX11_yesOf_45 : decode cX11_yesOf 45 = .ok (.aload_n 0, 1) := by decide +kernel
theorem dX11_yesOf_46 : decode cX11_yesOf 46 = .ok (.iconst 2, 1) := by decide +kernel
theorem dX11_yesOf_47 : decode cX11_yesOf 47 = .ok (.iconst 4, 1) := by decide +kernel
theorem dX11_yesOf_48 : decode cX11_yesOf 48 = .ok (.aload_n 0, 1) := by decide +kernel
theorem dX11_yesOf_49 : decode cX11_yesOf 49 = .ok (.getfield 42, 3) := by decide +kernel
theorem dX11_yesOf_52 : decode cX11_yesOf 52 = .ok (.iload 4, 2) := by decide +kernel
theorem dX11_yesOf_54 : decode cX11_yesOf 54 = .ok (.iaload, 1) := by decide +kernel
theorem dX11_yesOf_55 : decode cX11_yesOf 55 = .ok (.i2l, 1) := by decide +kernel
theorem dX11_yesOf_56 : decode cX11_yesOf 56 = .ok (.invokevirtual 87, 3) := by decide +kernel
theorem dX11_yesOf_59 : decode cX11_yesOf 59 = .ok (.iinc 4 1, 3) := by decide +kernel
theorem dX11_yesOf_62 : decode cX11_yesOf 62 = .ok (.goto (-53), 3) := by decide +kernel
theorem dX11_yesOf_65 : decode cX11_yesOf 65 = .ok (.iconst 2, 1) := by decide +kernel
theorem dX11_yesOf_66 : decode cX11_yesOf 66 = .ok (.istore 4, 2) := by decide +kernel
theorem dX11_yesOf_68 : decode cX11_yesOf 68 = .ok (.iload 4, 2) := by decide +kernel
theorem dX11_yesOf_70 : decode cX11_yesOf 70 = .ok (.iload_n 2, 1) := by decide +kernel
theorem dX11_yesOf_71 : decode cX11_yesOf 71 = .ok (.if_icmp .gt 17, 3) := by decide +kernel
theorem dX11_yesOf_74 : decode cX11_yesOf 74 = .ok (.aload_n 0, 1) := by decide +kernel
theorem dX11_yesOf_75 : decode cX11_yesOf 75 = .ok (.iconst 2, 1) := by decide +kernel
theorem dX11_yesOf_76 : decode cX11_yesOf 76 = .ok (.iload 4, 2) := by decide +kernel
theorem dX11_yesOf_78 : decode cX11_yesOf 78 = .ok (.i2l, 1) := by decide +kernel
theorem dX11_yesOf_79 : decode cX11_yesOf 79 = .ok (.invokevirtual 93, 3) := by decide +kernel
theorem dX11_yesOf_82 : decode cX11_yesOf 82 = .ok (.iinc 4 1, 3) := by decide +kernel
theorem dX11_yesOf_85 : decode cX11_yesOf 85 = .ok (.goto (-17), 3) := by decide +kernel
theorem dX11_yesOf_88 : decode cX11_yesOf 88 = .ok (.iconst 2, 1) := by decide +kernel
theorem dX11_yesOf_89 : decode cX11_yesOf 89 = .ok (.istore 4, 2) := by decide +kernel
theorem dX11_yesOf_91 : decode cX11_yesOf 91 = .ok (.iload 4, 2) := by decide +kernel
theorem dX11_yesOf_93 : decode cX11_yesOf 93 = .ok (.iload_n 1, 1) := by decide +kernel
theorem dX11_yesOf_94 : decode cX11_yesOf 94 = .ok (.iload_n 2, 1) := by decide +kernel
theorem dX11_yesOf_95 : decode cX11_yesOf 95 = .ok (.isub, 1) := by decide +kernel
theorem dX11_yesOf_96 : decode cX11_yesOf 96 = .ok (.if_icmp .gt 17, 3) := by decide +kernel
theorem dX11_yesOf_99 : decode cX11_yesOf 99 = .ok (.aload_n 0, 1) := by decide +kernel
theorem dX11_yesOf_100 : decode cX11_yesOf 100 = .ok (.iconst 2, 1) := by decide +kernel
theorem dX11_yesOf_101 : decode cX11_yesOf 101 = .ok (.iload 4, 2) := by decide +kernel
theorem dX11_yesOf_103 : decode cX11_yesOf 103 = .ok (.i2l, 1) := by decide +kernel
theorem dX11_yesOf_104 : decode cX11_yesOf 104 = .ok (.invokevirtual 93, 3) := by decide +kernel
theorem dX11_yesOf_107 : decode cX11_yesOf 107 = .ok (.iinc 4 1, 3) := by decide +kernel
theorem dX11_yesOf_110 : decode cX11_yesOf 110 = .ok (.goto (-19), 3) := by decide +kernel
theorem dX11_yesOf_113 : decode cX11_yesOf 113 = .ok (.iload_n 2, 1) := by decide +kernel
theorem dX11_yesOf_114 : decode cX11_yesOf 114 = .ok (.iconst 1, 1) := by decide +kernel
theorem dX11_yesOf_115 : decode cX11_yesOf 115 = .ok (.iadd, 1) := by decide +kernel
theorem dX11_yesOf_116 : decode cX11_yesOf 116 = .ok (.istore 4, 2) := by decide +kernel
theorem dX11_yesOf_118 : decode cX11_yesOf 118 = .ok (.iload 4, 2) := by decide +kernel
theorem dX11_yesOf_120 : decode cX11_yesOf 120 = .ok (.iload_n 1, 1) := by decide +kernel
theorem dX11_yesOf_121 : decode cX11_yesOf 121 = .ok (.if_icmp .gt 17, 3) := by decide +kernel
theorem dX11_yesOf_124 : decode cX11_yesOf 124 = .ok (.aload_n 0, 1) := by decide +kernel
theorem dX11_yesOf_125 : decode cX11_yesOf 125 = .ok (.iconst 2, 1) := by decide +kernel
theorem dX11_yesOf_126 : decode cX11_yesOf 126 = .ok (.iload 4, 2) := by decide +kernel
theorem dX11_yesOf_128 : decode cX11_yesOf 128 = .ok (.i2l, 1) := by decide +kernel
theorem dX11_yesOf_129 : decode cX11_yesOf 129 = .ok (.invokevirtual 93, 3) := by decide +kernel
theorem dX11_yesOf_132 : decode cX11_yesOf 132 = .ok (.iinc 4 1, 3) := by decide +kernel
theorem dX11_yesOf_135 : decode cX11_yesOf 135 = .ok (.goto (-17), 3) := by decide +kernel
theorem dX11_yesOf_138 : decode cX11_yesOf 138 = .ok (.return_, 1) := by decide +kernel
set_option maxRecDepth 20000 in
theorem ggX11_goesOn_X11_set : GoodIn wsX11_goesOn wsX11_set := goodIn_r _ [5, 6, 7, 8, 9, 4, 10, 11, 12, 13, 14, 15, 16, 17, 18, 39, 40, 41, 42, 43, 44, 45, 46, 47, 48, 49, 50, 51, 52, 53, 54, 55, 56, 57, 58, 59] (by decide +kernel) (by decide +kernel)
set_option maxRecDepth 20000 in
theorem gX11_goesOn_X11_set : GoodIn wsX11_goesOn (wsV RX11 60 RX11 yX11_set wsX11_set) := goodIn_app (goodIn_of _ (by decide +kernel)) ggX11_goesOn_X11_set
set_option maxRecDepth 20000 in
theorem ggX11_goesOn_X11_yesOf : GoodIn wsX11_goesOn wsX11_yesOf := goodIn_r _ [22, 23, 1, 2, 3, 4, 5, 6, 7, 8, 9, 10, 11, 12, 13, 14, 15, 16, 17, 18, 24, 25, 26, 27, 28, 29, 30, 31, 32, 33, 34, 39, 40, 41, 42, 43, 44, 45, 46, 47, 48, 49, 50, 51, 52, 53, 54, 55, 56, 57, 58, 59] (by decide +kernel) (by decide +kernel)
set_option maxRecDepth 20000 in
theorem gX11_goesOn_X11_yesOf : GoodIn wsX11_goesOn (wsV RX11 162 RX11 yX11_yesOf wsX11_yesOf) := goodIn_app (goodIn_of _ (by decide +kernel)) ggX11_goesOn_X11_yesOf
set_option maxRecDepth 20000 in
theorem ggX11_goesOn_X11_compared : GoodIn wsX11_goesOn wsX11_compared := goodIn_r _ [38, 6, 39, 40, 41, 42, 43, 44, 45, 46, 47, 48, 49, 50, 51, 52, 53, 54, 55, 56, 57, 58, 59] (by decide +kernel) (by decide +kernel)
set_option maxRecDepth 20000 in
theorem gX11_goesOn_X11_compared : GoodIn wsX11_goesOn (wsV RX11 106 RX11 yX11_compared wsX11_compared) := goodIn_app (goodIn_of _ (by decide +kernel)) ggX11_goesOn_X11_compared
set_option maxRecDepth 20000 in
theorem ggX11_goesOn_X11_more : GoodIn wsX11_goesOn wsX11_more := goodIn_r _ [34, 6, 7, 8, 9, 4, 10, 11, 12, 13, 14, 15, 16, 17, 18, 39, 40, 41, 42, 43, 44, 45, 46, 47, 48, 49, 50, 51, 52, 53, 54, 55, 56, 57, 58, 59] (by decide +kernel) (by decide +kernel)
set_option maxRecDepth 20000 in
theorem gX11_goesOn_X11_more : GoodIn wsX11_goesOn (wsV RX11 87 RX11 yX11_more wsX11_more) := goodIn_app (goodIn_of _ (by decide +kernel)) ggX11_goesOn_X11_more
theorem dX11_goesOn_0 : decode cX11_goesOn 0 = .ok (.iload_n 1, 1) := by decide +kernel
theorem dX11_goesOn_1 : decode cX11_goesOn 1 = .ok (.iconst 1, 1) := by decide +kernel
theorem dX11_goesOn_2 : decode cX11_goesOn 2 = .ok (.isub, 1) := by decide +kernel
theorem dX11_goesOn_3 : decode cX11_goesOn 3 = .ok (.istore_n 2, 1) := by decide +kernel
theorem dX11_goesOn_4 : decode cX11_goesOn 4 = .ok (.iload_n 2, 1) := by decide +kernel
theorem dX11_goesOn_5 : decode cX11_goesOn 5 = .ok (.ifCond .lt 94, 3) := by decide +kernel
theorem dX11_goesOn_8 : decode cX11_goesOn 8 = .ok (.aload_n 0, 1) := by decide +kernel
theorem dX11_goesOn_9 : decode cX11_goesOn 9 = .ok (.bipush 10, 2) := by decide +kernel
theorem dX11_goesOn_11 : decode cX11_goesOn 11 = .ok (.iload_n 2, 1) := by decide +kernel
theorem dX11_goesOn_12 : decode cX11_goesOn 12 = .ok (.iadd, 1) := by decide +kernel
theorem dX11_goesOn_13 : decode cX11_goesOn 13 = .ok (.lconst 0, 1) := by decide +kernel
theorem dX11_goesOn_14 : decode cX11_goesOn 14 = .ok (.invokevirtual 60, 3) := by decide +kernel
theorem dX11_goesOn_17 : decode cX11_goesOn 17 = .ok (.iconst 1, 1) := by decide +kernel
theorem dX11_goesOn_18 : decode cX11_goesOn 18 = .ok (.istore_n 3, 1) := by decide +kernel
theorem dX11_goesOn_19 : decode cX11_goesOn 19 = .ok (.iload_n 3, 1) := by decide +kernel
theorem dX11_goesOn_20 : decode cX11_goesOn 20 = .ok (.iload_n 2, 1) := by decide +kernel
theorem dX11_goesOn_21 : decode cX11_goesOn 21 = .ok (.iconst 1, 1) := by decide +kernel
theorem dX11_goesOn_22 : decode cX11_goesOn 22 = .ok (.iadd, 1) := by decide +kernel
theorem dX11_goesOn_23 : decode cX11_goesOn 23 = .ok (.if_icmp .gt 70, 3) := by decide +kernel
theorem dX11_goesOn_26 : decode cX11_goesOn 26 = .ok (.aload_n 0, 1) := by decide +kernel
theorem dX11_goesOn_27 : decode cX11_goesOn 27 = .ok (.iload_n 1, 1) := by decide +kernel
theorem dX11_goesOn_28 : decode cX11_goesOn 28 = .ok (.iload_n 2, 1) := by decide +kernel
theorem dX11_goesOn_29 : decode cX11_goesOn 29 = .ok (.iconst 1, 1) := by decide +kernel
theorem dX11_goesOn_30 : decode cX11_goesOn 30 = .ok (.iadd, 1) := by decide +kernel
theorem dX11_goesOn_31 : decode cX11_goesOn 31 = .ok (.iload_n 3, 1) := by decide +kernel
theorem dX11_goesOn_32 : decode cX11_goesOn 32 = .ok (.invokevirtual 162, 3) := by decide +kernel
theorem dX11_goesOn_35 : decode cX11_goesOn 35 = .ok (.iload_n 2, 1) := by decide +kernel
theorem dX11_goesOn_36 : decode cX11_goesOn 36 = .ok (.iconst 1, 1) := by decide +kernel
theorem dX11_goesOn_37 : decode cX11_goesOn 37 = .ok (.iadd, 1) := by decide +kernel
theorem dX11_goesOn_38 : decode cX11_goesOn 38 = .ok (.iload_n 1, 1) := by decide +kernel
theorem dX11_goesOn_39 : decode cX11_goesOn 39 = .ok (.if_icmp .eq 17, 3) := by decide +kernel
theorem dX11_goesOn_42 : decode cX11_goesOn 42 = .ok (.aload_n 0, 1) := by decide +kernel
theorem dX11_goesOn_43 : decode cX11_goesOn 43 = .ok (.iconst 2, 1) := by decide +kernel
theorem dX11_goesOn_44 : decode cX11_goesOn 44 = .ok (.bipush 10, 2) := by decide +kernel
theorem dX11_goesOn_46 : decode cX11_goesOn 46 = .ok (.iload_n 2, 1) := by decide +kernel
theorem dX11_goesOn_47 : decode cX11_goesOn 47 = .ok (.iadd, 1) := by decide +kernel
theorem dX11_goesOn_48 : decode cX11_goesOn 48 = .ok (.iconst 1, 1) := by decide +kernel
theorem dX11_goesOn_49 : decode cX11_goesOn 49 = .ok (.iadd, 1) := by decide +kernel
theorem dX11_goesOn_50 : decode cX11_goesOn 50 = .ok (.invokevirtual 106, 3) := by decide +kernel
theorem dX11_goesOn_53 : decode cX11_goesOn 53 = .ok (.ifCond .lt 7, 3) := by decide +kernel
theorem dX11_goesOn_56 : decode cX11_goesOn 56 = .ok (.iconst 1, 1) := by decide +kernel
theorem dX11_goesOn_57 : decode cX11_goesOn 57 = .ok (.goto 4, 3) := by decide +kernel
theorem dX11_goesOn_60 : decode cX11_goesOn 60 = .ok (.iconst 0, 1) := by decide +kernel
theorem dX11_goesOn_61 : decode cX11_goesOn 61 = .ok (.istore 4, 2) := by decide +kernel
theorem dX11_goesOn_63 : decode cX11_goesOn 63 = .ok (.aload_n 0, 1) := by decide +kernel
theorem dX11_goesOn_64 : decode cX11_goesOn 64 = .ok (.bipush 10, 2) := by decide +kernel
theorem dX11_goesOn_66 : decode cX11_goesOn 66 = .ok (.iload_n 2, 1) := by decide +kernel
theorem dX11_goesOn_67 : decode cX11_goesOn 67 = .ok (.iadd, 1) := by decide +kernel
theorem dX11_goesOn_68 : decode cX11_goesOn 68 = .ok (.iload 4, 2) := by decide +kernel
theorem dX11_goesOn_70 : decode cX11_goesOn 70 = .ok (.ifCond .eq 7, 3) := by decide +kernel
theorem dX11_goesOn_73 : decode cX11_goesOn 73 = .ok (.iconst 2, 1) := by decide +kernel
theorem dX11_goesOn_74 : decode cX11_goesOn 74 = .ok (.goto 9, 3) := by decide +kernel
theorem dX11_goesOn_77 : decode cX11_goesOn 77 = .ok (.bipush 10, 2) := by decide +kernel
theorem dX11_goesOn_79 : decode cX11_goesOn 79 = .ok (.iload_n 2, 1) := by decide +kernel
theorem dX11_goesOn_80 : decode cX11_goesOn 80 = .ok (.iadd, 1) := by decide +kernel
theorem dX11_goesOn_81 : decode cX11_goesOn 81 = .ok (.iconst 1, 1) := by decide +kernel
theorem dX11_goesOn_82 : decode cX11_goesOn 82 = .ok (.iadd, 1) := by decide +kernel
theorem dX11_goesOn_83 : decode cX11_goesOn 83 = .ok (.lconst 1, 1) := by decide +kernel
theorem dX11_goesOn_84 : decode cX11_goesOn 84 = .ok (.invokevirtual 87, 3) := by decide +kernel
theorem dX11_goesOn_87 : decode cX11_goesOn 87 = .ok (.iinc 3 1, 3) := by decide +kernel
theorem dX11_goesOn_90 : decode cX11_goesOn 90 = .ok (.goto (-71), 3) := by decide +kernel
theorem dX11_goesOn_93 : decode cX11_goesOn 93 = .ok (.iinc 2 (-1), 3) := by decide +kernel
theorem dX11_goesOn_96 : decode cX11_goesOn 96 = .ok (.goto (-92), 3) := by decide +kernel
theorem dX11_goesOn_99 : decode cX11_goesOn 99 = .ok (.return_, 1) := by decide +kernel
set_option maxRecDepth 20000 in
theorem ggX11_ranks_X11_goesOn : GoodIn wsX11_ranks wsX11_goesOn := goodIn_r _ [5, 6, 7, 8, 4, 9, 10, 11, 12, 13, 14, 15, 16, 17, 18, 19, 20, 21, 22, 23, 24, 25, 26, 27, 28, 29, 30, 31, 32, 33, 34, 35, 36, 37, 38, 39, 40, 41, 42, 70, 71, 72, 73, 74, 75, 76, 77, 78, 79, 80, 81, 82, 83, 84, 85, 86, 87, 88, 89, 90] (by decide +kernel) (by decide +kernel)
set_option maxRecDepth 20000 in
theorem gX11_ranks_X11_goesOn : GoodIn wsX11_ranks (wsV RX11 166 RX11 yX11_goesOn wsX11_goesOn) := goodIn_app (goodIn_of _ (by decide +kernel)) ggX11_ranks_X11_goesOn
set_option maxRecDepth 20000 in
theorem ggX11_ranks_X11_set : GoodIn wsX11_ranks wsX11_set := goodIn_r _ [9, 10, 11, 12, 13, 4, 14, 15, 16, 17, 18, 19, 20, 21, 22, 70, 71, 72, 73, 74, 75, 76, 77, 78, 79, 80, 81, 82, 83, 84, 85, 86, 87, 88, 89, 90] (by decide +kernel) (by decide +kernel)
set_option maxRecDepth 20000 in
theorem gX11_ranks_X11_set : GoodIn wsX11_ranks (wsV RX11 60 RX11 yX11_set wsX11_set) := goodIn_app (goodIn_of _ (by decide +kernel)) ggX11_ranks_X11_set
set_option maxRecDepth 20000 in
theorem ggX11_ranks_X11_times : GoodIn wsX11_ranks wsX11_times := goodIn_r _ [34, 10, 11, 12, 13, 4, 14, 15, 16, 17, 18, 19, 20, 21, 22, 70, 71, 72, 73, 74, 75, 76, 77, 78, 79, 80, 81, 82, 83, 84, 85, 86, 87, 88, 89, 90] (by decide +kernel) (by decide +kernel)
set_option maxRecDepth 20000 in
theorem gX11_ranks_X11_times : GoodIn wsX11_ranks (wsV RX11 93 RX11 yX11_times wsX11_times) := goodIn_app (goodIn_of _ (by decide +kernel)) ggX11_ranks_X11_times
set_option maxRecDepth 20000 in
theorem ggX11_ranks_X11_result : GoodIn wsX11_ranks wsX11_result := goodIn_r _ [46, 10, 47, 48, 49, 50, 51, 4, 52, 31, 32, 33, 34, 11, 12, 13, 14, 15, 16, 17, 18, 19, 20, 21, 22, 53, 54, 55, 56, 6, 7, 8, 9, 57, 58, 59, 60, 61, 62, 63, 64, 39, 40, 41, 42, 35, 36, 37, 38, 65, 66, 67, 68, 69, 70, 71, 72, 73, 74, 75, 76, 77, 78, 79, 80, 81, 82, 83, 84, 85, 86, 87, 88, 89, 90] (by decide +kernel) (by decide +kernel)
set_option maxRecDepth 20000 in
theorem gX11_ranks_X11_result : GoodIn wsX11_ranks (wsV RX11 137 RX11 yX11_result wsX11_result) := goodIn_app (goodIn_of _ (by decide +kernel)) ggX11_ranks_X11_result
theorem dX11_ranks_0 : decode cX11_ranks 0 = .ok (.iload_n 1, 1) := by decide +kernel
theorem dX11_ranks_1 : decode cX11_ranks 1 = .ok (.iconst 1, 1) := by decide +kernel
theorem dX11_ranks_2 : decode cX11_ranks 2 = .ok (.if_icmp .lt 9, 3) := by decide +kernel
theorem dX11_ranks_5 : decode cX11_ranks 5 = .ok (.iload_n 1, 1) := by decide +kernel
theorem dX11_ranks_6 : decode cX11_ranks 6 = .ok (.bipush 20, 2) := by decide +kernel
theorem dX11_ranks_8 : decode cX11_ranks 8 = .ok (.if_icmp .le 5, 3) := by decide +kernel
theorem dX11_ranks_11 : decode cX11_ranks 11 = .ok (.iconst 0, 1) := by decide +kernel
theorem dX11_ranks_12 : decode cX11_ranks 12 = .ok (.ireturn, 1) := by decide +kernel
theorem dX11_ranks_13 : decode cX11_ranks 13 = .ok (.aload_n 0, 1) := by decide +kernel
theorem dX11_ranks_14 : decode cX11_ranks 14 = .ok (.iload_n 1, 1) := by decide +kernel
theorem dX11_ranks_15 : decode cX11_ranks 15 = .ok (.invokevirtual 166, 3) := by decide +kernel
theorem dX11_ranks_18 : decode cX11_ranks 18 = .ok (.aload_n 0, 1) := by decide +kernel
theorem dX11_ranks_19 : decode cX11_ranks 19 = .ok (.bipush 40, 2) := by decide +kernel
theorem dX11_ranks_21 : decode cX11_ranks 21 = .ok (.lconst 1, 1) := by decide +kernel
theorem dX11_ranks_22 : decode cX11_ranks 22 = .ok (.invokevirtual 60, 3) := by decide +kernel
theorem dX11_ranks_25 : decode cX11_ranks 25 = .ok (.iconst 2, 1) := by decide +kernel
theorem dX11_ranks_26 : decode cX11_ranks 26 = .ok (.istore_n 2, 1) := by decide +kernel
theorem dX11_ranks_27 : decode cX11_ranks 27 = .ok (.iload_n 2, 1) := by decide +kernel
theorem dX11_ranks_28 : decode cX11_ranks 28 = .ok (.iload_n 1, 1) := by decide +kernel
theorem dX11_ranks_29 : decode cX11_ranks 29 = .ok (.if_icmp .gt 25, 3) := by decide +kernel
theorem dX11_ranks_32 : decode cX11_ranks 32 = .ok (.aload_n 0, 1) := by decide +kernel
theorem dX11_ranks_33 : decode cX11_ranks 33 = .ok (.bipush 40, 2) := by decide +kernel
theorem dX11_ranks_35 : decode cX11_ranks 35 = .ok (.iload_n 2, 1) := by decide +kernel
theorem dX11_ranks_36 : decode cX11_ranks 36 = .ok (.i2l, 1) := by decide +kernel
theorem dX11_ranks_37 : decode cX11_ranks 37 = .ok (.invokevirtual 93, 3) := by decide +kernel
theorem dX11_ranks_40 : decode cX11_ranks 40 = .ok (.aload_n 0, 1) := by decide +kernel
theorem dX11_ranks_41 : decode cX11_ranks 41 = .ok (.bipush 40, 2) := by decide +kernel
theorem dX11_ranks_43 : decode cX11_ranks 43 = .ok (.iload_n 2, 1) := by decide +kernel
theorem dX11_ranks_44 : decode cX11_ranks 44 = .ok (.i2l, 1) := by decide +kernel
theorem dX11_ranks_45 : decode cX11_ranks 45 = .ok (.invokevirtual 93, 3) := by decide +kernel
theorem dX11_ranks_48 : decode cX11_ranks 48 = .ok (.iinc 2 1, 3) := by decide +kernel
theorem dX11_ranks_51 : decode cX11_ranks 51 = .ok (.goto (-24), 3) := by decide +kernel
theorem dX11_ranks_54 : decode cX11_ranks 54 = .ok (.aload_n 0, 1) := by decide +kernel
theorem dX11_ranks_55 : decode cX11_ranks 55 = .ok (.bipush 10, 2) := by decide +kernel
theorem dX11_ranks_57 : decode cX11_ranks 57 = .ok (.bipush 40, 2) := by decide +kernel
theorem dX11_ranks_59 : decode cX11_ranks 59 = .ok (.invokevirtual 137, 3) := by decide +kernel
theorem dX11_ranks_62 : decode cX11_ranks 62 = .ok (.iconst 1, 1) := by decide +kernel
theorem dX11_ranks_63 : decode cX11_ranks 63 = .ok (.ireturn, 1) := by decide +kernel
set_option maxRecDepth 20000 in
theorem ggX11_yes_X11_goesOn : GoodIn wsX11_yes wsX11_goesOn := goodIn_r _ [5, 6, 7, 8, 4, 9, 10, 11, 12, 13, 14, 15, 16, 17, 18, 19, 20, 21, 22, 23, 24, 25, 26, 27, 28, 29, 30, 31, 32, 33, 34, 35, 36, 37, 38, 39, 40, 41, 42, 43, 44, 45, 46, 47, 48, 49, 50, 51, 52, 53, 54, 55, 56, 57, 58, 59, 60, 61, 62, 63] (by decide +kernel) (by decide +kernel)
set_option maxRecDepth 20000 in
theorem gX11_yes_X11_goesOn : GoodIn wsX11_yes (wsV RX11 166 RX11 yX11_goesOn wsX11_goesOn) := goodIn_app (goodIn_of _ (by decide +kernel)) ggX11_yes_X11_goesOn
set_option maxRecDepth 20000 in
theorem ggX11_yes_X11_yesOf : GoodIn wsX11_yes wsX11_yesOf := goodIn_r _ [26, 27, 6, 7, 8, 4, 9, 10, 11, 12, 13, 14, 15, 16, 17, 18, 19, 20, 21, 22, 28, 29, 30, 31, 32, 33, 34, 35, 36, 37, 38, 43, 44, 45, 46, 47, 48, 49, 50, 51, 52, 53, 54, 55, 56, 57, 58, 59, 60, 61, 62, 63] (by decide +kernel) (by decide +kernel)
set_option maxRecDepth 20000 in
theorem gX11_yes_X11_yesOf : GoodIn wsX11_yes (wsV RX11 162 RX11 yX11_yesOf wsX11_yesOf) := goodIn_app (goodIn_of _ (by decide +kernel)) ggX11_yes_X11_yesOf
set_option maxRecDepth 20000 in
theorem ggX11_yes_X11_compared : GoodIn wsX11_yes wsX11_compared := goodIn_r _ [42, 10, 43, 44, 45, 46, 47, 48, 49, 50, 51, 52, 53, 54, 55, 56, 57, 58, 59, 60, 61, 62, 63] (by decide +kernel) (by decide +kernel)
set_option maxRecDepth 20000 in
theorem gX11_yes_X11_compared : GoodIn wsX11_yes (wsV RX11 106 RX11 yX11_compared wsX11_compared) := goodIn_app (goodIn_of _ (by decide +kernel)) ggX11_yes_X11_compared
theorem dX11_yes_0 : decode cX11_yes 0 = .ok (.iload_n 1, 1) := by decide +kernel
theorem dX11_yes_1 : decode cX11_yes 1 = .ok (.iconst 1, 1) := by decide +kernel
theorem dX11_yes_2 : decode cX11_yes 2 = .ok (.if_icmp .lt 29, 3) := by decide +kernel
theorem dX11_yes_5 : decode cX11_yes 5 = .ok (.iload_n 1, 1) := by decide +kernel
theorem dX11_yes_6 : decode cX11_yes 6 = .ok (.bipush 20, 2) := by decide +kernel
theorem dX11_yes_8 : decode cX11_yes 8 = .ok (.if_icmp .gt 23, 3) := by decide +kernel
theorem dX11_yes_11 : decode cX11_yes 11 = .ok (.iload_n 2, 1) := by decide +kernel
theorem dX11_yes_12 : decode cX11_yes 12 = .ok (.iconst 1, 1) := by decide +kernel
theorem dX11_yes_13 : decode cX11_yes 13 = .ok (.if_icmp .lt 18, 3) := by decide +kernel
theorem dX11_yes_16 : decode cX11_yes 16 = .ok (.iload_n 2, 1) := by decide +kernel
theorem dX11_yes_17 : decode cX11_yes 17 = .ok (.iload_n 1, 1) := by decide +kernel
theorem dX11_yes_18 : decode cX11_yes 18 = .ok (.if_icmp .gt 13, 3) := by decide +kernel
theorem dX11_yes_21 : decode cX11_yes 21 = .ok (.iload_n 3, 1) := by decide +kernel
theorem dX11_yes_22 : decode cX11_yes 22 = .ok (.iconst 1, 1) := by decide +kernel
theorem dX11_yes_23 : decode cX11_yes 23 = .ok (.if_icmp .lt 8, 3) := by decide +kernel
theorem dX11_yes_26 : decode cX11_yes 26 = .ok (.iload_n 3, 1) := by decide +kernel
theorem dX11_yes_27 : decode cX11_yes 27 = .ok (.iload_n 2, 1) := by decide +kernel
theorem dX11_yes_28 : decode cX11_yes 28 = .ok (.if_icmp .le 5, 3) := by decide +kernel
theorem dX11_yes_31 : decode cX11_yes 31 = .ok (.iconst (-1), 1) := by decide +kernel
theorem dX11_yes_32 : decode cX11_yes 32 = .ok (.ireturn, 1) := by decide +kernel
theorem dX11_yes_33 : decode cX11_yes 33 = .ok (.iload_n 2, 1) := by decide +kernel
theorem dX11_yes_34 : decode cX11_yes 34 = .ok (.iload_n 1, 1) := by decide +kernel
theorem dX11_yes_35 : decode cX11_yes 35 = .ok (.if_icmp .ne 5, 3) := by decide +kernel
theorem dX11_yes_38 : decode cX11_yes 38 = .ok (.iconst 1, 1) := by decide +kernel
theorem dX11_yes_39 : decode cX11_yes 39 = .ok (.ireturn, 1) := by decide +kernel
theorem dX11_yes_40 : decode cX11_yes 40 = .ok (.aload_n 0, 1) := by decide +kernel
theorem dX11_yes_41 : decode cX11_yes 41 = .ok (.iload_n 1, 1) := by decide +kernel
theorem dX11_yes_42 : decode cX11_yes 42 = .ok (.invokevirtual 166, 3) := by decide +kernel
theorem dX11_yes_45 : decode cX11_yes 45 = .ok (.aload_n 0, 1) := by decide +kernel
theorem dX11_yes_46 : decode cX11_yes 46 = .ok (.iload_n 1, 1) := by decide +kernel
theorem dX11_yes_47 : decode cX11_yes 47 = .ok (.iload_n 2, 1) := by decide +kernel
theorem dX11_yes_48 : decode cX11_yes 48 = .ok (.iload_n 3, 1) := by decide +kernel
theorem dX11_yes_49 : decode cX11_yes 49 = .ok (.invokevirtual 162, 3) := by decide +kernel
theorem dX11_yes_52 : decode cX11_yes 52 = .ok (.aload_n 0, 1) := by decide +kernel
theorem dX11_yes_53 : decode cX11_yes 53 = .ok (.iconst 2, 1) := by decide +kernel
theorem dX11_yes_54 : decode cX11_yes 54 = .ok (.bipush 10, 2) := by decide +kernel
theorem dX11_yes_56 : decode cX11_yes 56 = .ok (.iload_n 2, 1) := by decide +kernel
theorem dX11_yes_57 : decode cX11_yes 57 = .ok (.iadd, 1) := by decide +kernel
theorem dX11_yes_58 : decode cX11_yes 58 = .ok (.invokevirtual 106, 3) := by decide +kernel
theorem dX11_yes_61 : decode cX11_yes 61 = .ok (.ifCond .lt 7, 3) := by decide +kernel
theorem dX11_yes_64 : decode cX11_yes 64 = .ok (.iconst 1, 1) := by decide +kernel
theorem dX11_yes_65 : decode cX11_yes 65 = .ok (.goto 4, 3) := by decide +kernel
theorem dX11_yes_68 : decode cX11_yes 68 = .ok (.iconst 0, 1) := by decide +kernel
theorem dX11_yes_69 : decode cX11_yes 69 = .ok (.ireturn, 1) := by decide +kernel
theorem dX11_happen_0 : decode cX11_happen 0 = .ok (.iload_n 2, 1) := by decide +kernel
theorem dX11_happen_1 : decode cX11_happen 1 = .ok (.iconst 1, 1) := by decide +kernel
theorem dX11_happen_2 : decode cX11_happen 2 = .ok (.if_icmp .lt 18, 3) := by decide +kernel
theorem dX11_happen_5 : decode cX11_happen 5 = .ok (.iload_n 2, 1) := by decide +kernel
theorem dX11_happen_6 : decode cX11_happen 6 = .ok (.bipush 100, 2) := by decide +kernel
theorem dX11_happen_8 : decode cX11_happen 8 = .ok (.if_icmp .gt 12, 3) := by decide +kernel
theorem dX11_happen_11 : decode cX11_happen 11 = .ok (.iload_n 1, 1) := by decide +kernel
theorem dX11_happen_12 : decode cX11_happen 12 = .ok (.ifCond .lt 8, 3) := by decide +kernel
theorem dX11_happen_15 : decode cX11_happen 15 = .ok (.iload_n 1, 1) := by decide +kernel
theorem dX11_happen_16 : decode cX11_happen 16 = .ok (.iload_n 2, 1) := by decide +kernel
theorem dX11_happen_17 : decode cX11_happen 17 = .ok (.if_icmp .le 6, 3) := by decide +kernel
theorem dX11_happen_20 : decode cX11_happen 20 = .ok (.bipush (-2), 2) := by decide +kernel
theorem dX11_happen_22 : decode cX11_happen 22 = .ok (.ireturn, 1) := by decide +kernel
theorem dX11_happen_23 : decode cX11_happen 23 = .ok (.aload_n 0, 1) := by decide +kernel
theorem dX11_happen_24 : decode cX11_happen 24 = .ok (.getfield 169, 3) := by decide +kernel
theorem dX11_happen_27 : decode cX11_happen 27 = .ok (.bipush 20, 2) := by decide +kernel
theorem dX11_happen_29 : decode cX11_happen 29 = .ok (.if_icmp .ne 6, 3) := by decide +kernel
theorem dX11_happen_32 : decode cX11_happen 32 = .ok (.bipush (-8), 2) := by decide +kernel
theorem dX11_happen_34 : decode cX11_happen 34 = .ok (.ireturn, 1) := by decide +kernel
theorem dX11_happen_35 : decode cX11_happen 35 = .ok (.aload_n 0, 1) := by decide +kernel
theorem dX11_happen_36 : decode cX11_happen 36 = .ok (.getfield 45, 3) := by decide +kernel
theorem dX11_happen_39 : decode cX11_happen 39 = .ok (.aload_n 0, 1) := by decide +kernel
theorem dX11_happen_40 : decode cX11_happen 40 = .ok (.getfield 169, 3) := by decide +kernel
theorem dX11_happen_43 : decode cX11_happen 43 = .ok (.iload_n 1, 1) := by decide +kernel
theorem dX11_happen_44 : decode cX11_happen 44 = .ok (.iastore, 1) := by decide +kernel
theorem dX11_happen_45 : decode cX11_happen 45 = .ok (.aload_n 0, 1) := by decide +kernel
theorem dX11_happen_46 : decode cX11_happen 46 = .ok (.getfield 48, 3) := by decide +kernel
theorem dX11_happen_49 : decode cX11_happen 49 = .ok (.aload_n 0, 1) := by decide +kernel
theorem dX11_happen_50 : decode cX11_happen 50 = .ok (.getfield 169, 3) := by decide +kernel
theorem dX11_happen_53 : decode cX11_happen 53 = .ok (.iload_n 2, 1) := by decide +kernel
theorem dX11_happen_54 : decode cX11_happen 54 = .ok (.iastore, 1) := by decide +kernel
theorem dX11_happen_55 : decode cX11_happen 55 = .ok (.aload_n 0, 1) := by decide +kernel
theorem dX11_happen_56 : decode cX11_happen 56 = .ok (.dup, 1) := by decide +kernel
theorem dX11_happen_57 : decode cX11_happen 57 = .ok (.getfield 169, 3) := by decide +kernel
theorem dX11_happen_60 : decode cX11_happen 60 = .ok (.iconst 1, 1) := by decide +kernel
theorem dX11_happen_61 : decode cX11_happen 61 = .ok (.iadd, 1) := by decide +kernel
theorem dX11_happen_62 : decode cX11_happen 62 = .ok (.putfield 169, 3) := by decide +kernel
theorem dX11_happen_65 : decode cX11_happen 65 = .ok (.aload_n 0, 1) := by decide +kernel
theorem dX11_happen_66 : decode cX11_happen 66 = .ok (.getfield 169, 3) := by decide +kernel
theorem dX11_happen_69 : decode cX11_happen 69 = .ok (.iconst 1, 1) := by decide +kernel
theorem dX11_happen_70 : decode cX11_happen 70 = .ok (.isub, 1) := by decide +kernel
theorem dX11_happen_71 : decode cX11_happen 71 = .ok (.ireturn, 1) := by decide +kernel
theorem dX11_forget_0 : decode cX11_forget 0 = .ok (.aload_n 0, 1) := by decide +kernel
theorem dX11_forget_1 : decode cX11_forget 1 = .ok (.getfield 169, 3) := by decide +kernel
theorem dX11_forget_4 : decode cX11_forget 4 = .ok (.istore_n 1, 1) := by decide +kernel
theorem dX11_forget_5 : decode cX11_forget 5 = .ok (.aload_n 0, 1) := by decide +kernel
theorem dX11_forget_6 : decode cX11_forget 6 = .ok (.iconst 0, 1) := by decide +kernel
theorem dX11_forget_7 : decode cX11_forget 7 = .ok (.putfield 169, 3) := by decide +kernel
theorem dX11_forget_10 : decode cX11_forget 10 = .ok (.iload_n 1, 1) := by decide +kernel
theorem dX11_forget_11 : decode cX11_forget 11 = .ok (.ireturn, 1) := by decide +kernel
set_option maxRecDepth 20000 in
theorem ggX11_last_X11_set : GoodIn wsX11_last wsX11_set := goodIn_r _ [8, 9, 10, 11, 12, 7, 13, 14, 15, 16, 17, 18, 19, 20, 21, 61, 62, 63, 64, 65, 66, 67, 68, 69, 70, 71, 72, 73, 74, 75, 76, 77, 78, 79, 80, 81] (by decide +kernel) (by decide +kernel)
set_option maxRecDepth 20000 in
theorem gX11_last_X11_set : GoodIn wsX11_last (wsV RX11 60 RX11 yX11_set wsX11_set) := goodIn_app (goodIn_of _ (by decide +kernel)) ggX11_last_X11_set
set_option maxRecDepth 20000 in
theorem ggX11_last_X11_times : GoodIn wsX11_last wsX11_times := goodIn_r _ [25, 9, 10, 11, 12, 7, 13, 14, 15, 16, 17, 18, 19, 20, 21, 61, 62, 63, 64, 65, 66, 67, 68, 69, 70, 71, 72, 73, 74, 75, 76, 77, 78, 79, 80, 81] (by decide +kernel) (by decide +kernel)
set_option maxRecDepth 20000 in
theorem gX11_last_X11_times : GoodIn wsX11_last (wsV RX11 93 RX11 yX11_times wsX11_times) := goodIn_app (goodIn_of _ (by decide +kernel)) ggX11_last_X11_times
set_option maxRecDepth 20000 in
theorem ggX11_last_X11_more : GoodIn wsX11_last wsX11_more := goodIn_r _ [29, 9, 10, 11, 12, 7, 13, 14, 15, 16, 17, 18, 19, 20, 21, 61, 62, 63, 64, 65, 66, 67, 68, 69, 70, 71, 72, 73, 74, 75, 76, 77, 78, 79, 80, 81] (by decide +kernel) (by decide +kernel)
set_option maxRecDepth 20000 in
theorem gX11_last_X11_more : GoodIn wsX11_last (wsV RX11 87 RX11 yX11_more wsX11_more) := goodIn_app (goodIn_of _ (by decide +kernel)) ggX11_last_X11_more
set_option maxRecDepth 20000 in
theorem ggX11_last_X11_copy : GoodIn wsX11_last wsX11_copy := goodIn_r _ [33, 9, 61, 62, 63, 64, 65, 66, 67, 68, 69, 70, 71, 72, 73, 74, 75, 76, 77, 78, 79, 80, 81] (by decide +kernel) (by decide +kernel)
set_option maxRecDepth 20000 in
theorem gX11_last_X11_copy : GoodIn wsX11_last (wsV RX11 83 RX11 yX11_copy wsX11_copy) := goodIn_app (goodIn_of _ (by decide +kernel)) ggX11_last_X11_copy
set_option maxRecDepth 20000 in
theorem ggX11_last_X11_compared : GoodIn wsX11_last wsX11_compared := goodIn_r _ [37, 9, 61, 62, 63, 64, 65, 66, 67, 68, 69, 70, 71, 72, 73, 74, 75, 76, 77, 78, 79, 80, 81] (by decide +kernel) (by decide +kernel)
set_option maxRecDepth 20000 in
theorem gX11_last_X11_compared : GoodIn wsX11_last (wsV RX11 106 RX11 yX11_compared wsX11_compared) := goodIn_app (goodIn_of _ (by decide +kernel)) ggX11_last_X11_compared
set_option maxRecDepth 20000 in
theorem ggX11_last_X11_result : GoodIn wsX11_last wsX11_result := goodIn_r _ [41, 9, 42, 43, 30, 31, 32, 7, 33, 22, 23, 24, 25, 10, 11, 12, 13, 14, 15, 16, 17, 18, 19, 20, 21, 44, 45, 46, 47, 4, 5, 6, 8, 48, 49, 50, 51, 52, 53, 54, 55, 34, 35, 36, 37, 26, 27, 28, 29, 56, 57, 58, 59, 60, 61, 62, 63, 64, 65, 66, 67, 68, 69, 70, 71, 72, 73, 74, 75, 76, 77, 78, 79, 80, 81] (by decide +kernel) (by decide +kernel)
set_option maxRecDepth 20000 in
theorem gX11_last_X11_result : GoodIn wsX11_last (wsV RX11 137 RX11 yX11_result wsX11_result) := goodIn_app (goodIn_of _ (by decide +kernel)) ggX11_last_X11_result
theorem dX11_last_0 : decode cX11_last 0 = .ok (.aload_n 0, 1) := by decide +kernel
theorem dX11_last_1 : decode cX11_last 1 = .ok (.getfield 169, 3) := by decide +kernel
theorem dX11_last_4 : decode cX11_last 4 = .ok (.ifCond .ne 5, 3) := by decide +kernel
theorem dX11_last_7 : decode cX11_last 7 = .ok (.iconst (-1), 1) := by decide +kernel
theorem dX11_last_8 : decode cX11_last 8 = .ok (.ireturn, 1) := by decide +kernel
theorem dX11_last_9 : decode cX11_last 9 = .ok (.iconst (-1), 1) := by decide +kernel
theorem dX11_last_10 : decode cX11_last 10 = .ok (.istore_n 1, 1) := by decide +kernel
theorem dX11_last_11 : decode cX11_last 11 = .ok (.aload_n 0, 1) := by decide +kernel
theorem dX11_last_12 : decode cX11_last 12 = .ok (.iconst 2, 1) := by decide +kernel
theorem dX11_last_13 : decode cX11_last 13 = .ok (.lconst 1, 1) := by decide +kernel
theorem dX11_last_14 : decode cX11_last 14 = .ok (.invokevirtual 60, 3) := by decide +kernel
theorem dX11_last_17 : decode cX11_last 17 = .ok (.aload_n 0, 1) := by decide +kernel
theorem dX11_last_18 : decode cX11_last 18 = .ok (.iconst 3, 1) := by decide +kernel
theorem dX11_last_19 : decode cX11_last 19 = .ok (.lconst 0, 1) := by decide +kernel
theorem dX11_last_20 : decode cX11_last 20 = .ok (.invokevirtual 60, 3) := by decide +kernel
theorem dX11_last_23 : decode cX11_last 23 = .ok (.aload_n 0, 1) := by decide +kernel
theorem dX11_last_24 : decode cX11_last 24 = .ok (.getfield 169, 3) := by decide +kernel
theorem dX11_last_27 : decode cX11_last 27 = .ok (.iconst 1, 1) := by decide +kernel
theorem dX11_last_28 : decode cX11_last 28 = .ok (.isub, 1) := by decide +kernel
theorem dX11_last_29 : decode cX11_last 29 = .ok (.istore_n 2, 1) := by decide +kernel
theorem dX11_last_30 : decode cX11_last 30 = .ok (.iload_n 2, 1) := by decide +kernel
theorem dX11_last_31 : decode cX11_last 31 = .ok (.ifCond .lt 107, 3) := by decide +kernel
theorem dX11_last_34 : decode cX11_last 34 = .ok (.aload_n 0, 1) := by decide +kernel
theorem dX11_last_35 : decode cX11_last 35 = .ok (.getfield 48, 3) := by decide +kernel
theorem dX11_last_38 : decode cX11_last 38 = .ok (.iload_n 2, 1) := by decide +kernel
theorem dX11_last_39 : decode cX11_last 39 = .ok (.iaload, 1) := by decide +kernel
theorem dX11_last_40 : decode cX11_last 40 = .ok (.aload_n 0, 1) := by decide +kernel
theorem dX11_last_41 : decode cX11_last 41 = .ok (.getfield 45, 3) := by decide +kernel
theorem dX11_last_44 : decode cX11_last 44 = .ok (.iload_n 2, 1) := by decide +kernel
theorem dX11_last_45 : decode cX11_last 45 = .ok (.iaload, 1) := by decide +kernel
theorem dX11_last_46 : decode cX11_last 46 = .ok (.isub, 1) := by decide +kernel
theorem dX11_last_47 : decode cX11_last 47 = .ok (.i2l, 1) := by decide +kernel
theorem dX11_last_48 : decode cX11_last 48 = .ok (.lstore_n 3, 1) := by decide +kernel
theorem dX11_last_49 : decode cX11_last 49 = .ok (.aload_n 0, 1) := by decide +kernel
theorem dX11_last_50 : decode cX11_last 50 = .ok (.iconst 3, 1) := by decide +kernel
theorem dX11_last_51 : decode cX11_last 51 = .ok (.lload_n 3, 1) := by decide +kernel
theorem dX11_last_52 : decode cX11_last 52 = .ok (.invokevirtual 93, 3) := by decide +kernel
theorem dX11_last_55 : decode cX11_last 55 = .ok (.aload_n 0, 1) := by decide +kernel
theorem dX11_last_56 : decode cX11_last 56 = .ok (.iconst 3, 1) := by decide +kernel
theorem dX11_last_57 : decode cX11_last 57 = .ok (.iconst 2, 1) := by decide +kernel
theorem dX11_last_58 : decode cX11_last 58 = .ok (.aload_n 0, 1) := by decide +kernel
theorem dX11_last_59 : decode cX11_last 59 = .ok (.getfield 45, 3) := by decide +kernel
theorem dX11_last_62 : decode cX11_last 62 = .ok (.iload_n 2, 1) := by decide +kernel
theorem dX11_last_63 : decode cX11_last 63 = .ok (.iaload, 1) := by decide +kernel
theorem dX11_last_64 : decode cX11_last 64 = .ok (.i2l, 1) := by decide +kernel
theorem dX11_last_65 : decode cX11_last 65 = .ok (.invokevirtual 87, 3) := by decide +kernel
theorem dX11_last_68 : decode cX11_last 68 = .ok (.aload_n 0, 1) := by decide +kernel
theorem dX11_last_69 : decode cX11_last 69 = .ok (.iconst 2, 1) := by decide +kernel
theorem dX11_last_70 : decode cX11_last 70 = .ok (.lload_n 3, 1) := by decide +kernel
theorem dX11_last_71 : decode cX11_last 71 = .ok (.invokevirtual 93, 3) := by decide +kernel
theorem dX11_last_74 : decode cX11_last 74 = .ok (.aload_n 0, 1) := by decide +kernel
theorem dX11_last_75 : decode cX11_last 75 = .ok (.iconst 4, 1) := by decide +kernel
theorem dX11_last_76 : decode cX11_last 76 = .ok (.iconst 3, 1) := by decide +kernel
theorem dX11_last_77 : decode cX11_last 77 = .ok (.invokevirtual 83, 3) := by decide +kernel
theorem dX11_last_80 : decode cX11_last 80 = .ok (.iconst 0, 1) := by decide +kernel
theorem dX11_last_81 : decode cX11_last 81 = .ok (.istore 5, 2) := by decide +kernel
theorem dX11_last_83 : decode cX11_last 83 = .ok (.iload 5, 2) := by decide +kernel
theorem dX11_last_85 : decode cX11_last 85 = .ok (.iload_n 2, 1) := by decide +kernel
theorem dX11_last_86 : decode cX11_last 86 = .ok (.if_icmp .ge 22, 3) := by decide +kernel
theorem dX11_last_89 : decode cX11_last 89 = .ok (.aload_n 0, 1) := by decide +kernel
theorem dX11_last_90 : decode cX11_last 90 = .ok (.iconst 4, 1) := by decide +kernel
theorem dX11_last_91 : decode cX11_last 91 = .ok (.aload_n 0, 1) := by decide +kernel
theorem dX11_last_92 : decode cX11_last 92 = .ok (.getfield 48, 3) := by decide +kernel
theorem dX11_last_95 : decode cX11_last 95 = .ok (.iload 5, 2) := by decide +kernel
theorem dX11_last_97 : decode cX11_last 97 = .ok (.iaload, 1) := by decide +kernel
theorem dX11_last_98 : decode cX11_last 98 = .ok (.i2l, 1) := by decide +kernel
theorem dX11_last_99 : decode cX11_last 99 = .ok (.invokevirtual 93, 3) := by decide +kernel
theorem dX11_last_102 : decode cX11_last 102 = .ok (.iinc 5 1, 3) := by decide +kernel
theorem dX11_last_105 : decode cX11_last 105 = .ok (.goto (-22), 3) := by decide +kernel
theorem dX11_last_108 : decode cX11_last 108 = .ok (.iload_n 1, 1) := by decide +kernel
theorem dX11_last_109 : decode cX11_last 109 = .ok (.iconst (-1), 1) := by decide +kernel
theorem dX11_last_110 : decode cX11_last 110 = .ok (.if_icmp .eq 13, 3) := by decide +kernel
theorem dX11_last_113 : decode cX11_last 113 = .ok (.aload_n 0, 1) := by decide +kernel
theorem dX11_last_114 : decode cX11_last 114 = .ok (.iconst 4, 1) := by decide +kernel
theorem dX11_last_115 : decode cX11_last 115 = .ok (.bipush 10, 2) := by decide +kernel
theorem dX11_last_117 : decode cX11_last 117 = .ok (.invokevirtual 106, 3) := by decide +kernel
theorem dX11_last_120 : decode cX11_last 120 = .ok (.ifCond .le 12, 3) := by decide +kernel
theorem dX11_last_123 : decode cX11_last 123 = .ok (.aload_n 0, 1) := by decide +kernel
theorem dX11_last_124 : decode cX11_last 124 = .ok (.bipush 10, 2) := by decide +kernel
theorem dX11_last_126 : decode cX11_last 126 = .ok (.iconst 4, 1) := by decide +kernel
theorem dX11_last_127 : decode cX11_last 127 = .ok (.invokevirtual 83, 3) := by decide +kernel
theorem dX11_last_130 : decode cX11_last 130 = .ok (.iload_n 2, 1) := by decide +kernel
theorem dX11_last_131 : decode cX11_last 131 = .ok (.istore_n 1, 1) := by decide +kernel
theorem dX11_last_132 : decode cX11_last 132 = .ok (.iinc 2 (-1), 3) := by decide +kernel
theorem dX11_last_135 : decode cX11_last 135 = .ok (.goto (-105), 3) := by decide +kernel
theorem dX11_last_138 : decode cX11_last 138 = .ok (.aload_n 0, 1) := by decide +kernel
theorem dX11_last_139 : decode cX11_last 139 = .ok (.bipush 11, 2) := by decide +kernel
theorem dX11_last_141 : decode cX11_last 141 = .ok (.lconst 1, 1) := by decide +kernel
theorem dX11_last_142 : decode cX11_last 142 = .ok (.invokevirtual 60, 3) := by decide +kernel
theorem dX11_last_145 : decode cX11_last 145 = .ok (.iconst 0, 1) := by decide +kernel
theorem dX11_last_146 : decode cX11_last 146 = .ok (.istore_n 2, 1) := by decide +kernel
theorem dX11_last_147 : decode cX11_last 147 = .ok (.iload_n 2, 1) := by decide +kernel
theorem dX11_last_148 : decode cX11_last 148 = .ok (.aload_n 0, 1) := by decide +kernel
theorem dX11_last_149 : decode cX11_last 149 = .ok (.getfield 169, 3) := by decide +kernel
theorem dX11_last_152 : decode cX11_last 152 = .ok (.if_icmp .ge 22, 3) := by decide +kernel
theorem dX11_last_155 : decode cX11_last 155 = .ok (.aload_n 0, 1) := by decide +kernel
theorem dX11_last_156 : decode cX11_last 156 = .ok (.bipush 11, 2) := by decide +kernel
theorem dX11_last_158 : decode cX11_last 158 = .ok (.aload_n 0, 1) := by decide +kernel
theorem dX11_last_159 : decode cX11_last 159 = .ok (.getfield 48, 3) := by decide +kernel
theorem dX11_last_162 : decode cX11_last 162 = .ok (.iload_n 2, 1) := by decide +kernel
theorem dX11_last_163 : decode cX11_last 163 = .ok (.iaload, 1) := by decide +kernel
theorem dX11_last_164 : decode cX11_last 164 = .ok (.i2l, 1) := by decide +kernel
theorem dX11_last_165 : decode cX11_last 165 = .ok (.invokevirtual 93, 3) := by decide +kernel
theorem dX11_last_168 : decode cX11_last 168 = .ok (.iinc 2 1, 3) := by decide +kernel
theorem dX11_last_171 : decode cX11_last 171 = .ok (.goto (-24), 3) := by decide +kernel
theorem dX11_last_174 : decode cX11_last 174 = .ok (.aload_n 0, 1) := by decide +kernel
theorem dX11_last_175 : decode cX11_last 175 = .ok (.bipush 10, 2) := by decide +kernel
theorem dX11_last_177 : decode cX11_last 177 = .ok (.bipush 11, 2) := by decide +kernel
theorem dX11_last_179 : decode cX11_last 179 = .ok (.invokevirtual 137, 3) := by decide +kernel
theorem dX11_last_182 : decode cX11_last 182 = .ok (.iload_n 1, 1) := by decide +kernel
theorem dX11_last_183 : decode cX11_last 183 = .ok (.ireturn, 1) := by decide +kernel
set_option maxRecDepth 20000 in
theorem ggX11_box_X11_isBook : GoodIn wsX11_box wsX11_isBook := goodIn_r _ [8, 9, 10, 11, 12, 13, 14, 15, 16, 17, 18, 19, 20, 21, 22, 23, 24, 25, 26, 27, 28, 29, 30] (by decide +kernel) (by decide +kernel)
set_option maxRecDepth 20000 in
theorem gX11_box_X11_isBook : GoodIn wsX11_box (wsV RX11 124 RX11 yX11_isBook wsX11_isBook) := goodIn_app (goodIn_of _ (by decide +kernel)) ggX11_box_X11_isBook
theorem dX11_box_0 : decode cX11_box 0 = .ok (.aload_n 0, 1) := by decide +kernel
theorem dX11_box_1 : decode cX11_box 1 = .ok (.iload_n 1, 1) := by decide +kernel
theorem dX11_box_2 : decode cX11_box 2 = .ok (.invokevirtual 124, 3) := by decide +kernel
theorem dX11_box_5 : decode cX11_box 5 = .ok (.ifCond .eq 14, 3) := by decide +kernel
theorem dX11_box_8 : decode cX11_box 8 = .ok (.iload_n 2, 1) := by decide +kernel
theorem dX11_box_9 : decode cX11_box 9 = .ok (.ifCond .lt 10, 3) := by decide +kernel
theorem dX11_box_12 : decode cX11_box 12 = .ok (.iload_n 2, 1) := by decide +kernel
theorem dX11_box_13 : decode cX11_box 13 = .ok (.sipush 1000, 3) := by decide +kernel
theorem dX11_box_16 : decode cX11_box 16 = .ok (.if_icmp .le 6, 3) := by decide +kernel
theorem dX11_box_19 : decode cX11_box 19 = .ok (.bipush (-2), 2) := by decide +kernel
theorem dX11_box_21 : decode cX11_box 21 = .ok (.ireturn, 1) := by decide +kernel
theorem dX11_box_22 : decode cX11_box 22 = .ok (.aload_n 0, 1) := by decide +kernel
theorem dX11_box_23 : decode cX11_box 23 = .ok (.getfield 172, 3) := by decide +kernel
theorem dX11_box_26 : decode cX11_box 26 = .ok (.bipush 6, 2) := by decide +kernel
theorem dX11_box_28 : decode cX11_box 28 = .ok (.if_icmp .ne 6, 3) := by decide +kernel
theorem dX11_box_31 : decode cX11_box 31 = .ok (.bipush (-8), 2) := by decide +kernel
theorem dX11_box_33 : decode cX11_box 33 = .ok (.ireturn, 1) := by decide +kernel
theorem dX11_box_34 : decode cX11_box 34 = .ok (.aload_n 0, 1) := by decide +kernel
theorem dX11_box_35 : decode cX11_box 35 = .ok (.getfield 51, 3) := by decide +kernel
theorem dX11_box_38 : decode cX11_box 38 = .ok (.aload_n 0, 1) := by decide +kernel
theorem dX11_box_39 : decode cX11_box 39 = .ok (.getfield 172, 3) := by decide +kernel
theorem dX11_box_42 : decode cX11_box 42 = .ok (.iload_n 1, 1) := by decide +kernel
theorem dX11_box_43 : decode cX11_box 43 = .ok (.iastore, 1) := by decide +kernel
theorem dX11_box_44 : decode cX11_box 44 = .ok (.aload_n 0, 1) := by decide +kernel
theorem dX11_box_45 : decode cX11_box 45 = .ok (.getfield 54, 3) := by decide +kernel
theorem dX11_box_48 : decode cX11_box 48 = .ok (.aload_n 0, 1) := by decide +kernel
theorem dX11_box_49 : decode cX11_box 49 = .ok (.getfield 172, 3) := by decide +kernel
theorem dX11_box_52 : decode cX11_box 52 = .ok (.iload_n 2, 1) := by decide +kernel
theorem dX11_box_53 : decode cX11_box 53 = .ok (.iastore, 1) := by decide +kernel
theorem dX11_box_54 : decode cX11_box 54 = .ok (.aload_n 0, 1) := by decide +kernel
theorem dX11_box_55 : decode cX11_box 55 = .ok (.dup, 1) := by decide +kernel
theorem dX11_box_56 : decode cX11_box 56 = .ok (.getfield 172, 3) := by decide +kernel
theorem dX11_box_59 : decode cX11_box 59 = .ok (.iconst 1, 1) := by decide +kernel
theorem dX11_box_60 : decode cX11_box 60 = .ok (.iadd, 1) := by decide +kernel
theorem dX11_box_61 : decode cX11_box 61 = .ok (.putfield 172, 3) := by decide +kernel
theorem dX11_box_64 : decode cX11_box 64 = .ok (.aload_n 0, 1) := by decide +kernel
theorem dX11_box_65 : decode cX11_box 65 = .ok (.getfield 172, 3) := by decide +kernel
theorem dX11_box_68 : decode cX11_box 68 = .ok (.iconst 1, 1) := by decide +kernel
theorem dX11_box_69 : decode cX11_box 69 = .ok (.isub, 1) := by decide +kernel
theorem dX11_box_70 : decode cX11_box 70 = .ok (.ireturn, 1) := by decide +kernel
theorem dX11_empty_0 : decode cX11_empty 0 = .ok (.aload_n 0, 1) := by decide +kernel
theorem dX11_empty_1 : decode cX11_empty 1 = .ok (.getfield 172, 3) := by decide +kernel
theorem dX11_empty_4 : decode cX11_empty 4 = .ok (.istore_n 1, 1) := by decide +kernel
theorem dX11_empty_5 : decode cX11_empty 5 = .ok (.aload_n 0, 1) := by decide +kernel
theorem dX11_empty_6 : decode cX11_empty 6 = .ok (.iconst 0, 1) := by decide +kernel
theorem dX11_empty_7 : decode cX11_empty 7 = .ok (.putfield 172, 3) := by decide +kernel
theorem dX11_empty_10 : decode cX11_empty 10 = .ok (.iload_n 1, 1) := by decide +kernel
theorem dX11_empty_11 : decode cX11_empty 11 = .ok (.ireturn, 1) := by decide +kernel
set_option maxRecDepth 20000 in
theorem ggX11_fair_X11_weightOf : GoodIn wsX11_fair wsX11_weightOf := goodIn_r _ [9, 10, 11, 12, 69, 70, 71, 72, 73, 74, 75, 76, 77, 78, 79, 80, 81, 82, 83, 84, 85, 86, 87, 88, 89] (by decide +kernel) (by decide +kernel)
set_option maxRecDepth 20000 in
theorem gX11_fair_X11_weightOf : GoodIn wsX11_fair (wsV RX11 130 RX11 yX11_weightOf wsX11_weightOf) := goodIn_app (goodIn_of _ (by decide +kernel)) ggX11_fair_X11_weightOf
set_option maxRecDepth 20000 in
theorem ggX11_fair_X11_set : GoodIn wsX11_fair wsX11_set := goodIn_r _ [16, 17, 18, 19, 20, 8, 21, 22, 23, 24, 25, 26, 27, 28, 29, 69, 70, 71, 72, 73, 74, 75, 76, 77, 78, 79, 80, 81, 82, 83, 84, 85, 86, 87, 88, 89] (by decide +kernel) (by decide +kernel)
set_option maxRecDepth 20000 in
theorem gX11_fair_X11_set : GoodIn wsX11_fair (wsV RX11 60 RX11 yX11_set wsX11_set) := goodIn_app (goodIn_of _ (by decide +kernel)) ggX11_fair_X11_set
set_option maxRecDepth 20000 in
theorem ggX11_fair_X11_result : GoodIn wsX11_fair wsX11_result := goodIn_r _ [33, 17, 34, 35, 36, 37, 38, 8, 39, 40, 41, 42, 43, 18, 19, 20, 21, 22, 23, 24, 25, 26, 27, 28, 29, 44, 45, 46, 47, 13, 14, 15, 16, 48, 49, 50, 51, 52, 53, 54, 55, 56, 57, 58, 59, 60, 61, 62, 63, 64, 65, 66, 67, 68, 69, 70, 71, 72, 73, 74, 75, 76, 77, 78, 79, 80, 81, 82, 83, 84, 85, 86, 87, 88, 89] (by decide +kernel) (by decide +kernel)
set_option maxRecDepth 20000 in
theorem gX11_fair_X11_result : GoodIn wsX11_fair (wsV RX11 137 RX11 yX11_result wsX11_result) := goodIn_app (goodIn_of _ (by decide +kernel)) ggX11_fair_X11_result
theorem dX11_fair_0 : decode cX11_fair 0 = .ok (.iload_n 1, 1) := by decide +kernel
theorem dX11_fair_1 : decode cX11_fair 1 = .ok (.ifCond .lt 11, 3) := by decide +kernel
theorem dX11_fair_4 : decode cX11_fair 4 = .ok (.iload_n 1, 1) := by decide +kernel
theorem dX11_fair_5 : decode cX11_fair 5 = .ok (.aload_n 0, 1) := by decide +kernel
theorem dX11_fair_6 : decode cX11_fair 6 = .ok (.getfield 172, 3) := by decide +kernel
theorem dX11_fair_9 : decode cX11_fair 9 = .ok (.if_icmp .lt 5, 3) := by decide +kernel
theorem dX11_fair_12 : decode cX11_fair 12 = .ok (.iconst 0, 1) := by decide +kernel
theorem dX11_fair_13 : decode cX11_fair 13 = .ok (.ireturn, 1) := by decide +kernel
theorem dX11_fair_14 : decode cX11_fair 14 = .ok (.aload_n 0, 1) := by decide +kernel
theorem dX11_fair_15 : decode cX11_fair 15 = .ok (.getfield 51, 3) := by decide +kernel
theorem dX11_fair_18 : decode cX11_fair 18 = .ok (.iload_n 1, 1) := by decide +kernel
theorem dX11_fair_19 : decode cX11_fair 19 = .ok (.iaload, 1) := by decide +kernel
theorem dX11_fair_20 : decode cX11_fair 20 = .ok (.istore_n 2, 1) := by decide +kernel
theorem dX11_fair_21 : decode cX11_fair 21 = .ok (.aload_n 0, 1) := by decide +kernel
theorem dX11_fair_22 : decode cX11_fair 22 = .ok (.getfield 54, 3) := by decide +kernel
theorem dX11_fair_25 : decode cX11_fair 25 = .ok (.iload_n 1, 1) := by decide +kernel
theorem dX11_fair_26 : decode cX11_fair 26 = .ok (.iaload, 1) := by decide +kernel
theorem dX11_fair_27 : decode cX11_fair 27 = .ok (.i2l, 1) := by decide +kernel
theorem dX11_fair_28 : decode cX11_fair 28 = .ok (.aload_n 0, 1) := by decide +kernel
theorem dX11_fair_29 : decode cX11_fair 29 = .ok (.getfield 33, 3) := by decide +kernel
theorem dX11_fair_32 : decode cX11_fair 32 = .ok (.iload_n 2, 1) := by decide +kernel
theorem dX11_fair_33 : decode cX11_fair 33 = .ok (.iaload, 1) := by decide +kernel
theorem dX11_fair_34 : decode cX11_fair 34 = .ok (.i2l, 1) := by decide +kernel
theorem dX11_fair_35 : decode cX11_fair 35 = .ok (.lmul, 1) := by decide +kernel
theorem dX11_fair_36 : decode cX11_fair 36 = .ok (.lstore_n 3, 1) := by decide +kernel
theorem dX11_fair_37 : decode cX11_fair 37 = .ok (.lconst 0, 1) := by decide +kernel
theorem dX11_fair_38 : decode cX11_fair 38 = .ok (.lstore 5, 2) := by decide +kernel
theorem dX11_fair_40 : decode cX11_fair 40 = .ok (.lconst 0, 1) := by decide +kernel
theorem dX11_fair_41 : decode cX11_fair 41 = .ok (.lstore 7, 2) := by decide +kernel
theorem dX11_fair_43 : decode cX11_fair 43 = .ok (.sipush 1000, 3) := by decide +kernel
theorem dX11_fair_46 : decode cX11_fair 46 = .ok (.istore 9, 2) := by decide +kernel
theorem dX11_fair_48 : decode cX11_fair 48 = .ok (.iload 9, 2) := by decide +kernel
theorem dX11_fair_50 : decode cX11_fair 50 = .ok (.ifCond .lt 81, 3) := by decide +kernel
theorem dX11_fair_53 : decode cX11_fair 53 = .ok (.aload_n 0, 1) := by decide +kernel
theorem dX11_fair_54 : decode cX11_fair 54 = .ok (.iload_n 2, 1) := by decide +kernel
theorem dX11_fair_55 : decode cX11_fair 55 = .ok (.iload 9, 2) := by decide +kernel
theorem dX11_fair_57 : decode cX11_fair 57 = .ok (.iload 9, 2) := by decide +kernel
theorem dX11_fair_59 : decode cX11_fair 59 = .ok (.invokevirtual 130, 3) := by decide +kernel
theorem dX11_fair_62 : decode cX11_fair 62 = .ok (.istore 10, 2) := by decide +kernel
theorem dX11_fair_64 : decode cX11_fair 64 = .ok (.iload 10, 2) := by decide +kernel
theorem dX11_fair_66 : decode cX11_fair 66 = .ok (.ifCond .ne 6, 3) := by decide +kernel
theorem dX11_fair_69 : decode cX11_fair 69 = .ok (.goto 56, 3) := by decide +kernel
theorem dX11_fair_72 : decode cX11_fair 72 = .ok (.lload 7, 2) := by decide +kernel
theorem dX11_fair_74 : decode cX11_fair 74 = .ok (.lconst 0, 1) := by decide +kernel
theorem dX11_fair_75 : decode cX11_fair 75 = .ok (.lcmp, 1) := by decide +kernel
theorem dX11_fair_76 : decode cX11_fair 76 = .ok (.ifCond .le 20, 3) := by decide +kernel
theorem dX11_fair_79 : decode cX11_fair 79 = .ok (.lload 5, 2) := by decide +kernel
theorem dX11_fair_81 : decode cX11_fair 81 = .ok (.lload_n 3, 1) := by decide +kernel
theorem dX11_fair_82 : decode cX11_fair 82 = .ok (.lsub, 1) := by decide +kernel
theorem dX11_fair_83 : decode cX11_fair 83 = .ok (.iload 9, 2) := by decide +kernel
theorem dX11_fair_85 : decode cX11_fair 85 = .ok (.i2l, 1) := by decide +kernel
theorem dX11_fair_86 : decode cX11_fair 86 = .ok (.lload 7, 2) := by decide +kernel
theorem dX11_fair_88 : decode cX11_fair 88 = .ok (.lmul, 1) := by decide +kernel
theorem dX11_fair_89 : decode cX11_fair 89 = .ok (.lcmp, 1) := by decide +kernel
theorem dX11_fair_90 : decode cX11_fair 90 = .ok (.ifCond .lt 6, 3) := by decide +kernel
theorem dX11_fair_93 : decode cX11_fair 93 = .ok (.goto 38, 3) := by decide +kernel
theorem dX11_fair_96 : decode cX11_fair 96 = .ok (.lload 5, 2) := by decide +kernel
theorem dX11_fair_98 : decode cX11_fair 98 = .ok (.iload 9, 2) := by decide +kernel
theorem dX11_fair_100 : decode cX11_fair 100 = .ok (.i2l, 1) := by decide +kernel
theorem dX11_fair_101 : decode cX11_fair 101 = .ok (.iload 10, 2) := by decide +kernel
theorem dX11_fair_103 : decode cX11_fair 103 = .ok (.i2l, 1) := by decide +kernel
theorem dX11_fair_104 : decode cX11_fair 104 = .ok (.lmul, 1) := by decide +kernel
theorem dX11_fair_105 : decode cX11_fair 105 = .ok (.ladd, 1) := by decide +kernel
theorem dX11_fair_106 : decode cX11_fair 106 = .ok (.lstore 5, 2) := by decide +kernel
theorem dX11_fair_108 : decode cX11_fair 108 = .ok (.lload 7, 2) := by decide +kernel
theorem dX11_fair_110 : decode cX11_fair 110 = .ok (.iload 10, 2) := by decide +kernel
theorem dX11_fair_112 : decode cX11_fair 112 = .ok (.i2l, 1) := by decide +kernel
theorem dX11_fair_113 : decode cX11_fair 113 = .ok (.ladd, 1) := by decide +kernel
theorem dX11_fair_114 : decode cX11_fair 114 = .ok (.lstore 7, 2) := by decide +kernel
theorem dX11_fair_116 : decode cX11_fair 116 = .ok (.lload_n 3, 1) := by decide +kernel
theorem dX11_fair_117 : decode cX11_fair 117 = .ok (.lconst 0, 1) := by decide +kernel
theorem dX11_fair_118 : decode cX11_fair 118 = .ok (.lcmp, 1) := by decide +kernel
theorem dX11_fair_119 : decode cX11_fair 119 = .ok (.ifCond .ne 6, 3) := by decide +kernel
theorem dX11_fair_122 : decode cX11_fair 122 = .ok (.goto 9, 3) := by decide +kernel
theorem dX11_fair_125 : decode cX11_fair 125 = .ok (.iinc 9 (-1), 3) := by decide +kernel
theorem dX11_fair_128 : decode cX11_fair 128 = .ok (.goto (-80), 3) := by decide +kernel
theorem dX11_fair_131 : decode cX11_fair 131 = .ok (.aload_n 0, 1) := by decide +kernel
theorem dX11_fair_132 : decode cX11_fair 132 = .ok (.bipush 10, 2) := by decide +kernel
theorem dX11_fair_134 : decode cX11_fair 134 = .ok (.lload 5, 2) := by decide +kernel
theorem dX11_fair_136 : decode cX11_fair 136 = .ok (.lload_n 3, 1) := by decide +kernel
theorem dX11_fair_137 : decode cX11_fair 137 = .ok (.lsub, 1) := by decide +kernel
theorem dX11_fair_138 : decode cX11_fair 138 = .ok (.invokevirtual 60, 3) := by decide +kernel
theorem dX11_fair_141 : decode cX11_fair 141 = .ok (.aload_n 0, 1) := by decide +kernel
theorem dX11_fair_142 : decode cX11_fair 142 = .ok (.bipush 11, 2) := by decide +kernel
theorem dX11_fair_144 : decode cX11_fair 144 = .ok (.lload 7, 2) := by decide +kernel
theorem dX11_fair_146 : decode cX11_fair 146 = .ok (.invokevirtual 60, 3) := by decide +kernel
theorem dX11_fair_149 : decode cX11_fair 149 = .ok (.aload_n 0, 1) := by decide +kernel
theorem dX11_fair_150 : decode cX11_fair 150 = .ok (.bipush 10, 2) := by decide +kernel
theorem dX11_fair_152 : decode cX11_fair 152 = .ok (.bipush 11, 2) := by decide +kernel
theorem dX11_fair_154 : decode cX11_fair 154 = .ok (.invokevirtual 137, 3) := by decide +kernel
theorem dX11_fair_157 : decode cX11_fair 157 = .ok (.iconst 1, 1) := by decide +kernel
theorem dX11_fair_158 : decode cX11_fair 158 = .ok (.ireturn, 1) := by decide +kernel
theorem dX11_placeOf_0 : decode cX11_placeOf 0 = .ok (.iconst 0, 1) := by decide +kernel
theorem dX11_placeOf_1 : decode cX11_placeOf 1 = .ok (.istore_n 2, 1) := by decide +kernel
theorem dX11_placeOf_2 : decode cX11_placeOf 2 = .ok (.aload_n 0, 1) := by decide +kernel
theorem dX11_placeOf_3 : decode cX11_placeOf 3 = .ok (.getfield 57, 3) := by decide +kernel
theorem dX11_placeOf_6 : decode cX11_placeOf 6 = .ok (.iload_n 2, 1) := by decide +kernel
theorem dX11_placeOf_7 : decode cX11_placeOf 7 = .ok (.iaload, 1) := by decide +kernel
end
section
theorem dX11_placeOf_8 : decode cX11_placeOf 8 = .ok (.iload_n 1, 1) := by decide +kernel
theorem dX11_placeOf_9 : decode cX11_placeOf 9 = .ok (.if_icmp .eq 9, 3) := by decide +kernel
theorem dX11_placeOf_12 : decode cX11_placeOf 12 = .ok (.iinc 2 1, 3) := by decide +kernel
theorem dX11_placeOf_15 : decode cX11_placeOf 15 = .ok (.goto (-13), 3) := by decide +kernel
theorem dX11_placeOf_18 : decode cX11_placeOf 18 = .ok (.iload_n 2, 1) := by decide +kernel
theorem dX11_placeOf_19 : decode cX11_placeOf 19 = .ok (.ireturn, 1) := by decide +kernel
set_option maxRecDepth 20000 in
theorem ggX11_search_X11_set : GoodIn wsX11_search wsX11_set := goodIn_r _ [18, 19, 20, 21, 22, 17, 23, 24, 25, 26, 27, 28, 29, 30, 31, 75, 76, 77, 78, 79, 80, 81, 82, 83, 84, 85, 86, 87, 88, 89, 90, 91, 92, 93, 94, 95] (by decide +kernel) (by decide +kernel)
set_option maxRecDepth 20000 in
theorem gX11_search_X11_set : GoodIn wsX11_search (wsV RX11 60 RX11 yX11_set wsX11_set) := goodIn_app (goodIn_of _ (by decide +kernel)) ggX11_search_X11_set
set_option maxRecDepth 20000 in
theorem ggX11_search_X11_times : GoodIn wsX11_search wsX11_times := goodIn_r _ [35, 19, 20, 21, 22, 17, 23, 24, 25, 26, 27, 28, 29, 30, 31, 75, 76, 77, 78, 79, 80, 81, 82, 83, 84, 85, 86, 87, 88, 89, 90, 91, 92, 93, 94, 95] (by decide +kernel) (by decide +kernel)
set_option maxRecDepth 20000 in
theorem gX11_search_X11_times : GoodIn wsX11_search (wsV RX11 93 RX11 yX11_times wsX11_times) := goodIn_app (goodIn_of _ (by decide +kernel)) ggX11_search_X11_times
set_option maxRecDepth 20000 in
theorem ggX11_search_X11_more : GoodIn wsX11_search wsX11_more := goodIn_r _ [39, 19, 20, 21, 22, 17, 23, 24, 25, 26, 27, 28, 29, 30, 31, 75, 76, 77, 78, 79, 80, 81, 82, 83, 84, 85, 86, 87, 88, 89, 90, 91, 92, 93, 94, 95] (by decide +kernel) (by decide +kernel)
set_option maxRecDepth 20000 in
theorem gX11_search_X11_more : GoodIn wsX11_search (wsV RX11 87 RX11 yX11_more wsX11_more) := goodIn_app (goodIn_of _ (by decide +kernel)) ggX11_search_X11_more
set_option maxRecDepth 20000 in
theorem ggX11_search_X11_placeOf : GoodIn wsX11_search wsX11_placeOf := goodIn_r _ [43, 6, 75, 76, 77, 78, 79, 80, 81, 82, 83, 84, 85, 86, 87, 88, 89, 90, 91, 92, 93, 94, 95] (by decide +kernel) (by decide +kernel)
set_option maxRecDepth 20000 in
theorem gX11_search_X11_placeOf : GoodIn wsX11_search (wsV RX11 178 RX11 yX11_placeOf wsX11_placeOf) := goodIn_app (goodIn_of _ (by decide +kernel)) ggX11_search_X11_placeOf
set_option maxRecDepth 20000 in
theorem ggX11_search_X11_compared : GoodIn wsX11_search wsX11_compared := goodIn_r _ [47, 19, 75, 76, 77, 78, 79, 80, 81, 82, 83, 84, 85, 86, 87, 88, 89, 90, 91, 92, 93, 94, 95] (by decide +kernel) (by decide +kernel)
set_option maxRecDepth 20000 in
theorem gX11_search_X11_compared : GoodIn wsX11_search (wsV RX11 106 RX11 yX11_compared wsX11_compared) := goodIn_app (goodIn_of _ (by decide +kernel)) ggX11_search_X11_compared
set_option maxRecDepth 20000 in
theorem ggX11_search_X11_copy : GoodIn wsX11_search wsX11_copy := goodIn_r _ [51, 19, 75, 76, 77, 78, 79, 80, 81, 82, 83, 84, 85, 86, 87, 88, 89, 90, 91, 92, 93, 94, 95] (by decide +kernel) (by decide +kernel)
set_option maxRecDepth 20000 in
theorem gX11_search_X11_copy : GoodIn wsX11_search (wsV RX11 83 RX11 yX11_copy wsX11_copy) := goodIn_app (goodIn_of _ (by decide +kernel)) ggX11_search_X11_copy
set_option maxRecDepth 20000 in
theorem ggX11_search_X11_result : GoodIn wsX11_search wsX11_result := goodIn_r _ [55, 19, 56, 57, 48, 49, 50, 17, 51, 32, 33, 34, 35, 20, 21, 22, 23, 24, 25, 26, 27, 28, 29, 30, 31, 58, 59, 60, 61, 14, 15, 16, 18, 62, 63, 64, 65, 66, 67, 68, 69, 44, 45, 46, 47, 36, 37, 38, 39, 70, 71, 72, 73, 74, 75, 76, 77, 78, 79, 80, 81, 82, 83, 84, 85, 86, 87, 88, 89, 90, 91, 92, 93, 94, 95] (by decide +kernel) (by decide +kernel)
set_option maxRecDepth 20000 in
theorem gX11_search_X11_result : GoodIn wsX11_search (wsV RX11 137 RX11 yX11_result wsX11_result) := goodIn_app (goodIn_of _ (by decide +kernel)) ggX11_search_X11_result
theorem dX11_search_0 : decode cX11_search 0 = .ok (.aload_n 0, 1) := by decide +kernel
theorem dX11_search_1 : decode cX11_search 1 = .ok (.iconst 0, 1) := by decide +kernel
theorem dX11_search_2 : decode cX11_search 2 = .ok (.putfield 175, 3) := by decide +kernel
theorem dX11_search_5 : decode cX11_search 5 = .ok (.iconst 0, 1) := by decide +kernel
theorem dX11_search_6 : decode cX11_search 6 = .ok (.istore_n 1, 1) := by decide +kernel
theorem dX11_search_7 : decode cX11_search 7 = .ok (.iload_n 1, 1) := by decide +kernel
theorem dX11_search_8 : decode cX11_search 8 = .ok (.sipush 1000, 3) := by decide +kernel
theorem dX11_search_11 : decode cX11_search 11 = .ok (.if_icmp .gt 123, 3) := by decide +kernel
theorem dX11_search_14 : decode cX11_search 14 = .ok (.iload_n 1, 1) := by decide +kernel
theorem dX11_search_15 : decode cX11_search 15 = .ok (.ifCond .ne 7, 3) := by decide +kernel
theorem dX11_search_18 : decode cX11_search 18 = .ok (.iconst 1, 1) := by decide +kernel
theorem dX11_search_19 : decode cX11_search 19 = .ok (.goto 4, 3) := by decide +kernel
theorem dX11_search_22 : decode cX11_search 22 = .ok (.iconst 0, 1) := by decide +kernel
theorem dX11_search_23 : decode cX11_search 23 = .ok (.istore_n 2, 1) := by decide +kernel
theorem dX11_search_24 : decode cX11_search 24 = .ok (.iconst 0, 1) := by decide +kernel
theorem dX11_search_25 : decode cX11_search 25 = .ok (.istore_n 3, 1) := by decide +kernel
theorem dX11_search_26 : decode cX11_search 26 = .ok (.iload_n 3, 1) := by decide +kernel
theorem dX11_search_27 : decode cX11_search 27 = .ok (.aload_n 0, 1) := by decide +kernel
theorem dX11_search_28 : decode cX11_search 28 = .ok (.getfield 172, 3) := by decide +kernel
theorem dX11_search_31 : decode cX11_search 31 = .ok (.if_icmp .ge 73, 3) := by decide +kernel
theorem dX11_search_34 : decode cX11_search 34 = .ok (.bipush 8, 2) := by decide +kernel
theorem dX11_search_36 : decode cX11_search 36 = .ok (.aload_n 0, 1) := by decide +kernel
theorem dX11_search_37 : decode cX11_search 37 = .ok (.getfield 51, 3) := by decide +kernel
theorem dX11_search_40 : decode cX11_search 40 = .ok (.iload_n 3, 1) := by decide +kernel
theorem dX11_search_41 : decode cX11_search 41 = .ok (.iaload, 1) := by decide +kernel
theorem dX11_search_42 : decode cX11_search 42 = .ok (.imul, 1) := by decide +kernel
theorem dX11_search_43 : decode cX11_search 43 = .ok (.istore 4, 2) := by decide +kernel
theorem dX11_search_45 : decode cX11_search 45 = .ok (.iload 4, 2) := by decide +kernel
theorem dX11_search_47 : decode cX11_search 47 = .ok (.bipush 8, 2) := by decide +kernel
theorem dX11_search_49 : decode cX11_search 49 = .ok (.aload_n 0, 1) := by decide +kernel
theorem dX11_search_50 : decode cX11_search 50 = .ok (.getfield 51, 3) := by decide +kernel
theorem dX11_search_53 : decode cX11_search 53 = .ok (.iload_n 3, 1) := by decide +kernel
theorem dX11_search_54 : decode cX11_search 54 = .ok (.iaload, 1) := by decide +kernel
theorem dX11_search_55 : decode cX11_search 55 = .ok (.imul, 1) := by decide +kernel
theorem dX11_search_56 : decode cX11_search 56 = .ok (.aload_n 0, 1) := by decide +kernel
theorem dX11_search_57 : decode cX11_search 57 = .ok (.getfield 24, 3) := by decide +kernel
theorem dX11_search_60 : decode cX11_search 60 = .ok (.aload_n 0, 1) := by decide +kernel
theorem dX11_search_61 : decode cX11_search 61 = .ok (.getfield 51, 3) := by decide +kernel
theorem dX11_search_64 : decode cX11_search 64 = .ok (.iload_n 3, 1) := by decide +kernel
theorem dX11_search_65 : decode cX11_search 65 = .ok (.iaload, 1) := by decide +kernel
theorem dX11_search_66 : decode cX11_search 66 = .ok (.iaload, 1) := by decide +kernel
theorem dX11_search_67 : decode cX11_search 67 = .ok (.iadd, 1) := by decide +kernel
theorem dX11_search_68 : decode cX11_search 68 = .ok (.if_icmp .ge 30, 3) := by decide +kernel
theorem dX11_search_71 : decode cX11_search 71 = .ok (.iload_n 2, 1) := by decide +kernel
theorem dX11_search_72 : decode cX11_search 72 = .ok (.ifCond .ne 14, 3) := by decide +kernel
theorem dX11_search_75 : decode cX11_search 75 = .ok (.aload_n 0, 1) := by decide +kernel
theorem dX11_search_76 : decode cX11_search 76 = .ok (.getfield 27, 3) := by decide +kernel
theorem dX11_search_79 : decode cX11_search 79 = .ok (.iload 4, 2) := by decide +kernel
theorem dX11_search_81 : decode cX11_search 81 = .ok (.iaload, 1) := by decide +kernel
theorem dX11_search_82 : decode cX11_search 82 = .ok (.iload_n 1, 1) := by decide +kernel
theorem dX11_search_83 : decode cX11_search 83 = .ok (.if_icmp .ne 7, 3) := by decide +kernel
theorem dX11_search_86 : decode cX11_search 86 = .ok (.iconst 1, 1) := by decide +kernel
theorem dX11_search_87 : decode cX11_search 87 = .ok (.goto 4, 3) := by decide +kernel
theorem dX11_search_90 : decode cX11_search 90 = .ok (.iconst 0, 1) := by decide +kernel
theorem dX11_search_91 : decode cX11_search 91 = .ok (.istore_n 2, 1) := by decide +kernel
theorem dX11_search_92 : decode cX11_search 92 = .ok (.iinc 4 1, 3) := by decide +kernel
theorem dX11_search_95 : decode cX11_search 95 = .ok (.goto (-50), 3) := by decide +kernel
theorem dX11_search_98 : decode cX11_search 98 = .ok (.iinc 3 1, 3) := by decide +kernel
theorem dX11_search_101 : decode cX11_search 101 = .ok (.goto (-75), 3) := by decide +kernel
theorem dX11_search_104 : decode cX11_search 104 = .ok (.iload_n 2, 1) := by decide +kernel
theorem dX11_search_105 : decode cX11_search 105 = .ok (.ifCond .eq 23, 3) := by decide +kernel
theorem dX11_search_108 : decode cX11_search 108 = .ok (.aload_n 0, 1) := by decide +kernel
theorem dX11_search_109 : decode cX11_search 109 = .ok (.getfield 57, 3) := by decide +kernel
theorem dX11_search_112 : decode cX11_search 112 = .ok (.aload_n 0, 1) := by decide +kernel
theorem dX11_search_113 : decode cX11_search 113 = .ok (.getfield 175, 3) := by decide +kernel
theorem dX11_search_116 : decode cX11_search 116 = .ok (.iload_n 1, 1) := by decide +kernel
theorem dX11_search_117 : decode cX11_search 117 = .ok (.iastore, 1) := by decide +kernel
theorem dX11_search_118 : decode cX11_search 118 = .ok (.aload_n 0, 1) := by decide +kernel
theorem dX11_search_119 : decode cX11_search 119 = .ok (.dup, 1) := by decide +kernel
theorem dX11_search_120 : decode cX11_search 120 = .ok (.getfield 175, 3) := by decide +kernel
theorem dX11_search_123 : decode cX11_search 123 = .ok (.iconst 1, 1) := by decide +kernel
theorem dX11_search_124 : decode cX11_search 124 = .ok (.iadd, 1) := by decide +kernel
theorem dX11_search_125 : decode cX11_search 125 = .ok (.putfield 175, 3) := by decide +kernel
theorem dX11_search_128 : decode cX11_search 128 = .ok (.iinc 1 1, 3) := by decide +kernel
theorem dX11_search_131 : decode cX11_search 131 = .ok (.goto (-124), 3) := by decide +kernel
theorem dX11_search_134 : decode cX11_search 134 = .ok (.iconst 1, 1) := by decide +kernel
theorem dX11_search_135 : decode cX11_search 135 = .ok (.aload_n 0, 1) := by decide +kernel
theorem dX11_search_136 : decode cX11_search 136 = .ok (.getfield 172, 3) := by decide +kernel
theorem dX11_search_139 : decode cX11_search 139 = .ok (.ishl, 1) := by decide +kernel
theorem dX11_search_140 : decode cX11_search 140 = .ok (.iconst 1, 1) := by decide +kernel
theorem dX11_search_141 : decode cX11_search 141 = .ok (.isub, 1) := by decide +kernel
theorem dX11_search_142 : decode cX11_search 142 = .ok (.istore_n 1, 1) := by decide +kernel
theorem dX11_search_143 : decode cX11_search 143 = .ok (.iload_n 1, 1) := by decide +kernel
theorem dX11_search_144 : decode cX11_search 144 = .ok (.istore_n 2, 1) := by decide +kernel
theorem dX11_search_145 : decode cX11_search 145 = .ok (.iload_n 2, 1) := by decide +kernel
theorem dX11_search_146 : decode cX11_search 146 = .ok (.ifCond .lt 264, 3) := by decide +kernel
theorem dX11_search_149 : decode cX11_search 149 = .ok (.aload_n 0, 1) := by decide +kernel
theorem dX11_search_150 : decode cX11_search 150 = .ok (.iconst 3, 1) := by decide +kernel
theorem dX11_search_151 : decode cX11_search 151 = .ok (.lconst 1, 1) := by decide +kernel
theorem dX11_search_152 : decode cX11_search 152 = .ok (.invokevirtual 60, 3) := by decide +kernel
theorem dX11_search_155 : decode cX11_search 155 = .ok (.iconst 0, 1) := by decide +kernel
theorem dX11_search_156 : decode cX11_search 156 = .ok (.istore_n 3, 1) := by decide +kernel
theorem dX11_search_157 : decode cX11_search 157 = .ok (.iload_n 3, 1) := by decide +kernel
theorem dX11_search_158 : decode cX11_search 158 = .ok (.aload_n 0, 1) := by decide +kernel
theorem dX11_search_159 : decode cX11_search 159 = .ok (.getfield 172, 3) := by decide +kernel
theorem dX11_search_162 : decode cX11_search 162 = .ok (.if_icmp .ge 34, 3) := by decide +kernel
theorem dX11_search_165 : decode cX11_search 165 = .ok (.iload_n 2, 1) := by decide +kernel
theorem dX11_search_166 : decode cX11_search 166 = .ok (.iload_n 3, 1) := by decide +kernel
theorem dX11_search_167 : decode cX11_search 167 = .ok (.ishr, 1) := by decide +kernel
theorem dX11_search_168 : decode cX11_search 168 = .ok (.iconst 1, 1) := by decide +kernel
theorem dX11_search_169 : decode cX11_search 169 = .ok (.iand, 1) := by decide +kernel
theorem dX11_search_170 : decode cX11_search 170 = .ok (.ifCond .ne 20, 3) := by decide +kernel
theorem dX11_search_173 : decode cX11_search 173 = .ok (.aload_n 0, 1) := by decide +kernel
theorem dX11_search_174 : decode cX11_search 174 = .ok (.iconst 3, 1) := by decide +kernel
theorem dX11_search_175 : decode cX11_search 175 = .ok (.aload_n 0, 1) := by decide +kernel
theorem dX11_search_176 : decode cX11_search 176 = .ok (.getfield 33, 3) := by decide +kernel
theorem dX11_search_179 : decode cX11_search 179 = .ok (.aload_n 0, 1) := by decide +kernel
theorem dX11_search_180 : decode cX11_search 180 = .ok (.getfield 51, 3) := by decide +kernel
theorem dX11_search_183 : decode cX11_search 183 = .ok (.iload_n 3, 1) := by decide +kernel
theorem dX11_search_184 : decode cX11_search 184 = .ok (.iaload, 1) := by decide +kernel
theorem dX11_search_185 : decode cX11_search 185 = .ok (.iaload, 1) := by decide +kernel
theorem dX11_search_186 : decode cX11_search 186 = .ok (.i2l, 1) := by decide +kernel
theorem dX11_search_187 : decode cX11_search 187 = .ok (.invokevirtual 93, 3) := by decide +kernel
theorem dX11_search_190 : decode cX11_search 190 = .ok (.iinc 3 1, 3) := by decide +kernel
theorem dX11_search_193 : decode cX11_search 193 = .ok (.goto (-36), 3) := by decide +kernel
theorem dX11_search_196 : decode cX11_search 196 = .ok (.iconst 0, 1) := by decide +kernel
theorem dX11_search_197 : decode cX11_search 197 = .ok (.istore_n 3, 1) := by decide +kernel
theorem dX11_search_198 : decode cX11_search 198 = .ok (.iload_n 3, 1) := by decide +kernel
theorem dX11_search_199 : decode cX11_search 199 = .ok (.aload_n 0, 1) := by decide +kernel
theorem dX11_search_200 : decode cX11_search 200 = .ok (.getfield 175, 3) := by decide +kernel
theorem dX11_search_203 : decode cX11_search 203 = .ok (.if_icmp .ge 201, 3) := by decide +kernel
theorem dX11_search_206 : decode cX11_search 206 = .ok (.bipush 10, 2) := by decide +kernel
theorem dX11_search_208 : decode cX11_search 208 = .ok (.bipush 50, 2) := by decide +kernel
theorem dX11_search_210 : decode cX11_search 210 = .ok (.iload_n 2, 1) := by decide +kernel
theorem dX11_search_211 : decode cX11_search 211 = .ok (.imul, 1) := by decide +kernel
theorem dX11_search_212 : decode cX11_search 212 = .ok (.iadd, 1) := by decide +kernel
theorem dX11_search_213 : decode cX11_search 213 = .ok (.iload_n 3, 1) := by decide +kernel
theorem dX11_search_214 : decode cX11_search 214 = .ok (.iadd, 1) := by decide +kernel
theorem dX11_search_215 : decode cX11_search 215 = .ok (.istore 4, 2) := by decide +kernel
theorem dX11_search_217 : decode cX11_search 217 = .ok (.aload_n 0, 1) := by decide +kernel
theorem dX11_search_218 : decode cX11_search 218 = .ok (.iload 4, 2) := by decide +kernel
theorem dX11_search_220 : decode cX11_search 220 = .ok (.lconst 0, 1) := by decide +kernel
theorem dX11_search_221 : decode cX11_search 221 = .ok (.invokevirtual 60, 3) := by decide +kernel
theorem dX11_search_224 : decode cX11_search 224 = .ok (.aload_n 0, 1) := by decide +kernel
theorem dX11_search_225 : decode cX11_search 225 = .ok (.iload 4, 2) := by decide +kernel
theorem dX11_search_227 : decode cX11_search 227 = .ok (.iconst 3, 1) := by decide +kernel
theorem dX11_search_228 : decode cX11_search 228 = .ok (.aload_n 0, 1) := by decide +kernel
theorem dX11_search_229 : decode cX11_search 229 = .ok (.getfield 57, 3) := by decide +kernel
theorem dX11_search_232 : decode cX11_search 232 = .ok (.iload_n 3, 1) := by decide +kernel
theorem dX11_search_233 : decode cX11_search 233 = .ok (.iaload, 1) := by decide +kernel
theorem dX11_search_234 : decode cX11_search 234 = .ok (.i2l, 1) := by decide +kernel
theorem dX11_search_235 : decode cX11_search 235 = .ok (.invokevirtual 87, 3) := by decide +kernel
theorem dX11_search_238 : decode cX11_search 238 = .ok (.iconst 0, 1) := by decide +kernel
theorem dX11_search_239 : decode cX11_search 239 = .ok (.istore 5, 2) := by decide +kernel
theorem dX11_search_241 : decode cX11_search 241 = .ok (.iload 5, 2) := by decide +kernel
theorem dX11_search_243 : decode cX11_search 243 = .ok (.aload_n 0, 1) := by decide +kernel
theorem dX11_search_244 : decode cX11_search 244 = .ok (.getfield 172, 3) := by decide +kernel
theorem dX11_search_247 : decode cX11_search 247 = .ok (.if_icmp .ge 151, 3) := by decide +kernel
theorem dX11_search_250 : decode cX11_search 250 = .ok (.iload_n 2, 1) := by decide +kernel
theorem dX11_search_251 : decode cX11_search 251 = .ok (.iload 5, 2) := by decide +kernel
theorem dX11_search_253 : decode cX11_search 253 = .ok (.ishr, 1) := by decide +kernel
theorem dX11_search_254 : decode cX11_search 254 = .ok (.iconst 1, 1) := by decide +kernel
theorem dX11_search_255 : decode cX11_search 255 = .ok (.iand, 1) := by decide +kernel
theorem dX11_search_256 : decode cX11_search 256 = .ok (.iconst 1, 1) := by decide +kernel
theorem dX11_search_257 : decode cX11_search 257 = .ok (.if_icmp .ne 6, 3) := by decide +kernel
theorem dX11_search_260 : decode cX11_search 260 = .ok (.goto 132, 3) := by decide +kernel
theorem dX11_search_263 : decode cX11_search 263 = .ok (.aload_n 0, 1) := by decide +kernel
theorem dX11_search_264 : decode cX11_search 264 = .ok (.iconst 2, 1) := by decide +kernel
theorem dX11_search_265 : decode cX11_search 265 = .ok (.lconst 0, 1) := by decide +kernel
theorem dX11_search_266 : decode cX11_search 266 = .ok (.invokevirtual 60, 3) := by decide +kernel
theorem dX11_search_269 : decode cX11_search 269 = .ok (.aload_n 0, 1) := by decide +kernel
theorem dX11_search_270 : decode cX11_search 270 = .ok (.iconst 2, 1) := by decide +kernel
theorem dX11_search_271 : decode cX11_search 271 = .ok (.iconst 3, 1) := by decide +kernel
theorem dX11_search_272 : decode cX11_search 272 = .ok (.aload_n 0, 1) := by decide +kernel
theorem dX11_search_273 : decode cX11_search 273 = .ok (.getfield 54, 3) := by decide +kernel
theorem dX11_search_276 : decode cX11_search 276 = .ok (.iload 5, 2) := by decide +kernel
theorem dX11_search_278 : decode cX11_search 278 = .ok (.iaload, 1) := by decide +kernel
theorem dX11_search_279 : decode cX11_search 279 = .ok (.ineg, 1) := by decide +kernel
theorem dX11_search_280 : decode cX11_search 280 = .ok (.i2l, 1) := by decide +kernel
theorem dX11_search_281 : decode cX11_search 281 = .ok (.invokevirtual 87, 3) := by decide +kernel
theorem dX11_search_284 : decode cX11_search 284 = .ok (.bipush 8, 2) := by decide +kernel
theorem dX11_search_286 : decode cX11_search 286 = .ok (.aload_n 0, 1) := by decide +kernel
theorem dX11_search_287 : decode cX11_search 287 = .ok (.getfield 51, 3) := by decide +kernel
theorem dX11_search_290 : decode cX11_search 290 = .ok (.iload 5, 2) := by decide +kernel
theorem dX11_search_292 : decode cX11_search 292 = .ok (.iaload, 1) := by decide +kernel
theorem dX11_search_293 : decode cX11_search 293 = .ok (.imul, 1) := by decide +kernel
theorem dX11_search_294 : decode cX11_search 294 = .ok (.istore 6, 2) := by decide +kernel
theorem dX11_search_296 : decode cX11_search 296 = .ok (.iload 6, 2) := by decide +kernel
theorem dX11_search_298 : decode cX11_search 298 = .ok (.bipush 8, 2) := by decide +kernel
theorem dX11_search_300 : decode cX11_search 300 = .ok (.aload_n 0, 1) := by decide +kernel
theorem dX11_search_301 : decode cX11_search 301 = .ok (.getfield 51, 3) := by decide +kernel
theorem dX11_search_304 : decode cX11_search 304 = .ok (.iload 5, 2) := by decide +kernel
theorem dX11_search_306 : decode cX11_search 306 = .ok (.iaload, 1) := by decide +kernel
theorem dX11_search_307 : decode cX11_search 307 = .ok (.imul, 1) := by decide +kernel
theorem dX11_search_308 : decode cX11_search 308 = .ok (.aload_n 0, 1) := by decide +kernel
theorem dX11_search_309 : decode cX11_search 309 = .ok (.getfield 24, 3) := by decide +kernel
theorem dX11_search_312 : decode cX11_search 312 = .ok (.aload_n 0, 1) := by decide +kernel
theorem dX11_search_313 : decode cX11_search 313 = .ok (.getfield 51, 3) := by decide +kernel
theorem dX11_search_316 : decode cX11_search 316 = .ok (.iload 5, 2) := by decide +kernel
theorem dX11_search_318 : decode cX11_search 318 = .ok (.iaload, 1) := by decide +kernel
theorem dX11_search_319 : decode cX11_search 319 = .ok (.iaload, 1) := by decide +kernel
theorem dX11_search_320 : decode cX11_search 320 = .ok (.iadd, 1) := by decide +kernel
theorem dX11_search_321 : decode cX11_search 321 = .ok (.if_icmp .ge 54, 3) := by decide +kernel
theorem dX11_search_324 : decode cX11_search 324 = .ok (.iload_n 3, 1) := by decide +kernel
theorem dX11_search_325 : decode cX11_search 325 = .ok (.aload_n 0, 1) := by decide +kernel
theorem dX11_search_326 : decode cX11_search 326 = .ok (.aload_n 0, 1) := by decide +kernel
theorem dX11_search_327 : decode cX11_search 327 = .ok (.getfield 27, 3) := by decide +kernel
theorem dX11_search_330 : decode cX11_search 330 = .ok (.iload 6, 2) := by decide +kernel
theorem dX11_search_332 : decode cX11_search 332 = .ok (.iaload, 1) := by decide +kernel
theorem dX11_search_333 : decode cX11_search 333 = .ok (.invokevirtual 178, 3) := by decide +kernel
theorem dX11_search_336 : decode cX11_search 336 = .ok (.invokestatic 143, 3) := by decide +kernel
theorem dX11_search_339 : decode cX11_search 339 = .ok (.istore 7, 2) := by decide +kernel
theorem dX11_search_341 : decode cX11_search 341 = .ok (.aload_n 0, 1) := by decide +kernel
theorem dX11_search_342 : decode cX11_search 342 = .ok (.iconst 2, 1) := by decide +kernel
theorem dX11_search_343 : decode cX11_search 343 = .ok (.bipush 10, 2) := by decide +kernel
theorem dX11_search_345 : decode cX11_search 345 = .ok (.bipush 50, 2) := by decide +kernel
theorem dX11_search_347 : decode cX11_search 347 = .ok (.iload_n 2, 1) := by decide +kernel
theorem dX11_search_348 : decode cX11_search 348 = .ok (.iconst 1, 1) := by decide +kernel
theorem dX11_search_349 : decode cX11_search 349 = .ok (.iload 5, 2) := by decide +kernel
theorem dX11_search_351 : decode cX11_search 351 = .ok (.ishl, 1) := by decide +kernel
theorem dX11_search_352 : decode cX11_search 352 = .ok (.ior, 1) := by decide +kernel
theorem dX11_search_353 : decode cX11_search 353 = .ok (.imul, 1) := by decide +kernel
theorem dX11_search_354 : decode cX11_search 354 = .ok (.iadd, 1) := by decide +kernel
theorem dX11_search_355 : decode cX11_search 355 = .ok (.iload 7, 2) := by decide +kernel
theorem dX11_search_357 : decode cX11_search 357 = .ok (.iadd, 1) := by decide +kernel
theorem dX11_search_358 : decode cX11_search 358 = .ok (.aload_n 0, 1) := by decide +kernel
theorem dX11_search_359 : decode cX11_search 359 = .ok (.getfield 30, 3) := by decide +kernel
theorem dX11_search_362 : decode cX11_search 362 = .ok (.iload 6, 2) := by decide +kernel
theorem dX11_search_364 : decode cX11_search 364 = .ok (.iaload, 1) := by decide +kernel
theorem dX11_search_365 : decode cX11_search 365 = .ok (.i2l, 1) := by decide +kernel
theorem dX11_search_366 : decode cX11_search 366 = .ok (.invokevirtual 87, 3) := by decide +kernel
theorem dX11_search_369 : decode cX11_search 369 = .ok (.iinc 6 1, 3) := by decide +kernel
theorem dX11_search_372 : decode cX11_search 372 = .ok (.goto (-76), 3) := by decide +kernel
theorem dX11_search_375 : decode cX11_search 375 = .ok (.aload_n 0, 1) := by decide +kernel
theorem dX11_search_376 : decode cX11_search 376 = .ok (.iconst 2, 1) := by decide +kernel
theorem dX11_search_377 : decode cX11_search 377 = .ok (.iload 4, 2) := by decide +kernel
theorem dX11_search_379 : decode cX11_search 379 = .ok (.invokevirtual 106, 3) := by decide +kernel
theorem dX11_search_382 : decode cX11_search 382 = .ok (.ifCond .le 10, 3) := by decide +kernel
theorem dX11_search_385 : decode cX11_search 385 = .ok (.aload_n 0, 1) := by decide +kernel
theorem dX11_search_386 : decode cX11_search 386 = .ok (.iload 4, 2) := by decide +kernel
theorem dX11_search_388 : decode cX11_search 388 = .ok (.iconst 2, 1) := by decide +kernel
theorem dX11_search_389 : decode cX11_search 389 = .ok (.invokevirtual 83, 3) := by decide +kernel
theorem dX11_search_392 : decode cX11_search 392 = .ok (.iinc 5 1, 3) := by decide +kernel
theorem dX11_search_395 : decode cX11_search 395 = .ok (.goto (-154), 3) := by decide +kernel
theorem dX11_search_398 : decode cX11_search 398 = .ok (.iinc 3 1, 3) := by decide +kernel
theorem dX11_search_401 : decode cX11_search 401 = .ok (.goto (-203), 3) := by decide +kernel
theorem dX11_search_404 : decode cX11_search 404 = .ok (.iinc 2 (-1), 3) := by decide +kernel
theorem dX11_search_407 : decode cX11_search 407 = .ok (.goto (-262), 3) := by decide +kernel
theorem dX11_search_410 : decode cX11_search 410 = .ok (.aload_n 0, 1) := by decide +kernel
theorem dX11_search_411 : decode cX11_search 411 = .ok (.sipush 3510, 3) := by decide +kernel
theorem dX11_search_414 : decode cX11_search 414 = .ok (.lconst 1, 1) := by decide +kernel
theorem dX11_search_415 : decode cX11_search 415 = .ok (.invokevirtual 60, 3) := by decide +kernel
theorem dX11_search_418 : decode cX11_search 418 = .ok (.iconst 0, 1) := by decide +kernel
theorem dX11_search_419 : decode cX11_search 419 = .ok (.istore_n 2, 1) := by decide +kernel
theorem dX11_search_420 : decode cX11_search 420 = .ok (.iload_n 2, 1) := by decide +kernel
theorem dX11_search_421 : decode cX11_search 421 = .ok (.aload_n 0, 1) := by decide +kernel
theorem dX11_search_422 : decode cX11_search 422 = .ok (.getfield 172, 3) := by decide +kernel
theorem dX11_search_425 : decode cX11_search 425 = .ok (.if_icmp .ge 28, 3) := by decide +kernel
theorem dX11_search_428 : decode cX11_search 428 = .ok (.aload_n 0, 1) := by decide +kernel
theorem dX11_search_429 : decode cX11_search 429 = .ok (.sipush 3510, 3) := by decide +kernel
theorem dX11_search_432 : decode cX11_search 432 = .ok (.aload_n 0, 1) := by decide +kernel
theorem dX11_search_433 : decode cX11_search 433 = .ok (.getfield 33, 3) := by decide +kernel
theorem dX11_search_436 : decode cX11_search 436 = .ok (.aload_n 0, 1) := by decide +kernel
theorem dX11_search_437 : decode cX11_search 437 = .ok (.getfield 51, 3) := by decide +kernel
theorem dX11_search_440 : decode cX11_search 440 = .ok (.iload_n 2, 1) := by decide +kernel
theorem dX11_search_441 : decode cX11_search 441 = .ok (.iaload, 1) := by decide +kernel
theorem dX11_search_442 : decode cX11_search 442 = .ok (.iaload, 1) := by decide +kernel
theorem dX11_search_443 : decode cX11_search 443 = .ok (.i2l, 1) := by decide +kernel
theorem dX11_search_444 : decode cX11_search 444 = .ok (.invokevirtual 93, 3) := by decide +kernel
theorem dX11_search_447 : decode cX11_search 447 = .ok (.iinc 2 1, 3) := by decide +kernel
theorem dX11_search_450 : decode cX11_search 450 = .ok (.goto (-30), 3) := by decide +kernel
theorem dX11_search_453 : decode cX11_search 453 = .ok (.aload_n 0, 1) := by decide +kernel
theorem dX11_search_454 : decode cX11_search 454 = .ok (.bipush 10, 2) := by decide +kernel
theorem dX11_search_456 : decode cX11_search 456 = .ok (.sipush 3510, 3) := by decide +kernel
theorem dX11_search_459 : decode cX11_search 459 = .ok (.invokevirtual 137, 3) := by decide +kernel
theorem dX11_search_462 : decode cX11_search 462 = .ok (.return_, 1) := by decide +kernel
set_option maxRecDepth 20000 in
theorem ggX11_sign_X11_isZero : GoodIn wsX11_sign wsX11_isZero := goodIn_r _ [6, 1, 7, 8, 9, 10, 11, 12, 13, 14, 15, 16, 17, 18, 19, 20, 21, 22, 23, 24, 25, 26, 27] (by decide +kernel) (by decide +kernel)
set_option maxRecDepth 20000 in
theorem gX11_sign_X11_isZero : GoodIn wsX11_sign (wsV RX11 96 RX11 yX11_isZero wsX11_isZero) := goodIn_app (goodIn_of _ (by decide +kernel)) ggX11_sign_X11_isZero
theorem dX11_sign_0 : decode cX11_sign 0 = .ok (.aload_n 0, 1) := by decide +kernel
theorem dX11_sign_1 : decode cX11_sign 1 = .ok (.iconst 0, 1) := by decide +kernel
theorem dX11_sign_2 : decode cX11_sign 2 = .ok (.invokevirtual 96, 3) := by decide +kernel
theorem dX11_sign_5 : decode cX11_sign 5 = .ok (.ifCond .eq 7, 3) := by decide +kernel
theorem dX11_sign_8 : decode cX11_sign 8 = .ok (.iconst 0, 1) := by decide +kernel
theorem dX11_sign_9 : decode cX11_sign 9 = .ok (.goto 20, 3) := by decide +kernel
theorem dX11_sign_12 : decode cX11_sign 12 = .ok (.aload_n 0, 1) := by decide +kernel
theorem dX11_sign_13 : decode cX11_sign 13 = .ok (.getfield 10, 3) := by decide +kernel
theorem dX11_sign_16 : decode cX11_sign 16 = .ok (.bipush 9, 2) := by decide +kernel
theorem dX11_sign_18 : decode cX11_sign 18 = .ok (.laload, 1) := by decide +kernel
theorem dX11_sign_19 : decode cX11_sign 19 = .ok (.lconst 0, 1) := by decide +kernel
theorem dX11_sign_20 : decode cX11_sign 20 = .ok (.lcmp, 1) := by decide +kernel
theorem dX11_sign_21 : decode cX11_sign 21 = .ok (.ifCond .ge 7, 3) := by decide +kernel
theorem dX11_sign_24 : decode cX11_sign 24 = .ok (.iconst (-1), 1) := by decide +kernel
theorem dX11_sign_25 : decode cX11_sign 25 = .ok (.goto 4, 3) := by decide +kernel
theorem dX11_sign_28 : decode cX11_sign 28 = .ok (.iconst 1, 1) := by decide +kernel
theorem dX11_sign_29 : decode cX11_sign 29 = .ok (.ireturn, 1) := by decide +kernel
theorem dX11_manyParts_0 : decode cX11_manyParts 0 = .ok (.bipush 9, 2) := by decide +kernel
theorem dX11_manyParts_2 : decode cX11_manyParts 2 = .ok (.istore_n 2, 1) := by decide +kernel
theorem dX11_manyParts_3 : decode cX11_manyParts 3 = .ok (.iload_n 2, 1) := by decide +kernel
theorem dX11_manyParts_4 : decode cX11_manyParts 4 = .ok (.ifCond .le 25, 3) := by decide +kernel
theorem dX11_manyParts_7 : decode cX11_manyParts 7 = .ok (.aload_n 0, 1) := by decide +kernel
theorem dX11_manyParts_8 : decode cX11_manyParts 8 = .ok (.getfield 10, 3) := by decide +kernel
theorem dX11_manyParts_11 : decode cX11_manyParts 11 = .ok (.bipush 10, 2) := by decide +kernel
theorem dX11_manyParts_13 : decode cX11_manyParts 13 = .ok (.iload_n 1, 1) := by decide +kernel
theorem dX11_manyParts_14 : decode cX11_manyParts 14 = .ok (.imul, 1) := by decide +kernel
theorem dX11_manyParts_15 : decode cX11_manyParts 15 = .ok (.iload_n 2, 1) := by decide +kernel
theorem dX11_manyParts_16 : decode cX11_manyParts 16 = .ok (.iadd, 1) := by decide +kernel
theorem dX11_manyParts_17 : decode cX11_manyParts 17 = .ok (.laload, 1) := by decide +kernel
theorem dX11_manyParts_18 : decode cX11_manyParts 18 = .ok (.lconst 0, 1) := by decide +kernel
theorem dX11_manyParts_19 : decode cX11_manyParts 19 = .ok (.lcmp, 1) := by decide +kernel
theorem dX11_manyParts_20 : decode cX11_manyParts 20 = .ok (.ifCond .ne 9, 3) := by decide +kernel
theorem dX11_manyParts_23 : decode cX11_manyParts 23 = .ok (.iinc 2 (-1), 3) := by decide +kernel
theorem dX11_manyParts_26 : decode cX11_manyParts 26 = .ok (.goto (-23), 3) := by decide +kernel
theorem dX11_manyParts_29 : decode cX11_manyParts 29 = .ok (.iload_n 2, 1) := by decide +kernel
theorem dX11_manyParts_30 : decode cX11_manyParts 30 = .ok (.iconst 1, 1) := by decide +kernel
theorem dX11_manyParts_31 : decode cX11_manyParts 31 = .ok (.iadd, 1) := by decide +kernel
theorem dX11_manyParts_32 : decode cX11_manyParts 32 = .ok (.ireturn, 1) := by decide +kernel
set_option maxRecDepth 20000 in
theorem ggX11_bare_X11_copy : GoodIn wsX11_bare wsX11_copy := goodIn_r _ [6, 7, 32, 33, 34, 35, 36, 37, 38, 39, 40, 41, 42, 43, 44, 45, 46, 47, 48, 49, 50, 51, 52] (by decide +kernel) (by decide +kernel)
set_option maxRecDepth 20000 in
theorem gX11_bare_X11_copy : GoodIn wsX11_bare (wsV RX11 83 RX11 yX11_copy wsX11_copy) := goodIn_app (goodIn_of _ (by decide +kernel)) ggX11_bare_X11_copy
set_option maxRecDepth 20000 in
theorem ggX11_bare_X11_sign : GoodIn wsX11_bare wsX11_sign := goodIn_r _ [11, 7, 12, 13, 14, 5, 15, 32, 33, 34, 35, 36, 37, 38, 39, 40, 41, 42, 43, 44, 45, 46, 47, 48, 49, 50, 51, 52] (by decide +kernel) (by decide +kernel)
set_option maxRecDepth 20000 in
theorem gX11_bare_X11_sign : GoodIn wsX11_bare (wsV RX11 182 RX11 yX11_sign wsX11_sign) := goodIn_app (goodIn_of _ (by decide +kernel)) ggX11_bare_X11_sign
set_option maxRecDepth 20000 in
theorem ggX11_bare_X11_times : GoodIn wsX11_bare wsX11_times := goodIn_r _ [19, 7, 20, 21, 22, 5, 23, 24, 25, 26, 27, 28, 29, 30, 31, 32, 33, 34, 35, 36, 37, 38, 39, 40, 41, 42, 43, 44, 45, 46, 47, 48, 49, 50, 51, 52] (by decide +kernel) (by decide +kernel)
set_option maxRecDepth 20000 in
theorem gX11_bare_X11_times : GoodIn wsX11_bare (wsV RX11 93 RX11 yX11_times wsX11_times) := goodIn_app (goodIn_of _ (by decide +kernel)) ggX11_bare_X11_times
theorem dX11_bare_0 : decode cX11_bare 0 = .ok (.aload_n 0, 1) := by decide +kernel
theorem dX11_bare_1 : decode cX11_bare 1 = .ok (.iconst 2, 1) := by decide +kernel
theorem dX11_bare_2 : decode cX11_bare 2 = .ok (.iconst 0, 1) := by decide +kernel
theorem dX11_bare_3 : decode cX11_bare 3 = .ok (.invokevirtual 83, 3) := by decide +kernel
theorem dX11_bare_6 : decode cX11_bare 6 = .ok (.aload_n 0, 1) := by decide +kernel
theorem dX11_bare_7 : decode cX11_bare 7 = .ok (.invokevirtual 182, 3) := by decide +kernel
theorem dX11_bare_10 : decode cX11_bare 10 = .ok (.ifCond .ge 11, 3) := by decide +kernel
theorem dX11_bare_13 : decode cX11_bare 13 = .ok (.aload_n 0, 1) := by decide +kernel
theorem dX11_bare_14 : decode cX11_bare 14 = .ok (.iconst 2, 1) := by decide +kernel
theorem dX11_bare_15 : decode cX11_bare 15 = .ok (.ldc2_w 91, 3) := by decide +kernel
theorem dX11_bare_18 : decode cX11_bare 18 = .ok (.invokevirtual 93, 3) := by decide +kernel
theorem dX11_bare_21 : decode cX11_bare 21 = .ok (.return_, 1) := by decide +kernel
set_option maxRecDepth 20000 in
theorem ggX11_look_X11_bare : GoodIn wsX11_look wsX11_bare := goodIn_r _ [5, 6, 7, 8, 9, 4, 10, 11, 12, 13, 14, 15, 16, 17, 18, 19, 20, 21, 22, 23, 24, 25, 26, 27, 28, 29, 30, 31, 32, 33, 34, 35, 40, 41, 42, 43, 44, 45, 46, 47, 48, 49, 50, 51, 52, 53, 54, 55, 56, 57, 58, 59, 60] (by decide +kernel) (by decide +kernel)
set_option maxRecDepth 20000 in
theorem gX11_look_X11_bare : GoodIn wsX11_look (wsV RX11 186 RX11 yX11_bare wsX11_bare) := goodIn_app (goodIn_of _ (by decide +kernel)) ggX11_look_X11_bare
set_option maxRecDepth 20000 in
theorem ggX11_look_X11_sign : GoodIn wsX11_look wsX11_sign := goodIn_r _ [15, 11, 16, 17, 18, 4, 19, 40, 41, 42, 43, 44, 45, 46, 47, 48, 49, 50, 51, 52, 53, 54, 55, 56, 57, 58, 59, 60] (by decide +kernel) (by decide +kernel)
set_option maxRecDepth 20000 in
theorem gX11_look_X11_sign : GoodIn wsX11_look (wsV RX11 182 RX11 yX11_sign wsX11_sign) := goodIn_app (goodIn_of _ (by decide +kernel)) ggX11_look_X11_sign
set_option maxRecDepth 20000 in
theorem ggX11_look_X11_manyParts : GoodIn wsX11_look wsX11_manyParts := goodIn_r _ [39, 11, 40, 41, 42, 43, 44, 45, 46, 47, 48, 49, 50, 51, 52, 53, 54, 55, 56, 57, 58, 59, 60] (by decide +kernel) (by decide +kernel)
set_option maxRecDepth 20000 in
theorem gX11_look_X11_manyParts : GoodIn wsX11_look (wsV RX11 189 RX11 yX11_manyParts wsX11_manyParts) := goodIn_app (goodIn_of _ (by decide +kernel)) ggX11_look_X11_manyParts
theorem dX11_look_0 : decode cX11_look 0 = .ok (.aload_n 0, 1) := by decide +kernel
theorem dX11_look_1 : decode cX11_look 1 = .ok (.invokevirtual 186, 3) := by decide +kernel
theorem dX11_look_4 : decode cX11_look 4 = .ok (.iload_n 1, 1) := by decide +kernel
theorem dX11_look_5 : decode cX11_look 5 = .ok (.ifCond .ne 10, 3) := by decide +kernel
theorem dX11_look_8 : decode cX11_look 8 = .ok (.aload_n 0, 1) := by decide +kernel
theorem dX11_look_9 : decode cX11_look 9 = .ok (.invokevirtual 182, 3) := by decide +kernel
theorem dX11_look_12 : decode cX11_look 12 = .ok (.goto 30, 3) := by decide +kernel
theorem dX11_look_15 : decode cX11_look 15 = .ok (.iload_n 1, 1) := by decide +kernel
theorem dX11_look_16 : decode cX11_look 16 = .ok (.iconst 1, 1) := by decide +kernel
theorem dX11_look_17 : decode cX11_look 17 = .ok (.if_icmp .ne 11, 3) := by decide +kernel
theorem dX11_look_20 : decode cX11_look 20 = .ok (.aload_n 0, 1) := by decide +kernel
theorem dX11_look_21 : decode cX11_look 21 = .ok (.iconst 2, 1) := by decide +kernel
theorem dX11_look_22 : decode cX11_look 22 = .ok (.invokevirtual 189, 3) := by decide +kernel
theorem dX11_look_25 : decode cX11_look 25 = .ok (.goto 17, 3) := by decide +kernel
theorem dX11_look_28 : decode cX11_look 28 = .ok (.iload_n 1, 1) := by decide +kernel
theorem dX11_look_29 : decode cX11_look 29 = .ok (.iconst 2, 1) := by decide +kernel
theorem dX11_look_30 : decode cX11_look 30 = .ok (.if_icmp .ne 11, 3) := by decide +kernel
theorem dX11_look_33 : decode cX11_look 33 = .ok (.aload_n 0, 1) := by decide +kernel
theorem dX11_look_34 : decode cX11_look 34 = .ok (.iconst 1, 1) := by decide +kernel
theorem dX11_look_35 : decode cX11_look 35 = .ok (.invokevirtual 189, 3) := by decide +kernel
theorem dX11_look_38 : decode cX11_look 38 = .ok (.goto 4, 3) := by decide +kernel
theorem dX11_look_41 : decode cX11_look 41 = .ok (.iconst (-1), 1) := by decide +kernel
theorem dX11_look_42 : decode cX11_look 42 = .ok (.ireturn, 1) := by decide +kernel
set_option maxRecDepth 20000 in
theorem ggX11_part_X11_bare : GoodIn wsX11_part wsX11_bare := goodIn_r _ [6, 7, 8, 9, 10, 5, 11, 1, 12, 13, 14, 15, 16, 17, 18, 19, 20, 21, 22, 23, 24, 25, 26, 27, 28, 29, 30, 31, 32, 33, 34, 35, 36, 37, 38, 39, 40, 41, 42, 43, 44, 45, 46, 47, 48, 49, 50, 51, 52, 53, 54, 55, 56] (by decide +kernel) (by decide +kernel)
set_option maxRecDepth 20000 in
theorem gX11_part_X11_bare : GoodIn wsX11_part (wsV RX11 186 RX11 yX11_bare wsX11_bare) := goodIn_app (goodIn_of _ (by decide +kernel)) ggX11_part_X11_bare
theorem dX11_part_0 : decode cX11_part 0 = .ok (.aload_n 0, 1) := by decide +kernel
theorem dX11_part_1 : decode cX11_part 1 = .ok (.invokevirtual 186, 3) := by decide +kernel
theorem dX11_part_4 : decode cX11_part 4 = .ok (.iload_n 2, 1) := by decide +kernel
theorem dX11_part_5 : decode cX11_part 5 = .ok (.ifCond .lt 9, 3) := by decide +kernel
theorem dX11_part_8 : decode cX11_part 8 = .ok (.iload_n 2, 1) := by decide +kernel
theorem dX11_part_9 : decode cX11_part 9 = .ok (.bipush 10, 2) := by decide +kernel
theorem dX11_part_11 : decode cX11_part 11 = .ok (.if_icmp .lt 7, 3) := by decide +kernel
theorem dX11_part_14 : decode cX11_part 14 = .ok (.iconst 0, 1) := by decide +kernel
theorem dX11_part_15 : decode cX11_part 15 = .ok (.goto 23, 3) := by decide +kernel
theorem dX11_part_18 : decode cX11_part 18 = .ok (.aload_n 0, 1) := by decide +kernel
theorem dX11_part_19 : decode cX11_part 19 = .ok (.getfield 10, 3) := by decide +kernel
theorem dX11_part_22 : decode cX11_part 22 = .ok (.bipush 10, 2) := by decide +kernel
theorem dX11_part_24 : decode cX11_part 24 = .ok (.iload_n 1, 1) := by decide +kernel
theorem dX11_part_25 : decode cX11_part 25 = .ok (.ifCond .eq 7, 3) := by decide +kernel
theorem dX11_part_28 : decode cX11_part 28 = .ok (.iconst 1, 1) := by decide +kernel
theorem dX11_part_29 : decode cX11_part 29 = .ok (.goto 4, 3) := by decide +kernel
theorem dX11_part_32 : decode cX11_part 32 = .ok (.iconst 2, 1) := by decide +kernel
theorem dX11_part_33 : decode cX11_part 33 = .ok (.imul, 1) := by decide +kernel
theorem dX11_part_34 : decode cX11_part 34 = .ok (.iload_n 2, 1) := by decide +kernel
theorem dX11_part_35 : decode cX11_part 35 = .ok (.iadd, 1) := by decide +kernel
theorem dX11_part_36 : decode cX11_part 36 = .ok (.laload, 1) := by decide +kernel
theorem dX11_part_37 : decode cX11_part 37 = .ok (.l2i, 1) := by decide +kernel
theorem dX11_part_38 : decode cX11_part 38 = .ok (.ireturn, 1) := by decide +kernel
set_option maxRecDepth 20000 in
theorem ggX11_compare_X11_copy : GoodIn wsX11_compare wsX11_copy := goodIn_r _ [5, 6, 27, 28, 29, 30, 31, 32, 33, 34, 35, 36, 37, 38, 39, 40, 41, 42, 43, 44, 45, 46, 47] (by decide +kernel) (by decide +kernel)
set_option maxRecDepth 20000 in
theorem gX11_compare_X11_copy : GoodIn wsX11_compare (wsV RX11 83 RX11 yX11_copy wsX11_copy) := goodIn_app (goodIn_of _ (by decide +kernel)) ggX11_compare_X11_copy
set_option maxRecDepth 20000 in
theorem ggX11_compare_X11_times : GoodIn wsX11_compare wsX11_times := goodIn_r _ [10, 6, 11, 12, 13, 4, 14, 15, 16, 17, 18, 19, 20, 21, 22, 27, 28, 29, 30, 31, 32, 33, 34, 35, 36, 37, 38, 39, 40, 41, 42, 43, 44, 45, 46, 47] (by decide +kernel) (by decide +kernel)
set_option maxRecDepth 20000 in
theorem gX11_compare_X11_times : GoodIn wsX11_compare (wsV RX11 93 RX11 yX11_times wsX11_times) := goodIn_app (goodIn_of _ (by decide +kernel)) ggX11_compare_X11_times
set_option maxRecDepth 20000 in
theorem ggX11_compare_X11_compared : GoodIn wsX11_compare wsX11_compared := goodIn_r _ [26, 6, 27, 28, 29, 30, 31, 32, 33, 34, 35, 36, 37, 38, 39, 40, 41, 42, 43, 44, 45, 46, 47] (by decide +kernel) (by decide +kernel)
set_option maxRecDepth 20000 in
theorem gX11_compare_X11_compared : GoodIn wsX11_compare (wsV RX11 106 RX11 yX11_compared wsX11_compared) := goodIn_app (goodIn_of _ (by decide +kernel)) ggX11_compare_X11_compared
theorem dX11_compare_0 : decode cX11_compare 0 = .ok (.iload_n 2, 1) := by decide +kernel
theorem dX11_compare_1 : decode cX11_compare 1 = .ok (.iconst 1, 1) := by decide +kernel
theorem dX11_compare_2 : decode cX11_compare 2 = .ok (.if_icmp .ge 6, 3) := by decide +kernel
theorem dX11_compare_5 : decode cX11_compare 5 = .ok (.bipush (-2), 2) := by decide +kernel
theorem dX11_compare_7 : decode cX11_compare 7 = .ok (.ireturn, 1) := by decide +kernel
theorem dX11_compare_8 : decode cX11_compare 8 = .ok (.aload_n 0, 1) := by decide +kernel
theorem dX11_compare_9 : decode cX11_compare 9 = .ok (.iconst 2, 1) := by decide +kernel
theorem dX11_compare_10 : decode cX11_compare 10 = .ok (.iconst 0, 1) := by decide +kernel
theorem dX11_compare_11 : decode cX11_compare 11 = .ok (.invokevirtual 83, 3) := by decide +kernel
theorem dX11_compare_14 : decode cX11_compare 14 = .ok (.aload_n 0, 1) := by decide +kernel
theorem dX11_compare_15 : decode cX11_compare 15 = .ok (.iconst 2, 1) := by decide +kernel
theorem dX11_compare_16 : decode cX11_compare 16 = .ok (.iload_n 2, 1) := by decide +kernel
theorem dX11_compare_17 : decode cX11_compare 17 = .ok (.i2l, 1) := by decide +kernel
theorem dX11_compare_18 : decode cX11_compare 18 = .ok (.invokevirtual 93, 3) := by decide +kernel
theorem dX11_compare_21 : decode cX11_compare 21 = .ok (.aload_n 0, 1) := by decide +kernel
theorem dX11_compare_22 : decode cX11_compare 22 = .ok (.iconst 3, 1) := by decide +kernel
theorem dX11_compare_23 : decode cX11_compare 23 = .ok (.iconst 1, 1) := by decide +kernel
theorem dX11_compare_24 : decode cX11_compare 24 = .ok (.invokevirtual 83, 3) := by decide +kernel
theorem dX11_compare_27 : decode cX11_compare 27 = .ok (.aload_n 0, 1) := by decide +kernel
theorem dX11_compare_28 : decode cX11_compare 28 = .ok (.iconst 3, 1) := by decide +kernel
theorem dX11_compare_29 : decode cX11_compare 29 = .ok (.iload_n 1, 1) := by decide +kernel
theorem dX11_compare_30 : decode cX11_compare 30 = .ok (.i2l, 1) := by decide +kernel
theorem dX11_compare_31 : decode cX11_compare 31 = .ok (.invokevirtual 93, 3) := by decide +kernel
theorem dX11_compare_34 : decode cX11_compare 34 = .ok (.aload_n 0, 1) := by decide +kernel
theorem dX11_compare_35 : decode cX11_compare 35 = .ok (.iconst 2, 1) := by decide +kernel
theorem dX11_compare_36 : decode cX11_compare 36 = .ok (.iconst 3, 1) := by decide +kernel
theorem dX11_compare_37 : decode cX11_compare 37 = .ok (.invokevirtual 106, 3) := by decide +kernel
theorem dX11_compare_40 : decode cX11_compare 40 = .ok (.ireturn, 1) := by decide +kernel
theorem dX11_count_0 : decode cX11_count 0 = .ok (.iload_n 1, 1) := by decide +kernel
theorem dX11_count_1 : decode cX11_count 1 = .ok (.tableswitch 90 0 4 #[35, 40, 45, 50, 55], 35) := by decide +kernel
theorem dX11_count_36 : decode cX11_count 36 = .ok (.aload_n 0, 1) := by decide +kernel
theorem dX11_count_37 : decode cX11_count 37 = .ok (.getfield 116, 3) := by decide +kernel
theorem dX11_count_40 : decode cX11_count 40 = .ok (.ireturn, 1) := by decide +kernel
theorem dX11_count_41 : decode cX11_count 41 = .ok (.aload_n 0, 1) := by decide +kernel
theorem dX11_count_42 : decode cX11_count 42 = .ok (.getfield 127, 3) := by decide +kernel
theorem dX11_count_45 : decode cX11_count 45 = .ok (.ireturn, 1) := by decide +kernel
theorem dX11_count_46 : decode cX11_count 46 = .ok (.aload_n 0, 1) := by decide +kernel
theorem dX11_count_47 : decode cX11_count 47 = .ok (.getfield 169, 3) := by decide +kernel
theorem dX11_count_50 : decode cX11_count 50 = .ok (.ireturn, 1) := by decide +kernel
theorem dX11_count_51 : decode cX11_count 51 = .ok (.aload_n 0, 1) := by decide +kernel
theorem dX11_count_52 : decode cX11_count 52 = .ok (.getfield 172, 3) := by decide +kernel
theorem dX11_count_55 : decode cX11_count 55 = .ok (.ireturn, 1) := by decide +kernel
theorem dX11_count_56 : decode cX11_count 56 = .ok (.iconst 0, 1) := by decide +kernel
theorem dX11_count_57 : decode cX11_count 57 = .ok (.istore_n 2, 1) := by decide +kernel
theorem dX11_count_58 : decode cX11_count 58 = .ok (.iconst 0, 1) := by decide +kernel
theorem dX11_count_59 : decode cX11_count 59 = .ok (.istore_n 3, 1) := by decide +kernel
theorem dX11_count_60 : decode cX11_count 60 = .ok (.iload_n 3, 1) := by decide +kernel
theorem dX11_count_61 : decode cX11_count 61 = .ok (.bipush 10, 2) := by decide +kernel
theorem dX11_count_63 : decode cX11_count 63 = .ok (.if_icmp .ge 26, 3) := by decide +kernel
theorem dX11_count_66 : decode cX11_count 66 = .ok (.iload_n 2, 1) := by decide +kernel
theorem dX11_count_67 : decode cX11_count 67 = .ok (.aload_n 0, 1) := by decide +kernel
theorem dX11_count_68 : decode cX11_count 68 = .ok (.getfield 14, 3) := by decide +kernel
theorem dX11_count_71 : decode cX11_count 71 = .ok (.iload_n 3, 1) := by decide +kernel
theorem dX11_count_72 : decode cX11_count 72 = .ok (.iaload, 1) := by decide +kernel
theorem dX11_count_73 : decode cX11_count 73 = .ok (.ifCond .ne 7, 3) := by decide +kernel
theorem dX11_count_76 : decode cX11_count 76 = .ok (.iconst 0, 1) := by decide +kernel
theorem dX11_count_77 : decode cX11_count 77 = .ok (.goto 4, 3) := by decide +kernel
theorem dX11_count_80 : decode cX11_count 80 = .ok (.iconst 1, 1) := by decide +kernel
theorem dX11_count_81 : decode cX11_count 81 = .ok (.iadd, 1) := by decide +kernel
theorem dX11_count_82 : decode cX11_count 82 = .ok (.istore_n 2, 1) := by decide +kernel
theorem dX11_count_83 : decode cX11_count 83 = .ok (.iinc 3 1, 3) := by decide +kernel
theorem dX11_count_86 : decode cX11_count 86 = .ok (.goto (-26), 3) := by decide +kernel
theorem dX11_count_89 : decode cX11_count 89 = .ok (.iload_n 2, 1) := by decide +kernel
theorem dX11_count_90 : decode cX11_count 90 = .ok (.ireturn, 1) := by decide +kernel
theorem dX11_count_91 : decode cX11_count 91 = .ok (.iconst (-1), 1) := by decide +kernel
theorem dX11_count_92 : decode cX11_count 92 = .ok (.ireturn, 1) := by decide +kernel
end
section
theorem dJ6_compare_7cf53_0 : decode cJ6_compare_7cf53 0 = .ok (.iload_n 0, 1) := by decide +kernel
theorem dJ6_compare_7cf53_1 : decode cJ6_compare_7cf53 1 = .ok (.iload_n 1, 1) := by decide +kernel
theorem dJ6_compare_7cf53_2 : decode cJ6_compare_7cf53 2 = .ok (.if_icmp .ge 7, 3) := by decide +kernel
theorem dJ6_compare_7cf53_5 : decode cJ6_compare_7cf53 5 = .ok (.iconst (-1), 1) := by decide +kernel
theorem dJ6_compare_7cf53_6 : decode cJ6_compare_7cf53 6 = .ok (.goto 13, 3) := by decide +kernel
theorem dJ6_compare_7cf53_9 : decode cJ6_compare_7cf53 9 = .ok (.iload_n 0, 1) := by decide +kernel
theorem dJ6_compare_7cf53_10 : decode cJ6_compare_7cf53 10 = .ok (.iload_n 1, 1) := by decide +kernel
theorem dJ6_compare_7cf53_11 : decode cJ6_compare_7cf53 11 = .ok (.if_icmp .ne 7, 3) := by decide +kernel
theorem dJ6_compare_7cf53_14 : decode cJ6_compare_7cf53 14 = .ok (.iconst 0, 1) := by decide +kernel
theorem dJ6_compare_7cf53_15 : decode cJ6_compare_7cf53 15 = .ok (.goto 4, 3) := by decide +kernel
theorem dJ6_compare_7cf53_18 : decode cJ6_compare_7cf53 18 = .ok (.iconst 1, 1) := by decide +kernel
theorem dJ6_compare_7cf53_19 : decode cJ6_compare_7cf53 19 = .ok (.ireturn, 1) := by decide +kernel
end
section
theorem dJ9_floorDiv_f86c9_0 : decode cJ9_floorDiv_f86c9 0 = .ok (.lload_n 0, 1) := by decide +kernel
theorem dJ9_floorDiv_f86c9_1 : decode cJ9_floorDiv_f86c9 1 = .ok (.lload_n 2, 1) := by decide +kernel
theorem dJ9_floorDiv_f86c9_2 : decode cJ9_floorDiv_f86c9 2 = .ok (.ldiv, 1) := by decide +kernel
theorem dJ9_floorDiv_f86c9_3 : decode cJ9_floorDiv_f86c9 3 = .ok (.lstore 4, 2) := by decide +kernel
theorem dJ9_floorDiv_f86c9_5 : decode cJ9_floorDiv_f86c9 5 = .ok (.lload_n 0, 1) := by decide +kernel
theorem dJ9_floorDiv_f86c9_6 : decode cJ9_floorDiv_f86c9 6 = .ok (.lload_n 2, 1) := by decide +kernel
theorem dJ9_floorDiv_f86c9_7 : decode cJ9_floorDiv_f86c9 7 = .ok (.lxor, 1) := by decide +kernel
theorem dJ9_floorDiv_f86c9_8 : decode cJ9_floorDiv_f86c9 8 = .ok (.lconst 0, 1) := by decide +kernel
theorem dJ9_floorDiv_f86c9_9 : decode cJ9_floorDiv_f86c9 9 = .ok (.lcmp, 1) := by decide +kernel
theorem dJ9_floorDiv_f86c9_10 : decode cJ9_floorDiv_f86c9 10 = .ok (.ifCond .ge 17, 3) := by decide +kernel
theorem dJ9_floorDiv_f86c9_13 : decode cJ9_floorDiv_f86c9 13 = .ok (.lload 4, 2) := by decide +kernel
theorem dJ9_floorDiv_f86c9_15 : decode cJ9_floorDiv_f86c9 15 = .ok (.lload_n 2, 1) := by decide +kernel
theorem dJ9_floorDiv_f86c9_16 : decode cJ9_floorDiv_f86c9 16 = .ok (.lmul, 1) := by decide +kernel
theorem dJ9_floorDiv_f86c9_17 : decode cJ9_floorDiv_f86c9 17 = .ok (.lload_n 0, 1) := by decide +kernel
theorem dJ9_floorDiv_f86c9_18 : decode cJ9_floorDiv_f86c9 18 = .ok (.lcmp, 1) := by decide +kernel
theorem dJ9_floorDiv_f86c9_19 : decode cJ9_floorDiv_f86c9 19 = .ok (.ifCond .eq 8, 3) := by decide +kernel
theorem dJ9_floorDiv_f86c9_22 : decode cJ9_floorDiv_f86c9 22 = .ok (.lload 4, 2) := by decide +kernel
theorem dJ9_floorDiv_f86c9_24 : decode cJ9_floorDiv_f86c9 24 = .ok (.lconst 1, 1) := by decide +kernel
theorem dJ9_floorDiv_f86c9_25 : decode cJ9_floorDiv_f86c9 25 = .ok (.lsub, 1) := by decide +kernel
theorem dJ9_floorDiv_f86c9_26 : decode cJ9_floorDiv_f86c9 26 = .ok (.lreturn, 1) := by decide +kernel
theorem dJ9_floorDiv_f86c9_27 : decode cJ9_floorDiv_f86c9 27 = .ok (.lload 4, 2) := by decide +kernel
theorem dJ9_floorDiv_f86c9_29 : decode cJ9_floorDiv_f86c9 29 = .ok (.lreturn, 1) := by decide +kernel
theorem dJ9_floorMod_f86c9_0 : decode cJ9_floorMod_f86c9 0 = .ok (.lload_n 0, 1) := by decide +kernel
theorem dJ9_floorMod_f86c9_1 : decode cJ9_floorMod_f86c9 1 = .ok (.lload_n 2, 1) := by decide +kernel
theorem dJ9_floorMod_f86c9_2 : decode cJ9_floorMod_f86c9 2 = .ok (.lrem, 1) := by decide +kernel
theorem dJ9_floorMod_f86c9_3 : decode cJ9_floorMod_f86c9 3 = .ok (.lstore 4, 2) := by decide +kernel
theorem dJ9_floorMod_f86c9_5 : decode cJ9_floorMod_f86c9 5 = .ok (.lload_n 0, 1) := by decide +kernel
theorem dJ9_floorMod_f86c9_6 : decode cJ9_floorMod_f86c9 6 = .ok (.lload_n 2, 1) := by decide +kernel
theorem dJ9_floorMod_f86c9_7 : decode cJ9_floorMod_f86c9 7 = .ok (.lxor, 1) := by decide +kernel
theorem dJ9_floorMod_f86c9_8 : decode cJ9_floorMod_f86c9 8 = .ok (.lconst 0, 1) := by decide +kernel
theorem dJ9_floorMod_f86c9_9 : decode cJ9_floorMod_f86c9 9 = .ok (.lcmp, 1) := by decide +kernel
theorem dJ9_floorMod_f86c9_10 : decode cJ9_floorMod_f86c9 10 = .ok (.ifCond .ge 15, 3) := by decide +kernel
theorem dJ9_floorMod_f86c9_13 : decode cJ9_floorMod_f86c9 13 = .ok (.lload 4, 2) := by decide +kernel
theorem dJ9_floorMod_f86c9_15 : decode cJ9_floorMod_f86c9 15 = .ok (.lconst 0, 1) := by decide +kernel
theorem dJ9_floorMod_f86c9_16 : decode cJ9_floorMod_f86c9 16 = .ok (.lcmp, 1) := by decide +kernel
theorem dJ9_floorMod_f86c9_17 : decode cJ9_floorMod_f86c9 17 = .ok (.ifCond .eq 8, 3) := by decide +kernel
theorem dJ9_floorMod_f86c9_20 : decode cJ9_floorMod_f86c9 20 = .ok (.lload 4, 2) := by decide +kernel
theorem dJ9_floorMod_f86c9_22 : decode cJ9_floorMod_f86c9 22 = .ok (.lload_n 2, 1) := by decide +kernel
theorem dJ9_floorMod_f86c9_23 : decode cJ9_floorMod_f86c9 23 = .ok (.ladd, 1) := by decide +kernel
theorem dJ9_floorMod_f86c9_24 : decode cJ9_floorMod_f86c9 24 = .ok (.lreturn, 1) := by decide +kernel
theorem dJ9_floorMod_f86c9_25 : decode cJ9_floorMod_f86c9 25 = .ok (.lload 4, 2) := by decide +kernel
theorem dJ9_floorMod_f86c9_27 : decode cJ9_floorMod_f86c9 27 = .ok (.lreturn, 1) := by decide +kernel
theorem dJ9_abs_067f4_0 : decode cJ9_abs_067f4 0 = .ok (.lload_n 0, 1) := by decide +kernel
theorem dJ9_abs_067f4_1 : decode cJ9_abs_067f4 1 = .ok (.lconst 0, 1) := by decide +kernel
theorem dJ9_abs_067f4_2 : decode cJ9_abs_067f4 2 = .ok (.lcmp, 1) := by decide +kernel
theorem dJ9_abs_067f4_3 : decode cJ9_abs_067f4 3 = .ok (.ifCond .ge 8, 3) := by decide +kernel
theorem dJ9_abs_067f4_6 : decode cJ9_abs_067f4 6 = .ok (.lload_n 0, 1) := by decide +kernel
theorem dJ9_abs_067f4_7 : decode cJ9_abs_067f4 7 = .ok (.lneg, 1) := by decide +kernel
theorem dJ9_abs_067f4_8 : decode cJ9_abs_067f4 8 = .ok (.goto 4, 3) := by decide +kernel
theorem dJ9_abs_067f4_11 : decode cJ9_abs_067f4 11 = .ok (.lload_n 0, 1) := by decide +kernel
theorem dJ9_abs_067f4_12 : decode cJ9_abs_067f4 12 = .ok (.lreturn, 1) := by decide +kernel
theorem dJ9_max_7cf53_0 : decode cJ9_max_7cf53 0 = .ok (.iload_n 0, 1) := by decide +kernel
theorem dJ9_max_7cf53_1 : decode cJ9_max_7cf53 1 = .ok (.iload_n 1, 1) := by decide +kernel
theorem dJ9_max_7cf53_2 : decode cJ9_max_7cf53 2 = .ok (.if_icmp .lt 7, 3) := by decide +kernel
theorem dJ9_max_7cf53_5 : decode cJ9_max_7cf53 5 = .ok (.iload_n 0, 1) := by decide +kernel
theorem dJ9_max_7cf53_6 : decode cJ9_max_7cf53 6 = .ok (.goto 4, 3) := by decide +kernel
theorem dJ9_max_7cf53_9 : decode cJ9_max_7cf53 9 = .ok (.iload_n 1, 1) := by decide +kernel
theorem dJ9_max_7cf53_10 : decode cJ9_max_7cf53 10 = .ok (.ireturn, 1) := by decide +kernel
theorem dJ9_max_f86c9_0 : decode cJ9_max_f86c9 0 = .ok (.lload_n 0, 1) := by decide +kernel
theorem dJ9_max_f86c9_1 : decode cJ9_max_f86c9 1 = .ok (.lload_n 2, 1) := by decide +kernel
theorem dJ9_max_f86c9_2 : decode cJ9_max_f86c9 2 = .ok (.lcmp, 1) := by decide +kernel
theorem dJ9_max_f86c9_3 : decode cJ9_max_f86c9 3 = .ok (.ifCond .lt 7, 3) := by decide +kernel
theorem dJ9_max_f86c9_6 : decode cJ9_max_f86c9 6 = .ok (.lload_n 0, 1) := by decide +kernel
theorem dJ9_max_f86c9_7 : decode cJ9_max_f86c9 7 = .ok (.goto 4, 3) := by decide +kernel
theorem dJ9_max_f86c9_10 : decode cJ9_max_f86c9 10 = .ok (.lload_n 2, 1) := by decide +kernel
theorem dJ9_max_f86c9_11 : decode cJ9_max_f86c9 11 = .ok (.lreturn, 1) := by decide +kernel
theorem dJ9_min_7cf53_0 : decode cJ9_min_7cf53 0 = .ok (.iload_n 0, 1) := by decide +kernel
theorem dJ9_min_7cf53_1 : decode cJ9_min_7cf53 1 = .ok (.iload_n 1, 1) := by decide +kernel
theorem dJ9_min_7cf53_2 : decode cJ9_min_7cf53 2 = .ok (.if_icmp .gt 7, 3) := by decide +kernel
theorem dJ9_min_7cf53_5 : decode cJ9_min_7cf53 5 = .ok (.iload_n 0, 1) := by decide +kernel
theorem dJ9_min_7cf53_6 : decode cJ9_min_7cf53 6 = .ok (.goto 4, 3) := by decide +kernel
theorem dJ9_min_7cf53_9 : decode cJ9_min_7cf53 9 = .ok (.iload_n 1, 1) := by decide +kernel
theorem dJ9_min_7cf53_10 : decode cJ9_min_7cf53 10 = .ok (.ireturn, 1) := by decide +kernel
end
section
theorem dJ7_fill_d0a16_0 : decode cJ7_fill_d0a16 0 = .ok (.iconst 0, 1) := by decide +kernel
theorem dJ7_fill_d0a16_1 : decode cJ7_fill_d0a16 1 = .ok (.istore_n 3, 1) := by decide +kernel
theorem dJ7_fill_d0a16_2 : decode cJ7_fill_d0a16 2 = .ok (.aload_n 0, 1) := by decide +kernel
theorem dJ7_fill_d0a16_3 : decode cJ7_fill_d0a16 3 = .ok (.arraylength, 1) := by decide +kernel
theorem dJ7_fill_d0a16_4 : decode cJ7_fill_d0a16 4 = .ok (.istore 4, 2) := by decide +kernel
theorem dJ7_fill_d0a16_6 : decode cJ7_fill_d0a16 6 = .ok (.iload_n 3, 1) := by decide +kernel
theorem dJ7_fill_d0a16_7 : decode cJ7_fill_d0a16 7 = .ok (.iload 4, 2) := by decide +kernel
theorem dJ7_fill_d0a16_9 : decode cJ7_fill_d0a16 9 = .ok (.if_icmp .ge 13, 3) := by decide +kernel
theorem dJ7_fill_d0a16_12 : decode cJ7_fill_d0a16 12 = .ok (.aload_n 0, 1) := by decide +kernel
theorem dJ7_fill_d0a16_13 : decode cJ7_fill_d0a16 13 = .ok (.iload_n 3, 1) := by decide +kernel
theorem dJ7_fill_d0a16_14 : decode cJ7_fill_d0a16 14 = .ok (.lload_n 1, 1) := by decide +kernel
theorem dJ7_fill_d0a16_15 : decode cJ7_fill_d0a16 15 = .ok (.lastore, 1) := by decide +kernel
theorem dJ7_fill_d0a16_16 : decode cJ7_fill_d0a16 16 = .ok (.iinc 3 1, 3) := by decide +kernel
theorem dJ7_fill_d0a16_19 : decode cJ7_fill_d0a16 19 = .ok (.goto (-13), 3) := by decide +kernel
theorem dJ7_fill_d0a16_22 : decode cJ7_fill_d0a16 22 = .ok (.return_, 1) := by decide +kernel
theorem dJ7_fill_53178_0 : decode cJ7_fill_53178 0 = .ok (.iconst 0, 1) := by decide +kernel
theorem dJ7_fill_53178_1 : decode cJ7_fill_53178 1 = .ok (.istore_n 2, 1) := by decide +kernel
theorem dJ7_fill_53178_2 : decode cJ7_fill_53178 2 = .ok (.aload_n 0, 1) := by decide +kernel
theorem dJ7_fill_53178_3 : decode cJ7_fill_53178 3 = .ok (.arraylength, 1) := by decide +kernel
theorem dJ7_fill_53178_4 : decode cJ7_fill_53178 4 = .ok (.istore_n 3, 1) := by decide +kernel
theorem dJ7_fill_53178_5 : decode cJ7_fill_53178 5 = .ok (.iload_n 2, 1) := by decide +kernel
theorem dJ7_fill_53178_6 : decode cJ7_fill_53178 6 = .ok (.iload_n 3, 1) := by decide +kernel
theorem dJ7_fill_53178_7 : decode cJ7_fill_53178 7 = .ok (.if_icmp .ge 13, 3) := by decide +kernel
theorem dJ7_fill_53178_10 : decode cJ7_fill_53178 10 = .ok (.aload_n 0, 1) := by decide +kernel
theorem dJ7_fill_53178_11 : decode cJ7_fill_53178 11 = .ok (.iload_n 2, 1) := by decide +kernel
theorem dJ7_fill_53178_12 : decode cJ7_fill_53178 12 = .ok (.iload_n 1, 1) := by decide +kernel
theorem dJ7_fill_53178_13 : decode cJ7_fill_53178 13 = .ok (.iastore, 1) := by decide +kernel
theorem dJ7_fill_53178_14 : decode cJ7_fill_53178 14 = .ok (.iinc 2 1, 3) := by decide +kernel
theorem dJ7_fill_53178_17 : decode cJ7_fill_53178 17 = .ok (.goto (-12), 3) := by decide +kernel
theorem dJ7_fill_53178_20 : decode cJ7_fill_53178 20 = .ok (.return_, 1) := by decide +kernel
end
