section
-- ===== PART A: goes FIRST, ahead of the names: the tables' words, and 'selects' of the private methods out of them =====
/-- a private method of a class that the tables say can be made, by its rows of tables_1 -/
def lw_okq (q : MethodName × Nat) : Prop := (q.1.cls ≠ "java/lang/invoke/MethodHandle" ∧ q.1.cls ≠ "java/lang/invoke/VarHandle") ∧ Cond.instantiable q.1.cls q.2 ∈ tables_1 ∧ Cond.privateMethod q.1 ∈ tables_1 ∧ Cond.instanceMethod q.1 ∈ tables_1
theorem lw_p0 : lw_okq (⟨"RealHouse", "feedFour", "(I)V"⟩, 21) := ⟨⟨by decide +kernel, by decide +kernel⟩, List.mem_of_getElem? (i := 19) (by decide +kernel), List.mem_of_getElem? (i := 685) (by decide +kernel), List.mem_of_getElem? (i := 686) (by decide +kernel)⟩
theorem lw_p1 : lw_okq (⟨"RealHouse", "isNoLength", "(I)Z"⟩, 21) := ⟨⟨by decide +kernel, by decide +kernel⟩, List.mem_of_getElem? (i := 19) (by decide +kernel), List.mem_of_getElem? (i := 697) (by decide +kernel), List.mem_of_getElem? (i := 698) (by decide +kernel)⟩
theorem lw_p2 : lw_okq (⟨"RealHouse$Reader", "readPoly", "(LRealHouse$Curve;)V"⟩, 19) := ⟨⟨by decide +kernel, by decide +kernel⟩, List.mem_of_getElem? (i := 178) (by decide +kernel), List.mem_of_getElem? (i := 712) (by decide +kernel), List.mem_of_getElem? (i := 713) (by decide +kernel)⟩
theorem lw_p3 : lw_okq (⟨"RealHouse$Reader", "next", "()I"⟩, 19) := ⟨⟨by decide +kernel, by decide +kernel⟩, List.mem_of_getElem? (i := 178) (by decide +kernel), List.mem_of_getElem? (i := 720) (by decide +kernel), List.mem_of_getElem? (i := 721) (by decide +kernel)⟩
theorem lw_p4 : lw_okq (⟨"RealHouse$Reader", "readTerm", "(LRealHouse$Curve;I)V"⟩, 19) := ⟨⟨by decide +kernel, by decide +kernel⟩, List.mem_of_getElem? (i := 178) (by decide +kernel), List.mem_of_getElem? (i := 724) (by decide +kernel), List.mem_of_getElem? (i := 725) (by decide +kernel)⟩
theorem lw_p5 : lw_okq (⟨"RealHouse$Reader", "fail", "()V"⟩, 19) := ⟨⟨by decide +kernel, by decide +kernel⟩, List.mem_of_getElem? (i := 178) (by decide +kernel), List.mem_of_getElem? (i := 730) (by decide +kernel), List.mem_of_getElem? (i := 731) (by decide +kernel)⟩
theorem lw_p6 : lw_okq (⟨"RealHouse$Poly", "widen", "(I)V"⟩, 3) := ⟨⟨by decide +kernel, by decide +kernel⟩, List.mem_of_getElem? (i := 190) (by decide +kernel), List.mem_of_getElem? (i := 739) (by decide +kernel), List.mem_of_getElem? (i := 740) (by decide +kernel)⟩
theorem lw_p7 : lw_okq (⟨"RealHouse$Poly", "trim", "()V"⟩, 3) := ⟨⟨by decide +kernel, by decide +kernel⟩, List.mem_of_getElem? (i := 190) (by decide +kernel), List.mem_of_getElem? (i := 760) (by decide +kernel), List.mem_of_getElem? (i := 761) (by decide +kernel)⟩
theorem lw_p8 : lw_okq (⟨"RealHouse$Reader", "expectEnd", "()V"⟩, 19) := ⟨⟨by decide +kernel, by decide +kernel⟩, List.mem_of_getElem? (i := 178) (by decide +kernel), List.mem_of_getElem? (i := 764) (by decide +kernel), List.mem_of_getElem? (i := 765) (by decide +kernel)⟩
theorem lw_p9 : lw_okq (⟨"RealHouse", "faulty", "()I"⟩, 21) := ⟨⟨by decide +kernel, by decide +kernel⟩, List.mem_of_getElem? (i := 19) (by decide +kernel), List.mem_of_getElem? (i := 768) (by decide +kernel), List.mem_of_getElem? (i := 769) (by decide +kernel)⟩
theorem lw_p10 : lw_okq (⟨"RealHouse", "isUntold", "(I)Z"⟩, 21) := ⟨⟨by decide +kernel, by decide +kernel⟩, List.mem_of_getElem? (i := 19) (by decide +kernel), List.mem_of_getElem? (i := 772) (by decide +kernel), List.mem_of_getElem? (i := 773) (by decide +kernel)⟩
theorem lw_p11 : lw_okq (⟨"RealHouse", "tellPlain", "(I)V"⟩, 21) := ⟨⟨by decide +kernel, by decide +kernel⟩, List.mem_of_getElem? (i := 19) (by decide +kernel), List.mem_of_getElem? (i := 868) (by decide +kernel), List.mem_of_getElem? (i := 869) (by decide +kernel)⟩
theorem lw_p12 : lw_okq (⟨"RealHouse", "putCurve", "(LRealHouse$Curve;)V"⟩, 21) := ⟨⟨by decide +kernel, by decide +kernel⟩, List.mem_of_getElem? (i := 19) (by decide +kernel), List.mem_of_getElem? (i := 915) (by decide +kernel), List.mem_of_getElem? (i := 916) (by decide +kernel)⟩
theorem lw_p13 : lw_okq (⟨"RealHouse", "putTerm", "(LRealHouse$Big;II)V"⟩, 21) := ⟨⟨by decide +kernel, by decide +kernel⟩, List.mem_of_getElem? (i := 19) (by decide +kernel), List.mem_of_getElem? (i := 920) (by decide +kernel), List.mem_of_getElem? (i := 921) (by decide +kernel)⟩
theorem lw_p14 : lw_okq (⟨"RealHouse", "put", "(I)V"⟩, 21) := ⟨⟨by decide +kernel, by decide +kernel⟩, List.mem_of_getElem? (i := 19) (by decide +kernel), List.mem_of_getElem? (i := 924) (by decide +kernel), List.mem_of_getElem? (i := 925) (by decide +kernel)⟩
theorem lw_p15 : lw_okq (⟨"RealHouse", "putBig", "(LRealHouse$Big;)V"⟩, 21) := ⟨⟨by decide +kernel, by decide +kernel⟩, List.mem_of_getElem? (i := 19) (by decide +kernel), List.mem_of_getElem? (i := 929) (by decide +kernel), List.mem_of_getElem? (i := 930) (by decide +kernel)⟩
def lw_privs_1 : List (MethodName × Nat) := [(⟨"RealHouse", "feedFour", "(I)V"⟩, 21), (⟨"RealHouse", "isNoLength", "(I)Z"⟩, 21), (⟨"RealHouse$Reader", "readPoly", "(LRealHouse$Curve;)V"⟩, 19), (⟨"RealHouse$Reader", "next", "()I"⟩, 19), (⟨"RealHouse$Reader", "readTerm", "(LRealHouse$Curve;I)V"⟩, 19), (⟨"RealHouse$Reader", "fail", "()V"⟩, 19), (⟨"RealHouse$Poly", "widen", "(I)V"⟩, 3), (⟨"RealHouse$Poly", "trim", "()V"⟩, 3), (⟨"RealHouse$Reader", "expectEnd", "()V"⟩, 19), (⟨"RealHouse", "faulty", "()I"⟩, 21), (⟨"RealHouse", "isUntold", "(I)Z"⟩, 21), (⟨"RealHouse", "tellPlain", "(I)V"⟩, 21), (⟨"RealHouse", "putCurve", "(LRealHouse$Curve;)V"⟩, 21), (⟨"RealHouse", "putTerm", "(LRealHouse$Big;II)V"⟩, 21), (⟨"RealHouse", "put", "(I)V"⟩, 21), (⟨"RealHouse", "putBig", "(LRealHouse$Big;)V"⟩, 21)]
theorem lw_r1 : ∀ q ∈ lw_privs_1, lw_okq q := List.forall_mem_cons.mpr ⟨lw_p0, List.forall_mem_cons.mpr ⟨lw_p1, List.forall_mem_cons.mpr ⟨lw_p2, List.forall_mem_cons.mpr ⟨lw_p3, List.forall_mem_cons.mpr ⟨lw_p4, List.forall_mem_cons.mpr ⟨lw_p5, List.forall_mem_cons.mpr ⟨lw_p6, List.forall_mem_cons.mpr ⟨lw_p7, List.forall_mem_cons.mpr ⟨lw_p8, List.forall_mem_cons.mpr ⟨lw_p9, List.forall_mem_cons.mpr ⟨lw_p10, List.forall_mem_cons.mpr ⟨lw_p11, List.forall_mem_cons.mpr ⟨lw_p12, List.forall_mem_cons.mpr ⟨lw_p13, List.forall_mem_cons.mpr ⟨lw_p14, List.forall_mem_cons.mpr ⟨lw_p15, fun _ h => absurd h List.not_mem_nil⟩⟩⟩⟩⟩⟩⟩⟩⟩⟩⟩⟩⟩⟩⟩⟩
theorem lw_p16 : lw_okq (⟨"RealHouse", "putLetter", "(II)V"⟩, 21) := ⟨⟨by decide +kernel, by decide +kernel⟩, List.mem_of_getElem? (i := 19) (by decide +kernel), List.mem_of_getElem? (i := 940) (by decide +kernel), List.mem_of_getElem? (i := 941) (by decide +kernel)⟩
theorem lw_p17 : lw_okq (⟨"RealHouse", "readInX", "(IZ)I"⟩, 21) := ⟨⟨by decide +kernel, by decide +kernel⟩, List.mem_of_getElem? (i := 19) (by decide +kernel), List.mem_of_getElem? (i := 948) (by decide +kernel), List.mem_of_getElem? (i := 949) (by decide +kernel)⟩
theorem lw_p18 : lw_okq (⟨"RealHouse$Splitter", "takeLine", "()V"⟩, 14) := ⟨⟨by decide +kernel, by decide +kernel⟩, List.mem_of_getElem? (i := 312) (by decide +kernel), List.mem_of_getElem? (i := 962) (by decide +kernel), List.mem_of_getElem? (i := 963) (by decide +kernel)⟩
theorem lw_p19 : lw_okq (⟨"RealHouse$Splitter", "add", "(LRealHouse$Poly;)V"⟩, 14) := ⟨⟨by decide +kernel, by decide +kernel⟩, List.mem_of_getElem? (i := 312) (by decide +kernel), List.mem_of_getElem? (i := 969) (by decide +kernel), List.mem_of_getElem? (i := 970) (by decide +kernel)⟩
theorem lw_p20 : lw_okq (⟨"RealHouse$Prime", "monic", "(I)V"⟩, 5) := ⟨⟨by decide +kernel, by decide +kernel⟩, List.mem_of_getElem? (i := 318) (by decide +kernel), List.mem_of_getElem? (i := 986) (by decide +kernel), List.mem_of_getElem? (i := 987) (by decide +kernel)⟩
theorem lw_p21 : lw_okq (⟨"RealHouse$Prime", "inverse", "(J)J"⟩, 5) := ⟨⟨by decide +kernel, by decide +kernel⟩, List.mem_of_getElem? (i := 318) (by decide +kernel), List.mem_of_getElem? (i := 990) (by decide +kernel), List.mem_of_getElem? (i := 991) (by decide +kernel)⟩
theorem lw_p22 : lw_okq (⟨"RealHouse$Prime", "copy", "(II)V"⟩, 5) := ⟨⟨by decide +kernel, by decide +kernel⟩, List.mem_of_getElem? (i := 318) (by decide +kernel), List.mem_of_getElem? (i := 995) (by decide +kernel), List.mem_of_getElem? (i := 996) (by decide +kernel)⟩
theorem lw_p23 : lw_okq (⟨"RealHouse$Prime", "gcd", "(II)V"⟩, 5) := ⟨⟨by decide +kernel, by decide +kernel⟩, List.mem_of_getElem? (i := 318) (by decide +kernel), List.mem_of_getElem? (i := 1000) (by decide +kernel), List.mem_of_getElem? (i := 1001) (by decide +kernel)⟩
theorem lw_p24 : lw_okq (⟨"RealHouse$Prime", "rest", "(II)V"⟩, 5) := ⟨⟨by decide +kernel, by decide +kernel⟩, List.mem_of_getElem? (i := 318) (by decide +kernel), List.mem_of_getElem? (i := 1004) (by decide +kernel), List.mem_of_getElem? (i := 1005) (by decide +kernel)⟩
theorem lw_p25 : lw_okq (⟨"RealHouse$Prime", "takeAway", "(IIJI)V"⟩, 5) := ⟨⟨by decide +kernel, by decide +kernel⟩, List.mem_of_getElem? (i := 318) (by decide +kernel), List.mem_of_getElem? (i := 1008) (by decide +kernel), List.mem_of_getElem? (i := 1009) (by decide +kernel)⟩
theorem lw_p26 : lw_okq (⟨"RealHouse$Prime", "swap", "(II)V"⟩, 5) := ⟨⟨by decide +kernel, by decide +kernel⟩, List.mem_of_getElem? (i := 318) (by decide +kernel), List.mem_of_getElem? (i := 1012) (by decide +kernel), List.mem_of_getElem? (i := 1013) (by decide +kernel)⟩
theorem lw_p27 : lw_okq (⟨"RealHouse$Prime", "setLine", "(II)V"⟩, 5) := ⟨⟨by decide +kernel, by decide +kernel⟩, List.mem_of_getElem? (i := 318) (by decide +kernel), List.mem_of_getElem? (i := 1027) (by decide +kernel), List.mem_of_getElem? (i := 1028) (by decide +kernel)⟩
theorem lw_p28 : lw_okq (⟨"RealHouse$Prime", "raise", "(IIJI)V"⟩, 5) := ⟨⟨by decide +kernel, by decide +kernel⟩, List.mem_of_getElem? (i := 318) (by decide +kernel), List.mem_of_getElem? (i := 1031) (by decide +kernel), List.mem_of_getElem? (i := 1032) (by decide +kernel)⟩
theorem lw_p29 : lw_okq (⟨"RealHouse$Prime", "setNumber", "(IJ)V"⟩, 5) := ⟨⟨by decide +kernel, by decide +kernel⟩, List.mem_of_getElem? (i := 318) (by decide +kernel), List.mem_of_getElem? (i := 1035) (by decide +kernel), List.mem_of_getElem? (i := 1036) (by decide +kernel)⟩
theorem lw_p30 : lw_okq (⟨"RealHouse$Prime", "shiftBy", "(IIJ)V"⟩, 5) := ⟨⟨by decide +kernel, by decide +kernel⟩, List.mem_of_getElem? (i := 318) (by decide +kernel), List.mem_of_getElem? (i := 1044) (by decide +kernel), List.mem_of_getElem? (i := 1045) (by decide +kernel)⟩
theorem lw_p31 : lw_okq (⟨"RealHouse$Prime", "divide", "(III)V"⟩, 5) := ⟨⟨by decide +kernel, by decide +kernel⟩, List.mem_of_getElem? (i := 318) (by decide +kernel), List.mem_of_getElem? (i := 1048) (by decide +kernel), List.mem_of_getElem? (i := 1049) (by decide +kernel)⟩
def lw_privs_2 : List (MethodName × Nat) := [(⟨"RealHouse", "putLetter", "(II)V"⟩, 21), (⟨"RealHouse", "readInX", "(IZ)I"⟩, 21), (⟨"RealHouse$Splitter", "takeLine", "()V"⟩, 14), (⟨"RealHouse$Splitter", "add", "(LRealHouse$Poly;)V"⟩, 14), (⟨"RealHouse$Prime", "monic", "(I)V"⟩, 5), (⟨"RealHouse$Prime", "inverse", "(J)J"⟩, 5), (⟨"RealHouse$Prime", "copy", "(II)V"⟩, 5), (⟨"RealHouse$Prime", "gcd", "(II)V"⟩, 5), (⟨"RealHouse$Prime", "rest", "(II)V"⟩, 5), (⟨"RealHouse$Prime", "takeAway", "(IIJI)V"⟩, 5), (⟨"RealHouse$Prime", "swap", "(II)V"⟩, 5), (⟨"RealHouse$Prime", "setLine", "(II)V"⟩, 5), (⟨"RealHouse$Prime", "raise", "(IIJI)V"⟩, 5), (⟨"RealHouse$Prime", "setNumber", "(IJ)V"⟩, 5), (⟨"RealHouse$Prime", "shiftBy", "(IIJ)V"⟩, 5), (⟨"RealHouse$Prime", "divide", "(III)V"⟩, 5)]
theorem lw_r2 : ∀ q ∈ lw_privs_2, lw_okq q := List.forall_mem_cons.mpr ⟨lw_p16, List.forall_mem_cons.mpr ⟨lw_p17, List.forall_mem_cons.mpr ⟨lw_p18, List.forall_mem_cons.mpr ⟨lw_p19, List.forall_mem_cons.mpr ⟨lw_p20, List.forall_mem_cons.mpr ⟨lw_p21, List.forall_mem_cons.mpr ⟨lw_p22, List.forall_mem_cons.mpr ⟨lw_p23, List.forall_mem_cons.mpr ⟨lw_p24, List.forall_mem_cons.mpr ⟨lw_p25, List.forall_mem_cons.mpr ⟨lw_p26, List.forall_mem_cons.mpr ⟨lw_p27, List.forall_mem_cons.mpr ⟨lw_p28, List.forall_mem_cons.mpr ⟨lw_p29, List.forall_mem_cons.mpr ⟨lw_p30, List.forall_mem_cons.mpr ⟨lw_p31, fun _ h => absurd h List.not_mem_nil⟩⟩⟩⟩⟩⟩⟩⟩⟩⟩⟩⟩⟩⟩⟩⟩
theorem lw_p32 : lw_okq (⟨"RealHouse$Prime", "splitEven", "(I)V"⟩, 5) := ⟨⟨by decide +kernel, by decide +kernel⟩, List.mem_of_getElem? (i := 318) (by decide +kernel), List.mem_of_getElem? (i := 1052) (by decide +kernel), List.mem_of_getElem? (i := 1053) (by decide +kernel)⟩
theorem lw_p33 : lw_okq (⟨"RealHouse$Splitter", "lift", "()V"⟩, 14) := ⟨⟨by decide +kernel, by decide +kernel⟩, List.mem_of_getElem? (i := 312) (by decide +kernel), List.mem_of_getElem? (i := 1057) (by decide +kernel), List.mem_of_getElem? (i := 1058) (by decide +kernel)⟩
theorem lw_p34 : lw_okq (⟨"RealHouse$Prime", "invert", "(III)V"⟩, 5) := ⟨⟨by decide +kernel, by decide +kernel⟩, List.mem_of_getElem? (i := 318) (by decide +kernel), List.mem_of_getElem? (i := 1071) (by decide +kernel), List.mem_of_getElem? (i := 1072) (by decide +kernel)⟩
theorem lw_p35 : lw_okq (⟨"RealHouse$Splitter", "measureError", "()V"⟩, 14) := ⟨⟨by decide +kernel, by decide +kernel⟩, List.mem_of_getElem? (i := 312) (by decide +kernel), List.mem_of_getElem? (i := 1078) (by decide +kernel), List.mem_of_getElem? (i := 1079) (by decide +kernel)⟩
theorem lw_p36 : lw_okq (⟨"RealHouse$Splitter", "combine", "()V"⟩, 14) := ⟨⟨by decide +kernel, by decide +kernel⟩, List.mem_of_getElem? (i := 312) (by decide +kernel), List.mem_of_getElem? (i := 1091) (by decide +kernel), List.mem_of_getElem? (i := 1092) (by decide +kernel)⟩
theorem lw_p37 : lw_okq (⟨"RealHouse$Splitter", "mayDivide", "(I)Z"⟩, 14) := ⟨⟨by decide +kernel, by decide +kernel⟩, List.mem_of_getElem? (i := 312) (by decide +kernel), List.mem_of_getElem? (i := 1096) (by decide +kernel), List.mem_of_getElem? (i := 1097) (by decide +kernel)⟩
theorem lw_p38 : lw_okq (⟨"RealHouse$Splitter", "center", "(LRealHouse$Big;)V"⟩, 14) := ⟨⟨by decide +kernel, by decide +kernel⟩, List.mem_of_getElem? (i := 312) (by decide +kernel), List.mem_of_getElem? (i := 1100) (by decide +kernel), List.mem_of_getElem? (i := 1101) (by decide +kernel)⟩
theorem lw_p39 : lw_okq (⟨"RealHouse$Splitter", "multiplyOut", "(I)V"⟩, 14) := ⟨⟨by decide +kernel, by decide +kernel⟩, List.mem_of_getElem? (i := 312) (by decide +kernel), List.mem_of_getElem? (i := 1118) (by decide +kernel), List.mem_of_getElem? (i := 1119) (by decide +kernel)⟩
theorem lw_p40 : lw_okq (⟨"RealHouse$Splitter", "countAll", "()V"⟩, 14) := ⟨⟨by decide +kernel, by decide +kernel⟩, List.mem_of_getElem? (i := 312) (by decide +kernel), List.mem_of_getElem? (i := 1122) (by decide +kernel), List.mem_of_getElem? (i := 1123) (by decide +kernel)⟩
theorem lw_p41 : lw_okq (⟨"RealHouse$Line", "reach", "(LRealHouse$Curve;)I"⟩, 20) := ⟨⟨by decide +kernel, by decide +kernel⟩, List.mem_of_getElem? (i := 403) (by decide +kernel), List.mem_of_getElem? (i := 1178) (by decide +kernel), List.mem_of_getElem? (i := 1179) (by decide +kernel)⟩
theorem lw_p42 : lw_okq (⟨"RealHouse$Real", "refineFraction", "(I)V"⟩, 6) := ⟨⟨by decide +kernel, by decide +kernel⟩, List.mem_of_getElem? (i := 508) (by decide +kernel), List.mem_of_getElem? (i := 1188) (by decide +kernel), List.mem_of_getElem? (i := 1189) (by decide +kernel)⟩
theorem lw_p43 : lw_okq (⟨"RealHouse$Real", "refineRoot", "(I)V"⟩, 6) := ⟨⟨by decide +kernel, by decide +kernel⟩, List.mem_of_getElem? (i := 508) (by decide +kernel), List.mem_of_getElem? (i := 1194) (by decide +kernel), List.mem_of_getElem? (i := 1195) (by decide +kernel)⟩
theorem lw_p44 : lw_okq (⟨"RealHouse$Real", "fillTable", "(II)V"⟩, 6) := ⟨⟨by decide +kernel, by decide +kernel⟩, List.mem_of_getElem? (i := 508) (by decide +kernel), List.mem_of_getElem? (i := 1206) (by decide +kernel), List.mem_of_getElem? (i := 1207) (by decide +kernel)⟩
theorem lw_p45 : lw_okq (⟨"RealHouse$Cells", "insert", "(II)V"⟩, 20) := ⟨⟨by decide +kernel, by decide +kernel⟩, List.mem_of_getElem? (i := 303) (by decide +kernel), List.mem_of_getElem? (i := 1241) (by decide +kernel), List.mem_of_getElem? (i := 1242) (by decide +kernel)⟩
theorem lw_p46 : lw_okq (⟨"RealHouse", "keep", "([LRealHouse$Real;ILRealHouse$Real;)V"⟩, 21) := ⟨⟨by decide +kernel, by decide +kernel⟩, List.mem_of_getElem? (i := 19) (by decide +kernel), List.mem_of_getElem? (i := 1261) (by decide +kernel), List.mem_of_getElem? (i := 1262) (by decide +kernel)⟩
theorem lw_p47 : lw_okq (⟨"RealHouse", "putReal", "(LRealHouse$Real;I)I"⟩, 21) := ⟨⟨by decide +kernel, by decide +kernel⟩, List.mem_of_getElem? (i := 19) (by decide +kernel), List.mem_of_getElem? (i := 1279) (by decide +kernel), List.mem_of_getElem? (i := 1280) (by decide +kernel)⟩
def lw_privs_3 : List (MethodName × Nat) := [(⟨"RealHouse$Prime", "splitEven", "(I)V"⟩, 5), (⟨"RealHouse$Splitter", "lift", "()V"⟩, 14), (⟨"RealHouse$Prime", "invert", "(III)V"⟩, 5), (⟨"RealHouse$Splitter", "measureError", "()V"⟩, 14), (⟨"RealHouse$Splitter", "combine", "()V"⟩, 14), (⟨"RealHouse$Splitter", "mayDivide", "(I)Z"⟩, 14), (⟨"RealHouse$Splitter", "center", "(LRealHouse$Big;)V"⟩, 14), (⟨"RealHouse$Splitter", "multiplyOut", "(I)V"⟩, 14), (⟨"RealHouse$Splitter", "countAll", "()V"⟩, 14), (⟨"RealHouse$Line", "reach", "(LRealHouse$Curve;)I"⟩, 20), (⟨"RealHouse$Real", "refineFraction", "(I)V"⟩, 6), (⟨"RealHouse$Real", "refineRoot", "(I)V"⟩, 6), (⟨"RealHouse$Real", "fillTable", "(II)V"⟩, 6), (⟨"RealHouse$Cells", "insert", "(II)V"⟩, 20), (⟨"RealHouse", "keep", "([LRealHouse$Real;ILRealHouse$Real;)V"⟩, 21), (⟨"RealHouse", "putReal", "(LRealHouse$Real;I)I"⟩, 21)]
theorem lw_r3 : ∀ q ∈ lw_privs_3, lw_okq q := List.forall_mem_cons.mpr ⟨lw_p32, List.forall_mem_cons.mpr ⟨lw_p33, List.forall_mem_cons.mpr ⟨lw_p34, List.forall_mem_cons.mpr ⟨lw_p35, List.forall_mem_cons.mpr ⟨lw_p36, List.forall_mem_cons.mpr ⟨lw_p37, List.forall_mem_cons.mpr ⟨lw_p38, List.forall_mem_cons.mpr ⟨lw_p39, List.forall_mem_cons.mpr ⟨lw_p40, List.forall_mem_cons.mpr ⟨lw_p41, List.forall_mem_cons.mpr ⟨lw_p42, List.forall_mem_cons.mpr ⟨lw_p43, List.forall_mem_cons.mpr ⟨lw_p44, List.forall_mem_cons.mpr ⟨lw_p45, List.forall_mem_cons.mpr ⟨lw_p46, List.forall_mem_cons.mpr ⟨lw_p47, fun _ h => absurd h List.not_mem_nil⟩⟩⟩⟩⟩⟩⟩⟩⟩⟩⟩⟩⟩⟩⟩⟩
theorem lw_p48 : lw_okq (⟨"RealHouse", "addSpot", "(LRealHouse$Real;LRealHouse$Real;)V"⟩, 21) := ⟨⟨by decide +kernel, by decide +kernel⟩, List.mem_of_getElem? (i := 19) (by decide +kernel), List.mem_of_getElem? (i := 1359) (by decide +kernel), List.mem_of_getElem? (i := 1360) (by decide +kernel)⟩
theorem lw_p49 : lw_okq (⟨"RealHouse$Reader", "readQuantifier", "(Z)I"⟩, 19) := ⟨⟨by decide +kernel, by decide +kernel⟩, List.mem_of_getElem? (i := 178) (by decide +kernel), List.mem_of_getElem? (i := 1386) (by decide +kernel), List.mem_of_getElem? (i := 1387) (by decide +kernel)⟩
theorem lw_p50 : lw_okq (⟨"RealHouse$Reader", "push", "(I)V"⟩, 19) := ⟨⟨by decide +kernel, by decide +kernel⟩, List.mem_of_getElem? (i := 178) (by decide +kernel), List.mem_of_getElem? (i := 1394) (by decide +kernel), List.mem_of_getElem? (i := 1395) (by decide +kernel)⟩
theorem lw_p51 : lw_okq (⟨"RealHouse$Reader", "readComparison", "()V"⟩, 19) := ⟨⟨by decide +kernel, by decide +kernel⟩, List.mem_of_getElem? (i := 178) (by decide +kernel), List.mem_of_getElem? (i := 1398) (by decide +kernel), List.mem_of_getElem? (i := 1399) (by decide +kernel)⟩
theorem lw_p52 : lw_okq (⟨"RealHouse$Reader", "readRelation", "()I"⟩, 19) := ⟨⟨by decide +kernel, by decide +kernel⟩, List.mem_of_getElem? (i := 178) (by decide +kernel), List.mem_of_getElem? (i := 1402) (by decide +kernel), List.mem_of_getElem? (i := 1403) (by decide +kernel)⟩
theorem lw_p53 : lw_okq (⟨"RealHouse$Reader", "emit", "(I)V"⟩, 19) := ⟨⟨by decide +kernel, by decide +kernel⟩, List.mem_of_getElem? (i := 178) (by decide +kernel), List.mem_of_getElem? (i := 1413) (by decide +kernel), List.mem_of_getElem? (i := 1414) (by decide +kernel)⟩
theorem lw_p54 : lw_okq (⟨"RealHouse$Reader", "closeNots", "()I"⟩, 19) := ⟨⟨by decide +kernel, by decide +kernel⟩, List.mem_of_getElem? (i := 178) (by decide +kernel), List.mem_of_getElem? (i := 1423) (by decide +kernel), List.mem_of_getElem? (i := 1424) (by decide +kernel)⟩
theorem lw_p55 : lw_okq (⟨"RealHouse$Reader", "closeBracket", "()V"⟩, 19) := ⟨⟨by decide +kernel, by decide +kernel⟩, List.mem_of_getElem? (i := 178) (by decide +kernel), List.mem_of_getElem? (i := 1427) (by decide +kernel), List.mem_of_getElem? (i := 1428) (by decide +kernel)⟩
theorem lw_p56 : lw_okq (⟨"RealHouse$Reader", "closeJoins", "(I)V"⟩, 19) := ⟨⟨by decide +kernel, by decide +kernel⟩, List.mem_of_getElem? (i := 178) (by decide +kernel), List.mem_of_getElem? (i := 1431) (by decide +kernel), List.mem_of_getElem? (i := 1432) (by decide +kernel)⟩
theorem lw_p57 : lw_okq (⟨"RealHouse$Cells", "cast", "(ILRealHouse$Curve;LRealHouse$Curve;)V"⟩, 20) := ⟨⟨by decide +kernel, by decide +kernel⟩, List.mem_of_getElem? (i := 303) (by decide +kernel), List.mem_of_getElem? (i := 1444) (by decide +kernel), List.mem_of_getElem? (i := 1445) (by decide +kernel)⟩
theorem lw_p58 : lw_okq (⟨"RealHouse$Cells", "between", "(I)LRealHouse$Real;"⟩, 20) := ⟨⟨by decide +kernel, by decide +kernel⟩, List.mem_of_getElem? (i := 303) (by decide +kernel), List.mem_of_getElem? (i := 1457) (by decide +kernel), List.mem_of_getElem? (i := 1458) (by decide +kernel)⟩
theorem lw_p59 : lw_okq (⟨"RealHouse$Cells", "simplest", "(LRealHouse$Big;LRealHouse$Big;ILRealHouse$Big;)I"⟩, 20) := ⟨⟨by decide +kernel, by decide +kernel⟩, List.mem_of_getElem? (i := 303) (by decide +kernel), List.mem_of_getElem? (i := 1465) (by decide +kernel), List.mem_of_getElem? (i := 1466) (by decide +kernel)⟩
theorem lw_p60 : lw_okq (⟨"RealHouse$Line", "apart", "(II)I"⟩, 20) := ⟨⟨by decide +kernel, by decide +kernel⟩, List.mem_of_getElem? (i := 403) (by decide +kernel), List.mem_of_getElem? (i := 1478) (by decide +kernel), List.mem_of_getElem? (i := 1479) (by decide +kernel)⟩
theorem lw_p61 : lw_okq (⟨"RealHouse$Line", "narrow", "(I)V"⟩, 20) := ⟨⟨by decide +kernel, by decide +kernel⟩, List.mem_of_getElem? (i := 403) (by decide +kernel), List.mem_of_getElem? (i := 1483) (by decide +kernel), List.mem_of_getElem? (i := 1484) (by decide +kernel)⟩
theorem lw_p62 : lw_okq (⟨"RealHouse$Line", "valueAt", "(LRealHouse$Curve;LRealHouse$Big;I)LRealHouse$Poly;"⟩, 20) := ⟨⟨by decide +kernel, by decide +kernel⟩, List.mem_of_getElem? (i := 403) (by decide +kernel), List.mem_of_getElem? (i := 1487) (by decide +kernel), List.mem_of_getElem? (i := 1488) (by decide +kernel)⟩
theorem lw_p63 : lw_okq (⟨"RealHouse", "putPoly", "(LRealHouse$Poly;)I"⟩, 21) := ⟨⟨by decide +kernel, by decide +kernel⟩, List.mem_of_getElem? (i := 19) (by decide +kernel), List.mem_of_getElem? (i := 1528) (by decide +kernel), List.mem_of_getElem? (i := 1529) (by decide +kernel)⟩
def lw_privs_4 : List (MethodName × Nat) := [(⟨"RealHouse", "addSpot", "(LRealHouse$Real;LRealHouse$Real;)V"⟩, 21), (⟨"RealHouse$Reader", "readQuantifier", "(Z)I"⟩, 19), (⟨"RealHouse$Reader", "push", "(I)V"⟩, 19), (⟨"RealHouse$Reader", "readComparison", "()V"⟩, 19), (⟨"RealHouse$Reader", "readRelation", "()I"⟩, 19), (⟨"RealHouse$Reader", "emit", "(I)V"⟩, 19), (⟨"RealHouse$Reader", "closeNots", "()I"⟩, 19), (⟨"RealHouse$Reader", "closeBracket", "()V"⟩, 19), (⟨"RealHouse$Reader", "closeJoins", "(I)V"⟩, 19), (⟨"RealHouse$Cells", "cast", "(ILRealHouse$Curve;LRealHouse$Curve;)V"⟩, 20), (⟨"RealHouse$Cells", "between", "(I)LRealHouse$Real;"⟩, 20), (⟨"RealHouse$Cells", "simplest", "(LRealHouse$Big;LRealHouse$Big;ILRealHouse$Big;)I"⟩, 20), (⟨"RealHouse$Line", "apart", "(II)I"⟩, 20), (⟨"RealHouse$Line", "narrow", "(I)V"⟩, 20), (⟨"RealHouse$Line", "valueAt", "(LRealHouse$Curve;LRealHouse$Big;I)LRealHouse$Poly;"⟩, 20), (⟨"RealHouse", "putPoly", "(LRealHouse$Poly;)I"⟩, 21)]
theorem lw_r4 : ∀ q ∈ lw_privs_4, lw_okq q := List.forall_mem_cons.mpr ⟨lw_p48, List.forall_mem_cons.mpr ⟨lw_p49, List.forall_mem_cons.mpr ⟨lw_p50, List.forall_mem_cons.mpr ⟨lw_p51, List.forall_mem_cons.mpr ⟨lw_p52, List.forall_mem_cons.mpr ⟨lw_p53, List.forall_mem_cons.mpr ⟨lw_p54, List.forall_mem_cons.mpr ⟨lw_p55, List.forall_mem_cons.mpr ⟨lw_p56, List.forall_mem_cons.mpr ⟨lw_p57, List.forall_mem_cons.mpr ⟨lw_p58, List.forall_mem_cons.mpr ⟨lw_p59, List.forall_mem_cons.mpr ⟨lw_p60, List.forall_mem_cons.mpr ⟨lw_p61, List.forall_mem_cons.mpr ⟨lw_p62, List.forall_mem_cons.mpr ⟨lw_p63, fun _ h => absurd h List.not_mem_nil⟩⟩⟩⟩⟩⟩⟩⟩⟩⟩⟩⟩⟩⟩⟩⟩
theorem lw_p64 : lw_okq (⟨"RealHouse", "isNoNumber", "(I)Z"⟩, 21) := ⟨⟨by decide +kernel, by decide +kernel⟩, List.mem_of_getElem? (i := 19) (by decide +kernel), List.mem_of_getElem? (i := 1544) (by decide +kernel), List.mem_of_getElem? (i := 1545) (by decide +kernel)⟩
theorem lw_p65 : lw_okq (⟨"RealHouse$Cells", "enclose", "(ILRealHouse$Real;LRealHouse$Real;I)Z"⟩, 20) := ⟨⟨by decide +kernel, by decide +kernel⟩, List.mem_of_getElem? (i := 303) (by decide +kernel), List.mem_of_getElem? (i := 1565) (by decide +kernel), List.mem_of_getElem? (i := 1566) (by decide +kernel)⟩
theorem lw_p66 : lw_okq (⟨"RealHouseModel", "mayRead", "(I)Z"⟩, 86) := ⟨⟨by decide +kernel, by decide +kernel⟩, List.mem_of_getElem? (i := 1588) (by decide +kernel), List.mem_of_getElem? (i := 1870) (by decide +kernel), List.mem_of_getElem? (i := 1871) (by decide +kernel)⟩
theorem lw_p67 : lw_okq (⟨"RealHouseModel", "poly", "(I)V"⟩, 86) := ⟨⟨by decide +kernel, by decide +kernel⟩, List.mem_of_getElem? (i := 1588) (by decide +kernel), List.mem_of_getElem? (i := 1874) (by decide +kernel), List.mem_of_getElem? (i := 1875) (by decide +kernel)⟩
theorem lw_p68 : lw_okq (⟨"RealHouseModel", "clear", "(I)V"⟩, 86) := ⟨⟨by decide +kernel, by decide +kernel⟩, List.mem_of_getElem? (i := 1588) (by decide +kernel), List.mem_of_getElem? (i := 1878) (by decide +kernel), List.mem_of_getElem? (i := 1879) (by decide +kernel)⟩
theorem lw_p69 : lw_okq (⟨"RealHouseModel", "skip", "(I)Z"⟩, 86) := ⟨⟨by decide +kernel, by decide +kernel⟩, List.mem_of_getElem? (i := 1588) (by decide +kernel), List.mem_of_getElem? (i := 1882) (by decide +kernel), List.mem_of_getElem? (i := 1883) (by decide +kernel)⟩
theorem lw_p70 : lw_okq (⟨"RealHouseModel", "here", "()I"⟩, 86) := ⟨⟨by decide +kernel, by decide +kernel⟩, List.mem_of_getElem? (i := 1588) (by decide +kernel), List.mem_of_getElem? (i := 1886) (by decide +kernel), List.mem_of_getElem? (i := 1887) (by decide +kernel)⟩
theorem lw_p71 : lw_okq (⟨"RealHouseModel", "term", "(IZ)V"⟩, 86) := ⟨⟨by decide +kernel, by decide +kernel⟩, List.mem_of_getElem? (i := 1588) (by decide +kernel), List.mem_of_getElem? (i := 1890) (by decide +kernel), List.mem_of_getElem? (i := 1891) (by decide +kernel)⟩
theorem lw_p72 : lw_okq (⟨"RealHouseModel", "isDigit", "()Z"⟩, 86) := ⟨⟨by decide +kernel, by decide +kernel⟩, List.mem_of_getElem? (i := 1588) (by decide +kernel), List.mem_of_getElem? (i := 1894) (by decide +kernel), List.mem_of_getElem? (i := 1895) (by decide +kernel)⟩
theorem lw_p73 : lw_okq (⟨"RealHouseModel", "fault", "(I)V"⟩, 86) := ⟨⟨by decide +kernel, by decide +kernel⟩, List.mem_of_getElem? (i := 1588) (by decide +kernel), List.mem_of_getElem? (i := 1898) (by decide +kernel), List.mem_of_getElem? (i := 1899) (by decide +kernel)⟩
theorem lw_p74 : lw_okq (⟨"RealHouseModel", "must", "(I)V"⟩, 86) := ⟨⟨by decide +kernel, by decide +kernel⟩, List.mem_of_getElem? (i := 1588) (by decide +kernel), List.mem_of_getElem? (i := 1904) (by decide +kernel), List.mem_of_getElem? (i := 1905) (by decide +kernel)⟩
theorem lw_p75 : lw_okq (⟨"RealHouseModel", "end", "()I"⟩, 86) := ⟨⟨by decide +kernel, by decide +kernel⟩, List.mem_of_getElem? (i := 1588) (by decide +kernel), List.mem_of_getElem? (i := 1908) (by decide +kernel), List.mem_of_getElem? (i := 1909) (by decide +kernel)⟩
theorem lw_p76 : lw_okq (⟨"RealHouseModel", "asY", "(IZ)I"⟩, 86) := ⟨⟨by decide +kernel, by decide +kernel⟩, List.mem_of_getElem? (i := 1588) (by decide +kernel), List.mem_of_getElem? (i := 1912) (by decide +kernel), List.mem_of_getElem? (i := 1913) (by decide +kernel)⟩
theorem lw_p77 : lw_okq (⟨"RealHouseModel", "list", "(I)I"⟩, 86) := ⟨⟨by decide +kernel, by decide +kernel⟩, List.mem_of_getElem? (i := 1588) (by decide +kernel), List.mem_of_getElem? (i := 1916) (by decide +kernel), List.mem_of_getElem? (i := 1917) (by decide +kernel)⟩
theorem lw_p78 : lw_okq (⟨"RealHouseModel", "take", "(I)I"⟩, 86) := ⟨⟨by decide +kernel, by decide +kernel⟩, List.mem_of_getElem? (i := 1588) (by decide +kernel), List.mem_of_getElem? (i := 1920) (by decide +kernel), List.mem_of_getElem? (i := 1921) (by decide +kernel)⟩
theorem lw_p79 : lw_okq (⟨"RealHouseModel", "coefficient", "(III)J"⟩, 86) := ⟨⟨by decide +kernel, by decide +kernel⟩, List.mem_of_getElem? (i := 1588) (by decide +kernel), List.mem_of_getElem? (i := 1924) (by decide +kernel), List.mem_of_getElem? (i := 1925) (by decide +kernel)⟩
def lw_privs_5 : List (MethodName × Nat) := [(⟨"RealHouse", "isNoNumber", "(I)Z"⟩, 21), (⟨"RealHouse$Cells", "enclose", "(ILRealHouse$Real;LRealHouse$Real;I)Z"⟩, 20), (⟨"RealHouseModel", "mayRead", "(I)Z"⟩, 86), (⟨"RealHouseModel", "poly", "(I)V"⟩, 86), (⟨"RealHouseModel", "clear", "(I)V"⟩, 86), (⟨"RealHouseModel", "skip", "(I)Z"⟩, 86), (⟨"RealHouseModel", "here", "()I"⟩, 86), (⟨"RealHouseModel", "term", "(IZ)V"⟩, 86), (⟨"RealHouseModel", "isDigit", "()Z"⟩, 86), (⟨"RealHouseModel", "fault", "(I)V"⟩, 86), (⟨"RealHouseModel", "must", "(I)V"⟩, 86), (⟨"RealHouseModel", "end", "()I"⟩, 86), (⟨"RealHouseModel", "asY", "(IZ)I"⟩, 86), (⟨"RealHouseModel", "list", "(I)I"⟩, 86), (⟨"RealHouseModel", "take", "(I)I"⟩, 86), (⟨"RealHouseModel", "coefficient", "(III)J"⟩, 86)]
theorem lw_r5 : ∀ q ∈ lw_privs_5, lw_okq q := List.forall_mem_cons.mpr ⟨lw_p64, List.forall_mem_cons.mpr ⟨lw_p65, List.forall_mem_cons.mpr ⟨lw_p66, List.forall_mem_cons.mpr ⟨lw_p67, List.forall_mem_cons.mpr ⟨lw_p68, List.forall_mem_cons.mpr ⟨lw_p69, List.forall_mem_cons.mpr ⟨lw_p70, List.forall_mem_cons.mpr ⟨lw_p71, List.forall_mem_cons.mpr ⟨lw_p72, List.forall_mem_cons.mpr ⟨lw_p73, List.forall_mem_cons.mpr ⟨lw_p74, List.forall_mem_cons.mpr ⟨lw_p75, List.forall_mem_cons.mpr ⟨lw_p76, List.forall_mem_cons.mpr ⟨lw_p77, List.forall_mem_cons.mpr ⟨lw_p78, List.forall_mem_cons.mpr ⟨lw_p79, fun _ h => absurd h List.not_mem_nil⟩⟩⟩⟩⟩⟩⟩⟩⟩⟩⟩⟩⟩⟩⟩⟩
theorem lw_p80 : lw_okq (⟨"RealHouseModel", "num", "(J)I"⟩, 86) := ⟨⟨by decide +kernel, by decide +kernel⟩, List.mem_of_getElem? (i := 1588) (by decide +kernel), List.mem_of_getElem? (i := 1928) (by decide +kernel), List.mem_of_getElem? (i := 1929) (by decide +kernel)⟩
theorem lw_p81 : lw_okq (⟨"RealHouseModel", "set", "(III)V"⟩, 86) := ⟨⟨by decide +kernel, by decide +kernel⟩, List.mem_of_getElem? (i := 1588) (by decide +kernel), List.mem_of_getElem? (i := 1933) (by decide +kernel), List.mem_of_getElem? (i := 1934) (by decide +kernel)⟩
theorem lw_p82 : lw_okq (⟨"RealHouseModel", "shorten", "(I)V"⟩, 86) := ⟨⟨by decide +kernel, by decide +kernel⟩, List.mem_of_getElem? (i := 1588) (by decide +kernel), List.mem_of_getElem? (i := 1937) (by decide +kernel), List.mem_of_getElem? (i := 1938) (by decide +kernel)⟩
theorem lw_p83 : lw_okq (⟨"RealHouseModel", "many", "(I)I"⟩, 86) := ⟨⟨by decide +kernel, by decide +kernel⟩, List.mem_of_getElem? (i := 1588) (by decide +kernel), List.mem_of_getElem? (i := 1941) (by decide +kernel), List.mem_of_getElem? (i := 1942) (by decide +kernel)⟩
theorem lw_p84 : lw_okq (⟨"RealHouseModel", "at", "(II)I"⟩, 86) := ⟨⟨by decide +kernel, by decide +kernel⟩, List.mem_of_getElem? (i := 1588) (by decide +kernel), List.mem_of_getElem? (i := 1945) (by decide +kernel), List.mem_of_getElem? (i := 1946) (by decide +kernel)⟩
theorem lw_p85 : lw_okq (⟨"RealHouseModel", "sign", "(I)I"⟩, 86) := ⟨⟨by decide +kernel, by decide +kernel⟩, List.mem_of_getElem? (i := 1588) (by decide +kernel), List.mem_of_getElem? (i := 1949) (by decide +kernel), List.mem_of_getElem? (i := 1950) (by decide +kernel)⟩
theorem lw_p86 : lw_okq (⟨"RealHouseModel", "byX", "(I)I"⟩, 86) := ⟨⟨by decide +kernel, by decide +kernel⟩, List.mem_of_getElem? (i := 1588) (by decide +kernel), List.mem_of_getElem? (i := 1953) (by decide +kernel), List.mem_of_getElem? (i := 1954) (by decide +kernel)⟩
theorem lw_p87 : lw_okq (⟨"RealHouseModel", "derivative", "(I)I"⟩, 86) := ⟨⟨by decide +kernel, by decide +kernel⟩, List.mem_of_getElem? (i := 1588) (by decide +kernel), List.mem_of_getElem? (i := 1957) (by decide +kernel), List.mem_of_getElem? (i := 1958) (by decide +kernel)⟩
theorem lw_p88 : lw_okq (⟨"RealHouseModel", "zero", "()I"⟩, 86) := ⟨⟨by decide +kernel, by decide +kernel⟩, List.mem_of_getElem? (i := 1588) (by decide +kernel), List.mem_of_getElem? (i := 1961) (by decide +kernel), List.mem_of_getElem? (i := 1962) (by decide +kernel)⟩
theorem lw_p89 : lw_okq (⟨"RealHouseModel", "multiply", "(II)I"⟩, 86) := ⟨⟨by decide +kernel, by decide +kernel⟩, List.mem_of_getElem? (i := 1588) (by decide +kernel), List.mem_of_getElem? (i := 1965) (by decide +kernel), List.mem_of_getElem? (i := 1966) (by decide +kernel)⟩
theorem lw_p90 : lw_okq (⟨"RealHouseModel", "sizeOf", "(I)I"⟩, 86) := ⟨⟨by decide +kernel, by decide +kernel⟩, List.mem_of_getElem? (i := 1588) (by decide +kernel), List.mem_of_getElem? (i := 1969) (by decide +kernel), List.mem_of_getElem? (i := 1970) (by decide +kernel)⟩
theorem lw_p91 : lw_okq (⟨"RealHouseModel", "trim", "(III)V"⟩, 86) := ⟨⟨by decide +kernel, by decide +kernel⟩, List.mem_of_getElem? (i := 1588) (by decide +kernel), List.mem_of_getElem? (i := 1973) (by decide +kernel), List.mem_of_getElem? (i := 1974) (by decide +kernel)⟩
theorem lw_p92 : lw_okq (⟨"RealHouseModel", "shortenY", "(I)V"⟩, 86) := ⟨⟨by decide +kernel, by decide +kernel⟩, List.mem_of_getElem? (i := 1588) (by decide +kernel), List.mem_of_getElem? (i := 1977) (by decide +kernel), List.mem_of_getElem? (i := 1978) (by decide +kernel)⟩
theorem lw_p93 : lw_okq (⟨"RealHouseModel", "byY", "(I)I"⟩, 86) := ⟨⟨by decide +kernel, by decide +kernel⟩, List.mem_of_getElem? (i := 1588) (by decide +kernel), List.mem_of_getElem? (i := 1981) (by decide +kernel), List.mem_of_getElem? (i := 1982) (by decide +kernel)⟩
theorem lw_p94 : lw_okq (⟨"RealHouseModel", "derivativeY", "(I)I"⟩, 86) := ⟨⟨by decide +kernel, by decide +kernel⟩, List.mem_of_getElem? (i := 1588) (by decide +kernel), List.mem_of_getElem? (i := 1985) (by decide +kernel), List.mem_of_getElem? (i := 1986) (by decide +kernel)⟩
theorem lw_p95 : lw_okq (⟨"RealHouseModel", "scaled", "(II)I"⟩, 86) := ⟨⟨by decide +kernel, by decide +kernel⟩, List.mem_of_getElem? (i := 1588) (by decide +kernel), List.mem_of_getElem? (i := 1989) (by decide +kernel), List.mem_of_getElem? (i := 1990) (by decide +kernel)⟩
def lw_privs_6 : List (MethodName × Nat) := [(⟨"RealHouseModel", "num", "(J)I"⟩, 86), (⟨"RealHouseModel", "set", "(III)V"⟩, 86), (⟨"RealHouseModel", "shorten", "(I)V"⟩, 86), (⟨"RealHouseModel", "many", "(I)I"⟩, 86), (⟨"RealHouseModel", "at", "(II)I"⟩, 86), (⟨"RealHouseModel", "sign", "(I)I"⟩, 86), (⟨"RealHouseModel", "byX", "(I)I"⟩, 86), (⟨"RealHouseModel", "derivative", "(I)I"⟩, 86), (⟨"RealHouseModel", "zero", "()I"⟩, 86), (⟨"RealHouseModel", "multiply", "(II)I"⟩, 86), (⟨"RealHouseModel", "sizeOf", "(I)I"⟩, 86), (⟨"RealHouseModel", "trim", "(III)V"⟩, 86), (⟨"RealHouseModel", "shortenY", "(I)V"⟩, 86), (⟨"RealHouseModel", "byY", "(I)I"⟩, 86), (⟨"RealHouseModel", "derivativeY", "(I)I"⟩, 86), (⟨"RealHouseModel", "scaled", "(II)I"⟩, 86)]
theorem lw_r6 : ∀ q ∈ lw_privs_6, lw_okq q := List.forall_mem_cons.mpr ⟨lw_p80, List.forall_mem_cons.mpr ⟨lw_p81, List.forall_mem_cons.mpr ⟨lw_p82, List.forall_mem_cons.mpr ⟨lw_p83, List.forall_mem_cons.mpr ⟨lw_p84, List.forall_mem_cons.mpr ⟨lw_p85, List.forall_mem_cons.mpr ⟨lw_p86, List.forall_mem_cons.mpr ⟨lw_p87, List.forall_mem_cons.mpr ⟨lw_p88, List.forall_mem_cons.mpr ⟨lw_p89, List.forall_mem_cons.mpr ⟨lw_p90, List.forall_mem_cons.mpr ⟨lw_p91, List.forall_mem_cons.mpr ⟨lw_p92, List.forall_mem_cons.mpr ⟨lw_p93, List.forall_mem_cons.mpr ⟨lw_p94, List.forall_mem_cons.mpr ⟨lw_p95, fun _ h => absurd h List.not_mem_nil⟩⟩⟩⟩⟩⟩⟩⟩⟩⟩⟩⟩⟩⟩⟩⟩
theorem lw_p96 : lw_okq (⟨"RealHouseModel", "primitive", "(I)I"⟩, 86) := ⟨⟨by decide +kernel, by decide +kernel⟩, List.mem_of_getElem? (i := 1588) (by decide +kernel), List.mem_of_getElem? (i := 1993) (by decide +kernel), List.mem_of_getElem? (i := 1994) (by decide +kernel)⟩
theorem lw_p97 : lw_okq (⟨"RealHouseModel", "content", "(I)I"⟩, 86) := ⟨⟨by decide +kernel, by decide +kernel⟩, List.mem_of_getElem? (i := 1588) (by decide +kernel), List.mem_of_getElem? (i := 1997) (by decide +kernel), List.mem_of_getElem? (i := 1998) (by decide +kernel)⟩
theorem lw_p98 : lw_okq (⟨"RealHouseModel", "common", "(II)I"⟩, 86) := ⟨⟨by decide +kernel, by decide +kernel⟩, List.mem_of_getElem? (i := 1588) (by decide +kernel), List.mem_of_getElem? (i := 2001) (by decide +kernel), List.mem_of_getElem? (i := 2002) (by decide +kernel)⟩
theorem lw_p99 : lw_okq (⟨"RealHouseModel", "copy", "(I)I"⟩, 86) := ⟨⟨by decide +kernel, by decide +kernel⟩, List.mem_of_getElem? (i := 1588) (by decide +kernel), List.mem_of_getElem? (i := 2005) (by decide +kernel), List.mem_of_getElem? (i := 2006) (by decide +kernel)⟩
theorem lw_p100 : lw_okq (⟨"RealHouseModel", "quotient", "(II)I"⟩, 86) := ⟨⟨by decide +kernel, by decide +kernel⟩, List.mem_of_getElem? (i := 1588) (by decide +kernel), List.mem_of_getElem? (i := 2009) (by decide +kernel), List.mem_of_getElem? (i := 2010) (by decide +kernel)⟩
theorem lw_p101 : lw_okq (⟨"RealHouseModel", "bitsOf", "(I)I"⟩, 86) := ⟨⟨by decide +kernel, by decide +kernel⟩, List.mem_of_getElem? (i := 1588) (by decide +kernel), List.mem_of_getElem? (i := 2013) (by decide +kernel), List.mem_of_getElem? (i := 2014) (by decide +kernel)⟩
theorem lw_p102 : lw_okq (⟨"RealHouseModel", "shifted", "(II)I"⟩, 86) := ⟨⟨by decide +kernel, by decide +kernel⟩, List.mem_of_getElem? (i := 1588) (by decide +kernel), List.mem_of_getElem? (i := 2017) (by decide +kernel), List.mem_of_getElem? (i := 2018) (by decide +kernel)⟩
theorem lw_p103 : lw_okq (⟨"RealHouseModel", "kept", "(II)I"⟩, 86) := ⟨⟨by decide +kernel, by decide +kernel⟩, List.mem_of_getElem? (i := 1588) (by decide +kernel), List.mem_of_getElem? (i := 2022) (by decide +kernel), List.mem_of_getElem? (i := 2023) (by decide +kernel)⟩
theorem lw_p104 : lw_okq (⟨"RealHouseModel", "lead", "(I)I"⟩, 86) := ⟨⟨by decide +kernel, by decide +kernel⟩, List.mem_of_getElem? (i := 1588) (by decide +kernel), List.mem_of_getElem? (i := 2026) (by decide +kernel), List.mem_of_getElem? (i := 2027) (by decide +kernel)⟩
theorem lw_p105 : lw_okq (⟨"RealHouseModel", "negative", "(I)I"⟩, 86) := ⟨⟨by decide +kernel, by decide +kernel⟩, List.mem_of_getElem? (i := 1588) (by decide +kernel), List.mem_of_getElem? (i := 2030) (by decide +kernel), List.mem_of_getElem? (i := 2031) (by decide +kernel)⟩
theorem lw_p106 : lw_okq (⟨"RealHouseModel", "dividedBy", "(II)I"⟩, 86) := ⟨⟨by decide +kernel, by decide +kernel⟩, List.mem_of_getElem? (i := 1588) (by decide +kernel), List.mem_of_getElem? (i := 2034) (by decide +kernel), List.mem_of_getElem? (i := 2035) (by decide +kernel)⟩
theorem lw_p107 : lw_okq (⟨"RealHouseModel", "productY", "(II)I"⟩, 86) := ⟨⟨by decide +kernel, by decide +kernel⟩, List.mem_of_getElem? (i := 1588) (by decide +kernel), List.mem_of_getElem? (i := 2038) (by decide +kernel), List.mem_of_getElem? (i := 2039) (by decide +kernel)⟩
theorem lw_p108 : lw_okq (⟨"RealHouseModel", "product", "(II)I"⟩, 86) := ⟨⟨by decide +kernel, by decide +kernel⟩, List.mem_of_getElem? (i := 1588) (by decide +kernel), List.mem_of_getElem? (i := 2042) (by decide +kernel), List.mem_of_getElem? (i := 2043) (by decide +kernel)⟩
theorem lw_p109 : lw_okq (⟨"RealHouseModel", "sum", "(III)I"⟩, 86) := ⟨⟨by decide +kernel, by decide +kernel⟩, List.mem_of_getElem? (i := 1588) (by decide +kernel), List.mem_of_getElem? (i := 2046) (by decide +kernel), List.mem_of_getElem? (i := 2047) (by decide +kernel)⟩
theorem lw_p110 : lw_okq (⟨"RealHouseModel", "larger", "(II)I"⟩, 86) := ⟨⟨by decide +kernel, by decide +kernel⟩, List.mem_of_getElem? (i := 1588) (by decide +kernel), List.mem_of_getElem? (i := 2050) (by decide +kernel), List.mem_of_getElem? (i := 2051) (by decide +kernel)⟩
theorem lw_p111 : lw_okq (⟨"RealHouseModel", "keptList", "(III)I"⟩, 86) := ⟨⟨by decide +kernel, by decide +kernel⟩, List.mem_of_getElem? (i := 1588) (by decide +kernel), List.mem_of_getElem? (i := 2054) (by decide +kernel), List.mem_of_getElem? (i := 2055) (by decide +kernel)⟩
def lw_privs_7 : List (MethodName × Nat) := [(⟨"RealHouseModel", "primitive", "(I)I"⟩, 86), (⟨"RealHouseModel", "content", "(I)I"⟩, 86), (⟨"RealHouseModel", "common", "(II)I"⟩, 86), (⟨"RealHouseModel", "copy", "(I)I"⟩, 86), (⟨"RealHouseModel", "quotient", "(II)I"⟩, 86), (⟨"RealHouseModel", "bitsOf", "(I)I"⟩, 86), (⟨"RealHouseModel", "shifted", "(II)I"⟩, 86), (⟨"RealHouseModel", "kept", "(II)I"⟩, 86), (⟨"RealHouseModel", "lead", "(I)I"⟩, 86), (⟨"RealHouseModel", "negative", "(I)I"⟩, 86), (⟨"RealHouseModel", "dividedBy", "(II)I"⟩, 86), (⟨"RealHouseModel", "productY", "(II)I"⟩, 86), (⟨"RealHouseModel", "product", "(II)I"⟩, 86), (⟨"RealHouseModel", "sum", "(III)I"⟩, 86), (⟨"RealHouseModel", "larger", "(II)I"⟩, 86), (⟨"RealHouseModel", "keptList", "(III)I"⟩, 86)]
theorem lw_r7 : ∀ q ∈ lw_privs_7, lw_okq q := List.forall_mem_cons.mpr ⟨lw_p96, List.forall_mem_cons.mpr ⟨lw_p97, List.forall_mem_cons.mpr ⟨lw_p98, List.forall_mem_cons.mpr ⟨lw_p99, List.forall_mem_cons.mpr ⟨lw_p100, List.forall_mem_cons.mpr ⟨lw_p101, List.forall_mem_cons.mpr ⟨lw_p102, List.forall_mem_cons.mpr ⟨lw_p103, List.forall_mem_cons.mpr ⟨lw_p104, List.forall_mem_cons.mpr ⟨lw_p105, List.forall_mem_cons.mpr ⟨lw_p106, List.forall_mem_cons.mpr ⟨lw_p107, List.forall_mem_cons.mpr ⟨lw_p108, List.forall_mem_cons.mpr ⟨lw_p109, List.forall_mem_cons.mpr ⟨lw_p110, List.forall_mem_cons.mpr ⟨lw_p111, fun _ h => absurd h List.not_mem_nil⟩⟩⟩⟩⟩⟩⟩⟩⟩⟩⟩⟩⟩⟩⟩⟩
theorem lw_p112 : lw_okq (⟨"RealHouseModel", "copyList", "(II)I"⟩, 86) := ⟨⟨by decide +kernel, by decide +kernel⟩, List.mem_of_getElem? (i := 1588) (by decide +kernel), List.mem_of_getElem? (i := 2058) (by decide +kernel), List.mem_of_getElem? (i := 2059) (by decide +kernel)⟩
theorem lw_p113 : lw_okq (⟨"RealHouseModel", "moveDown", "(III)V"⟩, 86) := ⟨⟨by decide +kernel, by decide +kernel⟩, List.mem_of_getElem? (i := 1588) (by decide +kernel), List.mem_of_getElem? (i := 2062) (by decide +kernel), List.mem_of_getElem? (i := 2063) (by decide +kernel)⟩
theorem lw_p114 : lw_okq (⟨"RealHouseModel", "plus", "(III)I"⟩, 86) := ⟨⟨by decide +kernel, by decide +kernel⟩, List.mem_of_getElem? (i := 1588) (by decide +kernel), List.mem_of_getElem? (i := 2066) (by decide +kernel), List.mem_of_getElem? (i := 2067) (by decide +kernel)⟩
theorem lw_p115 : lw_okq (⟨"RealHouseModel", "resultant", "(II)I"⟩, 86) := ⟨⟨by decide +kernel, by decide +kernel⟩, List.mem_of_getElem? (i := 1588) (by decide +kernel), List.mem_of_getElem? (i := 2070) (by decide +kernel), List.mem_of_getElem? (i := 2071) (by decide +kernel)⟩
theorem lw_p116 : lw_okq (⟨"RealHouseModel", "raised", "(II)I"⟩, 86) := ⟨⟨by decide +kernel, by decide +kernel⟩, List.mem_of_getElem? (i := 1588) (by decide +kernel), List.mem_of_getElem? (i := 2074) (by decide +kernel), List.mem_of_getElem? (i := 2075) (by decide +kernel)⟩
theorem lw_p117 : lw_okq (⟨"RealHouseModel", "constant", "(J)I"⟩, 86) := ⟨⟨by decide +kernel, by decide +kernel⟩, List.mem_of_getElem? (i := 1588) (by decide +kernel), List.mem_of_getElem? (i := 2078) (by decide +kernel), List.mem_of_getElem? (i := 2079) (by decide +kernel)⟩
theorem lw_p118 : lw_okq (⟨"RealHouseModel", "subresultant", "(III)I"⟩, 86) := ⟨⟨by decide +kernel, by decide +kernel⟩, List.mem_of_getElem? (i := 1588) (by decide +kernel), List.mem_of_getElem? (i := 2082) (by decide +kernel), List.mem_of_getElem? (i := 2083) (by decide +kernel)⟩
theorem lw_p119 : lw_okq (⟨"RealHouseModel", "determinant", "(I)I"⟩, 86) := ⟨⟨by decide +kernel, by decide +kernel⟩, List.mem_of_getElem? (i := 1588) (by decide +kernel), List.mem_of_getElem? (i := 2086) (by decide +kernel), List.mem_of_getElem? (i := 2087) (by decide +kernel)⟩
theorem lw_p120 : lw_okq (⟨"RealHouseModel", "one", "(I)I"⟩, 86) := ⟨⟨by decide +kernel, by decide +kernel⟩, List.mem_of_getElem? (i := 1588) (by decide +kernel), List.mem_of_getElem? (i := 2090) (by decide +kernel), List.mem_of_getElem? (i := 2091) (by decide +kernel)⟩
theorem lw_p121 : lw_okq (⟨"RealHouseModel", "asX", "(I)I"⟩, 86) := ⟨⟨by decide +kernel, by decide +kernel⟩, List.mem_of_getElem? (i := 1588) (by decide +kernel), List.mem_of_getElem? (i := 2094) (by decide +kernel), List.mem_of_getElem? (i := 2095) (by decide +kernel)⟩
theorem lw_p122 : lw_okq (⟨"RealHouseModel", "commonOf", "(II)I"⟩, 86) := ⟨⟨by decide +kernel, by decide +kernel⟩, List.mem_of_getElem? (i := 1588) (by decide +kernel), List.mem_of_getElem? (i := 2098) (by decide +kernel), List.mem_of_getElem? (i := 2099) (by decide +kernel)⟩
theorem lw_p123 : lw_okq (⟨"RealHouseModel", "smaller", "(I)I"⟩, 86) := ⟨⟨by decide +kernel, by decide +kernel⟩, List.mem_of_getElem? (i := 1588) (by decide +kernel), List.mem_of_getElem? (i := 2102) (by decide +kernel), List.mem_of_getElem? (i := 2103) (by decide +kernel)⟩
theorem lw_p124 : lw_okq (⟨"RealHouseModel", "remainder", "(II)I"⟩, 86) := ⟨⟨by decide +kernel, by decide +kernel⟩, List.mem_of_getElem? (i := 1588) (by decide +kernel), List.mem_of_getElem? (i := 2106) (by decide +kernel), List.mem_of_getElem? (i := 2107) (by decide +kernel)⟩
theorem lw_p125 : lw_okq (⟨"RealHouseModel", "step", "(II)I"⟩, 86) := ⟨⟨by decide +kernel, by decide +kernel⟩, List.mem_of_getElem? (i := 1588) (by decide +kernel), List.mem_of_getElem? (i := 2110) (by decide +kernel), List.mem_of_getElem? (i := 2111) (by decide +kernel)⟩
theorem lw_p126 : lw_okq (⟨"RealHouseModel", "degree", "(I)I"⟩, 86) := ⟨⟨by decide +kernel, by decide +kernel⟩, List.mem_of_getElem? (i := 1588) (by decide +kernel), List.mem_of_getElem? (i := 2115) (by decide +kernel), List.mem_of_getElem? (i := 2116) (by decide +kernel)⟩
theorem lw_p127 : lw_okq (⟨"RealHouseModel", "plusY", "(III)I"⟩, 86) := ⟨⟨by decide +kernel, by decide +kernel⟩, List.mem_of_getElem? (i := 1588) (by decide +kernel), List.mem_of_getElem? (i := 2119) (by decide +kernel), List.mem_of_getElem? (i := 2120) (by decide +kernel)⟩
def lw_privs_8 : List (MethodName × Nat) := [(⟨"RealHouseModel", "copyList", "(II)I"⟩, 86), (⟨"RealHouseModel", "moveDown", "(III)V"⟩, 86), (⟨"RealHouseModel", "plus", "(III)I"⟩, 86), (⟨"RealHouseModel", "resultant", "(II)I"⟩, 86), (⟨"RealHouseModel", "raised", "(II)I"⟩, 86), (⟨"RealHouseModel", "constant", "(J)I"⟩, 86), (⟨"RealHouseModel", "subresultant", "(III)I"⟩, 86), (⟨"RealHouseModel", "determinant", "(I)I"⟩, 86), (⟨"RealHouseModel", "one", "(I)I"⟩, 86), (⟨"RealHouseModel", "asX", "(I)I"⟩, 86), (⟨"RealHouseModel", "commonOf", "(II)I"⟩, 86), (⟨"RealHouseModel", "smaller", "(I)I"⟩, 86), (⟨"RealHouseModel", "remainder", "(II)I"⟩, 86), (⟨"RealHouseModel", "step", "(II)I"⟩, 86), (⟨"RealHouseModel", "degree", "(I)I"⟩, 86), (⟨"RealHouseModel", "plusY", "(III)I"⟩, 86)]
theorem lw_r8 : ∀ q ∈ lw_privs_8, lw_okq q := List.forall_mem_cons.mpr ⟨lw_p112, List.forall_mem_cons.mpr ⟨lw_p113, List.forall_mem_cons.mpr ⟨lw_p114, List.forall_mem_cons.mpr ⟨lw_p115, List.forall_mem_cons.mpr ⟨lw_p116, List.forall_mem_cons.mpr ⟨lw_p117, List.forall_mem_cons.mpr ⟨lw_p118, List.forall_mem_cons.mpr ⟨lw_p119, List.forall_mem_cons.mpr ⟨lw_p120, List.forall_mem_cons.mpr ⟨lw_p121, List.forall_mem_cons.mpr ⟨lw_p122, List.forall_mem_cons.mpr ⟨lw_p123, List.forall_mem_cons.mpr ⟨lw_p124, List.forall_mem_cons.mpr ⟨lw_p125, List.forall_mem_cons.mpr ⟨lw_p126, List.forall_mem_cons.mpr ⟨lw_p127, fun _ h => absurd h List.not_mem_nil⟩⟩⟩⟩⟩⟩⟩⟩⟩⟩⟩⟩⟩⟩⟩⟩
theorem lw_p128 : lw_okq (⟨"RealHouseModel", "written", "(I)I"⟩, 86) := ⟨⟨by decide +kernel, by decide +kernel⟩, List.mem_of_getElem? (i := 1588) (by decide +kernel), List.mem_of_getElem? (i := 2123) (by decide +kernel), List.mem_of_getElem? (i := 2124) (by decide +kernel)⟩
theorem lw_p129 : lw_okq (⟨"RealHouseModel", "say", "(I)V"⟩, 86) := ⟨⟨by decide +kernel, by decide +kernel⟩, List.mem_of_getElem? (i := 1588) (by decide +kernel), List.mem_of_getElem? (i := 2127) (by decide +kernel), List.mem_of_getElem? (i := 2128) (by decide +kernel)⟩
theorem lw_p130 : lw_okq (⟨"RealHouseModel", "write", "(I)V"⟩, 86) := ⟨⟨by decide +kernel, by decide +kernel⟩, List.mem_of_getElem? (i := 1588) (by decide +kernel), List.mem_of_getElem? (i := 2131) (by decide +kernel), List.mem_of_getElem? (i := 2132) (by decide +kernel)⟩
theorem lw_p131 : lw_okq (⟨"RealHouseModel", "letterPower", "(II)V"⟩, 86) := ⟨⟨by decide +kernel, by decide +kernel⟩, List.mem_of_getElem? (i := 1588) (by decide +kernel), List.mem_of_getElem? (i := 2136) (by decide +kernel), List.mem_of_getElem? (i := 2137) (by decide +kernel)⟩
theorem lw_p132 : lw_okq (⟨"RealHouseModel", "readX", "(I)I"⟩, 86) := ⟨⟨by decide +kernel, by decide +kernel⟩, List.mem_of_getElem? (i := 1588) (by decide +kernel), List.mem_of_getElem? (i := 2144) (by decide +kernel), List.mem_of_getElem? (i := 2145) (by decide +kernel)⟩
theorem lw_p133 : lw_okq (⟨"RealHouseModel", "once", "(I)I"⟩, 86) := ⟨⟨by decide +kernel, by decide +kernel⟩, List.mem_of_getElem? (i := 1588) (by decide +kernel), List.mem_of_getElem? (i := 2148) (by decide +kernel), List.mem_of_getElem? (i := 2149) (by decide +kernel)⟩
theorem lw_p134 : lw_okq (⟨"RealHouseModel", "cofactor", "(II)I"⟩, 86) := ⟨⟨by decide +kernel, by decide +kernel⟩, List.mem_of_getElem? (i := 1588) (by decide +kernel), List.mem_of_getElem? (i := 2152) (by decide +kernel), List.mem_of_getElem? (i := 2153) (by decide +kernel)⟩
theorem lw_p135 : lw_okq (⟨"RealHouseModel", "isolated", "(I)I"⟩, 86) := ⟨⟨by decide +kernel, by decide +kernel⟩, List.mem_of_getElem? (i := 1588) (by decide +kernel), List.mem_of_getElem? (i := 2156) (by decide +kernel), List.mem_of_getElem? (i := 2157) (by decide +kernel)⟩
theorem lw_p136 : lw_okq (⟨"RealHouseModel", "chain", "(I)I"⟩, 86) := ⟨⟨by decide +kernel, by decide +kernel⟩, List.mem_of_getElem? (i := 1588) (by decide +kernel), List.mem_of_getElem? (i := 2160) (by decide +kernel), List.mem_of_getElem? (i := 2161) (by decide +kernel)⟩
theorem lw_p137 : lw_okq (⟨"RealHouseModel", "changes", "(III)I"⟩, 86) := ⟨⟨by decide +kernel, by decide +kernel⟩, List.mem_of_getElem? (i := 1588) (by decide +kernel), List.mem_of_getElem? (i := 2164) (by decide +kernel), List.mem_of_getElem? (i := 2165) (by decide +kernel)⟩
theorem lw_p138 : lw_okq (⟨"RealHouseModel", "signOf", "(III)I"⟩, 86) := ⟨⟨by decide +kernel, by decide +kernel⟩, List.mem_of_getElem? (i := 1588) (by decide +kernel), List.mem_of_getElem? (i := 2168) (by decide +kernel), List.mem_of_getElem? (i := 2169) (by decide +kernel)⟩
theorem lw_p139 : lw_okq (⟨"RealHouseModel", "split", "(IIIIIII)V"⟩, 86) := ⟨⟨by decide +kernel, by decide +kernel⟩, List.mem_of_getElem? (i := 1588) (by decide +kernel), List.mem_of_getElem? (i := 2172) (by decide +kernel), List.mem_of_getElem? (i := 2173) (by decide +kernel)⟩
theorem lw_p140 : lw_okq (⟨"RealHouseModel", "stored", "(III)I"⟩, 86) := ⟨⟨by decide +kernel, by decide +kernel⟩, List.mem_of_getElem? (i := 1588) (by decide +kernel), List.mem_of_getElem? (i := 2176) (by decide +kernel), List.mem_of_getElem? (i := 2177) (by decide +kernel)⟩
theorem lw_p141 : lw_okq (⟨"RealHouseModel", "toRoot", "(I)V"⟩, 86) := ⟨⟨by decide +kernel, by decide +kernel⟩, List.mem_of_getElem? (i := 1588) (by decide +kernel), List.mem_of_getElem? (i := 2184) (by decide +kernel), List.mem_of_getElem? (i := 2185) (by decide +kernel)⟩
theorem lw_p142 : lw_okq (⟨"RealHouseModel", "valueInt", "(I)I"⟩, 86) := ⟨⟨by decide +kernel, by decide +kernel⟩, List.mem_of_getElem? (i := 1588) (by decide +kernel), List.mem_of_getElem? (i := 2188) (by decide +kernel), List.mem_of_getElem? (i := 2189) (by decide +kernel)⟩
theorem lw_p143 : lw_okq (⟨"RealHouseModel", "onLine", "(IIII)V"⟩, 86) := ⟨⟨by decide +kernel, by decide +kernel⟩, List.mem_of_getElem? (i := 1588) (by decide +kernel), List.mem_of_getElem? (i := 2192) (by decide +kernel), List.mem_of_getElem? (i := 2193) (by decide +kernel)⟩
def lw_privs_9 : List (MethodName × Nat) := [(⟨"RealHouseModel", "written", "(I)I"⟩, 86), (⟨"RealHouseModel", "say", "(I)V"⟩, 86), (⟨"RealHouseModel", "write", "(I)V"⟩, 86), (⟨"RealHouseModel", "letterPower", "(II)V"⟩, 86), (⟨"RealHouseModel", "readX", "(I)I"⟩, 86), (⟨"RealHouseModel", "once", "(I)I"⟩, 86), (⟨"RealHouseModel", "cofactor", "(II)I"⟩, 86), (⟨"RealHouseModel", "isolated", "(I)I"⟩, 86), (⟨"RealHouseModel", "chain", "(I)I"⟩, 86), (⟨"RealHouseModel", "changes", "(III)I"⟩, 86), (⟨"RealHouseModel", "signOf", "(III)I"⟩, 86), (⟨"RealHouseModel", "split", "(IIIIIII)V"⟩, 86), (⟨"RealHouseModel", "stored", "(III)I"⟩, 86), (⟨"RealHouseModel", "toRoot", "(I)V"⟩, 86), (⟨"RealHouseModel", "valueInt", "(I)I"⟩, 86), (⟨"RealHouseModel", "onLine", "(IIII)V"⟩, 86)]
theorem lw_r9 : ∀ q ∈ lw_privs_9, lw_okq q := List.forall_mem_cons.mpr ⟨lw_p128, List.forall_mem_cons.mpr ⟨lw_p129, List.forall_mem_cons.mpr ⟨lw_p130, List.forall_mem_cons.mpr ⟨lw_p131, List.forall_mem_cons.mpr ⟨lw_p132, List.forall_mem_cons.mpr ⟨lw_p133, List.forall_mem_cons.mpr ⟨lw_p134, List.forall_mem_cons.mpr ⟨lw_p135, List.forall_mem_cons.mpr ⟨lw_p136, List.forall_mem_cons.mpr ⟨lw_p137, List.forall_mem_cons.mpr ⟨lw_p138, List.forall_mem_cons.mpr ⟨lw_p139, List.forall_mem_cons.mpr ⟨lw_p140, List.forall_mem_cons.mpr ⟨lw_p141, List.forall_mem_cons.mpr ⟨lw_p142, List.forall_mem_cons.mpr ⟨lw_p143, fun _ h => absurd h List.not_mem_nil⟩⟩⟩⟩⟩⟩⟩⟩⟩⟩⟩⟩⟩⟩⟩⟩
theorem lw_p144 : lw_okq (⟨"RealHouseModel", "holdAt", "(II)V"⟩, 86) := ⟨⟨by decide +kernel, by decide +kernel⟩, List.mem_of_getElem? (i := 1588) (by decide +kernel), List.mem_of_getElem? (i := 2197) (by decide +kernel), List.mem_of_getElem? (i := 2198) (by decide +kernel)⟩
theorem lw_p145 : lw_okq (⟨"RealHouseModel", "order", "(II)I"⟩, 86) := ⟨⟨by decide +kernel, by decide +kernel⟩, List.mem_of_getElem? (i := 1588) (by decide +kernel), List.mem_of_getElem? (i := 2202) (by decide +kernel), List.mem_of_getElem? (i := 2203) (by decide +kernel)⟩
theorem lw_p146 : lw_okq (⟨"RealHouseModel", "signAtLine", "(I)I"⟩, 86) := ⟨⟨by decide +kernel, by decide +kernel⟩, List.mem_of_getElem? (i := 1588) (by decide +kernel), List.mem_of_getElem? (i := 2206) (by decide +kernel), List.mem_of_getElem? (i := 2207) (by decide +kernel)⟩
theorem lw_p147 : lw_okq (⟨"RealHouseModel", "range", "(I)V"⟩, 86) := ⟨⟨by decide +kernel, by decide +kernel⟩, List.mem_of_getElem? (i := 1588) (by decide +kernel), List.mem_of_getElem? (i := 2210) (by decide +kernel), List.mem_of_getElem? (i := 2211) (by decide +kernel)⟩
theorem lw_p148 : lw_okq (⟨"RealHouseModel", "smallest", "(II)I"⟩, 86) := ⟨⟨by decide +kernel, by decide +kernel⟩, List.mem_of_getElem? (i := 1588) (by decide +kernel), List.mem_of_getElem? (i := 2214) (by decide +kernel), List.mem_of_getElem? (i := 2215) (by decide +kernel)⟩
theorem lw_p149 : lw_okq (⟨"RealHouseModel", "largest", "(II)I"⟩, 86) := ⟨⟨by decide +kernel, by decide +kernel⟩, List.mem_of_getElem? (i := 1588) (by decide +kernel), List.mem_of_getElem? (i := 2218) (by decide +kernel), List.mem_of_getElem? (i := 2219) (by decide +kernel)⟩
theorem lw_p150 : lw_okq (⟨"RealHouseModel", "halve", "()V"⟩, 86) := ⟨⟨by decide +kernel, by decide +kernel⟩, List.mem_of_getElem? (i := 1588) (by decide +kernel), List.mem_of_getElem? (i := 2222) (by decide +kernel), List.mem_of_getElem? (i := 2223) (by decide +kernel)⟩
theorem lw_p151 : lw_okq (⟨"RealHouseModel", "toldOut", "(I)I"⟩, 86) := ⟨⟨by decide +kernel, by decide +kernel⟩, List.mem_of_getElem? (i := 1588) (by decide +kernel), List.mem_of_getElem? (i := 2230) (by decide +kernel), List.mem_of_getElem? (i := 2231) (by decide +kernel)⟩
theorem lw_p152 : lw_okq (⟨"RealHouseModel", "told", "(I)I"⟩, 86) := ⟨⟨by decide +kernel, by decide +kernel⟩, List.mem_of_getElem? (i := 1588) (by decide +kernel), List.mem_of_getElem? (i := 2234) (by decide +kernel), List.mem_of_getElem? (i := 2235) (by decide +kernel)⟩
theorem lw_p153 : lw_okq (⟨"RealHouseModel", "floor", "(II)I"⟩, 86) := ⟨⟨by decide +kernel, by decide +kernel⟩, List.mem_of_getElem? (i := 1588) (by decide +kernel), List.mem_of_getElem? (i := 2238) (by decide +kernel), List.mem_of_getElem? (i := 2239) (by decide +kernel)⟩
theorem lw_p154 : lw_okq (⟨"RealHouseModel", "compareRoots", "(IIII)I"⟩, 86) := ⟨⟨by decide +kernel, by decide +kernel⟩, List.mem_of_getElem? (i := 1588) (by decide +kernel), List.mem_of_getElem? (i := 2250) (by decide +kernel), List.mem_of_getElem? (i := 2251) (by decide +kernel)⟩
theorem lw_p155 : lw_okq (⟨"RealHouseModel", "four", "(IIIII)I"⟩, 86) := ⟨⟨by decide +kernel, by decide +kernel⟩, List.mem_of_getElem? (i := 1588) (by decide +kernel), List.mem_of_getElem? (i := 2254) (by decide +kernel), List.mem_of_getElem? (i := 2255) (by decide +kernel)⟩
theorem lw_p156 : lw_okq (⟨"RealHouseModel", "isSmall", "(I)Z"⟩, 86) := ⟨⟨by decide +kernel, by decide +kernel⟩, List.mem_of_getElem? (i := 1588) (by decide +kernel), List.mem_of_getElem? (i := 2262) (by decide +kernel), List.mem_of_getElem? (i := 2263) (by decide +kernel)⟩
theorem lw_p157 : lw_okq (⟨"RealHouseModel", "haveCommon", "(II)Z"⟩, 86) := ⟨⟨by decide +kernel, by decide +kernel⟩, List.mem_of_getElem? (i := 1588) (by decide +kernel), List.mem_of_getElem? (i := 2268) (by decide +kernel), List.mem_of_getElem? (i := 2269) (by decide +kernel)⟩
theorem lw_p158 : lw_okq (⟨"RealHouseModel", "commonY", "(II)I"⟩, 86) := ⟨⟨by decide +kernel, by decide +kernel⟩, List.mem_of_getElem? (i := 1588) (by decide +kernel), List.mem_of_getElem? (i := 2273) (by decide +kernel), List.mem_of_getElem? (i := 2274) (by decide +kernel)⟩
theorem lw_p159 : lw_okq (⟨"RealHouseModel", "reduced", "(I)I"⟩, 86) := ⟨⟨by decide +kernel, by decide +kernel⟩, List.mem_of_getElem? (i := 1588) (by decide +kernel), List.mem_of_getElem? (i := 2277) (by decide +kernel), List.mem_of_getElem? (i := 2278) (by decide +kernel)⟩
def lw_privs_10 : List (MethodName × Nat) := [(⟨"RealHouseModel", "holdAt", "(II)V"⟩, 86), (⟨"RealHouseModel", "order", "(II)I"⟩, 86), (⟨"RealHouseModel", "signAtLine", "(I)I"⟩, 86), (⟨"RealHouseModel", "range", "(I)V"⟩, 86), (⟨"RealHouseModel", "smallest", "(II)I"⟩, 86), (⟨"RealHouseModel", "largest", "(II)I"⟩, 86), (⟨"RealHouseModel", "halve", "()V"⟩, 86), (⟨"RealHouseModel", "toldOut", "(I)I"⟩, 86), (⟨"RealHouseModel", "told", "(I)I"⟩, 86), (⟨"RealHouseModel", "floor", "(II)I"⟩, 86), (⟨"RealHouseModel", "compareRoots", "(IIII)I"⟩, 86), (⟨"RealHouseModel", "four", "(IIIII)I"⟩, 86), (⟨"RealHouseModel", "isSmall", "(I)Z"⟩, 86), (⟨"RealHouseModel", "haveCommon", "(II)Z"⟩, 86), (⟨"RealHouseModel", "commonY", "(II)I"⟩, 86), (⟨"RealHouseModel", "reduced", "(I)I"⟩, 86)]
theorem lw_r10 : ∀ q ∈ lw_privs_10, lw_okq q := List.forall_mem_cons.mpr ⟨lw_p144, List.forall_mem_cons.mpr ⟨lw_p145, List.forall_mem_cons.mpr ⟨lw_p146, List.forall_mem_cons.mpr ⟨lw_p147, List.forall_mem_cons.mpr ⟨lw_p148, List.forall_mem_cons.mpr ⟨lw_p149, List.forall_mem_cons.mpr ⟨lw_p150, List.forall_mem_cons.mpr ⟨lw_p151, List.forall_mem_cons.mpr ⟨lw_p152, List.forall_mem_cons.mpr ⟨lw_p153, List.forall_mem_cons.mpr ⟨lw_p154, List.forall_mem_cons.mpr ⟨lw_p155, List.forall_mem_cons.mpr ⟨lw_p156, List.forall_mem_cons.mpr ⟨lw_p157, List.forall_mem_cons.mpr ⟨lw_p158, List.forall_mem_cons.mpr ⟨lw_p159, fun _ h => absurd h List.not_mem_nil⟩⟩⟩⟩⟩⟩⟩⟩⟩⟩⟩⟩⟩⟩⟩⟩
theorem lw_p160 : lw_okq (⟨"RealHouseModel", "valueOf", "(II)I"⟩, 86) := ⟨⟨by decide +kernel, by decide +kernel⟩, List.mem_of_getElem? (i := 1588) (by decide +kernel), List.mem_of_getElem? (i := 2281) (by decide +kernel), List.mem_of_getElem? (i := 2282) (by decide +kernel)⟩
theorem lw_p161 : lw_okq (⟨"RealHouseModel", "takenSteps", "(II)I"⟩, 86) := ⟨⟨by decide +kernel, by decide +kernel⟩, List.mem_of_getElem? (i := 1588) (by decide +kernel), List.mem_of_getElem? (i := 2285) (by decide +kernel), List.mem_of_getElem? (i := 2286) (by decide +kernel)⟩
theorem lw_p162 : lw_okq (⟨"RealHouseModel", "remainderY", "(II)I"⟩, 86) := ⟨⟨by decide +kernel, by decide +kernel⟩, List.mem_of_getElem? (i := 1588) (by decide +kernel), List.mem_of_getElem? (i := 2289) (by decide +kernel), List.mem_of_getElem? (i := 2290) (by decide +kernel)⟩
theorem lw_p163 : lw_okq (⟨"RealHouseModel", "over", "([II)V"⟩, 86) := ⟨⟨by decide +kernel, by decide +kernel⟩, List.mem_of_getElem? (i := 1588) (by decide +kernel), List.mem_of_getElem? (i := 2293) (by decide +kernel), List.mem_of_getElem? (i := 2294) (by decide +kernel)⟩
theorem lw_p164 : lw_okq (⟨"RealHouseModel", "chainY", "(I)I"⟩, 86) := ⟨⟨by decide +kernel, by decide +kernel⟩, List.mem_of_getElem? (i := 1588) (by decide +kernel), List.mem_of_getElem? (i := 2297) (by decide +kernel), List.mem_of_getElem? (i := 2298) (by decide +kernel)⟩
theorem lw_p165 : lw_okq (⟨"RealHouseModel", "negativeY", "(I)I"⟩, 86) := ⟨⟨by decide +kernel, by decide +kernel⟩, List.mem_of_getElem? (i := 1588) (by decide +kernel), List.mem_of_getElem? (i := 2301) (by decide +kernel), List.mem_of_getElem? (i := 2302) (by decide +kernel)⟩
theorem lw_p166 : lw_okq (⟨"RealHouseModel", "isFar", "(I)Z"⟩, 86) := ⟨⟨by decide +kernel, by decide +kernel⟩, List.mem_of_getElem? (i := 1588) (by decide +kernel), List.mem_of_getElem? (i := 2305) (by decide +kernel), List.mem_of_getElem? (i := 2306) (by decide +kernel)⟩
theorem lw_p167 : lw_okq (⟨"RealHouseModel", "signY", "(III)I"⟩, 86) := ⟨⟨by decide +kernel, by decide +kernel⟩, List.mem_of_getElem? (i := 1588) (by decide +kernel), List.mem_of_getElem? (i := 2309) (by decide +kernel), List.mem_of_getElem? (i := 2310) (by decide +kernel)⟩
theorem lw_p168 : lw_okq (⟨"RealHouseModel", "changesY", "(III)I"⟩, 86) := ⟨⟨by decide +kernel, by decide +kernel⟩, List.mem_of_getElem? (i := 1588) (by decide +kernel), List.mem_of_getElem? (i := 2313) (by decide +kernel), List.mem_of_getElem? (i := 2314) (by decide +kernel)⟩
theorem lw_p169 : lw_okq (⟨"RealHouseModel", "changesFar", "(II)I"⟩, 86) := ⟨⟨by decide +kernel, by decide +kernel⟩, List.mem_of_getElem? (i := 1588) (by decide +kernel), List.mem_of_getElem? (i := 2317) (by decide +kernel), List.mem_of_getElem? (i := 2318) (by decide +kernel)⟩
theorem lw_p170 : lw_okq (⟨"RealHouseModel", "cut", "(III)V"⟩, 86) := ⟨⟨by decide +kernel, by decide +kernel⟩, List.mem_of_getElem? (i := 1588) (by decide +kernel), List.mem_of_getElem? (i := 2321) (by decide +kernel), List.mem_of_getElem? (i := 2322) (by decide +kernel)⟩
theorem lw_p171 : lw_okq (⟨"RealHouseModel", "countY", "(IIII)I"⟩, 86) := ⟨⟨by decide +kernel, by decide +kernel⟩, List.mem_of_getElem? (i := 1588) (by decide +kernel), List.mem_of_getElem? (i := 2325) (by decide +kernel), List.mem_of_getElem? (i := 2326) (by decide +kernel)⟩
theorem lw_p172 : lw_okq (⟨"RealHouseModel", "isRootOfAny", "(II)Z"⟩, 86) := ⟨⟨by decide +kernel, by decide +kernel⟩, List.mem_of_getElem? (i := 1588) (by decide +kernel), List.mem_of_getElem? (i := 2329) (by decide +kernel), List.mem_of_getElem? (i := 2330) (by decide +kernel)⟩
theorem lw_p173 : lw_okq (⟨"RealHouseModel", "interval", "()I"⟩, 86) := ⟨⟨by decide +kernel, by decide +kernel⟩, List.mem_of_getElem? (i := 1588) (by decide +kernel), List.mem_of_getElem? (i := 2333) (by decide +kernel), List.mem_of_getElem? (i := 2334) (by decide +kernel)⟩
theorem lw_p174 : lw_okq (⟨"RealHouseModel", "toPoint", "(I)V"⟩, 86) := ⟨⟨by decide +kernel, by decide +kernel⟩, List.mem_of_getElem? (i := 1588) (by decide +kernel), List.mem_of_getElem? (i := 2341) (by decide +kernel), List.mem_of_getElem? (i := 2342) (by decide +kernel)⟩
theorem lw_p175 : lw_okq (⟨"RealHouseModel", "toldY", "(I)I"⟩, 86) := ⟨⟨by decide +kernel, by decide +kernel⟩, List.mem_of_getElem? (i := 1588) (by decide +kernel), List.mem_of_getElem? (i := 2345) (by decide +kernel), List.mem_of_getElem? (i := 2346) (by decide +kernel)⟩
def lw_privs_11 : List (MethodName × Nat) := [(⟨"RealHouseModel", "valueOf", "(II)I"⟩, 86), (⟨"RealHouseModel", "takenSteps", "(II)I"⟩, 86), (⟨"RealHouseModel", "remainderY", "(II)I"⟩, 86), (⟨"RealHouseModel", "over", "([II)V"⟩, 86), (⟨"RealHouseModel", "chainY", "(I)I"⟩, 86), (⟨"RealHouseModel", "negativeY", "(I)I"⟩, 86), (⟨"RealHouseModel", "isFar", "(I)Z"⟩, 86), (⟨"RealHouseModel", "signY", "(III)I"⟩, 86), (⟨"RealHouseModel", "changesY", "(III)I"⟩, 86), (⟨"RealHouseModel", "changesFar", "(II)I"⟩, 86), (⟨"RealHouseModel", "cut", "(III)V"⟩, 86), (⟨"RealHouseModel", "countY", "(IIII)I"⟩, 86), (⟨"RealHouseModel", "isRootOfAny", "(II)Z"⟩, 86), (⟨"RealHouseModel", "interval", "()I"⟩, 86), (⟨"RealHouseModel", "toPoint", "(I)V"⟩, 86), (⟨"RealHouseModel", "toldY", "(I)I"⟩, 86)]
theorem lw_r11 : ∀ q ∈ lw_privs_11, lw_okq q := List.forall_mem_cons.mpr ⟨lw_p160, List.forall_mem_cons.mpr ⟨lw_p161, List.forall_mem_cons.mpr ⟨lw_p162, List.forall_mem_cons.mpr ⟨lw_p163, List.forall_mem_cons.mpr ⟨lw_p164, List.forall_mem_cons.mpr ⟨lw_p165, List.forall_mem_cons.mpr ⟨lw_p166, List.forall_mem_cons.mpr ⟨lw_p167, List.forall_mem_cons.mpr ⟨lw_p168, List.forall_mem_cons.mpr ⟨lw_p169, List.forall_mem_cons.mpr ⟨lw_p170, List.forall_mem_cons.mpr ⟨lw_p171, List.forall_mem_cons.mpr ⟨lw_p172, List.forall_mem_cons.mpr ⟨lw_p173, List.forall_mem_cons.mpr ⟨lw_p174, List.forall_mem_cons.mpr ⟨lw_p175, fun _ h => absurd h List.not_mem_nil⟩⟩⟩⟩⟩⟩⟩⟩⟩⟩⟩⟩⟩⟩⟩⟩
theorem lw_p176 : lw_okq (⟨"RealHouseModel", "floorY", "(II)I"⟩, 86) := ⟨⟨by decide +kernel, by decide +kernel⟩, List.mem_of_getElem? (i := 1588) (by decide +kernel), List.mem_of_getElem? (i := 2349) (by decide +kernel), List.mem_of_getElem? (i := 2350) (by decide +kernel)⟩
theorem lw_p177 : lw_okq (⟨"RealHouseModel", "halveY", "()V"⟩, 86) := ⟨⟨by decide +kernel, by decide +kernel⟩, List.mem_of_getElem? (i := 1588) (by decide +kernel), List.mem_of_getElem? (i := 2353) (by decide +kernel), List.mem_of_getElem? (i := 2354) (by decide +kernel)⟩
theorem lw_p178 : lw_okq (⟨"RealHouseModel", "beginFormula", "()V"⟩, 86) := ⟨⟨by decide +kernel, by decide +kernel⟩, List.mem_of_getElem? (i := 1588) (by decide +kernel), List.mem_of_getElem? (i := 2365) (by decide +kernel), List.mem_of_getElem? (i := 2366) (by decide +kernel)⟩
theorem lw_p179 : lw_okq (⟨"RealHouseModel", "variable", "()I"⟩, 86) := ⟨⟨by decide +kernel, by decide +kernel⟩, List.mem_of_getElem? (i := 1588) (by decide +kernel), List.mem_of_getElem? (i := 2369) (by decide +kernel), List.mem_of_getElem? (i := 2370) (by decide +kernel)⟩
theorem lw_p180 : lw_okq (⟨"RealHouseModel", "unit", "(I)V"⟩, 86) := ⟨⟨by decide +kernel, by decide +kernel⟩, List.mem_of_getElem? (i := 1588) (by decide +kernel), List.mem_of_getElem? (i := 2373) (by decide +kernel), List.mem_of_getElem? (i := 2374) (by decide +kernel)⟩
theorem lw_p181 : lw_okq (⟨"RealHouseModel", "add", "(I)V"⟩, 86) := ⟨⟨by decide +kernel, by decide +kernel⟩, List.mem_of_getElem? (i := 1588) (by decide +kernel), List.mem_of_getElem? (i := 2377) (by decide +kernel), List.mem_of_getElem? (i := 2378) (by decide +kernel)⟩
theorem lw_p182 : lw_okq (⟨"RealHouseModel", "formula", "(I)V"⟩, 86) := ⟨⟨by decide +kernel, by decide +kernel⟩, List.mem_of_getElem? (i := 1588) (by decide +kernel), List.mem_of_getElem? (i := 2381) (by decide +kernel), List.mem_of_getElem? (i := 2382) (by decide +kernel)⟩
theorem lw_p183 : lw_okq (⟨"RealHouseModel", "both", "(I)V"⟩, 86) := ⟨⟨by decide +kernel, by decide +kernel⟩, List.mem_of_getElem? (i := 1588) (by decide +kernel), List.mem_of_getElem? (i := 2385) (by decide +kernel), List.mem_of_getElem? (i := 2386) (by decide +kernel)⟩
theorem lw_p184 : lw_okq (⟨"RealHouseModel", "atom", "(I)V"⟩, 86) := ⟨⟨by decide +kernel, by decide +kernel⟩, List.mem_of_getElem? (i := 1588) (by decide +kernel), List.mem_of_getElem? (i := 2389) (by decide +kernel), List.mem_of_getElem? (i := 2390) (by decide +kernel)⟩
theorem lw_p185 : lw_okq (⟨"RealHouseModel", "isNumber", "(I)Z"⟩, 86) := ⟨⟨by decide +kernel, by decide +kernel⟩, List.mem_of_getElem? (i := 1588) (by decide +kernel), List.mem_of_getElem? (i := 2393) (by decide +kernel), List.mem_of_getElem? (i := 2394) (by decide +kernel)⟩
theorem lw_p186 : lw_okq (⟨"RealHouseModel", "decideAll", "(Z)V"⟩, 86) := ⟨⟨by decide +kernel, by decide +kernel⟩, List.mem_of_getElem? (i := 1588) (by decide +kernel), List.mem_of_getElem? (i := 2397) (by decide +kernel), List.mem_of_getElem? (i := 2398) (by decide +kernel)⟩
theorem lw_p187 : lw_okq (⟨"RealHouseModel", "project", "(I)V"⟩, 86) := ⟨⟨by decide +kernel, by decide +kernel⟩, List.mem_of_getElem? (i := 1588) (by decide +kernel), List.mem_of_getElem? (i := 2401) (by decide +kernel), List.mem_of_getElem? (i := 2402) (by decide +kernel)⟩
theorem lw_p188 : lw_okq (⟨"RealHouseModel", "mayChange", "(I)V"⟩, 86) := ⟨⟨by decide +kernel, by decide +kernel⟩, List.mem_of_getElem? (i := 1588) (by decide +kernel), List.mem_of_getElem? (i := 2405) (by decide +kernel), List.mem_of_getElem? (i := 2406) (by decide +kernel)⟩
theorem lw_p189 : lw_okq (⟨"RealHouseModel", "less", "(I)I"⟩, 86) := ⟨⟨by decide +kernel, by decide +kernel⟩, List.mem_of_getElem? (i := 1588) (by decide +kernel), List.mem_of_getElem? (i := 2409) (by decide +kernel), List.mem_of_getElem? (i := 2410) (by decide +kernel)⟩
theorem lw_p190 : lw_okq (⟨"RealHouseModel", "pairsOf", "(II)V"⟩, 86) := ⟨⟨by decide +kernel, by decide +kernel⟩, List.mem_of_getElem? (i := 1588) (by decide +kernel), List.mem_of_getElem? (i := 2413) (by decide +kernel), List.mem_of_getElem? (i := 2414) (by decide +kernel)⟩
theorem lw_p191 : lw_okq (⟨"RealHouseModel", "toGap", "(I)V"⟩, 86) := ⟨⟨by decide +kernel, by decide +kernel⟩, List.mem_of_getElem? (i := 1588) (by decide +kernel), List.mem_of_getElem? (i := 2417) (by decide +kernel), List.mem_of_getElem? (i := 2418) (by decide +kernel)⟩
def lw_privs_12 : List (MethodName × Nat) := [(⟨"RealHouseModel", "floorY", "(II)I"⟩, 86), (⟨"RealHouseModel", "halveY", "()V"⟩, 86), (⟨"RealHouseModel", "beginFormula", "()V"⟩, 86), (⟨"RealHouseModel", "variable", "()I"⟩, 86), (⟨"RealHouseModel", "unit", "(I)V"⟩, 86), (⟨"RealHouseModel", "add", "(I)V"⟩, 86), (⟨"RealHouseModel", "formula", "(I)V"⟩, 86), (⟨"RealHouseModel", "both", "(I)V"⟩, 86), (⟨"RealHouseModel", "atom", "(I)V"⟩, 86), (⟨"RealHouseModel", "isNumber", "(I)Z"⟩, 86), (⟨"RealHouseModel", "decideAll", "(Z)V"⟩, 86), (⟨"RealHouseModel", "project", "(I)V"⟩, 86), (⟨"RealHouseModel", "mayChange", "(I)V"⟩, 86), (⟨"RealHouseModel", "less", "(I)I"⟩, 86), (⟨"RealHouseModel", "pairsOf", "(II)V"⟩, 86), (⟨"RealHouseModel", "toGap", "(I)V"⟩, 86)]
theorem lw_r12 : ∀ q ∈ lw_privs_12, lw_okq q := List.forall_mem_cons.mpr ⟨lw_p176, List.forall_mem_cons.mpr ⟨lw_p177, List.forall_mem_cons.mpr ⟨lw_p178, List.forall_mem_cons.mpr ⟨lw_p179, List.forall_mem_cons.mpr ⟨lw_p180, List.forall_mem_cons.mpr ⟨lw_p181, List.forall_mem_cons.mpr ⟨lw_p182, List.forall_mem_cons.mpr ⟨lw_p183, List.forall_mem_cons.mpr ⟨lw_p184, List.forall_mem_cons.mpr ⟨lw_p185, List.forall_mem_cons.mpr ⟨lw_p186, List.forall_mem_cons.mpr ⟨lw_p187, List.forall_mem_cons.mpr ⟨lw_p188, List.forall_mem_cons.mpr ⟨lw_p189, List.forall_mem_cons.mpr ⟨lw_p190, List.forall_mem_cons.mpr ⟨lw_p191, fun _ h => absurd h List.not_mem_nil⟩⟩⟩⟩⟩⟩⟩⟩⟩⟩⟩⟩⟩⟩⟩⟩
theorem lw_p192 : lw_okq (⟨"RealHouseModel", "toX", "(I)V"⟩, 86) := ⟨⟨by decide +kernel, by decide +kernel⟩, List.mem_of_getElem? (i := 1588) (by decide +kernel), List.mem_of_getElem? (i := 2421) (by decide +kernel), List.mem_of_getElem? (i := 2422) (by decide +kernel)⟩
theorem lw_p193 : lw_okq (⟨"RealHouseModel", "fromX", "(I)V"⟩, 86) := ⟨⟨by decide +kernel, by decide +kernel⟩, List.mem_of_getElem? (i := 1588) (by decide +kernel), List.mem_of_getElem? (i := 2425) (by decide +kernel), List.mem_of_getElem? (i := 2426) (by decide +kernel)⟩
theorem lw_p194 : lw_okq (⟨"RealHouseModel", "holdsThere", "()Z"⟩, 86) := ⟨⟨by decide +kernel, by decide +kernel⟩, List.mem_of_getElem? (i := 1588) (by decide +kernel), List.mem_of_getElem? (i := 2429) (by decide +kernel), List.mem_of_getElem? (i := 2430) (by decide +kernel)⟩
theorem lw_p195 : lw_okq (⟨"RealHouseModel", "signOn", "(II)I"⟩, 86) := ⟨⟨by decide +kernel, by decide +kernel⟩, List.mem_of_getElem? (i := 1588) (by decide +kernel), List.mem_of_getElem? (i := 2433) (by decide +kernel), List.mem_of_getElem? (i := 2434) (by decide +kernel)⟩
theorem lw_p196 : lw_okq (⟨"RealHouseModel", "holds", "()Z"⟩, 86) := ⟨⟨by decide +kernel, by decide +kernel⟩, List.mem_of_getElem? (i := 1588) (by decide +kernel), List.mem_of_getElem? (i := 2437) (by decide +kernel), List.mem_of_getElem? (i := 2438) (by decide +kernel)⟩
theorem lw_p197 : lw_okq (⟨"RealHouseModel", "setEnd", "(IIZ)V"⟩, 86) := ⟨⟨by decide +kernel, by decide +kernel⟩, List.mem_of_getElem? (i := 1588) (by decide +kernel), List.mem_of_getElem? (i := 2446) (by decide +kernel), List.mem_of_getElem? (i := 2447) (by decide +kernel)⟩
theorem lw_p198 : lw_okq (⟨"RealHouseModel", "plain", "(I)I"⟩, 86) := ⟨⟨by decide +kernel, by decide +kernel⟩, List.mem_of_getElem? (i := 1588) (by decide +kernel), List.mem_of_getElem? (i := 2462) (by decide +kernel), List.mem_of_getElem? (i := 2463) (by decide +kernel)⟩
theorem lw_p199 : lw_okq (⟨"RealHouseModel", "allFactors", "(I)V"⟩, 86) := ⟨⟨by decide +kernel, by decide +kernel⟩, List.mem_of_getElem? (i := 1588) (by decide +kernel), List.mem_of_getElem? (i := 2466) (by decide +kernel), List.mem_of_getElem? (i := 2467) (by decide +kernel)⟩
theorem lw_p200 : lw_okq (⟨"RealHouseModel", "factorOf", "(I)I"⟩, 86) := ⟨⟨by decide +kernel, by decide +kernel⟩, List.mem_of_getElem? (i := 1588) (by decide +kernel), List.mem_of_getElem? (i := 2470) (by decide +kernel), List.mem_of_getElem? (i := 2471) (by decide +kernel)⟩
theorem lw_p201 : lw_okq (⟨"RealHouseModel", "smallFactors", "(I)Z"⟩, 86) := ⟨⟨by decide +kernel, by decide +kernel⟩, List.mem_of_getElem? (i := 1588) (by decide +kernel), List.mem_of_getElem? (i := 2474) (by decide +kernel), List.mem_of_getElem? (i := 2475) (by decide +kernel)⟩
theorem lw_p202 : lw_okq (⟨"RealHouseModel", "ofNumber", "(I)I"⟩, 86) := ⟨⟨by decide +kernel, by decide +kernel⟩, List.mem_of_getElem? (i := 1588) (by decide +kernel), List.mem_of_getElem? (i := 2478) (by decide +kernel), List.mem_of_getElem? (i := 2479) (by decide +kernel)⟩
theorem lw_p203 : lw_okq (⟨"RealHouseModel", "toSmall", "(II)V"⟩, 86) := ⟨⟨by decide +kernel, by decide +kernel⟩, List.mem_of_getElem? (i := 1588) (by decide +kernel), List.mem_of_getElem? (i := 2483) (by decide +kernel), List.mem_of_getElem? (i := 2484) (by decide +kernel)⟩
theorem lw_p204 : lw_okq (⟨"RealHouseModel", "lowered", "(II)V"⟩, 86) := ⟨⟨by decide +kernel, by decide +kernel⟩, List.mem_of_getElem? (i := 1588) (by decide +kernel), List.mem_of_getElem? (i := 2487) (by decide +kernel), List.mem_of_getElem? (i := 2488) (by decide +kernel)⟩
theorem lw_p205 : lw_okq (⟨"RealHouseModel", "monic", "(I)V"⟩, 86) := ⟨⟨by decide +kernel, by decide +kernel⟩, List.mem_of_getElem? (i := 1588) (by decide +kernel), List.mem_of_getElem? (i := 2491) (by decide +kernel), List.mem_of_getElem? (i := 2492) (by decide +kernel)⟩
theorem lw_p206 : lw_okq (⟨"RealHouseModel", "inverse", "(J)J"⟩, 86) := ⟨⟨by decide +kernel, by decide +kernel⟩, List.mem_of_getElem? (i := 1588) (by decide +kernel), List.mem_of_getElem? (i := 2495) (by decide +kernel), List.mem_of_getElem? (i := 2496) (by decide +kernel)⟩
theorem lw_p207 : lw_okq (⟨"RealHouseModel", "commonSmall", "(III)V"⟩, 86) := ⟨⟨by decide +kernel, by decide +kernel⟩, List.mem_of_getElem? (i := 1588) (by decide +kernel), List.mem_of_getElem? (i := 2499) (by decide +kernel), List.mem_of_getElem? (i := 2500) (by decide +kernel)⟩
def lw_privs_13 : List (MethodName × Nat) := [(⟨"RealHouseModel", "toX", "(I)V"⟩, 86), (⟨"RealHouseModel", "fromX", "(I)V"⟩, 86), (⟨"RealHouseModel", "holdsThere", "()Z"⟩, 86), (⟨"RealHouseModel", "signOn", "(II)I"⟩, 86), (⟨"RealHouseModel", "holds", "()Z"⟩, 86), (⟨"RealHouseModel", "setEnd", "(IIZ)V"⟩, 86), (⟨"RealHouseModel", "plain", "(I)I"⟩, 86), (⟨"RealHouseModel", "allFactors", "(I)V"⟩, 86), (⟨"RealHouseModel", "factorOf", "(I)I"⟩, 86), (⟨"RealHouseModel", "smallFactors", "(I)Z"⟩, 86), (⟨"RealHouseModel", "ofNumber", "(I)I"⟩, 86), (⟨"RealHouseModel", "toSmall", "(II)V"⟩, 86), (⟨"RealHouseModel", "lowered", "(II)V"⟩, 86), (⟨"RealHouseModel", "monic", "(I)V"⟩, 86), (⟨"RealHouseModel", "inverse", "(J)J"⟩, 86), (⟨"RealHouseModel", "commonSmall", "(III)V"⟩, 86)]
theorem lw_r13 : ∀ q ∈ lw_privs_13, lw_okq q := List.forall_mem_cons.mpr ⟨lw_p192, List.forall_mem_cons.mpr ⟨lw_p193, List.forall_mem_cons.mpr ⟨lw_p194, List.forall_mem_cons.mpr ⟨lw_p195, List.forall_mem_cons.mpr ⟨lw_p196, List.forall_mem_cons.mpr ⟨lw_p197, List.forall_mem_cons.mpr ⟨lw_p198, List.forall_mem_cons.mpr ⟨lw_p199, List.forall_mem_cons.mpr ⟨lw_p200, List.forall_mem_cons.mpr ⟨lw_p201, List.forall_mem_cons.mpr ⟨lw_p202, List.forall_mem_cons.mpr ⟨lw_p203, List.forall_mem_cons.mpr ⟨lw_p204, List.forall_mem_cons.mpr ⟨lw_p205, List.forall_mem_cons.mpr ⟨lw_p206, List.forall_mem_cons.mpr ⟨lw_p207, fun _ h => absurd h List.not_mem_nil⟩⟩⟩⟩⟩⟩⟩⟩⟩⟩⟩⟩⟩⟩⟩⟩
theorem lw_p208 : lw_okq (⟨"RealHouseModel", "copySmall", "(II)V"⟩, 86) := ⟨⟨by decide +kernel, by decide +kernel⟩, List.mem_of_getElem? (i := 1588) (by decide +kernel), List.mem_of_getElem? (i := 2503) (by decide +kernel), List.mem_of_getElem? (i := 2504) (by decide +kernel)⟩
theorem lw_p209 : lw_okq (⟨"RealHouseModel", "reduceSmall", "(III)V"⟩, 86) := ⟨⟨by decide +kernel, by decide +kernel⟩, List.mem_of_getElem? (i := 1588) (by decide +kernel), List.mem_of_getElem? (i := 2507) (by decide +kernel), List.mem_of_getElem? (i := 2508) (by decide +kernel)⟩
theorem lw_p210 : lw_okq (⟨"RealHouseModel", "setSmall", "(III)V"⟩, 86) := ⟨⟨by decide +kernel, by decide +kernel⟩, List.mem_of_getElem? (i := 1588) (by decide +kernel), List.mem_of_getElem? (i := 2511) (by decide +kernel), List.mem_of_getElem? (i := 2512) (by decide +kernel)⟩
theorem lw_p211 : lw_okq (⟨"RealHouseModel", "powerSmall", "(IJII)V"⟩, 86) := ⟨⟨by decide +kernel, by decide +kernel⟩, List.mem_of_getElem? (i := 1588) (by decide +kernel), List.mem_of_getElem? (i := 2515) (by decide +kernel), List.mem_of_getElem? (i := 2516) (by decide +kernel)⟩
theorem lw_p212 : lw_okq (⟨"RealHouseModel", "multiplySmall", "(III)V"⟩, 86) := ⟨⟨by decide +kernel, by decide +kernel⟩, List.mem_of_getElem? (i := 1588) (by decide +kernel), List.mem_of_getElem? (i := 2519) (by decide +kernel), List.mem_of_getElem? (i := 2520) (by decide +kernel)⟩
theorem lw_p213 : lw_okq (⟨"RealHouseModel", "part", "(I)V"⟩, 86) := ⟨⟨by decide +kernel, by decide +kernel⟩, List.mem_of_getElem? (i := 1588) (by decide +kernel), List.mem_of_getElem? (i := 2523) (by decide +kernel), List.mem_of_getElem? (i := 2524) (by decide +kernel)⟩
theorem lw_p214 : lw_okq (⟨"RealHouseModel", "lifted", "(III)I"⟩, 86) := ⟨⟨by decide +kernel, by decide +kernel⟩, List.mem_of_getElem? (i := 1588) (by decide +kernel), List.mem_of_getElem? (i := 2528) (by decide +kernel), List.mem_of_getElem? (i := 2529) (by decide +kernel)⟩
theorem lw_p215 : lw_okq (⟨"RealHouseModel", "bezout", "()V"⟩, 86) := ⟨⟨by decide +kernel, by decide +kernel⟩, List.mem_of_getElem? (i := 1588) (by decide +kernel), List.mem_of_getElem? (i := 2532) (by decide +kernel), List.mem_of_getElem? (i := 2533) (by decide +kernel)⟩
theorem lw_p216 : lw_okq (⟨"RealHouseModel", "smallList", "(I)I"⟩, 86) := ⟨⟨by decide +kernel, by decide +kernel⟩, List.mem_of_getElem? (i := 1588) (by decide +kernel), List.mem_of_getElem? (i := 2536) (by decide +kernel), List.mem_of_getElem? (i := 2537) (by decide +kernel)⟩
theorem lw_p217 : lw_okq (⟨"RealHouseModel", "isAhead", "(II)Z"⟩, 86) := ⟨⟨by decide +kernel, by decide +kernel⟩, List.mem_of_getElem? (i := 1588) (by decide +kernel), List.mem_of_getElem? (i := 2541) (by decide +kernel), List.mem_of_getElem? (i := 2542) (by decide +kernel)⟩
theorem lw_p218 : lw_okq (⟨"RealHouseModel", "ownerOf", "(III)I"⟩, 86) := ⟨⟨by decide +kernel, by decide +kernel⟩, List.mem_of_getElem? (i := 1588) (by decide +kernel), List.mem_of_getElem? (i := 2557) (by decide +kernel), List.mem_of_getElem? (i := 2558) (by decide +kernel)⟩
theorem lw_p219 : lw_okq (⟨"RealHouseModel", "keeps", "(III)I"⟩, 86) := ⟨⟨by decide +kernel, by decide +kernel⟩, List.mem_of_getElem? (i := 1588) (by decide +kernel), List.mem_of_getElem? (i := 2561) (by decide +kernel), List.mem_of_getElem? (i := 2562) (by decide +kernel)⟩
theorem lw_p220 : lw_okq (⟨"RealHouseModel", "isNumberKept", "(I)Z"⟩, 86) := ⟨⟨by decide +kernel, by decide +kernel⟩, List.mem_of_getElem? (i := 1588) (by decide +kernel), List.mem_of_getElem? (i := 2570) (by decide +kernel), List.mem_of_getElem? (i := 2571) (by decide +kernel)⟩
theorem lw_p221 : lw_okq (⟨"RealHouseModel", "turnedOver", "(IZ)I"⟩, 86) := ⟨⟨by decide +kernel, by decide +kernel⟩, List.mem_of_getElem? (i := 1588) (by decide +kernel), List.mem_of_getElem? (i := 2574) (by decide +kernel), List.mem_of_getElem? (i := 2575) (by decide +kernel)⟩
theorem lw_p222 : lw_okq (⟨"RealHouseModel", "constantsY", "(I)I"⟩, 86) := ⟨⟨by decide +kernel, by decide +kernel⟩, List.mem_of_getElem? (i := 1588) (by decide +kernel), List.mem_of_getElem? (i := 2578) (by decide +kernel), List.mem_of_getElem? (i := 2579) (by decide +kernel)⟩
theorem lw_p223 : lw_okq (⟨"RealHouseModel", "ofDifference", "(I)I"⟩, 86) := ⟨⟨by decide +kernel, by decide +kernel⟩, List.mem_of_getElem? (i := 1588) (by decide +kernel), List.mem_of_getElem? (i := 2582) (by decide +kernel), List.mem_of_getElem? (i := 2583) (by decide +kernel)⟩
def lw_privs_14 : List (MethodName × Nat) := [(⟨"RealHouseModel", "copySmall", "(II)V"⟩, 86), (⟨"RealHouseModel", "reduceSmall", "(III)V"⟩, 86), (⟨"RealHouseModel", "setSmall", "(III)V"⟩, 86), (⟨"RealHouseModel", "powerSmall", "(IJII)V"⟩, 86), (⟨"RealHouseModel", "multiplySmall", "(III)V"⟩, 86), (⟨"RealHouseModel", "part", "(I)V"⟩, 86), (⟨"RealHouseModel", "lifted", "(III)I"⟩, 86), (⟨"RealHouseModel", "bezout", "()V"⟩, 86), (⟨"RealHouseModel", "smallList", "(I)I"⟩, 86), (⟨"RealHouseModel", "isAhead", "(II)Z"⟩, 86), (⟨"RealHouseModel", "ownerOf", "(III)I"⟩, 86), (⟨"RealHouseModel", "keeps", "(III)I"⟩, 86), (⟨"RealHouseModel", "isNumberKept", "(I)Z"⟩, 86), (⟨"RealHouseModel", "turnedOver", "(IZ)I"⟩, 86), (⟨"RealHouseModel", "constantsY", "(I)I"⟩, 86), (⟨"RealHouseModel", "ofDifference", "(I)I"⟩, 86)]
theorem lw_r14 : ∀ q ∈ lw_privs_14, lw_okq q := List.forall_mem_cons.mpr ⟨lw_p208, List.forall_mem_cons.mpr ⟨lw_p209, List.forall_mem_cons.mpr ⟨lw_p210, List.forall_mem_cons.mpr ⟨lw_p211, List.forall_mem_cons.mpr ⟨lw_p212, List.forall_mem_cons.mpr ⟨lw_p213, List.forall_mem_cons.mpr ⟨lw_p214, List.forall_mem_cons.mpr ⟨lw_p215, List.forall_mem_cons.mpr ⟨lw_p216, List.forall_mem_cons.mpr ⟨lw_p217, List.forall_mem_cons.mpr ⟨lw_p218, List.forall_mem_cons.mpr ⟨lw_p219, List.forall_mem_cons.mpr ⟨lw_p220, List.forall_mem_cons.mpr ⟨lw_p221, List.forall_mem_cons.mpr ⟨lw_p222, List.forall_mem_cons.mpr ⟨lw_p223, fun _ h => absurd h List.not_mem_nil⟩⟩⟩⟩⟩⟩⟩⟩⟩⟩⟩⟩⟩⟩⟩⟩
theorem lw_p224 : lw_okq (⟨"RealHouseModel", "ofQuotient", "(I)I"⟩, 86) := ⟨⟨by decide +kernel, by decide +kernel⟩, List.mem_of_getElem? (i := 1588) (by decide +kernel), List.mem_of_getElem? (i := 2586) (by decide +kernel), List.mem_of_getElem? (i := 2587) (by decide +kernel)⟩
theorem lw_p225 : lw_okq (⟨"RealHouseModel", "mayLie", "(II)Z"⟩, 86) := ⟨⟨by decide +kernel, by decide +kernel⟩, List.mem_of_getElem? (i := 1588) (by decide +kernel), List.mem_of_getElem? (i := 2590) (by decide +kernel), List.mem_of_getElem? (i := 2591) (by decide +kernel)⟩
theorem lw_p226 : lw_okq (⟨"RealHouseModel", "mayBeQuotient", "(III)Z"⟩, 86) := ⟨⟨by decide +kernel, by decide +kernel⟩, List.mem_of_getElem? (i := 1588) (by decide +kernel), List.mem_of_getElem? (i := 2594) (by decide +kernel), List.mem_of_getElem? (i := 2595) (by decide +kernel)⟩
theorem lw_p227 : lw_okq (⟨"RealHouseModel", "ratio", "(IIII)I"⟩, 86) := ⟨⟨by decide +kernel, by decide +kernel⟩, List.mem_of_getElem? (i := 1588) (by decide +kernel), List.mem_of_getElem? (i := 2598) (by decide +kernel), List.mem_of_getElem? (i := 2599) (by decide +kernel)⟩
theorem lw_p228 : lw_okq (⟨"RealHouseModel", "halveA", "(I)V"⟩, 86) := ⟨⟨by decide +kernel, by decide +kernel⟩, List.mem_of_getElem? (i := 1588) (by decide +kernel), List.mem_of_getElem? (i := 2602) (by decide +kernel), List.mem_of_getElem? (i := 2603) (by decide +kernel)⟩
theorem lw_p229 : lw_okq (⟨"RealHouseModel", "halveB", "(I)V"⟩, 86) := ⟨⟨by decide +kernel, by decide +kernel⟩, List.mem_of_getElem? (i := 1588) (by decide +kernel), List.mem_of_getElem? (i := 2606) (by decide +kernel), List.mem_of_getElem? (i := 2607) (by decide +kernel)⟩
def lw_privs_15 : List (MethodName × Nat) := [(⟨"RealHouseModel", "ofQuotient", "(I)I"⟩, 86), (⟨"RealHouseModel", "mayLie", "(II)Z"⟩, 86), (⟨"RealHouseModel", "mayBeQuotient", "(III)Z"⟩, 86), (⟨"RealHouseModel", "ratio", "(IIII)I"⟩, 86), (⟨"RealHouseModel", "halveA", "(I)V"⟩, 86), (⟨"RealHouseModel", "halveB", "(I)V"⟩, 86)]
theorem lw_r15 : ∀ q ∈ lw_privs_15, lw_okq q := List.forall_mem_cons.mpr ⟨lw_p224, List.forall_mem_cons.mpr ⟨lw_p225, List.forall_mem_cons.mpr ⟨lw_p226, List.forall_mem_cons.mpr ⟨lw_p227, List.forall_mem_cons.mpr ⟨lw_p228, List.forall_mem_cons.mpr ⟨lw_p229, fun _ h => absurd h List.not_mem_nil⟩⟩⟩⟩⟩⟩
def lw_privs : List (MethodName × Nat) := lw_privs_1 ++ (lw_privs_2 ++ (lw_privs_3 ++ (lw_privs_4 ++ (lw_privs_5 ++ (lw_privs_6 ++ (lw_privs_7 ++ (lw_privs_8 ++ (lw_privs_9 ++ (lw_privs_10 ++ (lw_privs_11 ++ (lw_privs_12 ++ (lw_privs_13 ++ (lw_privs_14 ++ (lw_privs_15))))))))))))))
def lw_tbl : List Cond := k2_sels lw_privs ++ tables_1
theorem lw_privs_ok : ∀ q ∈ lw_privs, lw_okq q := by
  show ∀ q ∈ lw_privs_1 ++ (lw_privs_2 ++ (lw_privs_3 ++ (lw_privs_4 ++ (lw_privs_5 ++ (lw_privs_6 ++ (lw_privs_7 ++ (lw_privs_8 ++ (lw_privs_9 ++ (lw_privs_10 ++ (lw_privs_11 ++ (lw_privs_12 ++ (lw_privs_13 ++ (lw_privs_14 ++ (lw_privs_15)))))))))))))), lw_okq q
  exact List.forall_mem_append.mpr ⟨lw_r1, List.forall_mem_append.mpr ⟨lw_r2, List.forall_mem_append.mpr ⟨lw_r3, List.forall_mem_append.mpr ⟨lw_r4, List.forall_mem_append.mpr ⟨lw_r5, List.forall_mem_append.mpr ⟨lw_r6, List.forall_mem_append.mpr ⟨lw_r7, List.forall_mem_append.mpr ⟨lw_r8, List.forall_mem_append.mpr ⟨lw_r9, List.forall_mem_append.mpr ⟨lw_r10, List.forall_mem_append.mpr ⟨lw_r11, List.forall_mem_append.mpr ⟨lw_r12, List.forall_mem_append.mpr ⟨lw_r13, List.forall_mem_append.mpr ⟨lw_r14, lw_r15⟩⟩⟩⟩⟩⟩⟩⟩⟩⟩⟩⟩⟩⟩
end
section
-- an array of arrays of numbers: the instruction that makes it (the kit has no row of it); what is in it is let go
section GRID
def mn_in (comp : ClassId) (M : Nat) (dv : Value) : Cell := { cls := comp, slots := Array.replicate M dv }
def mn_out (cA : ClassId) (N h : Nat) : Nat → Cell
  | 0 => { cls := cA, slots := Array.replicate N .null }
  | i + 1 => (mn_out cA N h i).setSlot i (.ref (h + 1 + i))
def mn_fill (T : State) (cA comp : ClassId) (N M : Nat) (dv : Value) : Nat → State
  | 0 => T.pushCell (mn_out cA N T.heap.size 0)
  | i + 1 => ((mn_fill T cA comp N M dv i).pushCell (mn_in comp M dv)).setCell T.heap.size (mn_out cA N T.heap.size (i + 1))
theorem mn_out_is (cA : ClassId) (N h : Nat) : ∀ i, (mn_out cA N h i).cls = cA ∧ (mn_out cA N h i).vm = .none ∧ (mn_out cA N h i).slots.size = N := by
  intro i
  induction i with
  | zero => exact ⟨rfl, rfl, by simp [mn_out]⟩
  | succ i ih =>
    obtain ⟨a, b, d⟩ := ih
    refine ⟨?_, ?_, ?_⟩
    · simpa [mn_out, Cell.setSlot] using a
    · simpa [mn_out, Cell.setSlot] using b
    · simpa [mn_out, Cell.setSlot] using d
theorem mn_fill_is (T : State) (cA comp : ClassId) (N M : Nat) (dv : Value) : ∀ i, (mn_fill T cA comp N M dv i).vm = T.vm ∧ (mn_fill T cA comp N M dv i).heap.size = T.heap.size + 1 + i ∧ (mn_fill T cA comp N M dv i).slotsUsed = T.slotsUsed + N + i * M ∧ (mn_fill T cA comp N M dv i).heap[T.heap.size]? = some (mn_out cA N T.heap.size i) ∧ (∀ q, q < T.heap.size → (mn_fill T cA comp N M dv i).heap[q]? = T.heap[q]?) := by
  intro i
  induction i with
  | zero =>
    refine ⟨rfl, ?_, ?_, ?_, ?_⟩
    · simp [mn_fill]
    · simp [mn_fill, mn_out]
    · simp [mn_fill]
    · intro q hq
      simp only [mn_fill, State.heap_pushCell]
      rw [Array.getElem?_push, if_neg (Nat.ne_of_lt hq)]
  | succ i ih =>
    obtain ⟨h1, h2, h3, h4, h5⟩ := ih
    refine ⟨?_, ?_, ?_, ?_, ?_⟩
    · exact h1
    · show ((mn_fill T cA comp N M dv i).heap.push _ |>.setIfInBounds _ _).size = _
      simp [h2]; omega
    · show (mn_fill T cA comp N M dv i).slotsUsed + (mn_in comp M dv).slots.size = _
      rw [h3, Nat.succ_mul]
      simp [mn_in]; omega
    · show ((mn_fill T cA comp N M dv i).heap.push _ |>.setIfInBounds _ _)[_]? = _
      rw [Array.getElem?_setIfInBounds_self_of_lt (by simp [h2]; omega)]
    · intro q hq
      show ((mn_fill T cA comp N M dv i).heap.push _ |>.setIfInBounds _ _)[_]? = _
      rw [Array.getElem?_setIfInBounds_ne (by omega), Array.getElem?_push, if_neg (by omega)]
      exact h5 q hq
theorem mn_fill_top (T : State) (f : JFrame) (cA comp : ClassId) (N M : Nat) (dv : Value) : ∀ i, mn_fill (T.setTop f) cA comp N M dv i = (mn_fill T cA comp N M dv i).setTop f := by
  intro i
  induction i with
  | zero => rfl
  | succ i ih => simp only [mn_fill, ih]; rfl
variable {p : Program} {l : Launch} {e : Env} {R : Room} {s : State} {m : MethodId} {args : Array Value} {below : List Frame} {meth : Method} {c : Code} {H : Heap} {locs : List Loc} {cells slots : Nat} {Q : State → Prop}
theorem mn_fill_stand {T : State} (X : Stand p l e R s m args below meth c T locs cells slots) (cA comp : ClassId) (N M : Nat) (dv : Value) : ∀ i, ∃ locs1 : List Loc, Stand p l e R s m args below meth c (mn_fill T cA comp N M dv i) locs1 (cells + 1 + i) (slots + N + i * M) ∧ ∀ q ∈ locs1, q ∈ locs ∨ T.heap.size ≤ q.base := by
  intro i
  induction i with
  | zero =>
    have h := X.pushed (mn_out cA N T.heap.size 0)
    rw [(mn_out_is cA N T.heap.size 0).2.2] at h
    exact ⟨locs, by simpa [mn_fill] using h, fun q hq => Or.inl hq⟩
  | succ i ih =>
    obtain ⟨locs1, X1, hl⟩ := ih
    obtain ⟨h1, h2, h3, h4, h5⟩ := mn_fill_is T cA comp N M dv i
    have hc : ((mn_fill T cA comp N M dv i).pushCell (mn_in comp M dv)).heap[T.heap.size]? = some (mn_out cA N T.heap.size i) := by
      rw [State.heap_pushCell, Array.getElem?_push, if_neg (by omega)]
      exact h4
    have h := (X1.pushed (mn_in comp M dv)).stored hc i (.ref (T.heap.size + 1 + i))
    refine ⟨locs1 ++ [⟨T.heap.size, i⟩], ?_, fun q hq => ?_⟩
    · have e1 : (mn_in comp M dv).slots.size = M := by simp [mn_in]
      rw [e1] at h
      rw [show slots + N + (i + 1) * M = slots + N + i * M + M by rw [Nat.succ_mul]; omega]
      exact h
    · rcases List.mem_append.mp hq with h6 | h6
      · exact hl q h6
      · rw [List.mem_singleton.mp h6]; exact Or.inr (Nat.le_refl _)
theorem mn_rf {t : FieldType} (h : t.isReference = true) (v : Value) (hv : v = .null ∨ ∃ a, v = .ref a) : fits t v = true := by
  rcases hv with rfl | ⟨a, rfl⟩ <;> cases t <;> simp [FieldType.isReference] at h <;> rfl
theorem mn_make {E : CtlPost} {d : Bool} {acts : List Action} {t : State} {cA comp cc : ClassId} {kA kC : Class} {ty : FieldType} {n k : Int32} {N M : Nat} (hN : n.toNatClampNeg = N) (hM : k.toNatClampNeg = M) (hA : t.vm.classes[cA]? = some kA) (hkA : kA.kind = .array comp (.array ty)) (hC : t.vm.classes[comp]? = some kC) (hkC : kC.kind = .array cc ty) (hn : ¬ n < 0) (hk : ¬ k < 0)
    (hl1 : ¬ N > e.platform.arrayLengthLimit) (hh1 : ¬ N * componentBytes (.array ty) > e.platform.maxHeapBytes) (hl2 : ¬ M > e.platform.arrayLengthLimit) (hh2 : ¬ M * componentBytes ty > e.platform.maxHeapBytes) (hdf : fits ty (defaultValue ty) = true)
    (hc : t.heap.size + 1 + N ≤ e.platform.maxCells) (hs : t.slotsUsed + N + N * M ≤ e.platform.maxSlots) {Qm : Addr → Pre}
    (hq : ∀ d' acts', Qm t.heap.size d' acts' (mn_fill t cA comp N M (defaultValue ty) N)) : wp (multianewarray.make cA [n, k]) Qm E e d acts t := by
  subst hN; subst hM
  have hnone : ([k].find? (· < 0)) = none := by simp [hk]
  rw [multianewarray.make]
  simp only [wp_bind', W.ite, hn, if_false, wp_pure', W.theClass, hA, hkA, Option.some.injEq, exists_eq_left']
  refine W.newArray_of hA hkA hl1 hh1 (by omega) (by have := Nat.zero_le (n.toNatClampNeg * k.toNatClampNeg); omega) (mn_rf rfl _ (Or.inl rfl)) (fun acts1 => ?_)
  simp only [hnone]
  rw [ite_self, wp_bind', Std.Legacy.Range.forIn_eq_forIn_range']
  have hsz : ([:n.toNatClampNeg] : Std.Legacy.Range).size = n.toNatClampNeg := by simp [Std.Legacy.Range.size]
  rw [hsz]
  show wp (forIn (List.range' 0 n.toNatClampNeg 1) PUnit.unit _) _ E e d acts1 _
  refine wp_forIn_inv (fun rest u => ∃ i, i ≤ n.toNatClampNeg ∧ rest = List.range' i (n.toNatClampNeg - i) ∧ u = mn_fill t cA comp n.toNatClampNeg k.toNatClampNeg (defaultValue ty) i) _ _ ⟨0, Nat.zero_le _, rfl, rfl⟩ ?_ ?_
  · intro x rest u d2 acts2 Q2 hI hnext
    obtain ⟨i, hi, hl, rfl⟩ := hI
    have hlt : i < n.toNatClampNeg := by
      rcases Nat.lt_or_ge i n.toNatClampNeg with h | h
      · exact h
      · rw [show n.toNatClampNeg - i = 0 by omega] at hl; simp at hl
    rw [show n.toNatClampNeg - i = (n.toNatClampNeg - (i + 1)) + 1 by omega, List.range'_succ] at hl
    obtain ⟨rfl, hrest⟩ := List.cons.inj hl
    obtain ⟨h1, h2, h3, h4, h5⟩ := mn_fill_is t cA comp n.toNatClampNeg k.toNatClampNeg (defaultValue ty) x
    obtain ⟨o1, o2, o3⟩ := mn_out_is cA n.toNatClampNeg t.heap.size x
    have hmul : (x + 1) * k.toNatClampNeg ≤ n.toNatClampNeg * k.toNatClampNeg := Nat.mul_le_mul_right _ hlt
    rw [Nat.succ_mul] at hmul
    simp only [wp_bind']
    rw [multianewarray.make]
    simp only [wp_bind', W.ite, hk, if_false, wp_pure', W.theClass, h1, hC, hkC, Option.some.injEq, exists_eq_left']
    refine W.newArray_of (by rw [h1]; exact hC) hkC hl2 hh2 (by rw [h2]; omega) (by rw [h3]; omega) hdf (fun acts3 => ?_)
    simp only [wp_bind', W.writeLoc, wp_pure']
    refine ⟨mn_out cA n.toNatClampNeg t.heap.size x, ?_, by rw [o2]; simp, by rw [o3]; exact hlt, ?_, hnext _ _ _ ⟨x + 1, hlt, hrest, ?_⟩⟩
    · rw [State.heap_pushCell, Array.getElem?_push, if_neg (by omega)]; exact h4
    · rw [o1, o2]
      simp [State.fitsSlot, State.slotType?, h1, hA, hkA, mn_rf (t := .array ty) rfl _ (Or.inr ⟨_, rfl⟩)]
    · rw [h2]; rfl
  · intro u d2 acts2 hI
    obtain ⟨i, hi, hl, rfl⟩ := hI
    have hiN : i = n.toNatClampNeg := by
      rcases Nat.lt_or_ge i n.toNatClampNeg with h | h
      · rw [show n.toNatClampNeg - i = (n.toNatClampNeg - (i + 1)) + 1 by omega, List.range'_succ] at hl; cases hl
      · omega
    subst hiN
    simp only [wp_pure']
    exact hq _ _
theorem mn_grid {cc : ByteArray} (hexec : p.tables.exec = Jvm.exec) (hb : c.code = cc) {own : String} {index : Nat} {ty : FieldType} (hown : s.vm.findClass own = some m.cls) (hclink : (Cond.classLink own index ("[" ++ (FieldType.array ty).toString)).before args s = true) (hover : (Cond.arrayOver (.array ty)).before args s = true) (harr : (Cond.arrayClass ty).before args s = true)
    {g : JFrame} (hg : g.method = m) (hdg : decode cc g.pc = .ok (.multianewarray index 2, 4)) {n k : Int32} {rest : List Value} (hstack : g.stack = .int k :: .int n :: rest) (hn : ¬ n < 0) (hk : ¬ k < 0) {N M : Nat} (hN : n.toNatClampNeg = N) (hM : k.toNatClampNeg = M) (hb1 : N * 4 ≤ 536870912) (hb2 : M * componentBytes ty ≤ 536870912) (hb3 : M ≤ 536870912) (hdf : fits ty (defaultValue ty) = true) (hcells : cells + (1 + N) ≤ R.cells) (hslots : slots + (N + N * M) ≤ R.slots)
    (kk : ∀ (H1 : Heap) (locs1 : List Loc), H.size ≤ H1.size → (∀ q, q < H.size → H1[q]? = H[q]?) → (∀ q ∈ locs1, q ∈ locs ∨ H.size ≤ q.base) → W p l e R s m args below meth c H1 locs1 (cells + 1 + N) (slots + N + N * M) Q { g with pc := g.pc + 4, stack := .ref H.size :: rest }) : W p l e R s m args below meth c H locs cells slots Q g := by
  intro T hT X
  subst hT; subst hb; subst hg
  have hpl : e.platform.magicAccessors = ({} : Platform).magicAccessors := by rw [X.admits.platform]
  obtain ⟨comp, cA, kA, hcomp, hidx, hkA, hkindA, hnameA⟩ := arrayOverA_spec hover
  obtain ⟨comp', kC, c9, hcomp', hkC, hkindC⟩ := Cond.arrayClass_spec harr
  have ec : comp' = comp := Option.some.inj (hcomp'.symm.trans hcomp)
  subst ec
  obtain ⟨c0, hfc0, hcl⟩ := Cond.classLink_spec hown hclink e.platform hpl
  cases hnameA.symm.trans hfc0
  obtain ⟨hg₁, hwarm₁, hready₁⟩ := State.classEntry (e := e) X.warmed hcl
  generalize T.vm.noted g.method.cls index (.cls cA) = vm₁ at hg₁ hwarm₁ hready₁
  have hal : s.vm.Alike vm₁ := hwarm₁.alike
  obtain ⟨kA₁, hkA₁, heA⟩ := hal.2.2 _ _ hkA
  obtain ⟨kC₁, hkC₁, heC⟩ := hal.2.2 _ _ hkC
  have hkA2 : kA₁.kind = .array comp' (.array ty) := by rw [heA]; exact hkindA
  have hkC2 : kC₁.kind = .array c9 ty := by rw [heC]; exact hkindC
  have X₁ := X.noted hwarm₁
  obtain ⟨hr1, hr2⟩ := X.roomAbove hcells hslots
  obtain ⟨locs1, X2, hl1⟩ := mn_fill_stand X₁ cA comp' N M (defaultValue ty) N
  obtain ⟨f1, f2, f3, f4, f5⟩ := mn_fill_is (T.setVm vm₁) cA comp' N M (defaultValue ty) N
  obtain ⟨t', a1, b1⟩ := kk _ locs1 (by rw [f2]; show T.heap.size ≤ _; exact Nat.le_trans (Nat.le_succ _) (Nat.le_add_right _ _)) f5 hl1 _ rfl X2
  refine ⟨t', ?_, b1⟩
  have q1 : ¬ N > e.platform.arrayLengthLimit := by rw [Launch.admits_arrayLengthLimit X.admits]; omega
  have q2 : ¬ N * componentBytes (.array ty) > e.platform.maxHeapBytes := by
    rw [Launch.admits_maxHeapBytes X.admits]; show ¬ N * 4 > 536870912; omega
  have q3 : ¬ M > e.platform.arrayLengthLimit := by rw [Launch.admits_arrayLengthLimit X.admits]; omega
  have q4 : ¬ M * componentBytes ty > e.platform.maxHeapBytes := by rw [Launch.admits_maxHeapBytes X.admits]; omega
  jvm_step X.here [hexec, hdg]
  simp only [multianewarray.sem, wp_bind', W.resolveClassAt_links (State.method?_setTop g X.here.top) hg₁]
  rw [W.popN, if_neg (by decide)]
  refine ⟨g, State.topJava?_setTop' (s := T.setVm vm₁) g X.here.top, [.int n, .int k], rest, rfl, hstack, ?_⟩
  simp only [List.mapM_cons, List.mapM_nil, wp_bind', wp_pure']
  refine mn_make (kA := kA₁) (kC := kC₁) (comp := comp') (cc := c9) hN hM hkA₁ hkA2 hkC₁ hkC2 hn hk q1 q2 q3 q4 hdf (by show T.heap.size + 1 + _ ≤ _; omega) (by show T.slotsUsed + _ + _ ≤ _; omega) (fun d' acts' => ?_)
  have eS : ((T.setTop g).setVm vm₁).setTop { g with stack := rest } = (T.setVm vm₁).setTop { g with stack := rest } := by
    show ((T.setVm vm₁).setTop g).setTop _ = _
    rw [State.setTop_setTop]
  rw [eS, mn_fill_top]
  simp only [wp_bind', W.mark, W.pushRef, State.topJava?_setTop' _ X2.here.top, Option.some.injEq, exists_eq_left', State.setTop_setTop, State.heap_setTop]
  intro acts
  simp [jvm, X2.here.top]
  exact a1
theorem mn_ref {pc : Nat} {ls : Array Slot} {a : Nat} {rest : List Value} (h : ∀ q : Nat, W p l e R s m args below meth c H locs cells slots Q (F0 m pc ls (.ref q :: rest))) : W p l e R s m args below meth c H locs cells slots Q (F0 m pc ls (.ref a :: rest)) := h a
end GRID
-- an array class over arrays of numbers: it is the same where the tables are alike
def mn_AO (t : FieldType) (U : State) : Prop := (Cond.arrayOver (.array t)).before #[] U = true
theorem mn_AO.moved {t : FieldType} {u U : State} (hvm : u.vm.Alike U.vm) (h : mn_AO t u) : mn_AO t U := by
  obtain ⟨comp, c, k, h1, h2, h3, h4, h5⟩ := arrayOverA_spec h
  obtain ⟨k', hk', he⟩ := hvm.2.2 _ _ h3
  have hi : (U.vm.classes.findIdx? fun (x : Class) => match x.kind with | .array component _ => component == comp | _ => false) = some c := by
    rw [hvm.findIdx?_eq _ (fun _ => rfl)]
    exact h2
  have hkind : k'.kind = .array comp (.array t) := by rw [he]; exact h4
  have f1 : U.vm.findClass (FieldType.array t).toString = some comp := by rw [hvm.findClass]; exact h1
  have f2 : U.vm.findClass ("[" ++ (FieldType.array t).toString) = some c := by rw [hvm.findClass]; exact h5
  unfold mn_AO Cond.before Cond.holds
  simp only [Cond.value]
  rw [f1, Option.bind_some]
  refine (congrArg (fun o : Option Nat => (o.bind (fun c => (U.vm.classes[c]?).map fun (k : Class) => match k.kind with | .array _ ty => decide (ty = FieldType.array t) && decide (U.vm.findClass ("[" ++ (FieldType.array t).toString) = some c) | _ => false) == some true)) hi).trans ?_
  simp [hk', hkind, f2]
end
section
def lw_g : List Cond := lw_tbl.filter goodWord
theorem tb_at {w : Cond} {i : Nat} (h : tables_1[i]? = some w) (hg : goodWord w = true) : w ∈ lw_g := List.mem_filter.mpr ⟨List.mem_append_right _ (List.mem_of_getElem? h), hg⟩
theorem tb_in {ws : List Cond} (ps : List Nat) (h : ws = ps.filterMap (fun i => tables_1[i]?)) (hg : ws.all goodWord = true) : ∀ w ∈ ws, w ∈ lw_g := by
  intro w hw
  have h1 := List.all_eq_true.mp hg w hw
  rw [h] at hw
  obtain ⟨i, -, hi⟩ := List.mem_filterMap.mp hw
  exact tb_at hi h1
theorem tb_sel {q : MethodName × Nat} {i : Nat} (h : lw_privs[i]? = some q) : Cond.selects q.1.cls q.1 q.1 ∈ lw_g := List.mem_filter.mpr ⟨List.mem_append_left _ (List.mem_map.mpr ⟨q, List.mem_of_getElem? h, rfl⟩), rfl⟩
theorem tb_goodIn : GoodIn lw_g lw_g := fun w h => ⟨h, good_of_word (List.mem_filter.mp h).2⟩
theorem tb_good1 {c : Cond} (h : c ∈ lw_g) : GoodIn lw_g (c :: lw_g) := fun w hw => (List.mem_cons.mp hw).elim (fun e => tb_goodIn w (e ▸ h)) (tb_goodIn w)
theorem tb_goodV {own C : String} {idx : Nat} {y : MethodName} {ws : List Cond} (hg : GoodIn lw_g ws) (h1 : Cond.methodLink own idx y ∈ lw_g) (h2 : Cond.instanceMethod y ∈ lw_g) (h3 : Cond.selects C y y ∈ lw_g) (h4 : Cond.initialized C ∈ lw_g) : GoodIn lw_g (wsV own idx C y ws) := by
  intro w hw
  rcases List.mem_append.mp hw with h | h
  · simp only [List.mem_cons, List.not_mem_nil, or_false] at h
    rcases h with rfl | rfl | rfl | rfl
    · exact tb_goodIn _ h1
    · exact tb_goodIn _ h2
    · exact tb_goodIn _ h3
    · exact tb_goodIn _ h4
  · exact hg w h
theorem nm_Q {p : Program} {l : Launch} {e : Env} {R : Room} {s : State} {m : MethodId} {args : Array Value} {below : List Frame} {meth : Method} {c : Code} {H : Heap} {locs : List Loc} {cells slots : Nat} {Q : State → Prop} {g : JFrame} (h : ∀ Q' : State → Prop, Q' = Q → W p l e R s m args below meth c H locs cells slots Q' g) : W p l e R s m args below meth c H locs cells slots Q g := h Q rfl
def px_K (A : Nat → Prop) (U : State) (H : Heap) : Prop := ∃ (t : Nat) (f : Nat → Int32), va_Z "RealHouse$Prime" "PRIMES" "[I" (.ref t) A U H ∧ va_T .int t 16 (fun j => .int (f j)) A U H
theorem px_K.moved {A : Nat → Prop} {u U : State} {H : Heap} (hvm : u.vm.Alike U.vm) (h : px_K A u H) : px_K A U H := by
  obtain ⟨t, f, h1, h2⟩ := h
  exact ⟨t, f, h1.moved hvm, h2.moved hvm⟩
theorem px_K.kept {A : Nat → Prop} {U : State} {H H1 : Heap} (h : px_K A U H) (hq : ∀ a : Nat, a < H.size → ¬ A a → H1[a]? = H[a]?) : px_K A U H1 := by
  obtain ⟨t, f, h1, h2⟩ := h
  exact ⟨t, f, h1.kept hq, h2.kept hq⟩
theorem px_K.narrow {A B : Nat → Prop} {U : State} {H : Heap} (h : px_K A U H) (hAB : ∀ q, B q → A q) : px_K B U H := by
  obtain ⟨t, f, h1, h2⟩ := h
  exact ⟨t, f, h1.narrow hAB, h2.narrow hAB⟩
def nx_K (U : State) : Prop := va_AO "RealHouse$Real" U ∧ va_AO "RealHouse$Curve" U ∧ va_AO "RealHouse$Poly" U ∧ va_AO "RealHouse$Big" U ∧ mn_AO .long U ∧ mn_AO .int U ∧ va_Nw (.methodLinkNest "RealHouse$Desk" 11 ⟨"RealHouse$Big", "<init>", "()V"⟩ "RealHouse") U ∧ va_Nw (.methodLinkNest "RealHouse$Splitter" 11 ⟨"RealHouse$Prime", "<init>", "()V"⟩ "RealHouse") U ∧ va_Nw (.methodLinkNest "RealHouse$Splitter" 33 ⟨"RealHouse$Big", "<init>", "()V"⟩ "RealHouse") U ∧ va_Nw (.methodLinkNest "RealHouse$Line" 28 ⟨"RealHouse$Big", "<init>", "()V"⟩ "RealHouse") U ∧ va_Nw (.methodLinkNest "RealHouse$Real" 11 ⟨"RealHouse$Big", "<init>", "()V"⟩ "RealHouse") U ∧ va_Nw (.methodLinkNest "RealHouse$Poly" 50 ⟨"RealHouse$Big", "<init>", "()V"⟩ "RealHouse") U
theorem nx_K.same {u U : State} (e : u.vm = U.vm) (hN : nx_K u) : nx_K U := ⟨va_AO.moved (by rw [e]; exact Vm.Alike.refl _) hN.1, va_AO.moved (by rw [e]; exact Vm.Alike.refl _) hN.2.1, va_AO.moved (by rw [e]; exact Vm.Alike.refl _) hN.2.2.1, va_AO.moved (by rw [e]; exact Vm.Alike.refl _) hN.2.2.2.1, mn_AO.moved (by rw [e]; exact Vm.Alike.refl _) hN.2.2.2.2.1, mn_AO.moved (by rw [e]; exact Vm.Alike.refl _) hN.2.2.2.2.2.1, va_Nw.same rfl e hN.2.2.2.2.2.2.1, va_Nw.same rfl e hN.2.2.2.2.2.2.2.1, va_Nw.same rfl e hN.2.2.2.2.2.2.2.2.1, va_Nw.same rfl e hN.2.2.2.2.2.2.2.2.2.1, va_Nw.same rfl e hN.2.2.2.2.2.2.2.2.2.2.1, va_Nw.same rfl e hN.2.2.2.2.2.2.2.2.2.2.2⟩
theorem nx_K.warm {s U : State} (hW : s.WarmedH U.vm) (hN : nx_K s) : nx_K U := ⟨va_AO.moved hW.alike hN.1, va_AO.moved hW.alike hN.2.1, va_AO.moved hW.alike hN.2.2.1, va_AO.moved hW.alike hN.2.2.2.1, mn_AO.moved hW.alike hN.2.2.2.2.1, mn_AO.moved hW.alike hN.2.2.2.2.2.1, va_Nw.warmM hW hN.2.2.2.2.2.2.1, va_Nw.warmM hW hN.2.2.2.2.2.2.2.1, va_Nw.warmM hW hN.2.2.2.2.2.2.2.2.1, va_Nw.warmM hW hN.2.2.2.2.2.2.2.2.2.1, va_Nw.warmM hW hN.2.2.2.2.2.2.2.2.2.2.1, va_Nw.warmM hW hN.2.2.2.2.2.2.2.2.2.2.2⟩
def R_Big : String := "RealHouse$Big"
def F_Big : u_T := fun k => match k with
  | 0 => ("RealHouse$Big", "d", "[I", false)
  | 1 => ("RealHouse$Big", "n", "I", false)
  | _ => ("RealHouse$Big", "s", "I", false)
def t_Big : Nat → FieldType := fun k => match k with
  | 0 => .array .int
  | 1 => .int
  | _ => .int
theorem n_Big : ∀ a, a < 3 → ∀ b, b < 3 → a ≠ b → (F_Big a).2.1 ≠ (F_Big b).2.1 := by decide +kernel
theorem t_Big_ok : ∀ k, k < 3 → parseFieldDescriptor (F_Big k).2.2.1 = some (t_Big k) := by decide +kernel
theorem i_Big : ∀ w ∈ u_ws R_Big F_Big 3, w ∈ lw_g := tb_in [61, 63, 65] (by decide +kernel) (by decide +kernel)
def R_Cells : String := "RealHouse$Cells"
def F_Cells : u_T := fun k => match k with
  | 0 => ("RealHouse$Cells", "splitter", "LRealHouse$Splitter;", true)
  | 1 => ("RealHouse$Cells", "line", "LRealHouse$Line;", true)
  | 2 => ("RealHouse$Cells", "spare", "LRealHouse$Poly;", true)
  | 3 => ("RealHouse$Cells", "other", "LRealHouse$Poly;", true)
  | 4 => ("RealHouse$Cells", "curve", "[LRealHouse$Curve;", true)
  | 5 => ("RealHouse$Cells", "curves", "I", false)
  | 6 => ("RealHouse$Cells", "meet", "[LRealHouse$Poly;", true)
  | 7 => ("RealHouse$Cells", "shadow", "[LRealHouse$Poly;", true)
  | 8 => ("RealHouse$Cells", "shadows", "I", false)
  | 9 => ("RealHouse$Cells", "base", "[LRealHouse$Poly;", true)
  | 10 => ("RealHouse$Cells", "baseTimes", "[I", true)
  | 11 => ("RealHouse$Cells", "bases", "I", false)
  | 12 => ("RealHouse$Cells", "mark", "[LRealHouse$Real;", true)
  | 13 => ("RealHouse$Cells", "often", "[I", true)
  | 14 => ("RealHouse$Cells", "marks", "I", false)
  | 15 => ("RealHouse$Cells", "column", "[LRealHouse$Real;", true)
  | 16 => ("RealHouse$Cells", "columns", "I", false)
  | 17 => ("RealHouse$Cells", "tie", "LRealHouse$Curve;", true)
  | 18 => ("RealHouse$Cells", "flat", "LRealHouse$Curve;", true)
  | _ => ("RealHouse$Cells", "probe", "LRealHouse$Real;", true)
def t_Cells : Nat → FieldType := fun k => match k with
  | 0 => .object "RealHouse$Splitter"
  | 1 => .object "RealHouse$Line"
  | 2 => .object "RealHouse$Poly"
  | 3 => .object "RealHouse$Poly"
  | 4 => .array (.object "RealHouse$Curve")
  | 5 => .int
  | 6 => .array (.object "RealHouse$Poly")
  | 7 => .array (.object "RealHouse$Poly")
  | 8 => .int
  | 9 => .array (.object "RealHouse$Poly")
  | 10 => .array .int
  | 11 => .int
  | 12 => .array (.object "RealHouse$Real")
  | 13 => .array .int
  | 14 => .int
  | 15 => .array (.object "RealHouse$Real")
  | 16 => .int
  | 17 => .object "RealHouse$Curve"
  | 18 => .object "RealHouse$Curve"
  | _ => .object "RealHouse$Real"
theorem n_Cells : ∀ a, a < 20 → ∀ b, b < 20 → a ≠ b → (F_Cells a).2.1 ≠ (F_Cells b).2.1 := by decide +kernel
theorem t_Cells_ok : ∀ k, k < 20 → parseFieldDescriptor (F_Cells k).2.2.1 = some (t_Cells k) := by decide +kernel
theorem i_Cells : ∀ w ∈ u_ws R_Cells F_Cells 20, w ∈ lw_g := tb_in [575, 577, 579, 581, 583, 585, 587, 589, 591, 593, 595, 597, 599, 601, 603, 605, 607, 609, 611, 613] (by decide +kernel) (by decide +kernel)
def R_Curve : String := "RealHouse$Curve"
def F_Curve : u_T := fun k => match k with
  | _ => ("RealHouse$Curve", "c", "[LRealHouse$Poly;", true)
def t_Curve : Nat → FieldType := fun k => match k with
  | _ => .array (.object "RealHouse$Poly")
theorem n_Curve : ∀ a, a < 1 → ∀ b, b < 1 → a ≠ b → (F_Curve a).2.1 ≠ (F_Curve b).2.1 := by decide +kernel
theorem t_Curve_ok : ∀ k, k < 1 → parseFieldDescriptor (F_Curve k).2.2.1 = some (t_Curve k) := by decide +kernel
theorem i_Curve : ∀ w ∈ u_ws R_Curve F_Curve 1, w ∈ lw_g := tb_in [230] (by decide +kernel) (by decide +kernel)
def R_Desk : String := "RealHouse$Desk"
def F_Desk : u_T := fun k => match k with
  | 0 => ("RealHouse$Desk", "one", "LRealHouse$Big;", true)
  | 1 => ("RealHouse$Desk", "sixty", "LRealHouse$Big;", true)
  | 2 => ("RealHouse$Desk", "spare", "LRealHouse$Big;", true)
  | 3 => ("RealHouse$Desk", "told", "LRealHouse$Big;", true)
  | 4 => ("RealHouse$Desk", "f", "LRealHouse$Big;", true)
  | 5 => ("RealHouse$Desk", "g", "LRealHouse$Big;", true)
  | 6 => ("RealHouse$Desk", "h", "LRealHouse$Big;", true)
  | 7 => ("RealHouse$Desk", "gcd", "LRealHouse$Big;", true)
  | 8 => ("RealHouse$Desk", "gcdA", "LRealHouse$Big;", true)
  | 9 => ("RealHouse$Desk", "gcdB", "LRealHouse$Big;", true)
  | 10 => ("RealHouse$Desk", "gcdQ", "LRealHouse$Big;", true)
  | 11 => ("RealHouse$Desk", "narrow", "[LRealHouse$Big;", true)
  | 12 => ("RealHouse$Desk", "low", "LRealHouse$Big;", true)
  | 13 => ("RealHouse$Desk", "high", "LRealHouse$Big;", true)
  | 14 => ("RealHouse$Desk", "rest", "[LRealHouse$Big;", false)
  | 15 => ("RealHouse$Desk", "under", "[LRealHouse$Big;", false)
  | 16 => ("RealHouse$Desk", "over", "[LRealHouse$Big;", false)
  | 17 => ("RealHouse$Desk", "owner", "LRealHouse$Real;", false)
  | 18 => ("RealHouse$Desk", "tableLevel", "I", false)
  | _ => ("RealHouse$Desk", "tableSize", "I", false)
def t_Desk : Nat → FieldType := fun k => match k with
  | 0 => .object "RealHouse$Big"
  | 1 => .object "RealHouse$Big"
  | 2 => .object "RealHouse$Big"
  | 3 => .object "RealHouse$Big"
  | 4 => .object "RealHouse$Big"
  | 5 => .object "RealHouse$Big"
  | 6 => .object "RealHouse$Big"
  | 7 => .object "RealHouse$Big"
  | 8 => .object "RealHouse$Big"
  | 9 => .object "RealHouse$Big"
  | 10 => .object "RealHouse$Big"
  | 11 => .array (.object "RealHouse$Big")
  | 12 => .object "RealHouse$Big"
  | 13 => .object "RealHouse$Big"
  | 14 => .array (.object "RealHouse$Big")
  | 15 => .array (.object "RealHouse$Big")
  | 16 => .array (.object "RealHouse$Big")
  | 17 => .object "RealHouse$Real"
  | 18 => .int
  | _ => .int
theorem n_Desk : ∀ a, a < 20 → ∀ b, b < 20 → a ≠ b → (F_Desk a).2.1 ≠ (F_Desk b).2.1 := by decide +kernel
theorem t_Desk_ok : ∀ k, k < 20 → parseFieldDescriptor (F_Desk k).2.2.1 = some (t_Desk k) := by decide +kernel
theorem i_Desk : ∀ w ∈ u_ws R_Desk F_Desk 20, w ∈ lw_g := tb_in [136, 138, 140, 142, 144, 146, 148, 150, 152, 154, 156, 158, 160, 162, 164, 166, 168, 170, 172, 174] (by decide +kernel) (by decide +kernel)
def R_Line : String := "RealHouse$Line"
def F_Line : u_T := fun k => match k with
  | 0 => ("RealHouse$Line", "minors", "LRealHouse$Minors;", true)
  | 1 => ("RealHouse$Line", "at", "LRealHouse$Real;", false)
  | 2 => ("RealHouse$Line", "shape", "[LRealHouse$Curve;", true)
  | 3 => ("RealHouse$Line", "core", "[LRealHouse$Curve;", true)
  | 4 => ("RealHouse$Line", "slope", "LRealHouse$Curve;", true)
  | 5 => ("RealHouse$Line", "common", "LRealHouse$Curve;", true)
  | 6 => ("RealHouse$Line", "work", "[LRealHouse$Poly;", true)
  | 7 => ("RealHouse$Line", "here", "LRealHouse$Big;", true)
  | 8 => ("RealHouse$Line", "there", "LRealHouse$Big;", true)
  | 9 => ("RealHouse$Line", "scale", "[LRealHouse$Big;", true)
  | 10 => ("RealHouse$Line", "leftSign", "I", false)
  | 11 => ("RealHouse$Line", "c", "[LRealHouse$Big;", true)
  | 12 => ("RealHouse$Line", "k", "[I", true)
  | 13 => ("RealHouse$Line", "side", "[I", true)
  | 14 => ("RealHouse$Line", "owner", "[I", true)
  | 15 => ("RealHouse$Line", "twin", "[I", true)
  | 16 => ("RealHouse$Line", "count", "I", false)
  | 17 => ("RealHouse$Line", "rank", "[I", true)
  | 18 => ("RealHouse$Line", "ranks", "I", false)
  | _ => ("RealHouse$Line", "signs", "[I", true)
def t_Line : Nat → FieldType := fun k => match k with
  | 0 => .object "RealHouse$Minors"
  | 1 => .object "RealHouse$Real"
  | 2 => .array (.object "RealHouse$Curve")
  | 3 => .array (.object "RealHouse$Curve")
  | 4 => .object "RealHouse$Curve"
  | 5 => .object "RealHouse$Curve"
  | 6 => .array (.object "RealHouse$Poly")
  | 7 => .object "RealHouse$Big"
  | 8 => .object "RealHouse$Big"
  | 9 => .array (.object "RealHouse$Big")
  | 10 => .int
  | 11 => .array (.object "RealHouse$Big")
  | 12 => .array .int
  | 13 => .array .int
  | 14 => .array .int
  | 15 => .array .int
  | 16 => .int
  | 17 => .array .int
  | 18 => .int
  | _ => .array .int
theorem n_Line : ∀ a, a < 20 → ∀ b, b < 20 → a ≠ b → (F_Line a).2.1 ≠ (F_Line b).2.1 := by decide +kernel
theorem t_Line_ok : ∀ k, k < 20 → parseFieldDescriptor (F_Line k).2.2.1 = some (t_Line k) := by decide +kernel
theorem i_Line : ∀ w ∈ u_ws R_Line F_Line 20, w ∈ lw_g := tb_in [465, 467, 469, 471, 473, 475, 477, 479, 481, 483, 485, 487, 489, 491, 493, 495, 497, 499, 501, 503] (by decide +kernel) (by decide +kernel)
def R_Minors : String := "RealHouse$Minors"
def F_Minors : u_T := fun k => match k with
  | 0 => ("RealHouse$Minors", "desk", "LRealHouse$Desk;", true)
  | 1 => ("RealHouse$Minors", "place", "[LRealHouse$Poly;", true)
  | _ => ("RealHouse$Minors", "minor", "[LRealHouse$Poly;", true)
def t_Minors : Nat → FieldType := fun k => match k with
  | 0 => .object "RealHouse$Desk"
  | 1 => .array (.object "RealHouse$Poly")
  | _ => .array (.object "RealHouse$Poly")
theorem n_Minors : ∀ a, a < 3 → ∀ b, b < 3 → a ≠ b → (F_Minors a).2.1 ≠ (F_Minors b).2.1 := by decide +kernel
theorem t_Minors_ok : ∀ k, k < 3 → parseFieldDescriptor (F_Minors k).2.2.1 = some (t_Minors k) := by decide +kernel
theorem i_Minors : ∀ w ∈ u_ws R_Minors F_Minors 3, w ∈ lw_g := tb_in [422, 424, 426] (by decide +kernel) (by decide +kernel)
def R_Poly : String := "RealHouse$Poly"
def F_Poly : u_T := fun k => match k with
  | 0 => ("RealHouse$Poly", "desk", "LRealHouse$Desk;", true)
  | 1 => ("RealHouse$Poly", "c", "[LRealHouse$Big;", false)
  | _ => ("RealHouse$Poly", "n", "I", false)
def t_Poly : Nat → FieldType := fun k => match k with
  | 0 => .object "RealHouse$Desk"
  | 1 => .array (.object "RealHouse$Big")
  | _ => .int
theorem n_Poly : ∀ a, a < 3 → ∀ b, b < 3 → a ≠ b → (F_Poly a).2.1 ≠ (F_Poly b).2.1 := by decide +kernel
theorem t_Poly_ok : ∀ k, k < 3 → parseFieldDescriptor (F_Poly k).2.2.1 = some (t_Poly k) := by decide +kernel
theorem i_Poly : ∀ w ∈ u_ws R_Poly F_Poly 3, w ∈ lw_g := tb_in [217, 219, 221] (by decide +kernel) (by decide +kernel)
def R_Prime : String := "RealHouse$Prime"
def F_Prime : u_T := fun k => match k with
  | 0 => ("RealHouse$Prime", "row", "[[J", true)
  | 1 => ("RealHouse$Prime", "deg", "[I", true)
  | 2 => ("RealHouse$Prime", "wide", "[J", true)
  | 3 => ("RealHouse$Prime", "p", "J", false)
  | _ => ("RealHouse$Prime", "count", "I", false)
def t_Prime : Nat → FieldType := fun k => match k with
  | 0 => .array (.array .long)
  | 1 => .array .int
  | 2 => .array .long
  | 3 => .long
  | _ => .int
theorem n_Prime : ∀ a, a < 5 → ∀ b, b < 5 → a ≠ b → (F_Prime a).2.1 ≠ (F_Prime b).2.1 := by decide +kernel
theorem t_Prime_ok : ∀ k, k < 5 → parseFieldDescriptor (F_Prime k).2.2.1 = some (t_Prime k) := by decide +kernel
theorem i_Prime : ∀ w ∈ u_ws R_Prime F_Prime 5, w ∈ lw_g := tb_in [336, 338, 340, 342, 344] (by decide +kernel) (by decide +kernel)
def R_Reader : String := "RealHouse$Reader"
def F_Reader : u_T := fun k => match k with
  | 0 => ("RealHouse$Reader", "text", "[I", false)
  | 1 => ("RealHouse$Reader", "size", "I", false)
  | 2 => ("RealHouse$Reader", "at", "I", false)
  | 3 => ("RealHouse$Reader", "fault", "I", false)
  | 4 => ("RealHouse$Reader", "withX", "Z", false)
  | 5 => ("RealHouse$Reader", "withY", "Z", false)
  | 6 => ("RealHouse$Reader", "refused", "Z", false)
  | 7 => ("RealHouse$Reader", "left", "LRealHouse$Curve;", true)
  | 8 => ("RealHouse$Reader", "right", "LRealHouse$Curve;", true)
  | 9 => ("RealHouse$Reader", "told", "LRealHouse$Curve;", true)
  | 10 => ("RealHouse$Reader", "curve", "[LRealHouse$Curve;", true)
  | 11 => ("RealHouse$Reader", "curves", "I", false)
  | 12 => ("RealHouse$Reader", "outer", "I", false)
  | 13 => ("RealHouse$Reader", "inner", "I", false)
  | 14 => ("RealHouse$Reader", "swapped", "Z", false)
  | 15 => ("RealHouse$Reader", "steps", "[I", true)
  | 16 => ("RealHouse$Reader", "stepCount", "I", false)
  | 17 => ("RealHouse$Reader", "stack", "[I", true)
  | _ => ("RealHouse$Reader", "stacked", "I", false)
def t_Reader : Nat → FieldType := fun k => match k with
  | 0 => .array .int
  | 1 => .int
  | 2 => .int
  | 3 => .int
  | 4 => .boolean
  | 5 => .boolean
  | 6 => .boolean
  | 7 => .object "RealHouse$Curve"
  | 8 => .object "RealHouse$Curve"
  | 9 => .object "RealHouse$Curve"
  | 10 => .array (.object "RealHouse$Curve")
  | 11 => .int
  | 12 => .int
  | 13 => .int
  | 14 => .boolean
  | 15 => .array .int
  | 16 => .int
  | 17 => .array .int
  | _ => .int
theorem n_Reader : ∀ a, a < 19 → ∀ b, b < 19 → a ≠ b → (F_Reader a).2.1 ≠ (F_Reader b).2.1 := by decide +kernel
theorem t_Reader_ok : ∀ k, k < 19 → parseFieldDescriptor (F_Reader k).2.2.1 = some (t_Reader k) := by decide +kernel
theorem i_Reader : ∀ w ∈ u_ws R_Reader F_Reader 19, w ∈ lw_g := tb_in [263, 265, 267, 269, 271, 273, 275, 277, 279, 281, 283, 285, 287, 289, 291, 293, 295, 297, 299] (by decide +kernel) (by decide +kernel)
def R_Real : String := "RealHouse$Real"
def F_Real : u_T := fun k => match k with
  | 0 => ("RealHouse$Real", "desk", "LRealHouse$Desk;", true)
  | 1 => ("RealHouse$Real", "m", "LRealHouse$Poly;", true)
  | 2 => ("RealHouse$Real", "c", "LRealHouse$Big;", true)
  | 3 => ("RealHouse$Real", "k", "I", false)
  | 4 => ("RealHouse$Real", "floor", "I", false)
  | _ => ("RealHouse$Real", "ceil", "I", false)
def t_Real : Nat → FieldType := fun k => match k with
  | 0 => .object "RealHouse$Desk"
  | 1 => .object "RealHouse$Poly"
  | 2 => .object "RealHouse$Big"
  | 3 => .int
  | 4 => .int
  | _ => .int
theorem n_Real : ∀ a, a < 6 → ∀ b, b < 6 → a ≠ b → (F_Real a).2.1 ≠ (F_Real b).2.1 := by decide +kernel
theorem t_Real_ok : ∀ k, k < 6 → parseFieldDescriptor (F_Real k).2.2.1 = some (t_Real k) := by decide +kernel
theorem i_Real : ∀ w ∈ u_ws R_Real F_Real 6, w ∈ lw_g := tb_in [533, 535, 537, 539, 541, 543] (by decide +kernel) (by decide +kernel)
def R_Splitter : String := "RealHouse$Splitter"
def F_Splitter : u_T := fun k => match k with
  | 0 => ("RealHouse$Splitter", "desk", "LRealHouse$Desk;", true)
  | 1 => ("RealHouse$Splitter", "prime", "LRealHouse$Prime;", true)
  | 2 => ("RealHouse$Splitter", "found", "[LRealHouse$Poly;", true)
  | 3 => ("RealHouse$Splitter", "often", "[I", true)
  | 4 => ("RealHouse$Splitter", "count", "I", false)
  | 5 => ("RealHouse$Splitter", "lifted", "[LRealHouse$Poly;", true)
  | 6 => ("RealHouse$Splitter", "whole", "LRealHouse$Poly;", true)
  | 7 => ("RealHouse$Splitter", "rest", "LRealHouse$Poly;", true)
  | 8 => ("RealHouse$Splitter", "part", "LRealHouse$Poly;", true)
  | 9 => ("RealHouse$Splitter", "trial", "LRealHouse$Poly;", true)
  | 10 => ("RealHouse$Splitter", "slope", "LRealHouse$Poly;", true)
  | 11 => ("RealHouse$Splitter", "modulus", "LRealHouse$Big;", true)
  | 12 => ("RealHouse$Splitter", "next", "LRealHouse$Big;", true)
  | _ => ("RealHouse$Splitter", "value", "LRealHouse$Big;", true)
def t_Splitter : Nat → FieldType := fun k => match k with
  | 0 => .object "RealHouse$Desk"
  | 1 => .object "RealHouse$Prime"
  | 2 => .array (.object "RealHouse$Poly")
  | 3 => .array .int
  | 4 => .int
  | 5 => .array (.object "RealHouse$Poly")
  | 6 => .object "RealHouse$Poly"
  | 7 => .object "RealHouse$Poly"
  | 8 => .object "RealHouse$Poly"
  | 9 => .object "RealHouse$Poly"
  | 10 => .object "RealHouse$Poly"
  | 11 => .object "RealHouse$Big"
  | 12 => .object "RealHouse$Big"
  | _ => .object "RealHouse$Big"
theorem n_Splitter : ∀ a, a < 14 → ∀ b, b < 14 → a ≠ b → (F_Splitter a).2.1 ≠ (F_Splitter b).2.1 := by decide +kernel
theorem t_Splitter_ok : ∀ k, k < 14 → parseFieldDescriptor (F_Splitter k).2.2.1 = some (t_Splitter k) := by decide +kernel
theorem i_Splitter : ∀ w ∈ u_ws R_Splitter F_Splitter 14, w ∈ lw_g := tb_in [373, 375, 377, 379, 381, 383, 385, 387, 389, 391, 393, 395, 397, 399] (by decide +kernel) (by decide +kernel)
def R_House : String := "RealHouse"
def F_House : u_T := fun k => match k with
  | 0 => ("RealHouse", "desk", "LRealHouse$Desk;", true)
  | 1 => ("RealHouse", "reader", "LRealHouse$Reader;", true)
  | 2 => ("RealHouse", "cells", "LRealHouse$Cells;", true)
  | 3 => ("RealHouse", "tape", "[I", true)
  | 4 => ("RealHouse", "tapeSize", "I", false)
  | 5 => ("RealHouse", "script", "[I", false)
  | 6 => ("RealHouse", "scriptSize", "I", false)
  | 7 => ("RealHouse", "rootAt", "[LRealHouse$Real;", true)
  | 8 => ("RealHouse", "rootTimes", "[I", true)
  | 9 => ("RealHouse", "rootCount", "I", false)
  | 10 => ("RealHouse", "spotX", "[LRealHouse$Real;", true)
  | 11 => ("RealHouse", "spotY", "[LRealHouse$Real;", true)
  | 12 => ("RealHouse", "bond", "[LRealHouse$Curve;", true)
  | 13 => ("RealHouse", "spots", "I", false)
  | 14 => ("RealHouse", "end", "[LRealHouse$Real;", true)
  | 15 => ("RealHouse", "span", "[I", true)
  | 16 => ("RealHouse", "pieces", "I", false)
  | 17 => ("RealHouse", "part", "[LRealHouse$Poly;", true)
  | 18 => ("RealHouse", "partPower", "[I", true)
  | 19 => ("RealHouse", "parts", "I", false)
  | _ => ("RealHouse", "kept", "[LRealHouse$Real;", true)
def t_House : Nat → FieldType := fun k => match k with
  | 0 => .object "RealHouse$Desk"
  | 1 => .object "RealHouse$Reader"
  | 2 => .object "RealHouse$Cells"
  | 3 => .array .int
  | 4 => .int
  | 5 => .array .int
  | 6 => .int
  | 7 => .array (.object "RealHouse$Real")
  | 8 => .array .int
  | 9 => .int
  | 10 => .array (.object "RealHouse$Real")
  | 11 => .array (.object "RealHouse$Real")
  | 12 => .array (.object "RealHouse$Curve")
  | 13 => .int
  | 14 => .array (.object "RealHouse$Real")
  | 15 => .array .int
  | 16 => .int
  | 17 => .array (.object "RealHouse$Poly")
  | 18 => .array .int
  | 19 => .int
  | _ => .array (.object "RealHouse$Real")
theorem n_House : ∀ a, a < 21 → ∀ b, b < 21 → a ≠ b → (F_House a).2.1 ≠ (F_House b).2.1 := by decide +kernel
theorem t_House_ok : ∀ k, k < 21 → parseFieldDescriptor (F_House k).2.2.1 = some (t_House k) := by decide +kernel
theorem i_House : ∀ w ∈ u_ws R_House F_House 21, w ∈ lw_g := tb_in [637, 639, 641, 643, 645, 647, 649, 651, 653, 655, 657, 659, 661, 663, 665, 667, 669, 671, 673, 675, 677] (by decide +kernel) (by decide +kernel)
def R_Model : String := "RealHouseModel"
def F_Model : u_T := fun k => match k with
  | 0 => ("RealHouseModel", "mem", "[I", true)
  | 1 => ("RealHouseModel", "top", "I", false)
  | 2 => ("RealHouseModel", "rest", "I", false)
  | 3 => ("RealHouseModel", "roomEnd", "I", false)
  | 4 => ("RealHouseModel", "f", "I", false)
  | 5 => ("RealHouseModel", "m", "I", false)
  | 6 => ("RealHouseModel", "exact", "Z", false)
  | 7 => ("RealHouseModel", "least", "I", false)
  | 8 => ("RealHouseModel", "greatest", "I", false)
  | 9 => ("RealHouseModel", "found", "I", false)
  | 10 => ("RealHouseModel", "foundMany", "I", false)
  | 11 => ("RealHouseModel", "polys", "[I", true)
  | 12 => ("RealHouseModel", "chains", "[I", true)
  | 13 => ("RealHouseModel", "pairs", "[I", true)
  | 14 => ("RealHouseModel", "polysMany", "I", false)
  | 15 => ("RealHouseModel", "cells", "I", false)
  | 16 => ("RealHouseModel", "cellsMany", "I", false)
  | 17 => ("RealHouseModel", "zeros", "[I", true)
  | 18 => ("RealHouseModel", "tape", "[I", true)
  | 19 => ("RealHouseModel", "outs", "[I", true)
  | 20 => ("RealHouseModel", "text", "[I", true)
  | 21 => ("RealHouseModel", "length", "I", false)
  | 22 => ("RealHouseModel", "outMany", "I", false)
  | 23 => ("RealHouseModel", "size", "I", false)
  | 24 => ("RealHouseModel", "p", "I", false)
  | 25 => ("RealHouseModel", "bad", "I", false)
  | 26 => ("RealHouseModel", "mayX", "Z", false)
  | 27 => ("RealHouseModel", "mayY", "Z", false)
  | 28 => ("RealHouseModel", "rows", "[J", true)
  | 29 => ("RealHouseModel", "digits", "[I", true)
  | 30 => ("RealHouseModel", "entries", "[I", true)
  | 31 => ("RealHouseModel", "minors", "[I", true)
  | 32 => ("RealHouseModel", "rootsMany", "I", false)
  | 33 => ("RealHouseModel", "rootsOf", "I", false)
  | 34 => ("RealHouseModel", "rootsOnce", "I", false)
  | 35 => ("RealHouseModel", "rootsAt", "I", false)
  | 36 => ("RealHouseModel", "pointsMany", "I", false)
  | 37 => ("RealHouseModel", "pointsOf", "I", false)
  | 38 => ("RealHouseModel", "pointX", "[I", true)
  | 39 => ("RealHouseModel", "pointH", "[I", true)
  | 40 => ("RealHouseModel", "pointY", "[I", true)
  | 41 => ("RealHouseModel", "those", "[I", true)
  | 42 => ("RealHouseModel", "yPoly", "I", false)
  | 43 => ("RealHouseModel", "yChain", "I", false)
  | 44 => ("RealHouseModel", "yLow", "I", false)
  | 45 => ("RealHouseModel", "yHigh", "I", false)
  | 46 => ("RealHouseModel", "yExponent", "I", false)
  | 47 => ("RealHouseModel", "does", "[I", true)
  | 48 => ("RealHouseModel", "atomOf", "[I", true)
  | 49 => ("RealHouseModel", "atomRel", "[I", true)
  | 50 => ("RealHouseModel", "doesMany", "I", false)
  | 51 => ("RealHouseModel", "differentMany", "I", false)
  | 52 => ("RealHouseModel", "refused", "Z", false)
  | 53 => ("RealHouseModel", "signs", "[I", true)
  | 54 => ("RealHouseModel", "stack", "[Z", true)
  | 55 => ("RealHouseModel", "xPoly", "[I", true)
  | 56 => ("RealHouseModel", "xRoot", "[I", true)
  | 57 => ("RealHouseModel", "xMany", "I", false)
  | 58 => ("RealHouseModel", "inBoth", "[I", true)
  | 59 => ("RealHouseModel", "inner", "I", false)
  | 60 => ("RealHouseModel", "truth", "[Z", true)
  | 61 => ("RealHouseModel", "piecesMany", "I", false)
  | 62 => ("RealHouseModel", "hasEnd", "[Z", true)
  | 63 => ("RealHouseModel", "belongs", "[Z", true)
  | 64 => ("RealHouseModel", "isSingle", "[Z", true)
  | 65 => ("RealHouseModel", "endPoly", "[I", true)
  | 66 => ("RealHouseModel", "endRoot", "[I", true)
  | 67 => ("RealHouseModel", "prime", "I", false)
  | 68 => ("RealHouseModel", "small", "[[I", true)
  | 69 => ("RealHouseModel", "smallDegree", "[I", true)
  | 70 => ("RealHouseModel", "smallMany", "I", false)
  | 71 => ("RealHouseModel", "irreducible", "[I", true)
  | 72 => ("RealHouseModel", "irreducibleMany", "I", false)
  | 73 => ("RealHouseModel", "stackOf", "[I", true)
  | 74 => ("RealHouseModel", "factorsMany", "I", false)
  | 75 => ("RealHouseModel", "factorAt", "[I", true)
  | 76 => ("RealHouseModel", "factorPower", "[I", true)
  | 77 => ("RealHouseModel", "isKept", "[Z", true)
  | 78 => ("RealHouseModel", "keptPoly", "[I", true)
  | 79 => ("RealHouseModel", "keptRoot", "[I", true)
  | 80 => ("RealHouseModel", "lowA", "I", false)
  | 81 => ("RealHouseModel", "highA", "I", false)
  | 82 => ("RealHouseModel", "expA", "I", false)
  | 83 => ("RealHouseModel", "lowB", "I", false)
  | 84 => ("RealHouseModel", "highB", "I", false)
  | _ => ("RealHouseModel", "expB", "I", false)
def t_Model : Nat → FieldType := fun k => match k with
  | 0 => .array .int
  | 1 => .int
  | 2 => .int
  | 3 => .int
  | 4 => .int
  | 5 => .int
  | 6 => .boolean
  | 7 => .int
  | 8 => .int
  | 9 => .int
  | 10 => .int
  | 11 => .array .int
  | 12 => .array .int
  | 13 => .array .int
  | 14 => .int
  | 15 => .int
  | 16 => .int
  | 17 => .array .int
  | 18 => .array .int
  | 19 => .array .int
  | 20 => .array .int
  | 21 => .int
  | 22 => .int
  | 23 => .int
  | 24 => .int
  | 25 => .int
  | 26 => .boolean
  | 27 => .boolean
  | 28 => .array .long
  | 29 => .array .int
  | 30 => .array .int
  | 31 => .array .int
  | 32 => .int
  | 33 => .int
  | 34 => .int
  | 35 => .int
  | 36 => .int
  | 37 => .int
  | 38 => .array .int
  | 39 => .array .int
  | 40 => .array .int
  | 41 => .array .int
  | 42 => .int
  | 43 => .int
  | 44 => .int
  | 45 => .int
  | 46 => .int
  | 47 => .array .int
  | 48 => .array .int
  | 49 => .array .int
  | 50 => .int
  | 51 => .int
  | 52 => .boolean
  | 53 => .array .int
  | 54 => .array .boolean
  | 55 => .array .int
  | 56 => .array .int
  | 57 => .int
  | 58 => .array .int
  | 59 => .int
  | 60 => .array .boolean
  | 61 => .int
  | 62 => .array .boolean
  | 63 => .array .boolean
  | 64 => .array .boolean
  | 65 => .array .int
  | 66 => .array .int
  | 67 => .int
  | 68 => .array (.array .int)
  | 69 => .array .int
  | 70 => .int
  | 71 => .array .int
  | 72 => .int
  | 73 => .array .int
  | 74 => .int
  | 75 => .array .int
  | 76 => .array .int
  | 77 => .array .boolean
  | 78 => .array .int
  | 79 => .array .int
  | 80 => .int
  | 81 => .int
  | 82 => .int
  | 83 => .int
  | 84 => .int
  | _ => .int
theorem n_Model : ∀ a, a < 86 → ∀ b, b < 86 → a ≠ b → (F_Model a).2.1 ≠ (F_Model b).2.1 := by decide +kernel
theorem t_Model_ok : ∀ k, k < 86 → parseFieldDescriptor (F_Model k).2.2.1 = some (t_Model k) := by decide +kernel
theorem i_Model : ∀ w ∈ u_ws R_Model F_Model 86, w ∈ lw_g := tb_in [1683, 1685, 1687, 1689, 1691, 1693, 1695, 1697, 1699, 1701, 1703, 1705, 1707, 1709, 1711, 1713, 1715, 1717, 1719, 1721, 1723, 1725, 1727, 1729, 1731, 1733, 1735, 1737, 1739, 1741, 1743, 1745, 1747, 1749, 1751, 1753, 1755, 1757, 1759, 1761, 1763, 1765, 1767, 1769, 1771, 1773, 1775, 1777, 1779, 1781, 1783, 1785, 1787, 1789, 1791, 1793, 1795, 1797, 1799, 1801, 1803, 1805, 1807, 1809, 1811, 1813, 1815, 1817, 1819, 1821, 1823, 1825, 1827, 1829, 1831, 1833, 1835, 1837, 1839, 1841, 1843, 1845, 1847, 1849, 1851, 1853] (by decide +kernel) (by decide +kernel)
abbrev classes : List vw_C := [(R_Big, F_Big, 3), (R_Cells, F_Cells, 20), (R_Curve, F_Curve, 1), (R_Desk, F_Desk, 20), (R_Line, F_Line, 20), (R_Minors, F_Minors, 3), (R_Poly, F_Poly, 3), (R_Prime, F_Prime, 5), (R_Reader, F_Reader, 19), (R_Real, F_Real, 6), (R_Splitter, F_Splitter, 14), (R_House, F_House, 21), (R_Model, F_Model, 86)]
end
section
theorem tw_43 : (.methodLink "RealHouse$Big" 3 ⟨"java/lang/Object", "<init>", "()V"⟩ : Cond) ∈ lw_g := tb_at (i := 43) (by decide +kernel) rfl
theorem tw_24 : (.instanceMethod ⟨"java/lang/Object", "<init>", "()V"⟩ : Cond) ∈ lw_g := tb_at (i := 24) (by decide +kernel) rfl
theorem tw_25 : (.code ⟨"java/lang/Object", "<init>", "()V"⟩ object_method_1_code 1 (Option.none : Option Jvm.ClassFile.FieldType) : Cond) ∈ lw_g := tb_at (i := 25) (by decide +kernel) rfl
theorem tw_68 : (.arrayClass .int : Cond) ∈ lw_g := tb_at (i := 68) (by decide +kernel) rfl
theorem tw_44 : (.fieldLink "RealHouse$Big" 9 "RealHouse$Big" "d" "[I" : Cond) ∈ lw_g := tb_at (i := 44) (by decide +kernel) rfl
theorem tw_194 : (.methodLink "RealHouse$Poly" 3 ⟨"java/lang/Object", "<init>", "()V"⟩ : Cond) ∈ lw_g := tb_at (i := 194) (by decide +kernel) rfl
theorem tw_195 : (.classLink "RealHouse$Poly" 9 "RealHouse$Big" : Cond) ∈ lw_g := tb_at (i := 195) (by decide +kernel) rfl
theorem tw_198 : (.fieldLink "RealHouse$Poly" 11 "RealHouse$Poly" "c" "[LRealHouse$Big;" : Cond) ∈ lw_g := tb_at (i := 198) (by decide +kernel) rfl
theorem tw_196 : (.fieldLink "RealHouse$Poly" 17 "RealHouse$Poly" "desk" "LRealHouse$Desk;" : Cond) ∈ lw_g := tb_at (i := 196) (by decide +kernel) rfl
theorem tw_51 : (.fieldLink "RealHouse$Big" 15 "RealHouse$Big" "s" "I" : Cond) ∈ lw_g := tb_at (i := 51) (by decide +kernel) rfl
theorem tw_74 : (.methodLink "RealHouse$Big" 19 ⟨"java/lang/Math", "abs", "(J)J"⟩ : Cond) ∈ lw_g := tb_at (i := 74) (by decide +kernel) rfl
theorem tw_75 : (.static ⟨"java/lang/Math", "abs", "(J)J"⟩ : Cond) ∈ lw_g := tb_at (i := 75) (by decide +kernel) rfl
theorem tw_4 : (.initialized "java/lang/Math" : Cond) ∈ lw_g := tb_at (i := 4) (by decide +kernel) rfl
theorem tw_76 : (.code ⟨"java/lang/Math", "abs", "(J)J"⟩ prog_17_method_61_code 2 (Option.some .long) : Cond) ∈ lw_g := tb_at (i := 76) (by decide +kernel) rfl
theorem tw_47 : (.fieldLink "RealHouse$Big" 25 "RealHouse$Big" "n" "I" : Cond) ∈ lw_g := tb_at (i := 47) (by decide +kernel) rfl
theorem tw_77 : (.constantLong "RealHouse$Big" 28 (1073741823) : Cond) ∈ lw_g := tb_at (i := 77) (by decide +kernel) rfl
theorem tw_83 : (.methodLink "RealHouse$Big" 30 ⟨"java/lang/System", "arraycopy", "(Ljava/lang/Object;ILjava/lang/Object;II)V"⟩ : Cond) ∈ lw_g := tb_at (i := 83) (by decide +kernel) rfl
theorem tw_85 : (.native ⟨"java/lang/System", "arraycopy", "(Ljava/lang/Object;ILjava/lang/Object;II)V"⟩ : Cond) ∈ lw_g := tb_at (i := 85) (by decide +kernel) rfl
theorem tw_84 : (.static ⟨"java/lang/System", "arraycopy", "(Ljava/lang/Object;ILjava/lang/Object;II)V"⟩ : Cond) ∈ lw_g := tb_at (i := 84) (by decide +kernel) rfl
theorem tw_5 : (.initialized "java/lang/System" : Cond) ∈ lw_g := tb_at (i := 5) (by decide +kernel) rfl
abbrev b_Big_init : ByteArray := prog_2_method_1_code
def y_Big_init : MethodName := ⟨"RealHouse$Big", "<init>", "()V"⟩
abbrev w_Big_init : List Cond := .code y_Big_init b_Big_init 1 none :: lw_g
theorem g_Big_init : GoodIn lw_g w_Big_init := tb_good1 (tb_at (i := 42) (by decide +kernel) rfl)
theorem d_Big_init_0 : decode b_Big_init 0 = .ok (.aload_n 0, 1) := by decide +kernel
theorem d_Big_init_1 : decode b_Big_init 1 = .ok (.invokespecial 3, 3) := by decide +kernel
theorem d_Big_init_4 : decode b_Big_init 4 = .ok (.aload_n 0, 1) := by decide +kernel
theorem d_Big_init_5 : decode b_Big_init 5 = .ok (.bipush 6, 2) := by decide +kernel
theorem d_Big_init_7 : decode b_Big_init 7 = .ok (.newarray .int, 2) := by decide +kernel
theorem d_Big_init_9 : decode b_Big_init 9 = .ok (.putfield 9, 3) := by decide +kernel
theorem d_Big_init_12 : decode b_Big_init 12 = .ok (.return_, 1) := by decide +kernel
abbrev b_Poly_init : ByteArray := prog_8_method_1_code
def y_Poly_init : MethodName := ⟨"RealHouse$Poly", "<init>", "(LRealHouse$Desk;)V"⟩
abbrev w_Poly_init : List Cond := .code y_Poly_init b_Poly_init 2 none :: lw_g
theorem g_Poly_init : GoodIn lw_g w_Poly_init := tb_good1 (tb_at (i := 193) (by decide +kernel) rfl)
theorem d_Poly_init_0 : decode b_Poly_init 0 = .ok (.aload_n 0, 1) := by decide +kernel
theorem d_Poly_init_1 : decode b_Poly_init 1 = .ok (.invokespecial 3, 3) := by decide +kernel
theorem d_Poly_init_4 : decode b_Poly_init 4 = .ok (.aload_n 0, 1) := by decide +kernel
theorem d_Poly_init_5 : decode b_Poly_init 5 = .ok (.iconst 0, 1) := by decide +kernel
theorem d_Poly_init_6 : decode b_Poly_init 6 = .ok (.anewarray 9, 3) := by decide +kernel
theorem d_Poly_init_9 : decode b_Poly_init 9 = .ok (.putfield 11, 3) := by decide +kernel
theorem d_Poly_init_12 : decode b_Poly_init 12 = .ok (.aload_n 0, 1) := by decide +kernel
theorem d_Poly_init_13 : decode b_Poly_init 13 = .ok (.aload_n 1, 1) := by decide +kernel
theorem d_Poly_init_14 : decode b_Poly_init 14 = .ok (.putfield 17, 3) := by decide +kernel
theorem d_Poly_init_17 : decode b_Poly_init 17 = .ok (.return_, 1) := by decide +kernel
abbrev b_Big_put : ByteArray := prog_2_method_2_code
def y_Big_put : MethodName := ⟨"RealHouse$Big", "put", "(J)V"⟩
abbrev w_Big_put : List Cond := .code y_Big_put b_Big_put 5 none :: lw_g
theorem g_Big_put : GoodIn lw_g w_Big_put := tb_good1 (tb_at (i := 73) (by decide +kernel) rfl)
theorem d_Big_put_0 : decode b_Big_put 0 = .ok (.aload_n 0, 1) := by decide +kernel
theorem d_Big_put_1 : decode b_Big_put 1 = .ok (.lload_n 1, 1) := by decide +kernel
theorem d_Big_put_2 : decode b_Big_put 2 = .ok (.lconst 0, 1) := by decide +kernel
theorem d_Big_put_3 : decode b_Big_put 3 = .ok (.lcmp, 1) := by decide +kernel
theorem d_Big_put_4 : decode b_Big_put 4 = .ok (.ifCond .le 7, 3) := by decide +kernel
theorem d_Big_put_7 : decode b_Big_put 7 = .ok (.iconst 1, 1) := by decide +kernel
theorem d_Big_put_8 : decode b_Big_put 8 = .ok (.goto 14, 3) := by decide +kernel
theorem d_Big_put_11 : decode b_Big_put 11 = .ok (.lload_n 1, 1) := by decide +kernel
theorem d_Big_put_12 : decode b_Big_put 12 = .ok (.lconst 0, 1) := by decide +kernel
theorem d_Big_put_13 : decode b_Big_put 13 = .ok (.lcmp, 1) := by decide +kernel
theorem d_Big_put_14 : decode b_Big_put 14 = .ok (.ifCond .ge 7, 3) := by decide +kernel
theorem d_Big_put_17 : decode b_Big_put 17 = .ok (.iconst (-1), 1) := by decide +kernel
theorem d_Big_put_18 : decode b_Big_put 18 = .ok (.goto 4, 3) := by decide +kernel
theorem d_Big_put_21 : decode b_Big_put 21 = .ok (.iconst 0, 1) := by decide +kernel
theorem d_Big_put_22 : decode b_Big_put 22 = .ok (.putfield 15, 3) := by decide +kernel
theorem d_Big_put_25 : decode b_Big_put 25 = .ok (.lload_n 1, 1) := by decide +kernel
theorem d_Big_put_26 : decode b_Big_put 26 = .ok (.invokestatic 19, 3) := by decide +kernel
theorem d_Big_put_29 : decode b_Big_put 29 = .ok (.lstore_n 3, 1) := by decide +kernel
theorem d_Big_put_30 : decode b_Big_put 30 = .ok (.aload_n 0, 1) := by decide +kernel
theorem d_Big_put_31 : decode b_Big_put 31 = .ok (.iconst 0, 1) := by decide +kernel
theorem d_Big_put_32 : decode b_Big_put 32 = .ok (.putfield 25, 3) := by decide +kernel
theorem d_Big_put_35 : decode b_Big_put 35 = .ok (.lload_n 3, 1) := by decide +kernel
theorem d_Big_put_36 : decode b_Big_put 36 = .ok (.lconst 0, 1) := by decide +kernel
theorem d_Big_put_37 : decode b_Big_put 37 = .ok (.lcmp, 1) := by decide +kernel
theorem d_Big_put_38 : decode b_Big_put 38 = .ok (.ifCond .eq 44, 3) := by decide +kernel
theorem d_Big_put_41 : decode b_Big_put 41 = .ok (.aload_n 0, 1) := by decide +kernel
theorem d_Big_put_42 : decode b_Big_put 42 = .ok (.getfield 25, 3) := by decide +kernel
theorem d_Big_put_45 : decode b_Big_put 45 = .ok (.iconst 3, 1) := by decide +kernel
theorem d_Big_put_46 : decode b_Big_put 46 = .ok (.if_icmp .ge 36, 3) := by decide +kernel
theorem d_Big_put_49 : decode b_Big_put 49 = .ok (.aload_n 0, 1) := by decide +kernel
theorem d_Big_put_50 : decode b_Big_put 50 = .ok (.getfield 9, 3) := by decide +kernel
theorem d_Big_put_53 : decode b_Big_put 53 = .ok (.aload_n 0, 1) := by decide +kernel
theorem d_Big_put_54 : decode b_Big_put 54 = .ok (.getfield 25, 3) := by decide +kernel
theorem d_Big_put_57 : decode b_Big_put 57 = .ok (.lload_n 3, 1) := by decide +kernel
theorem d_Big_put_58 : decode b_Big_put 58 = .ok (.ldc2_w 28, 3) := by decide +kernel
theorem d_Big_put_61 : decode b_Big_put 61 = .ok (.land, 1) := by decide +kernel
theorem d_Big_put_62 : decode b_Big_put 62 = .ok (.l2i, 1) := by decide +kernel
theorem d_Big_put_63 : decode b_Big_put 63 = .ok (.iastore, 1) := by decide +kernel
theorem d_Big_put_64 : decode b_Big_put 64 = .ok (.lload_n 3, 1) := by decide +kernel
theorem d_Big_put_65 : decode b_Big_put 65 = .ok (.bipush 30, 2) := by decide +kernel
theorem d_Big_put_67 : decode b_Big_put 67 = .ok (.lushr, 1) := by decide +kernel
theorem d_Big_put_68 : decode b_Big_put 68 = .ok (.lstore_n 3, 1) := by decide +kernel
theorem d_Big_put_69 : decode b_Big_put 69 = .ok (.aload_n 0, 1) := by decide +kernel
theorem d_Big_put_70 : decode b_Big_put 70 = .ok (.dup, 1) := by decide +kernel
theorem d_Big_put_71 : decode b_Big_put 71 = .ok (.getfield 25, 3) := by decide +kernel
theorem d_Big_put_74 : decode b_Big_put 74 = .ok (.iconst 1, 1) := by decide +kernel
theorem d_Big_put_75 : decode b_Big_put 75 = .ok (.iadd, 1) := by decide +kernel
theorem d_Big_put_76 : decode b_Big_put 76 = .ok (.putfield 25, 3) := by decide +kernel
theorem d_Big_put_79 : decode b_Big_put 79 = .ok (.goto (-44), 3) := by decide +kernel
theorem d_Big_put_82 : decode b_Big_put 82 = .ok (.return_, 1) := by decide +kernel
abbrev b_Big_copy : ByteArray := prog_2_method_3_code
def y_Big_copy : MethodName := ⟨"RealHouse$Big", "copy", "(LRealHouse$Big;)V"⟩
abbrev w_Big_copy : List Cond := .code y_Big_copy b_Big_copy 2 none :: lw_g
theorem g_Big_copy : GoodIn lw_g w_Big_copy := tb_good1 (tb_at (i := 82) (by decide +kernel) rfl)
theorem d_Big_copy_0 : decode b_Big_copy 0 = .ok (.aload_n 0, 1) := by decide +kernel
theorem d_Big_copy_1 : decode b_Big_copy 1 = .ok (.getfield 9, 3) := by decide +kernel
theorem d_Big_copy_4 : decode b_Big_copy 4 = .ok (.arraylength, 1) := by decide +kernel
theorem d_Big_copy_5 : decode b_Big_copy 5 = .ok (.aload_n 1, 1) := by decide +kernel
theorem d_Big_copy_6 : decode b_Big_copy 6 = .ok (.getfield 25, 3) := by decide +kernel
theorem d_Big_copy_9 : decode b_Big_copy 9 = .ok (.if_icmp .ge 15, 3) := by decide +kernel
theorem d_Big_copy_12 : decode b_Big_copy 12 = .ok (.aload_n 0, 1) := by decide +kernel
theorem d_Big_copy_13 : decode b_Big_copy 13 = .ok (.aload_n 1, 1) := by decide +kernel
theorem d_Big_copy_14 : decode b_Big_copy 14 = .ok (.getfield 25, 3) := by decide +kernel
theorem d_Big_copy_17 : decode b_Big_copy 17 = .ok (.iconst 4, 1) := by decide +kernel
theorem d_Big_copy_18 : decode b_Big_copy 18 = .ok (.iadd, 1) := by decide +kernel
theorem d_Big_copy_19 : decode b_Big_copy 19 = .ok (.newarray .int, 2) := by decide +kernel
theorem d_Big_copy_21 : decode b_Big_copy 21 = .ok (.putfield 9, 3) := by decide +kernel
theorem d_Big_copy_24 : decode b_Big_copy 24 = .ok (.aload_n 1, 1) := by decide +kernel
theorem d_Big_copy_25 : decode b_Big_copy 25 = .ok (.getfield 9, 3) := by decide +kernel
theorem d_Big_copy_28 : decode b_Big_copy 28 = .ok (.iconst 0, 1) := by decide +kernel
theorem d_Big_copy_29 : decode b_Big_copy 29 = .ok (.aload_n 0, 1) := by decide +kernel
theorem d_Big_copy_30 : decode b_Big_copy 30 = .ok (.getfield 9, 3) := by decide +kernel
theorem d_Big_copy_33 : decode b_Big_copy 33 = .ok (.iconst 0, 1) := by decide +kernel
theorem d_Big_copy_34 : decode b_Big_copy 34 = .ok (.aload_n 1, 1) := by decide +kernel
theorem d_Big_copy_35 : decode b_Big_copy 35 = .ok (.getfield 25, 3) := by decide +kernel
theorem d_Big_copy_38 : decode b_Big_copy 38 = .ok (.invokestatic 30, 3) := by decide +kernel
theorem d_Big_copy_41 : decode b_Big_copy 41 = .ok (.aload_n 0, 1) := by decide +kernel
theorem d_Big_copy_42 : decode b_Big_copy 42 = .ok (.aload_n 1, 1) := by decide +kernel
theorem d_Big_copy_43 : decode b_Big_copy 43 = .ok (.getfield 25, 3) := by decide +kernel
theorem d_Big_copy_46 : decode b_Big_copy 46 = .ok (.putfield 25, 3) := by decide +kernel
theorem d_Big_copy_49 : decode b_Big_copy 49 = .ok (.aload_n 0, 1) := by decide +kernel
theorem d_Big_copy_50 : decode b_Big_copy 50 = .ok (.aload_n 1, 1) := by decide +kernel
theorem d_Big_copy_51 : decode b_Big_copy 51 = .ok (.getfield 15, 3) := by decide +kernel
theorem d_Big_copy_54 : decode b_Big_copy 54 = .ok (.putfield 15, 3) := by decide +kernel
theorem d_Big_copy_57 : decode b_Big_copy 57 = .ok (.return_, 1) := by decide +kernel
set_option maxHeartbeats 4000000 in
set_option maxRecDepth 100000 in
/-- Big(): six limbs, nothing in them -/
theorem c_Big_init (l : Launch) (dC : Nat → ClassId) (dI : Nat → Nat → Nat) (sz : Nat) (h0 : Nat)  : Met l y_Big_init w_Big_init ({ frames := 1, cells := 1, slots := 6, locals := 12 }) (va_Pc [.ref h0] (fun U => U.heap.size = sz ∧ va_P (dC, dI) classes [(h0, .inr (0, [.null, .int 0, .int 0]))] U.heap ∧ va_K (dC, dI) classes [] U ∧ va_D (fun _ => True) [(h0, .inr (0, [.null, .int 0, .int 0]))] ∧ nx_K U)) (va_Qv (fun _ : Unit => True) (fun _ t => ∃ (q1 : Nat), ∃ (cA1 : ClassId), ∃ (f1 : Nat → Int32), va_P (dC, dI) classes [(h0, .inr (0, [.ref q1, .int 0, .int 0])), (q1, .inl (cA1, 6, .inl f1))] t.heap ∧ va_K (dC, dI) classes [(cA1, .int)] t ∧ va_D (va_A [(h0, .inr (0, [.null, .int 0, .int 0]))] sz) [(h0, .inr (0, [.ref q1, .int 0, .int 0])), (q1, .inl (cA1, 6, .inl f1))]) (va_A [(h0, .inr (0, [.null, .int 0, .int 0]))] sz)) 1 6 (va_A [(h0, .inr (0, [.null, .int 0, .int 0]))] sz) := by
  refine Met.ofW (cc := b_Big_init) (maxL := 1) (ret := none) (by decide) rfl ?_
  intro p e s m args below meth c s₁ B hml hv
  obtain ⟨rfl, hsz, hP, hK, hD0, hN⟩ := hv
  have hx := B.exec
  have hb := B.bytes
  have hr := B.returns
  have hT : ∀ w ∈ lw_g, w.before _ s = true := fun w h => atoms_spec (ws := w_Big_init) B.pre w (List.mem_cons_of_mem _ h)
  have hown : s.vm.findClass R_Big = some m.cls := findClass_of_methodNamed B.named
  have hlocks := B.notSynchronized
  have hin : meth.name = "<init>" := (name_of_methodNamed B.named B.method).1
  subst hsz
  have hD := hD0.self (sz := s.heap.size)
  generalize hAe : va_A [(h0, .inr (0, [.null, .int 0, .int 0]))] s.heap.size = A at hD ⊢
  have hA : ∀ q : Nat, s.heap.size ≤ q → A q := fun q h => by rw [← hAe]; exact Or.inr h
  have hS : va_S A s.heap s.heap [] := va_S.rf
  have hP : va_P (dC, dI) classes [(h0, .inr (0, [.null, .int 0, .int 0]))] s.heap := hP
  have hl := lv_entry ([.ref h0]) (n := 1) (Nat.le_of_ble_eq_true rfl)
  rw [lg_entry_eq]
  generalize (lg_sl ([.ref h0]) ++ List.replicate (1 - (lg_sl ([.ref h0])).length) Slot.unset).toArray = ls at hl ⊢
  have hl : lv_has ls 1 [(0, .ref h0)] := hl
  refine lv_aload_n hx hb d_Big_init_0 rfl (lv_at hl 0 rfl) ?_
  refine W.objInit hx hb hown (hT _ tw_43) (hT _ tw_24) (hT _ tw_25) rfl (by rw [hml]; exact hl.1) rfl d_Big_init_1 (Nat.le_of_ble_eq_true rfl) (Nat.le_of_ble_eq_true rfl) ?_
  refine W.eq (g2 := F0 m 4 ls []) rfl ?_
  refine lv_aload_n hx hb d_Big_init_4 rfl (lv_at hl 0 rfl) ?_
  refine lv_bipush (v := 6) hx hb d_Big_init_5 (by decide) ?_
  refine va_newa (atype := .int) (a0 := (6, .inl (fun _ => 0))) hx hb (hT _ tw_68) rfl hK hP hD hS hA (fun _ => vp_cell_i _ _ _) (by decide) rfl (by decide) (Nat.le_of_ble_eq_true rfl) (Nat.le_of_ble_eq_true rfl) d_Big_init_7 (fun q_1 cA_2 H hK hP hD hS => ?_)
  have hP : va_P (dC, dI) classes [(h0, .inr (0, [.null, .int 0, .int 0])), (q_1, .inl (cA_2, 6, .inl (fun _ => 0)))] H := hP
  have hD : va_D A [(h0, .inr (0, [.null, .int 0, .int 0])), (q_1, .inl (cA_2, 6, .inl (fun _ => 0)))] := hD
  have hK : va_K (dC, dI) classes [(cA_2, .int)] s := hK
  refine W.widen (k := 1) (n := 6) (Nat.le_of_ble_eq_true rfl) (Nat.le_of_ble_eq_true rfl) ?_
  refine va_put (D := (dC, dI)) (ci := 0) (v := .ref q_1) (ty := .array .int) (C := R_Big) (T := F_Big) (N := 3) hx hb hT i_Big t_Big t_Big_ok n_Big hown hK hP hD hS 0 rfl rfl 0 (by decide) (hT _ tw_44) (fun _ h9 => h9) rfl (by decide +kernel) rfl rfl (Nat.le_of_ble_eq_true rfl) d_Big_init_9 (fun H locs hP hD hS => ?_)
  have hP : va_P (dC, dI) classes [(h0, .inr (0, [.ref q_1, .int 0, .int 0])), (q_1, .inl (cA_2, 6, .inl (fun _ => 0)))] H := hP
  have hD : va_D A [(h0, .inr (0, [.ref q_1, .int 0, .int 0])), (q_1, .inl (cA_2, 6, .inl (fun _ => 0)))] := hD
  have hP9 := hP.sub (ws' := [(h0, .inr (0, [.ref q_1, .int 0, .int 0])), (q_1, .inl (cA_2, 6, .inl (fun _ => 0)))]) [0, 1] rfl
  have hD9 := hD.sub (ws' := [(h0, .inr (0, [.ref q_1, .int 0, .int 0])), (q_1, .inl (cA_2, 6, .inl (fun _ => 0)))]) [0, 1] (by decide) rfl
  have hK9 := hK.sub (tys' := [(cA_2, .int)]) [0] rfl
  exact W.vret hx hb hr (fun t ht hW => ⟨⟨(), rfl, trivial, q_1, cA_2, (fun _ => 0), by rw [ht]; exact hP9, va_K.moved hW.alike hK9, hD9⟩, hS.F ht⟩) hS.2.2 d_Big_init_12

set_option maxHeartbeats 4000000 in
set_option maxRecDepth 100000 in
/-- Poly(desk) -/
theorem c_Poly_init (l : Launch) (dC : Nat → ClassId) (dI : Nat → Nat → Nat) (sz : Nat) (h0 : Nat) (dk : Nat)  : Met l y_Poly_init w_Poly_init ({ frames := 1, cells := 1, slots := 0, locals := 12 }) (va_Pc [.ref h0, .ref dk] (fun U => U.heap.size = sz ∧ va_P (dC, dI) classes [(h0, .inr (6, [.null, .null, .int 0]))] U.heap ∧ va_K (dC, dI) classes [] U ∧ va_D (fun _ => True) [(h0, .inr (6, [.null, .null, .int 0]))] ∧ nx_K U)) (va_Qv (fun _ : Unit => True) (fun _ t => ∃ (q1 : Nat), va_P (dC, dI) classes [(h0, .inr (6, [.ref dk, .ref q1, .int 0]))] t.heap ∧ va_K (dC, dI) classes [] t ∧ va_D (va_A [(h0, .inr (6, [.null, .null, .int 0]))] sz) [(h0, .inr (6, [.ref dk, .ref q1, .int 0]))]) (va_A [(h0, .inr (6, [.null, .null, .int 0]))] sz)) 1 0 (va_A [(h0, .inr (6, [.null, .null, .int 0]))] sz) := by
  refine Met.ofW (cc := b_Poly_init) (maxL := 2) (ret := none) (by decide) rfl ?_
  intro p e s m args below meth c s₁ B hml hv
  obtain ⟨rfl, hsz, hP, hK, hD0, hN⟩ := hv
  have hx := B.exec
  have hb := B.bytes
  have hr := B.returns
  have hT : ∀ w ∈ lw_g, w.before _ s = true := fun w h => atoms_spec (ws := w_Poly_init) B.pre w (List.mem_cons_of_mem _ h)
  have hown : s.vm.findClass R_Poly = some m.cls := findClass_of_methodNamed B.named
  have hlocks := B.notSynchronized
  have hin : meth.name = "<init>" := (name_of_methodNamed B.named B.method).1
  subst hsz
  have hD := hD0.self (sz := s.heap.size)
  generalize hAe : va_A [(h0, .inr (6, [.null, .null, .int 0]))] s.heap.size = A at hD ⊢
  have hA : ∀ q : Nat, s.heap.size ≤ q → A q := fun q h => by rw [← hAe]; exact Or.inr h
  have hS : va_S A s.heap s.heap [] := va_S.rf
  have hP : va_P (dC, dI) classes [(h0, .inr (6, [.null, .null, .int 0]))] s.heap := hP
  have hl := lv_entry ([.ref h0, .ref dk]) (n := 2) (Nat.le_of_ble_eq_true rfl)
  rw [lg_entry_eq]
  generalize (lg_sl ([.ref h0, .ref dk]) ++ List.replicate (2 - (lg_sl ([.ref h0, .ref dk])).length) Slot.unset).toArray = ls at hl ⊢
  have hl : lv_has ls 2 [(0, .ref h0), (1, .ref dk)] := hl
  refine lv_aload_n hx hb d_Poly_init_0 rfl (lv_at hl 0 rfl) ?_
  refine W.objInit hx hb hown (hT _ tw_194) (hT _ tw_24) (hT _ tw_25) rfl (by rw [hml]; exact hl.1) rfl d_Poly_init_1 (Nat.le_of_ble_eq_true rfl) (Nat.le_of_ble_eq_true rfl) ?_
  refine W.eq (g2 := F0 m 4 ls []) rfl ?_
  refine lv_aload_n hx hb d_Poly_init_4 rfl (lv_at hl 0 rfl) ?_
  refine lv_iconst (v := 0) hx hb d_Poly_init_5 (by decide) ?_
  refine va_newq hx hb hown (hT _ tw_195) hN.2.2.2.1 hK hP hD hS hA (by decide) rfl (by decide) (Nat.le_of_ble_eq_true rfl) (Nat.le_of_ble_eq_true rfl) d_Poly_init_6 (fun q_1 cA_2 H hK hP hD hS => ?_)
  have hP : va_P (dC, dI) classes [(h0, .inr (6, [.null, .null, .int 0])), (q_1, .inl (cA_2, 0, .inr (.inr (.inr (.inr (fun _ => none))))))] H := hP
  have hD : va_D A [(h0, .inr (6, [.null, .null, .int 0])), (q_1, .inl (cA_2, 0, .inr (.inr (.inr (.inr (fun _ => none))))))] := hD
  have hK : va_K (dC, dI) classes [(cA_2, .object "RealHouse$Big")] s := hK
  refine W.widen (k := 1) (n := 0) (Nat.le_of_ble_eq_true rfl) (Nat.le_of_ble_eq_true rfl) ?_
  refine va_put (D := (dC, dI)) (ci := 6) (v := .ref q_1) (ty := .array (.object "RealHouse$Big")) (C := R_Poly) (T := F_Poly) (N := 3) hx hb hT i_Poly t_Poly t_Poly_ok n_Poly hown hK hP hD hS 0 rfl rfl 1 (by decide) (hT _ tw_198) (fun _ h9 => h9) rfl (by decide +kernel) rfl rfl (Nat.le_of_ble_eq_true rfl) d_Poly_init_9 (fun H locs hP hD hS => ?_)
  have hP : va_P (dC, dI) classes [(h0, .inr (6, [.null, .ref q_1, .int 0])), (q_1, .inl (cA_2, 0, .inr (.inr (.inr (.inr (fun _ => none))))))] H := hP
  have hD : va_D A [(h0, .inr (6, [.null, .ref q_1, .int 0])), (q_1, .inl (cA_2, 0, .inr (.inr (.inr (.inr (fun _ => none))))))] := hD
  refine lv_aload_n hx hb d_Poly_init_12 rfl (lv_at hl 0 rfl) ?_
  refine lv_aload_n hx hb d_Poly_init_13 rfl (lv_at hl 1 rfl) ?_
  refine va_putF (D := (dC, dI)) (ci := 6) (v := .ref dk) (ty := .object "RealHouse$Desk") (C := R_Poly) (T := F_Poly) (N := 3) hx hb hT i_Poly t_Poly t_Poly_ok n_Poly hown hK hP hD hS 0 rfl rfl 0 (by decide) (hT _ tw_196) (fun _ h9 => h9) rfl hin rfl (by decide +kernel) rfl rfl (Nat.le_of_ble_eq_true rfl) d_Poly_init_14 (fun H locs hP hD hS => ?_)
  have hP : va_P (dC, dI) classes [(h0, .inr (6, [.ref dk, .ref q_1, .int 0])), (q_1, .inl (cA_2, 0, .inr (.inr (.inr (.inr (fun _ => none))))))] H := hP
  have hD : va_D A [(h0, .inr (6, [.ref dk, .ref q_1, .int 0])), (q_1, .inl (cA_2, 0, .inr (.inr (.inr (.inr (fun _ => none))))))] := hD
  have hP9 := hP.sub (ws' := [(h0, .inr (6, [.ref dk, .ref q_1, .int 0]))]) [0] rfl
  have hD9 := hD.sub (ws' := [(h0, .inr (6, [.ref dk, .ref q_1, .int 0]))]) [0] (by decide) rfl
  have hK9 := hK.sub (tys' := []) [] rfl
  exact W.vret hx hb hr (fun t ht hW => ⟨⟨(), rfl, trivial, q_1, by rw [ht]; exact hP9, va_K.moved hW.alike hK9, hD9⟩, hS.F ht⟩) hS.2.2 d_Poly_init_17

set_option maxHeartbeats 4000000 in
set_option maxRecDepth 100000 in
/-- put(v): shape alone -/
theorem c_Big_put (l : Launch) (dC : Nat → ClassId) (dI : Nat → Nat → Nat) (sz : Nat) (h0 : Nat) (q0 : Nat) (cA0 : ClassId) (D0 : Nat) (f0 : Nat → Int32) (n0 : Int32) (s0 : Int32) (v0 : Int64) (hD0 : 3 ≤ D0) (hD1 : D0 < 2 ^ 31) : Met l y_Big_put w_Big_put ({ frames := 1, cells := 0, slots := 0, locals := 13 }) (va_Pc [.ref h0, .long v0] (fun U => U.heap.size = sz ∧ va_P (dC, dI) classes [(h0, .inr (0, [.ref q0, .int n0, .int s0])), (q0, .inl (cA0, D0, .inl f0))] U.heap ∧ va_K (dC, dI) classes [(cA0, .int)] U ∧ va_D (fun _ => True) [(h0, .inr (0, [.ref q0, .int n0, .int s0])), (q0, .inl (cA0, D0, .inl f0))] ∧ nx_K U)) (va_Qv (fun _ : Unit => True) (fun _ t => ∃ (f1 : Nat → Int32), ∃ (k1 : Nat), ∃ (s1 : Int32), (k1 ≤ 3) ∧ va_P (dC, dI) classes [(h0, .inr (0, [.ref q0, .int (nI k1), .int s1])), (q0, .inl (cA0, D0, .inl f1))] t.heap ∧ va_K (dC, dI) classes [(cA0, .int)] t ∧ va_D (va_A [(h0, .inr (0, [.ref q0, .int n0, .int s0])), (q0, .inl (cA0, D0, .inl f0))] sz) [(h0, .inr (0, [.ref q0, .int (nI k1), .int s1])), (q0, .inl (cA0, D0, .inl f1))]) (va_A [(h0, .inr (0, [.ref q0, .int n0, .int s0])), (q0, .inl (cA0, D0, .inl f0))] sz)) 0 0 (va_A [(h0, .inr (0, [.ref q0, .int n0, .int s0])), (q0, .inl (cA0, D0, .inl f0))] sz) := by
  refine Met.ofW (cc := b_Big_put) (maxL := 5) (ret := none) (by decide) rfl ?_
  intro p e s m args below meth c s₁ B hml hv
  obtain ⟨rfl, hsz, hP, hK, hD0, hN⟩ := hv
  have hx := B.exec
  have hb := B.bytes
  have hr := B.returns
  have hT : ∀ w ∈ lw_g, w.before _ s = true := fun w h => atoms_spec (ws := w_Big_put) B.pre w (List.mem_cons_of_mem _ h)
  have hown : s.vm.findClass R_Big = some m.cls := findClass_of_methodNamed B.named
  have hlocks := B.notSynchronized
  subst hsz
  have hD := hD0.self (sz := s.heap.size)
  generalize hAe : va_A [(h0, .inr (0, [.ref q0, .int n0, .int s0])), (q0, .inl (cA0, D0, .inl f0))] s.heap.size = A at hD ⊢
  have hA : ∀ q : Nat, s.heap.size ≤ q → A q := fun q h => by rw [← hAe]; exact Or.inr h
  have hS : va_S A s.heap s.heap [] := va_S.rf
  have hP : va_P (dC, dI) classes [(h0, .inr (0, [.ref q0, .int n0, .int s0])), (q0, .inl (cA0, D0, .inl f0))] s.heap := hP
  have hl := lv_entry ([.ref h0, .long v0]) (n := 5) (Nat.le_of_ble_eq_true rfl)
  rw [lg_entry_eq]
  generalize (lg_sl ([.ref h0, .long v0]) ++ List.replicate (5 - (lg_sl ([.ref h0, .long v0])).length) Slot.unset).toArray = ls at hl ⊢
  have hl : lv_has ls 5 [(0, .ref h0), (1, .long v0)] := hl
  refine lv_aload_n hx hb d_Big_put_0 rfl (lv_at hl 0 rfl) ?_
  refine lv_lload_n hx hb d_Big_put_1 rfl (lv_at hl 1 rfl) ?_
  refine lv_lconst (v := 0) hx hb d_Big_put_2 (by decide) ?_
  refine W.lcmp hx hb d_Big_put_3 ?_
  refine lv_topi (fun v_1 ev_1 => ?_)
  refine lv_if_le (tgt := 11) hx hb d_Big_put_4 (by decide) (fun c_2 => ?_) (fun c_2 => ?_)
  · refine lv_lload_n hx hb d_Big_put_11 rfl (lv_at hl 1 rfl) ?_
    refine lv_lconst (v := 0) hx hb d_Big_put_12 (by decide) ?_
    refine W.lcmp hx hb d_Big_put_13 ?_
    refine lv_topi (fun v_3 ev_3 => ?_)
    refine lv_if_ge (tgt := 21) hx hb d_Big_put_14 (by decide) (fun c_4 => ?_) (fun c_4 => ?_)
    · refine lv_iconst (v := 0) hx hb d_Big_put_21 (by decide) ?_
      refine va_put (D := (dC, dI)) (ci := 0) (v := .int 0) (ty := .int) (C := R_Big) (T := F_Big) (N := 3) hx hb hT i_Big t_Big t_Big_ok n_Big hown hK hP hD hS 0 rfl rfl 2 (by decide) (hT _ tw_51) (fun _ h9 => h9) rfl (by decide +kernel) rfl rfl (Nat.le_of_ble_eq_true rfl) d_Big_put_22 (fun H locs hP hD hS => ?_)
      have hP : va_P (dC, dI) classes [(h0, .inr (0, [.ref q0, .int n0, .int 0])), (q0, .inl (cA0, D0, .inl f0))] H := hP
      have hD : va_D A [(h0, .inr (0, [.ref q0, .int n0, .int 0])), (q0, .inl (cA0, D0, .inl f0))] := hD
      refine lv_lload_n hx hb d_Big_put_25 rfl (lv_at hl 1 rfl) ?_
      refine va_mabs_long hx hb (hml.trans hl.1.symm) hown (hT _ tw_74) (hT _ tw_75) (hT _ tw_4) (hT _ tw_76) (Nat.le_of_ble_eq_true rfl) (Nat.le_of_ble_eq_true rfl) (Nat.le_of_ble_eq_true rfl) (Nat.le_of_ble_eq_true rfl) d_Big_put_26 ?_
      refine lv_topl (fun v_5 ev_5 => ?_)
      refine lv_lstore_n (lv' := [(3, .long v_5), (0, .ref h0), (1, .long v0)]) hx hb d_Big_put_29 rfl hl (by decide) rfl (fun ls hl => ?_)
      refine lv_aload_n hx hb d_Big_put_30 rfl (lv_at hl 1 rfl) ?_
      refine lv_iconst (v := 0) hx hb d_Big_put_31 (by decide) ?_
      refine va_put (D := (dC, dI)) (ci := 0) (v := .int 0) (ty := .int) (C := R_Big) (T := F_Big) (N := 3) hx hb hT i_Big t_Big t_Big_ok n_Big hown hK hP hD hS 0 rfl rfl 1 (by decide) (hT _ tw_47) (fun _ h9 => h9) rfl (by decide +kernel) rfl rfl (Nat.le_of_ble_eq_true rfl) d_Big_put_32 (fun H locs hP hD hS => ?_)
      have hP : va_P (dC, dI) classes [(h0, .inr (0, [.ref q0, .int 0, .int 0])), (q0, .inl (cA0, D0, .inl f0))] H := hP
      have hD : va_D A [(h0, .inr (0, [.ref q0, .int 0, .int 0])), (q0, .inl (cA0, D0, .inl f0))] := hD
      refine lv_lload_n hx hb d_Big_put_35 rfl (lv_at hl 0 rfl) ?_
      refine lv_lconst (v := 0) hx hb d_Big_put_36 (by decide) ?_
      refine W.lcmp hx hb d_Big_put_37 ?_
      refine lv_topi (fun v_6 ev_6 => ?_)
      refine lv_if_eq (tgt := 82) hx hb d_Big_put_38 (by decide) (fun c_7 => ?_) (fun c_7 => ?_)
      · have hP : va_P (dC, dI) classes [(h0, .inr (0, [.ref q0, .int (nI 0), .int 0])), (q0, .inl (cA0, D0, .inl f0))] _ := hP
        have hD : va_D A [(h0, .inr (0, [.ref q0, .int (nI 0), .int 0])), (q0, .inl (cA0, D0, .inl f0))] := hD
        have hP9 := hP.sub (ws' := [(h0, .inr (0, [.ref q0, .int (nI 0), .int 0])), (q0, .inl (cA0, D0, .inl f0))]) [0, 1] rfl
        have hD9 := hD.sub (ws' := [(h0, .inr (0, [.ref q0, .int (nI 0), .int 0])), (q0, .inl (cA0, D0, .inl f0))]) [0, 1] (by decide) rfl
        have hK9 := hK.sub (tys' := [(cA0, .int)]) [0] rfl
        exact W.vret hx hb hr (fun t ht hW => ⟨⟨(), rfl, trivial, f0, 0, 0, by omega, by rw [ht]; exact hP9, va_K.moved hW.alike hK9, hD9⟩, hS.F ht⟩) hS.2.2 d_Big_put_82
      · refine lv_aload_n hx hb d_Big_put_41 rfl (lv_at hl 1 rfl) ?_
        refine va_get (D := (dC, dI)) (ci := 0) (v := .int 0) (C := R_Big) (T := F_Big) (N := 3) hx hb hT i_Big hown hK hP 0 rfl rfl 1 (by decide) (hT _ tw_47) (fun _ h9 => h9) rfl d_Big_put_42 ?_
        refine lv_iconst (v := 3) hx hb d_Big_put_45 (by decide) ?_
        refine lv_icmp_ge (tgt := 82) hx hb d_Big_put_46 (by decide) (fun c_8 => absurd c_8 (by decide)) (fun c_8 => ?_)
        refine lv_aload_n hx hb d_Big_put_49 rfl (lv_at hl 1 rfl) ?_
        refine va_get (D := (dC, dI)) (ci := 0) (v := .ref q0) (C := R_Big) (T := F_Big) (N := 3) hx hb hT i_Big hown hK hP 0 rfl rfl 0 (by decide) (hT _ tw_44) (fun _ h9 => h9) rfl d_Big_put_50 ?_
        refine lv_aload_n hx hb d_Big_put_53 rfl (lv_at hl 1 rfl) ?_
        refine va_get (D := (dC, dI)) (ci := 0) (v := .int 0) (C := R_Big) (T := F_Big) (N := 3) hx hb hT i_Big hown hK hP 0 rfl rfl 1 (by decide) (hT _ tw_47) (fun _ h9 => h9) rfl d_Big_put_54 ?_
        refine lv_lload_n hx hb d_Big_put_57 rfl (lv_at hl 0 rfl) ?_
        refine lv_ldc2 (v := 1073741823) hx hb hown (hT _ tw_77) d_Big_put_58 ?_
        refine lv_land hx hb d_Big_put_61 ?_
        refine lv_topl (fun v_9 ev_9 => ?_)
        obtain ⟨v_10, ev_10⟩ : ∃ z : Int32, (v_9 : Int64).toInt32 = z := ⟨_, rfl⟩
        refine lv_l2i (v := v_10) hx hb d_Big_put_62 ev_10 ?_
        refine va_iast hx hb hK hP hD hS 1 0 rfl rfl (vp_in_nI (n := 0) (by omega) (by omega)) d_Big_put_63 (fun H locs hP hD hS => ?_)
        have hP : va_P (dC, dI) classes [(h0, .inr (0, [.ref q0, .int 0, .int 0])), (q0, .inl (cA0, D0, .inl (upd f0 (0 : Int32).toNatClampNeg v_10)))] H := hP
        have hD : va_D A [(h0, .inr (0, [.ref q0, .int 0, .int 0])), (q0, .inl (cA0, D0, .inl (upd f0 (0 : Int32).toNatClampNeg v_10)))] := hD
        generalize upd f0 (0 : Int32).toNatClampNeg v_10 = f_11 at hP hD
        refine lv_lload_n hx hb d_Big_put_64 rfl (lv_at hl 0 rfl) ?_
        refine lv_bipush (v := 30) hx hb d_Big_put_65 (by decide) ?_
        obtain ⟨v_12, ev_12⟩ : ∃ z : Int64, ((v_5 : Int64).toUInt64 >>> ((30 : Int32).toInt64.toUInt64 &&& Int64.toUInt64 63)).toInt64 = z := ⟨_, rfl⟩
        refine lv_lushr (v := v_12) hx hb d_Big_put_67 ev_12 ?_
        refine lv_lstore_n (lv' := [(3, .long v_12), (0, .ref h0), (1, .long v0)]) hx hb d_Big_put_68 rfl hl (by decide) rfl (fun ls hl => ?_)
        refine lv_aload_n hx hb d_Big_put_69 rfl (lv_at hl 1 rfl) ?_
        refine lv_dup hx hb d_Big_put_70 rfl ?_
        refine va_get (D := (dC, dI)) (ci := 0) (v := .int 0) (C := R_Big) (T := F_Big) (N := 3) hx hb hT i_Big hown hK hP 0 rfl rfl 1 (by decide) (hT _ tw_47) (fun _ h9 => h9) rfl d_Big_put_71 ?_
        refine lv_iconst (v := 1) hx hb d_Big_put_74 (by decide) ?_
        refine lv_iadd hx hb d_Big_put_75 ?_
        refine lv_topi (fun v_13 ev_13 => ?_)
        obtain rfl : v_13 = 1 := ev_13.trans (by decide)
        refine va_put (D := (dC, dI)) (ci := 0) (v := .int 1) (ty := .int) (C := R_Big) (T := F_Big) (N := 3) hx hb hT i_Big t_Big t_Big_ok n_Big hown hK hP hD hS 0 rfl rfl 1 (by decide) (hT _ tw_47) (fun _ h9 => h9) rfl (by decide +kernel) rfl rfl (Nat.le_of_ble_eq_true rfl) d_Big_put_76 (fun H locs hP hD hS => ?_)
        have hP : va_P (dC, dI) classes [(h0, .inr (0, [.ref q0, .int 1, .int 0])), (q0, .inl (cA0, D0, .inl f_11))] H := hP
        have hD : va_D A [(h0, .inr (0, [.ref q0, .int 1, .int 0])), (q0, .inl (cA0, D0, .inl f_11))] := hD
        refine lv_goto (tgt := 35) hx hb d_Big_put_79 (by decide) ?_
        refine lv_lload_n hx hb d_Big_put_35 rfl (lv_at hl 0 rfl) ?_
        refine lv_lconst (v := 0) hx hb d_Big_put_36 (by decide) ?_
        refine W.lcmp hx hb d_Big_put_37 ?_
        refine lv_topi (fun v_14 ev_14 => ?_)
        refine lv_if_eq (tgt := 82) hx hb d_Big_put_38 (by decide) (fun c_15 => ?_) (fun c_15 => ?_)
        · have hP : va_P (dC, dI) classes [(h0, .inr (0, [.ref q0, .int (nI 1), .int 0])), (q0, .inl (cA0, D0, .inl f_11))] _ := hP
          have hD : va_D A [(h0, .inr (0, [.ref q0, .int (nI 1), .int 0])), (q0, .inl (cA0, D0, .inl f_11))] := hD
          have hP9 := hP.sub (ws' := [(h0, .inr (0, [.ref q0, .int (nI 1), .int 0])), (q0, .inl (cA0, D0, .inl f_11))]) [0, 1] rfl
          have hD9 := hD.sub (ws' := [(h0, .inr (0, [.ref q0, .int (nI 1), .int 0])), (q0, .inl (cA0, D0, .inl f_11))]) [0, 1] (by decide) rfl
          have hK9 := hK.sub (tys' := [(cA0, .int)]) [0] rfl
          exact W.vret hx hb hr (fun t ht hW => ⟨⟨(), rfl, trivial, f_11, 1, 0, by omega, by rw [ht]; exact hP9, va_K.moved hW.alike hK9, hD9⟩, hS.F ht⟩) hS.2.2 d_Big_put_82
        · refine lv_aload_n hx hb d_Big_put_41 rfl (lv_at hl 1 rfl) ?_
          refine va_get (D := (dC, dI)) (ci := 0) (v := .int 1) (C := R_Big) (T := F_Big) (N := 3) hx hb hT i_Big hown hK hP 0 rfl rfl 1 (by decide) (hT _ tw_47) (fun _ h9 => h9) rfl d_Big_put_42 ?_
          refine lv_iconst (v := 3) hx hb d_Big_put_45 (by decide) ?_
          refine lv_icmp_ge (tgt := 82) hx hb d_Big_put_46 (by decide) (fun c_16 => absurd c_16 (by decide)) (fun c_16 => ?_)
          refine lv_aload_n hx hb d_Big_put_49 rfl (lv_at hl 1 rfl) ?_
          refine va_get (D := (dC, dI)) (ci := 0) (v := .ref q0) (C := R_Big) (T := F_Big) (N := 3) hx hb hT i_Big hown hK hP 0 rfl rfl 0 (by decide) (hT _ tw_44) (fun _ h9 => h9) rfl d_Big_put_50 ?_
          refine lv_aload_n hx hb d_Big_put_53 rfl (lv_at hl 1 rfl) ?_
          refine va_get (D := (dC, dI)) (ci := 0) (v := .int 1) (C := R_Big) (T := F_Big) (N := 3) hx hb hT i_Big hown hK hP 0 rfl rfl 1 (by decide) (hT _ tw_47) (fun _ h9 => h9) rfl d_Big_put_54 ?_
          refine lv_lload_n hx hb d_Big_put_57 rfl (lv_at hl 0 rfl) ?_
          refine lv_ldc2 (v := 1073741823) hx hb hown (hT _ tw_77) d_Big_put_58 ?_
          refine lv_land hx hb d_Big_put_61 ?_
          refine lv_topl (fun v_17 ev_17 => ?_)
          obtain ⟨v_18, ev_18⟩ : ∃ z : Int32, (v_17 : Int64).toInt32 = z := ⟨_, rfl⟩
          refine lv_l2i (v := v_18) hx hb d_Big_put_62 ev_18 ?_
          refine va_iast hx hb hK hP hD hS 1 0 rfl rfl (vp_in_nI (n := 1) (by omega) (by omega)) d_Big_put_63 (fun H locs hP hD hS => ?_)
          have hP : va_P (dC, dI) classes [(h0, .inr (0, [.ref q0, .int 1, .int 0])), (q0, .inl (cA0, D0, .inl (upd f_11 (1 : Int32).toNatClampNeg v_18)))] H := hP
          have hD : va_D A [(h0, .inr (0, [.ref q0, .int 1, .int 0])), (q0, .inl (cA0, D0, .inl (upd f_11 (1 : Int32).toNatClampNeg v_18)))] := hD
          generalize upd f_11 (1 : Int32).toNatClampNeg v_18 = f_19 at hP hD
          refine lv_lload_n hx hb d_Big_put_64 rfl (lv_at hl 0 rfl) ?_
          refine lv_bipush (v := 30) hx hb d_Big_put_65 (by decide) ?_
          obtain ⟨v_20, ev_20⟩ : ∃ z : Int64, ((v_12 : Int64).toUInt64 >>> ((30 : Int32).toInt64.toUInt64 &&& Int64.toUInt64 63)).toInt64 = z := ⟨_, rfl⟩
          refine lv_lushr (v := v_20) hx hb d_Big_put_67 ev_20 ?_
          refine lv_lstore_n (lv' := [(3, .long v_20), (0, .ref h0), (1, .long v0)]) hx hb d_Big_put_68 rfl hl (by decide) rfl (fun ls hl => ?_)
          refine lv_aload_n hx hb d_Big_put_69 rfl (lv_at hl 1 rfl) ?_
          refine lv_dup hx hb d_Big_put_70 rfl ?_
          refine va_get (D := (dC, dI)) (ci := 0) (v := .int 1) (C := R_Big) (T := F_Big) (N := 3) hx hb hT i_Big hown hK hP 0 rfl rfl 1 (by decide) (hT _ tw_47) (fun _ h9 => h9) rfl d_Big_put_71 ?_
          refine lv_iconst (v := 1) hx hb d_Big_put_74 (by decide) ?_
          refine lv_iadd hx hb d_Big_put_75 ?_
          refine lv_topi (fun v_21 ev_21 => ?_)
          obtain rfl : v_21 = 2 := ev_21.trans (by decide)
          refine va_put (D := (dC, dI)) (ci := 0) (v := .int 2) (ty := .int) (C := R_Big) (T := F_Big) (N := 3) hx hb hT i_Big t_Big t_Big_ok n_Big hown hK hP hD hS 0 rfl rfl 1 (by decide) (hT _ tw_47) (fun _ h9 => h9) rfl (by decide +kernel) rfl rfl (Nat.le_of_ble_eq_true rfl) d_Big_put_76 (fun H locs hP hD hS => ?_)
          have hP : va_P (dC, dI) classes [(h0, .inr (0, [.ref q0, .int 2, .int 0])), (q0, .inl (cA0, D0, .inl f_19))] H := hP
          have hD : va_D A [(h0, .inr (0, [.ref q0, .int 2, .int 0])), (q0, .inl (cA0, D0, .inl f_19))] := hD
          refine lv_goto (tgt := 35) hx hb d_Big_put_79 (by decide) ?_
          refine lv_lload_n hx hb d_Big_put_35 rfl (lv_at hl 0 rfl) ?_
          refine lv_lconst (v := 0) hx hb d_Big_put_36 (by decide) ?_
          refine W.lcmp hx hb d_Big_put_37 ?_
          refine lv_topi (fun v_22 ev_22 => ?_)
          refine lv_if_eq (tgt := 82) hx hb d_Big_put_38 (by decide) (fun c_23 => ?_) (fun c_23 => ?_)
          · have hP : va_P (dC, dI) classes [(h0, .inr (0, [.ref q0, .int (nI 2), .int 0])), (q0, .inl (cA0, D0, .inl f_19))] _ := hP
            have hD : va_D A [(h0, .inr (0, [.ref q0, .int (nI 2), .int 0])), (q0, .inl (cA0, D0, .inl f_19))] := hD
            have hP9 := hP.sub (ws' := [(h0, .inr (0, [.ref q0, .int (nI 2), .int 0])), (q0, .inl (cA0, D0, .inl f_19))]) [0, 1] rfl
            have hD9 := hD.sub (ws' := [(h0, .inr (0, [.ref q0, .int (nI 2), .int 0])), (q0, .inl (cA0, D0, .inl f_19))]) [0, 1] (by decide) rfl
            have hK9 := hK.sub (tys' := [(cA0, .int)]) [0] rfl
            exact W.vret hx hb hr (fun t ht hW => ⟨⟨(), rfl, trivial, f_19, 2, 0, by omega, by rw [ht]; exact hP9, va_K.moved hW.alike hK9, hD9⟩, hS.F ht⟩) hS.2.2 d_Big_put_82
          · refine lv_aload_n hx hb d_Big_put_41 rfl (lv_at hl 1 rfl) ?_
            refine va_get (D := (dC, dI)) (ci := 0) (v := .int 2) (C := R_Big) (T := F_Big) (N := 3) hx hb hT i_Big hown hK hP 0 rfl rfl 1 (by decide) (hT _ tw_47) (fun _ h9 => h9) rfl d_Big_put_42 ?_
            refine lv_iconst (v := 3) hx hb d_Big_put_45 (by decide) ?_
            refine lv_icmp_ge (tgt := 82) hx hb d_Big_put_46 (by decide) (fun c_24 => absurd c_24 (by decide)) (fun c_24 => ?_)
            refine lv_aload_n hx hb d_Big_put_49 rfl (lv_at hl 1 rfl) ?_
            refine va_get (D := (dC, dI)) (ci := 0) (v := .ref q0) (C := R_Big) (T := F_Big) (N := 3) hx hb hT i_Big hown hK hP 0 rfl rfl 0 (by decide) (hT _ tw_44) (fun _ h9 => h9) rfl d_Big_put_50 ?_
            refine lv_aload_n hx hb d_Big_put_53 rfl (lv_at hl 1 rfl) ?_
            refine va_get (D := (dC, dI)) (ci := 0) (v := .int 2) (C := R_Big) (T := F_Big) (N := 3) hx hb hT i_Big hown hK hP 0 rfl rfl 1 (by decide) (hT _ tw_47) (fun _ h9 => h9) rfl d_Big_put_54 ?_
            refine lv_lload_n hx hb d_Big_put_57 rfl (lv_at hl 0 rfl) ?_
            refine lv_ldc2 (v := 1073741823) hx hb hown (hT _ tw_77) d_Big_put_58 ?_
            refine lv_land hx hb d_Big_put_61 ?_
            refine lv_topl (fun v_25 ev_25 => ?_)
            obtain ⟨v_26, ev_26⟩ : ∃ z : Int32, (v_25 : Int64).toInt32 = z := ⟨_, rfl⟩
            refine lv_l2i (v := v_26) hx hb d_Big_put_62 ev_26 ?_
            refine va_iast hx hb hK hP hD hS 1 0 rfl rfl (vp_in_nI (n := 2) (by omega) (by omega)) d_Big_put_63 (fun H locs hP hD hS => ?_)
            have hP : va_P (dC, dI) classes [(h0, .inr (0, [.ref q0, .int 2, .int 0])), (q0, .inl (cA0, D0, .inl (upd f_19 (2 : Int32).toNatClampNeg v_26)))] H := hP
            have hD : va_D A [(h0, .inr (0, [.ref q0, .int 2, .int 0])), (q0, .inl (cA0, D0, .inl (upd f_19 (2 : Int32).toNatClampNeg v_26)))] := hD
            generalize upd f_19 (2 : Int32).toNatClampNeg v_26 = f_27 at hP hD
            refine lv_lload_n hx hb d_Big_put_64 rfl (lv_at hl 0 rfl) ?_
            refine lv_bipush (v := 30) hx hb d_Big_put_65 (by decide) ?_
            obtain ⟨v_28, ev_28⟩ : ∃ z : Int64, ((v_20 : Int64).toUInt64 >>> ((30 : Int32).toInt64.toUInt64 &&& Int64.toUInt64 63)).toInt64 = z := ⟨_, rfl⟩
            refine lv_lushr (v := v_28) hx hb d_Big_put_67 ev_28 ?_
            refine lv_lstore_n (lv' := [(3, .long v_28), (0, .ref h0), (1, .long v0)]) hx hb d_Big_put_68 rfl hl (by decide) rfl (fun ls hl => ?_)
            refine lv_aload_n hx hb d_Big_put_69 rfl (lv_at hl 1 rfl) ?_
            refine lv_dup hx hb d_Big_put_70 rfl ?_
            refine va_get (D := (dC, dI)) (ci := 0) (v := .int 2) (C := R_Big) (T := F_Big) (N := 3) hx hb hT i_Big hown hK hP 0 rfl rfl 1 (by decide) (hT _ tw_47) (fun _ h9 => h9) rfl d_Big_put_71 ?_
            refine lv_iconst (v := 1) hx hb d_Big_put_74 (by decide) ?_
            refine lv_iadd hx hb d_Big_put_75 ?_
            refine lv_topi (fun v_29 ev_29 => ?_)
            obtain rfl : v_29 = 3 := ev_29.trans (by decide)
            refine va_put (D := (dC, dI)) (ci := 0) (v := .int 3) (ty := .int) (C := R_Big) (T := F_Big) (N := 3) hx hb hT i_Big t_Big t_Big_ok n_Big hown hK hP hD hS 0 rfl rfl 1 (by decide) (hT _ tw_47) (fun _ h9 => h9) rfl (by decide +kernel) rfl rfl (Nat.le_of_ble_eq_true rfl) d_Big_put_76 (fun H locs hP hD hS => ?_)
            have hP : va_P (dC, dI) classes [(h0, .inr (0, [.ref q0, .int 3, .int 0])), (q0, .inl (cA0, D0, .inl f_27))] H := hP
            have hD : va_D A [(h0, .inr (0, [.ref q0, .int 3, .int 0])), (q0, .inl (cA0, D0, .inl f_27))] := hD
            refine lv_goto (tgt := 35) hx hb d_Big_put_79 (by decide) ?_
            refine lv_lload_n hx hb d_Big_put_35 rfl (lv_at hl 0 rfl) ?_
            refine lv_lconst (v := 0) hx hb d_Big_put_36 (by decide) ?_
            refine W.lcmp hx hb d_Big_put_37 ?_
            refine lv_topi (fun v_30 ev_30 => ?_)
            refine lv_if_eq (tgt := 82) hx hb d_Big_put_38 (by decide) (fun c_31 => ?_) (fun c_31 => ?_)
            · have hP : va_P (dC, dI) classes [(h0, .inr (0, [.ref q0, .int (nI 3), .int 0])), (q0, .inl (cA0, D0, .inl f_27))] _ := hP
              have hD : va_D A [(h0, .inr (0, [.ref q0, .int (nI 3), .int 0])), (q0, .inl (cA0, D0, .inl f_27))] := hD
              have hP9 := hP.sub (ws' := [(h0, .inr (0, [.ref q0, .int (nI 3), .int 0])), (q0, .inl (cA0, D0, .inl f_27))]) [0, 1] rfl
              have hD9 := hD.sub (ws' := [(h0, .inr (0, [.ref q0, .int (nI 3), .int 0])), (q0, .inl (cA0, D0, .inl f_27))]) [0, 1] (by decide) rfl
              have hK9 := hK.sub (tys' := [(cA0, .int)]) [0] rfl
              exact W.vret hx hb hr (fun t ht hW => ⟨⟨(), rfl, trivial, f_27, 3, 0, by omega, by rw [ht]; exact hP9, va_K.moved hW.alike hK9, hD9⟩, hS.F ht⟩) hS.2.2 d_Big_put_82
            · refine lv_aload_n hx hb d_Big_put_41 rfl (lv_at hl 1 rfl) ?_
              refine va_get (D := (dC, dI)) (ci := 0) (v := .int 3) (C := R_Big) (T := F_Big) (N := 3) hx hb hT i_Big hown hK hP 0 rfl rfl 1 (by decide) (hT _ tw_47) (fun _ h9 => h9) rfl d_Big_put_42 ?_
              refine lv_iconst (v := 3) hx hb d_Big_put_45 (by decide) ?_
              refine lv_icmp_ge (tgt := 82) hx hb d_Big_put_46 (by decide) (fun c_32 => ?_) (fun c_32 => absurd (by decide) c_32)
              have hP : va_P (dC, dI) classes [(h0, .inr (0, [.ref q0, .int (nI 3), .int 0])), (q0, .inl (cA0, D0, .inl f_27))] _ := hP
              have hD : va_D A [(h0, .inr (0, [.ref q0, .int (nI 3), .int 0])), (q0, .inl (cA0, D0, .inl f_27))] := hD
              have hP9 := hP.sub (ws' := [(h0, .inr (0, [.ref q0, .int (nI 3), .int 0])), (q0, .inl (cA0, D0, .inl f_27))]) [0, 1] rfl
              have hD9 := hD.sub (ws' := [(h0, .inr (0, [.ref q0, .int (nI 3), .int 0])), (q0, .inl (cA0, D0, .inl f_27))]) [0, 1] (by decide) rfl
              have hK9 := hK.sub (tys' := [(cA0, .int)]) [0] rfl
              exact W.vret hx hb hr (fun t ht hW => ⟨⟨(), rfl, trivial, f_27, 3, 0, by omega, by rw [ht]; exact hP9, va_K.moved hW.alike hK9, hD9⟩, hS.F ht⟩) hS.2.2 d_Big_put_82
    · refine lv_iconst (v := (-1)) hx hb d_Big_put_17 (by decide) ?_
      refine lv_goto (tgt := 22) hx hb d_Big_put_18 (by decide) ?_
      refine va_put (D := (dC, dI)) (ci := 0) (v := .int (-1)) (ty := .int) (C := R_Big) (T := F_Big) (N := 3) hx hb hT i_Big t_Big t_Big_ok n_Big hown hK hP hD hS 0 rfl rfl 2 (by decide) (hT _ tw_51) (fun _ h9 => h9) rfl (by decide +kernel) rfl rfl (Nat.le_of_ble_eq_true rfl) d_Big_put_22 (fun H locs hP hD hS => ?_)
      have hP : va_P (dC, dI) classes [(h0, .inr (0, [.ref q0, .int n0, .int (-1)])), (q0, .inl (cA0, D0, .inl f0))] H := hP
      have hD : va_D A [(h0, .inr (0, [.ref q0, .int n0, .int (-1)])), (q0, .inl (cA0, D0, .inl f0))] := hD
      refine lv_lload_n hx hb d_Big_put_25 rfl (lv_at hl 1 rfl) ?_
      refine va_mabs_long hx hb (hml.trans hl.1.symm) hown (hT _ tw_74) (hT _ tw_75) (hT _ tw_4) (hT _ tw_76) (Nat.le_of_ble_eq_true rfl) (Nat.le_of_ble_eq_true rfl) (Nat.le_of_ble_eq_true rfl) (Nat.le_of_ble_eq_true rfl) d_Big_put_26 ?_
      refine lv_topl (fun v_33 ev_33 => ?_)
      refine lv_lstore_n (lv' := [(3, .long v_33), (0, .ref h0), (1, .long v0)]) hx hb d_Big_put_29 rfl hl (by decide) rfl (fun ls hl => ?_)
      refine lv_aload_n hx hb d_Big_put_30 rfl (lv_at hl 1 rfl) ?_
      refine lv_iconst (v := 0) hx hb d_Big_put_31 (by decide) ?_
      refine va_put (D := (dC, dI)) (ci := 0) (v := .int 0) (ty := .int) (C := R_Big) (T := F_Big) (N := 3) hx hb hT i_Big t_Big t_Big_ok n_Big hown hK hP hD hS 0 rfl rfl 1 (by decide) (hT _ tw_47) (fun _ h9 => h9) rfl (by decide +kernel) rfl rfl (Nat.le_of_ble_eq_true rfl) d_Big_put_32 (fun H locs hP hD hS => ?_)
      have hP : va_P (dC, dI) classes [(h0, .inr (0, [.ref q0, .int 0, .int (-1)])), (q0, .inl (cA0, D0, .inl f0))] H := hP
      have hD : va_D A [(h0, .inr (0, [.ref q0, .int 0, .int (-1)])), (q0, .inl (cA0, D0, .inl f0))] := hD
      refine lv_lload_n hx hb d_Big_put_35 rfl (lv_at hl 0 rfl) ?_
      refine lv_lconst (v := 0) hx hb d_Big_put_36 (by decide) ?_
      refine W.lcmp hx hb d_Big_put_37 ?_
      refine lv_topi (fun v_34 ev_34 => ?_)
      refine lv_if_eq (tgt := 82) hx hb d_Big_put_38 (by decide) (fun c_35 => ?_) (fun c_35 => ?_)
      · have hP : va_P (dC, dI) classes [(h0, .inr (0, [.ref q0, .int (nI 0), .int (-1)])), (q0, .inl (cA0, D0, .inl f0))] _ := hP
        have hD : va_D A [(h0, .inr (0, [.ref q0, .int (nI 0), .int (-1)])), (q0, .inl (cA0, D0, .inl f0))] := hD
        have hP9 := hP.sub (ws' := [(h0, .inr (0, [.ref q0, .int (nI 0), .int (-1)])), (q0, .inl (cA0, D0, .inl f0))]) [0, 1] rfl
        have hD9 := hD.sub (ws' := [(h0, .inr (0, [.ref q0, .int (nI 0), .int (-1)])), (q0, .inl (cA0, D0, .inl f0))]) [0, 1] (by decide) rfl
        have hK9 := hK.sub (tys' := [(cA0, .int)]) [0] rfl
        exact W.vret hx hb hr (fun t ht hW => ⟨⟨(), rfl, trivial, f0, 0, (-1), by omega, by rw [ht]; exact hP9, va_K.moved hW.alike hK9, hD9⟩, hS.F ht⟩) hS.2.2 d_Big_put_82
      · refine lv_aload_n hx hb d_Big_put_41 rfl (lv_at hl 1 rfl) ?_
        refine va_get (D := (dC, dI)) (ci := 0) (v := .int 0) (C := R_Big) (T := F_Big) (N := 3) hx hb hT i_Big hown hK hP 0 rfl rfl 1 (by decide) (hT _ tw_47) (fun _ h9 => h9) rfl d_Big_put_42 ?_
        refine lv_iconst (v := 3) hx hb d_Big_put_45 (by decide) ?_
        refine lv_icmp_ge (tgt := 82) hx hb d_Big_put_46 (by decide) (fun c_36 => absurd c_36 (by decide)) (fun c_36 => ?_)
        refine lv_aload_n hx hb d_Big_put_49 rfl (lv_at hl 1 rfl) ?_
        refine va_get (D := (dC, dI)) (ci := 0) (v := .ref q0) (C := R_Big) (T := F_Big) (N := 3) hx hb hT i_Big hown hK hP 0 rfl rfl 0 (by decide) (hT _ tw_44) (fun _ h9 => h9) rfl d_Big_put_50 ?_
        refine lv_aload_n hx hb d_Big_put_53 rfl (lv_at hl 1 rfl) ?_
        refine va_get (D := (dC, dI)) (ci := 0) (v := .int 0) (C := R_Big) (T := F_Big) (N := 3) hx hb hT i_Big hown hK hP 0 rfl rfl 1 (by decide) (hT _ tw_47) (fun _ h9 => h9) rfl d_Big_put_54 ?_
        refine lv_lload_n hx hb d_Big_put_57 rfl (lv_at hl 0 rfl) ?_
        refine lv_ldc2 (v := 1073741823) hx hb hown (hT _ tw_77) d_Big_put_58 ?_
        refine lv_land hx hb d_Big_put_61 ?_
        refine lv_topl (fun v_37 ev_37 => ?_)
        obtain ⟨v_38, ev_38⟩ : ∃ z : Int32, (v_37 : Int64).toInt32 = z := ⟨_, rfl⟩
        refine lv_l2i (v := v_38) hx hb d_Big_put_62 ev_38 ?_
        refine va_iast hx hb hK hP hD hS 1 0 rfl rfl (vp_in_nI (n := 0) (by omega) (by omega)) d_Big_put_63 (fun H locs hP hD hS => ?_)
        have hP : va_P (dC, dI) classes [(h0, .inr (0, [.ref q0, .int 0, .int (-1)])), (q0, .inl (cA0, D0, .inl (upd f0 (0 : Int32).toNatClampNeg v_38)))] H := hP
        have hD : va_D A [(h0, .inr (0, [.ref q0, .int 0, .int (-1)])), (q0, .inl (cA0, D0, .inl (upd f0 (0 : Int32).toNatClampNeg v_38)))] := hD
        generalize upd f0 (0 : Int32).toNatClampNeg v_38 = f_39 at hP hD
        refine lv_lload_n hx hb d_Big_put_64 rfl (lv_at hl 0 rfl) ?_
        refine lv_bipush (v := 30) hx hb d_Big_put_65 (by decide) ?_
        obtain ⟨v_40, ev_40⟩ : ∃ z : Int64, ((v_33 : Int64).toUInt64 >>> ((30 : Int32).toInt64.toUInt64 &&& Int64.toUInt64 63)).toInt64 = z := ⟨_, rfl⟩
        refine lv_lushr (v := v_40) hx hb d_Big_put_67 ev_40 ?_
        refine lv_lstore_n (lv' := [(3, .long v_40), (0, .ref h0), (1, .long v0)]) hx hb d_Big_put_68 rfl hl (by decide) rfl (fun ls hl => ?_)
        refine lv_aload_n hx hb d_Big_put_69 rfl (lv_at hl 1 rfl) ?_
        refine lv_dup hx hb d_Big_put_70 rfl ?_
        refine va_get (D := (dC, dI)) (ci := 0) (v := .int 0) (C := R_Big) (T := F_Big) (N := 3) hx hb hT i_Big hown hK hP 0 rfl rfl 1 (by decide) (hT _ tw_47) (fun _ h9 => h9) rfl d_Big_put_71 ?_
        refine lv_iconst (v := 1) hx hb d_Big_put_74 (by decide) ?_
        refine lv_iadd hx hb d_Big_put_75 ?_
        refine lv_topi (fun v_41 ev_41 => ?_)
        obtain rfl : v_41 = 1 := ev_41.trans (by decide)
        refine va_put (D := (dC, dI)) (ci := 0) (v := .int 1) (ty := .int) (C := R_Big) (T := F_Big) (N := 3) hx hb hT i_Big t_Big t_Big_ok n_Big hown hK hP hD hS 0 rfl rfl 1 (by decide) (hT _ tw_47) (fun _ h9 => h9) rfl (by decide +kernel) rfl rfl (Nat.le_of_ble_eq_true rfl) d_Big_put_76 (fun H locs hP hD hS => ?_)
        have hP : va_P (dC, dI) classes [(h0, .inr (0, [.ref q0, .int 1, .int (-1)])), (q0, .inl (cA0, D0, .inl f_39))] H := hP
        have hD : va_D A [(h0, .inr (0, [.ref q0, .int 1, .int (-1)])), (q0, .inl (cA0, D0, .inl f_39))] := hD
        refine lv_goto (tgt := 35) hx hb d_Big_put_79 (by decide) ?_
        refine lv_lload_n hx hb d_Big_put_35 rfl (lv_at hl 0 rfl) ?_
        refine lv_lconst (v := 0) hx hb d_Big_put_36 (by decide) ?_
        refine W.lcmp hx hb d_Big_put_37 ?_
        refine lv_topi (fun v_42 ev_42 => ?_)
        refine lv_if_eq (tgt := 82) hx hb d_Big_put_38 (by decide) (fun c_43 => ?_) (fun c_43 => ?_)
        · have hP : va_P (dC, dI) classes [(h0, .inr (0, [.ref q0, .int (nI 1), .int (-1)])), (q0, .inl (cA0, D0, .inl f_39))] _ := hP
          have hD : va_D A [(h0, .inr (0, [.ref q0, .int (nI 1), .int (-1)])), (q0, .inl (cA0, D0, .inl f_39))] := hD
          have hP9 := hP.sub (ws' := [(h0, .inr (0, [.ref q0, .int (nI 1), .int (-1)])), (q0, .inl (cA0, D0, .inl f_39))]) [0, 1] rfl
          have hD9 := hD.sub (ws' := [(h0, .inr (0, [.ref q0, .int (nI 1), .int (-1)])), (q0, .inl (cA0, D0, .inl f_39))]) [0, 1] (by decide) rfl
          have hK9 := hK.sub (tys' := [(cA0, .int)]) [0] rfl
          exact W.vret hx hb hr (fun t ht hW => ⟨⟨(), rfl, trivial, f_39, 1, (-1), by omega, by rw [ht]; exact hP9, va_K.moved hW.alike hK9, hD9⟩, hS.F ht⟩) hS.2.2 d_Big_put_82
        · refine lv_aload_n hx hb d_Big_put_41 rfl (lv_at hl 1 rfl) ?_
          refine va_get (D := (dC, dI)) (ci := 0) (v := .int 1) (C := R_Big) (T := F_Big) (N := 3) hx hb hT i_Big hown hK hP 0 rfl rfl 1 (by decide) (hT _ tw_47) (fun _ h9 => h9) rfl d_Big_put_42 ?_
          refine lv_iconst (v := 3) hx hb d_Big_put_45 (by decide) ?_
          refine lv_icmp_ge (tgt := 82) hx hb d_Big_put_46 (by decide) (fun c_44 => absurd c_44 (by decide)) (fun c_44 => ?_)
          refine lv_aload_n hx hb d_Big_put_49 rfl (lv_at hl 1 rfl) ?_
          refine va_get (D := (dC, dI)) (ci := 0) (v := .ref q0) (C := R_Big) (T := F_Big) (N := 3) hx hb hT i_Big hown hK hP 0 rfl rfl 0 (by decide) (hT _ tw_44) (fun _ h9 => h9) rfl d_Big_put_50 ?_
          refine lv_aload_n hx hb d_Big_put_53 rfl (lv_at hl 1 rfl) ?_
          refine va_get (D := (dC, dI)) (ci := 0) (v := .int 1) (C := R_Big) (T := F_Big) (N := 3) hx hb hT i_Big hown hK hP 0 rfl rfl 1 (by decide) (hT _ tw_47) (fun _ h9 => h9) rfl d_Big_put_54 ?_
          refine lv_lload_n hx hb d_Big_put_57 rfl (lv_at hl 0 rfl) ?_
          refine lv_ldc2 (v := 1073741823) hx hb hown (hT _ tw_77) d_Big_put_58 ?_
          refine lv_land hx hb d_Big_put_61 ?_
          refine lv_topl (fun v_45 ev_45 => ?_)
          obtain ⟨v_46, ev_46⟩ : ∃ z : Int32, (v_45 : Int64).toInt32 = z := ⟨_, rfl⟩
          refine lv_l2i (v := v_46) hx hb d_Big_put_62 ev_46 ?_
          refine va_iast hx hb hK hP hD hS 1 0 rfl rfl (vp_in_nI (n := 1) (by omega) (by omega)) d_Big_put_63 (fun H locs hP hD hS => ?_)
          have hP : va_P (dC, dI) classes [(h0, .inr (0, [.ref q0, .int 1, .int (-1)])), (q0, .inl (cA0, D0, .inl (upd f_39 (1 : Int32).toNatClampNeg v_46)))] H := hP
          have hD : va_D A [(h0, .inr (0, [.ref q0, .int 1, .int (-1)])), (q0, .inl (cA0, D0, .inl (upd f_39 (1 : Int32).toNatClampNeg v_46)))] := hD
          generalize upd f_39 (1 : Int32).toNatClampNeg v_46 = f_47 at hP hD
          refine lv_lload_n hx hb d_Big_put_64 rfl (lv_at hl 0 rfl) ?_
          refine lv_bipush (v := 30) hx hb d_Big_put_65 (by decide) ?_
          obtain ⟨v_48, ev_48⟩ : ∃ z : Int64, ((v_40 : Int64).toUInt64 >>> ((30 : Int32).toInt64.toUInt64 &&& Int64.toUInt64 63)).toInt64 = z := ⟨_, rfl⟩
          refine lv_lushr (v := v_48) hx hb d_Big_put_67 ev_48 ?_
          refine lv_lstore_n (lv' := [(3, .long v_48), (0, .ref h0), (1, .long v0)]) hx hb d_Big_put_68 rfl hl (by decide) rfl (fun ls hl => ?_)
          refine lv_aload_n hx hb d_Big_put_69 rfl (lv_at hl 1 rfl) ?_
          refine lv_dup hx hb d_Big_put_70 rfl ?_
          refine va_get (D := (dC, dI)) (ci := 0) (v := .int 1) (C := R_Big) (T := F_Big) (N := 3) hx hb hT i_Big hown hK hP 0 rfl rfl 1 (by decide) (hT _ tw_47) (fun _ h9 => h9) rfl d_Big_put_71 ?_
          refine lv_iconst (v := 1) hx hb d_Big_put_74 (by decide) ?_
          refine lv_iadd hx hb d_Big_put_75 ?_
          refine lv_topi (fun v_49 ev_49 => ?_)
          obtain rfl : v_49 = 2 := ev_49.trans (by decide)
          refine va_put (D := (dC, dI)) (ci := 0) (v := .int 2) (ty := .int) (C := R_Big) (T := F_Big) (N := 3) hx hb hT i_Big t_Big t_Big_ok n_Big hown hK hP hD hS 0 rfl rfl 1 (by decide) (hT _ tw_47) (fun _ h9 => h9) rfl (by decide +kernel) rfl rfl (Nat.le_of_ble_eq_true rfl) d_Big_put_76 (fun H locs hP hD hS => ?_)
          have hP : va_P (dC, dI) classes [(h0, .inr (0, [.ref q0, .int 2, .int (-1)])), (q0, .inl (cA0, D0, .inl f_47))] H := hP
          have hD : va_D A [(h0, .inr (0, [.ref q0, .int 2, .int (-1)])), (q0, .inl (cA0, D0, .inl f_47))] := hD
          refine lv_goto (tgt := 35) hx hb d_Big_put_79 (by decide) ?_
          refine lv_lload_n hx hb d_Big_put_35 rfl (lv_at hl 0 rfl) ?_
          refine lv_lconst (v := 0) hx hb d_Big_put_36 (by decide) ?_
          refine W.lcmp hx hb d_Big_put_37 ?_
          refine lv_topi (fun v_50 ev_50 => ?_)
          refine lv_if_eq (tgt := 82) hx hb d_Big_put_38 (by decide) (fun c_51 => ?_) (fun c_51 => ?_)
          · have hP : va_P (dC, dI) classes [(h0, .inr (0, [.ref q0, .int (nI 2), .int (-1)])), (q0, .inl (cA0, D0, .inl f_47))] _ := hP
            have hD : va_D A [(h0, .inr (0, [.ref q0, .int (nI 2), .int (-1)])), (q0, .inl (cA0, D0, .inl f_47))] := hD
            have hP9 := hP.sub (ws' := [(h0, .inr (0, [.ref q0, .int (nI 2), .int (-1)])), (q0, .inl (cA0, D0, .inl f_47))]) [0, 1] rfl
            have hD9 := hD.sub (ws' := [(h0, .inr (0, [.ref q0, .int (nI 2), .int (-1)])), (q0, .inl (cA0, D0, .inl f_47))]) [0, 1] (by decide) rfl
            have hK9 := hK.sub (tys' := [(cA0, .int)]) [0] rfl
            exact W.vret hx hb hr (fun t ht hW => ⟨⟨(), rfl, trivial, f_47, 2, (-1), by omega, by rw [ht]; exact hP9, va_K.moved hW.alike hK9, hD9⟩, hS.F ht⟩) hS.2.2 d_Big_put_82
          · refine lv_aload_n hx hb d_Big_put_41 rfl (lv_at hl 1 rfl) ?_
            refine va_get (D := (dC, dI)) (ci := 0) (v := .int 2) (C := R_Big) (T := F_Big) (N := 3) hx hb hT i_Big hown hK hP 0 rfl rfl 1 (by decide) (hT _ tw_47) (fun _ h9 => h9) rfl d_Big_put_42 ?_
            refine lv_iconst (v := 3) hx hb d_Big_put_45 (by decide) ?_
            refine lv_icmp_ge (tgt := 82) hx hb d_Big_put_46 (by decide) (fun c_52 => absurd c_52 (by decide)) (fun c_52 => ?_)
            refine lv_aload_n hx hb d_Big_put_49 rfl (lv_at hl 1 rfl) ?_
            refine va_get (D := (dC, dI)) (ci := 0) (v := .ref q0) (C := R_Big) (T := F_Big) (N := 3) hx hb hT i_Big hown hK hP 0 rfl rfl 0 (by decide) (hT _ tw_44) (fun _ h9 => h9) rfl d_Big_put_50 ?_
            refine lv_aload_n hx hb d_Big_put_53 rfl (lv_at hl 1 rfl) ?_
            refine va_get (D := (dC, dI)) (ci := 0) (v := .int 2) (C := R_Big) (T := F_Big) (N := 3) hx hb hT i_Big hown hK hP 0 rfl rfl 1 (by decide) (hT _ tw_47) (fun _ h9 => h9) rfl d_Big_put_54 ?_
            refine lv_lload_n hx hb d_Big_put_57 rfl (lv_at hl 0 rfl) ?_
            refine lv_ldc2 (v := 1073741823) hx hb hown (hT _ tw_77) d_Big_put_58 ?_
            refine lv_land hx hb d_Big_put_61 ?_
            refine lv_topl (fun v_53 ev_53 => ?_)
            obtain ⟨v_54, ev_54⟩ : ∃ z : Int32, (v_53 : Int64).toInt32 = z := ⟨_, rfl⟩
            refine lv_l2i (v := v_54) hx hb d_Big_put_62 ev_54 ?_
            refine va_iast hx hb hK hP hD hS 1 0 rfl rfl (vp_in_nI (n := 2) (by omega) (by omega)) d_Big_put_63 (fun H locs hP hD hS => ?_)
            have hP : va_P (dC, dI) classes [(h0, .inr (0, [.ref q0, .int 2, .int (-1)])), (q0, .inl (cA0, D0, .inl (upd f_47 (2 : Int32).toNatClampNeg v_54)))] H := hP
            have hD : va_D A [(h0, .inr (0, [.ref q0, .int 2, .int (-1)])), (q0, .inl (cA0, D0, .inl (upd f_47 (2 : Int32).toNatClampNeg v_54)))] := hD
            generalize upd f_47 (2 : Int32).toNatClampNeg v_54 = f_55 at hP hD
            refine lv_lload_n hx hb d_Big_put_64 rfl (lv_at hl 0 rfl) ?_
            refine lv_bipush (v := 30) hx hb d_Big_put_65 (by decide) ?_
            obtain ⟨v_56, ev_56⟩ : ∃ z : Int64, ((v_48 : Int64).toUInt64 >>> ((30 : Int32).toInt64.toUInt64 &&& Int64.toUInt64 63)).toInt64 = z := ⟨_, rfl⟩
            refine lv_lushr (v := v_56) hx hb d_Big_put_67 ev_56 ?_
            refine lv_lstore_n (lv' := [(3, .long v_56), (0, .ref h0), (1, .long v0)]) hx hb d_Big_put_68 rfl hl (by decide) rfl (fun ls hl => ?_)
            refine lv_aload_n hx hb d_Big_put_69 rfl (lv_at hl 1 rfl) ?_
            refine lv_dup hx hb d_Big_put_70 rfl ?_
            refine va_get (D := (dC, dI)) (ci := 0) (v := .int 2) (C := R_Big) (T := F_Big) (N := 3) hx hb hT i_Big hown hK hP 0 rfl rfl 1 (by decide) (hT _ tw_47) (fun _ h9 => h9) rfl d_Big_put_71 ?_
            refine lv_iconst (v := 1) hx hb d_Big_put_74 (by decide) ?_
            refine lv_iadd hx hb d_Big_put_75 ?_
            refine lv_topi (fun v_57 ev_57 => ?_)
            obtain rfl : v_57 = 3 := ev_57.trans (by decide)
            refine va_put (D := (dC, dI)) (ci := 0) (v := .int 3) (ty := .int) (C := R_Big) (T := F_Big) (N := 3) hx hb hT i_Big t_Big t_Big_ok n_Big hown hK hP hD hS 0 rfl rfl 1 (by decide) (hT _ tw_47) (fun _ h9 => h9) rfl (by decide +kernel) rfl rfl (Nat.le_of_ble_eq_true rfl) d_Big_put_76 (fun H locs hP hD hS => ?_)
            have hP : va_P (dC, dI) classes [(h0, .inr (0, [.ref q0, .int 3, .int (-1)])), (q0, .inl (cA0, D0, .inl f_55))] H := hP
            have hD : va_D A [(h0, .inr (0, [.ref q0, .int 3, .int (-1)])), (q0, .inl (cA0, D0, .inl f_55))] := hD
            refine lv_goto (tgt := 35) hx hb d_Big_put_79 (by decide) ?_
            refine lv_lload_n hx hb d_Big_put_35 rfl (lv_at hl 0 rfl) ?_
            refine lv_lconst (v := 0) hx hb d_Big_put_36 (by decide) ?_
            refine W.lcmp hx hb d_Big_put_37 ?_
            refine lv_topi (fun v_58 ev_58 => ?_)
            refine lv_if_eq (tgt := 82) hx hb d_Big_put_38 (by decide) (fun c_59 => ?_) (fun c_59 => ?_)
            · have hP : va_P (dC, dI) classes [(h0, .inr (0, [.ref q0, .int (nI 3), .int (-1)])), (q0, .inl (cA0, D0, .inl f_55))] _ := hP
              have hD : va_D A [(h0, .inr (0, [.ref q0, .int (nI 3), .int (-1)])), (q0, .inl (cA0, D0, .inl f_55))] := hD
              have hP9 := hP.sub (ws' := [(h0, .inr (0, [.ref q0, .int (nI 3), .int (-1)])), (q0, .inl (cA0, D0, .inl f_55))]) [0, 1] rfl
              have hD9 := hD.sub (ws' := [(h0, .inr (0, [.ref q0, .int (nI 3), .int (-1)])), (q0, .inl (cA0, D0, .inl f_55))]) [0, 1] (by decide) rfl
              have hK9 := hK.sub (tys' := [(cA0, .int)]) [0] rfl
              exact W.vret hx hb hr (fun t ht hW => ⟨⟨(), rfl, trivial, f_55, 3, (-1), by omega, by rw [ht]; exact hP9, va_K.moved hW.alike hK9, hD9⟩, hS.F ht⟩) hS.2.2 d_Big_put_82
            · refine lv_aload_n hx hb d_Big_put_41 rfl (lv_at hl 1 rfl) ?_
              refine va_get (D := (dC, dI)) (ci := 0) (v := .int 3) (C := R_Big) (T := F_Big) (N := 3) hx hb hT i_Big hown hK hP 0 rfl rfl 1 (by decide) (hT _ tw_47) (fun _ h9 => h9) rfl d_Big_put_42 ?_
              refine lv_iconst (v := 3) hx hb d_Big_put_45 (by decide) ?_
              refine lv_icmp_ge (tgt := 82) hx hb d_Big_put_46 (by decide) (fun c_60 => ?_) (fun c_60 => absurd (by decide) c_60)
              have hP : va_P (dC, dI) classes [(h0, .inr (0, [.ref q0, .int (nI 3), .int (-1)])), (q0, .inl (cA0, D0, .inl f_55))] _ := hP
              have hD : va_D A [(h0, .inr (0, [.ref q0, .int (nI 3), .int (-1)])), (q0, .inl (cA0, D0, .inl f_55))] := hD
              have hP9 := hP.sub (ws' := [(h0, .inr (0, [.ref q0, .int (nI 3), .int (-1)])), (q0, .inl (cA0, D0, .inl f_55))]) [0, 1] rfl
              have hD9 := hD.sub (ws' := [(h0, .inr (0, [.ref q0, .int (nI 3), .int (-1)])), (q0, .inl (cA0, D0, .inl f_55))]) [0, 1] (by decide) rfl
              have hK9 := hK.sub (tys' := [(cA0, .int)]) [0] rfl
              exact W.vret hx hb hr (fun t ht hW => ⟨⟨(), rfl, trivial, f_55, 3, (-1), by omega, by rw [ht]; exact hP9, va_K.moved hW.alike hK9, hD9⟩, hS.F ht⟩) hS.2.2 d_Big_put_82
  · refine lv_iconst (v := 1) hx hb d_Big_put_7 (by decide) ?_
    refine lv_goto (tgt := 22) hx hb d_Big_put_8 (by decide) ?_
    refine va_put (D := (dC, dI)) (ci := 0) (v := .int 1) (ty := .int) (C := R_Big) (T := F_Big) (N := 3) hx hb hT i_Big t_Big t_Big_ok n_Big hown hK hP hD hS 0 rfl rfl 2 (by decide) (hT _ tw_51) (fun _ h9 => h9) rfl (by decide +kernel) rfl rfl (Nat.le_of_ble_eq_true rfl) d_Big_put_22 (fun H locs hP hD hS => ?_)
    have hP : va_P (dC, dI) classes [(h0, .inr (0, [.ref q0, .int n0, .int 1])), (q0, .inl (cA0, D0, .inl f0))] H := hP
    have hD : va_D A [(h0, .inr (0, [.ref q0, .int n0, .int 1])), (q0, .inl (cA0, D0, .inl f0))] := hD
    refine lv_lload_n hx hb d_Big_put_25 rfl (lv_at hl 1 rfl) ?_
    refine va_mabs_long hx hb (hml.trans hl.1.symm) hown (hT _ tw_74) (hT _ tw_75) (hT _ tw_4) (hT _ tw_76) (Nat.le_of_ble_eq_true rfl) (Nat.le_of_ble_eq_true rfl) (Nat.le_of_ble_eq_true rfl) (Nat.le_of_ble_eq_true rfl) d_Big_put_26 ?_
    refine lv_topl (fun v_61 ev_61 => ?_)
    refine lv_lstore_n (lv' := [(3, .long v_61), (0, .ref h0), (1, .long v0)]) hx hb d_Big_put_29 rfl hl (by decide) rfl (fun ls hl => ?_)
    refine lv_aload_n hx hb d_Big_put_30 rfl (lv_at hl 1 rfl) ?_
    refine lv_iconst (v := 0) hx hb d_Big_put_31 (by decide) ?_
    refine va_put (D := (dC, dI)) (ci := 0) (v := .int 0) (ty := .int) (C := R_Big) (T := F_Big) (N := 3) hx hb hT i_Big t_Big t_Big_ok n_Big hown hK hP hD hS 0 rfl rfl 1 (by decide) (hT _ tw_47) (fun _ h9 => h9) rfl (by decide +kernel) rfl rfl (Nat.le_of_ble_eq_true rfl) d_Big_put_32 (fun H locs hP hD hS => ?_)
    have hP : va_P (dC, dI) classes [(h0, .inr (0, [.ref q0, .int 0, .int 1])), (q0, .inl (cA0, D0, .inl f0))] H := hP
    have hD : va_D A [(h0, .inr (0, [.ref q0, .int 0, .int 1])), (q0, .inl (cA0, D0, .inl f0))] := hD
    refine lv_lload_n hx hb d_Big_put_35 rfl (lv_at hl 0 rfl) ?_
    refine lv_lconst (v := 0) hx hb d_Big_put_36 (by decide) ?_
    refine W.lcmp hx hb d_Big_put_37 ?_
    refine lv_topi (fun v_62 ev_62 => ?_)
    refine lv_if_eq (tgt := 82) hx hb d_Big_put_38 (by decide) (fun c_63 => ?_) (fun c_63 => ?_)
    · have hP : va_P (dC, dI) classes [(h0, .inr (0, [.ref q0, .int (nI 0), .int 1])), (q0, .inl (cA0, D0, .inl f0))] _ := hP
      have hD : va_D A [(h0, .inr (0, [.ref q0, .int (nI 0), .int 1])), (q0, .inl (cA0, D0, .inl f0))] := hD
      have hP9 := hP.sub (ws' := [(h0, .inr (0, [.ref q0, .int (nI 0), .int 1])), (q0, .inl (cA0, D0, .inl f0))]) [0, 1] rfl
      have hD9 := hD.sub (ws' := [(h0, .inr (0, [.ref q0, .int (nI 0), .int 1])), (q0, .inl (cA0, D0, .inl f0))]) [0, 1] (by decide) rfl
      have hK9 := hK.sub (tys' := [(cA0, .int)]) [0] rfl
      exact W.vret hx hb hr (fun t ht hW => ⟨⟨(), rfl, trivial, f0, 0, 1, by omega, by rw [ht]; exact hP9, va_K.moved hW.alike hK9, hD9⟩, hS.F ht⟩) hS.2.2 d_Big_put_82
    · refine lv_aload_n hx hb d_Big_put_41 rfl (lv_at hl 1 rfl) ?_
      refine va_get (D := (dC, dI)) (ci := 0) (v := .int 0) (C := R_Big) (T := F_Big) (N := 3) hx hb hT i_Big hown hK hP 0 rfl rfl 1 (by decide) (hT _ tw_47) (fun _ h9 => h9) rfl d_Big_put_42 ?_
      refine lv_iconst (v := 3) hx hb d_Big_put_45 (by decide) ?_
      refine lv_icmp_ge (tgt := 82) hx hb d_Big_put_46 (by decide) (fun c_64 => absurd c_64 (by decide)) (fun c_64 => ?_)
      refine lv_aload_n hx hb d_Big_put_49 rfl (lv_at hl 1 rfl) ?_
      refine va_get (D := (dC, dI)) (ci := 0) (v := .ref q0) (C := R_Big) (T := F_Big) (N := 3) hx hb hT i_Big hown hK hP 0 rfl rfl 0 (by decide) (hT _ tw_44) (fun _ h9 => h9) rfl d_Big_put_50 ?_
      refine lv_aload_n hx hb d_Big_put_53 rfl (lv_at hl 1 rfl) ?_
      refine va_get (D := (dC, dI)) (ci := 0) (v := .int 0) (C := R_Big) (T := F_Big) (N := 3) hx hb hT i_Big hown hK hP 0 rfl rfl 1 (by decide) (hT _ tw_47) (fun _ h9 => h9) rfl d_Big_put_54 ?_
      refine lv_lload_n hx hb d_Big_put_57 rfl (lv_at hl 0 rfl) ?_
      refine lv_ldc2 (v := 1073741823) hx hb hown (hT _ tw_77) d_Big_put_58 ?_
      refine lv_land hx hb d_Big_put_61 ?_
      refine lv_topl (fun v_65 ev_65 => ?_)
      obtain ⟨v_66, ev_66⟩ : ∃ z : Int32, (v_65 : Int64).toInt32 = z := ⟨_, rfl⟩
      refine lv_l2i (v := v_66) hx hb d_Big_put_62 ev_66 ?_
      refine va_iast hx hb hK hP hD hS 1 0 rfl rfl (vp_in_nI (n := 0) (by omega) (by omega)) d_Big_put_63 (fun H locs hP hD hS => ?_)
      have hP : va_P (dC, dI) classes [(h0, .inr (0, [.ref q0, .int 0, .int 1])), (q0, .inl (cA0, D0, .inl (upd f0 (0 : Int32).toNatClampNeg v_66)))] H := hP
      have hD : va_D A [(h0, .inr (0, [.ref q0, .int 0, .int 1])), (q0, .inl (cA0, D0, .inl (upd f0 (0 : Int32).toNatClampNeg v_66)))] := hD
      generalize upd f0 (0 : Int32).toNatClampNeg v_66 = f_67 at hP hD
      refine lv_lload_n hx hb d_Big_put_64 rfl (lv_at hl 0 rfl) ?_
      refine lv_bipush (v := 30) hx hb d_Big_put_65 (by decide) ?_
      obtain ⟨v_68, ev_68⟩ : ∃ z : Int64, ((v_61 : Int64).toUInt64 >>> ((30 : Int32).toInt64.toUInt64 &&& Int64.toUInt64 63)).toInt64 = z := ⟨_, rfl⟩
      refine lv_lushr (v := v_68) hx hb d_Big_put_67 ev_68 ?_
      refine lv_lstore_n (lv' := [(3, .long v_68), (0, .ref h0), (1, .long v0)]) hx hb d_Big_put_68 rfl hl (by decide) rfl (fun ls hl => ?_)
      refine lv_aload_n hx hb d_Big_put_69 rfl (lv_at hl 1 rfl) ?_
      refine lv_dup hx hb d_Big_put_70 rfl ?_
      refine va_get (D := (dC, dI)) (ci := 0) (v := .int 0) (C := R_Big) (T := F_Big) (N := 3) hx hb hT i_Big hown hK hP 0 rfl rfl 1 (by decide) (hT _ tw_47) (fun _ h9 => h9) rfl d_Big_put_71 ?_
      refine lv_iconst (v := 1) hx hb d_Big_put_74 (by decide) ?_
      refine lv_iadd hx hb d_Big_put_75 ?_
      refine lv_topi (fun v_69 ev_69 => ?_)
      obtain rfl : v_69 = 1 := ev_69.trans (by decide)
      refine va_put (D := (dC, dI)) (ci := 0) (v := .int 1) (ty := .int) (C := R_Big) (T := F_Big) (N := 3) hx hb hT i_Big t_Big t_Big_ok n_Big hown hK hP hD hS 0 rfl rfl 1 (by decide) (hT _ tw_47) (fun _ h9 => h9) rfl (by decide +kernel) rfl rfl (Nat.le_of_ble_eq_true rfl) d_Big_put_76 (fun H locs hP hD hS => ?_)
      have hP : va_P (dC, dI) classes [(h0, .inr (0, [.ref q0, .int 1, .int 1])), (q0, .inl (cA0, D0, .inl f_67))] H := hP
      have hD : va_D A [(h0, .inr (0, [.ref q0, .int 1, .int 1])), (q0, .inl (cA0, D0, .inl f_67))] := hD
      refine lv_goto (tgt := 35) hx hb d_Big_put_79 (by decide) ?_
      refine lv_lload_n hx hb d_Big_put_35 rfl (lv_at hl 0 rfl) ?_
      refine lv_lconst (v := 0) hx hb d_Big_put_36 (by decide) ?_
      refine W.lcmp hx hb d_Big_put_37 ?_
      refine lv_topi (fun v_70 ev_70 => ?_)
      refine lv_if_eq (tgt := 82) hx hb d_Big_put_38 (by decide) (fun c_71 => ?_) (fun c_71 => ?_)
      · have hP : va_P (dC, dI) classes [(h0, .inr (0, [.ref q0, .int (nI 1), .int 1])), (q0, .inl (cA0, D0, .inl f_67))] _ := hP
        have hD : va_D A [(h0, .inr (0, [.ref q0, .int (nI 1), .int 1])), (q0, .inl (cA0, D0, .inl f_67))] := hD
        have hP9 := hP.sub (ws' := [(h0, .inr (0, [.ref q0, .int (nI 1), .int 1])), (q0, .inl (cA0, D0, .inl f_67))]) [0, 1] rfl
        have hD9 := hD.sub (ws' := [(h0, .inr (0, [.ref q0, .int (nI 1), .int 1])), (q0, .inl (cA0, D0, .inl f_67))]) [0, 1] (by decide) rfl
        have hK9 := hK.sub (tys' := [(cA0, .int)]) [0] rfl
        exact W.vret hx hb hr (fun t ht hW => ⟨⟨(), rfl, trivial, f_67, 1, 1, by omega, by rw [ht]; exact hP9, va_K.moved hW.alike hK9, hD9⟩, hS.F ht⟩) hS.2.2 d_Big_put_82
      · refine lv_aload_n hx hb d_Big_put_41 rfl (lv_at hl 1 rfl) ?_
        refine va_get (D := (dC, dI)) (ci := 0) (v := .int 1) (C := R_Big) (T := F_Big) (N := 3) hx hb hT i_Big hown hK hP 0 rfl rfl 1 (by decide) (hT _ tw_47) (fun _ h9 => h9) rfl d_Big_put_42 ?_
        refine lv_iconst (v := 3) hx hb d_Big_put_45 (by decide) ?_
        refine lv_icmp_ge (tgt := 82) hx hb d_Big_put_46 (by decide) (fun c_72 => absurd c_72 (by decide)) (fun c_72 => ?_)
        refine lv_aload_n hx hb d_Big_put_49 rfl (lv_at hl 1 rfl) ?_
        refine va_get (D := (dC, dI)) (ci := 0) (v := .ref q0) (C := R_Big) (T := F_Big) (N := 3) hx hb hT i_Big hown hK hP 0 rfl rfl 0 (by decide) (hT _ tw_44) (fun _ h9 => h9) rfl d_Big_put_50 ?_
        refine lv_aload_n hx hb d_Big_put_53 rfl (lv_at hl 1 rfl) ?_
        refine va_get (D := (dC, dI)) (ci := 0) (v := .int 1) (C := R_Big) (T := F_Big) (N := 3) hx hb hT i_Big hown hK hP 0 rfl rfl 1 (by decide) (hT _ tw_47) (fun _ h9 => h9) rfl d_Big_put_54 ?_
        refine lv_lload_n hx hb d_Big_put_57 rfl (lv_at hl 0 rfl) ?_
        refine lv_ldc2 (v := 1073741823) hx hb hown (hT _ tw_77) d_Big_put_58 ?_
        refine lv_land hx hb d_Big_put_61 ?_
        refine lv_topl (fun v_73 ev_73 => ?_)
        obtain ⟨v_74, ev_74⟩ : ∃ z : Int32, (v_73 : Int64).toInt32 = z := ⟨_, rfl⟩
        refine lv_l2i (v := v_74) hx hb d_Big_put_62 ev_74 ?_
        refine va_iast hx hb hK hP hD hS 1 0 rfl rfl (vp_in_nI (n := 1) (by omega) (by omega)) d_Big_put_63 (fun H locs hP hD hS => ?_)
        have hP : va_P (dC, dI) classes [(h0, .inr (0, [.ref q0, .int 1, .int 1])), (q0, .inl (cA0, D0, .inl (upd f_67 (1 : Int32).toNatClampNeg v_74)))] H := hP
        have hD : va_D A [(h0, .inr (0, [.ref q0, .int 1, .int 1])), (q0, .inl (cA0, D0, .inl (upd f_67 (1 : Int32).toNatClampNeg v_74)))] := hD
        generalize upd f_67 (1 : Int32).toNatClampNeg v_74 = f_75 at hP hD
        refine lv_lload_n hx hb d_Big_put_64 rfl (lv_at hl 0 rfl) ?_
        refine lv_bipush (v := 30) hx hb d_Big_put_65 (by decide) ?_
        obtain ⟨v_76, ev_76⟩ : ∃ z : Int64, ((v_68 : Int64).toUInt64 >>> ((30 : Int32).toInt64.toUInt64 &&& Int64.toUInt64 63)).toInt64 = z := ⟨_, rfl⟩
        refine lv_lushr (v := v_76) hx hb d_Big_put_67 ev_76 ?_
        refine lv_lstore_n (lv' := [(3, .long v_76), (0, .ref h0), (1, .long v0)]) hx hb d_Big_put_68 rfl hl (by decide) rfl (fun ls hl => ?_)
        refine lv_aload_n hx hb d_Big_put_69 rfl (lv_at hl 1 rfl) ?_
        refine lv_dup hx hb d_Big_put_70 rfl ?_
        refine va_get (D := (dC, dI)) (ci := 0) (v := .int 1) (C := R_Big) (T := F_Big) (N := 3) hx hb hT i_Big hown hK hP 0 rfl rfl 1 (by decide) (hT _ tw_47) (fun _ h9 => h9) rfl d_Big_put_71 ?_
        refine lv_iconst (v := 1) hx hb d_Big_put_74 (by decide) ?_
        refine lv_iadd hx hb d_Big_put_75 ?_
        refine lv_topi (fun v_77 ev_77 => ?_)
        obtain rfl : v_77 = 2 := ev_77.trans (by decide)
        refine va_put (D := (dC, dI)) (ci := 0) (v := .int 2) (ty := .int) (C := R_Big) (T := F_Big) (N := 3) hx hb hT i_Big t_Big t_Big_ok n_Big hown hK hP hD hS 0 rfl rfl 1 (by decide) (hT _ tw_47) (fun _ h9 => h9) rfl (by decide +kernel) rfl rfl (Nat.le_of_ble_eq_true rfl) d_Big_put_76 (fun H locs hP hD hS => ?_)
        have hP : va_P (dC, dI) classes [(h0, .inr (0, [.ref q0, .int 2, .int 1])), (q0, .inl (cA0, D0, .inl f_75))] H := hP
        have hD : va_D A [(h0, .inr (0, [.ref q0, .int 2, .int 1])), (q0, .inl (cA0, D0, .inl f_75))] := hD
        refine lv_goto (tgt := 35) hx hb d_Big_put_79 (by decide) ?_
        refine lv_lload_n hx hb d_Big_put_35 rfl (lv_at hl 0 rfl) ?_
        refine lv_lconst (v := 0) hx hb d_Big_put_36 (by decide) ?_
        refine W.lcmp hx hb d_Big_put_37 ?_
        refine lv_topi (fun v_78 ev_78 => ?_)
        refine lv_if_eq (tgt := 82) hx hb d_Big_put_38 (by decide) (fun c_79 => ?_) (fun c_79 => ?_)
        · have hP : va_P (dC, dI) classes [(h0, .inr (0, [.ref q0, .int (nI 2), .int 1])), (q0, .inl (cA0, D0, .inl f_75))] _ := hP
          have hD : va_D A [(h0, .inr (0, [.ref q0, .int (nI 2), .int 1])), (q0, .inl (cA0, D0, .inl f_75))] := hD
          have hP9 := hP.sub (ws' := [(h0, .inr (0, [.ref q0, .int (nI 2), .int 1])), (q0, .inl (cA0, D0, .inl f_75))]) [0, 1] rfl
          have hD9 := hD.sub (ws' := [(h0, .inr (0, [.ref q0, .int (nI 2), .int 1])), (q0, .inl (cA0, D0, .inl f_75))]) [0, 1] (by decide) rfl
          have hK9 := hK.sub (tys' := [(cA0, .int)]) [0] rfl
          exact W.vret hx hb hr (fun t ht hW => ⟨⟨(), rfl, trivial, f_75, 2, 1, by omega, by rw [ht]; exact hP9, va_K.moved hW.alike hK9, hD9⟩, hS.F ht⟩) hS.2.2 d_Big_put_82
        · refine lv_aload_n hx hb d_Big_put_41 rfl (lv_at hl 1 rfl) ?_
          refine va_get (D := (dC, dI)) (ci := 0) (v := .int 2) (C := R_Big) (T := F_Big) (N := 3) hx hb hT i_Big hown hK hP 0 rfl rfl 1 (by decide) (hT _ tw_47) (fun _ h9 => h9) rfl d_Big_put_42 ?_
          refine lv_iconst (v := 3) hx hb d_Big_put_45 (by decide) ?_
          refine lv_icmp_ge (tgt := 82) hx hb d_Big_put_46 (by decide) (fun c_80 => absurd c_80 (by decide)) (fun c_80 => ?_)
          refine lv_aload_n hx hb d_Big_put_49 rfl (lv_at hl 1 rfl) ?_
          refine va_get (D := (dC, dI)) (ci := 0) (v := .ref q0) (C := R_Big) (T := F_Big) (N := 3) hx hb hT i_Big hown hK hP 0 rfl rfl 0 (by decide) (hT _ tw_44) (fun _ h9 => h9) rfl d_Big_put_50 ?_
          refine lv_aload_n hx hb d_Big_put_53 rfl (lv_at hl 1 rfl) ?_
          refine va_get (D := (dC, dI)) (ci := 0) (v := .int 2) (C := R_Big) (T := F_Big) (N := 3) hx hb hT i_Big hown hK hP 0 rfl rfl 1 (by decide) (hT _ tw_47) (fun _ h9 => h9) rfl d_Big_put_54 ?_
          refine lv_lload_n hx hb d_Big_put_57 rfl (lv_at hl 0 rfl) ?_
          refine lv_ldc2 (v := 1073741823) hx hb hown (hT _ tw_77) d_Big_put_58 ?_
          refine lv_land hx hb d_Big_put_61 ?_
          refine lv_topl (fun v_81 ev_81 => ?_)
          obtain ⟨v_82, ev_82⟩ : ∃ z : Int32, (v_81 : Int64).toInt32 = z := ⟨_, rfl⟩
          refine lv_l2i (v := v_82) hx hb d_Big_put_62 ev_82 ?_
          refine va_iast hx hb hK hP hD hS 1 0 rfl rfl (vp_in_nI (n := 2) (by omega) (by omega)) d_Big_put_63 (fun H locs hP hD hS => ?_)
          have hP : va_P (dC, dI) classes [(h0, .inr (0, [.ref q0, .int 2, .int 1])), (q0, .inl (cA0, D0, .inl (upd f_75 (2 : Int32).toNatClampNeg v_82)))] H := hP
          have hD : va_D A [(h0, .inr (0, [.ref q0, .int 2, .int 1])), (q0, .inl (cA0, D0, .inl (upd f_75 (2 : Int32).toNatClampNeg v_82)))] := hD
          generalize upd f_75 (2 : Int32).toNatClampNeg v_82 = f_83 at hP hD
          refine lv_lload_n hx hb d_Big_put_64 rfl (lv_at hl 0 rfl) ?_
          refine lv_bipush (v := 30) hx hb d_Big_put_65 (by decide) ?_
          obtain ⟨v_84, ev_84⟩ : ∃ z : Int64, ((v_76 : Int64).toUInt64 >>> ((30 : Int32).toInt64.toUInt64 &&& Int64.toUInt64 63)).toInt64 = z := ⟨_, rfl⟩
          refine lv_lushr (v := v_84) hx hb d_Big_put_67 ev_84 ?_
          refine lv_lstore_n (lv' := [(3, .long v_84), (0, .ref h0), (1, .long v0)]) hx hb d_Big_put_68 rfl hl (by decide) rfl (fun ls hl => ?_)
          refine lv_aload_n hx hb d_Big_put_69 rfl (lv_at hl 1 rfl) ?_
          refine lv_dup hx hb d_Big_put_70 rfl ?_
          refine va_get (D := (dC, dI)) (ci := 0) (v := .int 2) (C := R_Big) (T := F_Big) (N := 3) hx hb hT i_Big hown hK hP 0 rfl rfl 1 (by decide) (hT _ tw_47) (fun _ h9 => h9) rfl d_Big_put_71 ?_
          refine lv_iconst (v := 1) hx hb d_Big_put_74 (by decide) ?_
          refine lv_iadd hx hb d_Big_put_75 ?_
          refine lv_topi (fun v_85 ev_85 => ?_)
          obtain rfl : v_85 = 3 := ev_85.trans (by decide)
          refine va_put (D := (dC, dI)) (ci := 0) (v := .int 3) (ty := .int) (C := R_Big) (T := F_Big) (N := 3) hx hb hT i_Big t_Big t_Big_ok n_Big hown hK hP hD hS 0 rfl rfl 1 (by decide) (hT _ tw_47) (fun _ h9 => h9) rfl (by decide +kernel) rfl rfl (Nat.le_of_ble_eq_true rfl) d_Big_put_76 (fun H locs hP hD hS => ?_)
          have hP : va_P (dC, dI) classes [(h0, .inr (0, [.ref q0, .int 3, .int 1])), (q0, .inl (cA0, D0, .inl f_83))] H := hP
          have hD : va_D A [(h0, .inr (0, [.ref q0, .int 3, .int 1])), (q0, .inl (cA0, D0, .inl f_83))] := hD
          refine lv_goto (tgt := 35) hx hb d_Big_put_79 (by decide) ?_
          refine lv_lload_n hx hb d_Big_put_35 rfl (lv_at hl 0 rfl) ?_
          refine lv_lconst (v := 0) hx hb d_Big_put_36 (by decide) ?_
          refine W.lcmp hx hb d_Big_put_37 ?_
          refine lv_topi (fun v_86 ev_86 => ?_)
          refine lv_if_eq (tgt := 82) hx hb d_Big_put_38 (by decide) (fun c_87 => ?_) (fun c_87 => ?_)
          · have hP : va_P (dC, dI) classes [(h0, .inr (0, [.ref q0, .int (nI 3), .int 1])), (q0, .inl (cA0, D0, .inl f_83))] _ := hP
            have hD : va_D A [(h0, .inr (0, [.ref q0, .int (nI 3), .int 1])), (q0, .inl (cA0, D0, .inl f_83))] := hD
            have hP9 := hP.sub (ws' := [(h0, .inr (0, [.ref q0, .int (nI 3), .int 1])), (q0, .inl (cA0, D0, .inl f_83))]) [0, 1] rfl
            have hD9 := hD.sub (ws' := [(h0, .inr (0, [.ref q0, .int (nI 3), .int 1])), (q0, .inl (cA0, D0, .inl f_83))]) [0, 1] (by decide) rfl
            have hK9 := hK.sub (tys' := [(cA0, .int)]) [0] rfl
            exact W.vret hx hb hr (fun t ht hW => ⟨⟨(), rfl, trivial, f_83, 3, 1, by omega, by rw [ht]; exact hP9, va_K.moved hW.alike hK9, hD9⟩, hS.F ht⟩) hS.2.2 d_Big_put_82
          · refine lv_aload_n hx hb d_Big_put_41 rfl (lv_at hl 1 rfl) ?_
            refine va_get (D := (dC, dI)) (ci := 0) (v := .int 3) (C := R_Big) (T := F_Big) (N := 3) hx hb hT i_Big hown hK hP 0 rfl rfl 1 (by decide) (hT _ tw_47) (fun _ h9 => h9) rfl d_Big_put_42 ?_
            refine lv_iconst (v := 3) hx hb d_Big_put_45 (by decide) ?_
            refine lv_icmp_ge (tgt := 82) hx hb d_Big_put_46 (by decide) (fun c_88 => ?_) (fun c_88 => absurd (by decide) c_88)
            have hP : va_P (dC, dI) classes [(h0, .inr (0, [.ref q0, .int (nI 3), .int 1])), (q0, .inl (cA0, D0, .inl f_83))] _ := hP
            have hD : va_D A [(h0, .inr (0, [.ref q0, .int (nI 3), .int 1])), (q0, .inl (cA0, D0, .inl f_83))] := hD
            have hP9 := hP.sub (ws' := [(h0, .inr (0, [.ref q0, .int (nI 3), .int 1])), (q0, .inl (cA0, D0, .inl f_83))]) [0, 1] rfl
            have hD9 := hD.sub (ws' := [(h0, .inr (0, [.ref q0, .int (nI 3), .int 1])), (q0, .inl (cA0, D0, .inl f_83))]) [0, 1] (by decide) rfl
            have hK9 := hK.sub (tys' := [(cA0, .int)]) [0] rfl
            exact W.vret hx hb hr (fun t ht hW => ⟨⟨(), rfl, trivial, f_83, 3, 1, by omega, by rw [ht]; exact hP9, va_K.moved hW.alike hK9, hD9⟩, hS.F ht⟩) hS.2.2 d_Big_put_82

set_option maxHeartbeats 4000000 in
set_option maxRecDepth 100000 in
/-- copy(a): shape alone -/
theorem c_Big_copy (l : Launch) (dC : Nat → ClassId) (dI : Nat → Nat → Nat) (sz : Nat) (h0 : Nat) (q0 : Nat) (cA0 : ClassId) (D0 : Nat) (f0 : Nat → Int32) (n0 : Int32) (s0 : Int32) (h1 : Nat) (q1 : Nat) (cA1 : ClassId) (D1 : Nat) (f1 : Nat → Int32) (k1 : Nat) (s1 : Int32) (hk : k1 ≤ D1) (hk2 : k1 ≤ 60) (hD0 : D0 < 2 ^ 31) : Met l y_Big_copy w_Big_copy ({ frames := 1, cells := 1, slots := 64, locals := 24 }) (va_Pc [.ref h0, .ref h1] (fun U => U.heap.size = sz ∧ va_P (dC, dI) classes [(h0, .inr (0, [.ref q0, .int n0, .int s0])), (q0, .inl (cA0, D0, .inl f0)), (h1, .inr (0, [.ref q1, .int (nI k1), .int s1])), (q1, .inl (cA1, D1, .inl f1))] U.heap ∧ va_K (dC, dI) classes [(cA0, .int), (cA1, .int)] U ∧ va_D (fun _ => True) [(h0, .inr (0, [.ref q0, .int n0, .int s0])), (q0, .inl (cA0, D0, .inl f0)), (h1, .inr (0, [.ref q1, .int (nI k1), .int s1])), (q1, .inl (cA1, D1, .inl f1))] ∧ nx_K U)) (va_Qv (fun _ : Unit => True) (fun _ t => ∃ (q2 : Nat), ∃ (cA2 : ClassId), ∃ (D2 : Nat), ∃ (f2 : Nat → Int32), (k1 ≤ D2 ∧ (D2 = D0 ∨ D2 ≤ 64)) ∧ va_P (dC, dI) classes [(h0, .inr (0, [.ref q2, .int (nI k1), .int s1])), (q2, .inl (cA2, D2, .inl f2)), (h1, .inr (0, [.ref q1, .int (nI k1), .int s1])), (q1, .inl (cA1, D1, .inl f1))] t.heap ∧ va_K (dC, dI) classes [(cA2, .int), (cA1, .int)] t ∧ va_D (va_A [(h0, .inr (0, [.ref q0, .int n0, .int s0])), (q0, .inl (cA0, D0, .inl f0)), (h1, .inr (0, [.ref q1, .int (nI k1), .int s1])), (q1, .inl (cA1, D1, .inl f1))] sz) [(h0, .inr (0, [.ref q2, .int (nI k1), .int s1])), (q2, .inl (cA2, D2, .inl f2)), (h1, .inr (0, [.ref q1, .int (nI k1), .int s1])), (q1, .inl (cA1, D1, .inl f1))]) (va_A [(h0, .inr (0, [.ref q0, .int n0, .int s0])), (q0, .inl (cA0, D0, .inl f0)), (h1, .inr (0, [.ref q1, .int (nI k1), .int s1])), (q1, .inl (cA1, D1, .inl f1))] sz)) 1 64 (va_A [(h0, .inr (0, [.ref q0, .int n0, .int s0])), (q0, .inl (cA0, D0, .inl f0)), (h1, .inr (0, [.ref q1, .int (nI k1), .int s1])), (q1, .inl (cA1, D1, .inl f1))] sz) := by
  refine Met.ofW (cc := b_Big_copy) (maxL := 2) (ret := none) (by decide) rfl ?_
  intro p e s m args below meth c s₁ B hml hv
  obtain ⟨rfl, hsz, hP, hK, hD0, hN⟩ := hv
  have hx := B.exec
  have hb := B.bytes
  have hr := B.returns
  have hT : ∀ w ∈ lw_g, w.before _ s = true := fun w h => atoms_spec (ws := w_Big_copy) B.pre w (List.mem_cons_of_mem _ h)
  have hown : s.vm.findClass R_Big = some m.cls := findClass_of_methodNamed B.named
  have hlocks := B.notSynchronized
  subst hsz
  have hD := hD0.self (sz := s.heap.size)
  generalize hAe : va_A [(h0, .inr (0, [.ref q0, .int n0, .int s0])), (q0, .inl (cA0, D0, .inl f0)), (h1, .inr (0, [.ref q1, .int (nI k1), .int s1])), (q1, .inl (cA1, D1, .inl f1))] s.heap.size = A at hD ⊢
  have hA : ∀ q : Nat, s.heap.size ≤ q → A q := fun q h => by rw [← hAe]; exact Or.inr h
  have hS : va_S A s.heap s.heap [] := va_S.rf
  have hP : va_P (dC, dI) classes [(h0, .inr (0, [.ref q0, .int n0, .int s0])), (q0, .inl (cA0, D0, .inl f0)), (h1, .inr (0, [.ref q1, .int (nI k1), .int s1])), (q1, .inl (cA1, D1, .inl f1))] s.heap := hP
  have hl := lv_entry ([.ref h0, .ref h1]) (n := 2) (Nat.le_of_ble_eq_true rfl)
  rw [lg_entry_eq]
  generalize (lg_sl ([.ref h0, .ref h1]) ++ List.replicate (2 - (lg_sl ([.ref h0, .ref h1])).length) Slot.unset).toArray = ls at hl ⊢
  have hl : lv_has ls 2 [(0, .ref h0), (1, .ref h1)] := hl
  refine lv_aload_n hx hb d_Big_copy_0 rfl (lv_at hl 0 rfl) ?_
  refine va_get (D := (dC, dI)) (ci := 0) (v := .ref q0) (C := R_Big) (T := F_Big) (N := 3) hx hb hT i_Big hown hK hP 0 rfl rfl 0 (by decide) (hT _ tw_44) (fun _ h9 => h9) rfl d_Big_copy_1 ?_
  refine va_alen (v := (nI D0)) hx hb hK hP 1 0 rfl rfl rfl d_Big_copy_4 ?_
  refine lv_aload_n hx hb d_Big_copy_5 rfl (lv_at hl 1 rfl) ?_
  refine va_get (D := (dC, dI)) (ci := 0) (v := .int (nI k1)) (C := R_Big) (T := F_Big) (N := 3) hx hb hT i_Big hown hK hP 2 rfl rfl 1 (by decide) (hT _ tw_47) (fun _ h9 => h9) rfl d_Big_copy_6 ?_
  refine lv_icmp_ge (tgt := 24) hx hb d_Big_copy_9 (by decide) (fun c_1 => ?_) (fun c_1 => ?_)
  · have hlen : k1 ≤ D0 := (nI_leI (by omega) (by omega)).mp c_1
    refine lv_aload_n hx hb d_Big_copy_24 rfl (lv_at hl 1 rfl) ?_
    refine va_get (D := (dC, dI)) (ci := 0) (v := .ref q1) (C := R_Big) (T := F_Big) (N := 3) hx hb hT i_Big hown hK hP 2 rfl rfl 0 (by decide) (hT _ tw_44) (fun _ h9 => h9) rfl d_Big_copy_25 ?_
    refine lv_iconst (v := 0) hx hb d_Big_copy_28 (by decide) ?_
    refine lv_aload_n hx hb d_Big_copy_29 rfl (lv_at hl 0 rfl) ?_
    refine va_get (D := (dC, dI)) (ci := 0) (v := .ref q0) (C := R_Big) (T := F_Big) (N := 3) hx hb hT i_Big hown hK hP 0 rfl rfl 0 (by decide) (hT _ tw_44) (fun _ h9 => h9) rfl d_Big_copy_30 ?_
    refine lv_iconst (v := 0) hx hb d_Big_copy_33 (by decide) ?_
    refine lv_aload_n hx hb d_Big_copy_34 rfl (lv_at hl 1 rfl) ?_
    refine va_get (D := (dC, dI)) (ci := 0) (v := .int (nI k1)) (C := R_Big) (T := F_Big) (N := 3) hx hb hT i_Big hown hK hP 2 rfl rfl 1 (by decide) (hT _ tw_47) (fun _ h9 => h9) rfl d_Big_copy_35 ?_
    refine va_copyi hx hb (hml.trans hl.1.symm) hown (hT _ tw_83) (hT _ tw_85) (hT _ tw_84) (hT _ tw_5) hK hP hD hS 3 1 1 0 rfl rfl rfl rfl rfl (by decide) (by decide) (nI_pos (by omega)) (by rw [nI_clamp (by omega)]; show 0 + k1 ≤ _; omega) (by rw [nI_clamp (by omega)]; show 0 + k1 ≤ _; omega) (fun _ _ => rfl) (Nat.le_of_ble_eq_true rfl) (by decide) d_Big_copy_38 (fun H locs hP hD hS => ?_)
    have hP : va_P (dC, dI) classes [(h0, .inr (0, [.ref q0, .int n0, .int s0])), (q0, .inl (cA0, D0, .inl (va_cpy f1 f0 (0 : Int32).toNatClampNeg (0 : Int32).toNatClampNeg ((nI k1) : Int32).toNatClampNeg))), (h1, .inr (0, [.ref q1, .int (nI k1), .int s1])), (q1, .inl (cA1, D1, .inl f1))] H := hP
    have hD : va_D A [(h0, .inr (0, [.ref q0, .int n0, .int s0])), (q0, .inl (cA0, D0, .inl (va_cpy f1 f0 (0 : Int32).toNatClampNeg (0 : Int32).toNatClampNeg ((nI k1) : Int32).toNatClampNeg))), (h1, .inr (0, [.ref q1, .int (nI k1), .int s1])), (q1, .inl (cA1, D1, .inl f1))] := hD
    generalize va_cpy f1 f0 (0 : Int32).toNatClampNeg (0 : Int32).toNatClampNeg ((nI k1) : Int32).toNatClampNeg = f_2 at hP hD
    refine lv_aload_n hx hb d_Big_copy_41 rfl (lv_at hl 0 rfl) ?_
    refine lv_aload_n hx hb d_Big_copy_42 rfl (lv_at hl 1 rfl) ?_
    refine va_get (D := (dC, dI)) (ci := 0) (v := .int (nI k1)) (C := R_Big) (T := F_Big) (N := 3) hx hb hT i_Big hown hK hP 2 rfl rfl 1 (by decide) (hT _ tw_47) (fun _ h9 => h9) rfl d_Big_copy_43 ?_
    refine va_put (D := (dC, dI)) (ci := 0) (v := .int (nI k1)) (ty := .int) (C := R_Big) (T := F_Big) (N := 3) hx hb hT i_Big t_Big t_Big_ok n_Big hown hK hP hD hS 0 rfl rfl 1 (by decide) (hT _ tw_47) (fun _ h9 => h9) rfl (by decide +kernel) rfl rfl (Nat.le_of_ble_eq_true rfl) d_Big_copy_46 (fun H locs hP hD hS => ?_)
    have hP : va_P (dC, dI) classes [(h0, .inr (0, [.ref q0, .int (nI k1), .int s0])), (q0, .inl (cA0, D0, .inl f_2)), (h1, .inr (0, [.ref q1, .int (nI k1), .int s1])), (q1, .inl (cA1, D1, .inl f1))] H := hP
    have hD : va_D A [(h0, .inr (0, [.ref q0, .int (nI k1), .int s0])), (q0, .inl (cA0, D0, .inl f_2)), (h1, .inr (0, [.ref q1, .int (nI k1), .int s1])), (q1, .inl (cA1, D1, .inl f1))] := hD
    refine lv_aload_n hx hb d_Big_copy_49 rfl (lv_at hl 0 rfl) ?_
    refine lv_aload_n hx hb d_Big_copy_50 rfl (lv_at hl 1 rfl) ?_
    refine va_get (D := (dC, dI)) (ci := 0) (v := .int s1) (C := R_Big) (T := F_Big) (N := 3) hx hb hT i_Big hown hK hP 2 rfl rfl 2 (by decide) (hT _ tw_51) (fun _ h9 => h9) rfl d_Big_copy_51 ?_
    refine va_put (D := (dC, dI)) (ci := 0) (v := .int s1) (ty := .int) (C := R_Big) (T := F_Big) (N := 3) hx hb hT i_Big t_Big t_Big_ok n_Big hown hK hP hD hS 0 rfl rfl 2 (by decide) (hT _ tw_51) (fun _ h9 => h9) rfl (by decide +kernel) rfl rfl (Nat.le_of_ble_eq_true rfl) d_Big_copy_54 (fun H locs hP hD hS => ?_)
    have hP : va_P (dC, dI) classes [(h0, .inr (0, [.ref q0, .int (nI k1), .int s1])), (q0, .inl (cA0, D0, .inl f_2)), (h1, .inr (0, [.ref q1, .int (nI k1), .int s1])), (q1, .inl (cA1, D1, .inl f1))] H := hP
    have hD : va_D A [(h0, .inr (0, [.ref q0, .int (nI k1), .int s1])), (q0, .inl (cA0, D0, .inl f_2)), (h1, .inr (0, [.ref q1, .int (nI k1), .int s1])), (q1, .inl (cA1, D1, .inl f1))] := hD
    have hP9 := hP.sub (ws' := [(h0, .inr (0, [.ref q0, .int (nI k1), .int s1])), (q0, .inl (cA0, D0, .inl f_2)), (h1, .inr (0, [.ref q1, .int (nI k1), .int s1])), (q1, .inl (cA1, D1, .inl f1))]) [0, 1, 2, 3] rfl
    have hD9 := hD.sub (ws' := [(h0, .inr (0, [.ref q0, .int (nI k1), .int s1])), (q0, .inl (cA0, D0, .inl f_2)), (h1, .inr (0, [.ref q1, .int (nI k1), .int s1])), (q1, .inl (cA1, D1, .inl f1))]) [0, 1, 2, 3] (by decide) rfl
    have hK9 := hK.sub (tys' := [(cA0, .int), (cA1, .int)]) [0, 1] rfl
    refine W.widen (k := 1) (n := 64) (Nat.le_of_ble_eq_true rfl) (Nat.le_of_ble_eq_true rfl) ?_
    exact W.vret hx hb hr (fun t ht hW => ⟨⟨(), rfl, trivial, q0, cA0, D0, f_2, ⟨by omega, by omega⟩, by rw [ht]; exact hP9, va_K.moved hW.alike hK9, hD9⟩, hS.F ht⟩) hS.2.2 d_Big_copy_57
  · have hlen : D0 < k1 := Nat.lt_of_not_le (fun h => c_1 ((nI_leI (by omega) (by omega)).mpr h))
    refine lv_aload_n hx hb d_Big_copy_12 rfl (lv_at hl 0 rfl) ?_
    refine lv_aload_n hx hb d_Big_copy_13 rfl (lv_at hl 1 rfl) ?_
    refine va_get (D := (dC, dI)) (ci := 0) (v := .int (nI k1)) (C := R_Big) (T := F_Big) (N := 3) hx hb hT i_Big hown hK hP 2 rfl rfl 1 (by decide) (hT _ tw_47) (fun _ h9 => h9) rfl d_Big_copy_14 ?_
    refine lv_iconst (v := 4) hx hb d_Big_copy_17 (by decide) ?_
    refine lv_iadd hx hb d_Big_copy_18 ?_
    refine lv_topi (fun v_3 ev_3 => ?_)
    obtain rfl : v_3 = nI (k1 + 4) := ev_3.trans (nI_add k1 4)
    refine va_newa (atype := .int) (a0 := ((k1 + 4), .inl (fun _ => 0))) hx hb (hT _ tw_68) rfl hK hP hD hS hA (fun _ => vp_cell_i _ _ _) (nI_pos (by omega)) (nI_clamp (by omega)) (by show (k1 + 4) * 4 ≤ _; omega) (Nat.le_of_ble_eq_true rfl) (by show 0 + (k1 + 4) ≤ 64; omega) d_Big_copy_19 (fun q_4 cA_5 H hK hP hD hS => ?_)
    have hP : va_P (dC, dI) classes [(h0, .inr (0, [.ref q0, .int n0, .int s0])), (q0, .inl (cA0, D0, .inl f0)), (h1, .inr (0, [.ref q1, .int (nI k1), .int s1])), (q1, .inl (cA1, D1, .inl f1)), (q_4, .inl (cA_5, (k1 + 4), .inl (fun _ => 0)))] H := hP
    have hD : va_D A [(h0, .inr (0, [.ref q0, .int n0, .int s0])), (q0, .inl (cA0, D0, .inl f0)), (h1, .inr (0, [.ref q1, .int (nI k1), .int s1])), (q1, .inl (cA1, D1, .inl f1)), (q_4, .inl (cA_5, (k1 + 4), .inl (fun _ => 0)))] := hD
    have hK : va_K (dC, dI) classes [(cA0, .int), (cA1, .int), (cA_5, .int)] s := hK
    refine W.widen (k := 1) (n := 64) (Nat.le_of_ble_eq_true rfl) (by omega) ?_
    refine va_put (D := (dC, dI)) (ci := 0) (v := .ref q_4) (ty := .array .int) (C := R_Big) (T := F_Big) (N := 3) hx hb hT i_Big t_Big t_Big_ok n_Big hown hK hP hD hS 0 rfl rfl 0 (by decide) (hT _ tw_44) (fun _ h9 => h9) rfl (by decide +kernel) rfl rfl (Nat.le_of_ble_eq_true rfl) d_Big_copy_21 (fun H locs hP hD hS => ?_)
    have hP : va_P (dC, dI) classes [(h0, .inr (0, [.ref q_4, .int n0, .int s0])), (q0, .inl (cA0, D0, .inl f0)), (h1, .inr (0, [.ref q1, .int (nI k1), .int s1])), (q1, .inl (cA1, D1, .inl f1)), (q_4, .inl (cA_5, (k1 + 4), .inl (fun _ => 0)))] H := hP
    have hD : va_D A [(h0, .inr (0, [.ref q_4, .int n0, .int s0])), (q0, .inl (cA0, D0, .inl f0)), (h1, .inr (0, [.ref q1, .int (nI k1), .int s1])), (q1, .inl (cA1, D1, .inl f1)), (q_4, .inl (cA_5, (k1 + 4), .inl (fun _ => 0)))] := hD
    refine lv_aload_n hx hb d_Big_copy_24 rfl (lv_at hl 1 rfl) ?_
    refine va_get (D := (dC, dI)) (ci := 0) (v := .ref q1) (C := R_Big) (T := F_Big) (N := 3) hx hb hT i_Big hown hK hP 2 rfl rfl 0 (by decide) (hT _ tw_44) (fun _ h9 => h9) rfl d_Big_copy_25 ?_
    refine lv_iconst (v := 0) hx hb d_Big_copy_28 (by decide) ?_
    refine lv_aload_n hx hb d_Big_copy_29 rfl (lv_at hl 0 rfl) ?_
    refine va_get (D := (dC, dI)) (ci := 0) (v := .ref q_4) (C := R_Big) (T := F_Big) (N := 3) hx hb hT i_Big hown hK hP 0 rfl rfl 0 (by decide) (hT _ tw_44) (fun _ h9 => h9) rfl d_Big_copy_30 ?_
    refine lv_iconst (v := 0) hx hb d_Big_copy_33 (by decide) ?_
    refine lv_aload_n hx hb d_Big_copy_34 rfl (lv_at hl 1 rfl) ?_
    refine va_get (D := (dC, dI)) (ci := 0) (v := .int (nI k1)) (C := R_Big) (T := F_Big) (N := 3) hx hb hT i_Big hown hK hP 2 rfl rfl 1 (by decide) (hT _ tw_47) (fun _ h9 => h9) rfl d_Big_copy_35 ?_
    refine va_copyi hx hb (hml.trans hl.1.symm) hown (hT _ tw_83) (hT _ tw_85) (hT _ tw_84) (hT _ tw_5) hK hP hD hS 3 4 1 2 rfl rfl rfl rfl rfl (by decide) (by decide) (nI_pos (by omega)) (by rw [nI_clamp (by omega)]; show 0 + k1 ≤ _; omega) (by rw [nI_clamp (by omega)]; show 0 + k1 ≤ _; omega) (fun _ _ => rfl) (Nat.le_of_ble_eq_true rfl) (by decide) d_Big_copy_38 (fun H locs hP hD hS => ?_)
    have hP : va_P (dC, dI) classes [(h0, .inr (0, [.ref q_4, .int n0, .int s0])), (q0, .inl (cA0, D0, .inl f0)), (h1, .inr (0, [.ref q1, .int (nI k1), .int s1])), (q1, .inl (cA1, D1, .inl f1)), (q_4, .inl (cA_5, (k1 + 4), .inl (va_cpy f1 (fun _ => 0) (0 : Int32).toNatClampNeg (0 : Int32).toNatClampNeg ((nI k1) : Int32).toNatClampNeg)))] H := hP
    have hD : va_D A [(h0, .inr (0, [.ref q_4, .int n0, .int s0])), (q0, .inl (cA0, D0, .inl f0)), (h1, .inr (0, [.ref q1, .int (nI k1), .int s1])), (q1, .inl (cA1, D1, .inl f1)), (q_4, .inl (cA_5, (k1 + 4), .inl (va_cpy f1 (fun _ => 0) (0 : Int32).toNatClampNeg (0 : Int32).toNatClampNeg ((nI k1) : Int32).toNatClampNeg)))] := hD
    generalize va_cpy f1 (fun _ => 0) (0 : Int32).toNatClampNeg (0 : Int32).toNatClampNeg ((nI k1) : Int32).toNatClampNeg = f_6 at hP hD
    refine lv_aload_n hx hb d_Big_copy_41 rfl (lv_at hl 0 rfl) ?_
    refine lv_aload_n hx hb d_Big_copy_42 rfl (lv_at hl 1 rfl) ?_
    refine va_get (D := (dC, dI)) (ci := 0) (v := .int (nI k1)) (C := R_Big) (T := F_Big) (N := 3) hx hb hT i_Big hown hK hP 2 rfl rfl 1 (by decide) (hT _ tw_47) (fun _ h9 => h9) rfl d_Big_copy_43 ?_
    refine va_put (D := (dC, dI)) (ci := 0) (v := .int (nI k1)) (ty := .int) (C := R_Big) (T := F_Big) (N := 3) hx hb hT i_Big t_Big t_Big_ok n_Big hown hK hP hD hS 0 rfl rfl 1 (by decide) (hT _ tw_47) (fun _ h9 => h9) rfl (by decide +kernel) rfl rfl (Nat.le_of_ble_eq_true rfl) d_Big_copy_46 (fun H locs hP hD hS => ?_)
    have hP : va_P (dC, dI) classes [(h0, .inr (0, [.ref q_4, .int (nI k1), .int s0])), (q0, .inl (cA0, D0, .inl f0)), (h1, .inr (0, [.ref q1, .int (nI k1), .int s1])), (q1, .inl (cA1, D1, .inl f1)), (q_4, .inl (cA_5, (k1 + 4), .inl f_6))] H := hP
    have hD : va_D A [(h0, .inr (0, [.ref q_4, .int (nI k1), .int s0])), (q0, .inl (cA0, D0, .inl f0)), (h1, .inr (0, [.ref q1, .int (nI k1), .int s1])), (q1, .inl (cA1, D1, .inl f1)), (q_4, .inl (cA_5, (k1 + 4), .inl f_6))] := hD
    refine lv_aload_n hx hb d_Big_copy_49 rfl (lv_at hl 0 rfl) ?_
    refine lv_aload_n hx hb d_Big_copy_50 rfl (lv_at hl 1 rfl) ?_
    refine va_get (D := (dC, dI)) (ci := 0) (v := .int s1) (C := R_Big) (T := F_Big) (N := 3) hx hb hT i_Big hown hK hP 2 rfl rfl 2 (by decide) (hT _ tw_51) (fun _ h9 => h9) rfl d_Big_copy_51 ?_
    refine va_put (D := (dC, dI)) (ci := 0) (v := .int s1) (ty := .int) (C := R_Big) (T := F_Big) (N := 3) hx hb hT i_Big t_Big t_Big_ok n_Big hown hK hP hD hS 0 rfl rfl 2 (by decide) (hT _ tw_51) (fun _ h9 => h9) rfl (by decide +kernel) rfl rfl (Nat.le_of_ble_eq_true rfl) d_Big_copy_54 (fun H locs hP hD hS => ?_)
    have hP : va_P (dC, dI) classes [(h0, .inr (0, [.ref q_4, .int (nI k1), .int s1])), (q0, .inl (cA0, D0, .inl f0)), (h1, .inr (0, [.ref q1, .int (nI k1), .int s1])), (q1, .inl (cA1, D1, .inl f1)), (q_4, .inl (cA_5, (k1 + 4), .inl f_6))] H := hP
    have hD : va_D A [(h0, .inr (0, [.ref q_4, .int (nI k1), .int s1])), (q0, .inl (cA0, D0, .inl f0)), (h1, .inr (0, [.ref q1, .int (nI k1), .int s1])), (q1, .inl (cA1, D1, .inl f1)), (q_4, .inl (cA_5, (k1 + 4), .inl f_6))] := hD
    have hP9 := hP.sub (ws' := [(h0, .inr (0, [.ref q_4, .int (nI k1), .int s1])), (q_4, .inl (cA_5, (k1 + 4), .inl f_6)), (h1, .inr (0, [.ref q1, .int (nI k1), .int s1])), (q1, .inl (cA1, D1, .inl f1))]) [0, 4, 2, 3] rfl
    have hD9 := hD.sub (ws' := [(h0, .inr (0, [.ref q_4, .int (nI k1), .int s1])), (q_4, .inl (cA_5, (k1 + 4), .inl f_6)), (h1, .inr (0, [.ref q1, .int (nI k1), .int s1])), (q1, .inl (cA1, D1, .inl f1))]) [0, 4, 2, 3] (by decide) rfl
    have hK9 := hK.sub (tys' := [(cA_5, .int), (cA1, .int)]) [2, 1] rfl
    exact W.vret hx hb hr (fun t ht hW => ⟨⟨(), rfl, trivial, q_4, cA_5, (k1 + 4), f_6, ⟨by omega, by omega⟩, by rw [ht]; exact hP9, va_K.moved hW.alike hK9, hD9⟩, hS.F ht⟩) hS.2.2 d_Big_copy_57
end
section
theorem tw_90 : (.constant "RealHouse$Big" 42 (1073741823) : Cond) ∈ lw_g := tb_at (i := 90) (by decide +kernel) rfl
abbrev b_Big_product : ByteArray := prog_2_method_5_code
def y_Big_product : MethodName := ⟨"RealHouse$Big", "product", "(LRealHouse$Big;LRealHouse$Big;)V"⟩
abbrev w_Big_product : List Cond := .code y_Big_product b_Big_product 15 none :: lw_g
theorem g_Big_product : GoodIn lw_g w_Big_product := tb_good1 (tb_at (i := 89) (by decide +kernel) rfl)
theorem d_Big_product_0 : decode b_Big_product 0 = .ok (.aload_n 1, 1) := by decide +kernel
theorem d_Big_product_1 : decode b_Big_product 1 = .ok (.getfield 25, 3) := by decide +kernel
theorem d_Big_product_4 : decode b_Big_product 4 = .ok (.istore_n 3, 1) := by decide +kernel
theorem d_Big_product_5 : decode b_Big_product 5 = .ok (.aload_n 2, 1) := by decide +kernel
theorem d_Big_product_6 : decode b_Big_product 6 = .ok (.getfield 25, 3) := by decide +kernel
theorem d_Big_product_9 : decode b_Big_product 9 = .ok (.istore 4, 2) := by decide +kernel
theorem d_Big_product_11 : decode b_Big_product 11 = .ok (.iload_n 3, 1) := by decide +kernel
theorem d_Big_product_12 : decode b_Big_product 12 = .ok (.ifCond .eq 8, 3) := by decide +kernel
theorem d_Big_product_15 : decode b_Big_product 15 = .ok (.iload 4, 2) := by decide +kernel
theorem d_Big_product_17 : decode b_Big_product 17 = .ok (.ifCond .ne 14, 3) := by decide +kernel
theorem d_Big_product_20 : decode b_Big_product 20 = .ok (.aload_n 0, 1) := by decide +kernel
theorem d_Big_product_21 : decode b_Big_product 21 = .ok (.iconst 0, 1) := by decide +kernel
theorem d_Big_product_22 : decode b_Big_product 22 = .ok (.putfield 25, 3) := by decide +kernel
theorem d_Big_product_25 : decode b_Big_product 25 = .ok (.aload_n 0, 1) := by decide +kernel
theorem d_Big_product_26 : decode b_Big_product 26 = .ok (.iconst 0, 1) := by decide +kernel
theorem d_Big_product_27 : decode b_Big_product 27 = .ok (.putfield 15, 3) := by decide +kernel
theorem d_Big_product_30 : decode b_Big_product 30 = .ok (.return_, 1) := by decide +kernel
theorem d_Big_product_31 : decode b_Big_product 31 = .ok (.aload_n 0, 1) := by decide +kernel
theorem d_Big_product_32 : decode b_Big_product 32 = .ok (.getfield 9, 3) := by decide +kernel
theorem d_Big_product_35 : decode b_Big_product 35 = .ok (.arraylength, 1) := by decide +kernel
theorem d_Big_product_36 : decode b_Big_product 36 = .ok (.iload_n 3, 1) := by decide +kernel
theorem d_Big_product_37 : decode b_Big_product 37 = .ok (.iload 4, 2) := by decide +kernel
theorem d_Big_product_39 : decode b_Big_product 39 = .ok (.iadd, 1) := by decide +kernel
theorem d_Big_product_40 : decode b_Big_product 40 = .ok (.if_icmp .ge 15, 3) := by decide +kernel
theorem d_Big_product_43 : decode b_Big_product 43 = .ok (.aload_n 0, 1) := by decide +kernel
theorem d_Big_product_44 : decode b_Big_product 44 = .ok (.iload_n 3, 1) := by decide +kernel
theorem d_Big_product_45 : decode b_Big_product 45 = .ok (.iload 4, 2) := by decide +kernel
theorem d_Big_product_47 : decode b_Big_product 47 = .ok (.iadd, 1) := by decide +kernel
theorem d_Big_product_48 : decode b_Big_product 48 = .ok (.iconst 4, 1) := by decide +kernel
theorem d_Big_product_49 : decode b_Big_product 49 = .ok (.iadd, 1) := by decide +kernel
theorem d_Big_product_50 : decode b_Big_product 50 = .ok (.newarray .int, 2) := by decide +kernel
theorem d_Big_product_52 : decode b_Big_product 52 = .ok (.putfield 9, 3) := by decide +kernel
theorem d_Big_product_55 : decode b_Big_product 55 = .ok (.aload_n 0, 1) := by decide +kernel
theorem d_Big_product_56 : decode b_Big_product 56 = .ok (.getfield 9, 3) := by decide +kernel
theorem d_Big_product_59 : decode b_Big_product 59 = .ok (.astore 5, 2) := by decide +kernel
theorem d_Big_product_61 : decode b_Big_product 61 = .ok (.aload_n 2, 1) := by decide +kernel
theorem d_Big_product_62 : decode b_Big_product 62 = .ok (.getfield 9, 3) := by decide +kernel
theorem d_Big_product_65 : decode b_Big_product 65 = .ok (.astore 6, 2) := by decide +kernel
theorem d_Big_product_67 : decode b_Big_product 67 = .ok (.iconst 0, 1) := by decide +kernel
theorem d_Big_product_68 : decode b_Big_product 68 = .ok (.istore 7, 2) := by decide +kernel
theorem d_Big_product_70 : decode b_Big_product 70 = .ok (.iload 7, 2) := by decide +kernel
theorem d_Big_product_72 : decode b_Big_product 72 = .ok (.iload 4, 2) := by decide +kernel
theorem d_Big_product_74 : decode b_Big_product 74 = .ok (.if_icmp .ge 15, 3) := by decide +kernel
theorem d_Big_product_77 : decode b_Big_product 77 = .ok (.aload 5, 2) := by decide +kernel
theorem d_Big_product_79 : decode b_Big_product 79 = .ok (.iload 7, 2) := by decide +kernel
theorem d_Big_product_81 : decode b_Big_product 81 = .ok (.iconst 0, 1) := by decide +kernel
theorem d_Big_product_82 : decode b_Big_product 82 = .ok (.iastore, 1) := by decide +kernel
theorem d_Big_product_83 : decode b_Big_product 83 = .ok (.iinc 7 1, 3) := by decide +kernel
theorem d_Big_product_86 : decode b_Big_product 86 = .ok (.goto (-16), 3) := by decide +kernel
theorem d_Big_product_89 : decode b_Big_product 89 = .ok (.iconst 0, 1) := by decide +kernel
theorem d_Big_product_90 : decode b_Big_product 90 = .ok (.istore 7, 2) := by decide +kernel
theorem d_Big_product_92 : decode b_Big_product 92 = .ok (.iload 7, 2) := by decide +kernel
theorem d_Big_product_94 : decode b_Big_product 94 = .ok (.iload_n 3, 1) := by decide +kernel
theorem d_Big_product_95 : decode b_Big_product 95 = .ok (.if_icmp .ge 94, 3) := by decide +kernel
theorem d_Big_product_98 : decode b_Big_product 98 = .ok (.aload_n 1, 1) := by decide +kernel
theorem d_Big_product_99 : decode b_Big_product 99 = .ok (.getfield 9, 3) := by decide +kernel
theorem d_Big_product_102 : decode b_Big_product 102 = .ok (.iload 7, 2) := by decide +kernel
theorem d_Big_product_104 : decode b_Big_product 104 = .ok (.iaload, 1) := by decide +kernel
theorem d_Big_product_105 : decode b_Big_product 105 = .ok (.i2l, 1) := by decide +kernel
theorem d_Big_product_106 : decode b_Big_product 106 = .ok (.lstore 8, 2) := by decide +kernel
theorem d_Big_product_108 : decode b_Big_product 108 = .ok (.lconst 0, 1) := by decide +kernel
theorem d_Big_product_109 : decode b_Big_product 109 = .ok (.lstore 10, 2) := by decide +kernel
theorem d_Big_product_111 : decode b_Big_product 111 = .ok (.iconst 0, 1) := by decide +kernel
theorem d_Big_product_112 : decode b_Big_product 112 = .ok (.istore 12, 2) := by decide +kernel
theorem d_Big_product_114 : decode b_Big_product 114 = .ok (.iload 12, 2) := by decide +kernel
theorem d_Big_product_116 : decode b_Big_product 116 = .ok (.iload 4, 2) := by decide +kernel
theorem d_Big_product_118 : decode b_Big_product 118 = .ok (.if_icmp .ge 54, 3) := by decide +kernel
theorem d_Big_product_121 : decode b_Big_product 121 = .ok (.lload 8, 2) := by decide +kernel
theorem d_Big_product_123 : decode b_Big_product 123 = .ok (.aload 6, 2) := by decide +kernel
theorem d_Big_product_125 : decode b_Big_product 125 = .ok (.iload 12, 2) := by decide +kernel
theorem d_Big_product_127 : decode b_Big_product 127 = .ok (.iaload, 1) := by decide +kernel
theorem d_Big_product_128 : decode b_Big_product 128 = .ok (.i2l, 1) := by decide +kernel
theorem d_Big_product_129 : decode b_Big_product 129 = .ok (.lmul, 1) := by decide +kernel
theorem d_Big_product_130 : decode b_Big_product 130 = .ok (.aload 5, 2) := by decide +kernel
theorem d_Big_product_132 : decode b_Big_product 132 = .ok (.iload 7, 2) := by decide +kernel
theorem d_Big_product_134 : decode b_Big_product 134 = .ok (.iload 12, 2) := by decide +kernel
theorem d_Big_product_136 : decode b_Big_product 136 = .ok (.iadd, 1) := by decide +kernel
theorem d_Big_product_137 : decode b_Big_product 137 = .ok (.iaload, 1) := by decide +kernel
theorem d_Big_product_138 : decode b_Big_product 138 = .ok (.i2l, 1) := by decide +kernel
theorem d_Big_product_139 : decode b_Big_product 139 = .ok (.ladd, 1) := by decide +kernel
theorem d_Big_product_140 : decode b_Big_product 140 = .ok (.lload 10, 2) := by decide +kernel
theorem d_Big_product_142 : decode b_Big_product 142 = .ok (.ladd, 1) := by decide +kernel
theorem d_Big_product_143 : decode b_Big_product 143 = .ok (.lstore 13, 2) := by decide +kernel
theorem d_Big_product_145 : decode b_Big_product 145 = .ok (.aload 5, 2) := by decide +kernel
theorem d_Big_product_147 : decode b_Big_product 147 = .ok (.iload 7, 2) := by decide +kernel
theorem d_Big_product_149 : decode b_Big_product 149 = .ok (.iload 12, 2) := by decide +kernel
theorem d_Big_product_151 : decode b_Big_product 151 = .ok (.iadd, 1) := by decide +kernel
theorem d_Big_product_152 : decode b_Big_product 152 = .ok (.lload 13, 2) := by decide +kernel
theorem d_Big_product_154 : decode b_Big_product 154 = .ok (.l2i, 1) := by decide +kernel
theorem d_Big_product_155 : decode b_Big_product 155 = .ok (.ldc 42, 2) := by decide +kernel
theorem d_Big_product_157 : decode b_Big_product 157 = .ok (.iand, 1) := by decide +kernel
theorem d_Big_product_158 : decode b_Big_product 158 = .ok (.iastore, 1) := by decide +kernel
theorem d_Big_product_159 : decode b_Big_product 159 = .ok (.lload 13, 2) := by decide +kernel
theorem d_Big_product_161 : decode b_Big_product 161 = .ok (.bipush 30, 2) := by decide +kernel
theorem d_Big_product_163 : decode b_Big_product 163 = .ok (.lushr, 1) := by decide +kernel
theorem d_Big_product_164 : decode b_Big_product 164 = .ok (.lstore 10, 2) := by decide +kernel
theorem d_Big_product_166 : decode b_Big_product 166 = .ok (.iinc 12 1, 3) := by decide +kernel
theorem d_Big_product_169 : decode b_Big_product 169 = .ok (.goto (-55), 3) := by decide +kernel
theorem d_Big_product_172 : decode b_Big_product 172 = .ok (.aload 5, 2) := by decide +kernel
theorem d_Big_product_174 : decode b_Big_product 174 = .ok (.iload 7, 2) := by decide +kernel
theorem d_Big_product_176 : decode b_Big_product 176 = .ok (.iload 4, 2) := by decide +kernel
theorem d_Big_product_178 : decode b_Big_product 178 = .ok (.iadd, 1) := by decide +kernel
theorem d_Big_product_179 : decode b_Big_product 179 = .ok (.lload 10, 2) := by decide +kernel
theorem d_Big_product_181 : decode b_Big_product 181 = .ok (.l2i, 1) := by decide +kernel
theorem d_Big_product_182 : decode b_Big_product 182 = .ok (.iastore, 1) := by decide +kernel
theorem d_Big_product_183 : decode b_Big_product 183 = .ok (.iinc 7 1, 3) := by decide +kernel
theorem d_Big_product_186 : decode b_Big_product 186 = .ok (.goto (-94), 3) := by decide +kernel
theorem d_Big_product_189 : decode b_Big_product 189 = .ok (.aload_n 0, 1) := by decide +kernel
theorem d_Big_product_190 : decode b_Big_product 190 = .ok (.aload 5, 2) := by decide +kernel
theorem d_Big_product_192 : decode b_Big_product 192 = .ok (.iload_n 3, 1) := by decide +kernel
theorem d_Big_product_193 : decode b_Big_product 193 = .ok (.iload 4, 2) := by decide +kernel
theorem d_Big_product_195 : decode b_Big_product 195 = .ok (.iadd, 1) := by decide +kernel
theorem d_Big_product_196 : decode b_Big_product 196 = .ok (.iconst 1, 1) := by decide +kernel
theorem d_Big_product_197 : decode b_Big_product 197 = .ok (.isub, 1) := by decide +kernel
theorem d_Big_product_198 : decode b_Big_product 198 = .ok (.iaload, 1) := by decide +kernel
theorem d_Big_product_199 : decode b_Big_product 199 = .ok (.ifCond .ne 12, 3) := by decide +kernel
theorem d_Big_product_202 : decode b_Big_product 202 = .ok (.iload_n 3, 1) := by decide +kernel
theorem d_Big_product_203 : decode b_Big_product 203 = .ok (.iload 4, 2) := by decide +kernel
theorem d_Big_product_205 : decode b_Big_product 205 = .ok (.iadd, 1) := by decide +kernel
theorem d_Big_product_206 : decode b_Big_product 206 = .ok (.iconst 1, 1) := by decide +kernel
theorem d_Big_product_207 : decode b_Big_product 207 = .ok (.isub, 1) := by decide +kernel
theorem d_Big_product_208 : decode b_Big_product 208 = .ok (.goto 7, 3) := by decide +kernel
theorem d_Big_product_211 : decode b_Big_product 211 = .ok (.iload_n 3, 1) := by decide +kernel
theorem d_Big_product_212 : decode b_Big_product 212 = .ok (.iload 4, 2) := by decide +kernel
theorem d_Big_product_214 : decode b_Big_product 214 = .ok (.iadd, 1) := by decide +kernel
theorem d_Big_product_215 : decode b_Big_product 215 = .ok (.putfield 25, 3) := by decide +kernel
theorem d_Big_product_218 : decode b_Big_product 218 = .ok (.aload_n 0, 1) := by decide +kernel
theorem d_Big_product_219 : decode b_Big_product 219 = .ok (.aload_n 1, 1) := by decide +kernel
theorem d_Big_product_220 : decode b_Big_product 220 = .ok (.getfield 15, 3) := by decide +kernel
theorem d_Big_product_223 : decode b_Big_product 223 = .ok (.aload_n 2, 1) := by decide +kernel
theorem d_Big_product_224 : decode b_Big_product 224 = .ok (.getfield 15, 3) := by decide +kernel
theorem d_Big_product_227 : decode b_Big_product 227 = .ok (.imul, 1) := by decide +kernel
theorem d_Big_product_228 : decode b_Big_product 228 = .ok (.putfield 15, 3) := by decide +kernel
theorem d_Big_product_231 : decode b_Big_product 231 = .ok (.return_, 1) := by decide +kernel
set_option maxHeartbeats 4000000 in
set_option maxRecDepth 100000 in
/-- product(a, b): shape alone -/
theorem c_Big_product (l : Launch) (dC : Nat → ClassId) (dI : Nat → Nat → Nat) (sz : Nat) (h0 : Nat) (q0 : Nat) (cA0 : ClassId) (D0 : Nat) (f0 : Nat → Int32) (n0 : Int32) (s0 : Int32) (h1 : Nat) (q1 : Nat) (cA1 : ClassId) (D1 : Nat) (f1 : Nat → Int32) (k1 : Nat) (s1 : Int32) (h2 : Nat) (q2 : Nat) (cA2 : ClassId) (D2 : Nat) (f2 : Nat → Int32) (k2 : Nat) (s2 : Int32) (hk1 : k1 ≤ D1) (hk2 : k2 ≤ D2) (hk : k1 + k2 ≤ 60) (hD0 : D0 < 2 ^ 31) (hD1 : D1 < 2 ^ 31) (hD2 : D2 < 2 ^ 31) : Met l y_Big_product w_Big_product ({ frames := 0, cells := 1, slots := 64, locals := 0 }) (va_Pc [.ref h0, .ref h1, .ref h2] (fun U => U.heap.size = sz ∧ va_P (dC, dI) classes [(h0, .inr (0, [.ref q0, .int n0, .int s0])), (q0, .inl (cA0, D0, .inl f0)), (h1, .inr (0, [.ref q1, .int (nI k1), .int s1])), (q1, .inl (cA1, D1, .inl f1)), (h2, .inr (0, [.ref q2, .int (nI k2), .int s2])), (q2, .inl (cA2, D2, .inl f2))] U.heap ∧ va_K (dC, dI) classes [(cA0, .int), (cA1, .int), (cA2, .int)] U ∧ va_D (fun _ => True) [(h0, .inr (0, [.ref q0, .int n0, .int s0])), (q0, .inl (cA0, D0, .inl f0)), (h1, .inr (0, [.ref q1, .int (nI k1), .int s1])), (q1, .inl (cA1, D1, .inl f1)), (h2, .inr (0, [.ref q2, .int (nI k2), .int s2])), (q2, .inl (cA2, D2, .inl f2))] ∧ nx_K U)) (va_Qv (fun _ : Unit => True) (fun _ t => ∃ (q3 : Nat), ∃ (cA3 : ClassId), ∃ (D3 : Nat), ∃ (f3 : Nat → Int32), ∃ (k3 : Nat), ∃ (s3 : Int32), (k3 ≤ k1 + k2 ∧ k3 ≤ D3 ∧ (D3 = D0 ∨ D3 ≤ 64)) ∧ va_P (dC, dI) classes [(h0, .inr (0, [.ref q3, .int (nI k3), .int s3])), (q3, .inl (cA3, D3, .inl f3)), (h1, .inr (0, [.ref q1, .int (nI k1), .int s1])), (q1, .inl (cA1, D1, .inl f1)), (h2, .inr (0, [.ref q2, .int (nI k2), .int s2])), (q2, .inl (cA2, D2, .inl f2))] t.heap ∧ va_K (dC, dI) classes [(cA3, .int), (cA1, .int), (cA2, .int)] t ∧ va_D (va_A [(h0, .inr (0, [.ref q0, .int n0, .int s0])), (q0, .inl (cA0, D0, .inl f0)), (h1, .inr (0, [.ref q1, .int (nI k1), .int s1])), (q1, .inl (cA1, D1, .inl f1)), (h2, .inr (0, [.ref q2, .int (nI k2), .int s2])), (q2, .inl (cA2, D2, .inl f2))] sz) [(h0, .inr (0, [.ref q3, .int (nI k3), .int s3])), (q3, .inl (cA3, D3, .inl f3)), (h1, .inr (0, [.ref q1, .int (nI k1), .int s1])), (q1, .inl (cA1, D1, .inl f1)), (h2, .inr (0, [.ref q2, .int (nI k2), .int s2])), (q2, .inl (cA2, D2, .inl f2))]) (va_A [(h0, .inr (0, [.ref q0, .int n0, .int s0])), (q0, .inl (cA0, D0, .inl f0)), (h1, .inr (0, [.ref q1, .int (nI k1), .int s1])), (q1, .inl (cA1, D1, .inl f1)), (h2, .inr (0, [.ref q2, .int (nI k2), .int s2])), (q2, .inl (cA2, D2, .inl f2))] sz)) 1 64 (va_A [(h0, .inr (0, [.ref q0, .int n0, .int s0])), (q0, .inl (cA0, D0, .inl f0)), (h1, .inr (0, [.ref q1, .int (nI k1), .int s1])), (q1, .inl (cA1, D1, .inl f1)), (h2, .inr (0, [.ref q2, .int (nI k2), .int s2])), (q2, .inl (cA2, D2, .inl f2))] sz) := by
  refine Met.ofW (cc := b_Big_product) (maxL := 15) (ret := none) (by decide) rfl ?_
  intro p e s m args below meth c s₁ B hml hv
  obtain ⟨rfl, hsz, hP, hK, hD0, hN⟩ := hv
  have hx := B.exec
  have hb := B.bytes
  have hr := B.returns
  have hT : ∀ w ∈ lw_g, w.before _ s = true := fun w h => atoms_spec (ws := w_Big_product) B.pre w (List.mem_cons_of_mem _ h)
  have hown : s.vm.findClass R_Big = some m.cls := findClass_of_methodNamed B.named
  have hlocks := B.notSynchronized
  subst hsz
  have hD := hD0.self (sz := s.heap.size)
  generalize hAe : va_A [(h0, .inr (0, [.ref q0, .int n0, .int s0])), (q0, .inl (cA0, D0, .inl f0)), (h1, .inr (0, [.ref q1, .int (nI k1), .int s1])), (q1, .inl (cA1, D1, .inl f1)), (h2, .inr (0, [.ref q2, .int (nI k2), .int s2])), (q2, .inl (cA2, D2, .inl f2))] s.heap.size = A at hD ⊢
  have hA : ∀ q : Nat, s.heap.size ≤ q → A q := fun q h => by rw [← hAe]; exact Or.inr h
  have hS : va_S A s.heap s.heap [] := va_S.rf
  have hP : va_P (dC, dI) classes [(h0, .inr (0, [.ref q0, .int n0, .int s0])), (q0, .inl (cA0, D0, .inl f0)), (h1, .inr (0, [.ref q1, .int (nI k1), .int s1])), (q1, .inl (cA1, D1, .inl f1)), (h2, .inr (0, [.ref q2, .int (nI k2), .int s2])), (q2, .inl (cA2, D2, .inl f2))] s.heap := hP
  have hl := lv_entry ([.ref h0, .ref h1, .ref h2]) (n := 15) (Nat.le_of_ble_eq_true rfl)
  rw [lg_entry_eq]
  generalize (lg_sl ([.ref h0, .ref h1, .ref h2]) ++ List.replicate (15 - (lg_sl ([.ref h0, .ref h1, .ref h2])).length) Slot.unset).toArray = ls at hl ⊢
  have hl : lv_has ls 15 [(0, .ref h0), (1, .ref h1), (2, .ref h2)] := hl
  refine nm_Q (fun Q hQ => ?_)
  refine lv_aload_n hx hb d_Big_product_0 rfl (lv_at hl 1 rfl) ?_
  refine va_get (D := (dC, dI)) (ci := 0) (v := .int (nI k1)) (C := R_Big) (T := F_Big) (N := 3) hx hb hT i_Big hown hK hP 2 rfl rfl 1 (by decide) (hT _ tw_47) (fun _ h9 => h9) rfl d_Big_product_1 ?_
  refine lv_istore_n (lv' := [(3, .int (nI k1)), (0, .ref h0), (1, .ref h1), (2, .ref h2)]) hx hb d_Big_product_4 rfl hl (by decide) rfl (fun ls hl => ?_)
  refine lv_aload_n hx hb d_Big_product_5 rfl (lv_at hl 3 rfl) ?_
  refine va_get (D := (dC, dI)) (ci := 0) (v := .int (nI k2)) (C := R_Big) (T := F_Big) (N := 3) hx hb hT i_Big hown hK hP 4 rfl rfl 1 (by decide) (hT _ tw_47) (fun _ h9 => h9) rfl d_Big_product_6 ?_
  refine lv_istore (lv' := [(4, .int (nI k2)), (3, .int (nI k1)), (0, .ref h0), (1, .ref h1), (2, .ref h2)]) hx hb d_Big_product_9 hl (by decide) rfl (fun ls hl => ?_)
  refine lv_iload_n hx hb d_Big_product_11 rfl (lv_at hl 1 rfl) ?_
  refine lv_if_eq (tgt := 20) hx hb d_Big_product_12 (by decide) (fun c_1 => ?_) (fun c_1 => ?_)
  · refine lv_aload_n hx hb d_Big_product_20 rfl (lv_at hl 2 rfl) ?_
    refine lv_iconst (v := 0) hx hb d_Big_product_21 (by decide) ?_
    refine va_put (D := (dC, dI)) (ci := 0) (v := .int 0) (ty := .int) (C := R_Big) (T := F_Big) (N := 3) hx hb hT i_Big t_Big t_Big_ok n_Big hown hK hP hD hS 0 rfl rfl 1 (by decide) (hT _ tw_47) (fun _ h9 => h9) rfl (by decide +kernel) rfl rfl (Nat.le_of_ble_eq_true rfl) d_Big_product_22 (fun H locs hP hD hS => ?_)
    have hP : va_P (dC, dI) classes [(h0, .inr (0, [.ref q0, .int 0, .int s0])), (q0, .inl (cA0, D0, .inl f0)), (h1, .inr (0, [.ref q1, .int (nI k1), .int s1])), (q1, .inl (cA1, D1, .inl f1)), (h2, .inr (0, [.ref q2, .int (nI k2), .int s2])), (q2, .inl (cA2, D2, .inl f2))] H := hP
    have hD : va_D A [(h0, .inr (0, [.ref q0, .int 0, .int s0])), (q0, .inl (cA0, D0, .inl f0)), (h1, .inr (0, [.ref q1, .int (nI k1), .int s1])), (q1, .inl (cA1, D1, .inl f1)), (h2, .inr (0, [.ref q2, .int (nI k2), .int s2])), (q2, .inl (cA2, D2, .inl f2))] := hD
    refine lv_aload_n hx hb d_Big_product_25 rfl (lv_at hl 2 rfl) ?_
    refine lv_iconst (v := 0) hx hb d_Big_product_26 (by decide) ?_
    refine va_put (D := (dC, dI)) (ci := 0) (v := .int 0) (ty := .int) (C := R_Big) (T := F_Big) (N := 3) hx hb hT i_Big t_Big t_Big_ok n_Big hown hK hP hD hS 0 rfl rfl 2 (by decide) (hT _ tw_51) (fun _ h9 => h9) rfl (by decide +kernel) rfl rfl (Nat.le_of_ble_eq_true rfl) d_Big_product_27 (fun H locs hP hD hS => ?_)
    have hP : va_P (dC, dI) classes [(h0, .inr (0, [.ref q0, .int 0, .int 0])), (q0, .inl (cA0, D0, .inl f0)), (h1, .inr (0, [.ref q1, .int (nI k1), .int s1])), (q1, .inl (cA1, D1, .inl f1)), (h2, .inr (0, [.ref q2, .int (nI k2), .int s2])), (q2, .inl (cA2, D2, .inl f2))] H := hP
    have hD : va_D A [(h0, .inr (0, [.ref q0, .int 0, .int 0])), (q0, .inl (cA0, D0, .inl f0)), (h1, .inr (0, [.ref q1, .int (nI k1), .int s1])), (q1, .inl (cA1, D1, .inl f1)), (h2, .inr (0, [.ref q2, .int (nI k2), .int s2])), (q2, .inl (cA2, D2, .inl f2))] := hD
    have hP : va_P (dC, dI) classes [(h0, .inr (0, [.ref q0, .int (nI 0), .int 0])), (q0, .inl (cA0, D0, .inl f0)), (h1, .inr (0, [.ref q1, .int (nI k1), .int s1])), (q1, .inl (cA1, D1, .inl f1)), (h2, .inr (0, [.ref q2, .int (nI k2), .int s2])), (q2, .inl (cA2, D2, .inl f2))] _ := hP
    have hD : va_D A [(h0, .inr (0, [.ref q0, .int (nI 0), .int 0])), (q0, .inl (cA0, D0, .inl f0)), (h1, .inr (0, [.ref q1, .int (nI k1), .int s1])), (q1, .inl (cA1, D1, .inl f1)), (h2, .inr (0, [.ref q2, .int (nI k2), .int s2])), (q2, .inl (cA2, D2, .inl f2))] := hD
    have hP9 := hP.sub (ws' := [(h0, .inr (0, [.ref q0, .int (nI 0), .int 0])), (q0, .inl (cA0, D0, .inl f0)), (h1, .inr (0, [.ref q1, .int (nI k1), .int s1])), (q1, .inl (cA1, D1, .inl f1)), (h2, .inr (0, [.ref q2, .int (nI k2), .int s2])), (q2, .inl (cA2, D2, .inl f2))]) [0, 1, 2, 3, 4, 5] rfl
    have hD9 := hD.sub (ws' := [(h0, .inr (0, [.ref q0, .int (nI 0), .int 0])), (q0, .inl (cA0, D0, .inl f0)), (h1, .inr (0, [.ref q1, .int (nI k1), .int s1])), (q1, .inl (cA1, D1, .inl f1)), (h2, .inr (0, [.ref q2, .int (nI k2), .int s2])), (q2, .inl (cA2, D2, .inl f2))]) [0, 1, 2, 3, 4, 5] (by decide) rfl
    have hK9 := hK.sub (tys' := [(cA0, .int), (cA1, .int), (cA2, .int)]) [0, 1, 2] rfl
    refine W.widen (k := 1) (n := 64) (Nat.le_of_ble_eq_true rfl) (Nat.le_of_ble_eq_true rfl) ?_
    subst hQ
    exact W.vret hx hb hr (fun t ht hW => ⟨⟨(), rfl, trivial, q0, cA0, D0, f0, 0, 0, ⟨by omega, by omega, by omega⟩, by rw [ht]; exact hP9, va_K.moved hW.alike hK9, hD9⟩, hS.F ht⟩) hS.2.2 d_Big_product_30
  · have hz1 : k1 ≠ 0 := fun h => c_1 (by rw [h]; rfl)
    refine lv_iload hx hb d_Big_product_15 (lv_at hl 0 rfl) ?_
    refine lv_if_ne (tgt := 31) hx hb d_Big_product_17 (by decide) (fun c_2 => ?_) (fun c_2 => ?_)
    · have hz2 : k2 ≠ 0 := fun h => c_2 (by rw [h]; rfl)
      refine lv_aload_n hx hb d_Big_product_31 rfl (lv_at hl 2 rfl) ?_
      refine va_get (D := (dC, dI)) (ci := 0) (v := .ref q0) (C := R_Big) (T := F_Big) (N := 3) hx hb hT i_Big hown hK hP 0 rfl rfl 0 (by decide) (hT _ tw_44) (fun _ h9 => h9) rfl d_Big_product_32 ?_
      refine va_alen (v := (nI D0)) hx hb hK hP 1 0 rfl rfl rfl d_Big_product_35 ?_
      refine lv_iload_n hx hb d_Big_product_36 rfl (lv_at hl 1 rfl) ?_
      refine lv_iload hx hb d_Big_product_37 (lv_at hl 0 rfl) ?_
      refine lv_iadd hx hb d_Big_product_39 ?_
      refine lv_topi (fun v_3 ev_3 => ?_)
      obtain rfl : v_3 = nI (k1 + k2) := ev_3.trans (nI_add k1 k2)
      refine lv_icmp_ge (tgt := 55) hx hb d_Big_product_40 (by decide) (fun c_4 => ?_) (fun c_4 => ?_)
      · have hb_c_4 : k1 + k2 ≤ D0 := (nI_leI (by omega) (by omega)).mp c_4
        refine lv_aload_n hx hb d_Big_product_55 rfl (lv_at hl 2 rfl) ?_
        refine va_get (D := (dC, dI)) (ci := 0) (v := .ref q0) (C := R_Big) (T := F_Big) (N := 3) hx hb hT i_Big hown hK hP 0 rfl rfl 0 (by decide) (hT _ tw_44) (fun _ h9 => h9) rfl d_Big_product_56 ?_
        refine lv_astore (lv' := [(5, .ref q0), (4, .int (nI k2)), (3, .int (nI k1)), (0, .ref h0), (1, .ref h1), (2, .ref h2)]) hx hb d_Big_product_59 hl (by decide) rfl (fun ls hl => ?_)
        refine lv_aload_n hx hb d_Big_product_61 rfl (lv_at hl 5 rfl) ?_
        refine va_get (D := (dC, dI)) (ci := 0) (v := .ref q2) (C := R_Big) (T := F_Big) (N := 3) hx hb hT i_Big hown hK hP 4 rfl rfl 0 (by decide) (hT _ tw_44) (fun _ h9 => h9) rfl d_Big_product_62 ?_
        refine lv_astore (lv' := [(6, .ref q2), (5, .ref q0), (4, .int (nI k2)), (3, .int (nI k1)), (0, .ref h0), (1, .ref h1), (2, .ref h2)]) hx hb d_Big_product_65 hl (by decide) rfl (fun ls hl => ?_)
        refine lv_iconst (v := 0) hx hb d_Big_product_67 (by decide) ?_
        refine lv_istore (lv' := [(7, .int 0), (6, .ref q2), (5, .ref q0), (4, .int (nI k2)), (3, .int (nI k1)), (0, .ref h0), (1, .ref h1), (2, .ref h2)]) hx hb d_Big_product_68 hl (by decide) rfl (fun ls hl => ?_)
        have lp_70_4 : ∀ (n i1 : Nat) (fa : Nat → Int32), i1 ≤ k2 → k2 + 1 ≤ i1 + n → ∀ (H : Heap) (locs : List Loc) (ls : Array Slot), va_P (dC, dI) classes [(h0, .inr (0, [.ref q0, .int n0, .int s0])), (q0, .inl (cA0, D0, .inl fa)), (h1, .inr (0, [.ref q1, .int (nI k1), .int s1])), (q1, .inl (cA1, D1, .inl f1)), (h2, .inr (0, [.ref q2, .int (nI k2), .int s2])), (q2, .inl (cA2, D2, .inl f2))] H → va_D A [(h0, .inr (0, [.ref q0, .int n0, .int s0])), (q0, .inl (cA0, D0, .inl fa)), (h1, .inr (0, [.ref q1, .int (nI k1), .int s1])), (q1, .inl (cA1, D1, .inl f1)), (h2, .inr (0, [.ref q2, .int (nI k2), .int s2])), (q2, .inl (cA2, D2, .inl f2))] → va_S A s.heap H locs → lv_has ls 15 [(7, .int (nI i1)), (6, .ref q2), (5, .ref q0), (4, .int (nI k2)), (3, .int (nI k1)), (0, .ref h0), (1, .ref h1), (2, .ref h2)] → W p l e (headSpec w_Big_product ({ frames := 0, cells := 1, slots := 64, locals := 0 })).room s m ([.ref h0, .ref h1, .ref h2]).toArray below meth c H locs (0) (0) Q (F0 m 70 ls []) := by
          intro n
          induction n with
          | zero =>
            intro i1 fa h1 h2
            exact absurd h2 (by omega)
          | succ n ih =>
            intro i1 fa hi hn H locs ls hP hD hS hl
            have ih_lp_70_4 := ih
            refine lv_iload hx hb d_Big_product_70 (lv_at hl 0 rfl) ?_
            refine lv_iload hx hb d_Big_product_72 (lv_at hl 3 rfl) ?_
            refine lv_icmp_ge (tgt := 89) hx hb d_Big_product_74 (by decide) (fun c_6 => ?_) (fun c_6 => ?_)
            · have hb_c_6 : k2 ≤ i1 := (nI_leI (by omega) (by omega)).mp c_6
              refine lv_iconst (v := 0) hx hb d_Big_product_89 (by decide) ?_
              refine lv_istore (lv' := [(7, .int 0), (6, .ref q2), (5, .ref q0), (4, .int (nI k2)), (3, .int (nI k1)), (0, .ref h0), (1, .ref h1), (2, .ref h2)]) hx hb d_Big_product_90 hl (by decide) rfl (fun ls hl => ?_)
              have lp_92_6 : ∀ (n i2 : Nat) (fb : Nat → Int32), i2 ≤ k1 → k1 + 1 ≤ i2 + n → ∀ (H : Heap) (locs : List Loc) (ls : Array Slot), va_P (dC, dI) classes [(h0, .inr (0, [.ref q0, .int n0, .int s0])), (q0, .inl (cA0, D0, .inl fb)), (h1, .inr (0, [.ref q1, .int (nI k1), .int s1])), (q1, .inl (cA1, D1, .inl f1)), (h2, .inr (0, [.ref q2, .int (nI k2), .int s2])), (q2, .inl (cA2, D2, .inl f2))] H → va_D A [(h0, .inr (0, [.ref q0, .int n0, .int s0])), (q0, .inl (cA0, D0, .inl fb)), (h1, .inr (0, [.ref q1, .int (nI k1), .int s1])), (q1, .inl (cA1, D1, .inl f1)), (h2, .inr (0, [.ref q2, .int (nI k2), .int s2])), (q2, .inl (cA2, D2, .inl f2))] → va_S A s.heap H locs → lv_has ls 15 [(7, .int (nI i2)), (6, .ref q2), (5, .ref q0), (4, .int (nI k2)), (3, .int (nI k1)), (0, .ref h0), (1, .ref h1), (2, .ref h2)] → W p l e (headSpec w_Big_product ({ frames := 0, cells := 1, slots := 64, locals := 0 })).room s m ([.ref h0, .ref h1, .ref h2]).toArray below meth c H locs (0) (0) Q (F0 m 92 ls []) := by
                intro n
                induction n with
                | zero =>
                  intro i2 fb h1 h2
                  exact absurd h2 (by omega)
                | succ n ih =>
                  intro i2 fb hi hn H locs ls hP hD hS hl
                  have ih_lp_92_6 := ih
                  refine lv_iload hx hb d_Big_product_92 (lv_at hl 0 rfl) ?_
                  refine lv_iload_n hx hb d_Big_product_94 rfl (lv_at hl 4 rfl) ?_
                  refine lv_icmp_ge (tgt := 189) hx hb d_Big_product_95 (by decide) (fun c_8 => ?_) (fun c_8 => ?_)
                  · have hb_c_8 : k1 ≤ i2 := (nI_leI (by omega) (by omega)).mp c_8
                    refine lv_aload_n hx hb d_Big_product_189 rfl (lv_at hl 5 rfl) ?_
                    refine lv_aload hx hb d_Big_product_190 (lv_at hl 2 rfl) ?_
                    refine lv_iload_n hx hb d_Big_product_192 rfl (lv_at hl 4 rfl) ?_
                    refine lv_iload hx hb d_Big_product_193 (lv_at hl 3 rfl) ?_
                    refine lv_iadd hx hb d_Big_product_195 ?_
                    refine lv_topi (fun v_9 ev_9 => ?_)
                    obtain rfl : v_9 = nI (k1 + k2) := ev_9.trans (nI_add k1 k2)
                    refine lv_iconst (v := 1) hx hb d_Big_product_196 (by decide) ?_
                    refine lv_isub hx hb d_Big_product_197 ?_
                    refine lv_topi (fun v_10 ev_10 => ?_)
                    obtain rfl : v_10 = nI ((k1 + k2) - 1) := ev_10.trans (pk_sub (show 1 ≤ k1 + k2 by omega))
                    refine va_iald hx hb hK hP 1 0 rfl rfl (vp_in_nI (by omega) (by omega)) d_Big_product_198 ?_
                    refine lv_topi (fun v_11 ev_11 => ?_)
                    refine lv_if_ne (tgt := 211) hx hb d_Big_product_199 (by decide) (fun c_12 => ?_) (fun c_12 => ?_)
                    · refine lv_iload_n hx hb d_Big_product_211 rfl (lv_at hl 4 rfl) ?_
                      refine lv_iload hx hb d_Big_product_212 (lv_at hl 3 rfl) ?_
                      refine lv_iadd hx hb d_Big_product_214 ?_
                      refine lv_topi (fun v_13 ev_13 => ?_)
                      obtain rfl : v_13 = nI (k1 + k2) := ev_13.trans (nI_add k1 k2)
                      refine va_put (D := (dC, dI)) (ci := 0) (v := .int (nI (k1 + k2))) (ty := .int) (C := R_Big) (T := F_Big) (N := 3) hx hb hT i_Big t_Big t_Big_ok n_Big hown hK hP hD hS 0 rfl rfl 1 (by decide) (hT _ tw_47) (fun _ h9 => h9) rfl (by decide +kernel) rfl rfl (Nat.le_of_ble_eq_true rfl) d_Big_product_215 (fun H locs hP hD hS => ?_)
                      have hP : va_P (dC, dI) classes [(h0, .inr (0, [.ref q0, .int (nI (k1 + k2)), .int s0])), (q0, .inl (cA0, D0, .inl fb)), (h1, .inr (0, [.ref q1, .int (nI k1), .int s1])), (q1, .inl (cA1, D1, .inl f1)), (h2, .inr (0, [.ref q2, .int (nI k2), .int s2])), (q2, .inl (cA2, D2, .inl f2))] H := hP
                      have hD : va_D A [(h0, .inr (0, [.ref q0, .int (nI (k1 + k2)), .int s0])), (q0, .inl (cA0, D0, .inl fb)), (h1, .inr (0, [.ref q1, .int (nI k1), .int s1])), (q1, .inl (cA1, D1, .inl f1)), (h2, .inr (0, [.ref q2, .int (nI k2), .int s2])), (q2, .inl (cA2, D2, .inl f2))] := hD
                      refine lv_aload_n hx hb d_Big_product_218 rfl (lv_at hl 5 rfl) ?_
                      refine lv_aload_n hx hb d_Big_product_219 rfl (lv_at hl 6 rfl) ?_
                      refine va_get (D := (dC, dI)) (ci := 0) (v := .int s1) (C := R_Big) (T := F_Big) (N := 3) hx hb hT i_Big hown hK hP 2 rfl rfl 2 (by decide) (hT _ tw_51) (fun _ h9 => h9) rfl d_Big_product_220 ?_
                      refine lv_aload_n hx hb d_Big_product_223 rfl (lv_at hl 7 rfl) ?_
                      refine va_get (D := (dC, dI)) (ci := 0) (v := .int s2) (C := R_Big) (T := F_Big) (N := 3) hx hb hT i_Big hown hK hP 4 rfl rfl 2 (by decide) (hT _ tw_51) (fun _ h9 => h9) rfl d_Big_product_224 ?_
                      refine lv_imul hx hb d_Big_product_227 ?_
                      refine lv_topi (fun v_14 ev_14 => ?_)
                      refine va_put (D := (dC, dI)) (ci := 0) (v := .int v_14) (ty := .int) (C := R_Big) (T := F_Big) (N := 3) hx hb hT i_Big t_Big t_Big_ok n_Big hown hK hP hD hS 0 rfl rfl 2 (by decide) (hT _ tw_51) (fun _ h9 => h9) rfl (by decide +kernel) rfl rfl (Nat.le_of_ble_eq_true rfl) d_Big_product_228 (fun H locs hP hD hS => ?_)
                      have hP : va_P (dC, dI) classes [(h0, .inr (0, [.ref q0, .int (nI (k1 + k2)), .int v_14])), (q0, .inl (cA0, D0, .inl fb)), (h1, .inr (0, [.ref q1, .int (nI k1), .int s1])), (q1, .inl (cA1, D1, .inl f1)), (h2, .inr (0, [.ref q2, .int (nI k2), .int s2])), (q2, .inl (cA2, D2, .inl f2))] H := hP
                      have hD : va_D A [(h0, .inr (0, [.ref q0, .int (nI (k1 + k2)), .int v_14])), (q0, .inl (cA0, D0, .inl fb)), (h1, .inr (0, [.ref q1, .int (nI k1), .int s1])), (q1, .inl (cA1, D1, .inl f1)), (h2, .inr (0, [.ref q2, .int (nI k2), .int s2])), (q2, .inl (cA2, D2, .inl f2))] := hD
                      have hP9 := hP.sub (ws' := [(h0, .inr (0, [.ref q0, .int (nI (k1 + k2)), .int v_14])), (q0, .inl (cA0, D0, .inl fb)), (h1, .inr (0, [.ref q1, .int (nI k1), .int s1])), (q1, .inl (cA1, D1, .inl f1)), (h2, .inr (0, [.ref q2, .int (nI k2), .int s2])), (q2, .inl (cA2, D2, .inl f2))]) [0, 1, 2, 3, 4, 5] rfl
                      have hD9 := hD.sub (ws' := [(h0, .inr (0, [.ref q0, .int (nI (k1 + k2)), .int v_14])), (q0, .inl (cA0, D0, .inl fb)), (h1, .inr (0, [.ref q1, .int (nI k1), .int s1])), (q1, .inl (cA1, D1, .inl f1)), (h2, .inr (0, [.ref q2, .int (nI k2), .int s2])), (q2, .inl (cA2, D2, .inl f2))]) [0, 1, 2, 3, 4, 5] (by decide) rfl
                      have hK9 := hK.sub (tys' := [(cA0, .int), (cA1, .int), (cA2, .int)]) [0, 1, 2] rfl
                      refine W.widen (k := 1) (n := 64) (Nat.le_of_ble_eq_true rfl) (Nat.le_of_ble_eq_true rfl) ?_
                      subst hQ
                      exact W.vret hx hb hr (fun t ht hW => ⟨⟨(), rfl, trivial, q0, cA0, D0, fb, (k1 + k2), v_14, ⟨by omega, by omega, by omega⟩, by rw [ht]; exact hP9, va_K.moved hW.alike hK9, hD9⟩, hS.F ht⟩) hS.2.2 d_Big_product_231
                    · refine lv_iload_n hx hb d_Big_product_202 rfl (lv_at hl 4 rfl) ?_
                      refine lv_iload hx hb d_Big_product_203 (lv_at hl 3 rfl) ?_
                      refine lv_iadd hx hb d_Big_product_205 ?_
                      refine lv_topi (fun v_15 ev_15 => ?_)
                      obtain rfl : v_15 = nI (k1 + k2) := ev_15.trans (nI_add k1 k2)
                      refine lv_iconst (v := 1) hx hb d_Big_product_206 (by decide) ?_
                      refine lv_isub hx hb d_Big_product_207 ?_
                      refine lv_topi (fun v_16 ev_16 => ?_)
                      obtain rfl : v_16 = nI ((k1 + k2) - 1) := ev_16.trans (pk_sub (show 1 ≤ k1 + k2 by omega))
                      refine lv_goto (tgt := 215) hx hb d_Big_product_208 (by decide) ?_
                      refine va_put (D := (dC, dI)) (ci := 0) (v := .int (nI ((k1 + k2) - 1))) (ty := .int) (C := R_Big) (T := F_Big) (N := 3) hx hb hT i_Big t_Big t_Big_ok n_Big hown hK hP hD hS 0 rfl rfl 1 (by decide) (hT _ tw_47) (fun _ h9 => h9) rfl (by decide +kernel) rfl rfl (Nat.le_of_ble_eq_true rfl) d_Big_product_215 (fun H locs hP hD hS => ?_)
                      have hP : va_P (dC, dI) classes [(h0, .inr (0, [.ref q0, .int (nI ((k1 + k2) - 1)), .int s0])), (q0, .inl (cA0, D0, .inl fb)), (h1, .inr (0, [.ref q1, .int (nI k1), .int s1])), (q1, .inl (cA1, D1, .inl f1)), (h2, .inr (0, [.ref q2, .int (nI k2), .int s2])), (q2, .inl (cA2, D2, .inl f2))] H := hP
                      have hD : va_D A [(h0, .inr (0, [.ref q0, .int (nI ((k1 + k2) - 1)), .int s0])), (q0, .inl (cA0, D0, .inl fb)), (h1, .inr (0, [.ref q1, .int (nI k1), .int s1])), (q1, .inl (cA1, D1, .inl f1)), (h2, .inr (0, [.ref q2, .int (nI k2), .int s2])), (q2, .inl (cA2, D2, .inl f2))] := hD
                      refine lv_aload_n hx hb d_Big_product_218 rfl (lv_at hl 5 rfl) ?_
                      refine lv_aload_n hx hb d_Big_product_219 rfl (lv_at hl 6 rfl) ?_
                      refine va_get (D := (dC, dI)) (ci := 0) (v := .int s1) (C := R_Big) (T := F_Big) (N := 3) hx hb hT i_Big hown hK hP 2 rfl rfl 2 (by decide) (hT _ tw_51) (fun _ h9 => h9) rfl d_Big_product_220 ?_
                      refine lv_aload_n hx hb d_Big_product_223 rfl (lv_at hl 7 rfl) ?_
                      refine va_get (D := (dC, dI)) (ci := 0) (v := .int s2) (C := R_Big) (T := F_Big) (N := 3) hx hb hT i_Big hown hK hP 4 rfl rfl 2 (by decide) (hT _ tw_51) (fun _ h9 => h9) rfl d_Big_product_224 ?_
                      refine lv_imul hx hb d_Big_product_227 ?_
                      refine lv_topi (fun v_17 ev_17 => ?_)
                      refine va_put (D := (dC, dI)) (ci := 0) (v := .int v_17) (ty := .int) (C := R_Big) (T := F_Big) (N := 3) hx hb hT i_Big t_Big t_Big_ok n_Big hown hK hP hD hS 0 rfl rfl 2 (by decide) (hT _ tw_51) (fun _ h9 => h9) rfl (by decide +kernel) rfl rfl (Nat.le_of_ble_eq_true rfl) d_Big_product_228 (fun H locs hP hD hS => ?_)
                      have hP : va_P (dC, dI) classes [(h0, .inr (0, [.ref q0, .int (nI ((k1 + k2) - 1)), .int v_17])), (q0, .inl (cA0, D0, .inl fb)), (h1, .inr (0, [.ref q1, .int (nI k1), .int s1])), (q1, .inl (cA1, D1, .inl f1)), (h2, .inr (0, [.ref q2, .int (nI k2), .int s2])), (q2, .inl (cA2, D2, .inl f2))] H := hP
                      have hD : va_D A [(h0, .inr (0, [.ref q0, .int (nI ((k1 + k2) - 1)), .int v_17])), (q0, .inl (cA0, D0, .inl fb)), (h1, .inr (0, [.ref q1, .int (nI k1), .int s1])), (q1, .inl (cA1, D1, .inl f1)), (h2, .inr (0, [.ref q2, .int (nI k2), .int s2])), (q2, .inl (cA2, D2, .inl f2))] := hD
                      have hP9 := hP.sub (ws' := [(h0, .inr (0, [.ref q0, .int (nI ((k1 + k2) - 1)), .int v_17])), (q0, .inl (cA0, D0, .inl fb)), (h1, .inr (0, [.ref q1, .int (nI k1), .int s1])), (q1, .inl (cA1, D1, .inl f1)), (h2, .inr (0, [.ref q2, .int (nI k2), .int s2])), (q2, .inl (cA2, D2, .inl f2))]) [0, 1, 2, 3, 4, 5] rfl
                      have hD9 := hD.sub (ws' := [(h0, .inr (0, [.ref q0, .int (nI ((k1 + k2) - 1)), .int v_17])), (q0, .inl (cA0, D0, .inl fb)), (h1, .inr (0, [.ref q1, .int (nI k1), .int s1])), (q1, .inl (cA1, D1, .inl f1)), (h2, .inr (0, [.ref q2, .int (nI k2), .int s2])), (q2, .inl (cA2, D2, .inl f2))]) [0, 1, 2, 3, 4, 5] (by decide) rfl
                      have hK9 := hK.sub (tys' := [(cA0, .int), (cA1, .int), (cA2, .int)]) [0, 1, 2] rfl
                      refine W.widen (k := 1) (n := 64) (Nat.le_of_ble_eq_true rfl) (Nat.le_of_ble_eq_true rfl) ?_
                      subst hQ
                      exact W.vret hx hb hr (fun t ht hW => ⟨⟨(), rfl, trivial, q0, cA0, D0, fb, ((k1 + k2) - 1), v_17, ⟨by omega, by omega, by omega⟩, by rw [ht]; exact hP9, va_K.moved hW.alike hK9, hD9⟩, hS.F ht⟩) hS.2.2 d_Big_product_231
                  · have hb_c_8 : i2 < k1 := Nat.lt_of_not_le (fun h => c_8 ((nI_leI (by omega) (by omega)).mpr h))
                    refine lv_aload_n hx hb d_Big_product_98 rfl (lv_at hl 6 rfl) ?_
                    refine va_get (D := (dC, dI)) (ci := 0) (v := .ref q1) (C := R_Big) (T := F_Big) (N := 3) hx hb hT i_Big hown hK hP 2 rfl rfl 0 (by decide) (hT _ tw_44) (fun _ h9 => h9) rfl d_Big_product_99 ?_
                    refine lv_iload hx hb d_Big_product_102 (lv_at hl 0 rfl) ?_
                    refine va_iald hx hb hK hP 3 1 rfl rfl (vp_in_nI (by omega) (by omega)) d_Big_product_104 ?_
                    refine lv_topi (fun v_18 ev_18 => ?_)
                    obtain ⟨v_19, ev_19⟩ : ∃ z : Int64, (v_18 : Int32).toInt64 = z := ⟨_, rfl⟩
                    refine lv_i2l (v := v_19) hx hb d_Big_product_105 ev_19 ?_
                    refine lv_lstore (lv' := [(8, .long v_19), (7, .int (nI i2)), (6, .ref q2), (5, .ref q0), (4, .int (nI k2)), (3, .int (nI k1)), (0, .ref h0), (1, .ref h1), (2, .ref h2)]) hx hb d_Big_product_106 hl (by decide) rfl (fun ls hl => ?_)
                    refine lv_lconst (v := 0) hx hb d_Big_product_108 (by decide) ?_
                    refine lv_lstore (lv' := [(10, .long 0), (8, .long v_19), (7, .int (nI i2)), (6, .ref q2), (5, .ref q0), (4, .int (nI k2)), (3, .int (nI k1)), (0, .ref h0), (1, .ref h1), (2, .ref h2)]) hx hb d_Big_product_109 hl (by decide) rfl (fun ls hl => ?_)
                    refine lv_iconst (v := 0) hx hb d_Big_product_111 (by decide) ?_
                    refine lv_istore (lv' := [(12, .int 0), (10, .long 0), (8, .long v_19), (7, .int (nI i2)), (6, .ref q2), (5, .ref q0), (4, .int (nI k2)), (3, .int (nI k1)), (0, .ref h0), (1, .ref h1), (2, .ref h2)]) hx hb d_Big_product_112 hl (by decide) rfl (fun ls hl => ?_)
                    have lp_114_19 : ∀ (n j3 : Nat) (fc : Nat → Int32) (ca : Int64), j3 ≤ k2 → k2 + 1 ≤ j3 + n → ∀ (H : Heap) (locs : List Loc) (ls : Array Slot), va_P (dC, dI) classes [(h0, .inr (0, [.ref q0, .int n0, .int s0])), (q0, .inl (cA0, D0, .inl fc)), (h1, .inr (0, [.ref q1, .int (nI k1), .int s1])), (q1, .inl (cA1, D1, .inl f1)), (h2, .inr (0, [.ref q2, .int (nI k2), .int s2])), (q2, .inl (cA2, D2, .inl f2))] H → va_D A [(h0, .inr (0, [.ref q0, .int n0, .int s0])), (q0, .inl (cA0, D0, .inl fc)), (h1, .inr (0, [.ref q1, .int (nI k1), .int s1])), (q1, .inl (cA1, D1, .inl f1)), (h2, .inr (0, [.ref q2, .int (nI k2), .int s2])), (q2, .inl (cA2, D2, .inl f2))] → va_S A s.heap H locs → lv_has ls 15 [(12, .int (nI j3)), (10, .long ca), (8, .long v_19), (7, .int (nI i2)), (6, .ref q2), (5, .ref q0), (4, .int (nI k2)), (3, .int (nI k1)), (0, .ref h0), (1, .ref h1), (2, .ref h2)] → W p l e (headSpec w_Big_product ({ frames := 0, cells := 1, slots := 64, locals := 0 })).room s m ([.ref h0, .ref h1, .ref h2]).toArray below meth c H locs (0) (0) Q (F0 m 114 ls []) := by
                      intro n
                      induction n with
                      | zero =>
                        intro j3 fc ca h1 h2
                        exact absurd h2 (by omega)
                      | succ n ih =>
                        intro j3 fc ca hi hn H locs ls hP hD hS hl
                        have ih_lp_114_19 := ih
                        refine lv_iload hx hb d_Big_product_114 (lv_at hl 0 rfl) ?_
                        refine lv_iload hx hb d_Big_product_116 (lv_at hl 6 rfl) ?_
                        refine lv_icmp_ge (tgt := 172) hx hb d_Big_product_118 (by decide) (fun c_21 => ?_) (fun c_21 => ?_)
                        · have hb_c_21 : k2 ≤ j3 := (nI_leI (by omega) (by omega)).mp c_21
                          refine lv_aload hx hb d_Big_product_172 (lv_at hl 5 rfl) ?_
                          refine lv_iload hx hb d_Big_product_174 (lv_at hl 3 rfl) ?_
                          refine lv_iload hx hb d_Big_product_176 (lv_at hl 6 rfl) ?_
                          refine lv_iadd hx hb d_Big_product_178 ?_
                          refine lv_topi (fun v_22 ev_22 => ?_)
                          obtain rfl : v_22 = nI (i2 + k2) := ev_22.trans (nI_add i2 k2)
                          refine lv_lload hx hb d_Big_product_179 (lv_at hl 1 rfl) ?_
                          obtain ⟨v_23, ev_23⟩ : ∃ z : Int32, (ca : Int64).toInt32 = z := ⟨_, rfl⟩
                          refine lv_l2i (v := v_23) hx hb d_Big_product_181 ev_23 ?_
                          refine va_iast hx hb hK hP hD hS 1 0 rfl rfl (vp_in_nI (by omega) (by omega)) d_Big_product_182 (fun H locs hP hD hS => ?_)
                          have hP : va_P (dC, dI) classes [(h0, .inr (0, [.ref q0, .int n0, .int s0])), (q0, .inl (cA0, D0, .inl (upd fc ((nI (i2 + k2)) : Int32).toNatClampNeg v_23))), (h1, .inr (0, [.ref q1, .int (nI k1), .int s1])), (q1, .inl (cA1, D1, .inl f1)), (h2, .inr (0, [.ref q2, .int (nI k2), .int s2])), (q2, .inl (cA2, D2, .inl f2))] H := hP
                          have hD : va_D A [(h0, .inr (0, [.ref q0, .int n0, .int s0])), (q0, .inl (cA0, D0, .inl (upd fc ((nI (i2 + k2)) : Int32).toNatClampNeg v_23))), (h1, .inr (0, [.ref q1, .int (nI k1), .int s1])), (q1, .inl (cA1, D1, .inl f1)), (h2, .inr (0, [.ref q2, .int (nI k2), .int s2])), (q2, .inl (cA2, D2, .inl f2))] := hD
                          generalize upd fc ((nI (i2 + k2)) : Int32).toNatClampNeg v_23 = f_24 at hP hD
                          refine lv_iinc (v := (nI (i2 + 1))) (lv' := [(7, .int (nI (i2 + 1))), (12, .int (nI j3)), (10, .long ca), (8, .long v_19), (6, .ref q2), (5, .ref q0), (4, .int (nI k2)), (3, .int (nI k1)), (0, .ref h0), (1, .ref h1), (2, .ref h2)]) hx hb d_Big_product_183 hl (k := 3) rfl (nI_1 i2) (by decide) rfl (fun ls hl => ?_)
                          refine lv_goto (tgt := 92) hx hb d_Big_product_186 (by decide) ?_
                          exact ih_lp_92_6 (i2 + 1) f_24 (by omega) (by omega) _ _ _ (hP.sub [0, 1, 2, 3, 4, 5] rfl) (hD.sub [0, 1, 2, 3, 4, 5] (by decide) rfl) hS (lv_sub hl [0, 4, 5, 6, 7, 8, 9, 10] rfl)
                        · have hb_c_21 : j3 < k2 := Nat.lt_of_not_le (fun h => c_21 ((nI_leI (by omega) (by omega)).mpr h))
                          refine lv_lload hx hb d_Big_product_121 (lv_at hl 2 rfl) ?_
                          refine lv_aload hx hb d_Big_product_123 (lv_at hl 4 rfl) ?_
                          refine lv_iload hx hb d_Big_product_125 (lv_at hl 0 rfl) ?_
                          refine va_iald hx hb hK hP 5 2 rfl rfl (vp_in_nI (by omega) (by omega)) d_Big_product_127 ?_
                          refine lv_topi (fun v_25 ev_25 => ?_)
                          obtain ⟨v_26, ev_26⟩ : ∃ z : Int64, (v_25 : Int32).toInt64 = z := ⟨_, rfl⟩
                          refine lv_i2l (v := v_26) hx hb d_Big_product_128 ev_26 ?_
                          refine lv_lmul hx hb d_Big_product_129 ?_
                          refine lv_topl (fun v_27 ev_27 => ?_)
                          refine lv_aload hx hb d_Big_product_130 (lv_at hl 5 rfl) ?_
                          refine lv_iload hx hb d_Big_product_132 (lv_at hl 3 rfl) ?_
                          refine lv_iload hx hb d_Big_product_134 (lv_at hl 0 rfl) ?_
                          refine lv_iadd hx hb d_Big_product_136 ?_
                          refine lv_topi (fun v_28 ev_28 => ?_)
                          obtain rfl : v_28 = nI (i2 + j3) := ev_28.trans (nI_add i2 j3)
                          refine va_iald hx hb hK hP 1 0 rfl rfl (vp_in_nI (by omega) (by omega)) d_Big_product_137 ?_
                          refine lv_topi (fun v_29 ev_29 => ?_)
                          obtain ⟨v_30, ev_30⟩ : ∃ z : Int64, (v_29 : Int32).toInt64 = z := ⟨_, rfl⟩
                          refine lv_i2l (v := v_30) hx hb d_Big_product_138 ev_30 ?_
                          refine lv_ladd hx hb d_Big_product_139 ?_
                          refine lv_topl (fun v_31 ev_31 => ?_)
                          refine lv_lload hx hb d_Big_product_140 (lv_at hl 1 rfl) ?_
                          refine lv_ladd hx hb d_Big_product_142 ?_
                          refine lv_topl (fun v_32 ev_32 => ?_)
                          refine lv_lstore (lv' := [(13, .long v_32), (12, .int (nI j3)), (10, .long ca), (8, .long v_19), (7, .int (nI i2)), (6, .ref q2), (5, .ref q0), (4, .int (nI k2)), (3, .int (nI k1)), (0, .ref h0), (1, .ref h1), (2, .ref h2)]) hx hb d_Big_product_143 hl (by decide) rfl (fun ls hl => ?_)
                          refine lv_aload hx hb d_Big_product_145 (lv_at hl 6 rfl) ?_
                          refine lv_iload hx hb d_Big_product_147 (lv_at hl 4 rfl) ?_
                          refine lv_iload hx hb d_Big_product_149 (lv_at hl 1 rfl) ?_
                          refine lv_iadd hx hb d_Big_product_151 ?_
                          refine lv_topi (fun v_33 ev_33 => ?_)
                          obtain rfl : v_33 = nI (i2 + j3) := ev_33.trans (nI_add i2 j3)
                          refine lv_lload hx hb d_Big_product_152 (lv_at hl 0 rfl) ?_
                          obtain ⟨v_34, ev_34⟩ : ∃ z : Int32, (v_32 : Int64).toInt32 = z := ⟨_, rfl⟩
                          refine lv_l2i (v := v_34) hx hb d_Big_product_154 ev_34 ?_
                          refine lv_ldc (v := 1073741823) hx hb hown (hT _ tw_90) d_Big_product_155 ?_
                          refine lv_iand hx hb d_Big_product_157 ?_
                          refine lv_topi (fun v_35 ev_35 => ?_)
                          refine va_iast hx hb hK hP hD hS 1 0 rfl rfl (vp_in_nI (by omega) (by omega)) d_Big_product_158 (fun H locs hP hD hS => ?_)
                          have hP : va_P (dC, dI) classes [(h0, .inr (0, [.ref q0, .int n0, .int s0])), (q0, .inl (cA0, D0, .inl (upd fc ((nI (i2 + j3)) : Int32).toNatClampNeg v_35))), (h1, .inr (0, [.ref q1, .int (nI k1), .int s1])), (q1, .inl (cA1, D1, .inl f1)), (h2, .inr (0, [.ref q2, .int (nI k2), .int s2])), (q2, .inl (cA2, D2, .inl f2))] H := hP
                          have hD : va_D A [(h0, .inr (0, [.ref q0, .int n0, .int s0])), (q0, .inl (cA0, D0, .inl (upd fc ((nI (i2 + j3)) : Int32).toNatClampNeg v_35))), (h1, .inr (0, [.ref q1, .int (nI k1), .int s1])), (q1, .inl (cA1, D1, .inl f1)), (h2, .inr (0, [.ref q2, .int (nI k2), .int s2])), (q2, .inl (cA2, D2, .inl f2))] := hD
                          generalize upd fc ((nI (i2 + j3)) : Int32).toNatClampNeg v_35 = f_36 at hP hD
                          refine lv_lload hx hb d_Big_product_159 (lv_at hl 0 rfl) ?_
                          refine lv_bipush (v := 30) hx hb d_Big_product_161 (by decide) ?_
                          obtain ⟨v_37, ev_37⟩ : ∃ z : Int64, ((v_32 : Int64).toUInt64 >>> ((30 : Int32).toInt64.toUInt64 &&& Int64.toUInt64 63)).toInt64 = z := ⟨_, rfl⟩
                          refine lv_lushr (v := v_37) hx hb d_Big_product_163 ev_37 ?_
                          refine lv_lstore (lv' := [(10, .long v_37), (13, .long v_32), (12, .int (nI j3)), (8, .long v_19), (7, .int (nI i2)), (6, .ref q2), (5, .ref q0), (4, .int (nI k2)), (3, .int (nI k1)), (0, .ref h0), (1, .ref h1), (2, .ref h2)]) hx hb d_Big_product_164 hl (by decide) rfl (fun ls hl => ?_)
                          refine lv_iinc (v := (nI (j3 + 1))) (lv' := [(12, .int (nI (j3 + 1))), (10, .long v_37), (13, .long v_32), (8, .long v_19), (7, .int (nI i2)), (6, .ref q2), (5, .ref q0), (4, .int (nI k2)), (3, .int (nI k1)), (0, .ref h0), (1, .ref h1), (2, .ref h2)]) hx hb d_Big_product_166 hl (k := 2) rfl (nI_1 j3) (by decide) rfl (fun ls hl => ?_)
                          refine lv_goto (tgt := 114) hx hb d_Big_product_169 (by decide) ?_
                          exact ih_lp_114_19 (j3 + 1) f_36 v_37 (by omega) (by omega) _ _ _ (hP.sub [0, 1, 2, 3, 4, 5] rfl) (hD.sub [0, 1, 2, 3, 4, 5] (by decide) rfl) hS (lv_sub hl [0, 1, 3, 4, 5, 6, 7, 8, 9, 10, 11] rfl)
                    exact lp_114_19 (k2 + 1) 0 fb 0 (by omega) (by omega) _ _ _ hP hD hS (lv_sub hl [0, 1, 2, 3, 4, 5, 6, 7, 8, 9, 10] rfl)
              exact lp_92_6 (k1 + 1) 0 fa (by omega) (by omega) _ _ _ hP hD hS (lv_sub hl [0, 1, 2, 3, 4, 5, 6, 7] rfl)
            · have hb_c_6 : i1 < k2 := Nat.lt_of_not_le (fun h => c_6 ((nI_leI (by omega) (by omega)).mpr h))
              refine lv_aload hx hb d_Big_product_77 (lv_at hl 2 rfl) ?_
              refine lv_iload hx hb d_Big_product_79 (lv_at hl 0 rfl) ?_
              refine lv_iconst (v := 0) hx hb d_Big_product_81 (by decide) ?_
              refine va_iast hx hb hK hP hD hS 1 0 rfl rfl (vp_in_nI (by omega) (by omega)) d_Big_product_82 (fun H locs hP hD hS => ?_)
              have hP : va_P (dC, dI) classes [(h0, .inr (0, [.ref q0, .int n0, .int s0])), (q0, .inl (cA0, D0, .inl (upd fa ((nI i1) : Int32).toNatClampNeg 0))), (h1, .inr (0, [.ref q1, .int (nI k1), .int s1])), (q1, .inl (cA1, D1, .inl f1)), (h2, .inr (0, [.ref q2, .int (nI k2), .int s2])), (q2, .inl (cA2, D2, .inl f2))] H := hP
              have hD : va_D A [(h0, .inr (0, [.ref q0, .int n0, .int s0])), (q0, .inl (cA0, D0, .inl (upd fa ((nI i1) : Int32).toNatClampNeg 0))), (h1, .inr (0, [.ref q1, .int (nI k1), .int s1])), (q1, .inl (cA1, D1, .inl f1)), (h2, .inr (0, [.ref q2, .int (nI k2), .int s2])), (q2, .inl (cA2, D2, .inl f2))] := hD
              generalize upd fa ((nI i1) : Int32).toNatClampNeg 0 = f_38 at hP hD
              refine lv_iinc (v := (nI (i1 + 1))) (lv' := [(7, .int (nI (i1 + 1))), (6, .ref q2), (5, .ref q0), (4, .int (nI k2)), (3, .int (nI k1)), (0, .ref h0), (1, .ref h1), (2, .ref h2)]) hx hb d_Big_product_83 hl (k := 0) rfl (nI_1 i1) (by decide) rfl (fun ls hl => ?_)
              refine lv_goto (tgt := 70) hx hb d_Big_product_86 (by decide) ?_
              exact ih_lp_70_4 (i1 + 1) f_38 (by omega) (by omega) _ _ _ (hP.sub [0, 1, 2, 3, 4, 5] rfl) (hD.sub [0, 1, 2, 3, 4, 5] (by decide) rfl) hS (lv_sub hl [0, 1, 2, 3, 4, 5, 6, 7] rfl)
        exact lp_70_4 (k2 + 1) 0 f0 (by omega) (by omega) _ _ _ hP hD hS (lv_sub hl [0, 1, 2, 3, 4, 5, 6, 7] rfl)
      · have hb_c_4 : D0 < k1 + k2 := Nat.lt_of_not_le (fun h => c_4 ((nI_leI (by omega) (by omega)).mpr h))
        refine lv_aload_n hx hb d_Big_product_43 rfl (lv_at hl 2 rfl) ?_
        refine lv_iload_n hx hb d_Big_product_44 rfl (lv_at hl 1 rfl) ?_
        refine lv_iload hx hb d_Big_product_45 (lv_at hl 0 rfl) ?_
        refine lv_iadd hx hb d_Big_product_47 ?_
        refine lv_topi (fun v_39 ev_39 => ?_)
        obtain rfl : v_39 = nI (k1 + k2) := ev_39.trans (nI_add k1 k2)
        refine lv_iconst (v := 4) hx hb d_Big_product_48 (by decide) ?_
        refine lv_iadd hx hb d_Big_product_49 ?_
        refine lv_topi (fun v_40 ev_40 => ?_)
        obtain rfl : v_40 = nI ((k1 + k2) + 4) := ev_40.trans (nI_add (k1 + k2) 4)
        refine va_newa (atype := .int) (a0 := ((k1 + k2 + 4), .inl (fun _ => 0))) hx hb (hT _ tw_68) rfl hK hP hD hS hA (fun _ => vp_cell_i _ _ _) (nI_pos (by omega)) (nI_clamp (by omega)) (by show (k1 + k2 + 4) * 4 ≤ _; omega) (Nat.le_of_ble_eq_true rfl) (by show 0 + (k1 + k2 + 4) ≤ 64; omega) d_Big_product_50 (fun q_41 cA_42 H hK hP hD hS => ?_)
        have hP : va_P (dC, dI) classes [(h0, .inr (0, [.ref q0, .int n0, .int s0])), (q0, .inl (cA0, D0, .inl f0)), (h1, .inr (0, [.ref q1, .int (nI k1), .int s1])), (q1, .inl (cA1, D1, .inl f1)), (h2, .inr (0, [.ref q2, .int (nI k2), .int s2])), (q2, .inl (cA2, D2, .inl f2)), (q_41, .inl (cA_42, (k1 + k2 + 4), .inl (fun _ => 0)))] H := hP
        have hD : va_D A [(h0, .inr (0, [.ref q0, .int n0, .int s0])), (q0, .inl (cA0, D0, .inl f0)), (h1, .inr (0, [.ref q1, .int (nI k1), .int s1])), (q1, .inl (cA1, D1, .inl f1)), (h2, .inr (0, [.ref q2, .int (nI k2), .int s2])), (q2, .inl (cA2, D2, .inl f2)), (q_41, .inl (cA_42, (k1 + k2 + 4), .inl (fun _ => 0)))] := hD
        have hK : va_K (dC, dI) classes [(cA0, .int), (cA1, .int), (cA2, .int), (cA_42, .int)] s := hK
        refine W.widen (k := 1) (n := 64) (Nat.le_of_ble_eq_true rfl) (by omega) ?_
        refine va_put (D := (dC, dI)) (ci := 0) (v := .ref q_41) (ty := .array .int) (C := R_Big) (T := F_Big) (N := 3) hx hb hT i_Big t_Big t_Big_ok n_Big hown hK hP hD hS 0 rfl rfl 0 (by decide) (hT _ tw_44) (fun _ h9 => h9) rfl (by decide +kernel) rfl rfl (Nat.le_of_ble_eq_true rfl) d_Big_product_52 (fun H locs hP hD hS => ?_)
        have hP : va_P (dC, dI) classes [(h0, .inr (0, [.ref q_41, .int n0, .int s0])), (q0, .inl (cA0, D0, .inl f0)), (h1, .inr (0, [.ref q1, .int (nI k1), .int s1])), (q1, .inl (cA1, D1, .inl f1)), (h2, .inr (0, [.ref q2, .int (nI k2), .int s2])), (q2, .inl (cA2, D2, .inl f2)), (q_41, .inl (cA_42, (k1 + k2 + 4), .inl (fun _ => 0)))] H := hP
        have hD : va_D A [(h0, .inr (0, [.ref q_41, .int n0, .int s0])), (q0, .inl (cA0, D0, .inl f0)), (h1, .inr (0, [.ref q1, .int (nI k1), .int s1])), (q1, .inl (cA1, D1, .inl f1)), (h2, .inr (0, [.ref q2, .int (nI k2), .int s2])), (q2, .inl (cA2, D2, .inl f2)), (q_41, .inl (cA_42, (k1 + k2 + 4), .inl (fun _ => 0)))] := hD
        refine lv_aload_n hx hb d_Big_product_55 rfl (lv_at hl 2 rfl) ?_
        refine va_get (D := (dC, dI)) (ci := 0) (v := .ref q_41) (C := R_Big) (T := F_Big) (N := 3) hx hb hT i_Big hown hK hP 0 rfl rfl 0 (by decide) (hT _ tw_44) (fun _ h9 => h9) rfl d_Big_product_56 ?_
        refine lv_astore (lv' := [(5, .ref q_41), (4, .int (nI k2)), (3, .int (nI k1)), (0, .ref h0), (1, .ref h1), (2, .ref h2)]) hx hb d_Big_product_59 hl (by decide) rfl (fun ls hl => ?_)
        refine lv_aload_n hx hb d_Big_product_61 rfl (lv_at hl 5 rfl) ?_
        refine va_get (D := (dC, dI)) (ci := 0) (v := .ref q2) (C := R_Big) (T := F_Big) (N := 3) hx hb hT i_Big hown hK hP 4 rfl rfl 0 (by decide) (hT _ tw_44) (fun _ h9 => h9) rfl d_Big_product_62 ?_
        refine lv_astore (lv' := [(6, .ref q2), (5, .ref q_41), (4, .int (nI k2)), (3, .int (nI k1)), (0, .ref h0), (1, .ref h1), (2, .ref h2)]) hx hb d_Big_product_65 hl (by decide) rfl (fun ls hl => ?_)
        refine lv_iconst (v := 0) hx hb d_Big_product_67 (by decide) ?_
        refine lv_istore (lv' := [(7, .int 0), (6, .ref q2), (5, .ref q_41), (4, .int (nI k2)), (3, .int (nI k1)), (0, .ref h0), (1, .ref h1), (2, .ref h2)]) hx hb d_Big_product_68 hl (by decide) rfl (fun ls hl => ?_)
        have lp_70_42 : ∀ (n i1 : Nat) (fa : Nat → Int32), i1 ≤ k2 → k2 + 1 ≤ i1 + n → ∀ (H : Heap) (locs : List Loc) (ls : Array Slot), va_P (dC, dI) classes [(h0, .inr (0, [.ref q_41, .int n0, .int s0])), (q0, .inl (cA0, D0, .inl f0)), (h1, .inr (0, [.ref q1, .int (nI k1), .int s1])), (q1, .inl (cA1, D1, .inl f1)), (h2, .inr (0, [.ref q2, .int (nI k2), .int s2])), (q2, .inl (cA2, D2, .inl f2)), (q_41, .inl (cA_42, (k1 + k2 + 4), .inl fa))] H → va_D A [(h0, .inr (0, [.ref q_41, .int n0, .int s0])), (q0, .inl (cA0, D0, .inl f0)), (h1, .inr (0, [.ref q1, .int (nI k1), .int s1])), (q1, .inl (cA1, D1, .inl f1)), (h2, .inr (0, [.ref q2, .int (nI k2), .int s2])), (q2, .inl (cA2, D2, .inl f2)), (q_41, .inl (cA_42, (k1 + k2 + 4), .inl fa))] → va_S A s.heap H locs → lv_has ls 15 [(7, .int (nI i1)), (6, .ref q2), (5, .ref q_41), (4, .int (nI k2)), (3, .int (nI k1)), (0, .ref h0), (1, .ref h1), (2, .ref h2)] → W p l e (headSpec w_Big_product ({ frames := 0, cells := 1, slots := 64, locals := 0 })).room s m ([.ref h0, .ref h1, .ref h2]).toArray below meth c H locs (1) (64) Q (F0 m 70 ls []) := by
          intro n
          induction n with
          | zero =>
            intro i1 fa h1 h2
            exact absurd h2 (by omega)
          | succ n ih =>
            intro i1 fa hi hn H locs ls hP hD hS hl
            have ih_lp_70_42 := ih
            refine lv_iload hx hb d_Big_product_70 (lv_at hl 0 rfl) ?_
            refine lv_iload hx hb d_Big_product_72 (lv_at hl 3 rfl) ?_
            refine lv_icmp_ge (tgt := 89) hx hb d_Big_product_74 (by decide) (fun c_44 => ?_) (fun c_44 => ?_)
            · have hb_c_44 : k2 ≤ i1 := (nI_leI (by omega) (by omega)).mp c_44
              refine lv_iconst (v := 0) hx hb d_Big_product_89 (by decide) ?_
              refine lv_istore (lv' := [(7, .int 0), (6, .ref q2), (5, .ref q_41), (4, .int (nI k2)), (3, .int (nI k1)), (0, .ref h0), (1, .ref h1), (2, .ref h2)]) hx hb d_Big_product_90 hl (by decide) rfl (fun ls hl => ?_)
              have lp_92_44 : ∀ (n i2 : Nat) (fb : Nat → Int32), i2 ≤ k1 → k1 + 1 ≤ i2 + n → ∀ (H : Heap) (locs : List Loc) (ls : Array Slot), va_P (dC, dI) classes [(h0, .inr (0, [.ref q_41, .int n0, .int s0])), (q0, .inl (cA0, D0, .inl f0)), (h1, .inr (0, [.ref q1, .int (nI k1), .int s1])), (q1, .inl (cA1, D1, .inl f1)), (h2, .inr (0, [.ref q2, .int (nI k2), .int s2])), (q2, .inl (cA2, D2, .inl f2)), (q_41, .inl (cA_42, (k1 + k2 + 4), .inl fb))] H → va_D A [(h0, .inr (0, [.ref q_41, .int n0, .int s0])), (q0, .inl (cA0, D0, .inl f0)), (h1, .inr (0, [.ref q1, .int (nI k1), .int s1])), (q1, .inl (cA1, D1, .inl f1)), (h2, .inr (0, [.ref q2, .int (nI k2), .int s2])), (q2, .inl (cA2, D2, .inl f2)), (q_41, .inl (cA_42, (k1 + k2 + 4), .inl fb))] → va_S A s.heap H locs → lv_has ls 15 [(7, .int (nI i2)), (6, .ref q2), (5, .ref q_41), (4, .int (nI k2)), (3, .int (nI k1)), (0, .ref h0), (1, .ref h1), (2, .ref h2)] → W p l e (headSpec w_Big_product ({ frames := 0, cells := 1, slots := 64, locals := 0 })).room s m ([.ref h0, .ref h1, .ref h2]).toArray below meth c H locs (1) (64) Q (F0 m 92 ls []) := by
                intro n
                induction n with
                | zero =>
                  intro i2 fb h1 h2
                  exact absurd h2 (by omega)
                | succ n ih =>
                  intro i2 fb hi hn H locs ls hP hD hS hl
                  have ih_lp_92_44 := ih
                  refine lv_iload hx hb d_Big_product_92 (lv_at hl 0 rfl) ?_
                  refine lv_iload_n hx hb d_Big_product_94 rfl (lv_at hl 4 rfl) ?_
                  refine lv_icmp_ge (tgt := 189) hx hb d_Big_product_95 (by decide) (fun c_46 => ?_) (fun c_46 => ?_)
                  · have hb_c_46 : k1 ≤ i2 := (nI_leI (by omega) (by omega)).mp c_46
                    refine lv_aload_n hx hb d_Big_product_189 rfl (lv_at hl 5 rfl) ?_
                    refine lv_aload hx hb d_Big_product_190 (lv_at hl 2 rfl) ?_
                    refine lv_iload_n hx hb d_Big_product_192 rfl (lv_at hl 4 rfl) ?_
                    refine lv_iload hx hb d_Big_product_193 (lv_at hl 3 rfl) ?_
                    refine lv_iadd hx hb d_Big_product_195 ?_
                    refine lv_topi (fun v_47 ev_47 => ?_)
                    obtain rfl : v_47 = nI (k1 + k2) := ev_47.trans (nI_add k1 k2)
                    refine lv_iconst (v := 1) hx hb d_Big_product_196 (by decide) ?_
                    refine lv_isub hx hb d_Big_product_197 ?_
                    refine lv_topi (fun v_48 ev_48 => ?_)
                    obtain rfl : v_48 = nI ((k1 + k2) - 1) := ev_48.trans (pk_sub (show 1 ≤ k1 + k2 by omega))
                    refine va_iald hx hb hK hP 6 3 rfl rfl (vp_in_nI (by omega) (by omega)) d_Big_product_198 ?_
                    refine lv_topi (fun v_49 ev_49 => ?_)
                    refine lv_if_ne (tgt := 211) hx hb d_Big_product_199 (by decide) (fun c_50 => ?_) (fun c_50 => ?_)
                    · refine lv_iload_n hx hb d_Big_product_211 rfl (lv_at hl 4 rfl) ?_
                      refine lv_iload hx hb d_Big_product_212 (lv_at hl 3 rfl) ?_
                      refine lv_iadd hx hb d_Big_product_214 ?_
                      refine lv_topi (fun v_51 ev_51 => ?_)
                      obtain rfl : v_51 = nI (k1 + k2) := ev_51.trans (nI_add k1 k2)
                      refine va_put (D := (dC, dI)) (ci := 0) (v := .int (nI (k1 + k2))) (ty := .int) (C := R_Big) (T := F_Big) (N := 3) hx hb hT i_Big t_Big t_Big_ok n_Big hown hK hP hD hS 0 rfl rfl 1 (by decide) (hT _ tw_47) (fun _ h9 => h9) rfl (by decide +kernel) rfl rfl (Nat.le_of_ble_eq_true rfl) d_Big_product_215 (fun H locs hP hD hS => ?_)
                      have hP : va_P (dC, dI) classes [(h0, .inr (0, [.ref q_41, .int (nI (k1 + k2)), .int s0])), (q0, .inl (cA0, D0, .inl f0)), (h1, .inr (0, [.ref q1, .int (nI k1), .int s1])), (q1, .inl (cA1, D1, .inl f1)), (h2, .inr (0, [.ref q2, .int (nI k2), .int s2])), (q2, .inl (cA2, D2, .inl f2)), (q_41, .inl (cA_42, (k1 + k2 + 4), .inl fb))] H := hP
                      have hD : va_D A [(h0, .inr (0, [.ref q_41, .int (nI (k1 + k2)), .int s0])), (q0, .inl (cA0, D0, .inl f0)), (h1, .inr (0, [.ref q1, .int (nI k1), .int s1])), (q1, .inl (cA1, D1, .inl f1)), (h2, .inr (0, [.ref q2, .int (nI k2), .int s2])), (q2, .inl (cA2, D2, .inl f2)), (q_41, .inl (cA_42, (k1 + k2 + 4), .inl fb))] := hD
                      refine lv_aload_n hx hb d_Big_product_218 rfl (lv_at hl 5 rfl) ?_
                      refine lv_aload_n hx hb d_Big_product_219 rfl (lv_at hl 6 rfl) ?_
                      refine va_get (D := (dC, dI)) (ci := 0) (v := .int s1) (C := R_Big) (T := F_Big) (N := 3) hx hb hT i_Big hown hK hP 2 rfl rfl 2 (by decide) (hT _ tw_51) (fun _ h9 => h9) rfl d_Big_product_220 ?_
                      refine lv_aload_n hx hb d_Big_product_223 rfl (lv_at hl 7 rfl) ?_
                      refine va_get (D := (dC, dI)) (ci := 0) (v := .int s2) (C := R_Big) (T := F_Big) (N := 3) hx hb hT i_Big hown hK hP 4 rfl rfl 2 (by decide) (hT _ tw_51) (fun _ h9 => h9) rfl d_Big_product_224 ?_
                      refine lv_imul hx hb d_Big_product_227 ?_
                      refine lv_topi (fun v_52 ev_52 => ?_)
                      refine va_put (D := (dC, dI)) (ci := 0) (v := .int v_52) (ty := .int) (C := R_Big) (T := F_Big) (N := 3) hx hb hT i_Big t_Big t_Big_ok n_Big hown hK hP hD hS 0 rfl rfl 2 (by decide) (hT _ tw_51) (fun _ h9 => h9) rfl (by decide +kernel) rfl rfl (Nat.le_of_ble_eq_true rfl) d_Big_product_228 (fun H locs hP hD hS => ?_)
                      have hP : va_P (dC, dI) classes [(h0, .inr (0, [.ref q_41, .int (nI (k1 + k2)), .int v_52])), (q0, .inl (cA0, D0, .inl f0)), (h1, .inr (0, [.ref q1, .int (nI k1), .int s1])), (q1, .inl (cA1, D1, .inl f1)), (h2, .inr (0, [.ref q2, .int (nI k2), .int s2])), (q2, .inl (cA2, D2, .inl f2)), (q_41, .inl (cA_42, (k1 + k2 + 4), .inl fb))] H := hP
                      have hD : va_D A [(h0, .inr (0, [.ref q_41, .int (nI (k1 + k2)), .int v_52])), (q0, .inl (cA0, D0, .inl f0)), (h1, .inr (0, [.ref q1, .int (nI k1), .int s1])), (q1, .inl (cA1, D1, .inl f1)), (h2, .inr (0, [.ref q2, .int (nI k2), .int s2])), (q2, .inl (cA2, D2, .inl f2)), (q_41, .inl (cA_42, (k1 + k2 + 4), .inl fb))] := hD
                      have hP9 := hP.sub (ws' := [(h0, .inr (0, [.ref q_41, .int (nI (k1 + k2)), .int v_52])), (q_41, .inl (cA_42, (k1 + k2 + 4), .inl fb)), (h1, .inr (0, [.ref q1, .int (nI k1), .int s1])), (q1, .inl (cA1, D1, .inl f1)), (h2, .inr (0, [.ref q2, .int (nI k2), .int s2])), (q2, .inl (cA2, D2, .inl f2))]) [0, 6, 2, 3, 4, 5] rfl
                      have hD9 := hD.sub (ws' := [(h0, .inr (0, [.ref q_41, .int (nI (k1 + k2)), .int v_52])), (q_41, .inl (cA_42, (k1 + k2 + 4), .inl fb)), (h1, .inr (0, [.ref q1, .int (nI k1), .int s1])), (q1, .inl (cA1, D1, .inl f1)), (h2, .inr (0, [.ref q2, .int (nI k2), .int s2])), (q2, .inl (cA2, D2, .inl f2))]) [0, 6, 2, 3, 4, 5] (by decide) rfl
                      have hK9 := hK.sub (tys' := [(cA_42, .int), (cA1, .int), (cA2, .int)]) [3, 1, 2] rfl
                      subst hQ
                      exact W.vret hx hb hr (fun t ht hW => ⟨⟨(), rfl, trivial, q_41, cA_42, (k1 + k2 + 4), fb, (k1 + k2), v_52, ⟨by omega, by omega, by omega⟩, by rw [ht]; exact hP9, va_K.moved hW.alike hK9, hD9⟩, hS.F ht⟩) hS.2.2 d_Big_product_231
                    · refine lv_iload_n hx hb d_Big_product_202 rfl (lv_at hl 4 rfl) ?_
                      refine lv_iload hx hb d_Big_product_203 (lv_at hl 3 rfl) ?_
                      refine lv_iadd hx hb d_Big_product_205 ?_
                      refine lv_topi (fun v_53 ev_53 => ?_)
                      obtain rfl : v_53 = nI (k1 + k2) := ev_53.trans (nI_add k1 k2)
                      refine lv_iconst (v := 1) hx hb d_Big_product_206 (by decide) ?_
                      refine lv_isub hx hb d_Big_product_207 ?_
                      refine lv_topi (fun v_54 ev_54 => ?_)
                      obtain rfl : v_54 = nI ((k1 + k2) - 1) := ev_54.trans (pk_sub (show 1 ≤ k1 + k2 by omega))
                      refine lv_goto (tgt := 215) hx hb d_Big_product_208 (by decide) ?_
                      refine va_put (D := (dC, dI)) (ci := 0) (v := .int (nI ((k1 + k2) - 1))) (ty := .int) (C := R_Big) (T := F_Big) (N := 3) hx hb hT i_Big t_Big t_Big_ok n_Big hown hK hP hD hS 0 rfl rfl 1 (by decide) (hT _ tw_47) (fun _ h9 => h9) rfl (by decide +kernel) rfl rfl (Nat.le_of_ble_eq_true rfl) d_Big_product_215 (fun H locs hP hD hS => ?_)
                      have hP : va_P (dC, dI) classes [(h0, .inr (0, [.ref q_41, .int (nI ((k1 + k2) - 1)), .int s0])), (q0, .inl (cA0, D0, .inl f0)), (h1, .inr (0, [.ref q1, .int (nI k1), .int s1])), (q1, .inl (cA1, D1, .inl f1)), (h2, .inr (0, [.ref q2, .int (nI k2), .int s2])), (q2, .inl (cA2, D2, .inl f2)), (q_41, .inl (cA_42, (k1 + k2 + 4), .inl fb))] H := hP
                      have hD : va_D A [(h0, .inr (0, [.ref q_41, .int (nI ((k1 + k2) - 1)), .int s0])), (q0, .inl (cA0, D0, .inl f0)), (h1, .inr (0, [.ref q1, .int (nI k1), .int s1])), (q1, .inl (cA1, D1, .inl f1)), (h2, .inr (0, [.ref q2, .int (nI k2), .int s2])), (q2, .inl (cA2, D2, .inl f2)), (q_41, .inl (cA_42, (k1 + k2 + 4), .inl fb))] := hD
                      refine lv_aload_n hx hb d_Big_product_218 rfl (lv_at hl 5 rfl) ?_
                      refine lv_aload_n hx hb d_Big_product_219 rfl (lv_at hl 6 rfl) ?_
                      refine va_get (D := (dC, dI)) (ci := 0) (v := .int s1) (C := R_Big) (T := F_Big) (N := 3) hx hb hT i_Big hown hK hP 2 rfl rfl 2 (by decide) (hT _ tw_51) (fun _ h9 => h9) rfl d_Big_product_220 ?_
                      refine lv_aload_n hx hb d_Big_product_223 rfl (lv_at hl 7 rfl) ?_
                      refine va_get (D := (dC, dI)) (ci := 0) (v := .int s2) (C := R_Big) (T := F_Big) (N := 3) hx hb hT i_Big hown hK hP 4 rfl rfl 2 (by decide) (hT _ tw_51) (fun _ h9 => h9) rfl d_Big_product_224 ?_
                      refine lv_imul hx hb d_Big_product_227 ?_
                      refine lv_topi (fun v_55 ev_55 => ?_)
                      refine va_put (D := (dC, dI)) (ci := 0) (v := .int v_55) (ty := .int) (C := R_Big) (T := F_Big) (N := 3) hx hb hT i_Big t_Big t_Big_ok n_Big hown hK hP hD hS 0 rfl rfl 2 (by decide) (hT _ tw_51) (fun _ h9 => h9) rfl (by decide +kernel) rfl rfl (Nat.le_of_ble_eq_true rfl) d_Big_product_228 (fun H locs hP hD hS => ?_)
                      have hP : va_P (dC, dI) classes [(h0, .inr (0, [.ref q_41, .int (nI ((k1 + k2) - 1)), .int v_55])), (q0, .inl (cA0, D0, .inl f0)), (h1, .inr (0, [.ref q1, .int (nI k1), .int s1])), (q1, .inl (cA1, D1, .inl f1)), (h2, .inr (0, [.ref q2, .int (nI k2), .int s2])), (q2, .inl (cA2, D2, .inl f2)), (q_41, .inl (cA_42, (k1 + k2 + 4), .inl fb))] H := hP
                      have hD : va_D A [(h0, .inr (0, [.ref q_41, .int (nI ((k1 + k2) - 1)), .int v_55])), (q0, .inl (cA0, D0, .inl f0)), (h1, .inr (0, [.ref q1, .int (nI k1), .int s1])), (q1, .inl (cA1, D1, .inl f1)), (h2, .inr (0, [.ref q2, .int (nI k2), .int s2])), (q2, .inl (cA2, D2, .inl f2)), (q_41, .inl (cA_42, (k1 + k2 + 4), .inl fb))] := hD
                      have hP9 := hP.sub (ws' := [(h0, .inr (0, [.ref q_41, .int (nI ((k1 + k2) - 1)), .int v_55])), (q_41, .inl (cA_42, (k1 + k2 + 4), .inl fb)), (h1, .inr (0, [.ref q1, .int (nI k1), .int s1])), (q1, .inl (cA1, D1, .inl f1)), (h2, .inr (0, [.ref q2, .int (nI k2), .int s2])), (q2, .inl (cA2, D2, .inl f2))]) [0, 6, 2, 3, 4, 5] rfl
                      have hD9 := hD.sub (ws' := [(h0, .inr (0, [.ref q_41, .int (nI ((k1 + k2) - 1)), .int v_55])), (q_41, .inl (cA_42, (k1 + k2 + 4), .inl fb)), (h1, .inr (0, [.ref q1, .int (nI k1), .int s1])), (q1, .inl (cA1, D1, .inl f1)), (h2, .inr (0, [.ref q2, .int (nI k2), .int s2])), (q2, .inl (cA2, D2, .inl f2))]) [0, 6, 2, 3, 4, 5] (by decide) rfl
                      have hK9 := hK.sub (tys' := [(cA_42, .int), (cA1, .int), (cA2, .int)]) [3, 1, 2] rfl
                      subst hQ
                      exact W.vret hx hb hr (fun t ht hW => ⟨⟨(), rfl, trivial, q_41, cA_42, (k1 + k2 + 4), fb, ((k1 + k2) - 1), v_55, ⟨by omega, by omega, by omega⟩, by rw [ht]; exact hP9, va_K.moved hW.alike hK9, hD9⟩, hS.F ht⟩) hS.2.2 d_Big_product_231
                  · have hb_c_46 : i2 < k1 := Nat.lt_of_not_le (fun h => c_46 ((nI_leI (by omega) (by omega)).mpr h))
                    refine lv_aload_n hx hb d_Big_product_98 rfl (lv_at hl 6 rfl) ?_
                    refine va_get (D := (dC, dI)) (ci := 0) (v := .ref q1) (C := R_Big) (T := F_Big) (N := 3) hx hb hT i_Big hown hK hP 2 rfl rfl 0 (by decide) (hT _ tw_44) (fun _ h9 => h9) rfl d_Big_product_99 ?_
                    refine lv_iload hx hb d_Big_product_102 (lv_at hl 0 rfl) ?_
                    refine va_iald hx hb hK hP 3 1 rfl rfl (vp_in_nI (by omega) (by omega)) d_Big_product_104 ?_
                    refine lv_topi (fun v_56 ev_56 => ?_)
                    obtain ⟨v_57, ev_57⟩ : ∃ z : Int64, (v_56 : Int32).toInt64 = z := ⟨_, rfl⟩
                    refine lv_i2l (v := v_57) hx hb d_Big_product_105 ev_57 ?_
                    refine lv_lstore (lv' := [(8, .long v_57), (7, .int (nI i2)), (6, .ref q2), (5, .ref q_41), (4, .int (nI k2)), (3, .int (nI k1)), (0, .ref h0), (1, .ref h1), (2, .ref h2)]) hx hb d_Big_product_106 hl (by decide) rfl (fun ls hl => ?_)
                    refine lv_lconst (v := 0) hx hb d_Big_product_108 (by decide) ?_
                    refine lv_lstore (lv' := [(10, .long 0), (8, .long v_57), (7, .int (nI i2)), (6, .ref q2), (5, .ref q_41), (4, .int (nI k2)), (3, .int (nI k1)), (0, .ref h0), (1, .ref h1), (2, .ref h2)]) hx hb d_Big_product_109 hl (by decide) rfl (fun ls hl => ?_)
                    refine lv_iconst (v := 0) hx hb d_Big_product_111 (by decide) ?_
                    refine lv_istore (lv' := [(12, .int 0), (10, .long 0), (8, .long v_57), (7, .int (nI i2)), (6, .ref q2), (5, .ref q_41), (4, .int (nI k2)), (3, .int (nI k1)), (0, .ref h0), (1, .ref h1), (2, .ref h2)]) hx hb d_Big_product_112 hl (by decide) rfl (fun ls hl => ?_)
                    have lp_114_57 : ∀ (n j3 : Nat) (fc : Nat → Int32) (ca : Int64), j3 ≤ k2 → k2 + 1 ≤ j3 + n → ∀ (H : Heap) (locs : List Loc) (ls : Array Slot), va_P (dC, dI) classes [(h0, .inr (0, [.ref q_41, .int n0, .int s0])), (q0, .inl (cA0, D0, .inl f0)), (h1, .inr (0, [.ref q1, .int (nI k1), .int s1])), (q1, .inl (cA1, D1, .inl f1)), (h2, .inr (0, [.ref q2, .int (nI k2), .int s2])), (q2, .inl (cA2, D2, .inl f2)), (q_41, .inl (cA_42, (k1 + k2 + 4), .inl fc))] H → va_D A [(h0, .inr (0, [.ref q_41, .int n0, .int s0])), (q0, .inl (cA0, D0, .inl f0)), (h1, .inr (0, [.ref q1, .int (nI k1), .int s1])), (q1, .inl (cA1, D1, .inl f1)), (h2, .inr (0, [.ref q2, .int (nI k2), .int s2])), (q2, .inl (cA2, D2, .inl f2)), (q_41, .inl (cA_42, (k1 + k2 + 4), .inl fc))] → va_S A s.heap H locs → lv_has ls 15 [(12, .int (nI j3)), (10, .long ca), (8, .long v_57), (7, .int (nI i2)), (6, .ref q2), (5, .ref q_41), (4, .int (nI k2)), (3, .int (nI k1)), (0, .ref h0), (1, .ref h1), (2, .ref h2)] → W p l e (headSpec w_Big_product ({ frames := 0, cells := 1, slots := 64, locals := 0 })).room s m ([.ref h0, .ref h1, .ref h2]).toArray below meth c H locs (1) (64) Q (F0 m 114 ls []) := by
                      intro n
                      induction n with
                      | zero =>
                        intro j3 fc ca h1 h2
                        exact absurd h2 (by omega)
                      | succ n ih =>
                        intro j3 fc ca hi hn H locs ls hP hD hS hl
                        have ih_lp_114_57 := ih
                        refine lv_iload hx hb d_Big_product_114 (lv_at hl 0 rfl) ?_
                        refine lv_iload hx hb d_Big_product_116 (lv_at hl 6 rfl) ?_
                        refine lv_icmp_ge (tgt := 172) hx hb d_Big_product_118 (by decide) (fun c_59 => ?_) (fun c_59 => ?_)
                        · have hb_c_59 : k2 ≤ j3 := (nI_leI (by omega) (by omega)).mp c_59
                          refine lv_aload hx hb d_Big_product_172 (lv_at hl 5 rfl) ?_
                          refine lv_iload hx hb d_Big_product_174 (lv_at hl 3 rfl) ?_
                          refine lv_iload hx hb d_Big_product_176 (lv_at hl 6 rfl) ?_
                          refine lv_iadd hx hb d_Big_product_178 ?_
                          refine lv_topi (fun v_60 ev_60 => ?_)
                          obtain rfl : v_60 = nI (i2 + k2) := ev_60.trans (nI_add i2 k2)
                          refine lv_lload hx hb d_Big_product_179 (lv_at hl 1 rfl) ?_
                          obtain ⟨v_61, ev_61⟩ : ∃ z : Int32, (ca : Int64).toInt32 = z := ⟨_, rfl⟩
                          refine lv_l2i (v := v_61) hx hb d_Big_product_181 ev_61 ?_
                          refine va_iast hx hb hK hP hD hS 6 3 rfl rfl (vp_in_nI (by omega) (by omega)) d_Big_product_182 (fun H locs hP hD hS => ?_)
                          have hP : va_P (dC, dI) classes [(h0, .inr (0, [.ref q_41, .int n0, .int s0])), (q0, .inl (cA0, D0, .inl f0)), (h1, .inr (0, [.ref q1, .int (nI k1), .int s1])), (q1, .inl (cA1, D1, .inl f1)), (h2, .inr (0, [.ref q2, .int (nI k2), .int s2])), (q2, .inl (cA2, D2, .inl f2)), (q_41, .inl (cA_42, (k1 + k2 + 4), .inl (upd fc ((nI (i2 + k2)) : Int32).toNatClampNeg v_61)))] H := hP
                          have hD : va_D A [(h0, .inr (0, [.ref q_41, .int n0, .int s0])), (q0, .inl (cA0, D0, .inl f0)), (h1, .inr (0, [.ref q1, .int (nI k1), .int s1])), (q1, .inl (cA1, D1, .inl f1)), (h2, .inr (0, [.ref q2, .int (nI k2), .int s2])), (q2, .inl (cA2, D2, .inl f2)), (q_41, .inl (cA_42, (k1 + k2 + 4), .inl (upd fc ((nI (i2 + k2)) : Int32).toNatClampNeg v_61)))] := hD
                          generalize upd fc ((nI (i2 + k2)) : Int32).toNatClampNeg v_61 = f_62 at hP hD
                          refine lv_iinc (v := (nI (i2 + 1))) (lv' := [(7, .int (nI (i2 + 1))), (12, .int (nI j3)), (10, .long ca), (8, .long v_57), (6, .ref q2), (5, .ref q_41), (4, .int (nI k2)), (3, .int (nI k1)), (0, .ref h0), (1, .ref h1), (2, .ref h2)]) hx hb d_Big_product_183 hl (k := 3) rfl (nI_1 i2) (by decide) rfl (fun ls hl => ?_)
                          refine lv_goto (tgt := 92) hx hb d_Big_product_186 (by decide) ?_
                          exact ih_lp_92_44 (i2 + 1) f_62 (by omega) (by omega) _ _ _ (hP.sub [0, 1, 2, 3, 4, 5, 6] rfl) (hD.sub [0, 1, 2, 3, 4, 5, 6] (by decide) rfl) hS (lv_sub hl [0, 4, 5, 6, 7, 8, 9, 10] rfl)
                        · have hb_c_59 : j3 < k2 := Nat.lt_of_not_le (fun h => c_59 ((nI_leI (by omega) (by omega)).mpr h))
                          refine lv_lload hx hb d_Big_product_121 (lv_at hl 2 rfl) ?_
                          refine lv_aload hx hb d_Big_product_123 (lv_at hl 4 rfl) ?_
                          refine lv_iload hx hb d_Big_product_125 (lv_at hl 0 rfl) ?_
                          refine va_iald hx hb hK hP 5 2 rfl rfl (vp_in_nI (by omega) (by omega)) d_Big_product_127 ?_
                          refine lv_topi (fun v_63 ev_63 => ?_)
                          obtain ⟨v_64, ev_64⟩ : ∃ z : Int64, (v_63 : Int32).toInt64 = z := ⟨_, rfl⟩
                          refine lv_i2l (v := v_64) hx hb d_Big_product_128 ev_64 ?_
                          refine lv_lmul hx hb d_Big_product_129 ?_
                          refine lv_topl (fun v_65 ev_65 => ?_)
                          refine lv_aload hx hb d_Big_product_130 (lv_at hl 5 rfl) ?_
                          refine lv_iload hx hb d_Big_product_132 (lv_at hl 3 rfl) ?_
                          refine lv_iload hx hb d_Big_product_134 (lv_at hl 0 rfl) ?_
                          refine lv_iadd hx hb d_Big_product_136 ?_
                          refine lv_topi (fun v_66 ev_66 => ?_)
                          obtain rfl : v_66 = nI (i2 + j3) := ev_66.trans (nI_add i2 j3)
                          refine va_iald hx hb hK hP 6 3 rfl rfl (vp_in_nI (by omega) (by omega)) d_Big_product_137 ?_
                          refine lv_topi (fun v_67 ev_67 => ?_)
                          obtain ⟨v_68, ev_68⟩ : ∃ z : Int64, (v_67 : Int32).toInt64 = z := ⟨_, rfl⟩
                          refine lv_i2l (v := v_68) hx hb d_Big_product_138 ev_68 ?_
                          refine lv_ladd hx hb d_Big_product_139 ?_
                          refine lv_topl (fun v_69 ev_69 => ?_)
                          refine lv_lload hx hb d_Big_product_140 (lv_at hl 1 rfl) ?_
                          refine lv_ladd hx hb d_Big_product_142 ?_
                          refine lv_topl (fun v_70 ev_70 => ?_)
                          refine lv_lstore (lv' := [(13, .long v_70), (12, .int (nI j3)), (10, .long ca), (8, .long v_57), (7, .int (nI i2)), (6, .ref q2), (5, .ref q_41), (4, .int (nI k2)), (3, .int (nI k1)), (0, .ref h0), (1, .ref h1), (2, .ref h2)]) hx hb d_Big_product_143 hl (by decide) rfl (fun ls hl => ?_)
                          refine lv_aload hx hb d_Big_product_145 (lv_at hl 6 rfl) ?_
                          refine lv_iload hx hb d_Big_product_147 (lv_at hl 4 rfl) ?_
                          refine lv_iload hx hb d_Big_product_149 (lv_at hl 1 rfl) ?_
                          refine lv_iadd hx hb d_Big_product_151 ?_
                          refine lv_topi (fun v_71 ev_71 => ?_)
                          obtain rfl : v_71 = nI (i2 + j3) := ev_71.trans (nI_add i2 j3)
                          refine lv_lload hx hb d_Big_product_152 (lv_at hl 0 rfl) ?_
                          obtain ⟨v_72, ev_72⟩ : ∃ z : Int32, (v_70 : Int64).toInt32 = z := ⟨_, rfl⟩
                          refine lv_l2i (v := v_72) hx hb d_Big_product_154 ev_72 ?_
                          refine lv_ldc (v := 1073741823) hx hb hown (hT _ tw_90) d_Big_product_155 ?_
                          refine lv_iand hx hb d_Big_product_157 ?_
                          refine lv_topi (fun v_73 ev_73 => ?_)
                          refine va_iast hx hb hK hP hD hS 6 3 rfl rfl (vp_in_nI (by omega) (by omega)) d_Big_product_158 (fun H locs hP hD hS => ?_)
                          have hP : va_P (dC, dI) classes [(h0, .inr (0, [.ref q_41, .int n0, .int s0])), (q0, .inl (cA0, D0, .inl f0)), (h1, .inr (0, [.ref q1, .int (nI k1), .int s1])), (q1, .inl (cA1, D1, .inl f1)), (h2, .inr (0, [.ref q2, .int (nI k2), .int s2])), (q2, .inl (cA2, D2, .inl f2)), (q_41, .inl (cA_42, (k1 + k2 + 4), .inl (upd fc ((nI (i2 + j3)) : Int32).toNatClampNeg v_73)))] H := hP
                          have hD : va_D A [(h0, .inr (0, [.ref q_41, .int n0, .int s0])), (q0, .inl (cA0, D0, .inl f0)), (h1, .inr (0, [.ref q1, .int (nI k1), .int s1])), (q1, .inl (cA1, D1, .inl f1)), (h2, .inr (0, [.ref q2, .int (nI k2), .int s2])), (q2, .inl (cA2, D2, .inl f2)), (q_41, .inl (cA_42, (k1 + k2 + 4), .inl (upd fc ((nI (i2 + j3)) : Int32).toNatClampNeg v_73)))] := hD
                          generalize upd fc ((nI (i2 + j3)) : Int32).toNatClampNeg v_73 = f_74 at hP hD
                          refine lv_lload hx hb d_Big_product_159 (lv_at hl 0 rfl) ?_
                          refine lv_bipush (v := 30) hx hb d_Big_product_161 (by decide) ?_
                          obtain ⟨v_75, ev_75⟩ : ∃ z : Int64, ((v_70 : Int64).toUInt64 >>> ((30 : Int32).toInt64.toUInt64 &&& Int64.toUInt64 63)).toInt64 = z := ⟨_, rfl⟩
                          refine lv_lushr (v := v_75) hx hb d_Big_product_163 ev_75 ?_
                          refine lv_lstore (lv' := [(10, .long v_75), (13, .long v_70), (12, .int (nI j3)), (8, .long v_57), (7, .int (nI i2)), (6, .ref q2), (5, .ref q_41), (4, .int (nI k2)), (3, .int (nI k1)), (0, .ref h0), (1, .ref h1), (2, .ref h2)]) hx hb d_Big_product_164 hl (by decide) rfl (fun ls hl => ?_)
                          refine lv_iinc (v := (nI (j3 + 1))) (lv' := [(12, .int (nI (j3 + 1))), (10, .long v_75), (13, .long v_70), (8, .long v_57), (7, .int (nI i2)), (6, .ref q2), (5, .ref q_41), (4, .int (nI k2)), (3, .int (nI k1)), (0, .ref h0), (1, .ref h1), (2, .ref h2)]) hx hb d_Big_product_166 hl (k := 2) rfl (nI_1 j3) (by decide) rfl (fun ls hl => ?_)
                          refine lv_goto (tgt := 114) hx hb d_Big_product_169 (by decide) ?_
                          exact ih_lp_114_57 (j3 + 1) f_74 v_75 (by omega) (by omega) _ _ _ (hP.sub [0, 1, 2, 3, 4, 5, 6] rfl) (hD.sub [0, 1, 2, 3, 4, 5, 6] (by decide) rfl) hS (lv_sub hl [0, 1, 3, 4, 5, 6, 7, 8, 9, 10, 11] rfl)
                    exact lp_114_57 (k2 + 1) 0 fb 0 (by omega) (by omega) _ _ _ hP hD hS (lv_sub hl [0, 1, 2, 3, 4, 5, 6, 7, 8, 9, 10] rfl)
              exact lp_92_44 (k1 + 1) 0 fa (by omega) (by omega) _ _ _ hP hD hS (lv_sub hl [0, 1, 2, 3, 4, 5, 6, 7] rfl)
            · have hb_c_44 : i1 < k2 := Nat.lt_of_not_le (fun h => c_44 ((nI_leI (by omega) (by omega)).mpr h))
              refine lv_aload hx hb d_Big_product_77 (lv_at hl 2 rfl) ?_
              refine lv_iload hx hb d_Big_product_79 (lv_at hl 0 rfl) ?_
              refine lv_iconst (v := 0) hx hb d_Big_product_81 (by decide) ?_
              refine va_iast hx hb hK hP hD hS 6 3 rfl rfl (vp_in_nI (by omega) (by omega)) d_Big_product_82 (fun H locs hP hD hS => ?_)
              have hP : va_P (dC, dI) classes [(h0, .inr (0, [.ref q_41, .int n0, .int s0])), (q0, .inl (cA0, D0, .inl f0)), (h1, .inr (0, [.ref q1, .int (nI k1), .int s1])), (q1, .inl (cA1, D1, .inl f1)), (h2, .inr (0, [.ref q2, .int (nI k2), .int s2])), (q2, .inl (cA2, D2, .inl f2)), (q_41, .inl (cA_42, (k1 + k2 + 4), .inl (upd fa ((nI i1) : Int32).toNatClampNeg 0)))] H := hP
              have hD : va_D A [(h0, .inr (0, [.ref q_41, .int n0, .int s0])), (q0, .inl (cA0, D0, .inl f0)), (h1, .inr (0, [.ref q1, .int (nI k1), .int s1])), (q1, .inl (cA1, D1, .inl f1)), (h2, .inr (0, [.ref q2, .int (nI k2), .int s2])), (q2, .inl (cA2, D2, .inl f2)), (q_41, .inl (cA_42, (k1 + k2 + 4), .inl (upd fa ((nI i1) : Int32).toNatClampNeg 0)))] := hD
              generalize upd fa ((nI i1) : Int32).toNatClampNeg 0 = f_76 at hP hD
              refine lv_iinc (v := (nI (i1 + 1))) (lv' := [(7, .int (nI (i1 + 1))), (6, .ref q2), (5, .ref q_41), (4, .int (nI k2)), (3, .int (nI k1)), (0, .ref h0), (1, .ref h1), (2, .ref h2)]) hx hb d_Big_product_83 hl (k := 0) rfl (nI_1 i1) (by decide) rfl (fun ls hl => ?_)
              refine lv_goto (tgt := 70) hx hb d_Big_product_86 (by decide) ?_
              exact ih_lp_70_42 (i1 + 1) f_76 (by omega) (by omega) _ _ _ (hP.sub [0, 1, 2, 3, 4, 5, 6] rfl) (hD.sub [0, 1, 2, 3, 4, 5, 6] (by decide) rfl) hS (lv_sub hl [0, 1, 2, 3, 4, 5, 6, 7] rfl)
        exact lp_70_42 (k2 + 1) 0 (fun _ => 0) (by omega) (by omega) _ _ _ hP hD hS (lv_sub hl [0, 1, 2, 3, 4, 5, 6, 7] rfl)
    · refine lv_aload_n hx hb d_Big_product_20 rfl (lv_at hl 2 rfl) ?_
      refine lv_iconst (v := 0) hx hb d_Big_product_21 (by decide) ?_
      refine va_put (D := (dC, dI)) (ci := 0) (v := .int 0) (ty := .int) (C := R_Big) (T := F_Big) (N := 3) hx hb hT i_Big t_Big t_Big_ok n_Big hown hK hP hD hS 0 rfl rfl 1 (by decide) (hT _ tw_47) (fun _ h9 => h9) rfl (by decide +kernel) rfl rfl (Nat.le_of_ble_eq_true rfl) d_Big_product_22 (fun H locs hP hD hS => ?_)
      have hP : va_P (dC, dI) classes [(h0, .inr (0, [.ref q0, .int 0, .int s0])), (q0, .inl (cA0, D0, .inl f0)), (h1, .inr (0, [.ref q1, .int (nI k1), .int s1])), (q1, .inl (cA1, D1, .inl f1)), (h2, .inr (0, [.ref q2, .int (nI k2), .int s2])), (q2, .inl (cA2, D2, .inl f2))] H := hP
      have hD : va_D A [(h0, .inr (0, [.ref q0, .int 0, .int s0])), (q0, .inl (cA0, D0, .inl f0)), (h1, .inr (0, [.ref q1, .int (nI k1), .int s1])), (q1, .inl (cA1, D1, .inl f1)), (h2, .inr (0, [.ref q2, .int (nI k2), .int s2])), (q2, .inl (cA2, D2, .inl f2))] := hD
      refine lv_aload_n hx hb d_Big_product_25 rfl (lv_at hl 2 rfl) ?_
      refine lv_iconst (v := 0) hx hb d_Big_product_26 (by decide) ?_
      refine va_put (D := (dC, dI)) (ci := 0) (v := .int 0) (ty := .int) (C := R_Big) (T := F_Big) (N := 3) hx hb hT i_Big t_Big t_Big_ok n_Big hown hK hP hD hS 0 rfl rfl 2 (by decide) (hT _ tw_51) (fun _ h9 => h9) rfl (by decide +kernel) rfl rfl (Nat.le_of_ble_eq_true rfl) d_Big_product_27 (fun H locs hP hD hS => ?_)
      have hP : va_P (dC, dI) classes [(h0, .inr (0, [.ref q0, .int 0, .int 0])), (q0, .inl (cA0, D0, .inl f0)), (h1, .inr (0, [.ref q1, .int (nI k1), .int s1])), (q1, .inl (cA1, D1, .inl f1)), (h2, .inr (0, [.ref q2, .int (nI k2), .int s2])), (q2, .inl (cA2, D2, .inl f2))] H := hP
      have hD : va_D A [(h0, .inr (0, [.ref q0, .int 0, .int 0])), (q0, .inl (cA0, D0, .inl f0)), (h1, .inr (0, [.ref q1, .int (nI k1), .int s1])), (q1, .inl (cA1, D1, .inl f1)), (h2, .inr (0, [.ref q2, .int (nI k2), .int s2])), (q2, .inl (cA2, D2, .inl f2))] := hD
      have hP : va_P (dC, dI) classes [(h0, .inr (0, [.ref q0, .int (nI 0), .int 0])), (q0, .inl (cA0, D0, .inl f0)), (h1, .inr (0, [.ref q1, .int (nI k1), .int s1])), (q1, .inl (cA1, D1, .inl f1)), (h2, .inr (0, [.ref q2, .int (nI k2), .int s2])), (q2, .inl (cA2, D2, .inl f2))] _ := hP
      have hD : va_D A [(h0, .inr (0, [.ref q0, .int (nI 0), .int 0])), (q0, .inl (cA0, D0, .inl f0)), (h1, .inr (0, [.ref q1, .int (nI k1), .int s1])), (q1, .inl (cA1, D1, .inl f1)), (h2, .inr (0, [.ref q2, .int (nI k2), .int s2])), (q2, .inl (cA2, D2, .inl f2))] := hD
      have hP9 := hP.sub (ws' := [(h0, .inr (0, [.ref q0, .int (nI 0), .int 0])), (q0, .inl (cA0, D0, .inl f0)), (h1, .inr (0, [.ref q1, .int (nI k1), .int s1])), (q1, .inl (cA1, D1, .inl f1)), (h2, .inr (0, [.ref q2, .int (nI k2), .int s2])), (q2, .inl (cA2, D2, .inl f2))]) [0, 1, 2, 3, 4, 5] rfl
      have hD9 := hD.sub (ws' := [(h0, .inr (0, [.ref q0, .int (nI 0), .int 0])), (q0, .inl (cA0, D0, .inl f0)), (h1, .inr (0, [.ref q1, .int (nI k1), .int s1])), (q1, .inl (cA1, D1, .inl f1)), (h2, .inr (0, [.ref q2, .int (nI k2), .int s2])), (q2, .inl (cA2, D2, .inl f2))]) [0, 1, 2, 3, 4, 5] (by decide) rfl
      have hK9 := hK.sub (tys' := [(cA0, .int), (cA1, .int), (cA2, .int)]) [0, 1, 2] rfl
      refine W.widen (k := 1) (n := 64) (Nat.le_of_ble_eq_true rfl) (Nat.le_of_ble_eq_true rfl) ?_
      subst hQ
      exact W.vret hx hb hr (fun t ht hW => ⟨⟨(), rfl, trivial, q0, cA0, D0, f0, 0, 0, ⟨by omega, by omega, by omega⟩, by rw [ht]; exact hP9, va_K.moved hW.alike hK9, hD9⟩, hS.F ht⟩) hS.2.2 d_Big_product_30
end
section
theorem tw_512 : (.methodLink "RealHouse$Real" 3 ⟨"java/lang/Object", "<init>", "()V"⟩ : Cond) ∈ lw_g := tb_at (i := 512) (by decide +kernel) rfl
theorem tw_513 : (.classLink "RealHouse$Real" 9 "RealHouse$Big" : Cond) ∈ lw_g := tb_at (i := 513) (by decide +kernel) rfl
theorem tw_39 : (.instantiable "RealHouse$Big" 3 : Cond) ∈ lw_g := tb_at (i := 39) (by decide +kernel) rfl
theorem tw_3 : (.initialized "RealHouse$Big" : Cond) ∈ lw_g := tb_at (i := 3) (by decide +kernel) rfl
theorem tw_41 : (.instanceMethod ⟨"RealHouse$Big", "<init>", "()V"⟩ : Cond) ∈ lw_g := tb_at (i := 41) (by decide +kernel) rfl
theorem tw_523 : (.fieldLink "RealHouse$Real" 12 "RealHouse$Real" "c" "LRealHouse$Big;" : Cond) ∈ lw_g := tb_at (i := 523) (by decide +kernel) rfl
theorem tw_517 : (.fieldLink "RealHouse$Real" 18 "RealHouse$Real" "desk" "LRealHouse$Desk;" : Cond) ∈ lw_g := tb_at (i := 517) (by decide +kernel) rfl
theorem tw_515 : (.classLink "RealHouse$Real" 22 "RealHouse$Poly" : Cond) ∈ lw_g := tb_at (i := 515) (by decide +kernel) rfl
theorem tw_190 : (.instantiable "RealHouse$Poly" 3 : Cond) ∈ lw_g := tb_at (i := 190) (by decide +kernel) rfl
theorem tw_8 : (.initialized "RealHouse$Poly" : Cond) ∈ lw_g := tb_at (i := 8) (by decide +kernel) rfl
theorem tw_516 : (.methodLink "RealHouse$Real" 24 ⟨"RealHouse$Poly", "<init>", "(LRealHouse$Desk;)V"⟩ : Cond) ∈ lw_g := tb_at (i := 516) (by decide +kernel) rfl
theorem tw_192 : (.instanceMethod ⟨"RealHouse$Poly", "<init>", "(LRealHouse$Desk;)V"⟩ : Cond) ∈ lw_g := tb_at (i := 192) (by decide +kernel) rfl
theorem tw_520 : (.fieldLink "RealHouse$Real" 27 "RealHouse$Real" "m" "LRealHouse$Poly;" : Cond) ∈ lw_g := tb_at (i := 520) (by decide +kernel) rfl
theorem tw_417 : (.methodLink "RealHouse$Minors" 1 ⟨"java/lang/Object", "<init>", "()V"⟩ : Cond) ∈ lw_g := tb_at (i := 417) (by decide +kernel) rfl
theorem tw_418 : (.classLink "RealHouse$Minors" 9 "RealHouse$Poly" : Cond) ∈ lw_g := tb_at (i := 418) (by decide +kernel) rfl
theorem tw_420 : (.fieldLink "RealHouse$Minors" 11 "RealHouse$Minors" "place" "[LRealHouse$Poly;" : Cond) ∈ lw_g := tb_at (i := 420) (by decide +kernel) rfl
theorem tw_421 : (.fieldLink "RealHouse$Minors" 15 "RealHouse$Minors" "minor" "[LRealHouse$Poly;" : Cond) ∈ lw_g := tb_at (i := 421) (by decide +kernel) rfl
theorem tw_419 : (.fieldLink "RealHouse$Minors" 18 "RealHouse$Minors" "desk" "LRealHouse$Desk;" : Cond) ∈ lw_g := tb_at (i := 419) (by decide +kernel) rfl
theorem tw_188 : (.methodLink "RealHouse$Curve" 1 ⟨"java/lang/Object", "<init>", "()V"⟩ : Cond) ∈ lw_g := tb_at (i := 188) (by decide +kernel) rfl
theorem tw_189 : (.classLink "RealHouse$Curve" 7 "RealHouse$Poly" : Cond) ∈ lw_g := tb_at (i := 189) (by decide +kernel) rfl
theorem tw_224 : (.fieldLink "RealHouse$Curve" 9 "RealHouse$Curve" "c" "[LRealHouse$Poly;" : Cond) ∈ lw_g := tb_at (i := 224) (by decide +kernel) rfl
theorem tw_191 : (.methodLink "RealHouse$Curve" 15 ⟨"RealHouse$Poly", "<init>", "(LRealHouse$Desk;)V"⟩ : Cond) ∈ lw_g := tb_at (i := 191) (by decide +kernel) rfl
abbrev b_Real_init : ByteArray := prog_11_method_1_code
def y_Real_init : MethodName := ⟨"RealHouse$Real", "<init>", "(LRealHouse$Desk;)V"⟩
abbrev w_Real_init : List Cond := .code y_Real_init b_Real_init 2 none :: lw_g
theorem g_Real_init : GoodIn lw_g w_Real_init := tb_good1 (tb_at (i := 511) (by decide +kernel) rfl)
theorem d_Real_init_0 : decode b_Real_init 0 = .ok (.aload_n 0, 1) := by decide +kernel
theorem d_Real_init_1 : decode b_Real_init 1 = .ok (.invokespecial 3, 3) := by decide +kernel
theorem d_Real_init_4 : decode b_Real_init 4 = .ok (.aload_n 0, 1) := by decide +kernel
theorem d_Real_init_5 : decode b_Real_init 5 = .ok (.new 9, 3) := by decide +kernel
theorem d_Real_init_8 : decode b_Real_init 8 = .ok (.dup, 1) := by decide +kernel
theorem d_Real_init_9 : decode b_Real_init 9 = .ok (.invokespecial 11, 3) := by decide +kernel
theorem d_Real_init_12 : decode b_Real_init 12 = .ok (.putfield 12, 3) := by decide +kernel
theorem d_Real_init_15 : decode b_Real_init 15 = .ok (.aload_n 0, 1) := by decide +kernel
theorem d_Real_init_16 : decode b_Real_init 16 = .ok (.aload_n 1, 1) := by decide +kernel
theorem d_Real_init_17 : decode b_Real_init 17 = .ok (.putfield 18, 3) := by decide +kernel
theorem d_Real_init_20 : decode b_Real_init 20 = .ok (.aload_n 0, 1) := by decide +kernel
theorem d_Real_init_21 : decode b_Real_init 21 = .ok (.new 22, 3) := by decide +kernel
theorem d_Real_init_24 : decode b_Real_init 24 = .ok (.dup, 1) := by decide +kernel
theorem d_Real_init_25 : decode b_Real_init 25 = .ok (.aload_n 1, 1) := by decide +kernel
theorem d_Real_init_26 : decode b_Real_init 26 = .ok (.invokespecial 24, 3) := by decide +kernel
theorem d_Real_init_29 : decode b_Real_init 29 = .ok (.putfield 27, 3) := by decide +kernel
theorem d_Real_init_32 : decode b_Real_init 32 = .ok (.return_, 1) := by decide +kernel
abbrev b_Minors_init : ByteArray := prog_7_method_1_code
def y_Minors_init : MethodName := ⟨"RealHouse$Minors", "<init>", "(LRealHouse$Desk;)V"⟩
abbrev w_Minors_init : List Cond := .code y_Minors_init b_Minors_init 2 none :: lw_g
theorem g_Minors_init : GoodIn lw_g w_Minors_init := tb_good1 (tb_at (i := 416) (by decide +kernel) rfl)
theorem d_Minors_init_0 : decode b_Minors_init 0 = .ok (.aload_n 0, 1) := by decide +kernel
theorem d_Minors_init_1 : decode b_Minors_init 1 = .ok (.invokespecial 1, 3) := by decide +kernel
theorem d_Minors_init_4 : decode b_Minors_init 4 = .ok (.aload_n 0, 1) := by decide +kernel
theorem d_Minors_init_5 : decode b_Minors_init 5 = .ok (.bipush 81, 2) := by decide +kernel
theorem d_Minors_init_7 : decode b_Minors_init 7 = .ok (.anewarray 9, 3) := by decide +kernel
theorem d_Minors_init_10 : decode b_Minors_init 10 = .ok (.putfield 11, 3) := by decide +kernel
theorem d_Minors_init_13 : decode b_Minors_init 13 = .ok (.aload_n 0, 1) := by decide +kernel
theorem d_Minors_init_14 : decode b_Minors_init 14 = .ok (.sipush 512, 3) := by decide +kernel
theorem d_Minors_init_17 : decode b_Minors_init 17 = .ok (.anewarray 9, 3) := by decide +kernel
theorem d_Minors_init_20 : decode b_Minors_init 20 = .ok (.putfield 15, 3) := by decide +kernel
theorem d_Minors_init_23 : decode b_Minors_init 23 = .ok (.aload_n 0, 1) := by decide +kernel
theorem d_Minors_init_24 : decode b_Minors_init 24 = .ok (.aload_n 1, 1) := by decide +kernel
theorem d_Minors_init_25 : decode b_Minors_init 25 = .ok (.putfield 18, 3) := by decide +kernel
theorem d_Minors_init_28 : decode b_Minors_init 28 = .ok (.return_, 1) := by decide +kernel
abbrev b_Curve_init : ByteArray := prog_4_method_1_code
def y_Curve_init : MethodName := ⟨"RealHouse$Curve", "<init>", "(LRealHouse$Desk;I)V"⟩
abbrev w_Curve_init : List Cond := .code y_Curve_init b_Curve_init 4 none :: lw_g
theorem g_Curve_init : GoodIn lw_g w_Curve_init := tb_good1 (tb_at (i := 187) (by decide +kernel) rfl)
theorem d_Curve_init_0 : decode b_Curve_init 0 = .ok (.aload_n 0, 1) := by decide +kernel
theorem d_Curve_init_1 : decode b_Curve_init 1 = .ok (.invokespecial 1, 3) := by decide +kernel
theorem d_Curve_init_4 : decode b_Curve_init 4 = .ok (.aload_n 0, 1) := by decide +kernel
theorem d_Curve_init_5 : decode b_Curve_init 5 = .ok (.iload_n 2, 1) := by decide +kernel
theorem d_Curve_init_6 : decode b_Curve_init 6 = .ok (.anewarray 7, 3) := by decide +kernel
theorem d_Curve_init_9 : decode b_Curve_init 9 = .ok (.putfield 9, 3) := by decide +kernel
theorem d_Curve_init_12 : decode b_Curve_init 12 = .ok (.iconst 0, 1) := by decide +kernel
theorem d_Curve_init_13 : decode b_Curve_init 13 = .ok (.istore_n 3, 1) := by decide +kernel
theorem d_Curve_init_14 : decode b_Curve_init 14 = .ok (.iload_n 3, 1) := by decide +kernel
theorem d_Curve_init_15 : decode b_Curve_init 15 = .ok (.iload_n 2, 1) := by decide +kernel
theorem d_Curve_init_16 : decode b_Curve_init 16 = .ok (.if_icmp .ge 23, 3) := by decide +kernel
theorem d_Curve_init_19 : decode b_Curve_init 19 = .ok (.aload_n 0, 1) := by decide +kernel
theorem d_Curve_init_20 : decode b_Curve_init 20 = .ok (.getfield 9, 3) := by decide +kernel
theorem d_Curve_init_23 : decode b_Curve_init 23 = .ok (.iload_n 3, 1) := by decide +kernel
theorem d_Curve_init_24 : decode b_Curve_init 24 = .ok (.new 7, 3) := by decide +kernel
theorem d_Curve_init_27 : decode b_Curve_init 27 = .ok (.dup, 1) := by decide +kernel
theorem d_Curve_init_28 : decode b_Curve_init 28 = .ok (.aload_n 1, 1) := by decide +kernel
theorem d_Curve_init_29 : decode b_Curve_init 29 = .ok (.invokespecial 15, 3) := by decide +kernel
theorem d_Curve_init_32 : decode b_Curve_init 32 = .ok (.aastore, 1) := by decide +kernel
theorem d_Curve_init_33 : decode b_Curve_init 33 = .ok (.iinc 3 1, 3) := by decide +kernel
theorem d_Curve_init_36 : decode b_Curve_init 36 = .ok (.goto (-22), 3) := by decide +kernel
theorem d_Curve_init_39 : decode b_Curve_init 39 = .ok (.return_, 1) := by decide +kernel
set_option maxHeartbeats 4000000 in
set_option maxRecDepth 100000 in
/-- Real(desk) -/
theorem c_Real_init (l : Launch) (dC : Nat → ClassId) (dI : Nat → Nat → Nat) (sz : Nat) (h0 : Nat) (dk : Nat)  : Met l y_Real_init w_Real_init ({ frames := 2, cells := 4, slots := 12, locals := 33 }) (va_Pc [.ref h0, .ref dk] (fun U => U.heap.size = sz ∧ va_P (dC, dI) classes [(h0, .inr (9, [.null, .null, .null, .int 0, .int 0, .int 0]))] U.heap ∧ va_K (dC, dI) classes [] U ∧ va_D (fun _ => True) [(h0, .inr (9, [.null, .null, .null, .int 0, .int 0, .int 0]))] ∧ nx_K U)) (va_Qv (fun _ : Unit => True) (fun _ t => ∃ (x_m : Nat), ∃ (x_c : Nat), va_P (dC, dI) classes [(h0, .inr (9, [.ref dk, .ref x_m, .ref x_c, .int 0, .int 0, .int 0]))] t.heap ∧ va_K (dC, dI) classes [] t ∧ va_D (va_A [(h0, .inr (9, [.null, .null, .null, .int 0, .int 0, .int 0]))] sz) [(h0, .inr (9, [.ref dk, .ref x_m, .ref x_c, .int 0, .int 0, .int 0]))]) (va_A [(h0, .inr (9, [.null, .null, .null, .int 0, .int 0, .int 0]))] sz)) 4 12 (va_A [(h0, .inr (9, [.null, .null, .null, .int 0, .int 0, .int 0]))] sz) := by
  refine Met.ofW (cc := b_Real_init) (maxL := 2) (ret := none) (by decide) rfl ?_
  intro p e s m args below meth c s₁ B hml hv
  obtain ⟨rfl, hsz, hP, hK, hD0, hN⟩ := hv
  have hx := B.exec
  have hb := B.bytes
  have hr := B.returns
  have hT : ∀ w ∈ lw_g, w.before _ s = true := fun w h => atoms_spec (ws := w_Real_init) B.pre w (List.mem_cons_of_mem _ h)
  have hown : s.vm.findClass R_Real = some m.cls := findClass_of_methodNamed B.named
  have hlocks := B.notSynchronized
  have hin : meth.name = "<init>" := (name_of_methodNamed B.named B.method).1
  subst hsz
  have hD := hD0.self (sz := s.heap.size)
  generalize hAe : va_A [(h0, .inr (9, [.null, .null, .null, .int 0, .int 0, .int 0]))] s.heap.size = A at hD ⊢
  have hA : ∀ q : Nat, s.heap.size ≤ q → A q := fun q h => by rw [← hAe]; exact Or.inr h
  have hS : va_S A s.heap s.heap [] := va_S.rf
  have hP : va_P (dC, dI) classes [(h0, .inr (9, [.null, .null, .null, .int 0, .int 0, .int 0]))] s.heap := hP
  have hl := lv_entry ([.ref h0, .ref dk]) (n := 2) (Nat.le_of_ble_eq_true rfl)
  rw [lg_entry_eq]
  generalize (lg_sl ([.ref h0, .ref dk]) ++ List.replicate (2 - (lg_sl ([.ref h0, .ref dk])).length) Slot.unset).toArray = ls at hl ⊢
  have hl : lv_has ls 2 [(0, .ref h0), (1, .ref dk)] := hl
  refine lv_aload_n hx hb d_Real_init_0 rfl (lv_at hl 0 rfl) ?_
  refine W.objInit hx hb hown (hT _ tw_512) (hT _ tw_24) (hT _ tw_25) rfl (by rw [hml]; exact hl.1) rfl d_Real_init_1 (Nat.le_of_ble_eq_true rfl) (Nat.le_of_ble_eq_true rfl) ?_
  refine W.eq (g2 := F0 m 4 ls []) rfl ?_
  refine lv_aload_n hx hb d_Real_init_4 rfl (lv_at hl 0 rfl) ?_
  refine va_new (ci := 0) (fs := [.null, .int 0, .int 0]) (C := R_Big) (T := F_Big) (N := 3) hx hb hT i_Big t_Big t_Big_ok hown (hT _ tw_513) (hT _ tw_39) (hT _ tw_3) hK hP hD hS hA rfl (by decide) (Nat.le_of_ble_eq_true rfl) (Nat.le_of_ble_eq_true rfl) d_Real_init_5 (fun q_1 H hP hD hS => ?_)
  have hP : va_P (dC, dI) classes [(h0, .inr (9, [.null, .null, .null, .int 0, .int 0, .int 0])), (q_1, .inr (0, [.null, .int 0, .int 0]))] H := hP
  have hD : va_D A [(h0, .inr (9, [.null, .null, .null, .int 0, .int 0, .int 0])), (q_1, .inr (0, [.null, .int 0, .int 0]))] := hD
  refine W.widen (k := 1) (n := 3) (Nat.le_of_ble_eq_true rfl) (Nat.le_of_ble_eq_true rfl) ?_
  refine lv_dup hx hb d_Real_init_8 rfl ?_
  have hPc := hP.sub (ws' := [(q_1, .inr (0, [.null, .int 0, .int 0]))]) [1] rfl
  have hDc := hD.sub (ws' := [(q_1, .inr (0, [.null, .int 0, .int 0]))]) [1] (by decide) rfl
  have hKc := hK.sub (tys' := []) [] rfl
  have hFc := va_free (wc := [(q_1, .inr (0, [.null, .int 0, .int 0]))]) hD hS hA [1] rfl
  refine va_callv (va_runIN (As := []) (rest := [.ref q_1, .ref h0]) ⟨hx, hb, hml, hown, hT⟩ (c_Big_init l dC dI H.size q_1 ) ⟨va_cnB 0 hT g_Big_init rfl rfl rfl hN.2.2.2.2.2.2.2.2.2.2.1 (hT _ tw_3) (by decide +kernel) ⟨Nat.le_of_ble_eq_true rfl, Nat.le_of_ble_eq_true rfl⟩, rfl, hT _ tw_41⟩ ⟨fun a U g mk q => by obtain ⟨q0, q1, qP, qK, qD, qN⟩ := q; exact ⟨q0, q1, qP, va_K.moved (u := U) (U := U.calling g mk a) (Vm.Alike.refl U.vm) qK, qD, nx_K.same (u := U) (U := U.calling g mk a) rfl qN⟩, fun U hU hW => ⟨rfl, by rw [hU], by rw [hU]; exact hPc, va_K.moved hW.alike hKc, hDc.weaken (fun _ _ _ _ => trivial), nx_K.warm hW hN⟩⟩ rfl rfl hl.1 rfl (lv_room (Nat.le_of_ble_eq_true rfl)) d_Real_init_9 ⟨Nat.le_of_ble_eq_true rfl, Nat.le_of_ble_eq_true rfl⟩) hS (fun q _ h => hFc q h) hFc (fun u t H1 locs ht hvm hw hB hz1 hk1 hS => ?_)
  obtain ⟨q1_2, cA1_3, f1_4, hP1, hK1, hD1⟩ := hB
  rw [ht] at hP1
  have hK1 := va_K.moved hvm.symm hK1
  obtain ⟨hP, hD⟩ := va_join (wr := [(h0, .inr (9, [.null, .null, .null, .int 0, .int 0, .int 0]))]) (w1 := [(q_1, .inr (0, [.ref q1_2, .int 0, .int 0])), (q1_2, .inl (cA1_3, 6, .inl f1_4))]) hP hD [1] [0] rfl rfl (by decide) (by decide) hk1 hFc hP1 hD1
  have hK := (hK.sub (tys' := []) [] rfl).app hK1
  generalize H1 = H at hP hS ⊢
  have hP : va_P (dC, dI) classes [(h0, .inr (9, [.null, .null, .null, .int 0, .int 0, .int 0])), (q_1, .inr (0, [.ref q1_2, .int 0, .int 0])), (q1_2, .inl (cA1_3, 6, .inl f1_4))] H := hP
  have hD : va_D A [(h0, .inr (9, [.null, .null, .null, .int 0, .int 0, .int 0])), (q_1, .inr (0, [.ref q1_2, .int 0, .int 0])), (q1_2, .inl (cA1_3, 6, .inl f1_4))] := hD
  have hK : va_K (dC, dI) classes [(cA1_3, .int)] s := hK
  refine W.widen (k := 2) (n := 9) (Nat.le_of_ble_eq_true rfl) (Nat.le_of_ble_eq_true rfl) ?_
  refine va_putF (D := (dC, dI)) (ci := 9) (v := .ref q_1) (ty := .object "RealHouse$Big") (C := R_Real) (T := F_Real) (N := 6) hx hb hT i_Real t_Real t_Real_ok n_Real hown hK hP hD hS 0 rfl rfl 2 (by decide) (hT _ tw_523) (fun _ h9 => h9) rfl hin rfl (by decide +kernel) rfl rfl (Nat.le_of_ble_eq_true rfl) d_Real_init_12 (fun H locs hP hD hS => ?_)
  have hP : va_P (dC, dI) classes [(h0, .inr (9, [.null, .null, .ref q_1, .int 0, .int 0, .int 0])), (q_1, .inr (0, [.ref q1_2, .int 0, .int 0])), (q1_2, .inl (cA1_3, 6, .inl f1_4))] H := hP
  have hD : va_D A [(h0, .inr (9, [.null, .null, .ref q_1, .int 0, .int 0, .int 0])), (q_1, .inr (0, [.ref q1_2, .int 0, .int 0])), (q1_2, .inl (cA1_3, 6, .inl f1_4))] := hD
  have hP := hP.sub (ws' := [(h0, .inr (9, [.null, .null, .ref q_1, .int 0, .int 0, .int 0]))]) [0] rfl
  have hD := hD.sub (ws' := [(h0, .inr (9, [.null, .null, .ref q_1, .int 0, .int 0, .int 0]))]) [0] (by decide) rfl
  have hK := hK.sub (tys' := []) [] rfl
  refine lv_aload_n hx hb d_Real_init_15 rfl (lv_at hl 0 rfl) ?_
  refine lv_aload_n hx hb d_Real_init_16 rfl (lv_at hl 1 rfl) ?_
  refine va_putF (D := (dC, dI)) (ci := 9) (v := .ref dk) (ty := .object "RealHouse$Desk") (C := R_Real) (T := F_Real) (N := 6) hx hb hT i_Real t_Real t_Real_ok n_Real hown hK hP hD hS 0 rfl rfl 0 (by decide) (hT _ tw_517) (fun _ h9 => h9) rfl hin rfl (by decide +kernel) rfl rfl (Nat.le_of_ble_eq_true rfl) d_Real_init_17 (fun H locs hP hD hS => ?_)
  have hP : va_P (dC, dI) classes [(h0, .inr (9, [.ref dk, .null, .ref q_1, .int 0, .int 0, .int 0]))] H := hP
  have hD : va_D A [(h0, .inr (9, [.ref dk, .null, .ref q_1, .int 0, .int 0, .int 0]))] := hD
  refine lv_aload_n hx hb d_Real_init_20 rfl (lv_at hl 0 rfl) ?_
  refine va_new (ci := 6) (fs := [.null, .null, .int 0]) (C := R_Poly) (T := F_Poly) (N := 3) hx hb hT i_Poly t_Poly t_Poly_ok hown (hT _ tw_515) (hT _ tw_190) (hT _ tw_8) hK hP hD hS hA rfl (by decide) (Nat.le_of_ble_eq_true rfl) (Nat.le_of_ble_eq_true rfl) d_Real_init_21 (fun q_5 H hP hD hS => ?_)
  have hP : va_P (dC, dI) classes [(h0, .inr (9, [.ref dk, .null, .ref q_1, .int 0, .int 0, .int 0])), (q_5, .inr (6, [.null, .null, .int 0]))] H := hP
  have hD : va_D A [(h0, .inr (9, [.ref dk, .null, .ref q_1, .int 0, .int 0, .int 0])), (q_5, .inr (6, [.null, .null, .int 0]))] := hD
  refine W.widen (k := 3) (n := 12) (Nat.le_of_ble_eq_true rfl) (Nat.le_of_ble_eq_true rfl) ?_
  refine lv_dup hx hb d_Real_init_24 rfl ?_
  refine lv_aload_n hx hb d_Real_init_25 rfl (lv_at hl 1 rfl) ?_
  have hPc := hP.sub (ws' := [(q_5, .inr (6, [.null, .null, .int 0]))]) [1] rfl
  have hDc := hD.sub (ws' := [(q_5, .inr (6, [.null, .null, .int 0]))]) [1] (by decide) rfl
  have hKc := hK.sub (tys' := []) [] rfl
  have hFc := va_free (wc := [(q_5, .inr (6, [.null, .null, .int 0]))]) hD hS hA [1] rfl
  refine va_callv (va_runI (As := [.ref dk]) (rest := [.ref q_5, .ref h0]) ⟨hx, hb, hml, hown, hT⟩ (c_Poly_init l dC dI H.size q_5 dk ) (cwI 1 hT g_Poly_init rfl rfl rfl (hT _ tw_8) (hT _ tw_516) (hT _ tw_192) rfl (by decide +kernel) ⟨Nat.le_of_ble_eq_true rfl, Nat.le_of_ble_eq_true rfl⟩) ⟨fun a U g mk q => by obtain ⟨q0, q1, qP, qK, qD, qN⟩ := q; exact ⟨q0, q1, qP, va_K.moved (u := U) (U := U.calling g mk a) (Vm.Alike.refl U.vm) qK, qD, nx_K.same (u := U) (U := U.calling g mk a) rfl qN⟩, fun U hU hW => ⟨rfl, by rw [hU], by rw [hU]; exact hPc, va_K.moved hW.alike hKc, hDc.weaken (fun _ _ _ _ => trivial), nx_K.warm hW hN⟩⟩ rfl rfl hl.1 rfl (lv_room (Nat.le_of_ble_eq_true rfl)) d_Real_init_26 ⟨Nat.le_of_ble_eq_true rfl, Nat.le_of_ble_eq_true rfl⟩) hS (fun q _ h => hFc q h) hFc (fun u t H1 locs ht hvm hw hB hz1 hk1 hS => ?_)
  obtain ⟨q1_6, hP1, hK1, hD1⟩ := hB
  rw [ht] at hP1
  have hK1 := va_K.moved hvm.symm hK1
  obtain ⟨hP, hD⟩ := va_join (wr := [(h0, .inr (9, [.ref dk, .null, .ref q_1, .int 0, .int 0, .int 0]))]) (w1 := [(q_5, .inr (6, [.ref dk, .ref q1_6, .int 0]))]) hP hD [1] [0] rfl rfl (by decide) (by decide) hk1 hFc hP1 hD1
  have hK := (hK.sub (tys' := []) [] rfl).app hK1
  generalize H1 = H at hP hS ⊢
  have hP : va_P (dC, dI) classes [(h0, .inr (9, [.ref dk, .null, .ref q_1, .int 0, .int 0, .int 0])), (q_5, .inr (6, [.ref dk, .ref q1_6, .int 0]))] H := hP
  have hD : va_D A [(h0, .inr (9, [.ref dk, .null, .ref q_1, .int 0, .int 0, .int 0])), (q_5, .inr (6, [.ref dk, .ref q1_6, .int 0]))] := hD
  have hK : va_K (dC, dI) classes [] s := hK
  refine W.widen (k := 4) (n := 12) (Nat.le_of_ble_eq_true rfl) (Nat.le_of_ble_eq_true rfl) ?_
  refine va_putF (D := (dC, dI)) (ci := 9) (v := .ref q_5) (ty := .object "RealHouse$Poly") (C := R_Real) (T := F_Real) (N := 6) hx hb hT i_Real t_Real t_Real_ok n_Real hown hK hP hD hS 0 rfl rfl 1 (by decide) (hT _ tw_520) (fun _ h9 => h9) rfl hin rfl (by decide +kernel) rfl rfl (Nat.le_of_ble_eq_true rfl) d_Real_init_29 (fun H locs hP hD hS => ?_)
  have hP : va_P (dC, dI) classes [(h0, .inr (9, [.ref dk, .ref q_5, .ref q_1, .int 0, .int 0, .int 0])), (q_5, .inr (6, [.ref dk, .ref q1_6, .int 0]))] H := hP
  have hD : va_D A [(h0, .inr (9, [.ref dk, .ref q_5, .ref q_1, .int 0, .int 0, .int 0])), (q_5, .inr (6, [.ref dk, .ref q1_6, .int 0]))] := hD
  have hP := hP.sub (ws' := [(h0, .inr (9, [.ref dk, .ref q_5, .ref q_1, .int 0, .int 0, .int 0]))]) [0] rfl
  have hD := hD.sub (ws' := [(h0, .inr (9, [.ref dk, .ref q_5, .ref q_1, .int 0, .int 0, .int 0]))]) [0] (by decide) rfl
  have hP9 := hP.sub (ws' := [(h0, .inr (9, [.ref dk, .ref q_5, .ref q_1, .int 0, .int 0, .int 0]))]) [0] rfl
  have hD9 := hD.sub (ws' := [(h0, .inr (9, [.ref dk, .ref q_5, .ref q_1, .int 0, .int 0, .int 0]))]) [0] (by decide) rfl
  have hK9 := hK.sub (tys' := []) [] rfl
  exact W.vret hx hb hr (fun t ht hW => ⟨⟨(), rfl, trivial, q_5, q_1, by rw [ht]; exact hP9, va_K.moved hW.alike hK9, hD9⟩, hS.F ht⟩) hS.2.2 d_Real_init_32

set_option maxHeartbeats 4000000 in
set_option maxRecDepth 100000 in
/-- Minors(desk) -/
theorem c_Minors_init (l : Launch) (dC : Nat → ClassId) (dI : Nat → Nat → Nat) (sz : Nat) (h0 : Nat) (dk : Nat)  : Met l y_Minors_init w_Minors_init ({ frames := 1, cells := 2, slots := 593, locals := 12 }) (va_Pc [.ref h0, .ref dk] (fun U => U.heap.size = sz ∧ va_P (dC, dI) classes [(h0, .inr (5, [.null, .null, .null]))] U.heap ∧ va_K (dC, dI) classes [] U ∧ va_D (fun _ => True) [(h0, .inr (5, [.null, .null, .null]))] ∧ nx_K U)) (va_Qv (fun _ : Unit => True) (fun _ t => ∃ (x_place : Nat), ∃ (x_minor : Nat), va_P (dC, dI) classes [(h0, .inr (5, [.ref dk, .ref x_place, .ref x_minor]))] t.heap ∧ va_K (dC, dI) classes [] t ∧ va_D (va_A [(h0, .inr (5, [.null, .null, .null]))] sz) [(h0, .inr (5, [.ref dk, .ref x_place, .ref x_minor]))]) (va_A [(h0, .inr (5, [.null, .null, .null]))] sz)) 2 593 (va_A [(h0, .inr (5, [.null, .null, .null]))] sz) := by
  refine Met.ofW (cc := b_Minors_init) (maxL := 2) (ret := none) (by decide) rfl ?_
  intro p e s m args below meth c s₁ B hml hv
  obtain ⟨rfl, hsz, hP, hK, hD0, hN⟩ := hv
  have hx := B.exec
  have hb := B.bytes
  have hr := B.returns
  have hT : ∀ w ∈ lw_g, w.before _ s = true := fun w h => atoms_spec (ws := w_Minors_init) B.pre w (List.mem_cons_of_mem _ h)
  have hown : s.vm.findClass R_Minors = some m.cls := findClass_of_methodNamed B.named
  have hlocks := B.notSynchronized
  have hin : meth.name = "<init>" := (name_of_methodNamed B.named B.method).1
  subst hsz
  have hD := hD0.self (sz := s.heap.size)
  generalize hAe : va_A [(h0, .inr (5, [.null, .null, .null]))] s.heap.size = A at hD ⊢
  have hA : ∀ q : Nat, s.heap.size ≤ q → A q := fun q h => by rw [← hAe]; exact Or.inr h
  have hS : va_S A s.heap s.heap [] := va_S.rf
  have hP : va_P (dC, dI) classes [(h0, .inr (5, [.null, .null, .null]))] s.heap := hP
  have hl := lv_entry ([.ref h0, .ref dk]) (n := 2) (Nat.le_of_ble_eq_true rfl)
  rw [lg_entry_eq]
  generalize (lg_sl ([.ref h0, .ref dk]) ++ List.replicate (2 - (lg_sl ([.ref h0, .ref dk])).length) Slot.unset).toArray = ls at hl ⊢
  have hl : lv_has ls 2 [(0, .ref h0), (1, .ref dk)] := hl
  refine lv_aload_n hx hb d_Minors_init_0 rfl (lv_at hl 0 rfl) ?_
  refine W.objInit hx hb hown (hT _ tw_417) (hT _ tw_24) (hT _ tw_25) rfl (by rw [hml]; exact hl.1) rfl d_Minors_init_1 (Nat.le_of_ble_eq_true rfl) (Nat.le_of_ble_eq_true rfl) ?_
  refine W.eq (g2 := F0 m 4 ls []) rfl ?_
  refine lv_aload_n hx hb d_Minors_init_4 rfl (lv_at hl 0 rfl) ?_
  refine lv_bipush (v := 81) hx hb d_Minors_init_5 (by decide) ?_
  refine va_newq hx hb hown (hT _ tw_418) hN.2.2.1 hK hP hD hS hA (by decide) rfl (by decide) (Nat.le_of_ble_eq_true rfl) (Nat.le_of_ble_eq_true rfl) d_Minors_init_7 (fun q_1 cA_2 H hK hP hD hS => ?_)
  have hP : va_P (dC, dI) classes [(h0, .inr (5, [.null, .null, .null])), (q_1, .inl (cA_2, 81, .inr (.inr (.inr (.inr (fun _ => none))))))] H := hP
  have hD : va_D A [(h0, .inr (5, [.null, .null, .null])), (q_1, .inl (cA_2, 81, .inr (.inr (.inr (.inr (fun _ => none))))))] := hD
  have hK : va_K (dC, dI) classes [(cA_2, .object "RealHouse$Poly")] s := hK
  refine W.widen (k := 1) (n := 81) (Nat.le_of_ble_eq_true rfl) (Nat.le_of_ble_eq_true rfl) ?_
  refine va_putF (D := (dC, dI)) (ci := 5) (v := .ref q_1) (ty := .array (.object "RealHouse$Poly")) (C := R_Minors) (T := F_Minors) (N := 3) hx hb hT i_Minors t_Minors t_Minors_ok n_Minors hown hK hP hD hS 0 rfl rfl 1 (by decide) (hT _ tw_420) (fun _ h9 => h9) rfl hin rfl (by decide +kernel) rfl rfl (Nat.le_of_ble_eq_true rfl) d_Minors_init_10 (fun H locs hP hD hS => ?_)
  have hP : va_P (dC, dI) classes [(h0, .inr (5, [.null, .ref q_1, .null])), (q_1, .inl (cA_2, 81, .inr (.inr (.inr (.inr (fun _ => none))))))] H := hP
  have hD : va_D A [(h0, .inr (5, [.null, .ref q_1, .null])), (q_1, .inl (cA_2, 81, .inr (.inr (.inr (.inr (fun _ => none))))))] := hD
  have hP := hP.sub (ws' := [(h0, .inr (5, [.null, .ref q_1, .null]))]) [0] rfl
  have hD := hD.sub (ws' := [(h0, .inr (5, [.null, .ref q_1, .null]))]) [0] (by decide) rfl
  have hK := hK.sub (tys' := []) [] rfl
  refine lv_aload_n hx hb d_Minors_init_13 rfl (lv_at hl 0 rfl) ?_
  refine lv_sipush (v := 512) hx hb d_Minors_init_14 (by decide) ?_
  refine va_newq hx hb hown (hT _ tw_418) hN.2.2.1 hK hP hD hS hA (by decide) rfl (by decide) (Nat.le_of_ble_eq_true rfl) (Nat.le_of_ble_eq_true rfl) d_Minors_init_17 (fun q_3 cA_4 H hK hP hD hS => ?_)
  have hP : va_P (dC, dI) classes [(h0, .inr (5, [.null, .ref q_1, .null])), (q_3, .inl (cA_4, 512, .inr (.inr (.inr (.inr (fun _ => none))))))] H := hP
  have hD : va_D A [(h0, .inr (5, [.null, .ref q_1, .null])), (q_3, .inl (cA_4, 512, .inr (.inr (.inr (.inr (fun _ => none))))))] := hD
  have hK : va_K (dC, dI) classes [(cA_4, .object "RealHouse$Poly")] s := hK
  refine W.widen (k := 2) (n := 593) (Nat.le_of_ble_eq_true rfl) (Nat.le_of_ble_eq_true rfl) ?_
  refine va_putF (D := (dC, dI)) (ci := 5) (v := .ref q_3) (ty := .array (.object "RealHouse$Poly")) (C := R_Minors) (T := F_Minors) (N := 3) hx hb hT i_Minors t_Minors t_Minors_ok n_Minors hown hK hP hD hS 0 rfl rfl 2 (by decide) (hT _ tw_421) (fun _ h9 => h9) rfl hin rfl (by decide +kernel) rfl rfl (Nat.le_of_ble_eq_true rfl) d_Minors_init_20 (fun H locs hP hD hS => ?_)
  have hP : va_P (dC, dI) classes [(h0, .inr (5, [.null, .ref q_1, .ref q_3])), (q_3, .inl (cA_4, 512, .inr (.inr (.inr (.inr (fun _ => none))))))] H := hP
  have hD : va_D A [(h0, .inr (5, [.null, .ref q_1, .ref q_3])), (q_3, .inl (cA_4, 512, .inr (.inr (.inr (.inr (fun _ => none))))))] := hD
  have hP := hP.sub (ws' := [(h0, .inr (5, [.null, .ref q_1, .ref q_3]))]) [0] rfl
  have hD := hD.sub (ws' := [(h0, .inr (5, [.null, .ref q_1, .ref q_3]))]) [0] (by decide) rfl
  have hK := hK.sub (tys' := []) [] rfl
  refine lv_aload_n hx hb d_Minors_init_23 rfl (lv_at hl 0 rfl) ?_
  refine lv_aload_n hx hb d_Minors_init_24 rfl (lv_at hl 1 rfl) ?_
  refine va_putF (D := (dC, dI)) (ci := 5) (v := .ref dk) (ty := .object "RealHouse$Desk") (C := R_Minors) (T := F_Minors) (N := 3) hx hb hT i_Minors t_Minors t_Minors_ok n_Minors hown hK hP hD hS 0 rfl rfl 0 (by decide) (hT _ tw_419) (fun _ h9 => h9) rfl hin rfl (by decide +kernel) rfl rfl (Nat.le_of_ble_eq_true rfl) d_Minors_init_25 (fun H locs hP hD hS => ?_)
  have hP : va_P (dC, dI) classes [(h0, .inr (5, [.ref dk, .ref q_1, .ref q_3]))] H := hP
  have hD : va_D A [(h0, .inr (5, [.ref dk, .ref q_1, .ref q_3]))] := hD
  have hP9 := hP.sub (ws' := [(h0, .inr (5, [.ref dk, .ref q_1, .ref q_3]))]) [0] rfl
  have hD9 := hD.sub (ws' := [(h0, .inr (5, [.ref dk, .ref q_1, .ref q_3]))]) [0] (by decide) rfl
  have hK9 := hK.sub (tys' := []) [] rfl
  exact W.vret hx hb hr (fun t ht hW => ⟨⟨(), rfl, trivial, q_1, q_3, by rw [ht]; exact hP9, va_K.moved hW.alike hK9, hD9⟩, hS.F ht⟩) hS.2.2 d_Minors_init_28

set_option maxHeartbeats 4000000 in
set_option maxRecDepth 100000 in
/-- Curve(desk, 4) -/
theorem c_Curve_init_4 (l : Launch) (dC : Nat → ClassId) (dI : Nat → Nat → Nat) (sz : Nat) (h0 : Nat) (dk : Nat)  : Met l y_Curve_init w_Curve_init ({ frames := 2, cells := 9, slots := 16, locals := 33 }) (va_Pc [.ref h0, .ref dk, .int 4] (fun U => U.heap.size = sz ∧ va_P (dC, dI) classes [(h0, .inr (2, [.null]))] U.heap ∧ va_K (dC, dI) classes [] U ∧ va_D (fun _ => True) [(h0, .inr (2, [.null]))] ∧ nx_K U)) (va_Qv (fun _ : Unit => True) (fun _ t => ∃ (x_c : Nat), va_P (dC, dI) classes [(h0, .inr (2, [.ref x_c]))] t.heap ∧ va_K (dC, dI) classes [] t ∧ va_D (va_A [(h0, .inr (2, [.null]))] sz) [(h0, .inr (2, [.ref x_c]))]) (va_A [(h0, .inr (2, [.null]))] sz)) 9 16 (va_A [(h0, .inr (2, [.null]))] sz) := by
  refine Met.ofW (cc := b_Curve_init) (maxL := 4) (ret := none) (by decide) rfl ?_
  intro p e s m args below meth c s₁ B hml hv
  obtain ⟨rfl, hsz, hP, hK, hD0, hN⟩ := hv
  have hx := B.exec
  have hb := B.bytes
  have hr := B.returns
  have hT : ∀ w ∈ lw_g, w.before _ s = true := fun w h => atoms_spec (ws := w_Curve_init) B.pre w (List.mem_cons_of_mem _ h)
  have hown : s.vm.findClass R_Curve = some m.cls := findClass_of_methodNamed B.named
  have hlocks := B.notSynchronized
  have hin : meth.name = "<init>" := (name_of_methodNamed B.named B.method).1
  subst hsz
  have hD := hD0.self (sz := s.heap.size)
  generalize hAe : va_A [(h0, .inr (2, [.null]))] s.heap.size = A at hD ⊢
  have hA : ∀ q : Nat, s.heap.size ≤ q → A q := fun q h => by rw [← hAe]; exact Or.inr h
  have hS : va_S A s.heap s.heap [] := va_S.rf
  have hP : va_P (dC, dI) classes [(h0, .inr (2, [.null]))] s.heap := hP
  have hl := lv_entry ([.ref h0, .ref dk, .int 4]) (n := 4) (Nat.le_of_ble_eq_true rfl)
  rw [lg_entry_eq]
  generalize (lg_sl ([.ref h0, .ref dk, .int 4]) ++ List.replicate (4 - (lg_sl ([.ref h0, .ref dk, .int 4])).length) Slot.unset).toArray = ls at hl ⊢
  have hl : lv_has ls 4 [(0, .ref h0), (1, .ref dk), (2, .int 4)] := hl
  refine lv_aload_n hx hb d_Curve_init_0 rfl (lv_at hl 0 rfl) ?_
  refine W.objInit hx hb hown (hT _ tw_188) (hT _ tw_24) (hT _ tw_25) rfl (by rw [hml]; exact hl.1) rfl d_Curve_init_1 (Nat.le_of_ble_eq_true rfl) (Nat.le_of_ble_eq_true rfl) ?_
  refine W.eq (g2 := F0 m 4 ls []) rfl ?_
  refine lv_aload_n hx hb d_Curve_init_4 rfl (lv_at hl 0 rfl) ?_
  refine lv_iload_n hx hb d_Curve_init_5 rfl (lv_at hl 2 rfl) ?_
  refine va_newq hx hb hown (hT _ tw_189) hN.2.2.1 hK hP hD hS hA (by decide) rfl (by decide) (Nat.le_of_ble_eq_true rfl) (Nat.le_of_ble_eq_true rfl) d_Curve_init_6 (fun q_1 cA_2 H hK hP hD hS => ?_)
  have hP : va_P (dC, dI) classes [(h0, .inr (2, [.null])), (q_1, .inl (cA_2, 4, .inr (.inr (.inr (.inr (fun _ => none))))))] H := hP
  have hD : va_D A [(h0, .inr (2, [.null])), (q_1, .inl (cA_2, 4, .inr (.inr (.inr (.inr (fun _ => none))))))] := hD
  have hK : va_K (dC, dI) classes [(cA_2, .object "RealHouse$Poly")] s := hK
  refine W.widen (k := 1) (n := 4) (Nat.le_of_ble_eq_true rfl) (Nat.le_of_ble_eq_true rfl) ?_
  refine va_putF (D := (dC, dI)) (ci := 2) (v := .ref q_1) (ty := .array (.object "RealHouse$Poly")) (C := R_Curve) (T := F_Curve) (N := 1) hx hb hT i_Curve t_Curve t_Curve_ok n_Curve hown hK hP hD hS 0 rfl rfl 0 (by decide) (hT _ tw_224) (fun _ h9 => h9) rfl hin rfl (by decide +kernel) rfl rfl (Nat.le_of_ble_eq_true rfl) d_Curve_init_9 (fun H locs hP hD hS => ?_)
  have hP : va_P (dC, dI) classes [(h0, .inr (2, [.ref q_1])), (q_1, .inl (cA_2, 4, .inr (.inr (.inr (.inr (fun _ => none))))))] H := hP
  have hD : va_D A [(h0, .inr (2, [.ref q_1])), (q_1, .inl (cA_2, 4, .inr (.inr (.inr (.inr (fun _ => none))))))] := hD
  refine lv_iconst (v := 0) hx hb d_Curve_init_12 (by decide) ?_
  refine lv_istore_n (lv' := [(3, .int 0), (0, .ref h0), (1, .ref dk), (2, .int 4)]) hx hb d_Curve_init_13 rfl hl (by decide) rfl (fun ls hl => ?_)
  refine lv_iload_n hx hb d_Curve_init_14 rfl (lv_at hl 0 rfl) ?_
  refine lv_iload_n hx hb d_Curve_init_15 rfl (lv_at hl 3 rfl) ?_
  refine lv_icmp_ge (tgt := 39) hx hb d_Curve_init_16 (by decide) (fun c_3 => absurd c_3 (by decide)) (fun c_3 => ?_)
  refine lv_aload_n hx hb d_Curve_init_19 rfl (lv_at hl 1 rfl) ?_
  refine va_get (D := (dC, dI)) (ci := 2) (v := .ref q_1) (C := R_Curve) (T := F_Curve) (N := 1) hx hb hT i_Curve hown hK hP 0 rfl rfl 0 (by decide) (hT _ tw_224) (fun _ h9 => h9) rfl d_Curve_init_20 ?_
  refine lv_iload_n hx hb d_Curve_init_23 rfl (lv_at hl 0 rfl) ?_
  refine va_new (ci := 6) (fs := [.null, .null, .int 0]) (C := R_Poly) (T := F_Poly) (N := 3) hx hb hT i_Poly t_Poly t_Poly_ok hown (hT _ tw_189) (hT _ tw_190) (hT _ tw_8) hK hP hD hS hA rfl (by decide) (Nat.le_of_ble_eq_true rfl) (Nat.le_of_ble_eq_true rfl) d_Curve_init_24 (fun q_4 H hP hD hS => ?_)
  have hP : va_P (dC, dI) classes [(h0, .inr (2, [.ref q_1])), (q_1, .inl (cA_2, 4, .inr (.inr (.inr (.inr (fun _ => none)))))), (q_4, .inr (6, [.null, .null, .int 0]))] H := hP
  have hD : va_D A [(h0, .inr (2, [.ref q_1])), (q_1, .inl (cA_2, 4, .inr (.inr (.inr (.inr (fun _ => none)))))), (q_4, .inr (6, [.null, .null, .int 0]))] := hD
  refine W.widen (k := 2) (n := 7) (Nat.le_of_ble_eq_true rfl) (Nat.le_of_ble_eq_true rfl) ?_
  refine lv_dup hx hb d_Curve_init_27 rfl ?_
  refine lv_aload_n hx hb d_Curve_init_28 rfl (lv_at hl 2 rfl) ?_
  have hPc := hP.sub (ws' := [(q_4, .inr (6, [.null, .null, .int 0]))]) [2] rfl
  have hDc := hD.sub (ws' := [(q_4, .inr (6, [.null, .null, .int 0]))]) [2] (by decide) rfl
  have hKc := hK.sub (tys' := []) [] rfl
  have hFc := va_free (wc := [(q_4, .inr (6, [.null, .null, .int 0]))]) hD hS hA [2] rfl
  refine va_callv (va_runI (As := [.ref dk]) (rest := [.ref q_4, .int 0, .ref q_1]) ⟨hx, hb, hml, hown, hT⟩ (c_Poly_init l dC dI H.size q_4 dk ) (cwI 1 hT g_Poly_init rfl rfl rfl (hT _ tw_8) (hT _ tw_191) (hT _ tw_192) rfl (by decide +kernel) ⟨Nat.le_of_ble_eq_true rfl, Nat.le_of_ble_eq_true rfl⟩) ⟨fun a U g mk q => by obtain ⟨q0, q1, qP, qK, qD, qN⟩ := q; exact ⟨q0, q1, qP, va_K.moved (u := U) (U := U.calling g mk a) (Vm.Alike.refl U.vm) qK, qD, nx_K.same (u := U) (U := U.calling g mk a) rfl qN⟩, fun U hU hW => ⟨rfl, by rw [hU], by rw [hU]; exact hPc, va_K.moved hW.alike hKc, hDc.weaken (fun _ _ _ _ => trivial), nx_K.warm hW hN⟩⟩ rfl rfl hl.1 rfl (lv_room (Nat.le_of_ble_eq_true rfl)) d_Curve_init_29 ⟨Nat.le_of_ble_eq_true rfl, Nat.le_of_ble_eq_true rfl⟩) hS (fun q _ h => hFc q h) hFc (fun u t H1 locs ht hvm hw hB hz1 hk1 hS => ?_)
  obtain ⟨q1_5, hP1, hK1, hD1⟩ := hB
  rw [ht] at hP1
  have hK1 := va_K.moved hvm.symm hK1
  obtain ⟨hP, hD⟩ := va_join (wr := [(h0, .inr (2, [.ref q_1])), (q_1, .inl (cA_2, 4, .inr (.inr (.inr (.inr (fun _ => none))))))]) (w1 := [(q_4, .inr (6, [.ref dk, .ref q1_5, .int 0]))]) hP hD [2] [0, 1] rfl rfl (by decide) (by decide) hk1 hFc hP1 hD1
  have hK := (hK.sub (tys' := [(cA_2, .object "RealHouse$Poly")]) [0] rfl).app hK1
  generalize H1 = H at hP hS ⊢
  have hP : va_P (dC, dI) classes [(h0, .inr (2, [.ref q_1])), (q_1, .inl (cA_2, 4, .inr (.inr (.inr (.inr (fun _ => none)))))), (q_4, .inr (6, [.ref dk, .ref q1_5, .int 0]))] H := hP
  have hD : va_D A [(h0, .inr (2, [.ref q_1])), (q_1, .inl (cA_2, 4, .inr (.inr (.inr (.inr (fun _ => none)))))), (q_4, .inr (6, [.ref dk, .ref q1_5, .int 0]))] := hD
  have hK : va_K (dC, dI) classes [(cA_2, .object "RealHouse$Poly")] s := hK
  refine W.widen (k := 3) (n := 7) (Nat.le_of_ble_eq_true rfl) (Nat.le_of_ble_eq_true rfl) ?_
  refine va_astq (r := (R_Poly, F_Poly, 3)) hx hb hK hP hD hS 1 0 2 6 rfl rfl rfl rfl (vp_in_nI (n := 0) (by decide) (by decide)) d_Curve_init_32 (fun H locs hP hD hS => ?_)
  have hP : va_P (dC, dI) classes [(h0, .inr (2, [.ref q_1])), (q_1, .inl (cA_2, 4, .inr (.inr (.inr (.inr (va_up (fun _ => none) (0 : Int32).toNatClampNeg (some q_4))))))), (q_4, .inr (6, [.ref dk, .ref q1_5, .int 0]))] H := hP
  have hD : va_D A [(h0, .inr (2, [.ref q_1])), (q_1, .inl (cA_2, 4, .inr (.inr (.inr (.inr (va_up (fun _ => none) (0 : Int32).toNatClampNeg (some q_4))))))), (q_4, .inr (6, [.ref dk, .ref q1_5, .int 0]))] := hD
  generalize va_up (fun _ => none) (0 : Int32).toNatClampNeg (some q_4) = f_6 at hP hD
  have hP := hP.sub (ws' := [(h0, .inr (2, [.ref q_1])), (q_1, .inl (cA_2, 4, .inr (.inr (.inr (.inr f_6)))))]) [0, 1] rfl
  have hD := hD.sub (ws' := [(h0, .inr (2, [.ref q_1])), (q_1, .inl (cA_2, 4, .inr (.inr (.inr (.inr f_6)))))]) [0, 1] (by decide) rfl
  refine lv_iinc (v := 1) (lv' := [(3, .int 1), (0, .ref h0), (1, .ref dk), (2, .int 4)]) hx hb d_Curve_init_33 hl (k := 0) rfl (by decide) (by decide) rfl (fun ls hl => ?_)
  refine lv_goto (tgt := 14) hx hb d_Curve_init_36 (by decide) ?_
  refine lv_iload_n hx hb d_Curve_init_14 rfl (lv_at hl 0 rfl) ?_
  refine lv_iload_n hx hb d_Curve_init_15 rfl (lv_at hl 3 rfl) ?_
  refine lv_icmp_ge (tgt := 39) hx hb d_Curve_init_16 (by decide) (fun c_7 => absurd c_7 (by decide)) (fun c_7 => ?_)
  refine lv_aload_n hx hb d_Curve_init_19 rfl (lv_at hl 1 rfl) ?_
  refine va_get (D := (dC, dI)) (ci := 2) (v := .ref q_1) (C := R_Curve) (T := F_Curve) (N := 1) hx hb hT i_Curve hown hK hP 0 rfl rfl 0 (by decide) (hT _ tw_224) (fun _ h9 => h9) rfl d_Curve_init_20 ?_
  refine lv_iload_n hx hb d_Curve_init_23 rfl (lv_at hl 0 rfl) ?_
  refine va_new (ci := 6) (fs := [.null, .null, .int 0]) (C := R_Poly) (T := F_Poly) (N := 3) hx hb hT i_Poly t_Poly t_Poly_ok hown (hT _ tw_189) (hT _ tw_190) (hT _ tw_8) hK hP hD hS hA rfl (by decide) (Nat.le_of_ble_eq_true rfl) (Nat.le_of_ble_eq_true rfl) d_Curve_init_24 (fun q_8 H hP hD hS => ?_)
  have hP : va_P (dC, dI) classes [(h0, .inr (2, [.ref q_1])), (q_1, .inl (cA_2, 4, .inr (.inr (.inr (.inr f_6))))), (q_8, .inr (6, [.null, .null, .int 0]))] H := hP
  have hD : va_D A [(h0, .inr (2, [.ref q_1])), (q_1, .inl (cA_2, 4, .inr (.inr (.inr (.inr f_6))))), (q_8, .inr (6, [.null, .null, .int 0]))] := hD
  refine W.widen (k := 4) (n := 10) (Nat.le_of_ble_eq_true rfl) (Nat.le_of_ble_eq_true rfl) ?_
  refine lv_dup hx hb d_Curve_init_27 rfl ?_
  refine lv_aload_n hx hb d_Curve_init_28 rfl (lv_at hl 2 rfl) ?_
  have hPc := hP.sub (ws' := [(q_8, .inr (6, [.null, .null, .int 0]))]) [2] rfl
  have hDc := hD.sub (ws' := [(q_8, .inr (6, [.null, .null, .int 0]))]) [2] (by decide) rfl
  have hKc := hK.sub (tys' := []) [] rfl
  have hFc := va_free (wc := [(q_8, .inr (6, [.null, .null, .int 0]))]) hD hS hA [2] rfl
  refine va_callv (va_runI (As := [.ref dk]) (rest := [.ref q_8, .int 1, .ref q_1]) ⟨hx, hb, hml, hown, hT⟩ (c_Poly_init l dC dI H.size q_8 dk ) (cwI 1 hT g_Poly_init rfl rfl rfl (hT _ tw_8) (hT _ tw_191) (hT _ tw_192) rfl (by decide +kernel) ⟨Nat.le_of_ble_eq_true rfl, Nat.le_of_ble_eq_true rfl⟩) ⟨fun a U g mk q => by obtain ⟨q0, q1, qP, qK, qD, qN⟩ := q; exact ⟨q0, q1, qP, va_K.moved (u := U) (U := U.calling g mk a) (Vm.Alike.refl U.vm) qK, qD, nx_K.same (u := U) (U := U.calling g mk a) rfl qN⟩, fun U hU hW => ⟨rfl, by rw [hU], by rw [hU]; exact hPc, va_K.moved hW.alike hKc, hDc.weaken (fun _ _ _ _ => trivial), nx_K.warm hW hN⟩⟩ rfl rfl hl.1 rfl (lv_room (Nat.le_of_ble_eq_true rfl)) d_Curve_init_29 ⟨Nat.le_of_ble_eq_true rfl, Nat.le_of_ble_eq_true rfl⟩) hS (fun q _ h => hFc q h) hFc (fun u t H1 locs ht hvm hw hB hz1 hk1 hS => ?_)
  obtain ⟨q1_9, hP1, hK1, hD1⟩ := hB
  rw [ht] at hP1
  have hK1 := va_K.moved hvm.symm hK1
  obtain ⟨hP, hD⟩ := va_join (wr := [(h0, .inr (2, [.ref q_1])), (q_1, .inl (cA_2, 4, .inr (.inr (.inr (.inr f_6)))))]) (w1 := [(q_8, .inr (6, [.ref dk, .ref q1_9, .int 0]))]) hP hD [2] [0, 1] rfl rfl (by decide) (by decide) hk1 hFc hP1 hD1
  have hK := (hK.sub (tys' := [(cA_2, .object "RealHouse$Poly")]) [0] rfl).app hK1
  generalize H1 = H at hP hS ⊢
  have hP : va_P (dC, dI) classes [(h0, .inr (2, [.ref q_1])), (q_1, .inl (cA_2, 4, .inr (.inr (.inr (.inr f_6))))), (q_8, .inr (6, [.ref dk, .ref q1_9, .int 0]))] H := hP
  have hD : va_D A [(h0, .inr (2, [.ref q_1])), (q_1, .inl (cA_2, 4, .inr (.inr (.inr (.inr f_6))))), (q_8, .inr (6, [.ref dk, .ref q1_9, .int 0]))] := hD
  have hK : va_K (dC, dI) classes [(cA_2, .object "RealHouse$Poly")] s := hK
  refine W.widen (k := 5) (n := 10) (Nat.le_of_ble_eq_true rfl) (Nat.le_of_ble_eq_true rfl) ?_
  refine va_astq (r := (R_Poly, F_Poly, 3)) hx hb hK hP hD hS 1 0 2 6 rfl rfl rfl rfl (vp_in_nI (n := 1) (by decide) (by decide)) d_Curve_init_32 (fun H locs hP hD hS => ?_)
  have hP : va_P (dC, dI) classes [(h0, .inr (2, [.ref q_1])), (q_1, .inl (cA_2, 4, .inr (.inr (.inr (.inr (va_up f_6 (1 : Int32).toNatClampNeg (some q_8))))))), (q_8, .inr (6, [.ref dk, .ref q1_9, .int 0]))] H := hP
  have hD : va_D A [(h0, .inr (2, [.ref q_1])), (q_1, .inl (cA_2, 4, .inr (.inr (.inr (.inr (va_up f_6 (1 : Int32).toNatClampNeg (some q_8))))))), (q_8, .inr (6, [.ref dk, .ref q1_9, .int 0]))] := hD
  generalize va_up f_6 (1 : Int32).toNatClampNeg (some q_8) = f_10 at hP hD
  have hP := hP.sub (ws' := [(h0, .inr (2, [.ref q_1])), (q_1, .inl (cA_2, 4, .inr (.inr (.inr (.inr f_10)))))]) [0, 1] rfl
  have hD := hD.sub (ws' := [(h0, .inr (2, [.ref q_1])), (q_1, .inl (cA_2, 4, .inr (.inr (.inr (.inr f_10)))))]) [0, 1] (by decide) rfl
  refine lv_iinc (v := 2) (lv' := [(3, .int 2), (0, .ref h0), (1, .ref dk), (2, .int 4)]) hx hb d_Curve_init_33 hl (k := 0) rfl (by decide) (by decide) rfl (fun ls hl => ?_)
  refine lv_goto (tgt := 14) hx hb d_Curve_init_36 (by decide) ?_
  refine lv_iload_n hx hb d_Curve_init_14 rfl (lv_at hl 0 rfl) ?_
  refine lv_iload_n hx hb d_Curve_init_15 rfl (lv_at hl 3 rfl) ?_
  refine lv_icmp_ge (tgt := 39) hx hb d_Curve_init_16 (by decide) (fun c_11 => absurd c_11 (by decide)) (fun c_11 => ?_)
  refine lv_aload_n hx hb d_Curve_init_19 rfl (lv_at hl 1 rfl) ?_
  refine va_get (D := (dC, dI)) (ci := 2) (v := .ref q_1) (C := R_Curve) (T := F_Curve) (N := 1) hx hb hT i_Curve hown hK hP 0 rfl rfl 0 (by decide) (hT _ tw_224) (fun _ h9 => h9) rfl d_Curve_init_20 ?_
  refine lv_iload_n hx hb d_Curve_init_23 rfl (lv_at hl 0 rfl) ?_
  refine va_new (ci := 6) (fs := [.null, .null, .int 0]) (C := R_Poly) (T := F_Poly) (N := 3) hx hb hT i_Poly t_Poly t_Poly_ok hown (hT _ tw_189) (hT _ tw_190) (hT _ tw_8) hK hP hD hS hA rfl (by decide) (Nat.le_of_ble_eq_true rfl) (Nat.le_of_ble_eq_true rfl) d_Curve_init_24 (fun q_12 H hP hD hS => ?_)
  have hP : va_P (dC, dI) classes [(h0, .inr (2, [.ref q_1])), (q_1, .inl (cA_2, 4, .inr (.inr (.inr (.inr f_10))))), (q_12, .inr (6, [.null, .null, .int 0]))] H := hP
  have hD : va_D A [(h0, .inr (2, [.ref q_1])), (q_1, .inl (cA_2, 4, .inr (.inr (.inr (.inr f_10))))), (q_12, .inr (6, [.null, .null, .int 0]))] := hD
  refine W.widen (k := 6) (n := 13) (Nat.le_of_ble_eq_true rfl) (Nat.le_of_ble_eq_true rfl) ?_
  refine lv_dup hx hb d_Curve_init_27 rfl ?_
  refine lv_aload_n hx hb d_Curve_init_28 rfl (lv_at hl 2 rfl) ?_
  have hPc := hP.sub (ws' := [(q_12, .inr (6, [.null, .null, .int 0]))]) [2] rfl
  have hDc := hD.sub (ws' := [(q_12, .inr (6, [.null, .null, .int 0]))]) [2] (by decide) rfl
  have hKc := hK.sub (tys' := []) [] rfl
  have hFc := va_free (wc := [(q_12, .inr (6, [.null, .null, .int 0]))]) hD hS hA [2] rfl
  refine va_callv (va_runI (As := [.ref dk]) (rest := [.ref q_12, .int 2, .ref q_1]) ⟨hx, hb, hml, hown, hT⟩ (c_Poly_init l dC dI H.size q_12 dk ) (cwI 1 hT g_Poly_init rfl rfl rfl (hT _ tw_8) (hT _ tw_191) (hT _ tw_192) rfl (by decide +kernel) ⟨Nat.le_of_ble_eq_true rfl, Nat.le_of_ble_eq_true rfl⟩) ⟨fun a U g mk q => by obtain ⟨q0, q1, qP, qK, qD, qN⟩ := q; exact ⟨q0, q1, qP, va_K.moved (u := U) (U := U.calling g mk a) (Vm.Alike.refl U.vm) qK, qD, nx_K.same (u := U) (U := U.calling g mk a) rfl qN⟩, fun U hU hW => ⟨rfl, by rw [hU], by rw [hU]; exact hPc, va_K.moved hW.alike hKc, hDc.weaken (fun _ _ _ _ => trivial), nx_K.warm hW hN⟩⟩ rfl rfl hl.1 rfl (lv_room (Nat.le_of_ble_eq_true rfl)) d_Curve_init_29 ⟨Nat.le_of_ble_eq_true rfl, Nat.le_of_ble_eq_true rfl⟩) hS (fun q _ h => hFc q h) hFc (fun u t H1 locs ht hvm hw hB hz1 hk1 hS => ?_)
  obtain ⟨q1_13, hP1, hK1, hD1⟩ := hB
  rw [ht] at hP1
  have hK1 := va_K.moved hvm.symm hK1
  obtain ⟨hP, hD⟩ := va_join (wr := [(h0, .inr (2, [.ref q_1])), (q_1, .inl (cA_2, 4, .inr (.inr (.inr (.inr f_10)))))]) (w1 := [(q_12, .inr (6, [.ref dk, .ref q1_13, .int 0]))]) hP hD [2] [0, 1] rfl rfl (by decide) (by decide) hk1 hFc hP1 hD1
  have hK := (hK.sub (tys' := [(cA_2, .object "RealHouse$Poly")]) [0] rfl).app hK1
  generalize H1 = H at hP hS ⊢
  have hP : va_P (dC, dI) classes [(h0, .inr (2, [.ref q_1])), (q_1, .inl (cA_2, 4, .inr (.inr (.inr (.inr f_10))))), (q_12, .inr (6, [.ref dk, .ref q1_13, .int 0]))] H := hP
  have hD : va_D A [(h0, .inr (2, [.ref q_1])), (q_1, .inl (cA_2, 4, .inr (.inr (.inr (.inr f_10))))), (q_12, .inr (6, [.ref dk, .ref q1_13, .int 0]))] := hD
  have hK : va_K (dC, dI) classes [(cA_2, .object "RealHouse$Poly")] s := hK
  refine W.widen (k := 7) (n := 13) (Nat.le_of_ble_eq_true rfl) (Nat.le_of_ble_eq_true rfl) ?_
  refine va_astq (r := (R_Poly, F_Poly, 3)) hx hb hK hP hD hS 1 0 2 6 rfl rfl rfl rfl (vp_in_nI (n := 2) (by decide) (by decide)) d_Curve_init_32 (fun H locs hP hD hS => ?_)
  have hP : va_P (dC, dI) classes [(h0, .inr (2, [.ref q_1])), (q_1, .inl (cA_2, 4, .inr (.inr (.inr (.inr (va_up f_10 (2 : Int32).toNatClampNeg (some q_12))))))), (q_12, .inr (6, [.ref dk, .ref q1_13, .int 0]))] H := hP
  have hD : va_D A [(h0, .inr (2, [.ref q_1])), (q_1, .inl (cA_2, 4, .inr (.inr (.inr (.inr (va_up f_10 (2 : Int32).toNatClampNeg (some q_12))))))), (q_12, .inr (6, [.ref dk, .ref q1_13, .int 0]))] := hD
  generalize va_up f_10 (2 : Int32).toNatClampNeg (some q_12) = f_14 at hP hD
  have hP := hP.sub (ws' := [(h0, .inr (2, [.ref q_1])), (q_1, .inl (cA_2, 4, .inr (.inr (.inr (.inr f_14)))))]) [0, 1] rfl
  have hD := hD.sub (ws' := [(h0, .inr (2, [.ref q_1])), (q_1, .inl (cA_2, 4, .inr (.inr (.inr (.inr f_14)))))]) [0, 1] (by decide) rfl
  refine lv_iinc (v := 3) (lv' := [(3, .int 3), (0, .ref h0), (1, .ref dk), (2, .int 4)]) hx hb d_Curve_init_33 hl (k := 0) rfl (by decide) (by decide) rfl (fun ls hl => ?_)
  refine lv_goto (tgt := 14) hx hb d_Curve_init_36 (by decide) ?_
  refine lv_iload_n hx hb d_Curve_init_14 rfl (lv_at hl 0 rfl) ?_
  refine lv_iload_n hx hb d_Curve_init_15 rfl (lv_at hl 3 rfl) ?_
  refine lv_icmp_ge (tgt := 39) hx hb d_Curve_init_16 (by decide) (fun c_15 => absurd c_15 (by decide)) (fun c_15 => ?_)
  refine lv_aload_n hx hb d_Curve_init_19 rfl (lv_at hl 1 rfl) ?_
  refine va_get (D := (dC, dI)) (ci := 2) (v := .ref q_1) (C := R_Curve) (T := F_Curve) (N := 1) hx hb hT i_Curve hown hK hP 0 rfl rfl 0 (by decide) (hT _ tw_224) (fun _ h9 => h9) rfl d_Curve_init_20 ?_
  refine lv_iload_n hx hb d_Curve_init_23 rfl (lv_at hl 0 rfl) ?_
  refine va_new (ci := 6) (fs := [.null, .null, .int 0]) (C := R_Poly) (T := F_Poly) (N := 3) hx hb hT i_Poly t_Poly t_Poly_ok hown (hT _ tw_189) (hT _ tw_190) (hT _ tw_8) hK hP hD hS hA rfl (by decide) (Nat.le_of_ble_eq_true rfl) (Nat.le_of_ble_eq_true rfl) d_Curve_init_24 (fun q_16 H hP hD hS => ?_)
  have hP : va_P (dC, dI) classes [(h0, .inr (2, [.ref q_1])), (q_1, .inl (cA_2, 4, .inr (.inr (.inr (.inr f_14))))), (q_16, .inr (6, [.null, .null, .int 0]))] H := hP
  have hD : va_D A [(h0, .inr (2, [.ref q_1])), (q_1, .inl (cA_2, 4, .inr (.inr (.inr (.inr f_14))))), (q_16, .inr (6, [.null, .null, .int 0]))] := hD
  refine W.widen (k := 8) (n := 16) (Nat.le_of_ble_eq_true rfl) (Nat.le_of_ble_eq_true rfl) ?_
  refine lv_dup hx hb d_Curve_init_27 rfl ?_
  refine lv_aload_n hx hb d_Curve_init_28 rfl (lv_at hl 2 rfl) ?_
  have hPc := hP.sub (ws' := [(q_16, .inr (6, [.null, .null, .int 0]))]) [2] rfl
  have hDc := hD.sub (ws' := [(q_16, .inr (6, [.null, .null, .int 0]))]) [2] (by decide) rfl
  have hKc := hK.sub (tys' := []) [] rfl
  have hFc := va_free (wc := [(q_16, .inr (6, [.null, .null, .int 0]))]) hD hS hA [2] rfl
  refine va_callv (va_runI (As := [.ref dk]) (rest := [.ref q_16, .int 3, .ref q_1]) ⟨hx, hb, hml, hown, hT⟩ (c_Poly_init l dC dI H.size q_16 dk ) (cwI 1 hT g_Poly_init rfl rfl rfl (hT _ tw_8) (hT _ tw_191) (hT _ tw_192) rfl (by decide +kernel) ⟨Nat.le_of_ble_eq_true rfl, Nat.le_of_ble_eq_true rfl⟩) ⟨fun a U g mk q => by obtain ⟨q0, q1, qP, qK, qD, qN⟩ := q; exact ⟨q0, q1, qP, va_K.moved (u := U) (U := U.calling g mk a) (Vm.Alike.refl U.vm) qK, qD, nx_K.same (u := U) (U := U.calling g mk a) rfl qN⟩, fun U hU hW => ⟨rfl, by rw [hU], by rw [hU]; exact hPc, va_K.moved hW.alike hKc, hDc.weaken (fun _ _ _ _ => trivial), nx_K.warm hW hN⟩⟩ rfl rfl hl.1 rfl (lv_room (Nat.le_of_ble_eq_true rfl)) d_Curve_init_29 ⟨Nat.le_of_ble_eq_true rfl, Nat.le_of_ble_eq_true rfl⟩) hS (fun q _ h => hFc q h) hFc (fun u t H1 locs ht hvm hw hB hz1 hk1 hS => ?_)
  obtain ⟨q1_17, hP1, hK1, hD1⟩ := hB
  rw [ht] at hP1
  have hK1 := va_K.moved hvm.symm hK1
  obtain ⟨hP, hD⟩ := va_join (wr := [(h0, .inr (2, [.ref q_1])), (q_1, .inl (cA_2, 4, .inr (.inr (.inr (.inr f_14)))))]) (w1 := [(q_16, .inr (6, [.ref dk, .ref q1_17, .int 0]))]) hP hD [2] [0, 1] rfl rfl (by decide) (by decide) hk1 hFc hP1 hD1
  have hK := (hK.sub (tys' := [(cA_2, .object "RealHouse$Poly")]) [0] rfl).app hK1
  generalize H1 = H at hP hS ⊢
  have hP : va_P (dC, dI) classes [(h0, .inr (2, [.ref q_1])), (q_1, .inl (cA_2, 4, .inr (.inr (.inr (.inr f_14))))), (q_16, .inr (6, [.ref dk, .ref q1_17, .int 0]))] H := hP
  have hD : va_D A [(h0, .inr (2, [.ref q_1])), (q_1, .inl (cA_2, 4, .inr (.inr (.inr (.inr f_14))))), (q_16, .inr (6, [.ref dk, .ref q1_17, .int 0]))] := hD
  have hK : va_K (dC, dI) classes [(cA_2, .object "RealHouse$Poly")] s := hK
  refine W.widen (k := 9) (n := 16) (Nat.le_of_ble_eq_true rfl) (Nat.le_of_ble_eq_true rfl) ?_
  refine va_astq (r := (R_Poly, F_Poly, 3)) hx hb hK hP hD hS 1 0 2 6 rfl rfl rfl rfl (vp_in_nI (n := 3) (by decide) (by decide)) d_Curve_init_32 (fun H locs hP hD hS => ?_)
  have hP : va_P (dC, dI) classes [(h0, .inr (2, [.ref q_1])), (q_1, .inl (cA_2, 4, .inr (.inr (.inr (.inr (va_up f_14 (3 : Int32).toNatClampNeg (some q_16))))))), (q_16, .inr (6, [.ref dk, .ref q1_17, .int 0]))] H := hP
  have hD : va_D A [(h0, .inr (2, [.ref q_1])), (q_1, .inl (cA_2, 4, .inr (.inr (.inr (.inr (va_up f_14 (3 : Int32).toNatClampNeg (some q_16))))))), (q_16, .inr (6, [.ref dk, .ref q1_17, .int 0]))] := hD
  generalize va_up f_14 (3 : Int32).toNatClampNeg (some q_16) = f_18 at hP hD
  have hP := hP.sub (ws' := [(h0, .inr (2, [.ref q_1])), (q_1, .inl (cA_2, 4, .inr (.inr (.inr (.inr f_18)))))]) [0, 1] rfl
  have hD := hD.sub (ws' := [(h0, .inr (2, [.ref q_1])), (q_1, .inl (cA_2, 4, .inr (.inr (.inr (.inr f_18)))))]) [0, 1] (by decide) rfl
  refine lv_iinc (v := 4) (lv' := [(3, .int 4), (0, .ref h0), (1, .ref dk), (2, .int 4)]) hx hb d_Curve_init_33 hl (k := 0) rfl (by decide) (by decide) rfl (fun ls hl => ?_)
  refine lv_goto (tgt := 14) hx hb d_Curve_init_36 (by decide) ?_
  refine lv_iload_n hx hb d_Curve_init_14 rfl (lv_at hl 0 rfl) ?_
  refine lv_iload_n hx hb d_Curve_init_15 rfl (lv_at hl 3 rfl) ?_
  refine lv_icmp_ge (tgt := 39) hx hb d_Curve_init_16 (by decide) (fun c_19 => ?_) (fun c_19 => absurd (by decide) c_19)
  have hP9 := hP.sub (ws' := [(h0, .inr (2, [.ref q_1]))]) [0] rfl
  have hD9 := hD.sub (ws' := [(h0, .inr (2, [.ref q_1]))]) [0] (by decide) rfl
  have hK9 := hK.sub (tys' := []) [] rfl
  exact W.vret hx hb hr (fun t ht hW => ⟨⟨(), rfl, trivial, q_1, by rw [ht]; exact hP9, va_K.moved hW.alike hK9, hD9⟩, hS.F ht⟩) hS.2.2 d_Curve_init_39

set_option maxHeartbeats 4000000 in
set_option maxRecDepth 100000 in
/-- Curve(desk, 10) -/
theorem c_Curve_init_10 (l : Launch) (dC : Nat → ClassId) (dI : Nat → Nat → Nat) (sz : Nat) (h0 : Nat) (dk : Nat)  : Met l y_Curve_init w_Curve_init ({ frames := 2, cells := 21, slots := 40, locals := 33 }) (va_Pc [.ref h0, .ref dk, .int 10] (fun U => U.heap.size = sz ∧ va_P (dC, dI) classes [(h0, .inr (2, [.null]))] U.heap ∧ va_K (dC, dI) classes [] U ∧ va_D (fun _ => True) [(h0, .inr (2, [.null]))] ∧ nx_K U)) (va_Qv (fun _ : Unit => True) (fun _ t => ∃ (x_c : Nat), va_P (dC, dI) classes [(h0, .inr (2, [.ref x_c]))] t.heap ∧ va_K (dC, dI) classes [] t ∧ va_D (va_A [(h0, .inr (2, [.null]))] sz) [(h0, .inr (2, [.ref x_c]))]) (va_A [(h0, .inr (2, [.null]))] sz)) 21 40 (va_A [(h0, .inr (2, [.null]))] sz) := by
  refine Met.ofW (cc := b_Curve_init) (maxL := 4) (ret := none) (by decide) rfl ?_
  intro p e s m args below meth c s₁ B hml hv
  obtain ⟨rfl, hsz, hP, hK, hD0, hN⟩ := hv
  have hx := B.exec
  have hb := B.bytes
  have hr := B.returns
  have hT : ∀ w ∈ lw_g, w.before _ s = true := fun w h => atoms_spec (ws := w_Curve_init) B.pre w (List.mem_cons_of_mem _ h)
  have hown : s.vm.findClass R_Curve = some m.cls := findClass_of_methodNamed B.named
  have hlocks := B.notSynchronized
  have hin : meth.name = "<init>" := (name_of_methodNamed B.named B.method).1
  subst hsz
  have hD := hD0.self (sz := s.heap.size)
  generalize hAe : va_A [(h0, .inr (2, [.null]))] s.heap.size = A at hD ⊢
  have hA : ∀ q : Nat, s.heap.size ≤ q → A q := fun q h => by rw [← hAe]; exact Or.inr h
  have hS : va_S A s.heap s.heap [] := va_S.rf
  have hP : va_P (dC, dI) classes [(h0, .inr (2, [.null]))] s.heap := hP
  have hl := lv_entry ([.ref h0, .ref dk, .int 10]) (n := 4) (Nat.le_of_ble_eq_true rfl)
  rw [lg_entry_eq]
  generalize (lg_sl ([.ref h0, .ref dk, .int 10]) ++ List.replicate (4 - (lg_sl ([.ref h0, .ref dk, .int 10])).length) Slot.unset).toArray = ls at hl ⊢
  have hl : lv_has ls 4 [(0, .ref h0), (1, .ref dk), (2, .int 10)] := hl
  refine lv_aload_n hx hb d_Curve_init_0 rfl (lv_at hl 0 rfl) ?_
  refine W.objInit hx hb hown (hT _ tw_188) (hT _ tw_24) (hT _ tw_25) rfl (by rw [hml]; exact hl.1) rfl d_Curve_init_1 (Nat.le_of_ble_eq_true rfl) (Nat.le_of_ble_eq_true rfl) ?_
  refine W.eq (g2 := F0 m 4 ls []) rfl ?_
  refine lv_aload_n hx hb d_Curve_init_4 rfl (lv_at hl 0 rfl) ?_
  refine lv_iload_n hx hb d_Curve_init_5 rfl (lv_at hl 2 rfl) ?_
  refine va_newq hx hb hown (hT _ tw_189) hN.2.2.1 hK hP hD hS hA (by decide) rfl (by decide) (Nat.le_of_ble_eq_true rfl) (Nat.le_of_ble_eq_true rfl) d_Curve_init_6 (fun q_1 cA_2 H hK hP hD hS => ?_)
  have hP : va_P (dC, dI) classes [(h0, .inr (2, [.null])), (q_1, .inl (cA_2, 10, .inr (.inr (.inr (.inr (fun _ => none))))))] H := hP
  have hD : va_D A [(h0, .inr (2, [.null])), (q_1, .inl (cA_2, 10, .inr (.inr (.inr (.inr (fun _ => none))))))] := hD
  have hK : va_K (dC, dI) classes [(cA_2, .object "RealHouse$Poly")] s := hK
  refine W.widen (k := 1) (n := 10) (Nat.le_of_ble_eq_true rfl) (Nat.le_of_ble_eq_true rfl) ?_
  refine va_putF (D := (dC, dI)) (ci := 2) (v := .ref q_1) (ty := .array (.object "RealHouse$Poly")) (C := R_Curve) (T := F_Curve) (N := 1) hx hb hT i_Curve t_Curve t_Curve_ok n_Curve hown hK hP hD hS 0 rfl rfl 0 (by decide) (hT _ tw_224) (fun _ h9 => h9) rfl hin rfl (by decide +kernel) rfl rfl (Nat.le_of_ble_eq_true rfl) d_Curve_init_9 (fun H locs hP hD hS => ?_)
  have hP : va_P (dC, dI) classes [(h0, .inr (2, [.ref q_1])), (q_1, .inl (cA_2, 10, .inr (.inr (.inr (.inr (fun _ => none))))))] H := hP
  have hD : va_D A [(h0, .inr (2, [.ref q_1])), (q_1, .inl (cA_2, 10, .inr (.inr (.inr (.inr (fun _ => none))))))] := hD
  refine lv_iconst (v := 0) hx hb d_Curve_init_12 (by decide) ?_
  refine lv_istore_n (lv' := [(3, .int 0), (0, .ref h0), (1, .ref dk), (2, .int 10)]) hx hb d_Curve_init_13 rfl hl (by decide) rfl (fun ls hl => ?_)
  refine lv_iload_n hx hb d_Curve_init_14 rfl (lv_at hl 0 rfl) ?_
  refine lv_iload_n hx hb d_Curve_init_15 rfl (lv_at hl 3 rfl) ?_
  refine lv_icmp_ge (tgt := 39) hx hb d_Curve_init_16 (by decide) (fun c_3 => absurd c_3 (by decide)) (fun c_3 => ?_)
  refine lv_aload_n hx hb d_Curve_init_19 rfl (lv_at hl 1 rfl) ?_
  refine va_get (D := (dC, dI)) (ci := 2) (v := .ref q_1) (C := R_Curve) (T := F_Curve) (N := 1) hx hb hT i_Curve hown hK hP 0 rfl rfl 0 (by decide) (hT _ tw_224) (fun _ h9 => h9) rfl d_Curve_init_20 ?_
  refine lv_iload_n hx hb d_Curve_init_23 rfl (lv_at hl 0 rfl) ?_
  refine va_new (ci := 6) (fs := [.null, .null, .int 0]) (C := R_Poly) (T := F_Poly) (N := 3) hx hb hT i_Poly t_Poly t_Poly_ok hown (hT _ tw_189) (hT _ tw_190) (hT _ tw_8) hK hP hD hS hA rfl (by decide) (Nat.le_of_ble_eq_true rfl) (Nat.le_of_ble_eq_true rfl) d_Curve_init_24 (fun q_4 H hP hD hS => ?_)
  have hP : va_P (dC, dI) classes [(h0, .inr (2, [.ref q_1])), (q_1, .inl (cA_2, 10, .inr (.inr (.inr (.inr (fun _ => none)))))), (q_4, .inr (6, [.null, .null, .int 0]))] H := hP
  have hD : va_D A [(h0, .inr (2, [.ref q_1])), (q_1, .inl (cA_2, 10, .inr (.inr (.inr (.inr (fun _ => none)))))), (q_4, .inr (6, [.null, .null, .int 0]))] := hD
  refine W.widen (k := 2) (n := 13) (Nat.le_of_ble_eq_true rfl) (Nat.le_of_ble_eq_true rfl) ?_
  refine lv_dup hx hb d_Curve_init_27 rfl ?_
  refine lv_aload_n hx hb d_Curve_init_28 rfl (lv_at hl 2 rfl) ?_
  have hPc := hP.sub (ws' := [(q_4, .inr (6, [.null, .null, .int 0]))]) [2] rfl
  have hDc := hD.sub (ws' := [(q_4, .inr (6, [.null, .null, .int 0]))]) [2] (by decide) rfl
  have hKc := hK.sub (tys' := []) [] rfl
  have hFc := va_free (wc := [(q_4, .inr (6, [.null, .null, .int 0]))]) hD hS hA [2] rfl
  refine va_callv (va_runI (As := [.ref dk]) (rest := [.ref q_4, .int 0, .ref q_1]) ⟨hx, hb, hml, hown, hT⟩ (c_Poly_init l dC dI H.size q_4 dk ) (cwI 1 hT g_Poly_init rfl rfl rfl (hT _ tw_8) (hT _ tw_191) (hT _ tw_192) rfl (by decide +kernel) ⟨Nat.le_of_ble_eq_true rfl, Nat.le_of_ble_eq_true rfl⟩) ⟨fun a U g mk q => by obtain ⟨q0, q1, qP, qK, qD, qN⟩ := q; exact ⟨q0, q1, qP, va_K.moved (u := U) (U := U.calling g mk a) (Vm.Alike.refl U.vm) qK, qD, nx_K.same (u := U) (U := U.calling g mk a) rfl qN⟩, fun U hU hW => ⟨rfl, by rw [hU], by rw [hU]; exact hPc, va_K.moved hW.alike hKc, hDc.weaken (fun _ _ _ _ => trivial), nx_K.warm hW hN⟩⟩ rfl rfl hl.1 rfl (lv_room (Nat.le_of_ble_eq_true rfl)) d_Curve_init_29 ⟨Nat.le_of_ble_eq_true rfl, Nat.le_of_ble_eq_true rfl⟩) hS (fun q _ h => hFc q h) hFc (fun u t H1 locs ht hvm hw hB hz1 hk1 hS => ?_)
  obtain ⟨q1_5, hP1, hK1, hD1⟩ := hB
  rw [ht] at hP1
  have hK1 := va_K.moved hvm.symm hK1
  obtain ⟨hP, hD⟩ := va_join (wr := [(h0, .inr (2, [.ref q_1])), (q_1, .inl (cA_2, 10, .inr (.inr (.inr (.inr (fun _ => none))))))]) (w1 := [(q_4, .inr (6, [.ref dk, .ref q1_5, .int 0]))]) hP hD [2] [0, 1] rfl rfl (by decide) (by decide) hk1 hFc hP1 hD1
  have hK := (hK.sub (tys' := [(cA_2, .object "RealHouse$Poly")]) [0] rfl).app hK1
  generalize H1 = H at hP hS ⊢
  have hP : va_P (dC, dI) classes [(h0, .inr (2, [.ref q_1])), (q_1, .inl (cA_2, 10, .inr (.inr (.inr (.inr (fun _ => none)))))), (q_4, .inr (6, [.ref dk, .ref q1_5, .int 0]))] H := hP
  have hD : va_D A [(h0, .inr (2, [.ref q_1])), (q_1, .inl (cA_2, 10, .inr (.inr (.inr (.inr (fun _ => none)))))), (q_4, .inr (6, [.ref dk, .ref q1_5, .int 0]))] := hD
  have hK : va_K (dC, dI) classes [(cA_2, .object "RealHouse$Poly")] s := hK
  refine W.widen (k := 3) (n := 13) (Nat.le_of_ble_eq_true rfl) (Nat.le_of_ble_eq_true rfl) ?_
  refine va_astq (r := (R_Poly, F_Poly, 3)) hx hb hK hP hD hS 1 0 2 6 rfl rfl rfl rfl (vp_in_nI (n := 0) (by decide) (by decide)) d_Curve_init_32 (fun H locs hP hD hS => ?_)
  have hP : va_P (dC, dI) classes [(h0, .inr (2, [.ref q_1])), (q_1, .inl (cA_2, 10, .inr (.inr (.inr (.inr (va_up (fun _ => none) (0 : Int32).toNatClampNeg (some q_4))))))), (q_4, .inr (6, [.ref dk, .ref q1_5, .int 0]))] H := hP
  have hD : va_D A [(h0, .inr (2, [.ref q_1])), (q_1, .inl (cA_2, 10, .inr (.inr (.inr (.inr (va_up (fun _ => none) (0 : Int32).toNatClampNeg (some q_4))))))), (q_4, .inr (6, [.ref dk, .ref q1_5, .int 0]))] := hD
  generalize va_up (fun _ => none) (0 : Int32).toNatClampNeg (some q_4) = f_6 at hP hD
  have hP := hP.sub (ws' := [(h0, .inr (2, [.ref q_1])), (q_1, .inl (cA_2, 10, .inr (.inr (.inr (.inr f_6)))))]) [0, 1] rfl
  have hD := hD.sub (ws' := [(h0, .inr (2, [.ref q_1])), (q_1, .inl (cA_2, 10, .inr (.inr (.inr (.inr f_6)))))]) [0, 1] (by decide) rfl
  refine lv_iinc (v := 1) (lv' := [(3, .int 1), (0, .ref h0), (1, .ref dk), (2, .int 10)]) hx hb d_Curve_init_33 hl (k := 0) rfl (by decide) (by decide) rfl (fun ls hl => ?_)
  refine lv_goto (tgt := 14) hx hb d_Curve_init_36 (by decide) ?_
  refine lv_iload_n hx hb d_Curve_init_14 rfl (lv_at hl 0 rfl) ?_
  refine lv_iload_n hx hb d_Curve_init_15 rfl (lv_at hl 3 rfl) ?_
  refine lv_icmp_ge (tgt := 39) hx hb d_Curve_init_16 (by decide) (fun c_7 => absurd c_7 (by decide)) (fun c_7 => ?_)
  refine lv_aload_n hx hb d_Curve_init_19 rfl (lv_at hl 1 rfl) ?_
  refine va_get (D := (dC, dI)) (ci := 2) (v := .ref q_1) (C := R_Curve) (T := F_Curve) (N := 1) hx hb hT i_Curve hown hK hP 0 rfl rfl 0 (by decide) (hT _ tw_224) (fun _ h9 => h9) rfl d_Curve_init_20 ?_
  refine lv_iload_n hx hb d_Curve_init_23 rfl (lv_at hl 0 rfl) ?_
  refine va_new (ci := 6) (fs := [.null, .null, .int 0]) (C := R_Poly) (T := F_Poly) (N := 3) hx hb hT i_Poly t_Poly t_Poly_ok hown (hT _ tw_189) (hT _ tw_190) (hT _ tw_8) hK hP hD hS hA rfl (by decide) (Nat.le_of_ble_eq_true rfl) (Nat.le_of_ble_eq_true rfl) d_Curve_init_24 (fun q_8 H hP hD hS => ?_)
  have hP : va_P (dC, dI) classes [(h0, .inr (2, [.ref q_1])), (q_1, .inl (cA_2, 10, .inr (.inr (.inr (.inr f_6))))), (q_8, .inr (6, [.null, .null, .int 0]))] H := hP
  have hD : va_D A [(h0, .inr (2, [.ref q_1])), (q_1, .inl (cA_2, 10, .inr (.inr (.inr (.inr f_6))))), (q_8, .inr (6, [.null, .null, .int 0]))] := hD
  refine W.widen (k := 4) (n := 16) (Nat.le_of_ble_eq_true rfl) (Nat.le_of_ble_eq_true rfl) ?_
  refine lv_dup hx hb d_Curve_init_27 rfl ?_
  refine lv_aload_n hx hb d_Curve_init_28 rfl (lv_at hl 2 rfl) ?_
  have hPc := hP.sub (ws' := [(q_8, .inr (6, [.null, .null, .int 0]))]) [2] rfl
  have hDc := hD.sub (ws' := [(q_8, .inr (6, [.null, .null, .int 0]))]) [2] (by decide) rfl
  have hKc := hK.sub (tys' := []) [] rfl
  have hFc := va_free (wc := [(q_8, .inr (6, [.null, .null, .int 0]))]) hD hS hA [2] rfl
  refine va_callv (va_runI (As := [.ref dk]) (rest := [.ref q_8, .int 1, .ref q_1]) ⟨hx, hb, hml, hown, hT⟩ (c_Poly_init l dC dI H.size q_8 dk ) (cwI 1 hT g_Poly_init rfl rfl rfl (hT _ tw_8) (hT _ tw_191) (hT _ tw_192) rfl (by decide +kernel) ⟨Nat.le_of_ble_eq_true rfl, Nat.le_of_ble_eq_true rfl⟩) ⟨fun a U g mk q => by obtain ⟨q0, q1, qP, qK, qD, qN⟩ := q; exact ⟨q0, q1, qP, va_K.moved (u := U) (U := U.calling g mk a) (Vm.Alike.refl U.vm) qK, qD, nx_K.same (u := U) (U := U.calling g mk a) rfl qN⟩, fun U hU hW => ⟨rfl, by rw [hU], by rw [hU]; exact hPc, va_K.moved hW.alike hKc, hDc.weaken (fun _ _ _ _ => trivial), nx_K.warm hW hN⟩⟩ rfl rfl hl.1 rfl (lv_room (Nat.le_of_ble_eq_true rfl)) d_Curve_init_29 ⟨Nat.le_of_ble_eq_true rfl, Nat.le_of_ble_eq_true rfl⟩) hS (fun q _ h => hFc q h) hFc (fun u t H1 locs ht hvm hw hB hz1 hk1 hS => ?_)
  obtain ⟨q1_9, hP1, hK1, hD1⟩ := hB
  rw [ht] at hP1
  have hK1 := va_K.moved hvm.symm hK1
  obtain ⟨hP, hD⟩ := va_join (wr := [(h0, .inr (2, [.ref q_1])), (q_1, .inl (cA_2, 10, .inr (.inr (.inr (.inr f_6)))))]) (w1 := [(q_8, .inr (6, [.ref dk, .ref q1_9, .int 0]))]) hP hD [2] [0, 1] rfl rfl (by decide) (by decide) hk1 hFc hP1 hD1
  have hK := (hK.sub (tys' := [(cA_2, .object "RealHouse$Poly")]) [0] rfl).app hK1
  generalize H1 = H at hP hS ⊢
  have hP : va_P (dC, dI) classes [(h0, .inr (2, [.ref q_1])), (q_1, .inl (cA_2, 10, .inr (.inr (.inr (.inr f_6))))), (q_8, .inr (6, [.ref dk, .ref q1_9, .int 0]))] H := hP
  have hD : va_D A [(h0, .inr (2, [.ref q_1])), (q_1, .inl (cA_2, 10, .inr (.inr (.inr (.inr f_6))))), (q_8, .inr (6, [.ref dk, .ref q1_9, .int 0]))] := hD
  have hK : va_K (dC, dI) classes [(cA_2, .object "RealHouse$Poly")] s := hK
  refine W.widen (k := 5) (n := 16) (Nat.le_of_ble_eq_true rfl) (Nat.le_of_ble_eq_true rfl) ?_
  refine va_astq (r := (R_Poly, F_Poly, 3)) hx hb hK hP hD hS 1 0 2 6 rfl rfl rfl rfl (vp_in_nI (n := 1) (by decide) (by decide)) d_Curve_init_32 (fun H locs hP hD hS => ?_)
  have hP : va_P (dC, dI) classes [(h0, .inr (2, [.ref q_1])), (q_1, .inl (cA_2, 10, .inr (.inr (.inr (.inr (va_up f_6 (1 : Int32).toNatClampNeg (some q_8))))))), (q_8, .inr (6, [.ref dk, .ref q1_9, .int 0]))] H := hP
  have hD : va_D A [(h0, .inr (2, [.ref q_1])), (q_1, .inl (cA_2, 10, .inr (.inr (.inr (.inr (va_up f_6 (1 : Int32).toNatClampNeg (some q_8))))))), (q_8, .inr (6, [.ref dk, .ref q1_9, .int 0]))] := hD
  generalize va_up f_6 (1 : Int32).toNatClampNeg (some q_8) = f_10 at hP hD
  have hP := hP.sub (ws' := [(h0, .inr (2, [.ref q_1])), (q_1, .inl (cA_2, 10, .inr (.inr (.inr (.inr f_10)))))]) [0, 1] rfl
  have hD := hD.sub (ws' := [(h0, .inr (2, [.ref q_1])), (q_1, .inl (cA_2, 10, .inr (.inr (.inr (.inr f_10)))))]) [0, 1] (by decide) rfl
  refine lv_iinc (v := 2) (lv' := [(3, .int 2), (0, .ref h0), (1, .ref dk), (2, .int 10)]) hx hb d_Curve_init_33 hl (k := 0) rfl (by decide) (by decide) rfl (fun ls hl => ?_)
  refine lv_goto (tgt := 14) hx hb d_Curve_init_36 (by decide) ?_
  refine lv_iload_n hx hb d_Curve_init_14 rfl (lv_at hl 0 rfl) ?_
  refine lv_iload_n hx hb d_Curve_init_15 rfl (lv_at hl 3 rfl) ?_
  refine lv_icmp_ge (tgt := 39) hx hb d_Curve_init_16 (by decide) (fun c_11 => absurd c_11 (by decide)) (fun c_11 => ?_)
  refine lv_aload_n hx hb d_Curve_init_19 rfl (lv_at hl 1 rfl) ?_
  refine va_get (D := (dC, dI)) (ci := 2) (v := .ref q_1) (C := R_Curve) (T := F_Curve) (N := 1) hx hb hT i_Curve hown hK hP 0 rfl rfl 0 (by decide) (hT _ tw_224) (fun _ h9 => h9) rfl d_Curve_init_20 ?_
  refine lv_iload_n hx hb d_Curve_init_23 rfl (lv_at hl 0 rfl) ?_
  refine va_new (ci := 6) (fs := [.null, .null, .int 0]) (C := R_Poly) (T := F_Poly) (N := 3) hx hb hT i_Poly t_Poly t_Poly_ok hown (hT _ tw_189) (hT _ tw_190) (hT _ tw_8) hK hP hD hS hA rfl (by decide) (Nat.le_of_ble_eq_true rfl) (Nat.le_of_ble_eq_true rfl) d_Curve_init_24 (fun q_12 H hP hD hS => ?_)
  have hP : va_P (dC, dI) classes [(h0, .inr (2, [.ref q_1])), (q_1, .inl (cA_2, 10, .inr (.inr (.inr (.inr f_10))))), (q_12, .inr (6, [.null, .null, .int 0]))] H := hP
  have hD : va_D A [(h0, .inr (2, [.ref q_1])), (q_1, .inl (cA_2, 10, .inr (.inr (.inr (.inr f_10))))), (q_12, .inr (6, [.null, .null, .int 0]))] := hD
  refine W.widen (k := 6) (n := 19) (Nat.le_of_ble_eq_true rfl) (Nat.le_of_ble_eq_true rfl) ?_
  refine lv_dup hx hb d_Curve_init_27 rfl ?_
  refine lv_aload_n hx hb d_Curve_init_28 rfl (lv_at hl 2 rfl) ?_
  have hPc := hP.sub (ws' := [(q_12, .inr (6, [.null, .null, .int 0]))]) [2] rfl
  have hDc := hD.sub (ws' := [(q_12, .inr (6, [.null, .null, .int 0]))]) [2] (by decide) rfl
  have hKc := hK.sub (tys' := []) [] rfl
  have hFc := va_free (wc := [(q_12, .inr (6, [.null, .null, .int 0]))]) hD hS hA [2] rfl
  refine va_callv (va_runI (As := [.ref dk]) (rest := [.ref q_12, .int 2, .ref q_1]) ⟨hx, hb, hml, hown, hT⟩ (c_Poly_init l dC dI H.size q_12 dk ) (cwI 1 hT g_Poly_init rfl rfl rfl (hT _ tw_8) (hT _ tw_191) (hT _ tw_192) rfl (by decide +kernel) ⟨Nat.le_of_ble_eq_true rfl, Nat.le_of_ble_eq_true rfl⟩) ⟨fun a U g mk q => by obtain ⟨q0, q1, qP, qK, qD, qN⟩ := q; exact ⟨q0, q1, qP, va_K.moved (u := U) (U := U.calling g mk a) (Vm.Alike.refl U.vm) qK, qD, nx_K.same (u := U) (U := U.calling g mk a) rfl qN⟩, fun U hU hW => ⟨rfl, by rw [hU], by rw [hU]; exact hPc, va_K.moved hW.alike hKc, hDc.weaken (fun _ _ _ _ => trivial), nx_K.warm hW hN⟩⟩ rfl rfl hl.1 rfl (lv_room (Nat.le_of_ble_eq_true rfl)) d_Curve_init_29 ⟨Nat.le_of_ble_eq_true rfl, Nat.le_of_ble_eq_true rfl⟩) hS (fun q _ h => hFc q h) hFc (fun u t H1 locs ht hvm hw hB hz1 hk1 hS => ?_)
  obtain ⟨q1_13, hP1, hK1, hD1⟩ := hB
  rw [ht] at hP1
  have hK1 := va_K.moved hvm.symm hK1
  obtain ⟨hP, hD⟩ := va_join (wr := [(h0, .inr (2, [.ref q_1])), (q_1, .inl (cA_2, 10, .inr (.inr (.inr (.inr f_10)))))]) (w1 := [(q_12, .inr (6, [.ref dk, .ref q1_13, .int 0]))]) hP hD [2] [0, 1] rfl rfl (by decide) (by decide) hk1 hFc hP1 hD1
  have hK := (hK.sub (tys' := [(cA_2, .object "RealHouse$Poly")]) [0] rfl).app hK1
  generalize H1 = H at hP hS ⊢
  have hP : va_P (dC, dI) classes [(h0, .inr (2, [.ref q_1])), (q_1, .inl (cA_2, 10, .inr (.inr (.inr (.inr f_10))))), (q_12, .inr (6, [.ref dk, .ref q1_13, .int 0]))] H := hP
  have hD : va_D A [(h0, .inr (2, [.ref q_1])), (q_1, .inl (cA_2, 10, .inr (.inr (.inr (.inr f_10))))), (q_12, .inr (6, [.ref dk, .ref q1_13, .int 0]))] := hD
  have hK : va_K (dC, dI) classes [(cA_2, .object "RealHouse$Poly")] s := hK
  refine W.widen (k := 7) (n := 19) (Nat.le_of_ble_eq_true rfl) (Nat.le_of_ble_eq_true rfl) ?_
  refine va_astq (r := (R_Poly, F_Poly, 3)) hx hb hK hP hD hS 1 0 2 6 rfl rfl rfl rfl (vp_in_nI (n := 2) (by decide) (by decide)) d_Curve_init_32 (fun H locs hP hD hS => ?_)
  have hP : va_P (dC, dI) classes [(h0, .inr (2, [.ref q_1])), (q_1, .inl (cA_2, 10, .inr (.inr (.inr (.inr (va_up f_10 (2 : Int32).toNatClampNeg (some q_12))))))), (q_12, .inr (6, [.ref dk, .ref q1_13, .int 0]))] H := hP
  have hD : va_D A [(h0, .inr (2, [.ref q_1])), (q_1, .inl (cA_2, 10, .inr (.inr (.inr (.inr (va_up f_10 (2 : Int32).toNatClampNeg (some q_12))))))), (q_12, .inr (6, [.ref dk, .ref q1_13, .int 0]))] := hD
  generalize va_up f_10 (2 : Int32).toNatClampNeg (some q_12) = f_14 at hP hD
  have hP := hP.sub (ws' := [(h0, .inr (2, [.ref q_1])), (q_1, .inl (cA_2, 10, .inr (.inr (.inr (.inr f_14)))))]) [0, 1] rfl
  have hD := hD.sub (ws' := [(h0, .inr (2, [.ref q_1])), (q_1, .inl (cA_2, 10, .inr (.inr (.inr (.inr f_14)))))]) [0, 1] (by decide) rfl
  refine lv_iinc (v := 3) (lv' := [(3, .int 3), (0, .ref h0), (1, .ref dk), (2, .int 10)]) hx hb d_Curve_init_33 hl (k := 0) rfl (by decide) (by decide) rfl (fun ls hl => ?_)
  refine lv_goto (tgt := 14) hx hb d_Curve_init_36 (by decide) ?_
  refine lv_iload_n hx hb d_Curve_init_14 rfl (lv_at hl 0 rfl) ?_
  refine lv_iload_n hx hb d_Curve_init_15 rfl (lv_at hl 3 rfl) ?_
  refine lv_icmp_ge (tgt := 39) hx hb d_Curve_init_16 (by decide) (fun c_15 => absurd c_15 (by decide)) (fun c_15 => ?_)
  refine lv_aload_n hx hb d_Curve_init_19 rfl (lv_at hl 1 rfl) ?_
  refine va_get (D := (dC, dI)) (ci := 2) (v := .ref q_1) (C := R_Curve) (T := F_Curve) (N := 1) hx hb hT i_Curve hown hK hP 0 rfl rfl 0 (by decide) (hT _ tw_224) (fun _ h9 => h9) rfl d_Curve_init_20 ?_
  refine lv_iload_n hx hb d_Curve_init_23 rfl (lv_at hl 0 rfl) ?_
  refine va_new (ci := 6) (fs := [.null, .null, .int 0]) (C := R_Poly) (T := F_Poly) (N := 3) hx hb hT i_Poly t_Poly t_Poly_ok hown (hT _ tw_189) (hT _ tw_190) (hT _ tw_8) hK hP hD hS hA rfl (by decide) (Nat.le_of_ble_eq_true rfl) (Nat.le_of_ble_eq_true rfl) d_Curve_init_24 (fun q_16 H hP hD hS => ?_)
  have hP : va_P (dC, dI) classes [(h0, .inr (2, [.ref q_1])), (q_1, .inl (cA_2, 10, .inr (.inr (.inr (.inr f_14))))), (q_16, .inr (6, [.null, .null, .int 0]))] H := hP
  have hD : va_D A [(h0, .inr (2, [.ref q_1])), (q_1, .inl (cA_2, 10, .inr (.inr (.inr (.inr f_14))))), (q_16, .inr (6, [.null, .null, .int 0]))] := hD
  refine W.widen (k := 8) (n := 22) (Nat.le_of_ble_eq_true rfl) (Nat.le_of_ble_eq_true rfl) ?_
  refine lv_dup hx hb d_Curve_init_27 rfl ?_
  refine lv_aload_n hx hb d_Curve_init_28 rfl (lv_at hl 2 rfl) ?_
  have hPc := hP.sub (ws' := [(q_16, .inr (6, [.null, .null, .int 0]))]) [2] rfl
  have hDc := hD.sub (ws' := [(q_16, .inr (6, [.null, .null, .int 0]))]) [2] (by decide) rfl
  have hKc := hK.sub (tys' := []) [] rfl
  have hFc := va_free (wc := [(q_16, .inr (6, [.null, .null, .int 0]))]) hD hS hA [2] rfl
  refine va_callv (va_runI (As := [.ref dk]) (rest := [.ref q_16, .int 3, .ref q_1]) ⟨hx, hb, hml, hown, hT⟩ (c_Poly_init l dC dI H.size q_16 dk ) (cwI 1 hT g_Poly_init rfl rfl rfl (hT _ tw_8) (hT _ tw_191) (hT _ tw_192) rfl (by decide +kernel) ⟨Nat.le_of_ble_eq_true rfl, Nat.le_of_ble_eq_true rfl⟩) ⟨fun a U g mk q => by obtain ⟨q0, q1, qP, qK, qD, qN⟩ := q; exact ⟨q0, q1, qP, va_K.moved (u := U) (U := U.calling g mk a) (Vm.Alike.refl U.vm) qK, qD, nx_K.same (u := U) (U := U.calling g mk a) rfl qN⟩, fun U hU hW => ⟨rfl, by rw [hU], by rw [hU]; exact hPc, va_K.moved hW.alike hKc, hDc.weaken (fun _ _ _ _ => trivial), nx_K.warm hW hN⟩⟩ rfl rfl hl.1 rfl (lv_room (Nat.le_of_ble_eq_true rfl)) d_Curve_init_29 ⟨Nat.le_of_ble_eq_true rfl, Nat.le_of_ble_eq_true rfl⟩) hS (fun q _ h => hFc q h) hFc (fun u t H1 locs ht hvm hw hB hz1 hk1 hS => ?_)
  obtain ⟨q1_17, hP1, hK1, hD1⟩ := hB
  rw [ht] at hP1
  have hK1 := va_K.moved hvm.symm hK1
  obtain ⟨hP, hD⟩ := va_join (wr := [(h0, .inr (2, [.ref q_1])), (q_1, .inl (cA_2, 10, .inr (.inr (.inr (.inr f_14)))))]) (w1 := [(q_16, .inr (6, [.ref dk, .ref q1_17, .int 0]))]) hP hD [2] [0, 1] rfl rfl (by decide) (by decide) hk1 hFc hP1 hD1
  have hK := (hK.sub (tys' := [(cA_2, .object "RealHouse$Poly")]) [0] rfl).app hK1
  generalize H1 = H at hP hS ⊢
  have hP : va_P (dC, dI) classes [(h0, .inr (2, [.ref q_1])), (q_1, .inl (cA_2, 10, .inr (.inr (.inr (.inr f_14))))), (q_16, .inr (6, [.ref dk, .ref q1_17, .int 0]))] H := hP
  have hD : va_D A [(h0, .inr (2, [.ref q_1])), (q_1, .inl (cA_2, 10, .inr (.inr (.inr (.inr f_14))))), (q_16, .inr (6, [.ref dk, .ref q1_17, .int 0]))] := hD
  have hK : va_K (dC, dI) classes [(cA_2, .object "RealHouse$Poly")] s := hK
  refine W.widen (k := 9) (n := 22) (Nat.le_of_ble_eq_true rfl) (Nat.le_of_ble_eq_true rfl) ?_
  refine va_astq (r := (R_Poly, F_Poly, 3)) hx hb hK hP hD hS 1 0 2 6 rfl rfl rfl rfl (vp_in_nI (n := 3) (by decide) (by decide)) d_Curve_init_32 (fun H locs hP hD hS => ?_)
  have hP : va_P (dC, dI) classes [(h0, .inr (2, [.ref q_1])), (q_1, .inl (cA_2, 10, .inr (.inr (.inr (.inr (va_up f_14 (3 : Int32).toNatClampNeg (some q_16))))))), (q_16, .inr (6, [.ref dk, .ref q1_17, .int 0]))] H := hP
  have hD : va_D A [(h0, .inr (2, [.ref q_1])), (q_1, .inl (cA_2, 10, .inr (.inr (.inr (.inr (va_up f_14 (3 : Int32).toNatClampNeg (some q_16))))))), (q_16, .inr (6, [.ref dk, .ref q1_17, .int 0]))] := hD
  generalize va_up f_14 (3 : Int32).toNatClampNeg (some q_16) = f_18 at hP hD
  have hP := hP.sub (ws' := [(h0, .inr (2, [.ref q_1])), (q_1, .inl (cA_2, 10, .inr (.inr (.inr (.inr f_18)))))]) [0, 1] rfl
  have hD := hD.sub (ws' := [(h0, .inr (2, [.ref q_1])), (q_1, .inl (cA_2, 10, .inr (.inr (.inr (.inr f_18)))))]) [0, 1] (by decide) rfl
  refine lv_iinc (v := 4) (lv' := [(3, .int 4), (0, .ref h0), (1, .ref dk), (2, .int 10)]) hx hb d_Curve_init_33 hl (k := 0) rfl (by decide) (by decide) rfl (fun ls hl => ?_)
  refine lv_goto (tgt := 14) hx hb d_Curve_init_36 (by decide) ?_
  refine lv_iload_n hx hb d_Curve_init_14 rfl (lv_at hl 0 rfl) ?_
  refine lv_iload_n hx hb d_Curve_init_15 rfl (lv_at hl 3 rfl) ?_
  refine lv_icmp_ge (tgt := 39) hx hb d_Curve_init_16 (by decide) (fun c_19 => absurd c_19 (by decide)) (fun c_19 => ?_)
  refine lv_aload_n hx hb d_Curve_init_19 rfl (lv_at hl 1 rfl) ?_
  refine va_get (D := (dC, dI)) (ci := 2) (v := .ref q_1) (C := R_Curve) (T := F_Curve) (N := 1) hx hb hT i_Curve hown hK hP 0 rfl rfl 0 (by decide) (hT _ tw_224) (fun _ h9 => h9) rfl d_Curve_init_20 ?_
  refine lv_iload_n hx hb d_Curve_init_23 rfl (lv_at hl 0 rfl) ?_
  refine va_new (ci := 6) (fs := [.null, .null, .int 0]) (C := R_Poly) (T := F_Poly) (N := 3) hx hb hT i_Poly t_Poly t_Poly_ok hown (hT _ tw_189) (hT _ tw_190) (hT _ tw_8) hK hP hD hS hA rfl (by decide) (Nat.le_of_ble_eq_true rfl) (Nat.le_of_ble_eq_true rfl) d_Curve_init_24 (fun q_20 H hP hD hS => ?_)
  have hP : va_P (dC, dI) classes [(h0, .inr (2, [.ref q_1])), (q_1, .inl (cA_2, 10, .inr (.inr (.inr (.inr f_18))))), (q_20, .inr (6, [.null, .null, .int 0]))] H := hP
  have hD : va_D A [(h0, .inr (2, [.ref q_1])), (q_1, .inl (cA_2, 10, .inr (.inr (.inr (.inr f_18))))), (q_20, .inr (6, [.null, .null, .int 0]))] := hD
  refine W.widen (k := 10) (n := 25) (Nat.le_of_ble_eq_true rfl) (Nat.le_of_ble_eq_true rfl) ?_
  refine lv_dup hx hb d_Curve_init_27 rfl ?_
  refine lv_aload_n hx hb d_Curve_init_28 rfl (lv_at hl 2 rfl) ?_
  have hPc := hP.sub (ws' := [(q_20, .inr (6, [.null, .null, .int 0]))]) [2] rfl
  have hDc := hD.sub (ws' := [(q_20, .inr (6, [.null, .null, .int 0]))]) [2] (by decide) rfl
  have hKc := hK.sub (tys' := []) [] rfl
  have hFc := va_free (wc := [(q_20, .inr (6, [.null, .null, .int 0]))]) hD hS hA [2] rfl
  refine va_callv (va_runI (As := [.ref dk]) (rest := [.ref q_20, .int 4, .ref q_1]) ⟨hx, hb, hml, hown, hT⟩ (c_Poly_init l dC dI H.size q_20 dk ) (cwI 1 hT g_Poly_init rfl rfl rfl (hT _ tw_8) (hT _ tw_191) (hT _ tw_192) rfl (by decide +kernel) ⟨Nat.le_of_ble_eq_true rfl, Nat.le_of_ble_eq_true rfl⟩) ⟨fun a U g mk q => by obtain ⟨q0, q1, qP, qK, qD, qN⟩ := q; exact ⟨q0, q1, qP, va_K.moved (u := U) (U := U.calling g mk a) (Vm.Alike.refl U.vm) qK, qD, nx_K.same (u := U) (U := U.calling g mk a) rfl qN⟩, fun U hU hW => ⟨rfl, by rw [hU], by rw [hU]; exact hPc, va_K.moved hW.alike hKc, hDc.weaken (fun _ _ _ _ => trivial), nx_K.warm hW hN⟩⟩ rfl rfl hl.1 rfl (lv_room (Nat.le_of_ble_eq_true rfl)) d_Curve_init_29 ⟨Nat.le_of_ble_eq_true rfl, Nat.le_of_ble_eq_true rfl⟩) hS (fun q _ h => hFc q h) hFc (fun u t H1 locs ht hvm hw hB hz1 hk1 hS => ?_)
  obtain ⟨q1_21, hP1, hK1, hD1⟩ := hB
  rw [ht] at hP1
  have hK1 := va_K.moved hvm.symm hK1
  obtain ⟨hP, hD⟩ := va_join (wr := [(h0, .inr (2, [.ref q_1])), (q_1, .inl (cA_2, 10, .inr (.inr (.inr (.inr f_18)))))]) (w1 := [(q_20, .inr (6, [.ref dk, .ref q1_21, .int 0]))]) hP hD [2] [0, 1] rfl rfl (by decide) (by decide) hk1 hFc hP1 hD1
  have hK := (hK.sub (tys' := [(cA_2, .object "RealHouse$Poly")]) [0] rfl).app hK1
  generalize H1 = H at hP hS ⊢
  have hP : va_P (dC, dI) classes [(h0, .inr (2, [.ref q_1])), (q_1, .inl (cA_2, 10, .inr (.inr (.inr (.inr f_18))))), (q_20, .inr (6, [.ref dk, .ref q1_21, .int 0]))] H := hP
  have hD : va_D A [(h0, .inr (2, [.ref q_1])), (q_1, .inl (cA_2, 10, .inr (.inr (.inr (.inr f_18))))), (q_20, .inr (6, [.ref dk, .ref q1_21, .int 0]))] := hD
  have hK : va_K (dC, dI) classes [(cA_2, .object "RealHouse$Poly")] s := hK
  refine W.widen (k := 11) (n := 25) (Nat.le_of_ble_eq_true rfl) (Nat.le_of_ble_eq_true rfl) ?_
  refine va_astq (r := (R_Poly, F_Poly, 3)) hx hb hK hP hD hS 1 0 2 6 rfl rfl rfl rfl (vp_in_nI (n := 4) (by decide) (by decide)) d_Curve_init_32 (fun H locs hP hD hS => ?_)
  have hP : va_P (dC, dI) classes [(h0, .inr (2, [.ref q_1])), (q_1, .inl (cA_2, 10, .inr (.inr (.inr (.inr (va_up f_18 (4 : Int32).toNatClampNeg (some q_20))))))), (q_20, .inr (6, [.ref dk, .ref q1_21, .int 0]))] H := hP
  have hD : va_D A [(h0, .inr (2, [.ref q_1])), (q_1, .inl (cA_2, 10, .inr (.inr (.inr (.inr (va_up f_18 (4 : Int32).toNatClampNeg (some q_20))))))), (q_20, .inr (6, [.ref dk, .ref q1_21, .int 0]))] := hD
  generalize va_up f_18 (4 : Int32).toNatClampNeg (some q_20) = f_22 at hP hD
  have hP := hP.sub (ws' := [(h0, .inr (2, [.ref q_1])), (q_1, .inl (cA_2, 10, .inr (.inr (.inr (.inr f_22)))))]) [0, 1] rfl
  have hD := hD.sub (ws' := [(h0, .inr (2, [.ref q_1])), (q_1, .inl (cA_2, 10, .inr (.inr (.inr (.inr f_22)))))]) [0, 1] (by decide) rfl
  refine lv_iinc (v := 5) (lv' := [(3, .int 5), (0, .ref h0), (1, .ref dk), (2, .int 10)]) hx hb d_Curve_init_33 hl (k := 0) rfl (by decide) (by decide) rfl (fun ls hl => ?_)
  refine lv_goto (tgt := 14) hx hb d_Curve_init_36 (by decide) ?_
  refine lv_iload_n hx hb d_Curve_init_14 rfl (lv_at hl 0 rfl) ?_
  refine lv_iload_n hx hb d_Curve_init_15 rfl (lv_at hl 3 rfl) ?_
  refine lv_icmp_ge (tgt := 39) hx hb d_Curve_init_16 (by decide) (fun c_23 => absurd c_23 (by decide)) (fun c_23 => ?_)
  refine lv_aload_n hx hb d_Curve_init_19 rfl (lv_at hl 1 rfl) ?_
  refine va_get (D := (dC, dI)) (ci := 2) (v := .ref q_1) (C := R_Curve) (T := F_Curve) (N := 1) hx hb hT i_Curve hown hK hP 0 rfl rfl 0 (by decide) (hT _ tw_224) (fun _ h9 => h9) rfl d_Curve_init_20 ?_
  refine lv_iload_n hx hb d_Curve_init_23 rfl (lv_at hl 0 rfl) ?_
  refine va_new (ci := 6) (fs := [.null, .null, .int 0]) (C := R_Poly) (T := F_Poly) (N := 3) hx hb hT i_Poly t_Poly t_Poly_ok hown (hT _ tw_189) (hT _ tw_190) (hT _ tw_8) hK hP hD hS hA rfl (by decide) (Nat.le_of_ble_eq_true rfl) (Nat.le_of_ble_eq_true rfl) d_Curve_init_24 (fun q_24 H hP hD hS => ?_)
  have hP : va_P (dC, dI) classes [(h0, .inr (2, [.ref q_1])), (q_1, .inl (cA_2, 10, .inr (.inr (.inr (.inr f_22))))), (q_24, .inr (6, [.null, .null, .int 0]))] H := hP
  have hD : va_D A [(h0, .inr (2, [.ref q_1])), (q_1, .inl (cA_2, 10, .inr (.inr (.inr (.inr f_22))))), (q_24, .inr (6, [.null, .null, .int 0]))] := hD
  refine W.widen (k := 12) (n := 28) (Nat.le_of_ble_eq_true rfl) (Nat.le_of_ble_eq_true rfl) ?_
  refine lv_dup hx hb d_Curve_init_27 rfl ?_
  refine lv_aload_n hx hb d_Curve_init_28 rfl (lv_at hl 2 rfl) ?_
  have hPc := hP.sub (ws' := [(q_24, .inr (6, [.null, .null, .int 0]))]) [2] rfl
  have hDc := hD.sub (ws' := [(q_24, .inr (6, [.null, .null, .int 0]))]) [2] (by decide) rfl
  have hKc := hK.sub (tys' := []) [] rfl
  have hFc := va_free (wc := [(q_24, .inr (6, [.null, .null, .int 0]))]) hD hS hA [2] rfl
  refine va_callv (va_runI (As := [.ref dk]) (rest := [.ref q_24, .int 5, .ref q_1]) ⟨hx, hb, hml, hown, hT⟩ (c_Poly_init l dC dI H.size q_24 dk ) (cwI 1 hT g_Poly_init rfl rfl rfl (hT _ tw_8) (hT _ tw_191) (hT _ tw_192) rfl (by decide +kernel) ⟨Nat.le_of_ble_eq_true rfl, Nat.le_of_ble_eq_true rfl⟩) ⟨fun a U g mk q => by obtain ⟨q0, q1, qP, qK, qD, qN⟩ := q; exact ⟨q0, q1, qP, va_K.moved (u := U) (U := U.calling g mk a) (Vm.Alike.refl U.vm) qK, qD, nx_K.same (u := U) (U := U.calling g mk a) rfl qN⟩, fun U hU hW => ⟨rfl, by rw [hU], by rw [hU]; exact hPc, va_K.moved hW.alike hKc, hDc.weaken (fun _ _ _ _ => trivial), nx_K.warm hW hN⟩⟩ rfl rfl hl.1 rfl (lv_room (Nat.le_of_ble_eq_true rfl)) d_Curve_init_29 ⟨Nat.le_of_ble_eq_true rfl, Nat.le_of_ble_eq_true rfl⟩) hS (fun q _ h => hFc q h) hFc (fun u t H1 locs ht hvm hw hB hz1 hk1 hS => ?_)
  obtain ⟨q1_25, hP1, hK1, hD1⟩ := hB
  rw [ht] at hP1
  have hK1 := va_K.moved hvm.symm hK1
  obtain ⟨hP, hD⟩ := va_join (wr := [(h0, .inr (2, [.ref q_1])), (q_1, .inl (cA_2, 10, .inr (.inr (.inr (.inr f_22)))))]) (w1 := [(q_24, .inr (6, [.ref dk, .ref q1_25, .int 0]))]) hP hD [2] [0, 1] rfl rfl (by decide) (by decide) hk1 hFc hP1 hD1
  have hK := (hK.sub (tys' := [(cA_2, .object "RealHouse$Poly")]) [0] rfl).app hK1
  generalize H1 = H at hP hS ⊢
  have hP : va_P (dC, dI) classes [(h0, .inr (2, [.ref q_1])), (q_1, .inl (cA_2, 10, .inr (.inr (.inr (.inr f_22))))), (q_24, .inr (6, [.ref dk, .ref q1_25, .int 0]))] H := hP
  have hD : va_D A [(h0, .inr (2, [.ref q_1])), (q_1, .inl (cA_2, 10, .inr (.inr (.inr (.inr f_22))))), (q_24, .inr (6, [.ref dk, .ref q1_25, .int 0]))] := hD
  have hK : va_K (dC, dI) classes [(cA_2, .object "RealHouse$Poly")] s := hK
  refine W.widen (k := 13) (n := 28) (Nat.le_of_ble_eq_true rfl) (Nat.le_of_ble_eq_true rfl) ?_
  refine va_astq (r := (R_Poly, F_Poly, 3)) hx hb hK hP hD hS 1 0 2 6 rfl rfl rfl rfl (vp_in_nI (n := 5) (by decide) (by decide)) d_Curve_init_32 (fun H locs hP hD hS => ?_)
  have hP : va_P (dC, dI) classes [(h0, .inr (2, [.ref q_1])), (q_1, .inl (cA_2, 10, .inr (.inr (.inr (.inr (va_up f_22 (5 : Int32).toNatClampNeg (some q_24))))))), (q_24, .inr (6, [.ref dk, .ref q1_25, .int 0]))] H := hP
  have hD : va_D A [(h0, .inr (2, [.ref q_1])), (q_1, .inl (cA_2, 10, .inr (.inr (.inr (.inr (va_up f_22 (5 : Int32).toNatClampNeg (some q_24))))))), (q_24, .inr (6, [.ref dk, .ref q1_25, .int 0]))] := hD
  generalize va_up f_22 (5 : Int32).toNatClampNeg (some q_24) = f_26 at hP hD
  have hP := hP.sub (ws' := [(h0, .inr (2, [.ref q_1])), (q_1, .inl (cA_2, 10, .inr (.inr (.inr (.inr f_26)))))]) [0, 1] rfl
  have hD := hD.sub (ws' := [(h0, .inr (2, [.ref q_1])), (q_1, .inl (cA_2, 10, .inr (.inr (.inr (.inr f_26)))))]) [0, 1] (by decide) rfl
  refine lv_iinc (v := 6) (lv' := [(3, .int 6), (0, .ref h0), (1, .ref dk), (2, .int 10)]) hx hb d_Curve_init_33 hl (k := 0) rfl (by decide) (by decide) rfl (fun ls hl => ?_)
  refine lv_goto (tgt := 14) hx hb d_Curve_init_36 (by decide) ?_
  refine lv_iload_n hx hb d_Curve_init_14 rfl (lv_at hl 0 rfl) ?_
  refine lv_iload_n hx hb d_Curve_init_15 rfl (lv_at hl 3 rfl) ?_
  refine lv_icmp_ge (tgt := 39) hx hb d_Curve_init_16 (by decide) (fun c_27 => absurd c_27 (by decide)) (fun c_27 => ?_)
  refine lv_aload_n hx hb d_Curve_init_19 rfl (lv_at hl 1 rfl) ?_
  refine va_get (D := (dC, dI)) (ci := 2) (v := .ref q_1) (C := R_Curve) (T := F_Curve) (N := 1) hx hb hT i_Curve hown hK hP 0 rfl rfl 0 (by decide) (hT _ tw_224) (fun _ h9 => h9) rfl d_Curve_init_20 ?_
  refine lv_iload_n hx hb d_Curve_init_23 rfl (lv_at hl 0 rfl) ?_
  refine va_new (ci := 6) (fs := [.null, .null, .int 0]) (C := R_Poly) (T := F_Poly) (N := 3) hx hb hT i_Poly t_Poly t_Poly_ok hown (hT _ tw_189) (hT _ tw_190) (hT _ tw_8) hK hP hD hS hA rfl (by decide) (Nat.le_of_ble_eq_true rfl) (Nat.le_of_ble_eq_true rfl) d_Curve_init_24 (fun q_28 H hP hD hS => ?_)
  have hP : va_P (dC, dI) classes [(h0, .inr (2, [.ref q_1])), (q_1, .inl (cA_2, 10, .inr (.inr (.inr (.inr f_26))))), (q_28, .inr (6, [.null, .null, .int 0]))] H := hP
  have hD : va_D A [(h0, .inr (2, [.ref q_1])), (q_1, .inl (cA_2, 10, .inr (.inr (.inr (.inr f_26))))), (q_28, .inr (6, [.null, .null, .int 0]))] := hD
  refine W.widen (k := 14) (n := 31) (Nat.le_of_ble_eq_true rfl) (Nat.le_of_ble_eq_true rfl) ?_
  refine lv_dup hx hb d_Curve_init_27 rfl ?_
  refine lv_aload_n hx hb d_Curve_init_28 rfl (lv_at hl 2 rfl) ?_
  have hPc := hP.sub (ws' := [(q_28, .inr (6, [.null, .null, .int 0]))]) [2] rfl
  have hDc := hD.sub (ws' := [(q_28, .inr (6, [.null, .null, .int 0]))]) [2] (by decide) rfl
  have hKc := hK.sub (tys' := []) [] rfl
  have hFc := va_free (wc := [(q_28, .inr (6, [.null, .null, .int 0]))]) hD hS hA [2] rfl
  refine va_callv (va_runI (As := [.ref dk]) (rest := [.ref q_28, .int 6, .ref q_1]) ⟨hx, hb, hml, hown, hT⟩ (c_Poly_init l dC dI H.size q_28 dk ) (cwI 1 hT g_Poly_init rfl rfl rfl (hT _ tw_8) (hT _ tw_191) (hT _ tw_192) rfl (by decide +kernel) ⟨Nat.le_of_ble_eq_true rfl, Nat.le_of_ble_eq_true rfl⟩) ⟨fun a U g mk q => by obtain ⟨q0, q1, qP, qK, qD, qN⟩ := q; exact ⟨q0, q1, qP, va_K.moved (u := U) (U := U.calling g mk a) (Vm.Alike.refl U.vm) qK, qD, nx_K.same (u := U) (U := U.calling g mk a) rfl qN⟩, fun U hU hW => ⟨rfl, by rw [hU], by rw [hU]; exact hPc, va_K.moved hW.alike hKc, hDc.weaken (fun _ _ _ _ => trivial), nx_K.warm hW hN⟩⟩ rfl rfl hl.1 rfl (lv_room (Nat.le_of_ble_eq_true rfl)) d_Curve_init_29 ⟨Nat.le_of_ble_eq_true rfl, Nat.le_of_ble_eq_true rfl⟩) hS (fun q _ h => hFc q h) hFc (fun u t H1 locs ht hvm hw hB hz1 hk1 hS => ?_)
  obtain ⟨q1_29, hP1, hK1, hD1⟩ := hB
  rw [ht] at hP1
  have hK1 := va_K.moved hvm.symm hK1
  obtain ⟨hP, hD⟩ := va_join (wr := [(h0, .inr (2, [.ref q_1])), (q_1, .inl (cA_2, 10, .inr (.inr (.inr (.inr f_26)))))]) (w1 := [(q_28, .inr (6, [.ref dk, .ref q1_29, .int 0]))]) hP hD [2] [0, 1] rfl rfl (by decide) (by decide) hk1 hFc hP1 hD1
  have hK := (hK.sub (tys' := [(cA_2, .object "RealHouse$Poly")]) [0] rfl).app hK1
  generalize H1 = H at hP hS ⊢
  have hP : va_P (dC, dI) classes [(h0, .inr (2, [.ref q_1])), (q_1, .inl (cA_2, 10, .inr (.inr (.inr (.inr f_26))))), (q_28, .inr (6, [.ref dk, .ref q1_29, .int 0]))] H := hP
  have hD : va_D A [(h0, .inr (2, [.ref q_1])), (q_1, .inl (cA_2, 10, .inr (.inr (.inr (.inr f_26))))), (q_28, .inr (6, [.ref dk, .ref q1_29, .int 0]))] := hD
  have hK : va_K (dC, dI) classes [(cA_2, .object "RealHouse$Poly")] s := hK
  refine W.widen (k := 15) (n := 31) (Nat.le_of_ble_eq_true rfl) (Nat.le_of_ble_eq_true rfl) ?_
  refine va_astq (r := (R_Poly, F_Poly, 3)) hx hb hK hP hD hS 1 0 2 6 rfl rfl rfl rfl (vp_in_nI (n := 6) (by decide) (by decide)) d_Curve_init_32 (fun H locs hP hD hS => ?_)
  have hP : va_P (dC, dI) classes [(h0, .inr (2, [.ref q_1])), (q_1, .inl (cA_2, 10, .inr (.inr (.inr (.inr (va_up f_26 (6 : Int32).toNatClampNeg (some q_28))))))), (q_28, .inr (6, [.ref dk, .ref q1_29, .int 0]))] H := hP
  have hD : va_D A [(h0, .inr (2, [.ref q_1])), (q_1, .inl (cA_2, 10, .inr (.inr (.inr (.inr (va_up f_26 (6 : Int32).toNatClampNeg (some q_28))))))), (q_28, .inr (6, [.ref dk, .ref q1_29, .int 0]))] := hD
  generalize va_up f_26 (6 : Int32).toNatClampNeg (some q_28) = f_30 at hP hD
  have hP := hP.sub (ws' := [(h0, .inr (2, [.ref q_1])), (q_1, .inl (cA_2, 10, .inr (.inr (.inr (.inr f_30)))))]) [0, 1] rfl
  have hD := hD.sub (ws' := [(h0, .inr (2, [.ref q_1])), (q_1, .inl (cA_2, 10, .inr (.inr (.inr (.inr f_30)))))]) [0, 1] (by decide) rfl
  refine lv_iinc (v := 7) (lv' := [(3, .int 7), (0, .ref h0), (1, .ref dk), (2, .int 10)]) hx hb d_Curve_init_33 hl (k := 0) rfl (by decide) (by decide) rfl (fun ls hl => ?_)
  refine lv_goto (tgt := 14) hx hb d_Curve_init_36 (by decide) ?_
  refine lv_iload_n hx hb d_Curve_init_14 rfl (lv_at hl 0 rfl) ?_
  refine lv_iload_n hx hb d_Curve_init_15 rfl (lv_at hl 3 rfl) ?_
  refine lv_icmp_ge (tgt := 39) hx hb d_Curve_init_16 (by decide) (fun c_31 => absurd c_31 (by decide)) (fun c_31 => ?_)
  refine lv_aload_n hx hb d_Curve_init_19 rfl (lv_at hl 1 rfl) ?_
  refine va_get (D := (dC, dI)) (ci := 2) (v := .ref q_1) (C := R_Curve) (T := F_Curve) (N := 1) hx hb hT i_Curve hown hK hP 0 rfl rfl 0 (by decide) (hT _ tw_224) (fun _ h9 => h9) rfl d_Curve_init_20 ?_
  refine lv_iload_n hx hb d_Curve_init_23 rfl (lv_at hl 0 rfl) ?_
  refine va_new (ci := 6) (fs := [.null, .null, .int 0]) (C := R_Poly) (T := F_Poly) (N := 3) hx hb hT i_Poly t_Poly t_Poly_ok hown (hT _ tw_189) (hT _ tw_190) (hT _ tw_8) hK hP hD hS hA rfl (by decide) (Nat.le_of_ble_eq_true rfl) (Nat.le_of_ble_eq_true rfl) d_Curve_init_24 (fun q_32 H hP hD hS => ?_)
  have hP : va_P (dC, dI) classes [(h0, .inr (2, [.ref q_1])), (q_1, .inl (cA_2, 10, .inr (.inr (.inr (.inr f_30))))), (q_32, .inr (6, [.null, .null, .int 0]))] H := hP
  have hD : va_D A [(h0, .inr (2, [.ref q_1])), (q_1, .inl (cA_2, 10, .inr (.inr (.inr (.inr f_30))))), (q_32, .inr (6, [.null, .null, .int 0]))] := hD
  refine W.widen (k := 16) (n := 34) (Nat.le_of_ble_eq_true rfl) (Nat.le_of_ble_eq_true rfl) ?_
  refine lv_dup hx hb d_Curve_init_27 rfl ?_
  refine lv_aload_n hx hb d_Curve_init_28 rfl (lv_at hl 2 rfl) ?_
  have hPc := hP.sub (ws' := [(q_32, .inr (6, [.null, .null, .int 0]))]) [2] rfl
  have hDc := hD.sub (ws' := [(q_32, .inr (6, [.null, .null, .int 0]))]) [2] (by decide) rfl
  have hKc := hK.sub (tys' := []) [] rfl
  have hFc := va_free (wc := [(q_32, .inr (6, [.null, .null, .int 0]))]) hD hS hA [2] rfl
  refine va_callv (va_runI (As := [.ref dk]) (rest := [.ref q_32, .int 7, .ref q_1]) ⟨hx, hb, hml, hown, hT⟩ (c_Poly_init l dC dI H.size q_32 dk ) (cwI 1 hT g_Poly_init rfl rfl rfl (hT _ tw_8) (hT _ tw_191) (hT _ tw_192) rfl (by decide +kernel) ⟨Nat.le_of_ble_eq_true rfl, Nat.le_of_ble_eq_true rfl⟩) ⟨fun a U g mk q => by obtain ⟨q0, q1, qP, qK, qD, qN⟩ := q; exact ⟨q0, q1, qP, va_K.moved (u := U) (U := U.calling g mk a) (Vm.Alike.refl U.vm) qK, qD, nx_K.same (u := U) (U := U.calling g mk a) rfl qN⟩, fun U hU hW => ⟨rfl, by rw [hU], by rw [hU]; exact hPc, va_K.moved hW.alike hKc, hDc.weaken (fun _ _ _ _ => trivial), nx_K.warm hW hN⟩⟩ rfl rfl hl.1 rfl (lv_room (Nat.le_of_ble_eq_true rfl)) d_Curve_init_29 ⟨Nat.le_of_ble_eq_true rfl, Nat.le_of_ble_eq_true rfl⟩) hS (fun q _ h => hFc q h) hFc (fun u t H1 locs ht hvm hw hB hz1 hk1 hS => ?_)
  obtain ⟨q1_33, hP1, hK1, hD1⟩ := hB
  rw [ht] at hP1
  have hK1 := va_K.moved hvm.symm hK1
  obtain ⟨hP, hD⟩ := va_join (wr := [(h0, .inr (2, [.ref q_1])), (q_1, .inl (cA_2, 10, .inr (.inr (.inr (.inr f_30)))))]) (w1 := [(q_32, .inr (6, [.ref dk, .ref q1_33, .int 0]))]) hP hD [2] [0, 1] rfl rfl (by decide) (by decide) hk1 hFc hP1 hD1
  have hK := (hK.sub (tys' := [(cA_2, .object "RealHouse$Poly")]) [0] rfl).app hK1
  generalize H1 = H at hP hS ⊢
  have hP : va_P (dC, dI) classes [(h0, .inr (2, [.ref q_1])), (q_1, .inl (cA_2, 10, .inr (.inr (.inr (.inr f_30))))), (q_32, .inr (6, [.ref dk, .ref q1_33, .int 0]))] H := hP
  have hD : va_D A [(h0, .inr (2, [.ref q_1])), (q_1, .inl (cA_2, 10, .inr (.inr (.inr (.inr f_30))))), (q_32, .inr (6, [.ref dk, .ref q1_33, .int 0]))] := hD
  have hK : va_K (dC, dI) classes [(cA_2, .object "RealHouse$Poly")] s := hK
  refine W.widen (k := 17) (n := 34) (Nat.le_of_ble_eq_true rfl) (Nat.le_of_ble_eq_true rfl) ?_
  refine va_astq (r := (R_Poly, F_Poly, 3)) hx hb hK hP hD hS 1 0 2 6 rfl rfl rfl rfl (vp_in_nI (n := 7) (by decide) (by decide)) d_Curve_init_32 (fun H locs hP hD hS => ?_)
  have hP : va_P (dC, dI) classes [(h0, .inr (2, [.ref q_1])), (q_1, .inl (cA_2, 10, .inr (.inr (.inr (.inr (va_up f_30 (7 : Int32).toNatClampNeg (some q_32))))))), (q_32, .inr (6, [.ref dk, .ref q1_33, .int 0]))] H := hP
  have hD : va_D A [(h0, .inr (2, [.ref q_1])), (q_1, .inl (cA_2, 10, .inr (.inr (.inr (.inr (va_up f_30 (7 : Int32).toNatClampNeg (some q_32))))))), (q_32, .inr (6, [.ref dk, .ref q1_33, .int 0]))] := hD
  generalize va_up f_30 (7 : Int32).toNatClampNeg (some q_32) = f_34 at hP hD
  have hP := hP.sub (ws' := [(h0, .inr (2, [.ref q_1])), (q_1, .inl (cA_2, 10, .inr (.inr (.inr (.inr f_34)))))]) [0, 1] rfl
  have hD := hD.sub (ws' := [(h0, .inr (2, [.ref q_1])), (q_1, .inl (cA_2, 10, .inr (.inr (.inr (.inr f_34)))))]) [0, 1] (by decide) rfl
  refine lv_iinc (v := 8) (lv' := [(3, .int 8), (0, .ref h0), (1, .ref dk), (2, .int 10)]) hx hb d_Curve_init_33 hl (k := 0) rfl (by decide) (by decide) rfl (fun ls hl => ?_)
  refine lv_goto (tgt := 14) hx hb d_Curve_init_36 (by decide) ?_
  refine lv_iload_n hx hb d_Curve_init_14 rfl (lv_at hl 0 rfl) ?_
  refine lv_iload_n hx hb d_Curve_init_15 rfl (lv_at hl 3 rfl) ?_
  refine lv_icmp_ge (tgt := 39) hx hb d_Curve_init_16 (by decide) (fun c_35 => absurd c_35 (by decide)) (fun c_35 => ?_)
  refine lv_aload_n hx hb d_Curve_init_19 rfl (lv_at hl 1 rfl) ?_
  refine va_get (D := (dC, dI)) (ci := 2) (v := .ref q_1) (C := R_Curve) (T := F_Curve) (N := 1) hx hb hT i_Curve hown hK hP 0 rfl rfl 0 (by decide) (hT _ tw_224) (fun _ h9 => h9) rfl d_Curve_init_20 ?_
  refine lv_iload_n hx hb d_Curve_init_23 rfl (lv_at hl 0 rfl) ?_
  refine va_new (ci := 6) (fs := [.null, .null, .int 0]) (C := R_Poly) (T := F_Poly) (N := 3) hx hb hT i_Poly t_Poly t_Poly_ok hown (hT _ tw_189) (hT _ tw_190) (hT _ tw_8) hK hP hD hS hA rfl (by decide) (Nat.le_of_ble_eq_true rfl) (Nat.le_of_ble_eq_true rfl) d_Curve_init_24 (fun q_36 H hP hD hS => ?_)
  have hP : va_P (dC, dI) classes [(h0, .inr (2, [.ref q_1])), (q_1, .inl (cA_2, 10, .inr (.inr (.inr (.inr f_34))))), (q_36, .inr (6, [.null, .null, .int 0]))] H := hP
  have hD : va_D A [(h0, .inr (2, [.ref q_1])), (q_1, .inl (cA_2, 10, .inr (.inr (.inr (.inr f_34))))), (q_36, .inr (6, [.null, .null, .int 0]))] := hD
  refine W.widen (k := 18) (n := 37) (Nat.le_of_ble_eq_true rfl) (Nat.le_of_ble_eq_true rfl) ?_
  refine lv_dup hx hb d_Curve_init_27 rfl ?_
  refine lv_aload_n hx hb d_Curve_init_28 rfl (lv_at hl 2 rfl) ?_
  have hPc := hP.sub (ws' := [(q_36, .inr (6, [.null, .null, .int 0]))]) [2] rfl
  have hDc := hD.sub (ws' := [(q_36, .inr (6, [.null, .null, .int 0]))]) [2] (by decide) rfl
  have hKc := hK.sub (tys' := []) [] rfl
  have hFc := va_free (wc := [(q_36, .inr (6, [.null, .null, .int 0]))]) hD hS hA [2] rfl
  refine va_callv (va_runI (As := [.ref dk]) (rest := [.ref q_36, .int 8, .ref q_1]) ⟨hx, hb, hml, hown, hT⟩ (c_Poly_init l dC dI H.size q_36 dk ) (cwI 1 hT g_Poly_init rfl rfl rfl (hT _ tw_8) (hT _ tw_191) (hT _ tw_192) rfl (by decide +kernel) ⟨Nat.le_of_ble_eq_true rfl, Nat.le_of_ble_eq_true rfl⟩) ⟨fun a U g mk q => by obtain ⟨q0, q1, qP, qK, qD, qN⟩ := q; exact ⟨q0, q1, qP, va_K.moved (u := U) (U := U.calling g mk a) (Vm.Alike.refl U.vm) qK, qD, nx_K.same (u := U) (U := U.calling g mk a) rfl qN⟩, fun U hU hW => ⟨rfl, by rw [hU], by rw [hU]; exact hPc, va_K.moved hW.alike hKc, hDc.weaken (fun _ _ _ _ => trivial), nx_K.warm hW hN⟩⟩ rfl rfl hl.1 rfl (lv_room (Nat.le_of_ble_eq_true rfl)) d_Curve_init_29 ⟨Nat.le_of_ble_eq_true rfl, Nat.le_of_ble_eq_true rfl⟩) hS (fun q _ h => hFc q h) hFc (fun u t H1 locs ht hvm hw hB hz1 hk1 hS => ?_)
  obtain ⟨q1_37, hP1, hK1, hD1⟩ := hB
  rw [ht] at hP1
  have hK1 := va_K.moved hvm.symm hK1
  obtain ⟨hP, hD⟩ := va_join (wr := [(h0, .inr (2, [.ref q_1])), (q_1, .inl (cA_2, 10, .inr (.inr (.inr (.inr f_34)))))]) (w1 := [(q_36, .inr (6, [.ref dk, .ref q1_37, .int 0]))]) hP hD [2] [0, 1] rfl rfl (by decide) (by decide) hk1 hFc hP1 hD1
  have hK := (hK.sub (tys' := [(cA_2, .object "RealHouse$Poly")]) [0] rfl).app hK1
  generalize H1 = H at hP hS ⊢
  have hP : va_P (dC, dI) classes [(h0, .inr (2, [.ref q_1])), (q_1, .inl (cA_2, 10, .inr (.inr (.inr (.inr f_34))))), (q_36, .inr (6, [.ref dk, .ref q1_37, .int 0]))] H := hP
  have hD : va_D A [(h0, .inr (2, [.ref q_1])), (q_1, .inl (cA_2, 10, .inr (.inr (.inr (.inr f_34))))), (q_36, .inr (6, [.ref dk, .ref q1_37, .int 0]))] := hD
  have hK : va_K (dC, dI) classes [(cA_2, .object "RealHouse$Poly")] s := hK
  refine W.widen (k := 19) (n := 37) (Nat.le_of_ble_eq_true rfl) (Nat.le_of_ble_eq_true rfl) ?_
  refine va_astq (r := (R_Poly, F_Poly, 3)) hx hb hK hP hD hS 1 0 2 6 rfl rfl rfl rfl (vp_in_nI (n := 8) (by decide) (by decide)) d_Curve_init_32 (fun H locs hP hD hS => ?_)
  have hP : va_P (dC, dI) classes [(h0, .inr (2, [.ref q_1])), (q_1, .inl (cA_2, 10, .inr (.inr (.inr (.inr (va_up f_34 (8 : Int32).toNatClampNeg (some q_36))))))), (q_36, .inr (6, [.ref dk, .ref q1_37, .int 0]))] H := hP
  have hD : va_D A [(h0, .inr (2, [.ref q_1])), (q_1, .inl (cA_2, 10, .inr (.inr (.inr (.inr (va_up f_34 (8 : Int32).toNatClampNeg (some q_36))))))), (q_36, .inr (6, [.ref dk, .ref q1_37, .int 0]))] := hD
  generalize va_up f_34 (8 : Int32).toNatClampNeg (some q_36) = f_38 at hP hD
  have hP := hP.sub (ws' := [(h0, .inr (2, [.ref q_1])), (q_1, .inl (cA_2, 10, .inr (.inr (.inr (.inr f_38)))))]) [0, 1] rfl
  have hD := hD.sub (ws' := [(h0, .inr (2, [.ref q_1])), (q_1, .inl (cA_2, 10, .inr (.inr (.inr (.inr f_38)))))]) [0, 1] (by decide) rfl
  refine lv_iinc (v := 9) (lv' := [(3, .int 9), (0, .ref h0), (1, .ref dk), (2, .int 10)]) hx hb d_Curve_init_33 hl (k := 0) rfl (by decide) (by decide) rfl (fun ls hl => ?_)
  refine lv_goto (tgt := 14) hx hb d_Curve_init_36 (by decide) ?_
  refine lv_iload_n hx hb d_Curve_init_14 rfl (lv_at hl 0 rfl) ?_
  refine lv_iload_n hx hb d_Curve_init_15 rfl (lv_at hl 3 rfl) ?_
  refine lv_icmp_ge (tgt := 39) hx hb d_Curve_init_16 (by decide) (fun c_39 => absurd c_39 (by decide)) (fun c_39 => ?_)
  refine lv_aload_n hx hb d_Curve_init_19 rfl (lv_at hl 1 rfl) ?_
  refine va_get (D := (dC, dI)) (ci := 2) (v := .ref q_1) (C := R_Curve) (T := F_Curve) (N := 1) hx hb hT i_Curve hown hK hP 0 rfl rfl 0 (by decide) (hT _ tw_224) (fun _ h9 => h9) rfl d_Curve_init_20 ?_
  refine lv_iload_n hx hb d_Curve_init_23 rfl (lv_at hl 0 rfl) ?_
  refine va_new (ci := 6) (fs := [.null, .null, .int 0]) (C := R_Poly) (T := F_Poly) (N := 3) hx hb hT i_Poly t_Poly t_Poly_ok hown (hT _ tw_189) (hT _ tw_190) (hT _ tw_8) hK hP hD hS hA rfl (by decide) (Nat.le_of_ble_eq_true rfl) (Nat.le_of_ble_eq_true rfl) d_Curve_init_24 (fun q_40 H hP hD hS => ?_)
  have hP : va_P (dC, dI) classes [(h0, .inr (2, [.ref q_1])), (q_1, .inl (cA_2, 10, .inr (.inr (.inr (.inr f_38))))), (q_40, .inr (6, [.null, .null, .int 0]))] H := hP
  have hD : va_D A [(h0, .inr (2, [.ref q_1])), (q_1, .inl (cA_2, 10, .inr (.inr (.inr (.inr f_38))))), (q_40, .inr (6, [.null, .null, .int 0]))] := hD
  refine W.widen (k := 20) (n := 40) (Nat.le_of_ble_eq_true rfl) (Nat.le_of_ble_eq_true rfl) ?_
  refine lv_dup hx hb d_Curve_init_27 rfl ?_
  refine lv_aload_n hx hb d_Curve_init_28 rfl (lv_at hl 2 rfl) ?_
  have hPc := hP.sub (ws' := [(q_40, .inr (6, [.null, .null, .int 0]))]) [2] rfl
  have hDc := hD.sub (ws' := [(q_40, .inr (6, [.null, .null, .int 0]))]) [2] (by decide) rfl
  have hKc := hK.sub (tys' := []) [] rfl
  have hFc := va_free (wc := [(q_40, .inr (6, [.null, .null, .int 0]))]) hD hS hA [2] rfl
  refine va_callv (va_runI (As := [.ref dk]) (rest := [.ref q_40, .int 9, .ref q_1]) ⟨hx, hb, hml, hown, hT⟩ (c_Poly_init l dC dI H.size q_40 dk ) (cwI 1 hT g_Poly_init rfl rfl rfl (hT _ tw_8) (hT _ tw_191) (hT _ tw_192) rfl (by decide +kernel) ⟨Nat.le_of_ble_eq_true rfl, Nat.le_of_ble_eq_true rfl⟩) ⟨fun a U g mk q => by obtain ⟨q0, q1, qP, qK, qD, qN⟩ := q; exact ⟨q0, q1, qP, va_K.moved (u := U) (U := U.calling g mk a) (Vm.Alike.refl U.vm) qK, qD, nx_K.same (u := U) (U := U.calling g mk a) rfl qN⟩, fun U hU hW => ⟨rfl, by rw [hU], by rw [hU]; exact hPc, va_K.moved hW.alike hKc, hDc.weaken (fun _ _ _ _ => trivial), nx_K.warm hW hN⟩⟩ rfl rfl hl.1 rfl (lv_room (Nat.le_of_ble_eq_true rfl)) d_Curve_init_29 ⟨Nat.le_of_ble_eq_true rfl, Nat.le_of_ble_eq_true rfl⟩) hS (fun q _ h => hFc q h) hFc (fun u t H1 locs ht hvm hw hB hz1 hk1 hS => ?_)
  obtain ⟨q1_41, hP1, hK1, hD1⟩ := hB
  rw [ht] at hP1
  have hK1 := va_K.moved hvm.symm hK1
  obtain ⟨hP, hD⟩ := va_join (wr := [(h0, .inr (2, [.ref q_1])), (q_1, .inl (cA_2, 10, .inr (.inr (.inr (.inr f_38)))))]) (w1 := [(q_40, .inr (6, [.ref dk, .ref q1_41, .int 0]))]) hP hD [2] [0, 1] rfl rfl (by decide) (by decide) hk1 hFc hP1 hD1
  have hK := (hK.sub (tys' := [(cA_2, .object "RealHouse$Poly")]) [0] rfl).app hK1
  generalize H1 = H at hP hS ⊢
  have hP : va_P (dC, dI) classes [(h0, .inr (2, [.ref q_1])), (q_1, .inl (cA_2, 10, .inr (.inr (.inr (.inr f_38))))), (q_40, .inr (6, [.ref dk, .ref q1_41, .int 0]))] H := hP
  have hD : va_D A [(h0, .inr (2, [.ref q_1])), (q_1, .inl (cA_2, 10, .inr (.inr (.inr (.inr f_38))))), (q_40, .inr (6, [.ref dk, .ref q1_41, .int 0]))] := hD
  have hK : va_K (dC, dI) classes [(cA_2, .object "RealHouse$Poly")] s := hK
  refine W.widen (k := 21) (n := 40) (Nat.le_of_ble_eq_true rfl) (Nat.le_of_ble_eq_true rfl) ?_
  refine va_astq (r := (R_Poly, F_Poly, 3)) hx hb hK hP hD hS 1 0 2 6 rfl rfl rfl rfl (vp_in_nI (n := 9) (by decide) (by decide)) d_Curve_init_32 (fun H locs hP hD hS => ?_)
  have hP : va_P (dC, dI) classes [(h0, .inr (2, [.ref q_1])), (q_1, .inl (cA_2, 10, .inr (.inr (.inr (.inr (va_up f_38 (9 : Int32).toNatClampNeg (some q_40))))))), (q_40, .inr (6, [.ref dk, .ref q1_41, .int 0]))] H := hP
  have hD : va_D A [(h0, .inr (2, [.ref q_1])), (q_1, .inl (cA_2, 10, .inr (.inr (.inr (.inr (va_up f_38 (9 : Int32).toNatClampNeg (some q_40))))))), (q_40, .inr (6, [.ref dk, .ref q1_41, .int 0]))] := hD
  generalize va_up f_38 (9 : Int32).toNatClampNeg (some q_40) = f_42 at hP hD
  have hP := hP.sub (ws' := [(h0, .inr (2, [.ref q_1])), (q_1, .inl (cA_2, 10, .inr (.inr (.inr (.inr f_42)))))]) [0, 1] rfl
  have hD := hD.sub (ws' := [(h0, .inr (2, [.ref q_1])), (q_1, .inl (cA_2, 10, .inr (.inr (.inr (.inr f_42)))))]) [0, 1] (by decide) rfl
  refine lv_iinc (v := 10) (lv' := [(3, .int 10), (0, .ref h0), (1, .ref dk), (2, .int 10)]) hx hb d_Curve_init_33 hl (k := 0) rfl (by decide) (by decide) rfl (fun ls hl => ?_)
  refine lv_goto (tgt := 14) hx hb d_Curve_init_36 (by decide) ?_
  refine lv_iload_n hx hb d_Curve_init_14 rfl (lv_at hl 0 rfl) ?_
  refine lv_iload_n hx hb d_Curve_init_15 rfl (lv_at hl 3 rfl) ?_
  refine lv_icmp_ge (tgt := 39) hx hb d_Curve_init_16 (by decide) (fun c_43 => ?_) (fun c_43 => absurd (by decide) c_43)
  have hP9 := hP.sub (ws' := [(h0, .inr (2, [.ref q_1]))]) [0] rfl
  have hD9 := hD.sub (ws' := [(h0, .inr (2, [.ref q_1]))]) [0] (by decide) rfl
  have hK9 := hK.sub (tys' := []) [] rfl
  exact W.vret hx hb hr (fun t ht hW => ⟨⟨(), rfl, trivial, q_1, by rw [ht]; exact hP9, va_K.moved hW.alike hK9, hD9⟩, hS.F ht⟩) hS.2.2 d_Curve_init_39

set_option maxHeartbeats 4000000 in
set_option maxRecDepth 100000 in
/-- Curve(desk, 17) -/
theorem c_Curve_init_17 (l : Launch) (dC : Nat → ClassId) (dI : Nat → Nat → Nat) (sz : Nat) (h0 : Nat) (dk : Nat)  : Met l y_Curve_init w_Curve_init ({ frames := 2, cells := 35, slots := 68, locals := 33 }) (va_Pc [.ref h0, .ref dk, .int 17] (fun U => U.heap.size = sz ∧ va_P (dC, dI) classes [(h0, .inr (2, [.null]))] U.heap ∧ va_K (dC, dI) classes [] U ∧ va_D (fun _ => True) [(h0, .inr (2, [.null]))] ∧ nx_K U)) (va_Qv (fun _ : Unit => True) (fun _ t => ∃ (x_c : Nat), va_P (dC, dI) classes [(h0, .inr (2, [.ref x_c]))] t.heap ∧ va_K (dC, dI) classes [] t ∧ va_D (va_A [(h0, .inr (2, [.null]))] sz) [(h0, .inr (2, [.ref x_c]))]) (va_A [(h0, .inr (2, [.null]))] sz)) 35 68 (va_A [(h0, .inr (2, [.null]))] sz) := by
  refine Met.ofW (cc := b_Curve_init) (maxL := 4) (ret := none) (by decide) rfl ?_
  intro p e s m args below meth c s₁ B hml hv
  obtain ⟨rfl, hsz, hP, hK, hD0, hN⟩ := hv
  have hx := B.exec
  have hb := B.bytes
  have hr := B.returns
  have hT : ∀ w ∈ lw_g, w.before _ s = true := fun w h => atoms_spec (ws := w_Curve_init) B.pre w (List.mem_cons_of_mem _ h)
  have hown : s.vm.findClass R_Curve = some m.cls := findClass_of_methodNamed B.named
  have hlocks := B.notSynchronized
  have hin : meth.name = "<init>" := (name_of_methodNamed B.named B.method).1
  subst hsz
  have hD := hD0.self (sz := s.heap.size)
  generalize hAe : va_A [(h0, .inr (2, [.null]))] s.heap.size = A at hD ⊢
  have hA : ∀ q : Nat, s.heap.size ≤ q → A q := fun q h => by rw [← hAe]; exact Or.inr h
  have hS : va_S A s.heap s.heap [] := va_S.rf
  have hP : va_P (dC, dI) classes [(h0, .inr (2, [.null]))] s.heap := hP
  have hl := lv_entry ([.ref h0, .ref dk, .int 17]) (n := 4) (Nat.le_of_ble_eq_true rfl)
  rw [lg_entry_eq]
  generalize (lg_sl ([.ref h0, .ref dk, .int 17]) ++ List.replicate (4 - (lg_sl ([.ref h0, .ref dk, .int 17])).length) Slot.unset).toArray = ls at hl ⊢
  have hl : lv_has ls 4 [(0, .ref h0), (1, .ref dk), (2, .int 17)] := hl
  refine lv_aload_n hx hb d_Curve_init_0 rfl (lv_at hl 0 rfl) ?_
  refine W.objInit hx hb hown (hT _ tw_188) (hT _ tw_24) (hT _ tw_25) rfl (by rw [hml]; exact hl.1) rfl d_Curve_init_1 (Nat.le_of_ble_eq_true rfl) (Nat.le_of_ble_eq_true rfl) ?_
  refine W.eq (g2 := F0 m 4 ls []) rfl ?_
  refine lv_aload_n hx hb d_Curve_init_4 rfl (lv_at hl 0 rfl) ?_
  refine lv_iload_n hx hb d_Curve_init_5 rfl (lv_at hl 2 rfl) ?_
  refine va_newq hx hb hown (hT _ tw_189) hN.2.2.1 hK hP hD hS hA (by decide) rfl (by decide) (Nat.le_of_ble_eq_true rfl) (Nat.le_of_ble_eq_true rfl) d_Curve_init_6 (fun q_1 cA_2 H hK hP hD hS => ?_)
  have hP : va_P (dC, dI) classes [(h0, .inr (2, [.null])), (q_1, .inl (cA_2, 17, .inr (.inr (.inr (.inr (fun _ => none))))))] H := hP
  have hD : va_D A [(h0, .inr (2, [.null])), (q_1, .inl (cA_2, 17, .inr (.inr (.inr (.inr (fun _ => none))))))] := hD
  have hK : va_K (dC, dI) classes [(cA_2, .object "RealHouse$Poly")] s := hK
  refine W.widen (k := 1) (n := 17) (Nat.le_of_ble_eq_true rfl) (Nat.le_of_ble_eq_true rfl) ?_
  refine va_putF (D := (dC, dI)) (ci := 2) (v := .ref q_1) (ty := .array (.object "RealHouse$Poly")) (C := R_Curve) (T := F_Curve) (N := 1) hx hb hT i_Curve t_Curve t_Curve_ok n_Curve hown hK hP hD hS 0 rfl rfl 0 (by decide) (hT _ tw_224) (fun _ h9 => h9) rfl hin rfl (by decide +kernel) rfl rfl (Nat.le_of_ble_eq_true rfl) d_Curve_init_9 (fun H locs hP hD hS => ?_)
  have hP : va_P (dC, dI) classes [(h0, .inr (2, [.ref q_1])), (q_1, .inl (cA_2, 17, .inr (.inr (.inr (.inr (fun _ => none))))))] H := hP
  have hD : va_D A [(h0, .inr (2, [.ref q_1])), (q_1, .inl (cA_2, 17, .inr (.inr (.inr (.inr (fun _ => none))))))] := hD
  refine lv_iconst (v := 0) hx hb d_Curve_init_12 (by decide) ?_
  refine lv_istore_n (lv' := [(3, .int 0), (0, .ref h0), (1, .ref dk), (2, .int 17)]) hx hb d_Curve_init_13 rfl hl (by decide) rfl (fun ls hl => ?_)
  refine lv_iload_n hx hb d_Curve_init_14 rfl (lv_at hl 0 rfl) ?_
  refine lv_iload_n hx hb d_Curve_init_15 rfl (lv_at hl 3 rfl) ?_
  refine lv_icmp_ge (tgt := 39) hx hb d_Curve_init_16 (by decide) (fun c_3 => absurd c_3 (by decide)) (fun c_3 => ?_)
  refine lv_aload_n hx hb d_Curve_init_19 rfl (lv_at hl 1 rfl) ?_
  refine va_get (D := (dC, dI)) (ci := 2) (v := .ref q_1) (C := R_Curve) (T := F_Curve) (N := 1) hx hb hT i_Curve hown hK hP 0 rfl rfl 0 (by decide) (hT _ tw_224) (fun _ h9 => h9) rfl d_Curve_init_20 ?_
  refine lv_iload_n hx hb d_Curve_init_23 rfl (lv_at hl 0 rfl) ?_
  refine va_new (ci := 6) (fs := [.null, .null, .int 0]) (C := R_Poly) (T := F_Poly) (N := 3) hx hb hT i_Poly t_Poly t_Poly_ok hown (hT _ tw_189) (hT _ tw_190) (hT _ tw_8) hK hP hD hS hA rfl (by decide) (Nat.le_of_ble_eq_true rfl) (Nat.le_of_ble_eq_true rfl) d_Curve_init_24 (fun q_4 H hP hD hS => ?_)
  have hP : va_P (dC, dI) classes [(h0, .inr (2, [.ref q_1])), (q_1, .inl (cA_2, 17, .inr (.inr (.inr (.inr (fun _ => none)))))), (q_4, .inr (6, [.null, .null, .int 0]))] H := hP
  have hD : va_D A [(h0, .inr (2, [.ref q_1])), (q_1, .inl (cA_2, 17, .inr (.inr (.inr (.inr (fun _ => none)))))), (q_4, .inr (6, [.null, .null, .int 0]))] := hD
  refine W.widen (k := 2) (n := 20) (Nat.le_of_ble_eq_true rfl) (Nat.le_of_ble_eq_true rfl) ?_
  refine lv_dup hx hb d_Curve_init_27 rfl ?_
  refine lv_aload_n hx hb d_Curve_init_28 rfl (lv_at hl 2 rfl) ?_
  have hPc := hP.sub (ws' := [(q_4, .inr (6, [.null, .null, .int 0]))]) [2] rfl
  have hDc := hD.sub (ws' := [(q_4, .inr (6, [.null, .null, .int 0]))]) [2] (by decide) rfl
  have hKc := hK.sub (tys' := []) [] rfl
  have hFc := va_free (wc := [(q_4, .inr (6, [.null, .null, .int 0]))]) hD hS hA [2] rfl
  refine va_callv (va_runI (As := [.ref dk]) (rest := [.ref q_4, .int 0, .ref q_1]) ⟨hx, hb, hml, hown, hT⟩ (c_Poly_init l dC dI H.size q_4 dk ) (cwI 1 hT g_Poly_init rfl rfl rfl (hT _ tw_8) (hT _ tw_191) (hT _ tw_192) rfl (by decide +kernel) ⟨Nat.le_of_ble_eq_true rfl, Nat.le_of_ble_eq_true rfl⟩) ⟨fun a U g mk q => by obtain ⟨q0, q1, qP, qK, qD, qN⟩ := q; exact ⟨q0, q1, qP, va_K.moved (u := U) (U := U.calling g mk a) (Vm.Alike.refl U.vm) qK, qD, nx_K.same (u := U) (U := U.calling g mk a) rfl qN⟩, fun U hU hW => ⟨rfl, by rw [hU], by rw [hU]; exact hPc, va_K.moved hW.alike hKc, hDc.weaken (fun _ _ _ _ => trivial), nx_K.warm hW hN⟩⟩ rfl rfl hl.1 rfl (lv_room (Nat.le_of_ble_eq_true rfl)) d_Curve_init_29 ⟨Nat.le_of_ble_eq_true rfl, Nat.le_of_ble_eq_true rfl⟩) hS (fun q _ h => hFc q h) hFc (fun u t H1 locs ht hvm hw hB hz1 hk1 hS => ?_)
  obtain ⟨q1_5, hP1, hK1, hD1⟩ := hB
  rw [ht] at hP1
  have hK1 := va_K.moved hvm.symm hK1
  obtain ⟨hP, hD⟩ := va_join (wr := [(h0, .inr (2, [.ref q_1])), (q_1, .inl (cA_2, 17, .inr (.inr (.inr (.inr (fun _ => none))))))]) (w1 := [(q_4, .inr (6, [.ref dk, .ref q1_5, .int 0]))]) hP hD [2] [0, 1] rfl rfl (by decide) (by decide) hk1 hFc hP1 hD1
  have hK := (hK.sub (tys' := [(cA_2, .object "RealHouse$Poly")]) [0] rfl).app hK1
  generalize H1 = H at hP hS ⊢
  have hP : va_P (dC, dI) classes [(h0, .inr (2, [.ref q_1])), (q_1, .inl (cA_2, 17, .inr (.inr (.inr (.inr (fun _ => none)))))), (q_4, .inr (6, [.ref dk, .ref q1_5, .int 0]))] H := hP
  have hD : va_D A [(h0, .inr (2, [.ref q_1])), (q_1, .inl (cA_2, 17, .inr (.inr (.inr (.inr (fun _ => none)))))), (q_4, .inr (6, [.ref dk, .ref q1_5, .int 0]))] := hD
  have hK : va_K (dC, dI) classes [(cA_2, .object "RealHouse$Poly")] s := hK
  refine W.widen (k := 3) (n := 20) (Nat.le_of_ble_eq_true rfl) (Nat.le_of_ble_eq_true rfl) ?_
  refine va_astq (r := (R_Poly, F_Poly, 3)) hx hb hK hP hD hS 1 0 2 6 rfl rfl rfl rfl (vp_in_nI (n := 0) (by decide) (by decide)) d_Curve_init_32 (fun H locs hP hD hS => ?_)
  have hP : va_P (dC, dI) classes [(h0, .inr (2, [.ref q_1])), (q_1, .inl (cA_2, 17, .inr (.inr (.inr (.inr (va_up (fun _ => none) (0 : Int32).toNatClampNeg (some q_4))))))), (q_4, .inr (6, [.ref dk, .ref q1_5, .int 0]))] H := hP
  have hD : va_D A [(h0, .inr (2, [.ref q_1])), (q_1, .inl (cA_2, 17, .inr (.inr (.inr (.inr (va_up (fun _ => none) (0 : Int32).toNatClampNeg (some q_4))))))), (q_4, .inr (6, [.ref dk, .ref q1_5, .int 0]))] := hD
  generalize va_up (fun _ => none) (0 : Int32).toNatClampNeg (some q_4) = f_6 at hP hD
  have hP := hP.sub (ws' := [(h0, .inr (2, [.ref q_1])), (q_1, .inl (cA_2, 17, .inr (.inr (.inr (.inr f_6)))))]) [0, 1] rfl
  have hD := hD.sub (ws' := [(h0, .inr (2, [.ref q_1])), (q_1, .inl (cA_2, 17, .inr (.inr (.inr (.inr f_6)))))]) [0, 1] (by decide) rfl
  refine lv_iinc (v := 1) (lv' := [(3, .int 1), (0, .ref h0), (1, .ref dk), (2, .int 17)]) hx hb d_Curve_init_33 hl (k := 0) rfl (by decide) (by decide) rfl (fun ls hl => ?_)
  refine lv_goto (tgt := 14) hx hb d_Curve_init_36 (by decide) ?_
  refine lv_iload_n hx hb d_Curve_init_14 rfl (lv_at hl 0 rfl) ?_
  refine lv_iload_n hx hb d_Curve_init_15 rfl (lv_at hl 3 rfl) ?_
  refine lv_icmp_ge (tgt := 39) hx hb d_Curve_init_16 (by decide) (fun c_7 => absurd c_7 (by decide)) (fun c_7 => ?_)
  refine lv_aload_n hx hb d_Curve_init_19 rfl (lv_at hl 1 rfl) ?_
  refine va_get (D := (dC, dI)) (ci := 2) (v := .ref q_1) (C := R_Curve) (T := F_Curve) (N := 1) hx hb hT i_Curve hown hK hP 0 rfl rfl 0 (by decide) (hT _ tw_224) (fun _ h9 => h9) rfl d_Curve_init_20 ?_
  refine lv_iload_n hx hb d_Curve_init_23 rfl (lv_at hl 0 rfl) ?_
  refine va_new (ci := 6) (fs := [.null, .null, .int 0]) (C := R_Poly) (T := F_Poly) (N := 3) hx hb hT i_Poly t_Poly t_Poly_ok hown (hT _ tw_189) (hT _ tw_190) (hT _ tw_8) hK hP hD hS hA rfl (by decide) (Nat.le_of_ble_eq_true rfl) (Nat.le_of_ble_eq_true rfl) d_Curve_init_24 (fun q_8 H hP hD hS => ?_)
  have hP : va_P (dC, dI) classes [(h0, .inr (2, [.ref q_1])), (q_1, .inl (cA_2, 17, .inr (.inr (.inr (.inr f_6))))), (q_8, .inr (6, [.null, .null, .int 0]))] H := hP
  have hD : va_D A [(h0, .inr (2, [.ref q_1])), (q_1, .inl (cA_2, 17, .inr (.inr (.inr (.inr f_6))))), (q_8, .inr (6, [.null, .null, .int 0]))] := hD
  refine W.widen (k := 4) (n := 23) (Nat.le_of_ble_eq_true rfl) (Nat.le_of_ble_eq_true rfl) ?_
  refine lv_dup hx hb d_Curve_init_27 rfl ?_
  refine lv_aload_n hx hb d_Curve_init_28 rfl (lv_at hl 2 rfl) ?_
  have hPc := hP.sub (ws' := [(q_8, .inr (6, [.null, .null, .int 0]))]) [2] rfl
  have hDc := hD.sub (ws' := [(q_8, .inr (6, [.null, .null, .int 0]))]) [2] (by decide) rfl
  have hKc := hK.sub (tys' := []) [] rfl
  have hFc := va_free (wc := [(q_8, .inr (6, [.null, .null, .int 0]))]) hD hS hA [2] rfl
  refine va_callv (va_runI (As := [.ref dk]) (rest := [.ref q_8, .int 1, .ref q_1]) ⟨hx, hb, hml, hown, hT⟩ (c_Poly_init l dC dI H.size q_8 dk ) (cwI 1 hT g_Poly_init rfl rfl rfl (hT _ tw_8) (hT _ tw_191) (hT _ tw_192) rfl (by decide +kernel) ⟨Nat.le_of_ble_eq_true rfl, Nat.le_of_ble_eq_true rfl⟩) ⟨fun a U g mk q => by obtain ⟨q0, q1, qP, qK, qD, qN⟩ := q; exact ⟨q0, q1, qP, va_K.moved (u := U) (U := U.calling g mk a) (Vm.Alike.refl U.vm) qK, qD, nx_K.same (u := U) (U := U.calling g mk a) rfl qN⟩, fun U hU hW => ⟨rfl, by rw [hU], by rw [hU]; exact hPc, va_K.moved hW.alike hKc, hDc.weaken (fun _ _ _ _ => trivial), nx_K.warm hW hN⟩⟩ rfl rfl hl.1 rfl (lv_room (Nat.le_of_ble_eq_true rfl)) d_Curve_init_29 ⟨Nat.le_of_ble_eq_true rfl, Nat.le_of_ble_eq_true rfl⟩) hS (fun q _ h => hFc q h) hFc (fun u t H1 locs ht hvm hw hB hz1 hk1 hS => ?_)
  obtain ⟨q1_9, hP1, hK1, hD1⟩ := hB
  rw [ht] at hP1
  have hK1 := va_K.moved hvm.symm hK1
  obtain ⟨hP, hD⟩ := va_join (wr := [(h0, .inr (2, [.ref q_1])), (q_1, .inl (cA_2, 17, .inr (.inr (.inr (.inr f_6)))))]) (w1 := [(q_8, .inr (6, [.ref dk, .ref q1_9, .int 0]))]) hP hD [2] [0, 1] rfl rfl (by decide) (by decide) hk1 hFc hP1 hD1
  have hK := (hK.sub (tys' := [(cA_2, .object "RealHouse$Poly")]) [0] rfl).app hK1
  generalize H1 = H at hP hS ⊢
  have hP : va_P (dC, dI) classes [(h0, .inr (2, [.ref q_1])), (q_1, .inl (cA_2, 17, .inr (.inr (.inr (.inr f_6))))), (q_8, .inr (6, [.ref dk, .ref q1_9, .int 0]))] H := hP
  have hD : va_D A [(h0, .inr (2, [.ref q_1])), (q_1, .inl (cA_2, 17, .inr (.inr (.inr (.inr f_6))))), (q_8, .inr (6, [.ref dk, .ref q1_9, .int 0]))] := hD
  have hK : va_K (dC, dI) classes [(cA_2, .object "RealHouse$Poly")] s := hK
  refine W.widen (k := 5) (n := 23) (Nat.le_of_ble_eq_true rfl) (Nat.le_of_ble_eq_true rfl) ?_
  refine va_astq (r := (R_Poly, F_Poly, 3)) hx hb hK hP hD hS 1 0 2 6 rfl rfl rfl rfl (vp_in_nI (n := 1) (by decide) (by decide)) d_Curve_init_32 (fun H locs hP hD hS => ?_)
  have hP : va_P (dC, dI) classes [(h0, .inr (2, [.ref q_1])), (q_1, .inl (cA_2, 17, .inr (.inr (.inr (.inr (va_up f_6 (1 : Int32).toNatClampNeg (some q_8))))))), (q_8, .inr (6, [.ref dk, .ref q1_9, .int 0]))] H := hP
  have hD : va_D A [(h0, .inr (2, [.ref q_1])), (q_1, .inl (cA_2, 17, .inr (.inr (.inr (.inr (va_up f_6 (1 : Int32).toNatClampNeg (some q_8))))))), (q_8, .inr (6, [.ref dk, .ref q1_9, .int 0]))] := hD
  generalize va_up f_6 (1 : Int32).toNatClampNeg (some q_8) = f_10 at hP hD
  have hP := hP.sub (ws' := [(h0, .inr (2, [.ref q_1])), (q_1, .inl (cA_2, 17, .inr (.inr (.inr (.inr f_10)))))]) [0, 1] rfl
  have hD := hD.sub (ws' := [(h0, .inr (2, [.ref q_1])), (q_1, .inl (cA_2, 17, .inr (.inr (.inr (.inr f_10)))))]) [0, 1] (by decide) rfl
  refine lv_iinc (v := 2) (lv' := [(3, .int 2), (0, .ref h0), (1, .ref dk), (2, .int 17)]) hx hb d_Curve_init_33 hl (k := 0) rfl (by decide) (by decide) rfl (fun ls hl => ?_)
  refine lv_goto (tgt := 14) hx hb d_Curve_init_36 (by decide) ?_
  refine lv_iload_n hx hb d_Curve_init_14 rfl (lv_at hl 0 rfl) ?_
  refine lv_iload_n hx hb d_Curve_init_15 rfl (lv_at hl 3 rfl) ?_
  refine lv_icmp_ge (tgt := 39) hx hb d_Curve_init_16 (by decide) (fun c_11 => absurd c_11 (by decide)) (fun c_11 => ?_)
  refine lv_aload_n hx hb d_Curve_init_19 rfl (lv_at hl 1 rfl) ?_
  refine va_get (D := (dC, dI)) (ci := 2) (v := .ref q_1) (C := R_Curve) (T := F_Curve) (N := 1) hx hb hT i_Curve hown hK hP 0 rfl rfl 0 (by decide) (hT _ tw_224) (fun _ h9 => h9) rfl d_Curve_init_20 ?_
  refine lv_iload_n hx hb d_Curve_init_23 rfl (lv_at hl 0 rfl) ?_
  refine va_new (ci := 6) (fs := [.null, .null, .int 0]) (C := R_Poly) (T := F_Poly) (N := 3) hx hb hT i_Poly t_Poly t_Poly_ok hown (hT _ tw_189) (hT _ tw_190) (hT _ tw_8) hK hP hD hS hA rfl (by decide) (Nat.le_of_ble_eq_true rfl) (Nat.le_of_ble_eq_true rfl) d_Curve_init_24 (fun q_12 H hP hD hS => ?_)
  have hP : va_P (dC, dI) classes [(h0, .inr (2, [.ref q_1])), (q_1, .inl (cA_2, 17, .inr (.inr (.inr (.inr f_10))))), (q_12, .inr (6, [.null, .null, .int 0]))] H := hP
  have hD : va_D A [(h0, .inr (2, [.ref q_1])), (q_1, .inl (cA_2, 17, .inr (.inr (.inr (.inr f_10))))), (q_12, .inr (6, [.null, .null, .int 0]))] := hD
  refine W.widen (k := 6) (n := 26) (Nat.le_of_ble_eq_true rfl) (Nat.le_of_ble_eq_true rfl) ?_
  refine lv_dup hx hb d_Curve_init_27 rfl ?_
  refine lv_aload_n hx hb d_Curve_init_28 rfl (lv_at hl 2 rfl) ?_
  have hPc := hP.sub (ws' := [(q_12, .inr (6, [.null, .null, .int 0]))]) [2] rfl
  have hDc := hD.sub (ws' := [(q_12, .inr (6, [.null, .null, .int 0]))]) [2] (by decide) rfl
  have hKc := hK.sub (tys' := []) [] rfl
  have hFc := va_free (wc := [(q_12, .inr (6, [.null, .null, .int 0]))]) hD hS hA [2] rfl
  refine va_callv (va_runI (As := [.ref dk]) (rest := [.ref q_12, .int 2, .ref q_1]) ⟨hx, hb, hml, hown, hT⟩ (c_Poly_init l dC dI H.size q_12 dk ) (cwI 1 hT g_Poly_init rfl rfl rfl (hT _ tw_8) (hT _ tw_191) (hT _ tw_192) rfl (by decide +kernel) ⟨Nat.le_of_ble_eq_true rfl, Nat.le_of_ble_eq_true rfl⟩) ⟨fun a U g mk q => by obtain ⟨q0, q1, qP, qK, qD, qN⟩ := q; exact ⟨q0, q1, qP, va_K.moved (u := U) (U := U.calling g mk a) (Vm.Alike.refl U.vm) qK, qD, nx_K.same (u := U) (U := U.calling g mk a) rfl qN⟩, fun U hU hW => ⟨rfl, by rw [hU], by rw [hU]; exact hPc, va_K.moved hW.alike hKc, hDc.weaken (fun _ _ _ _ => trivial), nx_K.warm hW hN⟩⟩ rfl rfl hl.1 rfl (lv_room (Nat.le_of_ble_eq_true rfl)) d_Curve_init_29 ⟨Nat.le_of_ble_eq_true rfl, Nat.le_of_ble_eq_true rfl⟩) hS (fun q _ h => hFc q h) hFc (fun u t H1 locs ht hvm hw hB hz1 hk1 hS => ?_)
  obtain ⟨q1_13, hP1, hK1, hD1⟩ := hB
  rw [ht] at hP1
  have hK1 := va_K.moved hvm.symm hK1
  obtain ⟨hP, hD⟩ := va_join (wr := [(h0, .inr (2, [.ref q_1])), (q_1, .inl (cA_2, 17, .inr (.inr (.inr (.inr f_10)))))]) (w1 := [(q_12, .inr (6, [.ref dk, .ref q1_13, .int 0]))]) hP hD [2] [0, 1] rfl rfl (by decide) (by decide) hk1 hFc hP1 hD1
  have hK := (hK.sub (tys' := [(cA_2, .object "RealHouse$Poly")]) [0] rfl).app hK1
  generalize H1 = H at hP hS ⊢
  have hP : va_P (dC, dI) classes [(h0, .inr (2, [.ref q_1])), (q_1, .inl (cA_2, 17, .inr (.inr (.inr (.inr f_10))))), (q_12, .inr (6, [.ref dk, .ref q1_13, .int 0]))] H := hP
  have hD : va_D A [(h0, .inr (2, [.ref q_1])), (q_1, .inl (cA_2, 17, .inr (.inr (.inr (.inr f_10))))), (q_12, .inr (6, [.ref dk, .ref q1_13, .int 0]))] := hD
  have hK : va_K (dC, dI) classes [(cA_2, .object "RealHouse$Poly")] s := hK
  refine W.widen (k := 7) (n := 26) (Nat.le_of_ble_eq_true rfl) (Nat.le_of_ble_eq_true rfl) ?_
  refine va_astq (r := (R_Poly, F_Poly, 3)) hx hb hK hP hD hS 1 0 2 6 rfl rfl rfl rfl (vp_in_nI (n := 2) (by decide) (by decide)) d_Curve_init_32 (fun H locs hP hD hS => ?_)
  have hP : va_P (dC, dI) classes [(h0, .inr (2, [.ref q_1])), (q_1, .inl (cA_2, 17, .inr (.inr (.inr (.inr (va_up f_10 (2 : Int32).toNatClampNeg (some q_12))))))), (q_12, .inr (6, [.ref dk, .ref q1_13, .int 0]))] H := hP
  have hD : va_D A [(h0, .inr (2, [.ref q_1])), (q_1, .inl (cA_2, 17, .inr (.inr (.inr (.inr (va_up f_10 (2 : Int32).toNatClampNeg (some q_12))))))), (q_12, .inr (6, [.ref dk, .ref q1_13, .int 0]))] := hD
  generalize va_up f_10 (2 : Int32).toNatClampNeg (some q_12) = f_14 at hP hD
  have hP := hP.sub (ws' := [(h0, .inr (2, [.ref q_1])), (q_1, .inl (cA_2, 17, .inr (.inr (.inr (.inr f_14)))))]) [0, 1] rfl
  have hD := hD.sub (ws' := [(h0, .inr (2, [.ref q_1])), (q_1, .inl (cA_2, 17, .inr (.inr (.inr (.inr f_14)))))]) [0, 1] (by decide) rfl
  refine lv_iinc (v := 3) (lv' := [(3, .int 3), (0, .ref h0), (1, .ref dk), (2, .int 17)]) hx hb d_Curve_init_33 hl (k := 0) rfl (by decide) (by decide) rfl (fun ls hl => ?_)
  refine lv_goto (tgt := 14) hx hb d_Curve_init_36 (by decide) ?_
  refine lv_iload_n hx hb d_Curve_init_14 rfl (lv_at hl 0 rfl) ?_
  refine lv_iload_n hx hb d_Curve_init_15 rfl (lv_at hl 3 rfl) ?_
  refine lv_icmp_ge (tgt := 39) hx hb d_Curve_init_16 (by decide) (fun c_15 => absurd c_15 (by decide)) (fun c_15 => ?_)
  refine lv_aload_n hx hb d_Curve_init_19 rfl (lv_at hl 1 rfl) ?_
  refine va_get (D := (dC, dI)) (ci := 2) (v := .ref q_1) (C := R_Curve) (T := F_Curve) (N := 1) hx hb hT i_Curve hown hK hP 0 rfl rfl 0 (by decide) (hT _ tw_224) (fun _ h9 => h9) rfl d_Curve_init_20 ?_
  refine lv_iload_n hx hb d_Curve_init_23 rfl (lv_at hl 0 rfl) ?_
  refine va_new (ci := 6) (fs := [.null, .null, .int 0]) (C := R_Poly) (T := F_Poly) (N := 3) hx hb hT i_Poly t_Poly t_Poly_ok hown (hT _ tw_189) (hT _ tw_190) (hT _ tw_8) hK hP hD hS hA rfl (by decide) (Nat.le_of_ble_eq_true rfl) (Nat.le_of_ble_eq_true rfl) d_Curve_init_24 (fun q_16 H hP hD hS => ?_)
  have hP : va_P (dC, dI) classes [(h0, .inr (2, [.ref q_1])), (q_1, .inl (cA_2, 17, .inr (.inr (.inr (.inr f_14))))), (q_16, .inr (6, [.null, .null, .int 0]))] H := hP
  have hD : va_D A [(h0, .inr (2, [.ref q_1])), (q_1, .inl (cA_2, 17, .inr (.inr (.inr (.inr f_14))))), (q_16, .inr (6, [.null, .null, .int 0]))] := hD
  refine W.widen (k := 8) (n := 29) (Nat.le_of_ble_eq_true rfl) (Nat.le_of_ble_eq_true rfl) ?_
  refine lv_dup hx hb d_Curve_init_27 rfl ?_
  refine lv_aload_n hx hb d_Curve_init_28 rfl (lv_at hl 2 rfl) ?_
  have hPc := hP.sub (ws' := [(q_16, .inr (6, [.null, .null, .int 0]))]) [2] rfl
  have hDc := hD.sub (ws' := [(q_16, .inr (6, [.null, .null, .int 0]))]) [2] (by decide) rfl
  have hKc := hK.sub (tys' := []) [] rfl
  have hFc := va_free (wc := [(q_16, .inr (6, [.null, .null, .int 0]))]) hD hS hA [2] rfl
  refine va_callv (va_runI (As := [.ref dk]) (rest := [.ref q_16, .int 3, .ref q_1]) ⟨hx, hb, hml, hown, hT⟩ (c_Poly_init l dC dI H.size q_16 dk ) (cwI 1 hT g_Poly_init rfl rfl rfl (hT _ tw_8) (hT _ tw_191) (hT _ tw_192) rfl (by decide +kernel) ⟨Nat.le_of_ble_eq_true rfl, Nat.le_of_ble_eq_true rfl⟩) ⟨fun a U g mk q => by obtain ⟨q0, q1, qP, qK, qD, qN⟩ := q; exact ⟨q0, q1, qP, va_K.moved (u := U) (U := U.calling g mk a) (Vm.Alike.refl U.vm) qK, qD, nx_K.same (u := U) (U := U.calling g mk a) rfl qN⟩, fun U hU hW => ⟨rfl, by rw [hU], by rw [hU]; exact hPc, va_K.moved hW.alike hKc, hDc.weaken (fun _ _ _ _ => trivial), nx_K.warm hW hN⟩⟩ rfl rfl hl.1 rfl (lv_room (Nat.le_of_ble_eq_true rfl)) d_Curve_init_29 ⟨Nat.le_of_ble_eq_true rfl, Nat.le_of_ble_eq_true rfl⟩) hS (fun q _ h => hFc q h) hFc (fun u t H1 locs ht hvm hw hB hz1 hk1 hS => ?_)
  obtain ⟨q1_17, hP1, hK1, hD1⟩ := hB
  rw [ht] at hP1
  have hK1 := va_K.moved hvm.symm hK1
  obtain ⟨hP, hD⟩ := va_join (wr := [(h0, .inr (2, [.ref q_1])), (q_1, .inl (cA_2, 17, .inr (.inr (.inr (.inr f_14)))))]) (w1 := [(q_16, .inr (6, [.ref dk, .ref q1_17, .int 0]))]) hP hD [2] [0, 1] rfl rfl (by decide) (by decide) hk1 hFc hP1 hD1
  have hK := (hK.sub (tys' := [(cA_2, .object "RealHouse$Poly")]) [0] rfl).app hK1
  generalize H1 = H at hP hS ⊢
  have hP : va_P (dC, dI) classes [(h0, .inr (2, [.ref q_1])), (q_1, .inl (cA_2, 17, .inr (.inr (.inr (.inr f_14))))), (q_16, .inr (6, [.ref dk, .ref q1_17, .int 0]))] H := hP
  have hD : va_D A [(h0, .inr (2, [.ref q_1])), (q_1, .inl (cA_2, 17, .inr (.inr (.inr (.inr f_14))))), (q_16, .inr (6, [.ref dk, .ref q1_17, .int 0]))] := hD
  have hK : va_K (dC, dI) classes [(cA_2, .object "RealHouse$Poly")] s := hK
  refine W.widen (k := 9) (n := 29) (Nat.le_of_ble_eq_true rfl) (Nat.le_of_ble_eq_true rfl) ?_
  refine va_astq (r := (R_Poly, F_Poly, 3)) hx hb hK hP hD hS 1 0 2 6 rfl rfl rfl rfl (vp_in_nI (n := 3) (by decide) (by decide)) d_Curve_init_32 (fun H locs hP hD hS => ?_)
  have hP : va_P (dC, dI) classes [(h0, .inr (2, [.ref q_1])), (q_1, .inl (cA_2, 17, .inr (.inr (.inr (.inr (va_up f_14 (3 : Int32).toNatClampNeg (some q_16))))))), (q_16, .inr (6, [.ref dk, .ref q1_17, .int 0]))] H := hP
  have hD : va_D A [(h0, .inr (2, [.ref q_1])), (q_1, .inl (cA_2, 17, .inr (.inr (.inr (.inr (va_up f_14 (3 : Int32).toNatClampNeg (some q_16))))))), (q_16, .inr (6, [.ref dk, .ref q1_17, .int 0]))] := hD
  generalize va_up f_14 (3 : Int32).toNatClampNeg (some q_16) = f_18 at hP hD
  have hP := hP.sub (ws' := [(h0, .inr (2, [.ref q_1])), (q_1, .inl (cA_2, 17, .inr (.inr (.inr (.inr f_18)))))]) [0, 1] rfl
  have hD := hD.sub (ws' := [(h0, .inr (2, [.ref q_1])), (q_1, .inl (cA_2, 17, .inr (.inr (.inr (.inr f_18)))))]) [0, 1] (by decide) rfl
  refine lv_iinc (v := 4) (lv' := [(3, .int 4), (0, .ref h0), (1, .ref dk), (2, .int 17)]) hx hb d_Curve_init_33 hl (k := 0) rfl (by decide) (by decide) rfl (fun ls hl => ?_)
  refine lv_goto (tgt := 14) hx hb d_Curve_init_36 (by decide) ?_
  refine lv_iload_n hx hb d_Curve_init_14 rfl (lv_at hl 0 rfl) ?_
  refine lv_iload_n hx hb d_Curve_init_15 rfl (lv_at hl 3 rfl) ?_
  refine lv_icmp_ge (tgt := 39) hx hb d_Curve_init_16 (by decide) (fun c_19 => absurd c_19 (by decide)) (fun c_19 => ?_)
  refine lv_aload_n hx hb d_Curve_init_19 rfl (lv_at hl 1 rfl) ?_
  refine va_get (D := (dC, dI)) (ci := 2) (v := .ref q_1) (C := R_Curve) (T := F_Curve) (N := 1) hx hb hT i_Curve hown hK hP 0 rfl rfl 0 (by decide) (hT _ tw_224) (fun _ h9 => h9) rfl d_Curve_init_20 ?_
  refine lv_iload_n hx hb d_Curve_init_23 rfl (lv_at hl 0 rfl) ?_
  refine va_new (ci := 6) (fs := [.null, .null, .int 0]) (C := R_Poly) (T := F_Poly) (N := 3) hx hb hT i_Poly t_Poly t_Poly_ok hown (hT _ tw_189) (hT _ tw_190) (hT _ tw_8) hK hP hD hS hA rfl (by decide) (Nat.le_of_ble_eq_true rfl) (Nat.le_of_ble_eq_true rfl) d_Curve_init_24 (fun q_20 H hP hD hS => ?_)
  have hP : va_P (dC, dI) classes [(h0, .inr (2, [.ref q_1])), (q_1, .inl (cA_2, 17, .inr (.inr (.inr (.inr f_18))))), (q_20, .inr (6, [.null, .null, .int 0]))] H := hP
  have hD : va_D A [(h0, .inr (2, [.ref q_1])), (q_1, .inl (cA_2, 17, .inr (.inr (.inr (.inr f_18))))), (q_20, .inr (6, [.null, .null, .int 0]))] := hD
  refine W.widen (k := 10) (n := 32) (Nat.le_of_ble_eq_true rfl) (Nat.le_of_ble_eq_true rfl) ?_
  refine lv_dup hx hb d_Curve_init_27 rfl ?_
  refine lv_aload_n hx hb d_Curve_init_28 rfl (lv_at hl 2 rfl) ?_
  have hPc := hP.sub (ws' := [(q_20, .inr (6, [.null, .null, .int 0]))]) [2] rfl
  have hDc := hD.sub (ws' := [(q_20, .inr (6, [.null, .null, .int 0]))]) [2] (by decide) rfl
  have hKc := hK.sub (tys' := []) [] rfl
  have hFc := va_free (wc := [(q_20, .inr (6, [.null, .null, .int 0]))]) hD hS hA [2] rfl
  refine va_callv (va_runI (As := [.ref dk]) (rest := [.ref q_20, .int 4, .ref q_1]) ⟨hx, hb, hml, hown, hT⟩ (c_Poly_init l dC dI H.size q_20 dk ) (cwI 1 hT g_Poly_init rfl rfl rfl (hT _ tw_8) (hT _ tw_191) (hT _ tw_192) rfl (by decide +kernel) ⟨Nat.le_of_ble_eq_true rfl, Nat.le_of_ble_eq_true rfl⟩) ⟨fun a U g mk q => by obtain ⟨q0, q1, qP, qK, qD, qN⟩ := q; exact ⟨q0, q1, qP, va_K.moved (u := U) (U := U.calling g mk a) (Vm.Alike.refl U.vm) qK, qD, nx_K.same (u := U) (U := U.calling g mk a) rfl qN⟩, fun U hU hW => ⟨rfl, by rw [hU], by rw [hU]; exact hPc, va_K.moved hW.alike hKc, hDc.weaken (fun _ _ _ _ => trivial), nx_K.warm hW hN⟩⟩ rfl rfl hl.1 rfl (lv_room (Nat.le_of_ble_eq_true rfl)) d_Curve_init_29 ⟨Nat.le_of_ble_eq_true rfl, Nat.le_of_ble_eq_true rfl⟩) hS (fun q _ h => hFc q h) hFc (fun u t H1 locs ht hvm hw hB hz1 hk1 hS => ?_)
  obtain ⟨q1_21, hP1, hK1, hD1⟩ := hB
  rw [ht] at hP1
  have hK1 := va_K.moved hvm.symm hK1
  obtain ⟨hP, hD⟩ := va_join (wr := [(h0, .inr (2, [.ref q_1])), (q_1, .inl (cA_2, 17, .inr (.inr (.inr (.inr f_18)))))]) (w1 := [(q_20, .inr (6, [.ref dk, .ref q1_21, .int 0]))]) hP hD [2] [0, 1] rfl rfl (by decide) (by decide) hk1 hFc hP1 hD1
  have hK := (hK.sub (tys' := [(cA_2, .object "RealHouse$Poly")]) [0] rfl).app hK1
  generalize H1 = H at hP hS ⊢
  have hP : va_P (dC, dI) classes [(h0, .inr (2, [.ref q_1])), (q_1, .inl (cA_2, 17, .inr (.inr (.inr (.inr f_18))))), (q_20, .inr (6, [.ref dk, .ref q1_21, .int 0]))] H := hP
  have hD : va_D A [(h0, .inr (2, [.ref q_1])), (q_1, .inl (cA_2, 17, .inr (.inr (.inr (.inr f_18))))), (q_20, .inr (6, [.ref dk, .ref q1_21, .int 0]))] := hD
  have hK : va_K (dC, dI) classes [(cA_2, .object "RealHouse$Poly")] s := hK
  refine W.widen (k := 11) (n := 32) (Nat.le_of_ble_eq_true rfl) (Nat.le_of_ble_eq_true rfl) ?_
  refine va_astq (r := (R_Poly, F_Poly, 3)) hx hb hK hP hD hS 1 0 2 6 rfl rfl rfl rfl (vp_in_nI (n := 4) (by decide) (by decide)) d_Curve_init_32 (fun H locs hP hD hS => ?_)
  have hP : va_P (dC, dI) classes [(h0, .inr (2, [.ref q_1])), (q_1, .inl (cA_2, 17, .inr (.inr (.inr (.inr (va_up f_18 (4 : Int32).toNatClampNeg (some q_20))))))), (q_20, .inr (6, [.ref dk, .ref q1_21, .int 0]))] H := hP
  have hD : va_D A [(h0, .inr (2, [.ref q_1])), (q_1, .inl (cA_2, 17, .inr (.inr (.inr (.inr (va_up f_18 (4 : Int32).toNatClampNeg (some q_20))))))), (q_20, .inr (6, [.ref dk, .ref q1_21, .int 0]))] := hD
  generalize va_up f_18 (4 : Int32).toNatClampNeg (some q_20) = f_22 at hP hD
  have hP := hP.sub (ws' := [(h0, .inr (2, [.ref q_1])), (q_1, .inl (cA_2, 17, .inr (.inr (.inr (.inr f_22)))))]) [0, 1] rfl
  have hD := hD.sub (ws' := [(h0, .inr (2, [.ref q_1])), (q_1, .inl (cA_2, 17, .inr (.inr (.inr (.inr f_22)))))]) [0, 1] (by decide) rfl
  refine lv_iinc (v := 5) (lv' := [(3, .int 5), (0, .ref h0), (1, .ref dk), (2, .int 17)]) hx hb d_Curve_init_33 hl (k := 0) rfl (by decide) (by decide) rfl (fun ls hl => ?_)
  refine lv_goto (tgt := 14) hx hb d_Curve_init_36 (by decide) ?_
  refine lv_iload_n hx hb d_Curve_init_14 rfl (lv_at hl 0 rfl) ?_
  refine lv_iload_n hx hb d_Curve_init_15 rfl (lv_at hl 3 rfl) ?_
  refine lv_icmp_ge (tgt := 39) hx hb d_Curve_init_16 (by decide) (fun c_23 => absurd c_23 (by decide)) (fun c_23 => ?_)
  refine lv_aload_n hx hb d_Curve_init_19 rfl (lv_at hl 1 rfl) ?_
  refine va_get (D := (dC, dI)) (ci := 2) (v := .ref q_1) (C := R_Curve) (T := F_Curve) (N := 1) hx hb hT i_Curve hown hK hP 0 rfl rfl 0 (by decide) (hT _ tw_224) (fun _ h9 => h9) rfl d_Curve_init_20 ?_
  refine lv_iload_n hx hb d_Curve_init_23 rfl (lv_at hl 0 rfl) ?_
  refine va_new (ci := 6) (fs := [.null, .null, .int 0]) (C := R_Poly) (T := F_Poly) (N := 3) hx hb hT i_Poly t_Poly t_Poly_ok hown (hT _ tw_189) (hT _ tw_190) (hT _ tw_8) hK hP hD hS hA rfl (by decide) (Nat.le_of_ble_eq_true rfl) (Nat.le_of_ble_eq_true rfl) d_Curve_init_24 (fun q_24 H hP hD hS => ?_)
  have hP : va_P (dC, dI) classes [(h0, .inr (2, [.ref q_1])), (q_1, .inl (cA_2, 17, .inr (.inr (.inr (.inr f_22))))), (q_24, .inr (6, [.null, .null, .int 0]))] H := hP
  have hD : va_D A [(h0, .inr (2, [.ref q_1])), (q_1, .inl (cA_2, 17, .inr (.inr (.inr (.inr f_22))))), (q_24, .inr (6, [.null, .null, .int 0]))] := hD
  refine W.widen (k := 12) (n := 35) (Nat.le_of_ble_eq_true rfl) (Nat.le_of_ble_eq_true rfl) ?_
  refine lv_dup hx hb d_Curve_init_27 rfl ?_
  refine lv_aload_n hx hb d_Curve_init_28 rfl (lv_at hl 2 rfl) ?_
  have hPc := hP.sub (ws' := [(q_24, .inr (6, [.null, .null, .int 0]))]) [2] rfl
  have hDc := hD.sub (ws' := [(q_24, .inr (6, [.null, .null, .int 0]))]) [2] (by decide) rfl
  have hKc := hK.sub (tys' := []) [] rfl
  have hFc := va_free (wc := [(q_24, .inr (6, [.null, .null, .int 0]))]) hD hS hA [2] rfl
  refine va_callv (va_runI (As := [.ref dk]) (rest := [.ref q_24, .int 5, .ref q_1]) ⟨hx, hb, hml, hown, hT⟩ (c_Poly_init l dC dI H.size q_24 dk ) (cwI 1 hT g_Poly_init rfl rfl rfl (hT _ tw_8) (hT _ tw_191) (hT _ tw_192) rfl (by decide +kernel) ⟨Nat.le_of_ble_eq_true rfl, Nat.le_of_ble_eq_true rfl⟩) ⟨fun a U g mk q => by obtain ⟨q0, q1, qP, qK, qD, qN⟩ := q; exact ⟨q0, q1, qP, va_K.moved (u := U) (U := U.calling g mk a) (Vm.Alike.refl U.vm) qK, qD, nx_K.same (u := U) (U := U.calling g mk a) rfl qN⟩, fun U hU hW => ⟨rfl, by rw [hU], by rw [hU]; exact hPc, va_K.moved hW.alike hKc, hDc.weaken (fun _ _ _ _ => trivial), nx_K.warm hW hN⟩⟩ rfl rfl hl.1 rfl (lv_room (Nat.le_of_ble_eq_true rfl)) d_Curve_init_29 ⟨Nat.le_of_ble_eq_true rfl, Nat.le_of_ble_eq_true rfl⟩) hS (fun q _ h => hFc q h) hFc (fun u t H1 locs ht hvm hw hB hz1 hk1 hS => ?_)
  obtain ⟨q1_25, hP1, hK1, hD1⟩ := hB
  rw [ht] at hP1
  have hK1 := va_K.moved hvm.symm hK1
  obtain ⟨hP, hD⟩ := va_join (wr := [(h0, .inr (2, [.ref q_1])), (q_1, .inl (cA_2, 17, .inr (.inr (.inr (.inr f_22)))))]) (w1 := [(q_24, .inr (6, [.ref dk, .ref q1_25, .int 0]))]) hP hD [2] [0, 1] rfl rfl (by decide) (by decide) hk1 hFc hP1 hD1
  have hK := (hK.sub (tys' := [(cA_2, .object "RealHouse$Poly")]) [0] rfl).app hK1
  generalize H1 = H at hP hS ⊢
  have hP : va_P (dC, dI) classes [(h0, .inr (2, [.ref q_1])), (q_1, .inl (cA_2, 17, .inr (.inr (.inr (.inr f_22))))), (q_24, .inr (6, [.ref dk, .ref q1_25, .int 0]))] H := hP
  have hD : va_D A [(h0, .inr (2, [.ref q_1])), (q_1, .inl (cA_2, 17, .inr (.inr (.inr (.inr f_22))))), (q_24, .inr (6, [.ref dk, .ref q1_25, .int 0]))] := hD
  have hK : va_K (dC, dI) classes [(cA_2, .object "RealHouse$Poly")] s := hK
  refine W.widen (k := 13) (n := 35) (Nat.le_of_ble_eq_true rfl) (Nat.le_of_ble_eq_true rfl) ?_
  refine va_astq (r := (R_Poly, F_Poly, 3)) hx hb hK hP hD hS 1 0 2 6 rfl rfl rfl rfl (vp_in_nI (n := 5) (by decide) (by decide)) d_Curve_init_32 (fun H locs hP hD hS => ?_)
  have hP : va_P (dC, dI) classes [(h0, .inr (2, [.ref q_1])), (q_1, .inl (cA_2, 17, .inr (.inr (.inr (.inr (va_up f_22 (5 : Int32).toNatClampNeg (some q_24))))))), (q_24, .inr (6, [.ref dk, .ref q1_25, .int 0]))] H := hP
  have hD : va_D A [(h0, .inr (2, [.ref q_1])), (q_1, .inl (cA_2, 17, .inr (.inr (.inr (.inr (va_up f_22 (5 : Int32).toNatClampNeg (some q_24))))))), (q_24, .inr (6, [.ref dk, .ref q1_25, .int 0]))] := hD
  generalize va_up f_22 (5 : Int32).toNatClampNeg (some q_24) = f_26 at hP hD
  have hP := hP.sub (ws' := [(h0, .inr (2, [.ref q_1])), (q_1, .inl (cA_2, 17, .inr (.inr (.inr (.inr f_26)))))]) [0, 1] rfl
  have hD := hD.sub (ws' := [(h0, .inr (2, [.ref q_1])), (q_1, .inl (cA_2, 17, .inr (.inr (.inr (.inr f_26)))))]) [0, 1] (by decide) rfl
  refine lv_iinc (v := 6) (lv' := [(3, .int 6), (0, .ref h0), (1, .ref dk), (2, .int 17)]) hx hb d_Curve_init_33 hl (k := 0) rfl (by decide) (by decide) rfl (fun ls hl => ?_)
  refine lv_goto (tgt := 14) hx hb d_Curve_init_36 (by decide) ?_
  refine lv_iload_n hx hb d_Curve_init_14 rfl (lv_at hl 0 rfl) ?_
  refine lv_iload_n hx hb d_Curve_init_15 rfl (lv_at hl 3 rfl) ?_
  refine lv_icmp_ge (tgt := 39) hx hb d_Curve_init_16 (by decide) (fun c_27 => absurd c_27 (by decide)) (fun c_27 => ?_)
  refine lv_aload_n hx hb d_Curve_init_19 rfl (lv_at hl 1 rfl) ?_
  refine va_get (D := (dC, dI)) (ci := 2) (v := .ref q_1) (C := R_Curve) (T := F_Curve) (N := 1) hx hb hT i_Curve hown hK hP 0 rfl rfl 0 (by decide) (hT _ tw_224) (fun _ h9 => h9) rfl d_Curve_init_20 ?_
  refine lv_iload_n hx hb d_Curve_init_23 rfl (lv_at hl 0 rfl) ?_
  refine va_new (ci := 6) (fs := [.null, .null, .int 0]) (C := R_Poly) (T := F_Poly) (N := 3) hx hb hT i_Poly t_Poly t_Poly_ok hown (hT _ tw_189) (hT _ tw_190) (hT _ tw_8) hK hP hD hS hA rfl (by decide) (Nat.le_of_ble_eq_true rfl) (Nat.le_of_ble_eq_true rfl) d_Curve_init_24 (fun q_28 H hP hD hS => ?_)
  have hP : va_P (dC, dI) classes [(h0, .inr (2, [.ref q_1])), (q_1, .inl (cA_2, 17, .inr (.inr (.inr (.inr f_26))))), (q_28, .inr (6, [.null, .null, .int 0]))] H := hP
  have hD : va_D A [(h0, .inr (2, [.ref q_1])), (q_1, .inl (cA_2, 17, .inr (.inr (.inr (.inr f_26))))), (q_28, .inr (6, [.null, .null, .int 0]))] := hD
  refine W.widen (k := 14) (n := 38) (Nat.le_of_ble_eq_true rfl) (Nat.le_of_ble_eq_true rfl) ?_
  refine lv_dup hx hb d_Curve_init_27 rfl ?_
  refine lv_aload_n hx hb d_Curve_init_28 rfl (lv_at hl 2 rfl) ?_
  have hPc := hP.sub (ws' := [(q_28, .inr (6, [.null, .null, .int 0]))]) [2] rfl
  have hDc := hD.sub (ws' := [(q_28, .inr (6, [.null, .null, .int 0]))]) [2] (by decide) rfl
  have hKc := hK.sub (tys' := []) [] rfl
  have hFc := va_free (wc := [(q_28, .inr (6, [.null, .null, .int 0]))]) hD hS hA [2] rfl
  refine va_callv (va_runI (As := [.ref dk]) (rest := [.ref q_28, .int 6, .ref q_1]) ⟨hx, hb, hml, hown, hT⟩ (c_Poly_init l dC dI H.size q_28 dk ) (cwI 1 hT g_Poly_init rfl rfl rfl (hT _ tw_8) (hT _ tw_191) (hT _ tw_192) rfl (by decide +kernel) ⟨Nat.le_of_ble_eq_true rfl, Nat.le_of_ble_eq_true rfl⟩) ⟨fun a U g mk q => by obtain ⟨q0, q1, qP, qK, qD, qN⟩ := q; exact ⟨q0, q1, qP, va_K.moved (u := U) (U := U.calling g mk a) (Vm.Alike.refl U.vm) qK, qD, nx_K.same (u := U) (U := U.calling g mk a) rfl qN⟩, fun U hU hW => ⟨rfl, by rw [hU], by rw [hU]; exact hPc, va_K.moved hW.alike hKc, hDc.weaken (fun _ _ _ _ => trivial), nx_K.warm hW hN⟩⟩ rfl rfl hl.1 rfl (lv_room (Nat.le_of_ble_eq_true rfl)) d_Curve_init_29 ⟨Nat.le_of_ble_eq_true rfl, Nat.le_of_ble_eq_true rfl⟩) hS (fun q _ h => hFc q h) hFc (fun u t H1 locs ht hvm hw hB hz1 hk1 hS => ?_)
  obtain ⟨q1_29, hP1, hK1, hD1⟩ := hB
  rw [ht] at hP1
  have hK1 := va_K.moved hvm.symm hK1
  obtain ⟨hP, hD⟩ := va_join (wr := [(h0, .inr (2, [.ref q_1])), (q_1, .inl (cA_2, 17, .inr (.inr (.inr (.inr f_26)))))]) (w1 := [(q_28, .inr (6, [.ref dk, .ref q1_29, .int 0]))]) hP hD [2] [0, 1] rfl rfl (by decide) (by decide) hk1 hFc hP1 hD1
  have hK := (hK.sub (tys' := [(cA_2, .object "RealHouse$Poly")]) [0] rfl).app hK1
  generalize H1 = H at hP hS ⊢
  have hP : va_P (dC, dI) classes [(h0, .inr (2, [.ref q_1])), (q_1, .inl (cA_2, 17, .inr (.inr (.inr (.inr f_26))))), (q_28, .inr (6, [.ref dk, .ref q1_29, .int 0]))] H := hP
  have hD : va_D A [(h0, .inr (2, [.ref q_1])), (q_1, .inl (cA_2, 17, .inr (.inr (.inr (.inr f_26))))), (q_28, .inr (6, [.ref dk, .ref q1_29, .int 0]))] := hD
  have hK : va_K (dC, dI) classes [(cA_2, .object "RealHouse$Poly")] s := hK
  refine W.widen (k := 15) (n := 38) (Nat.le_of_ble_eq_true rfl) (Nat.le_of_ble_eq_true rfl) ?_
  refine va_astq (r := (R_Poly, F_Poly, 3)) hx hb hK hP hD hS 1 0 2 6 rfl rfl rfl rfl (vp_in_nI (n := 6) (by decide) (by decide)) d_Curve_init_32 (fun H locs hP hD hS => ?_)
  have hP : va_P (dC, dI) classes [(h0, .inr (2, [.ref q_1])), (q_1, .inl (cA_2, 17, .inr (.inr (.inr (.inr (va_up f_26 (6 : Int32).toNatClampNeg (some q_28))))))), (q_28, .inr (6, [.ref dk, .ref q1_29, .int 0]))] H := hP
  have hD : va_D A [(h0, .inr (2, [.ref q_1])), (q_1, .inl (cA_2, 17, .inr (.inr (.inr (.inr (va_up f_26 (6 : Int32).toNatClampNeg (some q_28))))))), (q_28, .inr (6, [.ref dk, .ref q1_29, .int 0]))] := hD
  generalize va_up f_26 (6 : Int32).toNatClampNeg (some q_28) = f_30 at hP hD
  have hP := hP.sub (ws' := [(h0, .inr (2, [.ref q_1])), (q_1, .inl (cA_2, 17, .inr (.inr (.inr (.inr f_30)))))]) [0, 1] rfl
  have hD := hD.sub (ws' := [(h0, .inr (2, [.ref q_1])), (q_1, .inl (cA_2, 17, .inr (.inr (.inr (.inr f_30)))))]) [0, 1] (by decide) rfl
  refine lv_iinc (v := 7) (lv' := [(3, .int 7), (0, .ref h0), (1, .ref dk), (2, .int 17)]) hx hb d_Curve_init_33 hl (k := 0) rfl (by decide) (by decide) rfl (fun ls hl => ?_)
  refine lv_goto (tgt := 14) hx hb d_Curve_init_36 (by decide) ?_
  refine lv_iload_n hx hb d_Curve_init_14 rfl (lv_at hl 0 rfl) ?_
  refine lv_iload_n hx hb d_Curve_init_15 rfl (lv_at hl 3 rfl) ?_
  refine lv_icmp_ge (tgt := 39) hx hb d_Curve_init_16 (by decide) (fun c_31 => absurd c_31 (by decide)) (fun c_31 => ?_)
  refine lv_aload_n hx hb d_Curve_init_19 rfl (lv_at hl 1 rfl) ?_
  refine va_get (D := (dC, dI)) (ci := 2) (v := .ref q_1) (C := R_Curve) (T := F_Curve) (N := 1) hx hb hT i_Curve hown hK hP 0 rfl rfl 0 (by decide) (hT _ tw_224) (fun _ h9 => h9) rfl d_Curve_init_20 ?_
  refine lv_iload_n hx hb d_Curve_init_23 rfl (lv_at hl 0 rfl) ?_
  refine va_new (ci := 6) (fs := [.null, .null, .int 0]) (C := R_Poly) (T := F_Poly) (N := 3) hx hb hT i_Poly t_Poly t_Poly_ok hown (hT _ tw_189) (hT _ tw_190) (hT _ tw_8) hK hP hD hS hA rfl (by decide) (Nat.le_of_ble_eq_true rfl) (Nat.le_of_ble_eq_true rfl) d_Curve_init_24 (fun q_32 H hP hD hS => ?_)
  have hP : va_P (dC, dI) classes [(h0, .inr (2, [.ref q_1])), (q_1, .inl (cA_2, 17, .inr (.inr (.inr (.inr f_30))))), (q_32, .inr (6, [.null, .null, .int 0]))] H := hP
  have hD : va_D A [(h0, .inr (2, [.ref q_1])), (q_1, .inl (cA_2, 17, .inr (.inr (.inr (.inr f_30))))), (q_32, .inr (6, [.null, .null, .int 0]))] := hD
  refine W.widen (k := 16) (n := 41) (Nat.le_of_ble_eq_true rfl) (Nat.le_of_ble_eq_true rfl) ?_
  refine lv_dup hx hb d_Curve_init_27 rfl ?_
  refine lv_aload_n hx hb d_Curve_init_28 rfl (lv_at hl 2 rfl) ?_
  have hPc := hP.sub (ws' := [(q_32, .inr (6, [.null, .null, .int 0]))]) [2] rfl
  have hDc := hD.sub (ws' := [(q_32, .inr (6, [.null, .null, .int 0]))]) [2] (by decide) rfl
  have hKc := hK.sub (tys' := []) [] rfl
  have hFc := va_free (wc := [(q_32, .inr (6, [.null, .null, .int 0]))]) hD hS hA [2] rfl
  refine va_callv (va_runI (As := [.ref dk]) (rest := [.ref q_32, .int 7, .ref q_1]) ⟨hx, hb, hml, hown, hT⟩ (c_Poly_init l dC dI H.size q_32 dk ) (cwI 1 hT g_Poly_init rfl rfl rfl (hT _ tw_8) (hT _ tw_191) (hT _ tw_192) rfl (by decide +kernel) ⟨Nat.le_of_ble_eq_true rfl, Nat.le_of_ble_eq_true rfl⟩) ⟨fun a U g mk q => by obtain ⟨q0, q1, qP, qK, qD, qN⟩ := q; exact ⟨q0, q1, qP, va_K.moved (u := U) (U := U.calling g mk a) (Vm.Alike.refl U.vm) qK, qD, nx_K.same (u := U) (U := U.calling g mk a) rfl qN⟩, fun U hU hW => ⟨rfl, by rw [hU], by rw [hU]; exact hPc, va_K.moved hW.alike hKc, hDc.weaken (fun _ _ _ _ => trivial), nx_K.warm hW hN⟩⟩ rfl rfl hl.1 rfl (lv_room (Nat.le_of_ble_eq_true rfl)) d_Curve_init_29 ⟨Nat.le_of_ble_eq_true rfl, Nat.le_of_ble_eq_true rfl⟩) hS (fun q _ h => hFc q h) hFc (fun u t H1 locs ht hvm hw hB hz1 hk1 hS => ?_)
  obtain ⟨q1_33, hP1, hK1, hD1⟩ := hB
  rw [ht] at hP1
  have hK1 := va_K.moved hvm.symm hK1
  obtain ⟨hP, hD⟩ := va_join (wr := [(h0, .inr (2, [.ref q_1])), (q_1, .inl (cA_2, 17, .inr (.inr (.inr (.inr f_30)))))]) (w1 := [(q_32, .inr (6, [.ref dk, .ref q1_33, .int 0]))]) hP hD [2] [0, 1] rfl rfl (by decide) (by decide) hk1 hFc hP1 hD1
  have hK := (hK.sub (tys' := [(cA_2, .object "RealHouse$Poly")]) [0] rfl).app hK1
  generalize H1 = H at hP hS ⊢
  have hP : va_P (dC, dI) classes [(h0, .inr (2, [.ref q_1])), (q_1, .inl (cA_2, 17, .inr (.inr (.inr (.inr f_30))))), (q_32, .inr (6, [.ref dk, .ref q1_33, .int 0]))] H := hP
  have hD : va_D A [(h0, .inr (2, [.ref q_1])), (q_1, .inl (cA_2, 17, .inr (.inr (.inr (.inr f_30))))), (q_32, .inr (6, [.ref dk, .ref q1_33, .int 0]))] := hD
  have hK : va_K (dC, dI) classes [(cA_2, .object "RealHouse$Poly")] s := hK
  refine W.widen (k := 17) (n := 41) (Nat.le_of_ble_eq_true rfl) (Nat.le_of_ble_eq_true rfl) ?_
  refine va_astq (r := (R_Poly, F_Poly, 3)) hx hb hK hP hD hS 1 0 2 6 rfl rfl rfl rfl (vp_in_nI (n := 7) (by decide) (by decide)) d_Curve_init_32 (fun H locs hP hD hS => ?_)
  have hP : va_P (dC, dI) classes [(h0, .inr (2, [.ref q_1])), (q_1, .inl (cA_2, 17, .inr (.inr (.inr (.inr (va_up f_30 (7 : Int32).toNatClampNeg (some q_32))))))), (q_32, .inr (6, [.ref dk, .ref q1_33, .int 0]))] H := hP
  have hD : va_D A [(h0, .inr (2, [.ref q_1])), (q_1, .inl (cA_2, 17, .inr (.inr (.inr (.inr (va_up f_30 (7 : Int32).toNatClampNeg (some q_32))))))), (q_32, .inr (6, [.ref dk, .ref q1_33, .int 0]))] := hD
  generalize va_up f_30 (7 : Int32).toNatClampNeg (some q_32) = f_34 at hP hD
  have hP := hP.sub (ws' := [(h0, .inr (2, [.ref q_1])), (q_1, .inl (cA_2, 17, .inr (.inr (.inr (.inr f_34)))))]) [0, 1] rfl
  have hD := hD.sub (ws' := [(h0, .inr (2, [.ref q_1])), (q_1, .inl (cA_2, 17, .inr (.inr (.inr (.inr f_34)))))]) [0, 1] (by decide) rfl
  refine lv_iinc (v := 8) (lv' := [(3, .int 8), (0, .ref h0), (1, .ref dk), (2, .int 17)]) hx hb d_Curve_init_33 hl (k := 0) rfl (by decide) (by decide) rfl (fun ls hl => ?_)
  refine lv_goto (tgt := 14) hx hb d_Curve_init_36 (by decide) ?_
  refine lv_iload_n hx hb d_Curve_init_14 rfl (lv_at hl 0 rfl) ?_
  refine lv_iload_n hx hb d_Curve_init_15 rfl (lv_at hl 3 rfl) ?_
  refine lv_icmp_ge (tgt := 39) hx hb d_Curve_init_16 (by decide) (fun c_35 => absurd c_35 (by decide)) (fun c_35 => ?_)
  refine lv_aload_n hx hb d_Curve_init_19 rfl (lv_at hl 1 rfl) ?_
  refine va_get (D := (dC, dI)) (ci := 2) (v := .ref q_1) (C := R_Curve) (T := F_Curve) (N := 1) hx hb hT i_Curve hown hK hP 0 rfl rfl 0 (by decide) (hT _ tw_224) (fun _ h9 => h9) rfl d_Curve_init_20 ?_
  refine lv_iload_n hx hb d_Curve_init_23 rfl (lv_at hl 0 rfl) ?_
  refine va_new (ci := 6) (fs := [.null, .null, .int 0]) (C := R_Poly) (T := F_Poly) (N := 3) hx hb hT i_Poly t_Poly t_Poly_ok hown (hT _ tw_189) (hT _ tw_190) (hT _ tw_8) hK hP hD hS hA rfl (by decide) (Nat.le_of_ble_eq_true rfl) (Nat.le_of_ble_eq_true rfl) d_Curve_init_24 (fun q_36 H hP hD hS => ?_)
  have hP : va_P (dC, dI) classes [(h0, .inr (2, [.ref q_1])), (q_1, .inl (cA_2, 17, .inr (.inr (.inr (.inr f_34))))), (q_36, .inr (6, [.null, .null, .int 0]))] H := hP
  have hD : va_D A [(h0, .inr (2, [.ref q_1])), (q_1, .inl (cA_2, 17, .inr (.inr (.inr (.inr f_34))))), (q_36, .inr (6, [.null, .null, .int 0]))] := hD
  refine W.widen (k := 18) (n := 44) (Nat.le_of_ble_eq_true rfl) (Nat.le_of_ble_eq_true rfl) ?_
  refine lv_dup hx hb d_Curve_init_27 rfl ?_
  refine lv_aload_n hx hb d_Curve_init_28 rfl (lv_at hl 2 rfl) ?_
  have hPc := hP.sub (ws' := [(q_36, .inr (6, [.null, .null, .int 0]))]) [2] rfl
  have hDc := hD.sub (ws' := [(q_36, .inr (6, [.null, .null, .int 0]))]) [2] (by decide) rfl
  have hKc := hK.sub (tys' := []) [] rfl
  have hFc := va_free (wc := [(q_36, .inr (6, [.null, .null, .int 0]))]) hD hS hA [2] rfl
  refine va_callv (va_runI (As := [.ref dk]) (rest := [.ref q_36, .int 8, .ref q_1]) ⟨hx, hb, hml, hown, hT⟩ (c_Poly_init l dC dI H.size q_36 dk ) (cwI 1 hT g_Poly_init rfl rfl rfl (hT _ tw_8) (hT _ tw_191) (hT _ tw_192) rfl (by decide +kernel) ⟨Nat.le_of_ble_eq_true rfl, Nat.le_of_ble_eq_true rfl⟩) ⟨fun a U g mk q => by obtain ⟨q0, q1, qP, qK, qD, qN⟩ := q; exact ⟨q0, q1, qP, va_K.moved (u := U) (U := U.calling g mk a) (Vm.Alike.refl U.vm) qK, qD, nx_K.same (u := U) (U := U.calling g mk a) rfl qN⟩, fun U hU hW => ⟨rfl, by rw [hU], by rw [hU]; exact hPc, va_K.moved hW.alike hKc, hDc.weaken (fun _ _ _ _ => trivial), nx_K.warm hW hN⟩⟩ rfl rfl hl.1 rfl (lv_room (Nat.le_of_ble_eq_true rfl)) d_Curve_init_29 ⟨Nat.le_of_ble_eq_true rfl, Nat.le_of_ble_eq_true rfl⟩) hS (fun q _ h => hFc q h) hFc (fun u t H1 locs ht hvm hw hB hz1 hk1 hS => ?_)
  obtain ⟨q1_37, hP1, hK1, hD1⟩ := hB
  rw [ht] at hP1
  have hK1 := va_K.moved hvm.symm hK1
  obtain ⟨hP, hD⟩ := va_join (wr := [(h0, .inr (2, [.ref q_1])), (q_1, .inl (cA_2, 17, .inr (.inr (.inr (.inr f_34)))))]) (w1 := [(q_36, .inr (6, [.ref dk, .ref q1_37, .int 0]))]) hP hD [2] [0, 1] rfl rfl (by decide) (by decide) hk1 hFc hP1 hD1
  have hK := (hK.sub (tys' := [(cA_2, .object "RealHouse$Poly")]) [0] rfl).app hK1
  generalize H1 = H at hP hS ⊢
  have hP : va_P (dC, dI) classes [(h0, .inr (2, [.ref q_1])), (q_1, .inl (cA_2, 17, .inr (.inr (.inr (.inr f_34))))), (q_36, .inr (6, [.ref dk, .ref q1_37, .int 0]))] H := hP
  have hD : va_D A [(h0, .inr (2, [.ref q_1])), (q_1, .inl (cA_2, 17, .inr (.inr (.inr (.inr f_34))))), (q_36, .inr (6, [.ref dk, .ref q1_37, .int 0]))] := hD
  have hK : va_K (dC, dI) classes [(cA_2, .object "RealHouse$Poly")] s := hK
  refine W.widen (k := 19) (n := 44) (Nat.le_of_ble_eq_true rfl) (Nat.le_of_ble_eq_true rfl) ?_
  refine va_astq (r := (R_Poly, F_Poly, 3)) hx hb hK hP hD hS 1 0 2 6 rfl rfl rfl rfl (vp_in_nI (n := 8) (by decide) (by decide)) d_Curve_init_32 (fun H locs hP hD hS => ?_)
  have hP : va_P (dC, dI) classes [(h0, .inr (2, [.ref q_1])), (q_1, .inl (cA_2, 17, .inr (.inr (.inr (.inr (va_up f_34 (8 : Int32).toNatClampNeg (some q_36))))))), (q_36, .inr (6, [.ref dk, .ref q1_37, .int 0]))] H := hP
  have hD : va_D A [(h0, .inr (2, [.ref q_1])), (q_1, .inl (cA_2, 17, .inr (.inr (.inr (.inr (va_up f_34 (8 : Int32).toNatClampNeg (some q_36))))))), (q_36, .inr (6, [.ref dk, .ref q1_37, .int 0]))] := hD
  generalize va_up f_34 (8 : Int32).toNatClampNeg (some q_36) = f_38 at hP hD
  have hP := hP.sub (ws' := [(h0, .inr (2, [.ref q_1])), (q_1, .inl (cA_2, 17, .inr (.inr (.inr (.inr f_38)))))]) [0, 1] rfl
  have hD := hD.sub (ws' := [(h0, .inr (2, [.ref q_1])), (q_1, .inl (cA_2, 17, .inr (.inr (.inr (.inr f_38)))))]) [0, 1] (by decide) rfl
  refine lv_iinc (v := 9) (lv' := [(3, .int 9), (0, .ref h0), (1, .ref dk), (2, .int 17)]) hx hb d_Curve_init_33 hl (k := 0) rfl (by decide) (by decide) rfl (fun ls hl => ?_)
  refine lv_goto (tgt := 14) hx hb d_Curve_init_36 (by decide) ?_
  refine lv_iload_n hx hb d_Curve_init_14 rfl (lv_at hl 0 rfl) ?_
  refine lv_iload_n hx hb d_Curve_init_15 rfl (lv_at hl 3 rfl) ?_
  refine lv_icmp_ge (tgt := 39) hx hb d_Curve_init_16 (by decide) (fun c_39 => absurd c_39 (by decide)) (fun c_39 => ?_)
  refine lv_aload_n hx hb d_Curve_init_19 rfl (lv_at hl 1 rfl) ?_
  refine va_get (D := (dC, dI)) (ci := 2) (v := .ref q_1) (C := R_Curve) (T := F_Curve) (N := 1) hx hb hT i_Curve hown hK hP 0 rfl rfl 0 (by decide) (hT _ tw_224) (fun _ h9 => h9) rfl d_Curve_init_20 ?_
  refine lv_iload_n hx hb d_Curve_init_23 rfl (lv_at hl 0 rfl) ?_
  refine va_new (ci := 6) (fs := [.null, .null, .int 0]) (C := R_Poly) (T := F_Poly) (N := 3) hx hb hT i_Poly t_Poly t_Poly_ok hown (hT _ tw_189) (hT _ tw_190) (hT _ tw_8) hK hP hD hS hA rfl (by decide) (Nat.le_of_ble_eq_true rfl) (Nat.le_of_ble_eq_true rfl) d_Curve_init_24 (fun q_40 H hP hD hS => ?_)
  have hP : va_P (dC, dI) classes [(h0, .inr (2, [.ref q_1])), (q_1, .inl (cA_2, 17, .inr (.inr (.inr (.inr f_38))))), (q_40, .inr (6, [.null, .null, .int 0]))] H := hP
  have hD : va_D A [(h0, .inr (2, [.ref q_1])), (q_1, .inl (cA_2, 17, .inr (.inr (.inr (.inr f_38))))), (q_40, .inr (6, [.null, .null, .int 0]))] := hD
  refine W.widen (k := 20) (n := 47) (Nat.le_of_ble_eq_true rfl) (Nat.le_of_ble_eq_true rfl) ?_
  refine lv_dup hx hb d_Curve_init_27 rfl ?_
  refine lv_aload_n hx hb d_Curve_init_28 rfl (lv_at hl 2 rfl) ?_
  have hPc := hP.sub (ws' := [(q_40, .inr (6, [.null, .null, .int 0]))]) [2] rfl
  have hDc := hD.sub (ws' := [(q_40, .inr (6, [.null, .null, .int 0]))]) [2] (by decide) rfl
  have hKc := hK.sub (tys' := []) [] rfl
  have hFc := va_free (wc := [(q_40, .inr (6, [.null, .null, .int 0]))]) hD hS hA [2] rfl
  refine va_callv (va_runI (As := [.ref dk]) (rest := [.ref q_40, .int 9, .ref q_1]) ⟨hx, hb, hml, hown, hT⟩ (c_Poly_init l dC dI H.size q_40 dk ) (cwI 1 hT g_Poly_init rfl rfl rfl (hT _ tw_8) (hT _ tw_191) (hT _ tw_192) rfl (by decide +kernel) ⟨Nat.le_of_ble_eq_true rfl, Nat.le_of_ble_eq_true rfl⟩) ⟨fun a U g mk q => by obtain ⟨q0, q1, qP, qK, qD, qN⟩ := q; exact ⟨q0, q1, qP, va_K.moved (u := U) (U := U.calling g mk a) (Vm.Alike.refl U.vm) qK, qD, nx_K.same (u := U) (U := U.calling g mk a) rfl qN⟩, fun U hU hW => ⟨rfl, by rw [hU], by rw [hU]; exact hPc, va_K.moved hW.alike hKc, hDc.weaken (fun _ _ _ _ => trivial), nx_K.warm hW hN⟩⟩ rfl rfl hl.1 rfl (lv_room (Nat.le_of_ble_eq_true rfl)) d_Curve_init_29 ⟨Nat.le_of_ble_eq_true rfl, Nat.le_of_ble_eq_true rfl⟩) hS (fun q _ h => hFc q h) hFc (fun u t H1 locs ht hvm hw hB hz1 hk1 hS => ?_)
  obtain ⟨q1_41, hP1, hK1, hD1⟩ := hB
  rw [ht] at hP1
  have hK1 := va_K.moved hvm.symm hK1
  obtain ⟨hP, hD⟩ := va_join (wr := [(h0, .inr (2, [.ref q_1])), (q_1, .inl (cA_2, 17, .inr (.inr (.inr (.inr f_38)))))]) (w1 := [(q_40, .inr (6, [.ref dk, .ref q1_41, .int 0]))]) hP hD [2] [0, 1] rfl rfl (by decide) (by decide) hk1 hFc hP1 hD1
  have hK := (hK.sub (tys' := [(cA_2, .object "RealHouse$Poly")]) [0] rfl).app hK1
  generalize H1 = H at hP hS ⊢
  have hP : va_P (dC, dI) classes [(h0, .inr (2, [.ref q_1])), (q_1, .inl (cA_2, 17, .inr (.inr (.inr (.inr f_38))))), (q_40, .inr (6, [.ref dk, .ref q1_41, .int 0]))] H := hP
  have hD : va_D A [(h0, .inr (2, [.ref q_1])), (q_1, .inl (cA_2, 17, .inr (.inr (.inr (.inr f_38))))), (q_40, .inr (6, [.ref dk, .ref q1_41, .int 0]))] := hD
  have hK : va_K (dC, dI) classes [(cA_2, .object "RealHouse$Poly")] s := hK
  refine W.widen (k := 21) (n := 47) (Nat.le_of_ble_eq_true rfl) (Nat.le_of_ble_eq_true rfl) ?_
  refine va_astq (r := (R_Poly, F_Poly, 3)) hx hb hK hP hD hS 1 0 2 6 rfl rfl rfl rfl (vp_in_nI (n := 9) (by decide) (by decide)) d_Curve_init_32 (fun H locs hP hD hS => ?_)
  have hP : va_P (dC, dI) classes [(h0, .inr (2, [.ref q_1])), (q_1, .inl (cA_2, 17, .inr (.inr (.inr (.inr (va_up f_38 (9 : Int32).toNatClampNeg (some q_40))))))), (q_40, .inr (6, [.ref dk, .ref q1_41, .int 0]))] H := hP
  have hD : va_D A [(h0, .inr (2, [.ref q_1])), (q_1, .inl (cA_2, 17, .inr (.inr (.inr (.inr (va_up f_38 (9 : Int32).toNatClampNeg (some q_40))))))), (q_40, .inr (6, [.ref dk, .ref q1_41, .int 0]))] := hD
  generalize va_up f_38 (9 : Int32).toNatClampNeg (some q_40) = f_42 at hP hD
  have hP := hP.sub (ws' := [(h0, .inr (2, [.ref q_1])), (q_1, .inl (cA_2, 17, .inr (.inr (.inr (.inr f_42)))))]) [0, 1] rfl
  have hD := hD.sub (ws' := [(h0, .inr (2, [.ref q_1])), (q_1, .inl (cA_2, 17, .inr (.inr (.inr (.inr f_42)))))]) [0, 1] (by decide) rfl
  refine lv_iinc (v := 10) (lv' := [(3, .int 10), (0, .ref h0), (1, .ref dk), (2, .int 17)]) hx hb d_Curve_init_33 hl (k := 0) rfl (by decide) (by decide) rfl (fun ls hl => ?_)
  refine lv_goto (tgt := 14) hx hb d_Curve_init_36 (by decide) ?_
  refine lv_iload_n hx hb d_Curve_init_14 rfl (lv_at hl 0 rfl) ?_
  refine lv_iload_n hx hb d_Curve_init_15 rfl (lv_at hl 3 rfl) ?_
  refine lv_icmp_ge (tgt := 39) hx hb d_Curve_init_16 (by decide) (fun c_43 => absurd c_43 (by decide)) (fun c_43 => ?_)
  refine lv_aload_n hx hb d_Curve_init_19 rfl (lv_at hl 1 rfl) ?_
  refine va_get (D := (dC, dI)) (ci := 2) (v := .ref q_1) (C := R_Curve) (T := F_Curve) (N := 1) hx hb hT i_Curve hown hK hP 0 rfl rfl 0 (by decide) (hT _ tw_224) (fun _ h9 => h9) rfl d_Curve_init_20 ?_
  refine lv_iload_n hx hb d_Curve_init_23 rfl (lv_at hl 0 rfl) ?_
  refine va_new (ci := 6) (fs := [.null, .null, .int 0]) (C := R_Poly) (T := F_Poly) (N := 3) hx hb hT i_Poly t_Poly t_Poly_ok hown (hT _ tw_189) (hT _ tw_190) (hT _ tw_8) hK hP hD hS hA rfl (by decide) (Nat.le_of_ble_eq_true rfl) (Nat.le_of_ble_eq_true rfl) d_Curve_init_24 (fun q_44 H hP hD hS => ?_)
  have hP : va_P (dC, dI) classes [(h0, .inr (2, [.ref q_1])), (q_1, .inl (cA_2, 17, .inr (.inr (.inr (.inr f_42))))), (q_44, .inr (6, [.null, .null, .int 0]))] H := hP
  have hD : va_D A [(h0, .inr (2, [.ref q_1])), (q_1, .inl (cA_2, 17, .inr (.inr (.inr (.inr f_42))))), (q_44, .inr (6, [.null, .null, .int 0]))] := hD
  refine W.widen (k := 22) (n := 50) (Nat.le_of_ble_eq_true rfl) (Nat.le_of_ble_eq_true rfl) ?_
  refine lv_dup hx hb d_Curve_init_27 rfl ?_
  refine lv_aload_n hx hb d_Curve_init_28 rfl (lv_at hl 2 rfl) ?_
  have hPc := hP.sub (ws' := [(q_44, .inr (6, [.null, .null, .int 0]))]) [2] rfl
  have hDc := hD.sub (ws' := [(q_44, .inr (6, [.null, .null, .int 0]))]) [2] (by decide) rfl
  have hKc := hK.sub (tys' := []) [] rfl
  have hFc := va_free (wc := [(q_44, .inr (6, [.null, .null, .int 0]))]) hD hS hA [2] rfl
  refine va_callv (va_runI (As := [.ref dk]) (rest := [.ref q_44, .int 10, .ref q_1]) ⟨hx, hb, hml, hown, hT⟩ (c_Poly_init l dC dI H.size q_44 dk ) (cwI 1 hT g_Poly_init rfl rfl rfl (hT _ tw_8) (hT _ tw_191) (hT _ tw_192) rfl (by decide +kernel) ⟨Nat.le_of_ble_eq_true rfl, Nat.le_of_ble_eq_true rfl⟩) ⟨fun a U g mk q => by obtain ⟨q0, q1, qP, qK, qD, qN⟩ := q; exact ⟨q0, q1, qP, va_K.moved (u := U) (U := U.calling g mk a) (Vm.Alike.refl U.vm) qK, qD, nx_K.same (u := U) (U := U.calling g mk a) rfl qN⟩, fun U hU hW => ⟨rfl, by rw [hU], by rw [hU]; exact hPc, va_K.moved hW.alike hKc, hDc.weaken (fun _ _ _ _ => trivial), nx_K.warm hW hN⟩⟩ rfl rfl hl.1 rfl (lv_room (Nat.le_of_ble_eq_true rfl)) d_Curve_init_29 ⟨Nat.le_of_ble_eq_true rfl, Nat.le_of_ble_eq_true rfl⟩) hS (fun q _ h => hFc q h) hFc (fun u t H1 locs ht hvm hw hB hz1 hk1 hS => ?_)
  obtain ⟨q1_45, hP1, hK1, hD1⟩ := hB
  rw [ht] at hP1
  have hK1 := va_K.moved hvm.symm hK1
  obtain ⟨hP, hD⟩ := va_join (wr := [(h0, .inr (2, [.ref q_1])), (q_1, .inl (cA_2, 17, .inr (.inr (.inr (.inr f_42)))))]) (w1 := [(q_44, .inr (6, [.ref dk, .ref q1_45, .int 0]))]) hP hD [2] [0, 1] rfl rfl (by decide) (by decide) hk1 hFc hP1 hD1
  have hK := (hK.sub (tys' := [(cA_2, .object "RealHouse$Poly")]) [0] rfl).app hK1
  generalize H1 = H at hP hS ⊢
  have hP : va_P (dC, dI) classes [(h0, .inr (2, [.ref q_1])), (q_1, .inl (cA_2, 17, .inr (.inr (.inr (.inr f_42))))), (q_44, .inr (6, [.ref dk, .ref q1_45, .int 0]))] H := hP
  have hD : va_D A [(h0, .inr (2, [.ref q_1])), (q_1, .inl (cA_2, 17, .inr (.inr (.inr (.inr f_42))))), (q_44, .inr (6, [.ref dk, .ref q1_45, .int 0]))] := hD
  have hK : va_K (dC, dI) classes [(cA_2, .object "RealHouse$Poly")] s := hK
  refine W.widen (k := 23) (n := 50) (Nat.le_of_ble_eq_true rfl) (Nat.le_of_ble_eq_true rfl) ?_
  refine va_astq (r := (R_Poly, F_Poly, 3)) hx hb hK hP hD hS 1 0 2 6 rfl rfl rfl rfl (vp_in_nI (n := 10) (by decide) (by decide)) d_Curve_init_32 (fun H locs hP hD hS => ?_)
  have hP : va_P (dC, dI) classes [(h0, .inr (2, [.ref q_1])), (q_1, .inl (cA_2, 17, .inr (.inr (.inr (.inr (va_up f_42 (10 : Int32).toNatClampNeg (some q_44))))))), (q_44, .inr (6, [.ref dk, .ref q1_45, .int 0]))] H := hP
  have hD : va_D A [(h0, .inr (2, [.ref q_1])), (q_1, .inl (cA_2, 17, .inr (.inr (.inr (.inr (va_up f_42 (10 : Int32).toNatClampNeg (some q_44))))))), (q_44, .inr (6, [.ref dk, .ref q1_45, .int 0]))] := hD
  generalize va_up f_42 (10 : Int32).toNatClampNeg (some q_44) = f_46 at hP hD
  have hP := hP.sub (ws' := [(h0, .inr (2, [.ref q_1])), (q_1, .inl (cA_2, 17, .inr (.inr (.inr (.inr f_46)))))]) [0, 1] rfl
  have hD := hD.sub (ws' := [(h0, .inr (2, [.ref q_1])), (q_1, .inl (cA_2, 17, .inr (.inr (.inr (.inr f_46)))))]) [0, 1] (by decide) rfl
  refine lv_iinc (v := 11) (lv' := [(3, .int 11), (0, .ref h0), (1, .ref dk), (2, .int 17)]) hx hb d_Curve_init_33 hl (k := 0) rfl (by decide) (by decide) rfl (fun ls hl => ?_)
  refine lv_goto (tgt := 14) hx hb d_Curve_init_36 (by decide) ?_
  refine lv_iload_n hx hb d_Curve_init_14 rfl (lv_at hl 0 rfl) ?_
  refine lv_iload_n hx hb d_Curve_init_15 rfl (lv_at hl 3 rfl) ?_
  refine lv_icmp_ge (tgt := 39) hx hb d_Curve_init_16 (by decide) (fun c_47 => absurd c_47 (by decide)) (fun c_47 => ?_)
  refine lv_aload_n hx hb d_Curve_init_19 rfl (lv_at hl 1 rfl) ?_
  refine va_get (D := (dC, dI)) (ci := 2) (v := .ref q_1) (C := R_Curve) (T := F_Curve) (N := 1) hx hb hT i_Curve hown hK hP 0 rfl rfl 0 (by decide) (hT _ tw_224) (fun _ h9 => h9) rfl d_Curve_init_20 ?_
  refine lv_iload_n hx hb d_Curve_init_23 rfl (lv_at hl 0 rfl) ?_
  refine va_new (ci := 6) (fs := [.null, .null, .int 0]) (C := R_Poly) (T := F_Poly) (N := 3) hx hb hT i_Poly t_Poly t_Poly_ok hown (hT _ tw_189) (hT _ tw_190) (hT _ tw_8) hK hP hD hS hA rfl (by decide) (Nat.le_of_ble_eq_true rfl) (Nat.le_of_ble_eq_true rfl) d_Curve_init_24 (fun q_48 H hP hD hS => ?_)
  have hP : va_P (dC, dI) classes [(h0, .inr (2, [.ref q_1])), (q_1, .inl (cA_2, 17, .inr (.inr (.inr (.inr f_46))))), (q_48, .inr (6, [.null, .null, .int 0]))] H := hP
  have hD : va_D A [(h0, .inr (2, [.ref q_1])), (q_1, .inl (cA_2, 17, .inr (.inr (.inr (.inr f_46))))), (q_48, .inr (6, [.null, .null, .int 0]))] := hD
  refine W.widen (k := 24) (n := 53) (Nat.le_of_ble_eq_true rfl) (Nat.le_of_ble_eq_true rfl) ?_
  refine lv_dup hx hb d_Curve_init_27 rfl ?_
  refine lv_aload_n hx hb d_Curve_init_28 rfl (lv_at hl 2 rfl) ?_
  have hPc := hP.sub (ws' := [(q_48, .inr (6, [.null, .null, .int 0]))]) [2] rfl
  have hDc := hD.sub (ws' := [(q_48, .inr (6, [.null, .null, .int 0]))]) [2] (by decide) rfl
  have hKc := hK.sub (tys' := []) [] rfl
  have hFc := va_free (wc := [(q_48, .inr (6, [.null, .null, .int 0]))]) hD hS hA [2] rfl
  refine va_callv (va_runI (As := [.ref dk]) (rest := [.ref q_48, .int 11, .ref q_1]) ⟨hx, hb, hml, hown, hT⟩ (c_Poly_init l dC dI H.size q_48 dk ) (cwI 1 hT g_Poly_init rfl rfl rfl (hT _ tw_8) (hT _ tw_191) (hT _ tw_192) rfl (by decide +kernel) ⟨Nat.le_of_ble_eq_true rfl, Nat.le_of_ble_eq_true rfl⟩) ⟨fun a U g mk q => by obtain ⟨q0, q1, qP, qK, qD, qN⟩ := q; exact ⟨q0, q1, qP, va_K.moved (u := U) (U := U.calling g mk a) (Vm.Alike.refl U.vm) qK, qD, nx_K.same (u := U) (U := U.calling g mk a) rfl qN⟩, fun U hU hW => ⟨rfl, by rw [hU], by rw [hU]; exact hPc, va_K.moved hW.alike hKc, hDc.weaken (fun _ _ _ _ => trivial), nx_K.warm hW hN⟩⟩ rfl rfl hl.1 rfl (lv_room (Nat.le_of_ble_eq_true rfl)) d_Curve_init_29 ⟨Nat.le_of_ble_eq_true rfl, Nat.le_of_ble_eq_true rfl⟩) hS (fun q _ h => hFc q h) hFc (fun u t H1 locs ht hvm hw hB hz1 hk1 hS => ?_)
  obtain ⟨q1_49, hP1, hK1, hD1⟩ := hB
  rw [ht] at hP1
  have hK1 := va_K.moved hvm.symm hK1
  obtain ⟨hP, hD⟩ := va_join (wr := [(h0, .inr (2, [.ref q_1])), (q_1, .inl (cA_2, 17, .inr (.inr (.inr (.inr f_46)))))]) (w1 := [(q_48, .inr (6, [.ref dk, .ref q1_49, .int 0]))]) hP hD [2] [0, 1] rfl rfl (by decide) (by decide) hk1 hFc hP1 hD1
  have hK := (hK.sub (tys' := [(cA_2, .object "RealHouse$Poly")]) [0] rfl).app hK1
  generalize H1 = H at hP hS ⊢
  have hP : va_P (dC, dI) classes [(h0, .inr (2, [.ref q_1])), (q_1, .inl (cA_2, 17, .inr (.inr (.inr (.inr f_46))))), (q_48, .inr (6, [.ref dk, .ref q1_49, .int 0]))] H := hP
  have hD : va_D A [(h0, .inr (2, [.ref q_1])), (q_1, .inl (cA_2, 17, .inr (.inr (.inr (.inr f_46))))), (q_48, .inr (6, [.ref dk, .ref q1_49, .int 0]))] := hD
  have hK : va_K (dC, dI) classes [(cA_2, .object "RealHouse$Poly")] s := hK
  refine W.widen (k := 25) (n := 53) (Nat.le_of_ble_eq_true rfl) (Nat.le_of_ble_eq_true rfl) ?_
  refine va_astq (r := (R_Poly, F_Poly, 3)) hx hb hK hP hD hS 1 0 2 6 rfl rfl rfl rfl (vp_in_nI (n := 11) (by decide) (by decide)) d_Curve_init_32 (fun H locs hP hD hS => ?_)
  have hP : va_P (dC, dI) classes [(h0, .inr (2, [.ref q_1])), (q_1, .inl (cA_2, 17, .inr (.inr (.inr (.inr (va_up f_46 (11 : Int32).toNatClampNeg (some q_48))))))), (q_48, .inr (6, [.ref dk, .ref q1_49, .int 0]))] H := hP
  have hD : va_D A [(h0, .inr (2, [.ref q_1])), (q_1, .inl (cA_2, 17, .inr (.inr (.inr (.inr (va_up f_46 (11 : Int32).toNatClampNeg (some q_48))))))), (q_48, .inr (6, [.ref dk, .ref q1_49, .int 0]))] := hD
  generalize va_up f_46 (11 : Int32).toNatClampNeg (some q_48) = f_50 at hP hD
  have hP := hP.sub (ws' := [(h0, .inr (2, [.ref q_1])), (q_1, .inl (cA_2, 17, .inr (.inr (.inr (.inr f_50)))))]) [0, 1] rfl
  have hD := hD.sub (ws' := [(h0, .inr (2, [.ref q_1])), (q_1, .inl (cA_2, 17, .inr (.inr (.inr (.inr f_50)))))]) [0, 1] (by decide) rfl
  refine lv_iinc (v := 12) (lv' := [(3, .int 12), (0, .ref h0), (1, .ref dk), (2, .int 17)]) hx hb d_Curve_init_33 hl (k := 0) rfl (by decide) (by decide) rfl (fun ls hl => ?_)
  refine lv_goto (tgt := 14) hx hb d_Curve_init_36 (by decide) ?_
  refine lv_iload_n hx hb d_Curve_init_14 rfl (lv_at hl 0 rfl) ?_
  refine lv_iload_n hx hb d_Curve_init_15 rfl (lv_at hl 3 rfl) ?_
  refine lv_icmp_ge (tgt := 39) hx hb d_Curve_init_16 (by decide) (fun c_51 => absurd c_51 (by decide)) (fun c_51 => ?_)
  refine lv_aload_n hx hb d_Curve_init_19 rfl (lv_at hl 1 rfl) ?_
  refine va_get (D := (dC, dI)) (ci := 2) (v := .ref q_1) (C := R_Curve) (T := F_Curve) (N := 1) hx hb hT i_Curve hown hK hP 0 rfl rfl 0 (by decide) (hT _ tw_224) (fun _ h9 => h9) rfl d_Curve_init_20 ?_
  refine lv_iload_n hx hb d_Curve_init_23 rfl (lv_at hl 0 rfl) ?_
  refine va_new (ci := 6) (fs := [.null, .null, .int 0]) (C := R_Poly) (T := F_Poly) (N := 3) hx hb hT i_Poly t_Poly t_Poly_ok hown (hT _ tw_189) (hT _ tw_190) (hT _ tw_8) hK hP hD hS hA rfl (by decide) (Nat.le_of_ble_eq_true rfl) (Nat.le_of_ble_eq_true rfl) d_Curve_init_24 (fun q_52 H hP hD hS => ?_)
  have hP : va_P (dC, dI) classes [(h0, .inr (2, [.ref q_1])), (q_1, .inl (cA_2, 17, .inr (.inr (.inr (.inr f_50))))), (q_52, .inr (6, [.null, .null, .int 0]))] H := hP
  have hD : va_D A [(h0, .inr (2, [.ref q_1])), (q_1, .inl (cA_2, 17, .inr (.inr (.inr (.inr f_50))))), (q_52, .inr (6, [.null, .null, .int 0]))] := hD
  refine W.widen (k := 26) (n := 56) (Nat.le_of_ble_eq_true rfl) (Nat.le_of_ble_eq_true rfl) ?_
  refine lv_dup hx hb d_Curve_init_27 rfl ?_
  refine lv_aload_n hx hb d_Curve_init_28 rfl (lv_at hl 2 rfl) ?_
  have hPc := hP.sub (ws' := [(q_52, .inr (6, [.null, .null, .int 0]))]) [2] rfl
  have hDc := hD.sub (ws' := [(q_52, .inr (6, [.null, .null, .int 0]))]) [2] (by decide) rfl
  have hKc := hK.sub (tys' := []) [] rfl
  have hFc := va_free (wc := [(q_52, .inr (6, [.null, .null, .int 0]))]) hD hS hA [2] rfl
  refine va_callv (va_runI (As := [.ref dk]) (rest := [.ref q_52, .int 12, .ref q_1]) ⟨hx, hb, hml, hown, hT⟩ (c_Poly_init l dC dI H.size q_52 dk ) (cwI 1 hT g_Poly_init rfl rfl rfl (hT _ tw_8) (hT _ tw_191) (hT _ tw_192) rfl (by decide +kernel) ⟨Nat.le_of_ble_eq_true rfl, Nat.le_of_ble_eq_true rfl⟩) ⟨fun a U g mk q => by obtain ⟨q0, q1, qP, qK, qD, qN⟩ := q; exact ⟨q0, q1, qP, va_K.moved (u := U) (U := U.calling g mk a) (Vm.Alike.refl U.vm) qK, qD, nx_K.same (u := U) (U := U.calling g mk a) rfl qN⟩, fun U hU hW => ⟨rfl, by rw [hU], by rw [hU]; exact hPc, va_K.moved hW.alike hKc, hDc.weaken (fun _ _ _ _ => trivial), nx_K.warm hW hN⟩⟩ rfl rfl hl.1 rfl (lv_room (Nat.le_of_ble_eq_true rfl)) d_Curve_init_29 ⟨Nat.le_of_ble_eq_true rfl, Nat.le_of_ble_eq_true rfl⟩) hS (fun q _ h => hFc q h) hFc (fun u t H1 locs ht hvm hw hB hz1 hk1 hS => ?_)
  obtain ⟨q1_53, hP1, hK1, hD1⟩ := hB
  rw [ht] at hP1
  have hK1 := va_K.moved hvm.symm hK1
  obtain ⟨hP, hD⟩ := va_join (wr := [(h0, .inr (2, [.ref q_1])), (q_1, .inl (cA_2, 17, .inr (.inr (.inr (.inr f_50)))))]) (w1 := [(q_52, .inr (6, [.ref dk, .ref q1_53, .int 0]))]) hP hD [2] [0, 1] rfl rfl (by decide) (by decide) hk1 hFc hP1 hD1
  have hK := (hK.sub (tys' := [(cA_2, .object "RealHouse$Poly")]) [0] rfl).app hK1
  generalize H1 = H at hP hS ⊢
  have hP : va_P (dC, dI) classes [(h0, .inr (2, [.ref q_1])), (q_1, .inl (cA_2, 17, .inr (.inr (.inr (.inr f_50))))), (q_52, .inr (6, [.ref dk, .ref q1_53, .int 0]))] H := hP
  have hD : va_D A [(h0, .inr (2, [.ref q_1])), (q_1, .inl (cA_2, 17, .inr (.inr (.inr (.inr f_50))))), (q_52, .inr (6, [.ref dk, .ref q1_53, .int 0]))] := hD
  have hK : va_K (dC, dI) classes [(cA_2, .object "RealHouse$Poly")] s := hK
  refine W.widen (k := 27) (n := 56) (Nat.le_of_ble_eq_true rfl) (Nat.le_of_ble_eq_true rfl) ?_
  refine va_astq (r := (R_Poly, F_Poly, 3)) hx hb hK hP hD hS 1 0 2 6 rfl rfl rfl rfl (vp_in_nI (n := 12) (by decide) (by decide)) d_Curve_init_32 (fun H locs hP hD hS => ?_)
  have hP : va_P (dC, dI) classes [(h0, .inr (2, [.ref q_1])), (q_1, .inl (cA_2, 17, .inr (.inr (.inr (.inr (va_up f_50 (12 : Int32).toNatClampNeg (some q_52))))))), (q_52, .inr (6, [.ref dk, .ref q1_53, .int 0]))] H := hP
  have hD : va_D A [(h0, .inr (2, [.ref q_1])), (q_1, .inl (cA_2, 17, .inr (.inr (.inr (.inr (va_up f_50 (12 : Int32).toNatClampNeg (some q_52))))))), (q_52, .inr (6, [.ref dk, .ref q1_53, .int 0]))] := hD
  generalize va_up f_50 (12 : Int32).toNatClampNeg (some q_52) = f_54 at hP hD
  have hP := hP.sub (ws' := [(h0, .inr (2, [.ref q_1])), (q_1, .inl (cA_2, 17, .inr (.inr (.inr (.inr f_54)))))]) [0, 1] rfl
  have hD := hD.sub (ws' := [(h0, .inr (2, [.ref q_1])), (q_1, .inl (cA_2, 17, .inr (.inr (.inr (.inr f_54)))))]) [0, 1] (by decide) rfl
  refine lv_iinc (v := 13) (lv' := [(3, .int 13), (0, .ref h0), (1, .ref dk), (2, .int 17)]) hx hb d_Curve_init_33 hl (k := 0) rfl (by decide) (by decide) rfl (fun ls hl => ?_)
  refine lv_goto (tgt := 14) hx hb d_Curve_init_36 (by decide) ?_
  refine lv_iload_n hx hb d_Curve_init_14 rfl (lv_at hl 0 rfl) ?_
  refine lv_iload_n hx hb d_Curve_init_15 rfl (lv_at hl 3 rfl) ?_
  refine lv_icmp_ge (tgt := 39) hx hb d_Curve_init_16 (by decide) (fun c_55 => absurd c_55 (by decide)) (fun c_55 => ?_)
  refine lv_aload_n hx hb d_Curve_init_19 rfl (lv_at hl 1 rfl) ?_
  refine va_get (D := (dC, dI)) (ci := 2) (v := .ref q_1) (C := R_Curve) (T := F_Curve) (N := 1) hx hb hT i_Curve hown hK hP 0 rfl rfl 0 (by decide) (hT _ tw_224) (fun _ h9 => h9) rfl d_Curve_init_20 ?_
  refine lv_iload_n hx hb d_Curve_init_23 rfl (lv_at hl 0 rfl) ?_
  refine va_new (ci := 6) (fs := [.null, .null, .int 0]) (C := R_Poly) (T := F_Poly) (N := 3) hx hb hT i_Poly t_Poly t_Poly_ok hown (hT _ tw_189) (hT _ tw_190) (hT _ tw_8) hK hP hD hS hA rfl (by decide) (Nat.le_of_ble_eq_true rfl) (Nat.le_of_ble_eq_true rfl) d_Curve_init_24 (fun q_56 H hP hD hS => ?_)
  have hP : va_P (dC, dI) classes [(h0, .inr (2, [.ref q_1])), (q_1, .inl (cA_2, 17, .inr (.inr (.inr (.inr f_54))))), (q_56, .inr (6, [.null, .null, .int 0]))] H := hP
  have hD : va_D A [(h0, .inr (2, [.ref q_1])), (q_1, .inl (cA_2, 17, .inr (.inr (.inr (.inr f_54))))), (q_56, .inr (6, [.null, .null, .int 0]))] := hD
  refine W.widen (k := 28) (n := 59) (Nat.le_of_ble_eq_true rfl) (Nat.le_of_ble_eq_true rfl) ?_
  refine lv_dup hx hb d_Curve_init_27 rfl ?_
  refine lv_aload_n hx hb d_Curve_init_28 rfl (lv_at hl 2 rfl) ?_
  have hPc := hP.sub (ws' := [(q_56, .inr (6, [.null, .null, .int 0]))]) [2] rfl
  have hDc := hD.sub (ws' := [(q_56, .inr (6, [.null, .null, .int 0]))]) [2] (by decide) rfl
  have hKc := hK.sub (tys' := []) [] rfl
  have hFc := va_free (wc := [(q_56, .inr (6, [.null, .null, .int 0]))]) hD hS hA [2] rfl
  refine va_callv (va_runI (As := [.ref dk]) (rest := [.ref q_56, .int 13, .ref q_1]) ⟨hx, hb, hml, hown, hT⟩ (c_Poly_init l dC dI H.size q_56 dk ) (cwI 1 hT g_Poly_init rfl rfl rfl (hT _ tw_8) (hT _ tw_191) (hT _ tw_192) rfl (by decide +kernel) ⟨Nat.le_of_ble_eq_true rfl, Nat.le_of_ble_eq_true rfl⟩) ⟨fun a U g mk q => by obtain ⟨q0, q1, qP, qK, qD, qN⟩ := q; exact ⟨q0, q1, qP, va_K.moved (u := U) (U := U.calling g mk a) (Vm.Alike.refl U.vm) qK, qD, nx_K.same (u := U) (U := U.calling g mk a) rfl qN⟩, fun U hU hW => ⟨rfl, by rw [hU], by rw [hU]; exact hPc, va_K.moved hW.alike hKc, hDc.weaken (fun _ _ _ _ => trivial), nx_K.warm hW hN⟩⟩ rfl rfl hl.1 rfl (lv_room (Nat.le_of_ble_eq_true rfl)) d_Curve_init_29 ⟨Nat.le_of_ble_eq_true rfl, Nat.le_of_ble_eq_true rfl⟩) hS (fun q _ h => hFc q h) hFc (fun u t H1 locs ht hvm hw hB hz1 hk1 hS => ?_)
  obtain ⟨q1_57, hP1, hK1, hD1⟩ := hB
  rw [ht] at hP1
  have hK1 := va_K.moved hvm.symm hK1
  obtain ⟨hP, hD⟩ := va_join (wr := [(h0, .inr (2, [.ref q_1])), (q_1, .inl (cA_2, 17, .inr (.inr (.inr (.inr f_54)))))]) (w1 := [(q_56, .inr (6, [.ref dk, .ref q1_57, .int 0]))]) hP hD [2] [0, 1] rfl rfl (by decide) (by decide) hk1 hFc hP1 hD1
  have hK := (hK.sub (tys' := [(cA_2, .object "RealHouse$Poly")]) [0] rfl).app hK1
  generalize H1 = H at hP hS ⊢
  have hP : va_P (dC, dI) classes [(h0, .inr (2, [.ref q_1])), (q_1, .inl (cA_2, 17, .inr (.inr (.inr (.inr f_54))))), (q_56, .inr (6, [.ref dk, .ref q1_57, .int 0]))] H := hP
  have hD : va_D A [(h0, .inr (2, [.ref q_1])), (q_1, .inl (cA_2, 17, .inr (.inr (.inr (.inr f_54))))), (q_56, .inr (6, [.ref dk, .ref q1_57, .int 0]))] := hD
  have hK : va_K (dC, dI) classes [(cA_2, .object "RealHouse$Poly")] s := hK
  refine W.widen (k := 29) (n := 59) (Nat.le_of_ble_eq_true rfl) (Nat.le_of_ble_eq_true rfl) ?_
  refine va_astq (r := (R_Poly, F_Poly, 3)) hx hb hK hP hD hS 1 0 2 6 rfl rfl rfl rfl (vp_in_nI (n := 13) (by decide) (by decide)) d_Curve_init_32 (fun H locs hP hD hS => ?_)
  have hP : va_P (dC, dI) classes [(h0, .inr (2, [.ref q_1])), (q_1, .inl (cA_2, 17, .inr (.inr (.inr (.inr (va_up f_54 (13 : Int32).toNatClampNeg (some q_56))))))), (q_56, .inr (6, [.ref dk, .ref q1_57, .int 0]))] H := hP
  have hD : va_D A [(h0, .inr (2, [.ref q_1])), (q_1, .inl (cA_2, 17, .inr (.inr (.inr (.inr (va_up f_54 (13 : Int32).toNatClampNeg (some q_56))))))), (q_56, .inr (6, [.ref dk, .ref q1_57, .int 0]))] := hD
  generalize va_up f_54 (13 : Int32).toNatClampNeg (some q_56) = f_58 at hP hD
  have hP := hP.sub (ws' := [(h0, .inr (2, [.ref q_1])), (q_1, .inl (cA_2, 17, .inr (.inr (.inr (.inr f_58)))))]) [0, 1] rfl
  have hD := hD.sub (ws' := [(h0, .inr (2, [.ref q_1])), (q_1, .inl (cA_2, 17, .inr (.inr (.inr (.inr f_58)))))]) [0, 1] (by decide) rfl
  refine lv_iinc (v := 14) (lv' := [(3, .int 14), (0, .ref h0), (1, .ref dk), (2, .int 17)]) hx hb d_Curve_init_33 hl (k := 0) rfl (by decide) (by decide) rfl (fun ls hl => ?_)
  refine lv_goto (tgt := 14) hx hb d_Curve_init_36 (by decide) ?_
  refine lv_iload_n hx hb d_Curve_init_14 rfl (lv_at hl 0 rfl) ?_
  refine lv_iload_n hx hb d_Curve_init_15 rfl (lv_at hl 3 rfl) ?_
  refine lv_icmp_ge (tgt := 39) hx hb d_Curve_init_16 (by decide) (fun c_59 => absurd c_59 (by decide)) (fun c_59 => ?_)
  refine lv_aload_n hx hb d_Curve_init_19 rfl (lv_at hl 1 rfl) ?_
  refine va_get (D := (dC, dI)) (ci := 2) (v := .ref q_1) (C := R_Curve) (T := F_Curve) (N := 1) hx hb hT i_Curve hown hK hP 0 rfl rfl 0 (by decide) (hT _ tw_224) (fun _ h9 => h9) rfl d_Curve_init_20 ?_
  refine lv_iload_n hx hb d_Curve_init_23 rfl (lv_at hl 0 rfl) ?_
  refine va_new (ci := 6) (fs := [.null, .null, .int 0]) (C := R_Poly) (T := F_Poly) (N := 3) hx hb hT i_Poly t_Poly t_Poly_ok hown (hT _ tw_189) (hT _ tw_190) (hT _ tw_8) hK hP hD hS hA rfl (by decide) (Nat.le_of_ble_eq_true rfl) (Nat.le_of_ble_eq_true rfl) d_Curve_init_24 (fun q_60 H hP hD hS => ?_)
  have hP : va_P (dC, dI) classes [(h0, .inr (2, [.ref q_1])), (q_1, .inl (cA_2, 17, .inr (.inr (.inr (.inr f_58))))), (q_60, .inr (6, [.null, .null, .int 0]))] H := hP
  have hD : va_D A [(h0, .inr (2, [.ref q_1])), (q_1, .inl (cA_2, 17, .inr (.inr (.inr (.inr f_58))))), (q_60, .inr (6, [.null, .null, .int 0]))] := hD
  refine W.widen (k := 30) (n := 62) (Nat.le_of_ble_eq_true rfl) (Nat.le_of_ble_eq_true rfl) ?_
  refine lv_dup hx hb d_Curve_init_27 rfl ?_
  refine lv_aload_n hx hb d_Curve_init_28 rfl (lv_at hl 2 rfl) ?_
  have hPc := hP.sub (ws' := [(q_60, .inr (6, [.null, .null, .int 0]))]) [2] rfl
  have hDc := hD.sub (ws' := [(q_60, .inr (6, [.null, .null, .int 0]))]) [2] (by decide) rfl
  have hKc := hK.sub (tys' := []) [] rfl
  have hFc := va_free (wc := [(q_60, .inr (6, [.null, .null, .int 0]))]) hD hS hA [2] rfl
  refine va_callv (va_runI (As := [.ref dk]) (rest := [.ref q_60, .int 14, .ref q_1]) ⟨hx, hb, hml, hown, hT⟩ (c_Poly_init l dC dI H.size q_60 dk ) (cwI 1 hT g_Poly_init rfl rfl rfl (hT _ tw_8) (hT _ tw_191) (hT _ tw_192) rfl (by decide +kernel) ⟨Nat.le_of_ble_eq_true rfl, Nat.le_of_ble_eq_true rfl⟩) ⟨fun a U g mk q => by obtain ⟨q0, q1, qP, qK, qD, qN⟩ := q; exact ⟨q0, q1, qP, va_K.moved (u := U) (U := U.calling g mk a) (Vm.Alike.refl U.vm) qK, qD, nx_K.same (u := U) (U := U.calling g mk a) rfl qN⟩, fun U hU hW => ⟨rfl, by rw [hU], by rw [hU]; exact hPc, va_K.moved hW.alike hKc, hDc.weaken (fun _ _ _ _ => trivial), nx_K.warm hW hN⟩⟩ rfl rfl hl.1 rfl (lv_room (Nat.le_of_ble_eq_true rfl)) d_Curve_init_29 ⟨Nat.le_of_ble_eq_true rfl, Nat.le_of_ble_eq_true rfl⟩) hS (fun q _ h => hFc q h) hFc (fun u t H1 locs ht hvm hw hB hz1 hk1 hS => ?_)
  obtain ⟨q1_61, hP1, hK1, hD1⟩ := hB
  rw [ht] at hP1
  have hK1 := va_K.moved hvm.symm hK1
  obtain ⟨hP, hD⟩ := va_join (wr := [(h0, .inr (2, [.ref q_1])), (q_1, .inl (cA_2, 17, .inr (.inr (.inr (.inr f_58)))))]) (w1 := [(q_60, .inr (6, [.ref dk, .ref q1_61, .int 0]))]) hP hD [2] [0, 1] rfl rfl (by decide) (by decide) hk1 hFc hP1 hD1
  have hK := (hK.sub (tys' := [(cA_2, .object "RealHouse$Poly")]) [0] rfl).app hK1
  generalize H1 = H at hP hS ⊢
  have hP : va_P (dC, dI) classes [(h0, .inr (2, [.ref q_1])), (q_1, .inl (cA_2, 17, .inr (.inr (.inr (.inr f_58))))), (q_60, .inr (6, [.ref dk, .ref q1_61, .int 0]))] H := hP
  have hD : va_D A [(h0, .inr (2, [.ref q_1])), (q_1, .inl (cA_2, 17, .inr (.inr (.inr (.inr f_58))))), (q_60, .inr (6, [.ref dk, .ref q1_61, .int 0]))] := hD
  have hK : va_K (dC, dI) classes [(cA_2, .object "RealHouse$Poly")] s := hK
  refine W.widen (k := 31) (n := 62) (Nat.le_of_ble_eq_true rfl) (Nat.le_of_ble_eq_true rfl) ?_
  refine va_astq (r := (R_Poly, F_Poly, 3)) hx hb hK hP hD hS 1 0 2 6 rfl rfl rfl rfl (vp_in_nI (n := 14) (by decide) (by decide)) d_Curve_init_32 (fun H locs hP hD hS => ?_)
  have hP : va_P (dC, dI) classes [(h0, .inr (2, [.ref q_1])), (q_1, .inl (cA_2, 17, .inr (.inr (.inr (.inr (va_up f_58 (14 : Int32).toNatClampNeg (some q_60))))))), (q_60, .inr (6, [.ref dk, .ref q1_61, .int 0]))] H := hP
  have hD : va_D A [(h0, .inr (2, [.ref q_1])), (q_1, .inl (cA_2, 17, .inr (.inr (.inr (.inr (va_up f_58 (14 : Int32).toNatClampNeg (some q_60))))))), (q_60, .inr (6, [.ref dk, .ref q1_61, .int 0]))] := hD
  generalize va_up f_58 (14 : Int32).toNatClampNeg (some q_60) = f_62 at hP hD
  have hP := hP.sub (ws' := [(h0, .inr (2, [.ref q_1])), (q_1, .inl (cA_2, 17, .inr (.inr (.inr (.inr f_62)))))]) [0, 1] rfl
  have hD := hD.sub (ws' := [(h0, .inr (2, [.ref q_1])), (q_1, .inl (cA_2, 17, .inr (.inr (.inr (.inr f_62)))))]) [0, 1] (by decide) rfl
  refine lv_iinc (v := 15) (lv' := [(3, .int 15), (0, .ref h0), (1, .ref dk), (2, .int 17)]) hx hb d_Curve_init_33 hl (k := 0) rfl (by decide) (by decide) rfl (fun ls hl => ?_)
  refine lv_goto (tgt := 14) hx hb d_Curve_init_36 (by decide) ?_
  refine lv_iload_n hx hb d_Curve_init_14 rfl (lv_at hl 0 rfl) ?_
  refine lv_iload_n hx hb d_Curve_init_15 rfl (lv_at hl 3 rfl) ?_
  refine lv_icmp_ge (tgt := 39) hx hb d_Curve_init_16 (by decide) (fun c_63 => absurd c_63 (by decide)) (fun c_63 => ?_)
  refine lv_aload_n hx hb d_Curve_init_19 rfl (lv_at hl 1 rfl) ?_
  refine va_get (D := (dC, dI)) (ci := 2) (v := .ref q_1) (C := R_Curve) (T := F_Curve) (N := 1) hx hb hT i_Curve hown hK hP 0 rfl rfl 0 (by decide) (hT _ tw_224) (fun _ h9 => h9) rfl d_Curve_init_20 ?_
  refine lv_iload_n hx hb d_Curve_init_23 rfl (lv_at hl 0 rfl) ?_
  refine va_new (ci := 6) (fs := [.null, .null, .int 0]) (C := R_Poly) (T := F_Poly) (N := 3) hx hb hT i_Poly t_Poly t_Poly_ok hown (hT _ tw_189) (hT _ tw_190) (hT _ tw_8) hK hP hD hS hA rfl (by decide) (Nat.le_of_ble_eq_true rfl) (Nat.le_of_ble_eq_true rfl) d_Curve_init_24 (fun q_64 H hP hD hS => ?_)
  have hP : va_P (dC, dI) classes [(h0, .inr (2, [.ref q_1])), (q_1, .inl (cA_2, 17, .inr (.inr (.inr (.inr f_62))))), (q_64, .inr (6, [.null, .null, .int 0]))] H := hP
  have hD : va_D A [(h0, .inr (2, [.ref q_1])), (q_1, .inl (cA_2, 17, .inr (.inr (.inr (.inr f_62))))), (q_64, .inr (6, [.null, .null, .int 0]))] := hD
  refine W.widen (k := 32) (n := 65) (Nat.le_of_ble_eq_true rfl) (Nat.le_of_ble_eq_true rfl) ?_
  refine lv_dup hx hb d_Curve_init_27 rfl ?_
  refine lv_aload_n hx hb d_Curve_init_28 rfl (lv_at hl 2 rfl) ?_
  have hPc := hP.sub (ws' := [(q_64, .inr (6, [.null, .null, .int 0]))]) [2] rfl
  have hDc := hD.sub (ws' := [(q_64, .inr (6, [.null, .null, .int 0]))]) [2] (by decide) rfl
  have hKc := hK.sub (tys' := []) [] rfl
  have hFc := va_free (wc := [(q_64, .inr (6, [.null, .null, .int 0]))]) hD hS hA [2] rfl
  refine va_callv (va_runI (As := [.ref dk]) (rest := [.ref q_64, .int 15, .ref q_1]) ⟨hx, hb, hml, hown, hT⟩ (c_Poly_init l dC dI H.size q_64 dk ) (cwI 1 hT g_Poly_init rfl rfl rfl (hT _ tw_8) (hT _ tw_191) (hT _ tw_192) rfl (by decide +kernel) ⟨Nat.le_of_ble_eq_true rfl, Nat.le_of_ble_eq_true rfl⟩) ⟨fun a U g mk q => by obtain ⟨q0, q1, qP, qK, qD, qN⟩ := q; exact ⟨q0, q1, qP, va_K.moved (u := U) (U := U.calling g mk a) (Vm.Alike.refl U.vm) qK, qD, nx_K.same (u := U) (U := U.calling g mk a) rfl qN⟩, fun U hU hW => ⟨rfl, by rw [hU], by rw [hU]; exact hPc, va_K.moved hW.alike hKc, hDc.weaken (fun _ _ _ _ => trivial), nx_K.warm hW hN⟩⟩ rfl rfl hl.1 rfl (lv_room (Nat.le_of_ble_eq_true rfl)) d_Curve_init_29 ⟨Nat.le_of_ble_eq_true rfl, Nat.le_of_ble_eq_true rfl⟩) hS (fun q _ h => hFc q h) hFc (fun u t H1 locs ht hvm hw hB hz1 hk1 hS => ?_)
  obtain ⟨q1_65, hP1, hK1, hD1⟩ := hB
  rw [ht] at hP1
  have hK1 := va_K.moved hvm.symm hK1
  obtain ⟨hP, hD⟩ := va_join (wr := [(h0, .inr (2, [.ref q_1])), (q_1, .inl (cA_2, 17, .inr (.inr (.inr (.inr f_62)))))]) (w1 := [(q_64, .inr (6, [.ref dk, .ref q1_65, .int 0]))]) hP hD [2] [0, 1] rfl rfl (by decide) (by decide) hk1 hFc hP1 hD1
  have hK := (hK.sub (tys' := [(cA_2, .object "RealHouse$Poly")]) [0] rfl).app hK1
  generalize H1 = H at hP hS ⊢
  have hP : va_P (dC, dI) classes [(h0, .inr (2, [.ref q_1])), (q_1, .inl (cA_2, 17, .inr (.inr (.inr (.inr f_62))))), (q_64, .inr (6, [.ref dk, .ref q1_65, .int 0]))] H := hP
  have hD : va_D A [(h0, .inr (2, [.ref q_1])), (q_1, .inl (cA_2, 17, .inr (.inr (.inr (.inr f_62))))), (q_64, .inr (6, [.ref dk, .ref q1_65, .int 0]))] := hD
  have hK : va_K (dC, dI) classes [(cA_2, .object "RealHouse$Poly")] s := hK
  refine W.widen (k := 33) (n := 65) (Nat.le_of_ble_eq_true rfl) (Nat.le_of_ble_eq_true rfl) ?_
  refine va_astq (r := (R_Poly, F_Poly, 3)) hx hb hK hP hD hS 1 0 2 6 rfl rfl rfl rfl (vp_in_nI (n := 15) (by decide) (by decide)) d_Curve_init_32 (fun H locs hP hD hS => ?_)
  have hP : va_P (dC, dI) classes [(h0, .inr (2, [.ref q_1])), (q_1, .inl (cA_2, 17, .inr (.inr (.inr (.inr (va_up f_62 (15 : Int32).toNatClampNeg (some q_64))))))), (q_64, .inr (6, [.ref dk, .ref q1_65, .int 0]))] H := hP
  have hD : va_D A [(h0, .inr (2, [.ref q_1])), (q_1, .inl (cA_2, 17, .inr (.inr (.inr (.inr (va_up f_62 (15 : Int32).toNatClampNeg (some q_64))))))), (q_64, .inr (6, [.ref dk, .ref q1_65, .int 0]))] := hD
  generalize va_up f_62 (15 : Int32).toNatClampNeg (some q_64) = f_66 at hP hD
  have hP := hP.sub (ws' := [(h0, .inr (2, [.ref q_1])), (q_1, .inl (cA_2, 17, .inr (.inr (.inr (.inr f_66)))))]) [0, 1] rfl
  have hD := hD.sub (ws' := [(h0, .inr (2, [.ref q_1])), (q_1, .inl (cA_2, 17, .inr (.inr (.inr (.inr f_66)))))]) [0, 1] (by decide) rfl
  refine lv_iinc (v := 16) (lv' := [(3, .int 16), (0, .ref h0), (1, .ref dk), (2, .int 17)]) hx hb d_Curve_init_33 hl (k := 0) rfl (by decide) (by decide) rfl (fun ls hl => ?_)
  refine lv_goto (tgt := 14) hx hb d_Curve_init_36 (by decide) ?_
  refine lv_iload_n hx hb d_Curve_init_14 rfl (lv_at hl 0 rfl) ?_
  refine lv_iload_n hx hb d_Curve_init_15 rfl (lv_at hl 3 rfl) ?_
  refine lv_icmp_ge (tgt := 39) hx hb d_Curve_init_16 (by decide) (fun c_67 => absurd c_67 (by decide)) (fun c_67 => ?_)
  refine lv_aload_n hx hb d_Curve_init_19 rfl (lv_at hl 1 rfl) ?_
  refine va_get (D := (dC, dI)) (ci := 2) (v := .ref q_1) (C := R_Curve) (T := F_Curve) (N := 1) hx hb hT i_Curve hown hK hP 0 rfl rfl 0 (by decide) (hT _ tw_224) (fun _ h9 => h9) rfl d_Curve_init_20 ?_
  refine lv_iload_n hx hb d_Curve_init_23 rfl (lv_at hl 0 rfl) ?_
  refine va_new (ci := 6) (fs := [.null, .null, .int 0]) (C := R_Poly) (T := F_Poly) (N := 3) hx hb hT i_Poly t_Poly t_Poly_ok hown (hT _ tw_189) (hT _ tw_190) (hT _ tw_8) hK hP hD hS hA rfl (by decide) (Nat.le_of_ble_eq_true rfl) (Nat.le_of_ble_eq_true rfl) d_Curve_init_24 (fun q_68 H hP hD hS => ?_)
  have hP : va_P (dC, dI) classes [(h0, .inr (2, [.ref q_1])), (q_1, .inl (cA_2, 17, .inr (.inr (.inr (.inr f_66))))), (q_68, .inr (6, [.null, .null, .int 0]))] H := hP
  have hD : va_D A [(h0, .inr (2, [.ref q_1])), (q_1, .inl (cA_2, 17, .inr (.inr (.inr (.inr f_66))))), (q_68, .inr (6, [.null, .null, .int 0]))] := hD
  refine W.widen (k := 34) (n := 68) (Nat.le_of_ble_eq_true rfl) (Nat.le_of_ble_eq_true rfl) ?_
  refine lv_dup hx hb d_Curve_init_27 rfl ?_
  refine lv_aload_n hx hb d_Curve_init_28 rfl (lv_at hl 2 rfl) ?_
  have hPc := hP.sub (ws' := [(q_68, .inr (6, [.null, .null, .int 0]))]) [2] rfl
  have hDc := hD.sub (ws' := [(q_68, .inr (6, [.null, .null, .int 0]))]) [2] (by decide) rfl
  have hKc := hK.sub (tys' := []) [] rfl
  have hFc := va_free (wc := [(q_68, .inr (6, [.null, .null, .int 0]))]) hD hS hA [2] rfl
  refine va_callv (va_runI (As := [.ref dk]) (rest := [.ref q_68, .int 16, .ref q_1]) ⟨hx, hb, hml, hown, hT⟩ (c_Poly_init l dC dI H.size q_68 dk ) (cwI 1 hT g_Poly_init rfl rfl rfl (hT _ tw_8) (hT _ tw_191) (hT _ tw_192) rfl (by decide +kernel) ⟨Nat.le_of_ble_eq_true rfl, Nat.le_of_ble_eq_true rfl⟩) ⟨fun a U g mk q => by obtain ⟨q0, q1, qP, qK, qD, qN⟩ := q; exact ⟨q0, q1, qP, va_K.moved (u := U) (U := U.calling g mk a) (Vm.Alike.refl U.vm) qK, qD, nx_K.same (u := U) (U := U.calling g mk a) rfl qN⟩, fun U hU hW => ⟨rfl, by rw [hU], by rw [hU]; exact hPc, va_K.moved hW.alike hKc, hDc.weaken (fun _ _ _ _ => trivial), nx_K.warm hW hN⟩⟩ rfl rfl hl.1 rfl (lv_room (Nat.le_of_ble_eq_true rfl)) d_Curve_init_29 ⟨Nat.le_of_ble_eq_true rfl, Nat.le_of_ble_eq_true rfl⟩) hS (fun q _ h => hFc q h) hFc (fun u t H1 locs ht hvm hw hB hz1 hk1 hS => ?_)
  obtain ⟨q1_69, hP1, hK1, hD1⟩ := hB
  rw [ht] at hP1
  have hK1 := va_K.moved hvm.symm hK1
  obtain ⟨hP, hD⟩ := va_join (wr := [(h0, .inr (2, [.ref q_1])), (q_1, .inl (cA_2, 17, .inr (.inr (.inr (.inr f_66)))))]) (w1 := [(q_68, .inr (6, [.ref dk, .ref q1_69, .int 0]))]) hP hD [2] [0, 1] rfl rfl (by decide) (by decide) hk1 hFc hP1 hD1
  have hK := (hK.sub (tys' := [(cA_2, .object "RealHouse$Poly")]) [0] rfl).app hK1
  generalize H1 = H at hP hS ⊢
  have hP : va_P (dC, dI) classes [(h0, .inr (2, [.ref q_1])), (q_1, .inl (cA_2, 17, .inr (.inr (.inr (.inr f_66))))), (q_68, .inr (6, [.ref dk, .ref q1_69, .int 0]))] H := hP
  have hD : va_D A [(h0, .inr (2, [.ref q_1])), (q_1, .inl (cA_2, 17, .inr (.inr (.inr (.inr f_66))))), (q_68, .inr (6, [.ref dk, .ref q1_69, .int 0]))] := hD
  have hK : va_K (dC, dI) classes [(cA_2, .object "RealHouse$Poly")] s := hK
  refine W.widen (k := 35) (n := 68) (Nat.le_of_ble_eq_true rfl) (Nat.le_of_ble_eq_true rfl) ?_
  refine va_astq (r := (R_Poly, F_Poly, 3)) hx hb hK hP hD hS 1 0 2 6 rfl rfl rfl rfl (vp_in_nI (n := 16) (by decide) (by decide)) d_Curve_init_32 (fun H locs hP hD hS => ?_)
  have hP : va_P (dC, dI) classes [(h0, .inr (2, [.ref q_1])), (q_1, .inl (cA_2, 17, .inr (.inr (.inr (.inr (va_up f_66 (16 : Int32).toNatClampNeg (some q_68))))))), (q_68, .inr (6, [.ref dk, .ref q1_69, .int 0]))] H := hP
  have hD : va_D A [(h0, .inr (2, [.ref q_1])), (q_1, .inl (cA_2, 17, .inr (.inr (.inr (.inr (va_up f_66 (16 : Int32).toNatClampNeg (some q_68))))))), (q_68, .inr (6, [.ref dk, .ref q1_69, .int 0]))] := hD
  generalize va_up f_66 (16 : Int32).toNatClampNeg (some q_68) = f_70 at hP hD
  have hP := hP.sub (ws' := [(h0, .inr (2, [.ref q_1])), (q_1, .inl (cA_2, 17, .inr (.inr (.inr (.inr f_70)))))]) [0, 1] rfl
  have hD := hD.sub (ws' := [(h0, .inr (2, [.ref q_1])), (q_1, .inl (cA_2, 17, .inr (.inr (.inr (.inr f_70)))))]) [0, 1] (by decide) rfl
  refine lv_iinc (v := 17) (lv' := [(3, .int 17), (0, .ref h0), (1, .ref dk), (2, .int 17)]) hx hb d_Curve_init_33 hl (k := 0) rfl (by decide) (by decide) rfl (fun ls hl => ?_)
  refine lv_goto (tgt := 14) hx hb d_Curve_init_36 (by decide) ?_
  refine lv_iload_n hx hb d_Curve_init_14 rfl (lv_at hl 0 rfl) ?_
  refine lv_iload_n hx hb d_Curve_init_15 rfl (lv_at hl 3 rfl) ?_
  refine lv_icmp_ge (tgt := 39) hx hb d_Curve_init_16 (by decide) (fun c_71 => ?_) (fun c_71 => absurd (by decide) c_71)
  have hP9 := hP.sub (ws' := [(h0, .inr (2, [.ref q_1]))]) [0] rfl
  have hD9 := hD.sub (ws' := [(h0, .inr (2, [.ref q_1]))]) [0] (by decide) rfl
  have hK9 := hK.sub (tys' := []) [] rfl
  exact W.vret hx hb hr (fun t ht hW => ⟨⟨(), rfl, trivial, q_1, by rw [ht]; exact hP9, va_K.moved hW.alike hK9, hD9⟩, hS.F ht⟩) hS.2.2 d_Curve_init_39

set_option maxHeartbeats 4000000 in
set_option maxRecDepth 100000 in
/-- Curve(desk, 9) -/
theorem c_Curve_init_9 (l : Launch) (dC : Nat → ClassId) (dI : Nat → Nat → Nat) (sz : Nat) (h0 : Nat) (dk : Nat)  : Met l y_Curve_init w_Curve_init ({ frames := 2, cells := 19, slots := 36, locals := 33 }) (va_Pc [.ref h0, .ref dk, .int 9] (fun U => U.heap.size = sz ∧ va_P (dC, dI) classes [(h0, .inr (2, [.null]))] U.heap ∧ va_K (dC, dI) classes [] U ∧ va_D (fun _ => True) [(h0, .inr (2, [.null]))] ∧ nx_K U)) (va_Qv (fun _ : Unit => True) (fun _ t => ∃ (x_c : Nat), va_P (dC, dI) classes [(h0, .inr (2, [.ref x_c]))] t.heap ∧ va_K (dC, dI) classes [] t ∧ va_D (va_A [(h0, .inr (2, [.null]))] sz) [(h0, .inr (2, [.ref x_c]))]) (va_A [(h0, .inr (2, [.null]))] sz)) 19 36 (va_A [(h0, .inr (2, [.null]))] sz) := by
  refine Met.ofW (cc := b_Curve_init) (maxL := 4) (ret := none) (by decide) rfl ?_
  intro p e s m args below meth c s₁ B hml hv
  obtain ⟨rfl, hsz, hP, hK, hD0, hN⟩ := hv
  have hx := B.exec
  have hb := B.bytes
  have hr := B.returns
  have hT : ∀ w ∈ lw_g, w.before _ s = true := fun w h => atoms_spec (ws := w_Curve_init) B.pre w (List.mem_cons_of_mem _ h)
  have hown : s.vm.findClass R_Curve = some m.cls := findClass_of_methodNamed B.named
  have hlocks := B.notSynchronized
  have hin : meth.name = "<init>" := (name_of_methodNamed B.named B.method).1
  subst hsz
  have hD := hD0.self (sz := s.heap.size)
  generalize hAe : va_A [(h0, .inr (2, [.null]))] s.heap.size = A at hD ⊢
  have hA : ∀ q : Nat, s.heap.size ≤ q → A q := fun q h => by rw [← hAe]; exact Or.inr h
  have hS : va_S A s.heap s.heap [] := va_S.rf
  have hP : va_P (dC, dI) classes [(h0, .inr (2, [.null]))] s.heap := hP
  have hl := lv_entry ([.ref h0, .ref dk, .int 9]) (n := 4) (Nat.le_of_ble_eq_true rfl)
  rw [lg_entry_eq]
  generalize (lg_sl ([.ref h0, .ref dk, .int 9]) ++ List.replicate (4 - (lg_sl ([.ref h0, .ref dk, .int 9])).length) Slot.unset).toArray = ls at hl ⊢
  have hl : lv_has ls 4 [(0, .ref h0), (1, .ref dk), (2, .int 9)] := hl
  refine lv_aload_n hx hb d_Curve_init_0 rfl (lv_at hl 0 rfl) ?_
  refine W.objInit hx hb hown (hT _ tw_188) (hT _ tw_24) (hT _ tw_25) rfl (by rw [hml]; exact hl.1) rfl d_Curve_init_1 (Nat.le_of_ble_eq_true rfl) (Nat.le_of_ble_eq_true rfl) ?_
  refine W.eq (g2 := F0 m 4 ls []) rfl ?_
  refine lv_aload_n hx hb d_Curve_init_4 rfl (lv_at hl 0 rfl) ?_
  refine lv_iload_n hx hb d_Curve_init_5 rfl (lv_at hl 2 rfl) ?_
  refine va_newq hx hb hown (hT _ tw_189) hN.2.2.1 hK hP hD hS hA (by decide) rfl (by decide) (Nat.le_of_ble_eq_true rfl) (Nat.le_of_ble_eq_true rfl) d_Curve_init_6 (fun q_1 cA_2 H hK hP hD hS => ?_)
  have hP : va_P (dC, dI) classes [(h0, .inr (2, [.null])), (q_1, .inl (cA_2, 9, .inr (.inr (.inr (.inr (fun _ => none))))))] H := hP
  have hD : va_D A [(h0, .inr (2, [.null])), (q_1, .inl (cA_2, 9, .inr (.inr (.inr (.inr (fun _ => none))))))] := hD
  have hK : va_K (dC, dI) classes [(cA_2, .object "RealHouse$Poly")] s := hK
  refine W.widen (k := 1) (n := 9) (Nat.le_of_ble_eq_true rfl) (Nat.le_of_ble_eq_true rfl) ?_
  refine va_putF (D := (dC, dI)) (ci := 2) (v := .ref q_1) (ty := .array (.object "RealHouse$Poly")) (C := R_Curve) (T := F_Curve) (N := 1) hx hb hT i_Curve t_Curve t_Curve_ok n_Curve hown hK hP hD hS 0 rfl rfl 0 (by decide) (hT _ tw_224) (fun _ h9 => h9) rfl hin rfl (by decide +kernel) rfl rfl (Nat.le_of_ble_eq_true rfl) d_Curve_init_9 (fun H locs hP hD hS => ?_)
  have hP : va_P (dC, dI) classes [(h0, .inr (2, [.ref q_1])), (q_1, .inl (cA_2, 9, .inr (.inr (.inr (.inr (fun _ => none))))))] H := hP
  have hD : va_D A [(h0, .inr (2, [.ref q_1])), (q_1, .inl (cA_2, 9, .inr (.inr (.inr (.inr (fun _ => none))))))] := hD
  refine lv_iconst (v := 0) hx hb d_Curve_init_12 (by decide) ?_
  refine lv_istore_n (lv' := [(3, .int 0), (0, .ref h0), (1, .ref dk), (2, .int 9)]) hx hb d_Curve_init_13 rfl hl (by decide) rfl (fun ls hl => ?_)
  refine lv_iload_n hx hb d_Curve_init_14 rfl (lv_at hl 0 rfl) ?_
  refine lv_iload_n hx hb d_Curve_init_15 rfl (lv_at hl 3 rfl) ?_
  refine lv_icmp_ge (tgt := 39) hx hb d_Curve_init_16 (by decide) (fun c_3 => absurd c_3 (by decide)) (fun c_3 => ?_)
  refine lv_aload_n hx hb d_Curve_init_19 rfl (lv_at hl 1 rfl) ?_
  refine va_get (D := (dC, dI)) (ci := 2) (v := .ref q_1) (C := R_Curve) (T := F_Curve) (N := 1) hx hb hT i_Curve hown hK hP 0 rfl rfl 0 (by decide) (hT _ tw_224) (fun _ h9 => h9) rfl d_Curve_init_20 ?_
  refine lv_iload_n hx hb d_Curve_init_23 rfl (lv_at hl 0 rfl) ?_
  refine va_new (ci := 6) (fs := [.null, .null, .int 0]) (C := R_Poly) (T := F_Poly) (N := 3) hx hb hT i_Poly t_Poly t_Poly_ok hown (hT _ tw_189) (hT _ tw_190) (hT _ tw_8) hK hP hD hS hA rfl (by decide) (Nat.le_of_ble_eq_true rfl) (Nat.le_of_ble_eq_true rfl) d_Curve_init_24 (fun q_4 H hP hD hS => ?_)
  have hP : va_P (dC, dI) classes [(h0, .inr (2, [.ref q_1])), (q_1, .inl (cA_2, 9, .inr (.inr (.inr (.inr (fun _ => none)))))), (q_4, .inr (6, [.null, .null, .int 0]))] H := hP
  have hD : va_D A [(h0, .inr (2, [.ref q_1])), (q_1, .inl (cA_2, 9, .inr (.inr (.inr (.inr (fun _ => none)))))), (q_4, .inr (6, [.null, .null, .int 0]))] := hD
  refine W.widen (k := 2) (n := 12) (Nat.le_of_ble_eq_true rfl) (Nat.le_of_ble_eq_true rfl) ?_
  refine lv_dup hx hb d_Curve_init_27 rfl ?_
  refine lv_aload_n hx hb d_Curve_init_28 rfl (lv_at hl 2 rfl) ?_
  have hPc := hP.sub (ws' := [(q_4, .inr (6, [.null, .null, .int 0]))]) [2] rfl
  have hDc := hD.sub (ws' := [(q_4, .inr (6, [.null, .null, .int 0]))]) [2] (by decide) rfl
  have hKc := hK.sub (tys' := []) [] rfl
  have hFc := va_free (wc := [(q_4, .inr (6, [.null, .null, .int 0]))]) hD hS hA [2] rfl
  refine va_callv (va_runI (As := [.ref dk]) (rest := [.ref q_4, .int 0, .ref q_1]) ⟨hx, hb, hml, hown, hT⟩ (c_Poly_init l dC dI H.size q_4 dk ) (cwI 1 hT g_Poly_init rfl rfl rfl (hT _ tw_8) (hT _ tw_191) (hT _ tw_192) rfl (by decide +kernel) ⟨Nat.le_of_ble_eq_true rfl, Nat.le_of_ble_eq_true rfl⟩) ⟨fun a U g mk q => by obtain ⟨q0, q1, qP, qK, qD, qN⟩ := q; exact ⟨q0, q1, qP, va_K.moved (u := U) (U := U.calling g mk a) (Vm.Alike.refl U.vm) qK, qD, nx_K.same (u := U) (U := U.calling g mk a) rfl qN⟩, fun U hU hW => ⟨rfl, by rw [hU], by rw [hU]; exact hPc, va_K.moved hW.alike hKc, hDc.weaken (fun _ _ _ _ => trivial), nx_K.warm hW hN⟩⟩ rfl rfl hl.1 rfl (lv_room (Nat.le_of_ble_eq_true rfl)) d_Curve_init_29 ⟨Nat.le_of_ble_eq_true rfl, Nat.le_of_ble_eq_true rfl⟩) hS (fun q _ h => hFc q h) hFc (fun u t H1 locs ht hvm hw hB hz1 hk1 hS => ?_)
  obtain ⟨q1_5, hP1, hK1, hD1⟩ := hB
  rw [ht] at hP1
  have hK1 := va_K.moved hvm.symm hK1
  obtain ⟨hP, hD⟩ := va_join (wr := [(h0, .inr (2, [.ref q_1])), (q_1, .inl (cA_2, 9, .inr (.inr (.inr (.inr (fun _ => none))))))]) (w1 := [(q_4, .inr (6, [.ref dk, .ref q1_5, .int 0]))]) hP hD [2] [0, 1] rfl rfl (by decide) (by decide) hk1 hFc hP1 hD1
  have hK := (hK.sub (tys' := [(cA_2, .object "RealHouse$Poly")]) [0] rfl).app hK1
  generalize H1 = H at hP hS ⊢
  have hP : va_P (dC, dI) classes [(h0, .inr (2, [.ref q_1])), (q_1, .inl (cA_2, 9, .inr (.inr (.inr (.inr (fun _ => none)))))), (q_4, .inr (6, [.ref dk, .ref q1_5, .int 0]))] H := hP
  have hD : va_D A [(h0, .inr (2, [.ref q_1])), (q_1, .inl (cA_2, 9, .inr (.inr (.inr (.inr (fun _ => none)))))), (q_4, .inr (6, [.ref dk, .ref q1_5, .int 0]))] := hD
  have hK : va_K (dC, dI) classes [(cA_2, .object "RealHouse$Poly")] s := hK
  refine W.widen (k := 3) (n := 12) (Nat.le_of_ble_eq_true rfl) (Nat.le_of_ble_eq_true rfl) ?_
  refine va_astq (r := (R_Poly, F_Poly, 3)) hx hb hK hP hD hS 1 0 2 6 rfl rfl rfl rfl (vp_in_nI (n := 0) (by decide) (by decide)) d_Curve_init_32 (fun H locs hP hD hS => ?_)
  have hP : va_P (dC, dI) classes [(h0, .inr (2, [.ref q_1])), (q_1, .inl (cA_2, 9, .inr (.inr (.inr (.inr (va_up (fun _ => none) (0 : Int32).toNatClampNeg (some q_4))))))), (q_4, .inr (6, [.ref dk, .ref q1_5, .int 0]))] H := hP
  have hD : va_D A [(h0, .inr (2, [.ref q_1])), (q_1, .inl (cA_2, 9, .inr (.inr (.inr (.inr (va_up (fun _ => none) (0 : Int32).toNatClampNeg (some q_4))))))), (q_4, .inr (6, [.ref dk, .ref q1_5, .int 0]))] := hD
  generalize va_up (fun _ => none) (0 : Int32).toNatClampNeg (some q_4) = f_6 at hP hD
  have hP := hP.sub (ws' := [(h0, .inr (2, [.ref q_1])), (q_1, .inl (cA_2, 9, .inr (.inr (.inr (.inr f_6)))))]) [0, 1] rfl
  have hD := hD.sub (ws' := [(h0, .inr (2, [.ref q_1])), (q_1, .inl (cA_2, 9, .inr (.inr (.inr (.inr f_6)))))]) [0, 1] (by decide) rfl
  refine lv_iinc (v := 1) (lv' := [(3, .int 1), (0, .ref h0), (1, .ref dk), (2, .int 9)]) hx hb d_Curve_init_33 hl (k := 0) rfl (by decide) (by decide) rfl (fun ls hl => ?_)
  refine lv_goto (tgt := 14) hx hb d_Curve_init_36 (by decide) ?_
  refine lv_iload_n hx hb d_Curve_init_14 rfl (lv_at hl 0 rfl) ?_
  refine lv_iload_n hx hb d_Curve_init_15 rfl (lv_at hl 3 rfl) ?_
  refine lv_icmp_ge (tgt := 39) hx hb d_Curve_init_16 (by decide) (fun c_7 => absurd c_7 (by decide)) (fun c_7 => ?_)
  refine lv_aload_n hx hb d_Curve_init_19 rfl (lv_at hl 1 rfl) ?_
  refine va_get (D := (dC, dI)) (ci := 2) (v := .ref q_1) (C := R_Curve) (T := F_Curve) (N := 1) hx hb hT i_Curve hown hK hP 0 rfl rfl 0 (by decide) (hT _ tw_224) (fun _ h9 => h9) rfl d_Curve_init_20 ?_
  refine lv_iload_n hx hb d_Curve_init_23 rfl (lv_at hl 0 rfl) ?_
  refine va_new (ci := 6) (fs := [.null, .null, .int 0]) (C := R_Poly) (T := F_Poly) (N := 3) hx hb hT i_Poly t_Poly t_Poly_ok hown (hT _ tw_189) (hT _ tw_190) (hT _ tw_8) hK hP hD hS hA rfl (by decide) (Nat.le_of_ble_eq_true rfl) (Nat.le_of_ble_eq_true rfl) d_Curve_init_24 (fun q_8 H hP hD hS => ?_)
  have hP : va_P (dC, dI) classes [(h0, .inr (2, [.ref q_1])), (q_1, .inl (cA_2, 9, .inr (.inr (.inr (.inr f_6))))), (q_8, .inr (6, [.null, .null, .int 0]))] H := hP
  have hD : va_D A [(h0, .inr (2, [.ref q_1])), (q_1, .inl (cA_2, 9, .inr (.inr (.inr (.inr f_6))))), (q_8, .inr (6, [.null, .null, .int 0]))] := hD
  refine W.widen (k := 4) (n := 15) (Nat.le_of_ble_eq_true rfl) (Nat.le_of_ble_eq_true rfl) ?_
  refine lv_dup hx hb d_Curve_init_27 rfl ?_
  refine lv_aload_n hx hb d_Curve_init_28 rfl (lv_at hl 2 rfl) ?_
  have hPc := hP.sub (ws' := [(q_8, .inr (6, [.null, .null, .int 0]))]) [2] rfl
  have hDc := hD.sub (ws' := [(q_8, .inr (6, [.null, .null, .int 0]))]) [2] (by decide) rfl
  have hKc := hK.sub (tys' := []) [] rfl
  have hFc := va_free (wc := [(q_8, .inr (6, [.null, .null, .int 0]))]) hD hS hA [2] rfl
  refine va_callv (va_runI (As := [.ref dk]) (rest := [.ref q_8, .int 1, .ref q_1]) ⟨hx, hb, hml, hown, hT⟩ (c_Poly_init l dC dI H.size q_8 dk ) (cwI 1 hT g_Poly_init rfl rfl rfl (hT _ tw_8) (hT _ tw_191) (hT _ tw_192) rfl (by decide +kernel) ⟨Nat.le_of_ble_eq_true rfl, Nat.le_of_ble_eq_true rfl⟩) ⟨fun a U g mk q => by obtain ⟨q0, q1, qP, qK, qD, qN⟩ := q; exact ⟨q0, q1, qP, va_K.moved (u := U) (U := U.calling g mk a) (Vm.Alike.refl U.vm) qK, qD, nx_K.same (u := U) (U := U.calling g mk a) rfl qN⟩, fun U hU hW => ⟨rfl, by rw [hU], by rw [hU]; exact hPc, va_K.moved hW.alike hKc, hDc.weaken (fun _ _ _ _ => trivial), nx_K.warm hW hN⟩⟩ rfl rfl hl.1 rfl (lv_room (Nat.le_of_ble_eq_true rfl)) d_Curve_init_29 ⟨Nat.le_of_ble_eq_true rfl, Nat.le_of_ble_eq_true rfl⟩) hS (fun q _ h => hFc q h) hFc (fun u t H1 locs ht hvm hw hB hz1 hk1 hS => ?_)
  obtain ⟨q1_9, hP1, hK1, hD1⟩ := hB
  rw [ht] at hP1
  have hK1 := va_K.moved hvm.symm hK1
  obtain ⟨hP, hD⟩ := va_join (wr := [(h0, .inr (2, [.ref q_1])), (q_1, .inl (cA_2, 9, .inr (.inr (.inr (.inr f_6)))))]) (w1 := [(q_8, .inr (6, [.ref dk, .ref q1_9, .int 0]))]) hP hD [2] [0, 1] rfl rfl (by decide) (by decide) hk1 hFc hP1 hD1
  have hK := (hK.sub (tys' := [(cA_2, .object "RealHouse$Poly")]) [0] rfl).app hK1
  generalize H1 = H at hP hS ⊢
  have hP : va_P (dC, dI) classes [(h0, .inr (2, [.ref q_1])), (q_1, .inl (cA_2, 9, .inr (.inr (.inr (.inr f_6))))), (q_8, .inr (6, [.ref dk, .ref q1_9, .int 0]))] H := hP
  have hD : va_D A [(h0, .inr (2, [.ref q_1])), (q_1, .inl (cA_2, 9, .inr (.inr (.inr (.inr f_6))))), (q_8, .inr (6, [.ref dk, .ref q1_9, .int 0]))] := hD
  have hK : va_K (dC, dI) classes [(cA_2, .object "RealHouse$Poly")] s := hK
  refine W.widen (k := 5) (n := 15) (Nat.le_of_ble_eq_true rfl) (Nat.le_of_ble_eq_true rfl) ?_
  refine va_astq (r := (R_Poly, F_Poly, 3)) hx hb hK hP hD hS 1 0 2 6 rfl rfl rfl rfl (vp_in_nI (n := 1) (by decide) (by decide)) d_Curve_init_32 (fun H locs hP hD hS => ?_)
  have hP : va_P (dC, dI) classes [(h0, .inr (2, [.ref q_1])), (q_1, .inl (cA_2, 9, .inr (.inr (.inr (.inr (va_up f_6 (1 : Int32).toNatClampNeg (some q_8))))))), (q_8, .inr (6, [.ref dk, .ref q1_9, .int 0]))] H := hP
  have hD : va_D A [(h0, .inr (2, [.ref q_1])), (q_1, .inl (cA_2, 9, .inr (.inr (.inr (.inr (va_up f_6 (1 : Int32).toNatClampNeg (some q_8))))))), (q_8, .inr (6, [.ref dk, .ref q1_9, .int 0]))] := hD
  generalize va_up f_6 (1 : Int32).toNatClampNeg (some q_8) = f_10 at hP hD
  have hP := hP.sub (ws' := [(h0, .inr (2, [.ref q_1])), (q_1, .inl (cA_2, 9, .inr (.inr (.inr (.inr f_10)))))]) [0, 1] rfl
  have hD := hD.sub (ws' := [(h0, .inr (2, [.ref q_1])), (q_1, .inl (cA_2, 9, .inr (.inr (.inr (.inr f_10)))))]) [0, 1] (by decide) rfl
  refine lv_iinc (v := 2) (lv' := [(3, .int 2), (0, .ref h0), (1, .ref dk), (2, .int 9)]) hx hb d_Curve_init_33 hl (k := 0) rfl (by decide) (by decide) rfl (fun ls hl => ?_)
  refine lv_goto (tgt := 14) hx hb d_Curve_init_36 (by decide) ?_
  refine lv_iload_n hx hb d_Curve_init_14 rfl (lv_at hl 0 rfl) ?_
  refine lv_iload_n hx hb d_Curve_init_15 rfl (lv_at hl 3 rfl) ?_
  refine lv_icmp_ge (tgt := 39) hx hb d_Curve_init_16 (by decide) (fun c_11 => absurd c_11 (by decide)) (fun c_11 => ?_)
  refine lv_aload_n hx hb d_Curve_init_19 rfl (lv_at hl 1 rfl) ?_
  refine va_get (D := (dC, dI)) (ci := 2) (v := .ref q_1) (C := R_Curve) (T := F_Curve) (N := 1) hx hb hT i_Curve hown hK hP 0 rfl rfl 0 (by decide) (hT _ tw_224) (fun _ h9 => h9) rfl d_Curve_init_20 ?_
  refine lv_iload_n hx hb d_Curve_init_23 rfl (lv_at hl 0 rfl) ?_
  refine va_new (ci := 6) (fs := [.null, .null, .int 0]) (C := R_Poly) (T := F_Poly) (N := 3) hx hb hT i_Poly t_Poly t_Poly_ok hown (hT _ tw_189) (hT _ tw_190) (hT _ tw_8) hK hP hD hS hA rfl (by decide) (Nat.le_of_ble_eq_true rfl) (Nat.le_of_ble_eq_true rfl) d_Curve_init_24 (fun q_12 H hP hD hS => ?_)
  have hP : va_P (dC, dI) classes [(h0, .inr (2, [.ref q_1])), (q_1, .inl (cA_2, 9, .inr (.inr (.inr (.inr f_10))))), (q_12, .inr (6, [.null, .null, .int 0]))] H := hP
  have hD : va_D A [(h0, .inr (2, [.ref q_1])), (q_1, .inl (cA_2, 9, .inr (.inr (.inr (.inr f_10))))), (q_12, .inr (6, [.null, .null, .int 0]))] := hD
  refine W.widen (k := 6) (n := 18) (Nat.le_of_ble_eq_true rfl) (Nat.le_of_ble_eq_true rfl) ?_
  refine lv_dup hx hb d_Curve_init_27 rfl ?_
  refine lv_aload_n hx hb d_Curve_init_28 rfl (lv_at hl 2 rfl) ?_
  have hPc := hP.sub (ws' := [(q_12, .inr (6, [.null, .null, .int 0]))]) [2] rfl
  have hDc := hD.sub (ws' := [(q_12, .inr (6, [.null, .null, .int 0]))]) [2] (by decide) rfl
  have hKc := hK.sub (tys' := []) [] rfl
  have hFc := va_free (wc := [(q_12, .inr (6, [.null, .null, .int 0]))]) hD hS hA [2] rfl
  refine va_callv (va_runI (As := [.ref dk]) (rest := [.ref q_12, .int 2, .ref q_1]) ⟨hx, hb, hml, hown, hT⟩ (c_Poly_init l dC dI H.size q_12 dk ) (cwI 1 hT g_Poly_init rfl rfl rfl (hT _ tw_8) (hT _ tw_191) (hT _ tw_192) rfl (by decide +kernel) ⟨Nat.le_of_ble_eq_true rfl, Nat.le_of_ble_eq_true rfl⟩) ⟨fun a U g mk q => by obtain ⟨q0, q1, qP, qK, qD, qN⟩ := q; exact ⟨q0, q1, qP, va_K.moved (u := U) (U := U.calling g mk a) (Vm.Alike.refl U.vm) qK, qD, nx_K.same (u := U) (U := U.calling g mk a) rfl qN⟩, fun U hU hW => ⟨rfl, by rw [hU], by rw [hU]; exact hPc, va_K.moved hW.alike hKc, hDc.weaken (fun _ _ _ _ => trivial), nx_K.warm hW hN⟩⟩ rfl rfl hl.1 rfl (lv_room (Nat.le_of_ble_eq_true rfl)) d_Curve_init_29 ⟨Nat.le_of_ble_eq_true rfl, Nat.le_of_ble_eq_true rfl⟩) hS (fun q _ h => hFc q h) hFc (fun u t H1 locs ht hvm hw hB hz1 hk1 hS => ?_)
  obtain ⟨q1_13, hP1, hK1, hD1⟩ := hB
  rw [ht] at hP1
  have hK1 := va_K.moved hvm.symm hK1
  obtain ⟨hP, hD⟩ := va_join (wr := [(h0, .inr (2, [.ref q_1])), (q_1, .inl (cA_2, 9, .inr (.inr (.inr (.inr f_10)))))]) (w1 := [(q_12, .inr (6, [.ref dk, .ref q1_13, .int 0]))]) hP hD [2] [0, 1] rfl rfl (by decide) (by decide) hk1 hFc hP1 hD1
  have hK := (hK.sub (tys' := [(cA_2, .object "RealHouse$Poly")]) [0] rfl).app hK1
  generalize H1 = H at hP hS ⊢
  have hP : va_P (dC, dI) classes [(h0, .inr (2, [.ref q_1])), (q_1, .inl (cA_2, 9, .inr (.inr (.inr (.inr f_10))))), (q_12, .inr (6, [.ref dk, .ref q1_13, .int 0]))] H := hP
  have hD : va_D A [(h0, .inr (2, [.ref q_1])), (q_1, .inl (cA_2, 9, .inr (.inr (.inr (.inr f_10))))), (q_12, .inr (6, [.ref dk, .ref q1_13, .int 0]))] := hD
  have hK : va_K (dC, dI) classes [(cA_2, .object "RealHouse$Poly")] s := hK
  refine W.widen (k := 7) (n := 18) (Nat.le_of_ble_eq_true rfl) (Nat.le_of_ble_eq_true rfl) ?_
  refine va_astq (r := (R_Poly, F_Poly, 3)) hx hb hK hP hD hS 1 0 2 6 rfl rfl rfl rfl (vp_in_nI (n := 2) (by decide) (by decide)) d_Curve_init_32 (fun H locs hP hD hS => ?_)
  have hP : va_P (dC, dI) classes [(h0, .inr (2, [.ref q_1])), (q_1, .inl (cA_2, 9, .inr (.inr (.inr (.inr (va_up f_10 (2 : Int32).toNatClampNeg (some q_12))))))), (q_12, .inr (6, [.ref dk, .ref q1_13, .int 0]))] H := hP
  have hD : va_D A [(h0, .inr (2, [.ref q_1])), (q_1, .inl (cA_2, 9, .inr (.inr (.inr (.inr (va_up f_10 (2 : Int32).toNatClampNeg (some q_12))))))), (q_12, .inr (6, [.ref dk, .ref q1_13, .int 0]))] := hD
  generalize va_up f_10 (2 : Int32).toNatClampNeg (some q_12) = f_14 at hP hD
  have hP := hP.sub (ws' := [(h0, .inr (2, [.ref q_1])), (q_1, .inl (cA_2, 9, .inr (.inr (.inr (.inr f_14)))))]) [0, 1] rfl
  have hD := hD.sub (ws' := [(h0, .inr (2, [.ref q_1])), (q_1, .inl (cA_2, 9, .inr (.inr (.inr (.inr f_14)))))]) [0, 1] (by decide) rfl
  refine lv_iinc (v := 3) (lv' := [(3, .int 3), (0, .ref h0), (1, .ref dk), (2, .int 9)]) hx hb d_Curve_init_33 hl (k := 0) rfl (by decide) (by decide) rfl (fun ls hl => ?_)
  refine lv_goto (tgt := 14) hx hb d_Curve_init_36 (by decide) ?_
  refine lv_iload_n hx hb d_Curve_init_14 rfl (lv_at hl 0 rfl) ?_
  refine lv_iload_n hx hb d_Curve_init_15 rfl (lv_at hl 3 rfl) ?_
  refine lv_icmp_ge (tgt := 39) hx hb d_Curve_init_16 (by decide) (fun c_15 => absurd c_15 (by decide)) (fun c_15 => ?_)
  refine lv_aload_n hx hb d_Curve_init_19 rfl (lv_at hl 1 rfl) ?_
  refine va_get (D := (dC, dI)) (ci := 2) (v := .ref q_1) (C := R_Curve) (T := F_Curve) (N := 1) hx hb hT i_Curve hown hK hP 0 rfl rfl 0 (by decide) (hT _ tw_224) (fun _ h9 => h9) rfl d_Curve_init_20 ?_
  refine lv_iload_n hx hb d_Curve_init_23 rfl (lv_at hl 0 rfl) ?_
  refine va_new (ci := 6) (fs := [.null, .null, .int 0]) (C := R_Poly) (T := F_Poly) (N := 3) hx hb hT i_Poly t_Poly t_Poly_ok hown (hT _ tw_189) (hT _ tw_190) (hT _ tw_8) hK hP hD hS hA rfl (by decide) (Nat.le_of_ble_eq_true rfl) (Nat.le_of_ble_eq_true rfl) d_Curve_init_24 (fun q_16 H hP hD hS => ?_)
  have hP : va_P (dC, dI) classes [(h0, .inr (2, [.ref q_1])), (q_1, .inl (cA_2, 9, .inr (.inr (.inr (.inr f_14))))), (q_16, .inr (6, [.null, .null, .int 0]))] H := hP
  have hD : va_D A [(h0, .inr (2, [.ref q_1])), (q_1, .inl (cA_2, 9, .inr (.inr (.inr (.inr f_14))))), (q_16, .inr (6, [.null, .null, .int 0]))] := hD
  refine W.widen (k := 8) (n := 21) (Nat.le_of_ble_eq_true rfl) (Nat.le_of_ble_eq_true rfl) ?_
  refine lv_dup hx hb d_Curve_init_27 rfl ?_
  refine lv_aload_n hx hb d_Curve_init_28 rfl (lv_at hl 2 rfl) ?_
  have hPc := hP.sub (ws' := [(q_16, .inr (6, [.null, .null, .int 0]))]) [2] rfl
  have hDc := hD.sub (ws' := [(q_16, .inr (6, [.null, .null, .int 0]))]) [2] (by decide) rfl
  have hKc := hK.sub (tys' := []) [] rfl
  have hFc := va_free (wc := [(q_16, .inr (6, [.null, .null, .int 0]))]) hD hS hA [2] rfl
  refine va_callv (va_runI (As := [.ref dk]) (rest := [.ref q_16, .int 3, .ref q_1]) ⟨hx, hb, hml, hown, hT⟩ (c_Poly_init l dC dI H.size q_16 dk ) (cwI 1 hT g_Poly_init rfl rfl rfl (hT _ tw_8) (hT _ tw_191) (hT _ tw_192) rfl (by decide +kernel) ⟨Nat.le_of_ble_eq_true rfl, Nat.le_of_ble_eq_true rfl⟩) ⟨fun a U g mk q => by obtain ⟨q0, q1, qP, qK, qD, qN⟩ := q; exact ⟨q0, q1, qP, va_K.moved (u := U) (U := U.calling g mk a) (Vm.Alike.refl U.vm) qK, qD, nx_K.same (u := U) (U := U.calling g mk a) rfl qN⟩, fun U hU hW => ⟨rfl, by rw [hU], by rw [hU]; exact hPc, va_K.moved hW.alike hKc, hDc.weaken (fun _ _ _ _ => trivial), nx_K.warm hW hN⟩⟩ rfl rfl hl.1 rfl (lv_room (Nat.le_of_ble_eq_true rfl)) d_Curve_init_29 ⟨Nat.le_of_ble_eq_true rfl, Nat.le_of_ble_eq_true rfl⟩) hS (fun q _ h => hFc q h) hFc (fun u t H1 locs ht hvm hw hB hz1 hk1 hS => ?_)
  obtain ⟨q1_17, hP1, hK1, hD1⟩ := hB
  rw [ht] at hP1
  have hK1 := va_K.moved hvm.symm hK1
  obtain ⟨hP, hD⟩ := va_join (wr := [(h0, .inr (2, [.ref q_1])), (q_1, .inl (cA_2, 9, .inr (.inr (.inr (.inr f_14)))))]) (w1 := [(q_16, .inr (6, [.ref dk, .ref q1_17, .int 0]))]) hP hD [2] [0, 1] rfl rfl (by decide) (by decide) hk1 hFc hP1 hD1
  have hK := (hK.sub (tys' := [(cA_2, .object "RealHouse$Poly")]) [0] rfl).app hK1
  generalize H1 = H at hP hS ⊢
  have hP : va_P (dC, dI) classes [(h0, .inr (2, [.ref q_1])), (q_1, .inl (cA_2, 9, .inr (.inr (.inr (.inr f_14))))), (q_16, .inr (6, [.ref dk, .ref q1_17, .int 0]))] H := hP
  have hD : va_D A [(h0, .inr (2, [.ref q_1])), (q_1, .inl (cA_2, 9, .inr (.inr (.inr (.inr f_14))))), (q_16, .inr (6, [.ref dk, .ref q1_17, .int 0]))] := hD
  have hK : va_K (dC, dI) classes [(cA_2, .object "RealHouse$Poly")] s := hK
  refine W.widen (k := 9) (n := 21) (Nat.le_of_ble_eq_true rfl) (Nat.le_of_ble_eq_true rfl) ?_
  refine va_astq (r := (R_Poly, F_Poly, 3)) hx hb hK hP hD hS 1 0 2 6 rfl rfl rfl rfl (vp_in_nI (n := 3) (by decide) (by decide)) d_Curve_init_32 (fun H locs hP hD hS => ?_)
  have hP : va_P (dC, dI) classes [(h0, .inr (2, [.ref q_1])), (q_1, .inl (cA_2, 9, .inr (.inr (.inr (.inr (va_up f_14 (3 : Int32).toNatClampNeg (some q_16))))))), (q_16, .inr (6, [.ref dk, .ref q1_17, .int 0]))] H := hP
  have hD : va_D A [(h0, .inr (2, [.ref q_1])), (q_1, .inl (cA_2, 9, .inr (.inr (.inr (.inr (va_up f_14 (3 : Int32).toNatClampNeg (some q_16))))))), (q_16, .inr (6, [.ref dk, .ref q1_17, .int 0]))] := hD
  generalize va_up f_14 (3 : Int32).toNatClampNeg (some q_16) = f_18 at hP hD
  have hP := hP.sub (ws' := [(h0, .inr (2, [.ref q_1])), (q_1, .inl (cA_2, 9, .inr (.inr (.inr (.inr f_18)))))]) [0, 1] rfl
  have hD := hD.sub (ws' := [(h0, .inr (2, [.ref q_1])), (q_1, .inl (cA_2, 9, .inr (.inr (.inr (.inr f_18)))))]) [0, 1] (by decide) rfl
  refine lv_iinc (v := 4) (lv' := [(3, .int 4), (0, .ref h0), (1, .ref dk), (2, .int 9)]) hx hb d_Curve_init_33 hl (k := 0) rfl (by decide) (by decide) rfl (fun ls hl => ?_)
  refine lv_goto (tgt := 14) hx hb d_Curve_init_36 (by decide) ?_
  refine lv_iload_n hx hb d_Curve_init_14 rfl (lv_at hl 0 rfl) ?_
  refine lv_iload_n hx hb d_Curve_init_15 rfl (lv_at hl 3 rfl) ?_
  refine lv_icmp_ge (tgt := 39) hx hb d_Curve_init_16 (by decide) (fun c_19 => absurd c_19 (by decide)) (fun c_19 => ?_)
  refine lv_aload_n hx hb d_Curve_init_19 rfl (lv_at hl 1 rfl) ?_
  refine va_get (D := (dC, dI)) (ci := 2) (v := .ref q_1) (C := R_Curve) (T := F_Curve) (N := 1) hx hb hT i_Curve hown hK hP 0 rfl rfl 0 (by decide) (hT _ tw_224) (fun _ h9 => h9) rfl d_Curve_init_20 ?_
  refine lv_iload_n hx hb d_Curve_init_23 rfl (lv_at hl 0 rfl) ?_
  refine va_new (ci := 6) (fs := [.null, .null, .int 0]) (C := R_Poly) (T := F_Poly) (N := 3) hx hb hT i_Poly t_Poly t_Poly_ok hown (hT _ tw_189) (hT _ tw_190) (hT _ tw_8) hK hP hD hS hA rfl (by decide) (Nat.le_of_ble_eq_true rfl) (Nat.le_of_ble_eq_true rfl) d_Curve_init_24 (fun q_20 H hP hD hS => ?_)
  have hP : va_P (dC, dI) classes [(h0, .inr (2, [.ref q_1])), (q_1, .inl (cA_2, 9, .inr (.inr (.inr (.inr f_18))))), (q_20, .inr (6, [.null, .null, .int 0]))] H := hP
  have hD : va_D A [(h0, .inr (2, [.ref q_1])), (q_1, .inl (cA_2, 9, .inr (.inr (.inr (.inr f_18))))), (q_20, .inr (6, [.null, .null, .int 0]))] := hD
  refine W.widen (k := 10) (n := 24) (Nat.le_of_ble_eq_true rfl) (Nat.le_of_ble_eq_true rfl) ?_
  refine lv_dup hx hb d_Curve_init_27 rfl ?_
  refine lv_aload_n hx hb d_Curve_init_28 rfl (lv_at hl 2 rfl) ?_
  have hPc := hP.sub (ws' := [(q_20, .inr (6, [.null, .null, .int 0]))]) [2] rfl
  have hDc := hD.sub (ws' := [(q_20, .inr (6, [.null, .null, .int 0]))]) [2] (by decide) rfl
  have hKc := hK.sub (tys' := []) [] rfl
  have hFc := va_free (wc := [(q_20, .inr (6, [.null, .null, .int 0]))]) hD hS hA [2] rfl
  refine va_callv (va_runI (As := [.ref dk]) (rest := [.ref q_20, .int 4, .ref q_1]) ⟨hx, hb, hml, hown, hT⟩ (c_Poly_init l dC dI H.size q_20 dk ) (cwI 1 hT g_Poly_init rfl rfl rfl (hT _ tw_8) (hT _ tw_191) (hT _ tw_192) rfl (by decide +kernel) ⟨Nat.le_of_ble_eq_true rfl, Nat.le_of_ble_eq_true rfl⟩) ⟨fun a U g mk q => by obtain ⟨q0, q1, qP, qK, qD, qN⟩ := q; exact ⟨q0, q1, qP, va_K.moved (u := U) (U := U.calling g mk a) (Vm.Alike.refl U.vm) qK, qD, nx_K.same (u := U) (U := U.calling g mk a) rfl qN⟩, fun U hU hW => ⟨rfl, by rw [hU], by rw [hU]; exact hPc, va_K.moved hW.alike hKc, hDc.weaken (fun _ _ _ _ => trivial), nx_K.warm hW hN⟩⟩ rfl rfl hl.1 rfl (lv_room (Nat.le_of_ble_eq_true rfl)) d_Curve_init_29 ⟨Nat.le_of_ble_eq_true rfl, Nat.le_of_ble_eq_true rfl⟩) hS (fun q _ h => hFc q h) hFc (fun u t H1 locs ht hvm hw hB hz1 hk1 hS => ?_)
  obtain ⟨q1_21, hP1, hK1, hD1⟩ := hB
  rw [ht] at hP1
  have hK1 := va_K.moved hvm.symm hK1
  obtain ⟨hP, hD⟩ := va_join (wr := [(h0, .inr (2, [.ref q_1])), (q_1, .inl (cA_2, 9, .inr (.inr (.inr (.inr f_18)))))]) (w1 := [(q_20, .inr (6, [.ref dk, .ref q1_21, .int 0]))]) hP hD [2] [0, 1] rfl rfl (by decide) (by decide) hk1 hFc hP1 hD1
  have hK := (hK.sub (tys' := [(cA_2, .object "RealHouse$Poly")]) [0] rfl).app hK1
  generalize H1 = H at hP hS ⊢
  have hP : va_P (dC, dI) classes [(h0, .inr (2, [.ref q_1])), (q_1, .inl (cA_2, 9, .inr (.inr (.inr (.inr f_18))))), (q_20, .inr (6, [.ref dk, .ref q1_21, .int 0]))] H := hP
  have hD : va_D A [(h0, .inr (2, [.ref q_1])), (q_1, .inl (cA_2, 9, .inr (.inr (.inr (.inr f_18))))), (q_20, .inr (6, [.ref dk, .ref q1_21, .int 0]))] := hD
  have hK : va_K (dC, dI) classes [(cA_2, .object "RealHouse$Poly")] s := hK
  refine W.widen (k := 11) (n := 24) (Nat.le_of_ble_eq_true rfl) (Nat.le_of_ble_eq_true rfl) ?_
  refine va_astq (r := (R_Poly, F_Poly, 3)) hx hb hK hP hD hS 1 0 2 6 rfl rfl rfl rfl (vp_in_nI (n := 4) (by decide) (by decide)) d_Curve_init_32 (fun H locs hP hD hS => ?_)
  have hP : va_P (dC, dI) classes [(h0, .inr (2, [.ref q_1])), (q_1, .inl (cA_2, 9, .inr (.inr (.inr (.inr (va_up f_18 (4 : Int32).toNatClampNeg (some q_20))))))), (q_20, .inr (6, [.ref dk, .ref q1_21, .int 0]))] H := hP
  have hD : va_D A [(h0, .inr (2, [.ref q_1])), (q_1, .inl (cA_2, 9, .inr (.inr (.inr (.inr (va_up f_18 (4 : Int32).toNatClampNeg (some q_20))))))), (q_20, .inr (6, [.ref dk, .ref q1_21, .int 0]))] := hD
  generalize va_up f_18 (4 : Int32).toNatClampNeg (some q_20) = f_22 at hP hD
  have hP := hP.sub (ws' := [(h0, .inr (2, [.ref q_1])), (q_1, .inl (cA_2, 9, .inr (.inr (.inr (.inr f_22)))))]) [0, 1] rfl
  have hD := hD.sub (ws' := [(h0, .inr (2, [.ref q_1])), (q_1, .inl (cA_2, 9, .inr (.inr (.inr (.inr f_22)))))]) [0, 1] (by decide) rfl
  refine lv_iinc (v := 5) (lv' := [(3, .int 5), (0, .ref h0), (1, .ref dk), (2, .int 9)]) hx hb d_Curve_init_33 hl (k := 0) rfl (by decide) (by decide) rfl (fun ls hl => ?_)
  refine lv_goto (tgt := 14) hx hb d_Curve_init_36 (by decide) ?_
  refine lv_iload_n hx hb d_Curve_init_14 rfl (lv_at hl 0 rfl) ?_
  refine lv_iload_n hx hb d_Curve_init_15 rfl (lv_at hl 3 rfl) ?_
  refine lv_icmp_ge (tgt := 39) hx hb d_Curve_init_16 (by decide) (fun c_23 => absurd c_23 (by decide)) (fun c_23 => ?_)
  refine lv_aload_n hx hb d_Curve_init_19 rfl (lv_at hl 1 rfl) ?_
  refine va_get (D := (dC, dI)) (ci := 2) (v := .ref q_1) (C := R_Curve) (T := F_Curve) (N := 1) hx hb hT i_Curve hown hK hP 0 rfl rfl 0 (by decide) (hT _ tw_224) (fun _ h9 => h9) rfl d_Curve_init_20 ?_
  refine lv_iload_n hx hb d_Curve_init_23 rfl (lv_at hl 0 rfl) ?_
  refine va_new (ci := 6) (fs := [.null, .null, .int 0]) (C := R_Poly) (T := F_Poly) (N := 3) hx hb hT i_Poly t_Poly t_Poly_ok hown (hT _ tw_189) (hT _ tw_190) (hT _ tw_8) hK hP hD hS hA rfl (by decide) (Nat.le_of_ble_eq_true rfl) (Nat.le_of_ble_eq_true rfl) d_Curve_init_24 (fun q_24 H hP hD hS => ?_)
  have hP : va_P (dC, dI) classes [(h0, .inr (2, [.ref q_1])), (q_1, .inl (cA_2, 9, .inr (.inr (.inr (.inr f_22))))), (q_24, .inr (6, [.null, .null, .int 0]))] H := hP
  have hD : va_D A [(h0, .inr (2, [.ref q_1])), (q_1, .inl (cA_2, 9, .inr (.inr (.inr (.inr f_22))))), (q_24, .inr (6, [.null, .null, .int 0]))] := hD
  refine W.widen (k := 12) (n := 27) (Nat.le_of_ble_eq_true rfl) (Nat.le_of_ble_eq_true rfl) ?_
  refine lv_dup hx hb d_Curve_init_27 rfl ?_
  refine lv_aload_n hx hb d_Curve_init_28 rfl (lv_at hl 2 rfl) ?_
  have hPc := hP.sub (ws' := [(q_24, .inr (6, [.null, .null, .int 0]))]) [2] rfl
  have hDc := hD.sub (ws' := [(q_24, .inr (6, [.null, .null, .int 0]))]) [2] (by decide) rfl
  have hKc := hK.sub (tys' := []) [] rfl
  have hFc := va_free (wc := [(q_24, .inr (6, [.null, .null, .int 0]))]) hD hS hA [2] rfl
  refine va_callv (va_runI (As := [.ref dk]) (rest := [.ref q_24, .int 5, .ref q_1]) ⟨hx, hb, hml, hown, hT⟩ (c_Poly_init l dC dI H.size q_24 dk ) (cwI 1 hT g_Poly_init rfl rfl rfl (hT _ tw_8) (hT _ tw_191) (hT _ tw_192) rfl (by decide +kernel) ⟨Nat.le_of_ble_eq_true rfl, Nat.le_of_ble_eq_true rfl⟩) ⟨fun a U g mk q => by obtain ⟨q0, q1, qP, qK, qD, qN⟩ := q; exact ⟨q0, q1, qP, va_K.moved (u := U) (U := U.calling g mk a) (Vm.Alike.refl U.vm) qK, qD, nx_K.same (u := U) (U := U.calling g mk a) rfl qN⟩, fun U hU hW => ⟨rfl, by rw [hU], by rw [hU]; exact hPc, va_K.moved hW.alike hKc, hDc.weaken (fun _ _ _ _ => trivial), nx_K.warm hW hN⟩⟩ rfl rfl hl.1 rfl (lv_room (Nat.le_of_ble_eq_true rfl)) d_Curve_init_29 ⟨Nat.le_of_ble_eq_true rfl, Nat.le_of_ble_eq_true rfl⟩) hS (fun q _ h => hFc q h) hFc (fun u t H1 locs ht hvm hw hB hz1 hk1 hS => ?_)
  obtain ⟨q1_25, hP1, hK1, hD1⟩ := hB
  rw [ht] at hP1
  have hK1 := va_K.moved hvm.symm hK1
  obtain ⟨hP, hD⟩ := va_join (wr := [(h0, .inr (2, [.ref q_1])), (q_1, .inl (cA_2, 9, .inr (.inr (.inr (.inr f_22)))))]) (w1 := [(q_24, .inr (6, [.ref dk, .ref q1_25, .int 0]))]) hP hD [2] [0, 1] rfl rfl (by decide) (by decide) hk1 hFc hP1 hD1
  have hK := (hK.sub (tys' := [(cA_2, .object "RealHouse$Poly")]) [0] rfl).app hK1
  generalize H1 = H at hP hS ⊢
  have hP : va_P (dC, dI) classes [(h0, .inr (2, [.ref q_1])), (q_1, .inl (cA_2, 9, .inr (.inr (.inr (.inr f_22))))), (q_24, .inr (6, [.ref dk, .ref q1_25, .int 0]))] H := hP
  have hD : va_D A [(h0, .inr (2, [.ref q_1])), (q_1, .inl (cA_2, 9, .inr (.inr (.inr (.inr f_22))))), (q_24, .inr (6, [.ref dk, .ref q1_25, .int 0]))] := hD
  have hK : va_K (dC, dI) classes [(cA_2, .object "RealHouse$Poly")] s := hK
  refine W.widen (k := 13) (n := 27) (Nat.le_of_ble_eq_true rfl) (Nat.le_of_ble_eq_true rfl) ?_
  refine va_astq (r := (R_Poly, F_Poly, 3)) hx hb hK hP hD hS 1 0 2 6 rfl rfl rfl rfl (vp_in_nI (n := 5) (by decide) (by decide)) d_Curve_init_32 (fun H locs hP hD hS => ?_)
  have hP : va_P (dC, dI) classes [(h0, .inr (2, [.ref q_1])), (q_1, .inl (cA_2, 9, .inr (.inr (.inr (.inr (va_up f_22 (5 : Int32).toNatClampNeg (some q_24))))))), (q_24, .inr (6, [.ref dk, .ref q1_25, .int 0]))] H := hP
  have hD : va_D A [(h0, .inr (2, [.ref q_1])), (q_1, .inl (cA_2, 9, .inr (.inr (.inr (.inr (va_up f_22 (5 : Int32).toNatClampNeg (some q_24))))))), (q_24, .inr (6, [.ref dk, .ref q1_25, .int 0]))] := hD
  generalize va_up f_22 (5 : Int32).toNatClampNeg (some q_24) = f_26 at hP hD
  have hP := hP.sub (ws' := [(h0, .inr (2, [.ref q_1])), (q_1, .inl (cA_2, 9, .inr (.inr (.inr (.inr f_26)))))]) [0, 1] rfl
  have hD := hD.sub (ws' := [(h0, .inr (2, [.ref q_1])), (q_1, .inl (cA_2, 9, .inr (.inr (.inr (.inr f_26)))))]) [0, 1] (by decide) rfl
  refine lv_iinc (v := 6) (lv' := [(3, .int 6), (0, .ref h0), (1, .ref dk), (2, .int 9)]) hx hb d_Curve_init_33 hl (k := 0) rfl (by decide) (by decide) rfl (fun ls hl => ?_)
  refine lv_goto (tgt := 14) hx hb d_Curve_init_36 (by decide) ?_
  refine lv_iload_n hx hb d_Curve_init_14 rfl (lv_at hl 0 rfl) ?_
  refine lv_iload_n hx hb d_Curve_init_15 rfl (lv_at hl 3 rfl) ?_
  refine lv_icmp_ge (tgt := 39) hx hb d_Curve_init_16 (by decide) (fun c_27 => absurd c_27 (by decide)) (fun c_27 => ?_)
  refine lv_aload_n hx hb d_Curve_init_19 rfl (lv_at hl 1 rfl) ?_
  refine va_get (D := (dC, dI)) (ci := 2) (v := .ref q_1) (C := R_Curve) (T := F_Curve) (N := 1) hx hb hT i_Curve hown hK hP 0 rfl rfl 0 (by decide) (hT _ tw_224) (fun _ h9 => h9) rfl d_Curve_init_20 ?_
  refine lv_iload_n hx hb d_Curve_init_23 rfl (lv_at hl 0 rfl) ?_
  refine va_new (ci := 6) (fs := [.null, .null, .int 0]) (C := R_Poly) (T := F_Poly) (N := 3) hx hb hT i_Poly t_Poly t_Poly_ok hown (hT _ tw_189) (hT _ tw_190) (hT _ tw_8) hK hP hD hS hA rfl (by decide) (Nat.le_of_ble_eq_true rfl) (Nat.le_of_ble_eq_true rfl) d_Curve_init_24 (fun q_28 H hP hD hS => ?_)
  have hP : va_P (dC, dI) classes [(h0, .inr (2, [.ref q_1])), (q_1, .inl (cA_2, 9, .inr (.inr (.inr (.inr f_26))))), (q_28, .inr (6, [.null, .null, .int 0]))] H := hP
  have hD : va_D A [(h0, .inr (2, [.ref q_1])), (q_1, .inl (cA_2, 9, .inr (.inr (.inr (.inr f_26))))), (q_28, .inr (6, [.null, .null, .int 0]))] := hD
  refine W.widen (k := 14) (n := 30) (Nat.le_of_ble_eq_true rfl) (Nat.le_of_ble_eq_true rfl) ?_
  refine lv_dup hx hb d_Curve_init_27 rfl ?_
  refine lv_aload_n hx hb d_Curve_init_28 rfl (lv_at hl 2 rfl) ?_
  have hPc := hP.sub (ws' := [(q_28, .inr (6, [.null, .null, .int 0]))]) [2] rfl
  have hDc := hD.sub (ws' := [(q_28, .inr (6, [.null, .null, .int 0]))]) [2] (by decide) rfl
  have hKc := hK.sub (tys' := []) [] rfl
  have hFc := va_free (wc := [(q_28, .inr (6, [.null, .null, .int 0]))]) hD hS hA [2] rfl
  refine va_callv (va_runI (As := [.ref dk]) (rest := [.ref q_28, .int 6, .ref q_1]) ⟨hx, hb, hml, hown, hT⟩ (c_Poly_init l dC dI H.size q_28 dk ) (cwI 1 hT g_Poly_init rfl rfl rfl (hT _ tw_8) (hT _ tw_191) (hT _ tw_192) rfl (by decide +kernel) ⟨Nat.le_of_ble_eq_true rfl, Nat.le_of_ble_eq_true rfl⟩) ⟨fun a U g mk q => by obtain ⟨q0, q1, qP, qK, qD, qN⟩ := q; exact ⟨q0, q1, qP, va_K.moved (u := U) (U := U.calling g mk a) (Vm.Alike.refl U.vm) qK, qD, nx_K.same (u := U) (U := U.calling g mk a) rfl qN⟩, fun U hU hW => ⟨rfl, by rw [hU], by rw [hU]; exact hPc, va_K.moved hW.alike hKc, hDc.weaken (fun _ _ _ _ => trivial), nx_K.warm hW hN⟩⟩ rfl rfl hl.1 rfl (lv_room (Nat.le_of_ble_eq_true rfl)) d_Curve_init_29 ⟨Nat.le_of_ble_eq_true rfl, Nat.le_of_ble_eq_true rfl⟩) hS (fun q _ h => hFc q h) hFc (fun u t H1 locs ht hvm hw hB hz1 hk1 hS => ?_)
  obtain ⟨q1_29, hP1, hK1, hD1⟩ := hB
  rw [ht] at hP1
  have hK1 := va_K.moved hvm.symm hK1
  obtain ⟨hP, hD⟩ := va_join (wr := [(h0, .inr (2, [.ref q_1])), (q_1, .inl (cA_2, 9, .inr (.inr (.inr (.inr f_26)))))]) (w1 := [(q_28, .inr (6, [.ref dk, .ref q1_29, .int 0]))]) hP hD [2] [0, 1] rfl rfl (by decide) (by decide) hk1 hFc hP1 hD1
  have hK := (hK.sub (tys' := [(cA_2, .object "RealHouse$Poly")]) [0] rfl).app hK1
  generalize H1 = H at hP hS ⊢
  have hP : va_P (dC, dI) classes [(h0, .inr (2, [.ref q_1])), (q_1, .inl (cA_2, 9, .inr (.inr (.inr (.inr f_26))))), (q_28, .inr (6, [.ref dk, .ref q1_29, .int 0]))] H := hP
  have hD : va_D A [(h0, .inr (2, [.ref q_1])), (q_1, .inl (cA_2, 9, .inr (.inr (.inr (.inr f_26))))), (q_28, .inr (6, [.ref dk, .ref q1_29, .int 0]))] := hD
  have hK : va_K (dC, dI) classes [(cA_2, .object "RealHouse$Poly")] s := hK
  refine W.widen (k := 15) (n := 30) (Nat.le_of_ble_eq_true rfl) (Nat.le_of_ble_eq_true rfl) ?_
  refine va_astq (r := (R_Poly, F_Poly, 3)) hx hb hK hP hD hS 1 0 2 6 rfl rfl rfl rfl (vp_in_nI (n := 6) (by decide) (by decide)) d_Curve_init_32 (fun H locs hP hD hS => ?_)
  have hP : va_P (dC, dI) classes [(h0, .inr (2, [.ref q_1])), (q_1, .inl (cA_2, 9, .inr (.inr (.inr (.inr (va_up f_26 (6 : Int32).toNatClampNeg (some q_28))))))), (q_28, .inr (6, [.ref dk, .ref q1_29, .int 0]))] H := hP
  have hD : va_D A [(h0, .inr (2, [.ref q_1])), (q_1, .inl (cA_2, 9, .inr (.inr (.inr (.inr (va_up f_26 (6 : Int32).toNatClampNeg (some q_28))))))), (q_28, .inr (6, [.ref dk, .ref q1_29, .int 0]))] := hD
  generalize va_up f_26 (6 : Int32).toNatClampNeg (some q_28) = f_30 at hP hD
  have hP := hP.sub (ws' := [(h0, .inr (2, [.ref q_1])), (q_1, .inl (cA_2, 9, .inr (.inr (.inr (.inr f_30)))))]) [0, 1] rfl
  have hD := hD.sub (ws' := [(h0, .inr (2, [.ref q_1])), (q_1, .inl (cA_2, 9, .inr (.inr (.inr (.inr f_30)))))]) [0, 1] (by decide) rfl
  refine lv_iinc (v := 7) (lv' := [(3, .int 7), (0, .ref h0), (1, .ref dk), (2, .int 9)]) hx hb d_Curve_init_33 hl (k := 0) rfl (by decide) (by decide) rfl (fun ls hl => ?_)
  refine lv_goto (tgt := 14) hx hb d_Curve_init_36 (by decide) ?_
  refine lv_iload_n hx hb d_Curve_init_14 rfl (lv_at hl 0 rfl) ?_
  refine lv_iload_n hx hb d_Curve_init_15 rfl (lv_at hl 3 rfl) ?_
  refine lv_icmp_ge (tgt := 39) hx hb d_Curve_init_16 (by decide) (fun c_31 => absurd c_31 (by decide)) (fun c_31 => ?_)
  refine lv_aload_n hx hb d_Curve_init_19 rfl (lv_at hl 1 rfl) ?_
  refine va_get (D := (dC, dI)) (ci := 2) (v := .ref q_1) (C := R_Curve) (T := F_Curve) (N := 1) hx hb hT i_Curve hown hK hP 0 rfl rfl 0 (by decide) (hT _ tw_224) (fun _ h9 => h9) rfl d_Curve_init_20 ?_
  refine lv_iload_n hx hb d_Curve_init_23 rfl (lv_at hl 0 rfl) ?_
  refine va_new (ci := 6) (fs := [.null, .null, .int 0]) (C := R_Poly) (T := F_Poly) (N := 3) hx hb hT i_Poly t_Poly t_Poly_ok hown (hT _ tw_189) (hT _ tw_190) (hT _ tw_8) hK hP hD hS hA rfl (by decide) (Nat.le_of_ble_eq_true rfl) (Nat.le_of_ble_eq_true rfl) d_Curve_init_24 (fun q_32 H hP hD hS => ?_)
  have hP : va_P (dC, dI) classes [(h0, .inr (2, [.ref q_1])), (q_1, .inl (cA_2, 9, .inr (.inr (.inr (.inr f_30))))), (q_32, .inr (6, [.null, .null, .int 0]))] H := hP
  have hD : va_D A [(h0, .inr (2, [.ref q_1])), (q_1, .inl (cA_2, 9, .inr (.inr (.inr (.inr f_30))))), (q_32, .inr (6, [.null, .null, .int 0]))] := hD
  refine W.widen (k := 16) (n := 33) (Nat.le_of_ble_eq_true rfl) (Nat.le_of_ble_eq_true rfl) ?_
  refine lv_dup hx hb d_Curve_init_27 rfl ?_
  refine lv_aload_n hx hb d_Curve_init_28 rfl (lv_at hl 2 rfl) ?_
  have hPc := hP.sub (ws' := [(q_32, .inr (6, [.null, .null, .int 0]))]) [2] rfl
  have hDc := hD.sub (ws' := [(q_32, .inr (6, [.null, .null, .int 0]))]) [2] (by decide) rfl
  have hKc := hK.sub (tys' := []) [] rfl
  have hFc := va_free (wc := [(q_32, .inr (6, [.null, .null, .int 0]))]) hD hS hA [2] rfl
  refine va_callv (va_runI (As := [.ref dk]) (rest := [.ref q_32, .int 7, .ref q_1]) ⟨hx, hb, hml, hown, hT⟩ (c_Poly_init l dC dI H.size q_32 dk ) (cwI 1 hT g_Poly_init rfl rfl rfl (hT _ tw_8) (hT _ tw_191) (hT _ tw_192) rfl (by decide +kernel) ⟨Nat.le_of_ble_eq_true rfl, Nat.le_of_ble_eq_true rfl⟩) ⟨fun a U g mk q => by obtain ⟨q0, q1, qP, qK, qD, qN⟩ := q; exact ⟨q0, q1, qP, va_K.moved (u := U) (U := U.calling g mk a) (Vm.Alike.refl U.vm) qK, qD, nx_K.same (u := U) (U := U.calling g mk a) rfl qN⟩, fun U hU hW => ⟨rfl, by rw [hU], by rw [hU]; exact hPc, va_K.moved hW.alike hKc, hDc.weaken (fun _ _ _ _ => trivial), nx_K.warm hW hN⟩⟩ rfl rfl hl.1 rfl (lv_room (Nat.le_of_ble_eq_true rfl)) d_Curve_init_29 ⟨Nat.le_of_ble_eq_true rfl, Nat.le_of_ble_eq_true rfl⟩) hS (fun q _ h => hFc q h) hFc (fun u t H1 locs ht hvm hw hB hz1 hk1 hS => ?_)
  obtain ⟨q1_33, hP1, hK1, hD1⟩ := hB
  rw [ht] at hP1
  have hK1 := va_K.moved hvm.symm hK1
  obtain ⟨hP, hD⟩ := va_join (wr := [(h0, .inr (2, [.ref q_1])), (q_1, .inl (cA_2, 9, .inr (.inr (.inr (.inr f_30)))))]) (w1 := [(q_32, .inr (6, [.ref dk, .ref q1_33, .int 0]))]) hP hD [2] [0, 1] rfl rfl (by decide) (by decide) hk1 hFc hP1 hD1
  have hK := (hK.sub (tys' := [(cA_2, .object "RealHouse$Poly")]) [0] rfl).app hK1
  generalize H1 = H at hP hS ⊢
  have hP : va_P (dC, dI) classes [(h0, .inr (2, [.ref q_1])), (q_1, .inl (cA_2, 9, .inr (.inr (.inr (.inr f_30))))), (q_32, .inr (6, [.ref dk, .ref q1_33, .int 0]))] H := hP
  have hD : va_D A [(h0, .inr (2, [.ref q_1])), (q_1, .inl (cA_2, 9, .inr (.inr (.inr (.inr f_30))))), (q_32, .inr (6, [.ref dk, .ref q1_33, .int 0]))] := hD
  have hK : va_K (dC, dI) classes [(cA_2, .object "RealHouse$Poly")] s := hK
  refine W.widen (k := 17) (n := 33) (Nat.le_of_ble_eq_true rfl) (Nat.le_of_ble_eq_true rfl) ?_
  refine va_astq (r := (R_Poly, F_Poly, 3)) hx hb hK hP hD hS 1 0 2 6 rfl rfl rfl rfl (vp_in_nI (n := 7) (by decide) (by decide)) d_Curve_init_32 (fun H locs hP hD hS => ?_)
  have hP : va_P (dC, dI) classes [(h0, .inr (2, [.ref q_1])), (q_1, .inl (cA_2, 9, .inr (.inr (.inr (.inr (va_up f_30 (7 : Int32).toNatClampNeg (some q_32))))))), (q_32, .inr (6, [.ref dk, .ref q1_33, .int 0]))] H := hP
  have hD : va_D A [(h0, .inr (2, [.ref q_1])), (q_1, .inl (cA_2, 9, .inr (.inr (.inr (.inr (va_up f_30 (7 : Int32).toNatClampNeg (some q_32))))))), (q_32, .inr (6, [.ref dk, .ref q1_33, .int 0]))] := hD
  generalize va_up f_30 (7 : Int32).toNatClampNeg (some q_32) = f_34 at hP hD
  have hP := hP.sub (ws' := [(h0, .inr (2, [.ref q_1])), (q_1, .inl (cA_2, 9, .inr (.inr (.inr (.inr f_34)))))]) [0, 1] rfl
  have hD := hD.sub (ws' := [(h0, .inr (2, [.ref q_1])), (q_1, .inl (cA_2, 9, .inr (.inr (.inr (.inr f_34)))))]) [0, 1] (by decide) rfl
  refine lv_iinc (v := 8) (lv' := [(3, .int 8), (0, .ref h0), (1, .ref dk), (2, .int 9)]) hx hb d_Curve_init_33 hl (k := 0) rfl (by decide) (by decide) rfl (fun ls hl => ?_)
  refine lv_goto (tgt := 14) hx hb d_Curve_init_36 (by decide) ?_
  refine lv_iload_n hx hb d_Curve_init_14 rfl (lv_at hl 0 rfl) ?_
  refine lv_iload_n hx hb d_Curve_init_15 rfl (lv_at hl 3 rfl) ?_
  refine lv_icmp_ge (tgt := 39) hx hb d_Curve_init_16 (by decide) (fun c_35 => absurd c_35 (by decide)) (fun c_35 => ?_)
  refine lv_aload_n hx hb d_Curve_init_19 rfl (lv_at hl 1 rfl) ?_
  refine va_get (D := (dC, dI)) (ci := 2) (v := .ref q_1) (C := R_Curve) (T := F_Curve) (N := 1) hx hb hT i_Curve hown hK hP 0 rfl rfl 0 (by decide) (hT _ tw_224) (fun _ h9 => h9) rfl d_Curve_init_20 ?_
  refine lv_iload_n hx hb d_Curve_init_23 rfl (lv_at hl 0 rfl) ?_
  refine va_new (ci := 6) (fs := [.null, .null, .int 0]) (C := R_Poly) (T := F_Poly) (N := 3) hx hb hT i_Poly t_Poly t_Poly_ok hown (hT _ tw_189) (hT _ tw_190) (hT _ tw_8) hK hP hD hS hA rfl (by decide) (Nat.le_of_ble_eq_true rfl) (Nat.le_of_ble_eq_true rfl) d_Curve_init_24 (fun q_36 H hP hD hS => ?_)
  have hP : va_P (dC, dI) classes [(h0, .inr (2, [.ref q_1])), (q_1, .inl (cA_2, 9, .inr (.inr (.inr (.inr f_34))))), (q_36, .inr (6, [.null, .null, .int 0]))] H := hP
  have hD : va_D A [(h0, .inr (2, [.ref q_1])), (q_1, .inl (cA_2, 9, .inr (.inr (.inr (.inr f_34))))), (q_36, .inr (6, [.null, .null, .int 0]))] := hD
  refine W.widen (k := 18) (n := 36) (Nat.le_of_ble_eq_true rfl) (Nat.le_of_ble_eq_true rfl) ?_
  refine lv_dup hx hb d_Curve_init_27 rfl ?_
  refine lv_aload_n hx hb d_Curve_init_28 rfl (lv_at hl 2 rfl) ?_
  have hPc := hP.sub (ws' := [(q_36, .inr (6, [.null, .null, .int 0]))]) [2] rfl
  have hDc := hD.sub (ws' := [(q_36, .inr (6, [.null, .null, .int 0]))]) [2] (by decide) rfl
  have hKc := hK.sub (tys' := []) [] rfl
  have hFc := va_free (wc := [(q_36, .inr (6, [.null, .null, .int 0]))]) hD hS hA [2] rfl
  refine va_callv (va_runI (As := [.ref dk]) (rest := [.ref q_36, .int 8, .ref q_1]) ⟨hx, hb, hml, hown, hT⟩ (c_Poly_init l dC dI H.size q_36 dk ) (cwI 1 hT g_Poly_init rfl rfl rfl (hT _ tw_8) (hT _ tw_191) (hT _ tw_192) rfl (by decide +kernel) ⟨Nat.le_of_ble_eq_true rfl, Nat.le_of_ble_eq_true rfl⟩) ⟨fun a U g mk q => by obtain ⟨q0, q1, qP, qK, qD, qN⟩ := q; exact ⟨q0, q1, qP, va_K.moved (u := U) (U := U.calling g mk a) (Vm.Alike.refl U.vm) qK, qD, nx_K.same (u := U) (U := U.calling g mk a) rfl qN⟩, fun U hU hW => ⟨rfl, by rw [hU], by rw [hU]; exact hPc, va_K.moved hW.alike hKc, hDc.weaken (fun _ _ _ _ => trivial), nx_K.warm hW hN⟩⟩ rfl rfl hl.1 rfl (lv_room (Nat.le_of_ble_eq_true rfl)) d_Curve_init_29 ⟨Nat.le_of_ble_eq_true rfl, Nat.le_of_ble_eq_true rfl⟩) hS (fun q _ h => hFc q h) hFc (fun u t H1 locs ht hvm hw hB hz1 hk1 hS => ?_)
  obtain ⟨q1_37, hP1, hK1, hD1⟩ := hB
  rw [ht] at hP1
  have hK1 := va_K.moved hvm.symm hK1
  obtain ⟨hP, hD⟩ := va_join (wr := [(h0, .inr (2, [.ref q_1])), (q_1, .inl (cA_2, 9, .inr (.inr (.inr (.inr f_34)))))]) (w1 := [(q_36, .inr (6, [.ref dk, .ref q1_37, .int 0]))]) hP hD [2] [0, 1] rfl rfl (by decide) (by decide) hk1 hFc hP1 hD1
  have hK := (hK.sub (tys' := [(cA_2, .object "RealHouse$Poly")]) [0] rfl).app hK1
  generalize H1 = H at hP hS ⊢
  have hP : va_P (dC, dI) classes [(h0, .inr (2, [.ref q_1])), (q_1, .inl (cA_2, 9, .inr (.inr (.inr (.inr f_34))))), (q_36, .inr (6, [.ref dk, .ref q1_37, .int 0]))] H := hP
  have hD : va_D A [(h0, .inr (2, [.ref q_1])), (q_1, .inl (cA_2, 9, .inr (.inr (.inr (.inr f_34))))), (q_36, .inr (6, [.ref dk, .ref q1_37, .int 0]))] := hD
  have hK : va_K (dC, dI) classes [(cA_2, .object "RealHouse$Poly")] s := hK
  refine W.widen (k := 19) (n := 36) (Nat.le_of_ble_eq_true rfl) (Nat.le_of_ble_eq_true rfl) ?_
  refine va_astq (r := (R_Poly, F_Poly, 3)) hx hb hK hP hD hS 1 0 2 6 rfl rfl rfl rfl (vp_in_nI (n := 8) (by decide) (by decide)) d_Curve_init_32 (fun H locs hP hD hS => ?_)
  have hP : va_P (dC, dI) classes [(h0, .inr (2, [.ref q_1])), (q_1, .inl (cA_2, 9, .inr (.inr (.inr (.inr (va_up f_34 (8 : Int32).toNatClampNeg (some q_36))))))), (q_36, .inr (6, [.ref dk, .ref q1_37, .int 0]))] H := hP
  have hD : va_D A [(h0, .inr (2, [.ref q_1])), (q_1, .inl (cA_2, 9, .inr (.inr (.inr (.inr (va_up f_34 (8 : Int32).toNatClampNeg (some q_36))))))), (q_36, .inr (6, [.ref dk, .ref q1_37, .int 0]))] := hD
  generalize va_up f_34 (8 : Int32).toNatClampNeg (some q_36) = f_38 at hP hD
  have hP := hP.sub (ws' := [(h0, .inr (2, [.ref q_1])), (q_1, .inl (cA_2, 9, .inr (.inr (.inr (.inr f_38)))))]) [0, 1] rfl
  have hD := hD.sub (ws' := [(h0, .inr (2, [.ref q_1])), (q_1, .inl (cA_2, 9, .inr (.inr (.inr (.inr f_38)))))]) [0, 1] (by decide) rfl
  refine lv_iinc (v := 9) (lv' := [(3, .int 9), (0, .ref h0), (1, .ref dk), (2, .int 9)]) hx hb d_Curve_init_33 hl (k := 0) rfl (by decide) (by decide) rfl (fun ls hl => ?_)
  refine lv_goto (tgt := 14) hx hb d_Curve_init_36 (by decide) ?_
  refine lv_iload_n hx hb d_Curve_init_14 rfl (lv_at hl 0 rfl) ?_
  refine lv_iload_n hx hb d_Curve_init_15 rfl (lv_at hl 3 rfl) ?_
  refine lv_icmp_ge (tgt := 39) hx hb d_Curve_init_16 (by decide) (fun c_39 => ?_) (fun c_39 => absurd (by decide) c_39)
  have hP9 := hP.sub (ws' := [(h0, .inr (2, [.ref q_1]))]) [0] rfl
  have hD9 := hD.sub (ws' := [(h0, .inr (2, [.ref q_1]))]) [0] (by decide) rfl
  have hK9 := hK.sub (tys' := []) [] rfl
  exact W.vret hx hb hr (fun t ht hW => ⟨⟨(), rfl, trivial, q_1, by rw [ht]; exact hP9, va_K.moved hW.alike hK9, hD9⟩, hS.F ht⟩) hS.2.2 d_Curve_init_39
end
section
theorem tw_322 : (.methodLink "RealHouse$Prime" 3 ⟨"java/lang/Object", "<init>", "()V"⟩ : Cond) ∈ lw_g := tb_at (i := 322) (by decide +kernel) rfl
theorem tw_323 : (.classLink "RealHouse$Prime" 11 "[[J" : Cond) ∈ lw_g := tb_at (i := 323) (by decide +kernel) rfl
theorem tw_347 : (.arrayClass .long : Cond) ∈ lw_g := tb_at (i := 347) (by decide +kernel) rfl
theorem tw_327 : (.fieldLink "RealHouse$Prime" 13 "RealHouse$Prime" "row" "[[J" : Cond) ∈ lw_g := tb_at (i := 327) (by decide +kernel) rfl
theorem tw_329 : (.fieldLink "RealHouse$Prime" 16 "RealHouse$Prime" "deg" "[I" : Cond) ∈ lw_g := tb_at (i := 329) (by decide +kernel) rfl
theorem tw_331 : (.fieldLink "RealHouse$Prime" 20 "RealHouse$Prime" "wide" "[J" : Cond) ∈ lw_g := tb_at (i := 331) (by decide +kernel) rfl
theorem tw_325 : (.fieldLink "RealHouse$Prime" 24 "RealHouse$Prime" "PRIMES" "[I" : Cond) ∈ lw_g := tb_at (i := 325) (by decide +kernel) rfl
theorem tw_332 : (.fieldLink "RealHouse$Prime" 27 "RealHouse$Prime" "p" "J" : Cond) ∈ lw_g := tb_at (i := 332) (by decide +kernel) rfl
abbrev b_Prime_init : ByteArray := prog_9_method_1_code
def y_Prime_init : MethodName := ⟨"RealHouse$Prime", "<init>", "()V"⟩
abbrev w_Prime_init : List Cond := .code y_Prime_init b_Prime_init 1 none :: lw_g
theorem g_Prime_init : GoodIn lw_g w_Prime_init := tb_good1 (tb_at (i := 321) (by decide +kernel) rfl)
theorem d_Prime_init_0 : decode b_Prime_init 0 = .ok (.aload_n 0, 1) := by decide +kernel
theorem d_Prime_init_1 : decode b_Prime_init 1 = .ok (.invokespecial 3, 3) := by decide +kernel
theorem d_Prime_init_4 : decode b_Prime_init 4 = .ok (.aload_n 0, 1) := by decide +kernel
theorem d_Prime_init_5 : decode b_Prime_init 5 = .ok (.bipush 28, 2) := by decide +kernel
theorem d_Prime_init_7 : decode b_Prime_init 7 = .ok (.bipush 24, 2) := by decide +kernel
theorem d_Prime_init_9 : decode b_Prime_init 9 = .ok (.multianewarray 11 2, 4) := by decide +kernel
theorem d_Prime_init_13 : decode b_Prime_init 13 = .ok (.putfield 13, 3) := by decide +kernel
theorem d_Prime_init_16 : decode b_Prime_init 16 = .ok (.aload_n 0, 1) := by decide +kernel
theorem d_Prime_init_17 : decode b_Prime_init 17 = .ok (.bipush 28, 2) := by decide +kernel
theorem d_Prime_init_19 : decode b_Prime_init 19 = .ok (.newarray .int, 2) := by decide +kernel
theorem d_Prime_init_21 : decode b_Prime_init 21 = .ok (.putfield 16, 3) := by decide +kernel
theorem d_Prime_init_24 : decode b_Prime_init 24 = .ok (.aload_n 0, 1) := by decide +kernel
theorem d_Prime_init_25 : decode b_Prime_init 25 = .ok (.bipush 48, 2) := by decide +kernel
theorem d_Prime_init_27 : decode b_Prime_init 27 = .ok (.newarray .long, 2) := by decide +kernel
theorem d_Prime_init_29 : decode b_Prime_init 29 = .ok (.putfield 20, 3) := by decide +kernel
theorem d_Prime_init_32 : decode b_Prime_init 32 = .ok (.aload_n 0, 1) := by decide +kernel
theorem d_Prime_init_33 : decode b_Prime_init 33 = .ok (.getstatic 24, 3) := by decide +kernel
theorem d_Prime_init_36 : decode b_Prime_init 36 = .ok (.iconst 0, 1) := by decide +kernel
theorem d_Prime_init_37 : decode b_Prime_init 37 = .ok (.iaload, 1) := by decide +kernel
theorem d_Prime_init_38 : decode b_Prime_init 38 = .ok (.i2l, 1) := by decide +kernel
theorem d_Prime_init_39 : decode b_Prime_init 39 = .ok (.putfield 27, 3) := by decide +kernel
theorem d_Prime_init_42 : decode b_Prime_init 42 = .ok (.return_, 1) := by decide +kernel
set_option maxHeartbeats 4000000 in
set_option maxRecDepth 100000 in
/-- Prime() -/
theorem c_Prime_init (l : Launch) (dC : Nat → ClassId) (dI : Nat → Nat → Nat) (sz : Nat) (h0 : Nat)  : Met l y_Prime_init w_Prime_init ({ frames := 1, cells := 31, slots := 776, locals := 12 }) (va_Pc [.ref h0] (fun U => U.heap.size = sz ∧ va_P (dC, dI) classes [(h0, .inr (7, [.null, .null, .null, .long 0, .int 0]))] U.heap ∧ va_K (dC, dI) classes [] U ∧ va_D (fun _ => True) [(h0, .inr (7, [.null, .null, .null, .long 0, .int 0]))] ∧ nx_K U ∧ px_K (va_A [(h0, .inr (7, [.null, .null, .null, .long 0, .int 0]))] sz) U U.heap)) (va_Qv (fun _ : Unit => True) (fun _ t => va_P (dC, dI) classes [] t.heap ∧ va_K (dC, dI) classes [] t ∧ va_D (va_A [(h0, .inr (7, [.null, .null, .null, .long 0, .int 0]))] sz) []) (va_A [(h0, .inr (7, [.null, .null, .null, .long 0, .int 0]))] sz)) 31 776 (va_A [(h0, .inr (7, [.null, .null, .null, .long 0, .int 0]))] sz) := by
  refine Met.ofW (cc := b_Prime_init) (maxL := 1) (ret := none) (by decide) rfl ?_
  intro p e s m args below meth c s₁ B hml hv
  obtain ⟨rfl, hsz, hP, hK, hD0, hN, hX⟩ := hv
  have hx := B.exec
  have hb := B.bytes
  have hr := B.returns
  have hT : ∀ w ∈ lw_g, w.before _ s = true := fun w h => atoms_spec (ws := w_Prime_init) B.pre w (List.mem_cons_of_mem _ h)
  have hown : s.vm.findClass R_Prime = some m.cls := findClass_of_methodNamed B.named
  have hlocks := B.notSynchronized
  have hin : meth.name = "<init>" := (name_of_methodNamed B.named B.method).1
  subst hsz
  have hD := hD0.self (sz := s.heap.size)
  generalize hAe : va_A [(h0, .inr (7, [.null, .null, .null, .long 0, .int 0]))] s.heap.size = A at hD hX ⊢
  have hA : ∀ q : Nat, s.heap.size ≤ q → A q := fun q h => by rw [← hAe]; exact Or.inr h
  have hS : va_S A s.heap s.heap [] := va_S.rf
  have hP : va_P (dC, dI) classes [(h0, .inr (7, [.null, .null, .null, .long 0, .int 0]))] s.heap := hP
  have hl := lv_entry ([.ref h0]) (n := 1) (Nat.le_of_ble_eq_true rfl)
  rw [lg_entry_eq]
  generalize (lg_sl ([.ref h0]) ++ List.replicate (1 - (lg_sl ([.ref h0])).length) Slot.unset).toArray = ls at hl ⊢
  have hl : lv_has ls 1 [(0, .ref h0)] := hl
  refine lv_aload_n hx hb d_Prime_init_0 rfl (lv_at hl 0 rfl) ?_
  refine W.objInit hx hb hown (hT _ tw_322) (hT _ tw_24) (hT _ tw_25) rfl (by rw [hml]; exact hl.1) rfl d_Prime_init_1 (Nat.le_of_ble_eq_true rfl) (Nat.le_of_ble_eq_true rfl) ?_
  refine W.eq (g2 := F0 m 4 ls []) rfl ?_
  refine lv_aload_n hx hb d_Prime_init_4 rfl (lv_at hl 0 rfl) ?_
  refine lv_bipush (v := 28) hx hb d_Prime_init_5 (by decide) ?_
  refine lv_bipush (v := 24) hx hb d_Prime_init_7 (by decide) ?_
  refine mn_grid (ty := .long) hx hb hown (hT _ tw_323) hN.2.2.2.2.1 (hT _ tw_347) rfl d_Prime_init_9 rfl (by decide) (by decide) rfl rfl (by decide) (by decide) (by decide) rfl (Nat.le_of_ble_eq_true rfl) (Nat.le_of_ble_eq_true rfl) (fun H1 locs1 hz1 hk1 hl1 => ?_)
  have hP : va_P (dC, dI) classes [(h0, .inr (7, [.null, .null, .null, .long 0, .int 0]))] H1 := hP.kept (fun k q hq => hk1 q.1 ((hP k q hq).lt))
  have hS : va_S A s.heap H1 locs1 := ⟨Nat.le_trans hS.1 hz1, fun q h1 h2 => (hk1 q (Nat.lt_of_lt_of_le h1 hS.1)).trans (hS.2.1 q h1 h2), fun q hq => (hl1 q hq).elim (hS.2.2 q) (fun h => hA _ (Nat.le_trans hS.1 h))⟩
  refine W.eq (g2 := F0 m 13 ls (.ref _ :: [.ref h0])) rfl ?_
  refine mn_ref (fun q_1 => ?_)
  generalize H1 = H at hP hS ⊢
  generalize locs1 = locs at hS ⊢
  refine W.widen (k := 29) (n := 700) (Nat.le_of_ble_eq_true rfl) (Nat.le_of_ble_eq_true rfl) ?_
  refine va_putF (D := (dC, dI)) (ci := 7) (v := .ref q_1) (ty := .array (.array .long)) (C := R_Prime) (T := F_Prime) (N := 5) hx hb hT i_Prime t_Prime t_Prime_ok n_Prime hown hK hP hD hS 0 rfl rfl 0 (by decide) (hT _ tw_327) (fun _ h9 => h9) rfl hin rfl (by decide +kernel) rfl rfl (Nat.le_of_ble_eq_true rfl) d_Prime_init_13 (fun H locs hP hD hS => ?_)
  have hP : va_P (dC, dI) classes [(h0, .inr (7, [.ref q_1, .null, .null, .long 0, .int 0]))] H := hP
  have hD : va_D A [(h0, .inr (7, [.ref q_1, .null, .null, .long 0, .int 0]))] := hD
  refine lv_aload_n hx hb d_Prime_init_16 rfl (lv_at hl 0 rfl) ?_
  refine lv_bipush (v := 28) hx hb d_Prime_init_17 (by decide) ?_
  refine va_newa (atype := .int) (a0 := (28, .inl (fun _ => 0))) hx hb (hT _ tw_68) rfl hK hP hD hS hA (fun _ => vp_cell_i _ _ _) (by decide) rfl (by decide) (Nat.le_of_ble_eq_true rfl) (Nat.le_of_ble_eq_true rfl) d_Prime_init_19 (fun q_2 cA_3 H hK hP hD hS => ?_)
  have hP : va_P (dC, dI) classes [(h0, .inr (7, [.ref q_1, .null, .null, .long 0, .int 0])), (q_2, .inl (cA_3, 28, .inl (fun _ => 0)))] H := hP
  have hD : va_D A [(h0, .inr (7, [.ref q_1, .null, .null, .long 0, .int 0])), (q_2, .inl (cA_3, 28, .inl (fun _ => 0)))] := hD
  have hK : va_K (dC, dI) classes [(cA_3, .int)] s := hK
  refine W.widen (k := 30) (n := 728) (Nat.le_of_ble_eq_true rfl) (Nat.le_of_ble_eq_true rfl) ?_
  refine va_putF (D := (dC, dI)) (ci := 7) (v := .ref q_2) (ty := .array .int) (C := R_Prime) (T := F_Prime) (N := 5) hx hb hT i_Prime t_Prime t_Prime_ok n_Prime hown hK hP hD hS 0 rfl rfl 1 (by decide) (hT _ tw_329) (fun _ h9 => h9) rfl hin rfl (by decide +kernel) rfl rfl (Nat.le_of_ble_eq_true rfl) d_Prime_init_21 (fun H locs hP hD hS => ?_)
  have hP : va_P (dC, dI) classes [(h0, .inr (7, [.ref q_1, .ref q_2, .null, .long 0, .int 0])), (q_2, .inl (cA_3, 28, .inl (fun _ => 0)))] H := hP
  have hD : va_D A [(h0, .inr (7, [.ref q_1, .ref q_2, .null, .long 0, .int 0])), (q_2, .inl (cA_3, 28, .inl (fun _ => 0)))] := hD
  have hP := hP.sub (ws' := [(h0, .inr (7, [.ref q_1, .ref q_2, .null, .long 0, .int 0]))]) [0] rfl
  have hD := hD.sub (ws' := [(h0, .inr (7, [.ref q_1, .ref q_2, .null, .long 0, .int 0]))]) [0] (by decide) rfl
  have hK := hK.sub (tys' := []) [] rfl
  refine lv_aload_n hx hb d_Prime_init_24 rfl (lv_at hl 0 rfl) ?_
  refine lv_bipush (v := 48) hx hb d_Prime_init_25 (by decide) ?_
  refine va_newa (atype := .long) (a0 := (48, .inr (.inl (fun _ => 0)))) hx hb (hT _ tw_347) rfl hK hP hD hS hA (fun _ => vp_cell_l _ _ _) (by decide) rfl (by decide) (Nat.le_of_ble_eq_true rfl) (Nat.le_of_ble_eq_true rfl) d_Prime_init_27 (fun q_4 cA_5 H hK hP hD hS => ?_)
  have hP : va_P (dC, dI) classes [(h0, .inr (7, [.ref q_1, .ref q_2, .null, .long 0, .int 0])), (q_4, .inl (cA_5, 48, .inr (.inl (fun _ => 0))))] H := hP
  have hD : va_D A [(h0, .inr (7, [.ref q_1, .ref q_2, .null, .long 0, .int 0])), (q_4, .inl (cA_5, 48, .inr (.inl (fun _ => 0))))] := hD
  have hK : va_K (dC, dI) classes [(cA_5, .long)] s := hK
  refine W.widen (k := 31) (n := 776) (Nat.le_of_ble_eq_true rfl) (Nat.le_of_ble_eq_true rfl) ?_
  refine va_putF (D := (dC, dI)) (ci := 7) (v := .ref q_4) (ty := .array .long) (C := R_Prime) (T := F_Prime) (N := 5) hx hb hT i_Prime t_Prime t_Prime_ok n_Prime hown hK hP hD hS 0 rfl rfl 2 (by decide) (hT _ tw_331) (fun _ h9 => h9) rfl hin rfl (by decide +kernel) rfl rfl (Nat.le_of_ble_eq_true rfl) d_Prime_init_29 (fun H locs hP hD hS => ?_)
  have hP : va_P (dC, dI) classes [(h0, .inr (7, [.ref q_1, .ref q_2, .ref q_4, .long 0, .int 0])), (q_4, .inl (cA_5, 48, .inr (.inl (fun _ => 0))))] H := hP
  have hD : va_D A [(h0, .inr (7, [.ref q_1, .ref q_2, .ref q_4, .long 0, .int 0])), (q_4, .inl (cA_5, 48, .inr (.inl (fun _ => 0))))] := hD
  have hP := hP.sub (ws' := [(h0, .inr (7, [.ref q_1, .ref q_2, .ref q_4, .long 0, .int 0]))]) [0] rfl
  have hD := hD.sub (ws' := [(h0, .inr (7, [.ref q_1, .ref q_2, .ref q_4, .long 0, .int 0]))]) [0] (by decide) rfl
  have hK := hK.sub (tys' := []) [] rfl
  refine lv_aload_n hx hb d_Prime_init_32 rfl (lv_at hl 0 rfl) ?_
  obtain ⟨tP, fP, hZP, hTP⟩ := hX
  refine va_gets hx hb hZP hS hown (hT _ tw_325) (fun _ h => h) d_Prime_init_33 ?_
  refine lv_iconst (v := 0) hx hb d_Prime_init_36 (by decide) ?_
  refine va_ti (v := .int (fP 0)) hx hb hTP hS (vp_in_nI (n := 0) (by decide) (by decide)) rfl d_Prime_init_37 ?_
  refine lv_topi (fun v_6 ev_6 => ?_)
  obtain ⟨v_7, ev_7⟩ : ∃ z : Int64, (v_6 : Int32).toInt64 = z := ⟨_, rfl⟩
  refine lv_i2l (v := v_7) hx hb d_Prime_init_38 ev_7 ?_
  refine va_put (D := (dC, dI)) (ci := 7) (v := .long v_7) (ty := .long) (C := R_Prime) (T := F_Prime) (N := 5) hx hb hT i_Prime t_Prime t_Prime_ok n_Prime hown hK hP hD hS 0 rfl rfl 3 (by decide) (hT _ tw_332) (fun _ h9 => h9) rfl (by decide +kernel) rfl rfl (Nat.le_of_ble_eq_true rfl) d_Prime_init_39 (fun H locs hP hD hS => ?_)
  have hP : va_P (dC, dI) classes [(h0, .inr (7, [.ref q_1, .ref q_2, .ref q_4, .long v_7, .int 0]))] H := hP
  have hD : va_D A [(h0, .inr (7, [.ref q_1, .ref q_2, .ref q_4, .long v_7, .int 0]))] := hD
  have hP9 := hP.sub (ws' := []) [] rfl
  have hD9 := hD.sub (ws' := []) [] (by decide) rfl
  have hK9 := hK.sub (tys' := []) [] rfl
  exact W.vret hx hb hr (fun t ht hW => ⟨⟨(), rfl, trivial, by rw [ht]; exact hP9, va_K.moved hW.alike hK9, hD9⟩, hS.F ht⟩) hS.2.2 d_Prime_init_42
end
