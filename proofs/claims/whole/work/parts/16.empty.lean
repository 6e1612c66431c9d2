theorem tw_235 : (.fieldLink "RealHouse$Reader" 50 "RealHouse$Reader" "at" "I" : Cond) ∈ lw_g := tb_at (i := 235) (by decide +kernel) rfl
theorem tw_234 : (.fieldLink "RealHouse$Reader" 46 "RealHouse$Reader" "size" "I" : Cond) ∈ lw_g := tb_at (i := 234) (by decide +kernel) rfl
theorem tw_236 : (.fieldLink "RealHouse$Reader" 53 "RealHouse$Reader" "fault" "I" : Cond) ∈ lw_g := tb_at (i := 236) (by decide +kernel) rfl
theorem tw_208 : (.fieldLink "RealHouse$Curve" 18 "RealHouse$Poly" "n" "I" : Cond) ∈ lw_g := tb_at (i := 208) (by decide +kernel) rfl
theorem tw_718 : (.methodLink "RealHouse$Reader" 91 ⟨"RealHouse$Reader", "next", "()I"⟩ : Cond) ∈ lw_g := tb_at (i := 718) (by decide +kernel) rfl
theorem tw_720 : (.instanceMethod ⟨"RealHouse$Reader", "next", "()I"⟩ : Cond) ∈ lw_g := tb_at (i := 720) (by decide +kernel) rfl
theorem tw_728 : (.methodLink "RealHouse$Reader" 84 ⟨"RealHouse$Reader", "fail", "()V"⟩ : Cond) ∈ lw_g := tb_at (i := 728) (by decide +kernel) rfl
theorem tw_730 : (.instanceMethod ⟨"RealHouse$Reader", "fail", "()V"⟩ : Cond) ∈ lw_g := tb_at (i := 730) (by decide +kernel) rfl
theorem tw_714 : (.methodLink "RealHouse$Reader" 98 ⟨"RealHouse$Curve", "clear", "()V"⟩ : Cond) ∈ lw_g := tb_at (i := 714) (by decide +kernel) rfl
theorem tw_716 : (.selects "RealHouse$Curve" ⟨"RealHouse$Curve", "clear", "()V"⟩ ⟨"RealHouse$Curve", "clear", "()V"⟩ : Cond) ∈ lw_g := tb_at (i := 716) (by decide +kernel) rfl
theorem tw_715 : (.instanceMethod ⟨"RealHouse$Curve", "clear", "()V"⟩ : Cond) ∈ lw_g := tb_at (i := 715) (by decide +kernel) rfl
theorem tw_722 : (.methodLink "RealHouse$Reader" 101 ⟨"RealHouse$Reader", "readTerm", "(LRealHouse$Curve;I)V"⟩ : Cond) ∈ lw_g := tb_at (i := 722) (by decide +kernel) rfl
theorem tw_724 : (.instanceMethod ⟨"RealHouse$Reader", "readTerm", "(LRealHouse$Curve;I)V"⟩ : Cond) ∈ lw_g := tb_at (i := 724) (by decide +kernel) rfl
theorem tw_710 : (.methodLink "RealHouse$Reader" 87 ⟨"RealHouse$Reader", "readPoly", "(LRealHouse$Curve;)V"⟩ : Cond) ∈ lw_g := tb_at (i := 710) (by decide +kernel) rfl
theorem tw_712 : (.instanceMethod ⟨"RealHouse$Reader", "readPoly", "(LRealHouse$Curve;)V"⟩ : Cond) ∈ lw_g := tb_at (i := 712) (by decide +kernel) rfl
theorem tw_762 : (.methodLink "RealHouse$Reader" 95 ⟨"RealHouse$Reader", "expectEnd", "()V"⟩ : Cond) ∈ lw_g := tb_at (i := 762) (by decide +kernel) rfl
theorem tw_764 : (.instanceMethod ⟨"RealHouse$Reader", "expectEnd", "()V"⟩ : Cond) ∈ lw_g := tb_at (i := 764) (by decide +kernel) rfl
theorem tw_1391 : (.methodLink "RealHouse$Reader" 119 ⟨"RealHouse$Reader", "readQuantifier", "(Z)I"⟩ : Cond) ∈ lw_g := tb_at (i := 1391) (by decide +kernel) rfl
theorem tw_1393 : (.instanceMethod ⟨"RealHouse$Reader", "readQuantifier", "(Z)I"⟩ : Cond) ∈ lw_g := tb_at (i := 1393) (by decide +kernel) rfl
theorem tw_238 : (.fieldLink "RealHouse$Reader" 56 "RealHouse$Reader" "withX" "Z" : Cond) ∈ lw_g := tb_at (i := 238) (by decide +kernel) rfl
theorem tw_255 : (.fieldLink "RealHouse$Reader" 78 "RealHouse$Reader" "inner" "I" : Cond) ∈ lw_g := tb_at (i := 255) (by decide +kernel) rfl
theorem tw_262 : (.fieldLink "RealHouse$Reader" 72 "RealHouse$Reader" "stacked" "I" : Cond) ∈ lw_g := tb_at (i := 262) (by decide +kernel) rfl
theorem tw_1403 : (.methodLink "RealHouse$Reader" 127 ⟨"RealHouse$Reader", "readComparison", "()V"⟩ : Cond) ∈ lw_g := tb_at (i := 1403) (by decide +kernel) rfl
theorem tw_1405 : (.instanceMethod ⟨"RealHouse$Reader", "readComparison", "()V"⟩ : Cond) ∈ lw_g := tb_at (i := 1405) (by decide +kernel) rfl
theorem tw_1428 : (.methodLink "RealHouse$Reader" 130 ⟨"RealHouse$Reader", "closeNots", "()I"⟩ : Cond) ∈ lw_g := tb_at (i := 1428) (by decide +kernel) rfl
theorem tw_1430 : (.instanceMethod ⟨"RealHouse$Reader", "closeNots", "()I"⟩ : Cond) ∈ lw_g := tb_at (i := 1430) (by decide +kernel) rfl
theorem tw_703 : (.methodLink "RealHouse$Reader" 40 ⟨"java/lang/Math", "min", "(II)I"⟩ : Cond) ∈ lw_g := tb_at (i := 703) (by decide +kernel) rfl
theorem tw_704 : (.static ⟨"java/lang/Math", "min", "(II)I"⟩ : Cond) ∈ lw_g := tb_at (i := 704) (by decide +kernel) rfl
theorem tw_705 : (.code ⟨"java/lang/Math", "min", "(II)I"⟩ prog_17_method_69_code 2 (Option.some .int) : Cond) ∈ lw_g := tb_at (i := 705) (by decide +kernel) rfl
theorem tw_239 : (.fieldLink "RealHouse$Reader" 60 "RealHouse$Reader" "withY" "Z" : Cond) ∈ lw_g := tb_at (i := 239) (by decide +kernel) rfl
theorem tw_240 : (.fieldLink "RealHouse$Reader" 63 "RealHouse$Reader" "refused" "Z" : Cond) ∈ lw_g := tb_at (i := 240) (by decide +kernel) rfl
theorem tw_251 : (.fieldLink "RealHouse$Reader" 66 "RealHouse$Reader" "curves" "I" : Cond) ∈ lw_g := tb_at (i := 251) (by decide +kernel) rfl
theorem tw_260 : (.fieldLink "RealHouse$Reader" 69 "RealHouse$Reader" "stepCount" "I" : Cond) ∈ lw_g := tb_at (i := 260) (by decide +kernel) rfl
theorem tw_253 : (.fieldLink "RealHouse$Reader" 75 "RealHouse$Reader" "outer" "I" : Cond) ∈ lw_g := tb_at (i := 253) (by decide +kernel) rfl
theorem tw_257 : (.fieldLink "RealHouse$Reader" 81 "RealHouse$Reader" "swapped" "Z" : Cond) ∈ lw_g := tb_at (i := 257) (by decide +kernel) rfl
abbrev b_Reader_next : ByteArray := prog_10_method_3_code
def y_Reader_next : MethodName := ⟨"RealHouse$Reader", "next", "()I"⟩
abbrev w_Reader_next : List Cond := .code y_Reader_next b_Reader_next 1 (some .int) :: lw_g
theorem g_Reader_next : GoodIn lw_g w_Reader_next := tb_good1 (tb_at (i := 721) (by decide +kernel) rfl)
theorem d_Reader_next_0 : decode b_Reader_next 0 = .ok (.aload_n 0, 1) := by decide +kernel
theorem d_Reader_next_1 : decode b_Reader_next 1 = .ok (.getfield 50, 3) := by decide +kernel
theorem d_Reader_next_4 : decode b_Reader_next 4 = .ok (.aload_n 0, 1) := by decide +kernel
theorem d_Reader_next_5 : decode b_Reader_next 5 = .ok (.getfield 46, 3) := by decide +kernel
theorem d_Reader_next_8 : decode b_Reader_next 8 = .ok (.if_icmp .ge 15, 3) := by decide +kernel
theorem d_Reader_next_23 : decode b_Reader_next 23 = .ok (.iconst (-1), 1) := by decide +kernel
theorem d_Reader_next_24 : decode b_Reader_next 24 = .ok (.ireturn, 1) := by decide +kernel
abbrev b_Reader_fail : ByteArray := prog_10_method_4_code
def y_Reader_fail : MethodName := ⟨"RealHouse$Reader", "fail", "()V"⟩
abbrev w_Reader_fail : List Cond := .code y_Reader_fail b_Reader_fail 1 none :: lw_g
theorem g_Reader_fail : GoodIn lw_g w_Reader_fail := tb_good1 (tb_at (i := 731) (by decide +kernel) rfl)
theorem d_Reader_fail_0 : decode b_Reader_fail 0 = .ok (.aload_n 0, 1) := by decide +kernel
theorem d_Reader_fail_1 : decode b_Reader_fail 1 = .ok (.getfield 53, 3) := by decide +kernel
theorem d_Reader_fail_4 : decode b_Reader_fail 4 = .ok (.ifCond .ge 11, 3) := by decide +kernel
theorem d_Reader_fail_7 : decode b_Reader_fail 7 = .ok (.aload_n 0, 1) := by decide +kernel
theorem d_Reader_fail_8 : decode b_Reader_fail 8 = .ok (.aload_n 0, 1) := by decide +kernel
theorem d_Reader_fail_9 : decode b_Reader_fail 9 = .ok (.getfield 50, 3) := by decide +kernel
theorem d_Reader_fail_12 : decode b_Reader_fail 12 = .ok (.putfield 53, 3) := by decide +kernel
theorem d_Reader_fail_15 : decode b_Reader_fail 15 = .ok (.return_, 1) := by decide +kernel
abbrev b_Reader_expectEnd : ByteArray := prog_10_method_5_code
def y_Reader_expectEnd : MethodName := ⟨"RealHouse$Reader", "expectEnd", "()V"⟩
abbrev w_Reader_expectEnd : List Cond := .code y_Reader_expectEnd b_Reader_expectEnd 1 none :: lw_g
theorem g_Reader_expectEnd : GoodIn lw_g w_Reader_expectEnd := tb_good1 (tb_at (i := 765) (by decide +kernel) rfl)
theorem d_Reader_expectEnd_0 : decode b_Reader_expectEnd 0 = .ok (.aload_n 0, 1) := by decide +kernel
theorem d_Reader_expectEnd_1 : decode b_Reader_expectEnd 1 = .ok (.getfield 50, 3) := by decide +kernel
theorem d_Reader_expectEnd_4 : decode b_Reader_expectEnd 4 = .ok (.aload_n 0, 1) := by decide +kernel
theorem d_Reader_expectEnd_5 : decode b_Reader_expectEnd 5 = .ok (.getfield 46, 3) := by decide +kernel
theorem d_Reader_expectEnd_8 : decode b_Reader_expectEnd 8 = .ok (.if_icmp .eq 7, 3) := by decide +kernel
theorem d_Reader_expectEnd_15 : decode b_Reader_expectEnd 15 = .ok (.return_, 1) := by decide +kernel
abbrev b_Curve_clear : ByteArray := prog_4_method_2_code
def y_Curve_clear : MethodName := ⟨"RealHouse$Curve", "clear", "()V"⟩
abbrev w_Curve_clear : List Cond := .code y_Curve_clear b_Curve_clear 2 none :: lw_g
theorem g_Curve_clear : GoodIn lw_g w_Curve_clear := tb_good1 (tb_at (i := 717) (by decide +kernel) rfl)
theorem d_Curve_clear_0 : decode b_Curve_clear 0 = .ok (.iconst 0, 1) := by decide +kernel
theorem d_Curve_clear_1 : decode b_Curve_clear 1 = .ok (.istore_n 1, 1) := by decide +kernel
theorem d_Curve_clear_2 : decode b_Curve_clear 2 = .ok (.iload_n 1, 1) := by decide +kernel
theorem d_Curve_clear_3 : decode b_Curve_clear 3 = .ok (.aload_n 0, 1) := by decide +kernel
theorem d_Curve_clear_4 : decode b_Curve_clear 4 = .ok (.getfield 9, 3) := by decide +kernel
theorem d_Curve_clear_7 : decode b_Curve_clear 7 = .ok (.arraylength, 1) := by decide +kernel
theorem d_Curve_clear_8 : decode b_Curve_clear 8 = .ok (.if_icmp .ge 19, 3) := by decide +kernel
theorem d_Curve_clear_11 : decode b_Curve_clear 11 = .ok (.aload_n 0, 1) := by decide +kernel
theorem d_Curve_clear_12 : decode b_Curve_clear 12 = .ok (.getfield 9, 3) := by decide +kernel
theorem d_Curve_clear_15 : decode b_Curve_clear 15 = .ok (.iload_n 1, 1) := by decide +kernel
theorem d_Curve_clear_16 : decode b_Curve_clear 16 = .ok (.aaload, 1) := by decide +kernel
theorem d_Curve_clear_17 : decode b_Curve_clear 17 = .ok (.iconst 0, 1) := by decide +kernel
theorem d_Curve_clear_18 : decode b_Curve_clear 18 = .ok (.putfield 18, 3) := by decide +kernel
theorem d_Curve_clear_21 : decode b_Curve_clear 21 = .ok (.iinc 1 1, 3) := by decide +kernel
theorem d_Curve_clear_24 : decode b_Curve_clear 24 = .ok (.goto (-22), 3) := by decide +kernel
theorem d_Curve_clear_27 : decode b_Curve_clear 27 = .ok (.return_, 1) := by decide +kernel
abbrev b_Reader_readTerm : ByteArray := prog_10_method_8_code
def y_Reader_readTerm : MethodName := ⟨"RealHouse$Reader", "readTerm", "(LRealHouse$Curve;I)V"⟩
abbrev w_Reader_readTerm : List Cond := .code y_Reader_readTerm b_Reader_readTerm 13 none :: lw_g
theorem g_Reader_readTerm : GoodIn lw_g w_Reader_readTerm := tb_good1 (tb_at (i := 725) (by decide +kernel) rfl)
theorem d_Reader_readTerm_0 : decode b_Reader_readTerm 0 = .ok (.lconst 0, 1) := by decide +kernel
theorem d_Reader_readTerm_1 : decode b_Reader_readTerm 1 = .ok (.lstore_n 3, 1) := by decide +kernel
theorem d_Reader_readTerm_2 : decode b_Reader_readTerm 2 = .ok (.aload_n 0, 1) := by decide +kernel
theorem d_Reader_readTerm_3 : decode b_Reader_readTerm 3 = .ok (.getfield 50, 3) := by decide +kernel
theorem d_Reader_readTerm_6 : decode b_Reader_readTerm 6 = .ok (.istore 5, 2) := by decide +kernel
theorem d_Reader_readTerm_8 : decode b_Reader_readTerm 8 = .ok (.aload_n 0, 1) := by decide +kernel
theorem d_Reader_readTerm_9 : decode b_Reader_readTerm 9 = .ok (.getfield 50, 3) := by decide +kernel
theorem d_Reader_readTerm_12 : decode b_Reader_readTerm 12 = .ok (.iload 5, 2) := by decide +kernel
theorem d_Reader_readTerm_14 : decode b_Reader_readTerm 14 = .ok (.bipush 6, 2) := by decide +kernel
theorem d_Reader_readTerm_16 : decode b_Reader_readTerm 16 = .ok (.iadd, 1) := by decide +kernel
theorem d_Reader_readTerm_17 : decode b_Reader_readTerm 17 = .ok (.if_icmp .ge 50, 3) := by decide +kernel
theorem d_Reader_readTerm_20 : decode b_Reader_readTerm 20 = .ok (.aload_n 0, 1) := by decide +kernel
theorem d_Reader_readTerm_21 : decode b_Reader_readTerm 21 = .ok (.invokevirtual 91, 3) := by decide +kernel
theorem d_Reader_readTerm_24 : decode b_Reader_readTerm 24 = .ok (.bipush 48, 2) := by decide +kernel
theorem d_Reader_readTerm_26 : decode b_Reader_readTerm 26 = .ok (.if_icmp .lt 41, 3) := by decide +kernel
theorem d_Reader_readTerm_67 : decode b_Reader_readTerm 67 = .ok (.aload_n 0, 1) := by decide +kernel
theorem d_Reader_readTerm_68 : decode b_Reader_readTerm 68 = .ok (.getfield 50, 3) := by decide +kernel
theorem d_Reader_readTerm_71 : decode b_Reader_readTerm 71 = .ok (.iload 5, 2) := by decide +kernel
theorem d_Reader_readTerm_73 : decode b_Reader_readTerm 73 = .ok (.if_icmp .ne 5, 3) := by decide +kernel
theorem d_Reader_readTerm_76 : decode b_Reader_readTerm 76 = .ok (.lconst 1, 1) := by decide +kernel
theorem d_Reader_readTerm_77 : decode b_Reader_readTerm 77 = .ok (.lstore_n 3, 1) := by decide +kernel
theorem d_Reader_readTerm_78 : decode b_Reader_readTerm 78 = .ok (.iconst 0, 1) := by decide +kernel
theorem d_Reader_readTerm_79 : decode b_Reader_readTerm 79 = .ok (.istore 6, 2) := by decide +kernel
theorem d_Reader_readTerm_81 : decode b_Reader_readTerm 81 = .ok (.iconst 0, 1) := by decide +kernel
theorem d_Reader_readTerm_82 : decode b_Reader_readTerm 82 = .ok (.istore 7, 2) := by decide +kernel
theorem d_Reader_readTerm_84 : decode b_Reader_readTerm 84 = .ok (.iconst 0, 1) := by decide +kernel
theorem d_Reader_readTerm_85 : decode b_Reader_readTerm 85 = .ok (.istore 8, 2) := by decide +kernel
theorem d_Reader_readTerm_87 : decode b_Reader_readTerm 87 = .ok (.iload 8, 2) := by decide +kernel
theorem d_Reader_readTerm_89 : decode b_Reader_readTerm 89 = .ok (.sipush 400, 3) := by decide +kernel
theorem d_Reader_readTerm_92 : decode b_Reader_readTerm 92 = .ok (.if_icmp .ge 184, 3) := by decide +kernel
theorem d_Reader_readTerm_95 : decode b_Reader_readTerm 95 = .ok (.aload_n 0, 1) := by decide +kernel
theorem d_Reader_readTerm_96 : decode b_Reader_readTerm 96 = .ok (.invokevirtual 91, 3) := by decide +kernel
theorem d_Reader_readTerm_99 : decode b_Reader_readTerm 99 = .ok (.istore 9, 2) := by decide +kernel
theorem d_Reader_readTerm_101 : decode b_Reader_readTerm 101 = .ok (.iload 9, 2) := by decide +kernel
theorem d_Reader_readTerm_103 : decode b_Reader_readTerm 103 = .ok (.bipush 120, 2) := by decide +kernel
theorem d_Reader_readTerm_105 : decode b_Reader_readTerm 105 = .ok (.if_icmp .ne 10, 3) := by decide +kernel
theorem d_Reader_readTerm_115 : decode b_Reader_readTerm 115 = .ok (.iload 9, 2) := by decide +kernel
theorem d_Reader_readTerm_117 : decode b_Reader_readTerm 117 = .ok (.bipush 121, 2) := by decide +kernel
theorem d_Reader_readTerm_119 : decode b_Reader_readTerm 119 = .ok (.if_icmp .ne 157, 3) := by decide +kernel
theorem d_Reader_readTerm_276 : decode b_Reader_readTerm 276 = .ok (.aload_n 0, 1) := by decide +kernel
theorem d_Reader_readTerm_277 : decode b_Reader_readTerm 277 = .ok (.getfield 50, 3) := by decide +kernel
theorem d_Reader_readTerm_280 : decode b_Reader_readTerm 280 = .ok (.iload 5, 2) := by decide +kernel
theorem d_Reader_readTerm_282 : decode b_Reader_readTerm 282 = .ok (.if_icmp .ne 8, 3) := by decide +kernel
theorem d_Reader_readTerm_285 : decode b_Reader_readTerm 285 = .ok (.aload_n 0, 1) := by decide +kernel
theorem d_Reader_readTerm_286 : decode b_Reader_readTerm 286 = .ok (.invokevirtual 84, 3) := by decide +kernel
theorem d_Reader_readTerm_289 : decode b_Reader_readTerm 289 = .ok (.return_, 1) := by decide +kernel
abbrev b_Reader_readPoly : ByteArray := prog_10_method_7_code
def y_Reader_readPoly : MethodName := ⟨"RealHouse$Reader", "readPoly", "(LRealHouse$Curve;)V"⟩
abbrev w_Reader_readPoly : List Cond := .code y_Reader_readPoly b_Reader_readPoly 5 none :: lw_g
theorem g_Reader_readPoly : GoodIn lw_g w_Reader_readPoly := tb_good1 (tb_at (i := 713) (by decide +kernel) rfl)
theorem d_Reader_readPoly_0 : decode b_Reader_readPoly 0 = .ok (.aload_n 1, 1) := by decide +kernel
theorem d_Reader_readPoly_1 : decode b_Reader_readPoly 1 = .ok (.invokevirtual 98, 3) := by decide +kernel
theorem d_Reader_readPoly_4 : decode b_Reader_readPoly 4 = .ok (.iconst 1, 1) := by decide +kernel
theorem d_Reader_readPoly_5 : decode b_Reader_readPoly 5 = .ok (.istore_n 2, 1) := by decide +kernel
theorem d_Reader_readPoly_6 : decode b_Reader_readPoly 6 = .ok (.aload_n 0, 1) := by decide +kernel
theorem d_Reader_readPoly_7 : decode b_Reader_readPoly 7 = .ok (.invokevirtual 91, 3) := by decide +kernel
theorem d_Reader_readPoly_10 : decode b_Reader_readPoly 10 = .ok (.bipush 45, 2) := by decide +kernel
theorem d_Reader_readPoly_12 : decode b_Reader_readPoly 12 = .ok (.if_icmp .ne 15, 3) := by decide +kernel
theorem d_Reader_readPoly_27 : decode b_Reader_readPoly 27 = .ok (.iconst 0, 1) := by decide +kernel
theorem d_Reader_readPoly_28 : decode b_Reader_readPoly 28 = .ok (.istore_n 3, 1) := by decide +kernel
theorem d_Reader_readPoly_29 : decode b_Reader_readPoly 29 = .ok (.iload_n 3, 1) := by decide +kernel
theorem d_Reader_readPoly_30 : decode b_Reader_readPoly 30 = .ok (.sipush 400, 3) := by decide +kernel
theorem d_Reader_readPoly_33 : decode b_Reader_readPoly 33 = .ok (.if_icmp .ge 66, 3) := by decide +kernel
theorem d_Reader_readPoly_36 : decode b_Reader_readPoly 36 = .ok (.aload_n 0, 1) := by decide +kernel
theorem d_Reader_readPoly_37 : decode b_Reader_readPoly 37 = .ok (.getfield 53, 3) := by decide +kernel
theorem d_Reader_readPoly_40 : decode b_Reader_readPoly 40 = .ok (.ifCond .ge 59, 3) := by decide +kernel
theorem d_Reader_readPoly_43 : decode b_Reader_readPoly 43 = .ok (.aload_n 0, 1) := by decide +kernel
theorem d_Reader_readPoly_44 : decode b_Reader_readPoly 44 = .ok (.aload_n 1, 1) := by decide +kernel
theorem d_Reader_readPoly_45 : decode b_Reader_readPoly 45 = .ok (.iload_n 2, 1) := by decide +kernel
theorem d_Reader_readPoly_46 : decode b_Reader_readPoly 46 = .ok (.invokevirtual 101, 3) := by decide +kernel
theorem d_Reader_readPoly_49 : decode b_Reader_readPoly 49 = .ok (.aload_n 0, 1) := by decide +kernel
theorem d_Reader_readPoly_50 : decode b_Reader_readPoly 50 = .ok (.invokevirtual 91, 3) := by decide +kernel
theorem d_Reader_readPoly_53 : decode b_Reader_readPoly 53 = .ok (.istore 4, 2) := by decide +kernel
theorem d_Reader_readPoly_55 : decode b_Reader_readPoly 55 = .ok (.iload 4, 2) := by decide +kernel
theorem d_Reader_readPoly_57 : decode b_Reader_readPoly 57 = .ok (.bipush 43, 2) := by decide +kernel
theorem d_Reader_readPoly_59 : decode b_Reader_readPoly 59 = .ok (.if_icmp .eq 11, 3) := by decide +kernel
theorem d_Reader_readPoly_62 : decode b_Reader_readPoly 62 = .ok (.iload 4, 2) := by decide +kernel
theorem d_Reader_readPoly_64 : decode b_Reader_readPoly 64 = .ok (.bipush 45, 2) := by decide +kernel
theorem d_Reader_readPoly_66 : decode b_Reader_readPoly 66 = .ok (.if_icmp .eq 4, 3) := by decide +kernel
theorem d_Reader_readPoly_69 : decode b_Reader_readPoly 69 = .ok (.return_, 1) := by decide +kernel
abbrev b_Reader_readPolys : ByteArray := prog_10_method_6_code
def y_Reader_readPolys : MethodName := ⟨"RealHouse$Reader", "readPolys", "(Z)V"⟩
abbrev w_Reader_readPolys : List Cond := .code y_Reader_readPolys b_Reader_readPolys 2 none :: lw_g
theorem g_Reader_readPolys : GoodIn lw_g w_Reader_readPolys := tb_good1 (tb_at (i := 709) (by decide +kernel) rfl)
theorem d_Reader_readPolys_0 : decode b_Reader_readPolys 0 = .ok (.aload_n 0, 1) := by decide +kernel
theorem d_Reader_readPolys_1 : decode b_Reader_readPolys 1 = .ok (.aload_n 0, 1) := by decide +kernel
theorem d_Reader_readPolys_2 : decode b_Reader_readPolys 2 = .ok (.getfield 30, 3) := by decide +kernel
theorem d_Reader_readPolys_5 : decode b_Reader_readPolys 5 = .ok (.invokevirtual 87, 3) := by decide +kernel
theorem d_Reader_readPolys_8 : decode b_Reader_readPolys 8 = .ok (.iload_n 1, 1) := by decide +kernel
theorem d_Reader_readPolys_9 : decode b_Reader_readPolys 9 = .ok (.ifCond .eq 44, 3) := by decide +kernel
theorem d_Reader_readPolys_12 : decode b_Reader_readPolys 12 = .ok (.aload_n 0, 1) := by decide +kernel
theorem d_Reader_readPolys_13 : decode b_Reader_readPolys 13 = .ok (.getfield 53, 3) := by decide +kernel
theorem d_Reader_readPolys_16 : decode b_Reader_readPolys 16 = .ok (.ifCond .ge 37, 3) := by decide +kernel
theorem d_Reader_readPolys_53 : decode b_Reader_readPolys 53 = .ok (.aload_n 0, 1) := by decide +kernel
theorem d_Reader_readPolys_54 : decode b_Reader_readPolys 54 = .ok (.invokevirtual 95, 3) := by decide +kernel
theorem d_Reader_readPolys_57 : decode b_Reader_readPolys 57 = .ok (.return_, 1) := by decide +kernel
abbrev b_Reader_readQuantifier : ByteArray := prog_10_method_9_code
def y_Reader_readQuantifier : MethodName := ⟨"RealHouse$Reader", "readQuantifier", "(Z)I"⟩
abbrev w_Reader_readQuantifier : List Cond := .code y_Reader_readQuantifier b_Reader_readQuantifier 6 (some .int) :: lw_g
theorem g_Reader_readQuantifier : GoodIn lw_g w_Reader_readQuantifier := tb_good1 (tb_at (i := 1394) (by decide +kernel) rfl)
theorem d_Reader_readQuantifier_0 : decode b_Reader_readQuantifier 0 = .ok (.aload_n 0, 1) := by decide +kernel
theorem d_Reader_readQuantifier_1 : decode b_Reader_readQuantifier 1 = .ok (.invokevirtual 91, 3) := by decide +kernel
theorem d_Reader_readQuantifier_4 : decode b_Reader_readQuantifier 4 = .ok (.istore_n 2, 1) := by decide +kernel
theorem d_Reader_readQuantifier_5 : decode b_Reader_readQuantifier 5 = .ok (.iload_n 2, 1) := by decide +kernel
theorem d_Reader_readQuantifier_6 : decode b_Reader_readQuantifier 6 = .ok (.bipush 69, 2) := by decide +kernel
theorem d_Reader_readQuantifier_8 : decode b_Reader_readQuantifier 8 = .ok (.if_icmp .eq 11, 3) := by decide +kernel
theorem d_Reader_readQuantifier_11 : decode b_Reader_readQuantifier 11 = .ok (.iload_n 2, 1) := by decide +kernel
theorem d_Reader_readQuantifier_12 : decode b_Reader_readQuantifier 12 = .ok (.bipush 65, 2) := by decide +kernel
theorem d_Reader_readQuantifier_14 : decode b_Reader_readQuantifier 14 = .ok (.if_icmp .eq 5, 3) := by decide +kernel
theorem d_Reader_readQuantifier_17 : decode b_Reader_readQuantifier 17 = .ok (.iconst 0, 1) := by decide +kernel
theorem d_Reader_readQuantifier_18 : decode b_Reader_readQuantifier 18 = .ok (.ireturn, 1) := by decide +kernel
abbrev b_Reader_readQuantifiers : ByteArray := prog_10_method_10_code
def y_Reader_readQuantifiers : MethodName := ⟨"RealHouse$Reader", "readQuantifiers", "()V"⟩
abbrev w_Reader_readQuantifiers : List Cond := .code y_Reader_readQuantifiers b_Reader_readQuantifiers 4 none :: lw_g
theorem g_Reader_readQuantifiers : GoodIn lw_g w_Reader_readQuantifiers := tb_good1 (tb_at (i := 1390) (by decide +kernel) rfl)
theorem d_Reader_readQuantifiers_0 : decode b_Reader_readQuantifiers 0 = .ok (.aload_n 0, 1) := by decide +kernel
theorem d_Reader_readQuantifiers_1 : decode b_Reader_readQuantifiers 1 = .ok (.iconst 0, 1) := by decide +kernel
theorem d_Reader_readQuantifiers_2 : decode b_Reader_readQuantifiers 2 = .ok (.invokevirtual 119, 3) := by decide +kernel
theorem d_Reader_readQuantifiers_5 : decode b_Reader_readQuantifiers 5 = .ok (.istore_n 1, 1) := by decide +kernel
theorem d_Reader_readQuantifiers_6 : decode b_Reader_readQuantifiers 6 = .ok (.aload_n 0, 1) := by decide +kernel
theorem d_Reader_readQuantifiers_7 : decode b_Reader_readQuantifiers 7 = .ok (.getfield 56, 3) := by decide +kernel
theorem d_Reader_readQuantifiers_10 : decode b_Reader_readQuantifiers 10 = .ok (.istore_n 2, 1) := by decide +kernel
theorem d_Reader_readQuantifiers_11 : decode b_Reader_readQuantifiers 11 = .ok (.iload_n 1, 1) := by decide +kernel
theorem d_Reader_readQuantifiers_12 : decode b_Reader_readQuantifiers 12 = .ok (.ifCond .ne 8, 3) := by decide +kernel
theorem d_Reader_readQuantifiers_15 : decode b_Reader_readQuantifiers 15 = .ok (.aload_n 0, 1) := by decide +kernel
theorem d_Reader_readQuantifiers_16 : decode b_Reader_readQuantifiers 16 = .ok (.invokevirtual 84, 3) := by decide +kernel
theorem d_Reader_readQuantifiers_19 : decode b_Reader_readQuantifiers 19 = .ok (.return_, 1) := by decide +kernel
abbrev b_Reader_readOverY : ByteArray := prog_10_method_11_code
def y_Reader_readOverY : MethodName := ⟨"RealHouse$Reader", "readOverY", "()V"⟩
abbrev w_Reader_readOverY : List Cond := .code y_Reader_readOverY b_Reader_readOverY 1 none :: lw_g
theorem g_Reader_readOverY : GoodIn lw_g w_Reader_readOverY := tb_good1 (tb_at (i := 1515) (by decide +kernel) rfl)
theorem d_Reader_readOverY_0 : decode b_Reader_readOverY 0 = .ok (.aload_n 0, 1) := by decide +kernel
theorem d_Reader_readOverY_1 : decode b_Reader_readOverY 1 = .ok (.aload_n 0, 1) := by decide +kernel
theorem d_Reader_readOverY_2 : decode b_Reader_readOverY 2 = .ok (.iconst 1, 1) := by decide +kernel
theorem d_Reader_readOverY_3 : decode b_Reader_readOverY 3 = .ok (.invokevirtual 119, 3) := by decide +kernel
theorem d_Reader_readOverY_6 : decode b_Reader_readOverY 6 = .ok (.putfield 78, 3) := by decide +kernel
theorem d_Reader_readOverY_9 : decode b_Reader_readOverY 9 = .ok (.return_, 1) := by decide +kernel
abbrev b_Reader_closeNots : ByteArray := prog_10_method_15_code
def y_Reader_closeNots : MethodName := ⟨"RealHouse$Reader", "closeNots", "()I"⟩
abbrev w_Reader_closeNots : List Cond := .code y_Reader_closeNots b_Reader_closeNots 2 (some .int) :: lw_g
theorem g_Reader_closeNots : GoodIn lw_g w_Reader_closeNots := tb_good1 (tb_at (i := 1431) (by decide +kernel) rfl)
theorem d_Reader_closeNots_0 : decode b_Reader_closeNots 0 = .ok (.aload_n 0, 1) := by decide +kernel
theorem d_Reader_closeNots_1 : decode b_Reader_closeNots 1 = .ok (.getfield 72, 3) := by decide +kernel
theorem d_Reader_closeNots_4 : decode b_Reader_closeNots 4 = .ok (.istore_n 1, 1) := by decide +kernel
theorem d_Reader_closeNots_5 : decode b_Reader_closeNots 5 = .ok (.aload_n 0, 1) := by decide +kernel
theorem d_Reader_closeNots_6 : decode b_Reader_closeNots 6 = .ok (.getfield 72, 3) := by decide +kernel
theorem d_Reader_closeNots_9 : decode b_Reader_closeNots 9 = .ok (.ifCond .le 37, 3) := by decide +kernel
theorem d_Reader_closeNots_46 : decode b_Reader_closeNots 46 = .ok (.iload_n 1, 1) := by decide +kernel
theorem d_Reader_closeNots_47 : decode b_Reader_closeNots 47 = .ok (.aload_n 0, 1) := by decide +kernel
theorem d_Reader_closeNots_48 : decode b_Reader_closeNots 48 = .ok (.getfield 72, 3) := by decide +kernel
theorem d_Reader_closeNots_51 : decode b_Reader_closeNots 51 = .ok (.isub, 1) := by decide +kernel
theorem d_Reader_closeNots_52 : decode b_Reader_closeNots 52 = .ok (.ireturn, 1) := by decide +kernel
abbrev b_Reader_readComparison : ByteArray := prog_10_method_18_code
def y_Reader_readComparison : MethodName := ⟨"RealHouse$Reader", "readComparison", "()V"⟩
abbrev w_Reader_readComparison : List Cond := .code y_Reader_readComparison b_Reader_readComparison 3 none :: lw_g
theorem g_Reader_readComparison : GoodIn lw_g w_Reader_readComparison := tb_good1 (tb_at (i := 1406) (by decide +kernel) rfl)
theorem d_Reader_readComparison_0 : decode b_Reader_readComparison 0 = .ok (.aload_n 0, 1) := by decide +kernel
theorem d_Reader_readComparison_1 : decode b_Reader_readComparison 1 = .ok (.aload_n 0, 1) := by decide +kernel
theorem d_Reader_readComparison_2 : decode b_Reader_readComparison 2 = .ok (.getfield 30, 3) := by decide +kernel
theorem d_Reader_readComparison_5 : decode b_Reader_readComparison 5 = .ok (.invokevirtual 87, 3) := by decide +kernel
theorem d_Reader_readComparison_8 : decode b_Reader_readComparison 8 = .ok (.aload_n 0, 1) := by decide +kernel
theorem d_Reader_readComparison_9 : decode b_Reader_readComparison 9 = .ok (.getfield 53, 3) := by decide +kernel
theorem d_Reader_readComparison_12 : decode b_Reader_readComparison 12 = .ok (.ifCond .ge 10, 3) := by decide +kernel
theorem d_Reader_readComparison_22 : decode b_Reader_readComparison 22 = .ok (.iconst 0, 1) := by decide +kernel
theorem d_Reader_readComparison_23 : decode b_Reader_readComparison 23 = .ok (.istore_n 1, 1) := by decide +kernel
theorem d_Reader_readComparison_24 : decode b_Reader_readComparison 24 = .ok (.aload_n 0, 1) := by decide +kernel
theorem d_Reader_readComparison_25 : decode b_Reader_readComparison 25 = .ok (.getfield 53, 3) := by decide +kernel
theorem d_Reader_readComparison_28 : decode b_Reader_readComparison 28 = .ok (.ifCond .ge 11, 3) := by decide +kernel
theorem d_Reader_readComparison_39 : decode b_Reader_readComparison 39 = .ok (.aload_n 0, 1) := by decide +kernel
theorem d_Reader_readComparison_40 : decode b_Reader_readComparison 40 = .ok (.getfield 53, 3) := by decide +kernel
theorem d_Reader_readComparison_43 : decode b_Reader_readComparison 43 = .ok (.ifCond .lt 4, 3) := by decide +kernel
theorem d_Reader_readComparison_46 : decode b_Reader_readComparison 46 = .ok (.return_, 1) := by decide +kernel
abbrev b_Reader_readFormula : ByteArray := prog_10_method_12_code
def y_Reader_readFormula : MethodName := ⟨"RealHouse$Reader", "readFormula", "()V"⟩
abbrev w_Reader_readFormula : List Cond := .code y_Reader_readFormula b_Reader_readFormula 5 none :: lw_g
theorem g_Reader_readFormula : GoodIn lw_g w_Reader_readFormula := tb_good1 (tb_at (i := 1398) (by decide +kernel) rfl)
theorem d_Reader_readFormula_0 : decode b_Reader_readFormula 0 = .ok (.iconst 0, 1) := by decide +kernel
theorem d_Reader_readFormula_1 : decode b_Reader_readFormula 1 = .ok (.istore_n 1, 1) := by decide +kernel
theorem d_Reader_readFormula_2 : decode b_Reader_readFormula 2 = .ok (.iconst 0, 1) := by decide +kernel
theorem d_Reader_readFormula_3 : decode b_Reader_readFormula 3 = .ok (.istore_n 2, 1) := by decide +kernel
theorem d_Reader_readFormula_4 : decode b_Reader_readFormula 4 = .ok (.iload_n 2, 1) := by decide +kernel
theorem d_Reader_readFormula_5 : decode b_Reader_readFormula 5 = .ok (.sipush 400, 3) := by decide +kernel
theorem d_Reader_readFormula_8 : decode b_Reader_readFormula 8 = .ok (.if_icmp .gt 185, 3) := by decide +kernel
theorem d_Reader_readFormula_11 : decode b_Reader_readFormula 11 = .ok (.aload_n 0, 1) := by decide +kernel
theorem d_Reader_readFormula_12 : decode b_Reader_readFormula 12 = .ok (.getfield 53, 3) := by decide +kernel
theorem d_Reader_readFormula_15 : decode b_Reader_readFormula 15 = .ok (.ifCond .ge 178, 3) := by decide +kernel
theorem d_Reader_readFormula_18 : decode b_Reader_readFormula 18 = .ok (.aload_n 0, 1) := by decide +kernel
theorem d_Reader_readFormula_19 : decode b_Reader_readFormula 19 = .ok (.invokevirtual 91, 3) := by decide +kernel
theorem d_Reader_readFormula_22 : decode b_Reader_readFormula 22 = .ok (.istore_n 3, 1) := by decide +kernel
theorem d_Reader_readFormula_23 : decode b_Reader_readFormula 23 = .ok (.iload_n 3, 1) := by decide +kernel
theorem d_Reader_readFormula_24 : decode b_Reader_readFormula 24 = .ok (.bipush 126, 2) := by decide +kernel
theorem d_Reader_readFormula_26 : decode b_Reader_readFormula 26 = .ok (.if_icmp .eq 9, 3) := by decide +kernel
theorem d_Reader_readFormula_29 : decode b_Reader_readFormula 29 = .ok (.iload_n 3, 1) := by decide +kernel
theorem d_Reader_readFormula_30 : decode b_Reader_readFormula 30 = .ok (.bipush 40, 2) := by decide +kernel
theorem d_Reader_readFormula_32 : decode b_Reader_readFormula 32 = .ok (.if_icmp .ne 35, 3) := by decide +kernel
theorem d_Reader_readFormula_67 : decode b_Reader_readFormula 67 = .ok (.aload_n 0, 1) := by decide +kernel
theorem d_Reader_readFormula_68 : decode b_Reader_readFormula 68 = .ok (.invokevirtual 127, 3) := by decide +kernel
theorem d_Reader_readFormula_71 : decode b_Reader_readFormula 71 = .ok (.iload_n 1, 1) := by decide +kernel
theorem d_Reader_readFormula_72 : decode b_Reader_readFormula 72 = .ok (.aload_n 0, 1) := by decide +kernel
theorem d_Reader_readFormula_73 : decode b_Reader_readFormula 73 = .ok (.invokevirtual 130, 3) := by decide +kernel
theorem d_Reader_readFormula_76 : decode b_Reader_readFormula 76 = .ok (.isub, 1) := by decide +kernel
theorem d_Reader_readFormula_77 : decode b_Reader_readFormula 77 = .ok (.istore_n 1, 1) := by decide +kernel
theorem d_Reader_readFormula_78 : decode b_Reader_readFormula 78 = .ok (.iconst 0, 1) := by decide +kernel
theorem d_Reader_readFormula_79 : decode b_Reader_readFormula 79 = .ok (.istore 4, 2) := by decide +kernel
theorem d_Reader_readFormula_81 : decode b_Reader_readFormula 81 = .ok (.iload 4, 2) := by decide +kernel
theorem d_Reader_readFormula_83 : decode b_Reader_readFormula 83 = .ok (.bipush 20, 2) := by decide +kernel
theorem d_Reader_readFormula_85 : decode b_Reader_readFormula 85 = .ok (.if_icmp .ge 48, 3) := by decide +kernel
theorem d_Reader_readFormula_88 : decode b_Reader_readFormula 88 = .ok (.aload_n 0, 1) := by decide +kernel
theorem d_Reader_readFormula_89 : decode b_Reader_readFormula 89 = .ok (.getfield 72, 3) := by decide +kernel
theorem d_Reader_readFormula_92 : decode b_Reader_readFormula 92 = .ok (.ifCond .le 41, 3) := by decide +kernel
theorem d_Reader_readFormula_133 : decode b_Reader_readFormula 133 = .ok (.aload_n 0, 1) := by decide +kernel
theorem d_Reader_readFormula_134 : decode b_Reader_readFormula 134 = .ok (.invokevirtual 91, 3) := by decide +kernel
theorem d_Reader_readFormula_137 : decode b_Reader_readFormula 137 = .ok (.istore_n 3, 1) := by decide +kernel
theorem d_Reader_readFormula_138 : decode b_Reader_readFormula 138 = .ok (.aload_n 0, 1) := by decide +kernel
theorem d_Reader_readFormula_139 : decode b_Reader_readFormula 139 = .ok (.getfield 72, 3) := by decide +kernel
theorem d_Reader_readFormula_142 : decode b_Reader_readFormula 142 = .ok (.ifCond .ne 8, 3) := by decide +kernel
theorem d_Reader_readFormula_145 : decode b_Reader_readFormula 145 = .ok (.aload_n 0, 1) := by decide +kernel
theorem d_Reader_readFormula_146 : decode b_Reader_readFormula 146 = .ok (.invokevirtual 95, 3) := by decide +kernel
theorem d_Reader_readFormula_149 : decode b_Reader_readFormula 149 = .ok (.return_, 1) := by decide +kernel
theorem d_Reader_readFormula_193 : decode b_Reader_readFormula 193 = .ok (.return_, 1) := by decide +kernel
abbrev b_Reader_begin : ByteArray := prog_10_method_2_code
def y_Reader_begin : MethodName := ⟨"RealHouse$Reader", "begin", "([IIZZ)V"⟩
abbrev w_Reader_begin : List Cond := .code y_Reader_begin b_Reader_begin 5 none :: lw_g
theorem g_Reader_begin : GoodIn lw_g w_Reader_begin := tb_good1 (tb_at (i := 702) (by decide +kernel) rfl)
theorem d_Reader_begin_0 : decode b_Reader_begin 0 = .ok (.aload_n 0, 1) := by decide +kernel
theorem d_Reader_begin_1 : decode b_Reader_begin 1 = .ok (.aload_n 1, 1) := by decide +kernel
theorem d_Reader_begin_2 : decode b_Reader_begin 2 = .ok (.putfield 9, 3) := by decide +kernel
theorem d_Reader_begin_5 : decode b_Reader_begin 5 = .ok (.aload_n 0, 1) := by decide +kernel
theorem d_Reader_begin_6 : decode b_Reader_begin 6 = .ok (.iload_n 2, 1) := by decide +kernel
theorem d_Reader_begin_7 : decode b_Reader_begin 7 = .ok (.aload_n 1, 1) := by decide +kernel
theorem d_Reader_begin_8 : decode b_Reader_begin 8 = .ok (.arraylength, 1) := by decide +kernel
theorem d_Reader_begin_9 : decode b_Reader_begin 9 = .ok (.invokestatic 40, 3) := by decide +kernel
theorem d_Reader_begin_12 : decode b_Reader_begin 12 = .ok (.putfield 46, 3) := by decide +kernel
theorem d_Reader_begin_15 : decode b_Reader_begin 15 = .ok (.aload_n 0, 1) := by decide +kernel
theorem d_Reader_begin_16 : decode b_Reader_begin 16 = .ok (.iconst 0, 1) := by decide +kernel
theorem d_Reader_begin_17 : decode b_Reader_begin 17 = .ok (.putfield 50, 3) := by decide +kernel
theorem d_Reader_begin_20 : decode b_Reader_begin 20 = .ok (.aload_n 0, 1) := by decide +kernel
theorem d_Reader_begin_21 : decode b_Reader_begin 21 = .ok (.iconst (-1), 1) := by decide +kernel
theorem d_Reader_begin_22 : decode b_Reader_begin 22 = .ok (.putfield 53, 3) := by decide +kernel
theorem d_Reader_begin_25 : decode b_Reader_begin 25 = .ok (.aload_n 0, 1) := by decide +kernel
theorem d_Reader_begin_26 : decode b_Reader_begin 26 = .ok (.iload_n 3, 1) := by decide +kernel
theorem d_Reader_begin_27 : decode b_Reader_begin 27 = .ok (.putfield 56, 3) := by decide +kernel
theorem d_Reader_begin_30 : decode b_Reader_begin 30 = .ok (.aload_n 0, 1) := by decide +kernel
theorem d_Reader_begin_31 : decode b_Reader_begin 31 = .ok (.iload 4, 2) := by decide +kernel
theorem d_Reader_begin_33 : decode b_Reader_begin 33 = .ok (.putfield 60, 3) := by decide +kernel
theorem d_Reader_begin_36 : decode b_Reader_begin 36 = .ok (.aload_n 0, 1) := by decide +kernel
theorem d_Reader_begin_37 : decode b_Reader_begin 37 = .ok (.iconst 0, 1) := by decide +kernel
theorem d_Reader_begin_38 : decode b_Reader_begin 38 = .ok (.putfield 63, 3) := by decide +kernel
theorem d_Reader_begin_41 : decode b_Reader_begin 41 = .ok (.aload_n 0, 1) := by decide +kernel
theorem d_Reader_begin_42 : decode b_Reader_begin 42 = .ok (.iconst 0, 1) := by decide +kernel
theorem d_Reader_begin_43 : decode b_Reader_begin 43 = .ok (.putfield 66, 3) := by decide +kernel
theorem d_Reader_begin_46 : decode b_Reader_begin 46 = .ok (.aload_n 0, 1) := by decide +kernel
theorem d_Reader_begin_47 : decode b_Reader_begin 47 = .ok (.iconst 0, 1) := by decide +kernel
theorem d_Reader_begin_48 : decode b_Reader_begin 48 = .ok (.putfield 69, 3) := by decide +kernel
theorem d_Reader_begin_51 : decode b_Reader_begin 51 = .ok (.aload_n 0, 1) := by decide +kernel
theorem d_Reader_begin_52 : decode b_Reader_begin 52 = .ok (.iconst 0, 1) := by decide +kernel
theorem d_Reader_begin_53 : decode b_Reader_begin 53 = .ok (.putfield 72, 3) := by decide +kernel
theorem d_Reader_begin_56 : decode b_Reader_begin 56 = .ok (.aload_n 0, 1) := by decide +kernel
theorem d_Reader_begin_57 : decode b_Reader_begin 57 = .ok (.iconst 0, 1) := by decide +kernel
theorem d_Reader_begin_58 : decode b_Reader_begin 58 = .ok (.putfield 75, 3) := by decide +kernel
theorem d_Reader_begin_61 : decode b_Reader_begin 61 = .ok (.aload_n 0, 1) := by decide +kernel
theorem d_Reader_begin_62 : decode b_Reader_begin 62 = .ok (.iconst 0, 1) := by decide +kernel
theorem d_Reader_begin_63 : decode b_Reader_begin 63 = .ok (.putfield 78, 3) := by decide +kernel
theorem d_Reader_begin_66 : decode b_Reader_begin 66 = .ok (.aload_n 0, 1) := by decide +kernel
theorem d_Reader_begin_67 : decode b_Reader_begin 67 = .ok (.iconst 0, 1) := by decide +kernel
theorem d_Reader_begin_68 : decode b_Reader_begin 68 = .ok (.putfield 81, 3) := by decide +kernel
theorem d_Reader_begin_71 : decode b_Reader_begin 71 = .ok (.return_, 1) := by decide +kernel
set_option maxHeartbeats 4000000 in
set_option maxRecDepth 100000 in
/-- next() at the end of an empty text -/
theorem c_Reader_next_0 (l : Launch) (dC : Nat → ClassId) (dI : Nat → Nat → Nat) (sz : Nat) (h0 : Nat) (tp : Nat) (r_left : Nat) (r_right : Nat) (r_told : Nat) (r_curve : Nat) (r_steps : Nat) (r_stack : Nat) (ft : Int32) (wx : Int32) (wy : Int32)  : Met l y_Reader_next w_Reader_next ({ frames := 0, cells := 0, slots := 0, locals := 0 }) (va_Pc [.ref h0] (fun U => U.heap.size = sz ∧ va_P (dC, dI) classes [(h0, .inr (8, [.ref tp, .int 0, .int 0, .int ft, .int wx, .int wy, .int 0, .ref r_left, .ref r_right, .ref r_told, .ref r_curve, .int 0, .int 0, .int 0, .int 0, .ref r_steps, .int 0, .ref r_stack, .int 0]))] U.heap ∧ va_K (dC, dI) classes [] U ∧ va_D (fun _ => True) [(h0, .inr (8, [.ref tp, .int 0, .int 0, .int ft, .int wx, .int wy, .int 0, .ref r_left, .ref r_right, .ref r_told, .ref r_curve, .int 0, .int 0, .int 0, .int 0, .ref r_steps, .int 0, .ref r_stack, .int 0]))] ∧ nx_K U)) (va_Qi (fun (r : Int32) (_ : Unit) => r = (-1)) (fun _ t => va_P (dC, dI) classes [(h0, .inr (8, [.ref tp, .int 0, .int 0, .int ft, .int wx, .int wy, .int 0, .ref r_left, .ref r_right, .ref r_told, .ref r_curve, .int 0, .int 0, .int 0, .int 0, .ref r_steps, .int 0, .ref r_stack, .int 0]))] t.heap ∧ va_K (dC, dI) classes [] t ∧ va_D (va_A [(h0, .inr (8, [.ref tp, .int 0, .int 0, .int ft, .int wx, .int wy, .int 0, .ref r_left, .ref r_right, .ref r_told, .ref r_curve, .int 0, .int 0, .int 0, .int 0, .ref r_steps, .int 0, .ref r_stack, .int 0]))] sz) [(h0, .inr (8, [.ref tp, .int 0, .int 0, .int ft, .int wx, .int wy, .int 0, .ref r_left, .ref r_right, .ref r_told, .ref r_curve, .int 0, .int 0, .int 0, .int 0, .ref r_steps, .int 0, .ref r_stack, .int 0]))]) (va_A [(h0, .inr (8, [.ref tp, .int 0, .int 0, .int ft, .int wx, .int wy, .int 0, .ref r_left, .ref r_right, .ref r_told, .ref r_curve, .int 0, .int 0, .int 0, .int 0, .ref r_steps, .int 0, .ref r_stack, .int 0]))] sz)) 0 0 (va_A [(h0, .inr (8, [.ref tp, .int 0, .int 0, .int ft, .int wx, .int wy, .int 0, .ref r_left, .ref r_right, .ref r_told, .ref r_curve, .int 0, .int 0, .int 0, .int 0, .ref r_steps, .int 0, .ref r_stack, .int 0]))] sz) := by
  refine Met.ofW (cc := b_Reader_next) (maxL := 1) (ret := (some .int)) (by decide) rfl ?_
  intro p e s m args below meth c s₁ B hml hv
  obtain ⟨rfl, hsz, hP, hK, hD0, hN⟩ := hv
  have hx := B.exec
  have hb := B.bytes
  have hr := B.returns
  have hT : ∀ w ∈ lw_g, w.before _ s = true := fun w h => atoms_spec (ws := w_Reader_next) B.pre w (List.mem_cons_of_mem _ h)
  have hown : s.vm.findClass R_Reader = some m.cls := findClass_of_methodNamed B.named
  have hlocks := B.notSynchronized
  subst hsz
  have hD := hD0.self (sz := s.heap.size)
  generalize hAe : va_A [(h0, .inr (8, [.ref tp, .int 0, .int 0, .int ft, .int wx, .int wy, .int 0, .ref r_left, .ref r_right, .ref r_told, .ref r_curve, .int 0, .int 0, .int 0, .int 0, .ref r_steps, .int 0, .ref r_stack, .int 0]))] s.heap.size = A at hD ⊢
  have hA : ∀ q : Nat, s.heap.size ≤ q → A q := fun q h => by rw [← hAe]; exact Or.inr h
  have hS : va_S A s.heap s.heap [] := va_S.rf
  have hP : va_P (dC, dI) classes [(h0, .inr (8, [.ref tp, .int 0, .int 0, .int ft, .int wx, .int wy, .int 0, .ref r_left, .ref r_right, .ref r_told, .ref r_curve, .int 0, .int 0, .int 0, .int 0, .ref r_steps, .int 0, .ref r_stack, .int 0]))] s.heap := hP
  have hl := lv_entry ([.ref h0]) (n := 1) (Nat.le_of_ble_eq_true rfl)
  rw [lg_entry_eq]
  generalize (lg_sl ([.ref h0]) ++ List.replicate (1 - (lg_sl ([.ref h0])).length) Slot.unset).toArray = ls at hl ⊢
  have hl : lv_has ls 1 [(0, .ref h0)] := hl
  refine lv_aload_n hx hb d_Reader_next_0 rfl (lv_at hl 0 rfl) ?_
  refine va_get (D := (dC, dI)) (ci := 8) (v := .int 0) (C := R_Reader) (T := F_Reader) (N := 19) hx hb hT i_Reader hown hK hP 0 rfl rfl 2 (by decide) (hT _ tw_235) (fun _ h9 => h9) rfl d_Reader_next_1 ?_
  refine lv_aload_n hx hb d_Reader_next_4 rfl (lv_at hl 0 rfl) ?_
  refine va_get (D := (dC, dI)) (ci := 8) (v := .int 0) (C := R_Reader) (T := F_Reader) (N := 19) hx hb hT i_Reader hown hK hP 0 rfl rfl 1 (by decide) (hT _ tw_234) (fun _ h9 => h9) rfl d_Reader_next_5 ?_
  refine lv_icmp_ge (tgt := 23) hx hb d_Reader_next_8 (by decide) (fun c_1 => ?_) (fun c_1 => absurd (by decide) c_1)
  refine lv_iconst (v := (-1)) hx hb d_Reader_next_23 (by decide) ?_
  have hP9 := hP.sub (ws' := [(h0, .inr (8, [.ref tp, .int 0, .int 0, .int ft, .int wx, .int wy, .int 0, .ref r_left, .ref r_right, .ref r_told, .ref r_curve, .int 0, .int 0, .int 0, .int 0, .ref r_steps, .int 0, .ref r_stack, .int 0]))]) [0] rfl
  have hD9 := hD.sub (ws' := [(h0, .inr (8, [.ref tp, .int 0, .int 0, .int ft, .int wx, .int wy, .int 0, .ref r_left, .ref r_right, .ref r_told, .ref r_curve, .int 0, .int 0, .int 0, .int 0, .ref r_steps, .int 0, .ref r_stack, .int 0]))]) [0] (by decide) rfl
  have hK9 := hK.sub (tys' := []) [] rfl
  exact W.iret (v := (-1)) hx hb hr (fun t ht hW => ⟨⟨(-1), (), rfl, rfl, by rw [ht]; exact hP9, va_K.moved hW.alike hK9, hD9⟩, hS.F ht⟩) hS.2.2 d_Reader_next_24

set_option maxHeartbeats 4000000 in
set_option maxRecDepth 100000 in
/-- fail(): the first fault, at 0 -/
theorem c_Reader_fail_0 (l : Launch) (dC : Nat → ClassId) (dI : Nat → Nat → Nat) (sz : Nat) (h0 : Nat) (tp : Nat) (r_left : Nat) (r_right : Nat) (r_told : Nat) (r_curve : Nat) (r_steps : Nat) (r_stack : Nat) (wx : Int32) (wy : Int32)  : Met l y_Reader_fail w_Reader_fail ({ frames := 0, cells := 0, slots := 0, locals := 0 }) (va_Pc [.ref h0] (fun U => U.heap.size = sz ∧ va_P (dC, dI) classes [(h0, .inr (8, [.ref tp, .int 0, .int 0, .int (-1), .int wx, .int wy, .int 0, .ref r_left, .ref r_right, .ref r_told, .ref r_curve, .int 0, .int 0, .int 0, .int 0, .ref r_steps, .int 0, .ref r_stack, .int 0]))] U.heap ∧ va_K (dC, dI) classes [] U ∧ va_D (fun _ => True) [(h0, .inr (8, [.ref tp, .int 0, .int 0, .int (-1), .int wx, .int wy, .int 0, .ref r_left, .ref r_right, .ref r_told, .ref r_curve, .int 0, .int 0, .int 0, .int 0, .ref r_steps, .int 0, .ref r_stack, .int 0]))] ∧ nx_K U)) (va_Qv (fun _ : Unit => True) (fun _ t => va_P (dC, dI) classes [(h0, .inr (8, [.ref tp, .int 0, .int 0, .int 0, .int wx, .int wy, .int 0, .ref r_left, .ref r_right, .ref r_told, .ref r_curve, .int 0, .int 0, .int 0, .int 0, .ref r_steps, .int 0, .ref r_stack, .int 0]))] t.heap ∧ va_K (dC, dI) classes [] t ∧ va_D (va_A [(h0, .inr (8, [.ref tp, .int 0, .int 0, .int (-1), .int wx, .int wy, .int 0, .ref r_left, .ref r_right, .ref r_told, .ref r_curve, .int 0, .int 0, .int 0, .int 0, .ref r_steps, .int 0, .ref r_stack, .int 0]))] sz) [(h0, .inr (8, [.ref tp, .int 0, .int 0, .int 0, .int wx, .int wy, .int 0, .ref r_left, .ref r_right, .ref r_told, .ref r_curve, .int 0, .int 0, .int 0, .int 0, .ref r_steps, .int 0, .ref r_stack, .int 0]))]) (va_A [(h0, .inr (8, [.ref tp, .int 0, .int 0, .int (-1), .int wx, .int wy, .int 0, .ref r_left, .ref r_right, .ref r_told, .ref r_curve, .int 0, .int 0, .int 0, .int 0, .ref r_steps, .int 0, .ref r_stack, .int 0]))] sz)) 0 0 (va_A [(h0, .inr (8, [.ref tp, .int 0, .int 0, .int (-1), .int wx, .int wy, .int 0, .ref r_left, .ref r_right, .ref r_told, .ref r_curve, .int 0, .int 0, .int 0, .int 0, .ref r_steps, .int 0, .ref r_stack, .int 0]))] sz) := by
  refine Met.ofW (cc := b_Reader_fail) (maxL := 1) (ret := none) (by decide) rfl ?_
  intro p e s m args below meth c s₁ B hml hv
  obtain ⟨rfl, hsz, hP, hK, hD0, hN⟩ := hv
  have hx := B.exec
  have hb := B.bytes
  have hr := B.returns
  have hT : ∀ w ∈ lw_g, w.before _ s = true := fun w h => atoms_spec (ws := w_Reader_fail) B.pre w (List.mem_cons_of_mem _ h)
  have hown : s.vm.findClass R_Reader = some m.cls := findClass_of_methodNamed B.named
  have hlocks := B.notSynchronized
  subst hsz
  have hD := hD0.self (sz := s.heap.size)
  generalize hAe : va_A [(h0, .inr (8, [.ref tp, .int 0, .int 0, .int (-1), .int wx, .int wy, .int 0, .ref r_left, .ref r_right, .ref r_told, .ref r_curve, .int 0, .int 0, .int 0, .int 0, .ref r_steps, .int 0, .ref r_stack, .int 0]))] s.heap.size = A at hD ⊢
  have hA : ∀ q : Nat, s.heap.size ≤ q → A q := fun q h => by rw [← hAe]; exact Or.inr h
  have hS : va_S A s.heap s.heap [] := va_S.rf
  have hP : va_P (dC, dI) classes [(h0, .inr (8, [.ref tp, .int 0, .int 0, .int (-1), .int wx, .int wy, .int 0, .ref r_left, .ref r_right, .ref r_told, .ref r_curve, .int 0, .int 0, .int 0, .int 0, .ref r_steps, .int 0, .ref r_stack, .int 0]))] s.heap := hP
  have hl := lv_entry ([.ref h0]) (n := 1) (Nat.le_of_ble_eq_true rfl)
  rw [lg_entry_eq]
  generalize (lg_sl ([.ref h0]) ++ List.replicate (1 - (lg_sl ([.ref h0])).length) Slot.unset).toArray = ls at hl ⊢
  have hl : lv_has ls 1 [(0, .ref h0)] := hl
  refine lv_aload_n hx hb d_Reader_fail_0 rfl (lv_at hl 0 rfl) ?_
  refine va_get (D := (dC, dI)) (ci := 8) (v := .int (-1)) (C := R_Reader) (T := F_Reader) (N := 19) hx hb hT i_Reader hown hK hP 0 rfl rfl 3 (by decide) (hT _ tw_236) (fun _ h9 => h9) rfl d_Reader_fail_1 ?_
  refine lv_if_ge (tgt := 15) hx hb d_Reader_fail_4 (by decide) (fun c_1 => absurd c_1 (by decide)) (fun c_1 => ?_)
  refine lv_aload_n hx hb d_Reader_fail_7 rfl (lv_at hl 0 rfl) ?_
  refine lv_aload_n hx hb d_Reader_fail_8 rfl (lv_at hl 0 rfl) ?_
  refine va_get (D := (dC, dI)) (ci := 8) (v := .int 0) (C := R_Reader) (T := F_Reader) (N := 19) hx hb hT i_Reader hown hK hP 0 rfl rfl 2 (by decide) (hT _ tw_235) (fun _ h9 => h9) rfl d_Reader_fail_9 ?_
  refine va_put (D := (dC, dI)) (ci := 8) (v := .int 0) (ty := .int) (C := R_Reader) (T := F_Reader) (N := 19) hx hb hT i_Reader t_Reader t_Reader_ok n_Reader hown hK hP hD hS 0 rfl rfl 3 (by decide) (hT _ tw_236) (fun _ h9 => h9) rfl (by decide +kernel) rfl rfl (Nat.le_of_ble_eq_true rfl) d_Reader_fail_12 (fun H locs hP hD hS => ?_)
  have hP : va_P (dC, dI) classes [(h0, .inr (8, [.ref tp, .int 0, .int 0, .int 0, .int wx, .int wy, .int 0, .ref r_left, .ref r_right, .ref r_told, .ref r_curve, .int 0, .int 0, .int 0, .int 0, .ref r_steps, .int 0, .ref r_stack, .int 0]))] H := hP
  have hD : va_D A [(h0, .inr (8, [.ref tp, .int 0, .int 0, .int 0, .int wx, .int wy, .int 0, .ref r_left, .ref r_right, .ref r_told, .ref r_curve, .int 0, .int 0, .int 0, .int 0, .ref r_steps, .int 0, .ref r_stack, .int 0]))] := hD
  have hP9 := hP.sub (ws' := [(h0, .inr (8, [.ref tp, .int 0, .int 0, .int 0, .int wx, .int wy, .int 0, .ref r_left, .ref r_right, .ref r_told, .ref r_curve, .int 0, .int 0, .int 0, .int 0, .ref r_steps, .int 0, .ref r_stack, .int 0]))]) [0] rfl
  have hD9 := hD.sub (ws' := [(h0, .inr (8, [.ref tp, .int 0, .int 0, .int 0, .int wx, .int wy, .int 0, .ref r_left, .ref r_right, .ref r_told, .ref r_curve, .int 0, .int 0, .int 0, .int 0, .ref r_steps, .int 0, .ref r_stack, .int 0]))]) [0] (by decide) rfl
  have hK9 := hK.sub (tys' := []) [] rfl
  exact W.vret hx hb hr (fun t ht hW => ⟨⟨(), rfl, trivial, by rw [ht]; exact hP9, va_K.moved hW.alike hK9, hD9⟩, hS.F ht⟩) hS.2.2 d_Reader_fail_15

set_option maxHeartbeats 4000000 in
set_option maxRecDepth 100000 in
/-- expectEnd() at the end -/
theorem c_Reader_expectEnd_0 (l : Launch) (dC : Nat → ClassId) (dI : Nat → Nat → Nat) (sz : Nat) (h0 : Nat) (tp : Nat) (r_left : Nat) (r_right : Nat) (r_told : Nat) (r_curve : Nat) (r_steps : Nat) (r_stack : Nat) (ft : Int32) (wx : Int32) (wy : Int32)  : Met l y_Reader_expectEnd w_Reader_expectEnd ({ frames := 0, cells := 0, slots := 0, locals := 0 }) (va_Pc [.ref h0] (fun U => U.heap.size = sz ∧ va_P (dC, dI) classes [(h0, .inr (8, [.ref tp, .int 0, .int 0, .int ft, .int wx, .int wy, .int 0, .ref r_left, .ref r_right, .ref r_told, .ref r_curve, .int 0, .int 0, .int 0, .int 0, .ref r_steps, .int 0, .ref r_stack, .int 0]))] U.heap ∧ va_K (dC, dI) classes [] U ∧ va_D (fun _ => True) [(h0, .inr (8, [.ref tp, .int 0, .int 0, .int ft, .int wx, .int wy, .int 0, .ref r_left, .ref r_right, .ref r_told, .ref r_curve, .int 0, .int 0, .int 0, .int 0, .ref r_steps, .int 0, .ref r_stack, .int 0]))] ∧ nx_K U)) (va_Qv (fun _ : Unit => True) (fun _ t => va_P (dC, dI) classes [(h0, .inr (8, [.ref tp, .int 0, .int 0, .int ft, .int wx, .int wy, .int 0, .ref r_left, .ref r_right, .ref r_told, .ref r_curve, .int 0, .int 0, .int 0, .int 0, .ref r_steps, .int 0, .ref r_stack, .int 0]))] t.heap ∧ va_K (dC, dI) classes [] t ∧ va_D (va_A [(h0, .inr (8, [.ref tp, .int 0, .int 0, .int ft, .int wx, .int wy, .int 0, .ref r_left, .ref r_right, .ref r_told, .ref r_curve, .int 0, .int 0, .int 0, .int 0, .ref r_steps, .int 0, .ref r_stack, .int 0]))] sz) [(h0, .inr (8, [.ref tp, .int 0, .int 0, .int ft, .int wx, .int wy, .int 0, .ref r_left, .ref r_right, .ref r_told, .ref r_curve, .int 0, .int 0, .int 0, .int 0, .ref r_steps, .int 0, .ref r_stack, .int 0]))]) (va_A [(h0, .inr (8, [.ref tp, .int 0, .int 0, .int ft, .int wx, .int wy, .int 0, .ref r_left, .ref r_right, .ref r_told, .ref r_curve, .int 0, .int 0, .int 0, .int 0, .ref r_steps, .int 0, .ref r_stack, .int 0]))] sz)) 0 0 (va_A [(h0, .inr (8, [.ref tp, .int 0, .int 0, .int ft, .int wx, .int wy, .int 0, .ref r_left, .ref r_right, .ref r_told, .ref r_curve, .int 0, .int 0, .int 0, .int 0, .ref r_steps, .int 0, .ref r_stack, .int 0]))] sz) := by
  refine Met.ofW (cc := b_Reader_expectEnd) (maxL := 1) (ret := none) (by decide) rfl ?_
  intro p e s m args below meth c s₁ B hml hv
  obtain ⟨rfl, hsz, hP, hK, hD0, hN⟩ := hv
  have hx := B.exec
  have hb := B.bytes
  have hr := B.returns
  have hT : ∀ w ∈ lw_g, w.before _ s = true := fun w h => atoms_spec (ws := w_Reader_expectEnd) B.pre w (List.mem_cons_of_mem _ h)
  have hown : s.vm.findClass R_Reader = some m.cls := findClass_of_methodNamed B.named
  have hlocks := B.notSynchronized
  subst hsz
  have hD := hD0.self (sz := s.heap.size)
  generalize hAe : va_A [(h0, .inr (8, [.ref tp, .int 0, .int 0, .int ft, .int wx, .int wy, .int 0, .ref r_left, .ref r_right, .ref r_told, .ref r_curve, .int 0, .int 0, .int 0, .int 0, .ref r_steps, .int 0, .ref r_stack, .int 0]))] s.heap.size = A at hD ⊢
  have hA : ∀ q : Nat, s.heap.size ≤ q → A q := fun q h => by rw [← hAe]; exact Or.inr h
  have hS : va_S A s.heap s.heap [] := va_S.rf
  have hP : va_P (dC, dI) classes [(h0, .inr (8, [.ref tp, .int 0, .int 0, .int ft, .int wx, .int wy, .int 0, .ref r_left, .ref r_right, .ref r_told, .ref r_curve, .int 0, .int 0, .int 0, .int 0, .ref r_steps, .int 0, .ref r_stack, .int 0]))] s.heap := hP
  have hl := lv_entry ([.ref h0]) (n := 1) (Nat.le_of_ble_eq_true rfl)
  rw [lg_entry_eq]
  generalize (lg_sl ([.ref h0]) ++ List.replicate (1 - (lg_sl ([.ref h0])).length) Slot.unset).toArray = ls at hl ⊢
  have hl : lv_has ls 1 [(0, .ref h0)] := hl
  refine lv_aload_n hx hb d_Reader_expectEnd_0 rfl (lv_at hl 0 rfl) ?_
  refine va_get (D := (dC, dI)) (ci := 8) (v := .int 0) (C := R_Reader) (T := F_Reader) (N := 19) hx hb hT i_Reader hown hK hP 0 rfl rfl 2 (by decide) (hT _ tw_235) (fun _ h9 => h9) rfl d_Reader_expectEnd_1 ?_
  refine lv_aload_n hx hb d_Reader_expectEnd_4 rfl (lv_at hl 0 rfl) ?_
  refine va_get (D := (dC, dI)) (ci := 8) (v := .int 0) (C := R_Reader) (T := F_Reader) (N := 19) hx hb hT i_Reader hown hK hP 0 rfl rfl 1 (by decide) (hT _ tw_234) (fun _ h9 => h9) rfl d_Reader_expectEnd_5 ?_
  refine lv_icmp_eq (tgt := 15) hx hb d_Reader_expectEnd_8 (by decide) (fun c_1 => ?_) (fun c_1 => absurd (by decide) c_1)
  have hP9 := hP.sub (ws' := [(h0, .inr (8, [.ref tp, .int 0, .int 0, .int ft, .int wx, .int wy, .int 0, .ref r_left, .ref r_right, .ref r_told, .ref r_curve, .int 0, .int 0, .int 0, .int 0, .ref r_steps, .int 0, .ref r_stack, .int 0]))]) [0] rfl
  have hD9 := hD.sub (ws' := [(h0, .inr (8, [.ref tp, .int 0, .int 0, .int ft, .int wx, .int wy, .int 0, .ref r_left, .ref r_right, .ref r_told, .ref r_curve, .int 0, .int 0, .int 0, .int 0, .ref r_steps, .int 0, .ref r_stack, .int 0]))]) [0] (by decide) rfl
  have hK9 := hK.sub (tys' := []) [] rfl
  exact W.vret hx hb hr (fun t ht hW => ⟨⟨(), rfl, trivial, by rw [ht]; exact hP9, va_K.moved hW.alike hK9, hD9⟩, hS.F ht⟩) hS.2.2 d_Reader_expectEnd_15

set_option maxHeartbeats 4000000 in
set_option maxRecDepth 100000 in
/-- clear() of a curve that is 0 -/
theorem c_Curve_clear_0 (l : Launch) (dC : Nat → ClassId) (dI : Nat → Nat → Nat) (sz : Nat) (r_left : Nat) (x_c : Nat) (cL : ClassId) (fc : Nat → Option Nat) (dk : Nat) (p0 : Nat) (p1 : Nat) (p2 : Nat) (p3 : Nat) (p4 : Nat) (p5 : Nat) (p6 : Nat) (p7 : Nat) (p8 : Nat) (y0 : Nat) (y1 : Nat) (y2 : Nat) (y3 : Nat) (y4 : Nat) (y5 : Nat) (y6 : Nat) (y7 : Nat) (y8 : Nat) (hF : fc 0 = some p0 ∧ fc 1 = some p1 ∧ fc 2 = some p2 ∧ fc 3 = some p3 ∧ fc 4 = some p4 ∧ fc 5 = some p5 ∧ fc 6 = some p6 ∧ fc 7 = some p7 ∧ fc 8 = some p8) : Met l y_Curve_clear w_Curve_clear ({ frames := 0, cells := 0, slots := 0, locals := 0 }) (va_Pc [.ref r_left] (fun U => U.heap.size = sz ∧ va_P (dC, dI) classes [(r_left, .inr (2, [.ref x_c])), (x_c, .inl (cL, 9, .inr (.inr (.inr (.inr fc))))), (p0, .inr (6, [.ref dk, .ref y0, .int 0])), (p1, .inr (6, [.ref dk, .ref y1, .int 0])), (p2, .inr (6, [.ref dk, .ref y2, .int 0])), (p3, .inr (6, [.ref dk, .ref y3, .int 0])), (p4, .inr (6, [.ref dk, .ref y4, .int 0])), (p5, .inr (6, [.ref dk, .ref y5, .int 0])), (p6, .inr (6, [.ref dk, .ref y6, .int 0])), (p7, .inr (6, [.ref dk, .ref y7, .int 0])), (p8, .inr (6, [.ref dk, .ref y8, .int 0]))] U.heap ∧ va_K (dC, dI) classes [(cL, .object "RealHouse$Poly")] U ∧ va_D (fun _ => True) [(r_left, .inr (2, [.ref x_c])), (x_c, .inl (cL, 9, .inr (.inr (.inr (.inr fc))))), (p0, .inr (6, [.ref dk, .ref y0, .int 0])), (p1, .inr (6, [.ref dk, .ref y1, .int 0])), (p2, .inr (6, [.ref dk, .ref y2, .int 0])), (p3, .inr (6, [.ref dk, .ref y3, .int 0])), (p4, .inr (6, [.ref dk, .ref y4, .int 0])), (p5, .inr (6, [.ref dk, .ref y5, .int 0])), (p6, .inr (6, [.ref dk, .ref y6, .int 0])), (p7, .inr (6, [.ref dk, .ref y7, .int 0])), (p8, .inr (6, [.ref dk, .ref y8, .int 0]))] ∧ nx_K U)) (va_Qv (fun _ : Unit => True) (fun _ t => va_P (dC, dI) classes [(r_left, .inr (2, [.ref x_c])), (x_c, .inl (cL, 9, .inr (.inr (.inr (.inr fc))))), (p0, .inr (6, [.ref dk, .ref y0, .int 0])), (p1, .inr (6, [.ref dk, .ref y1, .int 0])), (p2, .inr (6, [.ref dk, .ref y2, .int 0])), (p3, .inr (6, [.ref dk, .ref y3, .int 0])), (p4, .inr (6, [.ref dk, .ref y4, .int 0])), (p5, .inr (6, [.ref dk, .ref y5, .int 0])), (p6, .inr (6, [.ref dk, .ref y6, .int 0])), (p7, .inr (6, [.ref dk, .ref y7, .int 0])), (p8, .inr (6, [.ref dk, .ref y8, .int 0]))] t.heap ∧ va_K (dC, dI) classes [(cL, .object "RealHouse$Poly")] t ∧ va_D (va_A [(r_left, .inr (2, [.ref x_c])), (x_c, .inl (cL, 9, .inr (.inr (.inr (.inr fc))))), (p0, .inr (6, [.ref dk, .ref y0, .int 0])), (p1, .inr (6, [.ref dk, .ref y1, .int 0])), (p2, .inr (6, [.ref dk, .ref y2, .int 0])), (p3, .inr (6, [.ref dk, .ref y3, .int 0])), (p4, .inr (6, [.ref dk, .ref y4, .int 0])), (p5, .inr (6, [.ref dk, .ref y5, .int 0])), (p6, .inr (6, [.ref dk, .ref y6, .int 0])), (p7, .inr (6, [.ref dk, .ref y7, .int 0])), (p8, .inr (6, [.ref dk, .ref y8, .int 0]))] sz) [(r_left, .inr (2, [.ref x_c])), (x_c, .inl (cL, 9, .inr (.inr (.inr (.inr fc))))), (p0, .inr (6, [.ref dk, .ref y0, .int 0])), (p1, .inr (6, [.ref dk, .ref y1, .int 0])), (p2, .inr (6, [.ref dk, .ref y2, .int 0])), (p3, .inr (6, [.ref dk, .ref y3, .int 0])), (p4, .inr (6, [.ref dk, .ref y4, .int 0])), (p5, .inr (6, [.ref dk, .ref y5, .int 0])), (p6, .inr (6, [.ref dk, .ref y6, .int 0])), (p7, .inr (6, [.ref dk, .ref y7, .int 0])), (p8, .inr (6, [.ref dk, .ref y8, .int 0]))]) (va_A [(r_left, .inr (2, [.ref x_c])), (x_c, .inl (cL, 9, .inr (.inr (.inr (.inr fc))))), (p0, .inr (6, [.ref dk, .ref y0, .int 0])), (p1, .inr (6, [.ref dk, .ref y1, .int 0])), (p2, .inr (6, [.ref dk, .ref y2, .int 0])), (p3, .inr (6, [.ref dk, .ref y3, .int 0])), (p4, .inr (6, [.ref dk, .ref y4, .int 0])), (p5, .inr (6, [.ref dk, .ref y5, .int 0])), (p6, .inr (6, [.ref dk, .ref y6, .int 0])), (p7, .inr (6, [.ref dk, .ref y7, .int 0])), (p8, .inr (6, [.ref dk, .ref y8, .int 0]))] sz)) 0 0 (va_A [(r_left, .inr (2, [.ref x_c])), (x_c, .inl (cL, 9, .inr (.inr (.inr (.inr fc))))), (p0, .inr (6, [.ref dk, .ref y0, .int 0])), (p1, .inr (6, [.ref dk, .ref y1, .int 0])), (p2, .inr (6, [.ref dk, .ref y2, .int 0])), (p3, .inr (6, [.ref dk, .ref y3, .int 0])), (p4, .inr (6, [.ref dk, .ref y4, .int 0])), (p5, .inr (6, [.ref dk, .ref y5, .int 0])), (p6, .inr (6, [.ref dk, .ref y6, .int 0])), (p7, .inr (6, [.ref dk, .ref y7, .int 0])), (p8, .inr (6, [.ref dk, .ref y8, .int 0]))] sz) := by
  refine Met.ofW (cc := b_Curve_clear) (maxL := 2) (ret := none) (by decide) rfl ?_
  intro p e s m args below meth c s₁ B hml hv
  obtain ⟨rfl, hsz, hP, hK, hD0, hN⟩ := hv
  have hx := B.exec
  have hb := B.bytes
  have hr := B.returns
  have hT : ∀ w ∈ lw_g, w.before _ s = true := fun w h => atoms_spec (ws := w_Curve_clear) B.pre w (List.mem_cons_of_mem _ h)
  have hown : s.vm.findClass R_Curve = some m.cls := findClass_of_methodNamed B.named
  have hlocks := B.notSynchronized
  subst hsz
  have hD := hD0.self (sz := s.heap.size)
  generalize hAe : va_A [(r_left, .inr (2, [.ref x_c])), (x_c, .inl (cL, 9, .inr (.inr (.inr (.inr fc))))), (p0, .inr (6, [.ref dk, .ref y0, .int 0])), (p1, .inr (6, [.ref dk, .ref y1, .int 0])), (p2, .inr (6, [.ref dk, .ref y2, .int 0])), (p3, .inr (6, [.ref dk, .ref y3, .int 0])), (p4, .inr (6, [.ref dk, .ref y4, .int 0])), (p5, .inr (6, [.ref dk, .ref y5, .int 0])), (p6, .inr (6, [.ref dk, .ref y6, .int 0])), (p7, .inr (6, [.ref dk, .ref y7, .int 0])), (p8, .inr (6, [.ref dk, .ref y8, .int 0]))] s.heap.size = A at hD ⊢
  have hA : ∀ q : Nat, s.heap.size ≤ q → A q := fun q h => by rw [← hAe]; exact Or.inr h
  have hS : va_S A s.heap s.heap [] := va_S.rf
  have hP : va_P (dC, dI) classes [(r_left, .inr (2, [.ref x_c])), (x_c, .inl (cL, 9, .inr (.inr (.inr (.inr fc))))), (p0, .inr (6, [.ref dk, .ref y0, .int 0])), (p1, .inr (6, [.ref dk, .ref y1, .int 0])), (p2, .inr (6, [.ref dk, .ref y2, .int 0])), (p3, .inr (6, [.ref dk, .ref y3, .int 0])), (p4, .inr (6, [.ref dk, .ref y4, .int 0])), (p5, .inr (6, [.ref dk, .ref y5, .int 0])), (p6, .inr (6, [.ref dk, .ref y6, .int 0])), (p7, .inr (6, [.ref dk, .ref y7, .int 0])), (p8, .inr (6, [.ref dk, .ref y8, .int 0]))] s.heap := hP
  have hl := lv_entry ([.ref r_left]) (n := 2) (Nat.le_of_ble_eq_true rfl)
  rw [lg_entry_eq]
  generalize (lg_sl ([.ref r_left]) ++ List.replicate (2 - (lg_sl ([.ref r_left])).length) Slot.unset).toArray = ls at hl ⊢
  have hl : lv_has ls 2 [(0, .ref r_left)] := hl
  refine lv_iconst (v := 0) hx hb d_Curve_clear_0 (by decide) ?_
  refine lv_istore_n (lv' := [(1, .int 0), (0, .ref r_left)]) hx hb d_Curve_clear_1 rfl hl (by decide) rfl (fun ls hl => ?_)
  refine lv_iload_n hx hb d_Curve_clear_2 rfl (lv_at hl 0 rfl) ?_
  refine lv_aload_n hx hb d_Curve_clear_3 rfl (lv_at hl 1 rfl) ?_
  refine va_get (D := (dC, dI)) (ci := 2) (v := .ref x_c) (C := R_Curve) (T := F_Curve) (N := 1) hx hb hT i_Curve hown hK hP 0 rfl rfl 0 (by decide) (hT _ tw_224) (fun _ h9 => h9) rfl d_Curve_clear_4 ?_
  refine va_alen (v := 9) hx hb hK hP 1 0 rfl rfl rfl d_Curve_clear_7 ?_
  refine lv_icmp_ge (tgt := 27) hx hb d_Curve_clear_8 (by decide) (fun c_1 => absurd c_1 (by decide)) (fun c_1 => ?_)
  refine lv_aload_n hx hb d_Curve_clear_11 rfl (lv_at hl 1 rfl) ?_
  refine va_get (D := (dC, dI)) (ci := 2) (v := .ref x_c) (C := R_Curve) (T := F_Curve) (N := 1) hx hb hT i_Curve hown hK hP 0 rfl rfl 0 (by decide) (hT _ tw_224) (fun _ h9 => h9) rfl d_Curve_clear_12 ?_
  refine lv_iload_n hx hb d_Curve_clear_15 rfl (lv_at hl 0 rfl) ?_
  refine va_aldq hx hb hK hP 1 0 rfl rfl (vp_in_nI (n := 0) (by decide) (by decide)) d_Curve_clear_16 ?_
  refine W.eq (g2 := F0 m 17 ls [.ref p0]) (by rw [show fc ((0 : Int32).toNatClampNeg) = some p0 from hF.1]; rfl) ?_
  refine lv_iconst (v := 0) hx hb d_Curve_clear_17 (by decide) ?_
  refine va_put (D := (dC, dI)) (ci := 6) (v := .int 0) (ty := .int) (C := R_Poly) (T := F_Poly) (N := 3) hx hb hT i_Poly t_Poly t_Poly_ok n_Poly hown hK hP hD hS 2 rfl rfl 2 (by decide) (hT _ tw_208) (fun _ h9 => h9) rfl (by decide +kernel) rfl rfl (Nat.le_of_ble_eq_true rfl) d_Curve_clear_18 (fun H locs hP hD hS => ?_)
  have hP : va_P (dC, dI) classes [(r_left, .inr (2, [.ref x_c])), (x_c, .inl (cL, 9, .inr (.inr (.inr (.inr fc))))), (p0, .inr (6, [.ref dk, .ref y0, .int 0])), (p1, .inr (6, [.ref dk, .ref y1, .int 0])), (p2, .inr (6, [.ref dk, .ref y2, .int 0])), (p3, .inr (6, [.ref dk, .ref y3, .int 0])), (p4, .inr (6, [.ref dk, .ref y4, .int 0])), (p5, .inr (6, [.ref dk, .ref y5, .int 0])), (p6, .inr (6, [.ref dk, .ref y6, .int 0])), (p7, .inr (6, [.ref dk, .ref y7, .int 0])), (p8, .inr (6, [.ref dk, .ref y8, .int 0]))] H := hP
  have hD : va_D A [(r_left, .inr (2, [.ref x_c])), (x_c, .inl (cL, 9, .inr (.inr (.inr (.inr fc))))), (p0, .inr (6, [.ref dk, .ref y0, .int 0])), (p1, .inr (6, [.ref dk, .ref y1, .int 0])), (p2, .inr (6, [.ref dk, .ref y2, .int 0])), (p3, .inr (6, [.ref dk, .ref y3, .int 0])), (p4, .inr (6, [.ref dk, .ref y4, .int 0])), (p5, .inr (6, [.ref dk, .ref y5, .int 0])), (p6, .inr (6, [.ref dk, .ref y6, .int 0])), (p7, .inr (6, [.ref dk, .ref y7, .int 0])), (p8, .inr (6, [.ref dk, .ref y8, .int 0]))] := hD
  refine lv_iinc (v := 1) (lv' := [(1, .int 1), (0, .ref r_left)]) hx hb d_Curve_clear_21 hl (k := 0) rfl (by decide) (by decide) rfl (fun ls hl => ?_)
  refine lv_goto (tgt := 2) hx hb d_Curve_clear_24 (by decide) ?_
  refine lv_iload_n hx hb d_Curve_clear_2 rfl (lv_at hl 0 rfl) ?_
  refine lv_aload_n hx hb d_Curve_clear_3 rfl (lv_at hl 1 rfl) ?_
  refine va_get (D := (dC, dI)) (ci := 2) (v := .ref x_c) (C := R_Curve) (T := F_Curve) (N := 1) hx hb hT i_Curve hown hK hP 0 rfl rfl 0 (by decide) (hT _ tw_224) (fun _ h9 => h9) rfl d_Curve_clear_4 ?_
  refine va_alen (v := 9) hx hb hK hP 1 0 rfl rfl rfl d_Curve_clear_7 ?_
  refine lv_icmp_ge (tgt := 27) hx hb d_Curve_clear_8 (by decide) (fun c_2 => absurd c_2 (by decide)) (fun c_2 => ?_)
  refine lv_aload_n hx hb d_Curve_clear_11 rfl (lv_at hl 1 rfl) ?_
  refine va_get (D := (dC, dI)) (ci := 2) (v := .ref x_c) (C := R_Curve) (T := F_Curve) (N := 1) hx hb hT i_Curve hown hK hP 0 rfl rfl 0 (by decide) (hT _ tw_224) (fun _ h9 => h9) rfl d_Curve_clear_12 ?_
  refine lv_iload_n hx hb d_Curve_clear_15 rfl (lv_at hl 0 rfl) ?_
  refine va_aldq hx hb hK hP 1 0 rfl rfl (vp_in_nI (n := 1) (by decide) (by decide)) d_Curve_clear_16 ?_
  refine W.eq (g2 := F0 m 17 ls [.ref p1]) (by rw [show fc ((1 : Int32).toNatClampNeg) = some p1 from hF.2.1]; rfl) ?_
  refine lv_iconst (v := 0) hx hb d_Curve_clear_17 (by decide) ?_
  refine va_put (D := (dC, dI)) (ci := 6) (v := .int 0) (ty := .int) (C := R_Poly) (T := F_Poly) (N := 3) hx hb hT i_Poly t_Poly t_Poly_ok n_Poly hown hK hP hD hS 3 rfl rfl 2 (by decide) (hT _ tw_208) (fun _ h9 => h9) rfl (by decide +kernel) rfl rfl (Nat.le_of_ble_eq_true rfl) d_Curve_clear_18 (fun H locs hP hD hS => ?_)
  have hP : va_P (dC, dI) classes [(r_left, .inr (2, [.ref x_c])), (x_c, .inl (cL, 9, .inr (.inr (.inr (.inr fc))))), (p0, .inr (6, [.ref dk, .ref y0, .int 0])), (p1, .inr (6, [.ref dk, .ref y1, .int 0])), (p2, .inr (6, [.ref dk, .ref y2, .int 0])), (p3, .inr (6, [.ref dk, .ref y3, .int 0])), (p4, .inr (6, [.ref dk, .ref y4, .int 0])), (p5, .inr (6, [.ref dk, .ref y5, .int 0])), (p6, .inr (6, [.ref dk, .ref y6, .int 0])), (p7, .inr (6, [.ref dk, .ref y7, .int 0])), (p8, .inr (6, [.ref dk, .ref y8, .int 0]))] H := hP
  have hD : va_D A [(r_left, .inr (2, [.ref x_c])), (x_c, .inl (cL, 9, .inr (.inr (.inr (.inr fc))))), (p0, .inr (6, [.ref dk, .ref y0, .int 0])), (p1, .inr (6, [.ref dk, .ref y1, .int 0])), (p2, .inr (6, [.ref dk, .ref y2, .int 0])), (p3, .inr (6, [.ref dk, .ref y3, .int 0])), (p4, .inr (6, [.ref dk, .ref y4, .int 0])), (p5, .inr (6, [.ref dk, .ref y5, .int 0])), (p6, .inr (6, [.ref dk, .ref y6, .int 0])), (p7, .inr (6, [.ref dk, .ref y7, .int 0])), (p8, .inr (6, [.ref dk, .ref y8, .int 0]))] := hD
  refine lv_iinc (v := 2) (lv' := [(1, .int 2), (0, .ref r_left)]) hx hb d_Curve_clear_21 hl (k := 0) rfl (by decide) (by decide) rfl (fun ls hl => ?_)
  refine lv_goto (tgt := 2) hx hb d_Curve_clear_24 (by decide) ?_
  refine lv_iload_n hx hb d_Curve_clear_2 rfl (lv_at hl 0 rfl) ?_
  refine lv_aload_n hx hb d_Curve_clear_3 rfl (lv_at hl 1 rfl) ?_
  refine va_get (D := (dC, dI)) (ci := 2) (v := .ref x_c) (C := R_Curve) (T := F_Curve) (N := 1) hx hb hT i_Curve hown hK hP 0 rfl rfl 0 (by decide) (hT _ tw_224) (fun _ h9 => h9) rfl d_Curve_clear_4 ?_
  refine va_alen (v := 9) hx hb hK hP 1 0 rfl rfl rfl d_Curve_clear_7 ?_
  refine lv_icmp_ge (tgt := 27) hx hb d_Curve_clear_8 (by decide) (fun c_3 => absurd c_3 (by decide)) (fun c_3 => ?_)
  refine lv_aload_n hx hb d_Curve_clear_11 rfl (lv_at hl 1 rfl) ?_
  refine va_get (D := (dC, dI)) (ci := 2) (v := .ref x_c) (C := R_Curve) (T := F_Curve) (N := 1) hx hb hT i_Curve hown hK hP 0 rfl rfl 0 (by decide) (hT _ tw_224) (fun _ h9 => h9) rfl d_Curve_clear_12 ?_
  refine lv_iload_n hx hb d_Curve_clear_15 rfl (lv_at hl 0 rfl) ?_
  refine va_aldq hx hb hK hP 1 0 rfl rfl (vp_in_nI (n := 2) (by decide) (by decide)) d_Curve_clear_16 ?_
  refine W.eq (g2 := F0 m 17 ls [.ref p2]) (by rw [show fc ((2 : Int32).toNatClampNeg) = some p2 from hF.2.2.1]; rfl) ?_
  refine lv_iconst (v := 0) hx hb d_Curve_clear_17 (by decide) ?_
  refine va_put (D := (dC, dI)) (ci := 6) (v := .int 0) (ty := .int) (C := R_Poly) (T := F_Poly) (N := 3) hx hb hT i_Poly t_Poly t_Poly_ok n_Poly hown hK hP hD hS 4 rfl rfl 2 (by decide) (hT _ tw_208) (fun _ h9 => h9) rfl (by decide +kernel) rfl rfl (Nat.le_of_ble_eq_true rfl) d_Curve_clear_18 (fun H locs hP hD hS => ?_)
  have hP : va_P (dC, dI) classes [(r_left, .inr (2, [.ref x_c])), (x_c, .inl (cL, 9, .inr (.inr (.inr (.inr fc))))), (p0, .inr (6, [.ref dk, .ref y0, .int 0])), (p1, .inr (6, [.ref dk, .ref y1, .int 0])), (p2, .inr (6, [.ref dk, .ref y2, .int 0])), (p3, .inr (6, [.ref dk, .ref y3, .int 0])), (p4, .inr (6, [.ref dk, .ref y4, .int 0])), (p5, .inr (6, [.ref dk, .ref y5, .int 0])), (p6, .inr (6, [.ref dk, .ref y6, .int 0])), (p7, .inr (6, [.ref dk, .ref y7, .int 0])), (p8, .inr (6, [.ref dk, .ref y8, .int 0]))] H := hP
  have hD : va_D A [(r_left, .inr (2, [.ref x_c])), (x_c, .inl (cL, 9, .inr (.inr (.inr (.inr fc))))), (p0, .inr (6, [.ref dk, .ref y0, .int 0])), (p1, .inr (6, [.ref dk, .ref y1, .int 0])), (p2, .inr (6, [.ref dk, .ref y2, .int 0])), (p3, .inr (6, [.ref dk, .ref y3, .int 0])), (p4, .inr (6, [.ref dk, .ref y4, .int 0])), (p5, .inr (6, [.ref dk, .ref y5, .int 0])), (p6, .inr (6, [.ref dk, .ref y6, .int 0])), (p7, .inr (6, [.ref dk, .ref y7, .int 0])), (p8, .inr (6, [.ref dk, .ref y8, .int 0]))] := hD
  refine lv_iinc (v := 3) (lv' := [(1, .int 3), (0, .ref r_left)]) hx hb d_Curve_clear_21 hl (k := 0) rfl (by decide) (by decide) rfl (fun ls hl => ?_)
  refine lv_goto (tgt := 2) hx hb d_Curve_clear_24 (by decide) ?_
  refine lv_iload_n hx hb d_Curve_clear_2 rfl (lv_at hl 0 rfl) ?_
  refine lv_aload_n hx hb d_Curve_clear_3 rfl (lv_at hl 1 rfl) ?_
  refine va_get (D := (dC, dI)) (ci := 2) (v := .ref x_c) (C := R_Curve) (T := F_Curve) (N := 1) hx hb hT i_Curve hown hK hP 0 rfl rfl 0 (by decide) (hT _ tw_224) (fun _ h9 => h9) rfl d_Curve_clear_4 ?_
  refine va_alen (v := 9) hx hb hK hP 1 0 rfl rfl rfl d_Curve_clear_7 ?_
  refine lv_icmp_ge (tgt := 27) hx hb d_Curve_clear_8 (by decide) (fun c_4 => absurd c_4 (by decide)) (fun c_4 => ?_)
  refine lv_aload_n hx hb d_Curve_clear_11 rfl (lv_at hl 1 rfl) ?_
  refine va_get (D := (dC, dI)) (ci := 2) (v := .ref x_c) (C := R_Curve) (T := F_Curve) (N := 1) hx hb hT i_Curve hown hK hP 0 rfl rfl 0 (by decide) (hT _ tw_224) (fun _ h9 => h9) rfl d_Curve_clear_12 ?_
  refine lv_iload_n hx hb d_Curve_clear_15 rfl (lv_at hl 0 rfl) ?_
  refine va_aldq hx hb hK hP 1 0 rfl rfl (vp_in_nI (n := 3) (by decide) (by decide)) d_Curve_clear_16 ?_
  refine W.eq (g2 := F0 m 17 ls [.ref p3]) (by rw [show fc ((3 : Int32).toNatClampNeg) = some p3 from hF.2.2.2.1]; rfl) ?_
  refine lv_iconst (v := 0) hx hb d_Curve_clear_17 (by decide) ?_
  refine va_put (D := (dC, dI)) (ci := 6) (v := .int 0) (ty := .int) (C := R_Poly) (T := F_Poly) (N := 3) hx hb hT i_Poly t_Poly t_Poly_ok n_Poly hown hK hP hD hS 5 rfl rfl 2 (by decide) (hT _ tw_208) (fun _ h9 => h9) rfl (by decide +kernel) rfl rfl (Nat.le_of_ble_eq_true rfl) d_Curve_clear_18 (fun H locs hP hD hS => ?_)
  have hP : va_P (dC, dI) classes [(r_left, .inr (2, [.ref x_c])), (x_c, .inl (cL, 9, .inr (.inr (.inr (.inr fc))))), (p0, .inr (6, [.ref dk, .ref y0, .int 0])), (p1, .inr (6, [.ref dk, .ref y1, .int 0])), (p2, .inr (6, [.ref dk, .ref y2, .int 0])), (p3, .inr (6, [.ref dk, .ref y3, .int 0])), (p4, .inr (6, [.ref dk, .ref y4, .int 0])), (p5, .inr (6, [.ref dk, .ref y5, .int 0])), (p6, .inr (6, [.ref dk, .ref y6, .int 0])), (p7, .inr (6, [.ref dk, .ref y7, .int 0])), (p8, .inr (6, [.ref dk, .ref y8, .int 0]))] H := hP
  have hD : va_D A [(r_left, .inr (2, [.ref x_c])), (x_c, .inl (cL, 9, .inr (.inr (.inr (.inr fc))))), (p0, .inr (6, [.ref dk, .ref y0, .int 0])), (p1, .inr (6, [.ref dk, .ref y1, .int 0])), (p2, .inr (6, [.ref dk, .ref y2, .int 0])), (p3, .inr (6, [.ref dk, .ref y3, .int 0])), (p4, .inr (6, [.ref dk, .ref y4, .int 0])), (p5, .inr (6, [.ref dk, .ref y5, .int 0])), (p6, .inr (6, [.ref dk, .ref y6, .int 0])), (p7, .inr (6, [.ref dk, .ref y7, .int 0])), (p8, .inr (6, [.ref dk, .ref y8, .int 0]))] := hD
  refine lv_iinc (v := 4) (lv' := [(1, .int 4), (0, .ref r_left)]) hx hb d_Curve_clear_21 hl (k := 0) rfl (by decide) (by decide) rfl (fun ls hl => ?_)
  refine lv_goto (tgt := 2) hx hb d_Curve_clear_24 (by decide) ?_
  refine lv_iload_n hx hb d_Curve_clear_2 rfl (lv_at hl 0 rfl) ?_
  refine lv_aload_n hx hb d_Curve_clear_3 rfl (lv_at hl 1 rfl) ?_
  refine va_get (D := (dC, dI)) (ci := 2) (v := .ref x_c) (C := R_Curve) (T := F_Curve) (N := 1) hx hb hT i_Curve hown hK hP 0 rfl rfl 0 (by decide) (hT _ tw_224) (fun _ h9 => h9) rfl d_Curve_clear_4 ?_
  refine va_alen (v := 9) hx hb hK hP 1 0 rfl rfl rfl d_Curve_clear_7 ?_
  refine lv_icmp_ge (tgt := 27) hx hb d_Curve_clear_8 (by decide) (fun c_5 => absurd c_5 (by decide)) (fun c_5 => ?_)
  refine lv_aload_n hx hb d_Curve_clear_11 rfl (lv_at hl 1 rfl) ?_
  refine va_get (D := (dC, dI)) (ci := 2) (v := .ref x_c) (C := R_Curve) (T := F_Curve) (N := 1) hx hb hT i_Curve hown hK hP 0 rfl rfl 0 (by decide) (hT _ tw_224) (fun _ h9 => h9) rfl d_Curve_clear_12 ?_
  refine lv_iload_n hx hb d_Curve_clear_15 rfl (lv_at hl 0 rfl) ?_
  refine va_aldq hx hb hK hP 1 0 rfl rfl (vp_in_nI (n := 4) (by decide) (by decide)) d_Curve_clear_16 ?_
  refine W.eq (g2 := F0 m 17 ls [.ref p4]) (by rw [show fc ((4 : Int32).toNatClampNeg) = some p4 from hF.2.2.2.2.1]; rfl) ?_
  refine lv_iconst (v := 0) hx hb d_Curve_clear_17 (by decide) ?_
  refine va_put (D := (dC, dI)) (ci := 6) (v := .int 0) (ty := .int) (C := R_Poly) (T := F_Poly) (N := 3) hx hb hT i_Poly t_Poly t_Poly_ok n_Poly hown hK hP hD hS 6 rfl rfl 2 (by decide) (hT _ tw_208) (fun _ h9 => h9) rfl (by decide +kernel) rfl rfl (Nat.le_of_ble_eq_true rfl) d_Curve_clear_18 (fun H locs hP hD hS => ?_)
  have hP : va_P (dC, dI) classes [(r_left, .inr (2, [.ref x_c])), (x_c, .inl (cL, 9, .inr (.inr (.inr (.inr fc))))), (p0, .inr (6, [.ref dk, .ref y0, .int 0])), (p1, .inr (6, [.ref dk, .ref y1, .int 0])), (p2, .inr (6, [.ref dk, .ref y2, .int 0])), (p3, .inr (6, [.ref dk, .ref y3, .int 0])), (p4, .inr (6, [.ref dk, .ref y4, .int 0])), (p5, .inr (6, [.ref dk, .ref y5, .int 0])), (p6, .inr (6, [.ref dk, .ref y6, .int 0])), (p7, .inr (6, [.ref dk, .ref y7, .int 0])), (p8, .inr (6, [.ref dk, .ref y8, .int 0]))] H := hP
  have hD : va_D A [(r_left, .inr (2, [.ref x_c])), (x_c, .inl (cL, 9, .inr (.inr (.inr (.inr fc))))), (p0, .inr (6, [.ref dk, .ref y0, .int 0])), (p1, .inr (6, [.ref dk, .ref y1, .int 0])), (p2, .inr (6, [.ref dk, .ref y2, .int 0])), (p3, .inr (6, [.ref dk, .ref y3, .int 0])), (p4, .inr (6, [.ref dk, .ref y4, .int 0])), (p5, .inr (6, [.ref dk, .ref y5, .int 0])), (p6, .inr (6, [.ref dk, .ref y6, .int 0])), (p7, .inr (6, [.ref dk, .ref y7, .int 0])), (p8, .inr (6, [.ref dk, .ref y8, .int 0]))] := hD
  refine lv_iinc (v := 5) (lv' := [(1, .int 5), (0, .ref r_left)]) hx hb d_Curve_clear_21 hl (k := 0) rfl (by decide) (by decide) rfl (fun ls hl => ?_)
  refine lv_goto (tgt := 2) hx hb d_Curve_clear_24 (by decide) ?_
  refine lv_iload_n hx hb d_Curve_clear_2 rfl (lv_at hl 0 rfl) ?_
  refine lv_aload_n hx hb d_Curve_clear_3 rfl (lv_at hl 1 rfl) ?_
  refine va_get (D := (dC, dI)) (ci := 2) (v := .ref x_c) (C := R_Curve) (T := F_Curve) (N := 1) hx hb hT i_Curve hown hK hP 0 rfl rfl 0 (by decide) (hT _ tw_224) (fun _ h9 => h9) rfl d_Curve_clear_4 ?_
  refine va_alen (v := 9) hx hb hK hP 1 0 rfl rfl rfl d_Curve_clear_7 ?_
  refine lv_icmp_ge (tgt := 27) hx hb d_Curve_clear_8 (by decide) (fun c_6 => absurd c_6 (by decide)) (fun c_6 => ?_)
  refine lv_aload_n hx hb d_Curve_clear_11 rfl (lv_at hl 1 rfl) ?_
  refine va_get (D := (dC, dI)) (ci := 2) (v := .ref x_c) (C := R_Curve) (T := F_Curve) (N := 1) hx hb hT i_Curve hown hK hP 0 rfl rfl 0 (by decide) (hT _ tw_224) (fun _ h9 => h9) rfl d_Curve_clear_12 ?_
  refine lv_iload_n hx hb d_Curve_clear_15 rfl (lv_at hl 0 rfl) ?_
  refine va_aldq hx hb hK hP 1 0 rfl rfl (vp_in_nI (n := 5) (by decide) (by decide)) d_Curve_clear_16 ?_
  refine W.eq (g2 := F0 m 17 ls [.ref p5]) (by rw [show fc ((5 : Int32).toNatClampNeg) = some p5 from hF.2.2.2.2.2.1]; rfl) ?_
  refine lv_iconst (v := 0) hx hb d_Curve_clear_17 (by decide) ?_
  refine va_put (D := (dC, dI)) (ci := 6) (v := .int 0) (ty := .int) (C := R_Poly) (T := F_Poly) (N := 3) hx hb hT i_Poly t_Poly t_Poly_ok n_Poly hown hK hP hD hS 7 rfl rfl 2 (by decide) (hT _ tw_208) (fun _ h9 => h9) rfl (by decide +kernel) rfl rfl (Nat.le_of_ble_eq_true rfl) d_Curve_clear_18 (fun H locs hP hD hS => ?_)
  have hP : va_P (dC, dI) classes [(r_left, .inr (2, [.ref x_c])), (x_c, .inl (cL, 9, .inr (.inr (.inr (.inr fc))))), (p0, .inr (6, [.ref dk, .ref y0, .int 0])), (p1, .inr (6, [.ref dk, .ref y1, .int 0])), (p2, .inr (6, [.ref dk, .ref y2, .int 0])), (p3, .inr (6, [.ref dk, .ref y3, .int 0])), (p4, .inr (6, [.ref dk, .ref y4, .int 0])), (p5, .inr (6, [.ref dk, .ref y5, .int 0])), (p6, .inr (6, [.ref dk, .ref y6, .int 0])), (p7, .inr (6, [.ref dk, .ref y7, .int 0])), (p8, .inr (6, [.ref dk, .ref y8, .int 0]))] H := hP
  have hD : va_D A [(r_left, .inr (2, [.ref x_c])), (x_c, .inl (cL, 9, .inr (.inr (.inr (.inr fc))))), (p0, .inr (6, [.ref dk, .ref y0, .int 0])), (p1, .inr (6, [.ref dk, .ref y1, .int 0])), (p2, .inr (6, [.ref dk, .ref y2, .int 0])), (p3, .inr (6, [.ref dk, .ref y3, .int 0])), (p4, .inr (6, [.ref dk, .ref y4, .int 0])), (p5, .inr (6, [.ref dk, .ref y5, .int 0])), (p6, .inr (6, [.ref dk, .ref y6, .int 0])), (p7, .inr (6, [.ref dk, .ref y7, .int 0])), (p8, .inr (6, [.ref dk, .ref y8, .int 0]))] := hD
  refine lv_iinc (v := 6) (lv' := [(1, .int 6), (0, .ref r_left)]) hx hb d_Curve_clear_21 hl (k := 0) rfl (by decide) (by decide) rfl (fun ls hl => ?_)
  refine lv_goto (tgt := 2) hx hb d_Curve_clear_24 (by decide) ?_
  refine lv_iload_n hx hb d_Curve_clear_2 rfl (lv_at hl 0 rfl) ?_
  refine lv_aload_n hx hb d_Curve_clear_3 rfl (lv_at hl 1 rfl) ?_
  refine va_get (D := (dC, dI)) (ci := 2) (v := .ref x_c) (C := R_Curve) (T := F_Curve) (N := 1) hx hb hT i_Curve hown hK hP 0 rfl rfl 0 (by decide) (hT _ tw_224) (fun _ h9 => h9) rfl d_Curve_clear_4 ?_
  refine va_alen (v := 9) hx hb hK hP 1 0 rfl rfl rfl d_Curve_clear_7 ?_
  refine lv_icmp_ge (tgt := 27) hx hb d_Curve_clear_8 (by decide) (fun c_7 => absurd c_7 (by decide)) (fun c_7 => ?_)
  refine lv_aload_n hx hb d_Curve_clear_11 rfl (lv_at hl 1 rfl) ?_
  refine va_get (D := (dC, dI)) (ci := 2) (v := .ref x_c) (C := R_Curve) (T := F_Curve) (N := 1) hx hb hT i_Curve hown hK hP 0 rfl rfl 0 (by decide) (hT _ tw_224) (fun _ h9 => h9) rfl d_Curve_clear_12 ?_
  refine lv_iload_n hx hb d_Curve_clear_15 rfl (lv_at hl 0 rfl) ?_
  refine va_aldq hx hb hK hP 1 0 rfl rfl (vp_in_nI (n := 6) (by decide) (by decide)) d_Curve_clear_16 ?_
  refine W.eq (g2 := F0 m 17 ls [.ref p6]) (by rw [show fc ((6 : Int32).toNatClampNeg) = some p6 from hF.2.2.2.2.2.2.1]; rfl) ?_
  refine lv_iconst (v := 0) hx hb d_Curve_clear_17 (by decide) ?_
  refine va_put (D := (dC, dI)) (ci := 6) (v := .int 0) (ty := .int) (C := R_Poly) (T := F_Poly) (N := 3) hx hb hT i_Poly t_Poly t_Poly_ok n_Poly hown hK hP hD hS 8 rfl rfl 2 (by decide) (hT _ tw_208) (fun _ h9 => h9) rfl (by decide +kernel) rfl rfl (Nat.le_of_ble_eq_true rfl) d_Curve_clear_18 (fun H locs hP hD hS => ?_)
  have hP : va_P (dC, dI) classes [(r_left, .inr (2, [.ref x_c])), (x_c, .inl (cL, 9, .inr (.inr (.inr (.inr fc))))), (p0, .inr (6, [.ref dk, .ref y0, .int 0])), (p1, .inr (6, [.ref dk, .ref y1, .int 0])), (p2, .inr (6, [.ref dk, .ref y2, .int 0])), (p3, .inr (6, [.ref dk, .ref y3, .int 0])), (p4, .inr (6, [.ref dk, .ref y4, .int 0])), (p5, .inr (6, [.ref dk, .ref y5, .int 0])), (p6, .inr (6, [.ref dk, .ref y6, .int 0])), (p7, .inr (6, [.ref dk, .ref y7, .int 0])), (p8, .inr (6, [.ref dk, .ref y8, .int 0]))] H := hP
  have hD : va_D A [(r_left, .inr (2, [.ref x_c])), (x_c, .inl (cL, 9, .inr (.inr (.inr (.inr fc))))), (p0, .inr (6, [.ref dk, .ref y0, .int 0])), (p1, .inr (6, [.ref dk, .ref y1, .int 0])), (p2, .inr (6, [.ref dk, .ref y2, .int 0])), (p3, .inr (6, [.ref dk, .ref y3, .int 0])), (p4, .inr (6, [.ref dk, .ref y4, .int 0])), (p5, .inr (6, [.ref dk, .ref y5, .int 0])), (p6, .inr (6, [.ref dk, .ref y6, .int 0])), (p7, .inr (6, [.ref dk, .ref y7, .int 0])), (p8, .inr (6, [.ref dk, .ref y8, .int 0]))] := hD
  refine lv_iinc (v := 7) (lv' := [(1, .int 7), (0, .ref r_left)]) hx hb d_Curve_clear_21 hl (k := 0) rfl (by decide) (by decide) rfl (fun ls hl => ?_)
  refine lv_goto (tgt := 2) hx hb d_Curve_clear_24 (by decide) ?_
  refine lv_iload_n hx hb d_Curve_clear_2 rfl (lv_at hl 0 rfl) ?_
  refine lv_aload_n hx hb d_Curve_clear_3 rfl (lv_at hl 1 rfl) ?_
  refine va_get (D := (dC, dI)) (ci := 2) (v := .ref x_c) (C := R_Curve) (T := F_Curve) (N := 1) hx hb hT i_Curve hown hK hP 0 rfl rfl 0 (by decide) (hT _ tw_224) (fun _ h9 => h9) rfl d_Curve_clear_4 ?_
  refine va_alen (v := 9) hx hb hK hP 1 0 rfl rfl rfl d_Curve_clear_7 ?_
  refine lv_icmp_ge (tgt := 27) hx hb d_Curve_clear_8 (by decide) (fun c_8 => absurd c_8 (by decide)) (fun c_8 => ?_)
  refine lv_aload_n hx hb d_Curve_clear_11 rfl (lv_at hl 1 rfl) ?_
  refine va_get (D := (dC, dI)) (ci := 2) (v := .ref x_c) (C := R_Curve) (T := F_Curve) (N := 1) hx hb hT i_Curve hown hK hP 0 rfl rfl 0 (by decide) (hT _ tw_224) (fun _ h9 => h9) rfl d_Curve_clear_12 ?_
  refine lv_iload_n hx hb d_Curve_clear_15 rfl (lv_at hl 0 rfl) ?_
  refine va_aldq hx hb hK hP 1 0 rfl rfl (vp_in_nI (n := 7) (by decide) (by decide)) d_Curve_clear_16 ?_
  refine W.eq (g2 := F0 m 17 ls [.ref p7]) (by rw [show fc ((7 : Int32).toNatClampNeg) = some p7 from hF.2.2.2.2.2.2.2.1]; rfl) ?_
  refine lv_iconst (v := 0) hx hb d_Curve_clear_17 (by decide) ?_
  refine va_put (D := (dC, dI)) (ci := 6) (v := .int 0) (ty := .int) (C := R_Poly) (T := F_Poly) (N := 3) hx hb hT i_Poly t_Poly t_Poly_ok n_Poly hown hK hP hD hS 9 rfl rfl 2 (by decide) (hT _ tw_208) (fun _ h9 => h9) rfl (by decide +kernel) rfl rfl (Nat.le_of_ble_eq_true rfl) d_Curve_clear_18 (fun H locs hP hD hS => ?_)
  have hP : va_P (dC, dI) classes [(r_left, .inr (2, [.ref x_c])), (x_c, .inl (cL, 9, .inr (.inr (.inr (.inr fc))))), (p0, .inr (6, [.ref dk, .ref y0, .int 0])), (p1, .inr (6, [.ref dk, .ref y1, .int 0])), (p2, .inr (6, [.ref dk, .ref y2, .int 0])), (p3, .inr (6, [.ref dk, .ref y3, .int 0])), (p4, .inr (6, [.ref dk, .ref y4, .int 0])), (p5, .inr (6, [.ref dk, .ref y5, .int 0])), (p6, .inr (6, [.ref dk, .ref y6, .int 0])), (p7, .inr (6, [.ref dk, .ref y7, .int 0])), (p8, .inr (6, [.ref dk, .ref y8, .int 0]))] H := hP
  have hD : va_D A [(r_left, .inr (2, [.ref x_c])), (x_c, .inl (cL, 9, .inr (.inr (.inr (.inr fc))))), (p0, .inr (6, [.ref dk, .ref y0, .int 0])), (p1, .inr (6, [.ref dk, .ref y1, .int 0])), (p2, .inr (6, [.ref dk, .ref y2, .int 0])), (p3, .inr (6, [.ref dk, .ref y3, .int 0])), (p4, .inr (6, [.ref dk, .ref y4, .int 0])), (p5, .inr (6, [.ref dk, .ref y5, .int 0])), (p6, .inr (6, [.ref dk, .ref y6, .int 0])), (p7, .inr (6, [.ref dk, .ref y7, .int 0])), (p8, .inr (6, [.ref dk, .ref y8, .int 0]))] := hD
  refine lv_iinc (v := 8) (lv' := [(1, .int 8), (0, .ref r_left)]) hx hb d_Curve_clear_21 hl (k := 0) rfl (by decide) (by decide) rfl (fun ls hl => ?_)
  refine lv_goto (tgt := 2) hx hb d_Curve_clear_24 (by decide) ?_
  refine lv_iload_n hx hb d_Curve_clear_2 rfl (lv_at hl 0 rfl) ?_
  refine lv_aload_n hx hb d_Curve_clear_3 rfl (lv_at hl 1 rfl) ?_
  refine va_get (D := (dC, dI)) (ci := 2) (v := .ref x_c) (C := R_Curve) (T := F_Curve) (N := 1) hx hb hT i_Curve hown hK hP 0 rfl rfl 0 (by decide) (hT _ tw_224) (fun _ h9 => h9) rfl d_Curve_clear_4 ?_
  refine va_alen (v := 9) hx hb hK hP 1 0 rfl rfl rfl d_Curve_clear_7 ?_
  refine lv_icmp_ge (tgt := 27) hx hb d_Curve_clear_8 (by decide) (fun c_9 => absurd c_9 (by decide)) (fun c_9 => ?_)
  refine lv_aload_n hx hb d_Curve_clear_11 rfl (lv_at hl 1 rfl) ?_
  refine va_get (D := (dC, dI)) (ci := 2) (v := .ref x_c) (C := R_Curve) (T := F_Curve) (N := 1) hx hb hT i_Curve hown hK hP 0 rfl rfl 0 (by decide) (hT _ tw_224) (fun _ h9 => h9) rfl d_Curve_clear_12 ?_
  refine lv_iload_n hx hb d_Curve_clear_15 rfl (lv_at hl 0 rfl) ?_
  refine va_aldq hx hb hK hP 1 0 rfl rfl (vp_in_nI (n := 8) (by decide) (by decide)) d_Curve_clear_16 ?_
  refine W.eq (g2 := F0 m 17 ls [.ref p8]) (by rw [show fc ((8 : Int32).toNatClampNeg) = some p8 from hF.2.2.2.2.2.2.2.2]; rfl) ?_
  refine lv_iconst (v := 0) hx hb d_Curve_clear_17 (by decide) ?_
  refine va_put (D := (dC, dI)) (ci := 6) (v := .int 0) (ty := .int) (C := R_Poly) (T := F_Poly) (N := 3) hx hb hT i_Poly t_Poly t_Poly_ok n_Poly hown hK hP hD hS 10 rfl rfl 2 (by decide) (hT _ tw_208) (fun _ h9 => h9) rfl (by decide +kernel) rfl rfl (Nat.le_of_ble_eq_true rfl) d_Curve_clear_18 (fun H locs hP hD hS => ?_)
  have hP : va_P (dC, dI) classes [(r_left, .inr (2, [.ref x_c])), (x_c, .inl (cL, 9, .inr (.inr (.inr (.inr fc))))), (p0, .inr (6, [.ref dk, .ref y0, .int 0])), (p1, .inr (6, [.ref dk, .ref y1, .int 0])), (p2, .inr (6, [.ref dk, .ref y2, .int 0])), (p3, .inr (6, [.ref dk, .ref y3, .int 0])), (p4, .inr (6, [.ref dk, .ref y4, .int 0])), (p5, .inr (6, [.ref dk, .ref y5, .int 0])), (p6, .inr (6, [.ref dk, .ref y6, .int 0])), (p7, .inr (6, [.ref dk, .ref y7, .int 0])), (p8, .inr (6, [.ref dk, .ref y8, .int 0]))] H := hP
  have hD : va_D A [(r_left, .inr (2, [.ref x_c])), (x_c, .inl (cL, 9, .inr (.inr (.inr (.inr fc))))), (p0, .inr (6, [.ref dk, .ref y0, .int 0])), (p1, .inr (6, [.ref dk, .ref y1, .int 0])), (p2, .inr (6, [.ref dk, .ref y2, .int 0])), (p3, .inr (6, [.ref dk, .ref y3, .int 0])), (p4, .inr (6, [.ref dk, .ref y4, .int 0])), (p5, .inr (6, [.ref dk, .ref y5, .int 0])), (p6, .inr (6, [.ref dk, .ref y6, .int 0])), (p7, .inr (6, [.ref dk, .ref y7, .int 0])), (p8, .inr (6, [.ref dk, .ref y8, .int 0]))] := hD
  refine lv_iinc (v := 9) (lv' := [(1, .int 9), (0, .ref r_left)]) hx hb d_Curve_clear_21 hl (k := 0) rfl (by decide) (by decide) rfl (fun ls hl => ?_)
  refine lv_goto (tgt := 2) hx hb d_Curve_clear_24 (by decide) ?_
  refine lv_iload_n hx hb d_Curve_clear_2 rfl (lv_at hl 0 rfl) ?_
  refine lv_aload_n hx hb d_Curve_clear_3 rfl (lv_at hl 1 rfl) ?_
  refine va_get (D := (dC, dI)) (ci := 2) (v := .ref x_c) (C := R_Curve) (T := F_Curve) (N := 1) hx hb hT i_Curve hown hK hP 0 rfl rfl 0 (by decide) (hT _ tw_224) (fun _ h9 => h9) rfl d_Curve_clear_4 ?_
  refine va_alen (v := 9) hx hb hK hP 1 0 rfl rfl rfl d_Curve_clear_7 ?_
  refine lv_icmp_ge (tgt := 27) hx hb d_Curve_clear_8 (by decide) (fun c_10 => ?_) (fun c_10 => absurd (by decide) c_10)
  have hP9 := hP.sub (ws' := [(r_left, .inr (2, [.ref x_c])), (x_c, .inl (cL, 9, .inr (.inr (.inr (.inr fc))))), (p0, .inr (6, [.ref dk, .ref y0, .int 0])), (p1, .inr (6, [.ref dk, .ref y1, .int 0])), (p2, .inr (6, [.ref dk, .ref y2, .int 0])), (p3, .inr (6, [.ref dk, .ref y3, .int 0])), (p4, .inr (6, [.ref dk, .ref y4, .int 0])), (p5, .inr (6, [.ref dk, .ref y5, .int 0])), (p6, .inr (6, [.ref dk, .ref y6, .int 0])), (p7, .inr (6, [.ref dk, .ref y7, .int 0])), (p8, .inr (6, [.ref dk, .ref y8, .int 0]))]) [0, 1, 2, 3, 4, 5, 6, 7, 8, 9, 10] rfl
  have hD9 := hD.sub (ws' := [(r_left, .inr (2, [.ref x_c])), (x_c, .inl (cL, 9, .inr (.inr (.inr (.inr fc))))), (p0, .inr (6, [.ref dk, .ref y0, .int 0])), (p1, .inr (6, [.ref dk, .ref y1, .int 0])), (p2, .inr (6, [.ref dk, .ref y2, .int 0])), (p3, .inr (6, [.ref dk, .ref y3, .int 0])), (p4, .inr (6, [.ref dk, .ref y4, .int 0])), (p5, .inr (6, [.ref dk, .ref y5, .int 0])), (p6, .inr (6, [.ref dk, .ref y6, .int 0])), (p7, .inr (6, [.ref dk, .ref y7, .int 0])), (p8, .inr (6, [.ref dk, .ref y8, .int 0]))]) [0, 1, 2, 3, 4, 5, 6, 7, 8, 9, 10] (by decide) rfl
  have hK9 := hK.sub (tys' := [(cL, .object "RealHouse$Poly")]) [0] rfl
  exact W.vret hx hb hr (fun t ht hW => ⟨⟨(), rfl, trivial, by rw [ht]; exact hP9, va_K.moved hW.alike hK9, hD9⟩, hS.F ht⟩) hS.2.2 d_Curve_clear_27

set_option maxHeartbeats 4000000 in
set_option maxRecDepth 100000 in
/-- readTerm() at the end of an empty text: a fault at 0 -/
theorem c_Reader_readTerm_0 (l : Launch) (dC : Nat → ClassId) (dI : Nat → Nat → Nat) (sz : Nat) (h0 : Nat) (tp : Nat) (r_left : Nat) (r_right : Nat) (r_told : Nat) (r_curve : Nat) (r_steps : Nat) (r_stack : Nat) (wx : Int32) (wy : Int32) (cu : Nat) (sg : Int32)  : Met l y_Reader_readTerm w_Reader_readTerm ({ frames := 1, cells := 0, slots := 0, locals := 20 }) (va_Pc [.ref h0, .ref cu, .int sg] (fun U => U.heap.size = sz ∧ va_P (dC, dI) classes [(h0, .inr (8, [.ref tp, .int 0, .int 0, .int (-1), .int wx, .int wy, .int 0, .ref r_left, .ref r_right, .ref r_told, .ref r_curve, .int 0, .int 0, .int 0, .int 0, .ref r_steps, .int 0, .ref r_stack, .int 0]))] U.heap ∧ va_K (dC, dI) classes [] U ∧ va_D (fun _ => True) [(h0, .inr (8, [.ref tp, .int 0, .int 0, .int (-1), .int wx, .int wy, .int 0, .ref r_left, .ref r_right, .ref r_told, .ref r_curve, .int 0, .int 0, .int 0, .int 0, .ref r_steps, .int 0, .ref r_stack, .int 0]))] ∧ nx_K U)) (va_Qv (fun _ : Unit => True) (fun _ t => va_P (dC, dI) classes [(h0, .inr (8, [.ref tp, .int 0, .int 0, .int 0, .int wx, .int wy, .int 0, .ref r_left, .ref r_right, .ref r_told, .ref r_curve, .int 0, .int 0, .int 0, .int 0, .ref r_steps, .int 0, .ref r_stack, .int 0]))] t.heap ∧ va_K (dC, dI) classes [] t ∧ va_D (va_A [(h0, .inr (8, [.ref tp, .int 0, .int 0, .int (-1), .int wx, .int wy, .int 0, .ref r_left, .ref r_right, .ref r_told, .ref r_curve, .int 0, .int 0, .int 0, .int 0, .ref r_steps, .int 0, .ref r_stack, .int 0]))] sz) [(h0, .inr (8, [.ref tp, .int 0, .int 0, .int 0, .int wx, .int wy, .int 0, .ref r_left, .ref r_right, .ref r_told, .ref r_curve, .int 0, .int 0, .int 0, .int 0, .ref r_steps, .int 0, .ref r_stack, .int 0]))]) (va_A [(h0, .inr (8, [.ref tp, .int 0, .int 0, .int (-1), .int wx, .int wy, .int 0, .ref r_left, .ref r_right, .ref r_told, .ref r_curve, .int 0, .int 0, .int 0, .int 0, .ref r_steps, .int 0, .ref r_stack, .int 0]))] sz)) 0 0 (va_A [(h0, .inr (8, [.ref tp, .int 0, .int 0, .int (-1), .int wx, .int wy, .int 0, .ref r_left, .ref r_right, .ref r_told, .ref r_curve, .int 0, .int 0, .int 0, .int 0, .ref r_steps, .int 0, .ref r_stack, .int 0]))] sz) := by
  refine Met.ofW (cc := b_Reader_readTerm) (maxL := 13) (ret := none) (by decide) rfl ?_
  intro p e s m args below meth c s₁ B hml hv
  obtain ⟨rfl, hsz, hP, hK, hD0, hN⟩ := hv
  have hx := B.exec
  have hb := B.bytes
  have hr := B.returns
  have hT : ∀ w ∈ lw_g, w.before _ s = true := fun w h => atoms_spec (ws := w_Reader_readTerm) B.pre w (List.mem_cons_of_mem _ h)
  have hown : s.vm.findClass R_Reader = some m.cls := findClass_of_methodNamed B.named
  have hlocks := B.notSynchronized
  subst hsz
  have hD := hD0.self (sz := s.heap.size)
  generalize hAe : va_A [(h0, .inr (8, [.ref tp, .int 0, .int 0, .int (-1), .int wx, .int wy, .int 0, .ref r_left, .ref r_right, .ref r_told, .ref r_curve, .int 0, .int 0, .int 0, .int 0, .ref r_steps, .int 0, .ref r_stack, .int 0]))] s.heap.size = A at hD ⊢
  have hA : ∀ q : Nat, s.heap.size ≤ q → A q := fun q h => by rw [← hAe]; exact Or.inr h
  have hS : va_S A s.heap s.heap [] := va_S.rf
  have hP : va_P (dC, dI) classes [(h0, .inr (8, [.ref tp, .int 0, .int 0, .int (-1), .int wx, .int wy, .int 0, .ref r_left, .ref r_right, .ref r_told, .ref r_curve, .int 0, .int 0, .int 0, .int 0, .ref r_steps, .int 0, .ref r_stack, .int 0]))] s.heap := hP
  have hl := lv_entry ([.ref h0, .ref cu, .int sg]) (n := 13) (Nat.le_of_ble_eq_true rfl)
  rw [lg_entry_eq]
  generalize (lg_sl ([.ref h0, .ref cu, .int sg]) ++ List.replicate (13 - (lg_sl ([.ref h0, .ref cu, .int sg])).length) Slot.unset).toArray = ls at hl ⊢
  have hl : lv_has ls 13 [(0, .ref h0), (1, .ref cu), (2, .int sg)] := hl
  refine lv_lconst (v := 0) hx hb d_Reader_readTerm_0 (by decide) ?_
  refine lv_lstore_n (lv' := [(3, .long 0), (0, .ref h0), (1, .ref cu), (2, .int sg)]) hx hb d_Reader_readTerm_1 rfl hl (by decide) rfl (fun ls hl => ?_)
  refine lv_aload_n hx hb d_Reader_readTerm_2 rfl (lv_at hl 1 rfl) ?_
  refine va_get (D := (dC, dI)) (ci := 8) (v := .int 0) (C := R_Reader) (T := F_Reader) (N := 19) hx hb hT i_Reader hown hK hP 0 rfl rfl 2 (by decide) (hT _ tw_235) (fun _ h9 => h9) rfl d_Reader_readTerm_3 ?_
  refine lv_istore (lv' := [(5, .int 0), (3, .long 0), (0, .ref h0), (1, .ref cu), (2, .int sg)]) hx hb d_Reader_readTerm_6 hl (by decide) rfl (fun ls hl => ?_)
  refine lv_aload_n hx hb d_Reader_readTerm_8 rfl (lv_at hl 2 rfl) ?_
  refine va_get (D := (dC, dI)) (ci := 8) (v := .int 0) (C := R_Reader) (T := F_Reader) (N := 19) hx hb hT i_Reader hown hK hP 0 rfl rfl 2 (by decide) (hT _ tw_235) (fun _ h9 => h9) rfl d_Reader_readTerm_9 ?_
  refine lv_iload hx hb d_Reader_readTerm_12 (lv_at hl 0 rfl) ?_
  refine lv_bipush (v := 6) hx hb d_Reader_readTerm_14 (by decide) ?_
  refine lv_iadd hx hb d_Reader_readTerm_16 ?_
  refine lv_topi (fun v_1 ev_1 => ?_)
  obtain rfl : v_1 = 6 := ev_1.trans (by decide)
  refine lv_icmp_ge (tgt := 67) hx hb d_Reader_readTerm_17 (by decide) (fun c_2 => absurd c_2 (by decide)) (fun c_2 => ?_)
  refine lv_aload_n hx hb d_Reader_readTerm_20 rfl (lv_at hl 2 rfl) ?_
  have hPc := hP.sub (ws' := [(h0, .inr (8, [.ref tp, .int 0, .int 0, .int (-1), .int wx, .int wy, .int 0, .ref r_left, .ref r_right, .ref r_told, .ref r_curve, .int 0, .int 0, .int 0, .int 0, .ref r_steps, .int 0, .ref r_stack, .int 0]))]) [0] rfl
  have hDc := hD.sub (ws' := [(h0, .inr (8, [.ref tp, .int 0, .int 0, .int (-1), .int wx, .int wy, .int 0, .ref r_left, .ref r_right, .ref r_told, .ref r_curve, .int 0, .int 0, .int 0, .int 0, .ref r_steps, .int 0, .ref r_stack, .int 0]))]) [0] (by decide) rfl
  have hKc := hK.sub (tys' := []) [] rfl
  have hFc := va_free (wc := [(h0, .inr (8, [.ref tp, .int 0, .int 0, .int (-1), .int wx, .int wy, .int 0, .ref r_left, .ref r_right, .ref r_told, .ref r_curve, .int 0, .int 0, .int 0, .int 0, .ref r_steps, .int 0, .ref r_stack, .int 0]))]) hD hS hA [0] rfl
  refine va_calli (va_runV (As := []) (rest := []) ⟨hx, hb, hml, hown, hT⟩ (c_Reader_next_0 l dC dI s.heap.size h0 tp r_left r_right r_told r_curve r_steps r_stack (-1) wx wy ) (cwV 0 hT (tb_goodV g_Reader_next tw_718 tw_720 (tb_sel (q := (⟨"RealHouse$Reader", "next", "()I"⟩, 19)) (i := 3) (by decide +kernel)) tw_6) rfl rfl rfl (by decide +kernel) ⟨Nat.le_of_ble_eq_true rfl, Nat.le_of_ble_eq_true rfl⟩) ⟨fun a U g mk q => by obtain ⟨q0, q1, qP, qK, qD, qN⟩ := q; exact ⟨q0, q1, qP, va_K.moved (u := U) (U := U.calling g mk a) (Vm.Alike.refl U.vm) qK, qD, nx_K.same (u := U) (U := U.calling g mk a) rfl qN⟩, va_recv hKc hPc (ci := 8) (q0 := 0) rfl rfl, fun U hU hW => ⟨rfl, by rw [hU], by rw [hU]; exact hPc, va_K.moved hW.alike hKc, hDc.weaken (fun _ _ _ _ => trivial), nx_K.warm hW hN⟩⟩ rfl rfl hl.1 rfl (lv_room (Nat.le_of_ble_eq_true rfl)) d_Reader_readTerm_21 ⟨Nat.le_of_ble_eq_true rfl, Nat.le_of_ble_eq_true rfl⟩) hS (fun q _ h => hFc q h) hFc (fun r_3 u t H1 locs ht hvm hw hB hz1 hk1 hS => ?_)
  obtain ⟨hP1, hK1, hD1⟩ := hB
  rw [ht] at hP1
  have hK1 := va_K.moved hvm.symm hK1
  obtain rfl : r_3 = (-1) := hw
  obtain ⟨hP, hD⟩ := va_join (wr := []) (w1 := [(h0, .inr (8, [.ref tp, .int 0, .int 0, .int (-1), .int wx, .int wy, .int 0, .ref r_left, .ref r_right, .ref r_told, .ref r_curve, .int 0, .int 0, .int 0, .int 0, .ref r_steps, .int 0, .ref r_stack, .int 0]))]) hP hD [0] [] rfl rfl (by decide) (by decide) hk1 hFc hP1 hD1
  have hK := (hK.sub (tys' := []) [] rfl).app hK1
  generalize H1 = H at hP hS ⊢
  have hP : va_P (dC, dI) classes [(h0, .inr (8, [.ref tp, .int 0, .int 0, .int (-1), .int wx, .int wy, .int 0, .ref r_left, .ref r_right, .ref r_told, .ref r_curve, .int 0, .int 0, .int 0, .int 0, .ref r_steps, .int 0, .ref r_stack, .int 0]))] H := hP
  have hD : va_D A [(h0, .inr (8, [.ref tp, .int 0, .int 0, .int (-1), .int wx, .int wy, .int 0, .ref r_left, .ref r_right, .ref r_told, .ref r_curve, .int 0, .int 0, .int 0, .int 0, .ref r_steps, .int 0, .ref r_stack, .int 0]))] := hD
  have hK : va_K (dC, dI) classes [] s := hK
  refine lv_bipush (v := 48) hx hb d_Reader_readTerm_24 (by decide) ?_
  refine lv_icmp_lt (tgt := 67) hx hb d_Reader_readTerm_26 (by decide) (fun c_4 => ?_) (fun c_4 => absurd (by decide) c_4)
  refine lv_aload_n hx hb d_Reader_readTerm_67 rfl (lv_at hl 2 rfl) ?_
  refine va_get (D := (dC, dI)) (ci := 8) (v := .int 0) (C := R_Reader) (T := F_Reader) (N := 19) hx hb hT i_Reader hown hK hP 0 rfl rfl 2 (by decide) (hT _ tw_235) (fun _ h9 => h9) rfl d_Reader_readTerm_68 ?_
  refine lv_iload hx hb d_Reader_readTerm_71 (lv_at hl 0 rfl) ?_
  refine lv_icmp_ne (tgt := 78) hx hb d_Reader_readTerm_73 (by decide) (fun c_5 => absurd (by decide) c_5) (fun c_5 => ?_)
  refine lv_lconst (v := 1) hx hb d_Reader_readTerm_76 (by decide) ?_
  refine lv_lstore_n (lv' := [(3, .long 1), (5, .int 0), (0, .ref h0), (1, .ref cu), (2, .int sg)]) hx hb d_Reader_readTerm_77 rfl hl (by decide) rfl (fun ls hl => ?_)
  refine lv_iconst (v := 0) hx hb d_Reader_readTerm_78 (by decide) ?_
  refine lv_istore (lv' := [(6, .int 0), (3, .long 1), (5, .int 0), (0, .ref h0), (1, .ref cu), (2, .int sg)]) hx hb d_Reader_readTerm_79 hl (by decide) rfl (fun ls hl => ?_)
  refine lv_iconst (v := 0) hx hb d_Reader_readTerm_81 (by decide) ?_
  refine lv_istore (lv' := [(7, .int 0), (6, .int 0), (3, .long 1), (5, .int 0), (0, .ref h0), (1, .ref cu), (2, .int sg)]) hx hb d_Reader_readTerm_82 hl (by decide) rfl (fun ls hl => ?_)
  refine lv_iconst (v := 0) hx hb d_Reader_readTerm_84 (by decide) ?_
  refine lv_istore (lv' := [(8, .int 0), (7, .int 0), (6, .int 0), (3, .long 1), (5, .int 0), (0, .ref h0), (1, .ref cu), (2, .int sg)]) hx hb d_Reader_readTerm_85 hl (by decide) rfl (fun ls hl => ?_)
  refine lv_iload hx hb d_Reader_readTerm_87 (lv_at hl 0 rfl) ?_
  refine lv_sipush (v := 400) hx hb d_Reader_readTerm_89 (by decide) ?_
  refine lv_icmp_ge (tgt := 276) hx hb d_Reader_readTerm_92 (by decide) (fun c_6 => absurd c_6 (by decide)) (fun c_6 => ?_)
  refine lv_aload_n hx hb d_Reader_readTerm_95 rfl (lv_at hl 5 rfl) ?_
  have hPc := hP.sub (ws' := [(h0, .inr (8, [.ref tp, .int 0, .int 0, .int (-1), .int wx, .int wy, .int 0, .ref r_left, .ref r_right, .ref r_told, .ref r_curve, .int 0, .int 0, .int 0, .int 0, .ref r_steps, .int 0, .ref r_stack, .int 0]))]) [0] rfl
  have hDc := hD.sub (ws' := [(h0, .inr (8, [.ref tp, .int 0, .int 0, .int (-1), .int wx, .int wy, .int 0, .ref r_left, .ref r_right, .ref r_told, .ref r_curve, .int 0, .int 0, .int 0, .int 0, .ref r_steps, .int 0, .ref r_stack, .int 0]))]) [0] (by decide) rfl
  have hKc := hK.sub (tys' := []) [] rfl
  have hFc := va_free (wc := [(h0, .inr (8, [.ref tp, .int 0, .int 0, .int (-1), .int wx, .int wy, .int 0, .ref r_left, .ref r_right, .ref r_told, .ref r_curve, .int 0, .int 0, .int 0, .int 0, .ref r_steps, .int 0, .ref r_stack, .int 0]))]) hD hS hA [0] rfl
  refine va_calli (va_runV (As := []) (rest := []) ⟨hx, hb, hml, hown, hT⟩ (c_Reader_next_0 l dC dI H.size h0 tp r_left r_right r_told r_curve r_steps r_stack (-1) wx wy ) (cwV 0 hT (tb_goodV g_Reader_next tw_718 tw_720 (tb_sel (q := (⟨"RealHouse$Reader", "next", "()I"⟩, 19)) (i := 3) (by decide +kernel)) tw_6) rfl rfl rfl (by decide +kernel) ⟨Nat.le_of_ble_eq_true rfl, Nat.le_of_ble_eq_true rfl⟩) ⟨fun a U g mk q => by obtain ⟨q0, q1, qP, qK, qD, qN⟩ := q; exact ⟨q0, q1, qP, va_K.moved (u := U) (U := U.calling g mk a) (Vm.Alike.refl U.vm) qK, qD, nx_K.same (u := U) (U := U.calling g mk a) rfl qN⟩, va_recv hKc hPc (ci := 8) (q0 := 0) rfl rfl, fun U hU hW => ⟨rfl, by rw [hU], by rw [hU]; exact hPc, va_K.moved hW.alike hKc, hDc.weaken (fun _ _ _ _ => trivial), nx_K.warm hW hN⟩⟩ rfl rfl hl.1 rfl (lv_room (Nat.le_of_ble_eq_true rfl)) d_Reader_readTerm_96 ⟨Nat.le_of_ble_eq_true rfl, Nat.le_of_ble_eq_true rfl⟩) hS (fun q _ h => hFc q h) hFc (fun r_7 u t H1 locs ht hvm hw hB hz1 hk1 hS => ?_)
  obtain ⟨hP1, hK1, hD1⟩ := hB
  rw [ht] at hP1
  have hK1 := va_K.moved hvm.symm hK1
  obtain rfl : r_7 = (-1) := hw
  obtain ⟨hP, hD⟩ := va_join (wr := []) (w1 := [(h0, .inr (8, [.ref tp, .int 0, .int 0, .int (-1), .int wx, .int wy, .int 0, .ref r_left, .ref r_right, .ref r_told, .ref r_curve, .int 0, .int 0, .int 0, .int 0, .ref r_steps, .int 0, .ref r_stack, .int 0]))]) hP hD [0] [] rfl rfl (by decide) (by decide) hk1 hFc hP1 hD1
  have hK := (hK.sub (tys' := []) [] rfl).app hK1
  generalize H1 = H at hP hS ⊢
  have hP : va_P (dC, dI) classes [(h0, .inr (8, [.ref tp, .int 0, .int 0, .int (-1), .int wx, .int wy, .int 0, .ref r_left, .ref r_right, .ref r_told, .ref r_curve, .int 0, .int 0, .int 0, .int 0, .ref r_steps, .int 0, .ref r_stack, .int 0]))] H := hP
  have hD : va_D A [(h0, .inr (8, [.ref tp, .int 0, .int 0, .int (-1), .int wx, .int wy, .int 0, .ref r_left, .ref r_right, .ref r_told, .ref r_curve, .int 0, .int 0, .int 0, .int 0, .ref r_steps, .int 0, .ref r_stack, .int 0]))] := hD
  have hK : va_K (dC, dI) classes [] s := hK
  refine lv_istore (lv' := [(9, .int (-1)), (8, .int 0), (7, .int 0), (6, .int 0), (3, .long 1), (5, .int 0), (0, .ref h0), (1, .ref cu), (2, .int sg)]) hx hb d_Reader_readTerm_99 hl (by decide) rfl (fun ls hl => ?_)
  refine lv_iload hx hb d_Reader_readTerm_101 (lv_at hl 0 rfl) ?_
  refine lv_bipush (v := 120) hx hb d_Reader_readTerm_103 (by decide) ?_
  refine lv_icmp_ne (tgt := 115) hx hb d_Reader_readTerm_105 (by decide) (fun c_8 => ?_) (fun c_8 => absurd c_8 (by decide))
  refine lv_iload hx hb d_Reader_readTerm_115 (lv_at hl 0 rfl) ?_
  refine lv_bipush (v := 121) hx hb d_Reader_readTerm_117 (by decide) ?_
  refine lv_icmp_ne (tgt := 276) hx hb d_Reader_readTerm_119 (by decide) (fun c_9 => ?_) (fun c_9 => absurd c_9 (by decide))
  refine lv_aload_n hx hb d_Reader_readTerm_276 rfl (lv_at hl 6 rfl) ?_
  refine va_get (D := (dC, dI)) (ci := 8) (v := .int 0) (C := R_Reader) (T := F_Reader) (N := 19) hx hb hT i_Reader hown hK hP 0 rfl rfl 2 (by decide) (hT _ tw_235) (fun _ h9 => h9) rfl d_Reader_readTerm_277 ?_
  refine lv_iload hx hb d_Reader_readTerm_280 (lv_at hl 5 rfl) ?_
  refine lv_icmp_ne (tgt := 290) hx hb d_Reader_readTerm_282 (by decide) (fun c_10 => absurd (by decide) c_10) (fun c_10 => ?_)
  refine lv_aload_n hx hb d_Reader_readTerm_285 rfl (lv_at hl 6 rfl) ?_
  have hPc := hP.sub (ws' := [(h0, .inr (8, [.ref tp, .int 0, .int 0, .int (-1), .int wx, .int wy, .int 0, .ref r_left, .ref r_right, .ref r_told, .ref r_curve, .int 0, .int 0, .int 0, .int 0, .ref r_steps, .int 0, .ref r_stack, .int 0]))]) [0] rfl
  have hDc := hD.sub (ws' := [(h0, .inr (8, [.ref tp, .int 0, .int 0, .int (-1), .int wx, .int wy, .int 0, .ref r_left, .ref r_right, .ref r_told, .ref r_curve, .int 0, .int 0, .int 0, .int 0, .ref r_steps, .int 0, .ref r_stack, .int 0]))]) [0] (by decide) rfl
  have hKc := hK.sub (tys' := []) [] rfl
  have hFc := va_free (wc := [(h0, .inr (8, [.ref tp, .int 0, .int 0, .int (-1), .int wx, .int wy, .int 0, .ref r_left, .ref r_right, .ref r_told, .ref r_curve, .int 0, .int 0, .int 0, .int 0, .ref r_steps, .int 0, .ref r_stack, .int 0]))]) hD hS hA [0] rfl
  refine va_callv (va_runV (As := []) (rest := []) ⟨hx, hb, hml, hown, hT⟩ (c_Reader_fail_0 l dC dI H.size h0 tp r_left r_right r_told r_curve r_steps r_stack wx wy ) (cwV 0 hT (tb_goodV g_Reader_fail tw_728 tw_730 (tb_sel (q := (⟨"RealHouse$Reader", "fail", "()V"⟩, 19)) (i := 5) (by decide +kernel)) tw_6) rfl rfl rfl (by decide +kernel) ⟨Nat.le_of_ble_eq_true rfl, Nat.le_of_ble_eq_true rfl⟩) ⟨fun a U g mk q => by obtain ⟨q0, q1, qP, qK, qD, qN⟩ := q; exact ⟨q0, q1, qP, va_K.moved (u := U) (U := U.calling g mk a) (Vm.Alike.refl U.vm) qK, qD, nx_K.same (u := U) (U := U.calling g mk a) rfl qN⟩, va_recv hKc hPc (ci := 8) (q0 := 0) rfl rfl, fun U hU hW => ⟨rfl, by rw [hU], by rw [hU]; exact hPc, va_K.moved hW.alike hKc, hDc.weaken (fun _ _ _ _ => trivial), nx_K.warm hW hN⟩⟩ rfl rfl hl.1 rfl (lv_room (Nat.le_of_ble_eq_true rfl)) d_Reader_readTerm_286 ⟨Nat.le_of_ble_eq_true rfl, Nat.le_of_ble_eq_true rfl⟩) hS (fun q _ h => hFc q h) hFc (fun u t H1 locs ht hvm hw hB hz1 hk1 hS => ?_)
  obtain ⟨hP1, hK1, hD1⟩ := hB
  rw [ht] at hP1
  have hK1 := va_K.moved hvm.symm hK1
  obtain ⟨hP, hD⟩ := va_join (wr := []) (w1 := [(h0, .inr (8, [.ref tp, .int 0, .int 0, .int 0, .int wx, .int wy, .int 0, .ref r_left, .ref r_right, .ref r_told, .ref r_curve, .int 0, .int 0, .int 0, .int 0, .ref r_steps, .int 0, .ref r_stack, .int 0]))]) hP hD [0] [] rfl rfl (by decide) (by decide) hk1 hFc hP1 hD1
  have hK := (hK.sub (tys' := []) [] rfl).app hK1
  generalize H1 = H at hP hS ⊢
  have hP : va_P (dC, dI) classes [(h0, .inr (8, [.ref tp, .int 0, .int 0, .int 0, .int wx, .int wy, .int 0, .ref r_left, .ref r_right, .ref r_told, .ref r_curve, .int 0, .int 0, .int 0, .int 0, .ref r_steps, .int 0, .ref r_stack, .int 0]))] H := hP
  have hD : va_D A [(h0, .inr (8, [.ref tp, .int 0, .int 0, .int 0, .int wx, .int wy, .int 0, .ref r_left, .ref r_right, .ref r_told, .ref r_curve, .int 0, .int 0, .int 0, .int 0, .ref r_steps, .int 0, .ref r_stack, .int 0]))] := hD
  have hK : va_K (dC, dI) classes [] s := hK
  have hP9 := hP.sub (ws' := [(h0, .inr (8, [.ref tp, .int 0, .int 0, .int 0, .int wx, .int wy, .int 0, .ref r_left, .ref r_right, .ref r_told, .ref r_curve, .int 0, .int 0, .int 0, .int 0, .ref r_steps, .int 0, .ref r_stack, .int 0]))]) [0] rfl
  have hD9 := hD.sub (ws' := [(h0, .inr (8, [.ref tp, .int 0, .int 0, .int 0, .int wx, .int wy, .int 0, .ref r_left, .ref r_right, .ref r_told, .ref r_curve, .int 0, .int 0, .int 0, .int 0, .ref r_steps, .int 0, .ref r_stack, .int 0]))]) [0] (by decide) rfl
  have hK9 := hK.sub (tys' := []) [] rfl
  exact W.vret hx hb hr (fun t ht hW => ⟨⟨(), rfl, trivial, by rw [ht]; exact hP9, va_K.moved hW.alike hK9, hD9⟩, hS.F ht⟩) hS.2.2 d_Reader_readTerm_289

set_option maxHeartbeats 4000000 in
set_option maxRecDepth 100000 in
/-- readPoly(left) of an empty text: a fault at 0 -/
theorem c_Reader_readPoly_0 (l : Launch) (dC : Nat → ClassId) (dI : Nat → Nat → Nat) (sz : Nat) (h0 : Nat) (tp : Nat) (r_left : Nat) (r_right : Nat) (r_told : Nat) (r_curve : Nat) (r_steps : Nat) (r_stack : Nat) (wx : Int32) (wy : Int32) (x_c : Nat) (cL : ClassId) (fc : Nat → Option Nat) (dk : Nat) (p0 : Nat) (p1 : Nat) (p2 : Nat) (p3 : Nat) (p4 : Nat) (p5 : Nat) (p6 : Nat) (p7 : Nat) (p8 : Nat) (y0 : Nat) (y1 : Nat) (y2 : Nat) (y3 : Nat) (y4 : Nat) (y5 : Nat) (y6 : Nat) (y7 : Nat) (y8 : Nat) (hF : fc 0 = some p0 ∧ fc 1 = some p1 ∧ fc 2 = some p2 ∧ fc 3 = some p3 ∧ fc 4 = some p4 ∧ fc 5 = some p5 ∧ fc 6 = some p6 ∧ fc 7 = some p7 ∧ fc 8 = some p8) : Met l y_Reader_readPoly w_Reader_readPoly ({ frames := 2, cells := 0, slots := 0, locals := 52 }) (va_Pc [.ref h0, .ref r_left] (fun U => U.heap.size = sz ∧ va_P (dC, dI) classes [(h0, .inr (8, [.ref tp, .int 0, .int 0, .int (-1), .int wx, .int wy, .int 0, .ref r_left, .ref r_right, .ref r_told, .ref r_curve, .int 0, .int 0, .int 0, .int 0, .ref r_steps, .int 0, .ref r_stack, .int 0])), (r_left, .inr (2, [.ref x_c])), (x_c, .inl (cL, 9, .inr (.inr (.inr (.inr fc))))), (p0, .inr (6, [.ref dk, .ref y0, .int 0])), (p1, .inr (6, [.ref dk, .ref y1, .int 0])), (p2, .inr (6, [.ref dk, .ref y2, .int 0])), (p3, .inr (6, [.ref dk, .ref y3, .int 0])), (p4, .inr (6, [.ref dk, .ref y4, .int 0])), (p5, .inr (6, [.ref dk, .ref y5, .int 0])), (p6, .inr (6, [.ref dk, .ref y6, .int 0])), (p7, .inr (6, [.ref dk, .ref y7, .int 0])), (p8, .inr (6, [.ref dk, .ref y8, .int 0]))] U.heap ∧ va_K (dC, dI) classes [(cL, .object "RealHouse$Poly")] U ∧ va_D (fun _ => True) [(h0, .inr (8, [.ref tp, .int 0, .int 0, .int (-1), .int wx, .int wy, .int 0, .ref r_left, .ref r_right, .ref r_told, .ref r_curve, .int 0, .int 0, .int 0, .int 0, .ref r_steps, .int 0, .ref r_stack, .int 0])), (r_left, .inr (2, [.ref x_c])), (x_c, .inl (cL, 9, .inr (.inr (.inr (.inr fc))))), (p0, .inr (6, [.ref dk, .ref y0, .int 0])), (p1, .inr (6, [.ref dk, .ref y1, .int 0])), (p2, .inr (6, [.ref dk, .ref y2, .int 0])), (p3, .inr (6, [.ref dk, .ref y3, .int 0])), (p4, .inr (6, [.ref dk, .ref y4, .int 0])), (p5, .inr (6, [.ref dk, .ref y5, .int 0])), (p6, .inr (6, [.ref dk, .ref y6, .int 0])), (p7, .inr (6, [.ref dk, .ref y7, .int 0])), (p8, .inr (6, [.ref dk, .ref y8, .int 0]))] ∧ nx_K U)) (va_Qv (fun _ : Unit => True) (fun _ t => va_P (dC, dI) classes [(h0, .inr (8, [.ref tp, .int 0, .int 0, .int 0, .int wx, .int wy, .int 0, .ref r_left, .ref r_right, .ref r_told, .ref r_curve, .int 0, .int 0, .int 0, .int 0, .ref r_steps, .int 0, .ref r_stack, .int 0])), (r_left, .inr (2, [.ref x_c])), (x_c, .inl (cL, 9, .inr (.inr (.inr (.inr fc))))), (p0, .inr (6, [.ref dk, .ref y0, .int 0])), (p1, .inr (6, [.ref dk, .ref y1, .int 0])), (p2, .inr (6, [.ref dk, .ref y2, .int 0])), (p3, .inr (6, [.ref dk, .ref y3, .int 0])), (p4, .inr (6, [.ref dk, .ref y4, .int 0])), (p5, .inr (6, [.ref dk, .ref y5, .int 0])), (p6, .inr (6, [.ref dk, .ref y6, .int 0])), (p7, .inr (6, [.ref dk, .ref y7, .int 0])), (p8, .inr (6, [.ref dk, .ref y8, .int 0]))] t.heap ∧ va_K (dC, dI) classes [(cL, .object "RealHouse$Poly")] t ∧ va_D (va_A [(h0, .inr (8, [.ref tp, .int 0, .int 0, .int (-1), .int wx, .int wy, .int 0, .ref r_left, .ref r_right, .ref r_told, .ref r_curve, .int 0, .int 0, .int 0, .int 0, .ref r_steps, .int 0, .ref r_stack, .int 0])), (r_left, .inr (2, [.ref x_c])), (x_c, .inl (cL, 9, .inr (.inr (.inr (.inr fc))))), (p0, .inr (6, [.ref dk, .ref y0, .int 0])), (p1, .inr (6, [.ref dk, .ref y1, .int 0])), (p2, .inr (6, [.ref dk, .ref y2, .int 0])), (p3, .inr (6, [.ref dk, .ref y3, .int 0])), (p4, .inr (6, [.ref dk, .ref y4, .int 0])), (p5, .inr (6, [.ref dk, .ref y5, .int 0])), (p6, .inr (6, [.ref dk, .ref y6, .int 0])), (p7, .inr (6, [.ref dk, .ref y7, .int 0])), (p8, .inr (6, [.ref dk, .ref y8, .int 0]))] sz) [(h0, .inr (8, [.ref tp, .int 0, .int 0, .int 0, .int wx, .int wy, .int 0, .ref r_left, .ref r_right, .ref r_told, .ref r_curve, .int 0, .int 0, .int 0, .int 0, .ref r_steps, .int 0, .ref r_stack, .int 0])), (r_left, .inr (2, [.ref x_c])), (x_c, .inl (cL, 9, .inr (.inr (.inr (.inr fc))))), (p0, .inr (6, [.ref dk, .ref y0, .int 0])), (p1, .inr (6, [.ref dk, .ref y1, .int 0])), (p2, .inr (6, [.ref dk, .ref y2, .int 0])), (p3, .inr (6, [.ref dk, .ref y3, .int 0])), (p4, .inr (6, [.ref dk, .ref y4, .int 0])), (p5, .inr (6, [.ref dk, .ref y5, .int 0])), (p6, .inr (6, [.ref dk, .ref y6, .int 0])), (p7, .inr (6, [.ref dk, .ref y7, .int 0])), (p8, .inr (6, [.ref dk, .ref y8, .int 0]))]) (va_A [(h0, .inr (8, [.ref tp, .int 0, .int 0, .int (-1), .int wx, .int wy, .int 0, .ref r_left, .ref r_right, .ref r_told, .ref r_curve, .int 0, .int 0, .int 0, .int 0, .ref r_steps, .int 0, .ref r_stack, .int 0])), (r_left, .inr (2, [.ref x_c])), (x_c, .inl (cL, 9, .inr (.inr (.inr (.inr fc))))), (p0, .inr (6, [.ref dk, .ref y0, .int 0])), (p1, .inr (6, [.ref dk, .ref y1, .int 0])), (p2, .inr (6, [.ref dk, .ref y2, .int 0])), (p3, .inr (6, [.ref dk, .ref y3, .int 0])), (p4, .inr (6, [.ref dk, .ref y4, .int 0])), (p5, .inr (6, [.ref dk, .ref y5, .int 0])), (p6, .inr (6, [.ref dk, .ref y6, .int 0])), (p7, .inr (6, [.ref dk, .ref y7, .int 0])), (p8, .inr (6, [.ref dk, .ref y8, .int 0]))] sz)) 0 0 (va_A [(h0, .inr (8, [.ref tp, .int 0, .int 0, .int (-1), .int wx, .int wy, .int 0, .ref r_left, .ref r_right, .ref r_told, .ref r_curve, .int 0, .int 0, .int 0, .int 0, .ref r_steps, .int 0, .ref r_stack, .int 0])), (r_left, .inr (2, [.ref x_c])), (x_c, .inl (cL, 9, .inr (.inr (.inr (.inr fc))))), (p0, .inr (6, [.ref dk, .ref y0, .int 0])), (p1, .inr (6, [.ref dk, .ref y1, .int 0])), (p2, .inr (6, [.ref dk, .ref y2, .int 0])), (p3, .inr (6, [.ref dk, .ref y3, .int 0])), (p4, .inr (6, [.ref dk, .ref y4, .int 0])), (p5, .inr (6, [.ref dk, .ref y5, .int 0])), (p6, .inr (6, [.ref dk, .ref y6, .int 0])), (p7, .inr (6, [.ref dk, .ref y7, .int 0])), (p8, .inr (6, [.ref dk, .ref y8, .int 0]))] sz) := by
  refine Met.ofW (cc := b_Reader_readPoly) (maxL := 5) (ret := none) (by decide) rfl ?_
  intro p e s m args below meth c s₁ B hml hv
  obtain ⟨rfl, hsz, hP, hK, hD0, hN⟩ := hv
  have hx := B.exec
  have hb := B.bytes
  have hr := B.returns
  have hT : ∀ w ∈ lw_g, w.before _ s = true := fun w h => atoms_spec (ws := w_Reader_readPoly) B.pre w (List.mem_cons_of_mem _ h)
  have hown : s.vm.findClass R_Reader = some m.cls := findClass_of_methodNamed B.named
  have hlocks := B.notSynchronized
  subst hsz
  have hD := hD0.self (sz := s.heap.size)
  generalize hAe : va_A [(h0, .inr (8, [.ref tp, .int 0, .int 0, .int (-1), .int wx, .int wy, .int 0, .ref r_left, .ref r_right, .ref r_told, .ref r_curve, .int 0, .int 0, .int 0, .int 0, .ref r_steps, .int 0, .ref r_stack, .int 0])), (r_left, .inr (2, [.ref x_c])), (x_c, .inl (cL, 9, .inr (.inr (.inr (.inr fc))))), (p0, .inr (6, [.ref dk, .ref y0, .int 0])), (p1, .inr (6, [.ref dk, .ref y1, .int 0])), (p2, .inr (6, [.ref dk, .ref y2, .int 0])), (p3, .inr (6, [.ref dk, .ref y3, .int 0])), (p4, .inr (6, [.ref dk, .ref y4, .int 0])), (p5, .inr (6, [.ref dk, .ref y5, .int 0])), (p6, .inr (6, [.ref dk, .ref y6, .int 0])), (p7, .inr (6, [.ref dk, .ref y7, .int 0])), (p8, .inr (6, [.ref dk, .ref y8, .int 0]))] s.heap.size = A at hD ⊢
  have hA : ∀ q : Nat, s.heap.size ≤ q → A q := fun q h => by rw [← hAe]; exact Or.inr h
  have hS : va_S A s.heap s.heap [] := va_S.rf
  have hP : va_P (dC, dI) classes [(h0, .inr (8, [.ref tp, .int 0, .int 0, .int (-1), .int wx, .int wy, .int 0, .ref r_left, .ref r_right, .ref r_told, .ref r_curve, .int 0, .int 0, .int 0, .int 0, .ref r_steps, .int 0, .ref r_stack, .int 0])), (r_left, .inr (2, [.ref x_c])), (x_c, .inl (cL, 9, .inr (.inr (.inr (.inr fc))))), (p0, .inr (6, [.ref dk, .ref y0, .int 0])), (p1, .inr (6, [.ref dk, .ref y1, .int 0])), (p2, .inr (6, [.ref dk, .ref y2, .int 0])), (p3, .inr (6, [.ref dk, .ref y3, .int 0])), (p4, .inr (6, [.ref dk, .ref y4, .int 0])), (p5, .inr (6, [.ref dk, .ref y5, .int 0])), (p6, .inr (6, [.ref dk, .ref y6, .int 0])), (p7, .inr (6, [.ref dk, .ref y7, .int 0])), (p8, .inr (6, [.ref dk, .ref y8, .int 0]))] s.heap := hP
  have hl := lv_entry ([.ref h0, .ref r_left]) (n := 5) (Nat.le_of_ble_eq_true rfl)
  rw [lg_entry_eq]
  generalize (lg_sl ([.ref h0, .ref r_left]) ++ List.replicate (5 - (lg_sl ([.ref h0, .ref r_left])).length) Slot.unset).toArray = ls at hl ⊢
  have hl : lv_has ls 5 [(0, .ref h0), (1, .ref r_left)] := hl
  refine lv_aload_n hx hb d_Reader_readPoly_0 rfl (lv_at hl 1 rfl) ?_
  have hPc := hP.sub (ws' := [(r_left, .inr (2, [.ref x_c])), (x_c, .inl (cL, 9, .inr (.inr (.inr (.inr fc))))), (p0, .inr (6, [.ref dk, .ref y0, .int 0])), (p1, .inr (6, [.ref dk, .ref y1, .int 0])), (p2, .inr (6, [.ref dk, .ref y2, .int 0])), (p3, .inr (6, [.ref dk, .ref y3, .int 0])), (p4, .inr (6, [.ref dk, .ref y4, .int 0])), (p5, .inr (6, [.ref dk, .ref y5, .int 0])), (p6, .inr (6, [.ref dk, .ref y6, .int 0])), (p7, .inr (6, [.ref dk, .ref y7, .int 0])), (p8, .inr (6, [.ref dk, .ref y8, .int 0]))]) [1, 2, 3, 4, 5, 6, 7, 8, 9, 10, 11] rfl
  have hDc := hD.sub (ws' := [(r_left, .inr (2, [.ref x_c])), (x_c, .inl (cL, 9, .inr (.inr (.inr (.inr fc))))), (p0, .inr (6, [.ref dk, .ref y0, .int 0])), (p1, .inr (6, [.ref dk, .ref y1, .int 0])), (p2, .inr (6, [.ref dk, .ref y2, .int 0])), (p3, .inr (6, [.ref dk, .ref y3, .int 0])), (p4, .inr (6, [.ref dk, .ref y4, .int 0])), (p5, .inr (6, [.ref dk, .ref y5, .int 0])), (p6, .inr (6, [.ref dk, .ref y6, .int 0])), (p7, .inr (6, [.ref dk, .ref y7, .int 0])), (p8, .inr (6, [.ref dk, .ref y8, .int 0]))]) [1, 2, 3, 4, 5, 6, 7, 8, 9, 10, 11] (by decide) rfl
  have hKc := hK.sub (tys' := [(cL, .object "RealHouse$Poly")]) [0] rfl
  have hFc := va_free (wc := [(r_left, .inr (2, [.ref x_c])), (x_c, .inl (cL, 9, .inr (.inr (.inr (.inr fc))))), (p0, .inr (6, [.ref dk, .ref y0, .int 0])), (p1, .inr (6, [.ref dk, .ref y1, .int 0])), (p2, .inr (6, [.ref dk, .ref y2, .int 0])), (p3, .inr (6, [.ref dk, .ref y3, .int 0])), (p4, .inr (6, [.ref dk, .ref y4, .int 0])), (p5, .inr (6, [.ref dk, .ref y5, .int 0])), (p6, .inr (6, [.ref dk, .ref y6, .int 0])), (p7, .inr (6, [.ref dk, .ref y7, .int 0])), (p8, .inr (6, [.ref dk, .ref y8, .int 0]))]) hD hS hA [1, 2, 3, 4, 5, 6, 7, 8, 9, 10, 11] rfl
  refine va_callv (va_runV (As := []) (rest := []) ⟨hx, hb, hml, hown, hT⟩ (c_Curve_clear_0 l dC dI s.heap.size r_left x_c cL fc dk p0 p1 p2 p3 p4 p5 p6 p7 p8 y0 y1 y2 y3 y4 y5 y6 y7 y8 hF) (cwV 0 hT (tb_goodV g_Curve_clear tw_714 tw_715 tw_716 tw_7) rfl rfl rfl (by decide +kernel) ⟨Nat.le_of_ble_eq_true rfl, Nat.le_of_ble_eq_true rfl⟩) ⟨fun a U g mk q => by obtain ⟨q0, q1, qP, qK, qD, qN⟩ := q; exact ⟨q0, q1, qP, va_K.moved (u := U) (U := U.calling g mk a) (Vm.Alike.refl U.vm) qK, qD, nx_K.same (u := U) (U := U.calling g mk a) rfl qN⟩, va_recv hKc hPc (ci := 2) (q0 := 0) rfl rfl, fun U hU hW => ⟨rfl, by rw [hU], by rw [hU]; exact hPc, va_K.moved hW.alike hKc, hDc.weaken (fun _ _ _ _ => trivial), nx_K.warm hW hN⟩⟩ rfl rfl hl.1 rfl (lv_room (Nat.le_of_ble_eq_true rfl)) d_Reader_readPoly_1 ⟨Nat.le_of_ble_eq_true rfl, Nat.le_of_ble_eq_true rfl⟩) hS (fun q _ h => hFc q h) hFc (fun u t H1 locs ht hvm hw hB hz1 hk1 hS => ?_)
  obtain ⟨hP1, hK1, hD1⟩ := hB
  rw [ht] at hP1
  have hK1 := va_K.moved hvm.symm hK1
  obtain ⟨hP, hD⟩ := va_join (wr := [(h0, .inr (8, [.ref tp, .int 0, .int 0, .int (-1), .int wx, .int wy, .int 0, .ref r_left, .ref r_right, .ref r_told, .ref r_curve, .int 0, .int 0, .int 0, .int 0, .ref r_steps, .int 0, .ref r_stack, .int 0]))]) (w1 := [(r_left, .inr (2, [.ref x_c])), (x_c, .inl (cL, 9, .inr (.inr (.inr (.inr fc))))), (p0, .inr (6, [.ref dk, .ref y0, .int 0])), (p1, .inr (6, [.ref dk, .ref y1, .int 0])), (p2, .inr (6, [.ref dk, .ref y2, .int 0])), (p3, .inr (6, [.ref dk, .ref y3, .int 0])), (p4, .inr (6, [.ref dk, .ref y4, .int 0])), (p5, .inr (6, [.ref dk, .ref y5, .int 0])), (p6, .inr (6, [.ref dk, .ref y6, .int 0])), (p7, .inr (6, [.ref dk, .ref y7, .int 0])), (p8, .inr (6, [.ref dk, .ref y8, .int 0]))]) hP hD [1, 2, 3, 4, 5, 6, 7, 8, 9, 10, 11] [0] rfl rfl (by decide) (by decide) hk1 hFc hP1 hD1
  have hK := (hK.sub (tys' := []) [] rfl).app hK1
  generalize H1 = H at hP hS ⊢
  have hP : va_P (dC, dI) classes [(h0, .inr (8, [.ref tp, .int 0, .int 0, .int (-1), .int wx, .int wy, .int 0, .ref r_left, .ref r_right, .ref r_told, .ref r_curve, .int 0, .int 0, .int 0, .int 0, .ref r_steps, .int 0, .ref r_stack, .int 0])), (r_left, .inr (2, [.ref x_c])), (x_c, .inl (cL, 9, .inr (.inr (.inr (.inr fc))))), (p0, .inr (6, [.ref dk, .ref y0, .int 0])), (p1, .inr (6, [.ref dk, .ref y1, .int 0])), (p2, .inr (6, [.ref dk, .ref y2, .int 0])), (p3, .inr (6, [.ref dk, .ref y3, .int 0])), (p4, .inr (6, [.ref dk, .ref y4, .int 0])), (p5, .inr (6, [.ref dk, .ref y5, .int 0])), (p6, .inr (6, [.ref dk, .ref y6, .int 0])), (p7, .inr (6, [.ref dk, .ref y7, .int 0])), (p8, .inr (6, [.ref dk, .ref y8, .int 0]))] H := hP
  have hD : va_D A [(h0, .inr (8, [.ref tp, .int 0, .int 0, .int (-1), .int wx, .int wy, .int 0, .ref r_left, .ref r_right, .ref r_told, .ref r_curve, .int 0, .int 0, .int 0, .int 0, .ref r_steps, .int 0, .ref r_stack, .int 0])), (r_left, .inr (2, [.ref x_c])), (x_c, .inl (cL, 9, .inr (.inr (.inr (.inr fc))))), (p0, .inr (6, [.ref dk, .ref y0, .int 0])), (p1, .inr (6, [.ref dk, .ref y1, .int 0])), (p2, .inr (6, [.ref dk, .ref y2, .int 0])), (p3, .inr (6, [.ref dk, .ref y3, .int 0])), (p4, .inr (6, [.ref dk, .ref y4, .int 0])), (p5, .inr (6, [.ref dk, .ref y5, .int 0])), (p6, .inr (6, [.ref dk, .ref y6, .int 0])), (p7, .inr (6, [.ref dk, .ref y7, .int 0])), (p8, .inr (6, [.ref dk, .ref y8, .int 0]))] := hD
  have hK : va_K (dC, dI) classes [(cL, .object "RealHouse$Poly")] s := hK
  refine lv_iconst (v := 1) hx hb d_Reader_readPoly_4 (by decide) ?_
  refine lv_istore_n (lv' := [(2, .int 1), (0, .ref h0), (1, .ref r_left)]) hx hb d_Reader_readPoly_5 rfl hl (by decide) rfl (fun ls hl => ?_)
  refine lv_aload_n hx hb d_Reader_readPoly_6 rfl (lv_at hl 1 rfl) ?_
  have hPc := hP.sub (ws' := [(h0, .inr (8, [.ref tp, .int 0, .int 0, .int (-1), .int wx, .int wy, .int 0, .ref r_left, .ref r_right, .ref r_told, .ref r_curve, .int 0, .int 0, .int 0, .int 0, .ref r_steps, .int 0, .ref r_stack, .int 0]))]) [0] rfl
  have hDc := hD.sub (ws' := [(h0, .inr (8, [.ref tp, .int 0, .int 0, .int (-1), .int wx, .int wy, .int 0, .ref r_left, .ref r_right, .ref r_told, .ref r_curve, .int 0, .int 0, .int 0, .int 0, .ref r_steps, .int 0, .ref r_stack, .int 0]))]) [0] (by decide) rfl
  have hKc := hK.sub (tys' := []) [] rfl
  have hFc := va_free (wc := [(h0, .inr (8, [.ref tp, .int 0, .int 0, .int (-1), .int wx, .int wy, .int 0, .ref r_left, .ref r_right, .ref r_told, .ref r_curve, .int 0, .int 0, .int 0, .int 0, .ref r_steps, .int 0, .ref r_stack, .int 0]))]) hD hS hA [0] rfl
  refine va_calli (va_runV (As := []) (rest := []) ⟨hx, hb, hml, hown, hT⟩ (c_Reader_next_0 l dC dI H.size h0 tp r_left r_right r_told r_curve r_steps r_stack (-1) wx wy ) (cwV 0 hT (tb_goodV g_Reader_next tw_718 tw_720 (tb_sel (q := (⟨"RealHouse$Reader", "next", "()I"⟩, 19)) (i := 3) (by decide +kernel)) tw_6) rfl rfl rfl (by decide +kernel) ⟨Nat.le_of_ble_eq_true rfl, Nat.le_of_ble_eq_true rfl⟩) ⟨fun a U g mk q => by obtain ⟨q0, q1, qP, qK, qD, qN⟩ := q; exact ⟨q0, q1, qP, va_K.moved (u := U) (U := U.calling g mk a) (Vm.Alike.refl U.vm) qK, qD, nx_K.same (u := U) (U := U.calling g mk a) rfl qN⟩, va_recv hKc hPc (ci := 8) (q0 := 0) rfl rfl, fun U hU hW => ⟨rfl, by rw [hU], by rw [hU]; exact hPc, va_K.moved hW.alike hKc, hDc.weaken (fun _ _ _ _ => trivial), nx_K.warm hW hN⟩⟩ rfl rfl hl.1 rfl (lv_room (Nat.le_of_ble_eq_true rfl)) d_Reader_readPoly_7 ⟨Nat.le_of_ble_eq_true rfl, Nat.le_of_ble_eq_true rfl⟩) hS (fun q _ h => hFc q h) hFc (fun r_1 u t H1 locs ht hvm hw hB hz1 hk1 hS => ?_)
  obtain ⟨hP1, hK1, hD1⟩ := hB
  rw [ht] at hP1
  have hK1 := va_K.moved hvm.symm hK1
  obtain rfl : r_1 = (-1) := hw
  obtain ⟨hP, hD⟩ := va_join (wr := [(r_left, .inr (2, [.ref x_c])), (x_c, .inl (cL, 9, .inr (.inr (.inr (.inr fc))))), (p0, .inr (6, [.ref dk, .ref y0, .int 0])), (p1, .inr (6, [.ref dk, .ref y1, .int 0])), (p2, .inr (6, [.ref dk, .ref y2, .int 0])), (p3, .inr (6, [.ref dk, .ref y3, .int 0])), (p4, .inr (6, [.ref dk, .ref y4, .int 0])), (p5, .inr (6, [.ref dk, .ref y5, .int 0])), (p6, .inr (6, [.ref dk, .ref y6, .int 0])), (p7, .inr (6, [.ref dk, .ref y7, .int 0])), (p8, .inr (6, [.ref dk, .ref y8, .int 0]))]) (w1 := [(h0, .inr (8, [.ref tp, .int 0, .int 0, .int (-1), .int wx, .int wy, .int 0, .ref r_left, .ref r_right, .ref r_told, .ref r_curve, .int 0, .int 0, .int 0, .int 0, .ref r_steps, .int 0, .ref r_stack, .int 0]))]) hP hD [0] [1, 2, 3, 4, 5, 6, 7, 8, 9, 10, 11] rfl rfl (by decide) (by decide) hk1 hFc hP1 hD1
  have hK := (hK.sub (tys' := [(cL, .object "RealHouse$Poly")]) [0] rfl).app hK1
  generalize H1 = H at hP hS ⊢
  have hP : va_P (dC, dI) classes [(r_left, .inr (2, [.ref x_c])), (x_c, .inl (cL, 9, .inr (.inr (.inr (.inr fc))))), (p0, .inr (6, [.ref dk, .ref y0, .int 0])), (p1, .inr (6, [.ref dk, .ref y1, .int 0])), (p2, .inr (6, [.ref dk, .ref y2, .int 0])), (p3, .inr (6, [.ref dk, .ref y3, .int 0])), (p4, .inr (6, [.ref dk, .ref y4, .int 0])), (p5, .inr (6, [.ref dk, .ref y5, .int 0])), (p6, .inr (6, [.ref dk, .ref y6, .int 0])), (p7, .inr (6, [.ref dk, .ref y7, .int 0])), (p8, .inr (6, [.ref dk, .ref y8, .int 0])), (h0, .inr (8, [.ref tp, .int 0, .int 0, .int (-1), .int wx, .int wy, .int 0, .ref r_left, .ref r_right, .ref r_told, .ref r_curve, .int 0, .int 0, .int 0, .int 0, .ref r_steps, .int 0, .ref r_stack, .int 0]))] H := hP
  have hD : va_D A [(r_left, .inr (2, [.ref x_c])), (x_c, .inl (cL, 9, .inr (.inr (.inr (.inr fc))))), (p0, .inr (6, [.ref dk, .ref y0, .int 0])), (p1, .inr (6, [.ref dk, .ref y1, .int 0])), (p2, .inr (6, [.ref dk, .ref y2, .int 0])), (p3, .inr (6, [.ref dk, .ref y3, .int 0])), (p4, .inr (6, [.ref dk, .ref y4, .int 0])), (p5, .inr (6, [.ref dk, .ref y5, .int 0])), (p6, .inr (6, [.ref dk, .ref y6, .int 0])), (p7, .inr (6, [.ref dk, .ref y7, .int 0])), (p8, .inr (6, [.ref dk, .ref y8, .int 0])), (h0, .inr (8, [.ref tp, .int 0, .int 0, .int (-1), .int wx, .int wy, .int 0, .ref r_left, .ref r_right, .ref r_told, .ref r_curve, .int 0, .int 0, .int 0, .int 0, .ref r_steps, .int 0, .ref r_stack, .int 0]))] := hD
  have hK : va_K (dC, dI) classes [(cL, .object "RealHouse$Poly")] s := hK
  refine lv_bipush (v := 45) hx hb d_Reader_readPoly_10 (by decide) ?_
  refine lv_icmp_ne (tgt := 27) hx hb d_Reader_readPoly_12 (by decide) (fun c_2 => ?_) (fun c_2 => absurd c_2 (by decide))
  refine lv_iconst (v := 0) hx hb d_Reader_readPoly_27 (by decide) ?_
  refine lv_istore_n (lv' := [(3, .int 0), (2, .int 1), (0, .ref h0), (1, .ref r_left)]) hx hb d_Reader_readPoly_28 rfl hl (by decide) rfl (fun ls hl => ?_)
  refine lv_iload_n hx hb d_Reader_readPoly_29 rfl (lv_at hl 0 rfl) ?_
  refine lv_sipush (v := 400) hx hb d_Reader_readPoly_30 (by decide) ?_
  refine lv_icmp_ge (tgt := 99) hx hb d_Reader_readPoly_33 (by decide) (fun c_3 => absurd c_3 (by decide)) (fun c_3 => ?_)
  refine lv_aload_n hx hb d_Reader_readPoly_36 rfl (lv_at hl 2 rfl) ?_
  refine va_get (D := (dC, dI)) (ci := 8) (v := .int (-1)) (C := R_Reader) (T := F_Reader) (N := 19) hx hb hT i_Reader hown hK hP 11 rfl rfl 3 (by decide) (hT _ tw_236) (fun _ h9 => h9) rfl d_Reader_readPoly_37 ?_
  refine lv_if_ge (tgt := 99) hx hb d_Reader_readPoly_40 (by decide) (fun c_4 => absurd c_4 (by decide)) (fun c_4 => ?_)
  refine lv_aload_n hx hb d_Reader_readPoly_43 rfl (lv_at hl 2 rfl) ?_
  refine lv_aload_n hx hb d_Reader_readPoly_44 rfl (lv_at hl 3 rfl) ?_
  refine lv_iload_n hx hb d_Reader_readPoly_45 rfl (lv_at hl 1 rfl) ?_
  have hPc := hP.sub (ws' := [(h0, .inr (8, [.ref tp, .int 0, .int 0, .int (-1), .int wx, .int wy, .int 0, .ref r_left, .ref r_right, .ref r_told, .ref r_curve, .int 0, .int 0, .int 0, .int 0, .ref r_steps, .int 0, .ref r_stack, .int 0]))]) [11] rfl
  have hDc := hD.sub (ws' := [(h0, .inr (8, [.ref tp, .int 0, .int 0, .int (-1), .int wx, .int wy, .int 0, .ref r_left, .ref r_right, .ref r_told, .ref r_curve, .int 0, .int 0, .int 0, .int 0, .ref r_steps, .int 0, .ref r_stack, .int 0]))]) [11] (by decide) rfl
  have hKc := hK.sub (tys' := []) [] rfl
  have hFc := va_free (wc := [(h0, .inr (8, [.ref tp, .int 0, .int 0, .int (-1), .int wx, .int wy, .int 0, .ref r_left, .ref r_right, .ref r_told, .ref r_curve, .int 0, .int 0, .int 0, .int 0, .ref r_steps, .int 0, .ref r_stack, .int 0]))]) hD hS hA [11] rfl
  refine va_callv (va_runV (As := [.ref r_left, .int 1]) (rest := []) ⟨hx, hb, hml, hown, hT⟩ (c_Reader_readTerm_0 l dC dI H.size h0 tp r_left r_right r_told r_curve r_steps r_stack wx wy r_left 1 ) (cwV 2 hT (tb_goodV g_Reader_readTerm tw_722 tw_724 (tb_sel (q := (⟨"RealHouse$Reader", "readTerm", "(LRealHouse$Curve;I)V"⟩, 19)) (i := 4) (by decide +kernel)) tw_6) rfl rfl rfl (by decide +kernel) ⟨Nat.le_of_ble_eq_true rfl, Nat.le_of_ble_eq_true rfl⟩) ⟨fun a U g mk q => by obtain ⟨q0, q1, qP, qK, qD, qN⟩ := q; exact ⟨q0, q1, qP, va_K.moved (u := U) (U := U.calling g mk a) (Vm.Alike.refl U.vm) qK, qD, nx_K.same (u := U) (U := U.calling g mk a) rfl qN⟩, va_recv hKc hPc (ci := 8) (q0 := 0) rfl rfl, fun U hU hW => ⟨rfl, by rw [hU], by rw [hU]; exact hPc, va_K.moved hW.alike hKc, hDc.weaken (fun _ _ _ _ => trivial), nx_K.warm hW hN⟩⟩ rfl rfl hl.1 rfl (lv_room (Nat.le_of_ble_eq_true rfl)) d_Reader_readPoly_46 ⟨Nat.le_of_ble_eq_true rfl, Nat.le_of_ble_eq_true rfl⟩) hS (fun q _ h => hFc q h) hFc (fun u t H1 locs ht hvm hw hB hz1 hk1 hS => ?_)
  obtain ⟨hP1, hK1, hD1⟩ := hB
  rw [ht] at hP1
  have hK1 := va_K.moved hvm.symm hK1
  obtain ⟨hP, hD⟩ := va_join (wr := [(r_left, .inr (2, [.ref x_c])), (x_c, .inl (cL, 9, .inr (.inr (.inr (.inr fc))))), (p0, .inr (6, [.ref dk, .ref y0, .int 0])), (p1, .inr (6, [.ref dk, .ref y1, .int 0])), (p2, .inr (6, [.ref dk, .ref y2, .int 0])), (p3, .inr (6, [.ref dk, .ref y3, .int 0])), (p4, .inr (6, [.ref dk, .ref y4, .int 0])), (p5, .inr (6, [.ref dk, .ref y5, .int 0])), (p6, .inr (6, [.ref dk, .ref y6, .int 0])), (p7, .inr (6, [.ref dk, .ref y7, .int 0])), (p8, .inr (6, [.ref dk, .ref y8, .int 0]))]) (w1 := [(h0, .inr (8, [.ref tp, .int 0, .int 0, .int 0, .int wx, .int wy, .int 0, .ref r_left, .ref r_right, .ref r_told, .ref r_curve, .int 0, .int 0, .int 0, .int 0, .ref r_steps, .int 0, .ref r_stack, .int 0]))]) hP hD [11] [0, 1, 2, 3, 4, 5, 6, 7, 8, 9, 10] rfl rfl (by decide) (by decide) hk1 hFc hP1 hD1
  have hK := (hK.sub (tys' := [(cL, .object "RealHouse$Poly")]) [0] rfl).app hK1
  generalize H1 = H at hP hS ⊢
  have hP : va_P (dC, dI) classes [(r_left, .inr (2, [.ref x_c])), (x_c, .inl (cL, 9, .inr (.inr (.inr (.inr fc))))), (p0, .inr (6, [.ref dk, .ref y0, .int 0])), (p1, .inr (6, [.ref dk, .ref y1, .int 0])), (p2, .inr (6, [.ref dk, .ref y2, .int 0])), (p3, .inr (6, [.ref dk, .ref y3, .int 0])), (p4, .inr (6, [.ref dk, .ref y4, .int 0])), (p5, .inr (6, [.ref dk, .ref y5, .int 0])), (p6, .inr (6, [.ref dk, .ref y6, .int 0])), (p7, .inr (6, [.ref dk, .ref y7, .int 0])), (p8, .inr (6, [.ref dk, .ref y8, .int 0])), (h0, .inr (8, [.ref tp, .int 0, .int 0, .int 0, .int wx, .int wy, .int 0, .ref r_left, .ref r_right, .ref r_told, .ref r_curve, .int 0, .int 0, .int 0, .int 0, .ref r_steps, .int 0, .ref r_stack, .int 0]))] H := hP
  have hD : va_D A [(r_left, .inr (2, [.ref x_c])), (x_c, .inl (cL, 9, .inr (.inr (.inr (.inr fc))))), (p0, .inr (6, [.ref dk, .ref y0, .int 0])), (p1, .inr (6, [.ref dk, .ref y1, .int 0])), (p2, .inr (6, [.ref dk, .ref y2, .int 0])), (p3, .inr (6, [.ref dk, .ref y3, .int 0])), (p4, .inr (6, [.ref dk, .ref y4, .int 0])), (p5, .inr (6, [.ref dk, .ref y5, .int 0])), (p6, .inr (6, [.ref dk, .ref y6, .int 0])), (p7, .inr (6, [.ref dk, .ref y7, .int 0])), (p8, .inr (6, [.ref dk, .ref y8, .int 0])), (h0, .inr (8, [.ref tp, .int 0, .int 0, .int 0, .int wx, .int wy, .int 0, .ref r_left, .ref r_right, .ref r_told, .ref r_curve, .int 0, .int 0, .int 0, .int 0, .ref r_steps, .int 0, .ref r_stack, .int 0]))] := hD
  have hK : va_K (dC, dI) classes [(cL, .object "RealHouse$Poly")] s := hK
  refine lv_aload_n hx hb d_Reader_readPoly_49 rfl (lv_at hl 2 rfl) ?_
  have hPc := hP.sub (ws' := [(h0, .inr (8, [.ref tp, .int 0, .int 0, .int 0, .int wx, .int wy, .int 0, .ref r_left, .ref r_right, .ref r_told, .ref r_curve, .int 0, .int 0, .int 0, .int 0, .ref r_steps, .int 0, .ref r_stack, .int 0]))]) [11] rfl
  have hDc := hD.sub (ws' := [(h0, .inr (8, [.ref tp, .int 0, .int 0, .int 0, .int wx, .int wy, .int 0, .ref r_left, .ref r_right, .ref r_told, .ref r_curve, .int 0, .int 0, .int 0, .int 0, .ref r_steps, .int 0, .ref r_stack, .int 0]))]) [11] (by decide) rfl
  have hKc := hK.sub (tys' := []) [] rfl
  have hFc := va_free (wc := [(h0, .inr (8, [.ref tp, .int 0, .int 0, .int 0, .int wx, .int wy, .int 0, .ref r_left, .ref r_right, .ref r_told, .ref r_curve, .int 0, .int 0, .int 0, .int 0, .ref r_steps, .int 0, .ref r_stack, .int 0]))]) hD hS hA [11] rfl
  refine va_calli (va_runV (As := []) (rest := []) ⟨hx, hb, hml, hown, hT⟩ (c_Reader_next_0 l dC dI H.size h0 tp r_left r_right r_told r_curve r_steps r_stack 0 wx wy ) (cwV 0 hT (tb_goodV g_Reader_next tw_718 tw_720 (tb_sel (q := (⟨"RealHouse$Reader", "next", "()I"⟩, 19)) (i := 3) (by decide +kernel)) tw_6) rfl rfl rfl (by decide +kernel) ⟨Nat.le_of_ble_eq_true rfl, Nat.le_of_ble_eq_true rfl⟩) ⟨fun a U g mk q => by obtain ⟨q0, q1, qP, qK, qD, qN⟩ := q; exact ⟨q0, q1, qP, va_K.moved (u := U) (U := U.calling g mk a) (Vm.Alike.refl U.vm) qK, qD, nx_K.same (u := U) (U := U.calling g mk a) rfl qN⟩, va_recv hKc hPc (ci := 8) (q0 := 0) rfl rfl, fun U hU hW => ⟨rfl, by rw [hU], by rw [hU]; exact hPc, va_K.moved hW.alike hKc, hDc.weaken (fun _ _ _ _ => trivial), nx_K.warm hW hN⟩⟩ rfl rfl hl.1 rfl (lv_room (Nat.le_of_ble_eq_true rfl)) d_Reader_readPoly_50 ⟨Nat.le_of_ble_eq_true rfl, Nat.le_of_ble_eq_true rfl⟩) hS (fun q _ h => hFc q h) hFc (fun r_5 u t H1 locs ht hvm hw hB hz1 hk1 hS => ?_)
  obtain ⟨hP1, hK1, hD1⟩ := hB
  rw [ht] at hP1
  have hK1 := va_K.moved hvm.symm hK1
  obtain rfl : r_5 = (-1) := hw
  obtain ⟨hP, hD⟩ := va_join (wr := [(r_left, .inr (2, [.ref x_c])), (x_c, .inl (cL, 9, .inr (.inr (.inr (.inr fc))))), (p0, .inr (6, [.ref dk, .ref y0, .int 0])), (p1, .inr (6, [.ref dk, .ref y1, .int 0])), (p2, .inr (6, [.ref dk, .ref y2, .int 0])), (p3, .inr (6, [.ref dk, .ref y3, .int 0])), (p4, .inr (6, [.ref dk, .ref y4, .int 0])), (p5, .inr (6, [.ref dk, .ref y5, .int 0])), (p6, .inr (6, [.ref dk, .ref y6, .int 0])), (p7, .inr (6, [.ref dk, .ref y7, .int 0])), (p8, .inr (6, [.ref dk, .ref y8, .int 0]))]) (w1 := [(h0, .inr (8, [.ref tp, .int 0, .int 0, .int 0, .int wx, .int wy, .int 0, .ref r_left, .ref r_right, .ref r_told, .ref r_curve, .int 0, .int 0, .int 0, .int 0, .ref r_steps, .int 0, .ref r_stack, .int 0]))]) hP hD [11] [0, 1, 2, 3, 4, 5, 6, 7, 8, 9, 10] rfl rfl (by decide) (by decide) hk1 hFc hP1 hD1
  have hK := (hK.sub (tys' := [(cL, .object "RealHouse$Poly")]) [0] rfl).app hK1
  generalize H1 = H at hP hS ⊢
  have hP : va_P (dC, dI) classes [(r_left, .inr (2, [.ref x_c])), (x_c, .inl (cL, 9, .inr (.inr (.inr (.inr fc))))), (p0, .inr (6, [.ref dk, .ref y0, .int 0])), (p1, .inr (6, [.ref dk, .ref y1, .int 0])), (p2, .inr (6, [.ref dk, .ref y2, .int 0])), (p3, .inr (6, [.ref dk, .ref y3, .int 0])), (p4, .inr (6, [.ref dk, .ref y4, .int 0])), (p5, .inr (6, [.ref dk, .ref y5, .int 0])), (p6, .inr (6, [.ref dk, .ref y6, .int 0])), (p7, .inr (6, [.ref dk, .ref y7, .int 0])), (p8, .inr (6, [.ref dk, .ref y8, .int 0])), (h0, .inr (8, [.ref tp, .int 0, .int 0, .int 0, .int wx, .int wy, .int 0, .ref r_left, .ref r_right, .ref r_told, .ref r_curve, .int 0, .int 0, .int 0, .int 0, .ref r_steps, .int 0, .ref r_stack, .int 0]))] H := hP
  have hD : va_D A [(r_left, .inr (2, [.ref x_c])), (x_c, .inl (cL, 9, .inr (.inr (.inr (.inr fc))))), (p0, .inr (6, [.ref dk, .ref y0, .int 0])), (p1, .inr (6, [.ref dk, .ref y1, .int 0])), (p2, .inr (6, [.ref dk, .ref y2, .int 0])), (p3, .inr (6, [.ref dk, .ref y3, .int 0])), (p4, .inr (6, [.ref dk, .ref y4, .int 0])), (p5, .inr (6, [.ref dk, .ref y5, .int 0])), (p6, .inr (6, [.ref dk, .ref y6, .int 0])), (p7, .inr (6, [.ref dk, .ref y7, .int 0])), (p8, .inr (6, [.ref dk, .ref y8, .int 0])), (h0, .inr (8, [.ref tp, .int 0, .int 0, .int 0, .int wx, .int wy, .int 0, .ref r_left, .ref r_right, .ref r_told, .ref r_curve, .int 0, .int 0, .int 0, .int 0, .ref r_steps, .int 0, .ref r_stack, .int 0]))] := hD
  have hK : va_K (dC, dI) classes [(cL, .object "RealHouse$Poly")] s := hK
  refine lv_istore (lv' := [(4, .int (-1)), (3, .int 0), (2, .int 1), (0, .ref h0), (1, .ref r_left)]) hx hb d_Reader_readPoly_53 hl (by decide) rfl (fun ls hl => ?_)
  refine lv_iload hx hb d_Reader_readPoly_55 (lv_at hl 0 rfl) ?_
  refine lv_bipush (v := 43) hx hb d_Reader_readPoly_57 (by decide) ?_
  refine lv_icmp_eq (tgt := 70) hx hb d_Reader_readPoly_59 (by decide) (fun c_6 => absurd c_6 (by decide)) (fun c_6 => ?_)
  refine lv_iload hx hb d_Reader_readPoly_62 (lv_at hl 0 rfl) ?_
  refine lv_bipush (v := 45) hx hb d_Reader_readPoly_64 (by decide) ?_
  refine lv_icmp_eq (tgt := 70) hx hb d_Reader_readPoly_66 (by decide) (fun c_7 => absurd c_7 (by decide)) (fun c_7 => ?_)
  have hP9 := hP.sub (ws' := [(h0, .inr (8, [.ref tp, .int 0, .int 0, .int 0, .int wx, .int wy, .int 0, .ref r_left, .ref r_right, .ref r_told, .ref r_curve, .int 0, .int 0, .int 0, .int 0, .ref r_steps, .int 0, .ref r_stack, .int 0])), (r_left, .inr (2, [.ref x_c])), (x_c, .inl (cL, 9, .inr (.inr (.inr (.inr fc))))), (p0, .inr (6, [.ref dk, .ref y0, .int 0])), (p1, .inr (6, [.ref dk, .ref y1, .int 0])), (p2, .inr (6, [.ref dk, .ref y2, .int 0])), (p3, .inr (6, [.ref dk, .ref y3, .int 0])), (p4, .inr (6, [.ref dk, .ref y4, .int 0])), (p5, .inr (6, [.ref dk, .ref y5, .int 0])), (p6, .inr (6, [.ref dk, .ref y6, .int 0])), (p7, .inr (6, [.ref dk, .ref y7, .int 0])), (p8, .inr (6, [.ref dk, .ref y8, .int 0]))]) [11, 0, 1, 2, 3, 4, 5, 6, 7, 8, 9, 10] rfl
  have hD9 := hD.sub (ws' := [(h0, .inr (8, [.ref tp, .int 0, .int 0, .int 0, .int wx, .int wy, .int 0, .ref r_left, .ref r_right, .ref r_told, .ref r_curve, .int 0, .int 0, .int 0, .int 0, .ref r_steps, .int 0, .ref r_stack, .int 0])), (r_left, .inr (2, [.ref x_c])), (x_c, .inl (cL, 9, .inr (.inr (.inr (.inr fc))))), (p0, .inr (6, [.ref dk, .ref y0, .int 0])), (p1, .inr (6, [.ref dk, .ref y1, .int 0])), (p2, .inr (6, [.ref dk, .ref y2, .int 0])), (p3, .inr (6, [.ref dk, .ref y3, .int 0])), (p4, .inr (6, [.ref dk, .ref y4, .int 0])), (p5, .inr (6, [.ref dk, .ref y5, .int 0])), (p6, .inr (6, [.ref dk, .ref y6, .int 0])), (p7, .inr (6, [.ref dk, .ref y7, .int 0])), (p8, .inr (6, [.ref dk, .ref y8, .int 0]))]) [11, 0, 1, 2, 3, 4, 5, 6, 7, 8, 9, 10] (by decide) rfl
  have hK9 := hK.sub (tys' := [(cL, .object "RealHouse$Poly")]) [0] rfl
  exact W.vret hx hb hr (fun t ht hW => ⟨⟨(), rfl, trivial, by rw [ht]; exact hP9, va_K.moved hW.alike hK9, hD9⟩, hS.F ht⟩) hS.2.2 d_Reader_readPoly_69

set_option maxHeartbeats 4000000 in
set_option maxRecDepth 100000 in
/-- readPolys() of an empty text: a fault at 0 -/
theorem c_Reader_readPolys_0 (l : Launch) (dC : Nat → ClassId) (dI : Nat → Nat → Nat) (sz : Nat) (h0 : Nat) (tp : Nat) (r_left : Nat) (r_right : Nat) (r_told : Nat) (r_curve : Nat) (r_steps : Nat) (r_stack : Nat) (wx : Int32) (wy : Int32) (x_c : Nat) (cL : ClassId) (fc : Nat → Option Nat) (dk : Nat) (p0 : Nat) (p1 : Nat) (p2 : Nat) (p3 : Nat) (p4 : Nat) (p5 : Nat) (p6 : Nat) (p7 : Nat) (p8 : Nat) (y0 : Nat) (y1 : Nat) (y2 : Nat) (y3 : Nat) (y4 : Nat) (y5 : Nat) (y6 : Nat) (y7 : Nat) (y8 : Nat) (bo : Int32) (hF : fc 0 = some p0 ∧ fc 1 = some p1 ∧ fc 2 = some p2 ∧ fc 3 = some p3 ∧ fc 4 = some p4 ∧ fc 5 = some p5 ∧ fc 6 = some p6 ∧ fc 7 = some p7 ∧ fc 8 = some p8) : Met l y_Reader_readPolys w_Reader_readPolys ({ frames := 3, cells := 0, slots := 0, locals := 76 }) (va_Pc [.ref h0, .int bo] (fun U => U.heap.size = sz ∧ va_P (dC, dI) classes [(h0, .inr (8, [.ref tp, .int 0, .int 0, .int (-1), .int wx, .int wy, .int 0, .ref r_left, .ref r_right, .ref r_told, .ref r_curve, .int 0, .int 0, .int 0, .int 0, .ref r_steps, .int 0, .ref r_stack, .int 0])), (r_left, .inr (2, [.ref x_c])), (x_c, .inl (cL, 9, .inr (.inr (.inr (.inr fc))))), (p0, .inr (6, [.ref dk, .ref y0, .int 0])), (p1, .inr (6, [.ref dk, .ref y1, .int 0])), (p2, .inr (6, [.ref dk, .ref y2, .int 0])), (p3, .inr (6, [.ref dk, .ref y3, .int 0])), (p4, .inr (6, [.ref dk, .ref y4, .int 0])), (p5, .inr (6, [.ref dk, .ref y5, .int 0])), (p6, .inr (6, [.ref dk, .ref y6, .int 0])), (p7, .inr (6, [.ref dk, .ref y7, .int 0])), (p8, .inr (6, [.ref dk, .ref y8, .int 0]))] U.heap ∧ va_K (dC, dI) classes [(cL, .object "RealHouse$Poly")] U ∧ va_D (fun _ => True) [(h0, .inr (8, [.ref tp, .int 0, .int 0, .int (-1), .int wx, .int wy, .int 0, .ref r_left, .ref r_right, .ref r_told, .ref r_curve, .int 0, .int 0, .int 0, .int 0, .ref r_steps, .int 0, .ref r_stack, .int 0])), (r_left, .inr (2, [.ref x_c])), (x_c, .inl (cL, 9, .inr (.inr (.inr (.inr fc))))), (p0, .inr (6, [.ref dk, .ref y0, .int 0])), (p1, .inr (6, [.ref dk, .ref y1, .int 0])), (p2, .inr (6, [.ref dk, .ref y2, .int 0])), (p3, .inr (6, [.ref dk, .ref y3, .int 0])), (p4, .inr (6, [.ref dk, .ref y4, .int 0])), (p5, .inr (6, [.ref dk, .ref y5, .int 0])), (p6, .inr (6, [.ref dk, .ref y6, .int 0])), (p7, .inr (6, [.ref dk, .ref y7, .int 0])), (p8, .inr (6, [.ref dk, .ref y8, .int 0]))] ∧ nx_K U)) (va_Qv (fun _ : Unit => True) (fun _ t => va_P (dC, dI) classes [(h0, .inr (8, [.ref tp, .int 0, .int 0, .int 0, .int wx, .int wy, .int 0, .ref r_left, .ref r_right, .ref r_told, .ref r_curve, .int 0, .int 0, .int 0, .int 0, .ref r_steps, .int 0, .ref r_stack, .int 0])), (r_left, .inr (2, [.ref x_c])), (x_c, .inl (cL, 9, .inr (.inr (.inr (.inr fc))))), (p0, .inr (6, [.ref dk, .ref y0, .int 0])), (p1, .inr (6, [.ref dk, .ref y1, .int 0])), (p2, .inr (6, [.ref dk, .ref y2, .int 0])), (p3, .inr (6, [.ref dk, .ref y3, .int 0])), (p4, .inr (6, [.ref dk, .ref y4, .int 0])), (p5, .inr (6, [.ref dk, .ref y5, .int 0])), (p6, .inr (6, [.ref dk, .ref y6, .int 0])), (p7, .inr (6, [.ref dk, .ref y7, .int 0])), (p8, .inr (6, [.ref dk, .ref y8, .int 0]))] t.heap ∧ va_K (dC, dI) classes [(cL, .object "RealHouse$Poly")] t ∧ va_D (va_A [(h0, .inr (8, [.ref tp, .int 0, .int 0, .int (-1), .int wx, .int wy, .int 0, .ref r_left, .ref r_right, .ref r_told, .ref r_curve, .int 0, .int 0, .int 0, .int 0, .ref r_steps, .int 0, .ref r_stack, .int 0])), (r_left, .inr (2, [.ref x_c])), (x_c, .inl (cL, 9, .inr (.inr (.inr (.inr fc))))), (p0, .inr (6, [.ref dk, .ref y0, .int 0])), (p1, .inr (6, [.ref dk, .ref y1, .int 0])), (p2, .inr (6, [.ref dk, .ref y2, .int 0])), (p3, .inr (6, [.ref dk, .ref y3, .int 0])), (p4, .inr (6, [.ref dk, .ref y4, .int 0])), (p5, .inr (6, [.ref dk, .ref y5, .int 0])), (p6, .inr (6, [.ref dk, .ref y6, .int 0])), (p7, .inr (6, [.ref dk, .ref y7, .int 0])), (p8, .inr (6, [.ref dk, .ref y8, .int 0]))] sz) [(h0, .inr (8, [.ref tp, .int 0, .int 0, .int 0, .int wx, .int wy, .int 0, .ref r_left, .ref r_right, .ref r_told, .ref r_curve, .int 0, .int 0, .int 0, .int 0, .ref r_steps, .int 0, .ref r_stack, .int 0])), (r_left, .inr (2, [.ref x_c])), (x_c, .inl (cL, 9, .inr (.inr (.inr (.inr fc))))), (p0, .inr (6, [.ref dk, .ref y0, .int 0])), (p1, .inr (6, [.ref dk, .ref y1, .int 0])), (p2, .inr (6, [.ref dk, .ref y2, .int 0])), (p3, .inr (6, [.ref dk, .ref y3, .int 0])), (p4, .inr (6, [.ref dk, .ref y4, .int 0])), (p5, .inr (6, [.ref dk, .ref y5, .int 0])), (p6, .inr (6, [.ref dk, .ref y6, .int 0])), (p7, .inr (6, [.ref dk, .ref y7, .int 0])), (p8, .inr (6, [.ref dk, .ref y8, .int 0]))]) (va_A [(h0, .inr (8, [.ref tp, .int 0, .int 0, .int (-1), .int wx, .int wy, .int 0, .ref r_left, .ref r_right, .ref r_told, .ref r_curve, .int 0, .int 0, .int 0, .int 0, .ref r_steps, .int 0, .ref r_stack, .int 0])), (r_left, .inr (2, [.ref x_c])), (x_c, .inl (cL, 9, .inr (.inr (.inr (.inr fc))))), (p0, .inr (6, [.ref dk, .ref y0, .int 0])), (p1, .inr (6, [.ref dk, .ref y1, .int 0])), (p2, .inr (6, [.ref dk, .ref y2, .int 0])), (p3, .inr (6, [.ref dk, .ref y3, .int 0])), (p4, .inr (6, [.ref dk, .ref y4, .int 0])), (p5, .inr (6, [.ref dk, .ref y5, .int 0])), (p6, .inr (6, [.ref dk, .ref y6, .int 0])), (p7, .inr (6, [.ref dk, .ref y7, .int 0])), (p8, .inr (6, [.ref dk, .ref y8, .int 0]))] sz)) 0 0 (va_A [(h0, .inr (8, [.ref tp, .int 0, .int 0, .int (-1), .int wx, .int wy, .int 0, .ref r_left, .ref r_right, .ref r_told, .ref r_curve, .int 0, .int 0, .int 0, .int 0, .ref r_steps, .int 0, .ref r_stack, .int 0])), (r_left, .inr (2, [.ref x_c])), (x_c, .inl (cL, 9, .inr (.inr (.inr (.inr fc))))), (p0, .inr (6, [.ref dk, .ref y0, .int 0])), (p1, .inr (6, [.ref dk, .ref y1, .int 0])), (p2, .inr (6, [.ref dk, .ref y2, .int 0])), (p3, .inr (6, [.ref dk, .ref y3, .int 0])), (p4, .inr (6, [.ref dk, .ref y4, .int 0])), (p5, .inr (6, [.ref dk, .ref y5, .int 0])), (p6, .inr (6, [.ref dk, .ref y6, .int 0])), (p7, .inr (6, [.ref dk, .ref y7, .int 0])), (p8, .inr (6, [.ref dk, .ref y8, .int 0]))] sz) := by
  refine Met.ofW (cc := b_Reader_readPolys) (maxL := 2) (ret := none) (by decide) rfl ?_
  intro p e s m args below meth c s₁ B hml hv
  obtain ⟨rfl, hsz, hP, hK, hD0, hN⟩ := hv
  have hx := B.exec
  have hb := B.bytes
  have hr := B.returns
  have hT : ∀ w ∈ lw_g, w.before _ s = true := fun w h => atoms_spec (ws := w_Reader_readPolys) B.pre w (List.mem_cons_of_mem _ h)
  have hown : s.vm.findClass R_Reader = some m.cls := findClass_of_methodNamed B.named
  have hlocks := B.notSynchronized
  subst hsz
  have hD := hD0.self (sz := s.heap.size)
  generalize hAe : va_A [(h0, .inr (8, [.ref tp, .int 0, .int 0, .int (-1), .int wx, .int wy, .int 0, .ref r_left, .ref r_right, .ref r_told, .ref r_curve, .int 0, .int 0, .int 0, .int 0, .ref r_steps, .int 0, .ref r_stack, .int 0])), (r_left, .inr (2, [.ref x_c])), (x_c, .inl (cL, 9, .inr (.inr (.inr (.inr fc))))), (p0, .inr (6, [.ref dk, .ref y0, .int 0])), (p1, .inr (6, [.ref dk, .ref y1, .int 0])), (p2, .inr (6, [.ref dk, .ref y2, .int 0])), (p3, .inr (6, [.ref dk, .ref y3, .int 0])), (p4, .inr (6, [.ref dk, .ref y4, .int 0])), (p5, .inr (6, [.ref dk, .ref y5, .int 0])), (p6, .inr (6, [.ref dk, .ref y6, .int 0])), (p7, .inr (6, [.ref dk, .ref y7, .int 0])), (p8, .inr (6, [.ref dk, .ref y8, .int 0]))] s.heap.size = A at hD ⊢
  have hA : ∀ q : Nat, s.heap.size ≤ q → A q := fun q h => by rw [← hAe]; exact Or.inr h
  have hS : va_S A s.heap s.heap [] := va_S.rf
  have hP : va_P (dC, dI) classes [(h0, .inr (8, [.ref tp, .int 0, .int 0, .int (-1), .int wx, .int wy, .int 0, .ref r_left, .ref r_right, .ref r_told, .ref r_curve, .int 0, .int 0, .int 0, .int 0, .ref r_steps, .int 0, .ref r_stack, .int 0])), (r_left, .inr (2, [.ref x_c])), (x_c, .inl (cL, 9, .inr (.inr (.inr (.inr fc))))), (p0, .inr (6, [.ref dk, .ref y0, .int 0])), (p1, .inr (6, [.ref dk, .ref y1, .int 0])), (p2, .inr (6, [.ref dk, .ref y2, .int 0])), (p3, .inr (6, [.ref dk, .ref y3, .int 0])), (p4, .inr (6, [.ref dk, .ref y4, .int 0])), (p5, .inr (6, [.ref dk, .ref y5, .int 0])), (p6, .inr (6, [.ref dk, .ref y6, .int 0])), (p7, .inr (6, [.ref dk, .ref y7, .int 0])), (p8, .inr (6, [.ref dk, .ref y8, .int 0]))] s.heap := hP
  have hl := lv_entry ([.ref h0, .int bo]) (n := 2) (Nat.le_of_ble_eq_true rfl)
  rw [lg_entry_eq]
  generalize (lg_sl ([.ref h0, .int bo]) ++ List.replicate (2 - (lg_sl ([.ref h0, .int bo])).length) Slot.unset).toArray = ls at hl ⊢
  have hl : lv_has ls 2 [(0, .ref h0), (1, .int bo)] := hl
  refine lv_aload_n hx hb d_Reader_readPolys_0 rfl (lv_at hl 0 rfl) ?_
  refine lv_aload_n hx hb d_Reader_readPolys_1 rfl (lv_at hl 0 rfl) ?_
  refine va_get (D := (dC, dI)) (ci := 8) (v := .ref r_left) (C := R_Reader) (T := F_Reader) (N := 19) hx hb hT i_Reader hown hK hP 0 rfl rfl 7 (by decide) (hT _ tw_242) (fun _ h9 => h9) rfl d_Reader_readPolys_2 ?_
  have hPc := hP.sub (ws' := [(h0, .inr (8, [.ref tp, .int 0, .int 0, .int (-1), .int wx, .int wy, .int 0, .ref r_left, .ref r_right, .ref r_told, .ref r_curve, .int 0, .int 0, .int 0, .int 0, .ref r_steps, .int 0, .ref r_stack, .int 0])), (r_left, .inr (2, [.ref x_c])), (x_c, .inl (cL, 9, .inr (.inr (.inr (.inr fc))))), (p0, .inr (6, [.ref dk, .ref y0, .int 0])), (p1, .inr (6, [.ref dk, .ref y1, .int 0])), (p2, .inr (6, [.ref dk, .ref y2, .int 0])), (p3, .inr (6, [.ref dk, .ref y3, .int 0])), (p4, .inr (6, [.ref dk, .ref y4, .int 0])), (p5, .inr (6, [.ref dk, .ref y5, .int 0])), (p6, .inr (6, [.ref dk, .ref y6, .int 0])), (p7, .inr (6, [.ref dk, .ref y7, .int 0])), (p8, .inr (6, [.ref dk, .ref y8, .int 0]))]) [0, 1, 2, 3, 4, 5, 6, 7, 8, 9, 10, 11] rfl
  have hDc := hD.sub (ws' := [(h0, .inr (8, [.ref tp, .int 0, .int 0, .int (-1), .int wx, .int wy, .int 0, .ref r_left, .ref r_right, .ref r_told, .ref r_curve, .int 0, .int 0, .int 0, .int 0, .ref r_steps, .int 0, .ref r_stack, .int 0])), (r_left, .inr (2, [.ref x_c])), (x_c, .inl (cL, 9, .inr (.inr (.inr (.inr fc))))), (p0, .inr (6, [.ref dk, .ref y0, .int 0])), (p1, .inr (6, [.ref dk, .ref y1, .int 0])), (p2, .inr (6, [.ref dk, .ref y2, .int 0])), (p3, .inr (6, [.ref dk, .ref y3, .int 0])), (p4, .inr (6, [.ref dk, .ref y4, .int 0])), (p5, .inr (6, [.ref dk, .ref y5, .int 0])), (p6, .inr (6, [.ref dk, .ref y6, .int 0])), (p7, .inr (6, [.ref dk, .ref y7, .int 0])), (p8, .inr (6, [.ref dk, .ref y8, .int 0]))]) [0, 1, 2, 3, 4, 5, 6, 7, 8, 9, 10, 11] (by decide) rfl
  have hKc := hK.sub (tys' := [(cL, .object "RealHouse$Poly")]) [0] rfl
  have hFc := va_free (wc := [(h0, .inr (8, [.ref tp, .int 0, .int 0, .int (-1), .int wx, .int wy, .int 0, .ref r_left, .ref r_right, .ref r_told, .ref r_curve, .int 0, .int 0, .int 0, .int 0, .ref r_steps, .int 0, .ref r_stack, .int 0])), (r_left, .inr (2, [.ref x_c])), (x_c, .inl (cL, 9, .inr (.inr (.inr (.inr fc))))), (p0, .inr (6, [.ref dk, .ref y0, .int 0])), (p1, .inr (6, [.ref dk, .ref y1, .int 0])), (p2, .inr (6, [.ref dk, .ref y2, .int 0])), (p3, .inr (6, [.ref dk, .ref y3, .int 0])), (p4, .inr (6, [.ref dk, .ref y4, .int 0])), (p5, .inr (6, [.ref dk, .ref y5, .int 0])), (p6, .inr (6, [.ref dk, .ref y6, .int 0])), (p7, .inr (6, [.ref dk, .ref y7, .int 0])), (p8, .inr (6, [.ref dk, .ref y8, .int 0]))]) hD hS hA [0, 1, 2, 3, 4, 5, 6, 7, 8, 9, 10, 11] rfl
  refine va_callv (va_runV (As := [.ref r_left]) (rest := []) ⟨hx, hb, hml, hown, hT⟩ (c_Reader_readPoly_0 l dC dI s.heap.size h0 tp r_left r_right r_told r_curve r_steps r_stack wx wy x_c cL fc dk p0 p1 p2 p3 p4 p5 p6 p7 p8 y0 y1 y2 y3 y4 y5 y6 y7 y8 hF) (cwV 1 hT (tb_goodV g_Reader_readPoly tw_710 tw_712 (tb_sel (q := (⟨"RealHouse$Reader", "readPoly", "(LRealHouse$Curve;)V"⟩, 19)) (i := 2) (by decide +kernel)) tw_6) rfl rfl rfl (by decide +kernel) ⟨Nat.le_of_ble_eq_true rfl, Nat.le_of_ble_eq_true rfl⟩) ⟨fun a U g mk q => by obtain ⟨q0, q1, qP, qK, qD, qN⟩ := q; exact ⟨q0, q1, qP, va_K.moved (u := U) (U := U.calling g mk a) (Vm.Alike.refl U.vm) qK, qD, nx_K.same (u := U) (U := U.calling g mk a) rfl qN⟩, va_recv hKc hPc (ci := 8) (q0 := 0) rfl rfl, fun U hU hW => ⟨rfl, by rw [hU], by rw [hU]; exact hPc, va_K.moved hW.alike hKc, hDc.weaken (fun _ _ _ _ => trivial), nx_K.warm hW hN⟩⟩ rfl rfl hl.1 rfl (lv_room (Nat.le_of_ble_eq_true rfl)) d_Reader_readPolys_5 ⟨Nat.le_of_ble_eq_true rfl, Nat.le_of_ble_eq_true rfl⟩) hS (fun q _ h => hFc q h) hFc (fun u t H1 locs ht hvm hw hB hz1 hk1 hS => ?_)
  obtain ⟨hP1, hK1, hD1⟩ := hB
  rw [ht] at hP1
  have hK1 := va_K.moved hvm.symm hK1
  obtain ⟨hP, hD⟩ := va_join (wr := []) (w1 := [(h0, .inr (8, [.ref tp, .int 0, .int 0, .int 0, .int wx, .int wy, .int 0, .ref r_left, .ref r_right, .ref r_told, .ref r_curve, .int 0, .int 0, .int 0, .int 0, .ref r_steps, .int 0, .ref r_stack, .int 0])), (r_left, .inr (2, [.ref x_c])), (x_c, .inl (cL, 9, .inr (.inr (.inr (.inr fc))))), (p0, .inr (6, [.ref dk, .ref y0, .int 0])), (p1, .inr (6, [.ref dk, .ref y1, .int 0])), (p2, .inr (6, [.ref dk, .ref y2, .int 0])), (p3, .inr (6, [.ref dk, .ref y3, .int 0])), (p4, .inr (6, [.ref dk, .ref y4, .int 0])), (p5, .inr (6, [.ref dk, .ref y5, .int 0])), (p6, .inr (6, [.ref dk, .ref y6, .int 0])), (p7, .inr (6, [.ref dk, .ref y7, .int 0])), (p8, .inr (6, [.ref dk, .ref y8, .int 0]))]) hP hD [0, 1, 2, 3, 4, 5, 6, 7, 8, 9, 10, 11] [] rfl rfl (by decide) (by decide) hk1 hFc hP1 hD1
  have hK := (hK.sub (tys' := []) [] rfl).app hK1
  generalize H1 = H at hP hS ⊢
  have hP : va_P (dC, dI) classes [(h0, .inr (8, [.ref tp, .int 0, .int 0, .int 0, .int wx, .int wy, .int 0, .ref r_left, .ref r_right, .ref r_told, .ref r_curve, .int 0, .int 0, .int 0, .int 0, .ref r_steps, .int 0, .ref r_stack, .int 0])), (r_left, .inr (2, [.ref x_c])), (x_c, .inl (cL, 9, .inr (.inr (.inr (.inr fc))))), (p0, .inr (6, [.ref dk, .ref y0, .int 0])), (p1, .inr (6, [.ref dk, .ref y1, .int 0])), (p2, .inr (6, [.ref dk, .ref y2, .int 0])), (p3, .inr (6, [.ref dk, .ref y3, .int 0])), (p4, .inr (6, [.ref dk, .ref y4, .int 0])), (p5, .inr (6, [.ref dk, .ref y5, .int 0])), (p6, .inr (6, [.ref dk, .ref y6, .int 0])), (p7, .inr (6, [.ref dk, .ref y7, .int 0])), (p8, .inr (6, [.ref dk, .ref y8, .int 0]))] H := hP
  have hD : va_D A [(h0, .inr (8, [.ref tp, .int 0, .int 0, .int 0, .int wx, .int wy, .int 0, .ref r_left, .ref r_right, .ref r_told, .ref r_curve, .int 0, .int 0, .int 0, .int 0, .ref r_steps, .int 0, .ref r_stack, .int 0])), (r_left, .inr (2, [.ref x_c])), (x_c, .inl (cL, 9, .inr (.inr (.inr (.inr fc))))), (p0, .inr (6, [.ref dk, .ref y0, .int 0])), (p1, .inr (6, [.ref dk, .ref y1, .int 0])), (p2, .inr (6, [.ref dk, .ref y2, .int 0])), (p3, .inr (6, [.ref dk, .ref y3, .int 0])), (p4, .inr (6, [.ref dk, .ref y4, .int 0])), (p5, .inr (6, [.ref dk, .ref y5, .int 0])), (p6, .inr (6, [.ref dk, .ref y6, .int 0])), (p7, .inr (6, [.ref dk, .ref y7, .int 0])), (p8, .inr (6, [.ref dk, .ref y8, .int 0]))] := hD
  have hK : va_K (dC, dI) classes [(cL, .object "RealHouse$Poly")] s := hK
  refine lv_iload_n hx hb d_Reader_readPolys_8 rfl (lv_at hl 1 rfl) ?_
  refine lv_if_eq (tgt := 53) hx hb d_Reader_readPolys_9 (by decide) (fun c_1 => ?_) (fun c_1 => ?_)
  · refine lv_aload_n hx hb d_Reader_readPolys_53 rfl (lv_at hl 0 rfl) ?_
    have hPc := hP.sub (ws' := [(h0, .inr (8, [.ref tp, .int 0, .int 0, .int 0, .int wx, .int wy, .int 0, .ref r_left, .ref r_right, .ref r_told, .ref r_curve, .int 0, .int 0, .int 0, .int 0, .ref r_steps, .int 0, .ref r_stack, .int 0]))]) [0] rfl
    have hDc := hD.sub (ws' := [(h0, .inr (8, [.ref tp, .int 0, .int 0, .int 0, .int wx, .int wy, .int 0, .ref r_left, .ref r_right, .ref r_told, .ref r_curve, .int 0, .int 0, .int 0, .int 0, .ref r_steps, .int 0, .ref r_stack, .int 0]))]) [0] (by decide) rfl
    have hKc := hK.sub (tys' := []) [] rfl
    have hFc := va_free (wc := [(h0, .inr (8, [.ref tp, .int 0, .int 0, .int 0, .int wx, .int wy, .int 0, .ref r_left, .ref r_right, .ref r_told, .ref r_curve, .int 0, .int 0, .int 0, .int 0, .ref r_steps, .int 0, .ref r_stack, .int 0]))]) hD hS hA [0] rfl
    refine va_callv (va_runV (As := []) (rest := []) ⟨hx, hb, hml, hown, hT⟩ (c_Reader_expectEnd_0 l dC dI H.size h0 tp r_left r_right r_told r_curve r_steps r_stack 0 wx wy ) (cwV 0 hT (tb_goodV g_Reader_expectEnd tw_762 tw_764 (tb_sel (q := (⟨"RealHouse$Reader", "expectEnd", "()V"⟩, 19)) (i := 8) (by decide +kernel)) tw_6) rfl rfl rfl (by decide +kernel) ⟨Nat.le_of_ble_eq_true rfl, Nat.le_of_ble_eq_true rfl⟩) ⟨fun a U g mk q => by obtain ⟨q0, q1, qP, qK, qD, qN⟩ := q; exact ⟨q0, q1, qP, va_K.moved (u := U) (U := U.calling g mk a) (Vm.Alike.refl U.vm) qK, qD, nx_K.same (u := U) (U := U.calling g mk a) rfl qN⟩, va_recv hKc hPc (ci := 8) (q0 := 0) rfl rfl, fun U hU hW => ⟨rfl, by rw [hU], by rw [hU]; exact hPc, va_K.moved hW.alike hKc, hDc.weaken (fun _ _ _ _ => trivial), nx_K.warm hW hN⟩⟩ rfl rfl hl.1 rfl (lv_room (Nat.le_of_ble_eq_true rfl)) d_Reader_readPolys_54 ⟨Nat.le_of_ble_eq_true rfl, Nat.le_of_ble_eq_true rfl⟩) hS (fun q _ h => hFc q h) hFc (fun u t H1 locs ht hvm hw hB hz1 hk1 hS => ?_)
    obtain ⟨hP1, hK1, hD1⟩ := hB
    rw [ht] at hP1
    have hK1 := va_K.moved hvm.symm hK1
    obtain ⟨hP, hD⟩ := va_join (wr := [(r_left, .inr (2, [.ref x_c])), (x_c, .inl (cL, 9, .inr (.inr (.inr (.inr fc))))), (p0, .inr (6, [.ref dk, .ref y0, .int 0])), (p1, .inr (6, [.ref dk, .ref y1, .int 0])), (p2, .inr (6, [.ref dk, .ref y2, .int 0])), (p3, .inr (6, [.ref dk, .ref y3, .int 0])), (p4, .inr (6, [.ref dk, .ref y4, .int 0])), (p5, .inr (6, [.ref dk, .ref y5, .int 0])), (p6, .inr (6, [.ref dk, .ref y6, .int 0])), (p7, .inr (6, [.ref dk, .ref y7, .int 0])), (p8, .inr (6, [.ref dk, .ref y8, .int 0]))]) (w1 := [(h0, .inr (8, [.ref tp, .int 0, .int 0, .int 0, .int wx, .int wy, .int 0, .ref r_left, .ref r_right, .ref r_told, .ref r_curve, .int 0, .int 0, .int 0, .int 0, .ref r_steps, .int 0, .ref r_stack, .int 0]))]) hP hD [0] [1, 2, 3, 4, 5, 6, 7, 8, 9, 10, 11] rfl rfl (by decide) (by decide) hk1 hFc hP1 hD1
    have hK := (hK.sub (tys' := [(cL, .object "RealHouse$Poly")]) [0] rfl).app hK1
    generalize H1 = H at hP hS ⊢
    have hP : va_P (dC, dI) classes [(r_left, .inr (2, [.ref x_c])), (x_c, .inl (cL, 9, .inr (.inr (.inr (.inr fc))))), (p0, .inr (6, [.ref dk, .ref y0, .int 0])), (p1, .inr (6, [.ref dk, .ref y1, .int 0])), (p2, .inr (6, [.ref dk, .ref y2, .int 0])), (p3, .inr (6, [.ref dk, .ref y3, .int 0])), (p4, .inr (6, [.ref dk, .ref y4, .int 0])), (p5, .inr (6, [.ref dk, .ref y5, .int 0])), (p6, .inr (6, [.ref dk, .ref y6, .int 0])), (p7, .inr (6, [.ref dk, .ref y7, .int 0])), (p8, .inr (6, [.ref dk, .ref y8, .int 0])), (h0, .inr (8, [.ref tp, .int 0, .int 0, .int 0, .int wx, .int wy, .int 0, .ref r_left, .ref r_right, .ref r_told, .ref r_curve, .int 0, .int 0, .int 0, .int 0, .ref r_steps, .int 0, .ref r_stack, .int 0]))] H := hP
    have hD : va_D A [(r_left, .inr (2, [.ref x_c])), (x_c, .inl (cL, 9, .inr (.inr (.inr (.inr fc))))), (p0, .inr (6, [.ref dk, .ref y0, .int 0])), (p1, .inr (6, [.ref dk, .ref y1, .int 0])), (p2, .inr (6, [.ref dk, .ref y2, .int 0])), (p3, .inr (6, [.ref dk, .ref y3, .int 0])), (p4, .inr (6, [.ref dk, .ref y4, .int 0])), (p5, .inr (6, [.ref dk, .ref y5, .int 0])), (p6, .inr (6, [.ref dk, .ref y6, .int 0])), (p7, .inr (6, [.ref dk, .ref y7, .int 0])), (p8, .inr (6, [.ref dk, .ref y8, .int 0])), (h0, .inr (8, [.ref tp, .int 0, .int 0, .int 0, .int wx, .int wy, .int 0, .ref r_left, .ref r_right, .ref r_told, .ref r_curve, .int 0, .int 0, .int 0, .int 0, .ref r_steps, .int 0, .ref r_stack, .int 0]))] := hD
    have hK : va_K (dC, dI) classes [(cL, .object "RealHouse$Poly")] s := hK
    have hP9 := hP.sub (ws' := [(h0, .inr (8, [.ref tp, .int 0, .int 0, .int 0, .int wx, .int wy, .int 0, .ref r_left, .ref r_right, .ref r_told, .ref r_curve, .int 0, .int 0, .int 0, .int 0, .ref r_steps, .int 0, .ref r_stack, .int 0])), (r_left, .inr (2, [.ref x_c])), (x_c, .inl (cL, 9, .inr (.inr (.inr (.inr fc))))), (p0, .inr (6, [.ref dk, .ref y0, .int 0])), (p1, .inr (6, [.ref dk, .ref y1, .int 0])), (p2, .inr (6, [.ref dk, .ref y2, .int 0])), (p3, .inr (6, [.ref dk, .ref y3, .int 0])), (p4, .inr (6, [.ref dk, .ref y4, .int 0])), (p5, .inr (6, [.ref dk, .ref y5, .int 0])), (p6, .inr (6, [.ref dk, .ref y6, .int 0])), (p7, .inr (6, [.ref dk, .ref y7, .int 0])), (p8, .inr (6, [.ref dk, .ref y8, .int 0]))]) [11, 0, 1, 2, 3, 4, 5, 6, 7, 8, 9, 10] rfl
    have hD9 := hD.sub (ws' := [(h0, .inr (8, [.ref tp, .int 0, .int 0, .int 0, .int wx, .int wy, .int 0, .ref r_left, .ref r_right, .ref r_told, .ref r_curve, .int 0, .int 0, .int 0, .int 0, .ref r_steps, .int 0, .ref r_stack, .int 0])), (r_left, .inr (2, [.ref x_c])), (x_c, .inl (cL, 9, .inr (.inr (.inr (.inr fc))))), (p0, .inr (6, [.ref dk, .ref y0, .int 0])), (p1, .inr (6, [.ref dk, .ref y1, .int 0])), (p2, .inr (6, [.ref dk, .ref y2, .int 0])), (p3, .inr (6, [.ref dk, .ref y3, .int 0])), (p4, .inr (6, [.ref dk, .ref y4, .int 0])), (p5, .inr (6, [.ref dk, .ref y5, .int 0])), (p6, .inr (6, [.ref dk, .ref y6, .int 0])), (p7, .inr (6, [.ref dk, .ref y7, .int 0])), (p8, .inr (6, [.ref dk, .ref y8, .int 0]))]) [11, 0, 1, 2, 3, 4, 5, 6, 7, 8, 9, 10] (by decide) rfl
    have hK9 := hK.sub (tys' := [(cL, .object "RealHouse$Poly")]) [0] rfl
    exact W.vret hx hb hr (fun t ht hW => ⟨⟨(), rfl, trivial, by rw [ht]; exact hP9, va_K.moved hW.alike hK9, hD9⟩, hS.F ht⟩) hS.2.2 d_Reader_readPolys_57
  · refine lv_aload_n hx hb d_Reader_readPolys_12 rfl (lv_at hl 0 rfl) ?_
    refine va_get (D := (dC, dI)) (ci := 8) (v := .int 0) (C := R_Reader) (T := F_Reader) (N := 19) hx hb hT i_Reader hown hK hP 0 rfl rfl 3 (by decide) (hT _ tw_236) (fun _ h9 => h9) rfl d_Reader_readPolys_13 ?_
    refine lv_if_ge (tgt := 53) hx hb d_Reader_readPolys_16 (by decide) (fun c_2 => ?_) (fun c_2 => absurd (by decide) c_2)
    refine lv_aload_n hx hb d_Reader_readPolys_53 rfl (lv_at hl 0 rfl) ?_
    have hPc := hP.sub (ws' := [(h0, .inr (8, [.ref tp, .int 0, .int 0, .int 0, .int wx, .int wy, .int 0, .ref r_left, .ref r_right, .ref r_told, .ref r_curve, .int 0, .int 0, .int 0, .int 0, .ref r_steps, .int 0, .ref r_stack, .int 0]))]) [0] rfl
    have hDc := hD.sub (ws' := [(h0, .inr (8, [.ref tp, .int 0, .int 0, .int 0, .int wx, .int wy, .int 0, .ref r_left, .ref r_right, .ref r_told, .ref r_curve, .int 0, .int 0, .int 0, .int 0, .ref r_steps, .int 0, .ref r_stack, .int 0]))]) [0] (by decide) rfl
    have hKc := hK.sub (tys' := []) [] rfl
    have hFc := va_free (wc := [(h0, .inr (8, [.ref tp, .int 0, .int 0, .int 0, .int wx, .int wy, .int 0, .ref r_left, .ref r_right, .ref r_told, .ref r_curve, .int 0, .int 0, .int 0, .int 0, .ref r_steps, .int 0, .ref r_stack, .int 0]))]) hD hS hA [0] rfl
    refine va_callv (va_runV (As := []) (rest := []) ⟨hx, hb, hml, hown, hT⟩ (c_Reader_expectEnd_0 l dC dI H.size h0 tp r_left r_right r_told r_curve r_steps r_stack 0 wx wy ) (cwV 0 hT (tb_goodV g_Reader_expectEnd tw_762 tw_764 (tb_sel (q := (⟨"RealHouse$Reader", "expectEnd", "()V"⟩, 19)) (i := 8) (by decide +kernel)) tw_6) rfl rfl rfl (by decide +kernel) ⟨Nat.le_of_ble_eq_true rfl, Nat.le_of_ble_eq_true rfl⟩) ⟨fun a U g mk q => by obtain ⟨q0, q1, qP, qK, qD, qN⟩ := q; exact ⟨q0, q1, qP, va_K.moved (u := U) (U := U.calling g mk a) (Vm.Alike.refl U.vm) qK, qD, nx_K.same (u := U) (U := U.calling g mk a) rfl qN⟩, va_recv hKc hPc (ci := 8) (q0 := 0) rfl rfl, fun U hU hW => ⟨rfl, by rw [hU], by rw [hU]; exact hPc, va_K.moved hW.alike hKc, hDc.weaken (fun _ _ _ _ => trivial), nx_K.warm hW hN⟩⟩ rfl rfl hl.1 rfl (lv_room (Nat.le_of_ble_eq_true rfl)) d_Reader_readPolys_54 ⟨Nat.le_of_ble_eq_true rfl, Nat.le_of_ble_eq_true rfl⟩) hS (fun q _ h => hFc q h) hFc (fun u t H1 locs ht hvm hw hB hz1 hk1 hS => ?_)
    obtain ⟨hP1, hK1, hD1⟩ := hB
    rw [ht] at hP1
    have hK1 := va_K.moved hvm.symm hK1
    obtain ⟨hP, hD⟩ := va_join (wr := [(r_left, .inr (2, [.ref x_c])), (x_c, .inl (cL, 9, .inr (.inr (.inr (.inr fc))))), (p0, .inr (6, [.ref dk, .ref y0, .int 0])), (p1, .inr (6, [.ref dk, .ref y1, .int 0])), (p2, .inr (6, [.ref dk, .ref y2, .int 0])), (p3, .inr (6, [.ref dk, .ref y3, .int 0])), (p4, .inr (6, [.ref dk, .ref y4, .int 0])), (p5, .inr (6, [.ref dk, .ref y5, .int 0])), (p6, .inr (6, [.ref dk, .ref y6, .int 0])), (p7, .inr (6, [.ref dk, .ref y7, .int 0])), (p8, .inr (6, [.ref dk, .ref y8, .int 0]))]) (w1 := [(h0, .inr (8, [.ref tp, .int 0, .int 0, .int 0, .int wx, .int wy, .int 0, .ref r_left, .ref r_right, .ref r_told, .ref r_curve, .int 0, .int 0, .int 0, .int 0, .ref r_steps, .int 0, .ref r_stack, .int 0]))]) hP hD [0] [1, 2, 3, 4, 5, 6, 7, 8, 9, 10, 11] rfl rfl (by decide) (by decide) hk1 hFc hP1 hD1
    have hK := (hK.sub (tys' := [(cL, .object "RealHouse$Poly")]) [0] rfl).app hK1
    generalize H1 = H at hP hS ⊢
    have hP : va_P (dC, dI) classes [(r_left, .inr (2, [.ref x_c])), (x_c, .inl (cL, 9, .inr (.inr (.inr (.inr fc))))), (p0, .inr (6, [.ref dk, .ref y0, .int 0])), (p1, .inr (6, [.ref dk, .ref y1, .int 0])), (p2, .inr (6, [.ref dk, .ref y2, .int 0])), (p3, .inr (6, [.ref dk, .ref y3, .int 0])), (p4, .inr (6, [.ref dk, .ref y4, .int 0])), (p5, .inr (6, [.ref dk, .ref y5, .int 0])), (p6, .inr (6, [.ref dk, .ref y6, .int 0])), (p7, .inr (6, [.ref dk, .ref y7, .int 0])), (p8, .inr (6, [.ref dk, .ref y8, .int 0])), (h0, .inr (8, [.ref tp, .int 0, .int 0, .int 0, .int wx, .int wy, .int 0, .ref r_left, .ref r_right, .ref r_told, .ref r_curve, .int 0, .int 0, .int 0, .int 0, .ref r_steps, .int 0, .ref r_stack, .int 0]))] H := hP
    have hD : va_D A [(r_left, .inr (2, [.ref x_c])), (x_c, .inl (cL, 9, .inr (.inr (.inr (.inr fc))))), (p0, .inr (6, [.ref dk, .ref y0, .int 0])), (p1, .inr (6, [.ref dk, .ref y1, .int 0])), (p2, .inr (6, [.ref dk, .ref y2, .int 0])), (p3, .inr (6, [.ref dk, .ref y3, .int 0])), (p4, .inr (6, [.ref dk, .ref y4, .int 0])), (p5, .inr (6, [.ref dk, .ref y5, .int 0])), (p6, .inr (6, [.ref dk, .ref y6, .int 0])), (p7, .inr (6, [.ref dk, .ref y7, .int 0])), (p8, .inr (6, [.ref dk, .ref y8, .int 0])), (h0, .inr (8, [.ref tp, .int 0, .int 0, .int 0, .int wx, .int wy, .int 0, .ref r_left, .ref r_right, .ref r_told, .ref r_curve, .int 0, .int 0, .int 0, .int 0, .ref r_steps, .int 0, .ref r_stack, .int 0]))] := hD
    have hK : va_K (dC, dI) classes [(cL, .object "RealHouse$Poly")] s := hK
    have hP9 := hP.sub (ws' := [(h0, .inr (8, [.ref tp, .int 0, .int 0, .int 0, .int wx, .int wy, .int 0, .ref r_left, .ref r_right, .ref r_told, .ref r_curve, .int 0, .int 0, .int 0, .int 0, .ref r_steps, .int 0, .ref r_stack, .int 0])), (r_left, .inr (2, [.ref x_c])), (x_c, .inl (cL, 9, .inr (.inr (.inr (.inr fc))))), (p0, .inr (6, [.ref dk, .ref y0, .int 0])), (p1, .inr (6, [.ref dk, .ref y1, .int 0])), (p2, .inr (6, [.ref dk, .ref y2, .int 0])), (p3, .inr (6, [.ref dk, .ref y3, .int 0])), (p4, .inr (6, [.ref dk, .ref y4, .int 0])), (p5, .inr (6, [.ref dk, .ref y5, .int 0])), (p6, .inr (6, [.ref dk, .ref y6, .int 0])), (p7, .inr (6, [.ref dk, .ref y7, .int 0])), (p8, .inr (6, [.ref dk, .ref y8, .int 0]))]) [11, 0, 1, 2, 3, 4, 5, 6, 7, 8, 9, 10] rfl
    have hD9 := hD.sub (ws' := [(h0, .inr (8, [.ref tp, .int 0, .int 0, .int 0, .int wx, .int wy, .int 0, .ref r_left, .ref r_right, .ref r_told, .ref r_curve, .int 0, .int 0, .int 0, .int 0, .ref r_steps, .int 0, .ref r_stack, .int 0])), (r_left, .inr (2, [.ref x_c])), (x_c, .inl (cL, 9, .inr (.inr (.inr (.inr fc))))), (p0, .inr (6, [.ref dk, .ref y0, .int 0])), (p1, .inr (6, [.ref dk, .ref y1, .int 0])), (p2, .inr (6, [.ref dk, .ref y2, .int 0])), (p3, .inr (6, [.ref dk, .ref y3, .int 0])), (p4, .inr (6, [.ref dk, .ref y4, .int 0])), (p5, .inr (6, [.ref dk, .ref y5, .int 0])), (p6, .inr (6, [.ref dk, .ref y6, .int 0])), (p7, .inr (6, [.ref dk, .ref y7, .int 0])), (p8, .inr (6, [.ref dk, .ref y8, .int 0]))]) [11, 0, 1, 2, 3, 4, 5, 6, 7, 8, 9, 10] (by decide) rfl
    have hK9 := hK.sub (tys' := [(cL, .object "RealHouse$Poly")]) [0] rfl
    exact W.vret hx hb hr (fun t ht hW => ⟨⟨(), rfl, trivial, by rw [ht]; exact hP9, va_K.moved hW.alike hK9, hD9⟩, hS.F ht⟩) hS.2.2 d_Reader_readPolys_57

set_option maxHeartbeats 4000000 in
set_option maxRecDepth 100000 in
/-- readQuantifier() of an empty text -/
theorem c_Reader_readQuantifier_0 (l : Launch) (dC : Nat → ClassId) (dI : Nat → Nat → Nat) (sz : Nat) (h0 : Nat) (tp : Nat) (r_left : Nat) (r_right : Nat) (r_told : Nat) (r_curve : Nat) (r_steps : Nat) (r_stack : Nat) (ft : Int32) (wx : Int32) (wy : Int32) (oy : Int32)  : Met l y_Reader_readQuantifier w_Reader_readQuantifier ({ frames := 1, cells := 0, slots := 0, locals := 20 }) (va_Pc [.ref h0, .int oy] (fun U => U.heap.size = sz ∧ va_P (dC, dI) classes [(h0, .inr (8, [.ref tp, .int 0, .int 0, .int ft, .int wx, .int wy, .int 0, .ref r_left, .ref r_right, .ref r_told, .ref r_curve, .int 0, .int 0, .int 0, .int 0, .ref r_steps, .int 0, .ref r_stack, .int 0]))] U.heap ∧ va_K (dC, dI) classes [] U ∧ va_D (fun _ => True) [(h0, .inr (8, [.ref tp, .int 0, .int 0, .int ft, .int wx, .int wy, .int 0, .ref r_left, .ref r_right, .ref r_told, .ref r_curve, .int 0, .int 0, .int 0, .int 0, .ref r_steps, .int 0, .ref r_stack, .int 0]))] ∧ nx_K U)) (va_Qi (fun (r : Int32) (_ : Unit) => r = 0) (fun _ t => va_P (dC, dI) classes [(h0, .inr (8, [.ref tp, .int 0, .int 0, .int ft, .int wx, .int wy, .int 0, .ref r_left, .ref r_right, .ref r_told, .ref r_curve, .int 0, .int 0, .int 0, .int 0, .ref r_steps, .int 0, .ref r_stack, .int 0]))] t.heap ∧ va_K (dC, dI) classes [] t ∧ va_D (va_A [(h0, .inr (8, [.ref tp, .int 0, .int 0, .int ft, .int wx, .int wy, .int 0, .ref r_left, .ref r_right, .ref r_told, .ref r_curve, .int 0, .int 0, .int 0, .int 0, .ref r_steps, .int 0, .ref r_stack, .int 0]))] sz) [(h0, .inr (8, [.ref tp, .int 0, .int 0, .int ft, .int wx, .int wy, .int 0, .ref r_left, .ref r_right, .ref r_told, .ref r_curve, .int 0, .int 0, .int 0, .int 0, .ref r_steps, .int 0, .ref r_stack, .int 0]))]) (va_A [(h0, .inr (8, [.ref tp, .int 0, .int 0, .int ft, .int wx, .int wy, .int 0, .ref r_left, .ref r_right, .ref r_told, .ref r_curve, .int 0, .int 0, .int 0, .int 0, .ref r_steps, .int 0, .ref r_stack, .int 0]))] sz)) 0 0 (va_A [(h0, .inr (8, [.ref tp, .int 0, .int 0, .int ft, .int wx, .int wy, .int 0, .ref r_left, .ref r_right, .ref r_told, .ref r_curve, .int 0, .int 0, .int 0, .int 0, .ref r_steps, .int 0, .ref r_stack, .int 0]))] sz) := by
  refine Met.ofW (cc := b_Reader_readQuantifier) (maxL := 6) (ret := (some .int)) (by decide) rfl ?_
  intro p e s m args below meth c s₁ B hml hv
  obtain ⟨rfl, hsz, hP, hK, hD0, hN⟩ := hv
  have hx := B.exec
  have hb := B.bytes
  have hr := B.returns
  have hT : ∀ w ∈ lw_g, w.before _ s = true := fun w h => atoms_spec (ws := w_Reader_readQuantifier) B.pre w (List.mem_cons_of_mem _ h)
  have hown : s.vm.findClass R_Reader = some m.cls := findClass_of_methodNamed B.named
  have hlocks := B.notSynchronized
  subst hsz
  have hD := hD0.self (sz := s.heap.size)
  generalize hAe : va_A [(h0, .inr (8, [.ref tp, .int 0, .int 0, .int ft, .int wx, .int wy, .int 0, .ref r_left, .ref r_right, .ref r_told, .ref r_curve, .int 0, .int 0, .int 0, .int 0, .ref r_steps, .int 0, .ref r_stack, .int 0]))] s.heap.size = A at hD ⊢
  have hA : ∀ q : Nat, s.heap.size ≤ q → A q := fun q h => by rw [← hAe]; exact Or.inr h
  have hS : va_S A s.heap s.heap [] := va_S.rf
  have hP : va_P (dC, dI) classes [(h0, .inr (8, [.ref tp, .int 0, .int 0, .int ft, .int wx, .int wy, .int 0, .ref r_left, .ref r_right, .ref r_told, .ref r_curve, .int 0, .int 0, .int 0, .int 0, .ref r_steps, .int 0, .ref r_stack, .int 0]))] s.heap := hP
  have hl := lv_entry ([.ref h0, .int oy]) (n := 6) (Nat.le_of_ble_eq_true rfl)
  rw [lg_entry_eq]
  generalize (lg_sl ([.ref h0, .int oy]) ++ List.replicate (6 - (lg_sl ([.ref h0, .int oy])).length) Slot.unset).toArray = ls at hl ⊢
  have hl : lv_has ls 6 [(0, .ref h0), (1, .int oy)] := hl
  refine lv_aload_n hx hb d_Reader_readQuantifier_0 rfl (lv_at hl 0 rfl) ?_
  have hPc := hP.sub (ws' := [(h0, .inr (8, [.ref tp, .int 0, .int 0, .int ft, .int wx, .int wy, .int 0, .ref r_left, .ref r_right, .ref r_told, .ref r_curve, .int 0, .int 0, .int 0, .int 0, .ref r_steps, .int 0, .ref r_stack, .int 0]))]) [0] rfl
  have hDc := hD.sub (ws' := [(h0, .inr (8, [.ref tp, .int 0, .int 0, .int ft, .int wx, .int wy, .int 0, .ref r_left, .ref r_right, .ref r_told, .ref r_curve, .int 0, .int 0, .int 0, .int 0, .ref r_steps, .int 0, .ref r_stack, .int 0]))]) [0] (by decide) rfl
  have hKc := hK.sub (tys' := []) [] rfl
  have hFc := va_free (wc := [(h0, .inr (8, [.ref tp, .int 0, .int 0, .int ft, .int wx, .int wy, .int 0, .ref r_left, .ref r_right, .ref r_told, .ref r_curve, .int 0, .int 0, .int 0, .int 0, .ref r_steps, .int 0, .ref r_stack, .int 0]))]) hD hS hA [0] rfl
  refine va_calli (va_runV (As := []) (rest := []) ⟨hx, hb, hml, hown, hT⟩ (c_Reader_next_0 l dC dI s.heap.size h0 tp r_left r_right r_told r_curve r_steps r_stack ft wx wy ) (cwV 0 hT (tb_goodV g_Reader_next tw_718 tw_720 (tb_sel (q := (⟨"RealHouse$Reader", "next", "()I"⟩, 19)) (i := 3) (by decide +kernel)) tw_6) rfl rfl rfl (by decide +kernel) ⟨Nat.le_of_ble_eq_true rfl, Nat.le_of_ble_eq_true rfl⟩) ⟨fun a U g mk q => by obtain ⟨q0, q1, qP, qK, qD, qN⟩ := q; exact ⟨q0, q1, qP, va_K.moved (u := U) (U := U.calling g mk a) (Vm.Alike.refl U.vm) qK, qD, nx_K.same (u := U) (U := U.calling g mk a) rfl qN⟩, va_recv hKc hPc (ci := 8) (q0 := 0) rfl rfl, fun U hU hW => ⟨rfl, by rw [hU], by rw [hU]; exact hPc, va_K.moved hW.alike hKc, hDc.weaken (fun _ _ _ _ => trivial), nx_K.warm hW hN⟩⟩ rfl rfl hl.1 rfl (lv_room (Nat.le_of_ble_eq_true rfl)) d_Reader_readQuantifier_1 ⟨Nat.le_of_ble_eq_true rfl, Nat.le_of_ble_eq_true rfl⟩) hS (fun q _ h => hFc q h) hFc (fun r_1 u t H1 locs ht hvm hw hB hz1 hk1 hS => ?_)
  obtain ⟨hP1, hK1, hD1⟩ := hB
  rw [ht] at hP1
  have hK1 := va_K.moved hvm.symm hK1
  obtain rfl : r_1 = (-1) := hw
  obtain ⟨hP, hD⟩ := va_join (wr := []) (w1 := [(h0, .inr (8, [.ref tp, .int 0, .int 0, .int ft, .int wx, .int wy, .int 0, .ref r_left, .ref r_right, .ref r_told, .ref r_curve, .int 0, .int 0, .int 0, .int 0, .ref r_steps, .int 0, .ref r_stack, .int 0]))]) hP hD [0] [] rfl rfl (by decide) (by decide) hk1 hFc hP1 hD1
  have hK := (hK.sub (tys' := []) [] rfl).app hK1
  generalize H1 = H at hP hS ⊢
  have hP : va_P (dC, dI) classes [(h0, .inr (8, [.ref tp, .int 0, .int 0, .int ft, .int wx, .int wy, .int 0, .ref r_left, .ref r_right, .ref r_told, .ref r_curve, .int 0, .int 0, .int 0, .int 0, .ref r_steps, .int 0, .ref r_stack, .int 0]))] H := hP
  have hD : va_D A [(h0, .inr (8, [.ref tp, .int 0, .int 0, .int ft, .int wx, .int wy, .int 0, .ref r_left, .ref r_right, .ref r_told, .ref r_curve, .int 0, .int 0, .int 0, .int 0, .ref r_steps, .int 0, .ref r_stack, .int 0]))] := hD
  have hK : va_K (dC, dI) classes [] s := hK
  refine lv_istore_n (lv' := [(2, .int (-1)), (0, .ref h0), (1, .int oy)]) hx hb d_Reader_readQuantifier_4 rfl hl (by decide) rfl (fun ls hl => ?_)
  refine lv_iload_n hx hb d_Reader_readQuantifier_5 rfl (lv_at hl 0 rfl) ?_
  refine lv_bipush (v := 69) hx hb d_Reader_readQuantifier_6 (by decide) ?_
  refine lv_icmp_eq (tgt := 19) hx hb d_Reader_readQuantifier_8 (by decide) (fun c_2 => absurd c_2 (by decide)) (fun c_2 => ?_)
  refine lv_iload_n hx hb d_Reader_readQuantifier_11 rfl (lv_at hl 0 rfl) ?_
  refine lv_bipush (v := 65) hx hb d_Reader_readQuantifier_12 (by decide) ?_
  refine lv_icmp_eq (tgt := 19) hx hb d_Reader_readQuantifier_14 (by decide) (fun c_3 => absurd c_3 (by decide)) (fun c_3 => ?_)
  refine lv_iconst (v := 0) hx hb d_Reader_readQuantifier_17 (by decide) ?_
  have hP9 := hP.sub (ws' := [(h0, .inr (8, [.ref tp, .int 0, .int 0, .int ft, .int wx, .int wy, .int 0, .ref r_left, .ref r_right, .ref r_told, .ref r_curve, .int 0, .int 0, .int 0, .int 0, .ref r_steps, .int 0, .ref r_stack, .int 0]))]) [0] rfl
  have hD9 := hD.sub (ws' := [(h0, .inr (8, [.ref tp, .int 0, .int 0, .int ft, .int wx, .int wy, .int 0, .ref r_left, .ref r_right, .ref r_told, .ref r_curve, .int 0, .int 0, .int 0, .int 0, .ref r_steps, .int 0, .ref r_stack, .int 0]))]) [0] (by decide) rfl
  have hK9 := hK.sub (tys' := []) [] rfl
  exact W.iret (v := 0) hx hb hr (fun t ht hW => ⟨⟨0, (), rfl, rfl, by rw [ht]; exact hP9, va_K.moved hW.alike hK9, hD9⟩, hS.F ht⟩) hS.2.2 d_Reader_readQuantifier_18

set_option maxHeartbeats 4000000 in
set_option maxRecDepth 100000 in
/-- readQuantifiers() of an empty text -/
theorem c_Reader_readQuantifiers_0 (l : Launch) (dC : Nat → ClassId) (dI : Nat → Nat → Nat) (sz : Nat) (h0 : Nat) (tp : Nat) (r_left : Nat) (r_right : Nat) (r_told : Nat) (r_curve : Nat) (r_steps : Nat) (r_stack : Nat) (wx : Int32) (wy : Int32)  : Met l y_Reader_readQuantifiers w_Reader_readQuantifiers ({ frames := 2, cells := 0, slots := 0, locals := 45 }) (va_Pc [.ref h0] (fun U => U.heap.size = sz ∧ va_P (dC, dI) classes [(h0, .inr (8, [.ref tp, .int 0, .int 0, .int (-1), .int wx, .int wy, .int 0, .ref r_left, .ref r_right, .ref r_told, .ref r_curve, .int 0, .int 0, .int 0, .int 0, .ref r_steps, .int 0, .ref r_stack, .int 0]))] U.heap ∧ va_K (dC, dI) classes [] U ∧ va_D (fun _ => True) [(h0, .inr (8, [.ref tp, .int 0, .int 0, .int (-1), .int wx, .int wy, .int 0, .ref r_left, .ref r_right, .ref r_told, .ref r_curve, .int 0, .int 0, .int 0, .int 0, .ref r_steps, .int 0, .ref r_stack, .int 0]))] ∧ nx_K U)) (va_Qv (fun _ : Unit => True) (fun _ t => va_P (dC, dI) classes [(h0, .inr (8, [.ref tp, .int 0, .int 0, .int 0, .int wx, .int wy, .int 0, .ref r_left, .ref r_right, .ref r_told, .ref r_curve, .int 0, .int 0, .int 0, .int 0, .ref r_steps, .int 0, .ref r_stack, .int 0]))] t.heap ∧ va_K (dC, dI) classes [] t ∧ va_D (va_A [(h0, .inr (8, [.ref tp, .int 0, .int 0, .int (-1), .int wx, .int wy, .int 0, .ref r_left, .ref r_right, .ref r_told, .ref r_curve, .int 0, .int 0, .int 0, .int 0, .ref r_steps, .int 0, .ref r_stack, .int 0]))] sz) [(h0, .inr (8, [.ref tp, .int 0, .int 0, .int 0, .int wx, .int wy, .int 0, .ref r_left, .ref r_right, .ref r_told, .ref r_curve, .int 0, .int 0, .int 0, .int 0, .ref r_steps, .int 0, .ref r_stack, .int 0]))]) (va_A [(h0, .inr (8, [.ref tp, .int 0, .int 0, .int (-1), .int wx, .int wy, .int 0, .ref r_left, .ref r_right, .ref r_told, .ref r_curve, .int 0, .int 0, .int 0, .int 0, .ref r_steps, .int 0, .ref r_stack, .int 0]))] sz)) 0 0 (va_A [(h0, .inr (8, [.ref tp, .int 0, .int 0, .int (-1), .int wx, .int wy, .int 0, .ref r_left, .ref r_right, .ref r_told, .ref r_curve, .int 0, .int 0, .int 0, .int 0, .ref r_steps, .int 0, .ref r_stack, .int 0]))] sz) := by
  refine Met.ofW (cc := b_Reader_readQuantifiers) (maxL := 4) (ret := none) (by decide) rfl ?_
  intro p e s m args below meth c s₁ B hml hv
  obtain ⟨rfl, hsz, hP, hK, hD0, hN⟩ := hv
  have hx := B.exec
  have hb := B.bytes
  have hr := B.returns
  have hT : ∀ w ∈ lw_g, w.before _ s = true := fun w h => atoms_spec (ws := w_Reader_readQuantifiers) B.pre w (List.mem_cons_of_mem _ h)
  have hown : s.vm.findClass R_Reader = some m.cls := findClass_of_methodNamed B.named
  have hlocks := B.notSynchronized
  subst hsz
  have hD := hD0.self (sz := s.heap.size)
  generalize hAe : va_A [(h0, .inr (8, [.ref tp, .int 0, .int 0, .int (-1), .int wx, .int wy, .int 0, .ref r_left, .ref r_right, .ref r_told, .ref r_curve, .int 0, .int 0, .int 0, .int 0, .ref r_steps, .int 0, .ref r_stack, .int 0]))] s.heap.size = A at hD ⊢
  have hA : ∀ q : Nat, s.heap.size ≤ q → A q := fun q h => by rw [← hAe]; exact Or.inr h
  have hS : va_S A s.heap s.heap [] := va_S.rf
  have hP : va_P (dC, dI) classes [(h0, .inr (8, [.ref tp, .int 0, .int 0, .int (-1), .int wx, .int wy, .int 0, .ref r_left, .ref r_right, .ref r_told, .ref r_curve, .int 0, .int 0, .int 0, .int 0, .ref r_steps, .int 0, .ref r_stack, .int 0]))] s.heap := hP
  have hl := lv_entry ([.ref h0]) (n := 4) (Nat.le_of_ble_eq_true rfl)
  rw [lg_entry_eq]
  generalize (lg_sl ([.ref h0]) ++ List.replicate (4 - (lg_sl ([.ref h0])).length) Slot.unset).toArray = ls at hl ⊢
  have hl : lv_has ls 4 [(0, .ref h0)] := hl
  refine lv_aload_n hx hb d_Reader_readQuantifiers_0 rfl (lv_at hl 0 rfl) ?_
  refine lv_iconst (v := 0) hx hb d_Reader_readQuantifiers_1 (by decide) ?_
  have hPc := hP.sub (ws' := [(h0, .inr (8, [.ref tp, .int 0, .int 0, .int (-1), .int wx, .int wy, .int 0, .ref r_left, .ref r_right, .ref r_told, .ref r_curve, .int 0, .int 0, .int 0, .int 0, .ref r_steps, .int 0, .ref r_stack, .int 0]))]) [0] rfl
  have hDc := hD.sub (ws' := [(h0, .inr (8, [.ref tp, .int 0, .int 0, .int (-1), .int wx, .int wy, .int 0, .ref r_left, .ref r_right, .ref r_told, .ref r_curve, .int 0, .int 0, .int 0, .int 0, .ref r_steps, .int 0, .ref r_stack, .int 0]))]) [0] (by decide) rfl
  have hKc := hK.sub (tys' := []) [] rfl
  have hFc := va_free (wc := [(h0, .inr (8, [.ref tp, .int 0, .int 0, .int (-1), .int wx, .int wy, .int 0, .ref r_left, .ref r_right, .ref r_told, .ref r_curve, .int 0, .int 0, .int 0, .int 0, .ref r_steps, .int 0, .ref r_stack, .int 0]))]) hD hS hA [0] rfl
  refine va_calli (va_runV (As := [.int 0]) (rest := []) ⟨hx, hb, hml, hown, hT⟩ (c_Reader_readQuantifier_0 l dC dI s.heap.size h0 tp r_left r_right r_told r_curve r_steps r_stack (-1) wx wy 0 ) (cwV 1 hT (tb_goodV g_Reader_readQuantifier tw_1391 tw_1393 (tb_sel (q := (⟨"RealHouse$Reader", "readQuantifier", "(Z)I"⟩, 19)) (i := 49) (by decide +kernel)) tw_6) rfl rfl rfl (by decide +kernel) ⟨Nat.le_of_ble_eq_true rfl, Nat.le_of_ble_eq_true rfl⟩) ⟨fun a U g mk q => by obtain ⟨q0, q1, qP, qK, qD, qN⟩ := q; exact ⟨q0, q1, qP, va_K.moved (u := U) (U := U.calling g mk a) (Vm.Alike.refl U.vm) qK, qD, nx_K.same (u := U) (U := U.calling g mk a) rfl qN⟩, va_recv hKc hPc (ci := 8) (q0 := 0) rfl rfl, fun U hU hW => ⟨rfl, by rw [hU], by rw [hU]; exact hPc, va_K.moved hW.alike hKc, hDc.weaken (fun _ _ _ _ => trivial), nx_K.warm hW hN⟩⟩ rfl rfl hl.1 rfl (lv_room (Nat.le_of_ble_eq_true rfl)) d_Reader_readQuantifiers_2 ⟨Nat.le_of_ble_eq_true rfl, Nat.le_of_ble_eq_true rfl⟩) hS (fun q _ h => hFc q h) hFc (fun r_1 u t H1 locs ht hvm hw hB hz1 hk1 hS => ?_)
  obtain ⟨hP1, hK1, hD1⟩ := hB
  rw [ht] at hP1
  have hK1 := va_K.moved hvm.symm hK1
  obtain rfl : r_1 = 0 := hw
  obtain ⟨hP, hD⟩ := va_join (wr := []) (w1 := [(h0, .inr (8, [.ref tp, .int 0, .int 0, .int (-1), .int wx, .int wy, .int 0, .ref r_left, .ref r_right, .ref r_told, .ref r_curve, .int 0, .int 0, .int 0, .int 0, .ref r_steps, .int 0, .ref r_stack, .int 0]))]) hP hD [0] [] rfl rfl (by decide) (by decide) hk1 hFc hP1 hD1
  have hK := (hK.sub (tys' := []) [] rfl).app hK1
  generalize H1 = H at hP hS ⊢
  have hP : va_P (dC, dI) classes [(h0, .inr (8, [.ref tp, .int 0, .int 0, .int (-1), .int wx, .int wy, .int 0, .ref r_left, .ref r_right, .ref r_told, .ref r_curve, .int 0, .int 0, .int 0, .int 0, .ref r_steps, .int 0, .ref r_stack, .int 0]))] H := hP
  have hD : va_D A [(h0, .inr (8, [.ref tp, .int 0, .int 0, .int (-1), .int wx, .int wy, .int 0, .ref r_left, .ref r_right, .ref r_told, .ref r_curve, .int 0, .int 0, .int 0, .int 0, .ref r_steps, .int 0, .ref r_stack, .int 0]))] := hD
  have hK : va_K (dC, dI) classes [] s := hK
  refine lv_istore_n (lv' := [(1, .int 0), (0, .ref h0)]) hx hb d_Reader_readQuantifiers_5 rfl hl (by decide) rfl (fun ls hl => ?_)
  refine lv_aload_n hx hb d_Reader_readQuantifiers_6 rfl (lv_at hl 1 rfl) ?_
  refine va_get (D := (dC, dI)) (ci := 8) (v := .int wx) (C := R_Reader) (T := F_Reader) (N := 19) hx hb hT i_Reader hown hK hP 0 rfl rfl 4 (by decide) (hT _ tw_238) (fun _ h9 => h9) rfl d_Reader_readQuantifiers_7 ?_
  refine lv_istore_n (lv' := [(2, .int wx), (1, .int 0), (0, .ref h0)]) hx hb d_Reader_readQuantifiers_10 rfl hl (by decide) rfl (fun ls hl => ?_)
  refine lv_iload_n hx hb d_Reader_readQuantifiers_11 rfl (lv_at hl 1 rfl) ?_
  refine lv_if_ne (tgt := 20) hx hb d_Reader_readQuantifiers_12 (by decide) (fun c_2 => absurd (by decide) c_2) (fun c_2 => ?_)
  refine lv_aload_n hx hb d_Reader_readQuantifiers_15 rfl (lv_at hl 2 rfl) ?_
  have hPc := hP.sub (ws' := [(h0, .inr (8, [.ref tp, .int 0, .int 0, .int (-1), .int wx, .int wy, .int 0, .ref r_left, .ref r_right, .ref r_told, .ref r_curve, .int 0, .int 0, .int 0, .int 0, .ref r_steps, .int 0, .ref r_stack, .int 0]))]) [0] rfl
  have hDc := hD.sub (ws' := [(h0, .inr (8, [.ref tp, .int 0, .int 0, .int (-1), .int wx, .int wy, .int 0, .ref r_left, .ref r_right, .ref r_told, .ref r_curve, .int 0, .int 0, .int 0, .int 0, .ref r_steps, .int 0, .ref r_stack, .int 0]))]) [0] (by decide) rfl
  have hKc := hK.sub (tys' := []) [] rfl
  have hFc := va_free (wc := [(h0, .inr (8, [.ref tp, .int 0, .int 0, .int (-1), .int wx, .int wy, .int 0, .ref r_left, .ref r_right, .ref r_told, .ref r_curve, .int 0, .int 0, .int 0, .int 0, .ref r_steps, .int 0, .ref r_stack, .int 0]))]) hD hS hA [0] rfl
  refine va_callv (va_runV (As := []) (rest := []) ⟨hx, hb, hml, hown, hT⟩ (c_Reader_fail_0 l dC dI H.size h0 tp r_left r_right r_told r_curve r_steps r_stack wx wy ) (cwV 0 hT (tb_goodV g_Reader_fail tw_728 tw_730 (tb_sel (q := (⟨"RealHouse$Reader", "fail", "()V"⟩, 19)) (i := 5) (by decide +kernel)) tw_6) rfl rfl rfl (by decide +kernel) ⟨Nat.le_of_ble_eq_true rfl, Nat.le_of_ble_eq_true rfl⟩) ⟨fun a U g mk q => by obtain ⟨q0, q1, qP, qK, qD, qN⟩ := q; exact ⟨q0, q1, qP, va_K.moved (u := U) (U := U.calling g mk a) (Vm.Alike.refl U.vm) qK, qD, nx_K.same (u := U) (U := U.calling g mk a) rfl qN⟩, va_recv hKc hPc (ci := 8) (q0 := 0) rfl rfl, fun U hU hW => ⟨rfl, by rw [hU], by rw [hU]; exact hPc, va_K.moved hW.alike hKc, hDc.weaken (fun _ _ _ _ => trivial), nx_K.warm hW hN⟩⟩ rfl rfl hl.1 rfl (lv_room (Nat.le_of_ble_eq_true rfl)) d_Reader_readQuantifiers_16 ⟨Nat.le_of_ble_eq_true rfl, Nat.le_of_ble_eq_true rfl⟩) hS (fun q _ h => hFc q h) hFc (fun u t H1 locs ht hvm hw hB hz1 hk1 hS => ?_)
  obtain ⟨hP1, hK1, hD1⟩ := hB
  rw [ht] at hP1
  have hK1 := va_K.moved hvm.symm hK1
  obtain ⟨hP, hD⟩ := va_join (wr := []) (w1 := [(h0, .inr (8, [.ref tp, .int 0, .int 0, .int 0, .int wx, .int wy, .int 0, .ref r_left, .ref r_right, .ref r_told, .ref r_curve, .int 0, .int 0, .int 0, .int 0, .ref r_steps, .int 0, .ref r_stack, .int 0]))]) hP hD [0] [] rfl rfl (by decide) (by decide) hk1 hFc hP1 hD1
  have hK := (hK.sub (tys' := []) [] rfl).app hK1
  generalize H1 = H at hP hS ⊢
  have hP : va_P (dC, dI) classes [(h0, .inr (8, [.ref tp, .int 0, .int 0, .int 0, .int wx, .int wy, .int 0, .ref r_left, .ref r_right, .ref r_told, .ref r_curve, .int 0, .int 0, .int 0, .int 0, .ref r_steps, .int 0, .ref r_stack, .int 0]))] H := hP
  have hD : va_D A [(h0, .inr (8, [.ref tp, .int 0, .int 0, .int 0, .int wx, .int wy, .int 0, .ref r_left, .ref r_right, .ref r_told, .ref r_curve, .int 0, .int 0, .int 0, .int 0, .ref r_steps, .int 0, .ref r_stack, .int 0]))] := hD
  have hK : va_K (dC, dI) classes [] s := hK
  have hP9 := hP.sub (ws' := [(h0, .inr (8, [.ref tp, .int 0, .int 0, .int 0, .int wx, .int wy, .int 0, .ref r_left, .ref r_right, .ref r_told, .ref r_curve, .int 0, .int 0, .int 0, .int 0, .ref r_steps, .int 0, .ref r_stack, .int 0]))]) [0] rfl
  have hD9 := hD.sub (ws' := [(h0, .inr (8, [.ref tp, .int 0, .int 0, .int 0, .int wx, .int wy, .int 0, .ref r_left, .ref r_right, .ref r_told, .ref r_curve, .int 0, .int 0, .int 0, .int 0, .ref r_steps, .int 0, .ref r_stack, .int 0]))]) [0] (by decide) rfl
  have hK9 := hK.sub (tys' := []) [] rfl
  exact W.vret hx hb hr (fun t ht hW => ⟨⟨(), rfl, trivial, by rw [ht]; exact hP9, va_K.moved hW.alike hK9, hD9⟩, hS.F ht⟩) hS.2.2 d_Reader_readQuantifiers_19

set_option maxHeartbeats 4000000 in
set_option maxRecDepth 100000 in
/-- readOverY() of an empty text -/
theorem c_Reader_readOverY_0 (l : Launch) (dC : Nat → ClassId) (dI : Nat → Nat → Nat) (sz : Nat) (h0 : Nat) (tp : Nat) (r_left : Nat) (r_right : Nat) (r_told : Nat) (r_curve : Nat) (r_steps : Nat) (r_stack : Nat) (ft : Int32) (wx : Int32) (wy : Int32)  : Met l y_Reader_readOverY w_Reader_readOverY ({ frames := 2, cells := 0, slots := 0, locals := 45 }) (va_Pc [.ref h0] (fun U => U.heap.size = sz ∧ va_P (dC, dI) classes [(h0, .inr (8, [.ref tp, .int 0, .int 0, .int ft, .int wx, .int wy, .int 0, .ref r_left, .ref r_right, .ref r_told, .ref r_curve, .int 0, .int 0, .int 0, .int 0, .ref r_steps, .int 0, .ref r_stack, .int 0]))] U.heap ∧ va_K (dC, dI) classes [] U ∧ va_D (fun _ => True) [(h0, .inr (8, [.ref tp, .int 0, .int 0, .int ft, .int wx, .int wy, .int 0, .ref r_left, .ref r_right, .ref r_told, .ref r_curve, .int 0, .int 0, .int 0, .int 0, .ref r_steps, .int 0, .ref r_stack, .int 0]))] ∧ nx_K U)) (va_Qv (fun _ : Unit => True) (fun _ t => va_P (dC, dI) classes [(h0, .inr (8, [.ref tp, .int 0, .int 0, .int ft, .int wx, .int wy, .int 0, .ref r_left, .ref r_right, .ref r_told, .ref r_curve, .int 0, .int 0, .int 0, .int 0, .ref r_steps, .int 0, .ref r_stack, .int 0]))] t.heap ∧ va_K (dC, dI) classes [] t ∧ va_D (va_A [(h0, .inr (8, [.ref tp, .int 0, .int 0, .int ft, .int wx, .int wy, .int 0, .ref r_left, .ref r_right, .ref r_told, .ref r_curve, .int 0, .int 0, .int 0, .int 0, .ref r_steps, .int 0, .ref r_stack, .int 0]))] sz) [(h0, .inr (8, [.ref tp, .int 0, .int 0, .int ft, .int wx, .int wy, .int 0, .ref r_left, .ref r_right, .ref r_told, .ref r_curve, .int 0, .int 0, .int 0, .int 0, .ref r_steps, .int 0, .ref r_stack, .int 0]))]) (va_A [(h0, .inr (8, [.ref tp, .int 0, .int 0, .int ft, .int wx, .int wy, .int 0, .ref r_left, .ref r_right, .ref r_told, .ref r_curve, .int 0, .int 0, .int 0, .int 0, .ref r_steps, .int 0, .ref r_stack, .int 0]))] sz)) 0 0 (va_A [(h0, .inr (8, [.ref tp, .int 0, .int 0, .int ft, .int wx, .int wy, .int 0, .ref r_left, .ref r_right, .ref r_told, .ref r_curve, .int 0, .int 0, .int 0, .int 0, .ref r_steps, .int 0, .ref r_stack, .int 0]))] sz) := by
  refine Met.ofW (cc := b_Reader_readOverY) (maxL := 1) (ret := none) (by decide) rfl ?_
  intro p e s m args below meth c s₁ B hml hv
  obtain ⟨rfl, hsz, hP, hK, hD0, hN⟩ := hv
  have hx := B.exec
  have hb := B.bytes
  have hr := B.returns
  have hT : ∀ w ∈ lw_g, w.before _ s = true := fun w h => atoms_spec (ws := w_Reader_readOverY) B.pre w (List.mem_cons_of_mem _ h)
  have hown : s.vm.findClass R_Reader = some m.cls := findClass_of_methodNamed B.named
  have hlocks := B.notSynchronized
  subst hsz
  have hD := hD0.self (sz := s.heap.size)
  generalize hAe : va_A [(h0, .inr (8, [.ref tp, .int 0, .int 0, .int ft, .int wx, .int wy, .int 0, .ref r_left, .ref r_right, .ref r_told, .ref r_curve, .int 0, .int 0, .int 0, .int 0, .ref r_steps, .int 0, .ref r_stack, .int 0]))] s.heap.size = A at hD ⊢
  have hA : ∀ q : Nat, s.heap.size ≤ q → A q := fun q h => by rw [← hAe]; exact Or.inr h
  have hS : va_S A s.heap s.heap [] := va_S.rf
  have hP : va_P (dC, dI) classes [(h0, .inr (8, [.ref tp, .int 0, .int 0, .int ft, .int wx, .int wy, .int 0, .ref r_left, .ref r_right, .ref r_told, .ref r_curve, .int 0, .int 0, .int 0, .int 0, .ref r_steps, .int 0, .ref r_stack, .int 0]))] s.heap := hP
  have hl := lv_entry ([.ref h0]) (n := 1) (Nat.le_of_ble_eq_true rfl)
  rw [lg_entry_eq]
  generalize (lg_sl ([.ref h0]) ++ List.replicate (1 - (lg_sl ([.ref h0])).length) Slot.unset).toArray = ls at hl ⊢
  have hl : lv_has ls 1 [(0, .ref h0)] := hl
  refine lv_aload_n hx hb d_Reader_readOverY_0 rfl (lv_at hl 0 rfl) ?_
  refine lv_aload_n hx hb d_Reader_readOverY_1 rfl (lv_at hl 0 rfl) ?_
  refine lv_iconst (v := 1) hx hb d_Reader_readOverY_2 (by decide) ?_
  have hPc := hP.sub (ws' := [(h0, .inr (8, [.ref tp, .int 0, .int 0, .int ft, .int wx, .int wy, .int 0, .ref r_left, .ref r_right, .ref r_told, .ref r_curve, .int 0, .int 0, .int 0, .int 0, .ref r_steps, .int 0, .ref r_stack, .int 0]))]) [0] rfl
  have hDc := hD.sub (ws' := [(h0, .inr (8, [.ref tp, .int 0, .int 0, .int ft, .int wx, .int wy, .int 0, .ref r_left, .ref r_right, .ref r_told, .ref r_curve, .int 0, .int 0, .int 0, .int 0, .ref r_steps, .int 0, .ref r_stack, .int 0]))]) [0] (by decide) rfl
  have hKc := hK.sub (tys' := []) [] rfl
  have hFc := va_free (wc := [(h0, .inr (8, [.ref tp, .int 0, .int 0, .int ft, .int wx, .int wy, .int 0, .ref r_left, .ref r_right, .ref r_told, .ref r_curve, .int 0, .int 0, .int 0, .int 0, .ref r_steps, .int 0, .ref r_stack, .int 0]))]) hD hS hA [0] rfl
  refine va_calli (va_runV (As := [.int 1]) (rest := [.ref h0]) ⟨hx, hb, hml, hown, hT⟩ (c_Reader_readQuantifier_0 l dC dI s.heap.size h0 tp r_left r_right r_told r_curve r_steps r_stack ft wx wy 1 ) (cwV 1 hT (tb_goodV g_Reader_readQuantifier tw_1391 tw_1393 (tb_sel (q := (⟨"RealHouse$Reader", "readQuantifier", "(Z)I"⟩, 19)) (i := 49) (by decide +kernel)) tw_6) rfl rfl rfl (by decide +kernel) ⟨Nat.le_of_ble_eq_true rfl, Nat.le_of_ble_eq_true rfl⟩) ⟨fun a U g mk q => by obtain ⟨q0, q1, qP, qK, qD, qN⟩ := q; exact ⟨q0, q1, qP, va_K.moved (u := U) (U := U.calling g mk a) (Vm.Alike.refl U.vm) qK, qD, nx_K.same (u := U) (U := U.calling g mk a) rfl qN⟩, va_recv hKc hPc (ci := 8) (q0 := 0) rfl rfl, fun U hU hW => ⟨rfl, by rw [hU], by rw [hU]; exact hPc, va_K.moved hW.alike hKc, hDc.weaken (fun _ _ _ _ => trivial), nx_K.warm hW hN⟩⟩ rfl rfl hl.1 rfl (lv_room (Nat.le_of_ble_eq_true rfl)) d_Reader_readOverY_3 ⟨Nat.le_of_ble_eq_true rfl, Nat.le_of_ble_eq_true rfl⟩) hS (fun q _ h => hFc q h) hFc (fun r_1 u t H1 locs ht hvm hw hB hz1 hk1 hS => ?_)
  obtain ⟨hP1, hK1, hD1⟩ := hB
  rw [ht] at hP1
  have hK1 := va_K.moved hvm.symm hK1
  obtain rfl : r_1 = 0 := hw
  obtain ⟨hP, hD⟩ := va_join (wr := []) (w1 := [(h0, .inr (8, [.ref tp, .int 0, .int 0, .int ft, .int wx, .int wy, .int 0, .ref r_left, .ref r_right, .ref r_told, .ref r_curve, .int 0, .int 0, .int 0, .int 0, .ref r_steps, .int 0, .ref r_stack, .int 0]))]) hP hD [0] [] rfl rfl (by decide) (by decide) hk1 hFc hP1 hD1
  have hK := (hK.sub (tys' := []) [] rfl).app hK1
  generalize H1 = H at hP hS ⊢
  have hP : va_P (dC, dI) classes [(h0, .inr (8, [.ref tp, .int 0, .int 0, .int ft, .int wx, .int wy, .int 0, .ref r_left, .ref r_right, .ref r_told, .ref r_curve, .int 0, .int 0, .int 0, .int 0, .ref r_steps, .int 0, .ref r_stack, .int 0]))] H := hP
  have hD : va_D A [(h0, .inr (8, [.ref tp, .int 0, .int 0, .int ft, .int wx, .int wy, .int 0, .ref r_left, .ref r_right, .ref r_told, .ref r_curve, .int 0, .int 0, .int 0, .int 0, .ref r_steps, .int 0, .ref r_stack, .int 0]))] := hD
  have hK : va_K (dC, dI) classes [] s := hK
  refine va_put (D := (dC, dI)) (ci := 8) (v := .int 0) (ty := .int) (C := R_Reader) (T := F_Reader) (N := 19) hx hb hT i_Reader t_Reader t_Reader_ok n_Reader hown hK hP hD hS 0 rfl rfl 13 (by decide) (hT _ tw_255) (fun _ h9 => h9) rfl (by decide +kernel) rfl rfl (Nat.le_of_ble_eq_true rfl) d_Reader_readOverY_6 (fun H locs hP hD hS => ?_)
  have hP : va_P (dC, dI) classes [(h0, .inr (8, [.ref tp, .int 0, .int 0, .int ft, .int wx, .int wy, .int 0, .ref r_left, .ref r_right, .ref r_told, .ref r_curve, .int 0, .int 0, .int 0, .int 0, .ref r_steps, .int 0, .ref r_stack, .int 0]))] H := hP
  have hD : va_D A [(h0, .inr (8, [.ref tp, .int 0, .int 0, .int ft, .int wx, .int wy, .int 0, .ref r_left, .ref r_right, .ref r_told, .ref r_curve, .int 0, .int 0, .int 0, .int 0, .ref r_steps, .int 0, .ref r_stack, .int 0]))] := hD
  have hP9 := hP.sub (ws' := [(h0, .inr (8, [.ref tp, .int 0, .int 0, .int ft, .int wx, .int wy, .int 0, .ref r_left, .ref r_right, .ref r_told, .ref r_curve, .int 0, .int 0, .int 0, .int 0, .ref r_steps, .int 0, .ref r_stack, .int 0]))]) [0] rfl
  have hD9 := hD.sub (ws' := [(h0, .inr (8, [.ref tp, .int 0, .int 0, .int ft, .int wx, .int wy, .int 0, .ref r_left, .ref r_right, .ref r_told, .ref r_curve, .int 0, .int 0, .int 0, .int 0, .ref r_steps, .int 0, .ref r_stack, .int 0]))]) [0] (by decide) rfl
  have hK9 := hK.sub (tys' := []) [] rfl
  exact W.vret hx hb hr (fun t ht hW => ⟨⟨(), rfl, trivial, by rw [ht]; exact hP9, va_K.moved hW.alike hK9, hD9⟩, hS.F ht⟩) hS.2.2 d_Reader_readOverY_9

set_option maxHeartbeats 4000000 in
set_option maxRecDepth 100000 in
/-- closeNots(): nothing is stacked -/
theorem c_Reader_closeNots_0 (l : Launch) (dC : Nat → ClassId) (dI : Nat → Nat → Nat) (sz : Nat) (h0 : Nat) (tp : Nat) (r_left : Nat) (r_right : Nat) (r_told : Nat) (r_curve : Nat) (r_steps : Nat) (r_stack : Nat) (ft : Int32) (wx : Int32) (wy : Int32)  : Met l y_Reader_closeNots w_Reader_closeNots ({ frames := 0, cells := 0, slots := 0, locals := 0 }) (va_Pc [.ref h0] (fun U => U.heap.size = sz ∧ va_P (dC, dI) classes [(h0, .inr (8, [.ref tp, .int 0, .int 0, .int ft, .int wx, .int wy, .int 0, .ref r_left, .ref r_right, .ref r_told, .ref r_curve, .int 0, .int 0, .int 0, .int 0, .ref r_steps, .int 0, .ref r_stack, .int 0]))] U.heap ∧ va_K (dC, dI) classes [] U ∧ va_D (fun _ => True) [(h0, .inr (8, [.ref tp, .int 0, .int 0, .int ft, .int wx, .int wy, .int 0, .ref r_left, .ref r_right, .ref r_told, .ref r_curve, .int 0, .int 0, .int 0, .int 0, .ref r_steps, .int 0, .ref r_stack, .int 0]))] ∧ nx_K U)) (va_Qi (fun (r : Int32) (_ : Unit) => r = 0) (fun _ t => va_P (dC, dI) classes [(h0, .inr (8, [.ref tp, .int 0, .int 0, .int ft, .int wx, .int wy, .int 0, .ref r_left, .ref r_right, .ref r_told, .ref r_curve, .int 0, .int 0, .int 0, .int 0, .ref r_steps, .int 0, .ref r_stack, .int 0]))] t.heap ∧ va_K (dC, dI) classes [] t ∧ va_D (va_A [(h0, .inr (8, [.ref tp, .int 0, .int 0, .int ft, .int wx, .int wy, .int 0, .ref r_left, .ref r_right, .ref r_told, .ref r_curve, .int 0, .int 0, .int 0, .int 0, .ref r_steps, .int 0, .ref r_stack, .int 0]))] sz) [(h0, .inr (8, [.ref tp, .int 0, .int 0, .int ft, .int wx, .int wy, .int 0, .ref r_left, .ref r_right, .ref r_told, .ref r_curve, .int 0, .int 0, .int 0, .int 0, .ref r_steps, .int 0, .ref r_stack, .int 0]))]) (va_A [(h0, .inr (8, [.ref tp, .int 0, .int 0, .int ft, .int wx, .int wy, .int 0, .ref r_left, .ref r_right, .ref r_told, .ref r_curve, .int 0, .int 0, .int 0, .int 0, .ref r_steps, .int 0, .ref r_stack, .int 0]))] sz)) 0 0 (va_A [(h0, .inr (8, [.ref tp, .int 0, .int 0, .int ft, .int wx, .int wy, .int 0, .ref r_left, .ref r_right, .ref r_told, .ref r_curve, .int 0, .int 0, .int 0, .int 0, .ref r_steps, .int 0, .ref r_stack, .int 0]))] sz) := by
  refine Met.ofW (cc := b_Reader_closeNots) (maxL := 2) (ret := (some .int)) (by decide) rfl ?_
  intro p e s m args below meth c s₁ B hml hv
  obtain ⟨rfl, hsz, hP, hK, hD0, hN⟩ := hv
  have hx := B.exec
  have hb := B.bytes
  have hr := B.returns
  have hT : ∀ w ∈ lw_g, w.before _ s = true := fun w h => atoms_spec (ws := w_Reader_closeNots) B.pre w (List.mem_cons_of_mem _ h)
  have hown : s.vm.findClass R_Reader = some m.cls := findClass_of_methodNamed B.named
  have hlocks := B.notSynchronized
  subst hsz
  have hD := hD0.self (sz := s.heap.size)
  generalize hAe : va_A [(h0, .inr (8, [.ref tp, .int 0, .int 0, .int ft, .int wx, .int wy, .int 0, .ref r_left, .ref r_right, .ref r_told, .ref r_curve, .int 0, .int 0, .int 0, .int 0, .ref r_steps, .int 0, .ref r_stack, .int 0]))] s.heap.size = A at hD ⊢
  have hA : ∀ q : Nat, s.heap.size ≤ q → A q := fun q h => by rw [← hAe]; exact Or.inr h
  have hS : va_S A s.heap s.heap [] := va_S.rf
  have hP : va_P (dC, dI) classes [(h0, .inr (8, [.ref tp, .int 0, .int 0, .int ft, .int wx, .int wy, .int 0, .ref r_left, .ref r_right, .ref r_told, .ref r_curve, .int 0, .int 0, .int 0, .int 0, .ref r_steps, .int 0, .ref r_stack, .int 0]))] s.heap := hP
  have hl := lv_entry ([.ref h0]) (n := 2) (Nat.le_of_ble_eq_true rfl)
  rw [lg_entry_eq]
  generalize (lg_sl ([.ref h0]) ++ List.replicate (2 - (lg_sl ([.ref h0])).length) Slot.unset).toArray = ls at hl ⊢
  have hl : lv_has ls 2 [(0, .ref h0)] := hl
  refine lv_aload_n hx hb d_Reader_closeNots_0 rfl (lv_at hl 0 rfl) ?_
  refine va_get (D := (dC, dI)) (ci := 8) (v := .int 0) (C := R_Reader) (T := F_Reader) (N := 19) hx hb hT i_Reader hown hK hP 0 rfl rfl 18 (by decide) (hT _ tw_262) (fun _ h9 => h9) rfl d_Reader_closeNots_1 ?_
  refine lv_istore_n (lv' := [(1, .int 0), (0, .ref h0)]) hx hb d_Reader_closeNots_4 rfl hl (by decide) rfl (fun ls hl => ?_)
  refine lv_aload_n hx hb d_Reader_closeNots_5 rfl (lv_at hl 1 rfl) ?_
  refine va_get (D := (dC, dI)) (ci := 8) (v := .int 0) (C := R_Reader) (T := F_Reader) (N := 19) hx hb hT i_Reader hown hK hP 0 rfl rfl 18 (by decide) (hT _ tw_262) (fun _ h9 => h9) rfl d_Reader_closeNots_6 ?_
  refine lv_if_le (tgt := 46) hx hb d_Reader_closeNots_9 (by decide) (fun c_1 => ?_) (fun c_1 => absurd (by decide) c_1)
  refine lv_iload_n hx hb d_Reader_closeNots_46 rfl (lv_at hl 0 rfl) ?_
  refine lv_aload_n hx hb d_Reader_closeNots_47 rfl (lv_at hl 1 rfl) ?_
  refine va_get (D := (dC, dI)) (ci := 8) (v := .int 0) (C := R_Reader) (T := F_Reader) (N := 19) hx hb hT i_Reader hown hK hP 0 rfl rfl 18 (by decide) (hT _ tw_262) (fun _ h9 => h9) rfl d_Reader_closeNots_48 ?_
  refine lv_isub hx hb d_Reader_closeNots_51 ?_
  refine lv_topi (fun v_2 ev_2 => ?_)
  obtain rfl : v_2 = 0 := ev_2.trans (by decide)
  have hP9 := hP.sub (ws' := [(h0, .inr (8, [.ref tp, .int 0, .int 0, .int ft, .int wx, .int wy, .int 0, .ref r_left, .ref r_right, .ref r_told, .ref r_curve, .int 0, .int 0, .int 0, .int 0, .ref r_steps, .int 0, .ref r_stack, .int 0]))]) [0] rfl
  have hD9 := hD.sub (ws' := [(h0, .inr (8, [.ref tp, .int 0, .int 0, .int ft, .int wx, .int wy, .int 0, .ref r_left, .ref r_right, .ref r_told, .ref r_curve, .int 0, .int 0, .int 0, .int 0, .ref r_steps, .int 0, .ref r_stack, .int 0]))]) [0] (by decide) rfl
  have hK9 := hK.sub (tys' := []) [] rfl
  exact W.iret (v := 0) hx hb hr (fun t ht hW => ⟨⟨0, (), rfl, rfl, by rw [ht]; exact hP9, va_K.moved hW.alike hK9, hD9⟩, hS.F ht⟩) hS.2.2 d_Reader_closeNots_52

set_option maxHeartbeats 4000000 in
set_option maxRecDepth 100000 in
/-- readComparison() of an empty text -/
theorem c_Reader_readComparison_0 (l : Launch) (dC : Nat → ClassId) (dI : Nat → Nat → Nat) (sz : Nat) (h0 : Nat) (tp : Nat) (r_left : Nat) (r_right : Nat) (r_told : Nat) (r_curve : Nat) (r_steps : Nat) (r_stack : Nat) (wx : Int32) (wy : Int32) (x_c : Nat) (cL : ClassId) (fc : Nat → Option Nat) (dk : Nat) (p0 : Nat) (p1 : Nat) (p2 : Nat) (p3 : Nat) (p4 : Nat) (p5 : Nat) (p6 : Nat) (p7 : Nat) (p8 : Nat) (y0 : Nat) (y1 : Nat) (y2 : Nat) (y3 : Nat) (y4 : Nat) (y5 : Nat) (y6 : Nat) (y7 : Nat) (y8 : Nat) (hF : fc 0 = some p0 ∧ fc 1 = some p1 ∧ fc 2 = some p2 ∧ fc 3 = some p3 ∧ fc 4 = some p4 ∧ fc 5 = some p5 ∧ fc 6 = some p6 ∧ fc 7 = some p7 ∧ fc 8 = some p8) : Met l y_Reader_readComparison w_Reader_readComparison ({ frames := 3, cells := 0, slots := 0, locals := 76 }) (va_Pc [.ref h0] (fun U => U.heap.size = sz ∧ va_P (dC, dI) classes [(h0, .inr (8, [.ref tp, .int 0, .int 0, .int (-1), .int wx, .int wy, .int 0, .ref r_left, .ref r_right, .ref r_told, .ref r_curve, .int 0, .int 0, .int 0, .int 0, .ref r_steps, .int 0, .ref r_stack, .int 0])), (r_left, .inr (2, [.ref x_c])), (x_c, .inl (cL, 9, .inr (.inr (.inr (.inr fc))))), (p0, .inr (6, [.ref dk, .ref y0, .int 0])), (p1, .inr (6, [.ref dk, .ref y1, .int 0])), (p2, .inr (6, [.ref dk, .ref y2, .int 0])), (p3, .inr (6, [.ref dk, .ref y3, .int 0])), (p4, .inr (6, [.ref dk, .ref y4, .int 0])), (p5, .inr (6, [.ref dk, .ref y5, .int 0])), (p6, .inr (6, [.ref dk, .ref y6, .int 0])), (p7, .inr (6, [.ref dk, .ref y7, .int 0])), (p8, .inr (6, [.ref dk, .ref y8, .int 0]))] U.heap ∧ va_K (dC, dI) classes [(cL, .object "RealHouse$Poly")] U ∧ va_D (fun _ => True) [(h0, .inr (8, [.ref tp, .int 0, .int 0, .int (-1), .int wx, .int wy, .int 0, .ref r_left, .ref r_right, .ref r_told, .ref r_curve, .int 0, .int 0, .int 0, .int 0, .ref r_steps, .int 0, .ref r_stack, .int 0])), (r_left, .inr (2, [.ref x_c])), (x_c, .inl (cL, 9, .inr (.inr (.inr (.inr fc))))), (p0, .inr (6, [.ref dk, .ref y0, .int 0])), (p1, .inr (6, [.ref dk, .ref y1, .int 0])), (p2, .inr (6, [.ref dk, .ref y2, .int 0])), (p3, .inr (6, [.ref dk, .ref y3, .int 0])), (p4, .inr (6, [.ref dk, .ref y4, .int 0])), (p5, .inr (6, [.ref dk, .ref y5, .int 0])), (p6, .inr (6, [.ref dk, .ref y6, .int 0])), (p7, .inr (6, [.ref dk, .ref y7, .int 0])), (p8, .inr (6, [.ref dk, .ref y8, .int 0]))] ∧ nx_K U)) (va_Qv (fun _ : Unit => True) (fun _ t => va_P (dC, dI) classes [(h0, .inr (8, [.ref tp, .int 0, .int 0, .int 0, .int wx, .int wy, .int 0, .ref r_left, .ref r_right, .ref r_told, .ref r_curve, .int 0, .int 0, .int 0, .int 0, .ref r_steps, .int 0, .ref r_stack, .int 0])), (r_left, .inr (2, [.ref x_c])), (x_c, .inl (cL, 9, .inr (.inr (.inr (.inr fc))))), (p0, .inr (6, [.ref dk, .ref y0, .int 0])), (p1, .inr (6, [.ref dk, .ref y1, .int 0])), (p2, .inr (6, [.ref dk, .ref y2, .int 0])), (p3, .inr (6, [.ref dk, .ref y3, .int 0])), (p4, .inr (6, [.ref dk, .ref y4, .int 0])), (p5, .inr (6, [.ref dk, .ref y5, .int 0])), (p6, .inr (6, [.ref dk, .ref y6, .int 0])), (p7, .inr (6, [.ref dk, .ref y7, .int 0])), (p8, .inr (6, [.ref dk, .ref y8, .int 0]))] t.heap ∧ va_K (dC, dI) classes [(cL, .object "RealHouse$Poly")] t ∧ va_D (va_A [(h0, .inr (8, [.ref tp, .int 0, .int 0, .int (-1), .int wx, .int wy, .int 0, .ref r_left, .ref r_right, .ref r_told, .ref r_curve, .int 0, .int 0, .int 0, .int 0, .ref r_steps, .int 0, .ref r_stack, .int 0])), (r_left, .inr (2, [.ref x_c])), (x_c, .inl (cL, 9, .inr (.inr (.inr (.inr fc))))), (p0, .inr (6, [.ref dk, .ref y0, .int 0])), (p1, .inr (6, [.ref dk, .ref y1, .int 0])), (p2, .inr (6, [.ref dk, .ref y2, .int 0])), (p3, .inr (6, [.ref dk, .ref y3, .int 0])), (p4, .inr (6, [.ref dk, .ref y4, .int 0])), (p5, .inr (6, [.ref dk, .ref y5, .int 0])), (p6, .inr (6, [.ref dk, .ref y6, .int 0])), (p7, .inr (6, [.ref dk, .ref y7, .int 0])), (p8, .inr (6, [.ref dk, .ref y8, .int 0]))] sz) [(h0, .inr (8, [.ref tp, .int 0, .int 0, .int 0, .int wx, .int wy, .int 0, .ref r_left, .ref r_right, .ref r_told, .ref r_curve, .int 0, .int 0, .int 0, .int 0, .ref r_steps, .int 0, .ref r_stack, .int 0])), (r_left, .inr (2, [.ref x_c])), (x_c, .inl (cL, 9, .inr (.inr (.inr (.inr fc))))), (p0, .inr (6, [.ref dk, .ref y0, .int 0])), (p1, .inr (6, [.ref dk, .ref y1, .int 0])), (p2, .inr (6, [.ref dk, .ref y2, .int 0])), (p3, .inr (6, [.ref dk, .ref y3, .int 0])), (p4, .inr (6, [.ref dk, .ref y4, .int 0])), (p5, .inr (6, [.ref dk, .ref y5, .int 0])), (p6, .inr (6, [.ref dk, .ref y6, .int 0])), (p7, .inr (6, [.ref dk, .ref y7, .int 0])), (p8, .inr (6, [.ref dk, .ref y8, .int 0]))]) (va_A [(h0, .inr (8, [.ref tp, .int 0, .int 0, .int (-1), .int wx, .int wy, .int 0, .ref r_left, .ref r_right, .ref r_told, .ref r_curve, .int 0, .int 0, .int 0, .int 0, .ref r_steps, .int 0, .ref r_stack, .int 0])), (r_left, .inr (2, [.ref x_c])), (x_c, .inl (cL, 9, .inr (.inr (.inr (.inr fc))))), (p0, .inr (6, [.ref dk, .ref y0, .int 0])), (p1, .inr (6, [.ref dk, .ref y1, .int 0])), (p2, .inr (6, [.ref dk, .ref y2, .int 0])), (p3, .inr (6, [.ref dk, .ref y3, .int 0])), (p4, .inr (6, [.ref dk, .ref y4, .int 0])), (p5, .inr (6, [.ref dk, .ref y5, .int 0])), (p6, .inr (6, [.ref dk, .ref y6, .int 0])), (p7, .inr (6, [.ref dk, .ref y7, .int 0])), (p8, .inr (6, [.ref dk, .ref y8, .int 0]))] sz)) 0 0 (va_A [(h0, .inr (8, [.ref tp, .int 0, .int 0, .int (-1), .int wx, .int wy, .int 0, .ref r_left, .ref r_right, .ref r_told, .ref r_curve, .int 0, .int 0, .int 0, .int 0, .ref r_steps, .int 0, .ref r_stack, .int 0])), (r_left, .inr (2, [.ref x_c])), (x_c, .inl (cL, 9, .inr (.inr (.inr (.inr fc))))), (p0, .inr (6, [.ref dk, .ref y0, .int 0])), (p1, .inr (6, [.ref dk, .ref y1, .int 0])), (p2, .inr (6, [.ref dk, .ref y2, .int 0])), (p3, .inr (6, [.ref dk, .ref y3, .int 0])), (p4, .inr (6, [.ref dk, .ref y4, .int 0])), (p5, .inr (6, [.ref dk, .ref y5, .int 0])), (p6, .inr (6, [.ref dk, .ref y6, .int 0])), (p7, .inr (6, [.ref dk, .ref y7, .int 0])), (p8, .inr (6, [.ref dk, .ref y8, .int 0]))] sz) := by
  refine Met.ofW (cc := b_Reader_readComparison) (maxL := 3) (ret := none) (by decide) rfl ?_
  intro p e s m args below meth c s₁ B hml hv
  obtain ⟨rfl, hsz, hP, hK, hD0, hN⟩ := hv
  have hx := B.exec
  have hb := B.bytes
  have hr := B.returns
  have hT : ∀ w ∈ lw_g, w.before _ s = true := fun w h => atoms_spec (ws := w_Reader_readComparison) B.pre w (List.mem_cons_of_mem _ h)
  have hown : s.vm.findClass R_Reader = some m.cls := findClass_of_methodNamed B.named
  have hlocks := B.notSynchronized
  subst hsz
  have hD := hD0.self (sz := s.heap.size)
  generalize hAe : va_A [(h0, .inr (8, [.ref tp, .int 0, .int 0, .int (-1), .int wx, .int wy, .int 0, .ref r_left, .ref r_right, .ref r_told, .ref r_curve, .int 0, .int 0, .int 0, .int 0, .ref r_steps, .int 0, .ref r_stack, .int 0])), (r_left, .inr (2, [.ref x_c])), (x_c, .inl (cL, 9, .inr (.inr (.inr (.inr fc))))), (p0, .inr (6, [.ref dk, .ref y0, .int 0])), (p1, .inr (6, [.ref dk, .ref y1, .int 0])), (p2, .inr (6, [.ref dk, .ref y2, .int 0])), (p3, .inr (6, [.ref dk, .ref y3, .int 0])), (p4, .inr (6, [.ref dk, .ref y4, .int 0])), (p5, .inr (6, [.ref dk, .ref y5, .int 0])), (p6, .inr (6, [.ref dk, .ref y6, .int 0])), (p7, .inr (6, [.ref dk, .ref y7, .int 0])), (p8, .inr (6, [.ref dk, .ref y8, .int 0]))] s.heap.size = A at hD ⊢
  have hA : ∀ q : Nat, s.heap.size ≤ q → A q := fun q h => by rw [← hAe]; exact Or.inr h
  have hS : va_S A s.heap s.heap [] := va_S.rf
  have hP : va_P (dC, dI) classes [(h0, .inr (8, [.ref tp, .int 0, .int 0, .int (-1), .int wx, .int wy, .int 0, .ref r_left, .ref r_right, .ref r_told, .ref r_curve, .int 0, .int 0, .int 0, .int 0, .ref r_steps, .int 0, .ref r_stack, .int 0])), (r_left, .inr (2, [.ref x_c])), (x_c, .inl (cL, 9, .inr (.inr (.inr (.inr fc))))), (p0, .inr (6, [.ref dk, .ref y0, .int 0])), (p1, .inr (6, [.ref dk, .ref y1, .int 0])), (p2, .inr (6, [.ref dk, .ref y2, .int 0])), (p3, .inr (6, [.ref dk, .ref y3, .int 0])), (p4, .inr (6, [.ref dk, .ref y4, .int 0])), (p5, .inr (6, [.ref dk, .ref y5, .int 0])), (p6, .inr (6, [.ref dk, .ref y6, .int 0])), (p7, .inr (6, [.ref dk, .ref y7, .int 0])), (p8, .inr (6, [.ref dk, .ref y8, .int 0]))] s.heap := hP
  have hl := lv_entry ([.ref h0]) (n := 3) (Nat.le_of_ble_eq_true rfl)
  rw [lg_entry_eq]
  generalize (lg_sl ([.ref h0]) ++ List.replicate (3 - (lg_sl ([.ref h0])).length) Slot.unset).toArray = ls at hl ⊢
  have hl : lv_has ls 3 [(0, .ref h0)] := hl
  refine lv_aload_n hx hb d_Reader_readComparison_0 rfl (lv_at hl 0 rfl) ?_
  refine lv_aload_n hx hb d_Reader_readComparison_1 rfl (lv_at hl 0 rfl) ?_
  refine va_get (D := (dC, dI)) (ci := 8) (v := .ref r_left) (C := R_Reader) (T := F_Reader) (N := 19) hx hb hT i_Reader hown hK hP 0 rfl rfl 7 (by decide) (hT _ tw_242) (fun _ h9 => h9) rfl d_Reader_readComparison_2 ?_
  have hPc := hP.sub (ws' := [(h0, .inr (8, [.ref tp, .int 0, .int 0, .int (-1), .int wx, .int wy, .int 0, .ref r_left, .ref r_right, .ref r_told, .ref r_curve, .int 0, .int 0, .int 0, .int 0, .ref r_steps, .int 0, .ref r_stack, .int 0])), (r_left, .inr (2, [.ref x_c])), (x_c, .inl (cL, 9, .inr (.inr (.inr (.inr fc))))), (p0, .inr (6, [.ref dk, .ref y0, .int 0])), (p1, .inr (6, [.ref dk, .ref y1, .int 0])), (p2, .inr (6, [.ref dk, .ref y2, .int 0])), (p3, .inr (6, [.ref dk, .ref y3, .int 0])), (p4, .inr (6, [.ref dk, .ref y4, .int 0])), (p5, .inr (6, [.ref dk, .ref y5, .int 0])), (p6, .inr (6, [.ref dk, .ref y6, .int 0])), (p7, .inr (6, [.ref dk, .ref y7, .int 0])), (p8, .inr (6, [.ref dk, .ref y8, .int 0]))]) [0, 1, 2, 3, 4, 5, 6, 7, 8, 9, 10, 11] rfl
  have hDc := hD.sub (ws' := [(h0, .inr (8, [.ref tp, .int 0, .int 0, .int (-1), .int wx, .int wy, .int 0, .ref r_left, .ref r_right, .ref r_told, .ref r_curve, .int 0, .int 0, .int 0, .int 0, .ref r_steps, .int 0, .ref r_stack, .int 0])), (r_left, .inr (2, [.ref x_c])), (x_c, .inl (cL, 9, .inr (.inr (.inr (.inr fc))))), (p0, .inr (6, [.ref dk, .ref y0, .int 0])), (p1, .inr (6, [.ref dk, .ref y1, .int 0])), (p2, .inr (6, [.ref dk, .ref y2, .int 0])), (p3, .inr (6, [.ref dk, .ref y3, .int 0])), (p4, .inr (6, [.ref dk, .ref y4, .int 0])), (p5, .inr (6, [.ref dk, .ref y5, .int 0])), (p6, .inr (6, [.ref dk, .ref y6, .int 0])), (p7, .inr (6, [.ref dk, .ref y7, .int 0])), (p8, .inr (6, [.ref dk, .ref y8, .int 0]))]) [0, 1, 2, 3, 4, 5, 6, 7, 8, 9, 10, 11] (by decide) rfl
  have hKc := hK.sub (tys' := [(cL, .object "RealHouse$Poly")]) [0] rfl
  have hFc := va_free (wc := [(h0, .inr (8, [.ref tp, .int 0, .int 0, .int (-1), .int wx, .int wy, .int 0, .ref r_left, .ref r_right, .ref r_told, .ref r_curve, .int 0, .int 0, .int 0, .int 0, .ref r_steps, .int 0, .ref r_stack, .int 0])), (r_left, .inr (2, [.ref x_c])), (x_c, .inl (cL, 9, .inr (.inr (.inr (.inr fc))))), (p0, .inr (6, [.ref dk, .ref y0, .int 0])), (p1, .inr (6, [.ref dk, .ref y1, .int 0])), (p2, .inr (6, [.ref dk, .ref y2, .int 0])), (p3, .inr (6, [.ref dk, .ref y3, .int 0])), (p4, .inr (6, [.ref dk, .ref y4, .int 0])), (p5, .inr (6, [.ref dk, .ref y5, .int 0])), (p6, .inr (6, [.ref dk, .ref y6, .int 0])), (p7, .inr (6, [.ref dk, .ref y7, .int 0])), (p8, .inr (6, [.ref dk, .ref y8, .int 0]))]) hD hS hA [0, 1, 2, 3, 4, 5, 6, 7, 8, 9, 10, 11] rfl
  refine va_callv (va_runV (As := [.ref r_left]) (rest := []) ⟨hx, hb, hml, hown, hT⟩ (c_Reader_readPoly_0 l dC dI s.heap.size h0 tp r_left r_right r_told r_curve r_steps r_stack wx wy x_c cL fc dk p0 p1 p2 p3 p4 p5 p6 p7 p8 y0 y1 y2 y3 y4 y5 y6 y7 y8 hF) (cwV 1 hT (tb_goodV g_Reader_readPoly tw_710 tw_712 (tb_sel (q := (⟨"RealHouse$Reader", "readPoly", "(LRealHouse$Curve;)V"⟩, 19)) (i := 2) (by decide +kernel)) tw_6) rfl rfl rfl (by decide +kernel) ⟨Nat.le_of_ble_eq_true rfl, Nat.le_of_ble_eq_true rfl⟩) ⟨fun a U g mk q => by obtain ⟨q0, q1, qP, qK, qD, qN⟩ := q; exact ⟨q0, q1, qP, va_K.moved (u := U) (U := U.calling g mk a) (Vm.Alike.refl U.vm) qK, qD, nx_K.same (u := U) (U := U.calling g mk a) rfl qN⟩, va_recv hKc hPc (ci := 8) (q0 := 0) rfl rfl, fun U hU hW => ⟨rfl, by rw [hU], by rw [hU]; exact hPc, va_K.moved hW.alike hKc, hDc.weaken (fun _ _ _ _ => trivial), nx_K.warm hW hN⟩⟩ rfl rfl hl.1 rfl (lv_room (Nat.le_of_ble_eq_true rfl)) d_Reader_readComparison_5 ⟨Nat.le_of_ble_eq_true rfl, Nat.le_of_ble_eq_true rfl⟩) hS (fun q _ h => hFc q h) hFc (fun u t H1 locs ht hvm hw hB hz1 hk1 hS => ?_)
  obtain ⟨hP1, hK1, hD1⟩ := hB
  rw [ht] at hP1
  have hK1 := va_K.moved hvm.symm hK1
  obtain ⟨hP, hD⟩ := va_join (wr := []) (w1 := [(h0, .inr (8, [.ref tp, .int 0, .int 0, .int 0, .int wx, .int wy, .int 0, .ref r_left, .ref r_right, .ref r_told, .ref r_curve, .int 0, .int 0, .int 0, .int 0, .ref r_steps, .int 0, .ref r_stack, .int 0])), (r_left, .inr (2, [.ref x_c])), (x_c, .inl (cL, 9, .inr (.inr (.inr (.inr fc))))), (p0, .inr (6, [.ref dk, .ref y0, .int 0])), (p1, .inr (6, [.ref dk, .ref y1, .int 0])), (p2, .inr (6, [.ref dk, .ref y2, .int 0])), (p3, .inr (6, [.ref dk, .ref y3, .int 0])), (p4, .inr (6, [.ref dk, .ref y4, .int 0])), (p5, .inr (6, [.ref dk, .ref y5, .int 0])), (p6, .inr (6, [.ref dk, .ref y6, .int 0])), (p7, .inr (6, [.ref dk, .ref y7, .int 0])), (p8, .inr (6, [.ref dk, .ref y8, .int 0]))]) hP hD [0, 1, 2, 3, 4, 5, 6, 7, 8, 9, 10, 11] [] rfl rfl (by decide) (by decide) hk1 hFc hP1 hD1
  have hK := (hK.sub (tys' := []) [] rfl).app hK1
  generalize H1 = H at hP hS ⊢
  have hP : va_P (dC, dI) classes [(h0, .inr (8, [.ref tp, .int 0, .int 0, .int 0, .int wx, .int wy, .int 0, .ref r_left, .ref r_right, .ref r_told, .ref r_curve, .int 0, .int 0, .int 0, .int 0, .ref r_steps, .int 0, .ref r_stack, .int 0])), (r_left, .inr (2, [.ref x_c])), (x_c, .inl (cL, 9, .inr (.inr (.inr (.inr fc))))), (p0, .inr (6, [.ref dk, .ref y0, .int 0])), (p1, .inr (6, [.ref dk, .ref y1, .int 0])), (p2, .inr (6, [.ref dk, .ref y2, .int 0])), (p3, .inr (6, [.ref dk, .ref y3, .int 0])), (p4, .inr (6, [.ref dk, .ref y4, .int 0])), (p5, .inr (6, [.ref dk, .ref y5, .int 0])), (p6, .inr (6, [.ref dk, .ref y6, .int 0])), (p7, .inr (6, [.ref dk, .ref y7, .int 0])), (p8, .inr (6, [.ref dk, .ref y8, .int 0]))] H := hP
  have hD : va_D A [(h0, .inr (8, [.ref tp, .int 0, .int 0, .int 0, .int wx, .int wy, .int 0, .ref r_left, .ref r_right, .ref r_told, .ref r_curve, .int 0, .int 0, .int 0, .int 0, .ref r_steps, .int 0, .ref r_stack, .int 0])), (r_left, .inr (2, [.ref x_c])), (x_c, .inl (cL, 9, .inr (.inr (.inr (.inr fc))))), (p0, .inr (6, [.ref dk, .ref y0, .int 0])), (p1, .inr (6, [.ref dk, .ref y1, .int 0])), (p2, .inr (6, [.ref dk, .ref y2, .int 0])), (p3, .inr (6, [.ref dk, .ref y3, .int 0])), (p4, .inr (6, [.ref dk, .ref y4, .int 0])), (p5, .inr (6, [.ref dk, .ref y5, .int 0])), (p6, .inr (6, [.ref dk, .ref y6, .int 0])), (p7, .inr (6, [.ref dk, .ref y7, .int 0])), (p8, .inr (6, [.ref dk, .ref y8, .int 0]))] := hD
  have hK : va_K (dC, dI) classes [(cL, .object "RealHouse$Poly")] s := hK
  refine lv_aload_n hx hb d_Reader_readComparison_8 rfl (lv_at hl 0 rfl) ?_
  refine va_get (D := (dC, dI)) (ci := 8) (v := .int 0) (C := R_Reader) (T := F_Reader) (N := 19) hx hb hT i_Reader hown hK hP 0 rfl rfl 3 (by decide) (hT _ tw_236) (fun _ h9 => h9) rfl d_Reader_readComparison_9 ?_
  refine lv_if_ge (tgt := 22) hx hb d_Reader_readComparison_12 (by decide) (fun c_1 => ?_) (fun c_1 => absurd (by decide) c_1)
  refine lv_iconst (v := 0) hx hb d_Reader_readComparison_22 (by decide) ?_
  refine lv_istore_n (lv' := [(1, .int 0), (0, .ref h0)]) hx hb d_Reader_readComparison_23 rfl hl (by decide) rfl (fun ls hl => ?_)
  refine lv_aload_n hx hb d_Reader_readComparison_24 rfl (lv_at hl 1 rfl) ?_
  refine va_get (D := (dC, dI)) (ci := 8) (v := .int 0) (C := R_Reader) (T := F_Reader) (N := 19) hx hb hT i_Reader hown hK hP 0 rfl rfl 3 (by decide) (hT _ tw_236) (fun _ h9 => h9) rfl d_Reader_readComparison_25 ?_
  refine lv_if_ge (tgt := 39) hx hb d_Reader_readComparison_28 (by decide) (fun c_2 => ?_) (fun c_2 => absurd (by decide) c_2)
  refine lv_aload_n hx hb d_Reader_readComparison_39 rfl (lv_at hl 1 rfl) ?_
  refine va_get (D := (dC, dI)) (ci := 8) (v := .int 0) (C := R_Reader) (T := F_Reader) (N := 19) hx hb hT i_Reader hown hK hP 0 rfl rfl 3 (by decide) (hT _ tw_236) (fun _ h9 => h9) rfl d_Reader_readComparison_40 ?_
  refine lv_if_lt (tgt := 47) hx hb d_Reader_readComparison_43 (by decide) (fun c_3 => absurd c_3 (by decide)) (fun c_3 => ?_)
  have hP9 := hP.sub (ws' := [(h0, .inr (8, [.ref tp, .int 0, .int 0, .int 0, .int wx, .int wy, .int 0, .ref r_left, .ref r_right, .ref r_told, .ref r_curve, .int 0, .int 0, .int 0, .int 0, .ref r_steps, .int 0, .ref r_stack, .int 0])), (r_left, .inr (2, [.ref x_c])), (x_c, .inl (cL, 9, .inr (.inr (.inr (.inr fc))))), (p0, .inr (6, [.ref dk, .ref y0, .int 0])), (p1, .inr (6, [.ref dk, .ref y1, .int 0])), (p2, .inr (6, [.ref dk, .ref y2, .int 0])), (p3, .inr (6, [.ref dk, .ref y3, .int 0])), (p4, .inr (6, [.ref dk, .ref y4, .int 0])), (p5, .inr (6, [.ref dk, .ref y5, .int 0])), (p6, .inr (6, [.ref dk, .ref y6, .int 0])), (p7, .inr (6, [.ref dk, .ref y7, .int 0])), (p8, .inr (6, [.ref dk, .ref y8, .int 0]))]) [0, 1, 2, 3, 4, 5, 6, 7, 8, 9, 10, 11] rfl
  have hD9 := hD.sub (ws' := [(h0, .inr (8, [.ref tp, .int 0, .int 0, .int 0, .int wx, .int wy, .int 0, .ref r_left, .ref r_right, .ref r_told, .ref r_curve, .int 0, .int 0, .int 0, .int 0, .ref r_steps, .int 0, .ref r_stack, .int 0])), (r_left, .inr (2, [.ref x_c])), (x_c, .inl (cL, 9, .inr (.inr (.inr (.inr fc))))), (p0, .inr (6, [.ref dk, .ref y0, .int 0])), (p1, .inr (6, [.ref dk, .ref y1, .int 0])), (p2, .inr (6, [.ref dk, .ref y2, .int 0])), (p3, .inr (6, [.ref dk, .ref y3, .int 0])), (p4, .inr (6, [.ref dk, .ref y4, .int 0])), (p5, .inr (6, [.ref dk, .ref y5, .int 0])), (p6, .inr (6, [.ref dk, .ref y6, .int 0])), (p7, .inr (6, [.ref dk, .ref y7, .int 0])), (p8, .inr (6, [.ref dk, .ref y8, .int 0]))]) [0, 1, 2, 3, 4, 5, 6, 7, 8, 9, 10, 11] (by decide) rfl
  have hK9 := hK.sub (tys' := [(cL, .object "RealHouse$Poly")]) [0] rfl
  exact W.vret hx hb hr (fun t ht hW => ⟨⟨(), rfl, trivial, by rw [ht]; exact hP9, va_K.moved hW.alike hK9, hD9⟩, hS.F ht⟩) hS.2.2 d_Reader_readComparison_46

set_option maxHeartbeats 4000000 in
set_option maxRecDepth 100000 in
/-- readFormula() behind a fault -/
theorem c_Reader_readFormula_1 (l : Launch) (dC : Nat → ClassId) (dI : Nat → Nat → Nat) (sz : Nat) (h0 : Nat) (tp : Nat) (r_left : Nat) (r_right : Nat) (r_told : Nat) (r_curve : Nat) (r_steps : Nat) (r_stack : Nat) (wx : Int32) (wy : Int32)  : Met l y_Reader_readFormula w_Reader_readFormula ({ frames := 0, cells := 0, slots := 0, locals := 0 }) (va_Pc [.ref h0] (fun U => U.heap.size = sz ∧ va_P (dC, dI) classes [(h0, .inr (8, [.ref tp, .int 0, .int 0, .int 0, .int wx, .int wy, .int 0, .ref r_left, .ref r_right, .ref r_told, .ref r_curve, .int 0, .int 0, .int 0, .int 0, .ref r_steps, .int 0, .ref r_stack, .int 0]))] U.heap ∧ va_K (dC, dI) classes [] U ∧ va_D (fun _ => True) [(h0, .inr (8, [.ref tp, .int 0, .int 0, .int 0, .int wx, .int wy, .int 0, .ref r_left, .ref r_right, .ref r_told, .ref r_curve, .int 0, .int 0, .int 0, .int 0, .ref r_steps, .int 0, .ref r_stack, .int 0]))] ∧ nx_K U)) (va_Qv (fun _ : Unit => True) (fun _ t => va_P (dC, dI) classes [(h0, .inr (8, [.ref tp, .int 0, .int 0, .int 0, .int wx, .int wy, .int 0, .ref r_left, .ref r_right, .ref r_told, .ref r_curve, .int 0, .int 0, .int 0, .int 0, .ref r_steps, .int 0, .ref r_stack, .int 0]))] t.heap ∧ va_K (dC, dI) classes [] t ∧ va_D (va_A [(h0, .inr (8, [.ref tp, .int 0, .int 0, .int 0, .int wx, .int wy, .int 0, .ref r_left, .ref r_right, .ref r_told, .ref r_curve, .int 0, .int 0, .int 0, .int 0, .ref r_steps, .int 0, .ref r_stack, .int 0]))] sz) [(h0, .inr (8, [.ref tp, .int 0, .int 0, .int 0, .int wx, .int wy, .int 0, .ref r_left, .ref r_right, .ref r_told, .ref r_curve, .int 0, .int 0, .int 0, .int 0, .ref r_steps, .int 0, .ref r_stack, .int 0]))]) (va_A [(h0, .inr (8, [.ref tp, .int 0, .int 0, .int 0, .int wx, .int wy, .int 0, .ref r_left, .ref r_right, .ref r_told, .ref r_curve, .int 0, .int 0, .int 0, .int 0, .ref r_steps, .int 0, .ref r_stack, .int 0]))] sz)) 0 0 (va_A [(h0, .inr (8, [.ref tp, .int 0, .int 0, .int 0, .int wx, .int wy, .int 0, .ref r_left, .ref r_right, .ref r_told, .ref r_curve, .int 0, .int 0, .int 0, .int 0, .ref r_steps, .int 0, .ref r_stack, .int 0]))] sz) := by
  refine Met.ofW (cc := b_Reader_readFormula) (maxL := 5) (ret := none) (by decide) rfl ?_
  intro p e s m args below meth c s₁ B hml hv
  obtain ⟨rfl, hsz, hP, hK, hD0, hN⟩ := hv
  have hx := B.exec
  have hb := B.bytes
  have hr := B.returns
  have hT : ∀ w ∈ lw_g, w.before _ s = true := fun w h => atoms_spec (ws := w_Reader_readFormula) B.pre w (List.mem_cons_of_mem _ h)
  have hown : s.vm.findClass R_Reader = some m.cls := findClass_of_methodNamed B.named
  have hlocks := B.notSynchronized
  subst hsz
  have hD := hD0.self (sz := s.heap.size)
  generalize hAe : va_A [(h0, .inr (8, [.ref tp, .int 0, .int 0, .int 0, .int wx, .int wy, .int 0, .ref r_left, .ref r_right, .ref r_told, .ref r_curve, .int 0, .int 0, .int 0, .int 0, .ref r_steps, .int 0, .ref r_stack, .int 0]))] s.heap.size = A at hD ⊢
  have hA : ∀ q : Nat, s.heap.size ≤ q → A q := fun q h => by rw [← hAe]; exact Or.inr h
  have hS : va_S A s.heap s.heap [] := va_S.rf
  have hP : va_P (dC, dI) classes [(h0, .inr (8, [.ref tp, .int 0, .int 0, .int 0, .int wx, .int wy, .int 0, .ref r_left, .ref r_right, .ref r_told, .ref r_curve, .int 0, .int 0, .int 0, .int 0, .ref r_steps, .int 0, .ref r_stack, .int 0]))] s.heap := hP
  have hl := lv_entry ([.ref h0]) (n := 5) (Nat.le_of_ble_eq_true rfl)
  rw [lg_entry_eq]
  generalize (lg_sl ([.ref h0]) ++ List.replicate (5 - (lg_sl ([.ref h0])).length) Slot.unset).toArray = ls at hl ⊢
  have hl : lv_has ls 5 [(0, .ref h0)] := hl
  refine lv_iconst (v := 0) hx hb d_Reader_readFormula_0 (by decide) ?_
  refine lv_istore_n (lv' := [(1, .int 0), (0, .ref h0)]) hx hb d_Reader_readFormula_1 rfl hl (by decide) rfl (fun ls hl => ?_)
  refine lv_iconst (v := 0) hx hb d_Reader_readFormula_2 (by decide) ?_
  refine lv_istore_n (lv' := [(2, .int 0), (1, .int 0), (0, .ref h0)]) hx hb d_Reader_readFormula_3 rfl hl (by decide) rfl (fun ls hl => ?_)
  refine lv_iload_n hx hb d_Reader_readFormula_4 rfl (lv_at hl 0 rfl) ?_
  refine lv_sipush (v := 400) hx hb d_Reader_readFormula_5 (by decide) ?_
  refine lv_icmp_gt (tgt := 193) hx hb d_Reader_readFormula_8 (by decide) (fun c_1 => absurd c_1 (by decide)) (fun c_1 => ?_)
  refine lv_aload_n hx hb d_Reader_readFormula_11 rfl (lv_at hl 2 rfl) ?_
  refine va_get (D := (dC, dI)) (ci := 8) (v := .int 0) (C := R_Reader) (T := F_Reader) (N := 19) hx hb hT i_Reader hown hK hP 0 rfl rfl 3 (by decide) (hT _ tw_236) (fun _ h9 => h9) rfl d_Reader_readFormula_12 ?_
  refine lv_if_ge (tgt := 193) hx hb d_Reader_readFormula_15 (by decide) (fun c_2 => ?_) (fun c_2 => absurd (by decide) c_2)
  have hP9 := hP.sub (ws' := [(h0, .inr (8, [.ref tp, .int 0, .int 0, .int 0, .int wx, .int wy, .int 0, .ref r_left, .ref r_right, .ref r_told, .ref r_curve, .int 0, .int 0, .int 0, .int 0, .ref r_steps, .int 0, .ref r_stack, .int 0]))]) [0] rfl
  have hD9 := hD.sub (ws' := [(h0, .inr (8, [.ref tp, .int 0, .int 0, .int 0, .int wx, .int wy, .int 0, .ref r_left, .ref r_right, .ref r_told, .ref r_curve, .int 0, .int 0, .int 0, .int 0, .ref r_steps, .int 0, .ref r_stack, .int 0]))]) [0] (by decide) rfl
  have hK9 := hK.sub (tys' := []) [] rfl
  exact W.vret hx hb hr (fun t ht hW => ⟨⟨(), rfl, trivial, by rw [ht]; exact hP9, va_K.moved hW.alike hK9, hD9⟩, hS.F ht⟩) hS.2.2 d_Reader_readFormula_193

set_option maxHeartbeats 4000000 in
set_option maxRecDepth 100000 in
/-- readFormula() of an empty text -/
theorem c_Reader_readFormula_0 (l : Launch) (dC : Nat → ClassId) (dI : Nat → Nat → Nat) (sz : Nat) (h0 : Nat) (tp : Nat) (r_left : Nat) (r_right : Nat) (r_told : Nat) (r_curve : Nat) (r_steps : Nat) (r_stack : Nat) (wx : Int32) (wy : Int32) (x_c : Nat) (cL : ClassId) (fc : Nat → Option Nat) (dk : Nat) (p0 : Nat) (p1 : Nat) (p2 : Nat) (p3 : Nat) (p4 : Nat) (p5 : Nat) (p6 : Nat) (p7 : Nat) (p8 : Nat) (y0 : Nat) (y1 : Nat) (y2 : Nat) (y3 : Nat) (y4 : Nat) (y5 : Nat) (y6 : Nat) (y7 : Nat) (y8 : Nat) (hF : fc 0 = some p0 ∧ fc 1 = some p1 ∧ fc 2 = some p2 ∧ fc 3 = some p3 ∧ fc 4 = some p4 ∧ fc 5 = some p5 ∧ fc 6 = some p6 ∧ fc 7 = some p7 ∧ fc 8 = some p8) : Met l y_Reader_readFormula w_Reader_readFormula ({ frames := 4, cells := 0, slots := 0, locals := 98 }) (va_Pc [.ref h0] (fun U => U.heap.size = sz ∧ va_P (dC, dI) classes [(h0, .inr (8, [.ref tp, .int 0, .int 0, .int (-1), .int wx, .int wy, .int 0, .ref r_left, .ref r_right, .ref r_told, .ref r_curve, .int 0, .int 0, .int 0, .int 0, .ref r_steps, .int 0, .ref r_stack, .int 0])), (r_left, .inr (2, [.ref x_c])), (x_c, .inl (cL, 9, .inr (.inr (.inr (.inr fc))))), (p0, .inr (6, [.ref dk, .ref y0, .int 0])), (p1, .inr (6, [.ref dk, .ref y1, .int 0])), (p2, .inr (6, [.ref dk, .ref y2, .int 0])), (p3, .inr (6, [.ref dk, .ref y3, .int 0])), (p4, .inr (6, [.ref dk, .ref y4, .int 0])), (p5, .inr (6, [.ref dk, .ref y5, .int 0])), (p6, .inr (6, [.ref dk, .ref y6, .int 0])), (p7, .inr (6, [.ref dk, .ref y7, .int 0])), (p8, .inr (6, [.ref dk, .ref y8, .int 0]))] U.heap ∧ va_K (dC, dI) classes [(cL, .object "RealHouse$Poly")] U ∧ va_D (fun _ => True) [(h0, .inr (8, [.ref tp, .int 0, .int 0, .int (-1), .int wx, .int wy, .int 0, .ref r_left, .ref r_right, .ref r_told, .ref r_curve, .int 0, .int 0, .int 0, .int 0, .ref r_steps, .int 0, .ref r_stack, .int 0])), (r_left, .inr (2, [.ref x_c])), (x_c, .inl (cL, 9, .inr (.inr (.inr (.inr fc))))), (p0, .inr (6, [.ref dk, .ref y0, .int 0])), (p1, .inr (6, [.ref dk, .ref y1, .int 0])), (p2, .inr (6, [.ref dk, .ref y2, .int 0])), (p3, .inr (6, [.ref dk, .ref y3, .int 0])), (p4, .inr (6, [.ref dk, .ref y4, .int 0])), (p5, .inr (6, [.ref dk, .ref y5, .int 0])), (p6, .inr (6, [.ref dk, .ref y6, .int 0])), (p7, .inr (6, [.ref dk, .ref y7, .int 0])), (p8, .inr (6, [.ref dk, .ref y8, .int 0]))] ∧ nx_K U)) (va_Qv (fun _ : Unit => True) (fun _ t => va_P (dC, dI) classes [(h0, .inr (8, [.ref tp, .int 0, .int 0, .int 0, .int wx, .int wy, .int 0, .ref r_left, .ref r_right, .ref r_told, .ref r_curve, .int 0, .int 0, .int 0, .int 0, .ref r_steps, .int 0, .ref r_stack, .int 0])), (r_left, .inr (2, [.ref x_c])), (x_c, .inl (cL, 9, .inr (.inr (.inr (.inr fc))))), (p0, .inr (6, [.ref dk, .ref y0, .int 0])), (p1, .inr (6, [.ref dk, .ref y1, .int 0])), (p2, .inr (6, [.ref dk, .ref y2, .int 0])), (p3, .inr (6, [.ref dk, .ref y3, .int 0])), (p4, .inr (6, [.ref dk, .ref y4, .int 0])), (p5, .inr (6, [.ref dk, .ref y5, .int 0])), (p6, .inr (6, [.ref dk, .ref y6, .int 0])), (p7, .inr (6, [.ref dk, .ref y7, .int 0])), (p8, .inr (6, [.ref dk, .ref y8, .int 0]))] t.heap ∧ va_K (dC, dI) classes [(cL, .object "RealHouse$Poly")] t ∧ va_D (va_A [(h0, .inr (8, [.ref tp, .int 0, .int 0, .int (-1), .int wx, .int wy, .int 0, .ref r_left, .ref r_right, .ref r_told, .ref r_curve, .int 0, .int 0, .int 0, .int 0, .ref r_steps, .int 0, .ref r_stack, .int 0])), (r_left, .inr (2, [.ref x_c])), (x_c, .inl (cL, 9, .inr (.inr (.inr (.inr fc))))), (p0, .inr (6, [.ref dk, .ref y0, .int 0])), (p1, .inr (6, [.ref dk, .ref y1, .int 0])), (p2, .inr (6, [.ref dk, .ref y2, .int 0])), (p3, .inr (6, [.ref dk, .ref y3, .int 0])), (p4, .inr (6, [.ref dk, .ref y4, .int 0])), (p5, .inr (6, [.ref dk, .ref y5, .int 0])), (p6, .inr (6, [.ref dk, .ref y6, .int 0])), (p7, .inr (6, [.ref dk, .ref y7, .int 0])), (p8, .inr (6, [.ref dk, .ref y8, .int 0]))] sz) [(h0, .inr (8, [.ref tp, .int 0, .int 0, .int 0, .int wx, .int wy, .int 0, .ref r_left, .ref r_right, .ref r_told, .ref r_curve, .int 0, .int 0, .int 0, .int 0, .ref r_steps, .int 0, .ref r_stack, .int 0])), (r_left, .inr (2, [.ref x_c])), (x_c, .inl (cL, 9, .inr (.inr (.inr (.inr fc))))), (p0, .inr (6, [.ref dk, .ref y0, .int 0])), (p1, .inr (6, [.ref dk, .ref y1, .int 0])), (p2, .inr (6, [.ref dk, .ref y2, .int 0])), (p3, .inr (6, [.ref dk, .ref y3, .int 0])), (p4, .inr (6, [.ref dk, .ref y4, .int 0])), (p5, .inr (6, [.ref dk, .ref y5, .int 0])), (p6, .inr (6, [.ref dk, .ref y6, .int 0])), (p7, .inr (6, [.ref dk, .ref y7, .int 0])), (p8, .inr (6, [.ref dk, .ref y8, .int 0]))]) (va_A [(h0, .inr (8, [.ref tp, .int 0, .int 0, .int (-1), .int wx, .int wy, .int 0, .ref r_left, .ref r_right, .ref r_told, .ref r_curve, .int 0, .int 0, .int 0, .int 0, .ref r_steps, .int 0, .ref r_stack, .int 0])), (r_left, .inr (2, [.ref x_c])), (x_c, .inl (cL, 9, .inr (.inr (.inr (.inr fc))))), (p0, .inr (6, [.ref dk, .ref y0, .int 0])), (p1, .inr (6, [.ref dk, .ref y1, .int 0])), (p2, .inr (6, [.ref dk, .ref y2, .int 0])), (p3, .inr (6, [.ref dk, .ref y3, .int 0])), (p4, .inr (6, [.ref dk, .ref y4, .int 0])), (p5, .inr (6, [.ref dk, .ref y5, .int 0])), (p6, .inr (6, [.ref dk, .ref y6, .int 0])), (p7, .inr (6, [.ref dk, .ref y7, .int 0])), (p8, .inr (6, [.ref dk, .ref y8, .int 0]))] sz)) 0 0 (va_A [(h0, .inr (8, [.ref tp, .int 0, .int 0, .int (-1), .int wx, .int wy, .int 0, .ref r_left, .ref r_right, .ref r_told, .ref r_curve, .int 0, .int 0, .int 0, .int 0, .ref r_steps, .int 0, .ref r_stack, .int 0])), (r_left, .inr (2, [.ref x_c])), (x_c, .inl (cL, 9, .inr (.inr (.inr (.inr fc))))), (p0, .inr (6, [.ref dk, .ref y0, .int 0])), (p1, .inr (6, [.ref dk, .ref y1, .int 0])), (p2, .inr (6, [.ref dk, .ref y2, .int 0])), (p3, .inr (6, [.ref dk, .ref y3, .int 0])), (p4, .inr (6, [.ref dk, .ref y4, .int 0])), (p5, .inr (6, [.ref dk, .ref y5, .int 0])), (p6, .inr (6, [.ref dk, .ref y6, .int 0])), (p7, .inr (6, [.ref dk, .ref y7, .int 0])), (p8, .inr (6, [.ref dk, .ref y8, .int 0]))] sz) := by
  refine Met.ofW (cc := b_Reader_readFormula) (maxL := 5) (ret := none) (by decide) rfl ?_
  intro p e s m args below meth c s₁ B hml hv
  obtain ⟨rfl, hsz, hP, hK, hD0, hN⟩ := hv
  have hx := B.exec
  have hb := B.bytes
  have hr := B.returns
  have hT : ∀ w ∈ lw_g, w.before _ s = true := fun w h => atoms_spec (ws := w_Reader_readFormula) B.pre w (List.mem_cons_of_mem _ h)
  have hown : s.vm.findClass R_Reader = some m.cls := findClass_of_methodNamed B.named
  have hlocks := B.notSynchronized
  subst hsz
  have hD := hD0.self (sz := s.heap.size)
  generalize hAe : va_A [(h0, .inr (8, [.ref tp, .int 0, .int 0, .int (-1), .int wx, .int wy, .int 0, .ref r_left, .ref r_right, .ref r_told, .ref r_curve, .int 0, .int 0, .int 0, .int 0, .ref r_steps, .int 0, .ref r_stack, .int 0])), (r_left, .inr (2, [.ref x_c])), (x_c, .inl (cL, 9, .inr (.inr (.inr (.inr fc))))), (p0, .inr (6, [.ref dk, .ref y0, .int 0])), (p1, .inr (6, [.ref dk, .ref y1, .int 0])), (p2, .inr (6, [.ref dk, .ref y2, .int 0])), (p3, .inr (6, [.ref dk, .ref y3, .int 0])), (p4, .inr (6, [.ref dk, .ref y4, .int 0])), (p5, .inr (6, [.ref dk, .ref y5, .int 0])), (p6, .inr (6, [.ref dk, .ref y6, .int 0])), (p7, .inr (6, [.ref dk, .ref y7, .int 0])), (p8, .inr (6, [.ref dk, .ref y8, .int 0]))] s.heap.size = A at hD ⊢
  have hA : ∀ q : Nat, s.heap.size ≤ q → A q := fun q h => by rw [← hAe]; exact Or.inr h
  have hS : va_S A s.heap s.heap [] := va_S.rf
  have hP : va_P (dC, dI) classes [(h0, .inr (8, [.ref tp, .int 0, .int 0, .int (-1), .int wx, .int wy, .int 0, .ref r_left, .ref r_right, .ref r_told, .ref r_curve, .int 0, .int 0, .int 0, .int 0, .ref r_steps, .int 0, .ref r_stack, .int 0])), (r_left, .inr (2, [.ref x_c])), (x_c, .inl (cL, 9, .inr (.inr (.inr (.inr fc))))), (p0, .inr (6, [.ref dk, .ref y0, .int 0])), (p1, .inr (6, [.ref dk, .ref y1, .int 0])), (p2, .inr (6, [.ref dk, .ref y2, .int 0])), (p3, .inr (6, [.ref dk, .ref y3, .int 0])), (p4, .inr (6, [.ref dk, .ref y4, .int 0])), (p5, .inr (6, [.ref dk, .ref y5, .int 0])), (p6, .inr (6, [.ref dk, .ref y6, .int 0])), (p7, .inr (6, [.ref dk, .ref y7, .int 0])), (p8, .inr (6, [.ref dk, .ref y8, .int 0]))] s.heap := hP
  have hl := lv_entry ([.ref h0]) (n := 5) (Nat.le_of_ble_eq_true rfl)
  rw [lg_entry_eq]
  generalize (lg_sl ([.ref h0]) ++ List.replicate (5 - (lg_sl ([.ref h0])).length) Slot.unset).toArray = ls at hl ⊢
  have hl : lv_has ls 5 [(0, .ref h0)] := hl
  refine lv_iconst (v := 0) hx hb d_Reader_readFormula_0 (by decide) ?_
  refine lv_istore_n (lv' := [(1, .int 0), (0, .ref h0)]) hx hb d_Reader_readFormula_1 rfl hl (by decide) rfl (fun ls hl => ?_)
  refine lv_iconst (v := 0) hx hb d_Reader_readFormula_2 (by decide) ?_
  refine lv_istore_n (lv' := [(2, .int 0), (1, .int 0), (0, .ref h0)]) hx hb d_Reader_readFormula_3 rfl hl (by decide) rfl (fun ls hl => ?_)
  refine lv_iload_n hx hb d_Reader_readFormula_4 rfl (lv_at hl 0 rfl) ?_
  refine lv_sipush (v := 400) hx hb d_Reader_readFormula_5 (by decide) ?_
  refine lv_icmp_gt (tgt := 193) hx hb d_Reader_readFormula_8 (by decide) (fun c_1 => absurd c_1 (by decide)) (fun c_1 => ?_)
  refine lv_aload_n hx hb d_Reader_readFormula_11 rfl (lv_at hl 2 rfl) ?_
  refine va_get (D := (dC, dI)) (ci := 8) (v := .int (-1)) (C := R_Reader) (T := F_Reader) (N := 19) hx hb hT i_Reader hown hK hP 0 rfl rfl 3 (by decide) (hT _ tw_236) (fun _ h9 => h9) rfl d_Reader_readFormula_12 ?_
  refine lv_if_ge (tgt := 193) hx hb d_Reader_readFormula_15 (by decide) (fun c_2 => absurd c_2 (by decide)) (fun c_2 => ?_)
  refine lv_aload_n hx hb d_Reader_readFormula_18 rfl (lv_at hl 2 rfl) ?_
  have hPc := hP.sub (ws' := [(h0, .inr (8, [.ref tp, .int 0, .int 0, .int (-1), .int wx, .int wy, .int 0, .ref r_left, .ref r_right, .ref r_told, .ref r_curve, .int 0, .int 0, .int 0, .int 0, .ref r_steps, .int 0, .ref r_stack, .int 0]))]) [0] rfl
  have hDc := hD.sub (ws' := [(h0, .inr (8, [.ref tp, .int 0, .int 0, .int (-1), .int wx, .int wy, .int 0, .ref r_left, .ref r_right, .ref r_told, .ref r_curve, .int 0, .int 0, .int 0, .int 0, .ref r_steps, .int 0, .ref r_stack, .int 0]))]) [0] (by decide) rfl
  have hKc := hK.sub (tys' := []) [] rfl
  have hFc := va_free (wc := [(h0, .inr (8, [.ref tp, .int 0, .int 0, .int (-1), .int wx, .int wy, .int 0, .ref r_left, .ref r_right, .ref r_told, .ref r_curve, .int 0, .int 0, .int 0, .int 0, .ref r_steps, .int 0, .ref r_stack, .int 0]))]) hD hS hA [0] rfl
  refine va_calli (va_runV (As := []) (rest := []) ⟨hx, hb, hml, hown, hT⟩ (c_Reader_next_0 l dC dI s.heap.size h0 tp r_left r_right r_told r_curve r_steps r_stack (-1) wx wy ) (cwV 0 hT (tb_goodV g_Reader_next tw_718 tw_720 (tb_sel (q := (⟨"RealHouse$Reader", "next", "()I"⟩, 19)) (i := 3) (by decide +kernel)) tw_6) rfl rfl rfl (by decide +kernel) ⟨Nat.le_of_ble_eq_true rfl, Nat.le_of_ble_eq_true rfl⟩) ⟨fun a U g mk q => by obtain ⟨q0, q1, qP, qK, qD, qN⟩ := q; exact ⟨q0, q1, qP, va_K.moved (u := U) (U := U.calling g mk a) (Vm.Alike.refl U.vm) qK, qD, nx_K.same (u := U) (U := U.calling g mk a) rfl qN⟩, va_recv hKc hPc (ci := 8) (q0 := 0) rfl rfl, fun U hU hW => ⟨rfl, by rw [hU], by rw [hU]; exact hPc, va_K.moved hW.alike hKc, hDc.weaken (fun _ _ _ _ => trivial), nx_K.warm hW hN⟩⟩ rfl rfl hl.1 rfl (lv_room (Nat.le_of_ble_eq_true rfl)) d_Reader_readFormula_19 ⟨Nat.le_of_ble_eq_true rfl, Nat.le_of_ble_eq_true rfl⟩) hS (fun q _ h => hFc q h) hFc (fun r_3 u t H1 locs ht hvm hw hB hz1 hk1 hS => ?_)
  obtain ⟨hP1, hK1, hD1⟩ := hB
  rw [ht] at hP1
  have hK1 := va_K.moved hvm.symm hK1
  obtain rfl : r_3 = (-1) := hw
  obtain ⟨hP, hD⟩ := va_join (wr := [(r_left, .inr (2, [.ref x_c])), (x_c, .inl (cL, 9, .inr (.inr (.inr (.inr fc))))), (p0, .inr (6, [.ref dk, .ref y0, .int 0])), (p1, .inr (6, [.ref dk, .ref y1, .int 0])), (p2, .inr (6, [.ref dk, .ref y2, .int 0])), (p3, .inr (6, [.ref dk, .ref y3, .int 0])), (p4, .inr (6, [.ref dk, .ref y4, .int 0])), (p5, .inr (6, [.ref dk, .ref y5, .int 0])), (p6, .inr (6, [.ref dk, .ref y6, .int 0])), (p7, .inr (6, [.ref dk, .ref y7, .int 0])), (p8, .inr (6, [.ref dk, .ref y8, .int 0]))]) (w1 := [(h0, .inr (8, [.ref tp, .int 0, .int 0, .int (-1), .int wx, .int wy, .int 0, .ref r_left, .ref r_right, .ref r_told, .ref r_curve, .int 0, .int 0, .int 0, .int 0, .ref r_steps, .int 0, .ref r_stack, .int 0]))]) hP hD [0] [1, 2, 3, 4, 5, 6, 7, 8, 9, 10, 11] rfl rfl (by decide) (by decide) hk1 hFc hP1 hD1
  have hK := (hK.sub (tys' := [(cL, .object "RealHouse$Poly")]) [0] rfl).app hK1
  generalize H1 = H at hP hS ⊢
  have hP : va_P (dC, dI) classes [(r_left, .inr (2, [.ref x_c])), (x_c, .inl (cL, 9, .inr (.inr (.inr (.inr fc))))), (p0, .inr (6, [.ref dk, .ref y0, .int 0])), (p1, .inr (6, [.ref dk, .ref y1, .int 0])), (p2, .inr (6, [.ref dk, .ref y2, .int 0])), (p3, .inr (6, [.ref dk, .ref y3, .int 0])), (p4, .inr (6, [.ref dk, .ref y4, .int 0])), (p5, .inr (6, [.ref dk, .ref y5, .int 0])), (p6, .inr (6, [.ref dk, .ref y6, .int 0])), (p7, .inr (6, [.ref dk, .ref y7, .int 0])), (p8, .inr (6, [.ref dk, .ref y8, .int 0])), (h0, .inr (8, [.ref tp, .int 0, .int 0, .int (-1), .int wx, .int wy, .int 0, .ref r_left, .ref r_right, .ref r_told, .ref r_curve, .int 0, .int 0, .int 0, .int 0, .ref r_steps, .int 0, .ref r_stack, .int 0]))] H := hP
  have hD : va_D A [(r_left, .inr (2, [.ref x_c])), (x_c, .inl (cL, 9, .inr (.inr (.inr (.inr fc))))), (p0, .inr (6, [.ref dk, .ref y0, .int 0])), (p1, .inr (6, [.ref dk, .ref y1, .int 0])), (p2, .inr (6, [.ref dk, .ref y2, .int 0])), (p3, .inr (6, [.ref dk, .ref y3, .int 0])), (p4, .inr (6, [.ref dk, .ref y4, .int 0])), (p5, .inr (6, [.ref dk, .ref y5, .int 0])), (p6, .inr (6, [.ref dk, .ref y6, .int 0])), (p7, .inr (6, [.ref dk, .ref y7, .int 0])), (p8, .inr (6, [.ref dk, .ref y8, .int 0])), (h0, .inr (8, [.ref tp, .int 0, .int 0, .int (-1), .int wx, .int wy, .int 0, .ref r_left, .ref r_right, .ref r_told, .ref r_curve, .int 0, .int 0, .int 0, .int 0, .ref r_steps, .int 0, .ref r_stack, .int 0]))] := hD
  have hK : va_K (dC, dI) classes [(cL, .object "RealHouse$Poly")] s := hK
  refine lv_istore_n (lv' := [(3, .int (-1)), (2, .int 0), (1, .int 0), (0, .ref h0)]) hx hb d_Reader_readFormula_22 rfl hl (by decide) rfl (fun ls hl => ?_)
  refine lv_iload_n hx hb d_Reader_readFormula_23 rfl (lv_at hl 0 rfl) ?_
  refine lv_bipush (v := 126) hx hb d_Reader_readFormula_24 (by decide) ?_
  refine lv_icmp_eq (tgt := 35) hx hb d_Reader_readFormula_26 (by decide) (fun c_4 => absurd c_4 (by decide)) (fun c_4 => ?_)
  refine lv_iload_n hx hb d_Reader_readFormula_29 rfl (lv_at hl 0 rfl) ?_
  refine lv_bipush (v := 40) hx hb d_Reader_readFormula_30 (by decide) ?_
  refine lv_icmp_ne (tgt := 67) hx hb d_Reader_readFormula_32 (by decide) (fun c_5 => ?_) (fun c_5 => absurd c_5 (by decide))
  refine lv_aload_n hx hb d_Reader_readFormula_67 rfl (lv_at hl 3 rfl) ?_
  have hPc := hP.sub (ws' := [(h0, .inr (8, [.ref tp, .int 0, .int 0, .int (-1), .int wx, .int wy, .int 0, .ref r_left, .ref r_right, .ref r_told, .ref r_curve, .int 0, .int 0, .int 0, .int 0, .ref r_steps, .int 0, .ref r_stack, .int 0])), (r_left, .inr (2, [.ref x_c])), (x_c, .inl (cL, 9, .inr (.inr (.inr (.inr fc))))), (p0, .inr (6, [.ref dk, .ref y0, .int 0])), (p1, .inr (6, [.ref dk, .ref y1, .int 0])), (p2, .inr (6, [.ref dk, .ref y2, .int 0])), (p3, .inr (6, [.ref dk, .ref y3, .int 0])), (p4, .inr (6, [.ref dk, .ref y4, .int 0])), (p5, .inr (6, [.ref dk, .ref y5, .int 0])), (p6, .inr (6, [.ref dk, .ref y6, .int 0])), (p7, .inr (6, [.ref dk, .ref y7, .int 0])), (p8, .inr (6, [.ref dk, .ref y8, .int 0]))]) [11, 0, 1, 2, 3, 4, 5, 6, 7, 8, 9, 10] rfl
  have hDc := hD.sub (ws' := [(h0, .inr (8, [.ref tp, .int 0, .int 0, .int (-1), .int wx, .int wy, .int 0, .ref r_left, .ref r_right, .ref r_told, .ref r_curve, .int 0, .int 0, .int 0, .int 0, .ref r_steps, .int 0, .ref r_stack, .int 0])), (r_left, .inr (2, [.ref x_c])), (x_c, .inl (cL, 9, .inr (.inr (.inr (.inr fc))))), (p0, .inr (6, [.ref dk, .ref y0, .int 0])), (p1, .inr (6, [.ref dk, .ref y1, .int 0])), (p2, .inr (6, [.ref dk, .ref y2, .int 0])), (p3, .inr (6, [.ref dk, .ref y3, .int 0])), (p4, .inr (6, [.ref dk, .ref y4, .int 0])), (p5, .inr (6, [.ref dk, .ref y5, .int 0])), (p6, .inr (6, [.ref dk, .ref y6, .int 0])), (p7, .inr (6, [.ref dk, .ref y7, .int 0])), (p8, .inr (6, [.ref dk, .ref y8, .int 0]))]) [11, 0, 1, 2, 3, 4, 5, 6, 7, 8, 9, 10] (by decide) rfl
  have hKc := hK.sub (tys' := [(cL, .object "RealHouse$Poly")]) [0] rfl
  have hFc := va_free (wc := [(h0, .inr (8, [.ref tp, .int 0, .int 0, .int (-1), .int wx, .int wy, .int 0, .ref r_left, .ref r_right, .ref r_told, .ref r_curve, .int 0, .int 0, .int 0, .int 0, .ref r_steps, .int 0, .ref r_stack, .int 0])), (r_left, .inr (2, [.ref x_c])), (x_c, .inl (cL, 9, .inr (.inr (.inr (.inr fc))))), (p0, .inr (6, [.ref dk, .ref y0, .int 0])), (p1, .inr (6, [.ref dk, .ref y1, .int 0])), (p2, .inr (6, [.ref dk, .ref y2, .int 0])), (p3, .inr (6, [.ref dk, .ref y3, .int 0])), (p4, .inr (6, [.ref dk, .ref y4, .int 0])), (p5, .inr (6, [.ref dk, .ref y5, .int 0])), (p6, .inr (6, [.ref dk, .ref y6, .int 0])), (p7, .inr (6, [.ref dk, .ref y7, .int 0])), (p8, .inr (6, [.ref dk, .ref y8, .int 0]))]) hD hS hA [11, 0, 1, 2, 3, 4, 5, 6, 7, 8, 9, 10] rfl
  refine va_callv (va_runV (As := []) (rest := []) ⟨hx, hb, hml, hown, hT⟩ (c_Reader_readComparison_0 l dC dI H.size h0 tp r_left r_right r_told r_curve r_steps r_stack wx wy x_c cL fc dk p0 p1 p2 p3 p4 p5 p6 p7 p8 y0 y1 y2 y3 y4 y5 y6 y7 y8 hF) (cwV 0 hT (tb_goodV g_Reader_readComparison tw_1403 tw_1405 (tb_sel (q := (⟨"RealHouse$Reader", "readComparison", "()V"⟩, 19)) (i := 51) (by decide +kernel)) tw_6) rfl rfl rfl (by decide +kernel) ⟨Nat.le_of_ble_eq_true rfl, Nat.le_of_ble_eq_true rfl⟩) ⟨fun a U g mk q => by obtain ⟨q0, q1, qP, qK, qD, qN⟩ := q; exact ⟨q0, q1, qP, va_K.moved (u := U) (U := U.calling g mk a) (Vm.Alike.refl U.vm) qK, qD, nx_K.same (u := U) (U := U.calling g mk a) rfl qN⟩, va_recv hKc hPc (ci := 8) (q0 := 0) rfl rfl, fun U hU hW => ⟨rfl, by rw [hU], by rw [hU]; exact hPc, va_K.moved hW.alike hKc, hDc.weaken (fun _ _ _ _ => trivial), nx_K.warm hW hN⟩⟩ rfl rfl hl.1 rfl (lv_room (Nat.le_of_ble_eq_true rfl)) d_Reader_readFormula_68 ⟨Nat.le_of_ble_eq_true rfl, Nat.le_of_ble_eq_true rfl⟩) hS (fun q _ h => hFc q h) hFc (fun u t H1 locs ht hvm hw hB hz1 hk1 hS => ?_)
  obtain ⟨hP1, hK1, hD1⟩ := hB
  rw [ht] at hP1
  have hK1 := va_K.moved hvm.symm hK1
  obtain ⟨hP, hD⟩ := va_join (wr := []) (w1 := [(h0, .inr (8, [.ref tp, .int 0, .int 0, .int 0, .int wx, .int wy, .int 0, .ref r_left, .ref r_right, .ref r_told, .ref r_curve, .int 0, .int 0, .int 0, .int 0, .ref r_steps, .int 0, .ref r_stack, .int 0])), (r_left, .inr (2, [.ref x_c])), (x_c, .inl (cL, 9, .inr (.inr (.inr (.inr fc))))), (p0, .inr (6, [.ref dk, .ref y0, .int 0])), (p1, .inr (6, [.ref dk, .ref y1, .int 0])), (p2, .inr (6, [.ref dk, .ref y2, .int 0])), (p3, .inr (6, [.ref dk, .ref y3, .int 0])), (p4, .inr (6, [.ref dk, .ref y4, .int 0])), (p5, .inr (6, [.ref dk, .ref y5, .int 0])), (p6, .inr (6, [.ref dk, .ref y6, .int 0])), (p7, .inr (6, [.ref dk, .ref y7, .int 0])), (p8, .inr (6, [.ref dk, .ref y8, .int 0]))]) hP hD [11, 0, 1, 2, 3, 4, 5, 6, 7, 8, 9, 10] [] rfl rfl (by decide) (by decide) hk1 hFc hP1 hD1
  have hK := (hK.sub (tys' := []) [] rfl).app hK1
  generalize H1 = H at hP hS ⊢
  have hP : va_P (dC, dI) classes [(h0, .inr (8, [.ref tp, .int 0, .int 0, .int 0, .int wx, .int wy, .int 0, .ref r_left, .ref r_right, .ref r_told, .ref r_curve, .int 0, .int 0, .int 0, .int 0, .ref r_steps, .int 0, .ref r_stack, .int 0])), (r_left, .inr (2, [.ref x_c])), (x_c, .inl (cL, 9, .inr (.inr (.inr (.inr fc))))), (p0, .inr (6, [.ref dk, .ref y0, .int 0])), (p1, .inr (6, [.ref dk, .ref y1, .int 0])), (p2, .inr (6, [.ref dk, .ref y2, .int 0])), (p3, .inr (6, [.ref dk, .ref y3, .int 0])), (p4, .inr (6, [.ref dk, .ref y4, .int 0])), (p5, .inr (6, [.ref dk, .ref y5, .int 0])), (p6, .inr (6, [.ref dk, .ref y6, .int 0])), (p7, .inr (6, [.ref dk, .ref y7, .int 0])), (p8, .inr (6, [.ref dk, .ref y8, .int 0]))] H := hP
  have hD : va_D A [(h0, .inr (8, [.ref tp, .int 0, .int 0, .int 0, .int wx, .int wy, .int 0, .ref r_left, .ref r_right, .ref r_told, .ref r_curve, .int 0, .int 0, .int 0, .int 0, .ref r_steps, .int 0, .ref r_stack, .int 0])), (r_left, .inr (2, [.ref x_c])), (x_c, .inl (cL, 9, .inr (.inr (.inr (.inr fc))))), (p0, .inr (6, [.ref dk, .ref y0, .int 0])), (p1, .inr (6, [.ref dk, .ref y1, .int 0])), (p2, .inr (6, [.ref dk, .ref y2, .int 0])), (p3, .inr (6, [.ref dk, .ref y3, .int 0])), (p4, .inr (6, [.ref dk, .ref y4, .int 0])), (p5, .inr (6, [.ref dk, .ref y5, .int 0])), (p6, .inr (6, [.ref dk, .ref y6, .int 0])), (p7, .inr (6, [.ref dk, .ref y7, .int 0])), (p8, .inr (6, [.ref dk, .ref y8, .int 0]))] := hD
  have hK : va_K (dC, dI) classes [(cL, .object "RealHouse$Poly")] s := hK
  refine lv_iload_n hx hb d_Reader_readFormula_71 rfl (lv_at hl 2 rfl) ?_
  refine lv_aload_n hx hb d_Reader_readFormula_72 rfl (lv_at hl 3 rfl) ?_
  have hPc := hP.sub (ws' := [(h0, .inr (8, [.ref tp, .int 0, .int 0, .int 0, .int wx, .int wy, .int 0, .ref r_left, .ref r_right, .ref r_told, .ref r_curve, .int 0, .int 0, .int 0, .int 0, .ref r_steps, .int 0, .ref r_stack, .int 0]))]) [0] rfl
  have hDc := hD.sub (ws' := [(h0, .inr (8, [.ref tp, .int 0, .int 0, .int 0, .int wx, .int wy, .int 0, .ref r_left, .ref r_right, .ref r_told, .ref r_curve, .int 0, .int 0, .int 0, .int 0, .ref r_steps, .int 0, .ref r_stack, .int 0]))]) [0] (by decide) rfl
  have hKc := hK.sub (tys' := []) [] rfl
  have hFc := va_free (wc := [(h0, .inr (8, [.ref tp, .int 0, .int 0, .int 0, .int wx, .int wy, .int 0, .ref r_left, .ref r_right, .ref r_told, .ref r_curve, .int 0, .int 0, .int 0, .int 0, .ref r_steps, .int 0, .ref r_stack, .int 0]))]) hD hS hA [0] rfl
  refine va_calli (va_runV (As := []) (rest := [.int 0]) ⟨hx, hb, hml, hown, hT⟩ (c_Reader_closeNots_0 l dC dI H.size h0 tp r_left r_right r_told r_curve r_steps r_stack 0 wx wy ) (cwV 0 hT (tb_goodV g_Reader_closeNots tw_1428 tw_1430 (tb_sel (q := (⟨"RealHouse$Reader", "closeNots", "()I"⟩, 19)) (i := 54) (by decide +kernel)) tw_6) rfl rfl rfl (by decide +kernel) ⟨Nat.le_of_ble_eq_true rfl, Nat.le_of_ble_eq_true rfl⟩) ⟨fun a U g mk q => by obtain ⟨q0, q1, qP, qK, qD, qN⟩ := q; exact ⟨q0, q1, qP, va_K.moved (u := U) (U := U.calling g mk a) (Vm.Alike.refl U.vm) qK, qD, nx_K.same (u := U) (U := U.calling g mk a) rfl qN⟩, va_recv hKc hPc (ci := 8) (q0 := 0) rfl rfl, fun U hU hW => ⟨rfl, by rw [hU], by rw [hU]; exact hPc, va_K.moved hW.alike hKc, hDc.weaken (fun _ _ _ _ => trivial), nx_K.warm hW hN⟩⟩ rfl rfl hl.1 rfl (lv_room (Nat.le_of_ble_eq_true rfl)) d_Reader_readFormula_73 ⟨Nat.le_of_ble_eq_true rfl, Nat.le_of_ble_eq_true rfl⟩) hS (fun q _ h => hFc q h) hFc (fun r_6 u t H1 locs ht hvm hw hB hz1 hk1 hS => ?_)
  obtain ⟨hP1, hK1, hD1⟩ := hB
  rw [ht] at hP1
  have hK1 := va_K.moved hvm.symm hK1
  obtain rfl : r_6 = 0 := hw
  obtain ⟨hP, hD⟩ := va_join (wr := [(r_left, .inr (2, [.ref x_c])), (x_c, .inl (cL, 9, .inr (.inr (.inr (.inr fc))))), (p0, .inr (6, [.ref dk, .ref y0, .int 0])), (p1, .inr (6, [.ref dk, .ref y1, .int 0])), (p2, .inr (6, [.ref dk, .ref y2, .int 0])), (p3, .inr (6, [.ref dk, .ref y3, .int 0])), (p4, .inr (6, [.ref dk, .ref y4, .int 0])), (p5, .inr (6, [.ref dk, .ref y5, .int 0])), (p6, .inr (6, [.ref dk, .ref y6, .int 0])), (p7, .inr (6, [.ref dk, .ref y7, .int 0])), (p8, .inr (6, [.ref dk, .ref y8, .int 0]))]) (w1 := [(h0, .inr (8, [.ref tp, .int 0, .int 0, .int 0, .int wx, .int wy, .int 0, .ref r_left, .ref r_right, .ref r_told, .ref r_curve, .int 0, .int 0, .int 0, .int 0, .ref r_steps, .int 0, .ref r_stack, .int 0]))]) hP hD [0] [1, 2, 3, 4, 5, 6, 7, 8, 9, 10, 11] rfl rfl (by decide) (by decide) hk1 hFc hP1 hD1
  have hK := (hK.sub (tys' := [(cL, .object "RealHouse$Poly")]) [0] rfl).app hK1
  generalize H1 = H at hP hS ⊢
  have hP : va_P (dC, dI) classes [(r_left, .inr (2, [.ref x_c])), (x_c, .inl (cL, 9, .inr (.inr (.inr (.inr fc))))), (p0, .inr (6, [.ref dk, .ref y0, .int 0])), (p1, .inr (6, [.ref dk, .ref y1, .int 0])), (p2, .inr (6, [.ref dk, .ref y2, .int 0])), (p3, .inr (6, [.ref dk, .ref y3, .int 0])), (p4, .inr (6, [.ref dk, .ref y4, .int 0])), (p5, .inr (6, [.ref dk, .ref y5, .int 0])), (p6, .inr (6, [.ref dk, .ref y6, .int 0])), (p7, .inr (6, [.ref dk, .ref y7, .int 0])), (p8, .inr (6, [.ref dk, .ref y8, .int 0])), (h0, .inr (8, [.ref tp, .int 0, .int 0, .int 0, .int wx, .int wy, .int 0, .ref r_left, .ref r_right, .ref r_told, .ref r_curve, .int 0, .int 0, .int 0, .int 0, .ref r_steps, .int 0, .ref r_stack, .int 0]))] H := hP
  have hD : va_D A [(r_left, .inr (2, [.ref x_c])), (x_c, .inl (cL, 9, .inr (.inr (.inr (.inr fc))))), (p0, .inr (6, [.ref dk, .ref y0, .int 0])), (p1, .inr (6, [.ref dk, .ref y1, .int 0])), (p2, .inr (6, [.ref dk, .ref y2, .int 0])), (p3, .inr (6, [.ref dk, .ref y3, .int 0])), (p4, .inr (6, [.ref dk, .ref y4, .int 0])), (p5, .inr (6, [.ref dk, .ref y5, .int 0])), (p6, .inr (6, [.ref dk, .ref y6, .int 0])), (p7, .inr (6, [.ref dk, .ref y7, .int 0])), (p8, .inr (6, [.ref dk, .ref y8, .int 0])), (h0, .inr (8, [.ref tp, .int 0, .int 0, .int 0, .int wx, .int wy, .int 0, .ref r_left, .ref r_right, .ref r_told, .ref r_curve, .int 0, .int 0, .int 0, .int 0, .ref r_steps, .int 0, .ref r_stack, .int 0]))] := hD
  have hK : va_K (dC, dI) classes [(cL, .object "RealHouse$Poly")] s := hK
  refine lv_isub hx hb d_Reader_readFormula_76 ?_
  refine lv_topi (fun v_7 ev_7 => ?_)
  obtain rfl : v_7 = 0 := ev_7.trans (by decide)
  refine lv_istore_n (lv' := [(1, .int 0), (3, .int (-1)), (2, .int 0), (0, .ref h0)]) hx hb d_Reader_readFormula_77 rfl hl (by decide) rfl (fun ls hl => ?_)
  refine lv_iconst (v := 0) hx hb d_Reader_readFormula_78 (by decide) ?_
  refine lv_istore (lv' := [(4, .int 0), (1, .int 0), (3, .int (-1)), (2, .int 0), (0, .ref h0)]) hx hb d_Reader_readFormula_79 hl (by decide) rfl (fun ls hl => ?_)
  refine lv_iload hx hb d_Reader_readFormula_81 (lv_at hl 0 rfl) ?_
  refine lv_bipush (v := 20) hx hb d_Reader_readFormula_83 (by decide) ?_
  refine lv_icmp_ge (tgt := 133) hx hb d_Reader_readFormula_85 (by decide) (fun c_8 => absurd c_8 (by decide)) (fun c_8 => ?_)
  refine lv_aload_n hx hb d_Reader_readFormula_88 rfl (lv_at hl 4 rfl) ?_
  refine va_get (D := (dC, dI)) (ci := 8) (v := .int 0) (C := R_Reader) (T := F_Reader) (N := 19) hx hb hT i_Reader hown hK hP 11 rfl rfl 18 (by decide) (hT _ tw_262) (fun _ h9 => h9) rfl d_Reader_readFormula_89 ?_
  refine lv_if_le (tgt := 133) hx hb d_Reader_readFormula_92 (by decide) (fun c_9 => ?_) (fun c_9 => absurd (by decide) c_9)
  refine lv_aload_n hx hb d_Reader_readFormula_133 rfl (lv_at hl 4 rfl) ?_
  have hPc := hP.sub (ws' := [(h0, .inr (8, [.ref tp, .int 0, .int 0, .int 0, .int wx, .int wy, .int 0, .ref r_left, .ref r_right, .ref r_told, .ref r_curve, .int 0, .int 0, .int 0, .int 0, .ref r_steps, .int 0, .ref r_stack, .int 0]))]) [11] rfl
  have hDc := hD.sub (ws' := [(h0, .inr (8, [.ref tp, .int 0, .int 0, .int 0, .int wx, .int wy, .int 0, .ref r_left, .ref r_right, .ref r_told, .ref r_curve, .int 0, .int 0, .int 0, .int 0, .ref r_steps, .int 0, .ref r_stack, .int 0]))]) [11] (by decide) rfl
  have hKc := hK.sub (tys' := []) [] rfl
  have hFc := va_free (wc := [(h0, .inr (8, [.ref tp, .int 0, .int 0, .int 0, .int wx, .int wy, .int 0, .ref r_left, .ref r_right, .ref r_told, .ref r_curve, .int 0, .int 0, .int 0, .int 0, .ref r_steps, .int 0, .ref r_stack, .int 0]))]) hD hS hA [11] rfl
  refine va_calli (va_runV (As := []) (rest := []) ⟨hx, hb, hml, hown, hT⟩ (c_Reader_next_0 l dC dI H.size h0 tp r_left r_right r_told r_curve r_steps r_stack 0 wx wy ) (cwV 0 hT (tb_goodV g_Reader_next tw_718 tw_720 (tb_sel (q := (⟨"RealHouse$Reader", "next", "()I"⟩, 19)) (i := 3) (by decide +kernel)) tw_6) rfl rfl rfl (by decide +kernel) ⟨Nat.le_of_ble_eq_true rfl, Nat.le_of_ble_eq_true rfl⟩) ⟨fun a U g mk q => by obtain ⟨q0, q1, qP, qK, qD, qN⟩ := q; exact ⟨q0, q1, qP, va_K.moved (u := U) (U := U.calling g mk a) (Vm.Alike.refl U.vm) qK, qD, nx_K.same (u := U) (U := U.calling g mk a) rfl qN⟩, va_recv hKc hPc (ci := 8) (q0 := 0) rfl rfl, fun U hU hW => ⟨rfl, by rw [hU], by rw [hU]; exact hPc, va_K.moved hW.alike hKc, hDc.weaken (fun _ _ _ _ => trivial), nx_K.warm hW hN⟩⟩ rfl rfl hl.1 rfl (lv_room (Nat.le_of_ble_eq_true rfl)) d_Reader_readFormula_134 ⟨Nat.le_of_ble_eq_true rfl, Nat.le_of_ble_eq_true rfl⟩) hS (fun q _ h => hFc q h) hFc (fun r_10 u t H1 locs ht hvm hw hB hz1 hk1 hS => ?_)
  obtain ⟨hP1, hK1, hD1⟩ := hB
  rw [ht] at hP1
  have hK1 := va_K.moved hvm.symm hK1
  obtain rfl : r_10 = (-1) := hw
  obtain ⟨hP, hD⟩ := va_join (wr := [(r_left, .inr (2, [.ref x_c])), (x_c, .inl (cL, 9, .inr (.inr (.inr (.inr fc))))), (p0, .inr (6, [.ref dk, .ref y0, .int 0])), (p1, .inr (6, [.ref dk, .ref y1, .int 0])), (p2, .inr (6, [.ref dk, .ref y2, .int 0])), (p3, .inr (6, [.ref dk, .ref y3, .int 0])), (p4, .inr (6, [.ref dk, .ref y4, .int 0])), (p5, .inr (6, [.ref dk, .ref y5, .int 0])), (p6, .inr (6, [.ref dk, .ref y6, .int 0])), (p7, .inr (6, [.ref dk, .ref y7, .int 0])), (p8, .inr (6, [.ref dk, .ref y8, .int 0]))]) (w1 := [(h0, .inr (8, [.ref tp, .int 0, .int 0, .int 0, .int wx, .int wy, .int 0, .ref r_left, .ref r_right, .ref r_told, .ref r_curve, .int 0, .int 0, .int 0, .int 0, .ref r_steps, .int 0, .ref r_stack, .int 0]))]) hP hD [11] [0, 1, 2, 3, 4, 5, 6, 7, 8, 9, 10] rfl rfl (by decide) (by decide) hk1 hFc hP1 hD1
  have hK := (hK.sub (tys' := [(cL, .object "RealHouse$Poly")]) [0] rfl).app hK1
  generalize H1 = H at hP hS ⊢
  have hP : va_P (dC, dI) classes [(r_left, .inr (2, [.ref x_c])), (x_c, .inl (cL, 9, .inr (.inr (.inr (.inr fc))))), (p0, .inr (6, [.ref dk, .ref y0, .int 0])), (p1, .inr (6, [.ref dk, .ref y1, .int 0])), (p2, .inr (6, [.ref dk, .ref y2, .int 0])), (p3, .inr (6, [.ref dk, .ref y3, .int 0])), (p4, .inr (6, [.ref dk, .ref y4, .int 0])), (p5, .inr (6, [.ref dk, .ref y5, .int 0])), (p6, .inr (6, [.ref dk, .ref y6, .int 0])), (p7, .inr (6, [.ref dk, .ref y7, .int 0])), (p8, .inr (6, [.ref dk, .ref y8, .int 0])), (h0, .inr (8, [.ref tp, .int 0, .int 0, .int 0, .int wx, .int wy, .int 0, .ref r_left, .ref r_right, .ref r_told, .ref r_curve, .int 0, .int 0, .int 0, .int 0, .ref r_steps, .int 0, .ref r_stack, .int 0]))] H := hP
  have hD : va_D A [(r_left, .inr (2, [.ref x_c])), (x_c, .inl (cL, 9, .inr (.inr (.inr (.inr fc))))), (p0, .inr (6, [.ref dk, .ref y0, .int 0])), (p1, .inr (6, [.ref dk, .ref y1, .int 0])), (p2, .inr (6, [.ref dk, .ref y2, .int 0])), (p3, .inr (6, [.ref dk, .ref y3, .int 0])), (p4, .inr (6, [.ref dk, .ref y4, .int 0])), (p5, .inr (6, [.ref dk, .ref y5, .int 0])), (p6, .inr (6, [.ref dk, .ref y6, .int 0])), (p7, .inr (6, [.ref dk, .ref y7, .int 0])), (p8, .inr (6, [.ref dk, .ref y8, .int 0])), (h0, .inr (8, [.ref tp, .int 0, .int 0, .int 0, .int wx, .int wy, .int 0, .ref r_left, .ref r_right, .ref r_told, .ref r_curve, .int 0, .int 0, .int 0, .int 0, .ref r_steps, .int 0, .ref r_stack, .int 0]))] := hD
  have hK : va_K (dC, dI) classes [(cL, .object "RealHouse$Poly")] s := hK
  refine lv_istore_n (lv' := [(3, .int (-1)), (4, .int 0), (1, .int 0), (2, .int 0), (0, .ref h0)]) hx hb d_Reader_readFormula_137 rfl hl (by decide) rfl (fun ls hl => ?_)
  refine lv_aload_n hx hb d_Reader_readFormula_138 rfl (lv_at hl 4 rfl) ?_
  refine va_get (D := (dC, dI)) (ci := 8) (v := .int 0) (C := R_Reader) (T := F_Reader) (N := 19) hx hb hT i_Reader hown hK hP 11 rfl rfl 18 (by decide) (hT _ tw_262) (fun _ h9 => h9) rfl d_Reader_readFormula_139 ?_
  refine lv_if_ne (tgt := 150) hx hb d_Reader_readFormula_142 (by decide) (fun c_11 => absurd (by decide) c_11) (fun c_11 => ?_)
  refine lv_aload_n hx hb d_Reader_readFormula_145 rfl (lv_at hl 4 rfl) ?_
  have hPc := hP.sub (ws' := [(h0, .inr (8, [.ref tp, .int 0, .int 0, .int 0, .int wx, .int wy, .int 0, .ref r_left, .ref r_right, .ref r_told, .ref r_curve, .int 0, .int 0, .int 0, .int 0, .ref r_steps, .int 0, .ref r_stack, .int 0]))]) [11] rfl
  have hDc := hD.sub (ws' := [(h0, .inr (8, [.ref tp, .int 0, .int 0, .int 0, .int wx, .int wy, .int 0, .ref r_left, .ref r_right, .ref r_told, .ref r_curve, .int 0, .int 0, .int 0, .int 0, .ref r_steps, .int 0, .ref r_stack, .int 0]))]) [11] (by decide) rfl
  have hKc := hK.sub (tys' := []) [] rfl
  have hFc := va_free (wc := [(h0, .inr (8, [.ref tp, .int 0, .int 0, .int 0, .int wx, .int wy, .int 0, .ref r_left, .ref r_right, .ref r_told, .ref r_curve, .int 0, .int 0, .int 0, .int 0, .ref r_steps, .int 0, .ref r_stack, .int 0]))]) hD hS hA [11] rfl
  refine va_callv (va_runV (As := []) (rest := []) ⟨hx, hb, hml, hown, hT⟩ (c_Reader_expectEnd_0 l dC dI H.size h0 tp r_left r_right r_told r_curve r_steps r_stack 0 wx wy ) (cwV 0 hT (tb_goodV g_Reader_expectEnd tw_762 tw_764 (tb_sel (q := (⟨"RealHouse$Reader", "expectEnd", "()V"⟩, 19)) (i := 8) (by decide +kernel)) tw_6) rfl rfl rfl (by decide +kernel) ⟨Nat.le_of_ble_eq_true rfl, Nat.le_of_ble_eq_true rfl⟩) ⟨fun a U g mk q => by obtain ⟨q0, q1, qP, qK, qD, qN⟩ := q; exact ⟨q0, q1, qP, va_K.moved (u := U) (U := U.calling g mk a) (Vm.Alike.refl U.vm) qK, qD, nx_K.same (u := U) (U := U.calling g mk a) rfl qN⟩, va_recv hKc hPc (ci := 8) (q0 := 0) rfl rfl, fun U hU hW => ⟨rfl, by rw [hU], by rw [hU]; exact hPc, va_K.moved hW.alike hKc, hDc.weaken (fun _ _ _ _ => trivial), nx_K.warm hW hN⟩⟩ rfl rfl hl.1 rfl (lv_room (Nat.le_of_ble_eq_true rfl)) d_Reader_readFormula_146 ⟨Nat.le_of_ble_eq_true rfl, Nat.le_of_ble_eq_true rfl⟩) hS (fun q _ h => hFc q h) hFc (fun u t H1 locs ht hvm hw hB hz1 hk1 hS => ?_)
  obtain ⟨hP1, hK1, hD1⟩ := hB
  rw [ht] at hP1
  have hK1 := va_K.moved hvm.symm hK1
  obtain ⟨hP, hD⟩ := va_join (wr := [(r_left, .inr (2, [.ref x_c])), (x_c, .inl (cL, 9, .inr (.inr (.inr (.inr fc))))), (p0, .inr (6, [.ref dk, .ref y0, .int 0])), (p1, .inr (6, [.ref dk, .ref y1, .int 0])), (p2, .inr (6, [.ref dk, .ref y2, .int 0])), (p3, .inr (6, [.ref dk, .ref y3, .int 0])), (p4, .inr (6, [.ref dk, .ref y4, .int 0])), (p5, .inr (6, [.ref dk, .ref y5, .int 0])), (p6, .inr (6, [.ref dk, .ref y6, .int 0])), (p7, .inr (6, [.ref dk, .ref y7, .int 0])), (p8, .inr (6, [.ref dk, .ref y8, .int 0]))]) (w1 := [(h0, .inr (8, [.ref tp, .int 0, .int 0, .int 0, .int wx, .int wy, .int 0, .ref r_left, .ref r_right, .ref r_told, .ref r_curve, .int 0, .int 0, .int 0, .int 0, .ref r_steps, .int 0, .ref r_stack, .int 0]))]) hP hD [11] [0, 1, 2, 3, 4, 5, 6, 7, 8, 9, 10] rfl rfl (by decide) (by decide) hk1 hFc hP1 hD1
  have hK := (hK.sub (tys' := [(cL, .object "RealHouse$Poly")]) [0] rfl).app hK1
  generalize H1 = H at hP hS ⊢
  have hP : va_P (dC, dI) classes [(r_left, .inr (2, [.ref x_c])), (x_c, .inl (cL, 9, .inr (.inr (.inr (.inr fc))))), (p0, .inr (6, [.ref dk, .ref y0, .int 0])), (p1, .inr (6, [.ref dk, .ref y1, .int 0])), (p2, .inr (6, [.ref dk, .ref y2, .int 0])), (p3, .inr (6, [.ref dk, .ref y3, .int 0])), (p4, .inr (6, [.ref dk, .ref y4, .int 0])), (p5, .inr (6, [.ref dk, .ref y5, .int 0])), (p6, .inr (6, [.ref dk, .ref y6, .int 0])), (p7, .inr (6, [.ref dk, .ref y7, .int 0])), (p8, .inr (6, [.ref dk, .ref y8, .int 0])), (h0, .inr (8, [.ref tp, .int 0, .int 0, .int 0, .int wx, .int wy, .int 0, .ref r_left, .ref r_right, .ref r_told, .ref r_curve, .int 0, .int 0, .int 0, .int 0, .ref r_steps, .int 0, .ref r_stack, .int 0]))] H := hP
  have hD : va_D A [(r_left, .inr (2, [.ref x_c])), (x_c, .inl (cL, 9, .inr (.inr (.inr (.inr fc))))), (p0, .inr (6, [.ref dk, .ref y0, .int 0])), (p1, .inr (6, [.ref dk, .ref y1, .int 0])), (p2, .inr (6, [.ref dk, .ref y2, .int 0])), (p3, .inr (6, [.ref dk, .ref y3, .int 0])), (p4, .inr (6, [.ref dk, .ref y4, .int 0])), (p5, .inr (6, [.ref dk, .ref y5, .int 0])), (p6, .inr (6, [.ref dk, .ref y6, .int 0])), (p7, .inr (6, [.ref dk, .ref y7, .int 0])), (p8, .inr (6, [.ref dk, .ref y8, .int 0])), (h0, .inr (8, [.ref tp, .int 0, .int 0, .int 0, .int wx, .int wy, .int 0, .ref r_left, .ref r_right, .ref r_told, .ref r_curve, .int 0, .int 0, .int 0, .int 0, .ref r_steps, .int 0, .ref r_stack, .int 0]))] := hD
  have hK : va_K (dC, dI) classes [(cL, .object "RealHouse$Poly")] s := hK
  have hP9 := hP.sub (ws' := [(h0, .inr (8, [.ref tp, .int 0, .int 0, .int 0, .int wx, .int wy, .int 0, .ref r_left, .ref r_right, .ref r_told, .ref r_curve, .int 0, .int 0, .int 0, .int 0, .ref r_steps, .int 0, .ref r_stack, .int 0])), (r_left, .inr (2, [.ref x_c])), (x_c, .inl (cL, 9, .inr (.inr (.inr (.inr fc))))), (p0, .inr (6, [.ref dk, .ref y0, .int 0])), (p1, .inr (6, [.ref dk, .ref y1, .int 0])), (p2, .inr (6, [.ref dk, .ref y2, .int 0])), (p3, .inr (6, [.ref dk, .ref y3, .int 0])), (p4, .inr (6, [.ref dk, .ref y4, .int 0])), (p5, .inr (6, [.ref dk, .ref y5, .int 0])), (p6, .inr (6, [.ref dk, .ref y6, .int 0])), (p7, .inr (6, [.ref dk, .ref y7, .int 0])), (p8, .inr (6, [.ref dk, .ref y8, .int 0]))]) [11, 0, 1, 2, 3, 4, 5, 6, 7, 8, 9, 10] rfl
  have hD9 := hD.sub (ws' := [(h0, .inr (8, [.ref tp, .int 0, .int 0, .int 0, .int wx, .int wy, .int 0, .ref r_left, .ref r_right, .ref r_told, .ref r_curve, .int 0, .int 0, .int 0, .int 0, .ref r_steps, .int 0, .ref r_stack, .int 0])), (r_left, .inr (2, [.ref x_c])), (x_c, .inl (cL, 9, .inr (.inr (.inr (.inr fc))))), (p0, .inr (6, [.ref dk, .ref y0, .int 0])), (p1, .inr (6, [.ref dk, .ref y1, .int 0])), (p2, .inr (6, [.ref dk, .ref y2, .int 0])), (p3, .inr (6, [.ref dk, .ref y3, .int 0])), (p4, .inr (6, [.ref dk, .ref y4, .int 0])), (p5, .inr (6, [.ref dk, .ref y5, .int 0])), (p6, .inr (6, [.ref dk, .ref y6, .int 0])), (p7, .inr (6, [.ref dk, .ref y7, .int 0])), (p8, .inr (6, [.ref dk, .ref y8, .int 0]))]) [11, 0, 1, 2, 3, 4, 5, 6, 7, 8, 9, 10] (by decide) rfl
  have hK9 := hK.sub (tys' := [(cL, .object "RealHouse$Poly")]) [0] rfl
  exact W.vret hx hb hr (fun t ht hW => ⟨⟨(), rfl, trivial, by rw [ht]; exact hP9, va_K.moved hW.alike hK9, hD9⟩, hS.F ht⟩) hS.2.2 d_Reader_readFormula_149

set_option maxHeartbeats 4000000 in
set_option maxRecDepth 100000 in
/-- begin(tape, 0, 1, 1) -/
theorem c_Reader_begin_11 (l : Launch) (dC : Nat → ClassId) (dI : Nat → Nat → Nat) (sz : Nat) (h0 : Nat) (tp : Nat) (r_left : Nat) (r_right : Nat) (r_told : Nat) (r_curve : Nat) (r_steps : Nat) (r_stack : Nat) (t0 : Nat) (ft : Int32) (wx : Int32) (wy : Int32) (cT : ClassId) (fT : Nat → Int32)  : Met l y_Reader_begin w_Reader_begin ({ frames := 1, cells := 0, slots := 0, locals := 14 }) (va_Pc [.ref h0, .ref tp, .int 0, .int 1, .int 1] (fun U => U.heap.size = sz ∧ va_P (dC, dI) classes [(h0, .inr (8, [.ref t0, .int 0, .int 0, .int ft, .int wx, .int wy, .int 0, .ref r_left, .ref r_right, .ref r_told, .ref r_curve, .int 0, .int 0, .int 0, .int 0, .ref r_steps, .int 0, .ref r_stack, .int 0])), (tp, .inl (cT, 400, .inl fT))] U.heap ∧ va_K (dC, dI) classes [(cT, .int)] U ∧ va_D (fun _ => True) [(h0, .inr (8, [.ref t0, .int 0, .int 0, .int ft, .int wx, .int wy, .int 0, .ref r_left, .ref r_right, .ref r_told, .ref r_curve, .int 0, .int 0, .int 0, .int 0, .ref r_steps, .int 0, .ref r_stack, .int 0])), (tp, .inl (cT, 400, .inl fT))] ∧ nx_K U)) (va_Qv (fun _ : Unit => True) (fun _ t => va_P (dC, dI) classes [(h0, .inr (8, [.ref tp, .int 0, .int 0, .int (-1), .int 1, .int 1, .int 0, .ref r_left, .ref r_right, .ref r_told, .ref r_curve, .int 0, .int 0, .int 0, .int 0, .ref r_steps, .int 0, .ref r_stack, .int 0])), (tp, .inl (cT, 400, .inl fT))] t.heap ∧ va_K (dC, dI) classes [(cT, .int)] t ∧ va_D (va_A [(h0, .inr (8, [.ref t0, .int 0, .int 0, .int ft, .int wx, .int wy, .int 0, .ref r_left, .ref r_right, .ref r_told, .ref r_curve, .int 0, .int 0, .int 0, .int 0, .ref r_steps, .int 0, .ref r_stack, .int 0])), (tp, .inl (cT, 400, .inl fT))] sz) [(h0, .inr (8, [.ref tp, .int 0, .int 0, .int (-1), .int 1, .int 1, .int 0, .ref r_left, .ref r_right, .ref r_told, .ref r_curve, .int 0, .int 0, .int 0, .int 0, .ref r_steps, .int 0, .ref r_stack, .int 0])), (tp, .inl (cT, 400, .inl fT))]) (va_A [(h0, .inr (8, [.ref t0, .int 0, .int 0, .int ft, .int wx, .int wy, .int 0, .ref r_left, .ref r_right, .ref r_told, .ref r_curve, .int 0, .int 0, .int 0, .int 0, .ref r_steps, .int 0, .ref r_stack, .int 0])), (tp, .inl (cT, 400, .inl fT))] sz)) 0 0 (va_A [(h0, .inr (8, [.ref t0, .int 0, .int 0, .int ft, .int wx, .int wy, .int 0, .ref r_left, .ref r_right, .ref r_told, .ref r_curve, .int 0, .int 0, .int 0, .int 0, .ref r_steps, .int 0, .ref r_stack, .int 0])), (tp, .inl (cT, 400, .inl fT))] sz) := by
  refine Met.ofW (cc := b_Reader_begin) (maxL := 5) (ret := none) (by decide) rfl ?_
  intro p e s m args below meth c s₁ B hml hv
  obtain ⟨rfl, hsz, hP, hK, hD0, hN⟩ := hv
  have hx := B.exec
  have hb := B.bytes
  have hr := B.returns
  have hT : ∀ w ∈ lw_g, w.before _ s = true := fun w h => atoms_spec (ws := w_Reader_begin) B.pre w (List.mem_cons_of_mem _ h)
  have hown : s.vm.findClass R_Reader = some m.cls := findClass_of_methodNamed B.named
  have hlocks := B.notSynchronized
  subst hsz
  have hD := hD0.self (sz := s.heap.size)
  generalize hAe : va_A [(h0, .inr (8, [.ref t0, .int 0, .int 0, .int ft, .int wx, .int wy, .int 0, .ref r_left, .ref r_right, .ref r_told, .ref r_curve, .int 0, .int 0, .int 0, .int 0, .ref r_steps, .int 0, .ref r_stack, .int 0])), (tp, .inl (cT, 400, .inl fT))] s.heap.size = A at hD ⊢
  have hA : ∀ q : Nat, s.heap.size ≤ q → A q := fun q h => by rw [← hAe]; exact Or.inr h
  have hS : va_S A s.heap s.heap [] := va_S.rf
  have hP : va_P (dC, dI) classes [(h0, .inr (8, [.ref t0, .int 0, .int 0, .int ft, .int wx, .int wy, .int 0, .ref r_left, .ref r_right, .ref r_told, .ref r_curve, .int 0, .int 0, .int 0, .int 0, .ref r_steps, .int 0, .ref r_stack, .int 0])), (tp, .inl (cT, 400, .inl fT))] s.heap := hP
  have hl := lv_entry ([.ref h0, .ref tp, .int 0, .int 1, .int 1]) (n := 5) (Nat.le_of_ble_eq_true rfl)
  rw [lg_entry_eq]
  generalize (lg_sl ([.ref h0, .ref tp, .int 0, .int 1, .int 1]) ++ List.replicate (5 - (lg_sl ([.ref h0, .ref tp, .int 0, .int 1, .int 1])).length) Slot.unset).toArray = ls at hl ⊢
  have hl : lv_has ls 5 [(0, .ref h0), (1, .ref tp), (2, .int 0), (3, .int 1), (4, .int 1)] := hl
  refine lv_aload_n hx hb d_Reader_begin_0 rfl (lv_at hl 0 rfl) ?_
  refine lv_aload_n hx hb d_Reader_begin_1 rfl (lv_at hl 1 rfl) ?_
  refine va_put (D := (dC, dI)) (ci := 8) (v := .ref tp) (ty := .array .int) (C := R_Reader) (T := F_Reader) (N := 19) hx hb hT i_Reader t_Reader t_Reader_ok n_Reader hown hK hP hD hS 0 rfl rfl 0 (by decide) (hT _ tw_233) (fun _ h9 => h9) rfl (by decide +kernel) rfl rfl (Nat.le_of_ble_eq_true rfl) d_Reader_begin_2 (fun H locs hP hD hS => ?_)
  have hP : va_P (dC, dI) classes [(h0, .inr (8, [.ref tp, .int 0, .int 0, .int ft, .int wx, .int wy, .int 0, .ref r_left, .ref r_right, .ref r_told, .ref r_curve, .int 0, .int 0, .int 0, .int 0, .ref r_steps, .int 0, .ref r_stack, .int 0])), (tp, .inl (cT, 400, .inl fT))] H := hP
  have hD : va_D A [(h0, .inr (8, [.ref tp, .int 0, .int 0, .int ft, .int wx, .int wy, .int 0, .ref r_left, .ref r_right, .ref r_told, .ref r_curve, .int 0, .int 0, .int 0, .int 0, .ref r_steps, .int 0, .ref r_stack, .int 0])), (tp, .inl (cT, 400, .inl fT))] := hD
  refine lv_aload_n hx hb d_Reader_begin_5 rfl (lv_at hl 0 rfl) ?_
  refine lv_iload_n hx hb d_Reader_begin_6 rfl (lv_at hl 2 rfl) ?_
  refine lv_aload_n hx hb d_Reader_begin_7 rfl (lv_at hl 1 rfl) ?_
  refine va_alen (v := 400) hx hb hK hP 1 0 rfl rfl rfl d_Reader_begin_8 ?_
  refine va_mmin hx hb (hml.trans hl.1.symm) hown (hT _ tw_703) (hT _ tw_704) (hT _ tw_4) (hT _ tw_705) (Nat.le_of_ble_eq_true rfl) (Nat.le_of_ble_eq_true rfl) (Nat.le_of_ble_eq_true rfl) (Nat.le_of_ble_eq_true rfl) d_Reader_begin_9 ?_
  refine lv_topi (fun v_1 ev_1 => ?_)
  obtain rfl : v_1 = 0 := ev_1.trans (by decide)
  refine va_put (D := (dC, dI)) (ci := 8) (v := .int 0) (ty := .int) (C := R_Reader) (T := F_Reader) (N := 19) hx hb hT i_Reader t_Reader t_Reader_ok n_Reader hown hK hP hD hS 0 rfl rfl 1 (by decide) (hT _ tw_234) (fun _ h9 => h9) rfl (by decide +kernel) rfl rfl (Nat.le_of_ble_eq_true rfl) d_Reader_begin_12 (fun H locs hP hD hS => ?_)
  have hP : va_P (dC, dI) classes [(h0, .inr (8, [.ref tp, .int 0, .int 0, .int ft, .int wx, .int wy, .int 0, .ref r_left, .ref r_right, .ref r_told, .ref r_curve, .int 0, .int 0, .int 0, .int 0, .ref r_steps, .int 0, .ref r_stack, .int 0])), (tp, .inl (cT, 400, .inl fT))] H := hP
  have hD : va_D A [(h0, .inr (8, [.ref tp, .int 0, .int 0, .int ft, .int wx, .int wy, .int 0, .ref r_left, .ref r_right, .ref r_told, .ref r_curve, .int 0, .int 0, .int 0, .int 0, .ref r_steps, .int 0, .ref r_stack, .int 0])), (tp, .inl (cT, 400, .inl fT))] := hD
  refine lv_aload_n hx hb d_Reader_begin_15 rfl (lv_at hl 0 rfl) ?_
  refine lv_iconst (v := 0) hx hb d_Reader_begin_16 (by decide) ?_
  refine va_put (D := (dC, dI)) (ci := 8) (v := .int 0) (ty := .int) (C := R_Reader) (T := F_Reader) (N := 19) hx hb hT i_Reader t_Reader t_Reader_ok n_Reader hown hK hP hD hS 0 rfl rfl 2 (by decide) (hT _ tw_235) (fun _ h9 => h9) rfl (by decide +kernel) rfl rfl (Nat.le_of_ble_eq_true rfl) d_Reader_begin_17 (fun H locs hP hD hS => ?_)
  have hP : va_P (dC, dI) classes [(h0, .inr (8, [.ref tp, .int 0, .int 0, .int ft, .int wx, .int wy, .int 0, .ref r_left, .ref r_right, .ref r_told, .ref r_curve, .int 0, .int 0, .int 0, .int 0, .ref r_steps, .int 0, .ref r_stack, .int 0])), (tp, .inl (cT, 400, .inl fT))] H := hP
  have hD : va_D A [(h0, .inr (8, [.ref tp, .int 0, .int 0, .int ft, .int wx, .int wy, .int 0, .ref r_left, .ref r_right, .ref r_told, .ref r_curve, .int 0, .int 0, .int 0, .int 0, .ref r_steps, .int 0, .ref r_stack, .int 0])), (tp, .inl (cT, 400, .inl fT))] := hD
  refine lv_aload_n hx hb d_Reader_begin_20 rfl (lv_at hl 0 rfl) ?_
  refine lv_iconst (v := (-1)) hx hb d_Reader_begin_21 (by decide) ?_
  refine va_put (D := (dC, dI)) (ci := 8) (v := .int (-1)) (ty := .int) (C := R_Reader) (T := F_Reader) (N := 19) hx hb hT i_Reader t_Reader t_Reader_ok n_Reader hown hK hP hD hS 0 rfl rfl 3 (by decide) (hT _ tw_236) (fun _ h9 => h9) rfl (by decide +kernel) rfl rfl (Nat.le_of_ble_eq_true rfl) d_Reader_begin_22 (fun H locs hP hD hS => ?_)
  have hP : va_P (dC, dI) classes [(h0, .inr (8, [.ref tp, .int 0, .int 0, .int (-1), .int wx, .int wy, .int 0, .ref r_left, .ref r_right, .ref r_told, .ref r_curve, .int 0, .int 0, .int 0, .int 0, .ref r_steps, .int 0, .ref r_stack, .int 0])), (tp, .inl (cT, 400, .inl fT))] H := hP
  have hD : va_D A [(h0, .inr (8, [.ref tp, .int 0, .int 0, .int (-1), .int wx, .int wy, .int 0, .ref r_left, .ref r_right, .ref r_told, .ref r_curve, .int 0, .int 0, .int 0, .int 0, .ref r_steps, .int 0, .ref r_stack, .int 0])), (tp, .inl (cT, 400, .inl fT))] := hD
  refine lv_aload_n hx hb d_Reader_begin_25 rfl (lv_at hl 0 rfl) ?_
  refine lv_iload_n hx hb d_Reader_begin_26 rfl (lv_at hl 3 rfl) ?_
  refine va_put (D := (dC, dI)) (ci := 8) (v := .int 1) (ty := .boolean) (C := R_Reader) (T := F_Reader) (N := 19) hx hb hT i_Reader t_Reader t_Reader_ok n_Reader hown hK hP hD hS 0 rfl rfl 4 (by decide) (hT _ tw_238) (fun _ h9 => h9) rfl (by decide +kernel) rfl rfl (Nat.le_of_ble_eq_true rfl) d_Reader_begin_27 (fun H locs hP hD hS => ?_)
  have hP : va_P (dC, dI) classes [(h0, .inr (8, [.ref tp, .int 0, .int 0, .int (-1), .int 1, .int wy, .int 0, .ref r_left, .ref r_right, .ref r_told, .ref r_curve, .int 0, .int 0, .int 0, .int 0, .ref r_steps, .int 0, .ref r_stack, .int 0])), (tp, .inl (cT, 400, .inl fT))] H := hP
  have hD : va_D A [(h0, .inr (8, [.ref tp, .int 0, .int 0, .int (-1), .int 1, .int wy, .int 0, .ref r_left, .ref r_right, .ref r_told, .ref r_curve, .int 0, .int 0, .int 0, .int 0, .ref r_steps, .int 0, .ref r_stack, .int 0])), (tp, .inl (cT, 400, .inl fT))] := hD
  refine lv_aload_n hx hb d_Reader_begin_30 rfl (lv_at hl 0 rfl) ?_
  refine lv_iload hx hb d_Reader_begin_31 (lv_at hl 4 rfl) ?_
  refine va_put (D := (dC, dI)) (ci := 8) (v := .int 1) (ty := .boolean) (C := R_Reader) (T := F_Reader) (N := 19) hx hb hT i_Reader t_Reader t_Reader_ok n_Reader hown hK hP hD hS 0 rfl rfl 5 (by decide) (hT _ tw_239) (fun _ h9 => h9) rfl (by decide +kernel) rfl rfl (Nat.le_of_ble_eq_true rfl) d_Reader_begin_33 (fun H locs hP hD hS => ?_)
  have hP : va_P (dC, dI) classes [(h0, .inr (8, [.ref tp, .int 0, .int 0, .int (-1), .int 1, .int 1, .int 0, .ref r_left, .ref r_right, .ref r_told, .ref r_curve, .int 0, .int 0, .int 0, .int 0, .ref r_steps, .int 0, .ref r_stack, .int 0])), (tp, .inl (cT, 400, .inl fT))] H := hP
  have hD : va_D A [(h0, .inr (8, [.ref tp, .int 0, .int 0, .int (-1), .int 1, .int 1, .int 0, .ref r_left, .ref r_right, .ref r_told, .ref r_curve, .int 0, .int 0, .int 0, .int 0, .ref r_steps, .int 0, .ref r_stack, .int 0])), (tp, .inl (cT, 400, .inl fT))] := hD
  refine lv_aload_n hx hb d_Reader_begin_36 rfl (lv_at hl 0 rfl) ?_
  refine lv_iconst (v := 0) hx hb d_Reader_begin_37 (by decide) ?_
  refine va_put (D := (dC, dI)) (ci := 8) (v := .int 0) (ty := .boolean) (C := R_Reader) (T := F_Reader) (N := 19) hx hb hT i_Reader t_Reader t_Reader_ok n_Reader hown hK hP hD hS 0 rfl rfl 6 (by decide) (hT _ tw_240) (fun _ h9 => h9) rfl (by decide +kernel) rfl rfl (Nat.le_of_ble_eq_true rfl) d_Reader_begin_38 (fun H locs hP hD hS => ?_)
  have hP : va_P (dC, dI) classes [(h0, .inr (8, [.ref tp, .int 0, .int 0, .int (-1), .int 1, .int 1, .int 0, .ref r_left, .ref r_right, .ref r_told, .ref r_curve, .int 0, .int 0, .int 0, .int 0, .ref r_steps, .int 0, .ref r_stack, .int 0])), (tp, .inl (cT, 400, .inl fT))] H := hP
  have hD : va_D A [(h0, .inr (8, [.ref tp, .int 0, .int 0, .int (-1), .int 1, .int 1, .int 0, .ref r_left, .ref r_right, .ref r_told, .ref r_curve, .int 0, .int 0, .int 0, .int 0, .ref r_steps, .int 0, .ref r_stack, .int 0])), (tp, .inl (cT, 400, .inl fT))] := hD
  refine lv_aload_n hx hb d_Reader_begin_41 rfl (lv_at hl 0 rfl) ?_
  refine lv_iconst (v := 0) hx hb d_Reader_begin_42 (by decide) ?_
  refine va_put (D := (dC, dI)) (ci := 8) (v := .int 0) (ty := .int) (C := R_Reader) (T := F_Reader) (N := 19) hx hb hT i_Reader t_Reader t_Reader_ok n_Reader hown hK hP hD hS 0 rfl rfl 11 (by decide) (hT _ tw_251) (fun _ h9 => h9) rfl (by decide +kernel) rfl rfl (Nat.le_of_ble_eq_true rfl) d_Reader_begin_43 (fun H locs hP hD hS => ?_)
  have hP : va_P (dC, dI) classes [(h0, .inr (8, [.ref tp, .int 0, .int 0, .int (-1), .int 1, .int 1, .int 0, .ref r_left, .ref r_right, .ref r_told, .ref r_curve, .int 0, .int 0, .int 0, .int 0, .ref r_steps, .int 0, .ref r_stack, .int 0])), (tp, .inl (cT, 400, .inl fT))] H := hP
  have hD : va_D A [(h0, .inr (8, [.ref tp, .int 0, .int 0, .int (-1), .int 1, .int 1, .int 0, .ref r_left, .ref r_right, .ref r_told, .ref r_curve, .int 0, .int 0, .int 0, .int 0, .ref r_steps, .int 0, .ref r_stack, .int 0])), (tp, .inl (cT, 400, .inl fT))] := hD
  refine lv_aload_n hx hb d_Reader_begin_46 rfl (lv_at hl 0 rfl) ?_
  refine lv_iconst (v := 0) hx hb d_Reader_begin_47 (by decide) ?_
  refine va_put (D := (dC, dI)) (ci := 8) (v := .int 0) (ty := .int) (C := R_Reader) (T := F_Reader) (N := 19) hx hb hT i_Reader t_Reader t_Reader_ok n_Reader hown hK hP hD hS 0 rfl rfl 16 (by decide) (hT _ tw_260) (fun _ h9 => h9) rfl (by decide +kernel) rfl rfl (Nat.le_of_ble_eq_true rfl) d_Reader_begin_48 (fun H locs hP hD hS => ?_)
  have hP : va_P (dC, dI) classes [(h0, .inr (8, [.ref tp, .int 0, .int 0, .int (-1), .int 1, .int 1, .int 0, .ref r_left, .ref r_right, .ref r_told, .ref r_curve, .int 0, .int 0, .int 0, .int 0, .ref r_steps, .int 0, .ref r_stack, .int 0])), (tp, .inl (cT, 400, .inl fT))] H := hP
  have hD : va_D A [(h0, .inr (8, [.ref tp, .int 0, .int 0, .int (-1), .int 1, .int 1, .int 0, .ref r_left, .ref r_right, .ref r_told, .ref r_curve, .int 0, .int 0, .int 0, .int 0, .ref r_steps, .int 0, .ref r_stack, .int 0])), (tp, .inl (cT, 400, .inl fT))] := hD
  refine lv_aload_n hx hb d_Reader_begin_51 rfl (lv_at hl 0 rfl) ?_
  refine lv_iconst (v := 0) hx hb d_Reader_begin_52 (by decide) ?_
  refine va_put (D := (dC, dI)) (ci := 8) (v := .int 0) (ty := .int) (C := R_Reader) (T := F_Reader) (N := 19) hx hb hT i_Reader t_Reader t_Reader_ok n_Reader hown hK hP hD hS 0 rfl rfl 18 (by decide) (hT _ tw_262) (fun _ h9 => h9) rfl (by decide +kernel) rfl rfl (Nat.le_of_ble_eq_true rfl) d_Reader_begin_53 (fun H locs hP hD hS => ?_)
  have hP : va_P (dC, dI) classes [(h0, .inr (8, [.ref tp, .int 0, .int 0, .int (-1), .int 1, .int 1, .int 0, .ref r_left, .ref r_right, .ref r_told, .ref r_curve, .int 0, .int 0, .int 0, .int 0, .ref r_steps, .int 0, .ref r_stack, .int 0])), (tp, .inl (cT, 400, .inl fT))] H := hP
  have hD : va_D A [(h0, .inr (8, [.ref tp, .int 0, .int 0, .int (-1), .int 1, .int 1, .int 0, .ref r_left, .ref r_right, .ref r_told, .ref r_curve, .int 0, .int 0, .int 0, .int 0, .ref r_steps, .int 0, .ref r_stack, .int 0])), (tp, .inl (cT, 400, .inl fT))] := hD
  refine lv_aload_n hx hb d_Reader_begin_56 rfl (lv_at hl 0 rfl) ?_
  refine lv_iconst (v := 0) hx hb d_Reader_begin_57 (by decide) ?_
  refine va_put (D := (dC, dI)) (ci := 8) (v := .int 0) (ty := .int) (C := R_Reader) (T := F_Reader) (N := 19) hx hb hT i_Reader t_Reader t_Reader_ok n_Reader hown hK hP hD hS 0 rfl rfl 12 (by decide) (hT _ tw_253) (fun _ h9 => h9) rfl (by decide +kernel) rfl rfl (Nat.le_of_ble_eq_true rfl) d_Reader_begin_58 (fun H locs hP hD hS => ?_)
  have hP : va_P (dC, dI) classes [(h0, .inr (8, [.ref tp, .int 0, .int 0, .int (-1), .int 1, .int 1, .int 0, .ref r_left, .ref r_right, .ref r_told, .ref r_curve, .int 0, .int 0, .int 0, .int 0, .ref r_steps, .int 0, .ref r_stack, .int 0])), (tp, .inl (cT, 400, .inl fT))] H := hP
  have hD : va_D A [(h0, .inr (8, [.ref tp, .int 0, .int 0, .int (-1), .int 1, .int 1, .int 0, .ref r_left, .ref r_right, .ref r_told, .ref r_curve, .int 0, .int 0, .int 0, .int 0, .ref r_steps, .int 0, .ref r_stack, .int 0])), (tp, .inl (cT, 400, .inl fT))] := hD
  refine lv_aload_n hx hb d_Reader_begin_61 rfl (lv_at hl 0 rfl) ?_
  refine lv_iconst (v := 0) hx hb d_Reader_begin_62 (by decide) ?_
  refine va_put (D := (dC, dI)) (ci := 8) (v := .int 0) (ty := .int) (C := R_Reader) (T := F_Reader) (N := 19) hx hb hT i_Reader t_Reader t_Reader_ok n_Reader hown hK hP hD hS 0 rfl rfl 13 (by decide) (hT _ tw_255) (fun _ h9 => h9) rfl (by decide +kernel) rfl rfl (Nat.le_of_ble_eq_true rfl) d_Reader_begin_63 (fun H locs hP hD hS => ?_)
  have hP : va_P (dC, dI) classes [(h0, .inr (8, [.ref tp, .int 0, .int 0, .int (-1), .int 1, .int 1, .int 0, .ref r_left, .ref r_right, .ref r_told, .ref r_curve, .int 0, .int 0, .int 0, .int 0, .ref r_steps, .int 0, .ref r_stack, .int 0])), (tp, .inl (cT, 400, .inl fT))] H := hP
  have hD : va_D A [(h0, .inr (8, [.ref tp, .int 0, .int 0, .int (-1), .int 1, .int 1, .int 0, .ref r_left, .ref r_right, .ref r_told, .ref r_curve, .int 0, .int 0, .int 0, .int 0, .ref r_steps, .int 0, .ref r_stack, .int 0])), (tp, .inl (cT, 400, .inl fT))] := hD
  refine lv_aload_n hx hb d_Reader_begin_66 rfl (lv_at hl 0 rfl) ?_
  refine lv_iconst (v := 0) hx hb d_Reader_begin_67 (by decide) ?_
  refine va_put (D := (dC, dI)) (ci := 8) (v := .int 0) (ty := .boolean) (C := R_Reader) (T := F_Reader) (N := 19) hx hb hT i_Reader t_Reader t_Reader_ok n_Reader hown hK hP hD hS 0 rfl rfl 14 (by decide) (hT _ tw_257) (fun _ h9 => h9) rfl (by decide +kernel) rfl rfl (Nat.le_of_ble_eq_true rfl) d_Reader_begin_68 (fun H locs hP hD hS => ?_)
  have hP : va_P (dC, dI) classes [(h0, .inr (8, [.ref tp, .int 0, .int 0, .int (-1), .int 1, .int 1, .int 0, .ref r_left, .ref r_right, .ref r_told, .ref r_curve, .int 0, .int 0, .int 0, .int 0, .ref r_steps, .int 0, .ref r_stack, .int 0])), (tp, .inl (cT, 400, .inl fT))] H := hP
  have hD : va_D A [(h0, .inr (8, [.ref tp, .int 0, .int 0, .int (-1), .int 1, .int 1, .int 0, .ref r_left, .ref r_right, .ref r_told, .ref r_curve, .int 0, .int 0, .int 0, .int 0, .ref r_steps, .int 0, .ref r_stack, .int 0])), (tp, .inl (cT, 400, .inl fT))] := hD
  have hP9 := hP.sub (ws' := [(h0, .inr (8, [.ref tp, .int 0, .int 0, .int (-1), .int 1, .int 1, .int 0, .ref r_left, .ref r_right, .ref r_told, .ref r_curve, .int 0, .int 0, .int 0, .int 0, .ref r_steps, .int 0, .ref r_stack, .int 0])), (tp, .inl (cT, 400, .inl fT))]) [0, 1] rfl
  have hD9 := hD.sub (ws' := [(h0, .inr (8, [.ref tp, .int 0, .int 0, .int (-1), .int 1, .int 1, .int 0, .ref r_left, .ref r_right, .ref r_told, .ref r_curve, .int 0, .int 0, .int 0, .int 0, .ref r_steps, .int 0, .ref r_stack, .int 0])), (tp, .inl (cT, 400, .inl fT))]) [0, 1] (by decide) rfl
  have hK9 := hK.sub (tys' := [(cT, .int)]) [0] rfl
  exact W.vret hx hb hr (fun t ht hW => ⟨⟨(), rfl, trivial, by rw [ht]; exact hP9, va_K.moved hW.alike hK9, hD9⟩, hS.F ht⟩) hS.2.2 d_Reader_begin_71

set_option maxHeartbeats 4000000 in
set_option maxRecDepth 100000 in
/-- begin(tape, 0, 1, 0) -/
theorem c_Reader_begin_10 (l : Launch) (dC : Nat → ClassId) (dI : Nat → Nat → Nat) (sz : Nat) (h0 : Nat) (tp : Nat) (r_left : Nat) (r_right : Nat) (r_told : Nat) (r_curve : Nat) (r_steps : Nat) (r_stack : Nat) (t0 : Nat) (ft : Int32) (wx : Int32) (wy : Int32) (cT : ClassId) (fT : Nat → Int32)  : Met l y_Reader_begin w_Reader_begin ({ frames := 1, cells := 0, slots := 0, locals := 14 }) (va_Pc [.ref h0, .ref tp, .int 0, .int 1, .int 0] (fun U => U.heap.size = sz ∧ va_P (dC, dI) classes [(h0, .inr (8, [.ref t0, .int 0, .int 0, .int ft, .int wx, .int wy, .int 0, .ref r_left, .ref r_right, .ref r_told, .ref r_curve, .int 0, .int 0, .int 0, .int 0, .ref r_steps, .int 0, .ref r_stack, .int 0])), (tp, .inl (cT, 400, .inl fT))] U.heap ∧ va_K (dC, dI) classes [(cT, .int)] U ∧ va_D (fun _ => True) [(h0, .inr (8, [.ref t0, .int 0, .int 0, .int ft, .int wx, .int wy, .int 0, .ref r_left, .ref r_right, .ref r_told, .ref r_curve, .int 0, .int 0, .int 0, .int 0, .ref r_steps, .int 0, .ref r_stack, .int 0])), (tp, .inl (cT, 400, .inl fT))] ∧ nx_K U)) (va_Qv (fun _ : Unit => True) (fun _ t => va_P (dC, dI) classes [(h0, .inr (8, [.ref tp, .int 0, .int 0, .int (-1), .int 1, .int 0, .int 0, .ref r_left, .ref r_right, .ref r_told, .ref r_curve, .int 0, .int 0, .int 0, .int 0, .ref r_steps, .int 0, .ref r_stack, .int 0])), (tp, .inl (cT, 400, .inl fT))] t.heap ∧ va_K (dC, dI) classes [(cT, .int)] t ∧ va_D (va_A [(h0, .inr (8, [.ref t0, .int 0, .int 0, .int ft, .int wx, .int wy, .int 0, .ref r_left, .ref r_right, .ref r_told, .ref r_curve, .int 0, .int 0, .int 0, .int 0, .ref r_steps, .int 0, .ref r_stack, .int 0])), (tp, .inl (cT, 400, .inl fT))] sz) [(h0, .inr (8, [.ref tp, .int 0, .int 0, .int (-1), .int 1, .int 0, .int 0, .ref r_left, .ref r_right, .ref r_told, .ref r_curve, .int 0, .int 0, .int 0, .int 0, .ref r_steps, .int 0, .ref r_stack, .int 0])), (tp, .inl (cT, 400, .inl fT))]) (va_A [(h0, .inr (8, [.ref t0, .int 0, .int 0, .int ft, .int wx, .int wy, .int 0, .ref r_left, .ref r_right, .ref r_told, .ref r_curve, .int 0, .int 0, .int 0, .int 0, .ref r_steps, .int 0, .ref r_stack, .int 0])), (tp, .inl (cT, 400, .inl fT))] sz)) 0 0 (va_A [(h0, .inr (8, [.ref t0, .int 0, .int 0, .int ft, .int wx, .int wy, .int 0, .ref r_left, .ref r_right, .ref r_told, .ref r_curve, .int 0, .int 0, .int 0, .int 0, .ref r_steps, .int 0, .ref r_stack, .int 0])), (tp, .inl (cT, 400, .inl fT))] sz) := by
  refine Met.ofW (cc := b_Reader_begin) (maxL := 5) (ret := none) (by decide) rfl ?_
  intro p e s m args below meth c s₁ B hml hv
  obtain ⟨rfl, hsz, hP, hK, hD0, hN⟩ := hv
  have hx := B.exec
  have hb := B.bytes
  have hr := B.returns
  have hT : ∀ w ∈ lw_g, w.before _ s = true := fun w h => atoms_spec (ws := w_Reader_begin) B.pre w (List.mem_cons_of_mem _ h)
  have hown : s.vm.findClass R_Reader = some m.cls := findClass_of_methodNamed B.named
  have hlocks := B.notSynchronized
  subst hsz
  have hD := hD0.self (sz := s.heap.size)
  generalize hAe : va_A [(h0, .inr (8, [.ref t0, .int 0, .int 0, .int ft, .int wx, .int wy, .int 0, .ref r_left, .ref r_right, .ref r_told, .ref r_curve, .int 0, .int 0, .int 0, .int 0, .ref r_steps, .int 0, .ref r_stack, .int 0])), (tp, .inl (cT, 400, .inl fT))] s.heap.size = A at hD ⊢
  have hA : ∀ q : Nat, s.heap.size ≤ q → A q := fun q h => by rw [← hAe]; exact Or.inr h
  have hS : va_S A s.heap s.heap [] := va_S.rf
  have hP : va_P (dC, dI) classes [(h0, .inr (8, [.ref t0, .int 0, .int 0, .int ft, .int wx, .int wy, .int 0, .ref r_left, .ref r_right, .ref r_told, .ref r_curve, .int 0, .int 0, .int 0, .int 0, .ref r_steps, .int 0, .ref r_stack, .int 0])), (tp, .inl (cT, 400, .inl fT))] s.heap := hP
  have hl := lv_entry ([.ref h0, .ref tp, .int 0, .int 1, .int 0]) (n := 5) (Nat.le_of_ble_eq_true rfl)
  rw [lg_entry_eq]
  generalize (lg_sl ([.ref h0, .ref tp, .int 0, .int 1, .int 0]) ++ List.replicate (5 - (lg_sl ([.ref h0, .ref tp, .int 0, .int 1, .int 0])).length) Slot.unset).toArray = ls at hl ⊢
  have hl : lv_has ls 5 [(0, .ref h0), (1, .ref tp), (2, .int 0), (3, .int 1), (4, .int 0)] := hl
  refine lv_aload_n hx hb d_Reader_begin_0 rfl (lv_at hl 0 rfl) ?_
  refine lv_aload_n hx hb d_Reader_begin_1 rfl (lv_at hl 1 rfl) ?_
  refine va_put (D := (dC, dI)) (ci := 8) (v := .ref tp) (ty := .array .int) (C := R_Reader) (T := F_Reader) (N := 19) hx hb hT i_Reader t_Reader t_Reader_ok n_Reader hown hK hP hD hS 0 rfl rfl 0 (by decide) (hT _ tw_233) (fun _ h9 => h9) rfl (by decide +kernel) rfl rfl (Nat.le_of_ble_eq_true rfl) d_Reader_begin_2 (fun H locs hP hD hS => ?_)
  have hP : va_P (dC, dI) classes [(h0, .inr (8, [.ref tp, .int 0, .int 0, .int ft, .int wx, .int wy, .int 0, .ref r_left, .ref r_right, .ref r_told, .ref r_curve, .int 0, .int 0, .int 0, .int 0, .ref r_steps, .int 0, .ref r_stack, .int 0])), (tp, .inl (cT, 400, .inl fT))] H := hP
  have hD : va_D A [(h0, .inr (8, [.ref tp, .int 0, .int 0, .int ft, .int wx, .int wy, .int 0, .ref r_left, .ref r_right, .ref r_told, .ref r_curve, .int 0, .int 0, .int 0, .int 0, .ref r_steps, .int 0, .ref r_stack, .int 0])), (tp, .inl (cT, 400, .inl fT))] := hD
  refine lv_aload_n hx hb d_Reader_begin_5 rfl (lv_at hl 0 rfl) ?_
  refine lv_iload_n hx hb d_Reader_begin_6 rfl (lv_at hl 2 rfl) ?_
  refine lv_aload_n hx hb d_Reader_begin_7 rfl (lv_at hl 1 rfl) ?_
  refine va_alen (v := 400) hx hb hK hP 1 0 rfl rfl rfl d_Reader_begin_8 ?_
  refine va_mmin hx hb (hml.trans hl.1.symm) hown (hT _ tw_703) (hT _ tw_704) (hT _ tw_4) (hT _ tw_705) (Nat.le_of_ble_eq_true rfl) (Nat.le_of_ble_eq_true rfl) (Nat.le_of_ble_eq_true rfl) (Nat.le_of_ble_eq_true rfl) d_Reader_begin_9 ?_
  refine lv_topi (fun v_1 ev_1 => ?_)
  obtain rfl : v_1 = 0 := ev_1.trans (by decide)
  refine va_put (D := (dC, dI)) (ci := 8) (v := .int 0) (ty := .int) (C := R_Reader) (T := F_Reader) (N := 19) hx hb hT i_Reader t_Reader t_Reader_ok n_Reader hown hK hP hD hS 0 rfl rfl 1 (by decide) (hT _ tw_234) (fun _ h9 => h9) rfl (by decide +kernel) rfl rfl (Nat.le_of_ble_eq_true rfl) d_Reader_begin_12 (fun H locs hP hD hS => ?_)
  have hP : va_P (dC, dI) classes [(h0, .inr (8, [.ref tp, .int 0, .int 0, .int ft, .int wx, .int wy, .int 0, .ref r_left, .ref r_right, .ref r_told, .ref r_curve, .int 0, .int 0, .int 0, .int 0, .ref r_steps, .int 0, .ref r_stack, .int 0])), (tp, .inl (cT, 400, .inl fT))] H := hP
  have hD : va_D A [(h0, .inr (8, [.ref tp, .int 0, .int 0, .int ft, .int wx, .int wy, .int 0, .ref r_left, .ref r_right, .ref r_told, .ref r_curve, .int 0, .int 0, .int 0, .int 0, .ref r_steps, .int 0, .ref r_stack, .int 0])), (tp, .inl (cT, 400, .inl fT))] := hD
  refine lv_aload_n hx hb d_Reader_begin_15 rfl (lv_at hl 0 rfl) ?_
  refine lv_iconst (v := 0) hx hb d_Reader_begin_16 (by decide) ?_
  refine va_put (D := (dC, dI)) (ci := 8) (v := .int 0) (ty := .int) (C := R_Reader) (T := F_Reader) (N := 19) hx hb hT i_Reader t_Reader t_Reader_ok n_Reader hown hK hP hD hS 0 rfl rfl 2 (by decide) (hT _ tw_235) (fun _ h9 => h9) rfl (by decide +kernel) rfl rfl (Nat.le_of_ble_eq_true rfl) d_Reader_begin_17 (fun H locs hP hD hS => ?_)
  have hP : va_P (dC, dI) classes [(h0, .inr (8, [.ref tp, .int 0, .int 0, .int ft, .int wx, .int wy, .int 0, .ref r_left, .ref r_right, .ref r_told, .ref r_curve, .int 0, .int 0, .int 0, .int 0, .ref r_steps, .int 0, .ref r_stack, .int 0])), (tp, .inl (cT, 400, .inl fT))] H := hP
  have hD : va_D A [(h0, .inr (8, [.ref tp, .int 0, .int 0, .int ft, .int wx, .int wy, .int 0, .ref r_left, .ref r_right, .ref r_told, .ref r_curve, .int 0, .int 0, .int 0, .int 0, .ref r_steps, .int 0, .ref r_stack, .int 0])), (tp, .inl (cT, 400, .inl fT))] := hD
  refine lv_aload_n hx hb d_Reader_begin_20 rfl (lv_at hl 0 rfl) ?_
  refine lv_iconst (v := (-1)) hx hb d_Reader_begin_21 (by decide) ?_
  refine va_put (D := (dC, dI)) (ci := 8) (v := .int (-1)) (ty := .int) (C := R_Reader) (T := F_Reader) (N := 19) hx hb hT i_Reader t_Reader t_Reader_ok n_Reader hown hK hP hD hS 0 rfl rfl 3 (by decide) (hT _ tw_236) (fun _ h9 => h9) rfl (by decide +kernel) rfl rfl (Nat.le_of_ble_eq_true rfl) d_Reader_begin_22 (fun H locs hP hD hS => ?_)
  have hP : va_P (dC, dI) classes [(h0, .inr (8, [.ref tp, .int 0, .int 0, .int (-1), .int wx, .int wy, .int 0, .ref r_left, .ref r_right, .ref r_told, .ref r_curve, .int 0, .int 0, .int 0, .int 0, .ref r_steps, .int 0, .ref r_stack, .int 0])), (tp, .inl (cT, 400, .inl fT))] H := hP
  have hD : va_D A [(h0, .inr (8, [.ref tp, .int 0, .int 0, .int (-1), .int wx, .int wy, .int 0, .ref r_left, .ref r_right, .ref r_told, .ref r_curve, .int 0, .int 0, .int 0, .int 0, .ref r_steps, .int 0, .ref r_stack, .int 0])), (tp, .inl (cT, 400, .inl fT))] := hD
  refine lv_aload_n hx hb d_Reader_begin_25 rfl (lv_at hl 0 rfl) ?_
  refine lv_iload_n hx hb d_Reader_begin_26 rfl (lv_at hl 3 rfl) ?_
  refine va_put (D := (dC, dI)) (ci := 8) (v := .int 1) (ty := .boolean) (C := R_Reader) (T := F_Reader) (N := 19) hx hb hT i_Reader t_Reader t_Reader_ok n_Reader hown hK hP hD hS 0 rfl rfl 4 (by decide) (hT _ tw_238) (fun _ h9 => h9) rfl (by decide +kernel) rfl rfl (Nat.le_of_ble_eq_true rfl) d_Reader_begin_27 (fun H locs hP hD hS => ?_)
  have hP : va_P (dC, dI) classes [(h0, .inr (8, [.ref tp, .int 0, .int 0, .int (-1), .int 1, .int wy, .int 0, .ref r_left, .ref r_right, .ref r_told, .ref r_curve, .int 0, .int 0, .int 0, .int 0, .ref r_steps, .int 0, .ref r_stack, .int 0])), (tp, .inl (cT, 400, .inl fT))] H := hP
  have hD : va_D A [(h0, .inr (8, [.ref tp, .int 0, .int 0, .int (-1), .int 1, .int wy, .int 0, .ref r_left, .ref r_right, .ref r_told, .ref r_curve, .int 0, .int 0, .int 0, .int 0, .ref r_steps, .int 0, .ref r_stack, .int 0])), (tp, .inl (cT, 400, .inl fT))] := hD
  refine lv_aload_n hx hb d_Reader_begin_30 rfl (lv_at hl 0 rfl) ?_
  refine lv_iload hx hb d_Reader_begin_31 (lv_at hl 4 rfl) ?_
  refine va_put (D := (dC, dI)) (ci := 8) (v := .int 0) (ty := .boolean) (C := R_Reader) (T := F_Reader) (N := 19) hx hb hT i_Reader t_Reader t_Reader_ok n_Reader hown hK hP hD hS 0 rfl rfl 5 (by decide) (hT _ tw_239) (fun _ h9 => h9) rfl (by decide +kernel) rfl rfl (Nat.le_of_ble_eq_true rfl) d_Reader_begin_33 (fun H locs hP hD hS => ?_)
  have hP : va_P (dC, dI) classes [(h0, .inr (8, [.ref tp, .int 0, .int 0, .int (-1), .int 1, .int 0, .int 0, .ref r_left, .ref r_right, .ref r_told, .ref r_curve, .int 0, .int 0, .int 0, .int 0, .ref r_steps, .int 0, .ref r_stack, .int 0])), (tp, .inl (cT, 400, .inl fT))] H := hP
  have hD : va_D A [(h0, .inr (8, [.ref tp, .int 0, .int 0, .int (-1), .int 1, .int 0, .int 0, .ref r_left, .ref r_right, .ref r_told, .ref r_curve, .int 0, .int 0, .int 0, .int 0, .ref r_steps, .int 0, .ref r_stack, .int 0])), (tp, .inl (cT, 400, .inl fT))] := hD
  refine lv_aload_n hx hb d_Reader_begin_36 rfl (lv_at hl 0 rfl) ?_
  refine lv_iconst (v := 0) hx hb d_Reader_begin_37 (by decide) ?_
  refine va_put (D := (dC, dI)) (ci := 8) (v := .int 0) (ty := .boolean) (C := R_Reader) (T := F_Reader) (N := 19) hx hb hT i_Reader t_Reader t_Reader_ok n_Reader hown hK hP hD hS 0 rfl rfl 6 (by decide) (hT _ tw_240) (fun _ h9 => h9) rfl (by decide +kernel) rfl rfl (Nat.le_of_ble_eq_true rfl) d_Reader_begin_38 (fun H locs hP hD hS => ?_)
  have hP : va_P (dC, dI) classes [(h0, .inr (8, [.ref tp, .int 0, .int 0, .int (-1), .int 1, .int 0, .int 0, .ref r_left, .ref r_right, .ref r_told, .ref r_curve, .int 0, .int 0, .int 0, .int 0, .ref r_steps, .int 0, .ref r_stack, .int 0])), (tp, .inl (cT, 400, .inl fT))] H := hP
  have hD : va_D A [(h0, .inr (8, [.ref tp, .int 0, .int 0, .int (-1), .int 1, .int 0, .int 0, .ref r_left, .ref r_right, .ref r_told, .ref r_curve, .int 0, .int 0, .int 0, .int 0, .ref r_steps, .int 0, .ref r_stack, .int 0])), (tp, .inl (cT, 400, .inl fT))] := hD
  refine lv_aload_n hx hb d_Reader_begin_41 rfl (lv_at hl 0 rfl) ?_
  refine lv_iconst (v := 0) hx hb d_Reader_begin_42 (by decide) ?_
  refine va_put (D := (dC, dI)) (ci := 8) (v := .int 0) (ty := .int) (C := R_Reader) (T := F_Reader) (N := 19) hx hb hT i_Reader t_Reader t_Reader_ok n_Reader hown hK hP hD hS 0 rfl rfl 11 (by decide) (hT _ tw_251) (fun _ h9 => h9) rfl (by decide +kernel) rfl rfl (Nat.le_of_ble_eq_true rfl) d_Reader_begin_43 (fun H locs hP hD hS => ?_)
  have hP : va_P (dC, dI) classes [(h0, .inr (8, [.ref tp, .int 0, .int 0, .int (-1), .int 1, .int 0, .int 0, .ref r_left, .ref r_right, .ref r_told, .ref r_curve, .int 0, .int 0, .int 0, .int 0, .ref r_steps, .int 0, .ref r_stack, .int 0])), (tp, .inl (cT, 400, .inl fT))] H := hP
  have hD : va_D A [(h0, .inr (8, [.ref tp, .int 0, .int 0, .int (-1), .int 1, .int 0, .int 0, .ref r_left, .ref r_right, .ref r_told, .ref r_curve, .int 0, .int 0, .int 0, .int 0, .ref r_steps, .int 0, .ref r_stack, .int 0])), (tp, .inl (cT, 400, .inl fT))] := hD
  refine lv_aload_n hx hb d_Reader_begin_46 rfl (lv_at hl 0 rfl) ?_
  refine lv_iconst (v := 0) hx hb d_Reader_begin_47 (by decide) ?_
  refine va_put (D := (dC, dI)) (ci := 8) (v := .int 0) (ty := .int) (C := R_Reader) (T := F_Reader) (N := 19) hx hb hT i_Reader t_Reader t_Reader_ok n_Reader hown hK hP hD hS 0 rfl rfl 16 (by decide) (hT _ tw_260) (fun _ h9 => h9) rfl (by decide +kernel) rfl rfl (Nat.le_of_ble_eq_true rfl) d_Reader_begin_48 (fun H locs hP hD hS => ?_)
  have hP : va_P (dC, dI) classes [(h0, .inr (8, [.ref tp, .int 0, .int 0, .int (-1), .int 1, .int 0, .int 0, .ref r_left, .ref r_right, .ref r_told, .ref r_curve, .int 0, .int 0, .int 0, .int 0, .ref r_steps, .int 0, .ref r_stack, .int 0])), (tp, .inl (cT, 400, .inl fT))] H := hP
  have hD : va_D A [(h0, .inr (8, [.ref tp, .int 0, .int 0, .int (-1), .int 1, .int 0, .int 0, .ref r_left, .ref r_right, .ref r_told, .ref r_curve, .int 0, .int 0, .int 0, .int 0, .ref r_steps, .int 0, .ref r_stack, .int 0])), (tp, .inl (cT, 400, .inl fT))] := hD
  refine lv_aload_n hx hb d_Reader_begin_51 rfl (lv_at hl 0 rfl) ?_
  refine lv_iconst (v := 0) hx hb d_Reader_begin_52 (by decide) ?_
  refine va_put (D := (dC, dI)) (ci := 8) (v := .int 0) (ty := .int) (C := R_Reader) (T := F_Reader) (N := 19) hx hb hT i_Reader t_Reader t_Reader_ok n_Reader hown hK hP hD hS 0 rfl rfl 18 (by decide) (hT _ tw_262) (fun _ h9 => h9) rfl (by decide +kernel) rfl rfl (Nat.le_of_ble_eq_true rfl) d_Reader_begin_53 (fun H locs hP hD hS => ?_)
  have hP : va_P (dC, dI) classes [(h0, .inr (8, [.ref tp, .int 0, .int 0, .int (-1), .int 1, .int 0, .int 0, .ref r_left, .ref r_right, .ref r_told, .ref r_curve, .int 0, .int 0, .int 0, .int 0, .ref r_steps, .int 0, .ref r_stack, .int 0])), (tp, .inl (cT, 400, .inl fT))] H := hP
  have hD : va_D A [(h0, .inr (8, [.ref tp, .int 0, .int 0, .int (-1), .int 1, .int 0, .int 0, .ref r_left, .ref r_right, .ref r_told, .ref r_curve, .int 0, .int 0, .int 0, .int 0, .ref r_steps, .int 0, .ref r_stack, .int 0])), (tp, .inl (cT, 400, .inl fT))] := hD
  refine lv_aload_n hx hb d_Reader_begin_56 rfl (lv_at hl 0 rfl) ?_
  refine lv_iconst (v := 0) hx hb d_Reader_begin_57 (by decide) ?_
  refine va_put (D := (dC, dI)) (ci := 8) (v := .int 0) (ty := .int) (C := R_Reader) (T := F_Reader) (N := 19) hx hb hT i_Reader t_Reader t_Reader_ok n_Reader hown hK hP hD hS 0 rfl rfl 12 (by decide) (hT _ tw_253) (fun _ h9 => h9) rfl (by decide +kernel) rfl rfl (Nat.le_of_ble_eq_true rfl) d_Reader_begin_58 (fun H locs hP hD hS => ?_)
  have hP : va_P (dC, dI) classes [(h0, .inr (8, [.ref tp, .int 0, .int 0, .int (-1), .int 1, .int 0, .int 0, .ref r_left, .ref r_right, .ref r_told, .ref r_curve, .int 0, .int 0, .int 0, .int 0, .ref r_steps, .int 0, .ref r_stack, .int 0])), (tp, .inl (cT, 400, .inl fT))] H := hP
  have hD : va_D A [(h0, .inr (8, [.ref tp, .int 0, .int 0, .int (-1), .int 1, .int 0, .int 0, .ref r_left, .ref r_right, .ref r_told, .ref r_curve, .int 0, .int 0, .int 0, .int 0, .ref r_steps, .int 0, .ref r_stack, .int 0])), (tp, .inl (cT, 400, .inl fT))] := hD
  refine lv_aload_n hx hb d_Reader_begin_61 rfl (lv_at hl 0 rfl) ?_
  refine lv_iconst (v := 0) hx hb d_Reader_begin_62 (by decide) ?_
  refine va_put (D := (dC, dI)) (ci := 8) (v := .int 0) (ty := .int) (C := R_Reader) (T := F_Reader) (N := 19) hx hb hT i_Reader t_Reader t_Reader_ok n_Reader hown hK hP hD hS 0 rfl rfl 13 (by decide) (hT _ tw_255) (fun _ h9 => h9) rfl (by decide +kernel) rfl rfl (Nat.le_of_ble_eq_true rfl) d_Reader_begin_63 (fun H locs hP hD hS => ?_)
  have hP : va_P (dC, dI) classes [(h0, .inr (8, [.ref tp, .int 0, .int 0, .int (-1), .int 1, .int 0, .int 0, .ref r_left, .ref r_right, .ref r_told, .ref r_curve, .int 0, .int 0, .int 0, .int 0, .ref r_steps, .int 0, .ref r_stack, .int 0])), (tp, .inl (cT, 400, .inl fT))] H := hP
  have hD : va_D A [(h0, .inr (8, [.ref tp, .int 0, .int 0, .int (-1), .int 1, .int 0, .int 0, .ref r_left, .ref r_right, .ref r_told, .ref r_curve, .int 0, .int 0, .int 0, .int 0, .ref r_steps, .int 0, .ref r_stack, .int 0])), (tp, .inl (cT, 400, .inl fT))] := hD
  refine lv_aload_n hx hb d_Reader_begin_66 rfl (lv_at hl 0 rfl) ?_
  refine lv_iconst (v := 0) hx hb d_Reader_begin_67 (by decide) ?_
  refine va_put (D := (dC, dI)) (ci := 8) (v := .int 0) (ty := .boolean) (C := R_Reader) (T := F_Reader) (N := 19) hx hb hT i_Reader t_Reader t_Reader_ok n_Reader hown hK hP hD hS 0 rfl rfl 14 (by decide) (hT _ tw_257) (fun _ h9 => h9) rfl (by decide +kernel) rfl rfl (Nat.le_of_ble_eq_true rfl) d_Reader_begin_68 (fun H locs hP hD hS => ?_)
  have hP : va_P (dC, dI) classes [(h0, .inr (8, [.ref tp, .int 0, .int 0, .int (-1), .int 1, .int 0, .int 0, .ref r_left, .ref r_right, .ref r_told, .ref r_curve, .int 0, .int 0, .int 0, .int 0, .ref r_steps, .int 0, .ref r_stack, .int 0])), (tp, .inl (cT, 400, .inl fT))] H := hP
  have hD : va_D A [(h0, .inr (8, [.ref tp, .int 0, .int 0, .int (-1), .int 1, .int 0, .int 0, .ref r_left, .ref r_right, .ref r_told, .ref r_curve, .int 0, .int 0, .int 0, .int 0, .ref r_steps, .int 0, .ref r_stack, .int 0])), (tp, .inl (cT, 400, .inl fT))] := hD
  have hP9 := hP.sub (ws' := [(h0, .inr (8, [.ref tp, .int 0, .int 0, .int (-1), .int 1, .int 0, .int 0, .ref r_left, .ref r_right, .ref r_told, .ref r_curve, .int 0, .int 0, .int 0, .int 0, .ref r_steps, .int 0, .ref r_stack, .int 0])), (tp, .inl (cT, 400, .inl fT))]) [0, 1] rfl
  have hD9 := hD.sub (ws' := [(h0, .inr (8, [.ref tp, .int 0, .int 0, .int (-1), .int 1, .int 0, .int 0, .ref r_left, .ref r_right, .ref r_told, .ref r_curve, .int 0, .int 0, .int 0, .int 0, .ref r_steps, .int 0, .ref r_stack, .int 0])), (tp, .inl (cT, 400, .inl fT))]) [0, 1] (by decide) rfl
  have hK9 := hK.sub (tys' := [(cT, .int)]) [0] rfl
  exact W.vret hx hb hr (fun t ht hW => ⟨⟨(), rfl, trivial, by rw [ht]; exact hP9, va_K.moved hW.alike hK9, hD9⟩, hS.F ht⟩) hS.2.2 d_Reader_begin_71

set_option maxHeartbeats 4000000 in
set_option maxRecDepth 100000 in
/-- begin(tape, 0, 0, 0) -/
theorem c_Reader_begin_00 (l : Launch) (dC : Nat → ClassId) (dI : Nat → Nat → Nat) (sz : Nat) (h0 : Nat) (tp : Nat) (r_left : Nat) (r_right : Nat) (r_told : Nat) (r_curve : Nat) (r_steps : Nat) (r_stack : Nat) (t0 : Nat) (ft : Int32) (wx : Int32) (wy : Int32) (cT : ClassId) (fT : Nat → Int32)  : Met l y_Reader_begin w_Reader_begin ({ frames := 1, cells := 0, slots := 0, locals := 14 }) (va_Pc [.ref h0, .ref tp, .int 0, .int 0, .int 0] (fun U => U.heap.size = sz ∧ va_P (dC, dI) classes [(h0, .inr (8, [.ref t0, .int 0, .int 0, .int ft, .int wx, .int wy, .int 0, .ref r_left, .ref r_right, .ref r_told, .ref r_curve, .int 0, .int 0, .int 0, .int 0, .ref r_steps, .int 0, .ref r_stack, .int 0])), (tp, .inl (cT, 400, .inl fT))] U.heap ∧ va_K (dC, dI) classes [(cT, .int)] U ∧ va_D (fun _ => True) [(h0, .inr (8, [.ref t0, .int 0, .int 0, .int ft, .int wx, .int wy, .int 0, .ref r_left, .ref r_right, .ref r_told, .ref r_curve, .int 0, .int 0, .int 0, .int 0, .ref r_steps, .int 0, .ref r_stack, .int 0])), (tp, .inl (cT, 400, .inl fT))] ∧ nx_K U)) (va_Qv (fun _ : Unit => True) (fun _ t => va_P (dC, dI) classes [(h0, .inr (8, [.ref tp, .int 0, .int 0, .int (-1), .int 0, .int 0, .int 0, .ref r_left, .ref r_right, .ref r_told, .ref r_curve, .int 0, .int 0, .int 0, .int 0, .ref r_steps, .int 0, .ref r_stack, .int 0])), (tp, .inl (cT, 400, .inl fT))] t.heap ∧ va_K (dC, dI) classes [(cT, .int)] t ∧ va_D (va_A [(h0, .inr (8, [.ref t0, .int 0, .int 0, .int ft, .int wx, .int wy, .int 0, .ref r_left, .ref r_right, .ref r_told, .ref r_curve, .int 0, .int 0, .int 0, .int 0, .ref r_steps, .int 0, .ref r_stack, .int 0])), (tp, .inl (cT, 400, .inl fT))] sz) [(h0, .inr (8, [.ref tp, .int 0, .int 0, .int (-1), .int 0, .int 0, .int 0, .ref r_left, .ref r_right, .ref r_told, .ref r_curve, .int 0, .int 0, .int 0, .int 0, .ref r_steps, .int 0, .ref r_stack, .int 0])), (tp, .inl (cT, 400, .inl fT))]) (va_A [(h0, .inr (8, [.ref t0, .int 0, .int 0, .int ft, .int wx, .int wy, .int 0, .ref r_left, .ref r_right, .ref r_told, .ref r_curve, .int 0, .int 0, .int 0, .int 0, .ref r_steps, .int 0, .ref r_stack, .int 0])), (tp, .inl (cT, 400, .inl fT))] sz)) 0 0 (va_A [(h0, .inr (8, [.ref t0, .int 0, .int 0, .int ft, .int wx, .int wy, .int 0, .ref r_left, .ref r_right, .ref r_told, .ref r_curve, .int 0, .int 0, .int 0, .int 0, .ref r_steps, .int 0, .ref r_stack, .int 0])), (tp, .inl (cT, 400, .inl fT))] sz) := by
  refine Met.ofW (cc := b_Reader_begin) (maxL := 5) (ret := none) (by decide) rfl ?_
  intro p e s m args below meth c s₁ B hml hv
  obtain ⟨rfl, hsz, hP, hK, hD0, hN⟩ := hv
  have hx := B.exec
  have hb := B.bytes
  have hr := B.returns
  have hT : ∀ w ∈ lw_g, w.before _ s = true := fun w h => atoms_spec (ws := w_Reader_begin) B.pre w (List.mem_cons_of_mem _ h)
  have hown : s.vm.findClass R_Reader = some m.cls := findClass_of_methodNamed B.named
  have hlocks := B.notSynchronized
  subst hsz
  have hD := hD0.self (sz := s.heap.size)
  generalize hAe : va_A [(h0, .inr (8, [.ref t0, .int 0, .int 0, .int ft, .int wx, .int wy, .int 0, .ref r_left, .ref r_right, .ref r_told, .ref r_curve, .int 0, .int 0, .int 0, .int 0, .ref r_steps, .int 0, .ref r_stack, .int 0])), (tp, .inl (cT, 400, .inl fT))] s.heap.size = A at hD ⊢
  have hA : ∀ q : Nat, s.heap.size ≤ q → A q := fun q h => by rw [← hAe]; exact Or.inr h
  have hS : va_S A s.heap s.heap [] := va_S.rf
  have hP : va_P (dC, dI) classes [(h0, .inr (8, [.ref t0, .int 0, .int 0, .int ft, .int wx, .int wy, .int 0, .ref r_left, .ref r_right, .ref r_told, .ref r_curve, .int 0, .int 0, .int 0, .int 0, .ref r_steps, .int 0, .ref r_stack, .int 0])), (tp, .inl (cT, 400, .inl fT))] s.heap := hP
  have hl := lv_entry ([.ref h0, .ref tp, .int 0, .int 0, .int 0]) (n := 5) (Nat.le_of_ble_eq_true rfl)
  rw [lg_entry_eq]
  generalize (lg_sl ([.ref h0, .ref tp, .int 0, .int 0, .int 0]) ++ List.replicate (5 - (lg_sl ([.ref h0, .ref tp, .int 0, .int 0, .int 0])).length) Slot.unset).toArray = ls at hl ⊢
  have hl : lv_has ls 5 [(0, .ref h0), (1, .ref tp), (2, .int 0), (3, .int 0), (4, .int 0)] := hl
  refine lv_aload_n hx hb d_Reader_begin_0 rfl (lv_at hl 0 rfl) ?_
  refine lv_aload_n hx hb d_Reader_begin_1 rfl (lv_at hl 1 rfl) ?_
  refine va_put (D := (dC, dI)) (ci := 8) (v := .ref tp) (ty := .array .int) (C := R_Reader) (T := F_Reader) (N := 19) hx hb hT i_Reader t_Reader t_Reader_ok n_Reader hown hK hP hD hS 0 rfl rfl 0 (by decide) (hT _ tw_233) (fun _ h9 => h9) rfl (by decide +kernel) rfl rfl (Nat.le_of_ble_eq_true rfl) d_Reader_begin_2 (fun H locs hP hD hS => ?_)
  have hP : va_P (dC, dI) classes [(h0, .inr (8, [.ref tp, .int 0, .int 0, .int ft, .int wx, .int wy, .int 0, .ref r_left, .ref r_right, .ref r_told, .ref r_curve, .int 0, .int 0, .int 0, .int 0, .ref r_steps, .int 0, .ref r_stack, .int 0])), (tp, .inl (cT, 400, .inl fT))] H := hP
  have hD : va_D A [(h0, .inr (8, [.ref tp, .int 0, .int 0, .int ft, .int wx, .int wy, .int 0, .ref r_left, .ref r_right, .ref r_told, .ref r_curve, .int 0, .int 0, .int 0, .int 0, .ref r_steps, .int 0, .ref r_stack, .int 0])), (tp, .inl (cT, 400, .inl fT))] := hD
  refine lv_aload_n hx hb d_Reader_begin_5 rfl (lv_at hl 0 rfl) ?_
  refine lv_iload_n hx hb d_Reader_begin_6 rfl (lv_at hl 2 rfl) ?_
  refine lv_aload_n hx hb d_Reader_begin_7 rfl (lv_at hl 1 rfl) ?_
  refine va_alen (v := 400) hx hb hK hP 1 0 rfl rfl rfl d_Reader_begin_8 ?_
  refine va_mmin hx hb (hml.trans hl.1.symm) hown (hT _ tw_703) (hT _ tw_704) (hT _ tw_4) (hT _ tw_705) (Nat.le_of_ble_eq_true rfl) (Nat.le_of_ble_eq_true rfl) (Nat.le_of_ble_eq_true rfl) (Nat.le_of_ble_eq_true rfl) d_Reader_begin_9 ?_
  refine lv_topi (fun v_1 ev_1 => ?_)
  obtain rfl : v_1 = 0 := ev_1.trans (by decide)
  refine va_put (D := (dC, dI)) (ci := 8) (v := .int 0) (ty := .int) (C := R_Reader) (T := F_Reader) (N := 19) hx hb hT i_Reader t_Reader t_Reader_ok n_Reader hown hK hP hD hS 0 rfl rfl 1 (by decide) (hT _ tw_234) (fun _ h9 => h9) rfl (by decide +kernel) rfl rfl (Nat.le_of_ble_eq_true rfl) d_Reader_begin_12 (fun H locs hP hD hS => ?_)
  have hP : va_P (dC, dI) classes [(h0, .inr (8, [.ref tp, .int 0, .int 0, .int ft, .int wx, .int wy, .int 0, .ref r_left, .ref r_right, .ref r_told, .ref r_curve, .int 0, .int 0, .int 0, .int 0, .ref r_steps, .int 0, .ref r_stack, .int 0])), (tp, .inl (cT, 400, .inl fT))] H := hP
  have hD : va_D A [(h0, .inr (8, [.ref tp, .int 0, .int 0, .int ft, .int wx, .int wy, .int 0, .ref r_left, .ref r_right, .ref r_told, .ref r_curve, .int 0, .int 0, .int 0, .int 0, .ref r_steps, .int 0, .ref r_stack, .int 0])), (tp, .inl (cT, 400, .inl fT))] := hD
  refine lv_aload_n hx hb d_Reader_begin_15 rfl (lv_at hl 0 rfl) ?_
  refine lv_iconst (v := 0) hx hb d_Reader_begin_16 (by decide) ?_
  refine va_put (D := (dC, dI)) (ci := 8) (v := .int 0) (ty := .int) (C := R_Reader) (T := F_Reader) (N := 19) hx hb hT i_Reader t_Reader t_Reader_ok n_Reader hown hK hP hD hS 0 rfl rfl 2 (by decide) (hT _ tw_235) (fun _ h9 => h9) rfl (by decide +kernel) rfl rfl (Nat.le_of_ble_eq_true rfl) d_Reader_begin_17 (fun H locs hP hD hS => ?_)
  have hP : va_P (dC, dI) classes [(h0, .inr (8, [.ref tp, .int 0, .int 0, .int ft, .int wx, .int wy, .int 0, .ref r_left, .ref r_right, .ref r_told, .ref r_curve, .int 0, .int 0, .int 0, .int 0, .ref r_steps, .int 0, .ref r_stack, .int 0])), (tp, .inl (cT, 400, .inl fT))] H := hP
  have hD : va_D A [(h0, .inr (8, [.ref tp, .int 0, .int 0, .int ft, .int wx, .int wy, .int 0, .ref r_left, .ref r_right, .ref r_told, .ref r_curve, .int 0, .int 0, .int 0, .int 0, .ref r_steps, .int 0, .ref r_stack, .int 0])), (tp, .inl (cT, 400, .inl fT))] := hD
  refine lv_aload_n hx hb d_Reader_begin_20 rfl (lv_at hl 0 rfl) ?_
  refine lv_iconst (v := (-1)) hx hb d_Reader_begin_21 (by decide) ?_
  refine va_put (D := (dC, dI)) (ci := 8) (v := .int (-1)) (ty := .int) (C := R_Reader) (T := F_Reader) (N := 19) hx hb hT i_Reader t_Reader t_Reader_ok n_Reader hown hK hP hD hS 0 rfl rfl 3 (by decide) (hT _ tw_236) (fun _ h9 => h9) rfl (by decide +kernel) rfl rfl (Nat.le_of_ble_eq_true rfl) d_Reader_begin_22 (fun H locs hP hD hS => ?_)
  have hP : va_P (dC, dI) classes [(h0, .inr (8, [.ref tp, .int 0, .int 0, .int (-1), .int wx, .int wy, .int 0, .ref r_left, .ref r_right, .ref r_told, .ref r_curve, .int 0, .int 0, .int 0, .int 0, .ref r_steps, .int 0, .ref r_stack, .int 0])), (tp, .inl (cT, 400, .inl fT))] H := hP
  have hD : va_D A [(h0, .inr (8, [.ref tp, .int 0, .int 0, .int (-1), .int wx, .int wy, .int 0, .ref r_left, .ref r_right, .ref r_told, .ref r_curve, .int 0, .int 0, .int 0, .int 0, .ref r_steps, .int 0, .ref r_stack, .int 0])), (tp, .inl (cT, 400, .inl fT))] := hD
  refine lv_aload_n hx hb d_Reader_begin_25 rfl (lv_at hl 0 rfl) ?_
  refine lv_iload_n hx hb d_Reader_begin_26 rfl (lv_at hl 3 rfl) ?_
  refine va_put (D := (dC, dI)) (ci := 8) (v := .int 0) (ty := .boolean) (C := R_Reader) (T := F_Reader) (N := 19) hx hb hT i_Reader t_Reader t_Reader_ok n_Reader hown hK hP hD hS 0 rfl rfl 4 (by decide) (hT _ tw_238) (fun _ h9 => h9) rfl (by decide +kernel) rfl rfl (Nat.le_of_ble_eq_true rfl) d_Reader_begin_27 (fun H locs hP hD hS => ?_)
  have hP : va_P (dC, dI) classes [(h0, .inr (8, [.ref tp, .int 0, .int 0, .int (-1), .int 0, .int wy, .int 0, .ref r_left, .ref r_right, .ref r_told, .ref r_curve, .int 0, .int 0, .int 0, .int 0, .ref r_steps, .int 0, .ref r_stack, .int 0])), (tp, .inl (cT, 400, .inl fT))] H := hP
  have hD : va_D A [(h0, .inr (8, [.ref tp, .int 0, .int 0, .int (-1), .int 0, .int wy, .int 0, .ref r_left, .ref r_right, .ref r_told, .ref r_curve, .int 0, .int 0, .int 0, .int 0, .ref r_steps, .int 0, .ref r_stack, .int 0])), (tp, .inl (cT, 400, .inl fT))] := hD
  refine lv_aload_n hx hb d_Reader_begin_30 rfl (lv_at hl 0 rfl) ?_
  refine lv_iload hx hb d_Reader_begin_31 (lv_at hl 4 rfl) ?_
  refine va_put (D := (dC, dI)) (ci := 8) (v := .int 0) (ty := .boolean) (C := R_Reader) (T := F_Reader) (N := 19) hx hb hT i_Reader t_Reader t_Reader_ok n_Reader hown hK hP hD hS 0 rfl rfl 5 (by decide) (hT _ tw_239) (fun _ h9 => h9) rfl (by decide +kernel) rfl rfl (Nat.le_of_ble_eq_true rfl) d_Reader_begin_33 (fun H locs hP hD hS => ?_)
  have hP : va_P (dC, dI) classes [(h0, .inr (8, [.ref tp, .int 0, .int 0, .int (-1), .int 0, .int 0, .int 0, .ref r_left, .ref r_right, .ref r_told, .ref r_curve, .int 0, .int 0, .int 0, .int 0, .ref r_steps, .int 0, .ref r_stack, .int 0])), (tp, .inl (cT, 400, .inl fT))] H := hP
  have hD : va_D A [(h0, .inr (8, [.ref tp, .int 0, .int 0, .int (-1), .int 0, .int 0, .int 0, .ref r_left, .ref r_right, .ref r_told, .ref r_curve, .int 0, .int 0, .int 0, .int 0, .ref r_steps, .int 0, .ref r_stack, .int 0])), (tp, .inl (cT, 400, .inl fT))] := hD
  refine lv_aload_n hx hb d_Reader_begin_36 rfl (lv_at hl 0 rfl) ?_
  refine lv_iconst (v := 0) hx hb d_Reader_begin_37 (by decide) ?_
  refine va_put (D := (dC, dI)) (ci := 8) (v := .int 0) (ty := .boolean) (C := R_Reader) (T := F_Reader) (N := 19) hx hb hT i_Reader t_Reader t_Reader_ok n_Reader hown hK hP hD hS 0 rfl rfl 6 (by decide) (hT _ tw_240) (fun _ h9 => h9) rfl (by decide +kernel) rfl rfl (Nat.le_of_ble_eq_true rfl) d_Reader_begin_38 (fun H locs hP hD hS => ?_)
  have hP : va_P (dC, dI) classes [(h0, .inr (8, [.ref tp, .int 0, .int 0, .int (-1), .int 0, .int 0, .int 0, .ref r_left, .ref r_right, .ref r_told, .ref r_curve, .int 0, .int 0, .int 0, .int 0, .ref r_steps, .int 0, .ref r_stack, .int 0])), (tp, .inl (cT, 400, .inl fT))] H := hP
  have hD : va_D A [(h0, .inr (8, [.ref tp, .int 0, .int 0, .int (-1), .int 0, .int 0, .int 0, .ref r_left, .ref r_right, .ref r_told, .ref r_curve, .int 0, .int 0, .int 0, .int 0, .ref r_steps, .int 0, .ref r_stack, .int 0])), (tp, .inl (cT, 400, .inl fT))] := hD
  refine lv_aload_n hx hb d_Reader_begin_41 rfl (lv_at hl 0 rfl) ?_
  refine lv_iconst (v := 0) hx hb d_Reader_begin_42 (by decide) ?_
  refine va_put (D := (dC, dI)) (ci := 8) (v := .int 0) (ty := .int) (C := R_Reader) (T := F_Reader) (N := 19) hx hb hT i_Reader t_Reader t_Reader_ok n_Reader hown hK hP hD hS 0 rfl rfl 11 (by decide) (hT _ tw_251) (fun _ h9 => h9) rfl (by decide +kernel) rfl rfl (Nat.le_of_ble_eq_true rfl) d_Reader_begin_43 (fun H locs hP hD hS => ?_)
  have hP : va_P (dC, dI) classes [(h0, .inr (8, [.ref tp, .int 0, .int 0, .int (-1), .int 0, .int 0, .int 0, .ref r_left, .ref r_right, .ref r_told, .ref r_curve, .int 0, .int 0, .int 0, .int 0, .ref r_steps, .int 0, .ref r_stack, .int 0])), (tp, .inl (cT, 400, .inl fT))] H := hP
  have hD : va_D A [(h0, .inr (8, [.ref tp, .int 0, .int 0, .int (-1), .int 0, .int 0, .int 0, .ref r_left, .ref r_right, .ref r_told, .ref r_curve, .int 0, .int 0, .int 0, .int 0, .ref r_steps, .int 0, .ref r_stack, .int 0])), (tp, .inl (cT, 400, .inl fT))] := hD
  refine lv_aload_n hx hb d_Reader_begin_46 rfl (lv_at hl 0 rfl) ?_
  refine lv_iconst (v := 0) hx hb d_Reader_begin_47 (by decide) ?_
  refine va_put (D := (dC, dI)) (ci := 8) (v := .int 0) (ty := .int) (C := R_Reader) (T := F_Reader) (N := 19) hx hb hT i_Reader t_Reader t_Reader_ok n_Reader hown hK hP hD hS 0 rfl rfl 16 (by decide) (hT _ tw_260) (fun _ h9 => h9) rfl (by decide +kernel) rfl rfl (Nat.le_of_ble_eq_true rfl) d_Reader_begin_48 (fun H locs hP hD hS => ?_)
  have hP : va_P (dC, dI) classes [(h0, .inr (8, [.ref tp, .int 0, .int 0, .int (-1), .int 0, .int 0, .int 0, .ref r_left, .ref r_right, .ref r_told, .ref r_curve, .int 0, .int 0, .int 0, .int 0, .ref r_steps, .int 0, .ref r_stack, .int 0])), (tp, .inl (cT, 400, .inl fT))] H := hP
  have hD : va_D A [(h0, .inr (8, [.ref tp, .int 0, .int 0, .int (-1), .int 0, .int 0, .int 0, .ref r_left, .ref r_right, .ref r_told, .ref r_curve, .int 0, .int 0, .int 0, .int 0, .ref r_steps, .int 0, .ref r_stack, .int 0])), (tp, .inl (cT, 400, .inl fT))] := hD
  refine lv_aload_n hx hb d_Reader_begin_51 rfl (lv_at hl 0 rfl) ?_
  refine lv_iconst (v := 0) hx hb d_Reader_begin_52 (by decide) ?_
  refine va_put (D := (dC, dI)) (ci := 8) (v := .int 0) (ty := .int) (C := R_Reader) (T := F_Reader) (N := 19) hx hb hT i_Reader t_Reader t_Reader_ok n_Reader hown hK hP hD hS 0 rfl rfl 18 (by decide) (hT _ tw_262) (fun _ h9 => h9) rfl (by decide +kernel) rfl rfl (Nat.le_of_ble_eq_true rfl) d_Reader_begin_53 (fun H locs hP hD hS => ?_)
  have hP : va_P (dC, dI) classes [(h0, .inr (8, [.ref tp, .int 0, .int 0, .int (-1), .int 0, .int 0, .int 0, .ref r_left, .ref r_right, .ref r_told, .ref r_curve, .int 0, .int 0, .int 0, .int 0, .ref r_steps, .int 0, .ref r_stack, .int 0])), (tp, .inl (cT, 400, .inl fT))] H := hP
  have hD : va_D A [(h0, .inr (8, [.ref tp, .int 0, .int 0, .int (-1), .int 0, .int 0, .int 0, .ref r_left, .ref r_right, .ref r_told, .ref r_curve, .int 0, .int 0, .int 0, .int 0, .ref r_steps, .int 0, .ref r_stack, .int 0])), (tp, .inl (cT, 400, .inl fT))] := hD
  refine lv_aload_n hx hb d_Reader_begin_56 rfl (lv_at hl 0 rfl) ?_
  refine lv_iconst (v := 0) hx hb d_Reader_begin_57 (by decide) ?_
  refine va_put (D := (dC, dI)) (ci := 8) (v := .int 0) (ty := .int) (C := R_Reader) (T := F_Reader) (N := 19) hx hb hT i_Reader t_Reader t_Reader_ok n_Reader hown hK hP hD hS 0 rfl rfl 12 (by decide) (hT _ tw_253) (fun _ h9 => h9) rfl (by decide +kernel) rfl rfl (Nat.le_of_ble_eq_true rfl) d_Reader_begin_58 (fun H locs hP hD hS => ?_)
  have hP : va_P (dC, dI) classes [(h0, .inr (8, [.ref tp, .int 0, .int 0, .int (-1), .int 0, .int 0, .int 0, .ref r_left, .ref r_right, .ref r_told, .ref r_curve, .int 0, .int 0, .int 0, .int 0, .ref r_steps, .int 0, .ref r_stack, .int 0])), (tp, .inl (cT, 400, .inl fT))] H := hP
  have hD : va_D A [(h0, .inr (8, [.ref tp, .int 0, .int 0, .int (-1), .int 0, .int 0, .int 0, .ref r_left, .ref r_right, .ref r_told, .ref r_curve, .int 0, .int 0, .int 0, .int 0, .ref r_steps, .int 0, .ref r_stack, .int 0])), (tp, .inl (cT, 400, .inl fT))] := hD
  refine lv_aload_n hx hb d_Reader_begin_61 rfl (lv_at hl 0 rfl) ?_
  refine lv_iconst (v := 0) hx hb d_Reader_begin_62 (by decide) ?_
  refine va_put (D := (dC, dI)) (ci := 8) (v := .int 0) (ty := .int) (C := R_Reader) (T := F_Reader) (N := 19) hx hb hT i_Reader t_Reader t_Reader_ok n_Reader hown hK hP hD hS 0 rfl rfl 13 (by decide) (hT _ tw_255) (fun _ h9 => h9) rfl (by decide +kernel) rfl rfl (Nat.le_of_ble_eq_true rfl) d_Reader_begin_63 (fun H locs hP hD hS => ?_)
  have hP : va_P (dC, dI) classes [(h0, .inr (8, [.ref tp, .int 0, .int 0, .int (-1), .int 0, .int 0, .int 0, .ref r_left, .ref r_right, .ref r_told, .ref r_curve, .int 0, .int 0, .int 0, .int 0, .ref r_steps, .int 0, .ref r_stack, .int 0])), (tp, .inl (cT, 400, .inl fT))] H := hP
  have hD : va_D A [(h0, .inr (8, [.ref tp, .int 0, .int 0, .int (-1), .int 0, .int 0, .int 0, .ref r_left, .ref r_right, .ref r_told, .ref r_curve, .int 0, .int 0, .int 0, .int 0, .ref r_steps, .int 0, .ref r_stack, .int 0])), (tp, .inl (cT, 400, .inl fT))] := hD
  refine lv_aload_n hx hb d_Reader_begin_66 rfl (lv_at hl 0 rfl) ?_
  refine lv_iconst (v := 0) hx hb d_Reader_begin_67 (by decide) ?_
  refine va_put (D := (dC, dI)) (ci := 8) (v := .int 0) (ty := .boolean) (C := R_Reader) (T := F_Reader) (N := 19) hx hb hT i_Reader t_Reader t_Reader_ok n_Reader hown hK hP hD hS 0 rfl rfl 14 (by decide) (hT _ tw_257) (fun _ h9 => h9) rfl (by decide +kernel) rfl rfl (Nat.le_of_ble_eq_true rfl) d_Reader_begin_68 (fun H locs hP hD hS => ?_)
  have hP : va_P (dC, dI) classes [(h0, .inr (8, [.ref tp, .int 0, .int 0, .int (-1), .int 0, .int 0, .int 0, .ref r_left, .ref r_right, .ref r_told, .ref r_curve, .int 0, .int 0, .int 0, .int 0, .ref r_steps, .int 0, .ref r_stack, .int 0])), (tp, .inl (cT, 400, .inl fT))] H := hP
  have hD : va_D A [(h0, .inr (8, [.ref tp, .int 0, .int 0, .int (-1), .int 0, .int 0, .int 0, .ref r_left, .ref r_right, .ref r_told, .ref r_curve, .int 0, .int 0, .int 0, .int 0, .ref r_steps, .int 0, .ref r_stack, .int 0])), (tp, .inl (cT, 400, .inl fT))] := hD
  have hP9 := hP.sub (ws' := [(h0, .inr (8, [.ref tp, .int 0, .int 0, .int (-1), .int 0, .int 0, .int 0, .ref r_left, .ref r_right, .ref r_told, .ref r_curve, .int 0, .int 0, .int 0, .int 0, .ref r_steps, .int 0, .ref r_stack, .int 0])), (tp, .inl (cT, 400, .inl fT))]) [0, 1] rfl
  have hD9 := hD.sub (ws' := [(h0, .inr (8, [.ref tp, .int 0, .int 0, .int (-1), .int 0, .int 0, .int 0, .ref r_left, .ref r_right, .ref r_told, .ref r_curve, .int 0, .int 0, .int 0, .int 0, .ref r_steps, .int 0, .ref r_stack, .int 0])), (tp, .inl (cT, 400, .inl fT))]) [0, 1] (by decide) rfl
  have hK9 := hK.sub (tys' := [(cT, .int)]) [0] rfl
  exact W.vret hx hb hr (fun t ht hW => ⟨⟨(), rfl, trivial, by rw [ht]; exact hP9, va_K.moved hW.alike hK9, hD9⟩, hS.F ht⟩) hS.2.2 d_Reader_begin_71
