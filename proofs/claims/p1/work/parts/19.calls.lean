theorem tw_624 : (.fieldLink "RealHouse" 180 "RealHouse" "rootCount" "I" : Cond) ∈ lw_g := tb_at (i := 624) (by decide +kernel) rfl
theorem tw_628 : (.fieldLink "RealHouse" 223 "RealHouse" "spots" "I" : Cond) ∈ lw_g := tb_at (i := 628) (by decide +kernel) rfl
theorem tw_631 : (.fieldLink "RealHouse" 277 "RealHouse" "pieces" "I" : Cond) ∈ lw_g := tb_at (i := 631) (by decide +kernel) rfl
theorem tw_634 : (.fieldLink "RealHouse" 283 "RealHouse" "parts" "I" : Cond) ∈ lw_g := tb_at (i := 634) (by decide +kernel) rfl
theorem tw_1549 : (.methodLink "RealHouse" 300 ⟨"RealHouse", "isNoNumber", "(I)Z"⟩ : Cond) ∈ lw_g := tb_at (i := 1549) (by decide +kernel) rfl
theorem tw_1551 : (.instanceMethod ⟨"RealHouse", "isNoNumber", "(I)Z"⟩ : Cond) ∈ lw_g := tb_at (i := 1551) (by decide +kernel) rfl
theorem tw_621 : (.fieldLink "RealHouse" 86 "RealHouse" "scriptSize" "I" : Cond) ∈ lw_g := tb_at (i := 621) (by decide +kernel) rfl
theorem tw_946 : (.methodLink "RealHouse" 157 ⟨"RealHouse", "readInX", "(IZ)I"⟩ : Cond) ∈ lw_g := tb_at (i := 946) (by decide +kernel) rfl
theorem tw_948 : (.instanceMethod ⟨"RealHouse", "readInX", "(IZ)I"⟩ : Cond) ∈ lw_g := tb_at (i := 948) (by decide +kernel) rfl
theorem tw_1387 : (.methodLink "RealHouse" 247 ⟨"RealHouse$Reader", "readQuantifiers", "()V"⟩ : Cond) ∈ lw_g := tb_at (i := 1387) (by decide +kernel) rfl
theorem tw_1389 : (.selects "RealHouse$Reader" ⟨"RealHouse$Reader", "readQuantifiers", "()V"⟩ ⟨"RealHouse$Reader", "readQuantifiers", "()V"⟩ : Cond) ∈ lw_g := tb_at (i := 1389) (by decide +kernel) rfl
theorem tw_1388 : (.instanceMethod ⟨"RealHouse$Reader", "readQuantifiers", "()V"⟩ : Cond) ∈ lw_g := tb_at (i := 1388) (by decide +kernel) rfl
theorem tw_1395 : (.methodLink "RealHouse" 250 ⟨"RealHouse$Reader", "readFormula", "()V"⟩ : Cond) ∈ lw_g := tb_at (i := 1395) (by decide +kernel) rfl
theorem tw_1397 : (.selects "RealHouse$Reader" ⟨"RealHouse$Reader", "readFormula", "()V"⟩ ⟨"RealHouse$Reader", "readFormula", "()V"⟩ : Cond) ∈ lw_g := tb_at (i := 1397) (by decide +kernel) rfl
theorem tw_1396 : (.instanceMethod ⟨"RealHouse$Reader", "readFormula", "()V"⟩ : Cond) ∈ lw_g := tb_at (i := 1396) (by decide +kernel) rfl
theorem tw_1512 : (.methodLink "RealHouse" 274 ⟨"RealHouse$Reader", "readOverY", "()V"⟩ : Cond) ∈ lw_g := tb_at (i := 1512) (by decide +kernel) rfl
theorem tw_1514 : (.selects "RealHouse$Reader" ⟨"RealHouse$Reader", "readOverY", "()V"⟩ ⟨"RealHouse$Reader", "readOverY", "()V"⟩ : Cond) ∈ lw_g := tb_at (i := 1514) (by decide +kernel) rfl
theorem tw_1513 : (.instanceMethod ⟨"RealHouse$Reader", "readOverY", "()V"⟩ : Cond) ∈ lw_g := tb_at (i := 1513) (by decide +kernel) rfl
abbrev b_House_times : ByteArray := prog_1_method_6_code
def y_House_times : MethodName := ⟨"RealHouse", "times", "(I)I"⟩
abbrev w_House_times : List Cond := .code y_House_times b_House_times 2 (some .int) :: lw_g
theorem g_House_times : GoodIn lw_g w_House_times := tb_good1 (tb_at (i := 1279) (by decide +kernel) rfl)
theorem d_House_times_0 : decode b_House_times 0 = .ok (.iload_n 1, 1) := by decide +kernel
theorem d_House_times_1 : decode b_House_times 1 = .ok (.ifCond .lt 20, 3) := by decide +kernel
theorem d_House_times_4 : decode b_House_times 4 = .ok (.iload_n 1, 1) := by decide +kernel
theorem d_House_times_5 : decode b_House_times 5 = .ok (.aload_n 0, 1) := by decide +kernel
theorem d_House_times_6 : decode b_House_times 6 = .ok (.getfield 180, 3) := by decide +kernel
theorem d_House_times_9 : decode b_House_times 9 = .ok (.if_icmp .ge 12, 3) := by decide +kernel
theorem d_House_times_12 : decode b_House_times 12 = .ok (.aload_n 0, 1) := by decide +kernel
theorem d_House_times_13 : decode b_House_times 13 = .ok (.getfield 22, 3) := by decide +kernel
theorem d_House_times_16 : decode b_House_times 16 = .ok (.iload_n 1, 1) := by decide +kernel
theorem d_House_times_17 : decode b_House_times 17 = .ok (.iaload, 1) := by decide +kernel
theorem d_House_times_18 : decode b_House_times 18 = .ok (.goto 4, 3) := by decide +kernel
theorem d_House_times_21 : decode b_House_times 21 = .ok (.iconst (-1), 1) := by decide +kernel
theorem d_House_times_22 : decode b_House_times 22 = .ok (.ireturn, 1) := by decide +kernel
abbrev b_House_root : ByteArray := prog_1_method_7_code
def y_House_root : MethodName := ⟨"RealHouse", "root", "(II)I"⟩
abbrev w_House_root : List Cond := .code y_House_root b_House_root 3 (some .int) :: lw_g
theorem g_House_root : GoodIn lw_g w_House_root := tb_good1 (tb_at (i := 1283) (by decide +kernel) rfl)
theorem d_House_root_0 : decode b_House_root 0 = .ok (.iload_n 1, 1) := by decide +kernel
theorem d_House_root_1 : decode b_House_root 1 = .ok (.ifCond .lt 25, 3) := by decide +kernel
theorem d_House_root_4 : decode b_House_root 4 = .ok (.iload_n 1, 1) := by decide +kernel
theorem d_House_root_5 : decode b_House_root 5 = .ok (.aload_n 0, 1) := by decide +kernel
theorem d_House_root_6 : decode b_House_root 6 = .ok (.getfield 180, 3) := by decide +kernel
theorem d_House_root_9 : decode b_House_root 9 = .ok (.if_icmp .ge 17, 3) := by decide +kernel
theorem d_House_root_12 : decode b_House_root 12 = .ok (.aload_n 0, 1) := by decide +kernel
theorem d_House_root_13 : decode b_House_root 13 = .ok (.aload_n 0, 1) := by decide +kernel
theorem d_House_root_14 : decode b_House_root 14 = .ok (.getfield 18, 3) := by decide +kernel
theorem d_House_root_17 : decode b_House_root 17 = .ok (.iload_n 1, 1) := by decide +kernel
theorem d_House_root_18 : decode b_House_root 18 = .ok (.aaload, 1) := by decide +kernel
theorem d_House_root_19 : decode b_House_root 19 = .ok (.iload_n 2, 1) := by decide +kernel
theorem d_House_root_20 : decode b_House_root 20 = .ok (.invokevirtual 193, 3) := by decide +kernel
theorem d_House_root_23 : decode b_House_root 23 = .ok (.goto 4, 3) := by decide +kernel
theorem d_House_root_26 : decode b_House_root 26 = .ok (.iconst (-1), 1) := by decide +kernel
theorem d_House_root_27 : decode b_House_root 27 = .ok (.ireturn, 1) := by decide +kernel
abbrev b_House_signAt : ByteArray := prog_1_method_8_code
def y_House_signAt : MethodName := ⟨"RealHouse", "signAt", "(II)I"⟩
abbrev w_House_signAt : List Cond := .code y_House_signAt b_House_signAt 4 (some .int) :: lw_g
theorem g_House_signAt : GoodIn lw_g w_House_signAt := tb_good1 (tb_at (i := 1293) (by decide +kernel) rfl)
theorem d_House_signAt_0 : decode b_House_signAt 0 = .ok (.iload_n 1, 1) := by decide +kernel
theorem d_House_signAt_1 : decode b_House_signAt 1 = .ok (.ifCond .lt 11, 3) := by decide +kernel
theorem d_House_signAt_4 : decode b_House_signAt 4 = .ok (.iload_n 1, 1) := by decide +kernel
theorem d_House_signAt_5 : decode b_House_signAt 5 = .ok (.aload_n 0, 1) := by decide +kernel
theorem d_House_signAt_6 : decode b_House_signAt 6 = .ok (.getfield 180, 3) := by decide +kernel
theorem d_House_signAt_9 : decode b_House_signAt 9 = .ok (.if_icmp .lt 5, 3) := by decide +kernel
theorem d_House_signAt_12 : decode b_House_signAt 12 = .ok (.iconst (-1), 1) := by decide +kernel
theorem d_House_signAt_13 : decode b_House_signAt 13 = .ok (.ireturn, 1) := by decide +kernel
theorem d_House_signAt_14 : decode b_House_signAt 14 = .ok (.aload_n 0, 1) := by decide +kernel
theorem d_House_signAt_15 : decode b_House_signAt 15 = .ok (.iload_n 2, 1) := by decide +kernel
theorem d_House_signAt_16 : decode b_House_signAt 16 = .ok (.iconst 0, 1) := by decide +kernel
theorem d_House_signAt_17 : decode b_House_signAt 17 = .ok (.invokevirtual 157, 3) := by decide +kernel
theorem d_House_signAt_20 : decode b_House_signAt 20 = .ok (.istore_n 3, 1) := by decide +kernel
theorem d_House_signAt_21 : decode b_House_signAt 21 = .ok (.iload_n 3, 1) := by decide +kernel
theorem d_House_signAt_22 : decode b_House_signAt 22 = .ok (.ifCond .ge 7, 3) := by decide +kernel
theorem d_House_signAt_25 : decode b_House_signAt 25 = .ok (.iload_n 3, 1) := by decide +kernel
theorem d_House_signAt_26 : decode b_House_signAt 26 = .ok (.goto 26, 3) := by decide +kernel
theorem d_House_signAt_29 : decode b_House_signAt 29 = .ok (.iconst 1, 1) := by decide +kernel
theorem d_House_signAt_30 : decode b_House_signAt 30 = .ok (.aload_n 0, 1) := by decide +kernel
theorem d_House_signAt_31 : decode b_House_signAt 31 = .ok (.getfield 18, 3) := by decide +kernel
theorem d_House_signAt_34 : decode b_House_signAt 34 = .ok (.iload_n 1, 1) := by decide +kernel
theorem d_House_signAt_35 : decode b_House_signAt 35 = .ok (.aaload, 1) := by decide +kernel
theorem d_House_signAt_36 : decode b_House_signAt 36 = .ok (.aload_n 0, 1) := by decide +kernel
theorem d_House_signAt_37 : decode b_House_signAt 37 = .ok (.getfield 67, 3) := by decide +kernel
theorem d_House_signAt_40 : decode b_House_signAt 40 = .ok (.getfield 111, 3) := by decide +kernel
theorem d_House_signAt_43 : decode b_House_signAt 43 = .ok (.getfield 115, 3) := by decide +kernel
theorem d_House_signAt_46 : decode b_House_signAt 46 = .ok (.iconst 0, 1) := by decide +kernel
theorem d_House_signAt_47 : decode b_House_signAt 47 = .ok (.aaload, 1) := by decide +kernel
theorem d_House_signAt_48 : decode b_House_signAt 48 = .ok (.invokevirtual 197, 3) := by decide +kernel
theorem d_House_signAt_51 : decode b_House_signAt 51 = .ok (.iadd, 1) := by decide +kernel
theorem d_House_signAt_52 : decode b_House_signAt 52 = .ok (.ireturn, 1) := by decide +kernel
abbrev b_House_below : ByteArray := prog_1_method_9_code
def y_House_below : MethodName := ⟨"RealHouse", "below", "(II)I"⟩
abbrev w_House_below : List Cond := .code y_House_below b_House_below 6 (some .int) :: lw_g
theorem g_House_below : GoodIn lw_g w_House_below := tb_good1 (tb_at (i := 1298) (by decide +kernel) rfl)
theorem d_House_below_0 : decode b_House_below 0 = .ok (.iload_n 1, 1) := by decide +kernel
theorem d_House_below_1 : decode b_House_below 1 = .ok (.ifCond .lt 11, 3) := by decide +kernel
theorem d_House_below_4 : decode b_House_below 4 = .ok (.iload_n 1, 1) := by decide +kernel
theorem d_House_below_5 : decode b_House_below 5 = .ok (.aload_n 0, 1) := by decide +kernel
theorem d_House_below_6 : decode b_House_below 6 = .ok (.getfield 180, 3) := by decide +kernel
theorem d_House_below_9 : decode b_House_below 9 = .ok (.if_icmp .lt 5, 3) := by decide +kernel
theorem d_House_below_12 : decode b_House_below 12 = .ok (.iconst (-1), 1) := by decide +kernel
theorem d_House_below_13 : decode b_House_below 13 = .ok (.ireturn, 1) := by decide +kernel
theorem d_House_below_14 : decode b_House_below 14 = .ok (.aload_n 0, 1) := by decide +kernel
theorem d_House_below_15 : decode b_House_below 15 = .ok (.iload_n 2, 1) := by decide +kernel
theorem d_House_below_16 : decode b_House_below 16 = .ok (.iconst 1, 1) := by decide +kernel
theorem d_House_below_17 : decode b_House_below 17 = .ok (.invokevirtual 157, 3) := by decide +kernel
theorem d_House_below_20 : decode b_House_below 20 = .ok (.istore_n 3, 1) := by decide +kernel
theorem d_House_below_21 : decode b_House_below 21 = .ok (.iload_n 3, 1) := by decide +kernel
theorem d_House_below_22 : decode b_House_below 22 = .ok (.ifCond .ge 5, 3) := by decide +kernel
theorem d_House_below_25 : decode b_House_below 25 = .ok (.iload_n 3, 1) := by decide +kernel
theorem d_House_below_26 : decode b_House_below 26 = .ok (.ireturn, 1) := by decide +kernel
theorem d_House_below_27 : decode b_House_below 27 = .ok (.aload_n 0, 1) := by decide +kernel
theorem d_House_below_28 : decode b_House_below 28 = .ok (.getfield 74, 3) := by decide +kernel
theorem d_House_below_31 : decode b_House_below 31 = .ok (.invokevirtual 161, 3) := by decide +kernel
theorem d_House_below_34 : decode b_House_below 34 = .ok (.aload_n 0, 1) := by decide +kernel
theorem d_House_below_35 : decode b_House_below 35 = .ok (.getfield 74, 3) := by decide +kernel
theorem d_House_below_38 : decode b_House_below 38 = .ok (.getfield 162, 3) := by decide +kernel
theorem d_House_below_41 : decode b_House_below 41 = .ok (.aload_n 0, 1) := by decide +kernel
theorem d_House_below_42 : decode b_House_below 42 = .ok (.getfield 67, 3) := by decide +kernel
theorem d_House_below_45 : decode b_House_below 45 = .ok (.getfield 111, 3) := by decide +kernel
theorem d_House_below_48 : decode b_House_below 48 = .ok (.getfield 115, 3) := by decide +kernel
theorem d_House_below_51 : decode b_House_below 51 = .ok (.iconst 0, 1) := by decide +kernel
theorem d_House_below_52 : decode b_House_below 52 = .ok (.aaload, 1) := by decide +kernel
theorem d_House_below_53 : decode b_House_below 53 = .ok (.invokevirtual 166, 3) := by decide +kernel
theorem d_House_below_56 : decode b_House_below 56 = .ok (.aload_n 0, 1) := by decide +kernel
theorem d_House_below_57 : decode b_House_below 57 = .ok (.getfield 74, 3) := by decide +kernel
theorem d_House_below_60 : decode b_House_below 60 = .ok (.invokevirtual 171, 3) := by decide +kernel
theorem d_House_below_63 : decode b_House_below 63 = .ok (.aload_n 0, 1) := by decide +kernel
theorem d_House_below_64 : decode b_House_below 64 = .ok (.getfield 74, 3) := by decide +kernel
theorem d_House_below_67 : decode b_House_below 67 = .ok (.invokevirtual 174, 3) := by decide +kernel
theorem d_House_below_70 : decode b_House_below 70 = .ok (.iconst 0, 1) := by decide +kernel
theorem d_House_below_71 : decode b_House_below 71 = .ok (.istore 4, 2) := by decide +kernel
theorem d_House_below_73 : decode b_House_below 73 = .ok (.iconst 0, 1) := by decide +kernel
theorem d_House_below_74 : decode b_House_below 74 = .ok (.istore 5, 2) := by decide +kernel
theorem d_House_below_76 : decode b_House_below 76 = .ok (.iload 5, 2) := by decide +kernel
theorem d_House_below_78 : decode b_House_below 78 = .ok (.aload_n 0, 1) := by decide +kernel
theorem d_House_below_79 : decode b_House_below 79 = .ok (.getfield 74, 3) := by decide +kernel
theorem d_House_below_82 : decode b_House_below 82 = .ok (.getfield 177, 3) := by decide +kernel
theorem d_House_below_85 : decode b_House_below 85 = .ok (.if_icmp .ge 34, 3) := by decide +kernel
theorem d_House_below_88 : decode b_House_below 88 = .ok (.aload_n 0, 1) := by decide +kernel
theorem d_House_below_89 : decode b_House_below 89 = .ok (.getfield 74, 3) := by decide +kernel
theorem d_House_below_92 : decode b_House_below 92 = .ok (.getfield 183, 3) := by decide +kernel
theorem d_House_below_95 : decode b_House_below 95 = .ok (.iload 5, 2) := by decide +kernel
theorem d_House_below_97 : decode b_House_below 97 = .ok (.aaload, 1) := by decide +kernel
theorem d_House_below_98 : decode b_House_below 98 = .ok (.aload_n 0, 1) := by decide +kernel
theorem d_House_below_99 : decode b_House_below 99 = .ok (.getfield 18, 3) := by decide +kernel
theorem d_House_below_102 : decode b_House_below 102 = .ok (.iload_n 1, 1) := by decide +kernel
theorem d_House_below_103 : decode b_House_below 103 = .ok (.aaload, 1) := by decide +kernel
theorem d_House_below_104 : decode b_House_below 104 = .ok (.invokevirtual 201, 3) := by decide +kernel
theorem d_House_below_107 : decode b_House_below 107 = .ok (.ifCond .ge 12, 3) := by decide +kernel
theorem d_House_below_110 : decode b_House_below 110 = .ok (.iinc 4 1, 3) := by decide +kernel
theorem d_House_below_113 : decode b_House_below 113 = .ok (.iinc 5 1, 3) := by decide +kernel
theorem d_House_below_116 : decode b_House_below 116 = .ok (.goto (-40), 3) := by decide +kernel
theorem d_House_below_119 : decode b_House_below 119 = .ok (.iload 4, 2) := by decide +kernel
theorem d_House_below_121 : decode b_House_below 121 = .ok (.ireturn, 1) := by decide +kernel
abbrev b_House_point : ByteArray := prog_1_method_11_code
def y_House_point : MethodName := ⟨"RealHouse", "point", "(III)I"⟩
abbrev w_House_point : List Cond := .code y_House_point b_House_point 4 (some .int) :: lw_g
theorem g_House_point : GoodIn lw_g w_House_point := tb_good1 (tb_at (i := 1372) (by decide +kernel) rfl)
theorem d_House_point_0 : decode b_House_point 0 = .ok (.iload_n 1, 1) := by decide +kernel
theorem d_House_point_1 : decode b_House_point 1 = .ok (.ifCond .lt 20, 3) := by decide +kernel
theorem d_House_point_4 : decode b_House_point 4 = .ok (.iload_n 1, 1) := by decide +kernel
theorem d_House_point_5 : decode b_House_point 5 = .ok (.aload_n 0, 1) := by decide +kernel
theorem d_House_point_6 : decode b_House_point 6 = .ok (.getfield 223, 3) := by decide +kernel
theorem d_House_point_9 : decode b_House_point 9 = .ok (.if_icmp .ge 12, 3) := by decide +kernel
theorem d_House_point_12 : decode b_House_point 12 = .ok (.iload_n 2, 1) := by decide +kernel
theorem d_House_point_13 : decode b_House_point 13 = .ok (.ifCond .lt 8, 3) := by decide +kernel
theorem d_House_point_16 : decode b_House_point 16 = .ok (.iload_n 2, 1) := by decide +kernel
theorem d_House_point_17 : decode b_House_point 17 = .ok (.iconst 1, 1) := by decide +kernel
theorem d_House_point_18 : decode b_House_point 18 = .ok (.if_icmp .le 5, 3) := by decide +kernel
theorem d_House_point_21 : decode b_House_point 21 = .ok (.iconst (-1), 1) := by decide +kernel
theorem d_House_point_22 : decode b_House_point 22 = .ok (.ireturn, 1) := by decide +kernel
theorem d_House_point_23 : decode b_House_point 23 = .ok (.aload_n 0, 1) := by decide +kernel
theorem d_House_point_24 : decode b_House_point 24 = .ok (.iload_n 2, 1) := by decide +kernel
theorem d_House_point_25 : decode b_House_point 25 = .ok (.ifCond .ne 12, 3) := by decide +kernel
theorem d_House_point_28 : decode b_House_point 28 = .ok (.aload_n 0, 1) := by decide +kernel
theorem d_House_point_29 : decode b_House_point 29 = .ok (.getfield 25, 3) := by decide +kernel
theorem d_House_point_32 : decode b_House_point 32 = .ok (.iload_n 1, 1) := by decide +kernel
theorem d_House_point_33 : decode b_House_point 33 = .ok (.aaload, 1) := by decide +kernel
theorem d_House_point_34 : decode b_House_point 34 = .ok (.goto 9, 3) := by decide +kernel
theorem d_House_point_37 : decode b_House_point 37 = .ok (.aload_n 0, 1) := by decide +kernel
theorem d_House_point_38 : decode b_House_point 38 = .ok (.getfield 28, 3) := by decide +kernel
theorem d_House_point_41 : decode b_House_point 41 = .ok (.iload_n 1, 1) := by decide +kernel
theorem d_House_point_42 : decode b_House_point 42 = .ok (.aaload, 1) := by decide +kernel
theorem d_House_point_43 : decode b_House_point 43 = .ok (.iload_n 3, 1) := by decide +kernel
theorem d_House_point_44 : decode b_House_point 44 = .ok (.invokevirtual 193, 3) := by decide +kernel
theorem d_House_point_47 : decode b_House_point 47 = .ok (.ireturn, 1) := by decide +kernel
abbrev b_House_signAtPoint : ByteArray := prog_1_method_12_code
def y_House_signAtPoint : MethodName := ⟨"RealHouse", "signAtPoint", "(II)I"⟩
abbrev w_House_signAtPoint : List Cond := .code y_House_signAtPoint b_House_signAtPoint 3 (some .int) :: lw_g
theorem g_House_signAtPoint : GoodIn lw_g w_House_signAtPoint := tb_good1 (tb_at (i := 1376) (by decide +kernel) rfl)
theorem d_House_signAtPoint_0 : decode b_House_signAtPoint 0 = .ok (.iload_n 1, 1) := by decide +kernel
theorem d_House_signAtPoint_1 : decode b_House_signAtPoint 1 = .ok (.ifCond .lt 19, 3) := by decide +kernel
theorem d_House_signAtPoint_4 : decode b_House_signAtPoint 4 = .ok (.iload_n 1, 1) := by decide +kernel
theorem d_House_signAtPoint_5 : decode b_House_signAtPoint 5 = .ok (.aload_n 0, 1) := by decide +kernel
theorem d_House_signAtPoint_6 : decode b_House_signAtPoint 6 = .ok (.getfield 223, 3) := by decide +kernel
theorem d_House_signAtPoint_9 : decode b_House_signAtPoint 9 = .ok (.if_icmp .ge 11, 3) := by decide +kernel
theorem d_House_signAtPoint_12 : decode b_House_signAtPoint 12 = .ok (.aload_n 0, 1) := by decide +kernel
theorem d_House_signAtPoint_13 : decode b_House_signAtPoint 13 = .ok (.iload_n 2, 1) := by decide +kernel
theorem d_House_signAtPoint_14 : decode b_House_signAtPoint 14 = .ok (.invokevirtual 89, 3) := by decide +kernel
theorem d_House_signAtPoint_17 : decode b_House_signAtPoint 17 = .ok (.ifCond .eq 5, 3) := by decide +kernel
theorem d_House_signAtPoint_20 : decode b_House_signAtPoint 20 = .ok (.iconst (-1), 1) := by decide +kernel
theorem d_House_signAtPoint_21 : decode b_House_signAtPoint 21 = .ok (.ireturn, 1) := by decide +kernel
theorem d_House_signAtPoint_22 : decode b_House_signAtPoint 22 = .ok (.aload_n 0, 1) := by decide +kernel
theorem d_House_signAtPoint_23 : decode b_House_signAtPoint 23 = .ok (.getfield 67, 3) := by decide +kernel
theorem d_House_signAtPoint_26 : decode b_House_signAtPoint 26 = .ok (.aload_n 0, 1) := by decide +kernel
theorem d_House_signAtPoint_27 : decode b_House_signAtPoint 27 = .ok (.getfield 9, 3) := by decide +kernel
theorem d_House_signAtPoint_30 : decode b_House_signAtPoint 30 = .ok (.iload_n 2, 1) := by decide +kernel
theorem d_House_signAtPoint_31 : decode b_House_signAtPoint 31 = .ok (.iconst 1, 1) := by decide +kernel
theorem d_House_signAtPoint_32 : decode b_House_signAtPoint 32 = .ok (.iconst 1, 1) := by decide +kernel
theorem d_House_signAtPoint_33 : decode b_House_signAtPoint 33 = .ok (.invokevirtual 93, 3) := by decide +kernel
theorem d_House_signAtPoint_36 : decode b_House_signAtPoint 36 = .ok (.aload_n 0, 1) := by decide +kernel
theorem d_House_signAtPoint_37 : decode b_House_signAtPoint 37 = .ok (.getfield 67, 3) := by decide +kernel
theorem d_House_signAtPoint_40 : decode b_House_signAtPoint 40 = .ok (.iconst 0, 1) := by decide +kernel
theorem d_House_signAtPoint_41 : decode b_House_signAtPoint 41 = .ok (.invokevirtual 97, 3) := by decide +kernel
theorem d_House_signAtPoint_44 : decode b_House_signAtPoint 44 = .ok (.aload_n 0, 1) := by decide +kernel
theorem d_House_signAtPoint_45 : decode b_House_signAtPoint 45 = .ok (.getfield 67, 3) := by decide +kernel
theorem d_House_signAtPoint_48 : decode b_House_signAtPoint 48 = .ok (.getfield 101, 3) := by decide +kernel
theorem d_House_signAtPoint_51 : decode b_House_signAtPoint 51 = .ok (.ifCond .lt 8, 3) := by decide +kernel
theorem d_House_signAtPoint_54 : decode b_House_signAtPoint 54 = .ok (.aload_n 0, 1) := by decide +kernel
theorem d_House_signAtPoint_55 : decode b_House_signAtPoint 55 = .ok (.invokevirtual 104, 3) := by decide +kernel
theorem d_House_signAtPoint_58 : decode b_House_signAtPoint 58 = .ok (.ireturn, 1) := by decide +kernel
theorem d_House_signAtPoint_59 : decode b_House_signAtPoint 59 = .ok (.aload_n 0, 1) := by decide +kernel
theorem d_House_signAtPoint_60 : decode b_House_signAtPoint 60 = .ok (.getfield 67, 3) := by decide +kernel
theorem d_House_signAtPoint_63 : decode b_House_signAtPoint 63 = .ok (.getfield 111, 3) := by decide +kernel
theorem d_House_signAtPoint_66 : decode b_House_signAtPoint 66 = .ok (.invokevirtual 205, 3) := by decide +kernel
theorem d_House_signAtPoint_69 : decode b_House_signAtPoint 69 = .ok (.ifCond .ne 5, 3) := by decide +kernel
theorem d_House_signAtPoint_72 : decode b_House_signAtPoint 72 = .ok (.iconst (-1), 1) := by decide +kernel
theorem d_House_signAtPoint_73 : decode b_House_signAtPoint 73 = .ok (.ireturn, 1) := by decide +kernel
theorem d_House_signAtPoint_74 : decode b_House_signAtPoint 74 = .ok (.aload_n 0, 1) := by decide +kernel
theorem d_House_signAtPoint_75 : decode b_House_signAtPoint 75 = .ok (.iconst 0, 1) := by decide +kernel
theorem d_House_signAtPoint_76 : decode b_House_signAtPoint 76 = .ok (.putfield 78, 3) := by decide +kernel
theorem d_House_signAtPoint_79 : decode b_House_signAtPoint 79 = .ok (.iconst 1, 1) := by decide +kernel
theorem d_House_signAtPoint_80 : decode b_House_signAtPoint 80 = .ok (.aload_n 0, 1) := by decide +kernel
theorem d_House_signAtPoint_81 : decode b_House_signAtPoint 81 = .ok (.getfield 74, 3) := by decide +kernel
theorem d_House_signAtPoint_84 : decode b_House_signAtPoint 84 = .ok (.aload_n 0, 1) := by decide +kernel
theorem d_House_signAtPoint_85 : decode b_House_signAtPoint 85 = .ok (.getfield 25, 3) := by decide +kernel
theorem d_House_signAtPoint_88 : decode b_House_signAtPoint 88 = .ok (.iload_n 1, 1) := by decide +kernel
theorem d_House_signAtPoint_89 : decode b_House_signAtPoint 89 = .ok (.aaload, 1) := by decide +kernel
theorem d_House_signAtPoint_90 : decode b_House_signAtPoint 90 = .ok (.aload_n 0, 1) := by decide +kernel
theorem d_House_signAtPoint_91 : decode b_House_signAtPoint 91 = .ok (.getfield 28, 3) := by decide +kernel
theorem d_House_signAtPoint_94 : decode b_House_signAtPoint 94 = .ok (.iload_n 1, 1) := by decide +kernel
theorem d_House_signAtPoint_95 : decode b_House_signAtPoint 95 = .ok (.aaload, 1) := by decide +kernel
theorem d_House_signAtPoint_96 : decode b_House_signAtPoint 96 = .ok (.aload_n 0, 1) := by decide +kernel
theorem d_House_signAtPoint_97 : decode b_House_signAtPoint 97 = .ok (.getfield 33, 3) := by decide +kernel
theorem d_House_signAtPoint_100 : decode b_House_signAtPoint 100 = .ok (.iload_n 1, 1) := by decide +kernel
theorem d_House_signAtPoint_101 : decode b_House_signAtPoint 101 = .ok (.aaload, 1) := by decide +kernel
theorem d_House_signAtPoint_102 : decode b_House_signAtPoint 102 = .ok (.aload_n 0, 1) := by decide +kernel
theorem d_House_signAtPoint_103 : decode b_House_signAtPoint 103 = .ok (.getfield 67, 3) := by decide +kernel
theorem d_House_signAtPoint_106 : decode b_House_signAtPoint 106 = .ok (.getfield 111, 3) := by decide +kernel
theorem d_House_signAtPoint_109 : decode b_House_signAtPoint 109 = .ok (.invokevirtual 243, 3) := by decide +kernel
theorem d_House_signAtPoint_112 : decode b_House_signAtPoint 112 = .ok (.iadd, 1) := by decide +kernel
theorem d_House_signAtPoint_113 : decode b_House_signAtPoint 113 = .ok (.ireturn, 1) := by decide +kernel
abbrev b_House_piece : ByteArray := prog_1_method_15_code
def y_House_piece : MethodName := ⟨"RealHouse", "piece", "(II)I"⟩
abbrev w_House_piece : List Cond := .code y_House_piece b_House_piece 6 (some .int) :: lw_g
theorem g_House_piece : GoodIn lw_g w_House_piece := tb_good1 (tb_at (i := 1519) (by decide +kernel) rfl)
theorem d_House_piece_0 : decode b_House_piece 0 = .ok (.iload_n 1, 1) := by decide +kernel
theorem d_House_piece_1 : decode b_House_piece 1 = .ok (.ifCond .lt 20, 3) := by decide +kernel
theorem d_House_piece_4 : decode b_House_piece 4 = .ok (.iload_n 1, 1) := by decide +kernel
theorem d_House_piece_5 : decode b_House_piece 5 = .ok (.aload_n 0, 1) := by decide +kernel
theorem d_House_piece_6 : decode b_House_piece 6 = .ok (.getfield 277, 3) := by decide +kernel
theorem d_House_piece_9 : decode b_House_piece 9 = .ok (.if_icmp .ge 12, 3) := by decide +kernel
theorem d_House_piece_12 : decode b_House_piece 12 = .ok (.iload_n 2, 1) := by decide +kernel
theorem d_House_piece_13 : decode b_House_piece 13 = .ok (.ifCond .lt 8, 3) := by decide +kernel
theorem d_House_piece_16 : decode b_House_piece 16 = .ok (.iload_n 2, 1) := by decide +kernel
theorem d_House_piece_17 : decode b_House_piece 17 = .ok (.iconst 4, 1) := by decide +kernel
theorem d_House_piece_18 : decode b_House_piece 18 = .ok (.if_icmp .le 5, 3) := by decide +kernel
theorem d_House_piece_21 : decode b_House_piece 21 = .ok (.iconst (-1), 1) := by decide +kernel
theorem d_House_piece_22 : decode b_House_piece 22 = .ok (.ireturn, 1) := by decide +kernel
theorem d_House_piece_23 : decode b_House_piece 23 = .ok (.aload_n 0, 1) := by decide +kernel
theorem d_House_piece_24 : decode b_House_piece 24 = .ok (.getfield 40, 3) := by decide +kernel
theorem d_House_piece_27 : decode b_House_piece 27 = .ok (.iconst 2, 1) := by decide +kernel
theorem d_House_piece_28 : decode b_House_piece 28 = .ok (.iload_n 1, 1) := by decide +kernel
theorem d_House_piece_29 : decode b_House_piece 29 = .ok (.imul, 1) := by decide +kernel
theorem d_House_piece_30 : decode b_House_piece 30 = .ok (.iaload, 1) := by decide +kernel
theorem d_House_piece_31 : decode b_House_piece 31 = .ok (.istore_n 3, 1) := by decide +kernel
theorem d_House_piece_32 : decode b_House_piece 32 = .ok (.aload_n 0, 1) := by decide +kernel
theorem d_House_piece_33 : decode b_House_piece 33 = .ok (.getfield 40, 3) := by decide +kernel
theorem d_House_piece_36 : decode b_House_piece 36 = .ok (.iconst 2, 1) := by decide +kernel
theorem d_House_piece_37 : decode b_House_piece 37 = .ok (.iload_n 1, 1) := by decide +kernel
theorem d_House_piece_38 : decode b_House_piece 38 = .ok (.imul, 1) := by decide +kernel
theorem d_House_piece_39 : decode b_House_piece 39 = .ok (.iconst 1, 1) := by decide +kernel
theorem d_House_piece_40 : decode b_House_piece 40 = .ok (.iadd, 1) := by decide +kernel
theorem d_House_piece_41 : decode b_House_piece 41 = .ok (.iaload, 1) := by decide +kernel
theorem d_House_piece_42 : decode b_House_piece 42 = .ok (.istore 4, 2) := by decide +kernel
theorem d_House_piece_44 : decode b_House_piece 44 = .ok (.iload_n 2, 1) := by decide +kernel
theorem d_House_piece_45 : decode b_House_piece 45 = .ok (.iconst 4, 1) := by decide +kernel
theorem d_House_piece_46 : decode b_House_piece 46 = .ok (.if_icmp .ne 19, 3) := by decide +kernel
theorem d_House_piece_49 : decode b_House_piece 49 = .ok (.iload_n 3, 1) := by decide +kernel
theorem d_House_piece_50 : decode b_House_piece 50 = .ok (.ifCond .lt 13, 3) := by decide +kernel
theorem d_House_piece_53 : decode b_House_piece 53 = .ok (.iload_n 3, 1) := by decide +kernel
theorem d_House_piece_54 : decode b_House_piece 54 = .ok (.iload 4, 2) := by decide +kernel
theorem d_House_piece_56 : decode b_House_piece 56 = .ok (.if_icmp .ne 7, 3) := by decide +kernel
theorem d_House_piece_59 : decode b_House_piece 59 = .ok (.iconst 1, 1) := by decide +kernel
theorem d_House_piece_60 : decode b_House_piece 60 = .ok (.goto 4, 3) := by decide +kernel
theorem d_House_piece_63 : decode b_House_piece 63 = .ok (.iconst 0, 1) := by decide +kernel
theorem d_House_piece_64 : decode b_House_piece 64 = .ok (.ireturn, 1) := by decide +kernel
theorem d_House_piece_65 : decode b_House_piece 65 = .ok (.iload_n 2, 1) := by decide +kernel
theorem d_House_piece_66 : decode b_House_piece 66 = .ok (.iconst 2, 1) := by decide +kernel
theorem d_House_piece_67 : decode b_House_piece 67 = .ok (.if_icmp .ge 7, 3) := by decide +kernel
theorem d_House_piece_70 : decode b_House_piece 70 = .ok (.iload_n 3, 1) := by decide +kernel
theorem d_House_piece_71 : decode b_House_piece 71 = .ok (.goto 5, 3) := by decide +kernel
theorem d_House_piece_74 : decode b_House_piece 74 = .ok (.iload 4, 2) := by decide +kernel
theorem d_House_piece_76 : decode b_House_piece 76 = .ok (.istore 5, 2) := by decide +kernel
theorem d_House_piece_78 : decode b_House_piece 78 = .ok (.iload_n 2, 1) := by decide +kernel
theorem d_House_piece_79 : decode b_House_piece 79 = .ok (.iconst 2, 1) := by decide +kernel
theorem d_House_piece_80 : decode b_House_piece 80 = .ok (.irem, 1) := by decide +kernel
theorem d_House_piece_81 : decode b_House_piece 81 = .ok (.ifCond .ne 14, 3) := by decide +kernel
theorem d_House_piece_84 : decode b_House_piece 84 = .ok (.iload 5, 2) := by decide +kernel
theorem d_House_piece_86 : decode b_House_piece 86 = .ok (.ifCond .lt 7, 3) := by decide +kernel
theorem d_House_piece_89 : decode b_House_piece 89 = .ok (.iconst 1, 1) := by decide +kernel
theorem d_House_piece_90 : decode b_House_piece 90 = .ok (.goto 4, 3) := by decide +kernel
theorem d_House_piece_93 : decode b_House_piece 93 = .ok (.iconst 0, 1) := by decide +kernel
theorem d_House_piece_94 : decode b_House_piece 94 = .ok (.ireturn, 1) := by decide +kernel
theorem d_House_piece_95 : decode b_House_piece 95 = .ok (.iload 5, 2) := by decide +kernel
theorem d_House_piece_97 : decode b_House_piece 97 = .ok (.ifCond .lt 10, 3) := by decide +kernel
theorem d_House_piece_100 : decode b_House_piece 100 = .ok (.iload 5, 2) := by decide +kernel
theorem d_House_piece_102 : decode b_House_piece 102 = .ok (.iconst 2, 1) := by decide +kernel
theorem d_House_piece_103 : decode b_House_piece 103 = .ok (.irem, 1) := by decide +kernel
theorem d_House_piece_104 : decode b_House_piece 104 = .ok (.goto 4, 3) := by decide +kernel
theorem d_House_piece_107 : decode b_House_piece 107 = .ok (.iconst 0, 1) := by decide +kernel
theorem d_House_piece_108 : decode b_House_piece 108 = .ok (.ireturn, 1) := by decide +kernel
abbrev b_House_edge : ByteArray := prog_1_method_16_code
def y_House_edge : MethodName := ⟨"RealHouse", "edge", "(III)I"⟩
abbrev w_House_edge : List Cond := .code y_House_edge b_House_edge 5 (some .int) :: lw_g
theorem g_House_edge : GoodIn lw_g w_House_edge := tb_good1 (tb_at (i := 1523) (by decide +kernel) rfl)
theorem d_House_edge_0 : decode b_House_edge 0 = .ok (.iload_n 1, 1) := by decide +kernel
theorem d_House_edge_1 : decode b_House_edge 1 = .ok (.ifCond .lt 20, 3) := by decide +kernel
theorem d_House_edge_4 : decode b_House_edge 4 = .ok (.iload_n 1, 1) := by decide +kernel
theorem d_House_edge_5 : decode b_House_edge 5 = .ok (.aload_n 0, 1) := by decide +kernel
theorem d_House_edge_6 : decode b_House_edge 6 = .ok (.getfield 277, 3) := by decide +kernel
theorem d_House_edge_9 : decode b_House_edge 9 = .ok (.if_icmp .ge 12, 3) := by decide +kernel
theorem d_House_edge_12 : decode b_House_edge 12 = .ok (.iload_n 2, 1) := by decide +kernel
theorem d_House_edge_13 : decode b_House_edge 13 = .ok (.ifCond .lt 8, 3) := by decide +kernel
theorem d_House_edge_16 : decode b_House_edge 16 = .ok (.iload_n 2, 1) := by decide +kernel
theorem d_House_edge_17 : decode b_House_edge 17 = .ok (.iconst 1, 1) := by decide +kernel
theorem d_House_edge_18 : decode b_House_edge 18 = .ok (.if_icmp .le 5, 3) := by decide +kernel
theorem d_House_edge_21 : decode b_House_edge 21 = .ok (.iconst (-1), 1) := by decide +kernel
theorem d_House_edge_22 : decode b_House_edge 22 = .ok (.ireturn, 1) := by decide +kernel
theorem d_House_edge_23 : decode b_House_edge 23 = .ok (.aload_n 0, 1) := by decide +kernel
theorem d_House_edge_24 : decode b_House_edge 24 = .ok (.getfield 40, 3) := by decide +kernel
theorem d_House_edge_27 : decode b_House_edge 27 = .ok (.iconst 2, 1) := by decide +kernel
theorem d_House_edge_28 : decode b_House_edge 28 = .ok (.iload_n 1, 1) := by decide +kernel
theorem d_House_edge_29 : decode b_House_edge 29 = .ok (.imul, 1) := by decide +kernel
theorem d_House_edge_30 : decode b_House_edge 30 = .ok (.iload_n 2, 1) := by decide +kernel
theorem d_House_edge_31 : decode b_House_edge 31 = .ok (.iadd, 1) := by decide +kernel
theorem d_House_edge_32 : decode b_House_edge 32 = .ok (.iaload, 1) := by decide +kernel
theorem d_House_edge_33 : decode b_House_edge 33 = .ok (.istore 4, 2) := by decide +kernel
theorem d_House_edge_35 : decode b_House_edge 35 = .ok (.iload 4, 2) := by decide +kernel
theorem d_House_edge_37 : decode b_House_edge 37 = .ok (.ifCond .lt 20, 3) := by decide +kernel
theorem d_House_edge_40 : decode b_House_edge 40 = .ok (.aload_n 0, 1) := by decide +kernel
theorem d_House_edge_41 : decode b_House_edge 41 = .ok (.aload_n 0, 1) := by decide +kernel
theorem d_House_edge_42 : decode b_House_edge 42 = .ok (.getfield 37, 3) := by decide +kernel
theorem d_House_edge_45 : decode b_House_edge 45 = .ok (.iload 4, 2) := by decide +kernel
theorem d_House_edge_47 : decode b_House_edge 47 = .ok (.iconst 2, 1) := by decide +kernel
theorem d_House_edge_48 : decode b_House_edge 48 = .ok (.idiv, 1) := by decide +kernel
theorem d_House_edge_49 : decode b_House_edge 49 = .ok (.aaload, 1) := by decide +kernel
theorem d_House_edge_50 : decode b_House_edge 50 = .ok (.iload_n 3, 1) := by decide +kernel
theorem d_House_edge_51 : decode b_House_edge 51 = .ok (.invokevirtual 193, 3) := by decide +kernel
theorem d_House_edge_54 : decode b_House_edge 54 = .ok (.goto 4, 3) := by decide +kernel
theorem d_House_edge_57 : decode b_House_edge 57 = .ok (.iconst (-1), 1) := by decide +kernel
theorem d_House_edge_58 : decode b_House_edge 58 = .ok (.ireturn, 1) := by decide +kernel
abbrev b_House_factor : ByteArray := prog_1_method_18_code
def y_House_factor : MethodName := ⟨"RealHouse", "factor", "(I)I"⟩
abbrev w_House_factor : List Cond := .code y_House_factor b_House_factor 2 (some .int) :: lw_g
theorem g_House_factor : GoodIn lw_g w_House_factor := tb_good1 (tb_at (i := 1532) (by decide +kernel) rfl)
theorem d_House_factor_0 : decode b_House_factor 0 = .ok (.iload_n 1, 1) := by decide +kernel
theorem d_House_factor_1 : decode b_House_factor 1 = .ok (.ifCond .lt 24, 3) := by decide +kernel
theorem d_House_factor_4 : decode b_House_factor 4 = .ok (.iload_n 1, 1) := by decide +kernel
theorem d_House_factor_5 : decode b_House_factor 5 = .ok (.aload_n 0, 1) := by decide +kernel
theorem d_House_factor_6 : decode b_House_factor 6 = .ok (.getfield 283, 3) := by decide +kernel
theorem d_House_factor_9 : decode b_House_factor 9 = .ok (.if_icmp .ge 16, 3) := by decide +kernel
theorem d_House_factor_12 : decode b_House_factor 12 = .ok (.aload_n 0, 1) := by decide +kernel
theorem d_House_factor_13 : decode b_House_factor 13 = .ok (.aload_n 0, 1) := by decide +kernel
theorem d_House_factor_14 : decode b_House_factor 14 = .ok (.getfield 45, 3) := by decide +kernel
theorem d_House_factor_17 : decode b_House_factor 17 = .ok (.iload_n 1, 1) := by decide +kernel
theorem d_House_factor_18 : decode b_House_factor 18 = .ok (.aaload, 1) := by decide +kernel
theorem d_House_factor_19 : decode b_House_factor 19 = .ok (.invokevirtual 291, 3) := by decide +kernel
theorem d_House_factor_22 : decode b_House_factor 22 = .ok (.goto 4, 3) := by decide +kernel
theorem d_House_factor_25 : decode b_House_factor 25 = .ok (.iconst (-1), 1) := by decide +kernel
theorem d_House_factor_26 : decode b_House_factor 26 = .ok (.ireturn, 1) := by decide +kernel
abbrev b_House_power : ByteArray := prog_1_method_19_code
def y_House_power : MethodName := ⟨"RealHouse", "power", "(I)I"⟩
abbrev w_House_power : List Cond := .code y_House_power b_House_power 2 (some .int) :: lw_g
theorem g_House_power : GoodIn lw_g w_House_power := tb_good1 (tb_at (i := 1540) (by decide +kernel) rfl)
theorem d_House_power_0 : decode b_House_power 0 = .ok (.iload_n 1, 1) := by decide +kernel
theorem d_House_power_1 : decode b_House_power 1 = .ok (.ifCond .lt 20, 3) := by decide +kernel
theorem d_House_power_4 : decode b_House_power 4 = .ok (.iload_n 1, 1) := by decide +kernel
theorem d_House_power_5 : decode b_House_power 5 = .ok (.aload_n 0, 1) := by decide +kernel
theorem d_House_power_6 : decode b_House_power 6 = .ok (.getfield 283, 3) := by decide +kernel
theorem d_House_power_9 : decode b_House_power 9 = .ok (.if_icmp .ge 12, 3) := by decide +kernel
theorem d_House_power_12 : decode b_House_power 12 = .ok (.aload_n 0, 1) := by decide +kernel
theorem d_House_power_13 : decode b_House_power 13 = .ok (.getfield 49, 3) := by decide +kernel
theorem d_House_power_16 : decode b_House_power 16 = .ok (.iload_n 1, 1) := by decide +kernel
theorem d_House_power_17 : decode b_House_power 17 = .ok (.iaload, 1) := by decide +kernel
theorem d_House_power_18 : decode b_House_power 18 = .ok (.goto 4, 3) := by decide +kernel
theorem d_House_power_21 : decode b_House_power 21 = .ok (.iconst (-1), 1) := by decide +kernel
theorem d_House_power_22 : decode b_House_power 22 = .ok (.ireturn, 1) := by decide +kernel
abbrev b_House_hold : ByteArray := prog_1_method_20_code
def y_House_hold : MethodName := ⟨"RealHouse", "hold", "(II)I"⟩
abbrev w_House_hold : List Cond := .code y_House_hold b_House_hold 3 (some .int) :: lw_g
theorem g_House_hold : GoodIn lw_g w_House_hold := tb_good1 (tb_at (i := 1544) (by decide +kernel) rfl)
theorem d_House_hold_0 : decode b_House_hold 0 = .ok (.iload_n 1, 1) := by decide +kernel
theorem d_House_hold_1 : decode b_House_hold 1 = .ok (.ifCond .lt 21, 3) := by decide +kernel
theorem d_House_hold_4 : decode b_House_hold 4 = .ok (.iload_n 1, 1) := by decide +kernel
theorem d_House_hold_5 : decode b_House_hold 5 = .ok (.bipush 8, 2) := by decide +kernel
theorem d_House_hold_7 : decode b_House_hold 7 = .ok (.if_icmp .ge 15, 3) := by decide +kernel
theorem d_House_hold_10 : decode b_House_hold 10 = .ok (.iload_n 2, 1) := by decide +kernel
theorem d_House_hold_11 : decode b_House_hold 11 = .ok (.ifCond .lt 11, 3) := by decide +kernel
theorem d_House_hold_14 : decode b_House_hold 14 = .ok (.iload_n 2, 1) := by decide +kernel
theorem d_House_hold_15 : decode b_House_hold 15 = .ok (.aload_n 0, 1) := by decide +kernel
theorem d_House_hold_16 : decode b_House_hold 16 = .ok (.getfield 180, 3) := by decide +kernel
theorem d_House_hold_19 : decode b_House_hold 19 = .ok (.if_icmp .lt 5, 3) := by decide +kernel
theorem d_House_hold_22 : decode b_House_hold 22 = .ok (.iconst (-1), 1) := by decide +kernel
theorem d_House_hold_23 : decode b_House_hold 23 = .ok (.ireturn, 1) := by decide +kernel
theorem d_House_hold_24 : decode b_House_hold 24 = .ok (.aload_n 0, 1) := by decide +kernel
theorem d_House_hold_25 : decode b_House_hold 25 = .ok (.aload_n 0, 1) := by decide +kernel
theorem d_House_hold_26 : decode b_House_hold 26 = .ok (.getfield 52, 3) := by decide +kernel
theorem d_House_hold_29 : decode b_House_hold 29 = .ok (.iload_n 1, 1) := by decide +kernel
theorem d_House_hold_30 : decode b_House_hold 30 = .ok (.aload_n 0, 1) := by decide +kernel
theorem d_House_hold_31 : decode b_House_hold 31 = .ok (.getfield 18, 3) := by decide +kernel
theorem d_House_hold_34 : decode b_House_hold 34 = .ok (.iload_n 2, 1) := by decide +kernel
theorem d_House_hold_35 : decode b_House_hold 35 = .ok (.aaload, 1) := by decide +kernel
theorem d_House_hold_36 : decode b_House_hold 36 = .ok (.invokevirtual 186, 3) := by decide +kernel
theorem d_House_hold_39 : decode b_House_hold 39 = .ok (.aload_n 0, 1) := by decide +kernel
theorem d_House_hold_40 : decode b_House_hold 40 = .ok (.getfield 18, 3) := by decide +kernel
theorem d_House_hold_43 : decode b_House_hold 43 = .ok (.iload_n 2, 1) := by decide +kernel
theorem d_House_hold_44 : decode b_House_hold 44 = .ok (.aaload, 1) := by decide +kernel
theorem d_House_hold_45 : decode b_House_hold 45 = .ok (.getfield 294, 3) := by decide +kernel
theorem d_House_hold_48 : decode b_House_hold 48 = .ok (.getfield 297, 3) := by decide +kernel
theorem d_House_hold_51 : decode b_House_hold 51 = .ok (.iconst 1, 1) := by decide +kernel
theorem d_House_hold_52 : decode b_House_hold 52 = .ok (.isub, 1) := by decide +kernel
theorem d_House_hold_53 : decode b_House_hold 53 = .ok (.ireturn, 1) := by decide +kernel
abbrev b_House_reckon : ByteArray := prog_1_method_21_code
def y_House_reckon : MethodName := ⟨"RealHouse", "reckon", "(IIII)I"⟩
abbrev w_House_reckon : List Cond := .code y_House_reckon b_House_reckon 10 (some .int) :: lw_g
theorem g_House_reckon : GoodIn lw_g w_House_reckon := tb_good1 (tb_at (i := 1548) (by decide +kernel) rfl)
theorem d_House_reckon_0 : decode b_House_reckon 0 = .ok (.iload_n 1, 1) := by decide +kernel
theorem d_House_reckon_1 : decode b_House_reckon 1 = .ok (.ifCond .lt 35, 3) := by decide +kernel
theorem d_House_reckon_4 : decode b_House_reckon 4 = .ok (.iload_n 1, 1) := by decide +kernel
theorem d_House_reckon_5 : decode b_House_reckon 5 = .ok (.bipush 8, 2) := by decide +kernel
theorem d_House_reckon_7 : decode b_House_reckon 7 = .ok (.if_icmp .ge 29, 3) := by decide +kernel
theorem d_House_reckon_10 : decode b_House_reckon 10 = .ok (.iload_n 2, 1) := by decide +kernel
theorem d_House_reckon_11 : decode b_House_reckon 11 = .ok (.ifCond .lt 25, 3) := by decide +kernel
theorem d_House_reckon_14 : decode b_House_reckon 14 = .ok (.iload_n 2, 1) := by decide +kernel
theorem d_House_reckon_15 : decode b_House_reckon 15 = .ok (.iconst 3, 1) := by decide +kernel
theorem d_House_reckon_16 : decode b_House_reckon 16 = .ok (.if_icmp .gt 20, 3) := by decide +kernel
theorem d_House_reckon_19 : decode b_House_reckon 19 = .ok (.aload_n 0, 1) := by decide +kernel
theorem d_House_reckon_20 : decode b_House_reckon 20 = .ok (.iload_n 3, 1) := by decide +kernel
theorem d_House_reckon_21 : decode b_House_reckon 21 = .ok (.invokevirtual 300, 3) := by decide +kernel
theorem d_House_reckon_24 : decode b_House_reckon 24 = .ok (.ifCond .ne 12, 3) := by decide +kernel
theorem d_House_reckon_27 : decode b_House_reckon 27 = .ok (.aload_n 0, 1) := by decide +kernel
theorem d_House_reckon_28 : decode b_House_reckon 28 = .ok (.iload 4, 2) := by decide +kernel
theorem d_House_reckon_30 : decode b_House_reckon 30 = .ok (.invokevirtual 300, 3) := by decide +kernel
theorem d_House_reckon_33 : decode b_House_reckon 33 = .ok (.ifCond .eq 5, 3) := by decide +kernel
theorem d_House_reckon_36 : decode b_House_reckon 36 = .ok (.iconst (-1), 1) := by decide +kernel
theorem d_House_reckon_37 : decode b_House_reckon 37 = .ok (.ireturn, 1) := by decide +kernel
theorem d_House_reckon_38 : decode b_House_reckon 38 = .ok (.aload_n 0, 1) := by decide +kernel
theorem d_House_reckon_39 : decode b_House_reckon 39 = .ok (.getfield 52, 3) := by decide +kernel
theorem d_House_reckon_42 : decode b_House_reckon 42 = .ok (.iload_n 3, 1) := by decide +kernel
theorem d_House_reckon_43 : decode b_House_reckon 43 = .ok (.aaload, 1) := by decide +kernel
theorem d_House_reckon_44 : decode b_House_reckon 44 = .ok (.astore 5, 2) := by decide +kernel
theorem d_House_reckon_46 : decode b_House_reckon 46 = .ok (.aload_n 0, 1) := by decide +kernel
theorem d_House_reckon_47 : decode b_House_reckon 47 = .ok (.getfield 52, 3) := by decide +kernel
theorem d_House_reckon_50 : decode b_House_reckon 50 = .ok (.iload 4, 2) := by decide +kernel
theorem d_House_reckon_52 : decode b_House_reckon 52 = .ok (.aaload, 1) := by decide +kernel
theorem d_House_reckon_53 : decode b_House_reckon 53 = .ok (.astore 6, 2) := by decide +kernel
theorem d_House_reckon_55 : decode b_House_reckon 55 = .ok (.iload_n 2, 1) := by decide +kernel
theorem d_House_reckon_56 : decode b_House_reckon 56 = .ok (.iconst 3, 1) := by decide +kernel
theorem d_House_reckon_57 : decode b_House_reckon 57 = .ok (.if_icmp .ne 11, 3) := by decide +kernel
theorem d_House_reckon_60 : decode b_House_reckon 60 = .ok (.aload 6, 2) := by decide +kernel
theorem d_House_reckon_62 : decode b_House_reckon 62 = .ok (.invokevirtual 303, 3) := by decide +kernel
theorem d_House_reckon_65 : decode b_House_reckon 65 = .ok (.ifCond .ne 29, 3) := by decide +kernel
theorem d_House_reckon_68 : decode b_House_reckon 68 = .ok (.aload 5, 2) := by decide +kernel
theorem d_House_reckon_70 : decode b_House_reckon 70 = .ok (.getfield 294, 3) := by decide +kernel
theorem d_House_reckon_73 : decode b_House_reckon 73 = .ok (.getfield 297, 3) := by decide +kernel
theorem d_House_reckon_76 : decode b_House_reckon 76 = .ok (.iconst 1, 1) := by decide +kernel
theorem d_House_reckon_77 : decode b_House_reckon 77 = .ok (.isub, 1) := by decide +kernel
theorem d_House_reckon_78 : decode b_House_reckon 78 = .ok (.aload 6, 2) := by decide +kernel
theorem d_House_reckon_80 : decode b_House_reckon 80 = .ok (.getfield 294, 3) := by decide +kernel
theorem d_House_reckon_83 : decode b_House_reckon 83 = .ok (.getfield 297, 3) := by decide +kernel
theorem d_House_reckon_86 : decode b_House_reckon 86 = .ok (.iconst 1, 1) := by decide +kernel
theorem d_House_reckon_87 : decode b_House_reckon 87 = .ok (.isub, 1) := by decide +kernel
theorem d_House_reckon_88 : decode b_House_reckon 88 = .ok (.imul, 1) := by decide +kernel
theorem d_House_reckon_89 : decode b_House_reckon 89 = .ok (.bipush 8, 2) := by decide +kernel
theorem d_House_reckon_91 : decode b_House_reckon 91 = .ok (.if_icmp .le 5, 3) := by decide +kernel
theorem d_House_reckon_94 : decode b_House_reckon 94 = .ok (.iconst (-1), 1) := by decide +kernel
theorem d_House_reckon_95 : decode b_House_reckon 95 = .ok (.ireturn, 1) := by decide +kernel
theorem d_House_reckon_96 : decode b_House_reckon 96 = .ok (.aload_n 0, 1) := by decide +kernel
theorem d_House_reckon_97 : decode b_House_reckon 97 = .ok (.getfield 74, 3) := by decide +kernel
theorem d_House_reckon_100 : decode b_House_reckon 100 = .ok (.iload_n 2, 1) := by decide +kernel
theorem d_House_reckon_101 : decode b_House_reckon 101 = .ok (.aload 5, 2) := by decide +kernel
theorem d_House_reckon_103 : decode b_House_reckon 103 = .ok (.getfield 294, 3) := by decide +kernel
theorem d_House_reckon_106 : decode b_House_reckon 106 = .ok (.aload 6, 2) := by decide +kernel
theorem d_House_reckon_108 : decode b_House_reckon 108 = .ok (.getfield 294, 3) := by decide +kernel
theorem d_House_reckon_111 : decode b_House_reckon 111 = .ok (.invokevirtual 306, 3) := by decide +kernel
theorem d_House_reckon_114 : decode b_House_reckon 114 = .ok (.astore 7, 2) := by decide +kernel
theorem d_House_reckon_116 : decode b_House_reckon 116 = .ok (.aload 5, 2) := by decide +kernel
theorem d_House_reckon_118 : decode b_House_reckon 118 = .ok (.getfield 294, 3) := by decide +kernel
theorem d_House_reckon_121 : decode b_House_reckon 121 = .ok (.getfield 297, 3) := by decide +kernel
theorem d_House_reckon_124 : decode b_House_reckon 124 = .ok (.iconst 2, 1) := by decide +kernel
theorem d_House_reckon_125 : decode b_House_reckon 125 = .ok (.if_icmp .eq 15, 3) := by decide +kernel
theorem d_House_reckon_128 : decode b_House_reckon 128 = .ok (.aload 6, 2) := by decide +kernel
theorem d_House_reckon_130 : decode b_House_reckon 130 = .ok (.getfield 294, 3) := by decide +kernel
theorem d_House_reckon_133 : decode b_House_reckon 133 = .ok (.getfield 297, 3) := by decide +kernel
theorem d_House_reckon_136 : decode b_House_reckon 136 = .ok (.iconst 2, 1) := by decide +kernel
theorem d_House_reckon_137 : decode b_House_reckon 137 = .ok (.if_icmp .ne 7, 3) := by decide +kernel
theorem d_House_reckon_140 : decode b_House_reckon 140 = .ok (.iconst 1, 1) := by decide +kernel
theorem d_House_reckon_141 : decode b_House_reckon 141 = .ok (.goto 4, 3) := by decide +kernel
theorem d_House_reckon_144 : decode b_House_reckon 144 = .ok (.iconst 0, 1) := by decide +kernel
theorem d_House_reckon_145 : decode b_House_reckon 145 = .ok (.istore 8, 2) := by decide +kernel
theorem d_House_reckon_147 : decode b_House_reckon 147 = .ok (.aload_n 0, 1) := by decide +kernel
theorem d_House_reckon_148 : decode b_House_reckon 148 = .ok (.getfield 74, 3) := by decide +kernel
theorem d_House_reckon_151 : decode b_House_reckon 151 = .ok (.invokevirtual 161, 3) := by decide +kernel
theorem d_House_reckon_154 : decode b_House_reckon 154 = .ok (.iload 8, 2) := by decide +kernel
theorem d_House_reckon_156 : decode b_House_reckon 156 = .ok (.ifCond .eq 34, 3) := by decide +kernel
theorem d_House_reckon_159 : decode b_House_reckon 159 = .ok (.aload 5, 2) := by decide +kernel
theorem d_House_reckon_161 : decode b_House_reckon 161 = .ok (.invokevirtual 303, 3) := by decide +kernel
theorem d_House_reckon_164 : decode b_House_reckon 164 = .ok (.ifCond .ne 26, 3) := by decide +kernel
theorem d_House_reckon_167 : decode b_House_reckon 167 = .ok (.aload 6, 2) := by decide +kernel
theorem d_House_reckon_169 : decode b_House_reckon 169 = .ok (.invokevirtual 303, 3) := by decide +kernel
theorem d_House_reckon_172 : decode b_House_reckon 172 = .ok (.ifCond .ne 18, 3) := by decide +kernel
theorem d_House_reckon_175 : decode b_House_reckon 175 = .ok (.aload_n 0, 1) := by decide +kernel
theorem d_House_reckon_176 : decode b_House_reckon 176 = .ok (.getfield 74, 3) := by decide +kernel
theorem d_House_reckon_179 : decode b_House_reckon 179 = .ok (.getfield 162, 3) := by decide +kernel
theorem d_House_reckon_182 : decode b_House_reckon 182 = .ok (.aload 7, 2) := by decide +kernel
theorem d_House_reckon_184 : decode b_House_reckon 184 = .ok (.invokevirtual 310, 3) := by decide +kernel
theorem d_House_reckon_187 : decode b_House_reckon 187 = .ok (.goto 15, 3) := by decide +kernel
theorem d_House_reckon_190 : decode b_House_reckon 190 = .ok (.aload_n 0, 1) := by decide +kernel
theorem d_House_reckon_191 : decode b_House_reckon 191 = .ok (.getfield 74, 3) := by decide +kernel
theorem d_House_reckon_194 : decode b_House_reckon 194 = .ok (.getfield 162, 3) := by decide +kernel
theorem d_House_reckon_197 : decode b_House_reckon 197 = .ok (.aload 7, 2) := by decide +kernel
theorem d_House_reckon_199 : decode b_House_reckon 199 = .ok (.invokevirtual 166, 3) := by decide +kernel
theorem d_House_reckon_202 : decode b_House_reckon 202 = .ok (.aload_n 0, 1) := by decide +kernel
theorem d_House_reckon_203 : decode b_House_reckon 203 = .ok (.getfield 74, 3) := by decide +kernel
theorem d_House_reckon_206 : decode b_House_reckon 206 = .ok (.invokevirtual 171, 3) := by decide +kernel
theorem d_House_reckon_209 : decode b_House_reckon 209 = .ok (.aload_n 0, 1) := by decide +kernel
theorem d_House_reckon_210 : decode b_House_reckon 210 = .ok (.getfield 74, 3) := by decide +kernel
theorem d_House_reckon_213 : decode b_House_reckon 213 = .ok (.invokevirtual 174, 3) := by decide +kernel
theorem d_House_reckon_216 : decode b_House_reckon 216 = .ok (.aload_n 0, 1) := by decide +kernel
theorem d_House_reckon_217 : decode b_House_reckon 217 = .ok (.getfield 74, 3) := by decide +kernel
theorem d_House_reckon_220 : decode b_House_reckon 220 = .ok (.iload_n 2, 1) := by decide +kernel
theorem d_House_reckon_221 : decode b_House_reckon 221 = .ok (.aload 5, 2) := by decide +kernel
theorem d_House_reckon_223 : decode b_House_reckon 223 = .ok (.aload 6, 2) := by decide +kernel
theorem d_House_reckon_225 : decode b_House_reckon 225 = .ok (.invokevirtual 313, 3) := by decide +kernel
theorem d_House_reckon_228 : decode b_House_reckon 228 = .ok (.istore 9, 2) := by decide +kernel
theorem d_House_reckon_230 : decode b_House_reckon 230 = .ok (.iload 9, 2) := by decide +kernel
theorem d_House_reckon_232 : decode b_House_reckon 232 = .ok (.ifCond .lt 34, 3) := by decide +kernel
theorem d_House_reckon_235 : decode b_House_reckon 235 = .ok (.iload 9, 2) := by decide +kernel
theorem d_House_reckon_237 : decode b_House_reckon 237 = .ok (.aload_n 0, 1) := by decide +kernel
theorem d_House_reckon_238 : decode b_House_reckon 238 = .ok (.getfield 74, 3) := by decide +kernel
theorem d_House_reckon_241 : decode b_House_reckon 241 = .ok (.getfield 177, 3) := by decide +kernel
theorem d_House_reckon_244 : decode b_House_reckon 244 = .ok (.if_icmp .ge 22, 3) := by decide +kernel
theorem d_House_reckon_247 : decode b_House_reckon 247 = .ok (.aload_n 0, 1) := by decide +kernel
theorem d_House_reckon_248 : decode b_House_reckon 248 = .ok (.getfield 74, 3) := by decide +kernel
theorem d_House_reckon_251 : decode b_House_reckon 251 = .ok (.getfield 183, 3) := by decide +kernel
theorem d_House_reckon_254 : decode b_House_reckon 254 = .ok (.iload 9, 2) := by decide +kernel
theorem d_House_reckon_256 : decode b_House_reckon 256 = .ok (.aaload, 1) := by decide +kernel
theorem d_House_reckon_257 : decode b_House_reckon 257 = .ok (.getfield 294, 3) := by decide +kernel
theorem d_House_reckon_260 : decode b_House_reckon 260 = .ok (.invokevirtual 317, 3) := by decide +kernel
theorem d_House_reckon_263 : decode b_House_reckon 263 = .ok (.ifCond .eq 5, 3) := by decide +kernel
theorem d_House_reckon_266 : decode b_House_reckon 266 = .ok (.iconst (-1), 1) := by decide +kernel
theorem d_House_reckon_267 : decode b_House_reckon 267 = .ok (.ireturn, 1) := by decide +kernel
theorem d_House_reckon_268 : decode b_House_reckon 268 = .ok (.aload_n 0, 1) := by decide +kernel
theorem d_House_reckon_269 : decode b_House_reckon 269 = .ok (.aload_n 0, 1) := by decide +kernel
theorem d_House_reckon_270 : decode b_House_reckon 270 = .ok (.getfield 52, 3) := by decide +kernel
theorem d_House_reckon_273 : decode b_House_reckon 273 = .ok (.iload_n 1, 1) := by decide +kernel
theorem d_House_reckon_274 : decode b_House_reckon 274 = .ok (.aload_n 0, 1) := by decide +kernel
theorem d_House_reckon_275 : decode b_House_reckon 275 = .ok (.getfield 74, 3) := by decide +kernel
theorem d_House_reckon_278 : decode b_House_reckon 278 = .ok (.getfield 183, 3) := by decide +kernel
theorem d_House_reckon_281 : decode b_House_reckon 281 = .ok (.iload 9, 2) := by decide +kernel
theorem d_House_reckon_283 : decode b_House_reckon 283 = .ok (.aaload, 1) := by decide +kernel
theorem d_House_reckon_284 : decode b_House_reckon 284 = .ok (.invokevirtual 186, 3) := by decide +kernel
theorem d_House_reckon_287 : decode b_House_reckon 287 = .ok (.aload_n 0, 1) := by decide +kernel
theorem d_House_reckon_288 : decode b_House_reckon 288 = .ok (.getfield 52, 3) := by decide +kernel
theorem d_House_reckon_291 : decode b_House_reckon 291 = .ok (.iload_n 1, 1) := by decide +kernel
theorem d_House_reckon_292 : decode b_House_reckon 292 = .ok (.aaload, 1) := by decide +kernel
theorem d_House_reckon_293 : decode b_House_reckon 293 = .ok (.getfield 294, 3) := by decide +kernel
theorem d_House_reckon_296 : decode b_House_reckon 296 = .ok (.getfield 297, 3) := by decide +kernel
theorem d_House_reckon_299 : decode b_House_reckon 299 = .ok (.iconst 1, 1) := by decide +kernel
theorem d_House_reckon_300 : decode b_House_reckon 300 = .ok (.isub, 1) := by decide +kernel
theorem d_House_reckon_301 : decode b_House_reckon 301 = .ok (.ireturn, 1) := by decide +kernel
abbrev b_House_least : ByteArray := prog_1_method_22_code
def y_House_least : MethodName := ⟨"RealHouse", "least", "(I)I"⟩
abbrev w_House_least : List Cond := .code y_House_least b_House_least 2 (some .int) :: lw_g
theorem g_House_least : GoodIn lw_g w_House_least := tb_good1 (tb_at (i := 1584) (by decide +kernel) rfl)
theorem d_House_least_0 : decode b_House_least 0 = .ok (.aload_n 0, 1) := by decide +kernel
theorem d_House_least_1 : decode b_House_least 1 = .ok (.iload_n 1, 1) := by decide +kernel
theorem d_House_least_2 : decode b_House_least 2 = .ok (.invokevirtual 300, 3) := by decide +kernel
theorem d_House_least_5 : decode b_House_least 5 = .ok (.ifCond .eq 7, 3) := by decide +kernel
theorem d_House_least_8 : decode b_House_least 8 = .ok (.iconst (-1), 1) := by decide +kernel
theorem d_House_least_9 : decode b_House_least 9 = .ok (.goto 16, 3) := by decide +kernel
theorem d_House_least_12 : decode b_House_least 12 = .ok (.aload_n 0, 1) := by decide +kernel
theorem d_House_least_13 : decode b_House_least 13 = .ok (.aload_n 0, 1) := by decide +kernel
theorem d_House_least_14 : decode b_House_least 14 = .ok (.getfield 52, 3) := by decide +kernel
theorem d_House_least_17 : decode b_House_least 17 = .ok (.iload_n 1, 1) := by decide +kernel
theorem d_House_least_18 : decode b_House_least 18 = .ok (.aaload, 1) := by decide +kernel
theorem d_House_least_19 : decode b_House_least 19 = .ok (.getfield 294, 3) := by decide +kernel
theorem d_House_least_22 : decode b_House_least 22 = .ok (.invokevirtual 291, 3) := by decide +kernel
theorem d_House_least_25 : decode b_House_least 25 = .ok (.ireturn, 1) := by decide +kernel
abbrev b_House_number : ByteArray := prog_1_method_23_code
def y_House_number : MethodName := ⟨"RealHouse", "number", "(II)I"⟩
abbrev w_House_number : List Cond := .code y_House_number b_House_number 3 (some .int) :: lw_g
theorem g_House_number : GoodIn lw_g w_House_number := tb_good1 (tb_at (i := 1588) (by decide +kernel) rfl)
theorem d_House_number_0 : decode b_House_number 0 = .ok (.aload_n 0, 1) := by decide +kernel
theorem d_House_number_1 : decode b_House_number 1 = .ok (.iload_n 1, 1) := by decide +kernel
theorem d_House_number_2 : decode b_House_number 2 = .ok (.invokevirtual 300, 3) := by decide +kernel
theorem d_House_number_5 : decode b_House_number 5 = .ok (.ifCond .eq 7, 3) := by decide +kernel
theorem d_House_number_8 : decode b_House_number 8 = .ok (.iconst (-1), 1) := by decide +kernel
theorem d_House_number_9 : decode b_House_number 9 = .ok (.goto 14, 3) := by decide +kernel
theorem d_House_number_12 : decode b_House_number 12 = .ok (.aload_n 0, 1) := by decide +kernel
theorem d_House_number_13 : decode b_House_number 13 = .ok (.aload_n 0, 1) := by decide +kernel
theorem d_House_number_14 : decode b_House_number 14 = .ok (.getfield 52, 3) := by decide +kernel
theorem d_House_number_17 : decode b_House_number 17 = .ok (.iload_n 1, 1) := by decide +kernel
theorem d_House_number_18 : decode b_House_number 18 = .ok (.aaload, 1) := by decide +kernel
theorem d_House_number_19 : decode b_House_number 19 = .ok (.iload_n 2, 1) := by decide +kernel
theorem d_House_number_20 : decode b_House_number 20 = .ok (.invokevirtual 193, 3) := by decide +kernel
theorem d_House_number_23 : decode b_House_number 23 = .ok (.ireturn, 1) := by decide +kernel
abbrev b_House_compare : ByteArray := prog_1_method_24_code
def y_House_compare : MethodName := ⟨"RealHouse", "compare", "(II)I"⟩
abbrev w_House_compare : List Cond := .code y_House_compare b_House_compare 3 (some .int) :: lw_g
theorem g_House_compare : GoodIn lw_g w_House_compare := tb_good1 (tb_at (i := 1592) (by decide +kernel) rfl)
theorem d_House_compare_0 : decode b_House_compare 0 = .ok (.aload_n 0, 1) := by decide +kernel
theorem d_House_compare_1 : decode b_House_compare 1 = .ok (.iload_n 1, 1) := by decide +kernel
theorem d_House_compare_2 : decode b_House_compare 2 = .ok (.invokevirtual 300, 3) := by decide +kernel
theorem d_House_compare_5 : decode b_House_compare 5 = .ok (.ifCond .ne 11, 3) := by decide +kernel
theorem d_House_compare_8 : decode b_House_compare 8 = .ok (.aload_n 0, 1) := by decide +kernel
theorem d_House_compare_9 : decode b_House_compare 9 = .ok (.iload_n 2, 1) := by decide +kernel
theorem d_House_compare_10 : decode b_House_compare 10 = .ok (.invokevirtual 300, 3) := by decide +kernel
theorem d_House_compare_13 : decode b_House_compare 13 = .ok (.ifCond .eq 7, 3) := by decide +kernel
theorem d_House_compare_16 : decode b_House_compare 16 = .ok (.iconst (-1), 1) := by decide +kernel
theorem d_House_compare_17 : decode b_House_compare 17 = .ok (.goto 20, 3) := by decide +kernel
theorem d_House_compare_20 : decode b_House_compare 20 = .ok (.iconst 1, 1) := by decide +kernel
theorem d_House_compare_21 : decode b_House_compare 21 = .ok (.aload_n 0, 1) := by decide +kernel
theorem d_House_compare_22 : decode b_House_compare 22 = .ok (.getfield 52, 3) := by decide +kernel
theorem d_House_compare_25 : decode b_House_compare 25 = .ok (.iload_n 1, 1) := by decide +kernel
theorem d_House_compare_26 : decode b_House_compare 26 = .ok (.aaload, 1) := by decide +kernel
theorem d_House_compare_27 : decode b_House_compare 27 = .ok (.aload_n 0, 1) := by decide +kernel
theorem d_House_compare_28 : decode b_House_compare 28 = .ok (.getfield 52, 3) := by decide +kernel
theorem d_House_compare_31 : decode b_House_compare 31 = .ok (.iload_n 2, 1) := by decide +kernel
theorem d_House_compare_32 : decode b_House_compare 32 = .ok (.aaload, 1) := by decide +kernel
theorem d_House_compare_33 : decode b_House_compare 33 = .ok (.invokevirtual 201, 3) := by decide +kernel
theorem d_House_compare_36 : decode b_House_compare 36 = .ok (.iadd, 1) := by decide +kernel
theorem d_House_compare_37 : decode b_House_compare 37 = .ok (.ireturn, 1) := by decide +kernel
abbrev b_House_out : ByteArray := prog_1_method_3_code
def y_House_out : MethodName := ⟨"RealHouse", "out", "(I)I"⟩
abbrev w_House_out : List Cond := .code y_House_out b_House_out 2 (some .int) :: lw_g
theorem g_House_out : GoodIn lw_g w_House_out := tb_good1 (tb_at (i := 690) (by decide +kernel) rfl)
theorem d_House_out_0 : decode b_House_out 0 = .ok (.iload_n 1, 1) := by decide +kernel
theorem d_House_out_1 : decode b_House_out 1 = .ok (.iconst (-1), 1) := by decide +kernel
theorem d_House_out_2 : decode b_House_out 2 = .ok (.if_icmp .ne 8, 3) := by decide +kernel
theorem d_House_out_5 : decode b_House_out 5 = .ok (.aload_n 0, 1) := by decide +kernel
theorem d_House_out_6 : decode b_House_out 6 = .ok (.getfield 86, 3) := by decide +kernel
theorem d_House_out_9 : decode b_House_out 9 = .ok (.ireturn, 1) := by decide +kernel
theorem d_House_out_10 : decode b_House_out 10 = .ok (.iload_n 1, 1) := by decide +kernel
theorem d_House_out_11 : decode b_House_out 11 = .ok (.ifCond .lt 20, 3) := by decide +kernel
theorem d_House_out_14 : decode b_House_out 14 = .ok (.iload_n 1, 1) := by decide +kernel
theorem d_House_out_15 : decode b_House_out 15 = .ok (.aload_n 0, 1) := by decide +kernel
theorem d_House_out_16 : decode b_House_out 16 = .ok (.getfield 86, 3) := by decide +kernel
theorem d_House_out_19 : decode b_House_out 19 = .ok (.if_icmp .ge 12, 3) := by decide +kernel
theorem d_House_out_22 : decode b_House_out 22 = .ok (.aload_n 0, 1) := by decide +kernel
theorem d_House_out_23 : decode b_House_out 23 = .ok (.getfield 13, 3) := by decide +kernel
theorem d_House_out_26 : decode b_House_out 26 = .ok (.iload_n 1, 1) := by decide +kernel
theorem d_House_out_27 : decode b_House_out 27 = .ok (.iaload, 1) := by decide +kernel
theorem d_House_out_28 : decode b_House_out 28 = .ok (.goto 4, 3) := by decide +kernel
theorem d_House_out_31 : decode b_House_out 31 = .ok (.iconst (-1), 1) := by decide +kernel
theorem d_House_out_32 : decode b_House_out 32 = .ok (.ireturn, 1) := by decide +kernel
abbrev b_House_roots : ByteArray := prog_1_method_5_code
def y_House_roots : MethodName := ⟨"RealHouse", "roots", "(I)I"⟩
abbrev w_House_roots : List Cond := .code y_House_roots b_House_roots 4 (some .int) :: lw_g
theorem g_House_roots : GoodIn lw_g w_House_roots := tb_good1 (tb_at (i := 945) (by decide +kernel) rfl)
theorem d_House_roots_0 : decode b_House_roots 0 = .ok (.aload_n 0, 1) := by decide +kernel
theorem d_House_roots_1 : decode b_House_roots 1 = .ok (.iload_n 1, 1) := by decide +kernel
theorem d_House_roots_2 : decode b_House_roots 2 = .ok (.iconst 1, 1) := by decide +kernel
theorem d_House_roots_3 : decode b_House_roots 3 = .ok (.invokevirtual 157, 3) := by decide +kernel
theorem d_House_roots_6 : decode b_House_roots 6 = .ok (.istore_n 2, 1) := by decide +kernel
theorem d_House_roots_7 : decode b_House_roots 7 = .ok (.iload_n 2, 1) := by decide +kernel
theorem d_House_roots_8 : decode b_House_roots 8 = .ok (.ifCond .ge 5, 3) := by decide +kernel
theorem d_House_roots_11 : decode b_House_roots 11 = .ok (.iload_n 2, 1) := by decide +kernel
theorem d_House_roots_12 : decode b_House_roots 12 = .ok (.ireturn, 1) := by decide +kernel
theorem d_House_roots_13 : decode b_House_roots 13 = .ok (.aload_n 0, 1) := by decide +kernel
theorem d_House_roots_14 : decode b_House_roots 14 = .ok (.getfield 74, 3) := by decide +kernel
theorem d_House_roots_17 : decode b_House_roots 17 = .ok (.invokevirtual 161, 3) := by decide +kernel
theorem d_House_roots_20 : decode b_House_roots 20 = .ok (.aload_n 0, 1) := by decide +kernel
theorem d_House_roots_21 : decode b_House_roots 21 = .ok (.getfield 74, 3) := by decide +kernel
theorem d_House_roots_24 : decode b_House_roots 24 = .ok (.getfield 162, 3) := by decide +kernel
theorem d_House_roots_27 : decode b_House_roots 27 = .ok (.aload_n 0, 1) := by decide +kernel
theorem d_House_roots_28 : decode b_House_roots 28 = .ok (.getfield 67, 3) := by decide +kernel
theorem d_House_roots_31 : decode b_House_roots 31 = .ok (.getfield 111, 3) := by decide +kernel
theorem d_House_roots_34 : decode b_House_roots 34 = .ok (.getfield 115, 3) := by decide +kernel
theorem d_House_roots_37 : decode b_House_roots 37 = .ok (.iconst 0, 1) := by decide +kernel
theorem d_House_roots_38 : decode b_House_roots 38 = .ok (.aaload, 1) := by decide +kernel
theorem d_House_roots_39 : decode b_House_roots 39 = .ok (.invokevirtual 166, 3) := by decide +kernel
theorem d_House_roots_42 : decode b_House_roots 42 = .ok (.aload_n 0, 1) := by decide +kernel
theorem d_House_roots_43 : decode b_House_roots 43 = .ok (.getfield 74, 3) := by decide +kernel
theorem d_House_roots_46 : decode b_House_roots 46 = .ok (.invokevirtual 171, 3) := by decide +kernel
theorem d_House_roots_49 : decode b_House_roots 49 = .ok (.aload_n 0, 1) := by decide +kernel
theorem d_House_roots_50 : decode b_House_roots 50 = .ok (.getfield 74, 3) := by decide +kernel
theorem d_House_roots_53 : decode b_House_roots 53 = .ok (.invokevirtual 174, 3) := by decide +kernel
theorem d_House_roots_56 : decode b_House_roots 56 = .ok (.aload_n 0, 1) := by decide +kernel
theorem d_House_roots_57 : decode b_House_roots 57 = .ok (.aload_n 0, 1) := by decide +kernel
theorem d_House_roots_58 : decode b_House_roots 58 = .ok (.getfield 74, 3) := by decide +kernel
theorem d_House_roots_61 : decode b_House_roots 61 = .ok (.getfield 177, 3) := by decide +kernel
theorem d_House_roots_64 : decode b_House_roots 64 = .ok (.putfield 180, 3) := by decide +kernel
theorem d_House_roots_67 : decode b_House_roots 67 = .ok (.iconst 0, 1) := by decide +kernel
theorem d_House_roots_68 : decode b_House_roots 68 = .ok (.istore_n 3, 1) := by decide +kernel
theorem d_House_roots_69 : decode b_House_roots 69 = .ok (.iload_n 3, 1) := by decide +kernel
theorem d_House_roots_70 : decode b_House_roots 70 = .ok (.aload_n 0, 1) := by decide +kernel
theorem d_House_roots_71 : decode b_House_roots 71 = .ok (.getfield 180, 3) := by decide +kernel
theorem d_House_roots_74 : decode b_House_roots 74 = .ok (.if_icmp .ge 42, 3) := by decide +kernel
theorem d_House_roots_77 : decode b_House_roots 77 = .ok (.aload_n 0, 1) := by decide +kernel
theorem d_House_roots_78 : decode b_House_roots 78 = .ok (.aload_n 0, 1) := by decide +kernel
theorem d_House_roots_79 : decode b_House_roots 79 = .ok (.getfield 18, 3) := by decide +kernel
theorem d_House_roots_82 : decode b_House_roots 82 = .ok (.iload_n 3, 1) := by decide +kernel
theorem d_House_roots_83 : decode b_House_roots 83 = .ok (.aload_n 0, 1) := by decide +kernel
theorem d_House_roots_84 : decode b_House_roots 84 = .ok (.getfield 74, 3) := by decide +kernel
theorem d_House_roots_87 : decode b_House_roots 87 = .ok (.getfield 183, 3) := by decide +kernel
theorem d_House_roots_90 : decode b_House_roots 90 = .ok (.iload_n 3, 1) := by decide +kernel
theorem d_House_roots_91 : decode b_House_roots 91 = .ok (.aaload, 1) := by decide +kernel
theorem d_House_roots_92 : decode b_House_roots 92 = .ok (.invokevirtual 186, 3) := by decide +kernel
theorem d_House_roots_95 : decode b_House_roots 95 = .ok (.aload_n 0, 1) := by decide +kernel
theorem d_House_roots_96 : decode b_House_roots 96 = .ok (.getfield 22, 3) := by decide +kernel
theorem d_House_roots_99 : decode b_House_roots 99 = .ok (.iload_n 3, 1) := by decide +kernel
theorem d_House_roots_100 : decode b_House_roots 100 = .ok (.aload_n 0, 1) := by decide +kernel
theorem d_House_roots_101 : decode b_House_roots 101 = .ok (.getfield 74, 3) := by decide +kernel
theorem d_House_roots_104 : decode b_House_roots 104 = .ok (.getfield 190, 3) := by decide +kernel
theorem d_House_roots_107 : decode b_House_roots 107 = .ok (.iload_n 3, 1) := by decide +kernel
theorem d_House_roots_108 : decode b_House_roots 108 = .ok (.iaload, 1) := by decide +kernel
theorem d_House_roots_109 : decode b_House_roots 109 = .ok (.iastore, 1) := by decide +kernel
theorem d_House_roots_110 : decode b_House_roots 110 = .ok (.iinc 3 1, 3) := by decide +kernel
theorem d_House_roots_113 : decode b_House_roots 113 = .ok (.goto (-44), 3) := by decide +kernel
theorem d_House_roots_116 : decode b_House_roots 116 = .ok (.aload_n 0, 1) := by decide +kernel
theorem d_House_roots_117 : decode b_House_roots 117 = .ok (.getfield 180, 3) := by decide +kernel
theorem d_House_roots_120 : decode b_House_roots 120 = .ok (.ireturn, 1) := by decide +kernel
abbrev b_House_factors : ByteArray := prog_1_method_17_code
def y_House_factors : MethodName := ⟨"RealHouse", "factors", "(I)I"⟩
abbrev w_House_factors : List Cond := .code y_House_factors b_House_factors 5 (some .int) :: lw_g
theorem g_House_factors : GoodIn lw_g w_House_factors := tb_good1 (tb_at (i := 1527) (by decide +kernel) rfl)
theorem d_House_factors_0 : decode b_House_factors 0 = .ok (.aload_n 0, 1) := by decide +kernel
theorem d_House_factors_1 : decode b_House_factors 1 = .ok (.iload_n 1, 1) := by decide +kernel
theorem d_House_factors_2 : decode b_House_factors 2 = .ok (.iconst 1, 1) := by decide +kernel
theorem d_House_factors_3 : decode b_House_factors 3 = .ok (.invokevirtual 157, 3) := by decide +kernel
theorem d_House_factors_6 : decode b_House_factors 6 = .ok (.istore_n 2, 1) := by decide +kernel
theorem d_House_factors_7 : decode b_House_factors 7 = .ok (.iload_n 2, 1) := by decide +kernel
theorem d_House_factors_8 : decode b_House_factors 8 = .ok (.ifCond .ge 5, 3) := by decide +kernel
theorem d_House_factors_11 : decode b_House_factors 11 = .ok (.iload_n 2, 1) := by decide +kernel
theorem d_House_factors_12 : decode b_House_factors 12 = .ok (.ireturn, 1) := by decide +kernel
theorem d_House_factors_13 : decode b_House_factors 13 = .ok (.aload_n 0, 1) := by decide +kernel
theorem d_House_factors_14 : decode b_House_factors 14 = .ok (.getfield 74, 3) := by decide +kernel
theorem d_House_factors_17 : decode b_House_factors 17 = .ok (.getfield 162, 3) := by decide +kernel
theorem d_House_factors_20 : decode b_House_factors 20 = .ok (.astore_n 3, 1) := by decide +kernel
theorem d_House_factors_21 : decode b_House_factors 21 = .ok (.aload_n 3, 1) := by decide +kernel
theorem d_House_factors_22 : decode b_House_factors 22 = .ok (.aload_n 0, 1) := by decide +kernel
theorem d_House_factors_23 : decode b_House_factors 23 = .ok (.getfield 67, 3) := by decide +kernel
theorem d_House_factors_26 : decode b_House_factors 26 = .ok (.getfield 111, 3) := by decide +kernel
theorem d_House_factors_29 : decode b_House_factors 29 = .ok (.getfield 115, 3) := by decide +kernel
theorem d_House_factors_32 : decode b_House_factors 32 = .ok (.iconst 0, 1) := by decide +kernel
theorem d_House_factors_33 : decode b_House_factors 33 = .ok (.aaload, 1) := by decide +kernel
theorem d_House_factors_34 : decode b_House_factors 34 = .ok (.invokevirtual 166, 3) := by decide +kernel
theorem d_House_factors_37 : decode b_House_factors 37 = .ok (.aload_n 0, 1) := by decide +kernel
theorem d_House_factors_38 : decode b_House_factors 38 = .ok (.aload_n 3, 1) := by decide +kernel
theorem d_House_factors_39 : decode b_House_factors 39 = .ok (.getfield 280, 3) := by decide +kernel
theorem d_House_factors_42 : decode b_House_factors 42 = .ok (.putfield 283, 3) := by decide +kernel
theorem d_House_factors_45 : decode b_House_factors 45 = .ok (.iconst 0, 1) := by decide +kernel
theorem d_House_factors_46 : decode b_House_factors 46 = .ok (.istore 4, 2) := by decide +kernel
theorem d_House_factors_48 : decode b_House_factors 48 = .ok (.iload 4, 2) := by decide +kernel
theorem d_House_factors_50 : decode b_House_factors 50 = .ok (.aload_n 0, 1) := by decide +kernel
theorem d_House_factors_51 : decode b_House_factors 51 = .ok (.getfield 283, 3) := by decide +kernel
theorem d_House_factors_54 : decode b_House_factors 54 = .ok (.if_icmp .ge 68, 3) := by decide +kernel
theorem d_House_factors_57 : decode b_House_factors 57 = .ok (.aload_n 0, 1) := by decide +kernel
theorem d_House_factors_58 : decode b_House_factors 58 = .ok (.getfield 45, 3) := by decide +kernel
theorem d_House_factors_61 : decode b_House_factors 61 = .ok (.iload 4, 2) := by decide +kernel
theorem d_House_factors_63 : decode b_House_factors 63 = .ok (.aaload, 1) := by decide +kernel
theorem d_House_factors_64 : decode b_House_factors 64 = .ok (.ifnonnull 21, 3) := by decide +kernel
theorem d_House_factors_67 : decode b_House_factors 67 = .ok (.aload_n 0, 1) := by decide +kernel
theorem d_House_factors_68 : decode b_House_factors 68 = .ok (.getfield 45, 3) := by decide +kernel
theorem d_House_factors_71 : decode b_House_factors 71 = .ok (.iload 4, 2) := by decide +kernel
theorem d_House_factors_73 : decode b_House_factors 73 = .ok (.new 43, 3) := by decide +kernel
theorem d_House_factors_76 : decode b_House_factors 76 = .ok (.dup, 1) := by decide +kernel
theorem d_House_factors_77 : decode b_House_factors 77 = .ok (.aload_n 0, 1) := by decide +kernel
theorem d_House_factors_78 : decode b_House_factors 78 = .ok (.getfield 58, 3) := by decide +kernel
theorem d_House_factors_81 : decode b_House_factors 81 = .ok (.invokespecial 286, 3) := by decide +kernel
theorem d_House_factors_84 : decode b_House_factors 84 = .ok (.aastore, 1) := by decide +kernel
theorem d_House_factors_85 : decode b_House_factors 85 = .ok (.aload_n 0, 1) := by decide +kernel
theorem d_House_factors_86 : decode b_House_factors 86 = .ok (.getfield 45, 3) := by decide +kernel
theorem d_House_factors_89 : decode b_House_factors 89 = .ok (.iload 4, 2) := by decide +kernel
theorem d_House_factors_91 : decode b_House_factors 91 = .ok (.aaload, 1) := by decide +kernel
theorem d_House_factors_92 : decode b_House_factors 92 = .ok (.aload_n 3, 1) := by decide +kernel
theorem d_House_factors_93 : decode b_House_factors 93 = .ok (.getfield 287, 3) := by decide +kernel
theorem d_House_factors_96 : decode b_House_factors 96 = .ok (.iload 4, 2) := by decide +kernel
theorem d_House_factors_98 : decode b_House_factors 98 = .ok (.aaload, 1) := by decide +kernel
theorem d_House_factors_99 : decode b_House_factors 99 = .ok (.invokevirtual 131, 3) := by decide +kernel
theorem d_House_factors_102 : decode b_House_factors 102 = .ok (.aload_n 0, 1) := by decide +kernel
theorem d_House_factors_103 : decode b_House_factors 103 = .ok (.getfield 49, 3) := by decide +kernel
theorem d_House_factors_106 : decode b_House_factors 106 = .ok (.iload 4, 2) := by decide +kernel
theorem d_House_factors_108 : decode b_House_factors 108 = .ok (.aload_n 3, 1) := by decide +kernel
theorem d_House_factors_109 : decode b_House_factors 109 = .ok (.getfield 290, 3) := by decide +kernel
theorem d_House_factors_112 : decode b_House_factors 112 = .ok (.iload 4, 2) := by decide +kernel
theorem d_House_factors_114 : decode b_House_factors 114 = .ok (.iaload, 1) := by decide +kernel
theorem d_House_factors_115 : decode b_House_factors 115 = .ok (.iastore, 1) := by decide +kernel
theorem d_House_factors_116 : decode b_House_factors 116 = .ok (.iinc 4 1, 3) := by decide +kernel
theorem d_House_factors_119 : decode b_House_factors 119 = .ok (.goto (-71), 3) := by decide +kernel
theorem d_House_factors_122 : decode b_House_factors 122 = .ok (.aload_n 0, 1) := by decide +kernel
theorem d_House_factors_123 : decode b_House_factors 123 = .ok (.getfield 283, 3) := by decide +kernel
theorem d_House_factors_126 : decode b_House_factors 126 = .ok (.ireturn, 1) := by decide +kernel
abbrev b_House_points : ByteArray := prog_1_method_10_code
def y_House_points : MethodName := ⟨"RealHouse", "points", "(I)I"⟩
abbrev w_House_points : List Cond := .code y_House_points b_House_points 6 (some .int) :: lw_g
theorem g_House_points : GoodIn lw_g w_House_points := tb_good1 (tb_at (i := 1303) (by decide +kernel) rfl)
theorem d_House_points_0 : decode b_House_points 0 = .ok (.aload_n 0, 1) := by decide +kernel
theorem d_House_points_1 : decode b_House_points 1 = .ok (.iload_n 1, 1) := by decide +kernel
theorem d_House_points_2 : decode b_House_points 2 = .ok (.invokevirtual 89, 3) := by decide +kernel
theorem d_House_points_5 : decode b_House_points 5 = .ok (.ifCond .eq 5, 3) := by decide +kernel
theorem d_House_points_8 : decode b_House_points 8 = .ok (.iconst (-1), 1) := by decide +kernel
theorem d_House_points_9 : decode b_House_points 9 = .ok (.ireturn, 1) := by decide +kernel
theorem d_House_points_10 : decode b_House_points 10 = .ok (.aload_n 0, 1) := by decide +kernel
theorem d_House_points_11 : decode b_House_points 11 = .ok (.getfield 67, 3) := by decide +kernel
theorem d_House_points_14 : decode b_House_points 14 = .ok (.aload_n 0, 1) := by decide +kernel
theorem d_House_points_15 : decode b_House_points 15 = .ok (.getfield 9, 3) := by decide +kernel
theorem d_House_points_18 : decode b_House_points 18 = .ok (.iload_n 1, 1) := by decide +kernel
theorem d_House_points_19 : decode b_House_points 19 = .ok (.iconst 1, 1) := by decide +kernel
theorem d_House_points_20 : decode b_House_points 20 = .ok (.iconst 1, 1) := by decide +kernel
theorem d_House_points_21 : decode b_House_points 21 = .ok (.invokevirtual 93, 3) := by decide +kernel
theorem d_House_points_24 : decode b_House_points 24 = .ok (.aload_n 0, 1) := by decide +kernel
theorem d_House_points_25 : decode b_House_points 25 = .ok (.getfield 67, 3) := by decide +kernel
theorem d_House_points_28 : decode b_House_points 28 = .ok (.iconst 1, 1) := by decide +kernel
theorem d_House_points_29 : decode b_House_points 29 = .ok (.invokevirtual 97, 3) := by decide +kernel
theorem d_House_points_32 : decode b_House_points 32 = .ok (.aload_n 0, 1) := by decide +kernel
theorem d_House_points_33 : decode b_House_points 33 = .ok (.getfield 67, 3) := by decide +kernel
theorem d_House_points_36 : decode b_House_points 36 = .ok (.getfield 101, 3) := by decide +kernel
theorem d_House_points_39 : decode b_House_points 39 = .ok (.ifCond .lt 8, 3) := by decide +kernel
theorem d_House_points_42 : decode b_House_points 42 = .ok (.aload_n 0, 1) := by decide +kernel
theorem d_House_points_43 : decode b_House_points 43 = .ok (.invokevirtual 104, 3) := by decide +kernel
theorem d_House_points_46 : decode b_House_points 46 = .ok (.ireturn, 1) := by decide +kernel
theorem d_House_points_47 : decode b_House_points 47 = .ok (.aload_n 0, 1) := by decide +kernel
theorem d_House_points_48 : decode b_House_points 48 = .ok (.getfield 67, 3) := by decide +kernel
theorem d_House_points_51 : decode b_House_points 51 = .ok (.getfield 111, 3) := by decide +kernel
theorem d_House_points_54 : decode b_House_points 54 = .ok (.astore_n 2, 1) := by decide +kernel
theorem d_House_points_55 : decode b_House_points 55 = .ok (.aload_n 0, 1) := by decide +kernel
theorem d_House_points_56 : decode b_House_points 56 = .ok (.getfield 67, 3) := by decide +kernel
theorem d_House_points_59 : decode b_House_points 59 = .ok (.getfield 118, 3) := by decide +kernel
theorem d_House_points_62 : decode b_House_points 62 = .ok (.astore_n 3, 1) := by decide +kernel
theorem d_House_points_63 : decode b_House_points 63 = .ok (.aload_n 2, 1) := by decide +kernel
theorem d_House_points_64 : decode b_House_points 64 = .ok (.invokevirtual 205, 3) := by decide +kernel
theorem d_House_points_67 : decode b_House_points 67 = .ok (.ifCond .eq 22, 3) := by decide +kernel
theorem d_House_points_70 : decode b_House_points 70 = .ok (.aload_n 3, 1) := by decide +kernel
theorem d_House_points_71 : decode b_House_points 71 = .ok (.invokevirtual 205, 3) := by decide +kernel
theorem d_House_points_74 : decode b_House_points 74 = .ok (.ifCond .eq 15, 3) := by decide +kernel
theorem d_House_points_77 : decode b_House_points 77 = .ok (.aload_n 0, 1) := by decide +kernel
theorem d_House_points_78 : decode b_House_points 78 = .ok (.getfield 74, 3) := by decide +kernel
theorem d_House_points_81 : decode b_House_points 81 = .ok (.aload_n 2, 1) := by decide +kernel
theorem d_House_points_82 : decode b_House_points 82 = .ok (.aload_n 3, 1) := by decide +kernel
theorem d_House_points_83 : decode b_House_points 83 = .ok (.invokevirtual 209, 3) := by decide +kernel
theorem d_House_points_86 : decode b_House_points 86 = .ok (.ifCond .eq 5, 3) := by decide +kernel
theorem d_House_points_89 : decode b_House_points 89 = .ok (.iconst (-1), 1) := by decide +kernel
theorem d_House_points_90 : decode b_House_points 90 = .ok (.ireturn, 1) := by decide +kernel
theorem d_House_points_91 : decode b_House_points 91 = .ok (.aload_n 0, 1) := by decide +kernel
theorem d_House_points_92 : decode b_House_points 92 = .ok (.iconst 0, 1) := by decide +kernel
theorem d_House_points_93 : decode b_House_points 93 = .ok (.putfield 78, 3) := by decide +kernel
theorem d_House_points_96 : decode b_House_points 96 = .ok (.aload_n 0, 1) := by decide +kernel
theorem d_House_points_97 : decode b_House_points 97 = .ok (.getfield 74, 3) := by decide +kernel
theorem d_House_points_100 : decode b_House_points 100 = .ok (.aload_n 2, 1) := by decide +kernel
theorem d_House_points_101 : decode b_House_points 101 = .ok (.aload_n 3, 1) := by decide +kernel
theorem d_House_points_102 : decode b_House_points 102 = .ok (.invokevirtual 213, 3) := by decide +kernel
theorem d_House_points_105 : decode b_House_points 105 = .ok (.aload_n 0, 1) := by decide +kernel
theorem d_House_points_106 : decode b_House_points 106 = .ok (.getfield 74, 3) := by decide +kernel
theorem d_House_points_109 : decode b_House_points 109 = .ok (.invokevirtual 174, 3) := by decide +kernel
theorem d_House_points_112 : decode b_House_points 112 = .ok (.aload_n 0, 1) := by decide +kernel
theorem d_House_points_113 : decode b_House_points 113 = .ok (.getfield 74, 3) := by decide +kernel
theorem d_House_points_116 : decode b_House_points 116 = .ok (.invokevirtual 217, 3) := by decide +kernel
theorem d_House_points_119 : decode b_House_points 119 = .ok (.aload_n 0, 1) := by decide +kernel
theorem d_House_points_120 : decode b_House_points 120 = .ok (.getfield 74, 3) := by decide +kernel
theorem d_House_points_123 : decode b_House_points 123 = .ok (.aload_n 2, 1) := by decide +kernel
theorem d_House_points_124 : decode b_House_points 124 = .ok (.aload_n 3, 1) := by decide +kernel
theorem d_House_points_125 : decode b_House_points 125 = .ok (.invokevirtual 220, 3) := by decide +kernel
theorem d_House_points_128 : decode b_House_points 128 = .ok (.aload_n 0, 1) := by decide +kernel
theorem d_House_points_129 : decode b_House_points 129 = .ok (.getfield 74, 3) := by decide +kernel
theorem d_House_points_132 : decode b_House_points 132 = .ok (.invokevirtual 174, 3) := by decide +kernel
theorem d_House_points_135 : decode b_House_points 135 = .ok (.aload_n 0, 1) := by decide +kernel
theorem d_House_points_136 : decode b_House_points 136 = .ok (.iconst 0, 1) := by decide +kernel
theorem d_House_points_137 : decode b_House_points 137 = .ok (.putfield 223, 3) := by decide +kernel
theorem d_House_points_140 : decode b_House_points 140 = .ok (.iconst 0, 1) := by decide +kernel
theorem d_House_points_141 : decode b_House_points 141 = .ok (.istore 4, 2) := by decide +kernel
theorem d_House_points_143 : decode b_House_points 143 = .ok (.iload 4, 2) := by decide +kernel
theorem d_House_points_145 : decode b_House_points 145 = .ok (.aload_n 0, 1) := by decide +kernel
theorem d_House_points_146 : decode b_House_points 146 = .ok (.getfield 74, 3) := by decide +kernel
theorem d_House_points_149 : decode b_House_points 149 = .ok (.getfield 226, 3) := by decide +kernel
theorem d_House_points_152 : decode b_House_points 152 = .ok (.if_icmp .ge 86, 3) := by decide +kernel
theorem d_House_points_155 : decode b_House_points 155 = .ok (.aload_n 0, 1) := by decide +kernel
theorem d_House_points_156 : decode b_House_points 156 = .ok (.getfield 74, 3) := by decide +kernel
theorem d_House_points_159 : decode b_House_points 159 = .ok (.iload 4, 2) := by decide +kernel
theorem d_House_points_161 : decode b_House_points 161 = .ok (.aload_n 2, 1) := by decide +kernel
theorem d_House_points_162 : decode b_House_points 162 = .ok (.aload_n 3, 1) := by decide +kernel
theorem d_House_points_163 : decode b_House_points 163 = .ok (.invokevirtual 229, 3) := by decide +kernel
theorem d_House_points_166 : decode b_House_points 166 = .ok (.iconst 0, 1) := by decide +kernel
theorem d_House_points_167 : decode b_House_points 167 = .ok (.istore 5, 2) := by decide +kernel
theorem d_House_points_169 : decode b_House_points 169 = .ok (.iload 5, 2) := by decide +kernel
theorem d_House_points_171 : decode b_House_points 171 = .ok (.aload_n 0, 1) := by decide +kernel
theorem d_House_points_172 : decode b_House_points 172 = .ok (.getfield 74, 3) := by decide +kernel
theorem d_House_points_175 : decode b_House_points 175 = .ok (.getfield 177, 3) := by decide +kernel
theorem d_House_points_178 : decode b_House_points 178 = .ok (.if_icmp .ge 54, 3) := by decide +kernel
theorem d_House_points_181 : decode b_House_points 181 = .ok (.aload_n 0, 1) := by decide +kernel
theorem d_House_points_182 : decode b_House_points 182 = .ok (.getfield 223, 3) := by decide +kernel
theorem d_House_points_185 : decode b_House_points 185 = .ok (.bipush 64, 2) := by decide +kernel
theorem d_House_points_187 : decode b_House_points 187 = .ok (.if_icmp .ge 45, 3) := by decide +kernel
theorem d_House_points_190 : decode b_House_points 190 = .ok (.aload_n 0, 1) := by decide +kernel
theorem d_House_points_191 : decode b_House_points 191 = .ok (.getfield 74, 3) := by decide +kernel
theorem d_House_points_194 : decode b_House_points 194 = .ok (.iload 5, 2) := by decide +kernel
theorem d_House_points_196 : decode b_House_points 196 = .ok (.invokevirtual 233, 3) := by decide +kernel
theorem d_House_points_199 : decode b_House_points 199 = .ok (.ifCond .eq 27, 3) := by decide +kernel
theorem d_House_points_202 : decode b_House_points 202 = .ok (.aload_n 0, 1) := by decide +kernel
theorem d_House_points_203 : decode b_House_points 203 = .ok (.aload_n 0, 1) := by decide +kernel
theorem d_House_points_204 : decode b_House_points 204 = .ok (.getfield 74, 3) := by decide +kernel
theorem d_House_points_207 : decode b_House_points 207 = .ok (.getfield 236, 3) := by decide +kernel
theorem d_House_points_210 : decode b_House_points 210 = .ok (.iload 4, 2) := by decide +kernel
theorem d_House_points_212 : decode b_House_points 212 = .ok (.aaload, 1) := by decide +kernel
theorem d_House_points_213 : decode b_House_points 213 = .ok (.aload_n 0, 1) := by decide +kernel
theorem d_House_points_214 : decode b_House_points 214 = .ok (.getfield 74, 3) := by decide +kernel
theorem d_House_points_217 : decode b_House_points 217 = .ok (.getfield 183, 3) := by decide +kernel
theorem d_House_points_220 : decode b_House_points 220 = .ok (.iload 5, 2) := by decide +kernel
theorem d_House_points_222 : decode b_House_points 222 = .ok (.aaload, 1) := by decide +kernel
theorem d_House_points_223 : decode b_House_points 223 = .ok (.invokevirtual 239, 3) := by decide +kernel
theorem d_House_points_226 : decode b_House_points 226 = .ok (.iinc 5 1, 3) := by decide +kernel
theorem d_House_points_229 : decode b_House_points 229 = .ok (.goto (-60), 3) := by decide +kernel
theorem d_House_points_232 : decode b_House_points 232 = .ok (.iinc 4 1, 3) := by decide +kernel
theorem d_House_points_235 : decode b_House_points 235 = .ok (.goto (-92), 3) := by decide +kernel
theorem d_House_points_238 : decode b_House_points 238 = .ok (.aload_n 0, 1) := by decide +kernel
theorem d_House_points_239 : decode b_House_points 239 = .ok (.getfield 223, 3) := by decide +kernel
theorem d_House_points_242 : decode b_House_points 242 = .ok (.ireturn, 1) := by decide +kernel
abbrev b_House_decide : ByteArray := prog_1_method_13_code
def y_House_decide : MethodName := ⟨"RealHouse", "decide", "(I)I"⟩
abbrev w_House_decide : List Cond := .code y_House_decide b_House_decide 6 (some .int) :: lw_g
theorem g_House_decide : GoodIn lw_g w_House_decide := tb_good1 (tb_at (i := 1386) (by decide +kernel) rfl)
theorem d_House_decide_0 : decode b_House_decide 0 = .ok (.aload_n 0, 1) := by decide +kernel
theorem d_House_decide_1 : decode b_House_decide 1 = .ok (.iload_n 1, 1) := by decide +kernel
theorem d_House_decide_2 : decode b_House_decide 2 = .ok (.invokevirtual 89, 3) := by decide +kernel
theorem d_House_decide_5 : decode b_House_decide 5 = .ok (.ifCond .eq 5, 3) := by decide +kernel
theorem d_House_decide_8 : decode b_House_decide 8 = .ok (.iconst (-1), 1) := by decide +kernel
theorem d_House_decide_9 : decode b_House_decide 9 = .ok (.ireturn, 1) := by decide +kernel
theorem d_House_decide_10 : decode b_House_decide 10 = .ok (.aload_n 0, 1) := by decide +kernel
theorem d_House_decide_11 : decode b_House_decide 11 = .ok (.getfield 67, 3) := by decide +kernel
theorem d_House_decide_14 : decode b_House_decide 14 = .ok (.aload_n 0, 1) := by decide +kernel
theorem d_House_decide_15 : decode b_House_decide 15 = .ok (.getfield 9, 3) := by decide +kernel
theorem d_House_decide_18 : decode b_House_decide 18 = .ok (.iload_n 1, 1) := by decide +kernel
theorem d_House_decide_19 : decode b_House_decide 19 = .ok (.iconst 0, 1) := by decide +kernel
theorem d_House_decide_20 : decode b_House_decide 20 = .ok (.iconst 0, 1) := by decide +kernel
theorem d_House_decide_21 : decode b_House_decide 21 = .ok (.invokevirtual 93, 3) := by decide +kernel
theorem d_House_decide_24 : decode b_House_decide 24 = .ok (.aload_n 0, 1) := by decide +kernel
theorem d_House_decide_25 : decode b_House_decide 25 = .ok (.getfield 67, 3) := by decide +kernel
theorem d_House_decide_28 : decode b_House_decide 28 = .ok (.invokevirtual 247, 3) := by decide +kernel
theorem d_House_decide_31 : decode b_House_decide 31 = .ok (.aload_n 0, 1) := by decide +kernel
theorem d_House_decide_32 : decode b_House_decide 32 = .ok (.getfield 67, 3) := by decide +kernel
theorem d_House_decide_35 : decode b_House_decide 35 = .ok (.invokevirtual 250, 3) := by decide +kernel
theorem d_House_decide_38 : decode b_House_decide 38 = .ok (.aload_n 0, 1) := by decide +kernel
theorem d_House_decide_39 : decode b_House_decide 39 = .ok (.getfield 67, 3) := by decide +kernel
theorem d_House_decide_42 : decode b_House_decide 42 = .ok (.getfield 101, 3) := by decide +kernel
theorem d_House_decide_45 : decode b_House_decide 45 = .ok (.ifCond .lt 8, 3) := by decide +kernel
theorem d_House_decide_48 : decode b_House_decide 48 = .ok (.aload_n 0, 1) := by decide +kernel
theorem d_House_decide_49 : decode b_House_decide 49 = .ok (.invokevirtual 104, 3) := by decide +kernel
theorem d_House_decide_52 : decode b_House_decide 52 = .ok (.ireturn, 1) := by decide +kernel
theorem d_House_decide_53 : decode b_House_decide 53 = .ok (.aload_n 0, 1) := by decide +kernel
theorem d_House_decide_54 : decode b_House_decide 54 = .ok (.getfield 67, 3) := by decide +kernel
theorem d_House_decide_57 : decode b_House_decide 57 = .ok (.getfield 253, 3) := by decide +kernel
theorem d_House_decide_60 : decode b_House_decide 60 = .ok (.ifCond .eq 5, 3) := by decide +kernel
theorem d_House_decide_63 : decode b_House_decide 63 = .ok (.iconst (-1), 1) := by decide +kernel
theorem d_House_decide_64 : decode b_House_decide 64 = .ok (.ireturn, 1) := by decide +kernel
theorem d_House_decide_65 : decode b_House_decide 65 = .ok (.aload_n 0, 1) := by decide +kernel
theorem d_House_decide_66 : decode b_House_decide 66 = .ok (.iconst 0, 1) := by decide +kernel
theorem d_House_decide_67 : decode b_House_decide 67 = .ok (.putfield 78, 3) := by decide +kernel
theorem d_House_decide_70 : decode b_House_decide 70 = .ok (.aload_n 0, 1) := by decide +kernel
theorem d_House_decide_71 : decode b_House_decide 71 = .ok (.getfield 74, 3) := by decide +kernel
theorem d_House_decide_74 : decode b_House_decide 74 = .ok (.aload_n 0, 1) := by decide +kernel
theorem d_House_decide_75 : decode b_House_decide 75 = .ok (.getfield 67, 3) := by decide +kernel
theorem d_House_decide_78 : decode b_House_decide 78 = .ok (.invokevirtual 257, 3) := by decide +kernel
theorem d_House_decide_81 : decode b_House_decide 81 = .ok (.aload_n 0, 1) := by decide +kernel
theorem d_House_decide_82 : decode b_House_decide 82 = .ok (.getfield 67, 3) := by decide +kernel
theorem d_House_decide_85 : decode b_House_decide 85 = .ok (.getfield 261, 3) := by decide +kernel
theorem d_House_decide_88 : decode b_House_decide 88 = .ok (.ifCond .eq 24, 3) := by decide +kernel
theorem d_House_decide_91 : decode b_House_decide 91 = .ok (.aload_n 0, 1) := by decide +kernel
theorem d_House_decide_92 : decode b_House_decide 92 = .ok (.getfield 74, 3) := by decide +kernel
theorem d_House_decide_95 : decode b_House_decide 95 = .ok (.invokevirtual 264, 3) := by decide +kernel
theorem d_House_decide_98 : decode b_House_decide 98 = .ok (.aload_n 0, 1) := by decide +kernel
theorem d_House_decide_99 : decode b_House_decide 99 = .ok (.getfield 74, 3) := by decide +kernel
theorem d_House_decide_102 : decode b_House_decide 102 = .ok (.invokevirtual 267, 3) := by decide +kernel
theorem d_House_decide_105 : decode b_House_decide 105 = .ok (.aload_n 0, 1) := by decide +kernel
theorem d_House_decide_106 : decode b_House_decide 106 = .ok (.getfield 74, 3) := by decide +kernel
theorem d_House_decide_109 : decode b_House_decide 109 = .ok (.invokevirtual 174, 3) := by decide +kernel
theorem d_House_decide_112 : decode b_House_decide 112 = .ok (.aload_n 0, 1) := by decide +kernel
theorem d_House_decide_113 : decode b_House_decide 113 = .ok (.getfield 67, 3) := by decide +kernel
theorem d_House_decide_116 : decode b_House_decide 116 = .ok (.getfield 261, 3) := by decide +kernel
theorem d_House_decide_119 : decode b_House_decide 119 = .ok (.bipush 65, 2) := by decide +kernel
theorem d_House_decide_121 : decode b_House_decide 121 = .ok (.if_icmp .ne 7, 3) := by decide +kernel
theorem d_House_decide_124 : decode b_House_decide 124 = .ok (.iconst 1, 1) := by decide +kernel
theorem d_House_decide_125 : decode b_House_decide 125 = .ok (.goto 4, 3) := by decide +kernel
theorem d_House_decide_128 : decode b_House_decide 128 = .ok (.iconst 0, 1) := by decide +kernel
theorem d_House_decide_129 : decode b_House_decide 129 = .ok (.istore_n 2, 1) := by decide +kernel
theorem d_House_decide_130 : decode b_House_decide 130 = .ok (.iconst 0, 1) := by decide +kernel
theorem d_House_decide_131 : decode b_House_decide 131 = .ok (.istore_n 3, 1) := by decide +kernel
theorem d_House_decide_132 : decode b_House_decide 132 = .ok (.iload_n 3, 1) := by decide +kernel
theorem d_House_decide_133 : decode b_House_decide 133 = .ok (.iconst 2, 1) := by decide +kernel
theorem d_House_decide_134 : decode b_House_decide 134 = .ok (.if_icmp .ge 74, 3) := by decide +kernel
theorem d_House_decide_137 : decode b_House_decide 137 = .ok (.iload_n 3, 1) := by decide +kernel
theorem d_House_decide_138 : decode b_House_decide 138 = .ok (.istore 4, 2) := by decide +kernel
theorem d_House_decide_140 : decode b_House_decide 140 = .ok (.iload 4, 2) := by decide +kernel
theorem d_House_decide_142 : decode b_House_decide 142 = .ok (.iconst 2, 1) := by decide +kernel
theorem d_House_decide_143 : decode b_House_decide 143 = .ok (.aload_n 0, 1) := by decide +kernel
theorem d_House_decide_144 : decode b_House_decide 144 = .ok (.getfield 74, 3) := by decide +kernel
theorem d_House_decide_147 : decode b_House_decide 147 = .ok (.getfield 177, 3) := by decide +kernel
theorem d_House_decide_150 : decode b_House_decide 150 = .ok (.imul, 1) := by decide +kernel
theorem d_House_decide_151 : decode b_House_decide 151 = .ok (.if_icmp .gt 51, 3) := by decide +kernel
theorem d_House_decide_154 : decode b_House_decide 154 = .ok (.aload_n 0, 1) := by decide +kernel
theorem d_House_decide_155 : decode b_House_decide 155 = .ok (.getfield 74, 3) := by decide +kernel
theorem d_House_decide_158 : decode b_House_decide 158 = .ok (.iload 4, 2) := by decide +kernel
theorem d_House_decide_160 : decode b_House_decide 160 = .ok (.aload_n 0, 1) := by decide +kernel
theorem d_House_decide_161 : decode b_House_decide 161 = .ok (.getfield 67, 3) := by decide +kernel
theorem d_House_decide_164 : decode b_House_decide 164 = .ok (.invokevirtual 270, 3) := by decide +kernel
theorem d_House_decide_167 : decode b_House_decide 167 = .ok (.istore 5, 2) := by decide +kernel
theorem d_House_decide_169 : decode b_House_decide 169 = .ok (.aload_n 0, 1) := by decide +kernel
theorem d_House_decide_170 : decode b_House_decide 170 = .ok (.getfield 67, 3) := by decide +kernel
theorem d_House_decide_173 : decode b_House_decide 173 = .ok (.getfield 261, 3) := by decide +kernel
theorem d_House_decide_176 : decode b_House_decide 176 = .ok (.ifCond .eq 9, 3) := by decide +kernel
theorem d_House_decide_179 : decode b_House_decide 179 = .ok (.iload 5, 2) := by decide +kernel
theorem d_House_decide_181 : decode b_House_decide 181 = .ok (.iload_n 2, 1) := by decide +kernel
theorem d_House_decide_182 : decode b_House_decide 182 = .ok (.if_icmp .eq 14, 3) := by decide +kernel
theorem d_House_decide_185 : decode b_House_decide 185 = .ok (.iload 5, 2) := by decide +kernel
theorem d_House_decide_187 : decode b_House_decide 187 = .ok (.ifCond .eq 7, 3) := by decide +kernel
theorem d_House_decide_190 : decode b_House_decide 190 = .ok (.iconst 1, 1) := by decide +kernel
theorem d_House_decide_191 : decode b_House_decide 191 = .ok (.goto 4, 3) := by decide +kernel
theorem d_House_decide_194 : decode b_House_decide 194 = .ok (.iconst 0, 1) := by decide +kernel
theorem d_House_decide_195 : decode b_House_decide 195 = .ok (.ireturn, 1) := by decide +kernel
theorem d_House_decide_196 : decode b_House_decide 196 = .ok (.iinc 4 2, 3) := by decide +kernel
theorem d_House_decide_199 : decode b_House_decide 199 = .ok (.goto (-59), 3) := by decide +kernel
theorem d_House_decide_202 : decode b_House_decide 202 = .ok (.iinc 3 1, 3) := by decide +kernel
theorem d_House_decide_205 : decode b_House_decide 205 = .ok (.goto (-73), 3) := by decide +kernel
theorem d_House_decide_208 : decode b_House_decide 208 = .ok (.iload_n 2, 1) := by decide +kernel
theorem d_House_decide_209 : decode b_House_decide 209 = .ok (.ifCond .eq 7, 3) := by decide +kernel
theorem d_House_decide_212 : decode b_House_decide 212 = .ok (.iconst 1, 1) := by decide +kernel
theorem d_House_decide_213 : decode b_House_decide 213 = .ok (.goto 4, 3) := by decide +kernel
theorem d_House_decide_216 : decode b_House_decide 216 = .ok (.iconst 0, 1) := by decide +kernel
theorem d_House_decide_217 : decode b_House_decide 217 = .ok (.ireturn, 1) := by decide +kernel
abbrev b_House_solve : ByteArray := prog_1_method_14_code
def y_House_solve : MethodName := ⟨"RealHouse", "solve", "(I)I"⟩
abbrev w_House_solve : List Cond := .code y_House_solve b_House_solve 5 (some .int) :: lw_g
theorem g_House_solve : GoodIn lw_g w_House_solve := tb_good1 (tb_at (i := 1511) (by decide +kernel) rfl)
theorem d_House_solve_0 : decode b_House_solve 0 = .ok (.aload_n 0, 1) := by decide +kernel
theorem d_House_solve_1 : decode b_House_solve 1 = .ok (.iload_n 1, 1) := by decide +kernel
theorem d_House_solve_2 : decode b_House_solve 2 = .ok (.invokevirtual 89, 3) := by decide +kernel
theorem d_House_solve_5 : decode b_House_solve 5 = .ok (.ifCond .eq 5, 3) := by decide +kernel
theorem d_House_solve_8 : decode b_House_solve 8 = .ok (.iconst (-1), 1) := by decide +kernel
theorem d_House_solve_9 : decode b_House_solve 9 = .ok (.ireturn, 1) := by decide +kernel
theorem d_House_solve_10 : decode b_House_solve 10 = .ok (.aload_n 0, 1) := by decide +kernel
theorem d_House_solve_11 : decode b_House_solve 11 = .ok (.getfield 67, 3) := by decide +kernel
theorem d_House_solve_14 : decode b_House_solve 14 = .ok (.aload_n 0, 1) := by decide +kernel
theorem d_House_solve_15 : decode b_House_solve 15 = .ok (.getfield 9, 3) := by decide +kernel
theorem d_House_solve_18 : decode b_House_solve 18 = .ok (.iload_n 1, 1) := by decide +kernel
theorem d_House_solve_19 : decode b_House_solve 19 = .ok (.iconst 1, 1) := by decide +kernel
theorem d_House_solve_20 : decode b_House_solve 20 = .ok (.iconst 0, 1) := by decide +kernel
theorem d_House_solve_21 : decode b_House_solve 21 = .ok (.invokevirtual 93, 3) := by decide +kernel
theorem d_House_solve_24 : decode b_House_solve 24 = .ok (.aload_n 0, 1) := by decide +kernel
theorem d_House_solve_25 : decode b_House_solve 25 = .ok (.getfield 67, 3) := by decide +kernel
theorem d_House_solve_28 : decode b_House_solve 28 = .ok (.invokevirtual 274, 3) := by decide +kernel
theorem d_House_solve_31 : decode b_House_solve 31 = .ok (.aload_n 0, 1) := by decide +kernel
theorem d_House_solve_32 : decode b_House_solve 32 = .ok (.getfield 67, 3) := by decide +kernel
theorem d_House_solve_35 : decode b_House_solve 35 = .ok (.invokevirtual 250, 3) := by decide +kernel
theorem d_House_solve_38 : decode b_House_solve 38 = .ok (.aload_n 0, 1) := by decide +kernel
theorem d_House_solve_39 : decode b_House_solve 39 = .ok (.getfield 67, 3) := by decide +kernel
theorem d_House_solve_42 : decode b_House_solve 42 = .ok (.getfield 101, 3) := by decide +kernel
theorem d_House_solve_45 : decode b_House_solve 45 = .ok (.ifCond .lt 8, 3) := by decide +kernel
theorem d_House_solve_48 : decode b_House_solve 48 = .ok (.aload_n 0, 1) := by decide +kernel
theorem d_House_solve_49 : decode b_House_solve 49 = .ok (.invokevirtual 104, 3) := by decide +kernel
theorem d_House_solve_52 : decode b_House_solve 52 = .ok (.ireturn, 1) := by decide +kernel
theorem d_House_solve_53 : decode b_House_solve 53 = .ok (.aload_n 0, 1) := by decide +kernel
theorem d_House_solve_54 : decode b_House_solve 54 = .ok (.getfield 67, 3) := by decide +kernel
theorem d_House_solve_57 : decode b_House_solve 57 = .ok (.getfield 253, 3) := by decide +kernel
theorem d_House_solve_60 : decode b_House_solve 60 = .ok (.ifCond .eq 5, 3) := by decide +kernel
theorem d_House_solve_63 : decode b_House_solve 63 = .ok (.iconst (-1), 1) := by decide +kernel
theorem d_House_solve_64 : decode b_House_solve 64 = .ok (.ireturn, 1) := by decide +kernel
theorem d_House_solve_65 : decode b_House_solve 65 = .ok (.aload_n 0, 1) := by decide +kernel
theorem d_House_solve_66 : decode b_House_solve 66 = .ok (.iconst 0, 1) := by decide +kernel
theorem d_House_solve_67 : decode b_House_solve 67 = .ok (.putfield 78, 3) := by decide +kernel
theorem d_House_solve_70 : decode b_House_solve 70 = .ok (.aload_n 0, 1) := by decide +kernel
theorem d_House_solve_71 : decode b_House_solve 71 = .ok (.getfield 74, 3) := by decide +kernel
theorem d_House_solve_74 : decode b_House_solve 74 = .ok (.aload_n 0, 1) := by decide +kernel
theorem d_House_solve_75 : decode b_House_solve 75 = .ok (.getfield 67, 3) := by decide +kernel
theorem d_House_solve_78 : decode b_House_solve 78 = .ok (.invokevirtual 257, 3) := by decide +kernel
theorem d_House_solve_81 : decode b_House_solve 81 = .ok (.aload_n 0, 1) := by decide +kernel
theorem d_House_solve_82 : decode b_House_solve 82 = .ok (.getfield 74, 3) := by decide +kernel
theorem d_House_solve_85 : decode b_House_solve 85 = .ok (.invokevirtual 264, 3) := by decide +kernel
theorem d_House_solve_88 : decode b_House_solve 88 = .ok (.aload_n 0, 1) := by decide +kernel
theorem d_House_solve_89 : decode b_House_solve 89 = .ok (.getfield 74, 3) := by decide +kernel
theorem d_House_solve_92 : decode b_House_solve 92 = .ok (.invokevirtual 267, 3) := by decide +kernel
theorem d_House_solve_95 : decode b_House_solve 95 = .ok (.aload_n 0, 1) := by decide +kernel
theorem d_House_solve_96 : decode b_House_solve 96 = .ok (.getfield 74, 3) := by decide +kernel
theorem d_House_solve_99 : decode b_House_solve 99 = .ok (.invokevirtual 174, 3) := by decide +kernel
theorem d_House_solve_102 : decode b_House_solve 102 = .ok (.aload_n 0, 1) := by decide +kernel
theorem d_House_solve_103 : decode b_House_solve 103 = .ok (.iconst 0, 1) := by decide +kernel
theorem d_House_solve_104 : decode b_House_solve 104 = .ok (.putfield 277, 3) := by decide +kernel
theorem d_House_solve_107 : decode b_House_solve 107 = .ok (.iconst 0, 1) := by decide +kernel
theorem d_House_solve_108 : decode b_House_solve 108 = .ok (.istore_n 2, 1) := by decide +kernel
theorem d_House_solve_109 : decode b_House_solve 109 = .ok (.iconst 0, 1) := by decide +kernel
theorem d_House_solve_110 : decode b_House_solve 110 = .ok (.istore_n 3, 1) := by decide +kernel
theorem d_House_solve_111 : decode b_House_solve 111 = .ok (.iload_n 3, 1) := by decide +kernel
theorem d_House_solve_112 : decode b_House_solve 112 = .ok (.iconst 2, 1) := by decide +kernel
theorem d_House_solve_113 : decode b_House_solve 113 = .ok (.aload_n 0, 1) := by decide +kernel
theorem d_House_solve_114 : decode b_House_solve 114 = .ok (.getfield 74, 3) := by decide +kernel
theorem d_House_solve_117 : decode b_House_solve 117 = .ok (.getfield 177, 3) := by decide +kernel
theorem d_House_solve_120 : decode b_House_solve 120 = .ok (.imul, 1) := by decide +kernel
theorem d_House_solve_121 : decode b_House_solve 121 = .ok (.if_icmp .gt 109, 3) := by decide +kernel
theorem d_House_solve_124 : decode b_House_solve 124 = .ok (.aload_n 0, 1) := by decide +kernel
theorem d_House_solve_125 : decode b_House_solve 125 = .ok (.getfield 74, 3) := by decide +kernel
theorem d_House_solve_128 : decode b_House_solve 128 = .ok (.iload_n 3, 1) := by decide +kernel
theorem d_House_solve_129 : decode b_House_solve 129 = .ok (.aload_n 0, 1) := by decide +kernel
theorem d_House_solve_130 : decode b_House_solve 130 = .ok (.getfield 67, 3) := by decide +kernel
theorem d_House_solve_133 : decode b_House_solve 133 = .ok (.invokevirtual 270, 3) := by decide +kernel
theorem d_House_solve_136 : decode b_House_solve 136 = .ok (.istore 4, 2) := by decide +kernel
theorem d_House_solve_138 : decode b_House_solve 138 = .ok (.iload 4, 2) := by decide +kernel
theorem d_House_solve_140 : decode b_House_solve 140 = .ok (.ifCond .eq 56, 3) := by decide +kernel
theorem d_House_solve_143 : decode b_House_solve 143 = .ok (.iload_n 2, 1) := by decide +kernel
theorem d_House_solve_144 : decode b_House_solve 144 = .ok (.ifCond .ne 52, 3) := by decide +kernel
theorem d_House_solve_147 : decode b_House_solve 147 = .ok (.aload_n 0, 1) := by decide +kernel
theorem d_House_solve_148 : decode b_House_solve 148 = .ok (.getfield 40, 3) := by decide +kernel
theorem d_House_solve_151 : decode b_House_solve 151 = .ok (.iconst 2, 1) := by decide +kernel
theorem d_House_solve_152 : decode b_House_solve 152 = .ok (.aload_n 0, 1) := by decide +kernel
theorem d_House_solve_153 : decode b_House_solve 153 = .ok (.getfield 277, 3) := by decide +kernel
theorem d_House_solve_156 : decode b_House_solve 156 = .ok (.imul, 1) := by decide +kernel
theorem d_House_solve_157 : decode b_House_solve 157 = .ok (.iload_n 3, 1) := by decide +kernel
theorem d_House_solve_158 : decode b_House_solve 158 = .ok (.iconst 2, 1) := by decide +kernel
theorem d_House_solve_159 : decode b_House_solve 159 = .ok (.irem, 1) := by decide +kernel
theorem d_House_solve_160 : decode b_House_solve 160 = .ok (.iconst 1, 1) := by decide +kernel
theorem d_House_solve_161 : decode b_House_solve 161 = .ok (.if_icmp .ne 7, 3) := by decide +kernel
theorem d_House_solve_164 : decode b_House_solve 164 = .ok (.iload_n 3, 1) := by decide +kernel
theorem d_House_solve_165 : decode b_House_solve 165 = .ok (.goto 6, 3) := by decide +kernel
theorem d_House_solve_168 : decode b_House_solve 168 = .ok (.iload_n 3, 1) := by decide +kernel
theorem d_House_solve_169 : decode b_House_solve 169 = .ok (.iconst 2, 1) := by decide +kernel
theorem d_House_solve_170 : decode b_House_solve 170 = .ok (.isub, 1) := by decide +kernel
theorem d_House_solve_171 : decode b_House_solve 171 = .ok (.iastore, 1) := by decide +kernel
theorem d_House_solve_172 : decode b_House_solve 172 = .ok (.aload_n 0, 1) := by decide +kernel
theorem d_House_solve_173 : decode b_House_solve 173 = .ok (.getfield 40, 3) := by decide +kernel
theorem d_House_solve_176 : decode b_House_solve 176 = .ok (.iconst 2, 1) := by decide +kernel
theorem d_House_solve_177 : decode b_House_solve 177 = .ok (.aload_n 0, 1) := by decide +kernel
theorem d_House_solve_178 : decode b_House_solve 178 = .ok (.getfield 277, 3) := by decide +kernel
theorem d_House_solve_181 : decode b_House_solve 181 = .ok (.imul, 1) := by decide +kernel
theorem d_House_solve_182 : decode b_House_solve 182 = .ok (.iconst 1, 1) := by decide +kernel
theorem d_House_solve_183 : decode b_House_solve 183 = .ok (.iadd, 1) := by decide +kernel
theorem d_House_solve_184 : decode b_House_solve 184 = .ok (.iconst (-1), 1) := by decide +kernel
theorem d_House_solve_185 : decode b_House_solve 185 = .ok (.iastore, 1) := by decide +kernel
theorem d_House_solve_186 : decode b_House_solve 186 = .ok (.aload_n 0, 1) := by decide +kernel
theorem d_House_solve_187 : decode b_House_solve 187 = .ok (.dup, 1) := by decide +kernel
theorem d_House_solve_188 : decode b_House_solve 188 = .ok (.getfield 277, 3) := by decide +kernel
theorem d_House_solve_191 : decode b_House_solve 191 = .ok (.iconst 1, 1) := by decide +kernel
theorem d_House_solve_192 : decode b_House_solve 192 = .ok (.iadd, 1) := by decide +kernel
theorem d_House_solve_193 : decode b_House_solve 193 = .ok (.putfield 277, 3) := by decide +kernel
theorem d_House_solve_196 : decode b_House_solve 196 = .ok (.iload_n 2, 1) := by decide +kernel
theorem d_House_solve_197 : decode b_House_solve 197 = .ok (.ifCond .eq 24, 3) := by decide +kernel
theorem d_House_solve_200 : decode b_House_solve 200 = .ok (.iload 4, 2) := by decide +kernel
theorem d_House_solve_202 : decode b_House_solve 202 = .ok (.ifCond .ne 19, 3) := by decide +kernel
theorem d_House_solve_205 : decode b_House_solve 205 = .ok (.aload_n 0, 1) := by decide +kernel
theorem d_House_solve_206 : decode b_House_solve 206 = .ok (.getfield 40, 3) := by decide +kernel
theorem d_House_solve_209 : decode b_House_solve 209 = .ok (.iconst 2, 1) := by decide +kernel
theorem d_House_solve_210 : decode b_House_solve 210 = .ok (.aload_n 0, 1) := by decide +kernel
theorem d_House_solve_211 : decode b_House_solve 211 = .ok (.getfield 277, 3) := by decide +kernel
theorem d_House_solve_214 : decode b_House_solve 214 = .ok (.imul, 1) := by decide +kernel
theorem d_House_solve_215 : decode b_House_solve 215 = .ok (.iconst 1, 1) := by decide +kernel
theorem d_House_solve_216 : decode b_House_solve 216 = .ok (.isub, 1) := by decide +kernel
theorem d_House_solve_217 : decode b_House_solve 217 = .ok (.iload_n 3, 1) := by decide +kernel
theorem d_House_solve_218 : decode b_House_solve 218 = .ok (.iconst 1, 1) := by decide +kernel
theorem d_House_solve_219 : decode b_House_solve 219 = .ok (.isub, 1) := by decide +kernel
theorem d_House_solve_220 : decode b_House_solve 220 = .ok (.iastore, 1) := by decide +kernel
theorem d_House_solve_221 : decode b_House_solve 221 = .ok (.iload 4, 2) := by decide +kernel
theorem d_House_solve_223 : decode b_House_solve 223 = .ok (.istore_n 2, 1) := by decide +kernel
theorem d_House_solve_224 : decode b_House_solve 224 = .ok (.iinc 3 1, 3) := by decide +kernel
theorem d_House_solve_227 : decode b_House_solve 227 = .ok (.goto (-116), 3) := by decide +kernel
theorem d_House_solve_230 : decode b_House_solve 230 = .ok (.iconst 0, 1) := by decide +kernel
theorem d_House_solve_231 : decode b_House_solve 231 = .ok (.istore_n 3, 1) := by decide +kernel
theorem d_House_solve_232 : decode b_House_solve 232 = .ok (.iload_n 3, 1) := by decide +kernel
theorem d_House_solve_233 : decode b_House_solve 233 = .ok (.aload_n 0, 1) := by decide +kernel
theorem d_House_solve_234 : decode b_House_solve 234 = .ok (.getfield 74, 3) := by decide +kernel
theorem d_House_solve_237 : decode b_House_solve 237 = .ok (.getfield 177, 3) := by decide +kernel
theorem d_House_solve_240 : decode b_House_solve 240 = .ok (.if_icmp .ge 27, 3) := by decide +kernel
theorem d_House_solve_243 : decode b_House_solve 243 = .ok (.aload_n 0, 1) := by decide +kernel
theorem d_House_solve_244 : decode b_House_solve 244 = .ok (.aload_n 0, 1) := by decide +kernel
theorem d_House_solve_245 : decode b_House_solve 245 = .ok (.getfield 37, 3) := by decide +kernel
theorem d_House_solve_248 : decode b_House_solve 248 = .ok (.iload_n 3, 1) := by decide +kernel
theorem d_House_solve_249 : decode b_House_solve 249 = .ok (.aload_n 0, 1) := by decide +kernel
theorem d_House_solve_250 : decode b_House_solve 250 = .ok (.getfield 74, 3) := by decide +kernel
theorem d_House_solve_253 : decode b_House_solve 253 = .ok (.getfield 183, 3) := by decide +kernel
theorem d_House_solve_256 : decode b_House_solve 256 = .ok (.iload_n 3, 1) := by decide +kernel
theorem d_House_solve_257 : decode b_House_solve 257 = .ok (.aaload, 1) := by decide +kernel
theorem d_House_solve_258 : decode b_House_solve 258 = .ok (.invokevirtual 186, 3) := by decide +kernel
theorem d_House_solve_261 : decode b_House_solve 261 = .ok (.iinc 3 1, 3) := by decide +kernel
theorem d_House_solve_264 : decode b_House_solve 264 = .ok (.goto (-32), 3) := by decide +kernel
theorem d_House_solve_267 : decode b_House_solve 267 = .ok (.aload_n 0, 1) := by decide +kernel
theorem d_House_solve_268 : decode b_House_solve 268 = .ok (.getfield 277, 3) := by decide +kernel
theorem d_House_solve_271 : decode b_House_solve 271 = .ok (.ireturn, 1) := by decide +kernel
set_option maxHeartbeats 4000000 in
set_option maxRecDepth 100000 in
/-- times on a fresh house -/
theorem c_House_times_0 (l : Launch) (dC : Nat → ClassId) (dI : Nat → Nat → Nat) (sz : Nat) (h0 : Nat) (x_desk : Nat) (x_reader : Nat) (x_cells : Nat) (x_tape : Nat) (x_script : Nat) (x_rootAt : Nat) (x_rootTimes : Nat) (x_spotX : Nat) (x_spotY : Nat) (x_bond : Nat) (x_end : Nat) (x_span : Nat) (x_part : Nat) (x_partPower : Nat) (x_kept : Nat) (a1 : Int32)  : Met l y_House_times w_House_times ({ frames := 0, cells := 0, slots := 0, locals := 0 }) (va_Pc [.ref h0, .int a1] (fun U => U.heap.size = sz ∧ va_P (dC, dI) classes [(h0, .inr (11, [.ref x_desk, .ref x_reader, .ref x_cells, .ref x_tape, .int 0, .ref x_script, .int 0, .ref x_rootAt, .ref x_rootTimes, .int 0, .ref x_spotX, .ref x_spotY, .ref x_bond, .int 0, .ref x_end, .ref x_span, .int 0, .ref x_part, .ref x_partPower, .int 0, .ref x_kept]))] U.heap ∧ va_K (dC, dI) classes [] U ∧ va_D (fun _ => True) [(h0, .inr (11, [.ref x_desk, .ref x_reader, .ref x_cells, .ref x_tape, .int 0, .ref x_script, .int 0, .ref x_rootAt, .ref x_rootTimes, .int 0, .ref x_spotX, .ref x_spotY, .ref x_bond, .int 0, .ref x_end, .ref x_span, .int 0, .ref x_part, .ref x_partPower, .int 0, .ref x_kept]))] ∧ nx_K U)) (va_Qi (fun (r : Int32) (_ : Unit) => r = (-1)) (fun _ t => va_P (dC, dI) classes [] t.heap ∧ va_K (dC, dI) classes [] t ∧ va_D (va_A [(h0, .inr (11, [.ref x_desk, .ref x_reader, .ref x_cells, .ref x_tape, .int 0, .ref x_script, .int 0, .ref x_rootAt, .ref x_rootTimes, .int 0, .ref x_spotX, .ref x_spotY, .ref x_bond, .int 0, .ref x_end, .ref x_span, .int 0, .ref x_part, .ref x_partPower, .int 0, .ref x_kept]))] sz) []) (va_A [(h0, .inr (11, [.ref x_desk, .ref x_reader, .ref x_cells, .ref x_tape, .int 0, .ref x_script, .int 0, .ref x_rootAt, .ref x_rootTimes, .int 0, .ref x_spotX, .ref x_spotY, .ref x_bond, .int 0, .ref x_end, .ref x_span, .int 0, .ref x_part, .ref x_partPower, .int 0, .ref x_kept]))] sz)) 0 0 (va_A [(h0, .inr (11, [.ref x_desk, .ref x_reader, .ref x_cells, .ref x_tape, .int 0, .ref x_script, .int 0, .ref x_rootAt, .ref x_rootTimes, .int 0, .ref x_spotX, .ref x_spotY, .ref x_bond, .int 0, .ref x_end, .ref x_span, .int 0, .ref x_part, .ref x_partPower, .int 0, .ref x_kept]))] sz) := by
  refine Met.ofW (cc := b_House_times) (maxL := 2) (ret := (some .int)) (by decide) rfl ?_
  intro p e s m args below meth c s₁ B hml hv
  obtain ⟨rfl, hsz, hP, hK, hD0, hN⟩ := hv
  have hx := B.exec
  have hb := B.bytes
  have hr := B.returns
  have hT : ∀ w ∈ lw_g, w.before _ s = true := fun w h => atoms_spec (ws := w_House_times) B.pre w (List.mem_cons_of_mem _ h)
  have hown : s.vm.findClass R_House = some m.cls := findClass_of_methodNamed B.named
  have hlocks := B.notSynchronized
  subst hsz
  have hD := hD0.self (sz := s.heap.size)
  generalize hAe : va_A [(h0, .inr (11, [.ref x_desk, .ref x_reader, .ref x_cells, .ref x_tape, .int 0, .ref x_script, .int 0, .ref x_rootAt, .ref x_rootTimes, .int 0, .ref x_spotX, .ref x_spotY, .ref x_bond, .int 0, .ref x_end, .ref x_span, .int 0, .ref x_part, .ref x_partPower, .int 0, .ref x_kept]))] s.heap.size = A at hD ⊢
  have hA : ∀ q : Nat, s.heap.size ≤ q → A q := fun q h => by rw [← hAe]; exact Or.inr h
  have hS : va_S A s.heap s.heap [] := va_S.rf
  have hP : va_P (dC, dI) classes [(h0, .inr (11, [.ref x_desk, .ref x_reader, .ref x_cells, .ref x_tape, .int 0, .ref x_script, .int 0, .ref x_rootAt, .ref x_rootTimes, .int 0, .ref x_spotX, .ref x_spotY, .ref x_bond, .int 0, .ref x_end, .ref x_span, .int 0, .ref x_part, .ref x_partPower, .int 0, .ref x_kept]))] s.heap := hP
  have hl := lv_entry ([.ref h0, .int a1]) (n := 2) (Nat.le_of_ble_eq_true rfl)
  rw [lg_entry_eq]
  generalize (lg_sl ([.ref h0, .int a1]) ++ List.replicate (2 - (lg_sl ([.ref h0, .int a1])).length) Slot.unset).toArray = ls at hl ⊢
  have hl : lv_has ls 2 [(0, .ref h0), (1, .int a1)] := hl
  refine lv_iload_n hx hb d_House_times_0 rfl (lv_at hl 1 rfl) ?_
  refine lv_if_lt (tgt := 21) hx hb d_House_times_1 (by decide) (fun c_1 => ?_) (fun c_1 => ?_)
  · refine lv_iconst (v := (-1)) hx hb d_House_times_21 (by decide) ?_
    have hP9 := hP.sub (ws' := []) [] rfl
    have hD9 := hD.sub (ws' := []) [] (by decide) rfl
    have hK9 := hK.sub (tys' := []) [] rfl
    exact W.iret (v := (-1)) hx hb hr (fun t ht hW => ⟨⟨(-1), (), rfl, rfl, by rw [ht]; exact hP9, va_K.moved hW.alike hK9, hD9⟩, hS.F ht⟩) hS.2.2 d_House_times_22
  · refine lv_iload_n hx hb d_House_times_4 rfl (lv_at hl 1 rfl) ?_
    refine lv_aload_n hx hb d_House_times_5 rfl (lv_at hl 0 rfl) ?_
    refine va_get (D := (dC, dI)) (ci := 11) (v := .int 0) (C := R_House) (T := F_House) (N := 21) hx hb hT i_House hown hK hP 0 rfl rfl 9 (by decide) (hT _ tw_624) (fun _ h9 => h9) rfl d_House_times_6 ?_
    refine lv_icmp_ge (tgt := 21) hx hb d_House_times_9 (by decide) (fun c_2 => ?_) (fun c_2 => absurd (Int32.not_lt.mp c_1) c_2)
    refine lv_iconst (v := (-1)) hx hb d_House_times_21 (by decide) ?_
    have hP9 := hP.sub (ws' := []) [] rfl
    have hD9 := hD.sub (ws' := []) [] (by decide) rfl
    have hK9 := hK.sub (tys' := []) [] rfl
    exact W.iret (v := (-1)) hx hb hr (fun t ht hW => ⟨⟨(-1), (), rfl, rfl, by rw [ht]; exact hP9, va_K.moved hW.alike hK9, hD9⟩, hS.F ht⟩) hS.2.2 d_House_times_22

set_option maxHeartbeats 4000000 in
set_option maxRecDepth 100000 in
/-- root on a fresh house -/
theorem c_House_root_0 (l : Launch) (dC : Nat → ClassId) (dI : Nat → Nat → Nat) (sz : Nat) (h0 : Nat) (x_desk : Nat) (x_reader : Nat) (x_cells : Nat) (x_tape : Nat) (x_script : Nat) (x_rootAt : Nat) (x_rootTimes : Nat) (x_spotX : Nat) (x_spotY : Nat) (x_bond : Nat) (x_end : Nat) (x_span : Nat) (x_part : Nat) (x_partPower : Nat) (x_kept : Nat) (a1 : Int32) (a2 : Int32)  : Met l y_House_root w_House_root ({ frames := 0, cells := 0, slots := 0, locals := 0 }) (va_Pc [.ref h0, .int a1, .int a2] (fun U => U.heap.size = sz ∧ va_P (dC, dI) classes [(h0, .inr (11, [.ref x_desk, .ref x_reader, .ref x_cells, .ref x_tape, .int 0, .ref x_script, .int 0, .ref x_rootAt, .ref x_rootTimes, .int 0, .ref x_spotX, .ref x_spotY, .ref x_bond, .int 0, .ref x_end, .ref x_span, .int 0, .ref x_part, .ref x_partPower, .int 0, .ref x_kept]))] U.heap ∧ va_K (dC, dI) classes [] U ∧ va_D (fun _ => True) [(h0, .inr (11, [.ref x_desk, .ref x_reader, .ref x_cells, .ref x_tape, .int 0, .ref x_script, .int 0, .ref x_rootAt, .ref x_rootTimes, .int 0, .ref x_spotX, .ref x_spotY, .ref x_bond, .int 0, .ref x_end, .ref x_span, .int 0, .ref x_part, .ref x_partPower, .int 0, .ref x_kept]))] ∧ nx_K U)) (va_Qi (fun (r : Int32) (_ : Unit) => r = (-1)) (fun _ t => va_P (dC, dI) classes [] t.heap ∧ va_K (dC, dI) classes [] t ∧ va_D (va_A [(h0, .inr (11, [.ref x_desk, .ref x_reader, .ref x_cells, .ref x_tape, .int 0, .ref x_script, .int 0, .ref x_rootAt, .ref x_rootTimes, .int 0, .ref x_spotX, .ref x_spotY, .ref x_bond, .int 0, .ref x_end, .ref x_span, .int 0, .ref x_part, .ref x_partPower, .int 0, .ref x_kept]))] sz) []) (va_A [(h0, .inr (11, [.ref x_desk, .ref x_reader, .ref x_cells, .ref x_tape, .int 0, .ref x_script, .int 0, .ref x_rootAt, .ref x_rootTimes, .int 0, .ref x_spotX, .ref x_spotY, .ref x_bond, .int 0, .ref x_end, .ref x_span, .int 0, .ref x_part, .ref x_partPower, .int 0, .ref x_kept]))] sz)) 0 0 (va_A [(h0, .inr (11, [.ref x_desk, .ref x_reader, .ref x_cells, .ref x_tape, .int 0, .ref x_script, .int 0, .ref x_rootAt, .ref x_rootTimes, .int 0, .ref x_spotX, .ref x_spotY, .ref x_bond, .int 0, .ref x_end, .ref x_span, .int 0, .ref x_part, .ref x_partPower, .int 0, .ref x_kept]))] sz) := by
  refine Met.ofW (cc := b_House_root) (maxL := 3) (ret := (some .int)) (by decide) rfl ?_
  intro p e s m args below meth c s₁ B hml hv
  obtain ⟨rfl, hsz, hP, hK, hD0, hN⟩ := hv
  have hx := B.exec
  have hb := B.bytes
  have hr := B.returns
  have hT : ∀ w ∈ lw_g, w.before _ s = true := fun w h => atoms_spec (ws := w_House_root) B.pre w (List.mem_cons_of_mem _ h)
  have hown : s.vm.findClass R_House = some m.cls := findClass_of_methodNamed B.named
  have hlocks := B.notSynchronized
  subst hsz
  have hD := hD0.self (sz := s.heap.size)
  generalize hAe : va_A [(h0, .inr (11, [.ref x_desk, .ref x_reader, .ref x_cells, .ref x_tape, .int 0, .ref x_script, .int 0, .ref x_rootAt, .ref x_rootTimes, .int 0, .ref x_spotX, .ref x_spotY, .ref x_bond, .int 0, .ref x_end, .ref x_span, .int 0, .ref x_part, .ref x_partPower, .int 0, .ref x_kept]))] s.heap.size = A at hD ⊢
  have hA : ∀ q : Nat, s.heap.size ≤ q → A q := fun q h => by rw [← hAe]; exact Or.inr h
  have hS : va_S A s.heap s.heap [] := va_S.rf
  have hP : va_P (dC, dI) classes [(h0, .inr (11, [.ref x_desk, .ref x_reader, .ref x_cells, .ref x_tape, .int 0, .ref x_script, .int 0, .ref x_rootAt, .ref x_rootTimes, .int 0, .ref x_spotX, .ref x_spotY, .ref x_bond, .int 0, .ref x_end, .ref x_span, .int 0, .ref x_part, .ref x_partPower, .int 0, .ref x_kept]))] s.heap := hP
  have hl := lv_entry ([.ref h0, .int a1, .int a2]) (n := 3) (Nat.le_of_ble_eq_true rfl)
  rw [lg_entry_eq]
  generalize (lg_sl ([.ref h0, .int a1, .int a2]) ++ List.replicate (3 - (lg_sl ([.ref h0, .int a1, .int a2])).length) Slot.unset).toArray = ls at hl ⊢
  have hl : lv_has ls 3 [(0, .ref h0), (1, .int a1), (2, .int a2)] := hl
  refine lv_iload_n hx hb d_House_root_0 rfl (lv_at hl 1 rfl) ?_
  refine lv_if_lt (tgt := 26) hx hb d_House_root_1 (by decide) (fun c_1 => ?_) (fun c_1 => ?_)
  · refine lv_iconst (v := (-1)) hx hb d_House_root_26 (by decide) ?_
    have hP9 := hP.sub (ws' := []) [] rfl
    have hD9 := hD.sub (ws' := []) [] (by decide) rfl
    have hK9 := hK.sub (tys' := []) [] rfl
    exact W.iret (v := (-1)) hx hb hr (fun t ht hW => ⟨⟨(-1), (), rfl, rfl, by rw [ht]; exact hP9, va_K.moved hW.alike hK9, hD9⟩, hS.F ht⟩) hS.2.2 d_House_root_27
  · refine lv_iload_n hx hb d_House_root_4 rfl (lv_at hl 1 rfl) ?_
    refine lv_aload_n hx hb d_House_root_5 rfl (lv_at hl 0 rfl) ?_
    refine va_get (D := (dC, dI)) (ci := 11) (v := .int 0) (C := R_House) (T := F_House) (N := 21) hx hb hT i_House hown hK hP 0 rfl rfl 9 (by decide) (hT _ tw_624) (fun _ h9 => h9) rfl d_House_root_6 ?_
    refine lv_icmp_ge (tgt := 26) hx hb d_House_root_9 (by decide) (fun c_2 => ?_) (fun c_2 => absurd (Int32.not_lt.mp c_1) c_2)
    refine lv_iconst (v := (-1)) hx hb d_House_root_26 (by decide) ?_
    have hP9 := hP.sub (ws' := []) [] rfl
    have hD9 := hD.sub (ws' := []) [] (by decide) rfl
    have hK9 := hK.sub (tys' := []) [] rfl
    exact W.iret (v := (-1)) hx hb hr (fun t ht hW => ⟨⟨(-1), (), rfl, rfl, by rw [ht]; exact hP9, va_K.moved hW.alike hK9, hD9⟩, hS.F ht⟩) hS.2.2 d_House_root_27

set_option maxHeartbeats 4000000 in
set_option maxRecDepth 100000 in
/-- signAt on a fresh house -/
theorem c_House_signAt_0 (l : Launch) (dC : Nat → ClassId) (dI : Nat → Nat → Nat) (sz : Nat) (h0 : Nat) (x_desk : Nat) (x_reader : Nat) (x_cells : Nat) (x_tape : Nat) (x_script : Nat) (x_rootAt : Nat) (x_rootTimes : Nat) (x_spotX : Nat) (x_spotY : Nat) (x_bond : Nat) (x_end : Nat) (x_span : Nat) (x_part : Nat) (x_partPower : Nat) (x_kept : Nat) (a1 : Int32) (a2 : Int32)  : Met l y_House_signAt w_House_signAt ({ frames := 0, cells := 0, slots := 0, locals := 0 }) (va_Pc [.ref h0, .int a1, .int a2] (fun U => U.heap.size = sz ∧ va_P (dC, dI) classes [(h0, .inr (11, [.ref x_desk, .ref x_reader, .ref x_cells, .ref x_tape, .int 0, .ref x_script, .int 0, .ref x_rootAt, .ref x_rootTimes, .int 0, .ref x_spotX, .ref x_spotY, .ref x_bond, .int 0, .ref x_end, .ref x_span, .int 0, .ref x_part, .ref x_partPower, .int 0, .ref x_kept]))] U.heap ∧ va_K (dC, dI) classes [] U ∧ va_D (fun _ => True) [(h0, .inr (11, [.ref x_desk, .ref x_reader, .ref x_cells, .ref x_tape, .int 0, .ref x_script, .int 0, .ref x_rootAt, .ref x_rootTimes, .int 0, .ref x_spotX, .ref x_spotY, .ref x_bond, .int 0, .ref x_end, .ref x_span, .int 0, .ref x_part, .ref x_partPower, .int 0, .ref x_kept]))] ∧ nx_K U)) (va_Qi (fun (r : Int32) (_ : Unit) => r = (-1)) (fun _ t => va_P (dC, dI) classes [] t.heap ∧ va_K (dC, dI) classes [] t ∧ va_D (va_A [(h0, .inr (11, [.ref x_desk, .ref x_reader, .ref x_cells, .ref x_tape, .int 0, .ref x_script, .int 0, .ref x_rootAt, .ref x_rootTimes, .int 0, .ref x_spotX, .ref x_spotY, .ref x_bond, .int 0, .ref x_end, .ref x_span, .int 0, .ref x_part, .ref x_partPower, .int 0, .ref x_kept]))] sz) []) (va_A [(h0, .inr (11, [.ref x_desk, .ref x_reader, .ref x_cells, .ref x_tape, .int 0, .ref x_script, .int 0, .ref x_rootAt, .ref x_rootTimes, .int 0, .ref x_spotX, .ref x_spotY, .ref x_bond, .int 0, .ref x_end, .ref x_span, .int 0, .ref x_part, .ref x_partPower, .int 0, .ref x_kept]))] sz)) 0 0 (va_A [(h0, .inr (11, [.ref x_desk, .ref x_reader, .ref x_cells, .ref x_tape, .int 0, .ref x_script, .int 0, .ref x_rootAt, .ref x_rootTimes, .int 0, .ref x_spotX, .ref x_spotY, .ref x_bond, .int 0, .ref x_end, .ref x_span, .int 0, .ref x_part, .ref x_partPower, .int 0, .ref x_kept]))] sz) := by
  refine Met.ofW (cc := b_House_signAt) (maxL := 4) (ret := (some .int)) (by decide) rfl ?_
  intro p e s m args below meth c s₁ B hml hv
  obtain ⟨rfl, hsz, hP, hK, hD0, hN⟩ := hv
  have hx := B.exec
  have hb := B.bytes
  have hr := B.returns
  have hT : ∀ w ∈ lw_g, w.before _ s = true := fun w h => atoms_spec (ws := w_House_signAt) B.pre w (List.mem_cons_of_mem _ h)
  have hown : s.vm.findClass R_House = some m.cls := findClass_of_methodNamed B.named
  have hlocks := B.notSynchronized
  subst hsz
  have hD := hD0.self (sz := s.heap.size)
  generalize hAe : va_A [(h0, .inr (11, [.ref x_desk, .ref x_reader, .ref x_cells, .ref x_tape, .int 0, .ref x_script, .int 0, .ref x_rootAt, .ref x_rootTimes, .int 0, .ref x_spotX, .ref x_spotY, .ref x_bond, .int 0, .ref x_end, .ref x_span, .int 0, .ref x_part, .ref x_partPower, .int 0, .ref x_kept]))] s.heap.size = A at hD ⊢
  have hA : ∀ q : Nat, s.heap.size ≤ q → A q := fun q h => by rw [← hAe]; exact Or.inr h
  have hS : va_S A s.heap s.heap [] := va_S.rf
  have hP : va_P (dC, dI) classes [(h0, .inr (11, [.ref x_desk, .ref x_reader, .ref x_cells, .ref x_tape, .int 0, .ref x_script, .int 0, .ref x_rootAt, .ref x_rootTimes, .int 0, .ref x_spotX, .ref x_spotY, .ref x_bond, .int 0, .ref x_end, .ref x_span, .int 0, .ref x_part, .ref x_partPower, .int 0, .ref x_kept]))] s.heap := hP
  have hl := lv_entry ([.ref h0, .int a1, .int a2]) (n := 4) (Nat.le_of_ble_eq_true rfl)
  rw [lg_entry_eq]
  generalize (lg_sl ([.ref h0, .int a1, .int a2]) ++ List.replicate (4 - (lg_sl ([.ref h0, .int a1, .int a2])).length) Slot.unset).toArray = ls at hl ⊢
  have hl : lv_has ls 4 [(0, .ref h0), (1, .int a1), (2, .int a2)] := hl
  refine lv_iload_n hx hb d_House_signAt_0 rfl (lv_at hl 1 rfl) ?_
  refine lv_if_lt (tgt := 12) hx hb d_House_signAt_1 (by decide) (fun c_1 => ?_) (fun c_1 => ?_)
  · refine lv_iconst (v := (-1)) hx hb d_House_signAt_12 (by decide) ?_
    have hP9 := hP.sub (ws' := []) [] rfl
    have hD9 := hD.sub (ws' := []) [] (by decide) rfl
    have hK9 := hK.sub (tys' := []) [] rfl
    exact W.iret (v := (-1)) hx hb hr (fun t ht hW => ⟨⟨(-1), (), rfl, rfl, by rw [ht]; exact hP9, va_K.moved hW.alike hK9, hD9⟩, hS.F ht⟩) hS.2.2 d_House_signAt_13
  · refine lv_iload_n hx hb d_House_signAt_4 rfl (lv_at hl 1 rfl) ?_
    refine lv_aload_n hx hb d_House_signAt_5 rfl (lv_at hl 0 rfl) ?_
    refine va_get (D := (dC, dI)) (ci := 11) (v := .int 0) (C := R_House) (T := F_House) (N := 21) hx hb hT i_House hown hK hP 0 rfl rfl 9 (by decide) (hT _ tw_624) (fun _ h9 => h9) rfl d_House_signAt_6 ?_
    refine lv_icmp_lt (tgt := 14) hx hb d_House_signAt_9 (by decide) (fun c_2 => absurd c_2 c_1) (fun c_2 => ?_)
    refine lv_iconst (v := (-1)) hx hb d_House_signAt_12 (by decide) ?_
    have hP9 := hP.sub (ws' := []) [] rfl
    have hD9 := hD.sub (ws' := []) [] (by decide) rfl
    have hK9 := hK.sub (tys' := []) [] rfl
    exact W.iret (v := (-1)) hx hb hr (fun t ht hW => ⟨⟨(-1), (), rfl, rfl, by rw [ht]; exact hP9, va_K.moved hW.alike hK9, hD9⟩, hS.F ht⟩) hS.2.2 d_House_signAt_13

set_option maxHeartbeats 4000000 in
set_option maxRecDepth 100000 in
/-- below on a fresh house -/
theorem c_House_below_0 (l : Launch) (dC : Nat → ClassId) (dI : Nat → Nat → Nat) (sz : Nat) (h0 : Nat) (x_desk : Nat) (x_reader : Nat) (x_cells : Nat) (x_tape : Nat) (x_script : Nat) (x_rootAt : Nat) (x_rootTimes : Nat) (x_spotX : Nat) (x_spotY : Nat) (x_bond : Nat) (x_end : Nat) (x_span : Nat) (x_part : Nat) (x_partPower : Nat) (x_kept : Nat) (a1 : Int32) (a2 : Int32)  : Met l y_House_below w_House_below ({ frames := 0, cells := 0, slots := 0, locals := 0 }) (va_Pc [.ref h0, .int a1, .int a2] (fun U => U.heap.size = sz ∧ va_P (dC, dI) classes [(h0, .inr (11, [.ref x_desk, .ref x_reader, .ref x_cells, .ref x_tape, .int 0, .ref x_script, .int 0, .ref x_rootAt, .ref x_rootTimes, .int 0, .ref x_spotX, .ref x_spotY, .ref x_bond, .int 0, .ref x_end, .ref x_span, .int 0, .ref x_part, .ref x_partPower, .int 0, .ref x_kept]))] U.heap ∧ va_K (dC, dI) classes [] U ∧ va_D (fun _ => True) [(h0, .inr (11, [.ref x_desk, .ref x_reader, .ref x_cells, .ref x_tape, .int 0, .ref x_script, .int 0, .ref x_rootAt, .ref x_rootTimes, .int 0, .ref x_spotX, .ref x_spotY, .ref x_bond, .int 0, .ref x_end, .ref x_span, .int 0, .ref x_part, .ref x_partPower, .int 0, .ref x_kept]))] ∧ nx_K U)) (va_Qi (fun (r : Int32) (_ : Unit) => r = (-1)) (fun _ t => va_P (dC, dI) classes [] t.heap ∧ va_K (dC, dI) classes [] t ∧ va_D (va_A [(h0, .inr (11, [.ref x_desk, .ref x_reader, .ref x_cells, .ref x_tape, .int 0, .ref x_script, .int 0, .ref x_rootAt, .ref x_rootTimes, .int 0, .ref x_spotX, .ref x_spotY, .ref x_bond, .int 0, .ref x_end, .ref x_span, .int 0, .ref x_part, .ref x_partPower, .int 0, .ref x_kept]))] sz) []) (va_A [(h0, .inr (11, [.ref x_desk, .ref x_reader, .ref x_cells, .ref x_tape, .int 0, .ref x_script, .int 0, .ref x_rootAt, .ref x_rootTimes, .int 0, .ref x_spotX, .ref x_spotY, .ref x_bond, .int 0, .ref x_end, .ref x_span, .int 0, .ref x_part, .ref x_partPower, .int 0, .ref x_kept]))] sz)) 0 0 (va_A [(h0, .inr (11, [.ref x_desk, .ref x_reader, .ref x_cells, .ref x_tape, .int 0, .ref x_script, .int 0, .ref x_rootAt, .ref x_rootTimes, .int 0, .ref x_spotX, .ref x_spotY, .ref x_bond, .int 0, .ref x_end, .ref x_span, .int 0, .ref x_part, .ref x_partPower, .int 0, .ref x_kept]))] sz) := by
  refine Met.ofW (cc := b_House_below) (maxL := 6) (ret := (some .int)) (by decide) rfl ?_
  intro p e s m args below meth c s₁ B hml hv
  obtain ⟨rfl, hsz, hP, hK, hD0, hN⟩ := hv
  have hx := B.exec
  have hb := B.bytes
  have hr := B.returns
  have hT : ∀ w ∈ lw_g, w.before _ s = true := fun w h => atoms_spec (ws := w_House_below) B.pre w (List.mem_cons_of_mem _ h)
  have hown : s.vm.findClass R_House = some m.cls := findClass_of_methodNamed B.named
  have hlocks := B.notSynchronized
  subst hsz
  have hD := hD0.self (sz := s.heap.size)
  generalize hAe : va_A [(h0, .inr (11, [.ref x_desk, .ref x_reader, .ref x_cells, .ref x_tape, .int 0, .ref x_script, .int 0, .ref x_rootAt, .ref x_rootTimes, .int 0, .ref x_spotX, .ref x_spotY, .ref x_bond, .int 0, .ref x_end, .ref x_span, .int 0, .ref x_part, .ref x_partPower, .int 0, .ref x_kept]))] s.heap.size = A at hD ⊢
  have hA : ∀ q : Nat, s.heap.size ≤ q → A q := fun q h => by rw [← hAe]; exact Or.inr h
  have hS : va_S A s.heap s.heap [] := va_S.rf
  have hP : va_P (dC, dI) classes [(h0, .inr (11, [.ref x_desk, .ref x_reader, .ref x_cells, .ref x_tape, .int 0, .ref x_script, .int 0, .ref x_rootAt, .ref x_rootTimes, .int 0, .ref x_spotX, .ref x_spotY, .ref x_bond, .int 0, .ref x_end, .ref x_span, .int 0, .ref x_part, .ref x_partPower, .int 0, .ref x_kept]))] s.heap := hP
  have hl := lv_entry ([.ref h0, .int a1, .int a2]) (n := 6) (Nat.le_of_ble_eq_true rfl)
  rw [lg_entry_eq]
  generalize (lg_sl ([.ref h0, .int a1, .int a2]) ++ List.replicate (6 - (lg_sl ([.ref h0, .int a1, .int a2])).length) Slot.unset).toArray = ls at hl ⊢
  have hl : lv_has ls 6 [(0, .ref h0), (1, .int a1), (2, .int a2)] := hl
  refine lv_iload_n hx hb d_House_below_0 rfl (lv_at hl 1 rfl) ?_
  refine lv_if_lt (tgt := 12) hx hb d_House_below_1 (by decide) (fun c_1 => ?_) (fun c_1 => ?_)
  · refine lv_iconst (v := (-1)) hx hb d_House_below_12 (by decide) ?_
    have hP9 := hP.sub (ws' := []) [] rfl
    have hD9 := hD.sub (ws' := []) [] (by decide) rfl
    have hK9 := hK.sub (tys' := []) [] rfl
    exact W.iret (v := (-1)) hx hb hr (fun t ht hW => ⟨⟨(-1), (), rfl, rfl, by rw [ht]; exact hP9, va_K.moved hW.alike hK9, hD9⟩, hS.F ht⟩) hS.2.2 d_House_below_13
  · refine lv_iload_n hx hb d_House_below_4 rfl (lv_at hl 1 rfl) ?_
    refine lv_aload_n hx hb d_House_below_5 rfl (lv_at hl 0 rfl) ?_
    refine va_get (D := (dC, dI)) (ci := 11) (v := .int 0) (C := R_House) (T := F_House) (N := 21) hx hb hT i_House hown hK hP 0 rfl rfl 9 (by decide) (hT _ tw_624) (fun _ h9 => h9) rfl d_House_below_6 ?_
    refine lv_icmp_lt (tgt := 14) hx hb d_House_below_9 (by decide) (fun c_2 => absurd c_2 c_1) (fun c_2 => ?_)
    refine lv_iconst (v := (-1)) hx hb d_House_below_12 (by decide) ?_
    have hP9 := hP.sub (ws' := []) [] rfl
    have hD9 := hD.sub (ws' := []) [] (by decide) rfl
    have hK9 := hK.sub (tys' := []) [] rfl
    exact W.iret (v := (-1)) hx hb hr (fun t ht hW => ⟨⟨(-1), (), rfl, rfl, by rw [ht]; exact hP9, va_K.moved hW.alike hK9, hD9⟩, hS.F ht⟩) hS.2.2 d_House_below_13

set_option maxHeartbeats 4000000 in
set_option maxRecDepth 100000 in
/-- point on a fresh house -/
theorem c_House_point_0 (l : Launch) (dC : Nat → ClassId) (dI : Nat → Nat → Nat) (sz : Nat) (h0 : Nat) (x_desk : Nat) (x_reader : Nat) (x_cells : Nat) (x_tape : Nat) (x_script : Nat) (x_rootAt : Nat) (x_rootTimes : Nat) (x_spotX : Nat) (x_spotY : Nat) (x_bond : Nat) (x_end : Nat) (x_span : Nat) (x_part : Nat) (x_partPower : Nat) (x_kept : Nat) (a1 : Int32) (a2 : Int32) (a3 : Int32)  : Met l y_House_point w_House_point ({ frames := 0, cells := 0, slots := 0, locals := 0 }) (va_Pc [.ref h0, .int a1, .int a2, .int a3] (fun U => U.heap.size = sz ∧ va_P (dC, dI) classes [(h0, .inr (11, [.ref x_desk, .ref x_reader, .ref x_cells, .ref x_tape, .int 0, .ref x_script, .int 0, .ref x_rootAt, .ref x_rootTimes, .int 0, .ref x_spotX, .ref x_spotY, .ref x_bond, .int 0, .ref x_end, .ref x_span, .int 0, .ref x_part, .ref x_partPower, .int 0, .ref x_kept]))] U.heap ∧ va_K (dC, dI) classes [] U ∧ va_D (fun _ => True) [(h0, .inr (11, [.ref x_desk, .ref x_reader, .ref x_cells, .ref x_tape, .int 0, .ref x_script, .int 0, .ref x_rootAt, .ref x_rootTimes, .int 0, .ref x_spotX, .ref x_spotY, .ref x_bond, .int 0, .ref x_end, .ref x_span, .int 0, .ref x_part, .ref x_partPower, .int 0, .ref x_kept]))] ∧ nx_K U)) (va_Qi (fun (r : Int32) (_ : Unit) => r = (-1)) (fun _ t => va_P (dC, dI) classes [] t.heap ∧ va_K (dC, dI) classes [] t ∧ va_D (va_A [(h0, .inr (11, [.ref x_desk, .ref x_reader, .ref x_cells, .ref x_tape, .int 0, .ref x_script, .int 0, .ref x_rootAt, .ref x_rootTimes, .int 0, .ref x_spotX, .ref x_spotY, .ref x_bond, .int 0, .ref x_end, .ref x_span, .int 0, .ref x_part, .ref x_partPower, .int 0, .ref x_kept]))] sz) []) (va_A [(h0, .inr (11, [.ref x_desk, .ref x_reader, .ref x_cells, .ref x_tape, .int 0, .ref x_script, .int 0, .ref x_rootAt, .ref x_rootTimes, .int 0, .ref x_spotX, .ref x_spotY, .ref x_bond, .int 0, .ref x_end, .ref x_span, .int 0, .ref x_part, .ref x_partPower, .int 0, .ref x_kept]))] sz)) 0 0 (va_A [(h0, .inr (11, [.ref x_desk, .ref x_reader, .ref x_cells, .ref x_tape, .int 0, .ref x_script, .int 0, .ref x_rootAt, .ref x_rootTimes, .int 0, .ref x_spotX, .ref x_spotY, .ref x_bond, .int 0, .ref x_end, .ref x_span, .int 0, .ref x_part, .ref x_partPower, .int 0, .ref x_kept]))] sz) := by
  refine Met.ofW (cc := b_House_point) (maxL := 4) (ret := (some .int)) (by decide) rfl ?_
  intro p e s m args below meth c s₁ B hml hv
  obtain ⟨rfl, hsz, hP, hK, hD0, hN⟩ := hv
  have hx := B.exec
  have hb := B.bytes
  have hr := B.returns
  have hT : ∀ w ∈ lw_g, w.before _ s = true := fun w h => atoms_spec (ws := w_House_point) B.pre w (List.mem_cons_of_mem _ h)
  have hown : s.vm.findClass R_House = some m.cls := findClass_of_methodNamed B.named
  have hlocks := B.notSynchronized
  subst hsz
  have hD := hD0.self (sz := s.heap.size)
  generalize hAe : va_A [(h0, .inr (11, [.ref x_desk, .ref x_reader, .ref x_cells, .ref x_tape, .int 0, .ref x_script, .int 0, .ref x_rootAt, .ref x_rootTimes, .int 0, .ref x_spotX, .ref x_spotY, .ref x_bond, .int 0, .ref x_end, .ref x_span, .int 0, .ref x_part, .ref x_partPower, .int 0, .ref x_kept]))] s.heap.size = A at hD ⊢
  have hA : ∀ q : Nat, s.heap.size ≤ q → A q := fun q h => by rw [← hAe]; exact Or.inr h
  have hS : va_S A s.heap s.heap [] := va_S.rf
  have hP : va_P (dC, dI) classes [(h0, .inr (11, [.ref x_desk, .ref x_reader, .ref x_cells, .ref x_tape, .int 0, .ref x_script, .int 0, .ref x_rootAt, .ref x_rootTimes, .int 0, .ref x_spotX, .ref x_spotY, .ref x_bond, .int 0, .ref x_end, .ref x_span, .int 0, .ref x_part, .ref x_partPower, .int 0, .ref x_kept]))] s.heap := hP
  have hl := lv_entry ([.ref h0, .int a1, .int a2, .int a3]) (n := 4) (Nat.le_of_ble_eq_true rfl)
  rw [lg_entry_eq]
  generalize (lg_sl ([.ref h0, .int a1, .int a2, .int a3]) ++ List.replicate (4 - (lg_sl ([.ref h0, .int a1, .int a2, .int a3])).length) Slot.unset).toArray = ls at hl ⊢
  have hl : lv_has ls 4 [(0, .ref h0), (1, .int a1), (2, .int a2), (3, .int a3)] := hl
  refine lv_iload_n hx hb d_House_point_0 rfl (lv_at hl 1 rfl) ?_
  refine lv_if_lt (tgt := 21) hx hb d_House_point_1 (by decide) (fun c_1 => ?_) (fun c_1 => ?_)
  · refine lv_iconst (v := (-1)) hx hb d_House_point_21 (by decide) ?_
    have hP9 := hP.sub (ws' := []) [] rfl
    have hD9 := hD.sub (ws' := []) [] (by decide) rfl
    have hK9 := hK.sub (tys' := []) [] rfl
    exact W.iret (v := (-1)) hx hb hr (fun t ht hW => ⟨⟨(-1), (), rfl, rfl, by rw [ht]; exact hP9, va_K.moved hW.alike hK9, hD9⟩, hS.F ht⟩) hS.2.2 d_House_point_22
  · refine lv_iload_n hx hb d_House_point_4 rfl (lv_at hl 1 rfl) ?_
    refine lv_aload_n hx hb d_House_point_5 rfl (lv_at hl 0 rfl) ?_
    refine va_get (D := (dC, dI)) (ci := 11) (v := .int 0) (C := R_House) (T := F_House) (N := 21) hx hb hT i_House hown hK hP 0 rfl rfl 13 (by decide) (hT _ tw_628) (fun _ h9 => h9) rfl d_House_point_6 ?_
    refine lv_icmp_ge (tgt := 21) hx hb d_House_point_9 (by decide) (fun c_2 => ?_) (fun c_2 => absurd (Int32.not_lt.mp c_1) c_2)
    refine lv_iconst (v := (-1)) hx hb d_House_point_21 (by decide) ?_
    have hP9 := hP.sub (ws' := []) [] rfl
    have hD9 := hD.sub (ws' := []) [] (by decide) rfl
    have hK9 := hK.sub (tys' := []) [] rfl
    exact W.iret (v := (-1)) hx hb hr (fun t ht hW => ⟨⟨(-1), (), rfl, rfl, by rw [ht]; exact hP9, va_K.moved hW.alike hK9, hD9⟩, hS.F ht⟩) hS.2.2 d_House_point_22

set_option maxHeartbeats 4000000 in
set_option maxRecDepth 100000 in
/-- signAtPoint on a fresh house -/
theorem c_House_signAtPoint_0 (l : Launch) (dC : Nat → ClassId) (dI : Nat → Nat → Nat) (sz : Nat) (h0 : Nat) (x_desk : Nat) (x_reader : Nat) (x_cells : Nat) (x_tape : Nat) (x_script : Nat) (x_rootAt : Nat) (x_rootTimes : Nat) (x_spotX : Nat) (x_spotY : Nat) (x_bond : Nat) (x_end : Nat) (x_span : Nat) (x_part : Nat) (x_partPower : Nat) (x_kept : Nat) (a1 : Int32) (a2 : Int32)  : Met l y_House_signAtPoint w_House_signAtPoint ({ frames := 0, cells := 0, slots := 0, locals := 0 }) (va_Pc [.ref h0, .int a1, .int a2] (fun U => U.heap.size = sz ∧ va_P (dC, dI) classes [(h0, .inr (11, [.ref x_desk, .ref x_reader, .ref x_cells, .ref x_tape, .int 0, .ref x_script, .int 0, .ref x_rootAt, .ref x_rootTimes, .int 0, .ref x_spotX, .ref x_spotY, .ref x_bond, .int 0, .ref x_end, .ref x_span, .int 0, .ref x_part, .ref x_partPower, .int 0, .ref x_kept]))] U.heap ∧ va_K (dC, dI) classes [] U ∧ va_D (fun _ => True) [(h0, .inr (11, [.ref x_desk, .ref x_reader, .ref x_cells, .ref x_tape, .int 0, .ref x_script, .int 0, .ref x_rootAt, .ref x_rootTimes, .int 0, .ref x_spotX, .ref x_spotY, .ref x_bond, .int 0, .ref x_end, .ref x_span, .int 0, .ref x_part, .ref x_partPower, .int 0, .ref x_kept]))] ∧ nx_K U)) (va_Qi (fun (r : Int32) (_ : Unit) => r = (-1)) (fun _ t => va_P (dC, dI) classes [] t.heap ∧ va_K (dC, dI) classes [] t ∧ va_D (va_A [(h0, .inr (11, [.ref x_desk, .ref x_reader, .ref x_cells, .ref x_tape, .int 0, .ref x_script, .int 0, .ref x_rootAt, .ref x_rootTimes, .int 0, .ref x_spotX, .ref x_spotY, .ref x_bond, .int 0, .ref x_end, .ref x_span, .int 0, .ref x_part, .ref x_partPower, .int 0, .ref x_kept]))] sz) []) (va_A [(h0, .inr (11, [.ref x_desk, .ref x_reader, .ref x_cells, .ref x_tape, .int 0, .ref x_script, .int 0, .ref x_rootAt, .ref x_rootTimes, .int 0, .ref x_spotX, .ref x_spotY, .ref x_bond, .int 0, .ref x_end, .ref x_span, .int 0, .ref x_part, .ref x_partPower, .int 0, .ref x_kept]))] sz)) 0 0 (va_A [(h0, .inr (11, [.ref x_desk, .ref x_reader, .ref x_cells, .ref x_tape, .int 0, .ref x_script, .int 0, .ref x_rootAt, .ref x_rootTimes, .int 0, .ref x_spotX, .ref x_spotY, .ref x_bond, .int 0, .ref x_end, .ref x_span, .int 0, .ref x_part, .ref x_partPower, .int 0, .ref x_kept]))] sz) := by
  refine Met.ofW (cc := b_House_signAtPoint) (maxL := 3) (ret := (some .int)) (by decide) rfl ?_
  intro p e s m args below meth c s₁ B hml hv
  obtain ⟨rfl, hsz, hP, hK, hD0, hN⟩ := hv
  have hx := B.exec
  have hb := B.bytes
  have hr := B.returns
  have hT : ∀ w ∈ lw_g, w.before _ s = true := fun w h => atoms_spec (ws := w_House_signAtPoint) B.pre w (List.mem_cons_of_mem _ h)
  have hown : s.vm.findClass R_House = some m.cls := findClass_of_methodNamed B.named
  have hlocks := B.notSynchronized
  subst hsz
  have hD := hD0.self (sz := s.heap.size)
  generalize hAe : va_A [(h0, .inr (11, [.ref x_desk, .ref x_reader, .ref x_cells, .ref x_tape, .int 0, .ref x_script, .int 0, .ref x_rootAt, .ref x_rootTimes, .int 0, .ref x_spotX, .ref x_spotY, .ref x_bond, .int 0, .ref x_end, .ref x_span, .int 0, .ref x_part, .ref x_partPower, .int 0, .ref x_kept]))] s.heap.size = A at hD ⊢
  have hA : ∀ q : Nat, s.heap.size ≤ q → A q := fun q h => by rw [← hAe]; exact Or.inr h
  have hS : va_S A s.heap s.heap [] := va_S.rf
  have hP : va_P (dC, dI) classes [(h0, .inr (11, [.ref x_desk, .ref x_reader, .ref x_cells, .ref x_tape, .int 0, .ref x_script, .int 0, .ref x_rootAt, .ref x_rootTimes, .int 0, .ref x_spotX, .ref x_spotY, .ref x_bond, .int 0, .ref x_end, .ref x_span, .int 0, .ref x_part, .ref x_partPower, .int 0, .ref x_kept]))] s.heap := hP
  have hl := lv_entry ([.ref h0, .int a1, .int a2]) (n := 3) (Nat.le_of_ble_eq_true rfl)
  rw [lg_entry_eq]
  generalize (lg_sl ([.ref h0, .int a1, .int a2]) ++ List.replicate (3 - (lg_sl ([.ref h0, .int a1, .int a2])).length) Slot.unset).toArray = ls at hl ⊢
  have hl : lv_has ls 3 [(0, .ref h0), (1, .int a1), (2, .int a2)] := hl
  refine lv_iload_n hx hb d_House_signAtPoint_0 rfl (lv_at hl 1 rfl) ?_
  refine lv_if_lt (tgt := 20) hx hb d_House_signAtPoint_1 (by decide) (fun c_1 => ?_) (fun c_1 => ?_)
  · refine lv_iconst (v := (-1)) hx hb d_House_signAtPoint_20 (by decide) ?_
    have hP9 := hP.sub (ws' := []) [] rfl
    have hD9 := hD.sub (ws' := []) [] (by decide) rfl
    have hK9 := hK.sub (tys' := []) [] rfl
    exact W.iret (v := (-1)) hx hb hr (fun t ht hW => ⟨⟨(-1), (), rfl, rfl, by rw [ht]; exact hP9, va_K.moved hW.alike hK9, hD9⟩, hS.F ht⟩) hS.2.2 d_House_signAtPoint_21
  · refine lv_iload_n hx hb d_House_signAtPoint_4 rfl (lv_at hl 1 rfl) ?_
    refine lv_aload_n hx hb d_House_signAtPoint_5 rfl (lv_at hl 0 rfl) ?_
    refine va_get (D := (dC, dI)) (ci := 11) (v := .int 0) (C := R_House) (T := F_House) (N := 21) hx hb hT i_House hown hK hP 0 rfl rfl 13 (by decide) (hT _ tw_628) (fun _ h9 => h9) rfl d_House_signAtPoint_6 ?_
    refine lv_icmp_ge (tgt := 20) hx hb d_House_signAtPoint_9 (by decide) (fun c_2 => ?_) (fun c_2 => absurd (Int32.not_lt.mp c_1) c_2)
    refine lv_iconst (v := (-1)) hx hb d_House_signAtPoint_20 (by decide) ?_
    have hP9 := hP.sub (ws' := []) [] rfl
    have hD9 := hD.sub (ws' := []) [] (by decide) rfl
    have hK9 := hK.sub (tys' := []) [] rfl
    exact W.iret (v := (-1)) hx hb hr (fun t ht hW => ⟨⟨(-1), (), rfl, rfl, by rw [ht]; exact hP9, va_K.moved hW.alike hK9, hD9⟩, hS.F ht⟩) hS.2.2 d_House_signAtPoint_21

set_option maxHeartbeats 4000000 in
set_option maxRecDepth 100000 in
/-- piece on a fresh house -/
theorem c_House_piece_0 (l : Launch) (dC : Nat → ClassId) (dI : Nat → Nat → Nat) (sz : Nat) (h0 : Nat) (x_desk : Nat) (x_reader : Nat) (x_cells : Nat) (x_tape : Nat) (x_script : Nat) (x_rootAt : Nat) (x_rootTimes : Nat) (x_spotX : Nat) (x_spotY : Nat) (x_bond : Nat) (x_end : Nat) (x_span : Nat) (x_part : Nat) (x_partPower : Nat) (x_kept : Nat) (a1 : Int32) (a2 : Int32)  : Met l y_House_piece w_House_piece ({ frames := 0, cells := 0, slots := 0, locals := 0 }) (va_Pc [.ref h0, .int a1, .int a2] (fun U => U.heap.size = sz ∧ va_P (dC, dI) classes [(h0, .inr (11, [.ref x_desk, .ref x_reader, .ref x_cells, .ref x_tape, .int 0, .ref x_script, .int 0, .ref x_rootAt, .ref x_rootTimes, .int 0, .ref x_spotX, .ref x_spotY, .ref x_bond, .int 0, .ref x_end, .ref x_span, .int 0, .ref x_part, .ref x_partPower, .int 0, .ref x_kept]))] U.heap ∧ va_K (dC, dI) classes [] U ∧ va_D (fun _ => True) [(h0, .inr (11, [.ref x_desk, .ref x_reader, .ref x_cells, .ref x_tape, .int 0, .ref x_script, .int 0, .ref x_rootAt, .ref x_rootTimes, .int 0, .ref x_spotX, .ref x_spotY, .ref x_bond, .int 0, .ref x_end, .ref x_span, .int 0, .ref x_part, .ref x_partPower, .int 0, .ref x_kept]))] ∧ nx_K U)) (va_Qi (fun (r : Int32) (_ : Unit) => r = (-1)) (fun _ t => va_P (dC, dI) classes [] t.heap ∧ va_K (dC, dI) classes [] t ∧ va_D (va_A [(h0, .inr (11, [.ref x_desk, .ref x_reader, .ref x_cells, .ref x_tape, .int 0, .ref x_script, .int 0, .ref x_rootAt, .ref x_rootTimes, .int 0, .ref x_spotX, .ref x_spotY, .ref x_bond, .int 0, .ref x_end, .ref x_span, .int 0, .ref x_part, .ref x_partPower, .int 0, .ref x_kept]))] sz) []) (va_A [(h0, .inr (11, [.ref x_desk, .ref x_reader, .ref x_cells, .ref x_tape, .int 0, .ref x_script, .int 0, .ref x_rootAt, .ref x_rootTimes, .int 0, .ref x_spotX, .ref x_spotY, .ref x_bond, .int 0, .ref x_end, .ref x_span, .int 0, .ref x_part, .ref x_partPower, .int 0, .ref x_kept]))] sz)) 0 0 (va_A [(h0, .inr (11, [.ref x_desk, .ref x_reader, .ref x_cells, .ref x_tape, .int 0, .ref x_script, .int 0, .ref x_rootAt, .ref x_rootTimes, .int 0, .ref x_spotX, .ref x_spotY, .ref x_bond, .int 0, .ref x_end, .ref x_span, .int 0, .ref x_part, .ref x_partPower, .int 0, .ref x_kept]))] sz) := by
  refine Met.ofW (cc := b_House_piece) (maxL := 6) (ret := (some .int)) (by decide) rfl ?_
  intro p e s m args below meth c s₁ B hml hv
  obtain ⟨rfl, hsz, hP, hK, hD0, hN⟩ := hv
  have hx := B.exec
  have hb := B.bytes
  have hr := B.returns
  have hT : ∀ w ∈ lw_g, w.before _ s = true := fun w h => atoms_spec (ws := w_House_piece) B.pre w (List.mem_cons_of_mem _ h)
  have hown : s.vm.findClass R_House = some m.cls := findClass_of_methodNamed B.named
  have hlocks := B.notSynchronized
  subst hsz
  have hD := hD0.self (sz := s.heap.size)
  generalize hAe : va_A [(h0, .inr (11, [.ref x_desk, .ref x_reader, .ref x_cells, .ref x_tape, .int 0, .ref x_script, .int 0, .ref x_rootAt, .ref x_rootTimes, .int 0, .ref x_spotX, .ref x_spotY, .ref x_bond, .int 0, .ref x_end, .ref x_span, .int 0, .ref x_part, .ref x_partPower, .int 0, .ref x_kept]))] s.heap.size = A at hD ⊢
  have hA : ∀ q : Nat, s.heap.size ≤ q → A q := fun q h => by rw [← hAe]; exact Or.inr h
  have hS : va_S A s.heap s.heap [] := va_S.rf
  have hP : va_P (dC, dI) classes [(h0, .inr (11, [.ref x_desk, .ref x_reader, .ref x_cells, .ref x_tape, .int 0, .ref x_script, .int 0, .ref x_rootAt, .ref x_rootTimes, .int 0, .ref x_spotX, .ref x_spotY, .ref x_bond, .int 0, .ref x_end, .ref x_span, .int 0, .ref x_part, .ref x_partPower, .int 0, .ref x_kept]))] s.heap := hP
  have hl := lv_entry ([.ref h0, .int a1, .int a2]) (n := 6) (Nat.le_of_ble_eq_true rfl)
  rw [lg_entry_eq]
  generalize (lg_sl ([.ref h0, .int a1, .int a2]) ++ List.replicate (6 - (lg_sl ([.ref h0, .int a1, .int a2])).length) Slot.unset).toArray = ls at hl ⊢
  have hl : lv_has ls 6 [(0, .ref h0), (1, .int a1), (2, .int a2)] := hl
  refine lv_iload_n hx hb d_House_piece_0 rfl (lv_at hl 1 rfl) ?_
  refine lv_if_lt (tgt := 21) hx hb d_House_piece_1 (by decide) (fun c_1 => ?_) (fun c_1 => ?_)
  · refine lv_iconst (v := (-1)) hx hb d_House_piece_21 (by decide) ?_
    have hP9 := hP.sub (ws' := []) [] rfl
    have hD9 := hD.sub (ws' := []) [] (by decide) rfl
    have hK9 := hK.sub (tys' := []) [] rfl
    exact W.iret (v := (-1)) hx hb hr (fun t ht hW => ⟨⟨(-1), (), rfl, rfl, by rw [ht]; exact hP9, va_K.moved hW.alike hK9, hD9⟩, hS.F ht⟩) hS.2.2 d_House_piece_22
  · refine lv_iload_n hx hb d_House_piece_4 rfl (lv_at hl 1 rfl) ?_
    refine lv_aload_n hx hb d_House_piece_5 rfl (lv_at hl 0 rfl) ?_
    refine va_get (D := (dC, dI)) (ci := 11) (v := .int 0) (C := R_House) (T := F_House) (N := 21) hx hb hT i_House hown hK hP 0 rfl rfl 16 (by decide) (hT _ tw_631) (fun _ h9 => h9) rfl d_House_piece_6 ?_
    refine lv_icmp_ge (tgt := 21) hx hb d_House_piece_9 (by decide) (fun c_2 => ?_) (fun c_2 => absurd (Int32.not_lt.mp c_1) c_2)
    refine lv_iconst (v := (-1)) hx hb d_House_piece_21 (by decide) ?_
    have hP9 := hP.sub (ws' := []) [] rfl
    have hD9 := hD.sub (ws' := []) [] (by decide) rfl
    have hK9 := hK.sub (tys' := []) [] rfl
    exact W.iret (v := (-1)) hx hb hr (fun t ht hW => ⟨⟨(-1), (), rfl, rfl, by rw [ht]; exact hP9, va_K.moved hW.alike hK9, hD9⟩, hS.F ht⟩) hS.2.2 d_House_piece_22

set_option maxHeartbeats 4000000 in
set_option maxRecDepth 100000 in
/-- edge on a fresh house -/
theorem c_House_edge_0 (l : Launch) (dC : Nat → ClassId) (dI : Nat → Nat → Nat) (sz : Nat) (h0 : Nat) (x_desk : Nat) (x_reader : Nat) (x_cells : Nat) (x_tape : Nat) (x_script : Nat) (x_rootAt : Nat) (x_rootTimes : Nat) (x_spotX : Nat) (x_spotY : Nat) (x_bond : Nat) (x_end : Nat) (x_span : Nat) (x_part : Nat) (x_partPower : Nat) (x_kept : Nat) (a1 : Int32) (a2 : Int32) (a3 : Int32)  : Met l y_House_edge w_House_edge ({ frames := 0, cells := 0, slots := 0, locals := 0 }) (va_Pc [.ref h0, .int a1, .int a2, .int a3] (fun U => U.heap.size = sz ∧ va_P (dC, dI) classes [(h0, .inr (11, [.ref x_desk, .ref x_reader, .ref x_cells, .ref x_tape, .int 0, .ref x_script, .int 0, .ref x_rootAt, .ref x_rootTimes, .int 0, .ref x_spotX, .ref x_spotY, .ref x_bond, .int 0, .ref x_end, .ref x_span, .int 0, .ref x_part, .ref x_partPower, .int 0, .ref x_kept]))] U.heap ∧ va_K (dC, dI) classes [] U ∧ va_D (fun _ => True) [(h0, .inr (11, [.ref x_desk, .ref x_reader, .ref x_cells, .ref x_tape, .int 0, .ref x_script, .int 0, .ref x_rootAt, .ref x_rootTimes, .int 0, .ref x_spotX, .ref x_spotY, .ref x_bond, .int 0, .ref x_end, .ref x_span, .int 0, .ref x_part, .ref x_partPower, .int 0, .ref x_kept]))] ∧ nx_K U)) (va_Qi (fun (r : Int32) (_ : Unit) => r = (-1)) (fun _ t => va_P (dC, dI) classes [] t.heap ∧ va_K (dC, dI) classes [] t ∧ va_D (va_A [(h0, .inr (11, [.ref x_desk, .ref x_reader, .ref x_cells, .ref x_tape, .int 0, .ref x_script, .int 0, .ref x_rootAt, .ref x_rootTimes, .int 0, .ref x_spotX, .ref x_spotY, .ref x_bond, .int 0, .ref x_end, .ref x_span, .int 0, .ref x_part, .ref x_partPower, .int 0, .ref x_kept]))] sz) []) (va_A [(h0, .inr (11, [.ref x_desk, .ref x_reader, .ref x_cells, .ref x_tape, .int 0, .ref x_script, .int 0, .ref x_rootAt, .ref x_rootTimes, .int 0, .ref x_spotX, .ref x_spotY, .ref x_bond, .int 0, .ref x_end, .ref x_span, .int 0, .ref x_part, .ref x_partPower, .int 0, .ref x_kept]))] sz)) 0 0 (va_A [(h0, .inr (11, [.ref x_desk, .ref x_reader, .ref x_cells, .ref x_tape, .int 0, .ref x_script, .int 0, .ref x_rootAt, .ref x_rootTimes, .int 0, .ref x_spotX, .ref x_spotY, .ref x_bond, .int 0, .ref x_end, .ref x_span, .int 0, .ref x_part, .ref x_partPower, .int 0, .ref x_kept]))] sz) := by
  refine Met.ofW (cc := b_House_edge) (maxL := 5) (ret := (some .int)) (by decide) rfl ?_
  intro p e s m args below meth c s₁ B hml hv
  obtain ⟨rfl, hsz, hP, hK, hD0, hN⟩ := hv
  have hx := B.exec
  have hb := B.bytes
  have hr := B.returns
  have hT : ∀ w ∈ lw_g, w.before _ s = true := fun w h => atoms_spec (ws := w_House_edge) B.pre w (List.mem_cons_of_mem _ h)
  have hown : s.vm.findClass R_House = some m.cls := findClass_of_methodNamed B.named
  have hlocks := B.notSynchronized
  subst hsz
  have hD := hD0.self (sz := s.heap.size)
  generalize hAe : va_A [(h0, .inr (11, [.ref x_desk, .ref x_reader, .ref x_cells, .ref x_tape, .int 0, .ref x_script, .int 0, .ref x_rootAt, .ref x_rootTimes, .int 0, .ref x_spotX, .ref x_spotY, .ref x_bond, .int 0, .ref x_end, .ref x_span, .int 0, .ref x_part, .ref x_partPower, .int 0, .ref x_kept]))] s.heap.size = A at hD ⊢
  have hA : ∀ q : Nat, s.heap.size ≤ q → A q := fun q h => by rw [← hAe]; exact Or.inr h
  have hS : va_S A s.heap s.heap [] := va_S.rf
  have hP : va_P (dC, dI) classes [(h0, .inr (11, [.ref x_desk, .ref x_reader, .ref x_cells, .ref x_tape, .int 0, .ref x_script, .int 0, .ref x_rootAt, .ref x_rootTimes, .int 0, .ref x_spotX, .ref x_spotY, .ref x_bond, .int 0, .ref x_end, .ref x_span, .int 0, .ref x_part, .ref x_partPower, .int 0, .ref x_kept]))] s.heap := hP
  have hl := lv_entry ([.ref h0, .int a1, .int a2, .int a3]) (n := 5) (Nat.le_of_ble_eq_true rfl)
  rw [lg_entry_eq]
  generalize (lg_sl ([.ref h0, .int a1, .int a2, .int a3]) ++ List.replicate (5 - (lg_sl ([.ref h0, .int a1, .int a2, .int a3])).length) Slot.unset).toArray = ls at hl ⊢
  have hl : lv_has ls 5 [(0, .ref h0), (1, .int a1), (2, .int a2), (3, .int a3)] := hl
  refine lv_iload_n hx hb d_House_edge_0 rfl (lv_at hl 1 rfl) ?_
  refine lv_if_lt (tgt := 21) hx hb d_House_edge_1 (by decide) (fun c_1 => ?_) (fun c_1 => ?_)
  · refine lv_iconst (v := (-1)) hx hb d_House_edge_21 (by decide) ?_
    have hP9 := hP.sub (ws' := []) [] rfl
    have hD9 := hD.sub (ws' := []) [] (by decide) rfl
    have hK9 := hK.sub (tys' := []) [] rfl
    exact W.iret (v := (-1)) hx hb hr (fun t ht hW => ⟨⟨(-1), (), rfl, rfl, by rw [ht]; exact hP9, va_K.moved hW.alike hK9, hD9⟩, hS.F ht⟩) hS.2.2 d_House_edge_22
  · refine lv_iload_n hx hb d_House_edge_4 rfl (lv_at hl 1 rfl) ?_
    refine lv_aload_n hx hb d_House_edge_5 rfl (lv_at hl 0 rfl) ?_
    refine va_get (D := (dC, dI)) (ci := 11) (v := .int 0) (C := R_House) (T := F_House) (N := 21) hx hb hT i_House hown hK hP 0 rfl rfl 16 (by decide) (hT _ tw_631) (fun _ h9 => h9) rfl d_House_edge_6 ?_
    refine lv_icmp_ge (tgt := 21) hx hb d_House_edge_9 (by decide) (fun c_2 => ?_) (fun c_2 => absurd (Int32.not_lt.mp c_1) c_2)
    refine lv_iconst (v := (-1)) hx hb d_House_edge_21 (by decide) ?_
    have hP9 := hP.sub (ws' := []) [] rfl
    have hD9 := hD.sub (ws' := []) [] (by decide) rfl
    have hK9 := hK.sub (tys' := []) [] rfl
    exact W.iret (v := (-1)) hx hb hr (fun t ht hW => ⟨⟨(-1), (), rfl, rfl, by rw [ht]; exact hP9, va_K.moved hW.alike hK9, hD9⟩, hS.F ht⟩) hS.2.2 d_House_edge_22

set_option maxHeartbeats 4000000 in
set_option maxRecDepth 100000 in
/-- factor on a fresh house -/
theorem c_House_factor_0 (l : Launch) (dC : Nat → ClassId) (dI : Nat → Nat → Nat) (sz : Nat) (h0 : Nat) (x_desk : Nat) (x_reader : Nat) (x_cells : Nat) (x_tape : Nat) (x_script : Nat) (x_rootAt : Nat) (x_rootTimes : Nat) (x_spotX : Nat) (x_spotY : Nat) (x_bond : Nat) (x_end : Nat) (x_span : Nat) (x_part : Nat) (x_partPower : Nat) (x_kept : Nat) (a1 : Int32)  : Met l y_House_factor w_House_factor ({ frames := 0, cells := 0, slots := 0, locals := 0 }) (va_Pc [.ref h0, .int a1] (fun U => U.heap.size = sz ∧ va_P (dC, dI) classes [(h0, .inr (11, [.ref x_desk, .ref x_reader, .ref x_cells, .ref x_tape, .int 0, .ref x_script, .int 0, .ref x_rootAt, .ref x_rootTimes, .int 0, .ref x_spotX, .ref x_spotY, .ref x_bond, .int 0, .ref x_end, .ref x_span, .int 0, .ref x_part, .ref x_partPower, .int 0, .ref x_kept]))] U.heap ∧ va_K (dC, dI) classes [] U ∧ va_D (fun _ => True) [(h0, .inr (11, [.ref x_desk, .ref x_reader, .ref x_cells, .ref x_tape, .int 0, .ref x_script, .int 0, .ref x_rootAt, .ref x_rootTimes, .int 0, .ref x_spotX, .ref x_spotY, .ref x_bond, .int 0, .ref x_end, .ref x_span, .int 0, .ref x_part, .ref x_partPower, .int 0, .ref x_kept]))] ∧ nx_K U)) (va_Qi (fun (r : Int32) (_ : Unit) => r = (-1)) (fun _ t => va_P (dC, dI) classes [] t.heap ∧ va_K (dC, dI) classes [] t ∧ va_D (va_A [(h0, .inr (11, [.ref x_desk, .ref x_reader, .ref x_cells, .ref x_tape, .int 0, .ref x_script, .int 0, .ref x_rootAt, .ref x_rootTimes, .int 0, .ref x_spotX, .ref x_spotY, .ref x_bond, .int 0, .ref x_end, .ref x_span, .int 0, .ref x_part, .ref x_partPower, .int 0, .ref x_kept]))] sz) []) (va_A [(h0, .inr (11, [.ref x_desk, .ref x_reader, .ref x_cells, .ref x_tape, .int 0, .ref x_script, .int 0, .ref x_rootAt, .ref x_rootTimes, .int 0, .ref x_spotX, .ref x_spotY, .ref x_bond, .int 0, .ref x_end, .ref x_span, .int 0, .ref x_part, .ref x_partPower, .int 0, .ref x_kept]))] sz)) 0 0 (va_A [(h0, .inr (11, [.ref x_desk, .ref x_reader, .ref x_cells, .ref x_tape, .int 0, .ref x_script, .int 0, .ref x_rootAt, .ref x_rootTimes, .int 0, .ref x_spotX, .ref x_spotY, .ref x_bond, .int 0, .ref x_end, .ref x_span, .int 0, .ref x_part, .ref x_partPower, .int 0, .ref x_kept]))] sz) := by
  refine Met.ofW (cc := b_House_factor) (maxL := 2) (ret := (some .int)) (by decide) rfl ?_
  intro p e s m args below meth c s₁ B hml hv
  obtain ⟨rfl, hsz, hP, hK, hD0, hN⟩ := hv
  have hx := B.exec
  have hb := B.bytes
  have hr := B.returns
  have hT : ∀ w ∈ lw_g, w.before _ s = true := fun w h => atoms_spec (ws := w_House_factor) B.pre w (List.mem_cons_of_mem _ h)
  have hown : s.vm.findClass R_House = some m.cls := findClass_of_methodNamed B.named
  have hlocks := B.notSynchronized
  subst hsz
  have hD := hD0.self (sz := s.heap.size)
  generalize hAe : va_A [(h0, .inr (11, [.ref x_desk, .ref x_reader, .ref x_cells, .ref x_tape, .int 0, .ref x_script, .int 0, .ref x_rootAt, .ref x_rootTimes, .int 0, .ref x_spotX, .ref x_spotY, .ref x_bond, .int 0, .ref x_end, .ref x_span, .int 0, .ref x_part, .ref x_partPower, .int 0, .ref x_kept]))] s.heap.size = A at hD ⊢
  have hA : ∀ q : Nat, s.heap.size ≤ q → A q := fun q h => by rw [← hAe]; exact Or.inr h
  have hS : va_S A s.heap s.heap [] := va_S.rf
  have hP : va_P (dC, dI) classes [(h0, .inr (11, [.ref x_desk, .ref x_reader, .ref x_cells, .ref x_tape, .int 0, .ref x_script, .int 0, .ref x_rootAt, .ref x_rootTimes, .int 0, .ref x_spotX, .ref x_spotY, .ref x_bond, .int 0, .ref x_end, .ref x_span, .int 0, .ref x_part, .ref x_partPower, .int 0, .ref x_kept]))] s.heap := hP
  have hl := lv_entry ([.ref h0, .int a1]) (n := 2) (Nat.le_of_ble_eq_true rfl)
  rw [lg_entry_eq]
  generalize (lg_sl ([.ref h0, .int a1]) ++ List.replicate (2 - (lg_sl ([.ref h0, .int a1])).length) Slot.unset).toArray = ls at hl ⊢
  have hl : lv_has ls 2 [(0, .ref h0), (1, .int a1)] := hl
  refine lv_iload_n hx hb d_House_factor_0 rfl (lv_at hl 1 rfl) ?_
  refine lv_if_lt (tgt := 25) hx hb d_House_factor_1 (by decide) (fun c_1 => ?_) (fun c_1 => ?_)
  · refine lv_iconst (v := (-1)) hx hb d_House_factor_25 (by decide) ?_
    have hP9 := hP.sub (ws' := []) [] rfl
    have hD9 := hD.sub (ws' := []) [] (by decide) rfl
    have hK9 := hK.sub (tys' := []) [] rfl
    exact W.iret (v := (-1)) hx hb hr (fun t ht hW => ⟨⟨(-1), (), rfl, rfl, by rw [ht]; exact hP9, va_K.moved hW.alike hK9, hD9⟩, hS.F ht⟩) hS.2.2 d_House_factor_26
  · refine lv_iload_n hx hb d_House_factor_4 rfl (lv_at hl 1 rfl) ?_
    refine lv_aload_n hx hb d_House_factor_5 rfl (lv_at hl 0 rfl) ?_
    refine va_get (D := (dC, dI)) (ci := 11) (v := .int 0) (C := R_House) (T := F_House) (N := 21) hx hb hT i_House hown hK hP 0 rfl rfl 19 (by decide) (hT _ tw_634) (fun _ h9 => h9) rfl d_House_factor_6 ?_
    refine lv_icmp_ge (tgt := 25) hx hb d_House_factor_9 (by decide) (fun c_2 => ?_) (fun c_2 => absurd (Int32.not_lt.mp c_1) c_2)
    refine lv_iconst (v := (-1)) hx hb d_House_factor_25 (by decide) ?_
    have hP9 := hP.sub (ws' := []) [] rfl
    have hD9 := hD.sub (ws' := []) [] (by decide) rfl
    have hK9 := hK.sub (tys' := []) [] rfl
    exact W.iret (v := (-1)) hx hb hr (fun t ht hW => ⟨⟨(-1), (), rfl, rfl, by rw [ht]; exact hP9, va_K.moved hW.alike hK9, hD9⟩, hS.F ht⟩) hS.2.2 d_House_factor_26

set_option maxHeartbeats 4000000 in
set_option maxRecDepth 100000 in
/-- power on a fresh house -/
theorem c_House_power_0 (l : Launch) (dC : Nat → ClassId) (dI : Nat → Nat → Nat) (sz : Nat) (h0 : Nat) (x_desk : Nat) (x_reader : Nat) (x_cells : Nat) (x_tape : Nat) (x_script : Nat) (x_rootAt : Nat) (x_rootTimes : Nat) (x_spotX : Nat) (x_spotY : Nat) (x_bond : Nat) (x_end : Nat) (x_span : Nat) (x_part : Nat) (x_partPower : Nat) (x_kept : Nat) (a1 : Int32)  : Met l y_House_power w_House_power ({ frames := 0, cells := 0, slots := 0, locals := 0 }) (va_Pc [.ref h0, .int a1] (fun U => U.heap.size = sz ∧ va_P (dC, dI) classes [(h0, .inr (11, [.ref x_desk, .ref x_reader, .ref x_cells, .ref x_tape, .int 0, .ref x_script, .int 0, .ref x_rootAt, .ref x_rootTimes, .int 0, .ref x_spotX, .ref x_spotY, .ref x_bond, .int 0, .ref x_end, .ref x_span, .int 0, .ref x_part, .ref x_partPower, .int 0, .ref x_kept]))] U.heap ∧ va_K (dC, dI) classes [] U ∧ va_D (fun _ => True) [(h0, .inr (11, [.ref x_desk, .ref x_reader, .ref x_cells, .ref x_tape, .int 0, .ref x_script, .int 0, .ref x_rootAt, .ref x_rootTimes, .int 0, .ref x_spotX, .ref x_spotY, .ref x_bond, .int 0, .ref x_end, .ref x_span, .int 0, .ref x_part, .ref x_partPower, .int 0, .ref x_kept]))] ∧ nx_K U)) (va_Qi (fun (r : Int32) (_ : Unit) => r = (-1)) (fun _ t => va_P (dC, dI) classes [] t.heap ∧ va_K (dC, dI) classes [] t ∧ va_D (va_A [(h0, .inr (11, [.ref x_desk, .ref x_reader, .ref x_cells, .ref x_tape, .int 0, .ref x_script, .int 0, .ref x_rootAt, .ref x_rootTimes, .int 0, .ref x_spotX, .ref x_spotY, .ref x_bond, .int 0, .ref x_end, .ref x_span, .int 0, .ref x_part, .ref x_partPower, .int 0, .ref x_kept]))] sz) []) (va_A [(h0, .inr (11, [.ref x_desk, .ref x_reader, .ref x_cells, .ref x_tape, .int 0, .ref x_script, .int 0, .ref x_rootAt, .ref x_rootTimes, .int 0, .ref x_spotX, .ref x_spotY, .ref x_bond, .int 0, .ref x_end, .ref x_span, .int 0, .ref x_part, .ref x_partPower, .int 0, .ref x_kept]))] sz)) 0 0 (va_A [(h0, .inr (11, [.ref x_desk, .ref x_reader, .ref x_cells, .ref x_tape, .int 0, .ref x_script, .int 0, .ref x_rootAt, .ref x_rootTimes, .int 0, .ref x_spotX, .ref x_spotY, .ref x_bond, .int 0, .ref x_end, .ref x_span, .int 0, .ref x_part, .ref x_partPower, .int 0, .ref x_kept]))] sz) := by
  refine Met.ofW (cc := b_House_power) (maxL := 2) (ret := (some .int)) (by decide) rfl ?_
  intro p e s m args below meth c s₁ B hml hv
  obtain ⟨rfl, hsz, hP, hK, hD0, hN⟩ := hv
  have hx := B.exec
  have hb := B.bytes
  have hr := B.returns
  have hT : ∀ w ∈ lw_g, w.before _ s = true := fun w h => atoms_spec (ws := w_House_power) B.pre w (List.mem_cons_of_mem _ h)
  have hown : s.vm.findClass R_House = some m.cls := findClass_of_methodNamed B.named
  have hlocks := B.notSynchronized
  subst hsz
  have hD := hD0.self (sz := s.heap.size)
  generalize hAe : va_A [(h0, .inr (11, [.ref x_desk, .ref x_reader, .ref x_cells, .ref x_tape, .int 0, .ref x_script, .int 0, .ref x_rootAt, .ref x_rootTimes, .int 0, .ref x_spotX, .ref x_spotY, .ref x_bond, .int 0, .ref x_end, .ref x_span, .int 0, .ref x_part, .ref x_partPower, .int 0, .ref x_kept]))] s.heap.size = A at hD ⊢
  have hA : ∀ q : Nat, s.heap.size ≤ q → A q := fun q h => by rw [← hAe]; exact Or.inr h
  have hS : va_S A s.heap s.heap [] := va_S.rf
  have hP : va_P (dC, dI) classes [(h0, .inr (11, [.ref x_desk, .ref x_reader, .ref x_cells, .ref x_tape, .int 0, .ref x_script, .int 0, .ref x_rootAt, .ref x_rootTimes, .int 0, .ref x_spotX, .ref x_spotY, .ref x_bond, .int 0, .ref x_end, .ref x_span, .int 0, .ref x_part, .ref x_partPower, .int 0, .ref x_kept]))] s.heap := hP
  have hl := lv_entry ([.ref h0, .int a1]) (n := 2) (Nat.le_of_ble_eq_true rfl)
  rw [lg_entry_eq]
  generalize (lg_sl ([.ref h0, .int a1]) ++ List.replicate (2 - (lg_sl ([.ref h0, .int a1])).length) Slot.unset).toArray = ls at hl ⊢
  have hl : lv_has ls 2 [(0, .ref h0), (1, .int a1)] := hl
  refine lv_iload_n hx hb d_House_power_0 rfl (lv_at hl 1 rfl) ?_
  refine lv_if_lt (tgt := 21) hx hb d_House_power_1 (by decide) (fun c_1 => ?_) (fun c_1 => ?_)
  · refine lv_iconst (v := (-1)) hx hb d_House_power_21 (by decide) ?_
    have hP9 := hP.sub (ws' := []) [] rfl
    have hD9 := hD.sub (ws' := []) [] (by decide) rfl
    have hK9 := hK.sub (tys' := []) [] rfl
    exact W.iret (v := (-1)) hx hb hr (fun t ht hW => ⟨⟨(-1), (), rfl, rfl, by rw [ht]; exact hP9, va_K.moved hW.alike hK9, hD9⟩, hS.F ht⟩) hS.2.2 d_House_power_22
  · refine lv_iload_n hx hb d_House_power_4 rfl (lv_at hl 1 rfl) ?_
    refine lv_aload_n hx hb d_House_power_5 rfl (lv_at hl 0 rfl) ?_
    refine va_get (D := (dC, dI)) (ci := 11) (v := .int 0) (C := R_House) (T := F_House) (N := 21) hx hb hT i_House hown hK hP 0 rfl rfl 19 (by decide) (hT _ tw_634) (fun _ h9 => h9) rfl d_House_power_6 ?_
    refine lv_icmp_ge (tgt := 21) hx hb d_House_power_9 (by decide) (fun c_2 => ?_) (fun c_2 => absurd (Int32.not_lt.mp c_1) c_2)
    refine lv_iconst (v := (-1)) hx hb d_House_power_21 (by decide) ?_
    have hP9 := hP.sub (ws' := []) [] rfl
    have hD9 := hD.sub (ws' := []) [] (by decide) rfl
    have hK9 := hK.sub (tys' := []) [] rfl
    exact W.iret (v := (-1)) hx hb hr (fun t ht hW => ⟨⟨(-1), (), rfl, rfl, by rw [ht]; exact hP9, va_K.moved hW.alike hK9, hD9⟩, hS.F ht⟩) hS.2.2 d_House_power_22

set_option maxHeartbeats 4000000 in
set_option maxRecDepth 100000 in
/-- hold on a fresh house -/
theorem c_House_hold_0 (l : Launch) (dC : Nat → ClassId) (dI : Nat → Nat → Nat) (sz : Nat) (h0 : Nat) (x_desk : Nat) (x_reader : Nat) (x_cells : Nat) (x_tape : Nat) (x_script : Nat) (x_rootAt : Nat) (x_rootTimes : Nat) (x_spotX : Nat) (x_spotY : Nat) (x_bond : Nat) (x_end : Nat) (x_span : Nat) (x_part : Nat) (x_partPower : Nat) (x_kept : Nat) (a1 : Int32) (a2 : Int32)  : Met l y_House_hold w_House_hold ({ frames := 0, cells := 0, slots := 0, locals := 0 }) (va_Pc [.ref h0, .int a1, .int a2] (fun U => U.heap.size = sz ∧ va_P (dC, dI) classes [(h0, .inr (11, [.ref x_desk, .ref x_reader, .ref x_cells, .ref x_tape, .int 0, .ref x_script, .int 0, .ref x_rootAt, .ref x_rootTimes, .int 0, .ref x_spotX, .ref x_spotY, .ref x_bond, .int 0, .ref x_end, .ref x_span, .int 0, .ref x_part, .ref x_partPower, .int 0, .ref x_kept]))] U.heap ∧ va_K (dC, dI) classes [] U ∧ va_D (fun _ => True) [(h0, .inr (11, [.ref x_desk, .ref x_reader, .ref x_cells, .ref x_tape, .int 0, .ref x_script, .int 0, .ref x_rootAt, .ref x_rootTimes, .int 0, .ref x_spotX, .ref x_spotY, .ref x_bond, .int 0, .ref x_end, .ref x_span, .int 0, .ref x_part, .ref x_partPower, .int 0, .ref x_kept]))] ∧ nx_K U)) (va_Qi (fun (r : Int32) (_ : Unit) => r = (-1)) (fun _ t => va_P (dC, dI) classes [] t.heap ∧ va_K (dC, dI) classes [] t ∧ va_D (va_A [(h0, .inr (11, [.ref x_desk, .ref x_reader, .ref x_cells, .ref x_tape, .int 0, .ref x_script, .int 0, .ref x_rootAt, .ref x_rootTimes, .int 0, .ref x_spotX, .ref x_spotY, .ref x_bond, .int 0, .ref x_end, .ref x_span, .int 0, .ref x_part, .ref x_partPower, .int 0, .ref x_kept]))] sz) []) (va_A [(h0, .inr (11, [.ref x_desk, .ref x_reader, .ref x_cells, .ref x_tape, .int 0, .ref x_script, .int 0, .ref x_rootAt, .ref x_rootTimes, .int 0, .ref x_spotX, .ref x_spotY, .ref x_bond, .int 0, .ref x_end, .ref x_span, .int 0, .ref x_part, .ref x_partPower, .int 0, .ref x_kept]))] sz)) 0 0 (va_A [(h0, .inr (11, [.ref x_desk, .ref x_reader, .ref x_cells, .ref x_tape, .int 0, .ref x_script, .int 0, .ref x_rootAt, .ref x_rootTimes, .int 0, .ref x_spotX, .ref x_spotY, .ref x_bond, .int 0, .ref x_end, .ref x_span, .int 0, .ref x_part, .ref x_partPower, .int 0, .ref x_kept]))] sz) := by
  refine Met.ofW (cc := b_House_hold) (maxL := 3) (ret := (some .int)) (by decide) rfl ?_
  intro p e s m args below meth c s₁ B hml hv
  obtain ⟨rfl, hsz, hP, hK, hD0, hN⟩ := hv
  have hx := B.exec
  have hb := B.bytes
  have hr := B.returns
  have hT : ∀ w ∈ lw_g, w.before _ s = true := fun w h => atoms_spec (ws := w_House_hold) B.pre w (List.mem_cons_of_mem _ h)
  have hown : s.vm.findClass R_House = some m.cls := findClass_of_methodNamed B.named
  have hlocks := B.notSynchronized
  subst hsz
  have hD := hD0.self (sz := s.heap.size)
  generalize hAe : va_A [(h0, .inr (11, [.ref x_desk, .ref x_reader, .ref x_cells, .ref x_tape, .int 0, .ref x_script, .int 0, .ref x_rootAt, .ref x_rootTimes, .int 0, .ref x_spotX, .ref x_spotY, .ref x_bond, .int 0, .ref x_end, .ref x_span, .int 0, .ref x_part, .ref x_partPower, .int 0, .ref x_kept]))] s.heap.size = A at hD ⊢
  have hA : ∀ q : Nat, s.heap.size ≤ q → A q := fun q h => by rw [← hAe]; exact Or.inr h
  have hS : va_S A s.heap s.heap [] := va_S.rf
  have hP : va_P (dC, dI) classes [(h0, .inr (11, [.ref x_desk, .ref x_reader, .ref x_cells, .ref x_tape, .int 0, .ref x_script, .int 0, .ref x_rootAt, .ref x_rootTimes, .int 0, .ref x_spotX, .ref x_spotY, .ref x_bond, .int 0, .ref x_end, .ref x_span, .int 0, .ref x_part, .ref x_partPower, .int 0, .ref x_kept]))] s.heap := hP
  have hl := lv_entry ([.ref h0, .int a1, .int a2]) (n := 3) (Nat.le_of_ble_eq_true rfl)
  rw [lg_entry_eq]
  generalize (lg_sl ([.ref h0, .int a1, .int a2]) ++ List.replicate (3 - (lg_sl ([.ref h0, .int a1, .int a2])).length) Slot.unset).toArray = ls at hl ⊢
  have hl : lv_has ls 3 [(0, .ref h0), (1, .int a1), (2, .int a2)] := hl
  refine lv_iload_n hx hb d_House_hold_0 rfl (lv_at hl 1 rfl) ?_
  refine lv_if_lt (tgt := 22) hx hb d_House_hold_1 (by decide) (fun c_1 => ?_) (fun c_1 => ?_)
  · refine lv_iconst (v := (-1)) hx hb d_House_hold_22 (by decide) ?_
    have hP9 := hP.sub (ws' := []) [] rfl
    have hD9 := hD.sub (ws' := []) [] (by decide) rfl
    have hK9 := hK.sub (tys' := []) [] rfl
    exact W.iret (v := (-1)) hx hb hr (fun t ht hW => ⟨⟨(-1), (), rfl, rfl, by rw [ht]; exact hP9, va_K.moved hW.alike hK9, hD9⟩, hS.F ht⟩) hS.2.2 d_House_hold_23
  · refine lv_iload_n hx hb d_House_hold_4 rfl (lv_at hl 1 rfl) ?_
    refine lv_bipush (v := 8) hx hb d_House_hold_5 (by decide) ?_
    refine lv_icmp_ge (tgt := 22) hx hb d_House_hold_7 (by decide) (fun c_2 => ?_) (fun c_2 => ?_)
    · refine lv_iconst (v := (-1)) hx hb d_House_hold_22 (by decide) ?_
      have hP9 := hP.sub (ws' := []) [] rfl
      have hD9 := hD.sub (ws' := []) [] (by decide) rfl
      have hK9 := hK.sub (tys' := []) [] rfl
      exact W.iret (v := (-1)) hx hb hr (fun t ht hW => ⟨⟨(-1), (), rfl, rfl, by rw [ht]; exact hP9, va_K.moved hW.alike hK9, hD9⟩, hS.F ht⟩) hS.2.2 d_House_hold_23
    · refine lv_iload_n hx hb d_House_hold_10 rfl (lv_at hl 2 rfl) ?_
      refine lv_if_lt (tgt := 22) hx hb d_House_hold_11 (by decide) (fun c_3 => ?_) (fun c_3 => ?_)
      · refine lv_iconst (v := (-1)) hx hb d_House_hold_22 (by decide) ?_
        have hP9 := hP.sub (ws' := []) [] rfl
        have hD9 := hD.sub (ws' := []) [] (by decide) rfl
        have hK9 := hK.sub (tys' := []) [] rfl
        exact W.iret (v := (-1)) hx hb hr (fun t ht hW => ⟨⟨(-1), (), rfl, rfl, by rw [ht]; exact hP9, va_K.moved hW.alike hK9, hD9⟩, hS.F ht⟩) hS.2.2 d_House_hold_23
      · refine lv_iload_n hx hb d_House_hold_14 rfl (lv_at hl 2 rfl) ?_
        refine lv_aload_n hx hb d_House_hold_15 rfl (lv_at hl 0 rfl) ?_
        refine va_get (D := (dC, dI)) (ci := 11) (v := .int 0) (C := R_House) (T := F_House) (N := 21) hx hb hT i_House hown hK hP 0 rfl rfl 9 (by decide) (hT _ tw_624) (fun _ h9 => h9) rfl d_House_hold_16 ?_
        refine lv_icmp_lt (tgt := 24) hx hb d_House_hold_19 (by decide) (fun c_4 => absurd c_4 c_3) (fun c_4 => ?_)
        refine lv_iconst (v := (-1)) hx hb d_House_hold_22 (by decide) ?_
        have hP9 := hP.sub (ws' := []) [] rfl
        have hD9 := hD.sub (ws' := []) [] (by decide) rfl
        have hK9 := hK.sub (tys' := []) [] rfl
        exact W.iret (v := (-1)) hx hb hr (fun t ht hW => ⟨⟨(-1), (), rfl, rfl, by rw [ht]; exact hP9, va_K.moved hW.alike hK9, hD9⟩, hS.F ht⟩) hS.2.2 d_House_hold_23

set_option maxHeartbeats 4000000 in
set_option maxRecDepth 100000 in
/-- reckon on a fresh house -/
theorem c_House_reckon_0 (l : Launch) (dC : Nat → ClassId) (dI : Nat → Nat → Nat) (sz : Nat) (h0 : Nat) (x_desk : Nat) (x_reader : Nat) (x_cells : Nat) (x_tape : Nat) (x_script : Nat) (x_rootAt : Nat) (x_rootTimes : Nat) (x_spotX : Nat) (x_spotY : Nat) (x_bond : Nat) (x_end : Nat) (x_span : Nat) (x_part : Nat) (x_partPower : Nat) (x_kept : Nat) (cK : ClassId) (a1 : Int32) (a2 : Int32) (a3 : Int32) (a4 : Int32)  : Met l y_House_reckon w_House_reckon ({ frames := 1, cells := 0, slots := 0, locals := 21 }) (va_Pc [.ref h0, .int a1, .int a2, .int a3, .int a4] (fun U => U.heap.size = sz ∧ va_P (dC, dI) classes [(h0, .inr (11, [.ref x_desk, .ref x_reader, .ref x_cells, .ref x_tape, .int 0, .ref x_script, .int 0, .ref x_rootAt, .ref x_rootTimes, .int 0, .ref x_spotX, .ref x_spotY, .ref x_bond, .int 0, .ref x_end, .ref x_span, .int 0, .ref x_part, .ref x_partPower, .int 0, .ref x_kept])), (x_kept, .inl (cK, 8, .inr (.inr (.inr (.inr (fun _ => none))))))] U.heap ∧ va_K (dC, dI) classes [(cK, .object "RealHouse$Real")] U ∧ va_D (fun _ => True) [(h0, .inr (11, [.ref x_desk, .ref x_reader, .ref x_cells, .ref x_tape, .int 0, .ref x_script, .int 0, .ref x_rootAt, .ref x_rootTimes, .int 0, .ref x_spotX, .ref x_spotY, .ref x_bond, .int 0, .ref x_end, .ref x_span, .int 0, .ref x_part, .ref x_partPower, .int 0, .ref x_kept])), (x_kept, .inl (cK, 8, .inr (.inr (.inr (.inr (fun _ => none))))))] ∧ nx_K U)) (va_Qi (fun (r : Int32) (_ : Unit) => r = (-1)) (fun _ t => va_P (dC, dI) classes [] t.heap ∧ va_K (dC, dI) classes [] t ∧ va_D (va_A [(h0, .inr (11, [.ref x_desk, .ref x_reader, .ref x_cells, .ref x_tape, .int 0, .ref x_script, .int 0, .ref x_rootAt, .ref x_rootTimes, .int 0, .ref x_spotX, .ref x_spotY, .ref x_bond, .int 0, .ref x_end, .ref x_span, .int 0, .ref x_part, .ref x_partPower, .int 0, .ref x_kept])), (x_kept, .inl (cK, 8, .inr (.inr (.inr (.inr (fun _ => none))))))] sz) []) (va_A [(h0, .inr (11, [.ref x_desk, .ref x_reader, .ref x_cells, .ref x_tape, .int 0, .ref x_script, .int 0, .ref x_rootAt, .ref x_rootTimes, .int 0, .ref x_spotX, .ref x_spotY, .ref x_bond, .int 0, .ref x_end, .ref x_span, .int 0, .ref x_part, .ref x_partPower, .int 0, .ref x_kept])), (x_kept, .inl (cK, 8, .inr (.inr (.inr (.inr (fun _ => none))))))] sz)) 0 0 (va_A [(h0, .inr (11, [.ref x_desk, .ref x_reader, .ref x_cells, .ref x_tape, .int 0, .ref x_script, .int 0, .ref x_rootAt, .ref x_rootTimes, .int 0, .ref x_spotX, .ref x_spotY, .ref x_bond, .int 0, .ref x_end, .ref x_span, .int 0, .ref x_part, .ref x_partPower, .int 0, .ref x_kept])), (x_kept, .inl (cK, 8, .inr (.inr (.inr (.inr (fun _ => none))))))] sz) := by
  refine Met.ofW (cc := b_House_reckon) (maxL := 10) (ret := (some .int)) (by decide) rfl ?_
  intro p e s m args below meth c s₁ B hml hv
  obtain ⟨rfl, hsz, hP, hK, hD0, hN⟩ := hv
  have hx := B.exec
  have hb := B.bytes
  have hr := B.returns
  have hT : ∀ w ∈ lw_g, w.before _ s = true := fun w h => atoms_spec (ws := w_House_reckon) B.pre w (List.mem_cons_of_mem _ h)
  have hown : s.vm.findClass R_House = some m.cls := findClass_of_methodNamed B.named
  have hlocks := B.notSynchronized
  subst hsz
  have hD := hD0.self (sz := s.heap.size)
  generalize hAe : va_A [(h0, .inr (11, [.ref x_desk, .ref x_reader, .ref x_cells, .ref x_tape, .int 0, .ref x_script, .int 0, .ref x_rootAt, .ref x_rootTimes, .int 0, .ref x_spotX, .ref x_spotY, .ref x_bond, .int 0, .ref x_end, .ref x_span, .int 0, .ref x_part, .ref x_partPower, .int 0, .ref x_kept])), (x_kept, .inl (cK, 8, .inr (.inr (.inr (.inr (fun _ => none))))))] s.heap.size = A at hD ⊢
  have hA : ∀ q : Nat, s.heap.size ≤ q → A q := fun q h => by rw [← hAe]; exact Or.inr h
  have hS : va_S A s.heap s.heap [] := va_S.rf
  have hP : va_P (dC, dI) classes [(h0, .inr (11, [.ref x_desk, .ref x_reader, .ref x_cells, .ref x_tape, .int 0, .ref x_script, .int 0, .ref x_rootAt, .ref x_rootTimes, .int 0, .ref x_spotX, .ref x_spotY, .ref x_bond, .int 0, .ref x_end, .ref x_span, .int 0, .ref x_part, .ref x_partPower, .int 0, .ref x_kept])), (x_kept, .inl (cK, 8, .inr (.inr (.inr (.inr (fun _ => none))))))] s.heap := hP
  have hl := lv_entry ([.ref h0, .int a1, .int a2, .int a3, .int a4]) (n := 10) (Nat.le_of_ble_eq_true rfl)
  rw [lg_entry_eq]
  generalize (lg_sl ([.ref h0, .int a1, .int a2, .int a3, .int a4]) ++ List.replicate (10 - (lg_sl ([.ref h0, .int a1, .int a2, .int a3, .int a4])).length) Slot.unset).toArray = ls at hl ⊢
  have hl : lv_has ls 10 [(0, .ref h0), (1, .int a1), (2, .int a2), (3, .int a3), (4, .int a4)] := hl
  refine lv_iload_n hx hb d_House_reckon_0 rfl (lv_at hl 1 rfl) ?_
  refine lv_if_lt (tgt := 36) hx hb d_House_reckon_1 (by decide) (fun c_1 => ?_) (fun c_1 => ?_)
  · refine lv_iconst (v := (-1)) hx hb d_House_reckon_36 (by decide) ?_
    have hP9 := hP.sub (ws' := []) [] rfl
    have hD9 := hD.sub (ws' := []) [] (by decide) rfl
    have hK9 := hK.sub (tys' := []) [] rfl
    exact W.iret (v := (-1)) hx hb hr (fun t ht hW => ⟨⟨(-1), (), rfl, rfl, by rw [ht]; exact hP9, va_K.moved hW.alike hK9, hD9⟩, hS.F ht⟩) hS.2.2 d_House_reckon_37
  · refine lv_iload_n hx hb d_House_reckon_4 rfl (lv_at hl 1 rfl) ?_
    refine lv_bipush (v := 8) hx hb d_House_reckon_5 (by decide) ?_
    refine lv_icmp_ge (tgt := 36) hx hb d_House_reckon_7 (by decide) (fun c_2 => ?_) (fun c_2 => ?_)
    · refine lv_iconst (v := (-1)) hx hb d_House_reckon_36 (by decide) ?_
      have hP9 := hP.sub (ws' := []) [] rfl
      have hD9 := hD.sub (ws' := []) [] (by decide) rfl
      have hK9 := hK.sub (tys' := []) [] rfl
      exact W.iret (v := (-1)) hx hb hr (fun t ht hW => ⟨⟨(-1), (), rfl, rfl, by rw [ht]; exact hP9, va_K.moved hW.alike hK9, hD9⟩, hS.F ht⟩) hS.2.2 d_House_reckon_37
    · refine lv_iload_n hx hb d_House_reckon_10 rfl (lv_at hl 2 rfl) ?_
      refine lv_if_lt (tgt := 36) hx hb d_House_reckon_11 (by decide) (fun c_3 => ?_) (fun c_3 => ?_)
      · refine lv_iconst (v := (-1)) hx hb d_House_reckon_36 (by decide) ?_
        have hP9 := hP.sub (ws' := []) [] rfl
        have hD9 := hD.sub (ws' := []) [] (by decide) rfl
        have hK9 := hK.sub (tys' := []) [] rfl
        exact W.iret (v := (-1)) hx hb hr (fun t ht hW => ⟨⟨(-1), (), rfl, rfl, by rw [ht]; exact hP9, va_K.moved hW.alike hK9, hD9⟩, hS.F ht⟩) hS.2.2 d_House_reckon_37
      · refine lv_iload_n hx hb d_House_reckon_14 rfl (lv_at hl 2 rfl) ?_
        refine lv_iconst (v := 3) hx hb d_House_reckon_15 (by decide) ?_
        refine lv_icmp_gt (tgt := 36) hx hb d_House_reckon_16 (by decide) (fun c_4 => ?_) (fun c_4 => ?_)
        · refine lv_iconst (v := (-1)) hx hb d_House_reckon_36 (by decide) ?_
          have hP9 := hP.sub (ws' := []) [] rfl
          have hD9 := hD.sub (ws' := []) [] (by decide) rfl
          have hK9 := hK.sub (tys' := []) [] rfl
          exact W.iret (v := (-1)) hx hb hr (fun t ht hW => ⟨⟨(-1), (), rfl, rfl, by rw [ht]; exact hP9, va_K.moved hW.alike hK9, hD9⟩, hS.F ht⟩) hS.2.2 d_House_reckon_37
        · refine lv_aload_n hx hb d_House_reckon_19 rfl (lv_at hl 0 rfl) ?_
          refine lv_iload_n hx hb d_House_reckon_20 rfl (lv_at hl 3 rfl) ?_
          have hPc := hP.sub (ws' := [(h0, .inr (11, [.ref x_desk, .ref x_reader, .ref x_cells, .ref x_tape, .int 0, .ref x_script, .int 0, .ref x_rootAt, .ref x_rootTimes, .int 0, .ref x_spotX, .ref x_spotY, .ref x_bond, .int 0, .ref x_end, .ref x_span, .int 0, .ref x_part, .ref x_partPower, .int 0, .ref x_kept])), (x_kept, .inl (cK, 8, .inr (.inr (.inr (.inr (fun _ => none))))))]) [0, 1] rfl
          have hDc := hD.sub (ws' := [(h0, .inr (11, [.ref x_desk, .ref x_reader, .ref x_cells, .ref x_tape, .int 0, .ref x_script, .int 0, .ref x_rootAt, .ref x_rootTimes, .int 0, .ref x_spotX, .ref x_spotY, .ref x_bond, .int 0, .ref x_end, .ref x_span, .int 0, .ref x_part, .ref x_partPower, .int 0, .ref x_kept])), (x_kept, .inl (cK, 8, .inr (.inr (.inr (.inr (fun _ => none))))))]) [0, 1] (by decide) rfl
          have hKc := hK.sub (tys' := [(cK, .object "RealHouse$Real")]) [0] rfl
          have hFc := va_free (wc := [(h0, .inr (11, [.ref x_desk, .ref x_reader, .ref x_cells, .ref x_tape, .int 0, .ref x_script, .int 0, .ref x_rootAt, .ref x_rootTimes, .int 0, .ref x_spotX, .ref x_spotY, .ref x_bond, .int 0, .ref x_end, .ref x_span, .int 0, .ref x_part, .ref x_partPower, .int 0, .ref x_kept])), (x_kept, .inl (cK, 8, .inr (.inr (.inr (.inr (fun _ => none))))))]) hD hS hA [0, 1] rfl
          refine va_calli (va_runV (As := [.int a3]) (rest := []) ⟨hx, hb, hml, hown, hT⟩ (c_House_isNoNumber_0 l dC dI s.heap.size h0 x_desk x_reader x_cells x_tape x_script x_rootAt x_rootTimes x_spotX x_spotY x_bond x_end x_span x_part x_partPower x_kept cK a3 ) (cwV 1 hT (tb_goodV g_House_isNoNumber tw_1549 tw_1551 (tb_sel (q := (⟨"RealHouse", "isNoNumber", "(I)Z"⟩, 21)) (i := 64) (by decide +kernel)) tw_1) rfl rfl rfl (by decide +kernel) ⟨Nat.le_of_ble_eq_true rfl, Nat.le_of_ble_eq_true rfl⟩) ⟨fun a U g mk q => by obtain ⟨q0, q1, qP, qK, qD, qN⟩ := q; exact ⟨q0, q1, qP, va_K.moved (u := U) (U := U.calling g mk a) (Vm.Alike.refl U.vm) qK, qD, nx_K.same (u := U) (U := U.calling g mk a) rfl qN⟩, va_recv hKc hPc (ci := 11) (q0 := 0) rfl rfl, fun U hU hW => ⟨rfl, by rw [hU], by rw [hU]; exact hPc, va_K.moved hW.alike hKc, hDc.weaken (fun _ _ _ _ => trivial), nx_K.warm hW hN⟩⟩ rfl rfl hl.1 rfl (lv_room (Nat.le_of_ble_eq_true rfl)) d_House_reckon_21 ⟨Nat.le_of_ble_eq_true rfl, Nat.le_of_ble_eq_true rfl⟩) hS (fun q _ h => hFc q h) hFc (fun r_5 u t H1 locs ht hvm hw hB hz1 hk1 hS => ?_)
          obtain ⟨hP1, hK1, hD1⟩ := hB
          rw [ht] at hP1
          have hK1 := va_K.moved hvm.symm hK1
          obtain rfl : r_5 = 1 := hw
          obtain ⟨hP, hD⟩ := va_join (wr := []) (w1 := [(h0, .inr (11, [.ref x_desk, .ref x_reader, .ref x_cells, .ref x_tape, .int 0, .ref x_script, .int 0, .ref x_rootAt, .ref x_rootTimes, .int 0, .ref x_spotX, .ref x_spotY, .ref x_bond, .int 0, .ref x_end, .ref x_span, .int 0, .ref x_part, .ref x_partPower, .int 0, .ref x_kept])), (x_kept, .inl (cK, 8, .inr (.inr (.inr (.inr (fun _ => none))))))]) hP hD [0, 1] [] rfl rfl (by decide) (by decide) hk1 hFc hP1 hD1
          have hK := (hK.sub (tys' := []) [] rfl).app hK1
          generalize H1 = H at hP hS ⊢
          have hP : va_P (dC, dI) classes [(h0, .inr (11, [.ref x_desk, .ref x_reader, .ref x_cells, .ref x_tape, .int 0, .ref x_script, .int 0, .ref x_rootAt, .ref x_rootTimes, .int 0, .ref x_spotX, .ref x_spotY, .ref x_bond, .int 0, .ref x_end, .ref x_span, .int 0, .ref x_part, .ref x_partPower, .int 0, .ref x_kept])), (x_kept, .inl (cK, 8, .inr (.inr (.inr (.inr (fun _ => none))))))] H := hP
          have hD : va_D A [(h0, .inr (11, [.ref x_desk, .ref x_reader, .ref x_cells, .ref x_tape, .int 0, .ref x_script, .int 0, .ref x_rootAt, .ref x_rootTimes, .int 0, .ref x_spotX, .ref x_spotY, .ref x_bond, .int 0, .ref x_end, .ref x_span, .int 0, .ref x_part, .ref x_partPower, .int 0, .ref x_kept])), (x_kept, .inl (cK, 8, .inr (.inr (.inr (.inr (fun _ => none))))))] := hD
          have hK : va_K (dC, dI) classes [(cK, .object "RealHouse$Real")] s := hK
          refine lv_if_ne (tgt := 36) hx hb d_House_reckon_24 (by decide) (fun c_6 => ?_) (fun c_6 => absurd c_6 (by decide))
          refine lv_iconst (v := (-1)) hx hb d_House_reckon_36 (by decide) ?_
          have hP9 := hP.sub (ws' := []) [] rfl
          have hD9 := hD.sub (ws' := []) [] (by decide) rfl
          have hK9 := hK.sub (tys' := []) [] rfl
          exact W.iret (v := (-1)) hx hb hr (fun t ht hW => ⟨⟨(-1), (), rfl, rfl, by rw [ht]; exact hP9, va_K.moved hW.alike hK9, hD9⟩, hS.F ht⟩) hS.2.2 d_House_reckon_37

set_option maxHeartbeats 4000000 in
set_option maxRecDepth 100000 in
/-- least on a fresh house -/
theorem c_House_least_0 (l : Launch) (dC : Nat → ClassId) (dI : Nat → Nat → Nat) (sz : Nat) (h0 : Nat) (x_desk : Nat) (x_reader : Nat) (x_cells : Nat) (x_tape : Nat) (x_script : Nat) (x_rootAt : Nat) (x_rootTimes : Nat) (x_spotX : Nat) (x_spotY : Nat) (x_bond : Nat) (x_end : Nat) (x_span : Nat) (x_part : Nat) (x_partPower : Nat) (x_kept : Nat) (cK : ClassId) (a1 : Int32)  : Met l y_House_least w_House_least ({ frames := 1, cells := 0, slots := 0, locals := 21 }) (va_Pc [.ref h0, .int a1] (fun U => U.heap.size = sz ∧ va_P (dC, dI) classes [(h0, .inr (11, [.ref x_desk, .ref x_reader, .ref x_cells, .ref x_tape, .int 0, .ref x_script, .int 0, .ref x_rootAt, .ref x_rootTimes, .int 0, .ref x_spotX, .ref x_spotY, .ref x_bond, .int 0, .ref x_end, .ref x_span, .int 0, .ref x_part, .ref x_partPower, .int 0, .ref x_kept])), (x_kept, .inl (cK, 8, .inr (.inr (.inr (.inr (fun _ => none))))))] U.heap ∧ va_K (dC, dI) classes [(cK, .object "RealHouse$Real")] U ∧ va_D (fun _ => True) [(h0, .inr (11, [.ref x_desk, .ref x_reader, .ref x_cells, .ref x_tape, .int 0, .ref x_script, .int 0, .ref x_rootAt, .ref x_rootTimes, .int 0, .ref x_spotX, .ref x_spotY, .ref x_bond, .int 0, .ref x_end, .ref x_span, .int 0, .ref x_part, .ref x_partPower, .int 0, .ref x_kept])), (x_kept, .inl (cK, 8, .inr (.inr (.inr (.inr (fun _ => none))))))] ∧ nx_K U)) (va_Qi (fun (r : Int32) (_ : Unit) => r = (-1)) (fun _ t => va_P (dC, dI) classes [] t.heap ∧ va_K (dC, dI) classes [] t ∧ va_D (va_A [(h0, .inr (11, [.ref x_desk, .ref x_reader, .ref x_cells, .ref x_tape, .int 0, .ref x_script, .int 0, .ref x_rootAt, .ref x_rootTimes, .int 0, .ref x_spotX, .ref x_spotY, .ref x_bond, .int 0, .ref x_end, .ref x_span, .int 0, .ref x_part, .ref x_partPower, .int 0, .ref x_kept])), (x_kept, .inl (cK, 8, .inr (.inr (.inr (.inr (fun _ => none))))))] sz) []) (va_A [(h0, .inr (11, [.ref x_desk, .ref x_reader, .ref x_cells, .ref x_tape, .int 0, .ref x_script, .int 0, .ref x_rootAt, .ref x_rootTimes, .int 0, .ref x_spotX, .ref x_spotY, .ref x_bond, .int 0, .ref x_end, .ref x_span, .int 0, .ref x_part, .ref x_partPower, .int 0, .ref x_kept])), (x_kept, .inl (cK, 8, .inr (.inr (.inr (.inr (fun _ => none))))))] sz)) 0 0 (va_A [(h0, .inr (11, [.ref x_desk, .ref x_reader, .ref x_cells, .ref x_tape, .int 0, .ref x_script, .int 0, .ref x_rootAt, .ref x_rootTimes, .int 0, .ref x_spotX, .ref x_spotY, .ref x_bond, .int 0, .ref x_end, .ref x_span, .int 0, .ref x_part, .ref x_partPower, .int 0, .ref x_kept])), (x_kept, .inl (cK, 8, .inr (.inr (.inr (.inr (fun _ => none))))))] sz) := by
  refine Met.ofW (cc := b_House_least) (maxL := 2) (ret := (some .int)) (by decide) rfl ?_
  intro p e s m args below meth c s₁ B hml hv
  obtain ⟨rfl, hsz, hP, hK, hD0, hN⟩ := hv
  have hx := B.exec
  have hb := B.bytes
  have hr := B.returns
  have hT : ∀ w ∈ lw_g, w.before _ s = true := fun w h => atoms_spec (ws := w_House_least) B.pre w (List.mem_cons_of_mem _ h)
  have hown : s.vm.findClass R_House = some m.cls := findClass_of_methodNamed B.named
  have hlocks := B.notSynchronized
  subst hsz
  have hD := hD0.self (sz := s.heap.size)
  generalize hAe : va_A [(h0, .inr (11, [.ref x_desk, .ref x_reader, .ref x_cells, .ref x_tape, .int 0, .ref x_script, .int 0, .ref x_rootAt, .ref x_rootTimes, .int 0, .ref x_spotX, .ref x_spotY, .ref x_bond, .int 0, .ref x_end, .ref x_span, .int 0, .ref x_part, .ref x_partPower, .int 0, .ref x_kept])), (x_kept, .inl (cK, 8, .inr (.inr (.inr (.inr (fun _ => none))))))] s.heap.size = A at hD ⊢
  have hA : ∀ q : Nat, s.heap.size ≤ q → A q := fun q h => by rw [← hAe]; exact Or.inr h
  have hS : va_S A s.heap s.heap [] := va_S.rf
  have hP : va_P (dC, dI) classes [(h0, .inr (11, [.ref x_desk, .ref x_reader, .ref x_cells, .ref x_tape, .int 0, .ref x_script, .int 0, .ref x_rootAt, .ref x_rootTimes, .int 0, .ref x_spotX, .ref x_spotY, .ref x_bond, .int 0, .ref x_end, .ref x_span, .int 0, .ref x_part, .ref x_partPower, .int 0, .ref x_kept])), (x_kept, .inl (cK, 8, .inr (.inr (.inr (.inr (fun _ => none))))))] s.heap := hP
  have hl := lv_entry ([.ref h0, .int a1]) (n := 2) (Nat.le_of_ble_eq_true rfl)
  rw [lg_entry_eq]
  generalize (lg_sl ([.ref h0, .int a1]) ++ List.replicate (2 - (lg_sl ([.ref h0, .int a1])).length) Slot.unset).toArray = ls at hl ⊢
  have hl : lv_has ls 2 [(0, .ref h0), (1, .int a1)] := hl
  refine lv_aload_n hx hb d_House_least_0 rfl (lv_at hl 0 rfl) ?_
  refine lv_iload_n hx hb d_House_least_1 rfl (lv_at hl 1 rfl) ?_
  have hPc := hP.sub (ws' := [(h0, .inr (11, [.ref x_desk, .ref x_reader, .ref x_cells, .ref x_tape, .int 0, .ref x_script, .int 0, .ref x_rootAt, .ref x_rootTimes, .int 0, .ref x_spotX, .ref x_spotY, .ref x_bond, .int 0, .ref x_end, .ref x_span, .int 0, .ref x_part, .ref x_partPower, .int 0, .ref x_kept])), (x_kept, .inl (cK, 8, .inr (.inr (.inr (.inr (fun _ => none))))))]) [0, 1] rfl
  have hDc := hD.sub (ws' := [(h0, .inr (11, [.ref x_desk, .ref x_reader, .ref x_cells, .ref x_tape, .int 0, .ref x_script, .int 0, .ref x_rootAt, .ref x_rootTimes, .int 0, .ref x_spotX, .ref x_spotY, .ref x_bond, .int 0, .ref x_end, .ref x_span, .int 0, .ref x_part, .ref x_partPower, .int 0, .ref x_kept])), (x_kept, .inl (cK, 8, .inr (.inr (.inr (.inr (fun _ => none))))))]) [0, 1] (by decide) rfl
  have hKc := hK.sub (tys' := [(cK, .object "RealHouse$Real")]) [0] rfl
  have hFc := va_free (wc := [(h0, .inr (11, [.ref x_desk, .ref x_reader, .ref x_cells, .ref x_tape, .int 0, .ref x_script, .int 0, .ref x_rootAt, .ref x_rootTimes, .int 0, .ref x_spotX, .ref x_spotY, .ref x_bond, .int 0, .ref x_end, .ref x_span, .int 0, .ref x_part, .ref x_partPower, .int 0, .ref x_kept])), (x_kept, .inl (cK, 8, .inr (.inr (.inr (.inr (fun _ => none))))))]) hD hS hA [0, 1] rfl
  refine va_calli (va_runV (As := [.int a1]) (rest := []) ⟨hx, hb, hml, hown, hT⟩ (c_House_isNoNumber_0 l dC dI s.heap.size h0 x_desk x_reader x_cells x_tape x_script x_rootAt x_rootTimes x_spotX x_spotY x_bond x_end x_span x_part x_partPower x_kept cK a1 ) (cwV 1 hT (tb_goodV g_House_isNoNumber tw_1549 tw_1551 (tb_sel (q := (⟨"RealHouse", "isNoNumber", "(I)Z"⟩, 21)) (i := 64) (by decide +kernel)) tw_1) rfl rfl rfl (by decide +kernel) ⟨Nat.le_of_ble_eq_true rfl, Nat.le_of_ble_eq_true rfl⟩) ⟨fun a U g mk q => by obtain ⟨q0, q1, qP, qK, qD, qN⟩ := q; exact ⟨q0, q1, qP, va_K.moved (u := U) (U := U.calling g mk a) (Vm.Alike.refl U.vm) qK, qD, nx_K.same (u := U) (U := U.calling g mk a) rfl qN⟩, va_recv hKc hPc (ci := 11) (q0 := 0) rfl rfl, fun U hU hW => ⟨rfl, by rw [hU], by rw [hU]; exact hPc, va_K.moved hW.alike hKc, hDc.weaken (fun _ _ _ _ => trivial), nx_K.warm hW hN⟩⟩ rfl rfl hl.1 rfl (lv_room (Nat.le_of_ble_eq_true rfl)) d_House_least_2 ⟨Nat.le_of_ble_eq_true rfl, Nat.le_of_ble_eq_true rfl⟩) hS (fun q _ h => hFc q h) hFc (fun r_1 u t H1 locs ht hvm hw hB hz1 hk1 hS => ?_)
  obtain ⟨hP1, hK1, hD1⟩ := hB
  rw [ht] at hP1
  have hK1 := va_K.moved hvm.symm hK1
  obtain rfl : r_1 = 1 := hw
  obtain ⟨hP, hD⟩ := va_join (wr := []) (w1 := [(h0, .inr (11, [.ref x_desk, .ref x_reader, .ref x_cells, .ref x_tape, .int 0, .ref x_script, .int 0, .ref x_rootAt, .ref x_rootTimes, .int 0, .ref x_spotX, .ref x_spotY, .ref x_bond, .int 0, .ref x_end, .ref x_span, .int 0, .ref x_part, .ref x_partPower, .int 0, .ref x_kept])), (x_kept, .inl (cK, 8, .inr (.inr (.inr (.inr (fun _ => none))))))]) hP hD [0, 1] [] rfl rfl (by decide) (by decide) hk1 hFc hP1 hD1
  have hK := (hK.sub (tys' := []) [] rfl).app hK1
  generalize H1 = H at hP hS ⊢
  have hP : va_P (dC, dI) classes [(h0, .inr (11, [.ref x_desk, .ref x_reader, .ref x_cells, .ref x_tape, .int 0, .ref x_script, .int 0, .ref x_rootAt, .ref x_rootTimes, .int 0, .ref x_spotX, .ref x_spotY, .ref x_bond, .int 0, .ref x_end, .ref x_span, .int 0, .ref x_part, .ref x_partPower, .int 0, .ref x_kept])), (x_kept, .inl (cK, 8, .inr (.inr (.inr (.inr (fun _ => none))))))] H := hP
  have hD : va_D A [(h0, .inr (11, [.ref x_desk, .ref x_reader, .ref x_cells, .ref x_tape, .int 0, .ref x_script, .int 0, .ref x_rootAt, .ref x_rootTimes, .int 0, .ref x_spotX, .ref x_spotY, .ref x_bond, .int 0, .ref x_end, .ref x_span, .int 0, .ref x_part, .ref x_partPower, .int 0, .ref x_kept])), (x_kept, .inl (cK, 8, .inr (.inr (.inr (.inr (fun _ => none))))))] := hD
  have hK : va_K (dC, dI) classes [(cK, .object "RealHouse$Real")] s := hK
  refine lv_if_eq (tgt := 12) hx hb d_House_least_5 (by decide) (fun c_2 => absurd c_2 (by decide)) (fun c_2 => ?_)
  refine lv_iconst (v := (-1)) hx hb d_House_least_8 (by decide) ?_
  refine lv_goto (tgt := 25) hx hb d_House_least_9 (by decide) ?_
  have hP9 := hP.sub (ws' := []) [] rfl
  have hD9 := hD.sub (ws' := []) [] (by decide) rfl
  have hK9 := hK.sub (tys' := []) [] rfl
  exact W.iret (v := (-1)) hx hb hr (fun t ht hW => ⟨⟨(-1), (), rfl, rfl, by rw [ht]; exact hP9, va_K.moved hW.alike hK9, hD9⟩, hS.F ht⟩) hS.2.2 d_House_least_25

set_option maxHeartbeats 4000000 in
set_option maxRecDepth 100000 in
/-- number on a fresh house -/
theorem c_House_number_0 (l : Launch) (dC : Nat → ClassId) (dI : Nat → Nat → Nat) (sz : Nat) (h0 : Nat) (x_desk : Nat) (x_reader : Nat) (x_cells : Nat) (x_tape : Nat) (x_script : Nat) (x_rootAt : Nat) (x_rootTimes : Nat) (x_spotX : Nat) (x_spotY : Nat) (x_bond : Nat) (x_end : Nat) (x_span : Nat) (x_part : Nat) (x_partPower : Nat) (x_kept : Nat) (cK : ClassId) (a1 : Int32) (a2 : Int32)  : Met l y_House_number w_House_number ({ frames := 1, cells := 0, slots := 0, locals := 21 }) (va_Pc [.ref h0, .int a1, .int a2] (fun U => U.heap.size = sz ∧ va_P (dC, dI) classes [(h0, .inr (11, [.ref x_desk, .ref x_reader, .ref x_cells, .ref x_tape, .int 0, .ref x_script, .int 0, .ref x_rootAt, .ref x_rootTimes, .int 0, .ref x_spotX, .ref x_spotY, .ref x_bond, .int 0, .ref x_end, .ref x_span, .int 0, .ref x_part, .ref x_partPower, .int 0, .ref x_kept])), (x_kept, .inl (cK, 8, .inr (.inr (.inr (.inr (fun _ => none))))))] U.heap ∧ va_K (dC, dI) classes [(cK, .object "RealHouse$Real")] U ∧ va_D (fun _ => True) [(h0, .inr (11, [.ref x_desk, .ref x_reader, .ref x_cells, .ref x_tape, .int 0, .ref x_script, .int 0, .ref x_rootAt, .ref x_rootTimes, .int 0, .ref x_spotX, .ref x_spotY, .ref x_bond, .int 0, .ref x_end, .ref x_span, .int 0, .ref x_part, .ref x_partPower, .int 0, .ref x_kept])), (x_kept, .inl (cK, 8, .inr (.inr (.inr (.inr (fun _ => none))))))] ∧ nx_K U)) (va_Qi (fun (r : Int32) (_ : Unit) => r = (-1)) (fun _ t => va_P (dC, dI) classes [] t.heap ∧ va_K (dC, dI) classes [] t ∧ va_D (va_A [(h0, .inr (11, [.ref x_desk, .ref x_reader, .ref x_cells, .ref x_tape, .int 0, .ref x_script, .int 0, .ref x_rootAt, .ref x_rootTimes, .int 0, .ref x_spotX, .ref x_spotY, .ref x_bond, .int 0, .ref x_end, .ref x_span, .int 0, .ref x_part, .ref x_partPower, .int 0, .ref x_kept])), (x_kept, .inl (cK, 8, .inr (.inr (.inr (.inr (fun _ => none))))))] sz) []) (va_A [(h0, .inr (11, [.ref x_desk, .ref x_reader, .ref x_cells, .ref x_tape, .int 0, .ref x_script, .int 0, .ref x_rootAt, .ref x_rootTimes, .int 0, .ref x_spotX, .ref x_spotY, .ref x_bond, .int 0, .ref x_end, .ref x_span, .int 0, .ref x_part, .ref x_partPower, .int 0, .ref x_kept])), (x_kept, .inl (cK, 8, .inr (.inr (.inr (.inr (fun _ => none))))))] sz)) 0 0 (va_A [(h0, .inr (11, [.ref x_desk, .ref x_reader, .ref x_cells, .ref x_tape, .int 0, .ref x_script, .int 0, .ref x_rootAt, .ref x_rootTimes, .int 0, .ref x_spotX, .ref x_spotY, .ref x_bond, .int 0, .ref x_end, .ref x_span, .int 0, .ref x_part, .ref x_partPower, .int 0, .ref x_kept])), (x_kept, .inl (cK, 8, .inr (.inr (.inr (.inr (fun _ => none))))))] sz) := by
  refine Met.ofW (cc := b_House_number) (maxL := 3) (ret := (some .int)) (by decide) rfl ?_
  intro p e s m args below meth c s₁ B hml hv
  obtain ⟨rfl, hsz, hP, hK, hD0, hN⟩ := hv
  have hx := B.exec
  have hb := B.bytes
  have hr := B.returns
  have hT : ∀ w ∈ lw_g, w.before _ s = true := fun w h => atoms_spec (ws := w_House_number) B.pre w (List.mem_cons_of_mem _ h)
  have hown : s.vm.findClass R_House = some m.cls := findClass_of_methodNamed B.named
  have hlocks := B.notSynchronized
  subst hsz
  have hD := hD0.self (sz := s.heap.size)
  generalize hAe : va_A [(h0, .inr (11, [.ref x_desk, .ref x_reader, .ref x_cells, .ref x_tape, .int 0, .ref x_script, .int 0, .ref x_rootAt, .ref x_rootTimes, .int 0, .ref x_spotX, .ref x_spotY, .ref x_bond, .int 0, .ref x_end, .ref x_span, .int 0, .ref x_part, .ref x_partPower, .int 0, .ref x_kept])), (x_kept, .inl (cK, 8, .inr (.inr (.inr (.inr (fun _ => none))))))] s.heap.size = A at hD ⊢
  have hA : ∀ q : Nat, s.heap.size ≤ q → A q := fun q h => by rw [← hAe]; exact Or.inr h
  have hS : va_S A s.heap s.heap [] := va_S.rf
  have hP : va_P (dC, dI) classes [(h0, .inr (11, [.ref x_desk, .ref x_reader, .ref x_cells, .ref x_tape, .int 0, .ref x_script, .int 0, .ref x_rootAt, .ref x_rootTimes, .int 0, .ref x_spotX, .ref x_spotY, .ref x_bond, .int 0, .ref x_end, .ref x_span, .int 0, .ref x_part, .ref x_partPower, .int 0, .ref x_kept])), (x_kept, .inl (cK, 8, .inr (.inr (.inr (.inr (fun _ => none))))))] s.heap := hP
  have hl := lv_entry ([.ref h0, .int a1, .int a2]) (n := 3) (Nat.le_of_ble_eq_true rfl)
  rw [lg_entry_eq]
  generalize (lg_sl ([.ref h0, .int a1, .int a2]) ++ List.replicate (3 - (lg_sl ([.ref h0, .int a1, .int a2])).length) Slot.unset).toArray = ls at hl ⊢
  have hl : lv_has ls 3 [(0, .ref h0), (1, .int a1), (2, .int a2)] := hl
  refine lv_aload_n hx hb d_House_number_0 rfl (lv_at hl 0 rfl) ?_
  refine lv_iload_n hx hb d_House_number_1 rfl (lv_at hl 1 rfl) ?_
  have hPc := hP.sub (ws' := [(h0, .inr (11, [.ref x_desk, .ref x_reader, .ref x_cells, .ref x_tape, .int 0, .ref x_script, .int 0, .ref x_rootAt, .ref x_rootTimes, .int 0, .ref x_spotX, .ref x_spotY, .ref x_bond, .int 0, .ref x_end, .ref x_span, .int 0, .ref x_part, .ref x_partPower, .int 0, .ref x_kept])), (x_kept, .inl (cK, 8, .inr (.inr (.inr (.inr (fun _ => none))))))]) [0, 1] rfl
  have hDc := hD.sub (ws' := [(h0, .inr (11, [.ref x_desk, .ref x_reader, .ref x_cells, .ref x_tape, .int 0, .ref x_script, .int 0, .ref x_rootAt, .ref x_rootTimes, .int 0, .ref x_spotX, .ref x_spotY, .ref x_bond, .int 0, .ref x_end, .ref x_span, .int 0, .ref x_part, .ref x_partPower, .int 0, .ref x_kept])), (x_kept, .inl (cK, 8, .inr (.inr (.inr (.inr (fun _ => none))))))]) [0, 1] (by decide) rfl
  have hKc := hK.sub (tys' := [(cK, .object "RealHouse$Real")]) [0] rfl
  have hFc := va_free (wc := [(h0, .inr (11, [.ref x_desk, .ref x_reader, .ref x_cells, .ref x_tape, .int 0, .ref x_script, .int 0, .ref x_rootAt, .ref x_rootTimes, .int 0, .ref x_spotX, .ref x_spotY, .ref x_bond, .int 0, .ref x_end, .ref x_span, .int 0, .ref x_part, .ref x_partPower, .int 0, .ref x_kept])), (x_kept, .inl (cK, 8, .inr (.inr (.inr (.inr (fun _ => none))))))]) hD hS hA [0, 1] rfl
  refine va_calli (va_runV (As := [.int a1]) (rest := []) ⟨hx, hb, hml, hown, hT⟩ (c_House_isNoNumber_0 l dC dI s.heap.size h0 x_desk x_reader x_cells x_tape x_script x_rootAt x_rootTimes x_spotX x_spotY x_bond x_end x_span x_part x_partPower x_kept cK a1 ) (cwV 1 hT (tb_goodV g_House_isNoNumber tw_1549 tw_1551 (tb_sel (q := (⟨"RealHouse", "isNoNumber", "(I)Z"⟩, 21)) (i := 64) (by decide +kernel)) tw_1) rfl rfl rfl (by decide +kernel) ⟨Nat.le_of_ble_eq_true rfl, Nat.le_of_ble_eq_true rfl⟩) ⟨fun a U g mk q => by obtain ⟨q0, q1, qP, qK, qD, qN⟩ := q; exact ⟨q0, q1, qP, va_K.moved (u := U) (U := U.calling g mk a) (Vm.Alike.refl U.vm) qK, qD, nx_K.same (u := U) (U := U.calling g mk a) rfl qN⟩, va_recv hKc hPc (ci := 11) (q0 := 0) rfl rfl, fun U hU hW => ⟨rfl, by rw [hU], by rw [hU]; exact hPc, va_K.moved hW.alike hKc, hDc.weaken (fun _ _ _ _ => trivial), nx_K.warm hW hN⟩⟩ rfl rfl hl.1 rfl (lv_room (Nat.le_of_ble_eq_true rfl)) d_House_number_2 ⟨Nat.le_of_ble_eq_true rfl, Nat.le_of_ble_eq_true rfl⟩) hS (fun q _ h => hFc q h) hFc (fun r_1 u t H1 locs ht hvm hw hB hz1 hk1 hS => ?_)
  obtain ⟨hP1, hK1, hD1⟩ := hB
  rw [ht] at hP1
  have hK1 := va_K.moved hvm.symm hK1
  obtain rfl : r_1 = 1 := hw
  obtain ⟨hP, hD⟩ := va_join (wr := []) (w1 := [(h0, .inr (11, [.ref x_desk, .ref x_reader, .ref x_cells, .ref x_tape, .int 0, .ref x_script, .int 0, .ref x_rootAt, .ref x_rootTimes, .int 0, .ref x_spotX, .ref x_spotY, .ref x_bond, .int 0, .ref x_end, .ref x_span, .int 0, .ref x_part, .ref x_partPower, .int 0, .ref x_kept])), (x_kept, .inl (cK, 8, .inr (.inr (.inr (.inr (fun _ => none))))))]) hP hD [0, 1] [] rfl rfl (by decide) (by decide) hk1 hFc hP1 hD1
  have hK := (hK.sub (tys' := []) [] rfl).app hK1
  generalize H1 = H at hP hS ⊢
  have hP : va_P (dC, dI) classes [(h0, .inr (11, [.ref x_desk, .ref x_reader, .ref x_cells, .ref x_tape, .int 0, .ref x_script, .int 0, .ref x_rootAt, .ref x_rootTimes, .int 0, .ref x_spotX, .ref x_spotY, .ref x_bond, .int 0, .ref x_end, .ref x_span, .int 0, .ref x_part, .ref x_partPower, .int 0, .ref x_kept])), (x_kept, .inl (cK, 8, .inr (.inr (.inr (.inr (fun _ => none))))))] H := hP
  have hD : va_D A [(h0, .inr (11, [.ref x_desk, .ref x_reader, .ref x_cells, .ref x_tape, .int 0, .ref x_script, .int 0, .ref x_rootAt, .ref x_rootTimes, .int 0, .ref x_spotX, .ref x_spotY, .ref x_bond, .int 0, .ref x_end, .ref x_span, .int 0, .ref x_part, .ref x_partPower, .int 0, .ref x_kept])), (x_kept, .inl (cK, 8, .inr (.inr (.inr (.inr (fun _ => none))))))] := hD
  have hK : va_K (dC, dI) classes [(cK, .object "RealHouse$Real")] s := hK
  refine lv_if_eq (tgt := 12) hx hb d_House_number_5 (by decide) (fun c_2 => absurd c_2 (by decide)) (fun c_2 => ?_)
  refine lv_iconst (v := (-1)) hx hb d_House_number_8 (by decide) ?_
  refine lv_goto (tgt := 23) hx hb d_House_number_9 (by decide) ?_
  have hP9 := hP.sub (ws' := []) [] rfl
  have hD9 := hD.sub (ws' := []) [] (by decide) rfl
  have hK9 := hK.sub (tys' := []) [] rfl
  exact W.iret (v := (-1)) hx hb hr (fun t ht hW => ⟨⟨(-1), (), rfl, rfl, by rw [ht]; exact hP9, va_K.moved hW.alike hK9, hD9⟩, hS.F ht⟩) hS.2.2 d_House_number_23

set_option maxHeartbeats 4000000 in
set_option maxRecDepth 100000 in
/-- compare on a fresh house -/
theorem c_House_compare_0 (l : Launch) (dC : Nat → ClassId) (dI : Nat → Nat → Nat) (sz : Nat) (h0 : Nat) (x_desk : Nat) (x_reader : Nat) (x_cells : Nat) (x_tape : Nat) (x_script : Nat) (x_rootAt : Nat) (x_rootTimes : Nat) (x_spotX : Nat) (x_spotY : Nat) (x_bond : Nat) (x_end : Nat) (x_span : Nat) (x_part : Nat) (x_partPower : Nat) (x_kept : Nat) (cK : ClassId) (a1 : Int32) (a2 : Int32)  : Met l y_House_compare w_House_compare ({ frames := 1, cells := 0, slots := 0, locals := 21 }) (va_Pc [.ref h0, .int a1, .int a2] (fun U => U.heap.size = sz ∧ va_P (dC, dI) classes [(h0, .inr (11, [.ref x_desk, .ref x_reader, .ref x_cells, .ref x_tape, .int 0, .ref x_script, .int 0, .ref x_rootAt, .ref x_rootTimes, .int 0, .ref x_spotX, .ref x_spotY, .ref x_bond, .int 0, .ref x_end, .ref x_span, .int 0, .ref x_part, .ref x_partPower, .int 0, .ref x_kept])), (x_kept, .inl (cK, 8, .inr (.inr (.inr (.inr (fun _ => none))))))] U.heap ∧ va_K (dC, dI) classes [(cK, .object "RealHouse$Real")] U ∧ va_D (fun _ => True) [(h0, .inr (11, [.ref x_desk, .ref x_reader, .ref x_cells, .ref x_tape, .int 0, .ref x_script, .int 0, .ref x_rootAt, .ref x_rootTimes, .int 0, .ref x_spotX, .ref x_spotY, .ref x_bond, .int 0, .ref x_end, .ref x_span, .int 0, .ref x_part, .ref x_partPower, .int 0, .ref x_kept])), (x_kept, .inl (cK, 8, .inr (.inr (.inr (.inr (fun _ => none))))))] ∧ nx_K U)) (va_Qi (fun (r : Int32) (_ : Unit) => r = (-1)) (fun _ t => va_P (dC, dI) classes [] t.heap ∧ va_K (dC, dI) classes [] t ∧ va_D (va_A [(h0, .inr (11, [.ref x_desk, .ref x_reader, .ref x_cells, .ref x_tape, .int 0, .ref x_script, .int 0, .ref x_rootAt, .ref x_rootTimes, .int 0, .ref x_spotX, .ref x_spotY, .ref x_bond, .int 0, .ref x_end, .ref x_span, .int 0, .ref x_part, .ref x_partPower, .int 0, .ref x_kept])), (x_kept, .inl (cK, 8, .inr (.inr (.inr (.inr (fun _ => none))))))] sz) []) (va_A [(h0, .inr (11, [.ref x_desk, .ref x_reader, .ref x_cells, .ref x_tape, .int 0, .ref x_script, .int 0, .ref x_rootAt, .ref x_rootTimes, .int 0, .ref x_spotX, .ref x_spotY, .ref x_bond, .int 0, .ref x_end, .ref x_span, .int 0, .ref x_part, .ref x_partPower, .int 0, .ref x_kept])), (x_kept, .inl (cK, 8, .inr (.inr (.inr (.inr (fun _ => none))))))] sz)) 0 0 (va_A [(h0, .inr (11, [.ref x_desk, .ref x_reader, .ref x_cells, .ref x_tape, .int 0, .ref x_script, .int 0, .ref x_rootAt, .ref x_rootTimes, .int 0, .ref x_spotX, .ref x_spotY, .ref x_bond, .int 0, .ref x_end, .ref x_span, .int 0, .ref x_part, .ref x_partPower, .int 0, .ref x_kept])), (x_kept, .inl (cK, 8, .inr (.inr (.inr (.inr (fun _ => none))))))] sz) := by
  refine Met.ofW (cc := b_House_compare) (maxL := 3) (ret := (some .int)) (by decide) rfl ?_
  intro p e s m args below meth c s₁ B hml hv
  obtain ⟨rfl, hsz, hP, hK, hD0, hN⟩ := hv
  have hx := B.exec
  have hb := B.bytes
  have hr := B.returns
  have hT : ∀ w ∈ lw_g, w.before _ s = true := fun w h => atoms_spec (ws := w_House_compare) B.pre w (List.mem_cons_of_mem _ h)
  have hown : s.vm.findClass R_House = some m.cls := findClass_of_methodNamed B.named
  have hlocks := B.notSynchronized
  subst hsz
  have hD := hD0.self (sz := s.heap.size)
  generalize hAe : va_A [(h0, .inr (11, [.ref x_desk, .ref x_reader, .ref x_cells, .ref x_tape, .int 0, .ref x_script, .int 0, .ref x_rootAt, .ref x_rootTimes, .int 0, .ref x_spotX, .ref x_spotY, .ref x_bond, .int 0, .ref x_end, .ref x_span, .int 0, .ref x_part, .ref x_partPower, .int 0, .ref x_kept])), (x_kept, .inl (cK, 8, .inr (.inr (.inr (.inr (fun _ => none))))))] s.heap.size = A at hD ⊢
  have hA : ∀ q : Nat, s.heap.size ≤ q → A q := fun q h => by rw [← hAe]; exact Or.inr h
  have hS : va_S A s.heap s.heap [] := va_S.rf
  have hP : va_P (dC, dI) classes [(h0, .inr (11, [.ref x_desk, .ref x_reader, .ref x_cells, .ref x_tape, .int 0, .ref x_script, .int 0, .ref x_rootAt, .ref x_rootTimes, .int 0, .ref x_spotX, .ref x_spotY, .ref x_bond, .int 0, .ref x_end, .ref x_span, .int 0, .ref x_part, .ref x_partPower, .int 0, .ref x_kept])), (x_kept, .inl (cK, 8, .inr (.inr (.inr (.inr (fun _ => none))))))] s.heap := hP
  have hl := lv_entry ([.ref h0, .int a1, .int a2]) (n := 3) (Nat.le_of_ble_eq_true rfl)
  rw [lg_entry_eq]
  generalize (lg_sl ([.ref h0, .int a1, .int a2]) ++ List.replicate (3 - (lg_sl ([.ref h0, .int a1, .int a2])).length) Slot.unset).toArray = ls at hl ⊢
  have hl : lv_has ls 3 [(0, .ref h0), (1, .int a1), (2, .int a2)] := hl
  refine lv_aload_n hx hb d_House_compare_0 rfl (lv_at hl 0 rfl) ?_
  refine lv_iload_n hx hb d_House_compare_1 rfl (lv_at hl 1 rfl) ?_
  have hPc := hP.sub (ws' := [(h0, .inr (11, [.ref x_desk, .ref x_reader, .ref x_cells, .ref x_tape, .int 0, .ref x_script, .int 0, .ref x_rootAt, .ref x_rootTimes, .int 0, .ref x_spotX, .ref x_spotY, .ref x_bond, .int 0, .ref x_end, .ref x_span, .int 0, .ref x_part, .ref x_partPower, .int 0, .ref x_kept])), (x_kept, .inl (cK, 8, .inr (.inr (.inr (.inr (fun _ => none))))))]) [0, 1] rfl
  have hDc := hD.sub (ws' := [(h0, .inr (11, [.ref x_desk, .ref x_reader, .ref x_cells, .ref x_tape, .int 0, .ref x_script, .int 0, .ref x_rootAt, .ref x_rootTimes, .int 0, .ref x_spotX, .ref x_spotY, .ref x_bond, .int 0, .ref x_end, .ref x_span, .int 0, .ref x_part, .ref x_partPower, .int 0, .ref x_kept])), (x_kept, .inl (cK, 8, .inr (.inr (.inr (.inr (fun _ => none))))))]) [0, 1] (by decide) rfl
  have hKc := hK.sub (tys' := [(cK, .object "RealHouse$Real")]) [0] rfl
  have hFc := va_free (wc := [(h0, .inr (11, [.ref x_desk, .ref x_reader, .ref x_cells, .ref x_tape, .int 0, .ref x_script, .int 0, .ref x_rootAt, .ref x_rootTimes, .int 0, .ref x_spotX, .ref x_spotY, .ref x_bond, .int 0, .ref x_end, .ref x_span, .int 0, .ref x_part, .ref x_partPower, .int 0, .ref x_kept])), (x_kept, .inl (cK, 8, .inr (.inr (.inr (.inr (fun _ => none))))))]) hD hS hA [0, 1] rfl
  refine va_calli (va_runV (As := [.int a1]) (rest := []) ⟨hx, hb, hml, hown, hT⟩ (c_House_isNoNumber_0 l dC dI s.heap.size h0 x_desk x_reader x_cells x_tape x_script x_rootAt x_rootTimes x_spotX x_spotY x_bond x_end x_span x_part x_partPower x_kept cK a1 ) (cwV 1 hT (tb_goodV g_House_isNoNumber tw_1549 tw_1551 (tb_sel (q := (⟨"RealHouse", "isNoNumber", "(I)Z"⟩, 21)) (i := 64) (by decide +kernel)) tw_1) rfl rfl rfl (by decide +kernel) ⟨Nat.le_of_ble_eq_true rfl, Nat.le_of_ble_eq_true rfl⟩) ⟨fun a U g mk q => by obtain ⟨q0, q1, qP, qK, qD, qN⟩ := q; exact ⟨q0, q1, qP, va_K.moved (u := U) (U := U.calling g mk a) (Vm.Alike.refl U.vm) qK, qD, nx_K.same (u := U) (U := U.calling g mk a) rfl qN⟩, va_recv hKc hPc (ci := 11) (q0 := 0) rfl rfl, fun U hU hW => ⟨rfl, by rw [hU], by rw [hU]; exact hPc, va_K.moved hW.alike hKc, hDc.weaken (fun _ _ _ _ => trivial), nx_K.warm hW hN⟩⟩ rfl rfl hl.1 rfl (lv_room (Nat.le_of_ble_eq_true rfl)) d_House_compare_2 ⟨Nat.le_of_ble_eq_true rfl, Nat.le_of_ble_eq_true rfl⟩) hS (fun q _ h => hFc q h) hFc (fun r_1 u t H1 locs ht hvm hw hB hz1 hk1 hS => ?_)
  obtain ⟨hP1, hK1, hD1⟩ := hB
  rw [ht] at hP1
  have hK1 := va_K.moved hvm.symm hK1
  obtain rfl : r_1 = 1 := hw
  obtain ⟨hP, hD⟩ := va_join (wr := []) (w1 := [(h0, .inr (11, [.ref x_desk, .ref x_reader, .ref x_cells, .ref x_tape, .int 0, .ref x_script, .int 0, .ref x_rootAt, .ref x_rootTimes, .int 0, .ref x_spotX, .ref x_spotY, .ref x_bond, .int 0, .ref x_end, .ref x_span, .int 0, .ref x_part, .ref x_partPower, .int 0, .ref x_kept])), (x_kept, .inl (cK, 8, .inr (.inr (.inr (.inr (fun _ => none))))))]) hP hD [0, 1] [] rfl rfl (by decide) (by decide) hk1 hFc hP1 hD1
  have hK := (hK.sub (tys' := []) [] rfl).app hK1
  generalize H1 = H at hP hS ⊢
  have hP : va_P (dC, dI) classes [(h0, .inr (11, [.ref x_desk, .ref x_reader, .ref x_cells, .ref x_tape, .int 0, .ref x_script, .int 0, .ref x_rootAt, .ref x_rootTimes, .int 0, .ref x_spotX, .ref x_spotY, .ref x_bond, .int 0, .ref x_end, .ref x_span, .int 0, .ref x_part, .ref x_partPower, .int 0, .ref x_kept])), (x_kept, .inl (cK, 8, .inr (.inr (.inr (.inr (fun _ => none))))))] H := hP
  have hD : va_D A [(h0, .inr (11, [.ref x_desk, .ref x_reader, .ref x_cells, .ref x_tape, .int 0, .ref x_script, .int 0, .ref x_rootAt, .ref x_rootTimes, .int 0, .ref x_spotX, .ref x_spotY, .ref x_bond, .int 0, .ref x_end, .ref x_span, .int 0, .ref x_part, .ref x_partPower, .int 0, .ref x_kept])), (x_kept, .inl (cK, 8, .inr (.inr (.inr (.inr (fun _ => none))))))] := hD
  have hK : va_K (dC, dI) classes [(cK, .object "RealHouse$Real")] s := hK
  refine lv_if_ne (tgt := 16) hx hb d_House_compare_5 (by decide) (fun c_2 => ?_) (fun c_2 => absurd c_2 (by decide))
  refine lv_iconst (v := (-1)) hx hb d_House_compare_16 (by decide) ?_
  refine lv_goto (tgt := 37) hx hb d_House_compare_17 (by decide) ?_
  have hP9 := hP.sub (ws' := []) [] rfl
  have hD9 := hD.sub (ws' := []) [] (by decide) rfl
  have hK9 := hK.sub (tys' := []) [] rfl
  exact W.iret (v := (-1)) hx hb hr (fun t ht hW => ⟨⟨(-1), (), rfl, rfl, by rw [ht]; exact hP9, va_K.moved hW.alike hK9, hD9⟩, hS.F ht⟩) hS.2.2 d_House_compare_37

set_option maxHeartbeats 4000000 in
set_option maxRecDepth 100000 in
/-- out on a fresh house -/
theorem c_House_out_0 (l : Launch) (dC : Nat → ClassId) (dI : Nat → Nat → Nat) (sz : Nat) (h0 : Nat) (x_desk : Nat) (x_reader : Nat) (x_cells : Nat) (x_tape : Nat) (x_script : Nat) (x_rootAt : Nat) (x_rootTimes : Nat) (x_spotX : Nat) (x_spotY : Nat) (x_bond : Nat) (x_end : Nat) (x_span : Nat) (x_part : Nat) (x_partPower : Nat) (x_kept : Nat) (a1 : Int32)  : Met l y_House_out w_House_out ({ frames := 0, cells := 0, slots := 0, locals := 0 }) (va_Pc [.ref h0, .int a1] (fun U => U.heap.size = sz ∧ va_P (dC, dI) classes [(h0, .inr (11, [.ref x_desk, .ref x_reader, .ref x_cells, .ref x_tape, .int 0, .ref x_script, .int 0, .ref x_rootAt, .ref x_rootTimes, .int 0, .ref x_spotX, .ref x_spotY, .ref x_bond, .int 0, .ref x_end, .ref x_span, .int 0, .ref x_part, .ref x_partPower, .int 0, .ref x_kept]))] U.heap ∧ va_K (dC, dI) classes [] U ∧ va_D (fun _ => True) [(h0, .inr (11, [.ref x_desk, .ref x_reader, .ref x_cells, .ref x_tape, .int 0, .ref x_script, .int 0, .ref x_rootAt, .ref x_rootTimes, .int 0, .ref x_spotX, .ref x_spotY, .ref x_bond, .int 0, .ref x_end, .ref x_span, .int 0, .ref x_part, .ref x_partPower, .int 0, .ref x_kept]))] ∧ nx_K U)) (va_Qi (fun (r : Int32) (_ : Unit) => r = if a1 = (-1) then 0 else (-1)) (fun _ t => va_P (dC, dI) classes [] t.heap ∧ va_K (dC, dI) classes [] t ∧ va_D (va_A [(h0, .inr (11, [.ref x_desk, .ref x_reader, .ref x_cells, .ref x_tape, .int 0, .ref x_script, .int 0, .ref x_rootAt, .ref x_rootTimes, .int 0, .ref x_spotX, .ref x_spotY, .ref x_bond, .int 0, .ref x_end, .ref x_span, .int 0, .ref x_part, .ref x_partPower, .int 0, .ref x_kept]))] sz) []) (va_A [(h0, .inr (11, [.ref x_desk, .ref x_reader, .ref x_cells, .ref x_tape, .int 0, .ref x_script, .int 0, .ref x_rootAt, .ref x_rootTimes, .int 0, .ref x_spotX, .ref x_spotY, .ref x_bond, .int 0, .ref x_end, .ref x_span, .int 0, .ref x_part, .ref x_partPower, .int 0, .ref x_kept]))] sz)) 0 0 (va_A [(h0, .inr (11, [.ref x_desk, .ref x_reader, .ref x_cells, .ref x_tape, .int 0, .ref x_script, .int 0, .ref x_rootAt, .ref x_rootTimes, .int 0, .ref x_spotX, .ref x_spotY, .ref x_bond, .int 0, .ref x_end, .ref x_span, .int 0, .ref x_part, .ref x_partPower, .int 0, .ref x_kept]))] sz) := by
  refine Met.ofW (cc := b_House_out) (maxL := 2) (ret := (some .int)) (by decide) rfl ?_
  intro p e s m args below meth c s₁ B hml hv
  obtain ⟨rfl, hsz, hP, hK, hD0, hN⟩ := hv
  have hx := B.exec
  have hb := B.bytes
  have hr := B.returns
  have hT : ∀ w ∈ lw_g, w.before _ s = true := fun w h => atoms_spec (ws := w_House_out) B.pre w (List.mem_cons_of_mem _ h)
  have hown : s.vm.findClass R_House = some m.cls := findClass_of_methodNamed B.named
  have hlocks := B.notSynchronized
  subst hsz
  have hD := hD0.self (sz := s.heap.size)
  generalize hAe : va_A [(h0, .inr (11, [.ref x_desk, .ref x_reader, .ref x_cells, .ref x_tape, .int 0, .ref x_script, .int 0, .ref x_rootAt, .ref x_rootTimes, .int 0, .ref x_spotX, .ref x_spotY, .ref x_bond, .int 0, .ref x_end, .ref x_span, .int 0, .ref x_part, .ref x_partPower, .int 0, .ref x_kept]))] s.heap.size = A at hD ⊢
  have hA : ∀ q : Nat, s.heap.size ≤ q → A q := fun q h => by rw [← hAe]; exact Or.inr h
  have hS : va_S A s.heap s.heap [] := va_S.rf
  have hP : va_P (dC, dI) classes [(h0, .inr (11, [.ref x_desk, .ref x_reader, .ref x_cells, .ref x_tape, .int 0, .ref x_script, .int 0, .ref x_rootAt, .ref x_rootTimes, .int 0, .ref x_spotX, .ref x_spotY, .ref x_bond, .int 0, .ref x_end, .ref x_span, .int 0, .ref x_part, .ref x_partPower, .int 0, .ref x_kept]))] s.heap := hP
  have hl := lv_entry ([.ref h0, .int a1]) (n := 2) (Nat.le_of_ble_eq_true rfl)
  rw [lg_entry_eq]
  generalize (lg_sl ([.ref h0, .int a1]) ++ List.replicate (2 - (lg_sl ([.ref h0, .int a1])).length) Slot.unset).toArray = ls at hl ⊢
  have hl : lv_has ls 2 [(0, .ref h0), (1, .int a1)] := hl
  refine lv_iload_n hx hb d_House_out_0 rfl (lv_at hl 1 rfl) ?_
  refine lv_iconst (v := (-1)) hx hb d_House_out_1 (by decide) ?_
  refine lv_icmp_ne (tgt := 10) hx hb d_House_out_2 (by decide) (fun c_1 => ?_) (fun c_1 => ?_)
  · refine lv_iload_n hx hb d_House_out_10 rfl (lv_at hl 1 rfl) ?_
    refine lv_if_lt (tgt := 31) hx hb d_House_out_11 (by decide) (fun c_2 => ?_) (fun c_2 => ?_)
    · refine lv_iconst (v := (-1)) hx hb d_House_out_31 (by decide) ?_
      have hP9 := hP.sub (ws' := []) [] rfl
      have hD9 := hD.sub (ws' := []) [] (by decide) rfl
      have hK9 := hK.sub (tys' := []) [] rfl
      exact W.iret (v := (-1)) hx hb hr (fun t ht hW => ⟨⟨(-1), (), rfl, (if_neg c_1).symm, by rw [ht]; exact hP9, va_K.moved hW.alike hK9, hD9⟩, hS.F ht⟩) hS.2.2 d_House_out_32
    · refine lv_iload_n hx hb d_House_out_14 rfl (lv_at hl 1 rfl) ?_
      refine lv_aload_n hx hb d_House_out_15 rfl (lv_at hl 0 rfl) ?_
      refine va_get (D := (dC, dI)) (ci := 11) (v := .int 0) (C := R_House) (T := F_House) (N := 21) hx hb hT i_House hown hK hP 0 rfl rfl 6 (by decide) (hT _ tw_621) (fun _ h9 => h9) rfl d_House_out_16 ?_
      refine lv_icmp_ge (tgt := 31) hx hb d_House_out_19 (by decide) (fun c_3 => ?_) (fun c_3 => absurd (Int32.not_lt.mp c_2) c_3)
      refine lv_iconst (v := (-1)) hx hb d_House_out_31 (by decide) ?_
      have hP9 := hP.sub (ws' := []) [] rfl
      have hD9 := hD.sub (ws' := []) [] (by decide) rfl
      have hK9 := hK.sub (tys' := []) [] rfl
      exact W.iret (v := (-1)) hx hb hr (fun t ht hW => ⟨⟨(-1), (), rfl, (if_neg c_1).symm, by rw [ht]; exact hP9, va_K.moved hW.alike hK9, hD9⟩, hS.F ht⟩) hS.2.2 d_House_out_32
  · refine lv_aload_n hx hb d_House_out_5 rfl (lv_at hl 0 rfl) ?_
    refine va_get (D := (dC, dI)) (ci := 11) (v := .int 0) (C := R_House) (T := F_House) (N := 21) hx hb hT i_House hown hK hP 0 rfl rfl 6 (by decide) (hT _ tw_621) (fun _ h9 => h9) rfl d_House_out_6 ?_
    have hP9 := hP.sub (ws' := []) [] rfl
    have hD9 := hD.sub (ws' := []) [] (by decide) rfl
    have hK9 := hK.sub (tys' := []) [] rfl
    exact W.iret (v := 0) hx hb hr (fun t ht hW => ⟨⟨0, (), rfl, (if_pos c_1).symm, by rw [ht]; exact hP9, va_K.moved hW.alike hK9, hD9⟩, hS.F ht⟩) hS.2.2 d_House_out_9

set_option maxHeartbeats 4000000 in
set_option maxRecDepth 100000 in
/-- roots on a fresh house -/
theorem c_House_roots_0 (l : Launch) (dC : Nat → ClassId) (dI : Nat → Nat → Nat) (sz : Nat) (h0 : Nat) (x_desk : Nat) (x_reader : Nat) (x_cells : Nat) (x_tape : Nat) (x_script : Nat) (x_rootAt : Nat) (x_rootTimes : Nat) (x_spotX : Nat) (x_spotY : Nat) (x_bond : Nat) (x_end : Nat) (x_span : Nat) (x_part : Nat) (x_partPower : Nat) (x_kept : Nat) (cT : ClassId) (fT : Nat → Int32) (r_left : Nat) (r_right : Nat) (r_told : Nat) (r_curve : Nat) (r_steps : Nat) (r_stack : Nat) (t0 : Nat) (ft : Int32) (wx : Int32) (wy : Int32) (x_c : Nat) (cL : ClassId) (fc : Nat → Option Nat) (dk : Nat) (p0 : Nat) (p1 : Nat) (p2 : Nat) (p3 : Nat) (p4 : Nat) (p5 : Nat) (p6 : Nat) (p7 : Nat) (p8 : Nat) (y0 : Nat) (y1 : Nat) (y2 : Nat) (y3 : Nat) (y4 : Nat) (y5 : Nat) (y6 : Nat) (y7 : Nat) (y8 : Nat) (n : Int32) (hF : fc 0 = some p0 ∧ fc 1 = some p1 ∧ fc 2 = some p2 ∧ fc 3 = some p3 ∧ fc 4 = some p4 ∧ fc 5 = some p5 ∧ fc 6 = some p6 ∧ fc 7 = some p7 ∧ fc 8 = some p8) : Met l y_House_roots w_House_roots ({ frames := 5, cells := 0, slots := 0, locals := 119 }) (va_Pc [.ref h0, .int n] (fun U => U.heap.size = sz ∧ va_P (dC, dI) classes [(h0, .inr (11, [.ref x_desk, .ref x_reader, .ref x_cells, .ref x_tape, .int 0, .ref x_script, .int 0, .ref x_rootAt, .ref x_rootTimes, .int 0, .ref x_spotX, .ref x_spotY, .ref x_bond, .int 0, .ref x_end, .ref x_span, .int 0, .ref x_part, .ref x_partPower, .int 0, .ref x_kept])), (x_tape, .inl (cT, 400, .inl fT)), (x_reader, .inr (8, [.ref t0, .int 0, .int 0, .int ft, .int wx, .int wy, .int 0, .ref r_left, .ref r_right, .ref r_told, .ref r_curve, .int 0, .int 0, .int 0, .int 0, .ref r_steps, .int 0, .ref r_stack, .int 0])), (r_left, .inr (2, [.ref x_c])), (x_c, .inl (cL, 9, .inr (.inr (.inr (.inr fc))))), (p0, .inr (6, [.ref dk, .ref y0, .int 0])), (p1, .inr (6, [.ref dk, .ref y1, .int 0])), (p2, .inr (6, [.ref dk, .ref y2, .int 0])), (p3, .inr (6, [.ref dk, .ref y3, .int 0])), (p4, .inr (6, [.ref dk, .ref y4, .int 0])), (p5, .inr (6, [.ref dk, .ref y5, .int 0])), (p6, .inr (6, [.ref dk, .ref y6, .int 0])), (p7, .inr (6, [.ref dk, .ref y7, .int 0])), (p8, .inr (6, [.ref dk, .ref y8, .int 0]))] U.heap ∧ va_K (dC, dI) classes [(cT, .int), (cL, .object "RealHouse$Poly")] U ∧ va_D (fun _ => True) [(h0, .inr (11, [.ref x_desk, .ref x_reader, .ref x_cells, .ref x_tape, .int 0, .ref x_script, .int 0, .ref x_rootAt, .ref x_rootTimes, .int 0, .ref x_spotX, .ref x_spotY, .ref x_bond, .int 0, .ref x_end, .ref x_span, .int 0, .ref x_part, .ref x_partPower, .int 0, .ref x_kept])), (x_tape, .inl (cT, 400, .inl fT)), (x_reader, .inr (8, [.ref t0, .int 0, .int 0, .int ft, .int wx, .int wy, .int 0, .ref r_left, .ref r_right, .ref r_told, .ref r_curve, .int 0, .int 0, .int 0, .int 0, .ref r_steps, .int 0, .ref r_stack, .int 0])), (r_left, .inr (2, [.ref x_c])), (x_c, .inl (cL, 9, .inr (.inr (.inr (.inr fc))))), (p0, .inr (6, [.ref dk, .ref y0, .int 0])), (p1, .inr (6, [.ref dk, .ref y1, .int 0])), (p2, .inr (6, [.ref dk, .ref y2, .int 0])), (p3, .inr (6, [.ref dk, .ref y3, .int 0])), (p4, .inr (6, [.ref dk, .ref y4, .int 0])), (p5, .inr (6, [.ref dk, .ref y5, .int 0])), (p6, .inr (6, [.ref dk, .ref y6, .int 0])), (p7, .inr (6, [.ref dk, .ref y7, .int 0])), (p8, .inr (6, [.ref dk, .ref y8, .int 0]))] ∧ nx_K U)) (va_Qi (fun (r : Int32) (_ : Unit) => r = if n = 0 then (-2) else (-1)) (fun _ t => va_P (dC, dI) classes [] t.heap ∧ va_K (dC, dI) classes [] t ∧ va_D (va_A [(h0, .inr (11, [.ref x_desk, .ref x_reader, .ref x_cells, .ref x_tape, .int 0, .ref x_script, .int 0, .ref x_rootAt, .ref x_rootTimes, .int 0, .ref x_spotX, .ref x_spotY, .ref x_bond, .int 0, .ref x_end, .ref x_span, .int 0, .ref x_part, .ref x_partPower, .int 0, .ref x_kept])), (x_tape, .inl (cT, 400, .inl fT)), (x_reader, .inr (8, [.ref t0, .int 0, .int 0, .int ft, .int wx, .int wy, .int 0, .ref r_left, .ref r_right, .ref r_told, .ref r_curve, .int 0, .int 0, .int 0, .int 0, .ref r_steps, .int 0, .ref r_stack, .int 0])), (r_left, .inr (2, [.ref x_c])), (x_c, .inl (cL, 9, .inr (.inr (.inr (.inr fc))))), (p0, .inr (6, [.ref dk, .ref y0, .int 0])), (p1, .inr (6, [.ref dk, .ref y1, .int 0])), (p2, .inr (6, [.ref dk, .ref y2, .int 0])), (p3, .inr (6, [.ref dk, .ref y3, .int 0])), (p4, .inr (6, [.ref dk, .ref y4, .int 0])), (p5, .inr (6, [.ref dk, .ref y5, .int 0])), (p6, .inr (6, [.ref dk, .ref y6, .int 0])), (p7, .inr (6, [.ref dk, .ref y7, .int 0])), (p8, .inr (6, [.ref dk, .ref y8, .int 0]))] sz) []) (va_A [(h0, .inr (11, [.ref x_desk, .ref x_reader, .ref x_cells, .ref x_tape, .int 0, .ref x_script, .int 0, .ref x_rootAt, .ref x_rootTimes, .int 0, .ref x_spotX, .ref x_spotY, .ref x_bond, .int 0, .ref x_end, .ref x_span, .int 0, .ref x_part, .ref x_partPower, .int 0, .ref x_kept])), (x_tape, .inl (cT, 400, .inl fT)), (x_reader, .inr (8, [.ref t0, .int 0, .int 0, .int ft, .int wx, .int wy, .int 0, .ref r_left, .ref r_right, .ref r_told, .ref r_curve, .int 0, .int 0, .int 0, .int 0, .ref r_steps, .int 0, .ref r_stack, .int 0])), (r_left, .inr (2, [.ref x_c])), (x_c, .inl (cL, 9, .inr (.inr (.inr (.inr fc))))), (p0, .inr (6, [.ref dk, .ref y0, .int 0])), (p1, .inr (6, [.ref dk, .ref y1, .int 0])), (p2, .inr (6, [.ref dk, .ref y2, .int 0])), (p3, .inr (6, [.ref dk, .ref y3, .int 0])), (p4, .inr (6, [.ref dk, .ref y4, .int 0])), (p5, .inr (6, [.ref dk, .ref y5, .int 0])), (p6, .inr (6, [.ref dk, .ref y6, .int 0])), (p7, .inr (6, [.ref dk, .ref y7, .int 0])), (p8, .inr (6, [.ref dk, .ref y8, .int 0]))] sz)) 0 0 (va_A [(h0, .inr (11, [.ref x_desk, .ref x_reader, .ref x_cells, .ref x_tape, .int 0, .ref x_script, .int 0, .ref x_rootAt, .ref x_rootTimes, .int 0, .ref x_spotX, .ref x_spotY, .ref x_bond, .int 0, .ref x_end, .ref x_span, .int 0, .ref x_part, .ref x_partPower, .int 0, .ref x_kept])), (x_tape, .inl (cT, 400, .inl fT)), (x_reader, .inr (8, [.ref t0, .int 0, .int 0, .int ft, .int wx, .int wy, .int 0, .ref r_left, .ref r_right, .ref r_told, .ref r_curve, .int 0, .int 0, .int 0, .int 0, .ref r_steps, .int 0, .ref r_stack, .int 0])), (r_left, .inr (2, [.ref x_c])), (x_c, .inl (cL, 9, .inr (.inr (.inr (.inr fc))))), (p0, .inr (6, [.ref dk, .ref y0, .int 0])), (p1, .inr (6, [.ref dk, .ref y1, .int 0])), (p2, .inr (6, [.ref dk, .ref y2, .int 0])), (p3, .inr (6, [.ref dk, .ref y3, .int 0])), (p4, .inr (6, [.ref dk, .ref y4, .int 0])), (p5, .inr (6, [.ref dk, .ref y5, .int 0])), (p6, .inr (6, [.ref dk, .ref y6, .int 0])), (p7, .inr (6, [.ref dk, .ref y7, .int 0])), (p8, .inr (6, [.ref dk, .ref y8, .int 0]))] sz) := by
  refine Met.ofW (cc := b_House_roots) (maxL := 4) (ret := (some .int)) (by decide) rfl ?_
  intro p e s m args below meth c s₁ B hml hv
  obtain ⟨rfl, hsz, hP, hK, hD0, hN⟩ := hv
  have hx := B.exec
  have hb := B.bytes
  have hr := B.returns
  have hT : ∀ w ∈ lw_g, w.before _ s = true := fun w h => atoms_spec (ws := w_House_roots) B.pre w (List.mem_cons_of_mem _ h)
  have hown : s.vm.findClass R_House = some m.cls := findClass_of_methodNamed B.named
  have hlocks := B.notSynchronized
  subst hsz
  have hD := hD0.self (sz := s.heap.size)
  generalize hAe : va_A [(h0, .inr (11, [.ref x_desk, .ref x_reader, .ref x_cells, .ref x_tape, .int 0, .ref x_script, .int 0, .ref x_rootAt, .ref x_rootTimes, .int 0, .ref x_spotX, .ref x_spotY, .ref x_bond, .int 0, .ref x_end, .ref x_span, .int 0, .ref x_part, .ref x_partPower, .int 0, .ref x_kept])), (x_tape, .inl (cT, 400, .inl fT)), (x_reader, .inr (8, [.ref t0, .int 0, .int 0, .int ft, .int wx, .int wy, .int 0, .ref r_left, .ref r_right, .ref r_told, .ref r_curve, .int 0, .int 0, .int 0, .int 0, .ref r_steps, .int 0, .ref r_stack, .int 0])), (r_left, .inr (2, [.ref x_c])), (x_c, .inl (cL, 9, .inr (.inr (.inr (.inr fc))))), (p0, .inr (6, [.ref dk, .ref y0, .int 0])), (p1, .inr (6, [.ref dk, .ref y1, .int 0])), (p2, .inr (6, [.ref dk, .ref y2, .int 0])), (p3, .inr (6, [.ref dk, .ref y3, .int 0])), (p4, .inr (6, [.ref dk, .ref y4, .int 0])), (p5, .inr (6, [.ref dk, .ref y5, .int 0])), (p6, .inr (6, [.ref dk, .ref y6, .int 0])), (p7, .inr (6, [.ref dk, .ref y7, .int 0])), (p8, .inr (6, [.ref dk, .ref y8, .int 0]))] s.heap.size = A at hD ⊢
  have hA : ∀ q : Nat, s.heap.size ≤ q → A q := fun q h => by rw [← hAe]; exact Or.inr h
  have hS : va_S A s.heap s.heap [] := va_S.rf
  have hP : va_P (dC, dI) classes [(h0, .inr (11, [.ref x_desk, .ref x_reader, .ref x_cells, .ref x_tape, .int 0, .ref x_script, .int 0, .ref x_rootAt, .ref x_rootTimes, .int 0, .ref x_spotX, .ref x_spotY, .ref x_bond, .int 0, .ref x_end, .ref x_span, .int 0, .ref x_part, .ref x_partPower, .int 0, .ref x_kept])), (x_tape, .inl (cT, 400, .inl fT)), (x_reader, .inr (8, [.ref t0, .int 0, .int 0, .int ft, .int wx, .int wy, .int 0, .ref r_left, .ref r_right, .ref r_told, .ref r_curve, .int 0, .int 0, .int 0, .int 0, .ref r_steps, .int 0, .ref r_stack, .int 0])), (r_left, .inr (2, [.ref x_c])), (x_c, .inl (cL, 9, .inr (.inr (.inr (.inr fc))))), (p0, .inr (6, [.ref dk, .ref y0, .int 0])), (p1, .inr (6, [.ref dk, .ref y1, .int 0])), (p2, .inr (6, [.ref dk, .ref y2, .int 0])), (p3, .inr (6, [.ref dk, .ref y3, .int 0])), (p4, .inr (6, [.ref dk, .ref y4, .int 0])), (p5, .inr (6, [.ref dk, .ref y5, .int 0])), (p6, .inr (6, [.ref dk, .ref y6, .int 0])), (p7, .inr (6, [.ref dk, .ref y7, .int 0])), (p8, .inr (6, [.ref dk, .ref y8, .int 0]))] s.heap := hP
  have hl := lv_entry ([.ref h0, .int n]) (n := 4) (Nat.le_of_ble_eq_true rfl)
  rw [lg_entry_eq]
  generalize (lg_sl ([.ref h0, .int n]) ++ List.replicate (4 - (lg_sl ([.ref h0, .int n])).length) Slot.unset).toArray = ls at hl ⊢
  have hl : lv_has ls 4 [(0, .ref h0), (1, .int n)] := hl
  refine lv_aload_n hx hb d_House_roots_0 rfl (lv_at hl 0 rfl) ?_
  refine lv_iload_n hx hb d_House_roots_1 rfl (lv_at hl 1 rfl) ?_
  refine lv_iconst (v := 1) hx hb d_House_roots_2 (by decide) ?_
  have hPc := hP.sub (ws' := [(h0, .inr (11, [.ref x_desk, .ref x_reader, .ref x_cells, .ref x_tape, .int 0, .ref x_script, .int 0, .ref x_rootAt, .ref x_rootTimes, .int 0, .ref x_spotX, .ref x_spotY, .ref x_bond, .int 0, .ref x_end, .ref x_span, .int 0, .ref x_part, .ref x_partPower, .int 0, .ref x_kept])), (x_tape, .inl (cT, 400, .inl fT)), (x_reader, .inr (8, [.ref t0, .int 0, .int 0, .int ft, .int wx, .int wy, .int 0, .ref r_left, .ref r_right, .ref r_told, .ref r_curve, .int 0, .int 0, .int 0, .int 0, .ref r_steps, .int 0, .ref r_stack, .int 0])), (r_left, .inr (2, [.ref x_c])), (x_c, .inl (cL, 9, .inr (.inr (.inr (.inr fc))))), (p0, .inr (6, [.ref dk, .ref y0, .int 0])), (p1, .inr (6, [.ref dk, .ref y1, .int 0])), (p2, .inr (6, [.ref dk, .ref y2, .int 0])), (p3, .inr (6, [.ref dk, .ref y3, .int 0])), (p4, .inr (6, [.ref dk, .ref y4, .int 0])), (p5, .inr (6, [.ref dk, .ref y5, .int 0])), (p6, .inr (6, [.ref dk, .ref y6, .int 0])), (p7, .inr (6, [.ref dk, .ref y7, .int 0])), (p8, .inr (6, [.ref dk, .ref y8, .int 0]))]) [0, 1, 2, 3, 4, 5, 6, 7, 8, 9, 10, 11, 12, 13] rfl
  have hDc := hD.sub (ws' := [(h0, .inr (11, [.ref x_desk, .ref x_reader, .ref x_cells, .ref x_tape, .int 0, .ref x_script, .int 0, .ref x_rootAt, .ref x_rootTimes, .int 0, .ref x_spotX, .ref x_spotY, .ref x_bond, .int 0, .ref x_end, .ref x_span, .int 0, .ref x_part, .ref x_partPower, .int 0, .ref x_kept])), (x_tape, .inl (cT, 400, .inl fT)), (x_reader, .inr (8, [.ref t0, .int 0, .int 0, .int ft, .int wx, .int wy, .int 0, .ref r_left, .ref r_right, .ref r_told, .ref r_curve, .int 0, .int 0, .int 0, .int 0, .ref r_steps, .int 0, .ref r_stack, .int 0])), (r_left, .inr (2, [.ref x_c])), (x_c, .inl (cL, 9, .inr (.inr (.inr (.inr fc))))), (p0, .inr (6, [.ref dk, .ref y0, .int 0])), (p1, .inr (6, [.ref dk, .ref y1, .int 0])), (p2, .inr (6, [.ref dk, .ref y2, .int 0])), (p3, .inr (6, [.ref dk, .ref y3, .int 0])), (p4, .inr (6, [.ref dk, .ref y4, .int 0])), (p5, .inr (6, [.ref dk, .ref y5, .int 0])), (p6, .inr (6, [.ref dk, .ref y6, .int 0])), (p7, .inr (6, [.ref dk, .ref y7, .int 0])), (p8, .inr (6, [.ref dk, .ref y8, .int 0]))]) [0, 1, 2, 3, 4, 5, 6, 7, 8, 9, 10, 11, 12, 13] (by decide) rfl
  have hKc := hK.sub (tys' := [(cT, .int), (cL, .object "RealHouse$Poly")]) [0, 1] rfl
  have hFc := va_free (wc := [(h0, .inr (11, [.ref x_desk, .ref x_reader, .ref x_cells, .ref x_tape, .int 0, .ref x_script, .int 0, .ref x_rootAt, .ref x_rootTimes, .int 0, .ref x_spotX, .ref x_spotY, .ref x_bond, .int 0, .ref x_end, .ref x_span, .int 0, .ref x_part, .ref x_partPower, .int 0, .ref x_kept])), (x_tape, .inl (cT, 400, .inl fT)), (x_reader, .inr (8, [.ref t0, .int 0, .int 0, .int ft, .int wx, .int wy, .int 0, .ref r_left, .ref r_right, .ref r_told, .ref r_curve, .int 0, .int 0, .int 0, .int 0, .ref r_steps, .int 0, .ref r_stack, .int 0])), (r_left, .inr (2, [.ref x_c])), (x_c, .inl (cL, 9, .inr (.inr (.inr (.inr fc))))), (p0, .inr (6, [.ref dk, .ref y0, .int 0])), (p1, .inr (6, [.ref dk, .ref y1, .int 0])), (p2, .inr (6, [.ref dk, .ref y2, .int 0])), (p3, .inr (6, [.ref dk, .ref y3, .int 0])), (p4, .inr (6, [.ref dk, .ref y4, .int 0])), (p5, .inr (6, [.ref dk, .ref y5, .int 0])), (p6, .inr (6, [.ref dk, .ref y6, .int 0])), (p7, .inr (6, [.ref dk, .ref y7, .int 0])), (p8, .inr (6, [.ref dk, .ref y8, .int 0]))]) hD hS hA [0, 1, 2, 3, 4, 5, 6, 7, 8, 9, 10, 11, 12, 13] rfl
  refine va_calli (va_runV (As := [.int n, .int 1]) (rest := []) ⟨hx, hb, hml, hown, hT⟩ (c_House_readInX_0 l dC dI s.heap.size h0 x_desk x_reader x_cells x_tape x_script x_rootAt x_rootTimes x_spotX x_spotY x_bond x_end x_span x_part x_partPower x_kept cT fT r_left r_right r_told r_curve r_steps r_stack t0 ft wx wy x_c cL fc dk p0 p1 p2 p3 p4 p5 p6 p7 p8 y0 y1 y2 y3 y4 y5 y6 y7 y8 n 1 hF) (cwV 2 hT (tb_goodV g_House_readInX tw_946 tw_948 (tb_sel (q := (⟨"RealHouse", "readInX", "(IZ)I"⟩, 21)) (i := 17) (by decide +kernel)) tw_1) rfl rfl rfl (by decide +kernel) ⟨Nat.le_of_ble_eq_true rfl, Nat.le_of_ble_eq_true rfl⟩) ⟨fun a U g mk q => by obtain ⟨q0, q1, qP, qK, qD, qN⟩ := q; exact ⟨q0, q1, qP, va_K.moved (u := U) (U := U.calling g mk a) (Vm.Alike.refl U.vm) qK, qD, nx_K.same (u := U) (U := U.calling g mk a) rfl qN⟩, va_recv hKc hPc (ci := 11) (q0 := 0) rfl rfl, fun U hU hW => ⟨rfl, by rw [hU], by rw [hU]; exact hPc, va_K.moved hW.alike hKc, hDc.weaken (fun _ _ _ _ => trivial), nx_K.warm hW hN⟩⟩ rfl rfl hl.1 rfl (lv_room (Nat.le_of_ble_eq_true rfl)) d_House_roots_3 ⟨Nat.le_of_ble_eq_true rfl, Nat.le_of_ble_eq_true rfl⟩) hS (fun q _ h => hFc q h) hFc (fun r_1 u t H1 locs ht hvm hw hB hz1 hk1 hS => ?_)
  obtain ⟨hP1, hK1, hD1⟩ := hB
  rw [ht] at hP1
  have hK1 := va_K.moved hvm.symm hK1
  have hr_1 := hw
  obtain ⟨hP, hD⟩ := va_join (wr := []) (w1 := []) hP hD [0, 1, 2, 3, 4, 5, 6, 7, 8, 9, 10, 11, 12, 13] [] rfl rfl (by decide) (by decide) hk1 hFc hP1 hD1
  have hK := (hK.sub (tys' := [(cT, .int), (cL, .object "RealHouse$Poly")]) [0, 1] rfl).app hK1
  generalize H1 = H at hP hS ⊢
  have hP : va_P (dC, dI) classes [] H := hP
  have hD : va_D A [] := hD
  have hK : va_K (dC, dI) classes [(cT, .int), (cL, .object "RealHouse$Poly")] s := hK
  refine lv_istore_n (lv' := [(2, .int r_1), (0, .ref h0), (1, .int n)]) hx hb d_House_roots_6 rfl hl (by decide) rfl (fun ls hl => ?_)
  refine lv_iload_n hx hb d_House_roots_7 rfl (lv_at hl 0 rfl) ?_
  refine lv_if_ge (tgt := 13) hx hb d_House_roots_8 (by decide) (fun c_2 => ?_) (fun c_2 => ?_)
  · exact absurd c_2 (by rw [hr_1]; by_cases h : n = 0 <;> simp [h])
  · refine lv_iload_n hx hb d_House_roots_11 rfl (lv_at hl 0 rfl) ?_
    have hP9 := hP.sub (ws' := []) [] rfl
    have hD9 := hD.sub (ws' := []) [] (by decide) rfl
    have hK9 := hK.sub (tys' := []) [] rfl
    exact W.iret (v := r_1) hx hb hr (fun t ht hW => ⟨⟨r_1, (), rfl, hr_1, by rw [ht]; exact hP9, va_K.moved hW.alike hK9, hD9⟩, hS.F ht⟩) hS.2.2 d_House_roots_12

set_option maxHeartbeats 4000000 in
set_option maxRecDepth 100000 in
/-- factors on a fresh house -/
theorem c_House_factors_0 (l : Launch) (dC : Nat → ClassId) (dI : Nat → Nat → Nat) (sz : Nat) (h0 : Nat) (x_desk : Nat) (x_reader : Nat) (x_cells : Nat) (x_tape : Nat) (x_script : Nat) (x_rootAt : Nat) (x_rootTimes : Nat) (x_spotX : Nat) (x_spotY : Nat) (x_bond : Nat) (x_end : Nat) (x_span : Nat) (x_part : Nat) (x_partPower : Nat) (x_kept : Nat) (cT : ClassId) (fT : Nat → Int32) (r_left : Nat) (r_right : Nat) (r_told : Nat) (r_curve : Nat) (r_steps : Nat) (r_stack : Nat) (t0 : Nat) (ft : Int32) (wx : Int32) (wy : Int32) (x_c : Nat) (cL : ClassId) (fc : Nat → Option Nat) (dk : Nat) (p0 : Nat) (p1 : Nat) (p2 : Nat) (p3 : Nat) (p4 : Nat) (p5 : Nat) (p6 : Nat) (p7 : Nat) (p8 : Nat) (y0 : Nat) (y1 : Nat) (y2 : Nat) (y3 : Nat) (y4 : Nat) (y5 : Nat) (y6 : Nat) (y7 : Nat) (y8 : Nat) (n : Int32) (hF : fc 0 = some p0 ∧ fc 1 = some p1 ∧ fc 2 = some p2 ∧ fc 3 = some p3 ∧ fc 4 = some p4 ∧ fc 5 = some p5 ∧ fc 6 = some p6 ∧ fc 7 = some p7 ∧ fc 8 = some p8) : Met l y_House_factors w_House_factors ({ frames := 5, cells := 0, slots := 0, locals := 119 }) (va_Pc [.ref h0, .int n] (fun U => U.heap.size = sz ∧ va_P (dC, dI) classes [(h0, .inr (11, [.ref x_desk, .ref x_reader, .ref x_cells, .ref x_tape, .int 0, .ref x_script, .int 0, .ref x_rootAt, .ref x_rootTimes, .int 0, .ref x_spotX, .ref x_spotY, .ref x_bond, .int 0, .ref x_end, .ref x_span, .int 0, .ref x_part, .ref x_partPower, .int 0, .ref x_kept])), (x_tape, .inl (cT, 400, .inl fT)), (x_reader, .inr (8, [.ref t0, .int 0, .int 0, .int ft, .int wx, .int wy, .int 0, .ref r_left, .ref r_right, .ref r_told, .ref r_curve, .int 0, .int 0, .int 0, .int 0, .ref r_steps, .int 0, .ref r_stack, .int 0])), (r_left, .inr (2, [.ref x_c])), (x_c, .inl (cL, 9, .inr (.inr (.inr (.inr fc))))), (p0, .inr (6, [.ref dk, .ref y0, .int 0])), (p1, .inr (6, [.ref dk, .ref y1, .int 0])), (p2, .inr (6, [.ref dk, .ref y2, .int 0])), (p3, .inr (6, [.ref dk, .ref y3, .int 0])), (p4, .inr (6, [.ref dk, .ref y4, .int 0])), (p5, .inr (6, [.ref dk, .ref y5, .int 0])), (p6, .inr (6, [.ref dk, .ref y6, .int 0])), (p7, .inr (6, [.ref dk, .ref y7, .int 0])), (p8, .inr (6, [.ref dk, .ref y8, .int 0]))] U.heap ∧ va_K (dC, dI) classes [(cT, .int), (cL, .object "RealHouse$Poly")] U ∧ va_D (fun _ => True) [(h0, .inr (11, [.ref x_desk, .ref x_reader, .ref x_cells, .ref x_tape, .int 0, .ref x_script, .int 0, .ref x_rootAt, .ref x_rootTimes, .int 0, .ref x_spotX, .ref x_spotY, .ref x_bond, .int 0, .ref x_end, .ref x_span, .int 0, .ref x_part, .ref x_partPower, .int 0, .ref x_kept])), (x_tape, .inl (cT, 400, .inl fT)), (x_reader, .inr (8, [.ref t0, .int 0, .int 0, .int ft, .int wx, .int wy, .int 0, .ref r_left, .ref r_right, .ref r_told, .ref r_curve, .int 0, .int 0, .int 0, .int 0, .ref r_steps, .int 0, .ref r_stack, .int 0])), (r_left, .inr (2, [.ref x_c])), (x_c, .inl (cL, 9, .inr (.inr (.inr (.inr fc))))), (p0, .inr (6, [.ref dk, .ref y0, .int 0])), (p1, .inr (6, [.ref dk, .ref y1, .int 0])), (p2, .inr (6, [.ref dk, .ref y2, .int 0])), (p3, .inr (6, [.ref dk, .ref y3, .int 0])), (p4, .inr (6, [.ref dk, .ref y4, .int 0])), (p5, .inr (6, [.ref dk, .ref y5, .int 0])), (p6, .inr (6, [.ref dk, .ref y6, .int 0])), (p7, .inr (6, [.ref dk, .ref y7, .int 0])), (p8, .inr (6, [.ref dk, .ref y8, .int 0]))] ∧ nx_K U)) (va_Qi (fun (r : Int32) (_ : Unit) => r = if n = 0 then (-2) else (-1)) (fun _ t => va_P (dC, dI) classes [] t.heap ∧ va_K (dC, dI) classes [] t ∧ va_D (va_A [(h0, .inr (11, [.ref x_desk, .ref x_reader, .ref x_cells, .ref x_tape, .int 0, .ref x_script, .int 0, .ref x_rootAt, .ref x_rootTimes, .int 0, .ref x_spotX, .ref x_spotY, .ref x_bond, .int 0, .ref x_end, .ref x_span, .int 0, .ref x_part, .ref x_partPower, .int 0, .ref x_kept])), (x_tape, .inl (cT, 400, .inl fT)), (x_reader, .inr (8, [.ref t0, .int 0, .int 0, .int ft, .int wx, .int wy, .int 0, .ref r_left, .ref r_right, .ref r_told, .ref r_curve, .int 0, .int 0, .int 0, .int 0, .ref r_steps, .int 0, .ref r_stack, .int 0])), (r_left, .inr (2, [.ref x_c])), (x_c, .inl (cL, 9, .inr (.inr (.inr (.inr fc))))), (p0, .inr (6, [.ref dk, .ref y0, .int 0])), (p1, .inr (6, [.ref dk, .ref y1, .int 0])), (p2, .inr (6, [.ref dk, .ref y2, .int 0])), (p3, .inr (6, [.ref dk, .ref y3, .int 0])), (p4, .inr (6, [.ref dk, .ref y4, .int 0])), (p5, .inr (6, [.ref dk, .ref y5, .int 0])), (p6, .inr (6, [.ref dk, .ref y6, .int 0])), (p7, .inr (6, [.ref dk, .ref y7, .int 0])), (p8, .inr (6, [.ref dk, .ref y8, .int 0]))] sz) []) (va_A [(h0, .inr (11, [.ref x_desk, .ref x_reader, .ref x_cells, .ref x_tape, .int 0, .ref x_script, .int 0, .ref x_rootAt, .ref x_rootTimes, .int 0, .ref x_spotX, .ref x_spotY, .ref x_bond, .int 0, .ref x_end, .ref x_span, .int 0, .ref x_part, .ref x_partPower, .int 0, .ref x_kept])), (x_tape, .inl (cT, 400, .inl fT)), (x_reader, .inr (8, [.ref t0, .int 0, .int 0, .int ft, .int wx, .int wy, .int 0, .ref r_left, .ref r_right, .ref r_told, .ref r_curve, .int 0, .int 0, .int 0, .int 0, .ref r_steps, .int 0, .ref r_stack, .int 0])), (r_left, .inr (2, [.ref x_c])), (x_c, .inl (cL, 9, .inr (.inr (.inr (.inr fc))))), (p0, .inr (6, [.ref dk, .ref y0, .int 0])), (p1, .inr (6, [.ref dk, .ref y1, .int 0])), (p2, .inr (6, [.ref dk, .ref y2, .int 0])), (p3, .inr (6, [.ref dk, .ref y3, .int 0])), (p4, .inr (6, [.ref dk, .ref y4, .int 0])), (p5, .inr (6, [.ref dk, .ref y5, .int 0])), (p6, .inr (6, [.ref dk, .ref y6, .int 0])), (p7, .inr (6, [.ref dk, .ref y7, .int 0])), (p8, .inr (6, [.ref dk, .ref y8, .int 0]))] sz)) 0 0 (va_A [(h0, .inr (11, [.ref x_desk, .ref x_reader, .ref x_cells, .ref x_tape, .int 0, .ref x_script, .int 0, .ref x_rootAt, .ref x_rootTimes, .int 0, .ref x_spotX, .ref x_spotY, .ref x_bond, .int 0, .ref x_end, .ref x_span, .int 0, .ref x_part, .ref x_partPower, .int 0, .ref x_kept])), (x_tape, .inl (cT, 400, .inl fT)), (x_reader, .inr (8, [.ref t0, .int 0, .int 0, .int ft, .int wx, .int wy, .int 0, .ref r_left, .ref r_right, .ref r_told, .ref r_curve, .int 0, .int 0, .int 0, .int 0, .ref r_steps, .int 0, .ref r_stack, .int 0])), (r_left, .inr (2, [.ref x_c])), (x_c, .inl (cL, 9, .inr (.inr (.inr (.inr fc))))), (p0, .inr (6, [.ref dk, .ref y0, .int 0])), (p1, .inr (6, [.ref dk, .ref y1, .int 0])), (p2, .inr (6, [.ref dk, .ref y2, .int 0])), (p3, .inr (6, [.ref dk, .ref y3, .int 0])), (p4, .inr (6, [.ref dk, .ref y4, .int 0])), (p5, .inr (6, [.ref dk, .ref y5, .int 0])), (p6, .inr (6, [.ref dk, .ref y6, .int 0])), (p7, .inr (6, [.ref dk, .ref y7, .int 0])), (p8, .inr (6, [.ref dk, .ref y8, .int 0]))] sz) := by
  refine Met.ofW (cc := b_House_factors) (maxL := 5) (ret := (some .int)) (by decide) rfl ?_
  intro p e s m args below meth c s₁ B hml hv
  obtain ⟨rfl, hsz, hP, hK, hD0, hN⟩ := hv
  have hx := B.exec
  have hb := B.bytes
  have hr := B.returns
  have hT : ∀ w ∈ lw_g, w.before _ s = true := fun w h => atoms_spec (ws := w_House_factors) B.pre w (List.mem_cons_of_mem _ h)
  have hown : s.vm.findClass R_House = some m.cls := findClass_of_methodNamed B.named
  have hlocks := B.notSynchronized
  subst hsz
  have hD := hD0.self (sz := s.heap.size)
  generalize hAe : va_A [(h0, .inr (11, [.ref x_desk, .ref x_reader, .ref x_cells, .ref x_tape, .int 0, .ref x_script, .int 0, .ref x_rootAt, .ref x_rootTimes, .int 0, .ref x_spotX, .ref x_spotY, .ref x_bond, .int 0, .ref x_end, .ref x_span, .int 0, .ref x_part, .ref x_partPower, .int 0, .ref x_kept])), (x_tape, .inl (cT, 400, .inl fT)), (x_reader, .inr (8, [.ref t0, .int 0, .int 0, .int ft, .int wx, .int wy, .int 0, .ref r_left, .ref r_right, .ref r_told, .ref r_curve, .int 0, .int 0, .int 0, .int 0, .ref r_steps, .int 0, .ref r_stack, .int 0])), (r_left, .inr (2, [.ref x_c])), (x_c, .inl (cL, 9, .inr (.inr (.inr (.inr fc))))), (p0, .inr (6, [.ref dk, .ref y0, .int 0])), (p1, .inr (6, [.ref dk, .ref y1, .int 0])), (p2, .inr (6, [.ref dk, .ref y2, .int 0])), (p3, .inr (6, [.ref dk, .ref y3, .int 0])), (p4, .inr (6, [.ref dk, .ref y4, .int 0])), (p5, .inr (6, [.ref dk, .ref y5, .int 0])), (p6, .inr (6, [.ref dk, .ref y6, .int 0])), (p7, .inr (6, [.ref dk, .ref y7, .int 0])), (p8, .inr (6, [.ref dk, .ref y8, .int 0]))] s.heap.size = A at hD ⊢
  have hA : ∀ q : Nat, s.heap.size ≤ q → A q := fun q h => by rw [← hAe]; exact Or.inr h
  have hS : va_S A s.heap s.heap [] := va_S.rf
  have hP : va_P (dC, dI) classes [(h0, .inr (11, [.ref x_desk, .ref x_reader, .ref x_cells, .ref x_tape, .int 0, .ref x_script, .int 0, .ref x_rootAt, .ref x_rootTimes, .int 0, .ref x_spotX, .ref x_spotY, .ref x_bond, .int 0, .ref x_end, .ref x_span, .int 0, .ref x_part, .ref x_partPower, .int 0, .ref x_kept])), (x_tape, .inl (cT, 400, .inl fT)), (x_reader, .inr (8, [.ref t0, .int 0, .int 0, .int ft, .int wx, .int wy, .int 0, .ref r_left, .ref r_right, .ref r_told, .ref r_curve, .int 0, .int 0, .int 0, .int 0, .ref r_steps, .int 0, .ref r_stack, .int 0])), (r_left, .inr (2, [.ref x_c])), (x_c, .inl (cL, 9, .inr (.inr (.inr (.inr fc))))), (p0, .inr (6, [.ref dk, .ref y0, .int 0])), (p1, .inr (6, [.ref dk, .ref y1, .int 0])), (p2, .inr (6, [.ref dk, .ref y2, .int 0])), (p3, .inr (6, [.ref dk, .ref y3, .int 0])), (p4, .inr (6, [.ref dk, .ref y4, .int 0])), (p5, .inr (6, [.ref dk, .ref y5, .int 0])), (p6, .inr (6, [.ref dk, .ref y6, .int 0])), (p7, .inr (6, [.ref dk, .ref y7, .int 0])), (p8, .inr (6, [.ref dk, .ref y8, .int 0]))] s.heap := hP
  have hl := lv_entry ([.ref h0, .int n]) (n := 5) (Nat.le_of_ble_eq_true rfl)
  rw [lg_entry_eq]
  generalize (lg_sl ([.ref h0, .int n]) ++ List.replicate (5 - (lg_sl ([.ref h0, .int n])).length) Slot.unset).toArray = ls at hl ⊢
  have hl : lv_has ls 5 [(0, .ref h0), (1, .int n)] := hl
  refine lv_aload_n hx hb d_House_factors_0 rfl (lv_at hl 0 rfl) ?_
  refine lv_iload_n hx hb d_House_factors_1 rfl (lv_at hl 1 rfl) ?_
  refine lv_iconst (v := 1) hx hb d_House_factors_2 (by decide) ?_
  have hPc := hP.sub (ws' := [(h0, .inr (11, [.ref x_desk, .ref x_reader, .ref x_cells, .ref x_tape, .int 0, .ref x_script, .int 0, .ref x_rootAt, .ref x_rootTimes, .int 0, .ref x_spotX, .ref x_spotY, .ref x_bond, .int 0, .ref x_end, .ref x_span, .int 0, .ref x_part, .ref x_partPower, .int 0, .ref x_kept])), (x_tape, .inl (cT, 400, .inl fT)), (x_reader, .inr (8, [.ref t0, .int 0, .int 0, .int ft, .int wx, .int wy, .int 0, .ref r_left, .ref r_right, .ref r_told, .ref r_curve, .int 0, .int 0, .int 0, .int 0, .ref r_steps, .int 0, .ref r_stack, .int 0])), (r_left, .inr (2, [.ref x_c])), (x_c, .inl (cL, 9, .inr (.inr (.inr (.inr fc))))), (p0, .inr (6, [.ref dk, .ref y0, .int 0])), (p1, .inr (6, [.ref dk, .ref y1, .int 0])), (p2, .inr (6, [.ref dk, .ref y2, .int 0])), (p3, .inr (6, [.ref dk, .ref y3, .int 0])), (p4, .inr (6, [.ref dk, .ref y4, .int 0])), (p5, .inr (6, [.ref dk, .ref y5, .int 0])), (p6, .inr (6, [.ref dk, .ref y6, .int 0])), (p7, .inr (6, [.ref dk, .ref y7, .int 0])), (p8, .inr (6, [.ref dk, .ref y8, .int 0]))]) [0, 1, 2, 3, 4, 5, 6, 7, 8, 9, 10, 11, 12, 13] rfl
  have hDc := hD.sub (ws' := [(h0, .inr (11, [.ref x_desk, .ref x_reader, .ref x_cells, .ref x_tape, .int 0, .ref x_script, .int 0, .ref x_rootAt, .ref x_rootTimes, .int 0, .ref x_spotX, .ref x_spotY, .ref x_bond, .int 0, .ref x_end, .ref x_span, .int 0, .ref x_part, .ref x_partPower, .int 0, .ref x_kept])), (x_tape, .inl (cT, 400, .inl fT)), (x_reader, .inr (8, [.ref t0, .int 0, .int 0, .int ft, .int wx, .int wy, .int 0, .ref r_left, .ref r_right, .ref r_told, .ref r_curve, .int 0, .int 0, .int 0, .int 0, .ref r_steps, .int 0, .ref r_stack, .int 0])), (r_left, .inr (2, [.ref x_c])), (x_c, .inl (cL, 9, .inr (.inr (.inr (.inr fc))))), (p0, .inr (6, [.ref dk, .ref y0, .int 0])), (p1, .inr (6, [.ref dk, .ref y1, .int 0])), (p2, .inr (6, [.ref dk, .ref y2, .int 0])), (p3, .inr (6, [.ref dk, .ref y3, .int 0])), (p4, .inr (6, [.ref dk, .ref y4, .int 0])), (p5, .inr (6, [.ref dk, .ref y5, .int 0])), (p6, .inr (6, [.ref dk, .ref y6, .int 0])), (p7, .inr (6, [.ref dk, .ref y7, .int 0])), (p8, .inr (6, [.ref dk, .ref y8, .int 0]))]) [0, 1, 2, 3, 4, 5, 6, 7, 8, 9, 10, 11, 12, 13] (by decide) rfl
  have hKc := hK.sub (tys' := [(cT, .int), (cL, .object "RealHouse$Poly")]) [0, 1] rfl
  have hFc := va_free (wc := [(h0, .inr (11, [.ref x_desk, .ref x_reader, .ref x_cells, .ref x_tape, .int 0, .ref x_script, .int 0, .ref x_rootAt, .ref x_rootTimes, .int 0, .ref x_spotX, .ref x_spotY, .ref x_bond, .int 0, .ref x_end, .ref x_span, .int 0, .ref x_part, .ref x_partPower, .int 0, .ref x_kept])), (x_tape, .inl (cT, 400, .inl fT)), (x_reader, .inr (8, [.ref t0, .int 0, .int 0, .int ft, .int wx, .int wy, .int 0, .ref r_left, .ref r_right, .ref r_told, .ref r_curve, .int 0, .int 0, .int 0, .int 0, .ref r_steps, .int 0, .ref r_stack, .int 0])), (r_left, .inr (2, [.ref x_c])), (x_c, .inl (cL, 9, .inr (.inr (.inr (.inr fc))))), (p0, .inr (6, [.ref dk, .ref y0, .int 0])), (p1, .inr (6, [.ref dk, .ref y1, .int 0])), (p2, .inr (6, [.ref dk, .ref y2, .int 0])), (p3, .inr (6, [.ref dk, .ref y3, .int 0])), (p4, .inr (6, [.ref dk, .ref y4, .int 0])), (p5, .inr (6, [.ref dk, .ref y5, .int 0])), (p6, .inr (6, [.ref dk, .ref y6, .int 0])), (p7, .inr (6, [.ref dk, .ref y7, .int 0])), (p8, .inr (6, [.ref dk, .ref y8, .int 0]))]) hD hS hA [0, 1, 2, 3, 4, 5, 6, 7, 8, 9, 10, 11, 12, 13] rfl
  refine va_calli (va_runV (As := [.int n, .int 1]) (rest := []) ⟨hx, hb, hml, hown, hT⟩ (c_House_readInX_0 l dC dI s.heap.size h0 x_desk x_reader x_cells x_tape x_script x_rootAt x_rootTimes x_spotX x_spotY x_bond x_end x_span x_part x_partPower x_kept cT fT r_left r_right r_told r_curve r_steps r_stack t0 ft wx wy x_c cL fc dk p0 p1 p2 p3 p4 p5 p6 p7 p8 y0 y1 y2 y3 y4 y5 y6 y7 y8 n 1 hF) (cwV 2 hT (tb_goodV g_House_readInX tw_946 tw_948 (tb_sel (q := (⟨"RealHouse", "readInX", "(IZ)I"⟩, 21)) (i := 17) (by decide +kernel)) tw_1) rfl rfl rfl (by decide +kernel) ⟨Nat.le_of_ble_eq_true rfl, Nat.le_of_ble_eq_true rfl⟩) ⟨fun a U g mk q => by obtain ⟨q0, q1, qP, qK, qD, qN⟩ := q; exact ⟨q0, q1, qP, va_K.moved (u := U) (U := U.calling g mk a) (Vm.Alike.refl U.vm) qK, qD, nx_K.same (u := U) (U := U.calling g mk a) rfl qN⟩, va_recv hKc hPc (ci := 11) (q0 := 0) rfl rfl, fun U hU hW => ⟨rfl, by rw [hU], by rw [hU]; exact hPc, va_K.moved hW.alike hKc, hDc.weaken (fun _ _ _ _ => trivial), nx_K.warm hW hN⟩⟩ rfl rfl hl.1 rfl (lv_room (Nat.le_of_ble_eq_true rfl)) d_House_factors_3 ⟨Nat.le_of_ble_eq_true rfl, Nat.le_of_ble_eq_true rfl⟩) hS (fun q _ h => hFc q h) hFc (fun r_1 u t H1 locs ht hvm hw hB hz1 hk1 hS => ?_)
  obtain ⟨hP1, hK1, hD1⟩ := hB
  rw [ht] at hP1
  have hK1 := va_K.moved hvm.symm hK1
  have hr_1 := hw
  obtain ⟨hP, hD⟩ := va_join (wr := []) (w1 := []) hP hD [0, 1, 2, 3, 4, 5, 6, 7, 8, 9, 10, 11, 12, 13] [] rfl rfl (by decide) (by decide) hk1 hFc hP1 hD1
  have hK := (hK.sub (tys' := [(cT, .int), (cL, .object "RealHouse$Poly")]) [0, 1] rfl).app hK1
  generalize H1 = H at hP hS ⊢
  have hP : va_P (dC, dI) classes [] H := hP
  have hD : va_D A [] := hD
  have hK : va_K (dC, dI) classes [(cT, .int), (cL, .object "RealHouse$Poly")] s := hK
  refine lv_istore_n (lv' := [(2, .int r_1), (0, .ref h0), (1, .int n)]) hx hb d_House_factors_6 rfl hl (by decide) rfl (fun ls hl => ?_)
  refine lv_iload_n hx hb d_House_factors_7 rfl (lv_at hl 0 rfl) ?_
  refine lv_if_ge (tgt := 13) hx hb d_House_factors_8 (by decide) (fun c_2 => ?_) (fun c_2 => ?_)
  · exact absurd c_2 (by rw [hr_1]; by_cases h : n = 0 <;> simp [h])
  · refine lv_iload_n hx hb d_House_factors_11 rfl (lv_at hl 0 rfl) ?_
    have hP9 := hP.sub (ws' := []) [] rfl
    have hD9 := hD.sub (ws' := []) [] (by decide) rfl
    have hK9 := hK.sub (tys' := []) [] rfl
    exact W.iret (v := r_1) hx hb hr (fun t ht hW => ⟨⟨r_1, (), rfl, hr_1, by rw [ht]; exact hP9, va_K.moved hW.alike hK9, hD9⟩, hS.F ht⟩) hS.2.2 d_House_factors_12

set_option maxHeartbeats 4000000 in
set_option maxRecDepth 100000 in
/-- points on a fresh house -/
theorem c_House_points_0 (l : Launch) (dC : Nat → ClassId) (dI : Nat → Nat → Nat) (sz : Nat) (h0 : Nat) (x_desk : Nat) (x_reader : Nat) (x_cells : Nat) (x_tape : Nat) (x_script : Nat) (x_rootAt : Nat) (x_rootTimes : Nat) (x_spotX : Nat) (x_spotY : Nat) (x_bond : Nat) (x_end : Nat) (x_span : Nat) (x_part : Nat) (x_partPower : Nat) (x_kept : Nat) (cT : ClassId) (fT : Nat → Int32) (r_left : Nat) (r_right : Nat) (r_told : Nat) (r_curve : Nat) (r_steps : Nat) (r_stack : Nat) (t0 : Nat) (ft : Int32) (wx : Int32) (wy : Int32) (x_c : Nat) (cL : ClassId) (fc : Nat → Option Nat) (dk : Nat) (p0 : Nat) (p1 : Nat) (p2 : Nat) (p3 : Nat) (p4 : Nat) (p5 : Nat) (p6 : Nat) (p7 : Nat) (p8 : Nat) (y0 : Nat) (y1 : Nat) (y2 : Nat) (y3 : Nat) (y4 : Nat) (y5 : Nat) (y6 : Nat) (y7 : Nat) (y8 : Nat) (n : Int32) (hF : fc 0 = some p0 ∧ fc 1 = some p1 ∧ fc 2 = some p2 ∧ fc 3 = some p3 ∧ fc 4 = some p4 ∧ fc 5 = some p5 ∧ fc 6 = some p6 ∧ fc 7 = some p7 ∧ fc 8 = some p8) : Met l y_House_points w_House_points ({ frames := 4, cells := 0, slots := 0, locals := 97 }) (va_Pc [.ref h0, .int n] (fun U => U.heap.size = sz ∧ va_P (dC, dI) classes [(h0, .inr (11, [.ref x_desk, .ref x_reader, .ref x_cells, .ref x_tape, .int 0, .ref x_script, .int 0, .ref x_rootAt, .ref x_rootTimes, .int 0, .ref x_spotX, .ref x_spotY, .ref x_bond, .int 0, .ref x_end, .ref x_span, .int 0, .ref x_part, .ref x_partPower, .int 0, .ref x_kept])), (x_tape, .inl (cT, 400, .inl fT)), (x_reader, .inr (8, [.ref t0, .int 0, .int 0, .int ft, .int wx, .int wy, .int 0, .ref r_left, .ref r_right, .ref r_told, .ref r_curve, .int 0, .int 0, .int 0, .int 0, .ref r_steps, .int 0, .ref r_stack, .int 0])), (r_left, .inr (2, [.ref x_c])), (x_c, .inl (cL, 9, .inr (.inr (.inr (.inr fc))))), (p0, .inr (6, [.ref dk, .ref y0, .int 0])), (p1, .inr (6, [.ref dk, .ref y1, .int 0])), (p2, .inr (6, [.ref dk, .ref y2, .int 0])), (p3, .inr (6, [.ref dk, .ref y3, .int 0])), (p4, .inr (6, [.ref dk, .ref y4, .int 0])), (p5, .inr (6, [.ref dk, .ref y5, .int 0])), (p6, .inr (6, [.ref dk, .ref y6, .int 0])), (p7, .inr (6, [.ref dk, .ref y7, .int 0])), (p8, .inr (6, [.ref dk, .ref y8, .int 0]))] U.heap ∧ va_K (dC, dI) classes [(cT, .int), (cL, .object "RealHouse$Poly")] U ∧ va_D (fun _ => True) [(h0, .inr (11, [.ref x_desk, .ref x_reader, .ref x_cells, .ref x_tape, .int 0, .ref x_script, .int 0, .ref x_rootAt, .ref x_rootTimes, .int 0, .ref x_spotX, .ref x_spotY, .ref x_bond, .int 0, .ref x_end, .ref x_span, .int 0, .ref x_part, .ref x_partPower, .int 0, .ref x_kept])), (x_tape, .inl (cT, 400, .inl fT)), (x_reader, .inr (8, [.ref t0, .int 0, .int 0, .int ft, .int wx, .int wy, .int 0, .ref r_left, .ref r_right, .ref r_told, .ref r_curve, .int 0, .int 0, .int 0, .int 0, .ref r_steps, .int 0, .ref r_stack, .int 0])), (r_left, .inr (2, [.ref x_c])), (x_c, .inl (cL, 9, .inr (.inr (.inr (.inr fc))))), (p0, .inr (6, [.ref dk, .ref y0, .int 0])), (p1, .inr (6, [.ref dk, .ref y1, .int 0])), (p2, .inr (6, [.ref dk, .ref y2, .int 0])), (p3, .inr (6, [.ref dk, .ref y3, .int 0])), (p4, .inr (6, [.ref dk, .ref y4, .int 0])), (p5, .inr (6, [.ref dk, .ref y5, .int 0])), (p6, .inr (6, [.ref dk, .ref y6, .int 0])), (p7, .inr (6, [.ref dk, .ref y7, .int 0])), (p8, .inr (6, [.ref dk, .ref y8, .int 0]))] ∧ nx_K U)) (va_Qi (fun (r : Int32) (_ : Unit) => r = if n = 0 then (-2) else (-1)) (fun _ t => va_P (dC, dI) classes [] t.heap ∧ va_K (dC, dI) classes [] t ∧ va_D (va_A [(h0, .inr (11, [.ref x_desk, .ref x_reader, .ref x_cells, .ref x_tape, .int 0, .ref x_script, .int 0, .ref x_rootAt, .ref x_rootTimes, .int 0, .ref x_spotX, .ref x_spotY, .ref x_bond, .int 0, .ref x_end, .ref x_span, .int 0, .ref x_part, .ref x_partPower, .int 0, .ref x_kept])), (x_tape, .inl (cT, 400, .inl fT)), (x_reader, .inr (8, [.ref t0, .int 0, .int 0, .int ft, .int wx, .int wy, .int 0, .ref r_left, .ref r_right, .ref r_told, .ref r_curve, .int 0, .int 0, .int 0, .int 0, .ref r_steps, .int 0, .ref r_stack, .int 0])), (r_left, .inr (2, [.ref x_c])), (x_c, .inl (cL, 9, .inr (.inr (.inr (.inr fc))))), (p0, .inr (6, [.ref dk, .ref y0, .int 0])), (p1, .inr (6, [.ref dk, .ref y1, .int 0])), (p2, .inr (6, [.ref dk, .ref y2, .int 0])), (p3, .inr (6, [.ref dk, .ref y3, .int 0])), (p4, .inr (6, [.ref dk, .ref y4, .int 0])), (p5, .inr (6, [.ref dk, .ref y5, .int 0])), (p6, .inr (6, [.ref dk, .ref y6, .int 0])), (p7, .inr (6, [.ref dk, .ref y7, .int 0])), (p8, .inr (6, [.ref dk, .ref y8, .int 0]))] sz) []) (va_A [(h0, .inr (11, [.ref x_desk, .ref x_reader, .ref x_cells, .ref x_tape, .int 0, .ref x_script, .int 0, .ref x_rootAt, .ref x_rootTimes, .int 0, .ref x_spotX, .ref x_spotY, .ref x_bond, .int 0, .ref x_end, .ref x_span, .int 0, .ref x_part, .ref x_partPower, .int 0, .ref x_kept])), (x_tape, .inl (cT, 400, .inl fT)), (x_reader, .inr (8, [.ref t0, .int 0, .int 0, .int ft, .int wx, .int wy, .int 0, .ref r_left, .ref r_right, .ref r_told, .ref r_curve, .int 0, .int 0, .int 0, .int 0, .ref r_steps, .int 0, .ref r_stack, .int 0])), (r_left, .inr (2, [.ref x_c])), (x_c, .inl (cL, 9, .inr (.inr (.inr (.inr fc))))), (p0, .inr (6, [.ref dk, .ref y0, .int 0])), (p1, .inr (6, [.ref dk, .ref y1, .int 0])), (p2, .inr (6, [.ref dk, .ref y2, .int 0])), (p3, .inr (6, [.ref dk, .ref y3, .int 0])), (p4, .inr (6, [.ref dk, .ref y4, .int 0])), (p5, .inr (6, [.ref dk, .ref y5, .int 0])), (p6, .inr (6, [.ref dk, .ref y6, .int 0])), (p7, .inr (6, [.ref dk, .ref y7, .int 0])), (p8, .inr (6, [.ref dk, .ref y8, .int 0]))] sz)) 0 0 (va_A [(h0, .inr (11, [.ref x_desk, .ref x_reader, .ref x_cells, .ref x_tape, .int 0, .ref x_script, .int 0, .ref x_rootAt, .ref x_rootTimes, .int 0, .ref x_spotX, .ref x_spotY, .ref x_bond, .int 0, .ref x_end, .ref x_span, .int 0, .ref x_part, .ref x_partPower, .int 0, .ref x_kept])), (x_tape, .inl (cT, 400, .inl fT)), (x_reader, .inr (8, [.ref t0, .int 0, .int 0, .int ft, .int wx, .int wy, .int 0, .ref r_left, .ref r_right, .ref r_told, .ref r_curve, .int 0, .int 0, .int 0, .int 0, .ref r_steps, .int 0, .ref r_stack, .int 0])), (r_left, .inr (2, [.ref x_c])), (x_c, .inl (cL, 9, .inr (.inr (.inr (.inr fc))))), (p0, .inr (6, [.ref dk, .ref y0, .int 0])), (p1, .inr (6, [.ref dk, .ref y1, .int 0])), (p2, .inr (6, [.ref dk, .ref y2, .int 0])), (p3, .inr (6, [.ref dk, .ref y3, .int 0])), (p4, .inr (6, [.ref dk, .ref y4, .int 0])), (p5, .inr (6, [.ref dk, .ref y5, .int 0])), (p6, .inr (6, [.ref dk, .ref y6, .int 0])), (p7, .inr (6, [.ref dk, .ref y7, .int 0])), (p8, .inr (6, [.ref dk, .ref y8, .int 0]))] sz) := by
  refine Met.ofW (cc := b_House_points) (maxL := 6) (ret := (some .int)) (by decide) rfl ?_
  intro p e s m args below meth c s₁ B hml hv
  obtain ⟨rfl, hsz, hP, hK, hD0, hN⟩ := hv
  have hx := B.exec
  have hb := B.bytes
  have hr := B.returns
  have hT : ∀ w ∈ lw_g, w.before _ s = true := fun w h => atoms_spec (ws := w_House_points) B.pre w (List.mem_cons_of_mem _ h)
  have hown : s.vm.findClass R_House = some m.cls := findClass_of_methodNamed B.named
  have hlocks := B.notSynchronized
  subst hsz
  have hD := hD0.self (sz := s.heap.size)
  generalize hAe : va_A [(h0, .inr (11, [.ref x_desk, .ref x_reader, .ref x_cells, .ref x_tape, .int 0, .ref x_script, .int 0, .ref x_rootAt, .ref x_rootTimes, .int 0, .ref x_spotX, .ref x_spotY, .ref x_bond, .int 0, .ref x_end, .ref x_span, .int 0, .ref x_part, .ref x_partPower, .int 0, .ref x_kept])), (x_tape, .inl (cT, 400, .inl fT)), (x_reader, .inr (8, [.ref t0, .int 0, .int 0, .int ft, .int wx, .int wy, .int 0, .ref r_left, .ref r_right, .ref r_told, .ref r_curve, .int 0, .int 0, .int 0, .int 0, .ref r_steps, .int 0, .ref r_stack, .int 0])), (r_left, .inr (2, [.ref x_c])), (x_c, .inl (cL, 9, .inr (.inr (.inr (.inr fc))))), (p0, .inr (6, [.ref dk, .ref y0, .int 0])), (p1, .inr (6, [.ref dk, .ref y1, .int 0])), (p2, .inr (6, [.ref dk, .ref y2, .int 0])), (p3, .inr (6, [.ref dk, .ref y3, .int 0])), (p4, .inr (6, [.ref dk, .ref y4, .int 0])), (p5, .inr (6, [.ref dk, .ref y5, .int 0])), (p6, .inr (6, [.ref dk, .ref y6, .int 0])), (p7, .inr (6, [.ref dk, .ref y7, .int 0])), (p8, .inr (6, [.ref dk, .ref y8, .int 0]))] s.heap.size = A at hD ⊢
  have hA : ∀ q : Nat, s.heap.size ≤ q → A q := fun q h => by rw [← hAe]; exact Or.inr h
  have hS : va_S A s.heap s.heap [] := va_S.rf
  have hP : va_P (dC, dI) classes [(h0, .inr (11, [.ref x_desk, .ref x_reader, .ref x_cells, .ref x_tape, .int 0, .ref x_script, .int 0, .ref x_rootAt, .ref x_rootTimes, .int 0, .ref x_spotX, .ref x_spotY, .ref x_bond, .int 0, .ref x_end, .ref x_span, .int 0, .ref x_part, .ref x_partPower, .int 0, .ref x_kept])), (x_tape, .inl (cT, 400, .inl fT)), (x_reader, .inr (8, [.ref t0, .int 0, .int 0, .int ft, .int wx, .int wy, .int 0, .ref r_left, .ref r_right, .ref r_told, .ref r_curve, .int 0, .int 0, .int 0, .int 0, .ref r_steps, .int 0, .ref r_stack, .int 0])), (r_left, .inr (2, [.ref x_c])), (x_c, .inl (cL, 9, .inr (.inr (.inr (.inr fc))))), (p0, .inr (6, [.ref dk, .ref y0, .int 0])), (p1, .inr (6, [.ref dk, .ref y1, .int 0])), (p2, .inr (6, [.ref dk, .ref y2, .int 0])), (p3, .inr (6, [.ref dk, .ref y3, .int 0])), (p4, .inr (6, [.ref dk, .ref y4, .int 0])), (p5, .inr (6, [.ref dk, .ref y5, .int 0])), (p6, .inr (6, [.ref dk, .ref y6, .int 0])), (p7, .inr (6, [.ref dk, .ref y7, .int 0])), (p8, .inr (6, [.ref dk, .ref y8, .int 0]))] s.heap := hP
  have hl := lv_entry ([.ref h0, .int n]) (n := 6) (Nat.le_of_ble_eq_true rfl)
  rw [lg_entry_eq]
  generalize (lg_sl ([.ref h0, .int n]) ++ List.replicate (6 - (lg_sl ([.ref h0, .int n])).length) Slot.unset).toArray = ls at hl ⊢
  have hl : lv_has ls 6 [(0, .ref h0), (1, .int n)] := hl
  refine lv_aload_n hx hb d_House_points_0 rfl (lv_at hl 0 rfl) ?_
  refine lv_iload_n hx hb d_House_points_1 rfl (lv_at hl 1 rfl) ?_
  have hPc := hP.sub (ws' := [(h0, .inr (11, [.ref x_desk, .ref x_reader, .ref x_cells, .ref x_tape, .int 0, .ref x_script, .int 0, .ref x_rootAt, .ref x_rootTimes, .int 0, .ref x_spotX, .ref x_spotY, .ref x_bond, .int 0, .ref x_end, .ref x_span, .int 0, .ref x_part, .ref x_partPower, .int 0, .ref x_kept]))]) [0] rfl
  have hDc := hD.sub (ws' := [(h0, .inr (11, [.ref x_desk, .ref x_reader, .ref x_cells, .ref x_tape, .int 0, .ref x_script, .int 0, .ref x_rootAt, .ref x_rootTimes, .int 0, .ref x_spotX, .ref x_spotY, .ref x_bond, .int 0, .ref x_end, .ref x_span, .int 0, .ref x_part, .ref x_partPower, .int 0, .ref x_kept]))]) [0] (by decide) rfl
  have hKc := hK.sub (tys' := []) [] rfl
  have hFc := va_free (wc := [(h0, .inr (11, [.ref x_desk, .ref x_reader, .ref x_cells, .ref x_tape, .int 0, .ref x_script, .int 0, .ref x_rootAt, .ref x_rootTimes, .int 0, .ref x_spotX, .ref x_spotY, .ref x_bond, .int 0, .ref x_end, .ref x_span, .int 0, .ref x_part, .ref x_partPower, .int 0, .ref x_kept]))]) hD hS hA [0] rfl
  refine va_calli (va_runV (As := [.int n]) (rest := []) ⟨hx, hb, hml, hown, hT⟩ (c_House_isNoLength_0 l dC dI s.heap.size h0 x_desk x_reader x_cells x_tape x_script x_rootAt x_rootTimes x_spotX x_spotY x_bond x_end x_span x_part x_partPower x_kept n ) (cwV 1 hT (tb_goodV g_House_isNoLength tw_695 tw_697 (tb_sel (q := (⟨"RealHouse", "isNoLength", "(I)Z"⟩, 21)) (i := 1) (by decide +kernel)) tw_1) rfl rfl rfl (by decide +kernel) ⟨Nat.le_of_ble_eq_true rfl, Nat.le_of_ble_eq_true rfl⟩) ⟨fun a U g mk q => by obtain ⟨q0, q1, qP, qK, qD, qN⟩ := q; exact ⟨q0, q1, qP, va_K.moved (u := U) (U := U.calling g mk a) (Vm.Alike.refl U.vm) qK, qD, nx_K.same (u := U) (U := U.calling g mk a) rfl qN⟩, va_recv hKc hPc (ci := 11) (q0 := 0) rfl rfl, fun U hU hW => ⟨rfl, by rw [hU], by rw [hU]; exact hPc, va_K.moved hW.alike hKc, hDc.weaken (fun _ _ _ _ => trivial), nx_K.warm hW hN⟩⟩ rfl rfl hl.1 rfl (lv_room (Nat.le_of_ble_eq_true rfl)) d_House_points_2 ⟨Nat.le_of_ble_eq_true rfl, Nat.le_of_ble_eq_true rfl⟩) hS (fun q _ h => hFc q h) hFc (fun r_1 u t H1 locs ht hvm hw hB hz1 hk1 hS => ?_)
  obtain ⟨hP1, hK1, hD1⟩ := hB
  rw [ht] at hP1
  have hK1 := va_K.moved hvm.symm hK1
  have hr_1 := hw
  obtain ⟨hP, hD⟩ := va_join (wr := [(x_tape, .inl (cT, 400, .inl fT)), (x_reader, .inr (8, [.ref t0, .int 0, .int 0, .int ft, .int wx, .int wy, .int 0, .ref r_left, .ref r_right, .ref r_told, .ref r_curve, .int 0, .int 0, .int 0, .int 0, .ref r_steps, .int 0, .ref r_stack, .int 0])), (r_left, .inr (2, [.ref x_c])), (x_c, .inl (cL, 9, .inr (.inr (.inr (.inr fc))))), (p0, .inr (6, [.ref dk, .ref y0, .int 0])), (p1, .inr (6, [.ref dk, .ref y1, .int 0])), (p2, .inr (6, [.ref dk, .ref y2, .int 0])), (p3, .inr (6, [.ref dk, .ref y3, .int 0])), (p4, .inr (6, [.ref dk, .ref y4, .int 0])), (p5, .inr (6, [.ref dk, .ref y5, .int 0])), (p6, .inr (6, [.ref dk, .ref y6, .int 0])), (p7, .inr (6, [.ref dk, .ref y7, .int 0])), (p8, .inr (6, [.ref dk, .ref y8, .int 0]))]) (w1 := [(h0, .inr (11, [.ref x_desk, .ref x_reader, .ref x_cells, .ref x_tape, .int 0, .ref x_script, .int 0, .ref x_rootAt, .ref x_rootTimes, .int 0, .ref x_spotX, .ref x_spotY, .ref x_bond, .int 0, .ref x_end, .ref x_span, .int 0, .ref x_part, .ref x_partPower, .int 0, .ref x_kept]))]) hP hD [0] [1, 2, 3, 4, 5, 6, 7, 8, 9, 10, 11, 12, 13] rfl rfl (by decide) (by decide) hk1 hFc hP1 hD1
  have hK := (hK.sub (tys' := [(cT, .int), (cL, .object "RealHouse$Poly")]) [0, 1] rfl).app hK1
  generalize H1 = H at hP hS ⊢
  have hP : va_P (dC, dI) classes [(x_tape, .inl (cT, 400, .inl fT)), (x_reader, .inr (8, [.ref t0, .int 0, .int 0, .int ft, .int wx, .int wy, .int 0, .ref r_left, .ref r_right, .ref r_told, .ref r_curve, .int 0, .int 0, .int 0, .int 0, .ref r_steps, .int 0, .ref r_stack, .int 0])), (r_left, .inr (2, [.ref x_c])), (x_c, .inl (cL, 9, .inr (.inr (.inr (.inr fc))))), (p0, .inr (6, [.ref dk, .ref y0, .int 0])), (p1, .inr (6, [.ref dk, .ref y1, .int 0])), (p2, .inr (6, [.ref dk, .ref y2, .int 0])), (p3, .inr (6, [.ref dk, .ref y3, .int 0])), (p4, .inr (6, [.ref dk, .ref y4, .int 0])), (p5, .inr (6, [.ref dk, .ref y5, .int 0])), (p6, .inr (6, [.ref dk, .ref y6, .int 0])), (p7, .inr (6, [.ref dk, .ref y7, .int 0])), (p8, .inr (6, [.ref dk, .ref y8, .int 0])), (h0, .inr (11, [.ref x_desk, .ref x_reader, .ref x_cells, .ref x_tape, .int 0, .ref x_script, .int 0, .ref x_rootAt, .ref x_rootTimes, .int 0, .ref x_spotX, .ref x_spotY, .ref x_bond, .int 0, .ref x_end, .ref x_span, .int 0, .ref x_part, .ref x_partPower, .int 0, .ref x_kept]))] H := hP
  have hD : va_D A [(x_tape, .inl (cT, 400, .inl fT)), (x_reader, .inr (8, [.ref t0, .int 0, .int 0, .int ft, .int wx, .int wy, .int 0, .ref r_left, .ref r_right, .ref r_told, .ref r_curve, .int 0, .int 0, .int 0, .int 0, .ref r_steps, .int 0, .ref r_stack, .int 0])), (r_left, .inr (2, [.ref x_c])), (x_c, .inl (cL, 9, .inr (.inr (.inr (.inr fc))))), (p0, .inr (6, [.ref dk, .ref y0, .int 0])), (p1, .inr (6, [.ref dk, .ref y1, .int 0])), (p2, .inr (6, [.ref dk, .ref y2, .int 0])), (p3, .inr (6, [.ref dk, .ref y3, .int 0])), (p4, .inr (6, [.ref dk, .ref y4, .int 0])), (p5, .inr (6, [.ref dk, .ref y5, .int 0])), (p6, .inr (6, [.ref dk, .ref y6, .int 0])), (p7, .inr (6, [.ref dk, .ref y7, .int 0])), (p8, .inr (6, [.ref dk, .ref y8, .int 0])), (h0, .inr (11, [.ref x_desk, .ref x_reader, .ref x_cells, .ref x_tape, .int 0, .ref x_script, .int 0, .ref x_rootAt, .ref x_rootTimes, .int 0, .ref x_spotX, .ref x_spotY, .ref x_bond, .int 0, .ref x_end, .ref x_span, .int 0, .ref x_part, .ref x_partPower, .int 0, .ref x_kept]))] := hD
  have hK : va_K (dC, dI) classes [(cT, .int), (cL, .object "RealHouse$Poly")] s := hK
  refine lv_if_eq (tgt := 10) hx hb d_House_points_5 (by decide) (fun c_2 => ?_) (fun c_2 => ?_)
  · have hn0 : n = 0 := by
      rcases Decidable.em (n = 0) with h | h
      · exact h
      · rw [if_neg h] at hr_1; rw [hr_1] at c_2; exact absurd c_2 (by decide)
    subst hn0
    refine lv_aload_n hx hb d_House_points_10 rfl (lv_at hl 0 rfl) ?_
    refine va_get (D := (dC, dI)) (ci := 11) (v := .ref x_reader) (C := R_House) (T := F_House) (N := 21) hx hb hT i_House hown hK hP 13 rfl rfl 1 (by decide) (hT _ tw_616) (fun _ h9 => h9) rfl d_House_points_11 ?_
    refine lv_aload_n hx hb d_House_points_14 rfl (lv_at hl 0 rfl) ?_
    refine va_get (D := (dC, dI)) (ci := 11) (v := .ref x_tape) (C := R_House) (T := F_House) (N := 21) hx hb hT i_House hown hK hP 13 rfl rfl 3 (by decide) (hT _ tw_618) (fun _ h9 => h9) rfl d_House_points_15 ?_
    refine lv_iload_n hx hb d_House_points_18 rfl (lv_at hl 1 rfl) ?_
    refine lv_iconst (v := 1) hx hb d_House_points_19 (by decide) ?_
    refine lv_iconst (v := 1) hx hb d_House_points_20 (by decide) ?_
    have hPc := hP.sub (ws' := [(x_reader, .inr (8, [.ref t0, .int 0, .int 0, .int ft, .int wx, .int wy, .int 0, .ref r_left, .ref r_right, .ref r_told, .ref r_curve, .int 0, .int 0, .int 0, .int 0, .ref r_steps, .int 0, .ref r_stack, .int 0])), (x_tape, .inl (cT, 400, .inl fT))]) [1, 0] rfl
    have hDc := hD.sub (ws' := [(x_reader, .inr (8, [.ref t0, .int 0, .int 0, .int ft, .int wx, .int wy, .int 0, .ref r_left, .ref r_right, .ref r_told, .ref r_curve, .int 0, .int 0, .int 0, .int 0, .ref r_steps, .int 0, .ref r_stack, .int 0])), (x_tape, .inl (cT, 400, .inl fT))]) [1, 0] (by decide) rfl
    have hKc := hK.sub (tys' := [(cT, .int)]) [0] rfl
    have hFc := va_free (wc := [(x_reader, .inr (8, [.ref t0, .int 0, .int 0, .int ft, .int wx, .int wy, .int 0, .ref r_left, .ref r_right, .ref r_told, .ref r_curve, .int 0, .int 0, .int 0, .int 0, .ref r_steps, .int 0, .ref r_stack, .int 0])), (x_tape, .inl (cT, 400, .inl fT))]) hD hS hA [1, 0] rfl
    refine va_callv (va_runV (As := [.ref x_tape, .int 0, .int 1, .int 1]) (rest := []) ⟨hx, hb, hml, hown, hT⟩ (c_Reader_begin_11 l dC dI H.size x_reader x_tape r_left r_right r_told r_curve r_steps r_stack t0 ft wx wy cT fT ) (cwV 4 hT (tb_goodV g_Reader_begin tw_699 tw_700 tw_701 tw_6) rfl rfl rfl (by decide +kernel) ⟨Nat.le_of_ble_eq_true rfl, Nat.le_of_ble_eq_true rfl⟩) ⟨fun a U g mk q => by obtain ⟨q0, q1, qP, qK, qD, qN⟩ := q; exact ⟨q0, q1, qP, va_K.moved (u := U) (U := U.calling g mk a) (Vm.Alike.refl U.vm) qK, qD, nx_K.same (u := U) (U := U.calling g mk a) rfl qN⟩, va_recv hKc hPc (ci := 8) (q0 := 0) rfl rfl, fun U hU hW => ⟨rfl, by rw [hU], by rw [hU]; exact hPc, va_K.moved hW.alike hKc, hDc.weaken (fun _ _ _ _ => trivial), nx_K.warm hW hN⟩⟩ rfl rfl hl.1 rfl (lv_room (Nat.le_of_ble_eq_true rfl)) d_House_points_21 ⟨Nat.le_of_ble_eq_true rfl, Nat.le_of_ble_eq_true rfl⟩) hS (fun q _ h => hFc q h) hFc (fun u t H1 locs ht hvm hw hB hz1 hk1 hS => ?_)
    obtain ⟨hP1, hK1, hD1⟩ := hB
    rw [ht] at hP1
    have hK1 := va_K.moved hvm.symm hK1
    obtain ⟨hP, hD⟩ := va_join (wr := [(r_left, .inr (2, [.ref x_c])), (x_c, .inl (cL, 9, .inr (.inr (.inr (.inr fc))))), (p0, .inr (6, [.ref dk, .ref y0, .int 0])), (p1, .inr (6, [.ref dk, .ref y1, .int 0])), (p2, .inr (6, [.ref dk, .ref y2, .int 0])), (p3, .inr (6, [.ref dk, .ref y3, .int 0])), (p4, .inr (6, [.ref dk, .ref y4, .int 0])), (p5, .inr (6, [.ref dk, .ref y5, .int 0])), (p6, .inr (6, [.ref dk, .ref y6, .int 0])), (p7, .inr (6, [.ref dk, .ref y7, .int 0])), (p8, .inr (6, [.ref dk, .ref y8, .int 0])), (h0, .inr (11, [.ref x_desk, .ref x_reader, .ref x_cells, .ref x_tape, .int 0, .ref x_script, .int 0, .ref x_rootAt, .ref x_rootTimes, .int 0, .ref x_spotX, .ref x_spotY, .ref x_bond, .int 0, .ref x_end, .ref x_span, .int 0, .ref x_part, .ref x_partPower, .int 0, .ref x_kept]))]) (w1 := [(x_reader, .inr (8, [.ref x_tape, .int 0, .int 0, .int (-1), .int 1, .int 1, .int 0, .ref r_left, .ref r_right, .ref r_told, .ref r_curve, .int 0, .int 0, .int 0, .int 0, .ref r_steps, .int 0, .ref r_stack, .int 0])), (x_tape, .inl (cT, 400, .inl fT))]) hP hD [1, 0] [2, 3, 4, 5, 6, 7, 8, 9, 10, 11, 12, 13] rfl rfl (by decide) (by decide) hk1 hFc hP1 hD1
    have hK := (hK.sub (tys' := [(cL, .object "RealHouse$Poly")]) [1] rfl).app hK1
    generalize H1 = H at hP hS ⊢
    have hP : va_P (dC, dI) classes [(r_left, .inr (2, [.ref x_c])), (x_c, .inl (cL, 9, .inr (.inr (.inr (.inr fc))))), (p0, .inr (6, [.ref dk, .ref y0, .int 0])), (p1, .inr (6, [.ref dk, .ref y1, .int 0])), (p2, .inr (6, [.ref dk, .ref y2, .int 0])), (p3, .inr (6, [.ref dk, .ref y3, .int 0])), (p4, .inr (6, [.ref dk, .ref y4, .int 0])), (p5, .inr (6, [.ref dk, .ref y5, .int 0])), (p6, .inr (6, [.ref dk, .ref y6, .int 0])), (p7, .inr (6, [.ref dk, .ref y7, .int 0])), (p8, .inr (6, [.ref dk, .ref y8, .int 0])), (h0, .inr (11, [.ref x_desk, .ref x_reader, .ref x_cells, .ref x_tape, .int 0, .ref x_script, .int 0, .ref x_rootAt, .ref x_rootTimes, .int 0, .ref x_spotX, .ref x_spotY, .ref x_bond, .int 0, .ref x_end, .ref x_span, .int 0, .ref x_part, .ref x_partPower, .int 0, .ref x_kept])), (x_reader, .inr (8, [.ref x_tape, .int 0, .int 0, .int (-1), .int 1, .int 1, .int 0, .ref r_left, .ref r_right, .ref r_told, .ref r_curve, .int 0, .int 0, .int 0, .int 0, .ref r_steps, .int 0, .ref r_stack, .int 0])), (x_tape, .inl (cT, 400, .inl fT))] H := hP
    have hD : va_D A [(r_left, .inr (2, [.ref x_c])), (x_c, .inl (cL, 9, .inr (.inr (.inr (.inr fc))))), (p0, .inr (6, [.ref dk, .ref y0, .int 0])), (p1, .inr (6, [.ref dk, .ref y1, .int 0])), (p2, .inr (6, [.ref dk, .ref y2, .int 0])), (p3, .inr (6, [.ref dk, .ref y3, .int 0])), (p4, .inr (6, [.ref dk, .ref y4, .int 0])), (p5, .inr (6, [.ref dk, .ref y5, .int 0])), (p6, .inr (6, [.ref dk, .ref y6, .int 0])), (p7, .inr (6, [.ref dk, .ref y7, .int 0])), (p8, .inr (6, [.ref dk, .ref y8, .int 0])), (h0, .inr (11, [.ref x_desk, .ref x_reader, .ref x_cells, .ref x_tape, .int 0, .ref x_script, .int 0, .ref x_rootAt, .ref x_rootTimes, .int 0, .ref x_spotX, .ref x_spotY, .ref x_bond, .int 0, .ref x_end, .ref x_span, .int 0, .ref x_part, .ref x_partPower, .int 0, .ref x_kept])), (x_reader, .inr (8, [.ref x_tape, .int 0, .int 0, .int (-1), .int 1, .int 1, .int 0, .ref r_left, .ref r_right, .ref r_told, .ref r_curve, .int 0, .int 0, .int 0, .int 0, .ref r_steps, .int 0, .ref r_stack, .int 0])), (x_tape, .inl (cT, 400, .inl fT))] := hD
    have hK : va_K (dC, dI) classes [(cL, .object "RealHouse$Poly"), (cT, .int)] s := hK
    refine lv_aload_n hx hb d_House_points_24 rfl (lv_at hl 0 rfl) ?_
    refine va_get (D := (dC, dI)) (ci := 11) (v := .ref x_reader) (C := R_House) (T := F_House) (N := 21) hx hb hT i_House hown hK hP 11 rfl rfl 1 (by decide) (hT _ tw_616) (fun _ h9 => h9) rfl d_House_points_25 ?_
    refine lv_iconst (v := 1) hx hb d_House_points_28 (by decide) ?_
    have hPc := hP.sub (ws' := [(x_reader, .inr (8, [.ref x_tape, .int 0, .int 0, .int (-1), .int 1, .int 1, .int 0, .ref r_left, .ref r_right, .ref r_told, .ref r_curve, .int 0, .int 0, .int 0, .int 0, .ref r_steps, .int 0, .ref r_stack, .int 0])), (r_left, .inr (2, [.ref x_c])), (x_c, .inl (cL, 9, .inr (.inr (.inr (.inr fc))))), (p0, .inr (6, [.ref dk, .ref y0, .int 0])), (p1, .inr (6, [.ref dk, .ref y1, .int 0])), (p2, .inr (6, [.ref dk, .ref y2, .int 0])), (p3, .inr (6, [.ref dk, .ref y3, .int 0])), (p4, .inr (6, [.ref dk, .ref y4, .int 0])), (p5, .inr (6, [.ref dk, .ref y5, .int 0])), (p6, .inr (6, [.ref dk, .ref y6, .int 0])), (p7, .inr (6, [.ref dk, .ref y7, .int 0])), (p8, .inr (6, [.ref dk, .ref y8, .int 0]))]) [12, 0, 1, 2, 3, 4, 5, 6, 7, 8, 9, 10] rfl
    have hDc := hD.sub (ws' := [(x_reader, .inr (8, [.ref x_tape, .int 0, .int 0, .int (-1), .int 1, .int 1, .int 0, .ref r_left, .ref r_right, .ref r_told, .ref r_curve, .int 0, .int 0, .int 0, .int 0, .ref r_steps, .int 0, .ref r_stack, .int 0])), (r_left, .inr (2, [.ref x_c])), (x_c, .inl (cL, 9, .inr (.inr (.inr (.inr fc))))), (p0, .inr (6, [.ref dk, .ref y0, .int 0])), (p1, .inr (6, [.ref dk, .ref y1, .int 0])), (p2, .inr (6, [.ref dk, .ref y2, .int 0])), (p3, .inr (6, [.ref dk, .ref y3, .int 0])), (p4, .inr (6, [.ref dk, .ref y4, .int 0])), (p5, .inr (6, [.ref dk, .ref y5, .int 0])), (p6, .inr (6, [.ref dk, .ref y6, .int 0])), (p7, .inr (6, [.ref dk, .ref y7, .int 0])), (p8, .inr (6, [.ref dk, .ref y8, .int 0]))]) [12, 0, 1, 2, 3, 4, 5, 6, 7, 8, 9, 10] (by decide) rfl
    have hKc := hK.sub (tys' := [(cL, .object "RealHouse$Poly")]) [0] rfl
    have hFc := va_free (wc := [(x_reader, .inr (8, [.ref x_tape, .int 0, .int 0, .int (-1), .int 1, .int 1, .int 0, .ref r_left, .ref r_right, .ref r_told, .ref r_curve, .int 0, .int 0, .int 0, .int 0, .ref r_steps, .int 0, .ref r_stack, .int 0])), (r_left, .inr (2, [.ref x_c])), (x_c, .inl (cL, 9, .inr (.inr (.inr (.inr fc))))), (p0, .inr (6, [.ref dk, .ref y0, .int 0])), (p1, .inr (6, [.ref dk, .ref y1, .int 0])), (p2, .inr (6, [.ref dk, .ref y2, .int 0])), (p3, .inr (6, [.ref dk, .ref y3, .int 0])), (p4, .inr (6, [.ref dk, .ref y4, .int 0])), (p5, .inr (6, [.ref dk, .ref y5, .int 0])), (p6, .inr (6, [.ref dk, .ref y6, .int 0])), (p7, .inr (6, [.ref dk, .ref y7, .int 0])), (p8, .inr (6, [.ref dk, .ref y8, .int 0]))]) hD hS hA [12, 0, 1, 2, 3, 4, 5, 6, 7, 8, 9, 10] rfl
    refine va_callv (va_runV (As := [.int 1]) (rest := []) ⟨hx, hb, hml, hown, hT⟩ (c_Reader_readPolys_0 l dC dI H.size x_reader x_tape r_left r_right r_told r_curve r_steps r_stack 1 1 x_c cL fc dk p0 p1 p2 p3 p4 p5 p6 p7 p8 y0 y1 y2 y3 y4 y5 y6 y7 y8 1 hF) (cwV 1 hT (tb_goodV g_Reader_readPolys tw_706 tw_707 tw_708 tw_6) rfl rfl rfl (by decide +kernel) ⟨Nat.le_of_ble_eq_true rfl, Nat.le_of_ble_eq_true rfl⟩) ⟨fun a U g mk q => by obtain ⟨q0, q1, qP, qK, qD, qN⟩ := q; exact ⟨q0, q1, qP, va_K.moved (u := U) (U := U.calling g mk a) (Vm.Alike.refl U.vm) qK, qD, nx_K.same (u := U) (U := U.calling g mk a) rfl qN⟩, va_recv hKc hPc (ci := 8) (q0 := 0) rfl rfl, fun U hU hW => ⟨rfl, by rw [hU], by rw [hU]; exact hPc, va_K.moved hW.alike hKc, hDc.weaken (fun _ _ _ _ => trivial), nx_K.warm hW hN⟩⟩ rfl rfl hl.1 rfl (lv_room (Nat.le_of_ble_eq_true rfl)) d_House_points_29 ⟨Nat.le_of_ble_eq_true rfl, Nat.le_of_ble_eq_true rfl⟩) hS (fun q _ h => hFc q h) hFc (fun u t H1 locs ht hvm hw hB hz1 hk1 hS => ?_)
    obtain ⟨hP1, hK1, hD1⟩ := hB
    rw [ht] at hP1
    have hK1 := va_K.moved hvm.symm hK1
    obtain ⟨hP, hD⟩ := va_join (wr := [(h0, .inr (11, [.ref x_desk, .ref x_reader, .ref x_cells, .ref x_tape, .int 0, .ref x_script, .int 0, .ref x_rootAt, .ref x_rootTimes, .int 0, .ref x_spotX, .ref x_spotY, .ref x_bond, .int 0, .ref x_end, .ref x_span, .int 0, .ref x_part, .ref x_partPower, .int 0, .ref x_kept])), (x_tape, .inl (cT, 400, .inl fT))]) (w1 := [(x_reader, .inr (8, [.ref x_tape, .int 0, .int 0, .int 0, .int 1, .int 1, .int 0, .ref r_left, .ref r_right, .ref r_told, .ref r_curve, .int 0, .int 0, .int 0, .int 0, .ref r_steps, .int 0, .ref r_stack, .int 0])), (r_left, .inr (2, [.ref x_c])), (x_c, .inl (cL, 9, .inr (.inr (.inr (.inr fc))))), (p0, .inr (6, [.ref dk, .ref y0, .int 0])), (p1, .inr (6, [.ref dk, .ref y1, .int 0])), (p2, .inr (6, [.ref dk, .ref y2, .int 0])), (p3, .inr (6, [.ref dk, .ref y3, .int 0])), (p4, .inr (6, [.ref dk, .ref y4, .int 0])), (p5, .inr (6, [.ref dk, .ref y5, .int 0])), (p6, .inr (6, [.ref dk, .ref y6, .int 0])), (p7, .inr (6, [.ref dk, .ref y7, .int 0])), (p8, .inr (6, [.ref dk, .ref y8, .int 0]))]) hP hD [12, 0, 1, 2, 3, 4, 5, 6, 7, 8, 9, 10] [11, 13] rfl rfl (by decide) (by decide) hk1 hFc hP1 hD1
    have hK := (hK.sub (tys' := [(cT, .int)]) [1] rfl).app hK1
    generalize H1 = H at hP hS ⊢
    have hP : va_P (dC, dI) classes [(h0, .inr (11, [.ref x_desk, .ref x_reader, .ref x_cells, .ref x_tape, .int 0, .ref x_script, .int 0, .ref x_rootAt, .ref x_rootTimes, .int 0, .ref x_spotX, .ref x_spotY, .ref x_bond, .int 0, .ref x_end, .ref x_span, .int 0, .ref x_part, .ref x_partPower, .int 0, .ref x_kept])), (x_tape, .inl (cT, 400, .inl fT)), (x_reader, .inr (8, [.ref x_tape, .int 0, .int 0, .int 0, .int 1, .int 1, .int 0, .ref r_left, .ref r_right, .ref r_told, .ref r_curve, .int 0, .int 0, .int 0, .int 0, .ref r_steps, .int 0, .ref r_stack, .int 0])), (r_left, .inr (2, [.ref x_c])), (x_c, .inl (cL, 9, .inr (.inr (.inr (.inr fc))))), (p0, .inr (6, [.ref dk, .ref y0, .int 0])), (p1, .inr (6, [.ref dk, .ref y1, .int 0])), (p2, .inr (6, [.ref dk, .ref y2, .int 0])), (p3, .inr (6, [.ref dk, .ref y3, .int 0])), (p4, .inr (6, [.ref dk, .ref y4, .int 0])), (p5, .inr (6, [.ref dk, .ref y5, .int 0])), (p6, .inr (6, [.ref dk, .ref y6, .int 0])), (p7, .inr (6, [.ref dk, .ref y7, .int 0])), (p8, .inr (6, [.ref dk, .ref y8, .int 0]))] H := hP
    have hD : va_D A [(h0, .inr (11, [.ref x_desk, .ref x_reader, .ref x_cells, .ref x_tape, .int 0, .ref x_script, .int 0, .ref x_rootAt, .ref x_rootTimes, .int 0, .ref x_spotX, .ref x_spotY, .ref x_bond, .int 0, .ref x_end, .ref x_span, .int 0, .ref x_part, .ref x_partPower, .int 0, .ref x_kept])), (x_tape, .inl (cT, 400, .inl fT)), (x_reader, .inr (8, [.ref x_tape, .int 0, .int 0, .int 0, .int 1, .int 1, .int 0, .ref r_left, .ref r_right, .ref r_told, .ref r_curve, .int 0, .int 0, .int 0, .int 0, .ref r_steps, .int 0, .ref r_stack, .int 0])), (r_left, .inr (2, [.ref x_c])), (x_c, .inl (cL, 9, .inr (.inr (.inr (.inr fc))))), (p0, .inr (6, [.ref dk, .ref y0, .int 0])), (p1, .inr (6, [.ref dk, .ref y1, .int 0])), (p2, .inr (6, [.ref dk, .ref y2, .int 0])), (p3, .inr (6, [.ref dk, .ref y3, .int 0])), (p4, .inr (6, [.ref dk, .ref y4, .int 0])), (p5, .inr (6, [.ref dk, .ref y5, .int 0])), (p6, .inr (6, [.ref dk, .ref y6, .int 0])), (p7, .inr (6, [.ref dk, .ref y7, .int 0])), (p8, .inr (6, [.ref dk, .ref y8, .int 0]))] := hD
    have hK : va_K (dC, dI) classes [(cT, .int), (cL, .object "RealHouse$Poly")] s := hK
    refine lv_aload_n hx hb d_House_points_32 rfl (lv_at hl 0 rfl) ?_
    refine va_get (D := (dC, dI)) (ci := 11) (v := .ref x_reader) (C := R_House) (T := F_House) (N := 21) hx hb hT i_House hown hK hP 0 rfl rfl 1 (by decide) (hT _ tw_616) (fun _ h9 => h9) rfl d_House_points_33 ?_
    refine va_get (D := (dC, dI)) (ci := 8) (v := .int 0) (C := R_Reader) (T := F_Reader) (N := 19) hx hb hT i_Reader hown hK hP 2 rfl rfl 3 (by decide) (hT _ tw_237) (fun _ h9 => h9) rfl d_House_points_36 ?_
    refine lv_if_lt (tgt := 47) hx hb d_House_points_39 (by decide) (fun c_3 => absurd c_3 (by decide)) (fun c_3 => ?_)
    refine lv_aload_n hx hb d_House_points_42 rfl (lv_at hl 0 rfl) ?_
    have hPc := hP.sub (ws' := [(h0, .inr (11, [.ref x_desk, .ref x_reader, .ref x_cells, .ref x_tape, .int 0, .ref x_script, .int 0, .ref x_rootAt, .ref x_rootTimes, .int 0, .ref x_spotX, .ref x_spotY, .ref x_bond, .int 0, .ref x_end, .ref x_span, .int 0, .ref x_part, .ref x_partPower, .int 0, .ref x_kept])), (x_reader, .inr (8, [.ref x_tape, .int 0, .int 0, .int 0, .int 1, .int 1, .int 0, .ref r_left, .ref r_right, .ref r_told, .ref r_curve, .int 0, .int 0, .int 0, .int 0, .ref r_steps, .int 0, .ref r_stack, .int 0]))]) [0, 2] rfl
    have hDc := hD.sub (ws' := [(h0, .inr (11, [.ref x_desk, .ref x_reader, .ref x_cells, .ref x_tape, .int 0, .ref x_script, .int 0, .ref x_rootAt, .ref x_rootTimes, .int 0, .ref x_spotX, .ref x_spotY, .ref x_bond, .int 0, .ref x_end, .ref x_span, .int 0, .ref x_part, .ref x_partPower, .int 0, .ref x_kept])), (x_reader, .inr (8, [.ref x_tape, .int 0, .int 0, .int 0, .int 1, .int 1, .int 0, .ref r_left, .ref r_right, .ref r_told, .ref r_curve, .int 0, .int 0, .int 0, .int 0, .ref r_steps, .int 0, .ref r_stack, .int 0]))]) [0, 2] (by decide) rfl
    have hKc := hK.sub (tys' := []) [] rfl
    have hFc := va_free (wc := [(h0, .inr (11, [.ref x_desk, .ref x_reader, .ref x_cells, .ref x_tape, .int 0, .ref x_script, .int 0, .ref x_rootAt, .ref x_rootTimes, .int 0, .ref x_spotX, .ref x_spotY, .ref x_bond, .int 0, .ref x_end, .ref x_span, .int 0, .ref x_part, .ref x_partPower, .int 0, .ref x_kept])), (x_reader, .inr (8, [.ref x_tape, .int 0, .int 0, .int 0, .int 1, .int 1, .int 0, .ref r_left, .ref r_right, .ref r_told, .ref r_curve, .int 0, .int 0, .int 0, .int 0, .ref r_steps, .int 0, .ref r_stack, .int 0]))]) hD hS hA [0, 2] rfl
    refine va_calli (va_runV (As := []) (rest := []) ⟨hx, hb, hml, hown, hT⟩ (c_House_faulty_0 l dC dI H.size h0 x_desk x_reader x_cells x_tape x_script x_rootAt x_rootTimes x_spotX x_spotY x_bond x_end x_span x_part x_partPower x_kept r_left r_right r_told r_curve r_steps r_stack x_tape 1 1 ) (cwV 0 hT (tb_goodV g_House_faulty tw_766 tw_768 (tb_sel (q := (⟨"RealHouse", "faulty", "()I"⟩, 21)) (i := 9) (by decide +kernel)) tw_1) rfl rfl rfl (by decide +kernel) ⟨Nat.le_of_ble_eq_true rfl, Nat.le_of_ble_eq_true rfl⟩) ⟨fun a U g mk q => by obtain ⟨q0, q1, qP, qK, qD, qN⟩ := q; exact ⟨q0, q1, qP, va_K.moved (u := U) (U := U.calling g mk a) (Vm.Alike.refl U.vm) qK, qD, nx_K.same (u := U) (U := U.calling g mk a) rfl qN⟩, va_recv hKc hPc (ci := 11) (q0 := 0) rfl rfl, fun U hU hW => ⟨rfl, by rw [hU], by rw [hU]; exact hPc, va_K.moved hW.alike hKc, hDc.weaken (fun _ _ _ _ => trivial), nx_K.warm hW hN⟩⟩ rfl rfl hl.1 rfl (lv_room (Nat.le_of_ble_eq_true rfl)) d_House_points_43 ⟨Nat.le_of_ble_eq_true rfl, Nat.le_of_ble_eq_true rfl⟩) hS (fun q _ h => hFc q h) hFc (fun r_4 u t H1 locs ht hvm hw hB hz1 hk1 hS => ?_)
    obtain ⟨hP1, hK1, hD1⟩ := hB
    rw [ht] at hP1
    have hK1 := va_K.moved hvm.symm hK1
    obtain rfl : r_4 = (-2) := hw
    obtain ⟨hP, hD⟩ := va_join (wr := [(x_tape, .inl (cT, 400, .inl fT)), (r_left, .inr (2, [.ref x_c])), (x_c, .inl (cL, 9, .inr (.inr (.inr (.inr fc))))), (p0, .inr (6, [.ref dk, .ref y0, .int 0])), (p1, .inr (6, [.ref dk, .ref y1, .int 0])), (p2, .inr (6, [.ref dk, .ref y2, .int 0])), (p3, .inr (6, [.ref dk, .ref y3, .int 0])), (p4, .inr (6, [.ref dk, .ref y4, .int 0])), (p5, .inr (6, [.ref dk, .ref y5, .int 0])), (p6, .inr (6, [.ref dk, .ref y6, .int 0])), (p7, .inr (6, [.ref dk, .ref y7, .int 0])), (p8, .inr (6, [.ref dk, .ref y8, .int 0]))]) (w1 := [(h0, .inr (11, [.ref x_desk, .ref x_reader, .ref x_cells, .ref x_tape, .int 0, .ref x_script, .int 0, .ref x_rootAt, .ref x_rootTimes, .int 0, .ref x_spotX, .ref x_spotY, .ref x_bond, .int 0, .ref x_end, .ref x_span, .int 0, .ref x_part, .ref x_partPower, .int 0, .ref x_kept])), (x_reader, .inr (8, [.ref x_tape, .int 0, .int 0, .int 0, .int 1, .int 1, .int 0, .ref r_left, .ref r_right, .ref r_told, .ref r_curve, .int 0, .int 0, .int 0, .int 0, .ref r_steps, .int 0, .ref r_stack, .int 0]))]) hP hD [0, 2] [1, 3, 4, 5, 6, 7, 8, 9, 10, 11, 12, 13] rfl rfl (by decide) (by decide) hk1 hFc hP1 hD1
    have hK := (hK.sub (tys' := [(cT, .int), (cL, .object "RealHouse$Poly")]) [0, 1] rfl).app hK1
    generalize H1 = H at hP hS ⊢
    have hP : va_P (dC, dI) classes [(x_tape, .inl (cT, 400, .inl fT)), (r_left, .inr (2, [.ref x_c])), (x_c, .inl (cL, 9, .inr (.inr (.inr (.inr fc))))), (p0, .inr (6, [.ref dk, .ref y0, .int 0])), (p1, .inr (6, [.ref dk, .ref y1, .int 0])), (p2, .inr (6, [.ref dk, .ref y2, .int 0])), (p3, .inr (6, [.ref dk, .ref y3, .int 0])), (p4, .inr (6, [.ref dk, .ref y4, .int 0])), (p5, .inr (6, [.ref dk, .ref y5, .int 0])), (p6, .inr (6, [.ref dk, .ref y6, .int 0])), (p7, .inr (6, [.ref dk, .ref y7, .int 0])), (p8, .inr (6, [.ref dk, .ref y8, .int 0])), (h0, .inr (11, [.ref x_desk, .ref x_reader, .ref x_cells, .ref x_tape, .int 0, .ref x_script, .int 0, .ref x_rootAt, .ref x_rootTimes, .int 0, .ref x_spotX, .ref x_spotY, .ref x_bond, .int 0, .ref x_end, .ref x_span, .int 0, .ref x_part, .ref x_partPower, .int 0, .ref x_kept])), (x_reader, .inr (8, [.ref x_tape, .int 0, .int 0, .int 0, .int 1, .int 1, .int 0, .ref r_left, .ref r_right, .ref r_told, .ref r_curve, .int 0, .int 0, .int 0, .int 0, .ref r_steps, .int 0, .ref r_stack, .int 0]))] H := hP
    have hD : va_D A [(x_tape, .inl (cT, 400, .inl fT)), (r_left, .inr (2, [.ref x_c])), (x_c, .inl (cL, 9, .inr (.inr (.inr (.inr fc))))), (p0, .inr (6, [.ref dk, .ref y0, .int 0])), (p1, .inr (6, [.ref dk, .ref y1, .int 0])), (p2, .inr (6, [.ref dk, .ref y2, .int 0])), (p3, .inr (6, [.ref dk, .ref y3, .int 0])), (p4, .inr (6, [.ref dk, .ref y4, .int 0])), (p5, .inr (6, [.ref dk, .ref y5, .int 0])), (p6, .inr (6, [.ref dk, .ref y6, .int 0])), (p7, .inr (6, [.ref dk, .ref y7, .int 0])), (p8, .inr (6, [.ref dk, .ref y8, .int 0])), (h0, .inr (11, [.ref x_desk, .ref x_reader, .ref x_cells, .ref x_tape, .int 0, .ref x_script, .int 0, .ref x_rootAt, .ref x_rootTimes, .int 0, .ref x_spotX, .ref x_spotY, .ref x_bond, .int 0, .ref x_end, .ref x_span, .int 0, .ref x_part, .ref x_partPower, .int 0, .ref x_kept])), (x_reader, .inr (8, [.ref x_tape, .int 0, .int 0, .int 0, .int 1, .int 1, .int 0, .ref r_left, .ref r_right, .ref r_told, .ref r_curve, .int 0, .int 0, .int 0, .int 0, .ref r_steps, .int 0, .ref r_stack, .int 0]))] := hD
    have hK : va_K (dC, dI) classes [(cT, .int), (cL, .object "RealHouse$Poly")] s := hK
    have hP9 := hP.sub (ws' := []) [] rfl
    have hD9 := hD.sub (ws' := []) [] (by decide) rfl
    have hK9 := hK.sub (tys' := []) [] rfl
    exact W.iret (v := (-2)) hx hb hr (fun t ht hW => ⟨⟨(-2), (), rfl, rfl, by rw [ht]; exact hP9, va_K.moved hW.alike hK9, hD9⟩, hS.F ht⟩) hS.2.2 d_House_points_46
  · have hn0 : ¬ n = 0 := fun h => c_2 (by rw [hr_1, if_pos h])
    refine lv_iconst (v := (-1)) hx hb d_House_points_8 (by decide) ?_
    have hP9 := hP.sub (ws' := []) [] rfl
    have hD9 := hD.sub (ws' := []) [] (by decide) rfl
    have hK9 := hK.sub (tys' := []) [] rfl
    exact W.iret (v := (-1)) hx hb hr (fun t ht hW => ⟨⟨(-1), (), rfl, (if_neg hn0).symm, by rw [ht]; exact hP9, va_K.moved hW.alike hK9, hD9⟩, hS.F ht⟩) hS.2.2 d_House_points_9

set_option maxHeartbeats 4000000 in
set_option maxRecDepth 100000 in
/-- decide on a fresh house -/
theorem c_House_decide_0 (l : Launch) (dC : Nat → ClassId) (dI : Nat → Nat → Nat) (sz : Nat) (h0 : Nat) (x_desk : Nat) (x_reader : Nat) (x_cells : Nat) (x_tape : Nat) (x_script : Nat) (x_rootAt : Nat) (x_rootTimes : Nat) (x_spotX : Nat) (x_spotY : Nat) (x_bond : Nat) (x_end : Nat) (x_span : Nat) (x_part : Nat) (x_partPower : Nat) (x_kept : Nat) (cT : ClassId) (fT : Nat → Int32) (r_left : Nat) (r_right : Nat) (r_told : Nat) (r_curve : Nat) (r_steps : Nat) (r_stack : Nat) (t0 : Nat) (ft : Int32) (wx : Int32) (wy : Int32) (x_c : Nat) (cL : ClassId) (fc : Nat → Option Nat) (dk : Nat) (p0 : Nat) (p1 : Nat) (p2 : Nat) (p3 : Nat) (p4 : Nat) (p5 : Nat) (p6 : Nat) (p7 : Nat) (p8 : Nat) (y0 : Nat) (y1 : Nat) (y2 : Nat) (y3 : Nat) (y4 : Nat) (y5 : Nat) (y6 : Nat) (y7 : Nat) (y8 : Nat) (n : Int32) (hF : fc 0 = some p0 ∧ fc 1 = some p1 ∧ fc 2 = some p2 ∧ fc 3 = some p3 ∧ fc 4 = some p4 ∧ fc 5 = some p5 ∧ fc 6 = some p6 ∧ fc 7 = some p7 ∧ fc 8 = some p8) : Met l y_House_decide w_House_decide ({ frames := 3, cells := 0, slots := 0, locals := 68 }) (va_Pc [.ref h0, .int n] (fun U => U.heap.size = sz ∧ va_P (dC, dI) classes [(h0, .inr (11, [.ref x_desk, .ref x_reader, .ref x_cells, .ref x_tape, .int 0, .ref x_script, .int 0, .ref x_rootAt, .ref x_rootTimes, .int 0, .ref x_spotX, .ref x_spotY, .ref x_bond, .int 0, .ref x_end, .ref x_span, .int 0, .ref x_part, .ref x_partPower, .int 0, .ref x_kept])), (x_tape, .inl (cT, 400, .inl fT)), (x_reader, .inr (8, [.ref t0, .int 0, .int 0, .int ft, .int wx, .int wy, .int 0, .ref r_left, .ref r_right, .ref r_told, .ref r_curve, .int 0, .int 0, .int 0, .int 0, .ref r_steps, .int 0, .ref r_stack, .int 0])), (r_left, .inr (2, [.ref x_c])), (x_c, .inl (cL, 9, .inr (.inr (.inr (.inr fc))))), (p0, .inr (6, [.ref dk, .ref y0, .int 0])), (p1, .inr (6, [.ref dk, .ref y1, .int 0])), (p2, .inr (6, [.ref dk, .ref y2, .int 0])), (p3, .inr (6, [.ref dk, .ref y3, .int 0])), (p4, .inr (6, [.ref dk, .ref y4, .int 0])), (p5, .inr (6, [.ref dk, .ref y5, .int 0])), (p6, .inr (6, [.ref dk, .ref y6, .int 0])), (p7, .inr (6, [.ref dk, .ref y7, .int 0])), (p8, .inr (6, [.ref dk, .ref y8, .int 0]))] U.heap ∧ va_K (dC, dI) classes [(cT, .int), (cL, .object "RealHouse$Poly")] U ∧ va_D (fun _ => True) [(h0, .inr (11, [.ref x_desk, .ref x_reader, .ref x_cells, .ref x_tape, .int 0, .ref x_script, .int 0, .ref x_rootAt, .ref x_rootTimes, .int 0, .ref x_spotX, .ref x_spotY, .ref x_bond, .int 0, .ref x_end, .ref x_span, .int 0, .ref x_part, .ref x_partPower, .int 0, .ref x_kept])), (x_tape, .inl (cT, 400, .inl fT)), (x_reader, .inr (8, [.ref t0, .int 0, .int 0, .int ft, .int wx, .int wy, .int 0, .ref r_left, .ref r_right, .ref r_told, .ref r_curve, .int 0, .int 0, .int 0, .int 0, .ref r_steps, .int 0, .ref r_stack, .int 0])), (r_left, .inr (2, [.ref x_c])), (x_c, .inl (cL, 9, .inr (.inr (.inr (.inr fc))))), (p0, .inr (6, [.ref dk, .ref y0, .int 0])), (p1, .inr (6, [.ref dk, .ref y1, .int 0])), (p2, .inr (6, [.ref dk, .ref y2, .int 0])), (p3, .inr (6, [.ref dk, .ref y3, .int 0])), (p4, .inr (6, [.ref dk, .ref y4, .int 0])), (p5, .inr (6, [.ref dk, .ref y5, .int 0])), (p6, .inr (6, [.ref dk, .ref y6, .int 0])), (p7, .inr (6, [.ref dk, .ref y7, .int 0])), (p8, .inr (6, [.ref dk, .ref y8, .int 0]))] ∧ nx_K U)) (va_Qi (fun (r : Int32) (_ : Unit) => r = if n = 0 then (-2) else (-1)) (fun _ t => va_P (dC, dI) classes [] t.heap ∧ va_K (dC, dI) classes [] t ∧ va_D (va_A [(h0, .inr (11, [.ref x_desk, .ref x_reader, .ref x_cells, .ref x_tape, .int 0, .ref x_script, .int 0, .ref x_rootAt, .ref x_rootTimes, .int 0, .ref x_spotX, .ref x_spotY, .ref x_bond, .int 0, .ref x_end, .ref x_span, .int 0, .ref x_part, .ref x_partPower, .int 0, .ref x_kept])), (x_tape, .inl (cT, 400, .inl fT)), (x_reader, .inr (8, [.ref t0, .int 0, .int 0, .int ft, .int wx, .int wy, .int 0, .ref r_left, .ref r_right, .ref r_told, .ref r_curve, .int 0, .int 0, .int 0, .int 0, .ref r_steps, .int 0, .ref r_stack, .int 0])), (r_left, .inr (2, [.ref x_c])), (x_c, .inl (cL, 9, .inr (.inr (.inr (.inr fc))))), (p0, .inr (6, [.ref dk, .ref y0, .int 0])), (p1, .inr (6, [.ref dk, .ref y1, .int 0])), (p2, .inr (6, [.ref dk, .ref y2, .int 0])), (p3, .inr (6, [.ref dk, .ref y3, .int 0])), (p4, .inr (6, [.ref dk, .ref y4, .int 0])), (p5, .inr (6, [.ref dk, .ref y5, .int 0])), (p6, .inr (6, [.ref dk, .ref y6, .int 0])), (p7, .inr (6, [.ref dk, .ref y7, .int 0])), (p8, .inr (6, [.ref dk, .ref y8, .int 0]))] sz) []) (va_A [(h0, .inr (11, [.ref x_desk, .ref x_reader, .ref x_cells, .ref x_tape, .int 0, .ref x_script, .int 0, .ref x_rootAt, .ref x_rootTimes, .int 0, .ref x_spotX, .ref x_spotY, .ref x_bond, .int 0, .ref x_end, .ref x_span, .int 0, .ref x_part, .ref x_partPower, .int 0, .ref x_kept])), (x_tape, .inl (cT, 400, .inl fT)), (x_reader, .inr (8, [.ref t0, .int 0, .int 0, .int ft, .int wx, .int wy, .int 0, .ref r_left, .ref r_right, .ref r_told, .ref r_curve, .int 0, .int 0, .int 0, .int 0, .ref r_steps, .int 0, .ref r_stack, .int 0])), (r_left, .inr (2, [.ref x_c])), (x_c, .inl (cL, 9, .inr (.inr (.inr (.inr fc))))), (p0, .inr (6, [.ref dk, .ref y0, .int 0])), (p1, .inr (6, [.ref dk, .ref y1, .int 0])), (p2, .inr (6, [.ref dk, .ref y2, .int 0])), (p3, .inr (6, [.ref dk, .ref y3, .int 0])), (p4, .inr (6, [.ref dk, .ref y4, .int 0])), (p5, .inr (6, [.ref dk, .ref y5, .int 0])), (p6, .inr (6, [.ref dk, .ref y6, .int 0])), (p7, .inr (6, [.ref dk, .ref y7, .int 0])), (p8, .inr (6, [.ref dk, .ref y8, .int 0]))] sz)) 0 0 (va_A [(h0, .inr (11, [.ref x_desk, .ref x_reader, .ref x_cells, .ref x_tape, .int 0, .ref x_script, .int 0, .ref x_rootAt, .ref x_rootTimes, .int 0, .ref x_spotX, .ref x_spotY, .ref x_bond, .int 0, .ref x_end, .ref x_span, .int 0, .ref x_part, .ref x_partPower, .int 0, .ref x_kept])), (x_tape, .inl (cT, 400, .inl fT)), (x_reader, .inr (8, [.ref t0, .int 0, .int 0, .int ft, .int wx, .int wy, .int 0, .ref r_left, .ref r_right, .ref r_told, .ref r_curve, .int 0, .int 0, .int 0, .int 0, .ref r_steps, .int 0, .ref r_stack, .int 0])), (r_left, .inr (2, [.ref x_c])), (x_c, .inl (cL, 9, .inr (.inr (.inr (.inr fc))))), (p0, .inr (6, [.ref dk, .ref y0, .int 0])), (p1, .inr (6, [.ref dk, .ref y1, .int 0])), (p2, .inr (6, [.ref dk, .ref y2, .int 0])), (p3, .inr (6, [.ref dk, .ref y3, .int 0])), (p4, .inr (6, [.ref dk, .ref y4, .int 0])), (p5, .inr (6, [.ref dk, .ref y5, .int 0])), (p6, .inr (6, [.ref dk, .ref y6, .int 0])), (p7, .inr (6, [.ref dk, .ref y7, .int 0])), (p8, .inr (6, [.ref dk, .ref y8, .int 0]))] sz) := by
  refine Met.ofW (cc := b_House_decide) (maxL := 6) (ret := (some .int)) (by decide) rfl ?_
  intro p e s m args below meth c s₁ B hml hv
  obtain ⟨rfl, hsz, hP, hK, hD0, hN⟩ := hv
  have hx := B.exec
  have hb := B.bytes
  have hr := B.returns
  have hT : ∀ w ∈ lw_g, w.before _ s = true := fun w h => atoms_spec (ws := w_House_decide) B.pre w (List.mem_cons_of_mem _ h)
  have hown : s.vm.findClass R_House = some m.cls := findClass_of_methodNamed B.named
  have hlocks := B.notSynchronized
  subst hsz
  have hD := hD0.self (sz := s.heap.size)
  generalize hAe : va_A [(h0, .inr (11, [.ref x_desk, .ref x_reader, .ref x_cells, .ref x_tape, .int 0, .ref x_script, .int 0, .ref x_rootAt, .ref x_rootTimes, .int 0, .ref x_spotX, .ref x_spotY, .ref x_bond, .int 0, .ref x_end, .ref x_span, .int 0, .ref x_part, .ref x_partPower, .int 0, .ref x_kept])), (x_tape, .inl (cT, 400, .inl fT)), (x_reader, .inr (8, [.ref t0, .int 0, .int 0, .int ft, .int wx, .int wy, .int 0, .ref r_left, .ref r_right, .ref r_told, .ref r_curve, .int 0, .int 0, .int 0, .int 0, .ref r_steps, .int 0, .ref r_stack, .int 0])), (r_left, .inr (2, [.ref x_c])), (x_c, .inl (cL, 9, .inr (.inr (.inr (.inr fc))))), (p0, .inr (6, [.ref dk, .ref y0, .int 0])), (p1, .inr (6, [.ref dk, .ref y1, .int 0])), (p2, .inr (6, [.ref dk, .ref y2, .int 0])), (p3, .inr (6, [.ref dk, .ref y3, .int 0])), (p4, .inr (6, [.ref dk, .ref y4, .int 0])), (p5, .inr (6, [.ref dk, .ref y5, .int 0])), (p6, .inr (6, [.ref dk, .ref y6, .int 0])), (p7, .inr (6, [.ref dk, .ref y7, .int 0])), (p8, .inr (6, [.ref dk, .ref y8, .int 0]))] s.heap.size = A at hD ⊢
  have hA : ∀ q : Nat, s.heap.size ≤ q → A q := fun q h => by rw [← hAe]; exact Or.inr h
  have hS : va_S A s.heap s.heap [] := va_S.rf
  have hP : va_P (dC, dI) classes [(h0, .inr (11, [.ref x_desk, .ref x_reader, .ref x_cells, .ref x_tape, .int 0, .ref x_script, .int 0, .ref x_rootAt, .ref x_rootTimes, .int 0, .ref x_spotX, .ref x_spotY, .ref x_bond, .int 0, .ref x_end, .ref x_span, .int 0, .ref x_part, .ref x_partPower, .int 0, .ref x_kept])), (x_tape, .inl (cT, 400, .inl fT)), (x_reader, .inr (8, [.ref t0, .int 0, .int 0, .int ft, .int wx, .int wy, .int 0, .ref r_left, .ref r_right, .ref r_told, .ref r_curve, .int 0, .int 0, .int 0, .int 0, .ref r_steps, .int 0, .ref r_stack, .int 0])), (r_left, .inr (2, [.ref x_c])), (x_c, .inl (cL, 9, .inr (.inr (.inr (.inr fc))))), (p0, .inr (6, [.ref dk, .ref y0, .int 0])), (p1, .inr (6, [.ref dk, .ref y1, .int 0])), (p2, .inr (6, [.ref dk, .ref y2, .int 0])), (p3, .inr (6, [.ref dk, .ref y3, .int 0])), (p4, .inr (6, [.ref dk, .ref y4, .int 0])), (p5, .inr (6, [.ref dk, .ref y5, .int 0])), (p6, .inr (6, [.ref dk, .ref y6, .int 0])), (p7, .inr (6, [.ref dk, .ref y7, .int 0])), (p8, .inr (6, [.ref dk, .ref y8, .int 0]))] s.heap := hP
  have hl := lv_entry ([.ref h0, .int n]) (n := 6) (Nat.le_of_ble_eq_true rfl)
  rw [lg_entry_eq]
  generalize (lg_sl ([.ref h0, .int n]) ++ List.replicate (6 - (lg_sl ([.ref h0, .int n])).length) Slot.unset).toArray = ls at hl ⊢
  have hl : lv_has ls 6 [(0, .ref h0), (1, .int n)] := hl
  refine lv_aload_n hx hb d_House_decide_0 rfl (lv_at hl 0 rfl) ?_
  refine lv_iload_n hx hb d_House_decide_1 rfl (lv_at hl 1 rfl) ?_
  have hPc := hP.sub (ws' := [(h0, .inr (11, [.ref x_desk, .ref x_reader, .ref x_cells, .ref x_tape, .int 0, .ref x_script, .int 0, .ref x_rootAt, .ref x_rootTimes, .int 0, .ref x_spotX, .ref x_spotY, .ref x_bond, .int 0, .ref x_end, .ref x_span, .int 0, .ref x_part, .ref x_partPower, .int 0, .ref x_kept]))]) [0] rfl
  have hDc := hD.sub (ws' := [(h0, .inr (11, [.ref x_desk, .ref x_reader, .ref x_cells, .ref x_tape, .int 0, .ref x_script, .int 0, .ref x_rootAt, .ref x_rootTimes, .int 0, .ref x_spotX, .ref x_spotY, .ref x_bond, .int 0, .ref x_end, .ref x_span, .int 0, .ref x_part, .ref x_partPower, .int 0, .ref x_kept]))]) [0] (by decide) rfl
  have hKc := hK.sub (tys' := []) [] rfl
  have hFc := va_free (wc := [(h0, .inr (11, [.ref x_desk, .ref x_reader, .ref x_cells, .ref x_tape, .int 0, .ref x_script, .int 0, .ref x_rootAt, .ref x_rootTimes, .int 0, .ref x_spotX, .ref x_spotY, .ref x_bond, .int 0, .ref x_end, .ref x_span, .int 0, .ref x_part, .ref x_partPower, .int 0, .ref x_kept]))]) hD hS hA [0] rfl
  refine va_calli (va_runV (As := [.int n]) (rest := []) ⟨hx, hb, hml, hown, hT⟩ (c_House_isNoLength_0 l dC dI s.heap.size h0 x_desk x_reader x_cells x_tape x_script x_rootAt x_rootTimes x_spotX x_spotY x_bond x_end x_span x_part x_partPower x_kept n ) (cwV 1 hT (tb_goodV g_House_isNoLength tw_695 tw_697 (tb_sel (q := (⟨"RealHouse", "isNoLength", "(I)Z"⟩, 21)) (i := 1) (by decide +kernel)) tw_1) rfl rfl rfl (by decide +kernel) ⟨Nat.le_of_ble_eq_true rfl, Nat.le_of_ble_eq_true rfl⟩) ⟨fun a U g mk q => by obtain ⟨q0, q1, qP, qK, qD, qN⟩ := q; exact ⟨q0, q1, qP, va_K.moved (u := U) (U := U.calling g mk a) (Vm.Alike.refl U.vm) qK, qD, nx_K.same (u := U) (U := U.calling g mk a) rfl qN⟩, va_recv hKc hPc (ci := 11) (q0 := 0) rfl rfl, fun U hU hW => ⟨rfl, by rw [hU], by rw [hU]; exact hPc, va_K.moved hW.alike hKc, hDc.weaken (fun _ _ _ _ => trivial), nx_K.warm hW hN⟩⟩ rfl rfl hl.1 rfl (lv_room (Nat.le_of_ble_eq_true rfl)) d_House_decide_2 ⟨Nat.le_of_ble_eq_true rfl, Nat.le_of_ble_eq_true rfl⟩) hS (fun q _ h => hFc q h) hFc (fun r_1 u t H1 locs ht hvm hw hB hz1 hk1 hS => ?_)
  obtain ⟨hP1, hK1, hD1⟩ := hB
  rw [ht] at hP1
  have hK1 := va_K.moved hvm.symm hK1
  have hr_1 := hw
  obtain ⟨hP, hD⟩ := va_join (wr := [(x_tape, .inl (cT, 400, .inl fT)), (x_reader, .inr (8, [.ref t0, .int 0, .int 0, .int ft, .int wx, .int wy, .int 0, .ref r_left, .ref r_right, .ref r_told, .ref r_curve, .int 0, .int 0, .int 0, .int 0, .ref r_steps, .int 0, .ref r_stack, .int 0])), (r_left, .inr (2, [.ref x_c])), (x_c, .inl (cL, 9, .inr (.inr (.inr (.inr fc))))), (p0, .inr (6, [.ref dk, .ref y0, .int 0])), (p1, .inr (6, [.ref dk, .ref y1, .int 0])), (p2, .inr (6, [.ref dk, .ref y2, .int 0])), (p3, .inr (6, [.ref dk, .ref y3, .int 0])), (p4, .inr (6, [.ref dk, .ref y4, .int 0])), (p5, .inr (6, [.ref dk, .ref y5, .int 0])), (p6, .inr (6, [.ref dk, .ref y6, .int 0])), (p7, .inr (6, [.ref dk, .ref y7, .int 0])), (p8, .inr (6, [.ref dk, .ref y8, .int 0]))]) (w1 := [(h0, .inr (11, [.ref x_desk, .ref x_reader, .ref x_cells, .ref x_tape, .int 0, .ref x_script, .int 0, .ref x_rootAt, .ref x_rootTimes, .int 0, .ref x_spotX, .ref x_spotY, .ref x_bond, .int 0, .ref x_end, .ref x_span, .int 0, .ref x_part, .ref x_partPower, .int 0, .ref x_kept]))]) hP hD [0] [1, 2, 3, 4, 5, 6, 7, 8, 9, 10, 11, 12, 13] rfl rfl (by decide) (by decide) hk1 hFc hP1 hD1
  have hK := (hK.sub (tys' := [(cT, .int), (cL, .object "RealHouse$Poly")]) [0, 1] rfl).app hK1
  generalize H1 = H at hP hS ⊢
  have hP : va_P (dC, dI) classes [(x_tape, .inl (cT, 400, .inl fT)), (x_reader, .inr (8, [.ref t0, .int 0, .int 0, .int ft, .int wx, .int wy, .int 0, .ref r_left, .ref r_right, .ref r_told, .ref r_curve, .int 0, .int 0, .int 0, .int 0, .ref r_steps, .int 0, .ref r_stack, .int 0])), (r_left, .inr (2, [.ref x_c])), (x_c, .inl (cL, 9, .inr (.inr (.inr (.inr fc))))), (p0, .inr (6, [.ref dk, .ref y0, .int 0])), (p1, .inr (6, [.ref dk, .ref y1, .int 0])), (p2, .inr (6, [.ref dk, .ref y2, .int 0])), (p3, .inr (6, [.ref dk, .ref y3, .int 0])), (p4, .inr (6, [.ref dk, .ref y4, .int 0])), (p5, .inr (6, [.ref dk, .ref y5, .int 0])), (p6, .inr (6, [.ref dk, .ref y6, .int 0])), (p7, .inr (6, [.ref dk, .ref y7, .int 0])), (p8, .inr (6, [.ref dk, .ref y8, .int 0])), (h0, .inr (11, [.ref x_desk, .ref x_reader, .ref x_cells, .ref x_tape, .int 0, .ref x_script, .int 0, .ref x_rootAt, .ref x_rootTimes, .int 0, .ref x_spotX, .ref x_spotY, .ref x_bond, .int 0, .ref x_end, .ref x_span, .int 0, .ref x_part, .ref x_partPower, .int 0, .ref x_kept]))] H := hP
  have hD : va_D A [(x_tape, .inl (cT, 400, .inl fT)), (x_reader, .inr (8, [.ref t0, .int 0, .int 0, .int ft, .int wx, .int wy, .int 0, .ref r_left, .ref r_right, .ref r_told, .ref r_curve, .int 0, .int 0, .int 0, .int 0, .ref r_steps, .int 0, .ref r_stack, .int 0])), (r_left, .inr (2, [.ref x_c])), (x_c, .inl (cL, 9, .inr (.inr (.inr (.inr fc))))), (p0, .inr (6, [.ref dk, .ref y0, .int 0])), (p1, .inr (6, [.ref dk, .ref y1, .int 0])), (p2, .inr (6, [.ref dk, .ref y2, .int 0])), (p3, .inr (6, [.ref dk, .ref y3, .int 0])), (p4, .inr (6, [.ref dk, .ref y4, .int 0])), (p5, .inr (6, [.ref dk, .ref y5, .int 0])), (p6, .inr (6, [.ref dk, .ref y6, .int 0])), (p7, .inr (6, [.ref dk, .ref y7, .int 0])), (p8, .inr (6, [.ref dk, .ref y8, .int 0])), (h0, .inr (11, [.ref x_desk, .ref x_reader, .ref x_cells, .ref x_tape, .int 0, .ref x_script, .int 0, .ref x_rootAt, .ref x_rootTimes, .int 0, .ref x_spotX, .ref x_spotY, .ref x_bond, .int 0, .ref x_end, .ref x_span, .int 0, .ref x_part, .ref x_partPower, .int 0, .ref x_kept]))] := hD
  have hK : va_K (dC, dI) classes [(cT, .int), (cL, .object "RealHouse$Poly")] s := hK
  refine lv_if_eq (tgt := 10) hx hb d_House_decide_5 (by decide) (fun c_2 => ?_) (fun c_2 => ?_)
  · have hn0 : n = 0 := by
      rcases Decidable.em (n = 0) with h | h
      · exact h
      · rw [if_neg h] at hr_1; rw [hr_1] at c_2; exact absurd c_2 (by decide)
    subst hn0
    refine lv_aload_n hx hb d_House_decide_10 rfl (lv_at hl 0 rfl) ?_
    refine va_get (D := (dC, dI)) (ci := 11) (v := .ref x_reader) (C := R_House) (T := F_House) (N := 21) hx hb hT i_House hown hK hP 13 rfl rfl 1 (by decide) (hT _ tw_616) (fun _ h9 => h9) rfl d_House_decide_11 ?_
    refine lv_aload_n hx hb d_House_decide_14 rfl (lv_at hl 0 rfl) ?_
    refine va_get (D := (dC, dI)) (ci := 11) (v := .ref x_tape) (C := R_House) (T := F_House) (N := 21) hx hb hT i_House hown hK hP 13 rfl rfl 3 (by decide) (hT _ tw_618) (fun _ h9 => h9) rfl d_House_decide_15 ?_
    refine lv_iload_n hx hb d_House_decide_18 rfl (lv_at hl 1 rfl) ?_
    refine lv_iconst (v := 0) hx hb d_House_decide_19 (by decide) ?_
    refine lv_iconst (v := 0) hx hb d_House_decide_20 (by decide) ?_
    have hPc := hP.sub (ws' := [(x_reader, .inr (8, [.ref t0, .int 0, .int 0, .int ft, .int wx, .int wy, .int 0, .ref r_left, .ref r_right, .ref r_told, .ref r_curve, .int 0, .int 0, .int 0, .int 0, .ref r_steps, .int 0, .ref r_stack, .int 0])), (x_tape, .inl (cT, 400, .inl fT))]) [1, 0] rfl
    have hDc := hD.sub (ws' := [(x_reader, .inr (8, [.ref t0, .int 0, .int 0, .int ft, .int wx, .int wy, .int 0, .ref r_left, .ref r_right, .ref r_told, .ref r_curve, .int 0, .int 0, .int 0, .int 0, .ref r_steps, .int 0, .ref r_stack, .int 0])), (x_tape, .inl (cT, 400, .inl fT))]) [1, 0] (by decide) rfl
    have hKc := hK.sub (tys' := [(cT, .int)]) [0] rfl
    have hFc := va_free (wc := [(x_reader, .inr (8, [.ref t0, .int 0, .int 0, .int ft, .int wx, .int wy, .int 0, .ref r_left, .ref r_right, .ref r_told, .ref r_curve, .int 0, .int 0, .int 0, .int 0, .ref r_steps, .int 0, .ref r_stack, .int 0])), (x_tape, .inl (cT, 400, .inl fT))]) hD hS hA [1, 0] rfl
    refine va_callv (va_runV (As := [.ref x_tape, .int 0, .int 0, .int 0]) (rest := []) ⟨hx, hb, hml, hown, hT⟩ (c_Reader_begin_00 l dC dI H.size x_reader x_tape r_left r_right r_told r_curve r_steps r_stack t0 ft wx wy cT fT ) (cwV 4 hT (tb_goodV g_Reader_begin tw_699 tw_700 tw_701 tw_6) rfl rfl rfl (by decide +kernel) ⟨Nat.le_of_ble_eq_true rfl, Nat.le_of_ble_eq_true rfl⟩) ⟨fun a U g mk q => by obtain ⟨q0, q1, qP, qK, qD, qN⟩ := q; exact ⟨q0, q1, qP, va_K.moved (u := U) (U := U.calling g mk a) (Vm.Alike.refl U.vm) qK, qD, nx_K.same (u := U) (U := U.calling g mk a) rfl qN⟩, va_recv hKc hPc (ci := 8) (q0 := 0) rfl rfl, fun U hU hW => ⟨rfl, by rw [hU], by rw [hU]; exact hPc, va_K.moved hW.alike hKc, hDc.weaken (fun _ _ _ _ => trivial), nx_K.warm hW hN⟩⟩ rfl rfl hl.1 rfl (lv_room (Nat.le_of_ble_eq_true rfl)) d_House_decide_21 ⟨Nat.le_of_ble_eq_true rfl, Nat.le_of_ble_eq_true rfl⟩) hS (fun q _ h => hFc q h) hFc (fun u t H1 locs ht hvm hw hB hz1 hk1 hS => ?_)
    obtain ⟨hP1, hK1, hD1⟩ := hB
    rw [ht] at hP1
    have hK1 := va_K.moved hvm.symm hK1
    obtain ⟨hP, hD⟩ := va_join (wr := [(r_left, .inr (2, [.ref x_c])), (x_c, .inl (cL, 9, .inr (.inr (.inr (.inr fc))))), (p0, .inr (6, [.ref dk, .ref y0, .int 0])), (p1, .inr (6, [.ref dk, .ref y1, .int 0])), (p2, .inr (6, [.ref dk, .ref y2, .int 0])), (p3, .inr (6, [.ref dk, .ref y3, .int 0])), (p4, .inr (6, [.ref dk, .ref y4, .int 0])), (p5, .inr (6, [.ref dk, .ref y5, .int 0])), (p6, .inr (6, [.ref dk, .ref y6, .int 0])), (p7, .inr (6, [.ref dk, .ref y7, .int 0])), (p8, .inr (6, [.ref dk, .ref y8, .int 0])), (h0, .inr (11, [.ref x_desk, .ref x_reader, .ref x_cells, .ref x_tape, .int 0, .ref x_script, .int 0, .ref x_rootAt, .ref x_rootTimes, .int 0, .ref x_spotX, .ref x_spotY, .ref x_bond, .int 0, .ref x_end, .ref x_span, .int 0, .ref x_part, .ref x_partPower, .int 0, .ref x_kept]))]) (w1 := [(x_reader, .inr (8, [.ref x_tape, .int 0, .int 0, .int (-1), .int 0, .int 0, .int 0, .ref r_left, .ref r_right, .ref r_told, .ref r_curve, .int 0, .int 0, .int 0, .int 0, .ref r_steps, .int 0, .ref r_stack, .int 0])), (x_tape, .inl (cT, 400, .inl fT))]) hP hD [1, 0] [2, 3, 4, 5, 6, 7, 8, 9, 10, 11, 12, 13] rfl rfl (by decide) (by decide) hk1 hFc hP1 hD1
    have hK := (hK.sub (tys' := [(cL, .object "RealHouse$Poly")]) [1] rfl).app hK1
    generalize H1 = H at hP hS ⊢
    have hP : va_P (dC, dI) classes [(r_left, .inr (2, [.ref x_c])), (x_c, .inl (cL, 9, .inr (.inr (.inr (.inr fc))))), (p0, .inr (6, [.ref dk, .ref y0, .int 0])), (p1, .inr (6, [.ref dk, .ref y1, .int 0])), (p2, .inr (6, [.ref dk, .ref y2, .int 0])), (p3, .inr (6, [.ref dk, .ref y3, .int 0])), (p4, .inr (6, [.ref dk, .ref y4, .int 0])), (p5, .inr (6, [.ref dk, .ref y5, .int 0])), (p6, .inr (6, [.ref dk, .ref y6, .int 0])), (p7, .inr (6, [.ref dk, .ref y7, .int 0])), (p8, .inr (6, [.ref dk, .ref y8, .int 0])), (h0, .inr (11, [.ref x_desk, .ref x_reader, .ref x_cells, .ref x_tape, .int 0, .ref x_script, .int 0, .ref x_rootAt, .ref x_rootTimes, .int 0, .ref x_spotX, .ref x_spotY, .ref x_bond, .int 0, .ref x_end, .ref x_span, .int 0, .ref x_part, .ref x_partPower, .int 0, .ref x_kept])), (x_reader, .inr (8, [.ref x_tape, .int 0, .int 0, .int (-1), .int 0, .int 0, .int 0, .ref r_left, .ref r_right, .ref r_told, .ref r_curve, .int 0, .int 0, .int 0, .int 0, .ref r_steps, .int 0, .ref r_stack, .int 0])), (x_tape, .inl (cT, 400, .inl fT))] H := hP
    have hD : va_D A [(r_left, .inr (2, [.ref x_c])), (x_c, .inl (cL, 9, .inr (.inr (.inr (.inr fc))))), (p0, .inr (6, [.ref dk, .ref y0, .int 0])), (p1, .inr (6, [.ref dk, .ref y1, .int 0])), (p2, .inr (6, [.ref dk, .ref y2, .int 0])), (p3, .inr (6, [.ref dk, .ref y3, .int 0])), (p4, .inr (6, [.ref dk, .ref y4, .int 0])), (p5, .inr (6, [.ref dk, .ref y5, .int 0])), (p6, .inr (6, [.ref dk, .ref y6, .int 0])), (p7, .inr (6, [.ref dk, .ref y7, .int 0])), (p8, .inr (6, [.ref dk, .ref y8, .int 0])), (h0, .inr (11, [.ref x_desk, .ref x_reader, .ref x_cells, .ref x_tape, .int 0, .ref x_script, .int 0, .ref x_rootAt, .ref x_rootTimes, .int 0, .ref x_spotX, .ref x_spotY, .ref x_bond, .int 0, .ref x_end, .ref x_span, .int 0, .ref x_part, .ref x_partPower, .int 0, .ref x_kept])), (x_reader, .inr (8, [.ref x_tape, .int 0, .int 0, .int (-1), .int 0, .int 0, .int 0, .ref r_left, .ref r_right, .ref r_told, .ref r_curve, .int 0, .int 0, .int 0, .int 0, .ref r_steps, .int 0, .ref r_stack, .int 0])), (x_tape, .inl (cT, 400, .inl fT))] := hD
    have hK : va_K (dC, dI) classes [(cL, .object "RealHouse$Poly"), (cT, .int)] s := hK
    refine lv_aload_n hx hb d_House_decide_24 rfl (lv_at hl 0 rfl) ?_
    refine va_get (D := (dC, dI)) (ci := 11) (v := .ref x_reader) (C := R_House) (T := F_House) (N := 21) hx hb hT i_House hown hK hP 11 rfl rfl 1 (by decide) (hT _ tw_616) (fun _ h9 => h9) rfl d_House_decide_25 ?_
    have hPc := hP.sub (ws' := [(x_reader, .inr (8, [.ref x_tape, .int 0, .int 0, .int (-1), .int 0, .int 0, .int 0, .ref r_left, .ref r_right, .ref r_told, .ref r_curve, .int 0, .int 0, .int 0, .int 0, .ref r_steps, .int 0, .ref r_stack, .int 0]))]) [12] rfl
    have hDc := hD.sub (ws' := [(x_reader, .inr (8, [.ref x_tape, .int 0, .int 0, .int (-1), .int 0, .int 0, .int 0, .ref r_left, .ref r_right, .ref r_told, .ref r_curve, .int 0, .int 0, .int 0, .int 0, .ref r_steps, .int 0, .ref r_stack, .int 0]))]) [12] (by decide) rfl
    have hKc := hK.sub (tys' := []) [] rfl
    have hFc := va_free (wc := [(x_reader, .inr (8, [.ref x_tape, .int 0, .int 0, .int (-1), .int 0, .int 0, .int 0, .ref r_left, .ref r_right, .ref r_told, .ref r_curve, .int 0, .int 0, .int 0, .int 0, .ref r_steps, .int 0, .ref r_stack, .int 0]))]) hD hS hA [12] rfl
    refine va_callv (va_runV (As := []) (rest := []) ⟨hx, hb, hml, hown, hT⟩ (c_Reader_readQuantifiers_0 l dC dI H.size x_reader x_tape r_left r_right r_told r_curve r_steps r_stack 0 0 ) (cwV 0 hT (tb_goodV g_Reader_readQuantifiers tw_1387 tw_1388 tw_1389 tw_6) rfl rfl rfl (by decide +kernel) ⟨Nat.le_of_ble_eq_true rfl, Nat.le_of_ble_eq_true rfl⟩) ⟨fun a U g mk q => by obtain ⟨q0, q1, qP, qK, qD, qN⟩ := q; exact ⟨q0, q1, qP, va_K.moved (u := U) (U := U.calling g mk a) (Vm.Alike.refl U.vm) qK, qD, nx_K.same (u := U) (U := U.calling g mk a) rfl qN⟩, va_recv hKc hPc (ci := 8) (q0 := 0) rfl rfl, fun U hU hW => ⟨rfl, by rw [hU], by rw [hU]; exact hPc, va_K.moved hW.alike hKc, hDc.weaken (fun _ _ _ _ => trivial), nx_K.warm hW hN⟩⟩ rfl rfl hl.1 rfl (lv_room (Nat.le_of_ble_eq_true rfl)) d_House_decide_28 ⟨Nat.le_of_ble_eq_true rfl, Nat.le_of_ble_eq_true rfl⟩) hS (fun q _ h => hFc q h) hFc (fun u t H1 locs ht hvm hw hB hz1 hk1 hS => ?_)
    obtain ⟨hP1, hK1, hD1⟩ := hB
    rw [ht] at hP1
    have hK1 := va_K.moved hvm.symm hK1
    obtain ⟨hP, hD⟩ := va_join (wr := [(r_left, .inr (2, [.ref x_c])), (x_c, .inl (cL, 9, .inr (.inr (.inr (.inr fc))))), (p0, .inr (6, [.ref dk, .ref y0, .int 0])), (p1, .inr (6, [.ref dk, .ref y1, .int 0])), (p2, .inr (6, [.ref dk, .ref y2, .int 0])), (p3, .inr (6, [.ref dk, .ref y3, .int 0])), (p4, .inr (6, [.ref dk, .ref y4, .int 0])), (p5, .inr (6, [.ref dk, .ref y5, .int 0])), (p6, .inr (6, [.ref dk, .ref y6, .int 0])), (p7, .inr (6, [.ref dk, .ref y7, .int 0])), (p8, .inr (6, [.ref dk, .ref y8, .int 0])), (h0, .inr (11, [.ref x_desk, .ref x_reader, .ref x_cells, .ref x_tape, .int 0, .ref x_script, .int 0, .ref x_rootAt, .ref x_rootTimes, .int 0, .ref x_spotX, .ref x_spotY, .ref x_bond, .int 0, .ref x_end, .ref x_span, .int 0, .ref x_part, .ref x_partPower, .int 0, .ref x_kept])), (x_tape, .inl (cT, 400, .inl fT))]) (w1 := [(x_reader, .inr (8, [.ref x_tape, .int 0, .int 0, .int 0, .int 0, .int 0, .int 0, .ref r_left, .ref r_right, .ref r_told, .ref r_curve, .int 0, .int 0, .int 0, .int 0, .ref r_steps, .int 0, .ref r_stack, .int 0]))]) hP hD [12] [0, 1, 2, 3, 4, 5, 6, 7, 8, 9, 10, 11, 13] rfl rfl (by decide) (by decide) hk1 hFc hP1 hD1
    have hK := (hK.sub (tys' := [(cL, .object "RealHouse$Poly"), (cT, .int)]) [0, 1] rfl).app hK1
    generalize H1 = H at hP hS ⊢
    have hP : va_P (dC, dI) classes [(r_left, .inr (2, [.ref x_c])), (x_c, .inl (cL, 9, .inr (.inr (.inr (.inr fc))))), (p0, .inr (6, [.ref dk, .ref y0, .int 0])), (p1, .inr (6, [.ref dk, .ref y1, .int 0])), (p2, .inr (6, [.ref dk, .ref y2, .int 0])), (p3, .inr (6, [.ref dk, .ref y3, .int 0])), (p4, .inr (6, [.ref dk, .ref y4, .int 0])), (p5, .inr (6, [.ref dk, .ref y5, .int 0])), (p6, .inr (6, [.ref dk, .ref y6, .int 0])), (p7, .inr (6, [.ref dk, .ref y7, .int 0])), (p8, .inr (6, [.ref dk, .ref y8, .int 0])), (h0, .inr (11, [.ref x_desk, .ref x_reader, .ref x_cells, .ref x_tape, .int 0, .ref x_script, .int 0, .ref x_rootAt, .ref x_rootTimes, .int 0, .ref x_spotX, .ref x_spotY, .ref x_bond, .int 0, .ref x_end, .ref x_span, .int 0, .ref x_part, .ref x_partPower, .int 0, .ref x_kept])), (x_tape, .inl (cT, 400, .inl fT)), (x_reader, .inr (8, [.ref x_tape, .int 0, .int 0, .int 0, .int 0, .int 0, .int 0, .ref r_left, .ref r_right, .ref r_told, .ref r_curve, .int 0, .int 0, .int 0, .int 0, .ref r_steps, .int 0, .ref r_stack, .int 0]))] H := hP
    have hD : va_D A [(r_left, .inr (2, [.ref x_c])), (x_c, .inl (cL, 9, .inr (.inr (.inr (.inr fc))))), (p0, .inr (6, [.ref dk, .ref y0, .int 0])), (p1, .inr (6, [.ref dk, .ref y1, .int 0])), (p2, .inr (6, [.ref dk, .ref y2, .int 0])), (p3, .inr (6, [.ref dk, .ref y3, .int 0])), (p4, .inr (6, [.ref dk, .ref y4, .int 0])), (p5, .inr (6, [.ref dk, .ref y5, .int 0])), (p6, .inr (6, [.ref dk, .ref y6, .int 0])), (p7, .inr (6, [.ref dk, .ref y7, .int 0])), (p8, .inr (6, [.ref dk, .ref y8, .int 0])), (h0, .inr (11, [.ref x_desk, .ref x_reader, .ref x_cells, .ref x_tape, .int 0, .ref x_script, .int 0, .ref x_rootAt, .ref x_rootTimes, .int 0, .ref x_spotX, .ref x_spotY, .ref x_bond, .int 0, .ref x_end, .ref x_span, .int 0, .ref x_part, .ref x_partPower, .int 0, .ref x_kept])), (x_tape, .inl (cT, 400, .inl fT)), (x_reader, .inr (8, [.ref x_tape, .int 0, .int 0, .int 0, .int 0, .int 0, .int 0, .ref r_left, .ref r_right, .ref r_told, .ref r_curve, .int 0, .int 0, .int 0, .int 0, .ref r_steps, .int 0, .ref r_stack, .int 0]))] := hD
    have hK : va_K (dC, dI) classes [(cL, .object "RealHouse$Poly"), (cT, .int)] s := hK
    refine lv_aload_n hx hb d_House_decide_31 rfl (lv_at hl 0 rfl) ?_
    refine va_get (D := (dC, dI)) (ci := 11) (v := .ref x_reader) (C := R_House) (T := F_House) (N := 21) hx hb hT i_House hown hK hP 11 rfl rfl 1 (by decide) (hT _ tw_616) (fun _ h9 => h9) rfl d_House_decide_32 ?_
    have hPc := hP.sub (ws' := [(x_reader, .inr (8, [.ref x_tape, .int 0, .int 0, .int 0, .int 0, .int 0, .int 0, .ref r_left, .ref r_right, .ref r_told, .ref r_curve, .int 0, .int 0, .int 0, .int 0, .ref r_steps, .int 0, .ref r_stack, .int 0]))]) [13] rfl
    have hDc := hD.sub (ws' := [(x_reader, .inr (8, [.ref x_tape, .int 0, .int 0, .int 0, .int 0, .int 0, .int 0, .ref r_left, .ref r_right, .ref r_told, .ref r_curve, .int 0, .int 0, .int 0, .int 0, .ref r_steps, .int 0, .ref r_stack, .int 0]))]) [13] (by decide) rfl
    have hKc := hK.sub (tys' := []) [] rfl
    have hFc := va_free (wc := [(x_reader, .inr (8, [.ref x_tape, .int 0, .int 0, .int 0, .int 0, .int 0, .int 0, .ref r_left, .ref r_right, .ref r_told, .ref r_curve, .int 0, .int 0, .int 0, .int 0, .ref r_steps, .int 0, .ref r_stack, .int 0]))]) hD hS hA [13] rfl
    refine va_callv (va_runV (As := []) (rest := []) ⟨hx, hb, hml, hown, hT⟩ (c_Reader_readFormula_1 l dC dI H.size x_reader x_tape r_left r_right r_told r_curve r_steps r_stack 0 0 ) (cwV 0 hT (tb_goodV g_Reader_readFormula tw_1395 tw_1396 tw_1397 tw_6) rfl rfl rfl (by decide +kernel) ⟨Nat.le_of_ble_eq_true rfl, Nat.le_of_ble_eq_true rfl⟩) ⟨fun a U g mk q => by obtain ⟨q0, q1, qP, qK, qD, qN⟩ := q; exact ⟨q0, q1, qP, va_K.moved (u := U) (U := U.calling g mk a) (Vm.Alike.refl U.vm) qK, qD, nx_K.same (u := U) (U := U.calling g mk a) rfl qN⟩, va_recv hKc hPc (ci := 8) (q0 := 0) rfl rfl, fun U hU hW => ⟨rfl, by rw [hU], by rw [hU]; exact hPc, va_K.moved hW.alike hKc, hDc.weaken (fun _ _ _ _ => trivial), nx_K.warm hW hN⟩⟩ rfl rfl hl.1 rfl (lv_room (Nat.le_of_ble_eq_true rfl)) d_House_decide_35 ⟨Nat.le_of_ble_eq_true rfl, Nat.le_of_ble_eq_true rfl⟩) hS (fun q _ h => hFc q h) hFc (fun u t H1 locs ht hvm hw hB hz1 hk1 hS => ?_)
    obtain ⟨hP1, hK1, hD1⟩ := hB
    rw [ht] at hP1
    have hK1 := va_K.moved hvm.symm hK1
    obtain ⟨hP, hD⟩ := va_join (wr := [(r_left, .inr (2, [.ref x_c])), (x_c, .inl (cL, 9, .inr (.inr (.inr (.inr fc))))), (p0, .inr (6, [.ref dk, .ref y0, .int 0])), (p1, .inr (6, [.ref dk, .ref y1, .int 0])), (p2, .inr (6, [.ref dk, .ref y2, .int 0])), (p3, .inr (6, [.ref dk, .ref y3, .int 0])), (p4, .inr (6, [.ref dk, .ref y4, .int 0])), (p5, .inr (6, [.ref dk, .ref y5, .int 0])), (p6, .inr (6, [.ref dk, .ref y6, .int 0])), (p7, .inr (6, [.ref dk, .ref y7, .int 0])), (p8, .inr (6, [.ref dk, .ref y8, .int 0])), (h0, .inr (11, [.ref x_desk, .ref x_reader, .ref x_cells, .ref x_tape, .int 0, .ref x_script, .int 0, .ref x_rootAt, .ref x_rootTimes, .int 0, .ref x_spotX, .ref x_spotY, .ref x_bond, .int 0, .ref x_end, .ref x_span, .int 0, .ref x_part, .ref x_partPower, .int 0, .ref x_kept])), (x_tape, .inl (cT, 400, .inl fT))]) (w1 := [(x_reader, .inr (8, [.ref x_tape, .int 0, .int 0, .int 0, .int 0, .int 0, .int 0, .ref r_left, .ref r_right, .ref r_told, .ref r_curve, .int 0, .int 0, .int 0, .int 0, .ref r_steps, .int 0, .ref r_stack, .int 0]))]) hP hD [13] [0, 1, 2, 3, 4, 5, 6, 7, 8, 9, 10, 11, 12] rfl rfl (by decide) (by decide) hk1 hFc hP1 hD1
    have hK := (hK.sub (tys' := [(cL, .object "RealHouse$Poly"), (cT, .int)]) [0, 1] rfl).app hK1
    generalize H1 = H at hP hS ⊢
    have hP : va_P (dC, dI) classes [(r_left, .inr (2, [.ref x_c])), (x_c, .inl (cL, 9, .inr (.inr (.inr (.inr fc))))), (p0, .inr (6, [.ref dk, .ref y0, .int 0])), (p1, .inr (6, [.ref dk, .ref y1, .int 0])), (p2, .inr (6, [.ref dk, .ref y2, .int 0])), (p3, .inr (6, [.ref dk, .ref y3, .int 0])), (p4, .inr (6, [.ref dk, .ref y4, .int 0])), (p5, .inr (6, [.ref dk, .ref y5, .int 0])), (p6, .inr (6, [.ref dk, .ref y6, .int 0])), (p7, .inr (6, [.ref dk, .ref y7, .int 0])), (p8, .inr (6, [.ref dk, .ref y8, .int 0])), (h0, .inr (11, [.ref x_desk, .ref x_reader, .ref x_cells, .ref x_tape, .int 0, .ref x_script, .int 0, .ref x_rootAt, .ref x_rootTimes, .int 0, .ref x_spotX, .ref x_spotY, .ref x_bond, .int 0, .ref x_end, .ref x_span, .int 0, .ref x_part, .ref x_partPower, .int 0, .ref x_kept])), (x_tape, .inl (cT, 400, .inl fT)), (x_reader, .inr (8, [.ref x_tape, .int 0, .int 0, .int 0, .int 0, .int 0, .int 0, .ref r_left, .ref r_right, .ref r_told, .ref r_curve, .int 0, .int 0, .int 0, .int 0, .ref r_steps, .int 0, .ref r_stack, .int 0]))] H := hP
    have hD : va_D A [(r_left, .inr (2, [.ref x_c])), (x_c, .inl (cL, 9, .inr (.inr (.inr (.inr fc))))), (p0, .inr (6, [.ref dk, .ref y0, .int 0])), (p1, .inr (6, [.ref dk, .ref y1, .int 0])), (p2, .inr (6, [.ref dk, .ref y2, .int 0])), (p3, .inr (6, [.ref dk, .ref y3, .int 0])), (p4, .inr (6, [.ref dk, .ref y4, .int 0])), (p5, .inr (6, [.ref dk, .ref y5, .int 0])), (p6, .inr (6, [.ref dk, .ref y6, .int 0])), (p7, .inr (6, [.ref dk, .ref y7, .int 0])), (p8, .inr (6, [.ref dk, .ref y8, .int 0])), (h0, .inr (11, [.ref x_desk, .ref x_reader, .ref x_cells, .ref x_tape, .int 0, .ref x_script, .int 0, .ref x_rootAt, .ref x_rootTimes, .int 0, .ref x_spotX, .ref x_spotY, .ref x_bond, .int 0, .ref x_end, .ref x_span, .int 0, .ref x_part, .ref x_partPower, .int 0, .ref x_kept])), (x_tape, .inl (cT, 400, .inl fT)), (x_reader, .inr (8, [.ref x_tape, .int 0, .int 0, .int 0, .int 0, .int 0, .int 0, .ref r_left, .ref r_right, .ref r_told, .ref r_curve, .int 0, .int 0, .int 0, .int 0, .ref r_steps, .int 0, .ref r_stack, .int 0]))] := hD
    have hK : va_K (dC, dI) classes [(cL, .object "RealHouse$Poly"), (cT, .int)] s := hK
    refine lv_aload_n hx hb d_House_decide_38 rfl (lv_at hl 0 rfl) ?_
    refine va_get (D := (dC, dI)) (ci := 11) (v := .ref x_reader) (C := R_House) (T := F_House) (N := 21) hx hb hT i_House hown hK hP 11 rfl rfl 1 (by decide) (hT _ tw_616) (fun _ h9 => h9) rfl d_House_decide_39 ?_
    refine va_get (D := (dC, dI)) (ci := 8) (v := .int 0) (C := R_Reader) (T := F_Reader) (N := 19) hx hb hT i_Reader hown hK hP 13 rfl rfl 3 (by decide) (hT _ tw_237) (fun _ h9 => h9) rfl d_House_decide_42 ?_
    refine lv_if_lt (tgt := 53) hx hb d_House_decide_45 (by decide) (fun c_3 => absurd c_3 (by decide)) (fun c_3 => ?_)
    refine lv_aload_n hx hb d_House_decide_48 rfl (lv_at hl 0 rfl) ?_
    have hPc := hP.sub (ws' := [(h0, .inr (11, [.ref x_desk, .ref x_reader, .ref x_cells, .ref x_tape, .int 0, .ref x_script, .int 0, .ref x_rootAt, .ref x_rootTimes, .int 0, .ref x_spotX, .ref x_spotY, .ref x_bond, .int 0, .ref x_end, .ref x_span, .int 0, .ref x_part, .ref x_partPower, .int 0, .ref x_kept])), (x_reader, .inr (8, [.ref x_tape, .int 0, .int 0, .int 0, .int 0, .int 0, .int 0, .ref r_left, .ref r_right, .ref r_told, .ref r_curve, .int 0, .int 0, .int 0, .int 0, .ref r_steps, .int 0, .ref r_stack, .int 0]))]) [11, 13] rfl
    have hDc := hD.sub (ws' := [(h0, .inr (11, [.ref x_desk, .ref x_reader, .ref x_cells, .ref x_tape, .int 0, .ref x_script, .int 0, .ref x_rootAt, .ref x_rootTimes, .int 0, .ref x_spotX, .ref x_spotY, .ref x_bond, .int 0, .ref x_end, .ref x_span, .int 0, .ref x_part, .ref x_partPower, .int 0, .ref x_kept])), (x_reader, .inr (8, [.ref x_tape, .int 0, .int 0, .int 0, .int 0, .int 0, .int 0, .ref r_left, .ref r_right, .ref r_told, .ref r_curve, .int 0, .int 0, .int 0, .int 0, .ref r_steps, .int 0, .ref r_stack, .int 0]))]) [11, 13] (by decide) rfl
    have hKc := hK.sub (tys' := []) [] rfl
    have hFc := va_free (wc := [(h0, .inr (11, [.ref x_desk, .ref x_reader, .ref x_cells, .ref x_tape, .int 0, .ref x_script, .int 0, .ref x_rootAt, .ref x_rootTimes, .int 0, .ref x_spotX, .ref x_spotY, .ref x_bond, .int 0, .ref x_end, .ref x_span, .int 0, .ref x_part, .ref x_partPower, .int 0, .ref x_kept])), (x_reader, .inr (8, [.ref x_tape, .int 0, .int 0, .int 0, .int 0, .int 0, .int 0, .ref r_left, .ref r_right, .ref r_told, .ref r_curve, .int 0, .int 0, .int 0, .int 0, .ref r_steps, .int 0, .ref r_stack, .int 0]))]) hD hS hA [11, 13] rfl
    refine va_calli (va_runV (As := []) (rest := []) ⟨hx, hb, hml, hown, hT⟩ (c_House_faulty_0 l dC dI H.size h0 x_desk x_reader x_cells x_tape x_script x_rootAt x_rootTimes x_spotX x_spotY x_bond x_end x_span x_part x_partPower x_kept r_left r_right r_told r_curve r_steps r_stack x_tape 0 0 ) (cwV 0 hT (tb_goodV g_House_faulty tw_766 tw_768 (tb_sel (q := (⟨"RealHouse", "faulty", "()I"⟩, 21)) (i := 9) (by decide +kernel)) tw_1) rfl rfl rfl (by decide +kernel) ⟨Nat.le_of_ble_eq_true rfl, Nat.le_of_ble_eq_true rfl⟩) ⟨fun a U g mk q => by obtain ⟨q0, q1, qP, qK, qD, qN⟩ := q; exact ⟨q0, q1, qP, va_K.moved (u := U) (U := U.calling g mk a) (Vm.Alike.refl U.vm) qK, qD, nx_K.same (u := U) (U := U.calling g mk a) rfl qN⟩, va_recv hKc hPc (ci := 11) (q0 := 0) rfl rfl, fun U hU hW => ⟨rfl, by rw [hU], by rw [hU]; exact hPc, va_K.moved hW.alike hKc, hDc.weaken (fun _ _ _ _ => trivial), nx_K.warm hW hN⟩⟩ rfl rfl hl.1 rfl (lv_room (Nat.le_of_ble_eq_true rfl)) d_House_decide_49 ⟨Nat.le_of_ble_eq_true rfl, Nat.le_of_ble_eq_true rfl⟩) hS (fun q _ h => hFc q h) hFc (fun r_4 u t H1 locs ht hvm hw hB hz1 hk1 hS => ?_)
    obtain ⟨hP1, hK1, hD1⟩ := hB
    rw [ht] at hP1
    have hK1 := va_K.moved hvm.symm hK1
    obtain rfl : r_4 = (-2) := hw
    obtain ⟨hP, hD⟩ := va_join (wr := [(r_left, .inr (2, [.ref x_c])), (x_c, .inl (cL, 9, .inr (.inr (.inr (.inr fc))))), (p0, .inr (6, [.ref dk, .ref y0, .int 0])), (p1, .inr (6, [.ref dk, .ref y1, .int 0])), (p2, .inr (6, [.ref dk, .ref y2, .int 0])), (p3, .inr (6, [.ref dk, .ref y3, .int 0])), (p4, .inr (6, [.ref dk, .ref y4, .int 0])), (p5, .inr (6, [.ref dk, .ref y5, .int 0])), (p6, .inr (6, [.ref dk, .ref y6, .int 0])), (p7, .inr (6, [.ref dk, .ref y7, .int 0])), (p8, .inr (6, [.ref dk, .ref y8, .int 0])), (x_tape, .inl (cT, 400, .inl fT))]) (w1 := [(h0, .inr (11, [.ref x_desk, .ref x_reader, .ref x_cells, .ref x_tape, .int 0, .ref x_script, .int 0, .ref x_rootAt, .ref x_rootTimes, .int 0, .ref x_spotX, .ref x_spotY, .ref x_bond, .int 0, .ref x_end, .ref x_span, .int 0, .ref x_part, .ref x_partPower, .int 0, .ref x_kept])), (x_reader, .inr (8, [.ref x_tape, .int 0, .int 0, .int 0, .int 0, .int 0, .int 0, .ref r_left, .ref r_right, .ref r_told, .ref r_curve, .int 0, .int 0, .int 0, .int 0, .ref r_steps, .int 0, .ref r_stack, .int 0]))]) hP hD [11, 13] [0, 1, 2, 3, 4, 5, 6, 7, 8, 9, 10, 12] rfl rfl (by decide) (by decide) hk1 hFc hP1 hD1
    have hK := (hK.sub (tys' := [(cL, .object "RealHouse$Poly"), (cT, .int)]) [0, 1] rfl).app hK1
    generalize H1 = H at hP hS ⊢
    have hP : va_P (dC, dI) classes [(r_left, .inr (2, [.ref x_c])), (x_c, .inl (cL, 9, .inr (.inr (.inr (.inr fc))))), (p0, .inr (6, [.ref dk, .ref y0, .int 0])), (p1, .inr (6, [.ref dk, .ref y1, .int 0])), (p2, .inr (6, [.ref dk, .ref y2, .int 0])), (p3, .inr (6, [.ref dk, .ref y3, .int 0])), (p4, .inr (6, [.ref dk, .ref y4, .int 0])), (p5, .inr (6, [.ref dk, .ref y5, .int 0])), (p6, .inr (6, [.ref dk, .ref y6, .int 0])), (p7, .inr (6, [.ref dk, .ref y7, .int 0])), (p8, .inr (6, [.ref dk, .ref y8, .int 0])), (x_tape, .inl (cT, 400, .inl fT)), (h0, .inr (11, [.ref x_desk, .ref x_reader, .ref x_cells, .ref x_tape, .int 0, .ref x_script, .int 0, .ref x_rootAt, .ref x_rootTimes, .int 0, .ref x_spotX, .ref x_spotY, .ref x_bond, .int 0, .ref x_end, .ref x_span, .int 0, .ref x_part, .ref x_partPower, .int 0, .ref x_kept])), (x_reader, .inr (8, [.ref x_tape, .int 0, .int 0, .int 0, .int 0, .int 0, .int 0, .ref r_left, .ref r_right, .ref r_told, .ref r_curve, .int 0, .int 0, .int 0, .int 0, .ref r_steps, .int 0, .ref r_stack, .int 0]))] H := hP
    have hD : va_D A [(r_left, .inr (2, [.ref x_c])), (x_c, .inl (cL, 9, .inr (.inr (.inr (.inr fc))))), (p0, .inr (6, [.ref dk, .ref y0, .int 0])), (p1, .inr (6, [.ref dk, .ref y1, .int 0])), (p2, .inr (6, [.ref dk, .ref y2, .int 0])), (p3, .inr (6, [.ref dk, .ref y3, .int 0])), (p4, .inr (6, [.ref dk, .ref y4, .int 0])), (p5, .inr (6, [.ref dk, .ref y5, .int 0])), (p6, .inr (6, [.ref dk, .ref y6, .int 0])), (p7, .inr (6, [.ref dk, .ref y7, .int 0])), (p8, .inr (6, [.ref dk, .ref y8, .int 0])), (x_tape, .inl (cT, 400, .inl fT)), (h0, .inr (11, [.ref x_desk, .ref x_reader, .ref x_cells, .ref x_tape, .int 0, .ref x_script, .int 0, .ref x_rootAt, .ref x_rootTimes, .int 0, .ref x_spotX, .ref x_spotY, .ref x_bond, .int 0, .ref x_end, .ref x_span, .int 0, .ref x_part, .ref x_partPower, .int 0, .ref x_kept])), (x_reader, .inr (8, [.ref x_tape, .int 0, .int 0, .int 0, .int 0, .int 0, .int 0, .ref r_left, .ref r_right, .ref r_told, .ref r_curve, .int 0, .int 0, .int 0, .int 0, .ref r_steps, .int 0, .ref r_stack, .int 0]))] := hD
    have hK : va_K (dC, dI) classes [(cL, .object "RealHouse$Poly"), (cT, .int)] s := hK
    have hP9 := hP.sub (ws' := []) [] rfl
    have hD9 := hD.sub (ws' := []) [] (by decide) rfl
    have hK9 := hK.sub (tys' := []) [] rfl
    exact W.iret (v := (-2)) hx hb hr (fun t ht hW => ⟨⟨(-2), (), rfl, rfl, by rw [ht]; exact hP9, va_K.moved hW.alike hK9, hD9⟩, hS.F ht⟩) hS.2.2 d_House_decide_52
  · have hn0 : ¬ n = 0 := fun h => c_2 (by rw [hr_1, if_pos h])
    refine lv_iconst (v := (-1)) hx hb d_House_decide_8 (by decide) ?_
    have hP9 := hP.sub (ws' := []) [] rfl
    have hD9 := hD.sub (ws' := []) [] (by decide) rfl
    have hK9 := hK.sub (tys' := []) [] rfl
    exact W.iret (v := (-1)) hx hb hr (fun t ht hW => ⟨⟨(-1), (), rfl, (if_neg hn0).symm, by rw [ht]; exact hP9, va_K.moved hW.alike hK9, hD9⟩, hS.F ht⟩) hS.2.2 d_House_decide_9

set_option maxHeartbeats 4000000 in
set_option maxRecDepth 100000 in
/-- solve on a fresh house -/
theorem c_House_solve_0 (l : Launch) (dC : Nat → ClassId) (dI : Nat → Nat → Nat) (sz : Nat) (h0 : Nat) (x_desk : Nat) (x_reader : Nat) (x_cells : Nat) (x_tape : Nat) (x_script : Nat) (x_rootAt : Nat) (x_rootTimes : Nat) (x_spotX : Nat) (x_spotY : Nat) (x_bond : Nat) (x_end : Nat) (x_span : Nat) (x_part : Nat) (x_partPower : Nat) (x_kept : Nat) (cT : ClassId) (fT : Nat → Int32) (r_left : Nat) (r_right : Nat) (r_told : Nat) (r_curve : Nat) (r_steps : Nat) (r_stack : Nat) (t0 : Nat) (ft : Int32) (wx : Int32) (wy : Int32) (x_c : Nat) (cL : ClassId) (fc : Nat → Option Nat) (dk : Nat) (p0 : Nat) (p1 : Nat) (p2 : Nat) (p3 : Nat) (p4 : Nat) (p5 : Nat) (p6 : Nat) (p7 : Nat) (p8 : Nat) (y0 : Nat) (y1 : Nat) (y2 : Nat) (y3 : Nat) (y4 : Nat) (y5 : Nat) (y6 : Nat) (y7 : Nat) (y8 : Nat) (n : Int32) (hF : fc 0 = some p0 ∧ fc 1 = some p1 ∧ fc 2 = some p2 ∧ fc 3 = some p3 ∧ fc 4 = some p4 ∧ fc 5 = some p5 ∧ fc 6 = some p6 ∧ fc 7 = some p7 ∧ fc 8 = some p8) : Met l y_House_solve w_House_solve ({ frames := 5, cells := 0, slots := 0, locals := 122 }) (va_Pc [.ref h0, .int n] (fun U => U.heap.size = sz ∧ va_P (dC, dI) classes [(h0, .inr (11, [.ref x_desk, .ref x_reader, .ref x_cells, .ref x_tape, .int 0, .ref x_script, .int 0, .ref x_rootAt, .ref x_rootTimes, .int 0, .ref x_spotX, .ref x_spotY, .ref x_bond, .int 0, .ref x_end, .ref x_span, .int 0, .ref x_part, .ref x_partPower, .int 0, .ref x_kept])), (x_tape, .inl (cT, 400, .inl fT)), (x_reader, .inr (8, [.ref t0, .int 0, .int 0, .int ft, .int wx, .int wy, .int 0, .ref r_left, .ref r_right, .ref r_told, .ref r_curve, .int 0, .int 0, .int 0, .int 0, .ref r_steps, .int 0, .ref r_stack, .int 0])), (r_left, .inr (2, [.ref x_c])), (x_c, .inl (cL, 9, .inr (.inr (.inr (.inr fc))))), (p0, .inr (6, [.ref dk, .ref y0, .int 0])), (p1, .inr (6, [.ref dk, .ref y1, .int 0])), (p2, .inr (6, [.ref dk, .ref y2, .int 0])), (p3, .inr (6, [.ref dk, .ref y3, .int 0])), (p4, .inr (6, [.ref dk, .ref y4, .int 0])), (p5, .inr (6, [.ref dk, .ref y5, .int 0])), (p6, .inr (6, [.ref dk, .ref y6, .int 0])), (p7, .inr (6, [.ref dk, .ref y7, .int 0])), (p8, .inr (6, [.ref dk, .ref y8, .int 0]))] U.heap ∧ va_K (dC, dI) classes [(cT, .int), (cL, .object "RealHouse$Poly")] U ∧ va_D (fun _ => True) [(h0, .inr (11, [.ref x_desk, .ref x_reader, .ref x_cells, .ref x_tape, .int 0, .ref x_script, .int 0, .ref x_rootAt, .ref x_rootTimes, .int 0, .ref x_spotX, .ref x_spotY, .ref x_bond, .int 0, .ref x_end, .ref x_span, .int 0, .ref x_part, .ref x_partPower, .int 0, .ref x_kept])), (x_tape, .inl (cT, 400, .inl fT)), (x_reader, .inr (8, [.ref t0, .int 0, .int 0, .int ft, .int wx, .int wy, .int 0, .ref r_left, .ref r_right, .ref r_told, .ref r_curve, .int 0, .int 0, .int 0, .int 0, .ref r_steps, .int 0, .ref r_stack, .int 0])), (r_left, .inr (2, [.ref x_c])), (x_c, .inl (cL, 9, .inr (.inr (.inr (.inr fc))))), (p0, .inr (6, [.ref dk, .ref y0, .int 0])), (p1, .inr (6, [.ref dk, .ref y1, .int 0])), (p2, .inr (6, [.ref dk, .ref y2, .int 0])), (p3, .inr (6, [.ref dk, .ref y3, .int 0])), (p4, .inr (6, [.ref dk, .ref y4, .int 0])), (p5, .inr (6, [.ref dk, .ref y5, .int 0])), (p6, .inr (6, [.ref dk, .ref y6, .int 0])), (p7, .inr (6, [.ref dk, .ref y7, .int 0])), (p8, .inr (6, [.ref dk, .ref y8, .int 0]))] ∧ nx_K U)) (va_Qi (fun (r : Int32) (_ : Unit) => r = if n = 0 then (-2) else (-1)) (fun _ t => va_P (dC, dI) classes [] t.heap ∧ va_K (dC, dI) classes [] t ∧ va_D (va_A [(h0, .inr (11, [.ref x_desk, .ref x_reader, .ref x_cells, .ref x_tape, .int 0, .ref x_script, .int 0, .ref x_rootAt, .ref x_rootTimes, .int 0, .ref x_spotX, .ref x_spotY, .ref x_bond, .int 0, .ref x_end, .ref x_span, .int 0, .ref x_part, .ref x_partPower, .int 0, .ref x_kept])), (x_tape, .inl (cT, 400, .inl fT)), (x_reader, .inr (8, [.ref t0, .int 0, .int 0, .int ft, .int wx, .int wy, .int 0, .ref r_left, .ref r_right, .ref r_told, .ref r_curve, .int 0, .int 0, .int 0, .int 0, .ref r_steps, .int 0, .ref r_stack, .int 0])), (r_left, .inr (2, [.ref x_c])), (x_c, .inl (cL, 9, .inr (.inr (.inr (.inr fc))))), (p0, .inr (6, [.ref dk, .ref y0, .int 0])), (p1, .inr (6, [.ref dk, .ref y1, .int 0])), (p2, .inr (6, [.ref dk, .ref y2, .int 0])), (p3, .inr (6, [.ref dk, .ref y3, .int 0])), (p4, .inr (6, [.ref dk, .ref y4, .int 0])), (p5, .inr (6, [.ref dk, .ref y5, .int 0])), (p6, .inr (6, [.ref dk, .ref y6, .int 0])), (p7, .inr (6, [.ref dk, .ref y7, .int 0])), (p8, .inr (6, [.ref dk, .ref y8, .int 0]))] sz) []) (va_A [(h0, .inr (11, [.ref x_desk, .ref x_reader, .ref x_cells, .ref x_tape, .int 0, .ref x_script, .int 0, .ref x_rootAt, .ref x_rootTimes, .int 0, .ref x_spotX, .ref x_spotY, .ref x_bond, .int 0, .ref x_end, .ref x_span, .int 0, .ref x_part, .ref x_partPower, .int 0, .ref x_kept])), (x_tape, .inl (cT, 400, .inl fT)), (x_reader, .inr (8, [.ref t0, .int 0, .int 0, .int ft, .int wx, .int wy, .int 0, .ref r_left, .ref r_right, .ref r_told, .ref r_curve, .int 0, .int 0, .int 0, .int 0, .ref r_steps, .int 0, .ref r_stack, .int 0])), (r_left, .inr (2, [.ref x_c])), (x_c, .inl (cL, 9, .inr (.inr (.inr (.inr fc))))), (p0, .inr (6, [.ref dk, .ref y0, .int 0])), (p1, .inr (6, [.ref dk, .ref y1, .int 0])), (p2, .inr (6, [.ref dk, .ref y2, .int 0])), (p3, .inr (6, [.ref dk, .ref y3, .int 0])), (p4, .inr (6, [.ref dk, .ref y4, .int 0])), (p5, .inr (6, [.ref dk, .ref y5, .int 0])), (p6, .inr (6, [.ref dk, .ref y6, .int 0])), (p7, .inr (6, [.ref dk, .ref y7, .int 0])), (p8, .inr (6, [.ref dk, .ref y8, .int 0]))] sz)) 0 0 (va_A [(h0, .inr (11, [.ref x_desk, .ref x_reader, .ref x_cells, .ref x_tape, .int 0, .ref x_script, .int 0, .ref x_rootAt, .ref x_rootTimes, .int 0, .ref x_spotX, .ref x_spotY, .ref x_bond, .int 0, .ref x_end, .ref x_span, .int 0, .ref x_part, .ref x_partPower, .int 0, .ref x_kept])), (x_tape, .inl (cT, 400, .inl fT)), (x_reader, .inr (8, [.ref t0, .int 0, .int 0, .int ft, .int wx, .int wy, .int 0, .ref r_left, .ref r_right, .ref r_told, .ref r_curve, .int 0, .int 0, .int 0, .int 0, .ref r_steps, .int 0, .ref r_stack, .int 0])), (r_left, .inr (2, [.ref x_c])), (x_c, .inl (cL, 9, .inr (.inr (.inr (.inr fc))))), (p0, .inr (6, [.ref dk, .ref y0, .int 0])), (p1, .inr (6, [.ref dk, .ref y1, .int 0])), (p2, .inr (6, [.ref dk, .ref y2, .int 0])), (p3, .inr (6, [.ref dk, .ref y3, .int 0])), (p4, .inr (6, [.ref dk, .ref y4, .int 0])), (p5, .inr (6, [.ref dk, .ref y5, .int 0])), (p6, .inr (6, [.ref dk, .ref y6, .int 0])), (p7, .inr (6, [.ref dk, .ref y7, .int 0])), (p8, .inr (6, [.ref dk, .ref y8, .int 0]))] sz) := by
  refine Met.ofW (cc := b_House_solve) (maxL := 5) (ret := (some .int)) (by decide) rfl ?_
  intro p e s m args below meth c s₁ B hml hv
  obtain ⟨rfl, hsz, hP, hK, hD0, hN⟩ := hv
  have hx := B.exec
  have hb := B.bytes
  have hr := B.returns
  have hT : ∀ w ∈ lw_g, w.before _ s = true := fun w h => atoms_spec (ws := w_House_solve) B.pre w (List.mem_cons_of_mem _ h)
  have hown : s.vm.findClass R_House = some m.cls := findClass_of_methodNamed B.named
  have hlocks := B.notSynchronized
  subst hsz
  have hD := hD0.self (sz := s.heap.size)
  generalize hAe : va_A [(h0, .inr (11, [.ref x_desk, .ref x_reader, .ref x_cells, .ref x_tape, .int 0, .ref x_script, .int 0, .ref x_rootAt, .ref x_rootTimes, .int 0, .ref x_spotX, .ref x_spotY, .ref x_bond, .int 0, .ref x_end, .ref x_span, .int 0, .ref x_part, .ref x_partPower, .int 0, .ref x_kept])), (x_tape, .inl (cT, 400, .inl fT)), (x_reader, .inr (8, [.ref t0, .int 0, .int 0, .int ft, .int wx, .int wy, .int 0, .ref r_left, .ref r_right, .ref r_told, .ref r_curve, .int 0, .int 0, .int 0, .int 0, .ref r_steps, .int 0, .ref r_stack, .int 0])), (r_left, .inr (2, [.ref x_c])), (x_c, .inl (cL, 9, .inr (.inr (.inr (.inr fc))))), (p0, .inr (6, [.ref dk, .ref y0, .int 0])), (p1, .inr (6, [.ref dk, .ref y1, .int 0])), (p2, .inr (6, [.ref dk, .ref y2, .int 0])), (p3, .inr (6, [.ref dk, .ref y3, .int 0])), (p4, .inr (6, [.ref dk, .ref y4, .int 0])), (p5, .inr (6, [.ref dk, .ref y5, .int 0])), (p6, .inr (6, [.ref dk, .ref y6, .int 0])), (p7, .inr (6, [.ref dk, .ref y7, .int 0])), (p8, .inr (6, [.ref dk, .ref y8, .int 0]))] s.heap.size = A at hD ⊢
  have hA : ∀ q : Nat, s.heap.size ≤ q → A q := fun q h => by rw [← hAe]; exact Or.inr h
  have hS : va_S A s.heap s.heap [] := va_S.rf
  have hP : va_P (dC, dI) classes [(h0, .inr (11, [.ref x_desk, .ref x_reader, .ref x_cells, .ref x_tape, .int 0, .ref x_script, .int 0, .ref x_rootAt, .ref x_rootTimes, .int 0, .ref x_spotX, .ref x_spotY, .ref x_bond, .int 0, .ref x_end, .ref x_span, .int 0, .ref x_part, .ref x_partPower, .int 0, .ref x_kept])), (x_tape, .inl (cT, 400, .inl fT)), (x_reader, .inr (8, [.ref t0, .int 0, .int 0, .int ft, .int wx, .int wy, .int 0, .ref r_left, .ref r_right, .ref r_told, .ref r_curve, .int 0, .int 0, .int 0, .int 0, .ref r_steps, .int 0, .ref r_stack, .int 0])), (r_left, .inr (2, [.ref x_c])), (x_c, .inl (cL, 9, .inr (.inr (.inr (.inr fc))))), (p0, .inr (6, [.ref dk, .ref y0, .int 0])), (p1, .inr (6, [.ref dk, .ref y1, .int 0])), (p2, .inr (6, [.ref dk, .ref y2, .int 0])), (p3, .inr (6, [.ref dk, .ref y3, .int 0])), (p4, .inr (6, [.ref dk, .ref y4, .int 0])), (p5, .inr (6, [.ref dk, .ref y5, .int 0])), (p6, .inr (6, [.ref dk, .ref y6, .int 0])), (p7, .inr (6, [.ref dk, .ref y7, .int 0])), (p8, .inr (6, [.ref dk, .ref y8, .int 0]))] s.heap := hP
  have hl := lv_entry ([.ref h0, .int n]) (n := 5) (Nat.le_of_ble_eq_true rfl)
  rw [lg_entry_eq]
  generalize (lg_sl ([.ref h0, .int n]) ++ List.replicate (5 - (lg_sl ([.ref h0, .int n])).length) Slot.unset).toArray = ls at hl ⊢
  have hl : lv_has ls 5 [(0, .ref h0), (1, .int n)] := hl
  refine lv_aload_n hx hb d_House_solve_0 rfl (lv_at hl 0 rfl) ?_
  refine lv_iload_n hx hb d_House_solve_1 rfl (lv_at hl 1 rfl) ?_
  have hPc := hP.sub (ws' := [(h0, .inr (11, [.ref x_desk, .ref x_reader, .ref x_cells, .ref x_tape, .int 0, .ref x_script, .int 0, .ref x_rootAt, .ref x_rootTimes, .int 0, .ref x_spotX, .ref x_spotY, .ref x_bond, .int 0, .ref x_end, .ref x_span, .int 0, .ref x_part, .ref x_partPower, .int 0, .ref x_kept]))]) [0] rfl
  have hDc := hD.sub (ws' := [(h0, .inr (11, [.ref x_desk, .ref x_reader, .ref x_cells, .ref x_tape, .int 0, .ref x_script, .int 0, .ref x_rootAt, .ref x_rootTimes, .int 0, .ref x_spotX, .ref x_spotY, .ref x_bond, .int 0, .ref x_end, .ref x_span, .int 0, .ref x_part, .ref x_partPower, .int 0, .ref x_kept]))]) [0] (by decide) rfl
  have hKc := hK.sub (tys' := []) [] rfl
  have hFc := va_free (wc := [(h0, .inr (11, [.ref x_desk, .ref x_reader, .ref x_cells, .ref x_tape, .int 0, .ref x_script, .int 0, .ref x_rootAt, .ref x_rootTimes, .int 0, .ref x_spotX, .ref x_spotY, .ref x_bond, .int 0, .ref x_end, .ref x_span, .int 0, .ref x_part, .ref x_partPower, .int 0, .ref x_kept]))]) hD hS hA [0] rfl
  refine va_calli (va_runV (As := [.int n]) (rest := []) ⟨hx, hb, hml, hown, hT⟩ (c_House_isNoLength_0 l dC dI s.heap.size h0 x_desk x_reader x_cells x_tape x_script x_rootAt x_rootTimes x_spotX x_spotY x_bond x_end x_span x_part x_partPower x_kept n ) (cwV 1 hT (tb_goodV g_House_isNoLength tw_695 tw_697 (tb_sel (q := (⟨"RealHouse", "isNoLength", "(I)Z"⟩, 21)) (i := 1) (by decide +kernel)) tw_1) rfl rfl rfl (by decide +kernel) ⟨Nat.le_of_ble_eq_true rfl, Nat.le_of_ble_eq_true rfl⟩) ⟨fun a U g mk q => by obtain ⟨q0, q1, qP, qK, qD, qN⟩ := q; exact ⟨q0, q1, qP, va_K.moved (u := U) (U := U.calling g mk a) (Vm.Alike.refl U.vm) qK, qD, nx_K.same (u := U) (U := U.calling g mk a) rfl qN⟩, va_recv hKc hPc (ci := 11) (q0 := 0) rfl rfl, fun U hU hW => ⟨rfl, by rw [hU], by rw [hU]; exact hPc, va_K.moved hW.alike hKc, hDc.weaken (fun _ _ _ _ => trivial), nx_K.warm hW hN⟩⟩ rfl rfl hl.1 rfl (lv_room (Nat.le_of_ble_eq_true rfl)) d_House_solve_2 ⟨Nat.le_of_ble_eq_true rfl, Nat.le_of_ble_eq_true rfl⟩) hS (fun q _ h => hFc q h) hFc (fun r_1 u t H1 locs ht hvm hw hB hz1 hk1 hS => ?_)
  obtain ⟨hP1, hK1, hD1⟩ := hB
  rw [ht] at hP1
  have hK1 := va_K.moved hvm.symm hK1
  have hr_1 := hw
  obtain ⟨hP, hD⟩ := va_join (wr := [(x_tape, .inl (cT, 400, .inl fT)), (x_reader, .inr (8, [.ref t0, .int 0, .int 0, .int ft, .int wx, .int wy, .int 0, .ref r_left, .ref r_right, .ref r_told, .ref r_curve, .int 0, .int 0, .int 0, .int 0, .ref r_steps, .int 0, .ref r_stack, .int 0])), (r_left, .inr (2, [.ref x_c])), (x_c, .inl (cL, 9, .inr (.inr (.inr (.inr fc))))), (p0, .inr (6, [.ref dk, .ref y0, .int 0])), (p1, .inr (6, [.ref dk, .ref y1, .int 0])), (p2, .inr (6, [.ref dk, .ref y2, .int 0])), (p3, .inr (6, [.ref dk, .ref y3, .int 0])), (p4, .inr (6, [.ref dk, .ref y4, .int 0])), (p5, .inr (6, [.ref dk, .ref y5, .int 0])), (p6, .inr (6, [.ref dk, .ref y6, .int 0])), (p7, .inr (6, [.ref dk, .ref y7, .int 0])), (p8, .inr (6, [.ref dk, .ref y8, .int 0]))]) (w1 := [(h0, .inr (11, [.ref x_desk, .ref x_reader, .ref x_cells, .ref x_tape, .int 0, .ref x_script, .int 0, .ref x_rootAt, .ref x_rootTimes, .int 0, .ref x_spotX, .ref x_spotY, .ref x_bond, .int 0, .ref x_end, .ref x_span, .int 0, .ref x_part, .ref x_partPower, .int 0, .ref x_kept]))]) hP hD [0] [1, 2, 3, 4, 5, 6, 7, 8, 9, 10, 11, 12, 13] rfl rfl (by decide) (by decide) hk1 hFc hP1 hD1
  have hK := (hK.sub (tys' := [(cT, .int), (cL, .object "RealHouse$Poly")]) [0, 1] rfl).app hK1
  generalize H1 = H at hP hS ⊢
  have hP : va_P (dC, dI) classes [(x_tape, .inl (cT, 400, .inl fT)), (x_reader, .inr (8, [.ref t0, .int 0, .int 0, .int ft, .int wx, .int wy, .int 0, .ref r_left, .ref r_right, .ref r_told, .ref r_curve, .int 0, .int 0, .int 0, .int 0, .ref r_steps, .int 0, .ref r_stack, .int 0])), (r_left, .inr (2, [.ref x_c])), (x_c, .inl (cL, 9, .inr (.inr (.inr (.inr fc))))), (p0, .inr (6, [.ref dk, .ref y0, .int 0])), (p1, .inr (6, [.ref dk, .ref y1, .int 0])), (p2, .inr (6, [.ref dk, .ref y2, .int 0])), (p3, .inr (6, [.ref dk, .ref y3, .int 0])), (p4, .inr (6, [.ref dk, .ref y4, .int 0])), (p5, .inr (6, [.ref dk, .ref y5, .int 0])), (p6, .inr (6, [.ref dk, .ref y6, .int 0])), (p7, .inr (6, [.ref dk, .ref y7, .int 0])), (p8, .inr (6, [.ref dk, .ref y8, .int 0])), (h0, .inr (11, [.ref x_desk, .ref x_reader, .ref x_cells, .ref x_tape, .int 0, .ref x_script, .int 0, .ref x_rootAt, .ref x_rootTimes, .int 0, .ref x_spotX, .ref x_spotY, .ref x_bond, .int 0, .ref x_end, .ref x_span, .int 0, .ref x_part, .ref x_partPower, .int 0, .ref x_kept]))] H := hP
  have hD : va_D A [(x_tape, .inl (cT, 400, .inl fT)), (x_reader, .inr (8, [.ref t0, .int 0, .int 0, .int ft, .int wx, .int wy, .int 0, .ref r_left, .ref r_right, .ref r_told, .ref r_curve, .int 0, .int 0, .int 0, .int 0, .ref r_steps, .int 0, .ref r_stack, .int 0])), (r_left, .inr (2, [.ref x_c])), (x_c, .inl (cL, 9, .inr (.inr (.inr (.inr fc))))), (p0, .inr (6, [.ref dk, .ref y0, .int 0])), (p1, .inr (6, [.ref dk, .ref y1, .int 0])), (p2, .inr (6, [.ref dk, .ref y2, .int 0])), (p3, .inr (6, [.ref dk, .ref y3, .int 0])), (p4, .inr (6, [.ref dk, .ref y4, .int 0])), (p5, .inr (6, [.ref dk, .ref y5, .int 0])), (p6, .inr (6, [.ref dk, .ref y6, .int 0])), (p7, .inr (6, [.ref dk, .ref y7, .int 0])), (p8, .inr (6, [.ref dk, .ref y8, .int 0])), (h0, .inr (11, [.ref x_desk, .ref x_reader, .ref x_cells, .ref x_tape, .int 0, .ref x_script, .int 0, .ref x_rootAt, .ref x_rootTimes, .int 0, .ref x_spotX, .ref x_spotY, .ref x_bond, .int 0, .ref x_end, .ref x_span, .int 0, .ref x_part, .ref x_partPower, .int 0, .ref x_kept]))] := hD
  have hK : va_K (dC, dI) classes [(cT, .int), (cL, .object "RealHouse$Poly")] s := hK
  refine lv_if_eq (tgt := 10) hx hb d_House_solve_5 (by decide) (fun c_2 => ?_) (fun c_2 => ?_)
  · have hn0 : n = 0 := by
      rcases Decidable.em (n = 0) with h | h
      · exact h
      · rw [if_neg h] at hr_1; rw [hr_1] at c_2; exact absurd c_2 (by decide)
    subst hn0
    refine lv_aload_n hx hb d_House_solve_10 rfl (lv_at hl 0 rfl) ?_
    refine va_get (D := (dC, dI)) (ci := 11) (v := .ref x_reader) (C := R_House) (T := F_House) (N := 21) hx hb hT i_House hown hK hP 13 rfl rfl 1 (by decide) (hT _ tw_616) (fun _ h9 => h9) rfl d_House_solve_11 ?_
    refine lv_aload_n hx hb d_House_solve_14 rfl (lv_at hl 0 rfl) ?_
    refine va_get (D := (dC, dI)) (ci := 11) (v := .ref x_tape) (C := R_House) (T := F_House) (N := 21) hx hb hT i_House hown hK hP 13 rfl rfl 3 (by decide) (hT _ tw_618) (fun _ h9 => h9) rfl d_House_solve_15 ?_
    refine lv_iload_n hx hb d_House_solve_18 rfl (lv_at hl 1 rfl) ?_
    refine lv_iconst (v := 1) hx hb d_House_solve_19 (by decide) ?_
    refine lv_iconst (v := 0) hx hb d_House_solve_20 (by decide) ?_
    have hPc := hP.sub (ws' := [(x_reader, .inr (8, [.ref t0, .int 0, .int 0, .int ft, .int wx, .int wy, .int 0, .ref r_left, .ref r_right, .ref r_told, .ref r_curve, .int 0, .int 0, .int 0, .int 0, .ref r_steps, .int 0, .ref r_stack, .int 0])), (x_tape, .inl (cT, 400, .inl fT))]) [1, 0] rfl
    have hDc := hD.sub (ws' := [(x_reader, .inr (8, [.ref t0, .int 0, .int 0, .int ft, .int wx, .int wy, .int 0, .ref r_left, .ref r_right, .ref r_told, .ref r_curve, .int 0, .int 0, .int 0, .int 0, .ref r_steps, .int 0, .ref r_stack, .int 0])), (x_tape, .inl (cT, 400, .inl fT))]) [1, 0] (by decide) rfl
    have hKc := hK.sub (tys' := [(cT, .int)]) [0] rfl
    have hFc := va_free (wc := [(x_reader, .inr (8, [.ref t0, .int 0, .int 0, .int ft, .int wx, .int wy, .int 0, .ref r_left, .ref r_right, .ref r_told, .ref r_curve, .int 0, .int 0, .int 0, .int 0, .ref r_steps, .int 0, .ref r_stack, .int 0])), (x_tape, .inl (cT, 400, .inl fT))]) hD hS hA [1, 0] rfl
    refine va_callv (va_runV (As := [.ref x_tape, .int 0, .int 1, .int 0]) (rest := []) ⟨hx, hb, hml, hown, hT⟩ (c_Reader_begin_10 l dC dI H.size x_reader x_tape r_left r_right r_told r_curve r_steps r_stack t0 ft wx wy cT fT ) (cwV 4 hT (tb_goodV g_Reader_begin tw_699 tw_700 tw_701 tw_6) rfl rfl rfl (by decide +kernel) ⟨Nat.le_of_ble_eq_true rfl, Nat.le_of_ble_eq_true rfl⟩) ⟨fun a U g mk q => by obtain ⟨q0, q1, qP, qK, qD, qN⟩ := q; exact ⟨q0, q1, qP, va_K.moved (u := U) (U := U.calling g mk a) (Vm.Alike.refl U.vm) qK, qD, nx_K.same (u := U) (U := U.calling g mk a) rfl qN⟩, va_recv hKc hPc (ci := 8) (q0 := 0) rfl rfl, fun U hU hW => ⟨rfl, by rw [hU], by rw [hU]; exact hPc, va_K.moved hW.alike hKc, hDc.weaken (fun _ _ _ _ => trivial), nx_K.warm hW hN⟩⟩ rfl rfl hl.1 rfl (lv_room (Nat.le_of_ble_eq_true rfl)) d_House_solve_21 ⟨Nat.le_of_ble_eq_true rfl, Nat.le_of_ble_eq_true rfl⟩) hS (fun q _ h => hFc q h) hFc (fun u t H1 locs ht hvm hw hB hz1 hk1 hS => ?_)
    obtain ⟨hP1, hK1, hD1⟩ := hB
    rw [ht] at hP1
    have hK1 := va_K.moved hvm.symm hK1
    obtain ⟨hP, hD⟩ := va_join (wr := [(r_left, .inr (2, [.ref x_c])), (x_c, .inl (cL, 9, .inr (.inr (.inr (.inr fc))))), (p0, .inr (6, [.ref dk, .ref y0, .int 0])), (p1, .inr (6, [.ref dk, .ref y1, .int 0])), (p2, .inr (6, [.ref dk, .ref y2, .int 0])), (p3, .inr (6, [.ref dk, .ref y3, .int 0])), (p4, .inr (6, [.ref dk, .ref y4, .int 0])), (p5, .inr (6, [.ref dk, .ref y5, .int 0])), (p6, .inr (6, [.ref dk, .ref y6, .int 0])), (p7, .inr (6, [.ref dk, .ref y7, .int 0])), (p8, .inr (6, [.ref dk, .ref y8, .int 0])), (h0, .inr (11, [.ref x_desk, .ref x_reader, .ref x_cells, .ref x_tape, .int 0, .ref x_script, .int 0, .ref x_rootAt, .ref x_rootTimes, .int 0, .ref x_spotX, .ref x_spotY, .ref x_bond, .int 0, .ref x_end, .ref x_span, .int 0, .ref x_part, .ref x_partPower, .int 0, .ref x_kept]))]) (w1 := [(x_reader, .inr (8, [.ref x_tape, .int 0, .int 0, .int (-1), .int 1, .int 0, .int 0, .ref r_left, .ref r_right, .ref r_told, .ref r_curve, .int 0, .int 0, .int 0, .int 0, .ref r_steps, .int 0, .ref r_stack, .int 0])), (x_tape, .inl (cT, 400, .inl fT))]) hP hD [1, 0] [2, 3, 4, 5, 6, 7, 8, 9, 10, 11, 12, 13] rfl rfl (by decide) (by decide) hk1 hFc hP1 hD1
    have hK := (hK.sub (tys' := [(cL, .object "RealHouse$Poly")]) [1] rfl).app hK1
    generalize H1 = H at hP hS ⊢
    have hP : va_P (dC, dI) classes [(r_left, .inr (2, [.ref x_c])), (x_c, .inl (cL, 9, .inr (.inr (.inr (.inr fc))))), (p0, .inr (6, [.ref dk, .ref y0, .int 0])), (p1, .inr (6, [.ref dk, .ref y1, .int 0])), (p2, .inr (6, [.ref dk, .ref y2, .int 0])), (p3, .inr (6, [.ref dk, .ref y3, .int 0])), (p4, .inr (6, [.ref dk, .ref y4, .int 0])), (p5, .inr (6, [.ref dk, .ref y5, .int 0])), (p6, .inr (6, [.ref dk, .ref y6, .int 0])), (p7, .inr (6, [.ref dk, .ref y7, .int 0])), (p8, .inr (6, [.ref dk, .ref y8, .int 0])), (h0, .inr (11, [.ref x_desk, .ref x_reader, .ref x_cells, .ref x_tape, .int 0, .ref x_script, .int 0, .ref x_rootAt, .ref x_rootTimes, .int 0, .ref x_spotX, .ref x_spotY, .ref x_bond, .int 0, .ref x_end, .ref x_span, .int 0, .ref x_part, .ref x_partPower, .int 0, .ref x_kept])), (x_reader, .inr (8, [.ref x_tape, .int 0, .int 0, .int (-1), .int 1, .int 0, .int 0, .ref r_left, .ref r_right, .ref r_told, .ref r_curve, .int 0, .int 0, .int 0, .int 0, .ref r_steps, .int 0, .ref r_stack, .int 0])), (x_tape, .inl (cT, 400, .inl fT))] H := hP
    have hD : va_D A [(r_left, .inr (2, [.ref x_c])), (x_c, .inl (cL, 9, .inr (.inr (.inr (.inr fc))))), (p0, .inr (6, [.ref dk, .ref y0, .int 0])), (p1, .inr (6, [.ref dk, .ref y1, .int 0])), (p2, .inr (6, [.ref dk, .ref y2, .int 0])), (p3, .inr (6, [.ref dk, .ref y3, .int 0])), (p4, .inr (6, [.ref dk, .ref y4, .int 0])), (p5, .inr (6, [.ref dk, .ref y5, .int 0])), (p6, .inr (6, [.ref dk, .ref y6, .int 0])), (p7, .inr (6, [.ref dk, .ref y7, .int 0])), (p8, .inr (6, [.ref dk, .ref y8, .int 0])), (h0, .inr (11, [.ref x_desk, .ref x_reader, .ref x_cells, .ref x_tape, .int 0, .ref x_script, .int 0, .ref x_rootAt, .ref x_rootTimes, .int 0, .ref x_spotX, .ref x_spotY, .ref x_bond, .int 0, .ref x_end, .ref x_span, .int 0, .ref x_part, .ref x_partPower, .int 0, .ref x_kept])), (x_reader, .inr (8, [.ref x_tape, .int 0, .int 0, .int (-1), .int 1, .int 0, .int 0, .ref r_left, .ref r_right, .ref r_told, .ref r_curve, .int 0, .int 0, .int 0, .int 0, .ref r_steps, .int 0, .ref r_stack, .int 0])), (x_tape, .inl (cT, 400, .inl fT))] := hD
    have hK : va_K (dC, dI) classes [(cL, .object "RealHouse$Poly"), (cT, .int)] s := hK
    refine lv_aload_n hx hb d_House_solve_24 rfl (lv_at hl 0 rfl) ?_
    refine va_get (D := (dC, dI)) (ci := 11) (v := .ref x_reader) (C := R_House) (T := F_House) (N := 21) hx hb hT i_House hown hK hP 11 rfl rfl 1 (by decide) (hT _ tw_616) (fun _ h9 => h9) rfl d_House_solve_25 ?_
    have hPc := hP.sub (ws' := [(x_reader, .inr (8, [.ref x_tape, .int 0, .int 0, .int (-1), .int 1, .int 0, .int 0, .ref r_left, .ref r_right, .ref r_told, .ref r_curve, .int 0, .int 0, .int 0, .int 0, .ref r_steps, .int 0, .ref r_stack, .int 0]))]) [12] rfl
    have hDc := hD.sub (ws' := [(x_reader, .inr (8, [.ref x_tape, .int 0, .int 0, .int (-1), .int 1, .int 0, .int 0, .ref r_left, .ref r_right, .ref r_told, .ref r_curve, .int 0, .int 0, .int 0, .int 0, .ref r_steps, .int 0, .ref r_stack, .int 0]))]) [12] (by decide) rfl
    have hKc := hK.sub (tys' := []) [] rfl
    have hFc := va_free (wc := [(x_reader, .inr (8, [.ref x_tape, .int 0, .int 0, .int (-1), .int 1, .int 0, .int 0, .ref r_left, .ref r_right, .ref r_told, .ref r_curve, .int 0, .int 0, .int 0, .int 0, .ref r_steps, .int 0, .ref r_stack, .int 0]))]) hD hS hA [12] rfl
    refine va_callv (va_runV (As := []) (rest := []) ⟨hx, hb, hml, hown, hT⟩ (c_Reader_readOverY_0 l dC dI H.size x_reader x_tape r_left r_right r_told r_curve r_steps r_stack (-1) 1 0 ) (cwV 0 hT (tb_goodV g_Reader_readOverY tw_1512 tw_1513 tw_1514 tw_6) rfl rfl rfl (by decide +kernel) ⟨Nat.le_of_ble_eq_true rfl, Nat.le_of_ble_eq_true rfl⟩) ⟨fun a U g mk q => by obtain ⟨q0, q1, qP, qK, qD, qN⟩ := q; exact ⟨q0, q1, qP, va_K.moved (u := U) (U := U.calling g mk a) (Vm.Alike.refl U.vm) qK, qD, nx_K.same (u := U) (U := U.calling g mk a) rfl qN⟩, va_recv hKc hPc (ci := 8) (q0 := 0) rfl rfl, fun U hU hW => ⟨rfl, by rw [hU], by rw [hU]; exact hPc, va_K.moved hW.alike hKc, hDc.weaken (fun _ _ _ _ => trivial), nx_K.warm hW hN⟩⟩ rfl rfl hl.1 rfl (lv_room (Nat.le_of_ble_eq_true rfl)) d_House_solve_28 ⟨Nat.le_of_ble_eq_true rfl, Nat.le_of_ble_eq_true rfl⟩) hS (fun q _ h => hFc q h) hFc (fun u t H1 locs ht hvm hw hB hz1 hk1 hS => ?_)
    obtain ⟨hP1, hK1, hD1⟩ := hB
    rw [ht] at hP1
    have hK1 := va_K.moved hvm.symm hK1
    obtain ⟨hP, hD⟩ := va_join (wr := [(r_left, .inr (2, [.ref x_c])), (x_c, .inl (cL, 9, .inr (.inr (.inr (.inr fc))))), (p0, .inr (6, [.ref dk, .ref y0, .int 0])), (p1, .inr (6, [.ref dk, .ref y1, .int 0])), (p2, .inr (6, [.ref dk, .ref y2, .int 0])), (p3, .inr (6, [.ref dk, .ref y3, .int 0])), (p4, .inr (6, [.ref dk, .ref y4, .int 0])), (p5, .inr (6, [.ref dk, .ref y5, .int 0])), (p6, .inr (6, [.ref dk, .ref y6, .int 0])), (p7, .inr (6, [.ref dk, .ref y7, .int 0])), (p8, .inr (6, [.ref dk, .ref y8, .int 0])), (h0, .inr (11, [.ref x_desk, .ref x_reader, .ref x_cells, .ref x_tape, .int 0, .ref x_script, .int 0, .ref x_rootAt, .ref x_rootTimes, .int 0, .ref x_spotX, .ref x_spotY, .ref x_bond, .int 0, .ref x_end, .ref x_span, .int 0, .ref x_part, .ref x_partPower, .int 0, .ref x_kept])), (x_tape, .inl (cT, 400, .inl fT))]) (w1 := [(x_reader, .inr (8, [.ref x_tape, .int 0, .int 0, .int (-1), .int 1, .int 0, .int 0, .ref r_left, .ref r_right, .ref r_told, .ref r_curve, .int 0, .int 0, .int 0, .int 0, .ref r_steps, .int 0, .ref r_stack, .int 0]))]) hP hD [12] [0, 1, 2, 3, 4, 5, 6, 7, 8, 9, 10, 11, 13] rfl rfl (by decide) (by decide) hk1 hFc hP1 hD1
    have hK := (hK.sub (tys' := [(cL, .object "RealHouse$Poly"), (cT, .int)]) [0, 1] rfl).app hK1
    generalize H1 = H at hP hS ⊢
    have hP : va_P (dC, dI) classes [(r_left, .inr (2, [.ref x_c])), (x_c, .inl (cL, 9, .inr (.inr (.inr (.inr fc))))), (p0, .inr (6, [.ref dk, .ref y0, .int 0])), (p1, .inr (6, [.ref dk, .ref y1, .int 0])), (p2, .inr (6, [.ref dk, .ref y2, .int 0])), (p3, .inr (6, [.ref dk, .ref y3, .int 0])), (p4, .inr (6, [.ref dk, .ref y4, .int 0])), (p5, .inr (6, [.ref dk, .ref y5, .int 0])), (p6, .inr (6, [.ref dk, .ref y6, .int 0])), (p7, .inr (6, [.ref dk, .ref y7, .int 0])), (p8, .inr (6, [.ref dk, .ref y8, .int 0])), (h0, .inr (11, [.ref x_desk, .ref x_reader, .ref x_cells, .ref x_tape, .int 0, .ref x_script, .int 0, .ref x_rootAt, .ref x_rootTimes, .int 0, .ref x_spotX, .ref x_spotY, .ref x_bond, .int 0, .ref x_end, .ref x_span, .int 0, .ref x_part, .ref x_partPower, .int 0, .ref x_kept])), (x_tape, .inl (cT, 400, .inl fT)), (x_reader, .inr (8, [.ref x_tape, .int 0, .int 0, .int (-1), .int 1, .int 0, .int 0, .ref r_left, .ref r_right, .ref r_told, .ref r_curve, .int 0, .int 0, .int 0, .int 0, .ref r_steps, .int 0, .ref r_stack, .int 0]))] H := hP
    have hD : va_D A [(r_left, .inr (2, [.ref x_c])), (x_c, .inl (cL, 9, .inr (.inr (.inr (.inr fc))))), (p0, .inr (6, [.ref dk, .ref y0, .int 0])), (p1, .inr (6, [.ref dk, .ref y1, .int 0])), (p2, .inr (6, [.ref dk, .ref y2, .int 0])), (p3, .inr (6, [.ref dk, .ref y3, .int 0])), (p4, .inr (6, [.ref dk, .ref y4, .int 0])), (p5, .inr (6, [.ref dk, .ref y5, .int 0])), (p6, .inr (6, [.ref dk, .ref y6, .int 0])), (p7, .inr (6, [.ref dk, .ref y7, .int 0])), (p8, .inr (6, [.ref dk, .ref y8, .int 0])), (h0, .inr (11, [.ref x_desk, .ref x_reader, .ref x_cells, .ref x_tape, .int 0, .ref x_script, .int 0, .ref x_rootAt, .ref x_rootTimes, .int 0, .ref x_spotX, .ref x_spotY, .ref x_bond, .int 0, .ref x_end, .ref x_span, .int 0, .ref x_part, .ref x_partPower, .int 0, .ref x_kept])), (x_tape, .inl (cT, 400, .inl fT)), (x_reader, .inr (8, [.ref x_tape, .int 0, .int 0, .int (-1), .int 1, .int 0, .int 0, .ref r_left, .ref r_right, .ref r_told, .ref r_curve, .int 0, .int 0, .int 0, .int 0, .ref r_steps, .int 0, .ref r_stack, .int 0]))] := hD
    have hK : va_K (dC, dI) classes [(cL, .object "RealHouse$Poly"), (cT, .int)] s := hK
    refine lv_aload_n hx hb d_House_solve_31 rfl (lv_at hl 0 rfl) ?_
    refine va_get (D := (dC, dI)) (ci := 11) (v := .ref x_reader) (C := R_House) (T := F_House) (N := 21) hx hb hT i_House hown hK hP 11 rfl rfl 1 (by decide) (hT _ tw_616) (fun _ h9 => h9) rfl d_House_solve_32 ?_
    have hPc := hP.sub (ws' := [(x_reader, .inr (8, [.ref x_tape, .int 0, .int 0, .int (-1), .int 1, .int 0, .int 0, .ref r_left, .ref r_right, .ref r_told, .ref r_curve, .int 0, .int 0, .int 0, .int 0, .ref r_steps, .int 0, .ref r_stack, .int 0])), (r_left, .inr (2, [.ref x_c])), (x_c, .inl (cL, 9, .inr (.inr (.inr (.inr fc))))), (p0, .inr (6, [.ref dk, .ref y0, .int 0])), (p1, .inr (6, [.ref dk, .ref y1, .int 0])), (p2, .inr (6, [.ref dk, .ref y2, .int 0])), (p3, .inr (6, [.ref dk, .ref y3, .int 0])), (p4, .inr (6, [.ref dk, .ref y4, .int 0])), (p5, .inr (6, [.ref dk, .ref y5, .int 0])), (p6, .inr (6, [.ref dk, .ref y6, .int 0])), (p7, .inr (6, [.ref dk, .ref y7, .int 0])), (p8, .inr (6, [.ref dk, .ref y8, .int 0]))]) [13, 0, 1, 2, 3, 4, 5, 6, 7, 8, 9, 10] rfl
    have hDc := hD.sub (ws' := [(x_reader, .inr (8, [.ref x_tape, .int 0, .int 0, .int (-1), .int 1, .int 0, .int 0, .ref r_left, .ref r_right, .ref r_told, .ref r_curve, .int 0, .int 0, .int 0, .int 0, .ref r_steps, .int 0, .ref r_stack, .int 0])), (r_left, .inr (2, [.ref x_c])), (x_c, .inl (cL, 9, .inr (.inr (.inr (.inr fc))))), (p0, .inr (6, [.ref dk, .ref y0, .int 0])), (p1, .inr (6, [.ref dk, .ref y1, .int 0])), (p2, .inr (6, [.ref dk, .ref y2, .int 0])), (p3, .inr (6, [.ref dk, .ref y3, .int 0])), (p4, .inr (6, [.ref dk, .ref y4, .int 0])), (p5, .inr (6, [.ref dk, .ref y5, .int 0])), (p6, .inr (6, [.ref dk, .ref y6, .int 0])), (p7, .inr (6, [.ref dk, .ref y7, .int 0])), (p8, .inr (6, [.ref dk, .ref y8, .int 0]))]) [13, 0, 1, 2, 3, 4, 5, 6, 7, 8, 9, 10] (by decide) rfl
    have hKc := hK.sub (tys' := [(cL, .object "RealHouse$Poly")]) [0] rfl
    have hFc := va_free (wc := [(x_reader, .inr (8, [.ref x_tape, .int 0, .int 0, .int (-1), .int 1, .int 0, .int 0, .ref r_left, .ref r_right, .ref r_told, .ref r_curve, .int 0, .int 0, .int 0, .int 0, .ref r_steps, .int 0, .ref r_stack, .int 0])), (r_left, .inr (2, [.ref x_c])), (x_c, .inl (cL, 9, .inr (.inr (.inr (.inr fc))))), (p0, .inr (6, [.ref dk, .ref y0, .int 0])), (p1, .inr (6, [.ref dk, .ref y1, .int 0])), (p2, .inr (6, [.ref dk, .ref y2, .int 0])), (p3, .inr (6, [.ref dk, .ref y3, .int 0])), (p4, .inr (6, [.ref dk, .ref y4, .int 0])), (p5, .inr (6, [.ref dk, .ref y5, .int 0])), (p6, .inr (6, [.ref dk, .ref y6, .int 0])), (p7, .inr (6, [.ref dk, .ref y7, .int 0])), (p8, .inr (6, [.ref dk, .ref y8, .int 0]))]) hD hS hA [13, 0, 1, 2, 3, 4, 5, 6, 7, 8, 9, 10] rfl
    refine va_callv (va_runV (As := []) (rest := []) ⟨hx, hb, hml, hown, hT⟩ (c_Reader_readFormula_0 l dC dI H.size x_reader x_tape r_left r_right r_told r_curve r_steps r_stack 1 0 x_c cL fc dk p0 p1 p2 p3 p4 p5 p6 p7 p8 y0 y1 y2 y3 y4 y5 y6 y7 y8 hF) (cwV 0 hT (tb_goodV g_Reader_readFormula tw_1395 tw_1396 tw_1397 tw_6) rfl rfl rfl (by decide +kernel) ⟨Nat.le_of_ble_eq_true rfl, Nat.le_of_ble_eq_true rfl⟩) ⟨fun a U g mk q => by obtain ⟨q0, q1, qP, qK, qD, qN⟩ := q; exact ⟨q0, q1, qP, va_K.moved (u := U) (U := U.calling g mk a) (Vm.Alike.refl U.vm) qK, qD, nx_K.same (u := U) (U := U.calling g mk a) rfl qN⟩, va_recv hKc hPc (ci := 8) (q0 := 0) rfl rfl, fun U hU hW => ⟨rfl, by rw [hU], by rw [hU]; exact hPc, va_K.moved hW.alike hKc, hDc.weaken (fun _ _ _ _ => trivial), nx_K.warm hW hN⟩⟩ rfl rfl hl.1 rfl (lv_room (Nat.le_of_ble_eq_true rfl)) d_House_solve_35 ⟨Nat.le_of_ble_eq_true rfl, Nat.le_of_ble_eq_true rfl⟩) hS (fun q _ h => hFc q h) hFc (fun u t H1 locs ht hvm hw hB hz1 hk1 hS => ?_)
    obtain ⟨hP1, hK1, hD1⟩ := hB
    rw [ht] at hP1
    have hK1 := va_K.moved hvm.symm hK1
    obtain ⟨hP, hD⟩ := va_join (wr := [(h0, .inr (11, [.ref x_desk, .ref x_reader, .ref x_cells, .ref x_tape, .int 0, .ref x_script, .int 0, .ref x_rootAt, .ref x_rootTimes, .int 0, .ref x_spotX, .ref x_spotY, .ref x_bond, .int 0, .ref x_end, .ref x_span, .int 0, .ref x_part, .ref x_partPower, .int 0, .ref x_kept])), (x_tape, .inl (cT, 400, .inl fT))]) (w1 := [(x_reader, .inr (8, [.ref x_tape, .int 0, .int 0, .int 0, .int 1, .int 0, .int 0, .ref r_left, .ref r_right, .ref r_told, .ref r_curve, .int 0, .int 0, .int 0, .int 0, .ref r_steps, .int 0, .ref r_stack, .int 0])), (r_left, .inr (2, [.ref x_c])), (x_c, .inl (cL, 9, .inr (.inr (.inr (.inr fc))))), (p0, .inr (6, [.ref dk, .ref y0, .int 0])), (p1, .inr (6, [.ref dk, .ref y1, .int 0])), (p2, .inr (6, [.ref dk, .ref y2, .int 0])), (p3, .inr (6, [.ref dk, .ref y3, .int 0])), (p4, .inr (6, [.ref dk, .ref y4, .int 0])), (p5, .inr (6, [.ref dk, .ref y5, .int 0])), (p6, .inr (6, [.ref dk, .ref y6, .int 0])), (p7, .inr (6, [.ref dk, .ref y7, .int 0])), (p8, .inr (6, [.ref dk, .ref y8, .int 0]))]) hP hD [13, 0, 1, 2, 3, 4, 5, 6, 7, 8, 9, 10] [11, 12] rfl rfl (by decide) (by decide) hk1 hFc hP1 hD1
    have hK := (hK.sub (tys' := [(cT, .int)]) [1] rfl).app hK1
    generalize H1 = H at hP hS ⊢
    have hP : va_P (dC, dI) classes [(h0, .inr (11, [.ref x_desk, .ref x_reader, .ref x_cells, .ref x_tape, .int 0, .ref x_script, .int 0, .ref x_rootAt, .ref x_rootTimes, .int 0, .ref x_spotX, .ref x_spotY, .ref x_bond, .int 0, .ref x_end, .ref x_span, .int 0, .ref x_part, .ref x_partPower, .int 0, .ref x_kept])), (x_tape, .inl (cT, 400, .inl fT)), (x_reader, .inr (8, [.ref x_tape, .int 0, .int 0, .int 0, .int 1, .int 0, .int 0, .ref r_left, .ref r_right, .ref r_told, .ref r_curve, .int 0, .int 0, .int 0, .int 0, .ref r_steps, .int 0, .ref r_stack, .int 0])), (r_left, .inr (2, [.ref x_c])), (x_c, .inl (cL, 9, .inr (.inr (.inr (.inr fc))))), (p0, .inr (6, [.ref dk, .ref y0, .int 0])), (p1, .inr (6, [.ref dk, .ref y1, .int 0])), (p2, .inr (6, [.ref dk, .ref y2, .int 0])), (p3, .inr (6, [.ref dk, .ref y3, .int 0])), (p4, .inr (6, [.ref dk, .ref y4, .int 0])), (p5, .inr (6, [.ref dk, .ref y5, .int 0])), (p6, .inr (6, [.ref dk, .ref y6, .int 0])), (p7, .inr (6, [.ref dk, .ref y7, .int 0])), (p8, .inr (6, [.ref dk, .ref y8, .int 0]))] H := hP
    have hD : va_D A [(h0, .inr (11, [.ref x_desk, .ref x_reader, .ref x_cells, .ref x_tape, .int 0, .ref x_script, .int 0, .ref x_rootAt, .ref x_rootTimes, .int 0, .ref x_spotX, .ref x_spotY, .ref x_bond, .int 0, .ref x_end, .ref x_span, .int 0, .ref x_part, .ref x_partPower, .int 0, .ref x_kept])), (x_tape, .inl (cT, 400, .inl fT)), (x_reader, .inr (8, [.ref x_tape, .int 0, .int 0, .int 0, .int 1, .int 0, .int 0, .ref r_left, .ref r_right, .ref r_told, .ref r_curve, .int 0, .int 0, .int 0, .int 0, .ref r_steps, .int 0, .ref r_stack, .int 0])), (r_left, .inr (2, [.ref x_c])), (x_c, .inl (cL, 9, .inr (.inr (.inr (.inr fc))))), (p0, .inr (6, [.ref dk, .ref y0, .int 0])), (p1, .inr (6, [.ref dk, .ref y1, .int 0])), (p2, .inr (6, [.ref dk, .ref y2, .int 0])), (p3, .inr (6, [.ref dk, .ref y3, .int 0])), (p4, .inr (6, [.ref dk, .ref y4, .int 0])), (p5, .inr (6, [.ref dk, .ref y5, .int 0])), (p6, .inr (6, [.ref dk, .ref y6, .int 0])), (p7, .inr (6, [.ref dk, .ref y7, .int 0])), (p8, .inr (6, [.ref dk, .ref y8, .int 0]))] := hD
    have hK : va_K (dC, dI) classes [(cT, .int), (cL, .object "RealHouse$Poly")] s := hK
    refine lv_aload_n hx hb d_House_solve_38 rfl (lv_at hl 0 rfl) ?_
    refine va_get (D := (dC, dI)) (ci := 11) (v := .ref x_reader) (C := R_House) (T := F_House) (N := 21) hx hb hT i_House hown hK hP 0 rfl rfl 1 (by decide) (hT _ tw_616) (fun _ h9 => h9) rfl d_House_solve_39 ?_
    refine va_get (D := (dC, dI)) (ci := 8) (v := .int 0) (C := R_Reader) (T := F_Reader) (N := 19) hx hb hT i_Reader hown hK hP 2 rfl rfl 3 (by decide) (hT _ tw_237) (fun _ h9 => h9) rfl d_House_solve_42 ?_
    refine lv_if_lt (tgt := 53) hx hb d_House_solve_45 (by decide) (fun c_3 => absurd c_3 (by decide)) (fun c_3 => ?_)
    refine lv_aload_n hx hb d_House_solve_48 rfl (lv_at hl 0 rfl) ?_
    have hPc := hP.sub (ws' := [(h0, .inr (11, [.ref x_desk, .ref x_reader, .ref x_cells, .ref x_tape, .int 0, .ref x_script, .int 0, .ref x_rootAt, .ref x_rootTimes, .int 0, .ref x_spotX, .ref x_spotY, .ref x_bond, .int 0, .ref x_end, .ref x_span, .int 0, .ref x_part, .ref x_partPower, .int 0, .ref x_kept])), (x_reader, .inr (8, [.ref x_tape, .int 0, .int 0, .int 0, .int 1, .int 0, .int 0, .ref r_left, .ref r_right, .ref r_told, .ref r_curve, .int 0, .int 0, .int 0, .int 0, .ref r_steps, .int 0, .ref r_stack, .int 0]))]) [0, 2] rfl
    have hDc := hD.sub (ws' := [(h0, .inr (11, [.ref x_desk, .ref x_reader, .ref x_cells, .ref x_tape, .int 0, .ref x_script, .int 0, .ref x_rootAt, .ref x_rootTimes, .int 0, .ref x_spotX, .ref x_spotY, .ref x_bond, .int 0, .ref x_end, .ref x_span, .int 0, .ref x_part, .ref x_partPower, .int 0, .ref x_kept])), (x_reader, .inr (8, [.ref x_tape, .int 0, .int 0, .int 0, .int 1, .int 0, .int 0, .ref r_left, .ref r_right, .ref r_told, .ref r_curve, .int 0, .int 0, .int 0, .int 0, .ref r_steps, .int 0, .ref r_stack, .int 0]))]) [0, 2] (by decide) rfl
    have hKc := hK.sub (tys' := []) [] rfl
    have hFc := va_free (wc := [(h0, .inr (11, [.ref x_desk, .ref x_reader, .ref x_cells, .ref x_tape, .int 0, .ref x_script, .int 0, .ref x_rootAt, .ref x_rootTimes, .int 0, .ref x_spotX, .ref x_spotY, .ref x_bond, .int 0, .ref x_end, .ref x_span, .int 0, .ref x_part, .ref x_partPower, .int 0, .ref x_kept])), (x_reader, .inr (8, [.ref x_tape, .int 0, .int 0, .int 0, .int 1, .int 0, .int 0, .ref r_left, .ref r_right, .ref r_told, .ref r_curve, .int 0, .int 0, .int 0, .int 0, .ref r_steps, .int 0, .ref r_stack, .int 0]))]) hD hS hA [0, 2] rfl
    refine va_calli (va_runV (As := []) (rest := []) ⟨hx, hb, hml, hown, hT⟩ (c_House_faulty_0 l dC dI H.size h0 x_desk x_reader x_cells x_tape x_script x_rootAt x_rootTimes x_spotX x_spotY x_bond x_end x_span x_part x_partPower x_kept r_left r_right r_told r_curve r_steps r_stack x_tape 1 0 ) (cwV 0 hT (tb_goodV g_House_faulty tw_766 tw_768 (tb_sel (q := (⟨"RealHouse", "faulty", "()I"⟩, 21)) (i := 9) (by decide +kernel)) tw_1) rfl rfl rfl (by decide +kernel) ⟨Nat.le_of_ble_eq_true rfl, Nat.le_of_ble_eq_true rfl⟩) ⟨fun a U g mk q => by obtain ⟨q0, q1, qP, qK, qD, qN⟩ := q; exact ⟨q0, q1, qP, va_K.moved (u := U) (U := U.calling g mk a) (Vm.Alike.refl U.vm) qK, qD, nx_K.same (u := U) (U := U.calling g mk a) rfl qN⟩, va_recv hKc hPc (ci := 11) (q0 := 0) rfl rfl, fun U hU hW => ⟨rfl, by rw [hU], by rw [hU]; exact hPc, va_K.moved hW.alike hKc, hDc.weaken (fun _ _ _ _ => trivial), nx_K.warm hW hN⟩⟩ rfl rfl hl.1 rfl (lv_room (Nat.le_of_ble_eq_true rfl)) d_House_solve_49 ⟨Nat.le_of_ble_eq_true rfl, Nat.le_of_ble_eq_true rfl⟩) hS (fun q _ h => hFc q h) hFc (fun r_4 u t H1 locs ht hvm hw hB hz1 hk1 hS => ?_)
    obtain ⟨hP1, hK1, hD1⟩ := hB
    rw [ht] at hP1
    have hK1 := va_K.moved hvm.symm hK1
    obtain rfl : r_4 = (-2) := hw
    obtain ⟨hP, hD⟩ := va_join (wr := [(x_tape, .inl (cT, 400, .inl fT)), (r_left, .inr (2, [.ref x_c])), (x_c, .inl (cL, 9, .inr (.inr (.inr (.inr fc))))), (p0, .inr (6, [.ref dk, .ref y0, .int 0])), (p1, .inr (6, [.ref dk, .ref y1, .int 0])), (p2, .inr (6, [.ref dk, .ref y2, .int 0])), (p3, .inr (6, [.ref dk, .ref y3, .int 0])), (p4, .inr (6, [.ref dk, .ref y4, .int 0])), (p5, .inr (6, [.ref dk, .ref y5, .int 0])), (p6, .inr (6, [.ref dk, .ref y6, .int 0])), (p7, .inr (6, [.ref dk, .ref y7, .int 0])), (p8, .inr (6, [.ref dk, .ref y8, .int 0]))]) (w1 := [(h0, .inr (11, [.ref x_desk, .ref x_reader, .ref x_cells, .ref x_tape, .int 0, .ref x_script, .int 0, .ref x_rootAt, .ref x_rootTimes, .int 0, .ref x_spotX, .ref x_spotY, .ref x_bond, .int 0, .ref x_end, .ref x_span, .int 0, .ref x_part, .ref x_partPower, .int 0, .ref x_kept])), (x_reader, .inr (8, [.ref x_tape, .int 0, .int 0, .int 0, .int 1, .int 0, .int 0, .ref r_left, .ref r_right, .ref r_told, .ref r_curve, .int 0, .int 0, .int 0, .int 0, .ref r_steps, .int 0, .ref r_stack, .int 0]))]) hP hD [0, 2] [1, 3, 4, 5, 6, 7, 8, 9, 10, 11, 12, 13] rfl rfl (by decide) (by decide) hk1 hFc hP1 hD1
    have hK := (hK.sub (tys' := [(cT, .int), (cL, .object "RealHouse$Poly")]) [0, 1] rfl).app hK1
    generalize H1 = H at hP hS ⊢
    have hP : va_P (dC, dI) classes [(x_tape, .inl (cT, 400, .inl fT)), (r_left, .inr (2, [.ref x_c])), (x_c, .inl (cL, 9, .inr (.inr (.inr (.inr fc))))), (p0, .inr (6, [.ref dk, .ref y0, .int 0])), (p1, .inr (6, [.ref dk, .ref y1, .int 0])), (p2, .inr (6, [.ref dk, .ref y2, .int 0])), (p3, .inr (6, [.ref dk, .ref y3, .int 0])), (p4, .inr (6, [.ref dk, .ref y4, .int 0])), (p5, .inr (6, [.ref dk, .ref y5, .int 0])), (p6, .inr (6, [.ref dk, .ref y6, .int 0])), (p7, .inr (6, [.ref dk, .ref y7, .int 0])), (p8, .inr (6, [.ref dk, .ref y8, .int 0])), (h0, .inr (11, [.ref x_desk, .ref x_reader, .ref x_cells, .ref x_tape, .int 0, .ref x_script, .int 0, .ref x_rootAt, .ref x_rootTimes, .int 0, .ref x_spotX, .ref x_spotY, .ref x_bond, .int 0, .ref x_end, .ref x_span, .int 0, .ref x_part, .ref x_partPower, .int 0, .ref x_kept])), (x_reader, .inr (8, [.ref x_tape, .int 0, .int 0, .int 0, .int 1, .int 0, .int 0, .ref r_left, .ref r_right, .ref r_told, .ref r_curve, .int 0, .int 0, .int 0, .int 0, .ref r_steps, .int 0, .ref r_stack, .int 0]))] H := hP
    have hD : va_D A [(x_tape, .inl (cT, 400, .inl fT)), (r_left, .inr (2, [.ref x_c])), (x_c, .inl (cL, 9, .inr (.inr (.inr (.inr fc))))), (p0, .inr (6, [.ref dk, .ref y0, .int 0])), (p1, .inr (6, [.ref dk, .ref y1, .int 0])), (p2, .inr (6, [.ref dk, .ref y2, .int 0])), (p3, .inr (6, [.ref dk, .ref y3, .int 0])), (p4, .inr (6, [.ref dk, .ref y4, .int 0])), (p5, .inr (6, [.ref dk, .ref y5, .int 0])), (p6, .inr (6, [.ref dk, .ref y6, .int 0])), (p7, .inr (6, [.ref dk, .ref y7, .int 0])), (p8, .inr (6, [.ref dk, .ref y8, .int 0])), (h0, .inr (11, [.ref x_desk, .ref x_reader, .ref x_cells, .ref x_tape, .int 0, .ref x_script, .int 0, .ref x_rootAt, .ref x_rootTimes, .int 0, .ref x_spotX, .ref x_spotY, .ref x_bond, .int 0, .ref x_end, .ref x_span, .int 0, .ref x_part, .ref x_partPower, .int 0, .ref x_kept])), (x_reader, .inr (8, [.ref x_tape, .int 0, .int 0, .int 0, .int 1, .int 0, .int 0, .ref r_left, .ref r_right, .ref r_told, .ref r_curve, .int 0, .int 0, .int 0, .int 0, .ref r_steps, .int 0, .ref r_stack, .int 0]))] := hD
    have hK : va_K (dC, dI) classes [(cT, .int), (cL, .object "RealHouse$Poly")] s := hK
    have hP9 := hP.sub (ws' := []) [] rfl
    have hD9 := hD.sub (ws' := []) [] (by decide) rfl
    have hK9 := hK.sub (tys' := []) [] rfl
    exact W.iret (v := (-2)) hx hb hr (fun t ht hW => ⟨⟨(-2), (), rfl, rfl, by rw [ht]; exact hP9, va_K.moved hW.alike hK9, hD9⟩, hS.F ht⟩) hS.2.2 d_House_solve_52
  · have hn0 : ¬ n = 0 := fun h => c_2 (by rw [hr_1, if_pos h])
    refine lv_iconst (v := (-1)) hx hb d_House_solve_8 (by decide) ?_
    have hP9 := hP.sub (ws' := []) [] rfl
    have hD9 := hD.sub (ws' := []) [] (by decide) rfl
    have hK9 := hK.sub (tys' := []) [] rfl
    exact W.iret (v := (-1)) hx hb hr (fun t ht hW => ⟨⟨(-1), (), rfl, (if_neg hn0).symm, by rw [ht]; exact hP9, va_K.moved hW.alike hK9, hD9⟩, hS.F ht⟩) hS.2.2 d_House_solve_9
