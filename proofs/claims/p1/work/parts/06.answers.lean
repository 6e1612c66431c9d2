theorem tw_1635 : (.fieldLink "RealHouseModel" 534 "RealHouseModel" "rootsMany" "I" : Cond) ∈ lw_g := tb_at (i := 1635) (by decide +kernel) rfl
theorem tw_1639 : (.fieldLink "RealHouseModel" 566 "RealHouseModel" "pointsMany" "I" : Cond) ∈ lw_g := tb_at (i := 1639) (by decide +kernel) rfl
theorem tw_1664 : (.fieldLink "RealHouseModel" 680 "RealHouseModel" "piecesMany" "I" : Cond) ∈ lw_g := tb_at (i := 1664) (by decide +kernel) rfl
theorem tw_1677 : (.fieldLink "RealHouseModel" 761 "RealHouseModel" "factorsMany" "I" : Cond) ∈ lw_g := tb_at (i := 1677) (by decide +kernel) rfl
theorem tw_2575 : (.methodLink "RealHouseModel" 799 ⟨"RealHouseModel", "isNumberKept", "(I)Z"⟩ : Cond) ∈ lw_g := tb_at (i := 2575) (by decide +kernel) rfl
theorem tw_2577 : (.instanceMethod ⟨"RealHouseModel", "isNumberKept", "(I)Z"⟩ : Cond) ∈ lw_g := tb_at (i := 2577) (by decide +kernel) rfl
theorem tw_1625 : (.fieldLink "RealHouseModel" 388 "RealHouseModel" "outMany" "I" : Cond) ∈ lw_g := tb_at (i := 1625) (by decide +kernel) rfl
theorem tw_1875 : (.methodLink "RealHouseModel" 471 ⟨"RealHouseModel", "mayRead", "(I)Z"⟩ : Cond) ∈ lw_g := tb_at (i := 1875) (by decide +kernel) rfl
theorem tw_1877 : (.instanceMethod ⟨"RealHouseModel", "mayRead", "(I)Z"⟩ : Cond) ∈ lw_g := tb_at (i := 1877) (by decide +kernel) rfl
theorem tw_2149 : (.methodLink "RealHouseModel" 513 ⟨"RealHouseModel", "readX", "(I)I"⟩ : Cond) ∈ lw_g := tb_at (i := 2149) (by decide +kernel) rfl
theorem tw_2151 : (.instanceMethod ⟨"RealHouseModel", "readX", "(I)I"⟩ : Cond) ∈ lw_g := tb_at (i := 2151) (by decide +kernel) rfl
abbrev b_Model_times : ByteArray := prog_14_method_113_code
def y_Model_times : MethodName := ⟨"RealHouseModel", "times", "(I)I"⟩
abbrev w_Model_times : List Cond := .code y_Model_times b_Model_times 4 (some .int) :: lw_g
theorem g_Model_times : GoodIn lw_g w_Model_times := tb_good1 (tb_at (i := 2188) (by decide +kernel) rfl)
theorem d_Model_times_0 : decode b_Model_times 0 = .ok (.iload_n 1, 1) := by decide +kernel
theorem d_Model_times_1 : decode b_Model_times 1 = .ok (.ifCond .lt 11, 3) := by decide +kernel
theorem d_Model_times_4 : decode b_Model_times 4 = .ok (.iload_n 1, 1) := by decide +kernel
theorem d_Model_times_5 : decode b_Model_times 5 = .ok (.aload_n 0, 1) := by decide +kernel
theorem d_Model_times_6 : decode b_Model_times 6 = .ok (.getfield 534, 3) := by decide +kernel
theorem d_Model_times_9 : decode b_Model_times 9 = .ok (.if_icmp .lt 5, 3) := by decide +kernel
theorem d_Model_times_12 : decode b_Model_times 12 = .ok (.iconst (-1), 1) := by decide +kernel
theorem d_Model_times_13 : decode b_Model_times 13 = .ok (.ireturn, 1) := by decide +kernel
theorem d_Model_times_14 : decode b_Model_times 14 = .ok (.aload_n 0, 1) := by decide +kernel
theorem d_Model_times_15 : decode b_Model_times 15 = .ok (.ldc 14, 2) := by decide +kernel
theorem d_Model_times_17 : decode b_Model_times 17 = .ok (.putfield 15, 3) := by decide +kernel
theorem d_Model_times_20 : decode b_Model_times 20 = .ok (.aload_n 0, 1) := by decide +kernel
theorem d_Model_times_21 : decode b_Model_times 21 = .ok (.iload_n 1, 1) := by decide +kernel
theorem d_Model_times_22 : decode b_Model_times 22 = .ok (.invokevirtual 541, 3) := by decide +kernel
theorem d_Model_times_25 : decode b_Model_times 25 = .ok (.aload_n 0, 1) := by decide +kernel
theorem d_Model_times_26 : decode b_Model_times 26 = .ok (.getfield 525, 3) := by decide +kernel
theorem d_Model_times_29 : decode b_Model_times 29 = .ok (.istore_n 2, 1) := by decide +kernel
theorem d_Model_times_30 : decode b_Model_times 30 = .ok (.iconst 0, 1) := by decide +kernel
theorem d_Model_times_31 : decode b_Model_times 31 = .ok (.istore_n 3, 1) := by decide +kernel
theorem d_Model_times_32 : decode b_Model_times 32 = .ok (.aload_n 0, 1) := by decide +kernel
theorem d_Model_times_33 : decode b_Model_times 33 = .ok (.iload_n 2, 1) := by decide +kernel
theorem d_Model_times_34 : decode b_Model_times 34 = .ok (.invokevirtual 316, 3) := by decide +kernel
theorem d_Model_times_37 : decode b_Model_times 37 = .ok (.ifCond .ne 15, 3) := by decide +kernel
theorem d_Model_times_40 : decode b_Model_times 40 = .ok (.aload_n 0, 1) := by decide +kernel
theorem d_Model_times_41 : decode b_Model_times 41 = .ok (.iload_n 2, 1) := by decide +kernel
theorem d_Model_times_42 : decode b_Model_times 42 = .ok (.invokevirtual 251, 3) := by decide +kernel
theorem d_Model_times_45 : decode b_Model_times 45 = .ok (.istore_n 2, 1) := by decide +kernel
theorem d_Model_times_46 : decode b_Model_times 46 = .ok (.iinc 3 1, 3) := by decide +kernel
theorem d_Model_times_49 : decode b_Model_times 49 = .ok (.goto (-17), 3) := by decide +kernel
theorem d_Model_times_52 : decode b_Model_times 52 = .ok (.iload_n 3, 1) := by decide +kernel
theorem d_Model_times_53 : decode b_Model_times 53 = .ok (.ireturn, 1) := by decide +kernel
abbrev b_Model_root : ByteArray := prog_14_method_117_code
def y_Model_root : MethodName := ⟨"RealHouseModel", "root", "(II)I"⟩
abbrev w_Model_root : List Cond := .code y_Model_root b_Model_root 3 (some .int) :: lw_g
theorem g_Model_root : GoodIn lw_g w_Model_root := tb_good1 (tb_at (i := 2234) (by decide +kernel) rfl)
theorem d_Model_root_0 : decode b_Model_root 0 = .ok (.iload_n 1, 1) := by decide +kernel
theorem d_Model_root_1 : decode b_Model_root 1 = .ok (.ifCond .lt 22, 3) := by decide +kernel
theorem d_Model_root_4 : decode b_Model_root 4 = .ok (.iload_n 1, 1) := by decide +kernel
theorem d_Model_root_5 : decode b_Model_root 5 = .ok (.aload_n 0, 1) := by decide +kernel
theorem d_Model_root_6 : decode b_Model_root 6 = .ok (.getfield 534, 3) := by decide +kernel
theorem d_Model_root_9 : decode b_Model_root 9 = .ok (.if_icmp .ge 14, 3) := by decide +kernel
theorem d_Model_root_12 : decode b_Model_root 12 = .ok (.iload_n 2, 1) := by decide +kernel
theorem d_Model_root_13 : decode b_Model_root 13 = .ok (.ifCond .lt 10, 3) := by decide +kernel
theorem d_Model_root_16 : decode b_Model_root 16 = .ok (.iload_n 2, 1) := by decide +kernel
theorem d_Model_root_17 : decode b_Model_root 17 = .ok (.sipush 200, 3) := by decide +kernel
theorem d_Model_root_20 : decode b_Model_root 20 = .ok (.if_icmp .le 5, 3) := by decide +kernel
theorem d_Model_root_23 : decode b_Model_root 23 = .ok (.iconst (-1), 1) := by decide +kernel
theorem d_Model_root_24 : decode b_Model_root 24 = .ok (.ireturn, 1) := by decide +kernel
theorem d_Model_root_25 : decode b_Model_root 25 = .ok (.aload_n 0, 1) := by decide +kernel
theorem d_Model_root_26 : decode b_Model_root 26 = .ok (.ldc 14, 2) := by decide +kernel
theorem d_Model_root_28 : decode b_Model_root 28 = .ok (.putfield 15, 3) := by decide +kernel
theorem d_Model_root_31 : decode b_Model_root 31 = .ok (.aload_n 0, 1) := by decide +kernel
theorem d_Model_root_32 : decode b_Model_root 32 = .ok (.iload_n 1, 1) := by decide +kernel
theorem d_Model_root_33 : decode b_Model_root 33 = .ok (.invokevirtual 541, 3) := by decide +kernel
theorem d_Model_root_36 : decode b_Model_root 36 = .ok (.aload_n 0, 1) := by decide +kernel
theorem d_Model_root_37 : decode b_Model_root 37 = .ok (.iload_n 2, 1) := by decide +kernel
theorem d_Model_root_38 : decode b_Model_root 38 = .ok (.invokevirtual 550, 3) := by decide +kernel
theorem d_Model_root_41 : decode b_Model_root 41 = .ok (.ireturn, 1) := by decide +kernel
abbrev b_Model_signAt : ByteArray := prog_14_method_118_code
def y_Model_signAt : MethodName := ⟨"RealHouseModel", "signAt", "(II)I"⟩
abbrev w_Model_signAt : List Cond := .code y_Model_signAt b_Model_signAt 4 (some .int) :: lw_g
theorem g_Model_signAt : GoodIn lw_g w_Model_signAt := tb_good1 (tb_at (i := 2250) (by decide +kernel) rfl)
theorem d_Model_signAt_0 : decode b_Model_signAt 0 = .ok (.iload_n 1, 1) := by decide +kernel
theorem d_Model_signAt_1 : decode b_Model_signAt 1 = .ok (.ifCond .lt 19, 3) := by decide +kernel
theorem d_Model_signAt_4 : decode b_Model_signAt 4 = .ok (.iload_n 1, 1) := by decide +kernel
theorem d_Model_signAt_5 : decode b_Model_signAt 5 = .ok (.aload_n 0, 1) := by decide +kernel
theorem d_Model_signAt_6 : decode b_Model_signAt 6 = .ok (.getfield 534, 3) := by decide +kernel
theorem d_Model_signAt_9 : decode b_Model_signAt 9 = .ok (.if_icmp .ge 11, 3) := by decide +kernel
theorem d_Model_signAt_12 : decode b_Model_signAt 12 = .ok (.aload_n 0, 1) := by decide +kernel
theorem d_Model_signAt_13 : decode b_Model_signAt 13 = .ok (.iload_n 2, 1) := by decide +kernel
theorem d_Model_signAt_14 : decode b_Model_signAt 14 = .ok (.invokevirtual 471, 3) := by decide +kernel
theorem d_Model_signAt_17 : decode b_Model_signAt 17 = .ok (.ifCond .ne 5, 3) := by decide +kernel
theorem d_Model_signAt_20 : decode b_Model_signAt 20 = .ok (.iconst (-1), 1) := by decide +kernel
theorem d_Model_signAt_21 : decode b_Model_signAt 21 = .ok (.ireturn, 1) := by decide +kernel
theorem d_Model_signAt_22 : decode b_Model_signAt 22 = .ok (.aload_n 0, 1) := by decide +kernel
theorem d_Model_signAt_23 : decode b_Model_signAt 23 = .ok (.iload_n 2, 1) := by decide +kernel
theorem d_Model_signAt_24 : decode b_Model_signAt 24 = .ok (.invokevirtual 513, 3) := by decide +kernel
theorem d_Model_signAt_27 : decode b_Model_signAt 27 = .ok (.istore_n 3, 1) := by decide +kernel
theorem d_Model_signAt_28 : decode b_Model_signAt 28 = .ok (.iload_n 3, 1) := by decide +kernel
theorem d_Model_signAt_29 : decode b_Model_signAt 29 = .ok (.ifCond .ge 5, 3) := by decide +kernel
theorem d_Model_signAt_32 : decode b_Model_signAt 32 = .ok (.iload_n 3, 1) := by decide +kernel
theorem d_Model_signAt_33 : decode b_Model_signAt 33 = .ok (.ireturn, 1) := by decide +kernel
theorem d_Model_signAt_34 : decode b_Model_signAt 34 = .ok (.aload_n 0, 1) := by decide +kernel
theorem d_Model_signAt_35 : decode b_Model_signAt 35 = .ok (.iconst 0, 1) := by decide +kernel
theorem d_Model_signAt_36 : decode b_Model_signAt 36 = .ok (.putfield 385, 3) := by decide +kernel
theorem d_Model_signAt_39 : decode b_Model_signAt 39 = .ok (.aload_n 0, 1) := by decide +kernel
theorem d_Model_signAt_40 : decode b_Model_signAt 40 = .ok (.iload_n 1, 1) := by decide +kernel
theorem d_Model_signAt_41 : decode b_Model_signAt 41 = .ok (.invokevirtual 541, 3) := by decide +kernel
theorem d_Model_signAt_44 : decode b_Model_signAt 44 = .ok (.iconst 1, 1) := by decide +kernel
theorem d_Model_signAt_45 : decode b_Model_signAt 45 = .ok (.aload_n 0, 1) := by decide +kernel
theorem d_Model_signAt_46 : decode b_Model_signAt 46 = .ok (.aload_n 0, 1) := by decide +kernel
theorem d_Model_signAt_47 : decode b_Model_signAt 47 = .ok (.iconst 0, 1) := by decide +kernel
theorem d_Model_signAt_48 : decode b_Model_signAt 48 = .ok (.invokevirtual 501, 3) := by decide +kernel
theorem d_Model_signAt_51 : decode b_Model_signAt 51 = .ok (.invokevirtual 316, 3) := by decide +kernel
theorem d_Model_signAt_54 : decode b_Model_signAt 54 = .ok (.iadd, 1) := by decide +kernel
theorem d_Model_signAt_55 : decode b_Model_signAt 55 = .ok (.ireturn, 1) := by decide +kernel
abbrev b_Model_below : ByteArray := prog_14_method_119_code
def y_Model_below : MethodName := ⟨"RealHouseModel", "below", "(II)I"⟩
abbrev w_Model_below : List Cond := .code y_Model_below b_Model_below 10 (some .int) :: lw_g
theorem g_Model_below : GoodIn lw_g w_Model_below := tb_good1 (tb_at (i := 2254) (by decide +kernel) rfl)
theorem d_Model_below_0 : decode b_Model_below 0 = .ok (.iload_n 1, 1) := by decide +kernel
theorem d_Model_below_1 : decode b_Model_below 1 = .ok (.ifCond .lt 19, 3) := by decide +kernel
theorem d_Model_below_4 : decode b_Model_below 4 = .ok (.iload_n 1, 1) := by decide +kernel
theorem d_Model_below_5 : decode b_Model_below 5 = .ok (.aload_n 0, 1) := by decide +kernel
theorem d_Model_below_6 : decode b_Model_below 6 = .ok (.getfield 534, 3) := by decide +kernel
theorem d_Model_below_9 : decode b_Model_below 9 = .ok (.if_icmp .ge 11, 3) := by decide +kernel
theorem d_Model_below_12 : decode b_Model_below 12 = .ok (.aload_n 0, 1) := by decide +kernel
theorem d_Model_below_13 : decode b_Model_below 13 = .ok (.iload_n 2, 1) := by decide +kernel
theorem d_Model_below_14 : decode b_Model_below 14 = .ok (.invokevirtual 471, 3) := by decide +kernel
theorem d_Model_below_17 : decode b_Model_below 17 = .ok (.ifCond .ne 5, 3) := by decide +kernel
theorem d_Model_below_20 : decode b_Model_below 20 = .ok (.iconst (-1), 1) := by decide +kernel
theorem d_Model_below_21 : decode b_Model_below 21 = .ok (.ireturn, 1) := by decide +kernel
theorem d_Model_below_22 : decode b_Model_below 22 = .ok (.aload_n 0, 1) := by decide +kernel
theorem d_Model_below_23 : decode b_Model_below 23 = .ok (.iload_n 2, 1) := by decide +kernel
theorem d_Model_below_24 : decode b_Model_below 24 = .ok (.invokevirtual 513, 3) := by decide +kernel
theorem d_Model_below_27 : decode b_Model_below 27 = .ok (.istore_n 3, 1) := by decide +kernel
theorem d_Model_below_28 : decode b_Model_below 28 = .ok (.iload_n 3, 1) := by decide +kernel
theorem d_Model_below_29 : decode b_Model_below 29 = .ok (.ifCond .ge 5, 3) := by decide +kernel
theorem d_Model_below_32 : decode b_Model_below 32 = .ok (.iload_n 3, 1) := by decide +kernel
theorem d_Model_below_33 : decode b_Model_below 33 = .ok (.ireturn, 1) := by decide +kernel
theorem d_Model_below_34 : decode b_Model_below 34 = .ok (.aload_n 0, 1) := by decide +kernel
theorem d_Model_below_35 : decode b_Model_below 35 = .ok (.iconst 0, 1) := by decide +kernel
theorem d_Model_below_36 : decode b_Model_below 36 = .ok (.invokevirtual 501, 3) := by decide +kernel
theorem d_Model_below_39 : decode b_Model_below 39 = .ok (.istore 4, 2) := by decide +kernel
theorem d_Model_below_41 : decode b_Model_below 41 = .ok (.aload_n 0, 1) := by decide +kernel
theorem d_Model_below_42 : decode b_Model_below 42 = .ok (.iload 4, 2) := by decide +kernel
theorem d_Model_below_44 : decode b_Model_below 44 = .ok (.invokevirtual 176, 3) := by decide +kernel
theorem d_Model_below_47 : decode b_Model_below 47 = .ok (.ifCond .ne 5, 3) := by decide +kernel
theorem d_Model_below_50 : decode b_Model_below 50 = .ok (.iconst (-1), 1) := by decide +kernel
theorem d_Model_below_51 : decode b_Model_below 51 = .ok (.ireturn, 1) := by decide +kernel
theorem d_Model_below_52 : decode b_Model_below 52 = .ok (.aload_n 0, 1) := by decide +kernel
theorem d_Model_below_53 : decode b_Model_below 53 = .ok (.iconst 0, 1) := by decide +kernel
theorem d_Model_below_54 : decode b_Model_below 54 = .ok (.putfield 385, 3) := by decide +kernel
theorem d_Model_below_57 : decode b_Model_below 57 = .ok (.aload_n 0, 1) := by decide +kernel
theorem d_Model_below_58 : decode b_Model_below 58 = .ok (.iload 4, 2) := by decide +kernel
theorem d_Model_below_60 : decode b_Model_below 60 = .ok (.invokevirtual 516, 3) := by decide +kernel
theorem d_Model_below_63 : decode b_Model_below 63 = .ok (.istore 5, 2) := by decide +kernel
theorem d_Model_below_65 : decode b_Model_below 65 = .ok (.aload_n 0, 1) := by decide +kernel
theorem d_Model_below_66 : decode b_Model_below 66 = .ok (.iload 5, 2) := by decide +kernel
theorem d_Model_below_68 : decode b_Model_below 68 = .ok (.invokevirtual 519, 3) := by decide +kernel
theorem d_Model_below_71 : decode b_Model_below 71 = .ok (.istore 6, 2) := by decide +kernel
theorem d_Model_below_73 : decode b_Model_below 73 = .ok (.iconst 0, 1) := by decide +kernel
theorem d_Model_below_74 : decode b_Model_below 74 = .ok (.istore 7, 2) := by decide +kernel
theorem d_Model_below_76 : decode b_Model_below 76 = .ok (.iconst 0, 1) := by decide +kernel
theorem d_Model_below_77 : decode b_Model_below 77 = .ok (.istore 8, 2) := by decide +kernel
theorem d_Model_below_79 : decode b_Model_below 79 = .ok (.iload 8, 2) := by decide +kernel
theorem d_Model_below_81 : decode b_Model_below 81 = .ok (.aload_n 0, 1) := by decide +kernel
theorem d_Model_below_82 : decode b_Model_below 82 = .ok (.iload 6, 2) := by decide +kernel
theorem d_Model_below_84 : decode b_Model_below 84 = .ok (.invokevirtual 176, 3) := by decide +kernel
theorem d_Model_below_87 : decode b_Model_below 87 = .ok (.if_icmp .ge 46, 3) := by decide +kernel
theorem d_Model_below_90 : decode b_Model_below 90 = .ok (.aload_n 0, 1) := by decide +kernel
theorem d_Model_below_91 : decode b_Model_below 91 = .ok (.iload 6, 2) := by decide +kernel
theorem d_Model_below_93 : decode b_Model_below 93 = .ok (.iload 8, 2) := by decide +kernel
theorem d_Model_below_95 : decode b_Model_below 95 = .ok (.invokevirtual 182, 3) := by decide +kernel
theorem d_Model_below_98 : decode b_Model_below 98 = .ok (.istore 9, 2) := by decide +kernel
theorem d_Model_below_100 : decode b_Model_below 100 = .ok (.aload_n 0, 1) := by decide +kernel
theorem d_Model_below_101 : decode b_Model_below 101 = .ok (.iload 5, 2) := by decide +kernel
theorem d_Model_below_103 : decode b_Model_below 103 = .ok (.iload 9, 2) := by decide +kernel
theorem d_Model_below_105 : decode b_Model_below 105 = .ok (.aload_n 0, 1) := by decide +kernel
theorem d_Model_below_106 : decode b_Model_below 106 = .ok (.getfield 528, 3) := by decide +kernel
theorem d_Model_below_109 : decode b_Model_below 109 = .ok (.aload_n 0, 1) := by decide +kernel
theorem d_Model_below_110 : decode b_Model_below 110 = .ok (.aload_n 0, 1) := by decide +kernel
theorem d_Model_below_111 : decode b_Model_below 111 = .ok (.getfield 531, 3) := by decide +kernel
theorem d_Model_below_114 : decode b_Model_below 114 = .ok (.iload_n 1, 1) := by decide +kernel
theorem d_Model_below_115 : decode b_Model_below 115 = .ok (.invokevirtual 182, 3) := by decide +kernel
theorem d_Model_below_118 : decode b_Model_below 118 = .ok (.invokevirtual 553, 3) := by decide +kernel
theorem d_Model_below_121 : decode b_Model_below 121 = .ok (.ifCond .ge 6, 3) := by decide +kernel
theorem d_Model_below_124 : decode b_Model_below 124 = .ok (.iinc 7 1, 3) := by decide +kernel
theorem d_Model_below_127 : decode b_Model_below 127 = .ok (.iinc 8 1, 3) := by decide +kernel
theorem d_Model_below_130 : decode b_Model_below 130 = .ok (.goto (-51), 3) := by decide +kernel
theorem d_Model_below_133 : decode b_Model_below 133 = .ok (.iload 7, 2) := by decide +kernel
theorem d_Model_below_135 : decode b_Model_below 135 = .ok (.ireturn, 1) := by decide +kernel
abbrev b_Model_point : ByteArray := prog_14_method_129_code
def y_Model_point : MethodName := ⟨"RealHouseModel", "point", "(III)I"⟩
abbrev w_Model_point : List Cond := .code y_Model_point b_Model_point 5 (some .int) :: lw_g
theorem g_Model_point : GoodIn lw_g w_Model_point := tb_good1 (tb_at (i := 2345) (by decide +kernel) rfl)
theorem d_Model_point_0 : decode b_Model_point 0 = .ok (.iload_n 1, 1) := by decide +kernel
theorem d_Model_point_1 : decode b_Model_point 1 = .ok (.ifCond .lt 31, 3) := by decide +kernel
theorem d_Model_point_4 : decode b_Model_point 4 = .ok (.iload_n 1, 1) := by decide +kernel
theorem d_Model_point_5 : decode b_Model_point 5 = .ok (.aload_n 0, 1) := by decide +kernel
theorem d_Model_point_6 : decode b_Model_point 6 = .ok (.getfield 566, 3) := by decide +kernel
theorem d_Model_point_9 : decode b_Model_point 9 = .ok (.if_icmp .ge 23, 3) := by decide +kernel
theorem d_Model_point_12 : decode b_Model_point 12 = .ok (.iload_n 2, 1) := by decide +kernel
theorem d_Model_point_13 : decode b_Model_point 13 = .ok (.ifCond .lt 19, 3) := by decide +kernel
theorem d_Model_point_16 : decode b_Model_point 16 = .ok (.iload_n 2, 1) := by decide +kernel
theorem d_Model_point_17 : decode b_Model_point 17 = .ok (.iconst 1, 1) := by decide +kernel
theorem d_Model_point_18 : decode b_Model_point 18 = .ok (.if_icmp .gt 14, 3) := by decide +kernel
theorem d_Model_point_21 : decode b_Model_point 21 = .ok (.iload_n 3, 1) := by decide +kernel
theorem d_Model_point_22 : decode b_Model_point 22 = .ok (.ifCond .lt 10, 3) := by decide +kernel
theorem d_Model_point_25 : decode b_Model_point 25 = .ok (.iload_n 3, 1) := by decide +kernel
theorem d_Model_point_26 : decode b_Model_point 26 = .ok (.sipush 200, 3) := by decide +kernel
theorem d_Model_point_29 : decode b_Model_point 29 = .ok (.if_icmp .le 5, 3) := by decide +kernel
theorem d_Model_point_32 : decode b_Model_point 32 = .ok (.iconst (-1), 1) := by decide +kernel
theorem d_Model_point_33 : decode b_Model_point 33 = .ok (.ireturn, 1) := by decide +kernel
theorem d_Model_point_34 : decode b_Model_point 34 = .ok (.aload_n 0, 1) := by decide +kernel
theorem d_Model_point_35 : decode b_Model_point 35 = .ok (.ldc 14, 2) := by decide +kernel
theorem d_Model_point_37 : decode b_Model_point 37 = .ok (.putfield 15, 3) := by decide +kernel
theorem d_Model_point_40 : decode b_Model_point 40 = .ok (.aload_n 0, 1) := by decide +kernel
theorem d_Model_point_41 : decode b_Model_point 41 = .ok (.iload_n 1, 1) := by decide +kernel
theorem d_Model_point_42 : decode b_Model_point 42 = .ok (.invokevirtual 601, 3) := by decide +kernel
theorem d_Model_point_45 : decode b_Model_point 45 = .ok (.iload_n 2, 1) := by decide +kernel
theorem d_Model_point_46 : decode b_Model_point 46 = .ok (.ifCond .ne 9, 3) := by decide +kernel
theorem d_Model_point_49 : decode b_Model_point 49 = .ok (.aload_n 0, 1) := by decide +kernel
theorem d_Model_point_50 : decode b_Model_point 50 = .ok (.iload_n 3, 1) := by decide +kernel
theorem d_Model_point_51 : decode b_Model_point 51 = .ok (.invokevirtual 550, 3) := by decide +kernel
theorem d_Model_point_54 : decode b_Model_point 54 = .ok (.ireturn, 1) := by decide +kernel
theorem d_Model_point_55 : decode b_Model_point 55 = .ok (.aload_n 0, 1) := by decide +kernel
theorem d_Model_point_56 : decode b_Model_point 56 = .ok (.iload_n 3, 1) := by decide +kernel
theorem d_Model_point_57 : decode b_Model_point 57 = .ok (.invokevirtual 604, 3) := by decide +kernel
theorem d_Model_point_60 : decode b_Model_point 60 = .ok (.istore 4, 2) := by decide +kernel
theorem d_Model_point_62 : decode b_Model_point 62 = .ok (.aload_n 0, 1) := by decide +kernel
theorem d_Model_point_63 : decode b_Model_point 63 = .ok (.iconst 0, 1) := by decide +kernel
theorem d_Model_point_64 : decode b_Model_point 64 = .ok (.putfield 388, 3) := by decide +kernel
theorem d_Model_point_67 : decode b_Model_point 67 = .ok (.aload_n 0, 1) := by decide +kernel
theorem d_Model_point_68 : decode b_Model_point 68 = .ok (.iload 4, 2) := by decide +kernel
theorem d_Model_point_70 : decode b_Model_point 70 = .ok (.invokevirtual 450, 3) := by decide +kernel
theorem d_Model_point_73 : decode b_Model_point 73 = .ok (.aload_n 0, 1) := by decide +kernel
theorem d_Model_point_74 : decode b_Model_point 74 = .ok (.getfield 388, 3) := by decide +kernel
theorem d_Model_point_77 : decode b_Model_point 77 = .ok (.ireturn, 1) := by decide +kernel
abbrev b_Model_signAtPoint : ByteArray := prog_14_method_130_code
def y_Model_signAtPoint : MethodName := ⟨"RealHouseModel", "signAtPoint", "(II)I"⟩
abbrev w_Model_signAtPoint : List Cond := .code y_Model_signAtPoint b_Model_signAtPoint 10 (some .int) :: lw_g
theorem g_Model_signAtPoint : GoodIn lw_g w_Model_signAtPoint := tb_good1 (tb_at (i := 2365) (by decide +kernel) rfl)
theorem d_Model_signAtPoint_0 : decode b_Model_signAtPoint 0 = .ok (.iload_n 1, 1) := by decide +kernel
theorem d_Model_signAtPoint_1 : decode b_Model_signAtPoint 1 = .ok (.ifCond .lt 19, 3) := by decide +kernel
theorem d_Model_signAtPoint_4 : decode b_Model_signAtPoint 4 = .ok (.iload_n 1, 1) := by decide +kernel
theorem d_Model_signAtPoint_5 : decode b_Model_signAtPoint 5 = .ok (.aload_n 0, 1) := by decide +kernel
theorem d_Model_signAtPoint_6 : decode b_Model_signAtPoint 6 = .ok (.getfield 566, 3) := by decide +kernel
theorem d_Model_signAtPoint_9 : decode b_Model_signAtPoint 9 = .ok (.if_icmp .ge 11, 3) := by decide +kernel
theorem d_Model_signAtPoint_12 : decode b_Model_signAtPoint 12 = .ok (.aload_n 0, 1) := by decide +kernel
theorem d_Model_signAtPoint_13 : decode b_Model_signAtPoint 13 = .ok (.iload_n 2, 1) := by decide +kernel
theorem d_Model_signAtPoint_14 : decode b_Model_signAtPoint 14 = .ok (.invokevirtual 471, 3) := by decide +kernel
theorem d_Model_signAtPoint_17 : decode b_Model_signAtPoint 17 = .ok (.ifCond .ne 5, 3) := by decide +kernel
theorem d_Model_signAtPoint_20 : decode b_Model_signAtPoint 20 = .ok (.iconst (-1), 1) := by decide +kernel
theorem d_Model_signAtPoint_21 : decode b_Model_signAtPoint 21 = .ok (.ireturn, 1) := by decide +kernel
theorem d_Model_signAtPoint_22 : decode b_Model_signAtPoint 22 = .ok (.aload_n 0, 1) := by decide +kernel
theorem d_Model_signAtPoint_23 : decode b_Model_signAtPoint 23 = .ok (.iconst 1, 1) := by decide +kernel
theorem d_Model_signAtPoint_24 : decode b_Model_signAtPoint 24 = .ok (.putfield 424, 3) := by decide +kernel
theorem d_Model_signAtPoint_27 : decode b_Model_signAtPoint 27 = .ok (.aload_n 0, 1) := by decide +kernel
theorem d_Model_signAtPoint_28 : decode b_Model_signAtPoint 28 = .ok (.iconst 1, 1) := by decide +kernel
theorem d_Model_signAtPoint_29 : decode b_Model_signAtPoint 29 = .ok (.putfield 427, 3) := by decide +kernel
theorem d_Model_signAtPoint_32 : decode b_Model_signAtPoint 32 = .ok (.aload_n 0, 1) := by decide +kernel
theorem d_Model_signAtPoint_33 : decode b_Model_signAtPoint 33 = .ok (.iconst 0, 1) := by decide +kernel
theorem d_Model_signAtPoint_34 : decode b_Model_signAtPoint 34 = .ok (.invokevirtual 474, 3) := by decide +kernel
theorem d_Model_signAtPoint_37 : decode b_Model_signAtPoint 37 = .ok (.aload_n 0, 1) := by decide +kernel
theorem d_Model_signAtPoint_38 : decode b_Model_signAtPoint 38 = .ok (.invokevirtual 480, 3) := by decide +kernel
theorem d_Model_signAtPoint_41 : decode b_Model_signAtPoint 41 = .ok (.istore_n 3, 1) := by decide +kernel
theorem d_Model_signAtPoint_42 : decode b_Model_signAtPoint 42 = .ok (.iload_n 3, 1) := by decide +kernel
theorem d_Model_signAtPoint_43 : decode b_Model_signAtPoint 43 = .ok (.ifCond .ge 5, 3) := by decide +kernel
theorem d_Model_signAtPoint_46 : decode b_Model_signAtPoint 46 = .ok (.iload_n 3, 1) := by decide +kernel
theorem d_Model_signAtPoint_47 : decode b_Model_signAtPoint 47 = .ok (.ireturn, 1) := by decide +kernel
theorem d_Model_signAtPoint_48 : decode b_Model_signAtPoint 48 = .ok (.aload_n 0, 1) := by decide +kernel
theorem d_Model_signAtPoint_49 : decode b_Model_signAtPoint 49 = .ok (.iconst 0, 1) := by decide +kernel
theorem d_Model_signAtPoint_50 : decode b_Model_signAtPoint 50 = .ok (.invokevirtual 560, 3) := by decide +kernel
theorem d_Model_signAtPoint_53 : decode b_Model_signAtPoint 53 = .ok (.ifCond .ne 5, 3) := by decide +kernel
theorem d_Model_signAtPoint_56 : decode b_Model_signAtPoint 56 = .ok (.iconst (-1), 1) := by decide +kernel
theorem d_Model_signAtPoint_57 : decode b_Model_signAtPoint 57 = .ok (.ireturn, 1) := by decide +kernel
theorem d_Model_signAtPoint_58 : decode b_Model_signAtPoint 58 = .ok (.aload_n 0, 1) := by decide +kernel
theorem d_Model_signAtPoint_59 : decode b_Model_signAtPoint 59 = .ok (.iconst 0, 1) := by decide +kernel
theorem d_Model_signAtPoint_60 : decode b_Model_signAtPoint 60 = .ok (.putfield 385, 3) := by decide +kernel
theorem d_Model_signAtPoint_63 : decode b_Model_signAtPoint 63 = .ok (.aload_n 0, 1) := by decide +kernel
theorem d_Model_signAtPoint_64 : decode b_Model_signAtPoint 64 = .ok (.iconst 0, 1) := by decide +kernel
theorem d_Model_signAtPoint_65 : decode b_Model_signAtPoint 65 = .ok (.iconst 0, 1) := by decide +kernel
theorem d_Model_signAtPoint_66 : decode b_Model_signAtPoint 66 = .ok (.invokevirtual 441, 3) := by decide +kernel
theorem d_Model_signAtPoint_69 : decode b_Model_signAtPoint 69 = .ok (.istore 4, 2) := by decide +kernel
theorem d_Model_signAtPoint_71 : decode b_Model_signAtPoint 71 = .ok (.aload_n 0, 1) := by decide +kernel
theorem d_Model_signAtPoint_72 : decode b_Model_signAtPoint 72 = .ok (.iload_n 1, 1) := by decide +kernel
theorem d_Model_signAtPoint_73 : decode b_Model_signAtPoint 73 = .ok (.invokevirtual 601, 3) := by decide +kernel
theorem d_Model_signAtPoint_76 : decode b_Model_signAtPoint 76 = .ok (.aload_n 0, 1) := by decide +kernel
theorem d_Model_signAtPoint_77 : decode b_Model_signAtPoint 77 = .ok (.iload 4, 2) := by decide +kernel
theorem d_Model_signAtPoint_79 : decode b_Model_signAtPoint 79 = .ok (.invokevirtual 331, 3) := by decide +kernel
theorem d_Model_signAtPoint_82 : decode b_Model_signAtPoint 82 = .ok (.istore 5, 2) := by decide +kernel
theorem d_Model_signAtPoint_84 : decode b_Model_signAtPoint 84 = .ok (.aload_n 0, 1) := by decide +kernel
theorem d_Model_signAtPoint_85 : decode b_Model_signAtPoint 85 = .ok (.iload 5, 2) := by decide +kernel
theorem d_Model_signAtPoint_87 : decode b_Model_signAtPoint 87 = .ok (.invokevirtual 176, 3) := by decide +kernel
theorem d_Model_signAtPoint_90 : decode b_Model_signAtPoint 90 = .ok (.ifCond .ne 5, 3) := by decide +kernel
theorem d_Model_signAtPoint_93 : decode b_Model_signAtPoint 93 = .ok (.iconst 1, 1) := by decide +kernel
theorem d_Model_signAtPoint_94 : decode b_Model_signAtPoint 94 = .ok (.ireturn, 1) := by decide +kernel
theorem d_Model_signAtPoint_95 : decode b_Model_signAtPoint 95 = .ok (.aload_n 0, 1) := by decide +kernel
theorem d_Model_signAtPoint_96 : decode b_Model_signAtPoint 96 = .ok (.iload 5, 2) := by decide +kernel
theorem d_Model_signAtPoint_98 : decode b_Model_signAtPoint 98 = .ok (.invokevirtual 176, 3) := by decide +kernel
theorem d_Model_signAtPoint_101 : decode b_Model_signAtPoint 101 = .ok (.iconst 1, 1) := by decide +kernel
theorem d_Model_signAtPoint_102 : decode b_Model_signAtPoint 102 = .ok (.if_icmp .ne 17, 3) := by decide +kernel
theorem d_Model_signAtPoint_105 : decode b_Model_signAtPoint 105 = .ok (.iconst 1, 1) := by decide +kernel
theorem d_Model_signAtPoint_106 : decode b_Model_signAtPoint 106 = .ok (.aload_n 0, 1) := by decide +kernel
theorem d_Model_signAtPoint_107 : decode b_Model_signAtPoint 107 = .ok (.aload_n 0, 1) := by decide +kernel
theorem d_Model_signAtPoint_108 : decode b_Model_signAtPoint 108 = .ok (.iload 5, 2) := by decide +kernel
theorem d_Model_signAtPoint_110 : decode b_Model_signAtPoint 110 = .ok (.iconst 0, 1) := by decide +kernel
theorem d_Model_signAtPoint_111 : decode b_Model_signAtPoint 111 = .ok (.invokevirtual 182, 3) := by decide +kernel
theorem d_Model_signAtPoint_114 : decode b_Model_signAtPoint 114 = .ok (.invokevirtual 316, 3) := by decide +kernel
theorem d_Model_signAtPoint_117 : decode b_Model_signAtPoint 117 = .ok (.iadd, 1) := by decide +kernel
theorem d_Model_signAtPoint_118 : decode b_Model_signAtPoint 118 = .ok (.ireturn, 1) := by decide +kernel
theorem d_Model_signAtPoint_119 : decode b_Model_signAtPoint 119 = .ok (.aload_n 0, 1) := by decide +kernel
theorem d_Model_signAtPoint_120 : decode b_Model_signAtPoint 120 = .ok (.aload_n 0, 1) := by decide +kernel
theorem d_Model_signAtPoint_121 : decode b_Model_signAtPoint 121 = .ok (.getfield 580, 3) := by decide +kernel
theorem d_Model_signAtPoint_124 : decode b_Model_signAtPoint 124 = .ok (.iload 5, 2) := by decide +kernel
theorem d_Model_signAtPoint_126 : decode b_Model_signAtPoint 126 = .ok (.invokevirtual 352, 3) := by decide +kernel
theorem d_Model_signAtPoint_129 : decode b_Model_signAtPoint 129 = .ok (.istore 6, 2) := by decide +kernel
theorem d_Model_signAtPoint_131 : decode b_Model_signAtPoint 131 = .ok (.aload_n 0, 1) := by decide +kernel
theorem d_Model_signAtPoint_132 : decode b_Model_signAtPoint 132 = .ok (.iload 5, 2) := by decide +kernel
theorem d_Model_signAtPoint_134 : decode b_Model_signAtPoint 134 = .ok (.invokevirtual 349, 3) := by decide +kernel
theorem d_Model_signAtPoint_137 : decode b_Model_signAtPoint 137 = .ok (.istore 7, 2) := by decide +kernel
theorem d_Model_signAtPoint_139 : decode b_Model_signAtPoint 139 = .ok (.aload_n 0, 1) := by decide +kernel
theorem d_Model_signAtPoint_140 : decode b_Model_signAtPoint 140 = .ok (.iload 6, 2) := by decide +kernel
theorem d_Model_signAtPoint_142 : decode b_Model_signAtPoint 142 = .ok (.invokevirtual 176, 3) := by decide +kernel
theorem d_Model_signAtPoint_145 : decode b_Model_signAtPoint 145 = .ok (.iconst 1, 1) := by decide +kernel
theorem d_Model_signAtPoint_146 : decode b_Model_signAtPoint 146 = .ok (.if_icmp .le 86, 3) := by decide +kernel
theorem d_Model_signAtPoint_149 : decode b_Model_signAtPoint 149 = .ok (.aload_n 0, 1) := by decide +kernel
theorem d_Model_signAtPoint_150 : decode b_Model_signAtPoint 150 = .ok (.iload 6, 2) := by decide +kernel
theorem d_Model_signAtPoint_152 : decode b_Model_signAtPoint 152 = .ok (.invokevirtual 349, 3) := by decide +kernel
theorem d_Model_signAtPoint_155 : decode b_Model_signAtPoint 155 = .ok (.istore 8, 2) := by decide +kernel
theorem d_Model_signAtPoint_157 : decode b_Model_signAtPoint 157 = .ok (.aload_n 0, 1) := by decide +kernel
theorem d_Model_signAtPoint_158 : decode b_Model_signAtPoint 158 = .ok (.aload_n 0, 1) := by decide +kernel
theorem d_Model_signAtPoint_159 : decode b_Model_signAtPoint 159 = .ok (.getfield 586, 3) := by decide +kernel
theorem d_Model_signAtPoint_162 : decode b_Model_signAtPoint 162 = .ok (.aload_n 0, 1) := by decide +kernel
theorem d_Model_signAtPoint_163 : decode b_Model_signAtPoint 163 = .ok (.getfield 589, 3) := by decide +kernel
theorem d_Model_signAtPoint_166 : decode b_Model_signAtPoint 166 = .ok (.invokevirtual 272, 3) := by decide +kernel
theorem d_Model_signAtPoint_169 : decode b_Model_signAtPoint 169 = .ok (.ifCond .ne 28, 3) := by decide +kernel
theorem d_Model_signAtPoint_172 : decode b_Model_signAtPoint 172 = .ok (.aload_n 0, 1) := by decide +kernel
theorem d_Model_signAtPoint_173 : decode b_Model_signAtPoint 173 = .ok (.iload 6, 2) := by decide +kernel
theorem d_Model_signAtPoint_175 : decode b_Model_signAtPoint 175 = .ok (.aload_n 0, 1) := by decide +kernel
theorem d_Model_signAtPoint_176 : decode b_Model_signAtPoint 176 = .ok (.getfield 586, 3) := by decide +kernel
theorem d_Model_signAtPoint_179 : decode b_Model_signAtPoint 179 = .ok (.aload_n 0, 1) := by decide +kernel
theorem d_Model_signAtPoint_180 : decode b_Model_signAtPoint 180 = .ok (.getfield 592, 3) := by decide +kernel
theorem d_Model_signAtPoint_183 : decode b_Model_signAtPoint 183 = .ok (.invokevirtual 343, 3) := by decide +kernel
theorem d_Model_signAtPoint_186 : decode b_Model_signAtPoint 186 = .ok (.ifCond .ne 7, 3) := by decide +kernel
theorem d_Model_signAtPoint_189 : decode b_Model_signAtPoint 189 = .ok (.iconst 1, 1) := by decide +kernel
theorem d_Model_signAtPoint_190 : decode b_Model_signAtPoint 190 = .ok (.goto 33, 3) := by decide +kernel
theorem d_Model_signAtPoint_193 : decode b_Model_signAtPoint 193 = .ok (.iconst 0, 1) := by decide +kernel
theorem d_Model_signAtPoint_194 : decode b_Model_signAtPoint 194 = .ok (.goto 29, 3) := by decide +kernel
theorem d_Model_signAtPoint_197 : decode b_Model_signAtPoint 197 = .ok (.aload_n 0, 1) := by decide +kernel
theorem d_Model_signAtPoint_198 : decode b_Model_signAtPoint 198 = .ok (.iload 8, 2) := by decide +kernel
theorem d_Model_signAtPoint_200 : decode b_Model_signAtPoint 200 = .ok (.aload_n 0, 1) := by decide +kernel
theorem d_Model_signAtPoint_201 : decode b_Model_signAtPoint 201 = .ok (.getfield 586, 3) := by decide +kernel
theorem d_Model_signAtPoint_204 : decode b_Model_signAtPoint 204 = .ok (.aload_n 0, 1) := by decide +kernel
theorem d_Model_signAtPoint_205 : decode b_Model_signAtPoint 205 = .ok (.getfield 589, 3) := by decide +kernel
theorem d_Model_signAtPoint_208 : decode b_Model_signAtPoint 208 = .ok (.aload_n 0, 1) := by decide +kernel
theorem d_Model_signAtPoint_209 : decode b_Model_signAtPoint 209 = .ok (.getfield 592, 3) := by decide +kernel
theorem d_Model_signAtPoint_212 : decode b_Model_signAtPoint 212 = .ok (.invokevirtual 374, 3) := by decide +kernel
theorem d_Model_signAtPoint_215 : decode b_Model_signAtPoint 215 = .ok (.ifCond .le 7, 3) := by decide +kernel
theorem d_Model_signAtPoint_218 : decode b_Model_signAtPoint 218 = .ok (.iconst 1, 1) := by decide +kernel
theorem d_Model_signAtPoint_219 : decode b_Model_signAtPoint 219 = .ok (.goto 4, 3) := by decide +kernel
theorem d_Model_signAtPoint_222 : decode b_Model_signAtPoint 222 = .ok (.iconst 0, 1) := by decide +kernel
theorem d_Model_signAtPoint_223 : decode b_Model_signAtPoint 223 = .ok (.istore 9, 2) := by decide +kernel
theorem d_Model_signAtPoint_225 : decode b_Model_signAtPoint 225 = .ok (.iload 9, 2) := by decide +kernel
theorem d_Model_signAtPoint_227 : decode b_Model_signAtPoint 227 = .ok (.ifCond .eq 5, 3) := by decide +kernel
theorem d_Model_signAtPoint_230 : decode b_Model_signAtPoint 230 = .ok (.iconst 1, 1) := by decide +kernel
theorem d_Model_signAtPoint_231 : decode b_Model_signAtPoint 231 = .ok (.ireturn, 1) := by decide +kernel
theorem d_Model_signAtPoint_232 : decode b_Model_signAtPoint 232 = .ok (.aload_n 0, 1) := by decide +kernel
theorem d_Model_signAtPoint_233 : decode b_Model_signAtPoint 233 = .ok (.aload_n 0, 1) := by decide +kernel
theorem d_Model_signAtPoint_234 : decode b_Model_signAtPoint 234 = .ok (.getfield 586, 3) := by decide +kernel
theorem d_Model_signAtPoint_237 : decode b_Model_signAtPoint 237 = .ok (.aload_n 0, 1) := by decide +kernel
theorem d_Model_signAtPoint_238 : decode b_Model_signAtPoint 238 = .ok (.getfield 589, 3) := by decide +kernel
theorem d_Model_signAtPoint_241 : decode b_Model_signAtPoint 241 = .ok (.invokevirtual 272, 3) := by decide +kernel
theorem d_Model_signAtPoint_244 : decode b_Model_signAtPoint 244 = .ok (.ifCond .eq 48, 3) := by decide +kernel
theorem d_Model_signAtPoint_247 : decode b_Model_signAtPoint 247 = .ok (.aload_n 0, 1) := by decide +kernel
theorem d_Model_signAtPoint_248 : decode b_Model_signAtPoint 248 = .ok (.iload 5, 2) := by decide +kernel
theorem d_Model_signAtPoint_250 : decode b_Model_signAtPoint 250 = .ok (.aload_n 0, 1) := by decide +kernel
theorem d_Model_signAtPoint_251 : decode b_Model_signAtPoint 251 = .ok (.getfield 586, 3) := by decide +kernel
theorem d_Model_signAtPoint_254 : decode b_Model_signAtPoint 254 = .ok (.aload_n 0, 1) := by decide +kernel
theorem d_Model_signAtPoint_255 : decode b_Model_signAtPoint 255 = .ok (.getfield 592, 3) := by decide +kernel
theorem d_Model_signAtPoint_258 : decode b_Model_signAtPoint 258 = .ok (.invokevirtual 343, 3) := by decide +kernel
theorem d_Model_signAtPoint_261 : decode b_Model_signAtPoint 261 = .ok (.ifCond .eq 24, 3) := by decide +kernel
theorem d_Model_signAtPoint_264 : decode b_Model_signAtPoint 264 = .ok (.aload_n 0, 1) := by decide +kernel
theorem d_Model_signAtPoint_265 : decode b_Model_signAtPoint 265 = .ok (.iload 7, 2) := by decide +kernel
theorem d_Model_signAtPoint_267 : decode b_Model_signAtPoint 267 = .ok (.aload_n 0, 1) := by decide +kernel
theorem d_Model_signAtPoint_268 : decode b_Model_signAtPoint 268 = .ok (.getfield 586, 3) := by decide +kernel
theorem d_Model_signAtPoint_271 : decode b_Model_signAtPoint 271 = .ok (.aload_n 0, 1) := by decide +kernel
theorem d_Model_signAtPoint_272 : decode b_Model_signAtPoint 272 = .ok (.getfield 589, 3) := by decide +kernel
theorem d_Model_signAtPoint_275 : decode b_Model_signAtPoint 275 = .ok (.aload_n 0, 1) := by decide +kernel
theorem d_Model_signAtPoint_276 : decode b_Model_signAtPoint 276 = .ok (.getfield 592, 3) := by decide +kernel
theorem d_Model_signAtPoint_279 : decode b_Model_signAtPoint 279 = .ok (.invokevirtual 374, 3) := by decide +kernel
theorem d_Model_signAtPoint_282 : decode b_Model_signAtPoint 282 = .ok (.ifCond .le 10, 3) := by decide +kernel
theorem d_Model_signAtPoint_285 : decode b_Model_signAtPoint 285 = .ok (.aload_n 0, 1) := by decide +kernel
theorem d_Model_signAtPoint_286 : decode b_Model_signAtPoint 286 = .ok (.invokevirtual 598, 3) := by decide +kernel
theorem d_Model_signAtPoint_289 : decode b_Model_signAtPoint 289 = .ok (.goto (-57), 3) := by decide +kernel
theorem d_Model_signAtPoint_292 : decode b_Model_signAtPoint 292 = .ok (.iconst 1, 1) := by decide +kernel
theorem d_Model_signAtPoint_293 : decode b_Model_signAtPoint 293 = .ok (.aload_n 0, 1) := by decide +kernel
theorem d_Model_signAtPoint_294 : decode b_Model_signAtPoint 294 = .ok (.iload 5, 2) := by decide +kernel
theorem d_Model_signAtPoint_296 : decode b_Model_signAtPoint 296 = .ok (.aload_n 0, 1) := by decide +kernel
theorem d_Model_signAtPoint_297 : decode b_Model_signAtPoint 297 = .ok (.getfield 589, 3) := by decide +kernel
theorem d_Model_signAtPoint_300 : decode b_Model_signAtPoint 300 = .ok (.aload_n 0, 1) := by decide +kernel
theorem d_Model_signAtPoint_301 : decode b_Model_signAtPoint 301 = .ok (.getfield 592, 3) := by decide +kernel
theorem d_Model_signAtPoint_304 : decode b_Model_signAtPoint 304 = .ok (.invokevirtual 343, 3) := by decide +kernel
theorem d_Model_signAtPoint_307 : decode b_Model_signAtPoint 307 = .ok (.iadd, 1) := by decide +kernel
theorem d_Model_signAtPoint_308 : decode b_Model_signAtPoint 308 = .ok (.ireturn, 1) := by decide +kernel
abbrev b_Model_piece : ByteArray := prog_14_method_151_code
def y_Model_piece : MethodName := ⟨"RealHouseModel", "piece", "(II)I"⟩
abbrev w_Model_piece : List Cond := .code y_Model_piece b_Model_piece 4 (some .int) :: lw_g
theorem g_Model_piece : GoodIn lw_g w_Model_piece := tb_good1 (tb_at (i := 2458) (by decide +kernel) rfl)
theorem d_Model_piece_0 : decode b_Model_piece 0 = .ok (.iload_n 1, 1) := by decide +kernel
theorem d_Model_piece_1 : decode b_Model_piece 1 = .ok (.ifCond .lt 20, 3) := by decide +kernel
theorem d_Model_piece_4 : decode b_Model_piece 4 = .ok (.iload_n 1, 1) := by decide +kernel
theorem d_Model_piece_5 : decode b_Model_piece 5 = .ok (.aload_n 0, 1) := by decide +kernel
theorem d_Model_piece_6 : decode b_Model_piece 6 = .ok (.getfield 680, 3) := by decide +kernel
theorem d_Model_piece_9 : decode b_Model_piece 9 = .ok (.if_icmp .ge 12, 3) := by decide +kernel
theorem d_Model_piece_12 : decode b_Model_piece 12 = .ok (.iload_n 2, 1) := by decide +kernel
theorem d_Model_piece_13 : decode b_Model_piece 13 = .ok (.ifCond .lt 8, 3) := by decide +kernel
theorem d_Model_piece_16 : decode b_Model_piece 16 = .ok (.iload_n 2, 1) := by decide +kernel
theorem d_Model_piece_17 : decode b_Model_piece 17 = .ok (.iconst 4, 1) := by decide +kernel
theorem d_Model_piece_18 : decode b_Model_piece 18 = .ok (.if_icmp .le 5, 3) := by decide +kernel
theorem d_Model_piece_21 : decode b_Model_piece 21 = .ok (.iconst (-1), 1) := by decide +kernel
theorem d_Model_piece_22 : decode b_Model_piece 22 = .ok (.ireturn, 1) := by decide +kernel
theorem d_Model_piece_23 : decode b_Model_piece 23 = .ok (.iload_n 2, 1) := by decide +kernel
theorem d_Model_piece_24 : decode b_Model_piece 24 = .ok (.ifCond .ne 14, 3) := by decide +kernel
theorem d_Model_piece_27 : decode b_Model_piece 27 = .ok (.aload_n 0, 1) := by decide +kernel
theorem d_Model_piece_28 : decode b_Model_piece 28 = .ok (.getfield 93, 3) := by decide +kernel
theorem d_Model_piece_31 : decode b_Model_piece 31 = .ok (.iconst 2, 1) := by decide +kernel
theorem d_Model_piece_32 : decode b_Model_piece 32 = .ok (.iload_n 1, 1) := by decide +kernel
theorem d_Model_piece_33 : decode b_Model_piece 33 = .ok (.imul, 1) := by decide +kernel
theorem d_Model_piece_34 : decode b_Model_piece 34 = .ok (.baload, 1) := by decide +kernel
theorem d_Model_piece_35 : decode b_Model_piece 35 = .ok (.goto 61, 3) := by decide +kernel
theorem d_Model_piece_38 : decode b_Model_piece 38 = .ok (.iload_n 2, 1) := by decide +kernel
theorem d_Model_piece_39 : decode b_Model_piece 39 = .ok (.iconst 1, 1) := by decide +kernel
theorem d_Model_piece_40 : decode b_Model_piece 40 = .ok (.if_icmp .ne 14, 3) := by decide +kernel
theorem d_Model_piece_43 : decode b_Model_piece 43 = .ok (.aload_n 0, 1) := by decide +kernel
theorem d_Model_piece_44 : decode b_Model_piece 44 = .ok (.getfield 96, 3) := by decide +kernel
theorem d_Model_piece_47 : decode b_Model_piece 47 = .ok (.iconst 2, 1) := by decide +kernel
theorem d_Model_piece_48 : decode b_Model_piece 48 = .ok (.iload_n 1, 1) := by decide +kernel
theorem d_Model_piece_49 : decode b_Model_piece 49 = .ok (.imul, 1) := by decide +kernel
theorem d_Model_piece_50 : decode b_Model_piece 50 = .ok (.baload, 1) := by decide +kernel
theorem d_Model_piece_51 : decode b_Model_piece 51 = .ok (.goto 45, 3) := by decide +kernel
theorem d_Model_piece_54 : decode b_Model_piece 54 = .ok (.iload_n 2, 1) := by decide +kernel
theorem d_Model_piece_55 : decode b_Model_piece 55 = .ok (.iconst 2, 1) := by decide +kernel
theorem d_Model_piece_56 : decode b_Model_piece 56 = .ok (.if_icmp .ne 16, 3) := by decide +kernel
theorem d_Model_piece_59 : decode b_Model_piece 59 = .ok (.aload_n 0, 1) := by decide +kernel
theorem d_Model_piece_60 : decode b_Model_piece 60 = .ok (.getfield 93, 3) := by decide +kernel
theorem d_Model_piece_63 : decode b_Model_piece 63 = .ok (.iconst 2, 1) := by decide +kernel
theorem d_Model_piece_64 : decode b_Model_piece 64 = .ok (.iload_n 1, 1) := by decide +kernel
theorem d_Model_piece_65 : decode b_Model_piece 65 = .ok (.imul, 1) := by decide +kernel
theorem d_Model_piece_66 : decode b_Model_piece 66 = .ok (.iconst 1, 1) := by decide +kernel
theorem d_Model_piece_67 : decode b_Model_piece 67 = .ok (.iadd, 1) := by decide +kernel
theorem d_Model_piece_68 : decode b_Model_piece 68 = .ok (.baload, 1) := by decide +kernel
theorem d_Model_piece_69 : decode b_Model_piece 69 = .ok (.goto 27, 3) := by decide +kernel
theorem d_Model_piece_72 : decode b_Model_piece 72 = .ok (.iload_n 2, 1) := by decide +kernel
theorem d_Model_piece_73 : decode b_Model_piece 73 = .ok (.iconst 3, 1) := by decide +kernel
theorem d_Model_piece_74 : decode b_Model_piece 74 = .ok (.if_icmp .ne 16, 3) := by decide +kernel
theorem d_Model_piece_77 : decode b_Model_piece 77 = .ok (.aload_n 0, 1) := by decide +kernel
theorem d_Model_piece_78 : decode b_Model_piece 78 = .ok (.getfield 96, 3) := by decide +kernel
theorem d_Model_piece_81 : decode b_Model_piece 81 = .ok (.iconst 2, 1) := by decide +kernel
theorem d_Model_piece_82 : decode b_Model_piece 82 = .ok (.iload_n 1, 1) := by decide +kernel
theorem d_Model_piece_83 : decode b_Model_piece 83 = .ok (.imul, 1) := by decide +kernel
theorem d_Model_piece_84 : decode b_Model_piece 84 = .ok (.iconst 1, 1) := by decide +kernel
theorem d_Model_piece_85 : decode b_Model_piece 85 = .ok (.iadd, 1) := by decide +kernel
theorem d_Model_piece_86 : decode b_Model_piece 86 = .ok (.baload, 1) := by decide +kernel
theorem d_Model_piece_87 : decode b_Model_piece 87 = .ok (.goto 9, 3) := by decide +kernel
theorem d_Model_piece_90 : decode b_Model_piece 90 = .ok (.aload_n 0, 1) := by decide +kernel
theorem d_Model_piece_91 : decode b_Model_piece 91 = .ok (.getfield 99, 3) := by decide +kernel
theorem d_Model_piece_94 : decode b_Model_piece 94 = .ok (.iload_n 1, 1) := by decide +kernel
theorem d_Model_piece_95 : decode b_Model_piece 95 = .ok (.baload, 1) := by decide +kernel
theorem d_Model_piece_96 : decode b_Model_piece 96 = .ok (.istore_n 3, 1) := by decide +kernel
theorem d_Model_piece_97 : decode b_Model_piece 97 = .ok (.iload_n 3, 1) := by decide +kernel
theorem d_Model_piece_98 : decode b_Model_piece 98 = .ok (.ifCond .eq 7, 3) := by decide +kernel
theorem d_Model_piece_101 : decode b_Model_piece 101 = .ok (.iconst 1, 1) := by decide +kernel
theorem d_Model_piece_102 : decode b_Model_piece 102 = .ok (.goto 4, 3) := by decide +kernel
theorem d_Model_piece_105 : decode b_Model_piece 105 = .ok (.iconst 0, 1) := by decide +kernel
theorem d_Model_piece_106 : decode b_Model_piece 106 = .ok (.ireturn, 1) := by decide +kernel
abbrev b_Model_edge : ByteArray := prog_14_method_152_code
def y_Model_edge : MethodName := ⟨"RealHouseModel", "edge", "(III)I"⟩
abbrev w_Model_edge : List Cond := .code y_Model_edge b_Model_edge 5 (some .int) :: lw_g
theorem g_Model_edge : GoodIn lw_g w_Model_edge := tb_good1 (tb_at (i := 2462) (by decide +kernel) rfl)
theorem d_Model_edge_0 : decode b_Model_edge 0 = .ok (.iload_n 1, 1) := by decide +kernel
theorem d_Model_edge_1 : decode b_Model_edge 1 = .ok (.ifCond .lt 44, 3) := by decide +kernel
theorem d_Model_edge_4 : decode b_Model_edge 4 = .ok (.iload_n 1, 1) := by decide +kernel
theorem d_Model_edge_5 : decode b_Model_edge 5 = .ok (.aload_n 0, 1) := by decide +kernel
theorem d_Model_edge_6 : decode b_Model_edge 6 = .ok (.getfield 680, 3) := by decide +kernel
theorem d_Model_edge_9 : decode b_Model_edge 9 = .ok (.if_icmp .ge 36, 3) := by decide +kernel
theorem d_Model_edge_12 : decode b_Model_edge 12 = .ok (.iload_n 2, 1) := by decide +kernel
theorem d_Model_edge_13 : decode b_Model_edge 13 = .ok (.ifCond .lt 32, 3) := by decide +kernel
theorem d_Model_edge_16 : decode b_Model_edge 16 = .ok (.iload_n 2, 1) := by decide +kernel
theorem d_Model_edge_17 : decode b_Model_edge 17 = .ok (.iconst 1, 1) := by decide +kernel
theorem d_Model_edge_18 : decode b_Model_edge 18 = .ok (.if_icmp .gt 27, 3) := by decide +kernel
theorem d_Model_edge_21 : decode b_Model_edge 21 = .ok (.iload_n 3, 1) := by decide +kernel
theorem d_Model_edge_22 : decode b_Model_edge 22 = .ok (.ifCond .lt 23, 3) := by decide +kernel
theorem d_Model_edge_25 : decode b_Model_edge 25 = .ok (.iload_n 3, 1) := by decide +kernel
theorem d_Model_edge_26 : decode b_Model_edge 26 = .ok (.sipush 200, 3) := by decide +kernel
theorem d_Model_edge_29 : decode b_Model_edge 29 = .ok (.if_icmp .gt 16, 3) := by decide +kernel
theorem d_Model_edge_32 : decode b_Model_edge 32 = .ok (.aload_n 0, 1) := by decide +kernel
theorem d_Model_edge_33 : decode b_Model_edge 33 = .ok (.getfield 93, 3) := by decide +kernel
theorem d_Model_edge_36 : decode b_Model_edge 36 = .ok (.iconst 2, 1) := by decide +kernel
theorem d_Model_edge_37 : decode b_Model_edge 37 = .ok (.iload_n 1, 1) := by decide +kernel
theorem d_Model_edge_38 : decode b_Model_edge 38 = .ok (.imul, 1) := by decide +kernel
theorem d_Model_edge_39 : decode b_Model_edge 39 = .ok (.iload_n 2, 1) := by decide +kernel
theorem d_Model_edge_40 : decode b_Model_edge 40 = .ok (.iadd, 1) := by decide +kernel
theorem d_Model_edge_41 : decode b_Model_edge 41 = .ok (.baload, 1) := by decide +kernel
theorem d_Model_edge_42 : decode b_Model_edge 42 = .ok (.ifCond .ne 5, 3) := by decide +kernel
theorem d_Model_edge_45 : decode b_Model_edge 45 = .ok (.iconst (-1), 1) := by decide +kernel
theorem d_Model_edge_46 : decode b_Model_edge 46 = .ok (.ireturn, 1) := by decide +kernel
theorem d_Model_edge_47 : decode b_Model_edge 47 = .ok (.aload_n 0, 1) := by decide +kernel
theorem d_Model_edge_48 : decode b_Model_edge 48 = .ok (.ldc 14, 2) := by decide +kernel
theorem d_Model_edge_50 : decode b_Model_edge 50 = .ok (.putfield 15, 3) := by decide +kernel
theorem d_Model_edge_53 : decode b_Model_edge 53 = .ok (.aload_n 0, 1) := by decide +kernel
theorem d_Model_edge_54 : decode b_Model_edge 54 = .ok (.getfield 105, 3) := by decide +kernel
theorem d_Model_edge_57 : decode b_Model_edge 57 = .ok (.iconst 2, 1) := by decide +kernel
theorem d_Model_edge_58 : decode b_Model_edge 58 = .ok (.iload_n 1, 1) := by decide +kernel
theorem d_Model_edge_59 : decode b_Model_edge 59 = .ok (.imul, 1) := by decide +kernel
theorem d_Model_edge_60 : decode b_Model_edge 60 = .ok (.iload_n 2, 1) := by decide +kernel
theorem d_Model_edge_61 : decode b_Model_edge 61 = .ok (.iadd, 1) := by decide +kernel
theorem d_Model_edge_62 : decode b_Model_edge 62 = .ok (.iaload, 1) := by decide +kernel
theorem d_Model_edge_63 : decode b_Model_edge 63 = .ok (.istore 4, 2) := by decide +kernel
theorem d_Model_edge_65 : decode b_Model_edge 65 = .ok (.aload_n 0, 1) := by decide +kernel
theorem d_Model_edge_66 : decode b_Model_edge 66 = .ok (.aload_n 0, 1) := by decide +kernel
theorem d_Model_edge_67 : decode b_Model_edge 67 = .ok (.getfield 102, 3) := by decide +kernel
theorem d_Model_edge_70 : decode b_Model_edge 70 = .ok (.iconst 2, 1) := by decide +kernel
theorem d_Model_edge_71 : decode b_Model_edge 71 = .ok (.iload_n 1, 1) := by decide +kernel
theorem d_Model_edge_72 : decode b_Model_edge 72 = .ok (.imul, 1) := by decide +kernel
theorem d_Model_edge_73 : decode b_Model_edge 73 = .ok (.iload_n 2, 1) := by decide +kernel
theorem d_Model_edge_74 : decode b_Model_edge 74 = .ok (.iadd, 1) := by decide +kernel
theorem d_Model_edge_75 : decode b_Model_edge 75 = .ok (.iaload, 1) := by decide +kernel
theorem d_Model_edge_76 : decode b_Model_edge 76 = .ok (.aload_n 0, 1) := by decide +kernel
theorem d_Model_edge_77 : decode b_Model_edge 77 = .ok (.iload 4, 2) := by decide +kernel
theorem d_Model_edge_79 : decode b_Model_edge 79 = .ok (.iconst 0, 1) := by decide +kernel
theorem d_Model_edge_80 : decode b_Model_edge 80 = .ok (.invokevirtual 182, 3) := by decide +kernel
theorem d_Model_edge_83 : decode b_Model_edge 83 = .ok (.aload_n 0, 1) := by decide +kernel
theorem d_Model_edge_84 : decode b_Model_edge 84 = .ok (.iload 4, 2) := by decide +kernel
theorem d_Model_edge_86 : decode b_Model_edge 86 = .ok (.iconst 1, 1) := by decide +kernel
theorem d_Model_edge_87 : decode b_Model_edge 87 = .ok (.invokevirtual 182, 3) := by decide +kernel
theorem d_Model_edge_90 : decode b_Model_edge 90 = .ok (.aload_n 0, 1) := by decide +kernel
theorem d_Model_edge_91 : decode b_Model_edge 91 = .ok (.aload_n 0, 1) := by decide +kernel
theorem d_Model_edge_92 : decode b_Model_edge 92 = .ok (.iload 4, 2) := by decide +kernel
theorem d_Model_edge_94 : decode b_Model_edge 94 = .ok (.iconst 2, 1) := by decide +kernel
theorem d_Model_edge_95 : decode b_Model_edge 95 = .ok (.invokevirtual 182, 3) := by decide +kernel
theorem d_Model_edge_98 : decode b_Model_edge 98 = .ok (.invokevirtual 382, 3) := by decide +kernel
theorem d_Model_edge_101 : decode b_Model_edge 101 = .ok (.invokevirtual 537, 3) := by decide +kernel
theorem d_Model_edge_104 : decode b_Model_edge 104 = .ok (.aload_n 0, 1) := by decide +kernel
theorem d_Model_edge_105 : decode b_Model_edge 105 = .ok (.iload_n 3, 1) := by decide +kernel
theorem d_Model_edge_106 : decode b_Model_edge 106 = .ok (.invokevirtual 550, 3) := by decide +kernel
theorem d_Model_edge_109 : decode b_Model_edge 109 = .ok (.ireturn, 1) := by decide +kernel
abbrev b_Model_factor : ByteArray := prog_14_method_174_code
def y_Model_factor : MethodName := ⟨"RealHouseModel", "factor", "(I)I"⟩
abbrev w_Model_factor : List Cond := .code y_Model_factor b_Model_factor 2 (some .int) :: lw_g
theorem g_Model_factor : GoodIn lw_g w_Model_factor := tb_good1 (tb_at (i := 2553) (by decide +kernel) rfl)
theorem d_Model_factor_0 : decode b_Model_factor 0 = .ok (.iload_n 1, 1) := by decide +kernel
theorem d_Model_factor_1 : decode b_Model_factor 1 = .ok (.ifCond .lt 11, 3) := by decide +kernel
theorem d_Model_factor_4 : decode b_Model_factor 4 = .ok (.iload_n 1, 1) := by decide +kernel
theorem d_Model_factor_5 : decode b_Model_factor 5 = .ok (.aload_n 0, 1) := by decide +kernel
theorem d_Model_factor_6 : decode b_Model_factor 6 = .ok (.getfield 761, 3) := by decide +kernel
theorem d_Model_factor_9 : decode b_Model_factor 9 = .ok (.if_icmp .lt 5, 3) := by decide +kernel
theorem d_Model_factor_12 : decode b_Model_factor 12 = .ok (.iconst (-1), 1) := by decide +kernel
theorem d_Model_factor_13 : decode b_Model_factor 13 = .ok (.ireturn, 1) := by decide +kernel
theorem d_Model_factor_14 : decode b_Model_factor 14 = .ok (.aload_n 0, 1) := by decide +kernel
theorem d_Model_factor_15 : decode b_Model_factor 15 = .ok (.ldc 14, 2) := by decide +kernel
theorem d_Model_factor_17 : decode b_Model_factor 17 = .ok (.putfield 15, 3) := by decide +kernel
theorem d_Model_factor_20 : decode b_Model_factor 20 = .ok (.aload_n 0, 1) := by decide +kernel
theorem d_Model_factor_21 : decode b_Model_factor 21 = .ok (.aload_n 0, 1) := by decide +kernel
theorem d_Model_factor_22 : decode b_Model_factor 22 = .ok (.aload_n 0, 1) := by decide +kernel
theorem d_Model_factor_23 : decode b_Model_factor 23 = .ok (.getfield 122, 3) := by decide +kernel
theorem d_Model_factor_26 : decode b_Model_factor 26 = .ok (.iload_n 1, 1) := by decide +kernel
theorem d_Model_factor_27 : decode b_Model_factor 27 = .ok (.iaload, 1) := by decide +kernel
theorem d_Model_factor_28 : decode b_Model_factor 28 = .ok (.invokevirtual 498, 3) := by decide +kernel
theorem d_Model_factor_31 : decode b_Model_factor 31 = .ok (.invokevirtual 510, 3) := by decide +kernel
theorem d_Model_factor_34 : decode b_Model_factor 34 = .ok (.ireturn, 1) := by decide +kernel
abbrev b_Model_power : ByteArray := prog_14_method_175_code
def y_Model_power : MethodName := ⟨"RealHouseModel", "power", "(I)I"⟩
abbrev w_Model_power : List Cond := .code y_Model_power b_Model_power 2 (some .int) :: lw_g
theorem g_Model_power : GoodIn lw_g w_Model_power := tb_good1 (tb_at (i := 2557) (by decide +kernel) rfl)
theorem d_Model_power_0 : decode b_Model_power 0 = .ok (.iload_n 1, 1) := by decide +kernel
theorem d_Model_power_1 : decode b_Model_power 1 = .ok (.ifCond .lt 20, 3) := by decide +kernel
theorem d_Model_power_4 : decode b_Model_power 4 = .ok (.iload_n 1, 1) := by decide +kernel
theorem d_Model_power_5 : decode b_Model_power 5 = .ok (.aload_n 0, 1) := by decide +kernel
theorem d_Model_power_6 : decode b_Model_power 6 = .ok (.getfield 761, 3) := by decide +kernel
theorem d_Model_power_9 : decode b_Model_power 9 = .ok (.if_icmp .ge 12, 3) := by decide +kernel
theorem d_Model_power_12 : decode b_Model_power 12 = .ok (.aload_n 0, 1) := by decide +kernel
theorem d_Model_power_13 : decode b_Model_power 13 = .ok (.getfield 125, 3) := by decide +kernel
theorem d_Model_power_16 : decode b_Model_power 16 = .ok (.iload_n 1, 1) := by decide +kernel
theorem d_Model_power_17 : decode b_Model_power 17 = .ok (.iaload, 1) := by decide +kernel
theorem d_Model_power_18 : decode b_Model_power 18 = .ok (.goto 4, 3) := by decide +kernel
theorem d_Model_power_21 : decode b_Model_power 21 = .ok (.iconst (-1), 1) := by decide +kernel
theorem d_Model_power_22 : decode b_Model_power 22 = .ok (.ireturn, 1) := by decide +kernel
abbrev b_Model_hold : ByteArray := prog_14_method_179_code
def y_Model_hold : MethodName := ⟨"RealHouseModel", "hold", "(II)I"⟩
abbrev w_Model_hold : List Cond := .code y_Model_hold b_Model_hold 4 (some .int) :: lw_g
theorem g_Model_hold : GoodIn lw_g w_Model_hold := tb_good1 (tb_at (i := 2561) (by decide +kernel) rfl)
theorem d_Model_hold_0 : decode b_Model_hold 0 = .ok (.iload_n 1, 1) := by decide +kernel
theorem d_Model_hold_1 : decode b_Model_hold 1 = .ok (.ifCond .lt 21, 3) := by decide +kernel
theorem d_Model_hold_4 : decode b_Model_hold 4 = .ok (.iload_n 1, 1) := by decide +kernel
theorem d_Model_hold_5 : decode b_Model_hold 5 = .ok (.bipush 7, 2) := by decide +kernel
theorem d_Model_hold_7 : decode b_Model_hold 7 = .ok (.if_icmp .gt 15, 3) := by decide +kernel
theorem d_Model_hold_10 : decode b_Model_hold 10 = .ok (.iload_n 2, 1) := by decide +kernel
theorem d_Model_hold_11 : decode b_Model_hold 11 = .ok (.ifCond .lt 11, 3) := by decide +kernel
theorem d_Model_hold_14 : decode b_Model_hold 14 = .ok (.iload_n 2, 1) := by decide +kernel
theorem d_Model_hold_15 : decode b_Model_hold 15 = .ok (.aload_n 0, 1) := by decide +kernel
theorem d_Model_hold_16 : decode b_Model_hold 16 = .ok (.getfield 534, 3) := by decide +kernel
theorem d_Model_hold_19 : decode b_Model_hold 19 = .ok (.if_icmp .lt 5, 3) := by decide +kernel
theorem d_Model_hold_22 : decode b_Model_hold 22 = .ok (.iconst (-1), 1) := by decide +kernel
theorem d_Model_hold_23 : decode b_Model_hold 23 = .ok (.ireturn, 1) := by decide +kernel
theorem d_Model_hold_24 : decode b_Model_hold 24 = .ok (.aload_n 0, 1) := by decide +kernel
theorem d_Model_hold_25 : decode b_Model_hold 25 = .ok (.ldc 14, 2) := by decide +kernel
theorem d_Model_hold_27 : decode b_Model_hold 27 = .ok (.putfield 15, 3) := by decide +kernel
theorem d_Model_hold_30 : decode b_Model_hold 30 = .ok (.aload_n 0, 1) := by decide +kernel
theorem d_Model_hold_31 : decode b_Model_hold 31 = .ok (.aload_n 0, 1) := by decide +kernel
theorem d_Model_hold_32 : decode b_Model_hold 32 = .ok (.getfield 531, 3) := by decide +kernel
theorem d_Model_hold_35 : decode b_Model_hold 35 = .ok (.iload_n 2, 1) := by decide +kernel
theorem d_Model_hold_36 : decode b_Model_hold 36 = .ok (.invokevirtual 182, 3) := by decide +kernel
theorem d_Model_hold_39 : decode b_Model_hold 39 = .ok (.istore_n 3, 1) := by decide +kernel
theorem d_Model_hold_40 : decode b_Model_hold 40 = .ok (.aload_n 0, 1) := by decide +kernel
theorem d_Model_hold_41 : decode b_Model_hold 41 = .ok (.aload_n 0, 1) := by decide +kernel
theorem d_Model_hold_42 : decode b_Model_hold 42 = .ok (.aload_n 0, 1) := by decide +kernel
theorem d_Model_hold_43 : decode b_Model_hold 43 = .ok (.getfield 528, 3) := by decide +kernel
theorem d_Model_hold_46 : decode b_Model_hold 46 = .ok (.invokevirtual 754, 3) := by decide +kernel
theorem d_Model_hold_49 : decode b_Model_hold 49 = .ok (.invokevirtual 757, 3) := by decide +kernel
theorem d_Model_hold_52 : decode b_Model_hold 52 = .ok (.aload_n 0, 1) := by decide +kernel
theorem d_Model_hold_53 : decode b_Model_hold 53 = .ok (.iload_n 1, 1) := by decide +kernel
theorem d_Model_hold_54 : decode b_Model_hold 54 = .ok (.aload_n 0, 1) := by decide +kernel
theorem d_Model_hold_55 : decode b_Model_hold 55 = .ok (.aload_n 0, 1) := by decide +kernel
theorem d_Model_hold_56 : decode b_Model_hold 56 = .ok (.iload_n 3, 1) := by decide +kernel
theorem d_Model_hold_57 : decode b_Model_hold 57 = .ok (.iconst 0, 1) := by decide +kernel
theorem d_Model_hold_58 : decode b_Model_hold 58 = .ok (.invokevirtual 182, 3) := by decide +kernel
theorem d_Model_hold_61 : decode b_Model_hold 61 = .ok (.aload_n 0, 1) := by decide +kernel
theorem d_Model_hold_62 : decode b_Model_hold 62 = .ok (.iload_n 3, 1) := by decide +kernel
theorem d_Model_hold_63 : decode b_Model_hold 63 = .ok (.iconst 1, 1) := by decide +kernel
theorem d_Model_hold_64 : decode b_Model_hold 64 = .ok (.invokevirtual 182, 3) := by decide +kernel
theorem d_Model_hold_67 : decode b_Model_hold 67 = .ok (.aload_n 0, 1) := by decide +kernel
theorem d_Model_hold_68 : decode b_Model_hold 68 = .ok (.aload_n 0, 1) := by decide +kernel
theorem d_Model_hold_69 : decode b_Model_hold 69 = .ok (.iload_n 3, 1) := by decide +kernel
theorem d_Model_hold_70 : decode b_Model_hold 70 = .ok (.iconst 2, 1) := by decide +kernel
theorem d_Model_hold_71 : decode b_Model_hold 71 = .ok (.invokevirtual 182, 3) := by decide +kernel
theorem d_Model_hold_74 : decode b_Model_hold 74 = .ok (.invokevirtual 382, 3) := by decide +kernel
theorem d_Model_hold_77 : decode b_Model_hold 77 = .ok (.invokevirtual 768, 3) := by decide +kernel
theorem d_Model_hold_80 : decode b_Model_hold 80 = .ok (.iload_n 3, 1) := by decide +kernel
theorem d_Model_hold_81 : decode b_Model_hold 81 = .ok (.invokevirtual 771, 3) := by decide +kernel
theorem d_Model_hold_84 : decode b_Model_hold 84 = .ok (.ireturn, 1) := by decide +kernel
abbrev b_Model_reckon : ByteArray := prog_14_method_189_code
def y_Model_reckon : MethodName := ⟨"RealHouseModel", "reckon", "(IIII)I"⟩
abbrev w_Model_reckon : List Cond := .code y_Model_reckon b_Model_reckon 17 (some .int) :: lw_g
theorem g_Model_reckon : GoodIn lw_g w_Model_reckon := tb_good1 (tb_at (i := 2574) (by decide +kernel) rfl)
theorem d_Model_reckon_0 : decode b_Model_reckon 0 = .ok (.iload_n 1, 1) := by decide +kernel
theorem d_Model_reckon_1 : decode b_Model_reckon 1 = .ok (.ifCond .lt 35, 3) := by decide +kernel
theorem d_Model_reckon_4 : decode b_Model_reckon 4 = .ok (.iload_n 1, 1) := by decide +kernel
theorem d_Model_reckon_5 : decode b_Model_reckon 5 = .ok (.bipush 7, 2) := by decide +kernel
theorem d_Model_reckon_7 : decode b_Model_reckon 7 = .ok (.if_icmp .gt 29, 3) := by decide +kernel
theorem d_Model_reckon_10 : decode b_Model_reckon 10 = .ok (.iload_n 2, 1) := by decide +kernel
theorem d_Model_reckon_11 : decode b_Model_reckon 11 = .ok (.ifCond .lt 25, 3) := by decide +kernel
theorem d_Model_reckon_14 : decode b_Model_reckon 14 = .ok (.iload_n 2, 1) := by decide +kernel
theorem d_Model_reckon_15 : decode b_Model_reckon 15 = .ok (.iconst 3, 1) := by decide +kernel
theorem d_Model_reckon_16 : decode b_Model_reckon 16 = .ok (.if_icmp .gt 20, 3) := by decide +kernel
theorem d_Model_reckon_19 : decode b_Model_reckon 19 = .ok (.aload_n 0, 1) := by decide +kernel
theorem d_Model_reckon_20 : decode b_Model_reckon 20 = .ok (.iload_n 3, 1) := by decide +kernel
theorem d_Model_reckon_21 : decode b_Model_reckon 21 = .ok (.invokevirtual 799, 3) := by decide +kernel
theorem d_Model_reckon_24 : decode b_Model_reckon 24 = .ok (.ifCond .eq 12, 3) := by decide +kernel
theorem d_Model_reckon_27 : decode b_Model_reckon 27 = .ok (.aload_n 0, 1) := by decide +kernel
theorem d_Model_reckon_28 : decode b_Model_reckon 28 = .ok (.iload 4, 2) := by decide +kernel
theorem d_Model_reckon_30 : decode b_Model_reckon 30 = .ok (.invokevirtual 799, 3) := by decide +kernel
theorem d_Model_reckon_33 : decode b_Model_reckon 33 = .ok (.ifCond .ne 5, 3) := by decide +kernel
theorem d_Model_reckon_36 : decode b_Model_reckon 36 = .ok (.iconst (-1), 1) := by decide +kernel
theorem d_Model_reckon_37 : decode b_Model_reckon 37 = .ok (.ireturn, 1) := by decide +kernel
theorem d_Model_reckon_38 : decode b_Model_reckon 38 = .ok (.aload_n 0, 1) := by decide +kernel
theorem d_Model_reckon_39 : decode b_Model_reckon 39 = .ok (.ldc 14, 2) := by decide +kernel
theorem d_Model_reckon_41 : decode b_Model_reckon 41 = .ok (.putfield 15, 3) := by decide +kernel
theorem d_Model_reckon_44 : decode b_Model_reckon 44 = .ok (.aload_n 0, 1) := by decide +kernel
theorem d_Model_reckon_45 : decode b_Model_reckon 45 = .ok (.getfield 131, 3) := by decide +kernel
theorem d_Model_reckon_48 : decode b_Model_reckon 48 = .ok (.iload_n 3, 1) := by decide +kernel
theorem d_Model_reckon_49 : decode b_Model_reckon 49 = .ok (.iaload, 1) := by decide +kernel
theorem d_Model_reckon_50 : decode b_Model_reckon 50 = .ok (.istore 5, 2) := by decide +kernel
theorem d_Model_reckon_52 : decode b_Model_reckon 52 = .ok (.aload_n 0, 1) := by decide +kernel
theorem d_Model_reckon_53 : decode b_Model_reckon 53 = .ok (.getfield 131, 3) := by decide +kernel
theorem d_Model_reckon_56 : decode b_Model_reckon 56 = .ok (.iload 4, 2) := by decide +kernel
theorem d_Model_reckon_58 : decode b_Model_reckon 58 = .ok (.iaload, 1) := by decide +kernel
theorem d_Model_reckon_59 : decode b_Model_reckon 59 = .ok (.istore 6, 2) := by decide +kernel
theorem d_Model_reckon_61 : decode b_Model_reckon 61 = .ok (.aload_n 0, 1) := by decide +kernel
theorem d_Model_reckon_62 : decode b_Model_reckon 62 = .ok (.iload 5, 2) := by decide +kernel
theorem d_Model_reckon_64 : decode b_Model_reckon 64 = .ok (.invokevirtual 504, 3) := by decide +kernel
theorem d_Model_reckon_67 : decode b_Model_reckon 67 = .ok (.aload_n 0, 1) := by decide +kernel
theorem d_Model_reckon_68 : decode b_Model_reckon 68 = .ok (.iload 6, 2) := by decide +kernel
theorem d_Model_reckon_70 : decode b_Model_reckon 70 = .ok (.invokevirtual 504, 3) := by decide +kernel
theorem d_Model_reckon_73 : decode b_Model_reckon 73 = .ok (.imul, 1) := by decide +kernel
theorem d_Model_reckon_74 : decode b_Model_reckon 74 = .ok (.bipush 8, 2) := by decide +kernel
theorem d_Model_reckon_76 : decode b_Model_reckon 76 = .ok (.if_icmp .le 5, 3) := by decide +kernel
theorem d_Model_reckon_79 : decode b_Model_reckon 79 = .ok (.iconst (-1), 1) := by decide +kernel
theorem d_Model_reckon_80 : decode b_Model_reckon 80 = .ok (.ireturn, 1) := by decide +kernel
theorem d_Model_reckon_81 : decode b_Model_reckon 81 = .ok (.iload_n 2, 1) := by decide +kernel
theorem d_Model_reckon_82 : decode b_Model_reckon 82 = .ok (.iconst 3, 1) := by decide +kernel
theorem d_Model_reckon_83 : decode b_Model_reckon 83 = .ok (.if_icmp .ne 29, 3) := by decide +kernel
theorem d_Model_reckon_86 : decode b_Model_reckon 86 = .ok (.aload_n 0, 1) := by decide +kernel
theorem d_Model_reckon_87 : decode b_Model_reckon 87 = .ok (.iload 6, 2) := by decide +kernel
theorem d_Model_reckon_89 : decode b_Model_reckon 89 = .ok (.invokevirtual 176, 3) := by decide +kernel
theorem d_Model_reckon_92 : decode b_Model_reckon 92 = .ok (.iconst 2, 1) := by decide +kernel
theorem d_Model_reckon_93 : decode b_Model_reckon 93 = .ok (.if_icmp .ne 19, 3) := by decide +kernel
theorem d_Model_reckon_96 : decode b_Model_reckon 96 = .ok (.aload_n 0, 1) := by decide +kernel
theorem d_Model_reckon_97 : decode b_Model_reckon 97 = .ok (.aload_n 0, 1) := by decide +kernel
theorem d_Model_reckon_98 : decode b_Model_reckon 98 = .ok (.iload 6, 2) := by decide +kernel
theorem d_Model_reckon_100 : decode b_Model_reckon 100 = .ok (.iconst 0, 1) := by decide +kernel
theorem d_Model_reckon_101 : decode b_Model_reckon 101 = .ok (.invokevirtual 182, 3) := by decide +kernel
theorem d_Model_reckon_104 : decode b_Model_reckon 104 = .ok (.invokevirtual 146, 3) := by decide +kernel
theorem d_Model_reckon_107 : decode b_Model_reckon 107 = .ok (.ifCond .ne 5, 3) := by decide +kernel
theorem d_Model_reckon_110 : decode b_Model_reckon 110 = .ok (.iconst (-1), 1) := by decide +kernel
theorem d_Model_reckon_111 : decode b_Model_reckon 111 = .ok (.ireturn, 1) := by decide +kernel
theorem d_Model_reckon_112 : decode b_Model_reckon 112 = .ok (.iload_n 2, 1) := by decide +kernel
theorem d_Model_reckon_113 : decode b_Model_reckon 113 = .ok (.iconst 1, 1) := by decide +kernel
theorem d_Model_reckon_114 : decode b_Model_reckon 114 = .ok (.if_icmp .ne 13, 3) := by decide +kernel
theorem d_Model_reckon_117 : decode b_Model_reckon 117 = .ok (.aload_n 0, 1) := by decide +kernel
theorem d_Model_reckon_118 : decode b_Model_reckon 118 = .ok (.iload 6, 2) := by decide +kernel
theorem d_Model_reckon_120 : decode b_Model_reckon 120 = .ok (.iconst 0, 1) := by decide +kernel
theorem d_Model_reckon_121 : decode b_Model_reckon 121 = .ok (.invokevirtual 802, 3) := by decide +kernel
theorem d_Model_reckon_124 : decode b_Model_reckon 124 = .ok (.goto 20, 3) := by decide +kernel
theorem d_Model_reckon_127 : decode b_Model_reckon 127 = .ok (.iload_n 2, 1) := by decide +kernel
theorem d_Model_reckon_128 : decode b_Model_reckon 128 = .ok (.iconst 3, 1) := by decide +kernel
theorem d_Model_reckon_129 : decode b_Model_reckon 129 = .ok (.if_icmp .ne 13, 3) := by decide +kernel
theorem d_Model_reckon_132 : decode b_Model_reckon 132 = .ok (.aload_n 0, 1) := by decide +kernel
theorem d_Model_reckon_133 : decode b_Model_reckon 133 = .ok (.iload 6, 2) := by decide +kernel
theorem d_Model_reckon_135 : decode b_Model_reckon 135 = .ok (.iconst 1, 1) := by decide +kernel
theorem d_Model_reckon_136 : decode b_Model_reckon 136 = .ok (.invokevirtual 802, 3) := by decide +kernel
theorem d_Model_reckon_139 : decode b_Model_reckon 139 = .ok (.goto 5, 3) := by decide +kernel
theorem d_Model_reckon_142 : decode b_Model_reckon 142 = .ok (.iload 6, 2) := by decide +kernel
theorem d_Model_reckon_144 : decode b_Model_reckon 144 = .ok (.istore 7, 2) := by decide +kernel
theorem d_Model_reckon_146 : decode b_Model_reckon 146 = .ok (.aload_n 0, 1) := by decide +kernel
theorem d_Model_reckon_147 : decode b_Model_reckon 147 = .ok (.aload_n 0, 1) := by decide +kernel
theorem d_Model_reckon_148 : decode b_Model_reckon 148 = .ok (.iload 5, 2) := by decide +kernel
theorem d_Model_reckon_150 : decode b_Model_reckon 150 = .ok (.invokevirtual 805, 3) := by decide +kernel
theorem d_Model_reckon_153 : decode b_Model_reckon 153 = .ok (.iload_n 2, 1) := by decide +kernel
theorem d_Model_reckon_154 : decode b_Model_reckon 154 = .ok (.iconst 2, 1) := by decide +kernel
theorem d_Model_reckon_155 : decode b_Model_reckon 155 = .ok (.if_icmp .ge 12, 3) := by decide +kernel
theorem d_Model_reckon_158 : decode b_Model_reckon 158 = .ok (.aload_n 0, 1) := by decide +kernel
theorem d_Model_reckon_159 : decode b_Model_reckon 159 = .ok (.iload 7, 2) := by decide +kernel
theorem d_Model_reckon_161 : decode b_Model_reckon 161 = .ok (.invokevirtual 808, 3) := by decide +kernel
theorem d_Model_reckon_164 : decode b_Model_reckon 164 = .ok (.goto 9, 3) := by decide +kernel
theorem d_Model_reckon_167 : decode b_Model_reckon 167 = .ok (.aload_n 0, 1) := by decide +kernel
theorem d_Model_reckon_168 : decode b_Model_reckon 168 = .ok (.iload 7, 2) := by decide +kernel
theorem d_Model_reckon_170 : decode b_Model_reckon 170 = .ok (.invokevirtual 811, 3) := by decide +kernel
theorem d_Model_reckon_173 : decode b_Model_reckon 173 = .ok (.invokevirtual 495, 3) := by decide +kernel
theorem d_Model_reckon_176 : decode b_Model_reckon 176 = .ok (.istore 8, 2) := by decide +kernel
theorem d_Model_reckon_178 : decode b_Model_reckon 178 = .ok (.aload_n 0, 1) := by decide +kernel
theorem d_Model_reckon_179 : decode b_Model_reckon 179 = .ok (.iload 8, 2) := by decide +kernel
theorem d_Model_reckon_181 : decode b_Model_reckon 181 = .ok (.invokevirtual 754, 3) := by decide +kernel
theorem d_Model_reckon_184 : decode b_Model_reckon 184 = .ok (.istore 9, 2) := by decide +kernel
theorem d_Model_reckon_186 : decode b_Model_reckon 186 = .ok (.aload_n 0, 1) := by decide +kernel
theorem d_Model_reckon_187 : decode b_Model_reckon 187 = .ok (.iload 9, 2) := by decide +kernel
theorem d_Model_reckon_189 : decode b_Model_reckon 189 = .ok (.invokevirtual 519, 3) := by decide +kernel
theorem d_Model_reckon_192 : decode b_Model_reckon 192 = .ok (.istore 10, 2) := by decide +kernel
theorem d_Model_reckon_194 : decode b_Model_reckon 194 = .ok (.aload_n 0, 1) := by decide +kernel
theorem d_Model_reckon_195 : decode b_Model_reckon 195 = .ok (.aload_n 0, 1) := by decide +kernel
theorem d_Model_reckon_196 : decode b_Model_reckon 196 = .ok (.aload_n 0, 1) := by decide +kernel
theorem d_Model_reckon_197 : decode b_Model_reckon 197 = .ok (.getfield 134, 3) := by decide +kernel
theorem d_Model_reckon_200 : decode b_Model_reckon 200 = .ok (.iload_n 3, 1) := by decide +kernel
theorem d_Model_reckon_201 : decode b_Model_reckon 201 = .ok (.iaload, 1) := by decide +kernel
theorem d_Model_reckon_202 : decode b_Model_reckon 202 = .ok (.iconst 0, 1) := by decide +kernel
theorem d_Model_reckon_203 : decode b_Model_reckon 203 = .ok (.invokevirtual 182, 3) := by decide +kernel
theorem d_Model_reckon_206 : decode b_Model_reckon 206 = .ok (.putfield 774, 3) := by decide +kernel
theorem d_Model_reckon_209 : decode b_Model_reckon 209 = .ok (.aload_n 0, 1) := by decide +kernel
theorem d_Model_reckon_210 : decode b_Model_reckon 210 = .ok (.aload_n 0, 1) := by decide +kernel
theorem d_Model_reckon_211 : decode b_Model_reckon 211 = .ok (.aload_n 0, 1) := by decide +kernel
theorem d_Model_reckon_212 : decode b_Model_reckon 212 = .ok (.getfield 134, 3) := by decide +kernel
theorem d_Model_reckon_215 : decode b_Model_reckon 215 = .ok (.iload_n 3, 1) := by decide +kernel
theorem d_Model_reckon_216 : decode b_Model_reckon 216 = .ok (.iaload, 1) := by decide +kernel
theorem d_Model_reckon_217 : decode b_Model_reckon 217 = .ok (.iconst 1, 1) := by decide +kernel
theorem d_Model_reckon_218 : decode b_Model_reckon 218 = .ok (.invokevirtual 182, 3) := by decide +kernel
theorem d_Model_reckon_221 : decode b_Model_reckon 221 = .ok (.putfield 777, 3) := by decide +kernel
theorem d_Model_reckon_224 : decode b_Model_reckon 224 = .ok (.aload_n 0, 1) := by decide +kernel
theorem d_Model_reckon_225 : decode b_Model_reckon 225 = .ok (.aload_n 0, 1) := by decide +kernel
theorem d_Model_reckon_226 : decode b_Model_reckon 226 = .ok (.aload_n 0, 1) := by decide +kernel
theorem d_Model_reckon_227 : decode b_Model_reckon 227 = .ok (.aload_n 0, 1) := by decide +kernel
theorem d_Model_reckon_228 : decode b_Model_reckon 228 = .ok (.getfield 134, 3) := by decide +kernel
theorem d_Model_reckon_231 : decode b_Model_reckon 231 = .ok (.iload_n 3, 1) := by decide +kernel
theorem d_Model_reckon_232 : decode b_Model_reckon 232 = .ok (.iaload, 1) := by decide +kernel
theorem d_Model_reckon_233 : decode b_Model_reckon 233 = .ok (.iconst 2, 1) := by decide +kernel
theorem d_Model_reckon_234 : decode b_Model_reckon 234 = .ok (.invokevirtual 182, 3) := by decide +kernel
theorem d_Model_reckon_237 : decode b_Model_reckon 237 = .ok (.invokevirtual 382, 3) := by decide +kernel
theorem d_Model_reckon_240 : decode b_Model_reckon 240 = .ok (.putfield 780, 3) := by decide +kernel
theorem d_Model_reckon_243 : decode b_Model_reckon 243 = .ok (.aload_n 0, 1) := by decide +kernel
theorem d_Model_reckon_244 : decode b_Model_reckon 244 = .ok (.aload_n 0, 1) := by decide +kernel
theorem d_Model_reckon_245 : decode b_Model_reckon 245 = .ok (.aload_n 0, 1) := by decide +kernel
theorem d_Model_reckon_246 : decode b_Model_reckon 246 = .ok (.getfield 134, 3) := by decide +kernel
theorem d_Model_reckon_249 : decode b_Model_reckon 249 = .ok (.iload 4, 2) := by decide +kernel
theorem d_Model_reckon_251 : decode b_Model_reckon 251 = .ok (.iaload, 1) := by decide +kernel
theorem d_Model_reckon_252 : decode b_Model_reckon 252 = .ok (.iconst 0, 1) := by decide +kernel
theorem d_Model_reckon_253 : decode b_Model_reckon 253 = .ok (.invokevirtual 182, 3) := by decide +kernel
theorem d_Model_reckon_256 : decode b_Model_reckon 256 = .ok (.putfield 783, 3) := by decide +kernel
theorem d_Model_reckon_259 : decode b_Model_reckon 259 = .ok (.aload_n 0, 1) := by decide +kernel
theorem d_Model_reckon_260 : decode b_Model_reckon 260 = .ok (.aload_n 0, 1) := by decide +kernel
theorem d_Model_reckon_261 : decode b_Model_reckon 261 = .ok (.aload_n 0, 1) := by decide +kernel
theorem d_Model_reckon_262 : decode b_Model_reckon 262 = .ok (.getfield 134, 3) := by decide +kernel
theorem d_Model_reckon_265 : decode b_Model_reckon 265 = .ok (.iload 4, 2) := by decide +kernel
theorem d_Model_reckon_267 : decode b_Model_reckon 267 = .ok (.iaload, 1) := by decide +kernel
theorem d_Model_reckon_268 : decode b_Model_reckon 268 = .ok (.iconst 1, 1) := by decide +kernel
theorem d_Model_reckon_269 : decode b_Model_reckon 269 = .ok (.invokevirtual 182, 3) := by decide +kernel
theorem d_Model_reckon_272 : decode b_Model_reckon 272 = .ok (.putfield 786, 3) := by decide +kernel
theorem d_Model_reckon_275 : decode b_Model_reckon 275 = .ok (.aload_n 0, 1) := by decide +kernel
theorem d_Model_reckon_276 : decode b_Model_reckon 276 = .ok (.aload_n 0, 1) := by decide +kernel
theorem d_Model_reckon_277 : decode b_Model_reckon 277 = .ok (.aload_n 0, 1) := by decide +kernel
theorem d_Model_reckon_278 : decode b_Model_reckon 278 = .ok (.aload_n 0, 1) := by decide +kernel
theorem d_Model_reckon_279 : decode b_Model_reckon 279 = .ok (.getfield 134, 3) := by decide +kernel
theorem d_Model_reckon_282 : decode b_Model_reckon 282 = .ok (.iload 4, 2) := by decide +kernel
theorem d_Model_reckon_284 : decode b_Model_reckon 284 = .ok (.iaload, 1) := by decide +kernel
theorem d_Model_reckon_285 : decode b_Model_reckon 285 = .ok (.iconst 2, 1) := by decide +kernel
theorem d_Model_reckon_286 : decode b_Model_reckon 286 = .ok (.invokevirtual 182, 3) := by decide +kernel
theorem d_Model_reckon_289 : decode b_Model_reckon 289 = .ok (.invokevirtual 382, 3) := by decide +kernel
theorem d_Model_reckon_292 : decode b_Model_reckon 292 = .ok (.putfield 789, 3) := by decide +kernel
theorem d_Model_reckon_295 : decode b_Model_reckon 295 = .ok (.iconst (-1), 1) := by decide +kernel
theorem d_Model_reckon_296 : decode b_Model_reckon 296 = .ok (.istore 11, 2) := by decide +kernel
theorem d_Model_reckon_298 : decode b_Model_reckon 298 = .ok (.aload_n 0, 1) := by decide +kernel
theorem d_Model_reckon_299 : decode b_Model_reckon 299 = .ok (.getfield 15, 3) := by decide +kernel
theorem d_Model_reckon_302 : decode b_Model_reckon 302 = .ok (.istore 12, 2) := by decide +kernel
theorem d_Model_reckon_304 : decode b_Model_reckon 304 = .ok (.iload 11, 2) := by decide +kernel
theorem d_Model_reckon_306 : decode b_Model_reckon 306 = .ok (.ifCond .ge 162, 3) := by decide +kernel
theorem d_Model_reckon_309 : decode b_Model_reckon 309 = .ok (.iconst 0, 1) := by decide +kernel
theorem d_Model_reckon_310 : decode b_Model_reckon 310 = .ok (.istore 13, 2) := by decide +kernel
theorem d_Model_reckon_312 : decode b_Model_reckon 312 = .ok (.iconst 0, 1) := by decide +kernel
theorem d_Model_reckon_313 : decode b_Model_reckon 313 = .ok (.istore 14, 2) := by decide +kernel
theorem d_Model_reckon_315 : decode b_Model_reckon 315 = .ok (.iload 14, 2) := by decide +kernel
theorem d_Model_reckon_317 : decode b_Model_reckon 317 = .ok (.aload_n 0, 1) := by decide +kernel
theorem d_Model_reckon_318 : decode b_Model_reckon 318 = .ok (.iload 10, 2) := by decide +kernel
theorem d_Model_reckon_320 : decode b_Model_reckon 320 = .ok (.invokevirtual 176, 3) := by decide +kernel
theorem d_Model_reckon_323 : decode b_Model_reckon 323 = .ok (.if_icmp .ge 51, 3) := by decide +kernel
theorem d_Model_reckon_326 : decode b_Model_reckon 326 = .ok (.aload_n 0, 1) := by decide +kernel
theorem d_Model_reckon_327 : decode b_Model_reckon 327 = .ok (.getfield 15, 3) := by decide +kernel
theorem d_Model_reckon_330 : decode b_Model_reckon 330 = .ok (.istore 15, 2) := by decide +kernel
theorem d_Model_reckon_332 : decode b_Model_reckon 332 = .ok (.aload_n 0, 1) := by decide +kernel
theorem d_Model_reckon_333 : decode b_Model_reckon 333 = .ok (.iload_n 2, 1) := by decide +kernel
theorem d_Model_reckon_334 : decode b_Model_reckon 334 = .ok (.aload_n 0, 1) := by decide +kernel
theorem d_Model_reckon_335 : decode b_Model_reckon 335 = .ok (.iload 10, 2) := by decide +kernel
theorem d_Model_reckon_337 : decode b_Model_reckon 337 = .ok (.iload 14, 2) := by decide +kernel
theorem d_Model_reckon_339 : decode b_Model_reckon 339 = .ok (.invokevirtual 182, 3) := by decide +kernel
theorem d_Model_reckon_342 : decode b_Model_reckon 342 = .ok (.invokevirtual 814, 3) := by decide +kernel
theorem d_Model_reckon_345 : decode b_Model_reckon 345 = .ok (.istore 16, 2) := by decide +kernel
theorem d_Model_reckon_347 : decode b_Model_reckon 347 = .ok (.aload_n 0, 1) := by decide +kernel
theorem d_Model_reckon_348 : decode b_Model_reckon 348 = .ok (.iload 15, 2) := by decide +kernel
theorem d_Model_reckon_350 : decode b_Model_reckon 350 = .ok (.putfield 15, 3) := by decide +kernel
theorem d_Model_reckon_353 : decode b_Model_reckon 353 = .ok (.iload 16, 2) := by decide +kernel
theorem d_Model_reckon_355 : decode b_Model_reckon 355 = .ok (.ifCond .ne 6, 3) := by decide +kernel
theorem d_Model_reckon_358 : decode b_Model_reckon 358 = .ok (.goto 10, 3) := by decide +kernel
theorem d_Model_reckon_361 : decode b_Model_reckon 361 = .ok (.iinc 13 1, 3) := by decide +kernel
theorem d_Model_reckon_364 : decode b_Model_reckon 364 = .ok (.iload 14, 2) := by decide +kernel
theorem d_Model_reckon_366 : decode b_Model_reckon 366 = .ok (.istore 11, 2) := by decide +kernel
theorem d_Model_reckon_368 : decode b_Model_reckon 368 = .ok (.iinc 14 1, 3) := by decide +kernel
theorem d_Model_reckon_371 : decode b_Model_reckon 371 = .ok (.goto (-56), 3) := by decide +kernel
theorem d_Model_reckon_374 : decode b_Model_reckon 374 = .ok (.iload 13, 2) := by decide +kernel
theorem d_Model_reckon_376 : decode b_Model_reckon 376 = .ok (.iconst 1, 1) := by decide +kernel
theorem d_Model_reckon_377 : decode b_Model_reckon 377 = .ok (.if_icmp .ne 6, 3) := by decide +kernel
theorem d_Model_reckon_380 : decode b_Model_reckon 380 = .ok (.goto 88, 3) := by decide +kernel
theorem d_Model_reckon_383 : decode b_Model_reckon 383 = .ok (.iconst (-1), 1) := by decide +kernel
theorem d_Model_reckon_384 : decode b_Model_reckon 384 = .ok (.istore 11, 2) := by decide +kernel
theorem d_Model_reckon_386 : decode b_Model_reckon 386 = .ok (.aload_n 0, 1) := by decide +kernel
theorem d_Model_reckon_387 : decode b_Model_reckon 387 = .ok (.iload_n 3, 1) := by decide +kernel
theorem d_Model_reckon_388 : decode b_Model_reckon 388 = .ok (.invokevirtual 817, 3) := by decide +kernel
theorem d_Model_reckon_391 : decode b_Model_reckon 391 = .ok (.aload_n 0, 1) := by decide +kernel
theorem d_Model_reckon_392 : decode b_Model_reckon 392 = .ok (.iload 4, 2) := by decide +kernel
theorem d_Model_reckon_394 : decode b_Model_reckon 394 = .ok (.invokevirtual 820, 3) := by decide +kernel
theorem d_Model_reckon_397 : decode b_Model_reckon 397 = .ok (.aload_n 0, 1) := by decide +kernel
theorem d_Model_reckon_398 : decode b_Model_reckon 398 = .ok (.iload 12, 2) := by decide +kernel
theorem d_Model_reckon_400 : decode b_Model_reckon 400 = .ok (.aload_n 0, 1) := by decide +kernel
theorem d_Model_reckon_401 : decode b_Model_reckon 401 = .ok (.getfield 774, 3) := by decide +kernel
theorem d_Model_reckon_404 : decode b_Model_reckon 404 = .ok (.aload_n 0, 1) := by decide +kernel
theorem d_Model_reckon_405 : decode b_Model_reckon 405 = .ok (.getfield 777, 3) := by decide +kernel
theorem d_Model_reckon_408 : decode b_Model_reckon 408 = .ok (.aload_n 0, 1) := by decide +kernel
theorem d_Model_reckon_409 : decode b_Model_reckon 409 = .ok (.getfield 783, 3) := by decide +kernel
theorem d_Model_reckon_412 : decode b_Model_reckon 412 = .ok (.aload_n 0, 1) := by decide +kernel
theorem d_Model_reckon_413 : decode b_Model_reckon 413 = .ok (.getfield 786, 3) := by decide +kernel
theorem d_Model_reckon_416 : decode b_Model_reckon 416 = .ok (.invokevirtual 556, 3) := by decide +kernel
theorem d_Model_reckon_419 : decode b_Model_reckon 419 = .ok (.istore 14, 2) := by decide +kernel
theorem d_Model_reckon_421 : decode b_Model_reckon 421 = .ok (.aload_n 0, 1) := by decide +kernel
theorem d_Model_reckon_422 : decode b_Model_reckon 422 = .ok (.aload_n 0, 1) := by decide +kernel
theorem d_Model_reckon_423 : decode b_Model_reckon 423 = .ok (.iload 14, 2) := by decide +kernel
theorem d_Model_reckon_425 : decode b_Model_reckon 425 = .ok (.iconst 0, 1) := by decide +kernel
theorem d_Model_reckon_426 : decode b_Model_reckon 426 = .ok (.invokevirtual 182, 3) := by decide +kernel
theorem d_Model_reckon_429 : decode b_Model_reckon 429 = .ok (.putfield 774, 3) := by decide +kernel
theorem d_Model_reckon_432 : decode b_Model_reckon 432 = .ok (.aload_n 0, 1) := by decide +kernel
theorem d_Model_reckon_433 : decode b_Model_reckon 433 = .ok (.aload_n 0, 1) := by decide +kernel
theorem d_Model_reckon_434 : decode b_Model_reckon 434 = .ok (.iload 14, 2) := by decide +kernel
theorem d_Model_reckon_436 : decode b_Model_reckon 436 = .ok (.iconst 1, 1) := by decide +kernel
theorem d_Model_reckon_437 : decode b_Model_reckon 437 = .ok (.invokevirtual 182, 3) := by decide +kernel
theorem d_Model_reckon_440 : decode b_Model_reckon 440 = .ok (.putfield 777, 3) := by decide +kernel
theorem d_Model_reckon_443 : decode b_Model_reckon 443 = .ok (.aload_n 0, 1) := by decide +kernel
theorem d_Model_reckon_444 : decode b_Model_reckon 444 = .ok (.aload_n 0, 1) := by decide +kernel
theorem d_Model_reckon_445 : decode b_Model_reckon 445 = .ok (.iload 14, 2) := by decide +kernel
theorem d_Model_reckon_447 : decode b_Model_reckon 447 = .ok (.iconst 2, 1) := by decide +kernel
theorem d_Model_reckon_448 : decode b_Model_reckon 448 = .ok (.invokevirtual 182, 3) := by decide +kernel
theorem d_Model_reckon_451 : decode b_Model_reckon 451 = .ok (.putfield 783, 3) := by decide +kernel
theorem d_Model_reckon_454 : decode b_Model_reckon 454 = .ok (.aload_n 0, 1) := by decide +kernel
theorem d_Model_reckon_455 : decode b_Model_reckon 455 = .ok (.aload_n 0, 1) := by decide +kernel
theorem d_Model_reckon_456 : decode b_Model_reckon 456 = .ok (.iload 14, 2) := by decide +kernel
theorem d_Model_reckon_458 : decode b_Model_reckon 458 = .ok (.iconst 3, 1) := by decide +kernel
theorem d_Model_reckon_459 : decode b_Model_reckon 459 = .ok (.invokevirtual 182, 3) := by decide +kernel
theorem d_Model_reckon_462 : decode b_Model_reckon 462 = .ok (.putfield 786, 3) := by decide +kernel
theorem d_Model_reckon_465 : decode b_Model_reckon 465 = .ok (.goto (-161), 3) := by decide +kernel
theorem d_Model_reckon_468 : decode b_Model_reckon 468 = .ok (.aload_n 0, 1) := by decide +kernel
theorem d_Model_reckon_469 : decode b_Model_reckon 469 = .ok (.iload 10, 2) := by decide +kernel
theorem d_Model_reckon_471 : decode b_Model_reckon 471 = .ok (.iload 11, 2) := by decide +kernel
theorem d_Model_reckon_473 : decode b_Model_reckon 473 = .ok (.invokevirtual 182, 3) := by decide +kernel
theorem d_Model_reckon_476 : decode b_Model_reckon 476 = .ok (.istore 13, 2) := by decide +kernel
theorem d_Model_reckon_478 : decode b_Model_reckon 478 = .ok (.aload_n 0, 1) := by decide +kernel
theorem d_Model_reckon_479 : decode b_Model_reckon 479 = .ok (.iload 9, 2) := by decide +kernel
theorem d_Model_reckon_481 : decode b_Model_reckon 481 = .ok (.invokevirtual 757, 3) := by decide +kernel
theorem d_Model_reckon_484 : decode b_Model_reckon 484 = .ok (.aload_n 0, 1) := by decide +kernel
theorem d_Model_reckon_485 : decode b_Model_reckon 485 = .ok (.aload_n 0, 1) := by decide +kernel
theorem d_Model_reckon_486 : decode b_Model_reckon 486 = .ok (.iload 13, 2) := by decide +kernel
theorem d_Model_reckon_488 : decode b_Model_reckon 488 = .ok (.iconst 0, 1) := by decide +kernel
theorem d_Model_reckon_489 : decode b_Model_reckon 489 = .ok (.invokevirtual 182, 3) := by decide +kernel
theorem d_Model_reckon_492 : decode b_Model_reckon 492 = .ok (.aload_n 0, 1) := by decide +kernel
theorem d_Model_reckon_493 : decode b_Model_reckon 493 = .ok (.iload 13, 2) := by decide +kernel
theorem d_Model_reckon_495 : decode b_Model_reckon 495 = .ok (.iconst 1, 1) := by decide +kernel
theorem d_Model_reckon_496 : decode b_Model_reckon 496 = .ok (.invokevirtual 182, 3) := by decide +kernel
theorem d_Model_reckon_499 : decode b_Model_reckon 499 = .ok (.aload_n 0, 1) := by decide +kernel
theorem d_Model_reckon_500 : decode b_Model_reckon 500 = .ok (.aload_n 0, 1) := by decide +kernel
theorem d_Model_reckon_501 : decode b_Model_reckon 501 = .ok (.iload 13, 2) := by decide +kernel
theorem d_Model_reckon_503 : decode b_Model_reckon 503 = .ok (.iconst 2, 1) := by decide +kernel
theorem d_Model_reckon_504 : decode b_Model_reckon 504 = .ok (.invokevirtual 182, 3) := by decide +kernel
theorem d_Model_reckon_507 : decode b_Model_reckon 507 = .ok (.invokevirtual 382, 3) := by decide +kernel
theorem d_Model_reckon_510 : decode b_Model_reckon 510 = .ok (.invokevirtual 768, 3) := by decide +kernel
theorem d_Model_reckon_513 : decode b_Model_reckon 513 = .ok (.istore 14, 2) := by decide +kernel
theorem d_Model_reckon_515 : decode b_Model_reckon 515 = .ok (.aload_n 0, 1) := by decide +kernel
theorem d_Model_reckon_516 : decode b_Model_reckon 516 = .ok (.lconst 1, 1) := by decide +kernel
theorem d_Model_reckon_517 : decode b_Model_reckon 517 = .ok (.invokevirtual 205, 3) := by decide +kernel
theorem d_Model_reckon_520 : decode b_Model_reckon 520 = .ok (.istore 15, 2) := by decide +kernel
theorem d_Model_reckon_522 : decode b_Model_reckon 522 = .ok (.iconst 0, 1) := by decide +kernel
theorem d_Model_reckon_523 : decode b_Model_reckon 523 = .ok (.istore 16, 2) := by decide +kernel
theorem d_Model_reckon_525 : decode b_Model_reckon 525 = .ok (.iload 16, 2) := by decide +kernel
theorem d_Model_reckon_527 : decode b_Model_reckon 527 = .ok (.bipush 60, 2) := by decide +kernel
theorem d_Model_reckon_529 : decode b_Model_reckon 529 = .ok (.if_icmp .ge 24, 3) := by decide +kernel
theorem d_Model_reckon_532 : decode b_Model_reckon 532 = .ok (.aload_n 0, 1) := by decide +kernel
theorem d_Model_reckon_533 : decode b_Model_reckon 533 = .ok (.iload 15, 2) := by decide +kernel
theorem d_Model_reckon_535 : decode b_Model_reckon 535 = .ok (.aload_n 0, 1) := by decide +kernel
theorem d_Model_reckon_536 : decode b_Model_reckon 536 = .ok (.ldc2_w 420, 3) := by decide +kernel
theorem d_Model_reckon_539 : decode b_Model_reckon 539 = .ok (.invokevirtual 205, 3) := by decide +kernel
theorem d_Model_reckon_542 : decode b_Model_reckon 542 = .ok (.invokevirtual 219, 3) := by decide +kernel
theorem d_Model_reckon_545 : decode b_Model_reckon 545 = .ok (.istore 15, 2) := by decide +kernel
theorem d_Model_reckon_547 : decode b_Model_reckon 547 = .ok (.iinc 16 1, 3) := by decide +kernel
theorem d_Model_reckon_550 : decode b_Model_reckon 550 = .ok (.goto (-25), 3) := by decide +kernel
theorem d_Model_reckon_553 : decode b_Model_reckon 553 = .ok (.iconst 0, 1) := by decide +kernel
theorem d_Model_reckon_554 : decode b_Model_reckon 554 = .ok (.istore 16, 2) := by decide +kernel
theorem d_Model_reckon_556 : decode b_Model_reckon 556 = .ok (.iload 16, 2) := by decide +kernel
theorem d_Model_reckon_558 : decode b_Model_reckon 558 = .ok (.aload_n 0, 1) := by decide +kernel
theorem d_Model_reckon_559 : decode b_Model_reckon 559 = .ok (.iload 14, 2) := by decide +kernel
theorem d_Model_reckon_561 : decode b_Model_reckon 561 = .ok (.invokevirtual 176, 3) := by decide +kernel
theorem d_Model_reckon_564 : decode b_Model_reckon 564 = .ok (.if_icmp .ge 28, 3) := by decide +kernel
theorem d_Model_reckon_567 : decode b_Model_reckon 567 = .ok (.aload_n 0, 1) := by decide +kernel
theorem d_Model_reckon_568 : decode b_Model_reckon 568 = .ok (.aload_n 0, 1) := by decide +kernel
theorem d_Model_reckon_569 : decode b_Model_reckon 569 = .ok (.iload 14, 2) := by decide +kernel
theorem d_Model_reckon_571 : decode b_Model_reckon 571 = .ok (.iload 16, 2) := by decide +kernel
theorem d_Model_reckon_573 : decode b_Model_reckon 573 = .ok (.invokevirtual 182, 3) := by decide +kernel
theorem d_Model_reckon_576 : decode b_Model_reckon 576 = .ok (.iload 15, 2) := by decide +kernel
theorem d_Model_reckon_578 : decode b_Model_reckon 578 = .ok (.invokevirtual 149, 3) := by decide +kernel
theorem d_Model_reckon_581 : decode b_Model_reckon 581 = .ok (.ifCond .lt 5, 3) := by decide +kernel
theorem d_Model_reckon_584 : decode b_Model_reckon 584 = .ok (.iconst (-1), 1) := by decide +kernel
theorem d_Model_reckon_585 : decode b_Model_reckon 585 = .ok (.ireturn, 1) := by decide +kernel
theorem d_Model_reckon_586 : decode b_Model_reckon 586 = .ok (.iinc 16 1, 3) := by decide +kernel
theorem d_Model_reckon_589 : decode b_Model_reckon 589 = .ok (.goto (-33), 3) := by decide +kernel
theorem d_Model_reckon_592 : decode b_Model_reckon 592 = .ok (.aload_n 0, 1) := by decide +kernel
theorem d_Model_reckon_593 : decode b_Model_reckon 593 = .ok (.iload_n 1, 1) := by decide +kernel
theorem d_Model_reckon_594 : decode b_Model_reckon 594 = .ok (.iload 14, 2) := by decide +kernel
theorem d_Model_reckon_596 : decode b_Model_reckon 596 = .ok (.iload 13, 2) := by decide +kernel
theorem d_Model_reckon_598 : decode b_Model_reckon 598 = .ok (.invokevirtual 771, 3) := by decide +kernel
theorem d_Model_reckon_601 : decode b_Model_reckon 601 = .ok (.ireturn, 1) := by decide +kernel
abbrev b_Model_least : ByteArray := prog_14_method_190_code
def y_Model_least : MethodName := ⟨"RealHouseModel", "least", "(I)I"⟩
abbrev w_Model_least : List Cond := .code y_Model_least b_Model_least 2 (some .int) :: lw_g
theorem g_Model_least : GoodIn lw_g w_Model_least := tb_good1 (tb_at (i := 2618) (by decide +kernel) rfl)
theorem d_Model_least_0 : decode b_Model_least 0 = .ok (.aload_n 0, 1) := by decide +kernel
theorem d_Model_least_1 : decode b_Model_least 1 = .ok (.iload_n 1, 1) := by decide +kernel
theorem d_Model_least_2 : decode b_Model_least 2 = .ok (.invokevirtual 799, 3) := by decide +kernel
theorem d_Model_least_5 : decode b_Model_least 5 = .ok (.ifCond .ne 5, 3) := by decide +kernel
theorem d_Model_least_8 : decode b_Model_least 8 = .ok (.iconst (-1), 1) := by decide +kernel
theorem d_Model_least_9 : decode b_Model_least 9 = .ok (.ireturn, 1) := by decide +kernel
theorem d_Model_least_10 : decode b_Model_least 10 = .ok (.aload_n 0, 1) := by decide +kernel
theorem d_Model_least_11 : decode b_Model_least 11 = .ok (.ldc 14, 2) := by decide +kernel
theorem d_Model_least_13 : decode b_Model_least 13 = .ok (.putfield 15, 3) := by decide +kernel
theorem d_Model_least_16 : decode b_Model_least 16 = .ok (.aload_n 0, 1) := by decide +kernel
theorem d_Model_least_17 : decode b_Model_least 17 = .ok (.aload_n 0, 1) := by decide +kernel
theorem d_Model_least_18 : decode b_Model_least 18 = .ok (.aload_n 0, 1) := by decide +kernel
theorem d_Model_least_19 : decode b_Model_least 19 = .ok (.getfield 131, 3) := by decide +kernel
theorem d_Model_least_22 : decode b_Model_least 22 = .ok (.iload_n 1, 1) := by decide +kernel
theorem d_Model_least_23 : decode b_Model_least 23 = .ok (.iaload, 1) := by decide +kernel
theorem d_Model_least_24 : decode b_Model_least 24 = .ok (.invokevirtual 498, 3) := by decide +kernel
theorem d_Model_least_27 : decode b_Model_least 27 = .ok (.invokevirtual 510, 3) := by decide +kernel
theorem d_Model_least_30 : decode b_Model_least 30 = .ok (.ireturn, 1) := by decide +kernel
abbrev b_Model_number : ByteArray := prog_14_method_191_code
def y_Model_number : MethodName := ⟨"RealHouseModel", "number", "(II)I"⟩
abbrev w_Model_number : List Cond := .code y_Model_number b_Model_number 4 (some .int) :: lw_g
theorem g_Model_number : GoodIn lw_g w_Model_number := tb_good1 (tb_at (i := 2622) (by decide +kernel) rfl)
theorem d_Model_number_0 : decode b_Model_number 0 = .ok (.aload_n 0, 1) := by decide +kernel
theorem d_Model_number_1 : decode b_Model_number 1 = .ok (.iload_n 1, 1) := by decide +kernel
theorem d_Model_number_2 : decode b_Model_number 2 = .ok (.invokevirtual 799, 3) := by decide +kernel
theorem d_Model_number_5 : decode b_Model_number 5 = .ok (.ifCond .eq 14, 3) := by decide +kernel
theorem d_Model_number_8 : decode b_Model_number 8 = .ok (.iload_n 2, 1) := by decide +kernel
theorem d_Model_number_9 : decode b_Model_number 9 = .ok (.ifCond .lt 10, 3) := by decide +kernel
theorem d_Model_number_12 : decode b_Model_number 12 = .ok (.iload_n 2, 1) := by decide +kernel
theorem d_Model_number_13 : decode b_Model_number 13 = .ok (.sipush 200, 3) := by decide +kernel
theorem d_Model_number_16 : decode b_Model_number 16 = .ok (.if_icmp .le 5, 3) := by decide +kernel
theorem d_Model_number_19 : decode b_Model_number 19 = .ok (.iconst (-1), 1) := by decide +kernel
theorem d_Model_number_20 : decode b_Model_number 20 = .ok (.ireturn, 1) := by decide +kernel
theorem d_Model_number_21 : decode b_Model_number 21 = .ok (.aload_n 0, 1) := by decide +kernel
theorem d_Model_number_22 : decode b_Model_number 22 = .ok (.ldc 14, 2) := by decide +kernel
theorem d_Model_number_24 : decode b_Model_number 24 = .ok (.putfield 15, 3) := by decide +kernel
theorem d_Model_number_27 : decode b_Model_number 27 = .ok (.aload_n 0, 1) := by decide +kernel
theorem d_Model_number_28 : decode b_Model_number 28 = .ok (.getfield 134, 3) := by decide +kernel
theorem d_Model_number_31 : decode b_Model_number 31 = .ok (.iload_n 1, 1) := by decide +kernel
theorem d_Model_number_32 : decode b_Model_number 32 = .ok (.iaload, 1) := by decide +kernel
theorem d_Model_number_33 : decode b_Model_number 33 = .ok (.istore_n 3, 1) := by decide +kernel
theorem d_Model_number_34 : decode b_Model_number 34 = .ok (.aload_n 0, 1) := by decide +kernel
theorem d_Model_number_35 : decode b_Model_number 35 = .ok (.aload_n 0, 1) := by decide +kernel
theorem d_Model_number_36 : decode b_Model_number 36 = .ok (.getfield 131, 3) := by decide +kernel
theorem d_Model_number_39 : decode b_Model_number 39 = .ok (.iload_n 1, 1) := by decide +kernel
theorem d_Model_number_40 : decode b_Model_number 40 = .ok (.iaload, 1) := by decide +kernel
theorem d_Model_number_41 : decode b_Model_number 41 = .ok (.aload_n 0, 1) := by decide +kernel
theorem d_Model_number_42 : decode b_Model_number 42 = .ok (.iload_n 3, 1) := by decide +kernel
theorem d_Model_number_43 : decode b_Model_number 43 = .ok (.iconst 0, 1) := by decide +kernel
theorem d_Model_number_44 : decode b_Model_number 44 = .ok (.invokevirtual 182, 3) := by decide +kernel
theorem d_Model_number_47 : decode b_Model_number 47 = .ok (.aload_n 0, 1) := by decide +kernel
theorem d_Model_number_48 : decode b_Model_number 48 = .ok (.iload_n 3, 1) := by decide +kernel
theorem d_Model_number_49 : decode b_Model_number 49 = .ok (.iconst 1, 1) := by decide +kernel
theorem d_Model_number_50 : decode b_Model_number 50 = .ok (.invokevirtual 182, 3) := by decide +kernel
theorem d_Model_number_53 : decode b_Model_number 53 = .ok (.aload_n 0, 1) := by decide +kernel
theorem d_Model_number_54 : decode b_Model_number 54 = .ok (.aload_n 0, 1) := by decide +kernel
theorem d_Model_number_55 : decode b_Model_number 55 = .ok (.iload_n 3, 1) := by decide +kernel
theorem d_Model_number_56 : decode b_Model_number 56 = .ok (.iconst 2, 1) := by decide +kernel
theorem d_Model_number_57 : decode b_Model_number 57 = .ok (.invokevirtual 182, 3) := by decide +kernel
theorem d_Model_number_60 : decode b_Model_number 60 = .ok (.invokevirtual 382, 3) := by decide +kernel
theorem d_Model_number_63 : decode b_Model_number 63 = .ok (.invokevirtual 537, 3) := by decide +kernel
theorem d_Model_number_66 : decode b_Model_number 66 = .ok (.aload_n 0, 1) := by decide +kernel
theorem d_Model_number_67 : decode b_Model_number 67 = .ok (.iload_n 2, 1) := by decide +kernel
theorem d_Model_number_68 : decode b_Model_number 68 = .ok (.invokevirtual 550, 3) := by decide +kernel
theorem d_Model_number_71 : decode b_Model_number 71 = .ok (.ireturn, 1) := by decide +kernel
abbrev b_Model_compare : ByteArray := prog_14_method_192_code
def y_Model_compare : MethodName := ⟨"RealHouseModel", "compare", "(II)I"⟩
abbrev w_Model_compare : List Cond := .code y_Model_compare b_Model_compare 3 (some .int) :: lw_g
theorem g_Model_compare : GoodIn lw_g w_Model_compare := tb_good1 (tb_at (i := 2626) (by decide +kernel) rfl)
theorem d_Model_compare_0 : decode b_Model_compare 0 = .ok (.aload_n 0, 1) := by decide +kernel
theorem d_Model_compare_1 : decode b_Model_compare 1 = .ok (.iload_n 1, 1) := by decide +kernel
theorem d_Model_compare_2 : decode b_Model_compare 2 = .ok (.invokevirtual 799, 3) := by decide +kernel
theorem d_Model_compare_5 : decode b_Model_compare 5 = .ok (.ifCond .eq 11, 3) := by decide +kernel
theorem d_Model_compare_8 : decode b_Model_compare 8 = .ok (.aload_n 0, 1) := by decide +kernel
theorem d_Model_compare_9 : decode b_Model_compare 9 = .ok (.iload_n 2, 1) := by decide +kernel
theorem d_Model_compare_10 : decode b_Model_compare 10 = .ok (.invokevirtual 799, 3) := by decide +kernel
theorem d_Model_compare_13 : decode b_Model_compare 13 = .ok (.ifCond .ne 5, 3) := by decide +kernel
theorem d_Model_compare_16 : decode b_Model_compare 16 = .ok (.iconst (-1), 1) := by decide +kernel
theorem d_Model_compare_17 : decode b_Model_compare 17 = .ok (.ireturn, 1) := by decide +kernel
theorem d_Model_compare_18 : decode b_Model_compare 18 = .ok (.aload_n 0, 1) := by decide +kernel
theorem d_Model_compare_19 : decode b_Model_compare 19 = .ok (.ldc 14, 2) := by decide +kernel
theorem d_Model_compare_21 : decode b_Model_compare 21 = .ok (.putfield 15, 3) := by decide +kernel
theorem d_Model_compare_24 : decode b_Model_compare 24 = .ok (.iconst 1, 1) := by decide +kernel
theorem d_Model_compare_25 : decode b_Model_compare 25 = .ok (.aload_n 0, 1) := by decide +kernel
theorem d_Model_compare_26 : decode b_Model_compare 26 = .ok (.aload_n 0, 1) := by decide +kernel
theorem d_Model_compare_27 : decode b_Model_compare 27 = .ok (.getfield 131, 3) := by decide +kernel
theorem d_Model_compare_30 : decode b_Model_compare 30 = .ok (.iload_n 1, 1) := by decide +kernel
theorem d_Model_compare_31 : decode b_Model_compare 31 = .ok (.iaload, 1) := by decide +kernel
theorem d_Model_compare_32 : decode b_Model_compare 32 = .ok (.aload_n 0, 1) := by decide +kernel
theorem d_Model_compare_33 : decode b_Model_compare 33 = .ok (.getfield 134, 3) := by decide +kernel
theorem d_Model_compare_36 : decode b_Model_compare 36 = .ok (.iload_n 1, 1) := by decide +kernel
theorem d_Model_compare_37 : decode b_Model_compare 37 = .ok (.iaload, 1) := by decide +kernel
theorem d_Model_compare_38 : decode b_Model_compare 38 = .ok (.aload_n 0, 1) := by decide +kernel
theorem d_Model_compare_39 : decode b_Model_compare 39 = .ok (.getfield 131, 3) := by decide +kernel
theorem d_Model_compare_42 : decode b_Model_compare 42 = .ok (.iload_n 2, 1) := by decide +kernel
theorem d_Model_compare_43 : decode b_Model_compare 43 = .ok (.iaload, 1) := by decide +kernel
theorem d_Model_compare_44 : decode b_Model_compare 44 = .ok (.aload_n 0, 1) := by decide +kernel
theorem d_Model_compare_45 : decode b_Model_compare 45 = .ok (.getfield 134, 3) := by decide +kernel
theorem d_Model_compare_48 : decode b_Model_compare 48 = .ok (.iload_n 2, 1) := by decide +kernel
theorem d_Model_compare_49 : decode b_Model_compare 49 = .ok (.iaload, 1) := by decide +kernel
theorem d_Model_compare_50 : decode b_Model_compare 50 = .ok (.invokevirtual 553, 3) := by decide +kernel
theorem d_Model_compare_53 : decode b_Model_compare 53 = .ok (.iadd, 1) := by decide +kernel
theorem d_Model_compare_54 : decode b_Model_compare 54 = .ok (.ireturn, 1) := by decide +kernel
abbrev b_Model_out : ByteArray := prog_14_method_76_code
def y_Model_out : MethodName := ⟨"RealHouseModel", "out", "(I)I"⟩
abbrev w_Model_out : List Cond := .code y_Model_out b_Model_out 2 (some .int) :: lw_g
theorem g_Model_out : GoodIn lw_g w_Model_out := tb_good1 (tb_at (i := 1870) (by decide +kernel) rfl)
theorem d_Model_out_0 : decode b_Model_out 0 = .ok (.iload_n 1, 1) := by decide +kernel
theorem d_Model_out_1 : decode b_Model_out 1 = .ok (.iconst (-1), 1) := by decide +kernel
theorem d_Model_out_2 : decode b_Model_out 2 = .ok (.if_icmp .ne 10, 3) := by decide +kernel
theorem d_Model_out_5 : decode b_Model_out 5 = .ok (.aload_n 0, 1) := by decide +kernel
theorem d_Model_out_6 : decode b_Model_out 6 = .ok (.getfield 388, 3) := by decide +kernel
theorem d_Model_out_9 : decode b_Model_out 9 = .ok (.goto 25, 3) := by decide +kernel
theorem d_Model_out_12 : decode b_Model_out 12 = .ok (.iload_n 1, 1) := by decide +kernel
theorem d_Model_out_13 : decode b_Model_out 13 = .ok (.ifCond .lt 20, 3) := by decide +kernel
theorem d_Model_out_16 : decode b_Model_out 16 = .ok (.iload_n 1, 1) := by decide +kernel
theorem d_Model_out_17 : decode b_Model_out 17 = .ok (.aload_n 0, 1) := by decide +kernel
theorem d_Model_out_18 : decode b_Model_out 18 = .ok (.getfield 388, 3) := by decide +kernel
theorem d_Model_out_21 : decode b_Model_out 21 = .ok (.if_icmp .ge 12, 3) := by decide +kernel
theorem d_Model_out_24 : decode b_Model_out 24 = .ok (.aload_n 0, 1) := by decide +kernel
theorem d_Model_out_25 : decode b_Model_out 25 = .ok (.getfield 34, 3) := by decide +kernel
theorem d_Model_out_28 : decode b_Model_out 28 = .ok (.iload_n 1, 1) := by decide +kernel
theorem d_Model_out_29 : decode b_Model_out 29 = .ok (.iaload, 1) := by decide +kernel
theorem d_Model_out_30 : decode b_Model_out 30 = .ok (.goto 4, 3) := by decide +kernel
theorem d_Model_out_33 : decode b_Model_out 33 = .ok (.iconst (-1), 1) := by decide +kernel
theorem d_Model_out_34 : decode b_Model_out 34 = .ok (.ireturn, 1) := by decide +kernel
abbrev b_Model_roots : ByteArray := prog_14_method_111_code
def y_Model_roots : MethodName := ⟨"RealHouseModel", "roots", "(I)I"⟩
abbrev w_Model_roots : List Cond := .code y_Model_roots b_Model_roots 6 (some .int) :: lw_g
theorem g_Model_roots : GoodIn lw_g w_Model_roots := tb_good1 (tb_at (i := 2148) (by decide +kernel) rfl)
theorem d_Model_roots_0 : decode b_Model_roots 0 = .ok (.aload_n 0, 1) := by decide +kernel
theorem d_Model_roots_1 : decode b_Model_roots 1 = .ok (.iload_n 1, 1) := by decide +kernel
theorem d_Model_roots_2 : decode b_Model_roots 2 = .ok (.invokevirtual 471, 3) := by decide +kernel
theorem d_Model_roots_5 : decode b_Model_roots 5 = .ok (.ifCond .ne 5, 3) := by decide +kernel
theorem d_Model_roots_8 : decode b_Model_roots 8 = .ok (.iconst (-1), 1) := by decide +kernel
theorem d_Model_roots_9 : decode b_Model_roots 9 = .ok (.ireturn, 1) := by decide +kernel
theorem d_Model_roots_10 : decode b_Model_roots 10 = .ok (.aload_n 0, 1) := by decide +kernel
theorem d_Model_roots_11 : decode b_Model_roots 11 = .ok (.iload_n 1, 1) := by decide +kernel
theorem d_Model_roots_12 : decode b_Model_roots 12 = .ok (.invokevirtual 513, 3) := by decide +kernel
theorem d_Model_roots_15 : decode b_Model_roots 15 = .ok (.istore_n 2, 1) := by decide +kernel
theorem d_Model_roots_16 : decode b_Model_roots 16 = .ok (.iload_n 2, 1) := by decide +kernel
theorem d_Model_roots_17 : decode b_Model_roots 17 = .ok (.ifCond .ge 5, 3) := by decide +kernel
theorem d_Model_roots_20 : decode b_Model_roots 20 = .ok (.iload_n 2, 1) := by decide +kernel
theorem d_Model_roots_21 : decode b_Model_roots 21 = .ok (.ireturn, 1) := by decide +kernel
theorem d_Model_roots_22 : decode b_Model_roots 22 = .ok (.aload_n 0, 1) := by decide +kernel
theorem d_Model_roots_23 : decode b_Model_roots 23 = .ok (.iconst 0, 1) := by decide +kernel
theorem d_Model_roots_24 : decode b_Model_roots 24 = .ok (.invokevirtual 501, 3) := by decide +kernel
theorem d_Model_roots_27 : decode b_Model_roots 27 = .ok (.istore_n 3, 1) := by decide +kernel
theorem d_Model_roots_28 : decode b_Model_roots 28 = .ok (.aload_n 0, 1) := by decide +kernel
theorem d_Model_roots_29 : decode b_Model_roots 29 = .ok (.iload_n 3, 1) := by decide +kernel
theorem d_Model_roots_30 : decode b_Model_roots 30 = .ok (.invokevirtual 176, 3) := by decide +kernel
theorem d_Model_roots_33 : decode b_Model_roots 33 = .ok (.ifCond .ne 5, 3) := by decide +kernel
theorem d_Model_roots_36 : decode b_Model_roots 36 = .ok (.iconst (-1), 1) := by decide +kernel
theorem d_Model_roots_37 : decode b_Model_roots 37 = .ok (.ireturn, 1) := by decide +kernel
theorem d_Model_roots_38 : decode b_Model_roots 38 = .ok (.aload_n 0, 1) := by decide +kernel
theorem d_Model_roots_39 : decode b_Model_roots 39 = .ok (.iconst 0, 1) := by decide +kernel
theorem d_Model_roots_40 : decode b_Model_roots 40 = .ok (.putfield 385, 3) := by decide +kernel
theorem d_Model_roots_43 : decode b_Model_roots 43 = .ok (.aload_n 0, 1) := by decide +kernel
theorem d_Model_roots_44 : decode b_Model_roots 44 = .ok (.iload_n 3, 1) := by decide +kernel
theorem d_Model_roots_45 : decode b_Model_roots 45 = .ok (.invokevirtual 516, 3) := by decide +kernel
theorem d_Model_roots_48 : decode b_Model_roots 48 = .ok (.istore 4, 2) := by decide +kernel
theorem d_Model_roots_50 : decode b_Model_roots 50 = .ok (.aload_n 0, 1) := by decide +kernel
theorem d_Model_roots_51 : decode b_Model_roots 51 = .ok (.iload 4, 2) := by decide +kernel
theorem d_Model_roots_53 : decode b_Model_roots 53 = .ok (.invokevirtual 519, 3) := by decide +kernel
theorem d_Model_roots_56 : decode b_Model_roots 56 = .ok (.istore 5, 2) := by decide +kernel
theorem d_Model_roots_58 : decode b_Model_roots 58 = .ok (.aload_n 0, 1) := by decide +kernel
theorem d_Model_roots_59 : decode b_Model_roots 59 = .ok (.aload_n 0, 1) := by decide +kernel
theorem d_Model_roots_60 : decode b_Model_roots 60 = .ok (.iconst 0, 1) := by decide +kernel
theorem d_Model_roots_61 : decode b_Model_roots 61 = .ok (.iload_n 3, 1) := by decide +kernel
theorem d_Model_roots_62 : decode b_Model_roots 62 = .ok (.iconst 1, 1) := by decide +kernel
theorem d_Model_roots_63 : decode b_Model_roots 63 = .ok (.invokevirtual 522, 3) := by decide +kernel
theorem d_Model_roots_66 : decode b_Model_roots 66 = .ok (.putfield 525, 3) := by decide +kernel
theorem d_Model_roots_69 : decode b_Model_roots 69 = .ok (.aload_n 0, 1) := by decide +kernel
theorem d_Model_roots_70 : decode b_Model_roots 70 = .ok (.aload_n 0, 1) := by decide +kernel
theorem d_Model_roots_71 : decode b_Model_roots 71 = .ok (.aload_n 0, 1) := by decide +kernel
theorem d_Model_roots_72 : decode b_Model_roots 72 = .ok (.getfield 198, 3) := by decide +kernel
theorem d_Model_roots_75 : decode b_Model_roots 75 = .ok (.iload 4, 2) := by decide +kernel
theorem d_Model_roots_77 : decode b_Model_roots 77 = .ok (.iconst 1, 1) := by decide +kernel
theorem d_Model_roots_78 : decode b_Model_roots 78 = .ok (.invokevirtual 522, 3) := by decide +kernel
theorem d_Model_roots_81 : decode b_Model_roots 81 = .ok (.putfield 528, 3) := by decide +kernel
theorem d_Model_roots_84 : decode b_Model_roots 84 = .ok (.aload_n 0, 1) := by decide +kernel
theorem d_Model_roots_85 : decode b_Model_roots 85 = .ok (.aload_n 0, 1) := by decide +kernel
theorem d_Model_roots_86 : decode b_Model_roots 86 = .ok (.aload_n 0, 1) := by decide +kernel
theorem d_Model_roots_87 : decode b_Model_roots 87 = .ok (.getfield 198, 3) := by decide +kernel
theorem d_Model_roots_90 : decode b_Model_roots 90 = .ok (.iload 5, 2) := by decide +kernel
theorem d_Model_roots_92 : decode b_Model_roots 92 = .ok (.iconst 2, 1) := by decide +kernel
theorem d_Model_roots_93 : decode b_Model_roots 93 = .ok (.invokevirtual 522, 3) := by decide +kernel
theorem d_Model_roots_96 : decode b_Model_roots 96 = .ok (.putfield 531, 3) := by decide +kernel
theorem d_Model_roots_99 : decode b_Model_roots 99 = .ok (.aload_n 0, 1) := by decide +kernel
theorem d_Model_roots_100 : decode b_Model_roots 100 = .ok (.aload_n 0, 1) := by decide +kernel
theorem d_Model_roots_101 : decode b_Model_roots 101 = .ok (.iload 5, 2) := by decide +kernel
theorem d_Model_roots_103 : decode b_Model_roots 103 = .ok (.invokevirtual 176, 3) := by decide +kernel
theorem d_Model_roots_106 : decode b_Model_roots 106 = .ok (.putfield 534, 3) := by decide +kernel
theorem d_Model_roots_109 : decode b_Model_roots 109 = .ok (.aload_n 0, 1) := by decide +kernel
theorem d_Model_roots_110 : decode b_Model_roots 110 = .ok (.getfield 534, 3) := by decide +kernel
theorem d_Model_roots_113 : decode b_Model_roots 113 = .ok (.ireturn, 1) := by decide +kernel
abbrev b_Model_factors : ByteArray := prog_14_method_173_code
def y_Model_factors : MethodName := ⟨"RealHouseModel", "factors", "(I)I"⟩
abbrev w_Model_factors : List Cond := .code y_Model_factors b_Model_factors 9 (some .int) :: lw_g
theorem g_Model_factors : GoodIn lw_g w_Model_factors := tb_good1 (tb_at (i := 2466) (by decide +kernel) rfl)
theorem d_Model_factors_0 : decode b_Model_factors 0 = .ok (.aload_n 0, 1) := by decide +kernel
theorem d_Model_factors_1 : decode b_Model_factors 1 = .ok (.iload_n 1, 1) := by decide +kernel
theorem d_Model_factors_2 : decode b_Model_factors 2 = .ok (.invokevirtual 471, 3) := by decide +kernel
theorem d_Model_factors_5 : decode b_Model_factors 5 = .ok (.ifCond .ne 5, 3) := by decide +kernel
theorem d_Model_factors_8 : decode b_Model_factors 8 = .ok (.iconst (-1), 1) := by decide +kernel
theorem d_Model_factors_9 : decode b_Model_factors 9 = .ok (.ireturn, 1) := by decide +kernel
theorem d_Model_factors_10 : decode b_Model_factors 10 = .ok (.aload_n 0, 1) := by decide +kernel
theorem d_Model_factors_11 : decode b_Model_factors 11 = .ok (.iload_n 1, 1) := by decide +kernel
theorem d_Model_factors_12 : decode b_Model_factors 12 = .ok (.invokevirtual 513, 3) := by decide +kernel
theorem d_Model_factors_15 : decode b_Model_factors 15 = .ok (.istore_n 2, 1) := by decide +kernel
theorem d_Model_factors_16 : decode b_Model_factors 16 = .ok (.iload_n 2, 1) := by decide +kernel
theorem d_Model_factors_17 : decode b_Model_factors 17 = .ok (.ifCond .ge 5, 3) := by decide +kernel
theorem d_Model_factors_20 : decode b_Model_factors 20 = .ok (.iload_n 2, 1) := by decide +kernel
theorem d_Model_factors_21 : decode b_Model_factors 21 = .ok (.ireturn, 1) := by decide +kernel
theorem d_Model_factors_22 : decode b_Model_factors 22 = .ok (.aload_n 0, 1) := by decide +kernel
theorem d_Model_factors_23 : decode b_Model_factors 23 = .ok (.iconst 0, 1) := by decide +kernel
theorem d_Model_factors_24 : decode b_Model_factors 24 = .ok (.invokevirtual 501, 3) := by decide +kernel
theorem d_Model_factors_27 : decode b_Model_factors 27 = .ok (.istore_n 3, 1) := by decide +kernel
theorem d_Model_factors_28 : decode b_Model_factors 28 = .ok (.aload_n 0, 1) := by decide +kernel
theorem d_Model_factors_29 : decode b_Model_factors 29 = .ok (.iload_n 3, 1) := by decide +kernel
theorem d_Model_factors_30 : decode b_Model_factors 30 = .ok (.invokevirtual 176, 3) := by decide +kernel
theorem d_Model_factors_33 : decode b_Model_factors 33 = .ok (.ifCond .ne 5, 3) := by decide +kernel
theorem d_Model_factors_36 : decode b_Model_factors 36 = .ok (.iconst (-1), 1) := by decide +kernel
theorem d_Model_factors_37 : decode b_Model_factors 37 = .ok (.ireturn, 1) := by decide +kernel
theorem d_Model_factors_38 : decode b_Model_factors 38 = .ok (.aload_n 0, 1) := by decide +kernel
theorem d_Model_factors_39 : decode b_Model_factors 39 = .ok (.iconst 0, 1) := by decide +kernel
theorem d_Model_factors_40 : decode b_Model_factors 40 = .ok (.putfield 385, 3) := by decide +kernel
theorem d_Model_factors_43 : decode b_Model_factors 43 = .ok (.aload_n 0, 1) := by decide +kernel
theorem d_Model_factors_44 : decode b_Model_factors 44 = .ok (.aload_n 0, 1) := by decide +kernel
theorem d_Model_factors_45 : decode b_Model_factors 45 = .ok (.iload_n 3, 1) := by decide +kernel
theorem d_Model_factors_46 : decode b_Model_factors 46 = .ok (.invokevirtual 754, 3) := by decide +kernel
theorem d_Model_factors_49 : decode b_Model_factors 49 = .ok (.invokevirtual 757, 3) := by decide +kernel
theorem d_Model_factors_52 : decode b_Model_factors 52 = .ok (.aload_n 0, 1) := by decide +kernel
theorem d_Model_factors_53 : decode b_Model_factors 53 = .ok (.ldc_w 760, 3) := by decide +kernel
theorem d_Model_factors_56 : decode b_Model_factors 56 = .ok (.putfield 198, 3) := by decide +kernel
theorem d_Model_factors_59 : decode b_Model_factors 59 = .ok (.aload_n 0, 1) := by decide +kernel
theorem d_Model_factors_60 : decode b_Model_factors 60 = .ok (.aload_n 0, 1) := by decide +kernel
theorem d_Model_factors_61 : decode b_Model_factors 61 = .ok (.getfield 748, 3) := by decide +kernel
theorem d_Model_factors_64 : decode b_Model_factors 64 = .ok (.putfield 761, 3) := by decide +kernel
theorem d_Model_factors_67 : decode b_Model_factors 67 = .ok (.iconst 0, 1) := by decide +kernel
theorem d_Model_factors_68 : decode b_Model_factors 68 = .ok (.istore 4, 2) := by decide +kernel
theorem d_Model_factors_70 : decode b_Model_factors 70 = .ok (.iload 4, 2) := by decide +kernel
theorem d_Model_factors_72 : decode b_Model_factors 72 = .ok (.aload_n 0, 1) := by decide +kernel
theorem d_Model_factors_73 : decode b_Model_factors 73 = .ok (.getfield 748, 3) := by decide +kernel
theorem d_Model_factors_76 : decode b_Model_factors 76 = .ok (.if_icmp .ge 166, 3) := by decide +kernel
theorem d_Model_factors_79 : decode b_Model_factors 79 = .ok (.iconst (-1), 1) := by decide +kernel
theorem d_Model_factors_80 : decode b_Model_factors 80 = .ok (.istore 5, 2) := by decide +kernel
theorem d_Model_factors_82 : decode b_Model_factors 82 = .ok (.iconst 0, 1) := by decide +kernel
theorem d_Model_factors_83 : decode b_Model_factors 83 = .ok (.istore 6, 2) := by decide +kernel
theorem d_Model_factors_85 : decode b_Model_factors 85 = .ok (.iload 6, 2) := by decide +kernel
theorem d_Model_factors_87 : decode b_Model_factors 87 = .ok (.aload_n 0, 1) := by decide +kernel
theorem d_Model_factors_88 : decode b_Model_factors 88 = .ok (.getfield 748, 3) := by decide +kernel
theorem d_Model_factors_91 : decode b_Model_factors 91 = .ok (.if_icmp .ge 49, 3) := by decide +kernel
theorem d_Model_factors_94 : decode b_Model_factors 94 = .ok (.aload_n 0, 1) := by decide +kernel
theorem d_Model_factors_95 : decode b_Model_factors 95 = .ok (.getfield 116, 3) := by decide +kernel
theorem d_Model_factors_98 : decode b_Model_factors 98 = .ok (.iload 6, 2) := by decide +kernel
theorem d_Model_factors_100 : decode b_Model_factors 100 = .ok (.iaload, 1) := by decide +kernel
theorem d_Model_factors_101 : decode b_Model_factors 101 = .ok (.ifCond .lt 33, 3) := by decide +kernel
theorem d_Model_factors_104 : decode b_Model_factors 104 = .ok (.iload 5, 2) := by decide +kernel
theorem d_Model_factors_106 : decode b_Model_factors 106 = .ok (.ifCond .lt 24, 3) := by decide +kernel
theorem d_Model_factors_109 : decode b_Model_factors 109 = .ok (.aload_n 0, 1) := by decide +kernel
theorem d_Model_factors_110 : decode b_Model_factors 110 = .ok (.aload_n 0, 1) := by decide +kernel
theorem d_Model_factors_111 : decode b_Model_factors 111 = .ok (.getfield 116, 3) := by decide +kernel
theorem d_Model_factors_114 : decode b_Model_factors 114 = .ok (.iload 6, 2) := by decide +kernel
theorem d_Model_factors_116 : decode b_Model_factors 116 = .ok (.iaload, 1) := by decide +kernel
theorem d_Model_factors_117 : decode b_Model_factors 117 = .ok (.aload_n 0, 1) := by decide +kernel
theorem d_Model_factors_118 : decode b_Model_factors 118 = .ok (.getfield 116, 3) := by decide +kernel
theorem d_Model_factors_121 : decode b_Model_factors 121 = .ok (.iload 5, 2) := by decide +kernel
theorem d_Model_factors_123 : decode b_Model_factors 123 = .ok (.iaload, 1) := by decide +kernel
theorem d_Model_factors_124 : decode b_Model_factors 124 = .ok (.invokevirtual 764, 3) := by decide +kernel
theorem d_Model_factors_127 : decode b_Model_factors 127 = .ok (.ifCond .eq 7, 3) := by decide +kernel
theorem d_Model_factors_130 : decode b_Model_factors 130 = .ok (.iload 6, 2) := by decide +kernel
theorem d_Model_factors_132 : decode b_Model_factors 132 = .ok (.istore 5, 2) := by decide +kernel
theorem d_Model_factors_134 : decode b_Model_factors 134 = .ok (.iinc 6 1, 3) := by decide +kernel
theorem d_Model_factors_137 : decode b_Model_factors 137 = .ok (.goto (-52), 3) := by decide +kernel
theorem d_Model_factors_140 : decode b_Model_factors 140 = .ok (.aload_n 0, 1) := by decide +kernel
theorem d_Model_factors_141 : decode b_Model_factors 141 = .ok (.getfield 116, 3) := by decide +kernel
theorem d_Model_factors_144 : decode b_Model_factors 144 = .ok (.iload 5, 2) := by decide +kernel
theorem d_Model_factors_146 : decode b_Model_factors 146 = .ok (.iaload, 1) := by decide +kernel
theorem d_Model_factors_147 : decode b_Model_factors 147 = .ok (.istore 6, 2) := by decide +kernel
theorem d_Model_factors_149 : decode b_Model_factors 149 = .ok (.aload_n 0, 1) := by decide +kernel
theorem d_Model_factors_150 : decode b_Model_factors 150 = .ok (.getfield 116, 3) := by decide +kernel
theorem d_Model_factors_153 : decode b_Model_factors 153 = .ok (.iload 5, 2) := by decide +kernel
theorem d_Model_factors_155 : decode b_Model_factors 155 = .ok (.iconst (-1), 1) := by decide +kernel
theorem d_Model_factors_156 : decode b_Model_factors 156 = .ok (.iastore, 1) := by decide +kernel
theorem d_Model_factors_157 : decode b_Model_factors 157 = .ok (.iconst 0, 1) := by decide +kernel
theorem d_Model_factors_158 : decode b_Model_factors 158 = .ok (.istore 7, 2) := by decide +kernel
theorem d_Model_factors_160 : decode b_Model_factors 160 = .ok (.iload_n 3, 1) := by decide +kernel
theorem d_Model_factors_161 : decode b_Model_factors 161 = .ok (.istore 8, 2) := by decide +kernel
theorem d_Model_factors_163 : decode b_Model_factors 163 = .ok (.aload_n 0, 1) := by decide +kernel
theorem d_Model_factors_164 : decode b_Model_factors 164 = .ok (.iload 8, 2) := by decide +kernel
theorem d_Model_factors_166 : decode b_Model_factors 166 = .ok (.invokevirtual 176, 3) := by decide +kernel
theorem d_Model_factors_169 : decode b_Model_factors 169 = .ok (.aload_n 0, 1) := by decide +kernel
theorem d_Model_factors_170 : decode b_Model_factors 170 = .ok (.iload 6, 2) := by decide +kernel
theorem d_Model_factors_172 : decode b_Model_factors 172 = .ok (.invokevirtual 176, 3) := by decide +kernel
theorem d_Model_factors_175 : decode b_Model_factors 175 = .ok (.if_icmp .lt 34, 3) := by decide +kernel
theorem d_Model_factors_178 : decode b_Model_factors 178 = .ok (.aload_n 0, 1) := by decide +kernel
theorem d_Model_factors_179 : decode b_Model_factors 179 = .ok (.aload_n 0, 1) := by decide +kernel
theorem d_Model_factors_180 : decode b_Model_factors 180 = .ok (.iload 8, 2) := by decide +kernel
theorem d_Model_factors_182 : decode b_Model_factors 182 = .ok (.iload 6, 2) := by decide +kernel
theorem d_Model_factors_184 : decode b_Model_factors 184 = .ok (.invokevirtual 246, 3) := by decide +kernel
theorem d_Model_factors_187 : decode b_Model_factors 187 = .ok (.invokevirtual 176, 3) := by decide +kernel
theorem d_Model_factors_190 : decode b_Model_factors 190 = .ok (.ifCond .ne 19, 3) := by decide +kernel
theorem d_Model_factors_193 : decode b_Model_factors 193 = .ok (.aload_n 0, 1) := by decide +kernel
theorem d_Model_factors_194 : decode b_Model_factors 194 = .ok (.iload 8, 2) := by decide +kernel
theorem d_Model_factors_196 : decode b_Model_factors 196 = .ok (.iload 6, 2) := by decide +kernel
theorem d_Model_factors_198 : decode b_Model_factors 198 = .ok (.invokevirtual 257, 3) := by decide +kernel
theorem d_Model_factors_201 : decode b_Model_factors 201 = .ok (.istore 8, 2) := by decide +kernel
theorem d_Model_factors_203 : decode b_Model_factors 203 = .ok (.iinc 7 1, 3) := by decide +kernel
theorem d_Model_factors_206 : decode b_Model_factors 206 = .ok (.goto (-43), 3) := by decide +kernel
theorem d_Model_factors_209 : decode b_Model_factors 209 = .ok (.aload_n 0, 1) := by decide +kernel
theorem d_Model_factors_210 : decode b_Model_factors 210 = .ok (.getfield 125, 3) := by decide +kernel
theorem d_Model_factors_213 : decode b_Model_factors 213 = .ok (.iload 4, 2) := by decide +kernel
theorem d_Model_factors_215 : decode b_Model_factors 215 = .ok (.iload 7, 2) := by decide +kernel
theorem d_Model_factors_217 : decode b_Model_factors 217 = .ok (.iastore, 1) := by decide +kernel
theorem d_Model_factors_218 : decode b_Model_factors 218 = .ok (.aload_n 0, 1) := by decide +kernel
theorem d_Model_factors_219 : decode b_Model_factors 219 = .ok (.getfield 122, 3) := by decide +kernel
theorem d_Model_factors_222 : decode b_Model_factors 222 = .ok (.iload 4, 2) := by decide +kernel
theorem d_Model_factors_224 : decode b_Model_factors 224 = .ok (.aload_n 0, 1) := by decide +kernel
theorem d_Model_factors_225 : decode b_Model_factors 225 = .ok (.aload_n 0, 1) := by decide +kernel
theorem d_Model_factors_226 : decode b_Model_factors 226 = .ok (.getfield 198, 3) := by decide +kernel
theorem d_Model_factors_229 : decode b_Model_factors 229 = .ok (.iload 6, 2) := by decide +kernel
theorem d_Model_factors_231 : decode b_Model_factors 231 = .ok (.iconst 1, 1) := by decide +kernel
theorem d_Model_factors_232 : decode b_Model_factors 232 = .ok (.invokevirtual 522, 3) := by decide +kernel
theorem d_Model_factors_235 : decode b_Model_factors 235 = .ok (.iastore, 1) := by decide +kernel
theorem d_Model_factors_236 : decode b_Model_factors 236 = .ok (.iinc 4 1, 3) := by decide +kernel
theorem d_Model_factors_239 : decode b_Model_factors 239 = .ok (.goto (-169), 3) := by decide +kernel
theorem d_Model_factors_242 : decode b_Model_factors 242 = .ok (.aload_n 0, 1) := by decide +kernel
theorem d_Model_factors_243 : decode b_Model_factors 243 = .ok (.getfield 761, 3) := by decide +kernel
theorem d_Model_factors_246 : decode b_Model_factors 246 = .ok (.ireturn, 1) := by decide +kernel
set_option maxHeartbeats 4000000 in
set_option maxRecDepth 100000 in
/-- times of a fresh reference -/
theorem c_Model_times_0 (l : Launch) (dC : Nat → ClassId) (dI : Nat → Nat → Nat) (sz : Nat) (h0 : Nat) (m_mem : Nat) (m_polys : Nat) (m_chains : Nat) (m_pairs : Nat) (m_zeros : Nat) (m_tape : Nat) (m_outs : Nat) (m_text : Nat) (m_rows : Nat) (m_digits : Nat) (m_entries : Nat) (m_minors : Nat) (m_pointX : Nat) (m_pointH : Nat) (m_pointY : Nat) (m_those : Nat) (m_does : Nat) (m_atomOf : Nat) (m_atomRel : Nat) (m_signs : Nat) (m_stack : Nat) (m_xPoly : Nat) (m_xRoot : Nat) (m_inBoth : Nat) (m_truth : Nat) (m_hasEnd : Nat) (m_belongs : Nat) (m_isSingle : Nat) (m_endPoly : Nat) (m_endRoot : Nat) (m_small : Nat) (m_smallDegree : Nat) (m_irreducible : Nat) (m_stackOf : Nat) (m_factorAt : Nat) (m_factorPower : Nat) (m_isKept : Nat) (m_keptPoly : Nat) (m_keptRoot : Nat) (a1 : Int32)  : Met l y_Model_times w_Model_times ({ frames := 0, cells := 0, slots := 0, locals := 0 }) (va_Pc [.ref h0, .int a1] (fun U => U.heap.size = sz ∧ va_P (dC, dI) classes [(h0, .inr (12, [.ref m_mem, .int 232000, .int 0, .int 0, .int 0, .int 0, .int 0, .int 0, .int 0, .int 0, .int 0, .ref m_polys, .ref m_chains, .ref m_pairs, .int 0, .int 0, .int 0, .ref m_zeros, .ref m_tape, .ref m_outs, .ref m_text, .int 0, .int 0, .int 0, .int 0, .int 0, .int 0, .int 0, .ref m_rows, .ref m_digits, .ref m_entries, .ref m_minors, .int 0, .int 0, .int 0, .int 0, .int 0, .int 0, .ref m_pointX, .ref m_pointH, .ref m_pointY, .ref m_those, .int 0, .int 0, .int 0, .int 0, .int 0, .ref m_does, .ref m_atomOf, .ref m_atomRel, .int 0, .int 0, .int 0, .ref m_signs, .ref m_stack, .ref m_xPoly, .ref m_xRoot, .int 0, .ref m_inBoth, .int 0, .ref m_truth, .int 0, .ref m_hasEnd, .ref m_belongs, .ref m_isSingle, .ref m_endPoly, .ref m_endRoot, .int 0, .ref m_small, .ref m_smallDegree, .int 0, .ref m_irreducible, .int 0, .ref m_stackOf, .int 0, .ref m_factorAt, .ref m_factorPower, .ref m_isKept, .ref m_keptPoly, .ref m_keptRoot, .int 0, .int 0, .int 0, .int 0, .int 0, .int 0]))] U.heap ∧ va_K (dC, dI) classes [] U ∧ va_D (fun _ => True) [(h0, .inr (12, [.ref m_mem, .int 232000, .int 0, .int 0, .int 0, .int 0, .int 0, .int 0, .int 0, .int 0, .int 0, .ref m_polys, .ref m_chains, .ref m_pairs, .int 0, .int 0, .int 0, .ref m_zeros, .ref m_tape, .ref m_outs, .ref m_text, .int 0, .int 0, .int 0, .int 0, .int 0, .int 0, .int 0, .ref m_rows, .ref m_digits, .ref m_entries, .ref m_minors, .int 0, .int 0, .int 0, .int 0, .int 0, .int 0, .ref m_pointX, .ref m_pointH, .ref m_pointY, .ref m_those, .int 0, .int 0, .int 0, .int 0, .int 0, .ref m_does, .ref m_atomOf, .ref m_atomRel, .int 0, .int 0, .int 0, .ref m_signs, .ref m_stack, .ref m_xPoly, .ref m_xRoot, .int 0, .ref m_inBoth, .int 0, .ref m_truth, .int 0, .ref m_hasEnd, .ref m_belongs, .ref m_isSingle, .ref m_endPoly, .ref m_endRoot, .int 0, .ref m_small, .ref m_smallDegree, .int 0, .ref m_irreducible, .int 0, .ref m_stackOf, .int 0, .ref m_factorAt, .ref m_factorPower, .ref m_isKept, .ref m_keptPoly, .ref m_keptRoot, .int 0, .int 0, .int 0, .int 0, .int 0, .int 0]))] ∧ nx_K U)) (va_Qi (fun (r : Int32) (_ : Unit) => r = (-1)) (fun _ t => va_P (dC, dI) classes [] t.heap ∧ va_K (dC, dI) classes [] t ∧ va_D (va_A [(h0, .inr (12, [.ref m_mem, .int 232000, .int 0, .int 0, .int 0, .int 0, .int 0, .int 0, .int 0, .int 0, .int 0, .ref m_polys, .ref m_chains, .ref m_pairs, .int 0, .int 0, .int 0, .ref m_zeros, .ref m_tape, .ref m_outs, .ref m_text, .int 0, .int 0, .int 0, .int 0, .int 0, .int 0, .int 0, .ref m_rows, .ref m_digits, .ref m_entries, .ref m_minors, .int 0, .int 0, .int 0, .int 0, .int 0, .int 0, .ref m_pointX, .ref m_pointH, .ref m_pointY, .ref m_those, .int 0, .int 0, .int 0, .int 0, .int 0, .ref m_does, .ref m_atomOf, .ref m_atomRel, .int 0, .int 0, .int 0, .ref m_signs, .ref m_stack, .ref m_xPoly, .ref m_xRoot, .int 0, .ref m_inBoth, .int 0, .ref m_truth, .int 0, .ref m_hasEnd, .ref m_belongs, .ref m_isSingle, .ref m_endPoly, .ref m_endRoot, .int 0, .ref m_small, .ref m_smallDegree, .int 0, .ref m_irreducible, .int 0, .ref m_stackOf, .int 0, .ref m_factorAt, .ref m_factorPower, .ref m_isKept, .ref m_keptPoly, .ref m_keptRoot, .int 0, .int 0, .int 0, .int 0, .int 0, .int 0]))] sz) []) (va_A [(h0, .inr (12, [.ref m_mem, .int 232000, .int 0, .int 0, .int 0, .int 0, .int 0, .int 0, .int 0, .int 0, .int 0, .ref m_polys, .ref m_chains, .ref m_pairs, .int 0, .int 0, .int 0, .ref m_zeros, .ref m_tape, .ref m_outs, .ref m_text, .int 0, .int 0, .int 0, .int 0, .int 0, .int 0, .int 0, .ref m_rows, .ref m_digits, .ref m_entries, .ref m_minors, .int 0, .int 0, .int 0, .int 0, .int 0, .int 0, .ref m_pointX, .ref m_pointH, .ref m_pointY, .ref m_those, .int 0, .int 0, .int 0, .int 0, .int 0, .ref m_does, .ref m_atomOf, .ref m_atomRel, .int 0, .int 0, .int 0, .ref m_signs, .ref m_stack, .ref m_xPoly, .ref m_xRoot, .int 0, .ref m_inBoth, .int 0, .ref m_truth, .int 0, .ref m_hasEnd, .ref m_belongs, .ref m_isSingle, .ref m_endPoly, .ref m_endRoot, .int 0, .ref m_small, .ref m_smallDegree, .int 0, .ref m_irreducible, .int 0, .ref m_stackOf, .int 0, .ref m_factorAt, .ref m_factorPower, .ref m_isKept, .ref m_keptPoly, .ref m_keptRoot, .int 0, .int 0, .int 0, .int 0, .int 0, .int 0]))] sz)) 0 0 (va_A [(h0, .inr (12, [.ref m_mem, .int 232000, .int 0, .int 0, .int 0, .int 0, .int 0, .int 0, .int 0, .int 0, .int 0, .ref m_polys, .ref m_chains, .ref m_pairs, .int 0, .int 0, .int 0, .ref m_zeros, .ref m_tape, .ref m_outs, .ref m_text, .int 0, .int 0, .int 0, .int 0, .int 0, .int 0, .int 0, .ref m_rows, .ref m_digits, .ref m_entries, .ref m_minors, .int 0, .int 0, .int 0, .int 0, .int 0, .int 0, .ref m_pointX, .ref m_pointH, .ref m_pointY, .ref m_those, .int 0, .int 0, .int 0, .int 0, .int 0, .ref m_does, .ref m_atomOf, .ref m_atomRel, .int 0, .int 0, .int 0, .ref m_signs, .ref m_stack, .ref m_xPoly, .ref m_xRoot, .int 0, .ref m_inBoth, .int 0, .ref m_truth, .int 0, .ref m_hasEnd, .ref m_belongs, .ref m_isSingle, .ref m_endPoly, .ref m_endRoot, .int 0, .ref m_small, .ref m_smallDegree, .int 0, .ref m_irreducible, .int 0, .ref m_stackOf, .int 0, .ref m_factorAt, .ref m_factorPower, .ref m_isKept, .ref m_keptPoly, .ref m_keptRoot, .int 0, .int 0, .int 0, .int 0, .int 0, .int 0]))] sz) := by
  refine Met.ofW (cc := b_Model_times) (maxL := 4) (ret := (some .int)) (by decide) rfl ?_
  intro p e s m args below meth c s₁ B hml hv
  obtain ⟨rfl, hsz, hP, hK, hD0, hN⟩ := hv
  have hx := B.exec
  have hb := B.bytes
  have hr := B.returns
  have hT : ∀ w ∈ lw_g, w.before _ s = true := fun w h => atoms_spec (ws := w_Model_times) B.pre w (List.mem_cons_of_mem _ h)
  have hown : s.vm.findClass R_Model = some m.cls := findClass_of_methodNamed B.named
  have hlocks := B.notSynchronized
  subst hsz
  have hD := hD0.self (sz := s.heap.size)
  generalize hAe : va_A [(h0, .inr (12, [.ref m_mem, .int 232000, .int 0, .int 0, .int 0, .int 0, .int 0, .int 0, .int 0, .int 0, .int 0, .ref m_polys, .ref m_chains, .ref m_pairs, .int 0, .int 0, .int 0, .ref m_zeros, .ref m_tape, .ref m_outs, .ref m_text, .int 0, .int 0, .int 0, .int 0, .int 0, .int 0, .int 0, .ref m_rows, .ref m_digits, .ref m_entries, .ref m_minors, .int 0, .int 0, .int 0, .int 0, .int 0, .int 0, .ref m_pointX, .ref m_pointH, .ref m_pointY, .ref m_those, .int 0, .int 0, .int 0, .int 0, .int 0, .ref m_does, .ref m_atomOf, .ref m_atomRel, .int 0, .int 0, .int 0, .ref m_signs, .ref m_stack, .ref m_xPoly, .ref m_xRoot, .int 0, .ref m_inBoth, .int 0, .ref m_truth, .int 0, .ref m_hasEnd, .ref m_belongs, .ref m_isSingle, .ref m_endPoly, .ref m_endRoot, .int 0, .ref m_small, .ref m_smallDegree, .int 0, .ref m_irreducible, .int 0, .ref m_stackOf, .int 0, .ref m_factorAt, .ref m_factorPower, .ref m_isKept, .ref m_keptPoly, .ref m_keptRoot, .int 0, .int 0, .int 0, .int 0, .int 0, .int 0]))] s.heap.size = A at hD ⊢
  have hA : ∀ q : Nat, s.heap.size ≤ q → A q := fun q h => by rw [← hAe]; exact Or.inr h
  have hS : va_S A s.heap s.heap [] := va_S.rf
  have hP : va_P (dC, dI) classes [(h0, .inr (12, [.ref m_mem, .int 232000, .int 0, .int 0, .int 0, .int 0, .int 0, .int 0, .int 0, .int 0, .int 0, .ref m_polys, .ref m_chains, .ref m_pairs, .int 0, .int 0, .int 0, .ref m_zeros, .ref m_tape, .ref m_outs, .ref m_text, .int 0, .int 0, .int 0, .int 0, .int 0, .int 0, .int 0, .ref m_rows, .ref m_digits, .ref m_entries, .ref m_minors, .int 0, .int 0, .int 0, .int 0, .int 0, .int 0, .ref m_pointX, .ref m_pointH, .ref m_pointY, .ref m_those, .int 0, .int 0, .int 0, .int 0, .int 0, .ref m_does, .ref m_atomOf, .ref m_atomRel, .int 0, .int 0, .int 0, .ref m_signs, .ref m_stack, .ref m_xPoly, .ref m_xRoot, .int 0, .ref m_inBoth, .int 0, .ref m_truth, .int 0, .ref m_hasEnd, .ref m_belongs, .ref m_isSingle, .ref m_endPoly, .ref m_endRoot, .int 0, .ref m_small, .ref m_smallDegree, .int 0, .ref m_irreducible, .int 0, .ref m_stackOf, .int 0, .ref m_factorAt, .ref m_factorPower, .ref m_isKept, .ref m_keptPoly, .ref m_keptRoot, .int 0, .int 0, .int 0, .int 0, .int 0, .int 0]))] s.heap := hP
  have hl := lv_entry ([.ref h0, .int a1]) (n := 4) (Nat.le_of_ble_eq_true rfl)
  rw [lg_entry_eq]
  generalize (lg_sl ([.ref h0, .int a1]) ++ List.replicate (4 - (lg_sl ([.ref h0, .int a1])).length) Slot.unset).toArray = ls at hl ⊢
  have hl : lv_has ls 4 [(0, .ref h0), (1, .int a1)] := hl
  refine lv_iload_n hx hb d_Model_times_0 rfl (lv_at hl 1 rfl) ?_
  refine lv_if_lt (tgt := 12) hx hb d_Model_times_1 (by decide) (fun c_1 => ?_) (fun c_1 => ?_)
  · refine lv_iconst (v := (-1)) hx hb d_Model_times_12 (by decide) ?_
    have hP9 := hP.sub (ws' := []) [] rfl
    have hD9 := hD.sub (ws' := []) [] (by decide) rfl
    have hK9 := hK.sub (tys' := []) [] rfl
    exact W.iret (v := (-1)) hx hb hr (fun t ht hW => ⟨⟨(-1), (), rfl, rfl, by rw [ht]; exact hP9, va_K.moved hW.alike hK9, hD9⟩, hS.F ht⟩) hS.2.2 d_Model_times_13
  · refine lv_iload_n hx hb d_Model_times_4 rfl (lv_at hl 1 rfl) ?_
    refine lv_aload_n hx hb d_Model_times_5 rfl (lv_at hl 0 rfl) ?_
    refine va_get (D := (dC, dI)) (ci := 12) (v := .int 0) (C := R_Model) (T := F_Model) (N := 86) hx hb hT i_Model hown hK hP 0 rfl rfl 32 (by decide) (hT _ tw_1635) (fun _ h9 => h9) rfl d_Model_times_6 ?_
    refine lv_icmp_lt (tgt := 14) hx hb d_Model_times_9 (by decide) (fun c_2 => absurd c_2 c_1) (fun c_2 => ?_)
    refine lv_iconst (v := (-1)) hx hb d_Model_times_12 (by decide) ?_
    have hP9 := hP.sub (ws' := []) [] rfl
    have hD9 := hD.sub (ws' := []) [] (by decide) rfl
    have hK9 := hK.sub (tys' := []) [] rfl
    exact W.iret (v := (-1)) hx hb hr (fun t ht hW => ⟨⟨(-1), (), rfl, rfl, by rw [ht]; exact hP9, va_K.moved hW.alike hK9, hD9⟩, hS.F ht⟩) hS.2.2 d_Model_times_13

set_option maxHeartbeats 4000000 in
set_option maxRecDepth 100000 in
/-- root of a fresh reference -/
theorem c_Model_root_0 (l : Launch) (dC : Nat → ClassId) (dI : Nat → Nat → Nat) (sz : Nat) (h0 : Nat) (m_mem : Nat) (m_polys : Nat) (m_chains : Nat) (m_pairs : Nat) (m_zeros : Nat) (m_tape : Nat) (m_outs : Nat) (m_text : Nat) (m_rows : Nat) (m_digits : Nat) (m_entries : Nat) (m_minors : Nat) (m_pointX : Nat) (m_pointH : Nat) (m_pointY : Nat) (m_those : Nat) (m_does : Nat) (m_atomOf : Nat) (m_atomRel : Nat) (m_signs : Nat) (m_stack : Nat) (m_xPoly : Nat) (m_xRoot : Nat) (m_inBoth : Nat) (m_truth : Nat) (m_hasEnd : Nat) (m_belongs : Nat) (m_isSingle : Nat) (m_endPoly : Nat) (m_endRoot : Nat) (m_small : Nat) (m_smallDegree : Nat) (m_irreducible : Nat) (m_stackOf : Nat) (m_factorAt : Nat) (m_factorPower : Nat) (m_isKept : Nat) (m_keptPoly : Nat) (m_keptRoot : Nat) (a1 : Int32) (a2 : Int32)  : Met l y_Model_root w_Model_root ({ frames := 0, cells := 0, slots := 0, locals := 0 }) (va_Pc [.ref h0, .int a1, .int a2] (fun U => U.heap.size = sz ∧ va_P (dC, dI) classes [(h0, .inr (12, [.ref m_mem, .int 232000, .int 0, .int 0, .int 0, .int 0, .int 0, .int 0, .int 0, .int 0, .int 0, .ref m_polys, .ref m_chains, .ref m_pairs, .int 0, .int 0, .int 0, .ref m_zeros, .ref m_tape, .ref m_outs, .ref m_text, .int 0, .int 0, .int 0, .int 0, .int 0, .int 0, .int 0, .ref m_rows, .ref m_digits, .ref m_entries, .ref m_minors, .int 0, .int 0, .int 0, .int 0, .int 0, .int 0, .ref m_pointX, .ref m_pointH, .ref m_pointY, .ref m_those, .int 0, .int 0, .int 0, .int 0, .int 0, .ref m_does, .ref m_atomOf, .ref m_atomRel, .int 0, .int 0, .int 0, .ref m_signs, .ref m_stack, .ref m_xPoly, .ref m_xRoot, .int 0, .ref m_inBoth, .int 0, .ref m_truth, .int 0, .ref m_hasEnd, .ref m_belongs, .ref m_isSingle, .ref m_endPoly, .ref m_endRoot, .int 0, .ref m_small, .ref m_smallDegree, .int 0, .ref m_irreducible, .int 0, .ref m_stackOf, .int 0, .ref m_factorAt, .ref m_factorPower, .ref m_isKept, .ref m_keptPoly, .ref m_keptRoot, .int 0, .int 0, .int 0, .int 0, .int 0, .int 0]))] U.heap ∧ va_K (dC, dI) classes [] U ∧ va_D (fun _ => True) [(h0, .inr (12, [.ref m_mem, .int 232000, .int 0, .int 0, .int 0, .int 0, .int 0, .int 0, .int 0, .int 0, .int 0, .ref m_polys, .ref m_chains, .ref m_pairs, .int 0, .int 0, .int 0, .ref m_zeros, .ref m_tape, .ref m_outs, .ref m_text, .int 0, .int 0, .int 0, .int 0, .int 0, .int 0, .int 0, .ref m_rows, .ref m_digits, .ref m_entries, .ref m_minors, .int 0, .int 0, .int 0, .int 0, .int 0, .int 0, .ref m_pointX, .ref m_pointH, .ref m_pointY, .ref m_those, .int 0, .int 0, .int 0, .int 0, .int 0, .ref m_does, .ref m_atomOf, .ref m_atomRel, .int 0, .int 0, .int 0, .ref m_signs, .ref m_stack, .ref m_xPoly, .ref m_xRoot, .int 0, .ref m_inBoth, .int 0, .ref m_truth, .int 0, .ref m_hasEnd, .ref m_belongs, .ref m_isSingle, .ref m_endPoly, .ref m_endRoot, .int 0, .ref m_small, .ref m_smallDegree, .int 0, .ref m_irreducible, .int 0, .ref m_stackOf, .int 0, .ref m_factorAt, .ref m_factorPower, .ref m_isKept, .ref m_keptPoly, .ref m_keptRoot, .int 0, .int 0, .int 0, .int 0, .int 0, .int 0]))] ∧ nx_K U)) (va_Qi (fun (r : Int32) (_ : Unit) => r = (-1)) (fun _ t => va_P (dC, dI) classes [] t.heap ∧ va_K (dC, dI) classes [] t ∧ va_D (va_A [(h0, .inr (12, [.ref m_mem, .int 232000, .int 0, .int 0, .int 0, .int 0, .int 0, .int 0, .int 0, .int 0, .int 0, .ref m_polys, .ref m_chains, .ref m_pairs, .int 0, .int 0, .int 0, .ref m_zeros, .ref m_tape, .ref m_outs, .ref m_text, .int 0, .int 0, .int 0, .int 0, .int 0, .int 0, .int 0, .ref m_rows, .ref m_digits, .ref m_entries, .ref m_minors, .int 0, .int 0, .int 0, .int 0, .int 0, .int 0, .ref m_pointX, .ref m_pointH, .ref m_pointY, .ref m_those, .int 0, .int 0, .int 0, .int 0, .int 0, .ref m_does, .ref m_atomOf, .ref m_atomRel, .int 0, .int 0, .int 0, .ref m_signs, .ref m_stack, .ref m_xPoly, .ref m_xRoot, .int 0, .ref m_inBoth, .int 0, .ref m_truth, .int 0, .ref m_hasEnd, .ref m_belongs, .ref m_isSingle, .ref m_endPoly, .ref m_endRoot, .int 0, .ref m_small, .ref m_smallDegree, .int 0, .ref m_irreducible, .int 0, .ref m_stackOf, .int 0, .ref m_factorAt, .ref m_factorPower, .ref m_isKept, .ref m_keptPoly, .ref m_keptRoot, .int 0, .int 0, .int 0, .int 0, .int 0, .int 0]))] sz) []) (va_A [(h0, .inr (12, [.ref m_mem, .int 232000, .int 0, .int 0, .int 0, .int 0, .int 0, .int 0, .int 0, .int 0, .int 0, .ref m_polys, .ref m_chains, .ref m_pairs, .int 0, .int 0, .int 0, .ref m_zeros, .ref m_tape, .ref m_outs, .ref m_text, .int 0, .int 0, .int 0, .int 0, .int 0, .int 0, .int 0, .ref m_rows, .ref m_digits, .ref m_entries, .ref m_minors, .int 0, .int 0, .int 0, .int 0, .int 0, .int 0, .ref m_pointX, .ref m_pointH, .ref m_pointY, .ref m_those, .int 0, .int 0, .int 0, .int 0, .int 0, .ref m_does, .ref m_atomOf, .ref m_atomRel, .int 0, .int 0, .int 0, .ref m_signs, .ref m_stack, .ref m_xPoly, .ref m_xRoot, .int 0, .ref m_inBoth, .int 0, .ref m_truth, .int 0, .ref m_hasEnd, .ref m_belongs, .ref m_isSingle, .ref m_endPoly, .ref m_endRoot, .int 0, .ref m_small, .ref m_smallDegree, .int 0, .ref m_irreducible, .int 0, .ref m_stackOf, .int 0, .ref m_factorAt, .ref m_factorPower, .ref m_isKept, .ref m_keptPoly, .ref m_keptRoot, .int 0, .int 0, .int 0, .int 0, .int 0, .int 0]))] sz)) 0 0 (va_A [(h0, .inr (12, [.ref m_mem, .int 232000, .int 0, .int 0, .int 0, .int 0, .int 0, .int 0, .int 0, .int 0, .int 0, .ref m_polys, .ref m_chains, .ref m_pairs, .int 0, .int 0, .int 0, .ref m_zeros, .ref m_tape, .ref m_outs, .ref m_text, .int 0, .int 0, .int 0, .int 0, .int 0, .int 0, .int 0, .ref m_rows, .ref m_digits, .ref m_entries, .ref m_minors, .int 0, .int 0, .int 0, .int 0, .int 0, .int 0, .ref m_pointX, .ref m_pointH, .ref m_pointY, .ref m_those, .int 0, .int 0, .int 0, .int 0, .int 0, .ref m_does, .ref m_atomOf, .ref m_atomRel, .int 0, .int 0, .int 0, .ref m_signs, .ref m_stack, .ref m_xPoly, .ref m_xRoot, .int 0, .ref m_inBoth, .int 0, .ref m_truth, .int 0, .ref m_hasEnd, .ref m_belongs, .ref m_isSingle, .ref m_endPoly, .ref m_endRoot, .int 0, .ref m_small, .ref m_smallDegree, .int 0, .ref m_irreducible, .int 0, .ref m_stackOf, .int 0, .ref m_factorAt, .ref m_factorPower, .ref m_isKept, .ref m_keptPoly, .ref m_keptRoot, .int 0, .int 0, .int 0, .int 0, .int 0, .int 0]))] sz) := by
  refine Met.ofW (cc := b_Model_root) (maxL := 3) (ret := (some .int)) (by decide) rfl ?_
  intro p e s m args below meth c s₁ B hml hv
  obtain ⟨rfl, hsz, hP, hK, hD0, hN⟩ := hv
  have hx := B.exec
  have hb := B.bytes
  have hr := B.returns
  have hT : ∀ w ∈ lw_g, w.before _ s = true := fun w h => atoms_spec (ws := w_Model_root) B.pre w (List.mem_cons_of_mem _ h)
  have hown : s.vm.findClass R_Model = some m.cls := findClass_of_methodNamed B.named
  have hlocks := B.notSynchronized
  subst hsz
  have hD := hD0.self (sz := s.heap.size)
  generalize hAe : va_A [(h0, .inr (12, [.ref m_mem, .int 232000, .int 0, .int 0, .int 0, .int 0, .int 0, .int 0, .int 0, .int 0, .int 0, .ref m_polys, .ref m_chains, .ref m_pairs, .int 0, .int 0, .int 0, .ref m_zeros, .ref m_tape, .ref m_outs, .ref m_text, .int 0, .int 0, .int 0, .int 0, .int 0, .int 0, .int 0, .ref m_rows, .ref m_digits, .ref m_entries, .ref m_minors, .int 0, .int 0, .int 0, .int 0, .int 0, .int 0, .ref m_pointX, .ref m_pointH, .ref m_pointY, .ref m_those, .int 0, .int 0, .int 0, .int 0, .int 0, .ref m_does, .ref m_atomOf, .ref m_atomRel, .int 0, .int 0, .int 0, .ref m_signs, .ref m_stack, .ref m_xPoly, .ref m_xRoot, .int 0, .ref m_inBoth, .int 0, .ref m_truth, .int 0, .ref m_hasEnd, .ref m_belongs, .ref m_isSingle, .ref m_endPoly, .ref m_endRoot, .int 0, .ref m_small, .ref m_smallDegree, .int 0, .ref m_irreducible, .int 0, .ref m_stackOf, .int 0, .ref m_factorAt, .ref m_factorPower, .ref m_isKept, .ref m_keptPoly, .ref m_keptRoot, .int 0, .int 0, .int 0, .int 0, .int 0, .int 0]))] s.heap.size = A at hD ⊢
  have hA : ∀ q : Nat, s.heap.size ≤ q → A q := fun q h => by rw [← hAe]; exact Or.inr h
  have hS : va_S A s.heap s.heap [] := va_S.rf
  have hP : va_P (dC, dI) classes [(h0, .inr (12, [.ref m_mem, .int 232000, .int 0, .int 0, .int 0, .int 0, .int 0, .int 0, .int 0, .int 0, .int 0, .ref m_polys, .ref m_chains, .ref m_pairs, .int 0, .int 0, .int 0, .ref m_zeros, .ref m_tape, .ref m_outs, .ref m_text, .int 0, .int 0, .int 0, .int 0, .int 0, .int 0, .int 0, .ref m_rows, .ref m_digits, .ref m_entries, .ref m_minors, .int 0, .int 0, .int 0, .int 0, .int 0, .int 0, .ref m_pointX, .ref m_pointH, .ref m_pointY, .ref m_those, .int 0, .int 0, .int 0, .int 0, .int 0, .ref m_does, .ref m_atomOf, .ref m_atomRel, .int 0, .int 0, .int 0, .ref m_signs, .ref m_stack, .ref m_xPoly, .ref m_xRoot, .int 0, .ref m_inBoth, .int 0, .ref m_truth, .int 0, .ref m_hasEnd, .ref m_belongs, .ref m_isSingle, .ref m_endPoly, .ref m_endRoot, .int 0, .ref m_small, .ref m_smallDegree, .int 0, .ref m_irreducible, .int 0, .ref m_stackOf, .int 0, .ref m_factorAt, .ref m_factorPower, .ref m_isKept, .ref m_keptPoly, .ref m_keptRoot, .int 0, .int 0, .int 0, .int 0, .int 0, .int 0]))] s.heap := hP
  have hl := lv_entry ([.ref h0, .int a1, .int a2]) (n := 3) (Nat.le_of_ble_eq_true rfl)
  rw [lg_entry_eq]
  generalize (lg_sl ([.ref h0, .int a1, .int a2]) ++ List.replicate (3 - (lg_sl ([.ref h0, .int a1, .int a2])).length) Slot.unset).toArray = ls at hl ⊢
  have hl : lv_has ls 3 [(0, .ref h0), (1, .int a1), (2, .int a2)] := hl
  refine lv_iload_n hx hb d_Model_root_0 rfl (lv_at hl 1 rfl) ?_
  refine lv_if_lt (tgt := 23) hx hb d_Model_root_1 (by decide) (fun c_1 => ?_) (fun c_1 => ?_)
  · refine lv_iconst (v := (-1)) hx hb d_Model_root_23 (by decide) ?_
    have hP9 := hP.sub (ws' := []) [] rfl
    have hD9 := hD.sub (ws' := []) [] (by decide) rfl
    have hK9 := hK.sub (tys' := []) [] rfl
    exact W.iret (v := (-1)) hx hb hr (fun t ht hW => ⟨⟨(-1), (), rfl, rfl, by rw [ht]; exact hP9, va_K.moved hW.alike hK9, hD9⟩, hS.F ht⟩) hS.2.2 d_Model_root_24
  · refine lv_iload_n hx hb d_Model_root_4 rfl (lv_at hl 1 rfl) ?_
    refine lv_aload_n hx hb d_Model_root_5 rfl (lv_at hl 0 rfl) ?_
    refine va_get (D := (dC, dI)) (ci := 12) (v := .int 0) (C := R_Model) (T := F_Model) (N := 86) hx hb hT i_Model hown hK hP 0 rfl rfl 32 (by decide) (hT _ tw_1635) (fun _ h9 => h9) rfl d_Model_root_6 ?_
    refine lv_icmp_ge (tgt := 23) hx hb d_Model_root_9 (by decide) (fun c_2 => ?_) (fun c_2 => absurd (Int32.not_lt.mp c_1) c_2)
    refine lv_iconst (v := (-1)) hx hb d_Model_root_23 (by decide) ?_
    have hP9 := hP.sub (ws' := []) [] rfl
    have hD9 := hD.sub (ws' := []) [] (by decide) rfl
    have hK9 := hK.sub (tys' := []) [] rfl
    exact W.iret (v := (-1)) hx hb hr (fun t ht hW => ⟨⟨(-1), (), rfl, rfl, by rw [ht]; exact hP9, va_K.moved hW.alike hK9, hD9⟩, hS.F ht⟩) hS.2.2 d_Model_root_24

set_option maxHeartbeats 4000000 in
set_option maxRecDepth 100000 in
/-- signAt of a fresh reference -/
theorem c_Model_signAt_0 (l : Launch) (dC : Nat → ClassId) (dI : Nat → Nat → Nat) (sz : Nat) (h0 : Nat) (m_mem : Nat) (m_polys : Nat) (m_chains : Nat) (m_pairs : Nat) (m_zeros : Nat) (m_tape : Nat) (m_outs : Nat) (m_text : Nat) (m_rows : Nat) (m_digits : Nat) (m_entries : Nat) (m_minors : Nat) (m_pointX : Nat) (m_pointH : Nat) (m_pointY : Nat) (m_those : Nat) (m_does : Nat) (m_atomOf : Nat) (m_atomRel : Nat) (m_signs : Nat) (m_stack : Nat) (m_xPoly : Nat) (m_xRoot : Nat) (m_inBoth : Nat) (m_truth : Nat) (m_hasEnd : Nat) (m_belongs : Nat) (m_isSingle : Nat) (m_endPoly : Nat) (m_endRoot : Nat) (m_small : Nat) (m_smallDegree : Nat) (m_irreducible : Nat) (m_stackOf : Nat) (m_factorAt : Nat) (m_factorPower : Nat) (m_isKept : Nat) (m_keptPoly : Nat) (m_keptRoot : Nat) (a1 : Int32) (a2 : Int32)  : Met l y_Model_signAt w_Model_signAt ({ frames := 0, cells := 0, slots := 0, locals := 0 }) (va_Pc [.ref h0, .int a1, .int a2] (fun U => U.heap.size = sz ∧ va_P (dC, dI) classes [(h0, .inr (12, [.ref m_mem, .int 232000, .int 0, .int 0, .int 0, .int 0, .int 0, .int 0, .int 0, .int 0, .int 0, .ref m_polys, .ref m_chains, .ref m_pairs, .int 0, .int 0, .int 0, .ref m_zeros, .ref m_tape, .ref m_outs, .ref m_text, .int 0, .int 0, .int 0, .int 0, .int 0, .int 0, .int 0, .ref m_rows, .ref m_digits, .ref m_entries, .ref m_minors, .int 0, .int 0, .int 0, .int 0, .int 0, .int 0, .ref m_pointX, .ref m_pointH, .ref m_pointY, .ref m_those, .int 0, .int 0, .int 0, .int 0, .int 0, .ref m_does, .ref m_atomOf, .ref m_atomRel, .int 0, .int 0, .int 0, .ref m_signs, .ref m_stack, .ref m_xPoly, .ref m_xRoot, .int 0, .ref m_inBoth, .int 0, .ref m_truth, .int 0, .ref m_hasEnd, .ref m_belongs, .ref m_isSingle, .ref m_endPoly, .ref m_endRoot, .int 0, .ref m_small, .ref m_smallDegree, .int 0, .ref m_irreducible, .int 0, .ref m_stackOf, .int 0, .ref m_factorAt, .ref m_factorPower, .ref m_isKept, .ref m_keptPoly, .ref m_keptRoot, .int 0, .int 0, .int 0, .int 0, .int 0, .int 0]))] U.heap ∧ va_K (dC, dI) classes [] U ∧ va_D (fun _ => True) [(h0, .inr (12, [.ref m_mem, .int 232000, .int 0, .int 0, .int 0, .int 0, .int 0, .int 0, .int 0, .int 0, .int 0, .ref m_polys, .ref m_chains, .ref m_pairs, .int 0, .int 0, .int 0, .ref m_zeros, .ref m_tape, .ref m_outs, .ref m_text, .int 0, .int 0, .int 0, .int 0, .int 0, .int 0, .int 0, .ref m_rows, .ref m_digits, .ref m_entries, .ref m_minors, .int 0, .int 0, .int 0, .int 0, .int 0, .int 0, .ref m_pointX, .ref m_pointH, .ref m_pointY, .ref m_those, .int 0, .int 0, .int 0, .int 0, .int 0, .ref m_does, .ref m_atomOf, .ref m_atomRel, .int 0, .int 0, .int 0, .ref m_signs, .ref m_stack, .ref m_xPoly, .ref m_xRoot, .int 0, .ref m_inBoth, .int 0, .ref m_truth, .int 0, .ref m_hasEnd, .ref m_belongs, .ref m_isSingle, .ref m_endPoly, .ref m_endRoot, .int 0, .ref m_small, .ref m_smallDegree, .int 0, .ref m_irreducible, .int 0, .ref m_stackOf, .int 0, .ref m_factorAt, .ref m_factorPower, .ref m_isKept, .ref m_keptPoly, .ref m_keptRoot, .int 0, .int 0, .int 0, .int 0, .int 0, .int 0]))] ∧ nx_K U)) (va_Qi (fun (r : Int32) (_ : Unit) => r = (-1)) (fun _ t => va_P (dC, dI) classes [] t.heap ∧ va_K (dC, dI) classes [] t ∧ va_D (va_A [(h0, .inr (12, [.ref m_mem, .int 232000, .int 0, .int 0, .int 0, .int 0, .int 0, .int 0, .int 0, .int 0, .int 0, .ref m_polys, .ref m_chains, .ref m_pairs, .int 0, .int 0, .int 0, .ref m_zeros, .ref m_tape, .ref m_outs, .ref m_text, .int 0, .int 0, .int 0, .int 0, .int 0, .int 0, .int 0, .ref m_rows, .ref m_digits, .ref m_entries, .ref m_minors, .int 0, .int 0, .int 0, .int 0, .int 0, .int 0, .ref m_pointX, .ref m_pointH, .ref m_pointY, .ref m_those, .int 0, .int 0, .int 0, .int 0, .int 0, .ref m_does, .ref m_atomOf, .ref m_atomRel, .int 0, .int 0, .int 0, .ref m_signs, .ref m_stack, .ref m_xPoly, .ref m_xRoot, .int 0, .ref m_inBoth, .int 0, .ref m_truth, .int 0, .ref m_hasEnd, .ref m_belongs, .ref m_isSingle, .ref m_endPoly, .ref m_endRoot, .int 0, .ref m_small, .ref m_smallDegree, .int 0, .ref m_irreducible, .int 0, .ref m_stackOf, .int 0, .ref m_factorAt, .ref m_factorPower, .ref m_isKept, .ref m_keptPoly, .ref m_keptRoot, .int 0, .int 0, .int 0, .int 0, .int 0, .int 0]))] sz) []) (va_A [(h0, .inr (12, [.ref m_mem, .int 232000, .int 0, .int 0, .int 0, .int 0, .int 0, .int 0, .int 0, .int 0, .int 0, .ref m_polys, .ref m_chains, .ref m_pairs, .int 0, .int 0, .int 0, .ref m_zeros, .ref m_tape, .ref m_outs, .ref m_text, .int 0, .int 0, .int 0, .int 0, .int 0, .int 0, .int 0, .ref m_rows, .ref m_digits, .ref m_entries, .ref m_minors, .int 0, .int 0, .int 0, .int 0, .int 0, .int 0, .ref m_pointX, .ref m_pointH, .ref m_pointY, .ref m_those, .int 0, .int 0, .int 0, .int 0, .int 0, .ref m_does, .ref m_atomOf, .ref m_atomRel, .int 0, .int 0, .int 0, .ref m_signs, .ref m_stack, .ref m_xPoly, .ref m_xRoot, .int 0, .ref m_inBoth, .int 0, .ref m_truth, .int 0, .ref m_hasEnd, .ref m_belongs, .ref m_isSingle, .ref m_endPoly, .ref m_endRoot, .int 0, .ref m_small, .ref m_smallDegree, .int 0, .ref m_irreducible, .int 0, .ref m_stackOf, .int 0, .ref m_factorAt, .ref m_factorPower, .ref m_isKept, .ref m_keptPoly, .ref m_keptRoot, .int 0, .int 0, .int 0, .int 0, .int 0, .int 0]))] sz)) 0 0 (va_A [(h0, .inr (12, [.ref m_mem, .int 232000, .int 0, .int 0, .int 0, .int 0, .int 0, .int 0, .int 0, .int 0, .int 0, .ref m_polys, .ref m_chains, .ref m_pairs, .int 0, .int 0, .int 0, .ref m_zeros, .ref m_tape, .ref m_outs, .ref m_text, .int 0, .int 0, .int 0, .int 0, .int 0, .int 0, .int 0, .ref m_rows, .ref m_digits, .ref m_entries, .ref m_minors, .int 0, .int 0, .int 0, .int 0, .int 0, .int 0, .ref m_pointX, .ref m_pointH, .ref m_pointY, .ref m_those, .int 0, .int 0, .int 0, .int 0, .int 0, .ref m_does, .ref m_atomOf, .ref m_atomRel, .int 0, .int 0, .int 0, .ref m_signs, .ref m_stack, .ref m_xPoly, .ref m_xRoot, .int 0, .ref m_inBoth, .int 0, .ref m_truth, .int 0, .ref m_hasEnd, .ref m_belongs, .ref m_isSingle, .ref m_endPoly, .ref m_endRoot, .int 0, .ref m_small, .ref m_smallDegree, .int 0, .ref m_irreducible, .int 0, .ref m_stackOf, .int 0, .ref m_factorAt, .ref m_factorPower, .ref m_isKept, .ref m_keptPoly, .ref m_keptRoot, .int 0, .int 0, .int 0, .int 0, .int 0, .int 0]))] sz) := by
  refine Met.ofW (cc := b_Model_signAt) (maxL := 4) (ret := (some .int)) (by decide) rfl ?_
  intro p e s m args below meth c s₁ B hml hv
  obtain ⟨rfl, hsz, hP, hK, hD0, hN⟩ := hv
  have hx := B.exec
  have hb := B.bytes
  have hr := B.returns
  have hT : ∀ w ∈ lw_g, w.before _ s = true := fun w h => atoms_spec (ws := w_Model_signAt) B.pre w (List.mem_cons_of_mem _ h)
  have hown : s.vm.findClass R_Model = some m.cls := findClass_of_methodNamed B.named
  have hlocks := B.notSynchronized
  subst hsz
  have hD := hD0.self (sz := s.heap.size)
  generalize hAe : va_A [(h0, .inr (12, [.ref m_mem, .int 232000, .int 0, .int 0, .int 0, .int 0, .int 0, .int 0, .int 0, .int 0, .int 0, .ref m_polys, .ref m_chains, .ref m_pairs, .int 0, .int 0, .int 0, .ref m_zeros, .ref m_tape, .ref m_outs, .ref m_text, .int 0, .int 0, .int 0, .int 0, .int 0, .int 0, .int 0, .ref m_rows, .ref m_digits, .ref m_entries, .ref m_minors, .int 0, .int 0, .int 0, .int 0, .int 0, .int 0, .ref m_pointX, .ref m_pointH, .ref m_pointY, .ref m_those, .int 0, .int 0, .int 0, .int 0, .int 0, .ref m_does, .ref m_atomOf, .ref m_atomRel, .int 0, .int 0, .int 0, .ref m_signs, .ref m_stack, .ref m_xPoly, .ref m_xRoot, .int 0, .ref m_inBoth, .int 0, .ref m_truth, .int 0, .ref m_hasEnd, .ref m_belongs, .ref m_isSingle, .ref m_endPoly, .ref m_endRoot, .int 0, .ref m_small, .ref m_smallDegree, .int 0, .ref m_irreducible, .int 0, .ref m_stackOf, .int 0, .ref m_factorAt, .ref m_factorPower, .ref m_isKept, .ref m_keptPoly, .ref m_keptRoot, .int 0, .int 0, .int 0, .int 0, .int 0, .int 0]))] s.heap.size = A at hD ⊢
  have hA : ∀ q : Nat, s.heap.size ≤ q → A q := fun q h => by rw [← hAe]; exact Or.inr h
  have hS : va_S A s.heap s.heap [] := va_S.rf
  have hP : va_P (dC, dI) classes [(h0, .inr (12, [.ref m_mem, .int 232000, .int 0, .int 0, .int 0, .int 0, .int 0, .int 0, .int 0, .int 0, .int 0, .ref m_polys, .ref m_chains, .ref m_pairs, .int 0, .int 0, .int 0, .ref m_zeros, .ref m_tape, .ref m_outs, .ref m_text, .int 0, .int 0, .int 0, .int 0, .int 0, .int 0, .int 0, .ref m_rows, .ref m_digits, .ref m_entries, .ref m_minors, .int 0, .int 0, .int 0, .int 0, .int 0, .int 0, .ref m_pointX, .ref m_pointH, .ref m_pointY, .ref m_those, .int 0, .int 0, .int 0, .int 0, .int 0, .ref m_does, .ref m_atomOf, .ref m_atomRel, .int 0, .int 0, .int 0, .ref m_signs, .ref m_stack, .ref m_xPoly, .ref m_xRoot, .int 0, .ref m_inBoth, .int 0, .ref m_truth, .int 0, .ref m_hasEnd, .ref m_belongs, .ref m_isSingle, .ref m_endPoly, .ref m_endRoot, .int 0, .ref m_small, .ref m_smallDegree, .int 0, .ref m_irreducible, .int 0, .ref m_stackOf, .int 0, .ref m_factorAt, .ref m_factorPower, .ref m_isKept, .ref m_keptPoly, .ref m_keptRoot, .int 0, .int 0, .int 0, .int 0, .int 0, .int 0]))] s.heap := hP
  have hl := lv_entry ([.ref h0, .int a1, .int a2]) (n := 4) (Nat.le_of_ble_eq_true rfl)
  rw [lg_entry_eq]
  generalize (lg_sl ([.ref h0, .int a1, .int a2]) ++ List.replicate (4 - (lg_sl ([.ref h0, .int a1, .int a2])).length) Slot.unset).toArray = ls at hl ⊢
  have hl : lv_has ls 4 [(0, .ref h0), (1, .int a1), (2, .int a2)] := hl
  refine lv_iload_n hx hb d_Model_signAt_0 rfl (lv_at hl 1 rfl) ?_
  refine lv_if_lt (tgt := 20) hx hb d_Model_signAt_1 (by decide) (fun c_1 => ?_) (fun c_1 => ?_)
  · refine lv_iconst (v := (-1)) hx hb d_Model_signAt_20 (by decide) ?_
    have hP9 := hP.sub (ws' := []) [] rfl
    have hD9 := hD.sub (ws' := []) [] (by decide) rfl
    have hK9 := hK.sub (tys' := []) [] rfl
    exact W.iret (v := (-1)) hx hb hr (fun t ht hW => ⟨⟨(-1), (), rfl, rfl, by rw [ht]; exact hP9, va_K.moved hW.alike hK9, hD9⟩, hS.F ht⟩) hS.2.2 d_Model_signAt_21
  · refine lv_iload_n hx hb d_Model_signAt_4 rfl (lv_at hl 1 rfl) ?_
    refine lv_aload_n hx hb d_Model_signAt_5 rfl (lv_at hl 0 rfl) ?_
    refine va_get (D := (dC, dI)) (ci := 12) (v := .int 0) (C := R_Model) (T := F_Model) (N := 86) hx hb hT i_Model hown hK hP 0 rfl rfl 32 (by decide) (hT _ tw_1635) (fun _ h9 => h9) rfl d_Model_signAt_6 ?_
    refine lv_icmp_ge (tgt := 20) hx hb d_Model_signAt_9 (by decide) (fun c_2 => ?_) (fun c_2 => absurd (Int32.not_lt.mp c_1) c_2)
    refine lv_iconst (v := (-1)) hx hb d_Model_signAt_20 (by decide) ?_
    have hP9 := hP.sub (ws' := []) [] rfl
    have hD9 := hD.sub (ws' := []) [] (by decide) rfl
    have hK9 := hK.sub (tys' := []) [] rfl
    exact W.iret (v := (-1)) hx hb hr (fun t ht hW => ⟨⟨(-1), (), rfl, rfl, by rw [ht]; exact hP9, va_K.moved hW.alike hK9, hD9⟩, hS.F ht⟩) hS.2.2 d_Model_signAt_21

set_option maxHeartbeats 4000000 in
set_option maxRecDepth 100000 in
/-- below of a fresh reference -/
theorem c_Model_below_0 (l : Launch) (dC : Nat → ClassId) (dI : Nat → Nat → Nat) (sz : Nat) (h0 : Nat) (m_mem : Nat) (m_polys : Nat) (m_chains : Nat) (m_pairs : Nat) (m_zeros : Nat) (m_tape : Nat) (m_outs : Nat) (m_text : Nat) (m_rows : Nat) (m_digits : Nat) (m_entries : Nat) (m_minors : Nat) (m_pointX : Nat) (m_pointH : Nat) (m_pointY : Nat) (m_those : Nat) (m_does : Nat) (m_atomOf : Nat) (m_atomRel : Nat) (m_signs : Nat) (m_stack : Nat) (m_xPoly : Nat) (m_xRoot : Nat) (m_inBoth : Nat) (m_truth : Nat) (m_hasEnd : Nat) (m_belongs : Nat) (m_isSingle : Nat) (m_endPoly : Nat) (m_endRoot : Nat) (m_small : Nat) (m_smallDegree : Nat) (m_irreducible : Nat) (m_stackOf : Nat) (m_factorAt : Nat) (m_factorPower : Nat) (m_isKept : Nat) (m_keptPoly : Nat) (m_keptRoot : Nat) (a1 : Int32) (a2 : Int32)  : Met l y_Model_below w_Model_below ({ frames := 0, cells := 0, slots := 0, locals := 0 }) (va_Pc [.ref h0, .int a1, .int a2] (fun U => U.heap.size = sz ∧ va_P (dC, dI) classes [(h0, .inr (12, [.ref m_mem, .int 232000, .int 0, .int 0, .int 0, .int 0, .int 0, .int 0, .int 0, .int 0, .int 0, .ref m_polys, .ref m_chains, .ref m_pairs, .int 0, .int 0, .int 0, .ref m_zeros, .ref m_tape, .ref m_outs, .ref m_text, .int 0, .int 0, .int 0, .int 0, .int 0, .int 0, .int 0, .ref m_rows, .ref m_digits, .ref m_entries, .ref m_minors, .int 0, .int 0, .int 0, .int 0, .int 0, .int 0, .ref m_pointX, .ref m_pointH, .ref m_pointY, .ref m_those, .int 0, .int 0, .int 0, .int 0, .int 0, .ref m_does, .ref m_atomOf, .ref m_atomRel, .int 0, .int 0, .int 0, .ref m_signs, .ref m_stack, .ref m_xPoly, .ref m_xRoot, .int 0, .ref m_inBoth, .int 0, .ref m_truth, .int 0, .ref m_hasEnd, .ref m_belongs, .ref m_isSingle, .ref m_endPoly, .ref m_endRoot, .int 0, .ref m_small, .ref m_smallDegree, .int 0, .ref m_irreducible, .int 0, .ref m_stackOf, .int 0, .ref m_factorAt, .ref m_factorPower, .ref m_isKept, .ref m_keptPoly, .ref m_keptRoot, .int 0, .int 0, .int 0, .int 0, .int 0, .int 0]))] U.heap ∧ va_K (dC, dI) classes [] U ∧ va_D (fun _ => True) [(h0, .inr (12, [.ref m_mem, .int 232000, .int 0, .int 0, .int 0, .int 0, .int 0, .int 0, .int 0, .int 0, .int 0, .ref m_polys, .ref m_chains, .ref m_pairs, .int 0, .int 0, .int 0, .ref m_zeros, .ref m_tape, .ref m_outs, .ref m_text, .int 0, .int 0, .int 0, .int 0, .int 0, .int 0, .int 0, .ref m_rows, .ref m_digits, .ref m_entries, .ref m_minors, .int 0, .int 0, .int 0, .int 0, .int 0, .int 0, .ref m_pointX, .ref m_pointH, .ref m_pointY, .ref m_those, .int 0, .int 0, .int 0, .int 0, .int 0, .ref m_does, .ref m_atomOf, .ref m_atomRel, .int 0, .int 0, .int 0, .ref m_signs, .ref m_stack, .ref m_xPoly, .ref m_xRoot, .int 0, .ref m_inBoth, .int 0, .ref m_truth, .int 0, .ref m_hasEnd, .ref m_belongs, .ref m_isSingle, .ref m_endPoly, .ref m_endRoot, .int 0, .ref m_small, .ref m_smallDegree, .int 0, .ref m_irreducible, .int 0, .ref m_stackOf, .int 0, .ref m_factorAt, .ref m_factorPower, .ref m_isKept, .ref m_keptPoly, .ref m_keptRoot, .int 0, .int 0, .int 0, .int 0, .int 0, .int 0]))] ∧ nx_K U)) (va_Qi (fun (r : Int32) (_ : Unit) => r = (-1)) (fun _ t => va_P (dC, dI) classes [] t.heap ∧ va_K (dC, dI) classes [] t ∧ va_D (va_A [(h0, .inr (12, [.ref m_mem, .int 232000, .int 0, .int 0, .int 0, .int 0, .int 0, .int 0, .int 0, .int 0, .int 0, .ref m_polys, .ref m_chains, .ref m_pairs, .int 0, .int 0, .int 0, .ref m_zeros, .ref m_tape, .ref m_outs, .ref m_text, .int 0, .int 0, .int 0, .int 0, .int 0, .int 0, .int 0, .ref m_rows, .ref m_digits, .ref m_entries, .ref m_minors, .int 0, .int 0, .int 0, .int 0, .int 0, .int 0, .ref m_pointX, .ref m_pointH, .ref m_pointY, .ref m_those, .int 0, .int 0, .int 0, .int 0, .int 0, .ref m_does, .ref m_atomOf, .ref m_atomRel, .int 0, .int 0, .int 0, .ref m_signs, .ref m_stack, .ref m_xPoly, .ref m_xRoot, .int 0, .ref m_inBoth, .int 0, .ref m_truth, .int 0, .ref m_hasEnd, .ref m_belongs, .ref m_isSingle, .ref m_endPoly, .ref m_endRoot, .int 0, .ref m_small, .ref m_smallDegree, .int 0, .ref m_irreducible, .int 0, .ref m_stackOf, .int 0, .ref m_factorAt, .ref m_factorPower, .ref m_isKept, .ref m_keptPoly, .ref m_keptRoot, .int 0, .int 0, .int 0, .int 0, .int 0, .int 0]))] sz) []) (va_A [(h0, .inr (12, [.ref m_mem, .int 232000, .int 0, .int 0, .int 0, .int 0, .int 0, .int 0, .int 0, .int 0, .int 0, .ref m_polys, .ref m_chains, .ref m_pairs, .int 0, .int 0, .int 0, .ref m_zeros, .ref m_tape, .ref m_outs, .ref m_text, .int 0, .int 0, .int 0, .int 0, .int 0, .int 0, .int 0, .ref m_rows, .ref m_digits, .ref m_entries, .ref m_minors, .int 0, .int 0, .int 0, .int 0, .int 0, .int 0, .ref m_pointX, .ref m_pointH, .ref m_pointY, .ref m_those, .int 0, .int 0, .int 0, .int 0, .int 0, .ref m_does, .ref m_atomOf, .ref m_atomRel, .int 0, .int 0, .int 0, .ref m_signs, .ref m_stack, .ref m_xPoly, .ref m_xRoot, .int 0, .ref m_inBoth, .int 0, .ref m_truth, .int 0, .ref m_hasEnd, .ref m_belongs, .ref m_isSingle, .ref m_endPoly, .ref m_endRoot, .int 0, .ref m_small, .ref m_smallDegree, .int 0, .ref m_irreducible, .int 0, .ref m_stackOf, .int 0, .ref m_factorAt, .ref m_factorPower, .ref m_isKept, .ref m_keptPoly, .ref m_keptRoot, .int 0, .int 0, .int 0, .int 0, .int 0, .int 0]))] sz)) 0 0 (va_A [(h0, .inr (12, [.ref m_mem, .int 232000, .int 0, .int 0, .int 0, .int 0, .int 0, .int 0, .int 0, .int 0, .int 0, .ref m_polys, .ref m_chains, .ref m_pairs, .int 0, .int 0, .int 0, .ref m_zeros, .ref m_tape, .ref m_outs, .ref m_text, .int 0, .int 0, .int 0, .int 0, .int 0, .int 0, .int 0, .ref m_rows, .ref m_digits, .ref m_entries, .ref m_minors, .int 0, .int 0, .int 0, .int 0, .int 0, .int 0, .ref m_pointX, .ref m_pointH, .ref m_pointY, .ref m_those, .int 0, .int 0, .int 0, .int 0, .int 0, .ref m_does, .ref m_atomOf, .ref m_atomRel, .int 0, .int 0, .int 0, .ref m_signs, .ref m_stack, .ref m_xPoly, .ref m_xRoot, .int 0, .ref m_inBoth, .int 0, .ref m_truth, .int 0, .ref m_hasEnd, .ref m_belongs, .ref m_isSingle, .ref m_endPoly, .ref m_endRoot, .int 0, .ref m_small, .ref m_smallDegree, .int 0, .ref m_irreducible, .int 0, .ref m_stackOf, .int 0, .ref m_factorAt, .ref m_factorPower, .ref m_isKept, .ref m_keptPoly, .ref m_keptRoot, .int 0, .int 0, .int 0, .int 0, .int 0, .int 0]))] sz) := by
  refine Met.ofW (cc := b_Model_below) (maxL := 10) (ret := (some .int)) (by decide) rfl ?_
  intro p e s m args below meth c s₁ B hml hv
  obtain ⟨rfl, hsz, hP, hK, hD0, hN⟩ := hv
  have hx := B.exec
  have hb := B.bytes
  have hr := B.returns
  have hT : ∀ w ∈ lw_g, w.before _ s = true := fun w h => atoms_spec (ws := w_Model_below) B.pre w (List.mem_cons_of_mem _ h)
  have hown : s.vm.findClass R_Model = some m.cls := findClass_of_methodNamed B.named
  have hlocks := B.notSynchronized
  subst hsz
  have hD := hD0.self (sz := s.heap.size)
  generalize hAe : va_A [(h0, .inr (12, [.ref m_mem, .int 232000, .int 0, .int 0, .int 0, .int 0, .int 0, .int 0, .int 0, .int 0, .int 0, .ref m_polys, .ref m_chains, .ref m_pairs, .int 0, .int 0, .int 0, .ref m_zeros, .ref m_tape, .ref m_outs, .ref m_text, .int 0, .int 0, .int 0, .int 0, .int 0, .int 0, .int 0, .ref m_rows, .ref m_digits, .ref m_entries, .ref m_minors, .int 0, .int 0, .int 0, .int 0, .int 0, .int 0, .ref m_pointX, .ref m_pointH, .ref m_pointY, .ref m_those, .int 0, .int 0, .int 0, .int 0, .int 0, .ref m_does, .ref m_atomOf, .ref m_atomRel, .int 0, .int 0, .int 0, .ref m_signs, .ref m_stack, .ref m_xPoly, .ref m_xRoot, .int 0, .ref m_inBoth, .int 0, .ref m_truth, .int 0, .ref m_hasEnd, .ref m_belongs, .ref m_isSingle, .ref m_endPoly, .ref m_endRoot, .int 0, .ref m_small, .ref m_smallDegree, .int 0, .ref m_irreducible, .int 0, .ref m_stackOf, .int 0, .ref m_factorAt, .ref m_factorPower, .ref m_isKept, .ref m_keptPoly, .ref m_keptRoot, .int 0, .int 0, .int 0, .int 0, .int 0, .int 0]))] s.heap.size = A at hD ⊢
  have hA : ∀ q : Nat, s.heap.size ≤ q → A q := fun q h => by rw [← hAe]; exact Or.inr h
  have hS : va_S A s.heap s.heap [] := va_S.rf
  have hP : va_P (dC, dI) classes [(h0, .inr (12, [.ref m_mem, .int 232000, .int 0, .int 0, .int 0, .int 0, .int 0, .int 0, .int 0, .int 0, .int 0, .ref m_polys, .ref m_chains, .ref m_pairs, .int 0, .int 0, .int 0, .ref m_zeros, .ref m_tape, .ref m_outs, .ref m_text, .int 0, .int 0, .int 0, .int 0, .int 0, .int 0, .int 0, .ref m_rows, .ref m_digits, .ref m_entries, .ref m_minors, .int 0, .int 0, .int 0, .int 0, .int 0, .int 0, .ref m_pointX, .ref m_pointH, .ref m_pointY, .ref m_those, .int 0, .int 0, .int 0, .int 0, .int 0, .ref m_does, .ref m_atomOf, .ref m_atomRel, .int 0, .int 0, .int 0, .ref m_signs, .ref m_stack, .ref m_xPoly, .ref m_xRoot, .int 0, .ref m_inBoth, .int 0, .ref m_truth, .int 0, .ref m_hasEnd, .ref m_belongs, .ref m_isSingle, .ref m_endPoly, .ref m_endRoot, .int 0, .ref m_small, .ref m_smallDegree, .int 0, .ref m_irreducible, .int 0, .ref m_stackOf, .int 0, .ref m_factorAt, .ref m_factorPower, .ref m_isKept, .ref m_keptPoly, .ref m_keptRoot, .int 0, .int 0, .int 0, .int 0, .int 0, .int 0]))] s.heap := hP
  have hl := lv_entry ([.ref h0, .int a1, .int a2]) (n := 10) (Nat.le_of_ble_eq_true rfl)
  rw [lg_entry_eq]
  generalize (lg_sl ([.ref h0, .int a1, .int a2]) ++ List.replicate (10 - (lg_sl ([.ref h0, .int a1, .int a2])).length) Slot.unset).toArray = ls at hl ⊢
  have hl : lv_has ls 10 [(0, .ref h0), (1, .int a1), (2, .int a2)] := hl
  refine lv_iload_n hx hb d_Model_below_0 rfl (lv_at hl 1 rfl) ?_
  refine lv_if_lt (tgt := 20) hx hb d_Model_below_1 (by decide) (fun c_1 => ?_) (fun c_1 => ?_)
  · refine lv_iconst (v := (-1)) hx hb d_Model_below_20 (by decide) ?_
    have hP9 := hP.sub (ws' := []) [] rfl
    have hD9 := hD.sub (ws' := []) [] (by decide) rfl
    have hK9 := hK.sub (tys' := []) [] rfl
    exact W.iret (v := (-1)) hx hb hr (fun t ht hW => ⟨⟨(-1), (), rfl, rfl, by rw [ht]; exact hP9, va_K.moved hW.alike hK9, hD9⟩, hS.F ht⟩) hS.2.2 d_Model_below_21
  · refine lv_iload_n hx hb d_Model_below_4 rfl (lv_at hl 1 rfl) ?_
    refine lv_aload_n hx hb d_Model_below_5 rfl (lv_at hl 0 rfl) ?_
    refine va_get (D := (dC, dI)) (ci := 12) (v := .int 0) (C := R_Model) (T := F_Model) (N := 86) hx hb hT i_Model hown hK hP 0 rfl rfl 32 (by decide) (hT _ tw_1635) (fun _ h9 => h9) rfl d_Model_below_6 ?_
    refine lv_icmp_ge (tgt := 20) hx hb d_Model_below_9 (by decide) (fun c_2 => ?_) (fun c_2 => absurd (Int32.not_lt.mp c_1) c_2)
    refine lv_iconst (v := (-1)) hx hb d_Model_below_20 (by decide) ?_
    have hP9 := hP.sub (ws' := []) [] rfl
    have hD9 := hD.sub (ws' := []) [] (by decide) rfl
    have hK9 := hK.sub (tys' := []) [] rfl
    exact W.iret (v := (-1)) hx hb hr (fun t ht hW => ⟨⟨(-1), (), rfl, rfl, by rw [ht]; exact hP9, va_K.moved hW.alike hK9, hD9⟩, hS.F ht⟩) hS.2.2 d_Model_below_21

set_option maxHeartbeats 4000000 in
set_option maxRecDepth 100000 in
/-- point of a fresh reference -/
theorem c_Model_point_0 (l : Launch) (dC : Nat → ClassId) (dI : Nat → Nat → Nat) (sz : Nat) (h0 : Nat) (m_mem : Nat) (m_polys : Nat) (m_chains : Nat) (m_pairs : Nat) (m_zeros : Nat) (m_tape : Nat) (m_outs : Nat) (m_text : Nat) (m_rows : Nat) (m_digits : Nat) (m_entries : Nat) (m_minors : Nat) (m_pointX : Nat) (m_pointH : Nat) (m_pointY : Nat) (m_those : Nat) (m_does : Nat) (m_atomOf : Nat) (m_atomRel : Nat) (m_signs : Nat) (m_stack : Nat) (m_xPoly : Nat) (m_xRoot : Nat) (m_inBoth : Nat) (m_truth : Nat) (m_hasEnd : Nat) (m_belongs : Nat) (m_isSingle : Nat) (m_endPoly : Nat) (m_endRoot : Nat) (m_small : Nat) (m_smallDegree : Nat) (m_irreducible : Nat) (m_stackOf : Nat) (m_factorAt : Nat) (m_factorPower : Nat) (m_isKept : Nat) (m_keptPoly : Nat) (m_keptRoot : Nat) (a1 : Int32) (a2 : Int32) (a3 : Int32)  : Met l y_Model_point w_Model_point ({ frames := 0, cells := 0, slots := 0, locals := 0 }) (va_Pc [.ref h0, .int a1, .int a2, .int a3] (fun U => U.heap.size = sz ∧ va_P (dC, dI) classes [(h0, .inr (12, [.ref m_mem, .int 232000, .int 0, .int 0, .int 0, .int 0, .int 0, .int 0, .int 0, .int 0, .int 0, .ref m_polys, .ref m_chains, .ref m_pairs, .int 0, .int 0, .int 0, .ref m_zeros, .ref m_tape, .ref m_outs, .ref m_text, .int 0, .int 0, .int 0, .int 0, .int 0, .int 0, .int 0, .ref m_rows, .ref m_digits, .ref m_entries, .ref m_minors, .int 0, .int 0, .int 0, .int 0, .int 0, .int 0, .ref m_pointX, .ref m_pointH, .ref m_pointY, .ref m_those, .int 0, .int 0, .int 0, .int 0, .int 0, .ref m_does, .ref m_atomOf, .ref m_atomRel, .int 0, .int 0, .int 0, .ref m_signs, .ref m_stack, .ref m_xPoly, .ref m_xRoot, .int 0, .ref m_inBoth, .int 0, .ref m_truth, .int 0, .ref m_hasEnd, .ref m_belongs, .ref m_isSingle, .ref m_endPoly, .ref m_endRoot, .int 0, .ref m_small, .ref m_smallDegree, .int 0, .ref m_irreducible, .int 0, .ref m_stackOf, .int 0, .ref m_factorAt, .ref m_factorPower, .ref m_isKept, .ref m_keptPoly, .ref m_keptRoot, .int 0, .int 0, .int 0, .int 0, .int 0, .int 0]))] U.heap ∧ va_K (dC, dI) classes [] U ∧ va_D (fun _ => True) [(h0, .inr (12, [.ref m_mem, .int 232000, .int 0, .int 0, .int 0, .int 0, .int 0, .int 0, .int 0, .int 0, .int 0, .ref m_polys, .ref m_chains, .ref m_pairs, .int 0, .int 0, .int 0, .ref m_zeros, .ref m_tape, .ref m_outs, .ref m_text, .int 0, .int 0, .int 0, .int 0, .int 0, .int 0, .int 0, .ref m_rows, .ref m_digits, .ref m_entries, .ref m_minors, .int 0, .int 0, .int 0, .int 0, .int 0, .int 0, .ref m_pointX, .ref m_pointH, .ref m_pointY, .ref m_those, .int 0, .int 0, .int 0, .int 0, .int 0, .ref m_does, .ref m_atomOf, .ref m_atomRel, .int 0, .int 0, .int 0, .ref m_signs, .ref m_stack, .ref m_xPoly, .ref m_xRoot, .int 0, .ref m_inBoth, .int 0, .ref m_truth, .int 0, .ref m_hasEnd, .ref m_belongs, .ref m_isSingle, .ref m_endPoly, .ref m_endRoot, .int 0, .ref m_small, .ref m_smallDegree, .int 0, .ref m_irreducible, .int 0, .ref m_stackOf, .int 0, .ref m_factorAt, .ref m_factorPower, .ref m_isKept, .ref m_keptPoly, .ref m_keptRoot, .int 0, .int 0, .int 0, .int 0, .int 0, .int 0]))] ∧ nx_K U)) (va_Qi (fun (r : Int32) (_ : Unit) => r = (-1)) (fun _ t => va_P (dC, dI) classes [] t.heap ∧ va_K (dC, dI) classes [] t ∧ va_D (va_A [(h0, .inr (12, [.ref m_mem, .int 232000, .int 0, .int 0, .int 0, .int 0, .int 0, .int 0, .int 0, .int 0, .int 0, .ref m_polys, .ref m_chains, .ref m_pairs, .int 0, .int 0, .int 0, .ref m_zeros, .ref m_tape, .ref m_outs, .ref m_text, .int 0, .int 0, .int 0, .int 0, .int 0, .int 0, .int 0, .ref m_rows, .ref m_digits, .ref m_entries, .ref m_minors, .int 0, .int 0, .int 0, .int 0, .int 0, .int 0, .ref m_pointX, .ref m_pointH, .ref m_pointY, .ref m_those, .int 0, .int 0, .int 0, .int 0, .int 0, .ref m_does, .ref m_atomOf, .ref m_atomRel, .int 0, .int 0, .int 0, .ref m_signs, .ref m_stack, .ref m_xPoly, .ref m_xRoot, .int 0, .ref m_inBoth, .int 0, .ref m_truth, .int 0, .ref m_hasEnd, .ref m_belongs, .ref m_isSingle, .ref m_endPoly, .ref m_endRoot, .int 0, .ref m_small, .ref m_smallDegree, .int 0, .ref m_irreducible, .int 0, .ref m_stackOf, .int 0, .ref m_factorAt, .ref m_factorPower, .ref m_isKept, .ref m_keptPoly, .ref m_keptRoot, .int 0, .int 0, .int 0, .int 0, .int 0, .int 0]))] sz) []) (va_A [(h0, .inr (12, [.ref m_mem, .int 232000, .int 0, .int 0, .int 0, .int 0, .int 0, .int 0, .int 0, .int 0, .int 0, .ref m_polys, .ref m_chains, .ref m_pairs, .int 0, .int 0, .int 0, .ref m_zeros, .ref m_tape, .ref m_outs, .ref m_text, .int 0, .int 0, .int 0, .int 0, .int 0, .int 0, .int 0, .ref m_rows, .ref m_digits, .ref m_entries, .ref m_minors, .int 0, .int 0, .int 0, .int 0, .int 0, .int 0, .ref m_pointX, .ref m_pointH, .ref m_pointY, .ref m_those, .int 0, .int 0, .int 0, .int 0, .int 0, .ref m_does, .ref m_atomOf, .ref m_atomRel, .int 0, .int 0, .int 0, .ref m_signs, .ref m_stack, .ref m_xPoly, .ref m_xRoot, .int 0, .ref m_inBoth, .int 0, .ref m_truth, .int 0, .ref m_hasEnd, .ref m_belongs, .ref m_isSingle, .ref m_endPoly, .ref m_endRoot, .int 0, .ref m_small, .ref m_smallDegree, .int 0, .ref m_irreducible, .int 0, .ref m_stackOf, .int 0, .ref m_factorAt, .ref m_factorPower, .ref m_isKept, .ref m_keptPoly, .ref m_keptRoot, .int 0, .int 0, .int 0, .int 0, .int 0, .int 0]))] sz)) 0 0 (va_A [(h0, .inr (12, [.ref m_mem, .int 232000, .int 0, .int 0, .int 0, .int 0, .int 0, .int 0, .int 0, .int 0, .int 0, .ref m_polys, .ref m_chains, .ref m_pairs, .int 0, .int 0, .int 0, .ref m_zeros, .ref m_tape, .ref m_outs, .ref m_text, .int 0, .int 0, .int 0, .int 0, .int 0, .int 0, .int 0, .ref m_rows, .ref m_digits, .ref m_entries, .ref m_minors, .int 0, .int 0, .int 0, .int 0, .int 0, .int 0, .ref m_pointX, .ref m_pointH, .ref m_pointY, .ref m_those, .int 0, .int 0, .int 0, .int 0, .int 0, .ref m_does, .ref m_atomOf, .ref m_atomRel, .int 0, .int 0, .int 0, .ref m_signs, .ref m_stack, .ref m_xPoly, .ref m_xRoot, .int 0, .ref m_inBoth, .int 0, .ref m_truth, .int 0, .ref m_hasEnd, .ref m_belongs, .ref m_isSingle, .ref m_endPoly, .ref m_endRoot, .int 0, .ref m_small, .ref m_smallDegree, .int 0, .ref m_irreducible, .int 0, .ref m_stackOf, .int 0, .ref m_factorAt, .ref m_factorPower, .ref m_isKept, .ref m_keptPoly, .ref m_keptRoot, .int 0, .int 0, .int 0, .int 0, .int 0, .int 0]))] sz) := by
  refine Met.ofW (cc := b_Model_point) (maxL := 5) (ret := (some .int)) (by decide) rfl ?_
  intro p e s m args below meth c s₁ B hml hv
  obtain ⟨rfl, hsz, hP, hK, hD0, hN⟩ := hv
  have hx := B.exec
  have hb := B.bytes
  have hr := B.returns
  have hT : ∀ w ∈ lw_g, w.before _ s = true := fun w h => atoms_spec (ws := w_Model_point) B.pre w (List.mem_cons_of_mem _ h)
  have hown : s.vm.findClass R_Model = some m.cls := findClass_of_methodNamed B.named
  have hlocks := B.notSynchronized
  subst hsz
  have hD := hD0.self (sz := s.heap.size)
  generalize hAe : va_A [(h0, .inr (12, [.ref m_mem, .int 232000, .int 0, .int 0, .int 0, .int 0, .int 0, .int 0, .int 0, .int 0, .int 0, .ref m_polys, .ref m_chains, .ref m_pairs, .int 0, .int 0, .int 0, .ref m_zeros, .ref m_tape, .ref m_outs, .ref m_text, .int 0, .int 0, .int 0, .int 0, .int 0, .int 0, .int 0, .ref m_rows, .ref m_digits, .ref m_entries, .ref m_minors, .int 0, .int 0, .int 0, .int 0, .int 0, .int 0, .ref m_pointX, .ref m_pointH, .ref m_pointY, .ref m_those, .int 0, .int 0, .int 0, .int 0, .int 0, .ref m_does, .ref m_atomOf, .ref m_atomRel, .int 0, .int 0, .int 0, .ref m_signs, .ref m_stack, .ref m_xPoly, .ref m_xRoot, .int 0, .ref m_inBoth, .int 0, .ref m_truth, .int 0, .ref m_hasEnd, .ref m_belongs, .ref m_isSingle, .ref m_endPoly, .ref m_endRoot, .int 0, .ref m_small, .ref m_smallDegree, .int 0, .ref m_irreducible, .int 0, .ref m_stackOf, .int 0, .ref m_factorAt, .ref m_factorPower, .ref m_isKept, .ref m_keptPoly, .ref m_keptRoot, .int 0, .int 0, .int 0, .int 0, .int 0, .int 0]))] s.heap.size = A at hD ⊢
  have hA : ∀ q : Nat, s.heap.size ≤ q → A q := fun q h => by rw [← hAe]; exact Or.inr h
  have hS : va_S A s.heap s.heap [] := va_S.rf
  have hP : va_P (dC, dI) classes [(h0, .inr (12, [.ref m_mem, .int 232000, .int 0, .int 0, .int 0, .int 0, .int 0, .int 0, .int 0, .int 0, .int 0, .ref m_polys, .ref m_chains, .ref m_pairs, .int 0, .int 0, .int 0, .ref m_zeros, .ref m_tape, .ref m_outs, .ref m_text, .int 0, .int 0, .int 0, .int 0, .int 0, .int 0, .int 0, .ref m_rows, .ref m_digits, .ref m_entries, .ref m_minors, .int 0, .int 0, .int 0, .int 0, .int 0, .int 0, .ref m_pointX, .ref m_pointH, .ref m_pointY, .ref m_those, .int 0, .int 0, .int 0, .int 0, .int 0, .ref m_does, .ref m_atomOf, .ref m_atomRel, .int 0, .int 0, .int 0, .ref m_signs, .ref m_stack, .ref m_xPoly, .ref m_xRoot, .int 0, .ref m_inBoth, .int 0, .ref m_truth, .int 0, .ref m_hasEnd, .ref m_belongs, .ref m_isSingle, .ref m_endPoly, .ref m_endRoot, .int 0, .ref m_small, .ref m_smallDegree, .int 0, .ref m_irreducible, .int 0, .ref m_stackOf, .int 0, .ref m_factorAt, .ref m_factorPower, .ref m_isKept, .ref m_keptPoly, .ref m_keptRoot, .int 0, .int 0, .int 0, .int 0, .int 0, .int 0]))] s.heap := hP
  have hl := lv_entry ([.ref h0, .int a1, .int a2, .int a3]) (n := 5) (Nat.le_of_ble_eq_true rfl)
  rw [lg_entry_eq]
  generalize (lg_sl ([.ref h0, .int a1, .int a2, .int a3]) ++ List.replicate (5 - (lg_sl ([.ref h0, .int a1, .int a2, .int a3])).length) Slot.unset).toArray = ls at hl ⊢
  have hl : lv_has ls 5 [(0, .ref h0), (1, .int a1), (2, .int a2), (3, .int a3)] := hl
  refine lv_iload_n hx hb d_Model_point_0 rfl (lv_at hl 1 rfl) ?_
  refine lv_if_lt (tgt := 32) hx hb d_Model_point_1 (by decide) (fun c_1 => ?_) (fun c_1 => ?_)
  · refine lv_iconst (v := (-1)) hx hb d_Model_point_32 (by decide) ?_
    have hP9 := hP.sub (ws' := []) [] rfl
    have hD9 := hD.sub (ws' := []) [] (by decide) rfl
    have hK9 := hK.sub (tys' := []) [] rfl
    exact W.iret (v := (-1)) hx hb hr (fun t ht hW => ⟨⟨(-1), (), rfl, rfl, by rw [ht]; exact hP9, va_K.moved hW.alike hK9, hD9⟩, hS.F ht⟩) hS.2.2 d_Model_point_33
  · refine lv_iload_n hx hb d_Model_point_4 rfl (lv_at hl 1 rfl) ?_
    refine lv_aload_n hx hb d_Model_point_5 rfl (lv_at hl 0 rfl) ?_
    refine va_get (D := (dC, dI)) (ci := 12) (v := .int 0) (C := R_Model) (T := F_Model) (N := 86) hx hb hT i_Model hown hK hP 0 rfl rfl 36 (by decide) (hT _ tw_1639) (fun _ h9 => h9) rfl d_Model_point_6 ?_
    refine lv_icmp_ge (tgt := 32) hx hb d_Model_point_9 (by decide) (fun c_2 => ?_) (fun c_2 => absurd (Int32.not_lt.mp c_1) c_2)
    refine lv_iconst (v := (-1)) hx hb d_Model_point_32 (by decide) ?_
    have hP9 := hP.sub (ws' := []) [] rfl
    have hD9 := hD.sub (ws' := []) [] (by decide) rfl
    have hK9 := hK.sub (tys' := []) [] rfl
    exact W.iret (v := (-1)) hx hb hr (fun t ht hW => ⟨⟨(-1), (), rfl, rfl, by rw [ht]; exact hP9, va_K.moved hW.alike hK9, hD9⟩, hS.F ht⟩) hS.2.2 d_Model_point_33

set_option maxHeartbeats 4000000 in
set_option maxRecDepth 100000 in
/-- signAtPoint of a fresh reference -/
theorem c_Model_signAtPoint_0 (l : Launch) (dC : Nat → ClassId) (dI : Nat → Nat → Nat) (sz : Nat) (h0 : Nat) (m_mem : Nat) (m_polys : Nat) (m_chains : Nat) (m_pairs : Nat) (m_zeros : Nat) (m_tape : Nat) (m_outs : Nat) (m_text : Nat) (m_rows : Nat) (m_digits : Nat) (m_entries : Nat) (m_minors : Nat) (m_pointX : Nat) (m_pointH : Nat) (m_pointY : Nat) (m_those : Nat) (m_does : Nat) (m_atomOf : Nat) (m_atomRel : Nat) (m_signs : Nat) (m_stack : Nat) (m_xPoly : Nat) (m_xRoot : Nat) (m_inBoth : Nat) (m_truth : Nat) (m_hasEnd : Nat) (m_belongs : Nat) (m_isSingle : Nat) (m_endPoly : Nat) (m_endRoot : Nat) (m_small : Nat) (m_smallDegree : Nat) (m_irreducible : Nat) (m_stackOf : Nat) (m_factorAt : Nat) (m_factorPower : Nat) (m_isKept : Nat) (m_keptPoly : Nat) (m_keptRoot : Nat) (a1 : Int32) (a2 : Int32)  : Met l y_Model_signAtPoint w_Model_signAtPoint ({ frames := 0, cells := 0, slots := 0, locals := 0 }) (va_Pc [.ref h0, .int a1, .int a2] (fun U => U.heap.size = sz ∧ va_P (dC, dI) classes [(h0, .inr (12, [.ref m_mem, .int 232000, .int 0, .int 0, .int 0, .int 0, .int 0, .int 0, .int 0, .int 0, .int 0, .ref m_polys, .ref m_chains, .ref m_pairs, .int 0, .int 0, .int 0, .ref m_zeros, .ref m_tape, .ref m_outs, .ref m_text, .int 0, .int 0, .int 0, .int 0, .int 0, .int 0, .int 0, .ref m_rows, .ref m_digits, .ref m_entries, .ref m_minors, .int 0, .int 0, .int 0, .int 0, .int 0, .int 0, .ref m_pointX, .ref m_pointH, .ref m_pointY, .ref m_those, .int 0, .int 0, .int 0, .int 0, .int 0, .ref m_does, .ref m_atomOf, .ref m_atomRel, .int 0, .int 0, .int 0, .ref m_signs, .ref m_stack, .ref m_xPoly, .ref m_xRoot, .int 0, .ref m_inBoth, .int 0, .ref m_truth, .int 0, .ref m_hasEnd, .ref m_belongs, .ref m_isSingle, .ref m_endPoly, .ref m_endRoot, .int 0, .ref m_small, .ref m_smallDegree, .int 0, .ref m_irreducible, .int 0, .ref m_stackOf, .int 0, .ref m_factorAt, .ref m_factorPower, .ref m_isKept, .ref m_keptPoly, .ref m_keptRoot, .int 0, .int 0, .int 0, .int 0, .int 0, .int 0]))] U.heap ∧ va_K (dC, dI) classes [] U ∧ va_D (fun _ => True) [(h0, .inr (12, [.ref m_mem, .int 232000, .int 0, .int 0, .int 0, .int 0, .int 0, .int 0, .int 0, .int 0, .int 0, .ref m_polys, .ref m_chains, .ref m_pairs, .int 0, .int 0, .int 0, .ref m_zeros, .ref m_tape, .ref m_outs, .ref m_text, .int 0, .int 0, .int 0, .int 0, .int 0, .int 0, .int 0, .ref m_rows, .ref m_digits, .ref m_entries, .ref m_minors, .int 0, .int 0, .int 0, .int 0, .int 0, .int 0, .ref m_pointX, .ref m_pointH, .ref m_pointY, .ref m_those, .int 0, .int 0, .int 0, .int 0, .int 0, .ref m_does, .ref m_atomOf, .ref m_atomRel, .int 0, .int 0, .int 0, .ref m_signs, .ref m_stack, .ref m_xPoly, .ref m_xRoot, .int 0, .ref m_inBoth, .int 0, .ref m_truth, .int 0, .ref m_hasEnd, .ref m_belongs, .ref m_isSingle, .ref m_endPoly, .ref m_endRoot, .int 0, .ref m_small, .ref m_smallDegree, .int 0, .ref m_irreducible, .int 0, .ref m_stackOf, .int 0, .ref m_factorAt, .ref m_factorPower, .ref m_isKept, .ref m_keptPoly, .ref m_keptRoot, .int 0, .int 0, .int 0, .int 0, .int 0, .int 0]))] ∧ nx_K U)) (va_Qi (fun (r : Int32) (_ : Unit) => r = (-1)) (fun _ t => va_P (dC, dI) classes [] t.heap ∧ va_K (dC, dI) classes [] t ∧ va_D (va_A [(h0, .inr (12, [.ref m_mem, .int 232000, .int 0, .int 0, .int 0, .int 0, .int 0, .int 0, .int 0, .int 0, .int 0, .ref m_polys, .ref m_chains, .ref m_pairs, .int 0, .int 0, .int 0, .ref m_zeros, .ref m_tape, .ref m_outs, .ref m_text, .int 0, .int 0, .int 0, .int 0, .int 0, .int 0, .int 0, .ref m_rows, .ref m_digits, .ref m_entries, .ref m_minors, .int 0, .int 0, .int 0, .int 0, .int 0, .int 0, .ref m_pointX, .ref m_pointH, .ref m_pointY, .ref m_those, .int 0, .int 0, .int 0, .int 0, .int 0, .ref m_does, .ref m_atomOf, .ref m_atomRel, .int 0, .int 0, .int 0, .ref m_signs, .ref m_stack, .ref m_xPoly, .ref m_xRoot, .int 0, .ref m_inBoth, .int 0, .ref m_truth, .int 0, .ref m_hasEnd, .ref m_belongs, .ref m_isSingle, .ref m_endPoly, .ref m_endRoot, .int 0, .ref m_small, .ref m_smallDegree, .int 0, .ref m_irreducible, .int 0, .ref m_stackOf, .int 0, .ref m_factorAt, .ref m_factorPower, .ref m_isKept, .ref m_keptPoly, .ref m_keptRoot, .int 0, .int 0, .int 0, .int 0, .int 0, .int 0]))] sz) []) (va_A [(h0, .inr (12, [.ref m_mem, .int 232000, .int 0, .int 0, .int 0, .int 0, .int 0, .int 0, .int 0, .int 0, .int 0, .ref m_polys, .ref m_chains, .ref m_pairs, .int 0, .int 0, .int 0, .ref m_zeros, .ref m_tape, .ref m_outs, .ref m_text, .int 0, .int 0, .int 0, .int 0, .int 0, .int 0, .int 0, .ref m_rows, .ref m_digits, .ref m_entries, .ref m_minors, .int 0, .int 0, .int 0, .int 0, .int 0, .int 0, .ref m_pointX, .ref m_pointH, .ref m_pointY, .ref m_those, .int 0, .int 0, .int 0, .int 0, .int 0, .ref m_does, .ref m_atomOf, .ref m_atomRel, .int 0, .int 0, .int 0, .ref m_signs, .ref m_stack, .ref m_xPoly, .ref m_xRoot, .int 0, .ref m_inBoth, .int 0, .ref m_truth, .int 0, .ref m_hasEnd, .ref m_belongs, .ref m_isSingle, .ref m_endPoly, .ref m_endRoot, .int 0, .ref m_small, .ref m_smallDegree, .int 0, .ref m_irreducible, .int 0, .ref m_stackOf, .int 0, .ref m_factorAt, .ref m_factorPower, .ref m_isKept, .ref m_keptPoly, .ref m_keptRoot, .int 0, .int 0, .int 0, .int 0, .int 0, .int 0]))] sz)) 0 0 (va_A [(h0, .inr (12, [.ref m_mem, .int 232000, .int 0, .int 0, .int 0, .int 0, .int 0, .int 0, .int 0, .int 0, .int 0, .ref m_polys, .ref m_chains, .ref m_pairs, .int 0, .int 0, .int 0, .ref m_zeros, .ref m_tape, .ref m_outs, .ref m_text, .int 0, .int 0, .int 0, .int 0, .int 0, .int 0, .int 0, .ref m_rows, .ref m_digits, .ref m_entries, .ref m_minors, .int 0, .int 0, .int 0, .int 0, .int 0, .int 0, .ref m_pointX, .ref m_pointH, .ref m_pointY, .ref m_those, .int 0, .int 0, .int 0, .int 0, .int 0, .ref m_does, .ref m_atomOf, .ref m_atomRel, .int 0, .int 0, .int 0, .ref m_signs, .ref m_stack, .ref m_xPoly, .ref m_xRoot, .int 0, .ref m_inBoth, .int 0, .ref m_truth, .int 0, .ref m_hasEnd, .ref m_belongs, .ref m_isSingle, .ref m_endPoly, .ref m_endRoot, .int 0, .ref m_small, .ref m_smallDegree, .int 0, .ref m_irreducible, .int 0, .ref m_stackOf, .int 0, .ref m_factorAt, .ref m_factorPower, .ref m_isKept, .ref m_keptPoly, .ref m_keptRoot, .int 0, .int 0, .int 0, .int 0, .int 0, .int 0]))] sz) := by
  refine Met.ofW (cc := b_Model_signAtPoint) (maxL := 10) (ret := (some .int)) (by decide) rfl ?_
  intro p e s m args below meth c s₁ B hml hv
  obtain ⟨rfl, hsz, hP, hK, hD0, hN⟩ := hv
  have hx := B.exec
  have hb := B.bytes
  have hr := B.returns
  have hT : ∀ w ∈ lw_g, w.before _ s = true := fun w h => atoms_spec (ws := w_Model_signAtPoint) B.pre w (List.mem_cons_of_mem _ h)
  have hown : s.vm.findClass R_Model = some m.cls := findClass_of_methodNamed B.named
  have hlocks := B.notSynchronized
  subst hsz
  have hD := hD0.self (sz := s.heap.size)
  generalize hAe : va_A [(h0, .inr (12, [.ref m_mem, .int 232000, .int 0, .int 0, .int 0, .int 0, .int 0, .int 0, .int 0, .int 0, .int 0, .ref m_polys, .ref m_chains, .ref m_pairs, .int 0, .int 0, .int 0, .ref m_zeros, .ref m_tape, .ref m_outs, .ref m_text, .int 0, .int 0, .int 0, .int 0, .int 0, .int 0, .int 0, .ref m_rows, .ref m_digits, .ref m_entries, .ref m_minors, .int 0, .int 0, .int 0, .int 0, .int 0, .int 0, .ref m_pointX, .ref m_pointH, .ref m_pointY, .ref m_those, .int 0, .int 0, .int 0, .int 0, .int 0, .ref m_does, .ref m_atomOf, .ref m_atomRel, .int 0, .int 0, .int 0, .ref m_signs, .ref m_stack, .ref m_xPoly, .ref m_xRoot, .int 0, .ref m_inBoth, .int 0, .ref m_truth, .int 0, .ref m_hasEnd, .ref m_belongs, .ref m_isSingle, .ref m_endPoly, .ref m_endRoot, .int 0, .ref m_small, .ref m_smallDegree, .int 0, .ref m_irreducible, .int 0, .ref m_stackOf, .int 0, .ref m_factorAt, .ref m_factorPower, .ref m_isKept, .ref m_keptPoly, .ref m_keptRoot, .int 0, .int 0, .int 0, .int 0, .int 0, .int 0]))] s.heap.size = A at hD ⊢
  have hA : ∀ q : Nat, s.heap.size ≤ q → A q := fun q h => by rw [← hAe]; exact Or.inr h
  have hS : va_S A s.heap s.heap [] := va_S.rf
  have hP : va_P (dC, dI) classes [(h0, .inr (12, [.ref m_mem, .int 232000, .int 0, .int 0, .int 0, .int 0, .int 0, .int 0, .int 0, .int 0, .int 0, .ref m_polys, .ref m_chains, .ref m_pairs, .int 0, .int 0, .int 0, .ref m_zeros, .ref m_tape, .ref m_outs, .ref m_text, .int 0, .int 0, .int 0, .int 0, .int 0, .int 0, .int 0, .ref m_rows, .ref m_digits, .ref m_entries, .ref m_minors, .int 0, .int 0, .int 0, .int 0, .int 0, .int 0, .ref m_pointX, .ref m_pointH, .ref m_pointY, .ref m_those, .int 0, .int 0, .int 0, .int 0, .int 0, .ref m_does, .ref m_atomOf, .ref m_atomRel, .int 0, .int 0, .int 0, .ref m_signs, .ref m_stack, .ref m_xPoly, .ref m_xRoot, .int 0, .ref m_inBoth, .int 0, .ref m_truth, .int 0, .ref m_hasEnd, .ref m_belongs, .ref m_isSingle, .ref m_endPoly, .ref m_endRoot, .int 0, .ref m_small, .ref m_smallDegree, .int 0, .ref m_irreducible, .int 0, .ref m_stackOf, .int 0, .ref m_factorAt, .ref m_factorPower, .ref m_isKept, .ref m_keptPoly, .ref m_keptRoot, .int 0, .int 0, .int 0, .int 0, .int 0, .int 0]))] s.heap := hP
  have hl := lv_entry ([.ref h0, .int a1, .int a2]) (n := 10) (Nat.le_of_ble_eq_true rfl)
  rw [lg_entry_eq]
  generalize (lg_sl ([.ref h0, .int a1, .int a2]) ++ List.replicate (10 - (lg_sl ([.ref h0, .int a1, .int a2])).length) Slot.unset).toArray = ls at hl ⊢
  have hl : lv_has ls 10 [(0, .ref h0), (1, .int a1), (2, .int a2)] := hl
  refine lv_iload_n hx hb d_Model_signAtPoint_0 rfl (lv_at hl 1 rfl) ?_
  refine lv_if_lt (tgt := 20) hx hb d_Model_signAtPoint_1 (by decide) (fun c_1 => ?_) (fun c_1 => ?_)
  · refine lv_iconst (v := (-1)) hx hb d_Model_signAtPoint_20 (by decide) ?_
    have hP9 := hP.sub (ws' := []) [] rfl
    have hD9 := hD.sub (ws' := []) [] (by decide) rfl
    have hK9 := hK.sub (tys' := []) [] rfl
    exact W.iret (v := (-1)) hx hb hr (fun t ht hW => ⟨⟨(-1), (), rfl, rfl, by rw [ht]; exact hP9, va_K.moved hW.alike hK9, hD9⟩, hS.F ht⟩) hS.2.2 d_Model_signAtPoint_21
  · refine lv_iload_n hx hb d_Model_signAtPoint_4 rfl (lv_at hl 1 rfl) ?_
    refine lv_aload_n hx hb d_Model_signAtPoint_5 rfl (lv_at hl 0 rfl) ?_
    refine va_get (D := (dC, dI)) (ci := 12) (v := .int 0) (C := R_Model) (T := F_Model) (N := 86) hx hb hT i_Model hown hK hP 0 rfl rfl 36 (by decide) (hT _ tw_1639) (fun _ h9 => h9) rfl d_Model_signAtPoint_6 ?_
    refine lv_icmp_ge (tgt := 20) hx hb d_Model_signAtPoint_9 (by decide) (fun c_2 => ?_) (fun c_2 => absurd (Int32.not_lt.mp c_1) c_2)
    refine lv_iconst (v := (-1)) hx hb d_Model_signAtPoint_20 (by decide) ?_
    have hP9 := hP.sub (ws' := []) [] rfl
    have hD9 := hD.sub (ws' := []) [] (by decide) rfl
    have hK9 := hK.sub (tys' := []) [] rfl
    exact W.iret (v := (-1)) hx hb hr (fun t ht hW => ⟨⟨(-1), (), rfl, rfl, by rw [ht]; exact hP9, va_K.moved hW.alike hK9, hD9⟩, hS.F ht⟩) hS.2.2 d_Model_signAtPoint_21

set_option maxHeartbeats 4000000 in
set_option maxRecDepth 100000 in
/-- piece of a fresh reference -/
theorem c_Model_piece_0 (l : Launch) (dC : Nat → ClassId) (dI : Nat → Nat → Nat) (sz : Nat) (h0 : Nat) (m_mem : Nat) (m_polys : Nat) (m_chains : Nat) (m_pairs : Nat) (m_zeros : Nat) (m_tape : Nat) (m_outs : Nat) (m_text : Nat) (m_rows : Nat) (m_digits : Nat) (m_entries : Nat) (m_minors : Nat) (m_pointX : Nat) (m_pointH : Nat) (m_pointY : Nat) (m_those : Nat) (m_does : Nat) (m_atomOf : Nat) (m_atomRel : Nat) (m_signs : Nat) (m_stack : Nat) (m_xPoly : Nat) (m_xRoot : Nat) (m_inBoth : Nat) (m_truth : Nat) (m_hasEnd : Nat) (m_belongs : Nat) (m_isSingle : Nat) (m_endPoly : Nat) (m_endRoot : Nat) (m_small : Nat) (m_smallDegree : Nat) (m_irreducible : Nat) (m_stackOf : Nat) (m_factorAt : Nat) (m_factorPower : Nat) (m_isKept : Nat) (m_keptPoly : Nat) (m_keptRoot : Nat) (a1 : Int32) (a2 : Int32)  : Met l y_Model_piece w_Model_piece ({ frames := 0, cells := 0, slots := 0, locals := 0 }) (va_Pc [.ref h0, .int a1, .int a2] (fun U => U.heap.size = sz ∧ va_P (dC, dI) classes [(h0, .inr (12, [.ref m_mem, .int 232000, .int 0, .int 0, .int 0, .int 0, .int 0, .int 0, .int 0, .int 0, .int 0, .ref m_polys, .ref m_chains, .ref m_pairs, .int 0, .int 0, .int 0, .ref m_zeros, .ref m_tape, .ref m_outs, .ref m_text, .int 0, .int 0, .int 0, .int 0, .int 0, .int 0, .int 0, .ref m_rows, .ref m_digits, .ref m_entries, .ref m_minors, .int 0, .int 0, .int 0, .int 0, .int 0, .int 0, .ref m_pointX, .ref m_pointH, .ref m_pointY, .ref m_those, .int 0, .int 0, .int 0, .int 0, .int 0, .ref m_does, .ref m_atomOf, .ref m_atomRel, .int 0, .int 0, .int 0, .ref m_signs, .ref m_stack, .ref m_xPoly, .ref m_xRoot, .int 0, .ref m_inBoth, .int 0, .ref m_truth, .int 0, .ref m_hasEnd, .ref m_belongs, .ref m_isSingle, .ref m_endPoly, .ref m_endRoot, .int 0, .ref m_small, .ref m_smallDegree, .int 0, .ref m_irreducible, .int 0, .ref m_stackOf, .int 0, .ref m_factorAt, .ref m_factorPower, .ref m_isKept, .ref m_keptPoly, .ref m_keptRoot, .int 0, .int 0, .int 0, .int 0, .int 0, .int 0]))] U.heap ∧ va_K (dC, dI) classes [] U ∧ va_D (fun _ => True) [(h0, .inr (12, [.ref m_mem, .int 232000, .int 0, .int 0, .int 0, .int 0, .int 0, .int 0, .int 0, .int 0, .int 0, .ref m_polys, .ref m_chains, .ref m_pairs, .int 0, .int 0, .int 0, .ref m_zeros, .ref m_tape, .ref m_outs, .ref m_text, .int 0, .int 0, .int 0, .int 0, .int 0, .int 0, .int 0, .ref m_rows, .ref m_digits, .ref m_entries, .ref m_minors, .int 0, .int 0, .int 0, .int 0, .int 0, .int 0, .ref m_pointX, .ref m_pointH, .ref m_pointY, .ref m_those, .int 0, .int 0, .int 0, .int 0, .int 0, .ref m_does, .ref m_atomOf, .ref m_atomRel, .int 0, .int 0, .int 0, .ref m_signs, .ref m_stack, .ref m_xPoly, .ref m_xRoot, .int 0, .ref m_inBoth, .int 0, .ref m_truth, .int 0, .ref m_hasEnd, .ref m_belongs, .ref m_isSingle, .ref m_endPoly, .ref m_endRoot, .int 0, .ref m_small, .ref m_smallDegree, .int 0, .ref m_irreducible, .int 0, .ref m_stackOf, .int 0, .ref m_factorAt, .ref m_factorPower, .ref m_isKept, .ref m_keptPoly, .ref m_keptRoot, .int 0, .int 0, .int 0, .int 0, .int 0, .int 0]))] ∧ nx_K U)) (va_Qi (fun (r : Int32) (_ : Unit) => r = (-1)) (fun _ t => va_P (dC, dI) classes [] t.heap ∧ va_K (dC, dI) classes [] t ∧ va_D (va_A [(h0, .inr (12, [.ref m_mem, .int 232000, .int 0, .int 0, .int 0, .int 0, .int 0, .int 0, .int 0, .int 0, .int 0, .ref m_polys, .ref m_chains, .ref m_pairs, .int 0, .int 0, .int 0, .ref m_zeros, .ref m_tape, .ref m_outs, .ref m_text, .int 0, .int 0, .int 0, .int 0, .int 0, .int 0, .int 0, .ref m_rows, .ref m_digits, .ref m_entries, .ref m_minors, .int 0, .int 0, .int 0, .int 0, .int 0, .int 0, .ref m_pointX, .ref m_pointH, .ref m_pointY, .ref m_those, .int 0, .int 0, .int 0, .int 0, .int 0, .ref m_does, .ref m_atomOf, .ref m_atomRel, .int 0, .int 0, .int 0, .ref m_signs, .ref m_stack, .ref m_xPoly, .ref m_xRoot, .int 0, .ref m_inBoth, .int 0, .ref m_truth, .int 0, .ref m_hasEnd, .ref m_belongs, .ref m_isSingle, .ref m_endPoly, .ref m_endRoot, .int 0, .ref m_small, .ref m_smallDegree, .int 0, .ref m_irreducible, .int 0, .ref m_stackOf, .int 0, .ref m_factorAt, .ref m_factorPower, .ref m_isKept, .ref m_keptPoly, .ref m_keptRoot, .int 0, .int 0, .int 0, .int 0, .int 0, .int 0]))] sz) []) (va_A [(h0, .inr (12, [.ref m_mem, .int 232000, .int 0, .int 0, .int 0, .int 0, .int 0, .int 0, .int 0, .int 0, .int 0, .ref m_polys, .ref m_chains, .ref m_pairs, .int 0, .int 0, .int 0, .ref m_zeros, .ref m_tape, .ref m_outs, .ref m_text, .int 0, .int 0, .int 0, .int 0, .int 0, .int 0, .int 0, .ref m_rows, .ref m_digits, .ref m_entries, .ref m_minors, .int 0, .int 0, .int 0, .int 0, .int 0, .int 0, .ref m_pointX, .ref m_pointH, .ref m_pointY, .ref m_those, .int 0, .int 0, .int 0, .int 0, .int 0, .ref m_does, .ref m_atomOf, .ref m_atomRel, .int 0, .int 0, .int 0, .ref m_signs, .ref m_stack, .ref m_xPoly, .ref m_xRoot, .int 0, .ref m_inBoth, .int 0, .ref m_truth, .int 0, .ref m_hasEnd, .ref m_belongs, .ref m_isSingle, .ref m_endPoly, .ref m_endRoot, .int 0, .ref m_small, .ref m_smallDegree, .int 0, .ref m_irreducible, .int 0, .ref m_stackOf, .int 0, .ref m_factorAt, .ref m_factorPower, .ref m_isKept, .ref m_keptPoly, .ref m_keptRoot, .int 0, .int 0, .int 0, .int 0, .int 0, .int 0]))] sz)) 0 0 (va_A [(h0, .inr (12, [.ref m_mem, .int 232000, .int 0, .int 0, .int 0, .int 0, .int 0, .int 0, .int 0, .int 0, .int 0, .ref m_polys, .ref m_chains, .ref m_pairs, .int 0, .int 0, .int 0, .ref m_zeros, .ref m_tape, .ref m_outs, .ref m_text, .int 0, .int 0, .int 0, .int 0, .int 0, .int 0, .int 0, .ref m_rows, .ref m_digits, .ref m_entries, .ref m_minors, .int 0, .int 0, .int 0, .int 0, .int 0, .int 0, .ref m_pointX, .ref m_pointH, .ref m_pointY, .ref m_those, .int 0, .int 0, .int 0, .int 0, .int 0, .ref m_does, .ref m_atomOf, .ref m_atomRel, .int 0, .int 0, .int 0, .ref m_signs, .ref m_stack, .ref m_xPoly, .ref m_xRoot, .int 0, .ref m_inBoth, .int 0, .ref m_truth, .int 0, .ref m_hasEnd, .ref m_belongs, .ref m_isSingle, .ref m_endPoly, .ref m_endRoot, .int 0, .ref m_small, .ref m_smallDegree, .int 0, .ref m_irreducible, .int 0, .ref m_stackOf, .int 0, .ref m_factorAt, .ref m_factorPower, .ref m_isKept, .ref m_keptPoly, .ref m_keptRoot, .int 0, .int 0, .int 0, .int 0, .int 0, .int 0]))] sz) := by
  refine Met.ofW (cc := b_Model_piece) (maxL := 4) (ret := (some .int)) (by decide) rfl ?_
  intro p e s m args below meth c s₁ B hml hv
  obtain ⟨rfl, hsz, hP, hK, hD0, hN⟩ := hv
  have hx := B.exec
  have hb := B.bytes
  have hr := B.returns
  have hT : ∀ w ∈ lw_g, w.before _ s = true := fun w h => atoms_spec (ws := w_Model_piece) B.pre w (List.mem_cons_of_mem _ h)
  have hown : s.vm.findClass R_Model = some m.cls := findClass_of_methodNamed B.named
  have hlocks := B.notSynchronized
  subst hsz
  have hD := hD0.self (sz := s.heap.size)
  generalize hAe : va_A [(h0, .inr (12, [.ref m_mem, .int 232000, .int 0, .int 0, .int 0, .int 0, .int 0, .int 0, .int 0, .int 0, .int 0, .ref m_polys, .ref m_chains, .ref m_pairs, .int 0, .int 0, .int 0, .ref m_zeros, .ref m_tape, .ref m_outs, .ref m_text, .int 0, .int 0, .int 0, .int 0, .int 0, .int 0, .int 0, .ref m_rows, .ref m_digits, .ref m_entries, .ref m_minors, .int 0, .int 0, .int 0, .int 0, .int 0, .int 0, .ref m_pointX, .ref m_pointH, .ref m_pointY, .ref m_those, .int 0, .int 0, .int 0, .int 0, .int 0, .ref m_does, .ref m_atomOf, .ref m_atomRel, .int 0, .int 0, .int 0, .ref m_signs, .ref m_stack, .ref m_xPoly, .ref m_xRoot, .int 0, .ref m_inBoth, .int 0, .ref m_truth, .int 0, .ref m_hasEnd, .ref m_belongs, .ref m_isSingle, .ref m_endPoly, .ref m_endRoot, .int 0, .ref m_small, .ref m_smallDegree, .int 0, .ref m_irreducible, .int 0, .ref m_stackOf, .int 0, .ref m_factorAt, .ref m_factorPower, .ref m_isKept, .ref m_keptPoly, .ref m_keptRoot, .int 0, .int 0, .int 0, .int 0, .int 0, .int 0]))] s.heap.size = A at hD ⊢
  have hA : ∀ q : Nat, s.heap.size ≤ q → A q := fun q h => by rw [← hAe]; exact Or.inr h
  have hS : va_S A s.heap s.heap [] := va_S.rf
  have hP : va_P (dC, dI) classes [(h0, .inr (12, [.ref m_mem, .int 232000, .int 0, .int 0, .int 0, .int 0, .int 0, .int 0, .int 0, .int 0, .int 0, .ref m_polys, .ref m_chains, .ref m_pairs, .int 0, .int 0, .int 0, .ref m_zeros, .ref m_tape, .ref m_outs, .ref m_text, .int 0, .int 0, .int 0, .int 0, .int 0, .int 0, .int 0, .ref m_rows, .ref m_digits, .ref m_entries, .ref m_minors, .int 0, .int 0, .int 0, .int 0, .int 0, .int 0, .ref m_pointX, .ref m_pointH, .ref m_pointY, .ref m_those, .int 0, .int 0, .int 0, .int 0, .int 0, .ref m_does, .ref m_atomOf, .ref m_atomRel, .int 0, .int 0, .int 0, .ref m_signs, .ref m_stack, .ref m_xPoly, .ref m_xRoot, .int 0, .ref m_inBoth, .int 0, .ref m_truth, .int 0, .ref m_hasEnd, .ref m_belongs, .ref m_isSingle, .ref m_endPoly, .ref m_endRoot, .int 0, .ref m_small, .ref m_smallDegree, .int 0, .ref m_irreducible, .int 0, .ref m_stackOf, .int 0, .ref m_factorAt, .ref m_factorPower, .ref m_isKept, .ref m_keptPoly, .ref m_keptRoot, .int 0, .int 0, .int 0, .int 0, .int 0, .int 0]))] s.heap := hP
  have hl := lv_entry ([.ref h0, .int a1, .int a2]) (n := 4) (Nat.le_of_ble_eq_true rfl)
  rw [lg_entry_eq]
  generalize (lg_sl ([.ref h0, .int a1, .int a2]) ++ List.replicate (4 - (lg_sl ([.ref h0, .int a1, .int a2])).length) Slot.unset).toArray = ls at hl ⊢
  have hl : lv_has ls 4 [(0, .ref h0), (1, .int a1), (2, .int a2)] := hl
  refine lv_iload_n hx hb d_Model_piece_0 rfl (lv_at hl 1 rfl) ?_
  refine lv_if_lt (tgt := 21) hx hb d_Model_piece_1 (by decide) (fun c_1 => ?_) (fun c_1 => ?_)
  · refine lv_iconst (v := (-1)) hx hb d_Model_piece_21 (by decide) ?_
    have hP9 := hP.sub (ws' := []) [] rfl
    have hD9 := hD.sub (ws' := []) [] (by decide) rfl
    have hK9 := hK.sub (tys' := []) [] rfl
    exact W.iret (v := (-1)) hx hb hr (fun t ht hW => ⟨⟨(-1), (), rfl, rfl, by rw [ht]; exact hP9, va_K.moved hW.alike hK9, hD9⟩, hS.F ht⟩) hS.2.2 d_Model_piece_22
  · refine lv_iload_n hx hb d_Model_piece_4 rfl (lv_at hl 1 rfl) ?_
    refine lv_aload_n hx hb d_Model_piece_5 rfl (lv_at hl 0 rfl) ?_
    refine va_get (D := (dC, dI)) (ci := 12) (v := .int 0) (C := R_Model) (T := F_Model) (N := 86) hx hb hT i_Model hown hK hP 0 rfl rfl 61 (by decide) (hT _ tw_1664) (fun _ h9 => h9) rfl d_Model_piece_6 ?_
    refine lv_icmp_ge (tgt := 21) hx hb d_Model_piece_9 (by decide) (fun c_2 => ?_) (fun c_2 => absurd (Int32.not_lt.mp c_1) c_2)
    refine lv_iconst (v := (-1)) hx hb d_Model_piece_21 (by decide) ?_
    have hP9 := hP.sub (ws' := []) [] rfl
    have hD9 := hD.sub (ws' := []) [] (by decide) rfl
    have hK9 := hK.sub (tys' := []) [] rfl
    exact W.iret (v := (-1)) hx hb hr (fun t ht hW => ⟨⟨(-1), (), rfl, rfl, by rw [ht]; exact hP9, va_K.moved hW.alike hK9, hD9⟩, hS.F ht⟩) hS.2.2 d_Model_piece_22

set_option maxHeartbeats 4000000 in
set_option maxRecDepth 100000 in
/-- edge of a fresh reference -/
theorem c_Model_edge_0 (l : Launch) (dC : Nat → ClassId) (dI : Nat → Nat → Nat) (sz : Nat) (h0 : Nat) (m_mem : Nat) (m_polys : Nat) (m_chains : Nat) (m_pairs : Nat) (m_zeros : Nat) (m_tape : Nat) (m_outs : Nat) (m_text : Nat) (m_rows : Nat) (m_digits : Nat) (m_entries : Nat) (m_minors : Nat) (m_pointX : Nat) (m_pointH : Nat) (m_pointY : Nat) (m_those : Nat) (m_does : Nat) (m_atomOf : Nat) (m_atomRel : Nat) (m_signs : Nat) (m_stack : Nat) (m_xPoly : Nat) (m_xRoot : Nat) (m_inBoth : Nat) (m_truth : Nat) (m_hasEnd : Nat) (m_belongs : Nat) (m_isSingle : Nat) (m_endPoly : Nat) (m_endRoot : Nat) (m_small : Nat) (m_smallDegree : Nat) (m_irreducible : Nat) (m_stackOf : Nat) (m_factorAt : Nat) (m_factorPower : Nat) (m_isKept : Nat) (m_keptPoly : Nat) (m_keptRoot : Nat) (a1 : Int32) (a2 : Int32) (a3 : Int32)  : Met l y_Model_edge w_Model_edge ({ frames := 0, cells := 0, slots := 0, locals := 0 }) (va_Pc [.ref h0, .int a1, .int a2, .int a3] (fun U => U.heap.size = sz ∧ va_P (dC, dI) classes [(h0, .inr (12, [.ref m_mem, .int 232000, .int 0, .int 0, .int 0, .int 0, .int 0, .int 0, .int 0, .int 0, .int 0, .ref m_polys, .ref m_chains, .ref m_pairs, .int 0, .int 0, .int 0, .ref m_zeros, .ref m_tape, .ref m_outs, .ref m_text, .int 0, .int 0, .int 0, .int 0, .int 0, .int 0, .int 0, .ref m_rows, .ref m_digits, .ref m_entries, .ref m_minors, .int 0, .int 0, .int 0, .int 0, .int 0, .int 0, .ref m_pointX, .ref m_pointH, .ref m_pointY, .ref m_those, .int 0, .int 0, .int 0, .int 0, .int 0, .ref m_does, .ref m_atomOf, .ref m_atomRel, .int 0, .int 0, .int 0, .ref m_signs, .ref m_stack, .ref m_xPoly, .ref m_xRoot, .int 0, .ref m_inBoth, .int 0, .ref m_truth, .int 0, .ref m_hasEnd, .ref m_belongs, .ref m_isSingle, .ref m_endPoly, .ref m_endRoot, .int 0, .ref m_small, .ref m_smallDegree, .int 0, .ref m_irreducible, .int 0, .ref m_stackOf, .int 0, .ref m_factorAt, .ref m_factorPower, .ref m_isKept, .ref m_keptPoly, .ref m_keptRoot, .int 0, .int 0, .int 0, .int 0, .int 0, .int 0]))] U.heap ∧ va_K (dC, dI) classes [] U ∧ va_D (fun _ => True) [(h0, .inr (12, [.ref m_mem, .int 232000, .int 0, .int 0, .int 0, .int 0, .int 0, .int 0, .int 0, .int 0, .int 0, .ref m_polys, .ref m_chains, .ref m_pairs, .int 0, .int 0, .int 0, .ref m_zeros, .ref m_tape, .ref m_outs, .ref m_text, .int 0, .int 0, .int 0, .int 0, .int 0, .int 0, .int 0, .ref m_rows, .ref m_digits, .ref m_entries, .ref m_minors, .int 0, .int 0, .int 0, .int 0, .int 0, .int 0, .ref m_pointX, .ref m_pointH, .ref m_pointY, .ref m_those, .int 0, .int 0, .int 0, .int 0, .int 0, .ref m_does, .ref m_atomOf, .ref m_atomRel, .int 0, .int 0, .int 0, .ref m_signs, .ref m_stack, .ref m_xPoly, .ref m_xRoot, .int 0, .ref m_inBoth, .int 0, .ref m_truth, .int 0, .ref m_hasEnd, .ref m_belongs, .ref m_isSingle, .ref m_endPoly, .ref m_endRoot, .int 0, .ref m_small, .ref m_smallDegree, .int 0, .ref m_irreducible, .int 0, .ref m_stackOf, .int 0, .ref m_factorAt, .ref m_factorPower, .ref m_isKept, .ref m_keptPoly, .ref m_keptRoot, .int 0, .int 0, .int 0, .int 0, .int 0, .int 0]))] ∧ nx_K U)) (va_Qi (fun (r : Int32) (_ : Unit) => r = (-1)) (fun _ t => va_P (dC, dI) classes [] t.heap ∧ va_K (dC, dI) classes [] t ∧ va_D (va_A [(h0, .inr (12, [.ref m_mem, .int 232000, .int 0, .int 0, .int 0, .int 0, .int 0, .int 0, .int 0, .int 0, .int 0, .ref m_polys, .ref m_chains, .ref m_pairs, .int 0, .int 0, .int 0, .ref m_zeros, .ref m_tape, .ref m_outs, .ref m_text, .int 0, .int 0, .int 0, .int 0, .int 0, .int 0, .int 0, .ref m_rows, .ref m_digits, .ref m_entries, .ref m_minors, .int 0, .int 0, .int 0, .int 0, .int 0, .int 0, .ref m_pointX, .ref m_pointH, .ref m_pointY, .ref m_those, .int 0, .int 0, .int 0, .int 0, .int 0, .ref m_does, .ref m_atomOf, .ref m_atomRel, .int 0, .int 0, .int 0, .ref m_signs, .ref m_stack, .ref m_xPoly, .ref m_xRoot, .int 0, .ref m_inBoth, .int 0, .ref m_truth, .int 0, .ref m_hasEnd, .ref m_belongs, .ref m_isSingle, .ref m_endPoly, .ref m_endRoot, .int 0, .ref m_small, .ref m_smallDegree, .int 0, .ref m_irreducible, .int 0, .ref m_stackOf, .int 0, .ref m_factorAt, .ref m_factorPower, .ref m_isKept, .ref m_keptPoly, .ref m_keptRoot, .int 0, .int 0, .int 0, .int 0, .int 0, .int 0]))] sz) []) (va_A [(h0, .inr (12, [.ref m_mem, .int 232000, .int 0, .int 0, .int 0, .int 0, .int 0, .int 0, .int 0, .int 0, .int 0, .ref m_polys, .ref m_chains, .ref m_pairs, .int 0, .int 0, .int 0, .ref m_zeros, .ref m_tape, .ref m_outs, .ref m_text, .int 0, .int 0, .int 0, .int 0, .int 0, .int 0, .int 0, .ref m_rows, .ref m_digits, .ref m_entries, .ref m_minors, .int 0, .int 0, .int 0, .int 0, .int 0, .int 0, .ref m_pointX, .ref m_pointH, .ref m_pointY, .ref m_those, .int 0, .int 0, .int 0, .int 0, .int 0, .ref m_does, .ref m_atomOf, .ref m_atomRel, .int 0, .int 0, .int 0, .ref m_signs, .ref m_stack, .ref m_xPoly, .ref m_xRoot, .int 0, .ref m_inBoth, .int 0, .ref m_truth, .int 0, .ref m_hasEnd, .ref m_belongs, .ref m_isSingle, .ref m_endPoly, .ref m_endRoot, .int 0, .ref m_small, .ref m_smallDegree, .int 0, .ref m_irreducible, .int 0, .ref m_stackOf, .int 0, .ref m_factorAt, .ref m_factorPower, .ref m_isKept, .ref m_keptPoly, .ref m_keptRoot, .int 0, .int 0, .int 0, .int 0, .int 0, .int 0]))] sz)) 0 0 (va_A [(h0, .inr (12, [.ref m_mem, .int 232000, .int 0, .int 0, .int 0, .int 0, .int 0, .int 0, .int 0, .int 0, .int 0, .ref m_polys, .ref m_chains, .ref m_pairs, .int 0, .int 0, .int 0, .ref m_zeros, .ref m_tape, .ref m_outs, .ref m_text, .int 0, .int 0, .int 0, .int 0, .int 0, .int 0, .int 0, .ref m_rows, .ref m_digits, .ref m_entries, .ref m_minors, .int 0, .int 0, .int 0, .int 0, .int 0, .int 0, .ref m_pointX, .ref m_pointH, .ref m_pointY, .ref m_those, .int 0, .int 0, .int 0, .int 0, .int 0, .ref m_does, .ref m_atomOf, .ref m_atomRel, .int 0, .int 0, .int 0, .ref m_signs, .ref m_stack, .ref m_xPoly, .ref m_xRoot, .int 0, .ref m_inBoth, .int 0, .ref m_truth, .int 0, .ref m_hasEnd, .ref m_belongs, .ref m_isSingle, .ref m_endPoly, .ref m_endRoot, .int 0, .ref m_small, .ref m_smallDegree, .int 0, .ref m_irreducible, .int 0, .ref m_stackOf, .int 0, .ref m_factorAt, .ref m_factorPower, .ref m_isKept, .ref m_keptPoly, .ref m_keptRoot, .int 0, .int 0, .int 0, .int 0, .int 0, .int 0]))] sz) := by
  refine Met.ofW (cc := b_Model_edge) (maxL := 5) (ret := (some .int)) (by decide) rfl ?_
  intro p e s m args below meth c s₁ B hml hv
  obtain ⟨rfl, hsz, hP, hK, hD0, hN⟩ := hv
  have hx := B.exec
  have hb := B.bytes
  have hr := B.returns
  have hT : ∀ w ∈ lw_g, w.before _ s = true := fun w h => atoms_spec (ws := w_Model_edge) B.pre w (List.mem_cons_of_mem _ h)
  have hown : s.vm.findClass R_Model = some m.cls := findClass_of_methodNamed B.named
  have hlocks := B.notSynchronized
  subst hsz
  have hD := hD0.self (sz := s.heap.size)
  generalize hAe : va_A [(h0, .inr (12, [.ref m_mem, .int 232000, .int 0, .int 0, .int 0, .int 0, .int 0, .int 0, .int 0, .int 0, .int 0, .ref m_polys, .ref m_chains, .ref m_pairs, .int 0, .int 0, .int 0, .ref m_zeros, .ref m_tape, .ref m_outs, .ref m_text, .int 0, .int 0, .int 0, .int 0, .int 0, .int 0, .int 0, .ref m_rows, .ref m_digits, .ref m_entries, .ref m_minors, .int 0, .int 0, .int 0, .int 0, .int 0, .int 0, .ref m_pointX, .ref m_pointH, .ref m_pointY, .ref m_those, .int 0, .int 0, .int 0, .int 0, .int 0, .ref m_does, .ref m_atomOf, .ref m_atomRel, .int 0, .int 0, .int 0, .ref m_signs, .ref m_stack, .ref m_xPoly, .ref m_xRoot, .int 0, .ref m_inBoth, .int 0, .ref m_truth, .int 0, .ref m_hasEnd, .ref m_belongs, .ref m_isSingle, .ref m_endPoly, .ref m_endRoot, .int 0, .ref m_small, .ref m_smallDegree, .int 0, .ref m_irreducible, .int 0, .ref m_stackOf, .int 0, .ref m_factorAt, .ref m_factorPower, .ref m_isKept, .ref m_keptPoly, .ref m_keptRoot, .int 0, .int 0, .int 0, .int 0, .int 0, .int 0]))] s.heap.size = A at hD ⊢
  have hA : ∀ q : Nat, s.heap.size ≤ q → A q := fun q h => by rw [← hAe]; exact Or.inr h
  have hS : va_S A s.heap s.heap [] := va_S.rf
  have hP : va_P (dC, dI) classes [(h0, .inr (12, [.ref m_mem, .int 232000, .int 0, .int 0, .int 0, .int 0, .int 0, .int 0, .int 0, .int 0, .int 0, .ref m_polys, .ref m_chains, .ref m_pairs, .int 0, .int 0, .int 0, .ref m_zeros, .ref m_tape, .ref m_outs, .ref m_text, .int 0, .int 0, .int 0, .int 0, .int 0, .int 0, .int 0, .ref m_rows, .ref m_digits, .ref m_entries, .ref m_minors, .int 0, .int 0, .int 0, .int 0, .int 0, .int 0, .ref m_pointX, .ref m_pointH, .ref m_pointY, .ref m_those, .int 0, .int 0, .int 0, .int 0, .int 0, .ref m_does, .ref m_atomOf, .ref m_atomRel, .int 0, .int 0, .int 0, .ref m_signs, .ref m_stack, .ref m_xPoly, .ref m_xRoot, .int 0, .ref m_inBoth, .int 0, .ref m_truth, .int 0, .ref m_hasEnd, .ref m_belongs, .ref m_isSingle, .ref m_endPoly, .ref m_endRoot, .int 0, .ref m_small, .ref m_smallDegree, .int 0, .ref m_irreducible, .int 0, .ref m_stackOf, .int 0, .ref m_factorAt, .ref m_factorPower, .ref m_isKept, .ref m_keptPoly, .ref m_keptRoot, .int 0, .int 0, .int 0, .int 0, .int 0, .int 0]))] s.heap := hP
  have hl := lv_entry ([.ref h0, .int a1, .int a2, .int a3]) (n := 5) (Nat.le_of_ble_eq_true rfl)
  rw [lg_entry_eq]
  generalize (lg_sl ([.ref h0, .int a1, .int a2, .int a3]) ++ List.replicate (5 - (lg_sl ([.ref h0, .int a1, .int a2, .int a3])).length) Slot.unset).toArray = ls at hl ⊢
  have hl : lv_has ls 5 [(0, .ref h0), (1, .int a1), (2, .int a2), (3, .int a3)] := hl
  refine lv_iload_n hx hb d_Model_edge_0 rfl (lv_at hl 1 rfl) ?_
  refine lv_if_lt (tgt := 45) hx hb d_Model_edge_1 (by decide) (fun c_1 => ?_) (fun c_1 => ?_)
  · refine lv_iconst (v := (-1)) hx hb d_Model_edge_45 (by decide) ?_
    have hP9 := hP.sub (ws' := []) [] rfl
    have hD9 := hD.sub (ws' := []) [] (by decide) rfl
    have hK9 := hK.sub (tys' := []) [] rfl
    exact W.iret (v := (-1)) hx hb hr (fun t ht hW => ⟨⟨(-1), (), rfl, rfl, by rw [ht]; exact hP9, va_K.moved hW.alike hK9, hD9⟩, hS.F ht⟩) hS.2.2 d_Model_edge_46
  · refine lv_iload_n hx hb d_Model_edge_4 rfl (lv_at hl 1 rfl) ?_
    refine lv_aload_n hx hb d_Model_edge_5 rfl (lv_at hl 0 rfl) ?_
    refine va_get (D := (dC, dI)) (ci := 12) (v := .int 0) (C := R_Model) (T := F_Model) (N := 86) hx hb hT i_Model hown hK hP 0 rfl rfl 61 (by decide) (hT _ tw_1664) (fun _ h9 => h9) rfl d_Model_edge_6 ?_
    refine lv_icmp_ge (tgt := 45) hx hb d_Model_edge_9 (by decide) (fun c_2 => ?_) (fun c_2 => absurd (Int32.not_lt.mp c_1) c_2)
    refine lv_iconst (v := (-1)) hx hb d_Model_edge_45 (by decide) ?_
    have hP9 := hP.sub (ws' := []) [] rfl
    have hD9 := hD.sub (ws' := []) [] (by decide) rfl
    have hK9 := hK.sub (tys' := []) [] rfl
    exact W.iret (v := (-1)) hx hb hr (fun t ht hW => ⟨⟨(-1), (), rfl, rfl, by rw [ht]; exact hP9, va_K.moved hW.alike hK9, hD9⟩, hS.F ht⟩) hS.2.2 d_Model_edge_46

set_option maxHeartbeats 4000000 in
set_option maxRecDepth 100000 in
/-- factor of a fresh reference -/
theorem c_Model_factor_0 (l : Launch) (dC : Nat → ClassId) (dI : Nat → Nat → Nat) (sz : Nat) (h0 : Nat) (m_mem : Nat) (m_polys : Nat) (m_chains : Nat) (m_pairs : Nat) (m_zeros : Nat) (m_tape : Nat) (m_outs : Nat) (m_text : Nat) (m_rows : Nat) (m_digits : Nat) (m_entries : Nat) (m_minors : Nat) (m_pointX : Nat) (m_pointH : Nat) (m_pointY : Nat) (m_those : Nat) (m_does : Nat) (m_atomOf : Nat) (m_atomRel : Nat) (m_signs : Nat) (m_stack : Nat) (m_xPoly : Nat) (m_xRoot : Nat) (m_inBoth : Nat) (m_truth : Nat) (m_hasEnd : Nat) (m_belongs : Nat) (m_isSingle : Nat) (m_endPoly : Nat) (m_endRoot : Nat) (m_small : Nat) (m_smallDegree : Nat) (m_irreducible : Nat) (m_stackOf : Nat) (m_factorAt : Nat) (m_factorPower : Nat) (m_isKept : Nat) (m_keptPoly : Nat) (m_keptRoot : Nat) (a1 : Int32)  : Met l y_Model_factor w_Model_factor ({ frames := 0, cells := 0, slots := 0, locals := 0 }) (va_Pc [.ref h0, .int a1] (fun U => U.heap.size = sz ∧ va_P (dC, dI) classes [(h0, .inr (12, [.ref m_mem, .int 232000, .int 0, .int 0, .int 0, .int 0, .int 0, .int 0, .int 0, .int 0, .int 0, .ref m_polys, .ref m_chains, .ref m_pairs, .int 0, .int 0, .int 0, .ref m_zeros, .ref m_tape, .ref m_outs, .ref m_text, .int 0, .int 0, .int 0, .int 0, .int 0, .int 0, .int 0, .ref m_rows, .ref m_digits, .ref m_entries, .ref m_minors, .int 0, .int 0, .int 0, .int 0, .int 0, .int 0, .ref m_pointX, .ref m_pointH, .ref m_pointY, .ref m_those, .int 0, .int 0, .int 0, .int 0, .int 0, .ref m_does, .ref m_atomOf, .ref m_atomRel, .int 0, .int 0, .int 0, .ref m_signs, .ref m_stack, .ref m_xPoly, .ref m_xRoot, .int 0, .ref m_inBoth, .int 0, .ref m_truth, .int 0, .ref m_hasEnd, .ref m_belongs, .ref m_isSingle, .ref m_endPoly, .ref m_endRoot, .int 0, .ref m_small, .ref m_smallDegree, .int 0, .ref m_irreducible, .int 0, .ref m_stackOf, .int 0, .ref m_factorAt, .ref m_factorPower, .ref m_isKept, .ref m_keptPoly, .ref m_keptRoot, .int 0, .int 0, .int 0, .int 0, .int 0, .int 0]))] U.heap ∧ va_K (dC, dI) classes [] U ∧ va_D (fun _ => True) [(h0, .inr (12, [.ref m_mem, .int 232000, .int 0, .int 0, .int 0, .int 0, .int 0, .int 0, .int 0, .int 0, .int 0, .ref m_polys, .ref m_chains, .ref m_pairs, .int 0, .int 0, .int 0, .ref m_zeros, .ref m_tape, .ref m_outs, .ref m_text, .int 0, .int 0, .int 0, .int 0, .int 0, .int 0, .int 0, .ref m_rows, .ref m_digits, .ref m_entries, .ref m_minors, .int 0, .int 0, .int 0, .int 0, .int 0, .int 0, .ref m_pointX, .ref m_pointH, .ref m_pointY, .ref m_those, .int 0, .int 0, .int 0, .int 0, .int 0, .ref m_does, .ref m_atomOf, .ref m_atomRel, .int 0, .int 0, .int 0, .ref m_signs, .ref m_stack, .ref m_xPoly, .ref m_xRoot, .int 0, .ref m_inBoth, .int 0, .ref m_truth, .int 0, .ref m_hasEnd, .ref m_belongs, .ref m_isSingle, .ref m_endPoly, .ref m_endRoot, .int 0, .ref m_small, .ref m_smallDegree, .int 0, .ref m_irreducible, .int 0, .ref m_stackOf, .int 0, .ref m_factorAt, .ref m_factorPower, .ref m_isKept, .ref m_keptPoly, .ref m_keptRoot, .int 0, .int 0, .int 0, .int 0, .int 0, .int 0]))] ∧ nx_K U)) (va_Qi (fun (r : Int32) (_ : Unit) => r = (-1)) (fun _ t => va_P (dC, dI) classes [] t.heap ∧ va_K (dC, dI) classes [] t ∧ va_D (va_A [(h0, .inr (12, [.ref m_mem, .int 232000, .int 0, .int 0, .int 0, .int 0, .int 0, .int 0, .int 0, .int 0, .int 0, .ref m_polys, .ref m_chains, .ref m_pairs, .int 0, .int 0, .int 0, .ref m_zeros, .ref m_tape, .ref m_outs, .ref m_text, .int 0, .int 0, .int 0, .int 0, .int 0, .int 0, .int 0, .ref m_rows, .ref m_digits, .ref m_entries, .ref m_minors, .int 0, .int 0, .int 0, .int 0, .int 0, .int 0, .ref m_pointX, .ref m_pointH, .ref m_pointY, .ref m_those, .int 0, .int 0, .int 0, .int 0, .int 0, .ref m_does, .ref m_atomOf, .ref m_atomRel, .int 0, .int 0, .int 0, .ref m_signs, .ref m_stack, .ref m_xPoly, .ref m_xRoot, .int 0, .ref m_inBoth, .int 0, .ref m_truth, .int 0, .ref m_hasEnd, .ref m_belongs, .ref m_isSingle, .ref m_endPoly, .ref m_endRoot, .int 0, .ref m_small, .ref m_smallDegree, .int 0, .ref m_irreducible, .int 0, .ref m_stackOf, .int 0, .ref m_factorAt, .ref m_factorPower, .ref m_isKept, .ref m_keptPoly, .ref m_keptRoot, .int 0, .int 0, .int 0, .int 0, .int 0, .int 0]))] sz) []) (va_A [(h0, .inr (12, [.ref m_mem, .int 232000, .int 0, .int 0, .int 0, .int 0, .int 0, .int 0, .int 0, .int 0, .int 0, .ref m_polys, .ref m_chains, .ref m_pairs, .int 0, .int 0, .int 0, .ref m_zeros, .ref m_tape, .ref m_outs, .ref m_text, .int 0, .int 0, .int 0, .int 0, .int 0, .int 0, .int 0, .ref m_rows, .ref m_digits, .ref m_entries, .ref m_minors, .int 0, .int 0, .int 0, .int 0, .int 0, .int 0, .ref m_pointX, .ref m_pointH, .ref m_pointY, .ref m_those, .int 0, .int 0, .int 0, .int 0, .int 0, .ref m_does, .ref m_atomOf, .ref m_atomRel, .int 0, .int 0, .int 0, .ref m_signs, .ref m_stack, .ref m_xPoly, .ref m_xRoot, .int 0, .ref m_inBoth, .int 0, .ref m_truth, .int 0, .ref m_hasEnd, .ref m_belongs, .ref m_isSingle, .ref m_endPoly, .ref m_endRoot, .int 0, .ref m_small, .ref m_smallDegree, .int 0, .ref m_irreducible, .int 0, .ref m_stackOf, .int 0, .ref m_factorAt, .ref m_factorPower, .ref m_isKept, .ref m_keptPoly, .ref m_keptRoot, .int 0, .int 0, .int 0, .int 0, .int 0, .int 0]))] sz)) 0 0 (va_A [(h0, .inr (12, [.ref m_mem, .int 232000, .int 0, .int 0, .int 0, .int 0, .int 0, .int 0, .int 0, .int 0, .int 0, .ref m_polys, .ref m_chains, .ref m_pairs, .int 0, .int 0, .int 0, .ref m_zeros, .ref m_tape, .ref m_outs, .ref m_text, .int 0, .int 0, .int 0, .int 0, .int 0, .int 0, .int 0, .ref m_rows, .ref m_digits, .ref m_entries, .ref m_minors, .int 0, .int 0, .int 0, .int 0, .int 0, .int 0, .ref m_pointX, .ref m_pointH, .ref m_pointY, .ref m_those, .int 0, .int 0, .int 0, .int 0, .int 0, .ref m_does, .ref m_atomOf, .ref m_atomRel, .int 0, .int 0, .int 0, .ref m_signs, .ref m_stack, .ref m_xPoly, .ref m_xRoot, .int 0, .ref m_inBoth, .int 0, .ref m_truth, .int 0, .ref m_hasEnd, .ref m_belongs, .ref m_isSingle, .ref m_endPoly, .ref m_endRoot, .int 0, .ref m_small, .ref m_smallDegree, .int 0, .ref m_irreducible, .int 0, .ref m_stackOf, .int 0, .ref m_factorAt, .ref m_factorPower, .ref m_isKept, .ref m_keptPoly, .ref m_keptRoot, .int 0, .int 0, .int 0, .int 0, .int 0, .int 0]))] sz) := by
  refine Met.ofW (cc := b_Model_factor) (maxL := 2) (ret := (some .int)) (by decide) rfl ?_
  intro p e s m args below meth c s₁ B hml hv
  obtain ⟨rfl, hsz, hP, hK, hD0, hN⟩ := hv
  have hx := B.exec
  have hb := B.bytes
  have hr := B.returns
  have hT : ∀ w ∈ lw_g, w.before _ s = true := fun w h => atoms_spec (ws := w_Model_factor) B.pre w (List.mem_cons_of_mem _ h)
  have hown : s.vm.findClass R_Model = some m.cls := findClass_of_methodNamed B.named
  have hlocks := B.notSynchronized
  subst hsz
  have hD := hD0.self (sz := s.heap.size)
  generalize hAe : va_A [(h0, .inr (12, [.ref m_mem, .int 232000, .int 0, .int 0, .int 0, .int 0, .int 0, .int 0, .int 0, .int 0, .int 0, .ref m_polys, .ref m_chains, .ref m_pairs, .int 0, .int 0, .int 0, .ref m_zeros, .ref m_tape, .ref m_outs, .ref m_text, .int 0, .int 0, .int 0, .int 0, .int 0, .int 0, .int 0, .ref m_rows, .ref m_digits, .ref m_entries, .ref m_minors, .int 0, .int 0, .int 0, .int 0, .int 0, .int 0, .ref m_pointX, .ref m_pointH, .ref m_pointY, .ref m_those, .int 0, .int 0, .int 0, .int 0, .int 0, .ref m_does, .ref m_atomOf, .ref m_atomRel, .int 0, .int 0, .int 0, .ref m_signs, .ref m_stack, .ref m_xPoly, .ref m_xRoot, .int 0, .ref m_inBoth, .int 0, .ref m_truth, .int 0, .ref m_hasEnd, .ref m_belongs, .ref m_isSingle, .ref m_endPoly, .ref m_endRoot, .int 0, .ref m_small, .ref m_smallDegree, .int 0, .ref m_irreducible, .int 0, .ref m_stackOf, .int 0, .ref m_factorAt, .ref m_factorPower, .ref m_isKept, .ref m_keptPoly, .ref m_keptRoot, .int 0, .int 0, .int 0, .int 0, .int 0, .int 0]))] s.heap.size = A at hD ⊢
  have hA : ∀ q : Nat, s.heap.size ≤ q → A q := fun q h => by rw [← hAe]; exact Or.inr h
  have hS : va_S A s.heap s.heap [] := va_S.rf
  have hP : va_P (dC, dI) classes [(h0, .inr (12, [.ref m_mem, .int 232000, .int 0, .int 0, .int 0, .int 0, .int 0, .int 0, .int 0, .int 0, .int 0, .ref m_polys, .ref m_chains, .ref m_pairs, .int 0, .int 0, .int 0, .ref m_zeros, .ref m_tape, .ref m_outs, .ref m_text, .int 0, .int 0, .int 0, .int 0, .int 0, .int 0, .int 0, .ref m_rows, .ref m_digits, .ref m_entries, .ref m_minors, .int 0, .int 0, .int 0, .int 0, .int 0, .int 0, .ref m_pointX, .ref m_pointH, .ref m_pointY, .ref m_those, .int 0, .int 0, .int 0, .int 0, .int 0, .ref m_does, .ref m_atomOf, .ref m_atomRel, .int 0, .int 0, .int 0, .ref m_signs, .ref m_stack, .ref m_xPoly, .ref m_xRoot, .int 0, .ref m_inBoth, .int 0, .ref m_truth, .int 0, .ref m_hasEnd, .ref m_belongs, .ref m_isSingle, .ref m_endPoly, .ref m_endRoot, .int 0, .ref m_small, .ref m_smallDegree, .int 0, .ref m_irreducible, .int 0, .ref m_stackOf, .int 0, .ref m_factorAt, .ref m_factorPower, .ref m_isKept, .ref m_keptPoly, .ref m_keptRoot, .int 0, .int 0, .int 0, .int 0, .int 0, .int 0]))] s.heap := hP
  have hl := lv_entry ([.ref h0, .int a1]) (n := 2) (Nat.le_of_ble_eq_true rfl)
  rw [lg_entry_eq]
  generalize (lg_sl ([.ref h0, .int a1]) ++ List.replicate (2 - (lg_sl ([.ref h0, .int a1])).length) Slot.unset).toArray = ls at hl ⊢
  have hl : lv_has ls 2 [(0, .ref h0), (1, .int a1)] := hl
  refine lv_iload_n hx hb d_Model_factor_0 rfl (lv_at hl 1 rfl) ?_
  refine lv_if_lt (tgt := 12) hx hb d_Model_factor_1 (by decide) (fun c_1 => ?_) (fun c_1 => ?_)
  · refine lv_iconst (v := (-1)) hx hb d_Model_factor_12 (by decide) ?_
    have hP9 := hP.sub (ws' := []) [] rfl
    have hD9 := hD.sub (ws' := []) [] (by decide) rfl
    have hK9 := hK.sub (tys' := []) [] rfl
    exact W.iret (v := (-1)) hx hb hr (fun t ht hW => ⟨⟨(-1), (), rfl, rfl, by rw [ht]; exact hP9, va_K.moved hW.alike hK9, hD9⟩, hS.F ht⟩) hS.2.2 d_Model_factor_13
  · refine lv_iload_n hx hb d_Model_factor_4 rfl (lv_at hl 1 rfl) ?_
    refine lv_aload_n hx hb d_Model_factor_5 rfl (lv_at hl 0 rfl) ?_
    refine va_get (D := (dC, dI)) (ci := 12) (v := .int 0) (C := R_Model) (T := F_Model) (N := 86) hx hb hT i_Model hown hK hP 0 rfl rfl 74 (by decide) (hT _ tw_1677) (fun _ h9 => h9) rfl d_Model_factor_6 ?_
    refine lv_icmp_lt (tgt := 14) hx hb d_Model_factor_9 (by decide) (fun c_2 => absurd c_2 c_1) (fun c_2 => ?_)
    refine lv_iconst (v := (-1)) hx hb d_Model_factor_12 (by decide) ?_
    have hP9 := hP.sub (ws' := []) [] rfl
    have hD9 := hD.sub (ws' := []) [] (by decide) rfl
    have hK9 := hK.sub (tys' := []) [] rfl
    exact W.iret (v := (-1)) hx hb hr (fun t ht hW => ⟨⟨(-1), (), rfl, rfl, by rw [ht]; exact hP9, va_K.moved hW.alike hK9, hD9⟩, hS.F ht⟩) hS.2.2 d_Model_factor_13

set_option maxHeartbeats 4000000 in
set_option maxRecDepth 100000 in
/-- power of a fresh reference -/
theorem c_Model_power_0 (l : Launch) (dC : Nat → ClassId) (dI : Nat → Nat → Nat) (sz : Nat) (h0 : Nat) (m_mem : Nat) (m_polys : Nat) (m_chains : Nat) (m_pairs : Nat) (m_zeros : Nat) (m_tape : Nat) (m_outs : Nat) (m_text : Nat) (m_rows : Nat) (m_digits : Nat) (m_entries : Nat) (m_minors : Nat) (m_pointX : Nat) (m_pointH : Nat) (m_pointY : Nat) (m_those : Nat) (m_does : Nat) (m_atomOf : Nat) (m_atomRel : Nat) (m_signs : Nat) (m_stack : Nat) (m_xPoly : Nat) (m_xRoot : Nat) (m_inBoth : Nat) (m_truth : Nat) (m_hasEnd : Nat) (m_belongs : Nat) (m_isSingle : Nat) (m_endPoly : Nat) (m_endRoot : Nat) (m_small : Nat) (m_smallDegree : Nat) (m_irreducible : Nat) (m_stackOf : Nat) (m_factorAt : Nat) (m_factorPower : Nat) (m_isKept : Nat) (m_keptPoly : Nat) (m_keptRoot : Nat) (a1 : Int32)  : Met l y_Model_power w_Model_power ({ frames := 0, cells := 0, slots := 0, locals := 0 }) (va_Pc [.ref h0, .int a1] (fun U => U.heap.size = sz ∧ va_P (dC, dI) classes [(h0, .inr (12, [.ref m_mem, .int 232000, .int 0, .int 0, .int 0, .int 0, .int 0, .int 0, .int 0, .int 0, .int 0, .ref m_polys, .ref m_chains, .ref m_pairs, .int 0, .int 0, .int 0, .ref m_zeros, .ref m_tape, .ref m_outs, .ref m_text, .int 0, .int 0, .int 0, .int 0, .int 0, .int 0, .int 0, .ref m_rows, .ref m_digits, .ref m_entries, .ref m_minors, .int 0, .int 0, .int 0, .int 0, .int 0, .int 0, .ref m_pointX, .ref m_pointH, .ref m_pointY, .ref m_those, .int 0, .int 0, .int 0, .int 0, .int 0, .ref m_does, .ref m_atomOf, .ref m_atomRel, .int 0, .int 0, .int 0, .ref m_signs, .ref m_stack, .ref m_xPoly, .ref m_xRoot, .int 0, .ref m_inBoth, .int 0, .ref m_truth, .int 0, .ref m_hasEnd, .ref m_belongs, .ref m_isSingle, .ref m_endPoly, .ref m_endRoot, .int 0, .ref m_small, .ref m_smallDegree, .int 0, .ref m_irreducible, .int 0, .ref m_stackOf, .int 0, .ref m_factorAt, .ref m_factorPower, .ref m_isKept, .ref m_keptPoly, .ref m_keptRoot, .int 0, .int 0, .int 0, .int 0, .int 0, .int 0]))] U.heap ∧ va_K (dC, dI) classes [] U ∧ va_D (fun _ => True) [(h0, .inr (12, [.ref m_mem, .int 232000, .int 0, .int 0, .int 0, .int 0, .int 0, .int 0, .int 0, .int 0, .int 0, .ref m_polys, .ref m_chains, .ref m_pairs, .int 0, .int 0, .int 0, .ref m_zeros, .ref m_tape, .ref m_outs, .ref m_text, .int 0, .int 0, .int 0, .int 0, .int 0, .int 0, .int 0, .ref m_rows, .ref m_digits, .ref m_entries, .ref m_minors, .int 0, .int 0, .int 0, .int 0, .int 0, .int 0, .ref m_pointX, .ref m_pointH, .ref m_pointY, .ref m_those, .int 0, .int 0, .int 0, .int 0, .int 0, .ref m_does, .ref m_atomOf, .ref m_atomRel, .int 0, .int 0, .int 0, .ref m_signs, .ref m_stack, .ref m_xPoly, .ref m_xRoot, .int 0, .ref m_inBoth, .int 0, .ref m_truth, .int 0, .ref m_hasEnd, .ref m_belongs, .ref m_isSingle, .ref m_endPoly, .ref m_endRoot, .int 0, .ref m_small, .ref m_smallDegree, .int 0, .ref m_irreducible, .int 0, .ref m_stackOf, .int 0, .ref m_factorAt, .ref m_factorPower, .ref m_isKept, .ref m_keptPoly, .ref m_keptRoot, .int 0, .int 0, .int 0, .int 0, .int 0, .int 0]))] ∧ nx_K U)) (va_Qi (fun (r : Int32) (_ : Unit) => r = (-1)) (fun _ t => va_P (dC, dI) classes [] t.heap ∧ va_K (dC, dI) classes [] t ∧ va_D (va_A [(h0, .inr (12, [.ref m_mem, .int 232000, .int 0, .int 0, .int 0, .int 0, .int 0, .int 0, .int 0, .int 0, .int 0, .ref m_polys, .ref m_chains, .ref m_pairs, .int 0, .int 0, .int 0, .ref m_zeros, .ref m_tape, .ref m_outs, .ref m_text, .int 0, .int 0, .int 0, .int 0, .int 0, .int 0, .int 0, .ref m_rows, .ref m_digits, .ref m_entries, .ref m_minors, .int 0, .int 0, .int 0, .int 0, .int 0, .int 0, .ref m_pointX, .ref m_pointH, .ref m_pointY, .ref m_those, .int 0, .int 0, .int 0, .int 0, .int 0, .ref m_does, .ref m_atomOf, .ref m_atomRel, .int 0, .int 0, .int 0, .ref m_signs, .ref m_stack, .ref m_xPoly, .ref m_xRoot, .int 0, .ref m_inBoth, .int 0, .ref m_truth, .int 0, .ref m_hasEnd, .ref m_belongs, .ref m_isSingle, .ref m_endPoly, .ref m_endRoot, .int 0, .ref m_small, .ref m_smallDegree, .int 0, .ref m_irreducible, .int 0, .ref m_stackOf, .int 0, .ref m_factorAt, .ref m_factorPower, .ref m_isKept, .ref m_keptPoly, .ref m_keptRoot, .int 0, .int 0, .int 0, .int 0, .int 0, .int 0]))] sz) []) (va_A [(h0, .inr (12, [.ref m_mem, .int 232000, .int 0, .int 0, .int 0, .int 0, .int 0, .int 0, .int 0, .int 0, .int 0, .ref m_polys, .ref m_chains, .ref m_pairs, .int 0, .int 0, .int 0, .ref m_zeros, .ref m_tape, .ref m_outs, .ref m_text, .int 0, .int 0, .int 0, .int 0, .int 0, .int 0, .int 0, .ref m_rows, .ref m_digits, .ref m_entries, .ref m_minors, .int 0, .int 0, .int 0, .int 0, .int 0, .int 0, .ref m_pointX, .ref m_pointH, .ref m_pointY, .ref m_those, .int 0, .int 0, .int 0, .int 0, .int 0, .ref m_does, .ref m_atomOf, .ref m_atomRel, .int 0, .int 0, .int 0, .ref m_signs, .ref m_stack, .ref m_xPoly, .ref m_xRoot, .int 0, .ref m_inBoth, .int 0, .ref m_truth, .int 0, .ref m_hasEnd, .ref m_belongs, .ref m_isSingle, .ref m_endPoly, .ref m_endRoot, .int 0, .ref m_small, .ref m_smallDegree, .int 0, .ref m_irreducible, .int 0, .ref m_stackOf, .int 0, .ref m_factorAt, .ref m_factorPower, .ref m_isKept, .ref m_keptPoly, .ref m_keptRoot, .int 0, .int 0, .int 0, .int 0, .int 0, .int 0]))] sz)) 0 0 (va_A [(h0, .inr (12, [.ref m_mem, .int 232000, .int 0, .int 0, .int 0, .int 0, .int 0, .int 0, .int 0, .int 0, .int 0, .ref m_polys, .ref m_chains, .ref m_pairs, .int 0, .int 0, .int 0, .ref m_zeros, .ref m_tape, .ref m_outs, .ref m_text, .int 0, .int 0, .int 0, .int 0, .int 0, .int 0, .int 0, .ref m_rows, .ref m_digits, .ref m_entries, .ref m_minors, .int 0, .int 0, .int 0, .int 0, .int 0, .int 0, .ref m_pointX, .ref m_pointH, .ref m_pointY, .ref m_those, .int 0, .int 0, .int 0, .int 0, .int 0, .ref m_does, .ref m_atomOf, .ref m_atomRel, .int 0, .int 0, .int 0, .ref m_signs, .ref m_stack, .ref m_xPoly, .ref m_xRoot, .int 0, .ref m_inBoth, .int 0, .ref m_truth, .int 0, .ref m_hasEnd, .ref m_belongs, .ref m_isSingle, .ref m_endPoly, .ref m_endRoot, .int 0, .ref m_small, .ref m_smallDegree, .int 0, .ref m_irreducible, .int 0, .ref m_stackOf, .int 0, .ref m_factorAt, .ref m_factorPower, .ref m_isKept, .ref m_keptPoly, .ref m_keptRoot, .int 0, .int 0, .int 0, .int 0, .int 0, .int 0]))] sz) := by
  refine Met.ofW (cc := b_Model_power) (maxL := 2) (ret := (some .int)) (by decide) rfl ?_
  intro p e s m args below meth c s₁ B hml hv
  obtain ⟨rfl, hsz, hP, hK, hD0, hN⟩ := hv
  have hx := B.exec
  have hb := B.bytes
  have hr := B.returns
  have hT : ∀ w ∈ lw_g, w.before _ s = true := fun w h => atoms_spec (ws := w_Model_power) B.pre w (List.mem_cons_of_mem _ h)
  have hown : s.vm.findClass R_Model = some m.cls := findClass_of_methodNamed B.named
  have hlocks := B.notSynchronized
  subst hsz
  have hD := hD0.self (sz := s.heap.size)
  generalize hAe : va_A [(h0, .inr (12, [.ref m_mem, .int 232000, .int 0, .int 0, .int 0, .int 0, .int 0, .int 0, .int 0, .int 0, .int 0, .ref m_polys, .ref m_chains, .ref m_pairs, .int 0, .int 0, .int 0, .ref m_zeros, .ref m_tape, .ref m_outs, .ref m_text, .int 0, .int 0, .int 0, .int 0, .int 0, .int 0, .int 0, .ref m_rows, .ref m_digits, .ref m_entries, .ref m_minors, .int 0, .int 0, .int 0, .int 0, .int 0, .int 0, .ref m_pointX, .ref m_pointH, .ref m_pointY, .ref m_those, .int 0, .int 0, .int 0, .int 0, .int 0, .ref m_does, .ref m_atomOf, .ref m_atomRel, .int 0, .int 0, .int 0, .ref m_signs, .ref m_stack, .ref m_xPoly, .ref m_xRoot, .int 0, .ref m_inBoth, .int 0, .ref m_truth, .int 0, .ref m_hasEnd, .ref m_belongs, .ref m_isSingle, .ref m_endPoly, .ref m_endRoot, .int 0, .ref m_small, .ref m_smallDegree, .int 0, .ref m_irreducible, .int 0, .ref m_stackOf, .int 0, .ref m_factorAt, .ref m_factorPower, .ref m_isKept, .ref m_keptPoly, .ref m_keptRoot, .int 0, .int 0, .int 0, .int 0, .int 0, .int 0]))] s.heap.size = A at hD ⊢
  have hA : ∀ q : Nat, s.heap.size ≤ q → A q := fun q h => by rw [← hAe]; exact Or.inr h
  have hS : va_S A s.heap s.heap [] := va_S.rf
  have hP : va_P (dC, dI) classes [(h0, .inr (12, [.ref m_mem, .int 232000, .int 0, .int 0, .int 0, .int 0, .int 0, .int 0, .int 0, .int 0, .int 0, .ref m_polys, .ref m_chains, .ref m_pairs, .int 0, .int 0, .int 0, .ref m_zeros, .ref m_tape, .ref m_outs, .ref m_text, .int 0, .int 0, .int 0, .int 0, .int 0, .int 0, .int 0, .ref m_rows, .ref m_digits, .ref m_entries, .ref m_minors, .int 0, .int 0, .int 0, .int 0, .int 0, .int 0, .ref m_pointX, .ref m_pointH, .ref m_pointY, .ref m_those, .int 0, .int 0, .int 0, .int 0, .int 0, .ref m_does, .ref m_atomOf, .ref m_atomRel, .int 0, .int 0, .int 0, .ref m_signs, .ref m_stack, .ref m_xPoly, .ref m_xRoot, .int 0, .ref m_inBoth, .int 0, .ref m_truth, .int 0, .ref m_hasEnd, .ref m_belongs, .ref m_isSingle, .ref m_endPoly, .ref m_endRoot, .int 0, .ref m_small, .ref m_smallDegree, .int 0, .ref m_irreducible, .int 0, .ref m_stackOf, .int 0, .ref m_factorAt, .ref m_factorPower, .ref m_isKept, .ref m_keptPoly, .ref m_keptRoot, .int 0, .int 0, .int 0, .int 0, .int 0, .int 0]))] s.heap := hP
  have hl := lv_entry ([.ref h0, .int a1]) (n := 2) (Nat.le_of_ble_eq_true rfl)
  rw [lg_entry_eq]
  generalize (lg_sl ([.ref h0, .int a1]) ++ List.replicate (2 - (lg_sl ([.ref h0, .int a1])).length) Slot.unset).toArray = ls at hl ⊢
  have hl : lv_has ls 2 [(0, .ref h0), (1, .int a1)] := hl
  refine lv_iload_n hx hb d_Model_power_0 rfl (lv_at hl 1 rfl) ?_
  refine lv_if_lt (tgt := 21) hx hb d_Model_power_1 (by decide) (fun c_1 => ?_) (fun c_1 => ?_)
  · refine lv_iconst (v := (-1)) hx hb d_Model_power_21 (by decide) ?_
    have hP9 := hP.sub (ws' := []) [] rfl
    have hD9 := hD.sub (ws' := []) [] (by decide) rfl
    have hK9 := hK.sub (tys' := []) [] rfl
    exact W.iret (v := (-1)) hx hb hr (fun t ht hW => ⟨⟨(-1), (), rfl, rfl, by rw [ht]; exact hP9, va_K.moved hW.alike hK9, hD9⟩, hS.F ht⟩) hS.2.2 d_Model_power_22
  · refine lv_iload_n hx hb d_Model_power_4 rfl (lv_at hl 1 rfl) ?_
    refine lv_aload_n hx hb d_Model_power_5 rfl (lv_at hl 0 rfl) ?_
    refine va_get (D := (dC, dI)) (ci := 12) (v := .int 0) (C := R_Model) (T := F_Model) (N := 86) hx hb hT i_Model hown hK hP 0 rfl rfl 74 (by decide) (hT _ tw_1677) (fun _ h9 => h9) rfl d_Model_power_6 ?_
    refine lv_icmp_ge (tgt := 21) hx hb d_Model_power_9 (by decide) (fun c_2 => ?_) (fun c_2 => absurd (Int32.not_lt.mp c_1) c_2)
    refine lv_iconst (v := (-1)) hx hb d_Model_power_21 (by decide) ?_
    have hP9 := hP.sub (ws' := []) [] rfl
    have hD9 := hD.sub (ws' := []) [] (by decide) rfl
    have hK9 := hK.sub (tys' := []) [] rfl
    exact W.iret (v := (-1)) hx hb hr (fun t ht hW => ⟨⟨(-1), (), rfl, rfl, by rw [ht]; exact hP9, va_K.moved hW.alike hK9, hD9⟩, hS.F ht⟩) hS.2.2 d_Model_power_22

set_option maxHeartbeats 4000000 in
set_option maxRecDepth 100000 in
/-- hold of a fresh reference -/
theorem c_Model_hold_0 (l : Launch) (dC : Nat → ClassId) (dI : Nat → Nat → Nat) (sz : Nat) (h0 : Nat) (m_mem : Nat) (m_polys : Nat) (m_chains : Nat) (m_pairs : Nat) (m_zeros : Nat) (m_tape : Nat) (m_outs : Nat) (m_text : Nat) (m_rows : Nat) (m_digits : Nat) (m_entries : Nat) (m_minors : Nat) (m_pointX : Nat) (m_pointH : Nat) (m_pointY : Nat) (m_those : Nat) (m_does : Nat) (m_atomOf : Nat) (m_atomRel : Nat) (m_signs : Nat) (m_stack : Nat) (m_xPoly : Nat) (m_xRoot : Nat) (m_inBoth : Nat) (m_truth : Nat) (m_hasEnd : Nat) (m_belongs : Nat) (m_isSingle : Nat) (m_endPoly : Nat) (m_endRoot : Nat) (m_small : Nat) (m_smallDegree : Nat) (m_irreducible : Nat) (m_stackOf : Nat) (m_factorAt : Nat) (m_factorPower : Nat) (m_isKept : Nat) (m_keptPoly : Nat) (m_keptRoot : Nat) (a1 : Int32) (a2 : Int32)  : Met l y_Model_hold w_Model_hold ({ frames := 0, cells := 0, slots := 0, locals := 0 }) (va_Pc [.ref h0, .int a1, .int a2] (fun U => U.heap.size = sz ∧ va_P (dC, dI) classes [(h0, .inr (12, [.ref m_mem, .int 232000, .int 0, .int 0, .int 0, .int 0, .int 0, .int 0, .int 0, .int 0, .int 0, .ref m_polys, .ref m_chains, .ref m_pairs, .int 0, .int 0, .int 0, .ref m_zeros, .ref m_tape, .ref m_outs, .ref m_text, .int 0, .int 0, .int 0, .int 0, .int 0, .int 0, .int 0, .ref m_rows, .ref m_digits, .ref m_entries, .ref m_minors, .int 0, .int 0, .int 0, .int 0, .int 0, .int 0, .ref m_pointX, .ref m_pointH, .ref m_pointY, .ref m_those, .int 0, .int 0, .int 0, .int 0, .int 0, .ref m_does, .ref m_atomOf, .ref m_atomRel, .int 0, .int 0, .int 0, .ref m_signs, .ref m_stack, .ref m_xPoly, .ref m_xRoot, .int 0, .ref m_inBoth, .int 0, .ref m_truth, .int 0, .ref m_hasEnd, .ref m_belongs, .ref m_isSingle, .ref m_endPoly, .ref m_endRoot, .int 0, .ref m_small, .ref m_smallDegree, .int 0, .ref m_irreducible, .int 0, .ref m_stackOf, .int 0, .ref m_factorAt, .ref m_factorPower, .ref m_isKept, .ref m_keptPoly, .ref m_keptRoot, .int 0, .int 0, .int 0, .int 0, .int 0, .int 0]))] U.heap ∧ va_K (dC, dI) classes [] U ∧ va_D (fun _ => True) [(h0, .inr (12, [.ref m_mem, .int 232000, .int 0, .int 0, .int 0, .int 0, .int 0, .int 0, .int 0, .int 0, .int 0, .ref m_polys, .ref m_chains, .ref m_pairs, .int 0, .int 0, .int 0, .ref m_zeros, .ref m_tape, .ref m_outs, .ref m_text, .int 0, .int 0, .int 0, .int 0, .int 0, .int 0, .int 0, .ref m_rows, .ref m_digits, .ref m_entries, .ref m_minors, .int 0, .int 0, .int 0, .int 0, .int 0, .int 0, .ref m_pointX, .ref m_pointH, .ref m_pointY, .ref m_those, .int 0, .int 0, .int 0, .int 0, .int 0, .ref m_does, .ref m_atomOf, .ref m_atomRel, .int 0, .int 0, .int 0, .ref m_signs, .ref m_stack, .ref m_xPoly, .ref m_xRoot, .int 0, .ref m_inBoth, .int 0, .ref m_truth, .int 0, .ref m_hasEnd, .ref m_belongs, .ref m_isSingle, .ref m_endPoly, .ref m_endRoot, .int 0, .ref m_small, .ref m_smallDegree, .int 0, .ref m_irreducible, .int 0, .ref m_stackOf, .int 0, .ref m_factorAt, .ref m_factorPower, .ref m_isKept, .ref m_keptPoly, .ref m_keptRoot, .int 0, .int 0, .int 0, .int 0, .int 0, .int 0]))] ∧ nx_K U)) (va_Qi (fun (r : Int32) (_ : Unit) => r = (-1)) (fun _ t => va_P (dC, dI) classes [] t.heap ∧ va_K (dC, dI) classes [] t ∧ va_D (va_A [(h0, .inr (12, [.ref m_mem, .int 232000, .int 0, .int 0, .int 0, .int 0, .int 0, .int 0, .int 0, .int 0, .int 0, .ref m_polys, .ref m_chains, .ref m_pairs, .int 0, .int 0, .int 0, .ref m_zeros, .ref m_tape, .ref m_outs, .ref m_text, .int 0, .int 0, .int 0, .int 0, .int 0, .int 0, .int 0, .ref m_rows, .ref m_digits, .ref m_entries, .ref m_minors, .int 0, .int 0, .int 0, .int 0, .int 0, .int 0, .ref m_pointX, .ref m_pointH, .ref m_pointY, .ref m_those, .int 0, .int 0, .int 0, .int 0, .int 0, .ref m_does, .ref m_atomOf, .ref m_atomRel, .int 0, .int 0, .int 0, .ref m_signs, .ref m_stack, .ref m_xPoly, .ref m_xRoot, .int 0, .ref m_inBoth, .int 0, .ref m_truth, .int 0, .ref m_hasEnd, .ref m_belongs, .ref m_isSingle, .ref m_endPoly, .ref m_endRoot, .int 0, .ref m_small, .ref m_smallDegree, .int 0, .ref m_irreducible, .int 0, .ref m_stackOf, .int 0, .ref m_factorAt, .ref m_factorPower, .ref m_isKept, .ref m_keptPoly, .ref m_keptRoot, .int 0, .int 0, .int 0, .int 0, .int 0, .int 0]))] sz) []) (va_A [(h0, .inr (12, [.ref m_mem, .int 232000, .int 0, .int 0, .int 0, .int 0, .int 0, .int 0, .int 0, .int 0, .int 0, .ref m_polys, .ref m_chains, .ref m_pairs, .int 0, .int 0, .int 0, .ref m_zeros, .ref m_tape, .ref m_outs, .ref m_text, .int 0, .int 0, .int 0, .int 0, .int 0, .int 0, .int 0, .ref m_rows, .ref m_digits, .ref m_entries, .ref m_minors, .int 0, .int 0, .int 0, .int 0, .int 0, .int 0, .ref m_pointX, .ref m_pointH, .ref m_pointY, .ref m_those, .int 0, .int 0, .int 0, .int 0, .int 0, .ref m_does, .ref m_atomOf, .ref m_atomRel, .int 0, .int 0, .int 0, .ref m_signs, .ref m_stack, .ref m_xPoly, .ref m_xRoot, .int 0, .ref m_inBoth, .int 0, .ref m_truth, .int 0, .ref m_hasEnd, .ref m_belongs, .ref m_isSingle, .ref m_endPoly, .ref m_endRoot, .int 0, .ref m_small, .ref m_smallDegree, .int 0, .ref m_irreducible, .int 0, .ref m_stackOf, .int 0, .ref m_factorAt, .ref m_factorPower, .ref m_isKept, .ref m_keptPoly, .ref m_keptRoot, .int 0, .int 0, .int 0, .int 0, .int 0, .int 0]))] sz)) 0 0 (va_A [(h0, .inr (12, [.ref m_mem, .int 232000, .int 0, .int 0, .int 0, .int 0, .int 0, .int 0, .int 0, .int 0, .int 0, .ref m_polys, .ref m_chains, .ref m_pairs, .int 0, .int 0, .int 0, .ref m_zeros, .ref m_tape, .ref m_outs, .ref m_text, .int 0, .int 0, .int 0, .int 0, .int 0, .int 0, .int 0, .ref m_rows, .ref m_digits, .ref m_entries, .ref m_minors, .int 0, .int 0, .int 0, .int 0, .int 0, .int 0, .ref m_pointX, .ref m_pointH, .ref m_pointY, .ref m_those, .int 0, .int 0, .int 0, .int 0, .int 0, .ref m_does, .ref m_atomOf, .ref m_atomRel, .int 0, .int 0, .int 0, .ref m_signs, .ref m_stack, .ref m_xPoly, .ref m_xRoot, .int 0, .ref m_inBoth, .int 0, .ref m_truth, .int 0, .ref m_hasEnd, .ref m_belongs, .ref m_isSingle, .ref m_endPoly, .ref m_endRoot, .int 0, .ref m_small, .ref m_smallDegree, .int 0, .ref m_irreducible, .int 0, .ref m_stackOf, .int 0, .ref m_factorAt, .ref m_factorPower, .ref m_isKept, .ref m_keptPoly, .ref m_keptRoot, .int 0, .int 0, .int 0, .int 0, .int 0, .int 0]))] sz) := by
  refine Met.ofW (cc := b_Model_hold) (maxL := 4) (ret := (some .int)) (by decide) rfl ?_
  intro p e s m args below meth c s₁ B hml hv
  obtain ⟨rfl, hsz, hP, hK, hD0, hN⟩ := hv
  have hx := B.exec
  have hb := B.bytes
  have hr := B.returns
  have hT : ∀ w ∈ lw_g, w.before _ s = true := fun w h => atoms_spec (ws := w_Model_hold) B.pre w (List.mem_cons_of_mem _ h)
  have hown : s.vm.findClass R_Model = some m.cls := findClass_of_methodNamed B.named
  have hlocks := B.notSynchronized
  subst hsz
  have hD := hD0.self (sz := s.heap.size)
  generalize hAe : va_A [(h0, .inr (12, [.ref m_mem, .int 232000, .int 0, .int 0, .int 0, .int 0, .int 0, .int 0, .int 0, .int 0, .int 0, .ref m_polys, .ref m_chains, .ref m_pairs, .int 0, .int 0, .int 0, .ref m_zeros, .ref m_tape, .ref m_outs, .ref m_text, .int 0, .int 0, .int 0, .int 0, .int 0, .int 0, .int 0, .ref m_rows, .ref m_digits, .ref m_entries, .ref m_minors, .int 0, .int 0, .int 0, .int 0, .int 0, .int 0, .ref m_pointX, .ref m_pointH, .ref m_pointY, .ref m_those, .int 0, .int 0, .int 0, .int 0, .int 0, .ref m_does, .ref m_atomOf, .ref m_atomRel, .int 0, .int 0, .int 0, .ref m_signs, .ref m_stack, .ref m_xPoly, .ref m_xRoot, .int 0, .ref m_inBoth, .int 0, .ref m_truth, .int 0, .ref m_hasEnd, .ref m_belongs, .ref m_isSingle, .ref m_endPoly, .ref m_endRoot, .int 0, .ref m_small, .ref m_smallDegree, .int 0, .ref m_irreducible, .int 0, .ref m_stackOf, .int 0, .ref m_factorAt, .ref m_factorPower, .ref m_isKept, .ref m_keptPoly, .ref m_keptRoot, .int 0, .int 0, .int 0, .int 0, .int 0, .int 0]))] s.heap.size = A at hD ⊢
  have hA : ∀ q : Nat, s.heap.size ≤ q → A q := fun q h => by rw [← hAe]; exact Or.inr h
  have hS : va_S A s.heap s.heap [] := va_S.rf
  have hP : va_P (dC, dI) classes [(h0, .inr (12, [.ref m_mem, .int 232000, .int 0, .int 0, .int 0, .int 0, .int 0, .int 0, .int 0, .int 0, .int 0, .ref m_polys, .ref m_chains, .ref m_pairs, .int 0, .int 0, .int 0, .ref m_zeros, .ref m_tape, .ref m_outs, .ref m_text, .int 0, .int 0, .int 0, .int 0, .int 0, .int 0, .int 0, .ref m_rows, .ref m_digits, .ref m_entries, .ref m_minors, .int 0, .int 0, .int 0, .int 0, .int 0, .int 0, .ref m_pointX, .ref m_pointH, .ref m_pointY, .ref m_those, .int 0, .int 0, .int 0, .int 0, .int 0, .ref m_does, .ref m_atomOf, .ref m_atomRel, .int 0, .int 0, .int 0, .ref m_signs, .ref m_stack, .ref m_xPoly, .ref m_xRoot, .int 0, .ref m_inBoth, .int 0, .ref m_truth, .int 0, .ref m_hasEnd, .ref m_belongs, .ref m_isSingle, .ref m_endPoly, .ref m_endRoot, .int 0, .ref m_small, .ref m_smallDegree, .int 0, .ref m_irreducible, .int 0, .ref m_stackOf, .int 0, .ref m_factorAt, .ref m_factorPower, .ref m_isKept, .ref m_keptPoly, .ref m_keptRoot, .int 0, .int 0, .int 0, .int 0, .int 0, .int 0]))] s.heap := hP
  have hl := lv_entry ([.ref h0, .int a1, .int a2]) (n := 4) (Nat.le_of_ble_eq_true rfl)
  rw [lg_entry_eq]
  generalize (lg_sl ([.ref h0, .int a1, .int a2]) ++ List.replicate (4 - (lg_sl ([.ref h0, .int a1, .int a2])).length) Slot.unset).toArray = ls at hl ⊢
  have hl : lv_has ls 4 [(0, .ref h0), (1, .int a1), (2, .int a2)] := hl
  refine lv_iload_n hx hb d_Model_hold_0 rfl (lv_at hl 1 rfl) ?_
  refine lv_if_lt (tgt := 22) hx hb d_Model_hold_1 (by decide) (fun c_1 => ?_) (fun c_1 => ?_)
  · refine lv_iconst (v := (-1)) hx hb d_Model_hold_22 (by decide) ?_
    have hP9 := hP.sub (ws' := []) [] rfl
    have hD9 := hD.sub (ws' := []) [] (by decide) rfl
    have hK9 := hK.sub (tys' := []) [] rfl
    exact W.iret (v := (-1)) hx hb hr (fun t ht hW => ⟨⟨(-1), (), rfl, rfl, by rw [ht]; exact hP9, va_K.moved hW.alike hK9, hD9⟩, hS.F ht⟩) hS.2.2 d_Model_hold_23
  · refine lv_iload_n hx hb d_Model_hold_4 rfl (lv_at hl 1 rfl) ?_
    refine lv_bipush (v := 7) hx hb d_Model_hold_5 (by decide) ?_
    refine lv_icmp_gt (tgt := 22) hx hb d_Model_hold_7 (by decide) (fun c_2 => ?_) (fun c_2 => ?_)
    · refine lv_iconst (v := (-1)) hx hb d_Model_hold_22 (by decide) ?_
      have hP9 := hP.sub (ws' := []) [] rfl
      have hD9 := hD.sub (ws' := []) [] (by decide) rfl
      have hK9 := hK.sub (tys' := []) [] rfl
      exact W.iret (v := (-1)) hx hb hr (fun t ht hW => ⟨⟨(-1), (), rfl, rfl, by rw [ht]; exact hP9, va_K.moved hW.alike hK9, hD9⟩, hS.F ht⟩) hS.2.2 d_Model_hold_23
    · refine lv_iload_n hx hb d_Model_hold_10 rfl (lv_at hl 2 rfl) ?_
      refine lv_if_lt (tgt := 22) hx hb d_Model_hold_11 (by decide) (fun c_3 => ?_) (fun c_3 => ?_)
      · refine lv_iconst (v := (-1)) hx hb d_Model_hold_22 (by decide) ?_
        have hP9 := hP.sub (ws' := []) [] rfl
        have hD9 := hD.sub (ws' := []) [] (by decide) rfl
        have hK9 := hK.sub (tys' := []) [] rfl
        exact W.iret (v := (-1)) hx hb hr (fun t ht hW => ⟨⟨(-1), (), rfl, rfl, by rw [ht]; exact hP9, va_K.moved hW.alike hK9, hD9⟩, hS.F ht⟩) hS.2.2 d_Model_hold_23
      · refine lv_iload_n hx hb d_Model_hold_14 rfl (lv_at hl 2 rfl) ?_
        refine lv_aload_n hx hb d_Model_hold_15 rfl (lv_at hl 0 rfl) ?_
        refine va_get (D := (dC, dI)) (ci := 12) (v := .int 0) (C := R_Model) (T := F_Model) (N := 86) hx hb hT i_Model hown hK hP 0 rfl rfl 32 (by decide) (hT _ tw_1635) (fun _ h9 => h9) rfl d_Model_hold_16 ?_
        refine lv_icmp_lt (tgt := 24) hx hb d_Model_hold_19 (by decide) (fun c_4 => absurd c_4 c_3) (fun c_4 => ?_)
        refine lv_iconst (v := (-1)) hx hb d_Model_hold_22 (by decide) ?_
        have hP9 := hP.sub (ws' := []) [] rfl
        have hD9 := hD.sub (ws' := []) [] (by decide) rfl
        have hK9 := hK.sub (tys' := []) [] rfl
        exact W.iret (v := (-1)) hx hb hr (fun t ht hW => ⟨⟨(-1), (), rfl, rfl, by rw [ht]; exact hP9, va_K.moved hW.alike hK9, hD9⟩, hS.F ht⟩) hS.2.2 d_Model_hold_23

set_option maxHeartbeats 4000000 in
set_option maxRecDepth 100000 in
/-- reckon of a fresh reference -/
theorem c_Model_reckon_0 (l : Launch) (dC : Nat → ClassId) (dI : Nat → Nat → Nat) (sz : Nat) (h0 : Nat) (m_mem : Nat) (m_polys : Nat) (m_chains : Nat) (m_pairs : Nat) (m_zeros : Nat) (m_tape : Nat) (m_outs : Nat) (m_text : Nat) (m_rows : Nat) (m_digits : Nat) (m_entries : Nat) (m_minors : Nat) (m_pointX : Nat) (m_pointH : Nat) (m_pointY : Nat) (m_those : Nat) (m_does : Nat) (m_atomOf : Nat) (m_atomRel : Nat) (m_signs : Nat) (m_stack : Nat) (m_xPoly : Nat) (m_xRoot : Nat) (m_inBoth : Nat) (m_truth : Nat) (m_hasEnd : Nat) (m_belongs : Nat) (m_isSingle : Nat) (m_endPoly : Nat) (m_endRoot : Nat) (m_small : Nat) (m_smallDegree : Nat) (m_irreducible : Nat) (m_stackOf : Nat) (m_factorAt : Nat) (m_factorPower : Nat) (m_isKept : Nat) (m_keptPoly : Nat) (m_keptRoot : Nat) (cB : ClassId) (a1 : Int32) (a2 : Int32) (a3 : Int32) (a4 : Int32)  : Met l y_Model_reckon w_Model_reckon ({ frames := 1, cells := 0, slots := 0, locals := 21 }) (va_Pc [.ref h0, .int a1, .int a2, .int a3, .int a4] (fun U => U.heap.size = sz ∧ va_P (dC, dI) classes [(h0, .inr (12, [.ref m_mem, .int 232000, .int 0, .int 0, .int 0, .int 0, .int 0, .int 0, .int 0, .int 0, .int 0, .ref m_polys, .ref m_chains, .ref m_pairs, .int 0, .int 0, .int 0, .ref m_zeros, .ref m_tape, .ref m_outs, .ref m_text, .int 0, .int 0, .int 0, .int 0, .int 0, .int 0, .int 0, .ref m_rows, .ref m_digits, .ref m_entries, .ref m_minors, .int 0, .int 0, .int 0, .int 0, .int 0, .int 0, .ref m_pointX, .ref m_pointH, .ref m_pointY, .ref m_those, .int 0, .int 0, .int 0, .int 0, .int 0, .ref m_does, .ref m_atomOf, .ref m_atomRel, .int 0, .int 0, .int 0, .ref m_signs, .ref m_stack, .ref m_xPoly, .ref m_xRoot, .int 0, .ref m_inBoth, .int 0, .ref m_truth, .int 0, .ref m_hasEnd, .ref m_belongs, .ref m_isSingle, .ref m_endPoly, .ref m_endRoot, .int 0, .ref m_small, .ref m_smallDegree, .int 0, .ref m_irreducible, .int 0, .ref m_stackOf, .int 0, .ref m_factorAt, .ref m_factorPower, .ref m_isKept, .ref m_keptPoly, .ref m_keptRoot, .int 0, .int 0, .int 0, .int 0, .int 0, .int 0])), (m_isKept, .inl (cB, 8, .inl (fun _ => 0)))] U.heap ∧ va_K (dC, dI) classes [(cB, .boolean)] U ∧ va_D (fun _ => True) [(h0, .inr (12, [.ref m_mem, .int 232000, .int 0, .int 0, .int 0, .int 0, .int 0, .int 0, .int 0, .int 0, .int 0, .ref m_polys, .ref m_chains, .ref m_pairs, .int 0, .int 0, .int 0, .ref m_zeros, .ref m_tape, .ref m_outs, .ref m_text, .int 0, .int 0, .int 0, .int 0, .int 0, .int 0, .int 0, .ref m_rows, .ref m_digits, .ref m_entries, .ref m_minors, .int 0, .int 0, .int 0, .int 0, .int 0, .int 0, .ref m_pointX, .ref m_pointH, .ref m_pointY, .ref m_those, .int 0, .int 0, .int 0, .int 0, .int 0, .ref m_does, .ref m_atomOf, .ref m_atomRel, .int 0, .int 0, .int 0, .ref m_signs, .ref m_stack, .ref m_xPoly, .ref m_xRoot, .int 0, .ref m_inBoth, .int 0, .ref m_truth, .int 0, .ref m_hasEnd, .ref m_belongs, .ref m_isSingle, .ref m_endPoly, .ref m_endRoot, .int 0, .ref m_small, .ref m_smallDegree, .int 0, .ref m_irreducible, .int 0, .ref m_stackOf, .int 0, .ref m_factorAt, .ref m_factorPower, .ref m_isKept, .ref m_keptPoly, .ref m_keptRoot, .int 0, .int 0, .int 0, .int 0, .int 0, .int 0])), (m_isKept, .inl (cB, 8, .inl (fun _ => 0)))] ∧ nx_K U)) (va_Qi (fun (r : Int32) (_ : Unit) => r = (-1)) (fun _ t => va_P (dC, dI) classes [] t.heap ∧ va_K (dC, dI) classes [] t ∧ va_D (va_A [(h0, .inr (12, [.ref m_mem, .int 232000, .int 0, .int 0, .int 0, .int 0, .int 0, .int 0, .int 0, .int 0, .int 0, .ref m_polys, .ref m_chains, .ref m_pairs, .int 0, .int 0, .int 0, .ref m_zeros, .ref m_tape, .ref m_outs, .ref m_text, .int 0, .int 0, .int 0, .int 0, .int 0, .int 0, .int 0, .ref m_rows, .ref m_digits, .ref m_entries, .ref m_minors, .int 0, .int 0, .int 0, .int 0, .int 0, .int 0, .ref m_pointX, .ref m_pointH, .ref m_pointY, .ref m_those, .int 0, .int 0, .int 0, .int 0, .int 0, .ref m_does, .ref m_atomOf, .ref m_atomRel, .int 0, .int 0, .int 0, .ref m_signs, .ref m_stack, .ref m_xPoly, .ref m_xRoot, .int 0, .ref m_inBoth, .int 0, .ref m_truth, .int 0, .ref m_hasEnd, .ref m_belongs, .ref m_isSingle, .ref m_endPoly, .ref m_endRoot, .int 0, .ref m_small, .ref m_smallDegree, .int 0, .ref m_irreducible, .int 0, .ref m_stackOf, .int 0, .ref m_factorAt, .ref m_factorPower, .ref m_isKept, .ref m_keptPoly, .ref m_keptRoot, .int 0, .int 0, .int 0, .int 0, .int 0, .int 0])), (m_isKept, .inl (cB, 8, .inl (fun _ => 0)))] sz) []) (va_A [(h0, .inr (12, [.ref m_mem, .int 232000, .int 0, .int 0, .int 0, .int 0, .int 0, .int 0, .int 0, .int 0, .int 0, .ref m_polys, .ref m_chains, .ref m_pairs, .int 0, .int 0, .int 0, .ref m_zeros, .ref m_tape, .ref m_outs, .ref m_text, .int 0, .int 0, .int 0, .int 0, .int 0, .int 0, .int 0, .ref m_rows, .ref m_digits, .ref m_entries, .ref m_minors, .int 0, .int 0, .int 0, .int 0, .int 0, .int 0, .ref m_pointX, .ref m_pointH, .ref m_pointY, .ref m_those, .int 0, .int 0, .int 0, .int 0, .int 0, .ref m_does, .ref m_atomOf, .ref m_atomRel, .int 0, .int 0, .int 0, .ref m_signs, .ref m_stack, .ref m_xPoly, .ref m_xRoot, .int 0, .ref m_inBoth, .int 0, .ref m_truth, .int 0, .ref m_hasEnd, .ref m_belongs, .ref m_isSingle, .ref m_endPoly, .ref m_endRoot, .int 0, .ref m_small, .ref m_smallDegree, .int 0, .ref m_irreducible, .int 0, .ref m_stackOf, .int 0, .ref m_factorAt, .ref m_factorPower, .ref m_isKept, .ref m_keptPoly, .ref m_keptRoot, .int 0, .int 0, .int 0, .int 0, .int 0, .int 0])), (m_isKept, .inl (cB, 8, .inl (fun _ => 0)))] sz)) 0 0 (va_A [(h0, .inr (12, [.ref m_mem, .int 232000, .int 0, .int 0, .int 0, .int 0, .int 0, .int 0, .int 0, .int 0, .int 0, .ref m_polys, .ref m_chains, .ref m_pairs, .int 0, .int 0, .int 0, .ref m_zeros, .ref m_tape, .ref m_outs, .ref m_text, .int 0, .int 0, .int 0, .int 0, .int 0, .int 0, .int 0, .ref m_rows, .ref m_digits, .ref m_entries, .ref m_minors, .int 0, .int 0, .int 0, .int 0, .int 0, .int 0, .ref m_pointX, .ref m_pointH, .ref m_pointY, .ref m_those, .int 0, .int 0, .int 0, .int 0, .int 0, .ref m_does, .ref m_atomOf, .ref m_atomRel, .int 0, .int 0, .int 0, .ref m_signs, .ref m_stack, .ref m_xPoly, .ref m_xRoot, .int 0, .ref m_inBoth, .int 0, .ref m_truth, .int 0, .ref m_hasEnd, .ref m_belongs, .ref m_isSingle, .ref m_endPoly, .ref m_endRoot, .int 0, .ref m_small, .ref m_smallDegree, .int 0, .ref m_irreducible, .int 0, .ref m_stackOf, .int 0, .ref m_factorAt, .ref m_factorPower, .ref m_isKept, .ref m_keptPoly, .ref m_keptRoot, .int 0, .int 0, .int 0, .int 0, .int 0, .int 0])), (m_isKept, .inl (cB, 8, .inl (fun _ => 0)))] sz) := by
  refine Met.ofW (cc := b_Model_reckon) (maxL := 17) (ret := (some .int)) (by decide) rfl ?_
  intro p e s m args below meth c s₁ B hml hv
  obtain ⟨rfl, hsz, hP, hK, hD0, hN⟩ := hv
  have hx := B.exec
  have hb := B.bytes
  have hr := B.returns
  have hT : ∀ w ∈ lw_g, w.before _ s = true := fun w h => atoms_spec (ws := w_Model_reckon) B.pre w (List.mem_cons_of_mem _ h)
  have hown : s.vm.findClass R_Model = some m.cls := findClass_of_methodNamed B.named
  have hlocks := B.notSynchronized
  subst hsz
  have hD := hD0.self (sz := s.heap.size)
  generalize hAe : va_A [(h0, .inr (12, [.ref m_mem, .int 232000, .int 0, .int 0, .int 0, .int 0, .int 0, .int 0, .int 0, .int 0, .int 0, .ref m_polys, .ref m_chains, .ref m_pairs, .int 0, .int 0, .int 0, .ref m_zeros, .ref m_tape, .ref m_outs, .ref m_text, .int 0, .int 0, .int 0, .int 0, .int 0, .int 0, .int 0, .ref m_rows, .ref m_digits, .ref m_entries, .ref m_minors, .int 0, .int 0, .int 0, .int 0, .int 0, .int 0, .ref m_pointX, .ref m_pointH, .ref m_pointY, .ref m_those, .int 0, .int 0, .int 0, .int 0, .int 0, .ref m_does, .ref m_atomOf, .ref m_atomRel, .int 0, .int 0, .int 0, .ref m_signs, .ref m_stack, .ref m_xPoly, .ref m_xRoot, .int 0, .ref m_inBoth, .int 0, .ref m_truth, .int 0, .ref m_hasEnd, .ref m_belongs, .ref m_isSingle, .ref m_endPoly, .ref m_endRoot, .int 0, .ref m_small, .ref m_smallDegree, .int 0, .ref m_irreducible, .int 0, .ref m_stackOf, .int 0, .ref m_factorAt, .ref m_factorPower, .ref m_isKept, .ref m_keptPoly, .ref m_keptRoot, .int 0, .int 0, .int 0, .int 0, .int 0, .int 0])), (m_isKept, .inl (cB, 8, .inl (fun _ => 0)))] s.heap.size = A at hD ⊢
  have hA : ∀ q : Nat, s.heap.size ≤ q → A q := fun q h => by rw [← hAe]; exact Or.inr h
  have hS : va_S A s.heap s.heap [] := va_S.rf
  have hP : va_P (dC, dI) classes [(h0, .inr (12, [.ref m_mem, .int 232000, .int 0, .int 0, .int 0, .int 0, .int 0, .int 0, .int 0, .int 0, .int 0, .ref m_polys, .ref m_chains, .ref m_pairs, .int 0, .int 0, .int 0, .ref m_zeros, .ref m_tape, .ref m_outs, .ref m_text, .int 0, .int 0, .int 0, .int 0, .int 0, .int 0, .int 0, .ref m_rows, .ref m_digits, .ref m_entries, .ref m_minors, .int 0, .int 0, .int 0, .int 0, .int 0, .int 0, .ref m_pointX, .ref m_pointH, .ref m_pointY, .ref m_those, .int 0, .int 0, .int 0, .int 0, .int 0, .ref m_does, .ref m_atomOf, .ref m_atomRel, .int 0, .int 0, .int 0, .ref m_signs, .ref m_stack, .ref m_xPoly, .ref m_xRoot, .int 0, .ref m_inBoth, .int 0, .ref m_truth, .int 0, .ref m_hasEnd, .ref m_belongs, .ref m_isSingle, .ref m_endPoly, .ref m_endRoot, .int 0, .ref m_small, .ref m_smallDegree, .int 0, .ref m_irreducible, .int 0, .ref m_stackOf, .int 0, .ref m_factorAt, .ref m_factorPower, .ref m_isKept, .ref m_keptPoly, .ref m_keptRoot, .int 0, .int 0, .int 0, .int 0, .int 0, .int 0])), (m_isKept, .inl (cB, 8, .inl (fun _ => 0)))] s.heap := hP
  have hl := lv_entry ([.ref h0, .int a1, .int a2, .int a3, .int a4]) (n := 17) (Nat.le_of_ble_eq_true rfl)
  rw [lg_entry_eq]
  generalize (lg_sl ([.ref h0, .int a1, .int a2, .int a3, .int a4]) ++ List.replicate (17 - (lg_sl ([.ref h0, .int a1, .int a2, .int a3, .int a4])).length) Slot.unset).toArray = ls at hl ⊢
  have hl : lv_has ls 17 [(0, .ref h0), (1, .int a1), (2, .int a2), (3, .int a3), (4, .int a4)] := hl
  refine lv_iload_n hx hb d_Model_reckon_0 rfl (lv_at hl 1 rfl) ?_
  refine lv_if_lt (tgt := 36) hx hb d_Model_reckon_1 (by decide) (fun c_1 => ?_) (fun c_1 => ?_)
  · refine lv_iconst (v := (-1)) hx hb d_Model_reckon_36 (by decide) ?_
    have hP9 := hP.sub (ws' := []) [] rfl
    have hD9 := hD.sub (ws' := []) [] (by decide) rfl
    have hK9 := hK.sub (tys' := []) [] rfl
    exact W.iret (v := (-1)) hx hb hr (fun t ht hW => ⟨⟨(-1), (), rfl, rfl, by rw [ht]; exact hP9, va_K.moved hW.alike hK9, hD9⟩, hS.F ht⟩) hS.2.2 d_Model_reckon_37
  · refine lv_iload_n hx hb d_Model_reckon_4 rfl (lv_at hl 1 rfl) ?_
    refine lv_bipush (v := 7) hx hb d_Model_reckon_5 (by decide) ?_
    refine lv_icmp_gt (tgt := 36) hx hb d_Model_reckon_7 (by decide) (fun c_2 => ?_) (fun c_2 => ?_)
    · refine lv_iconst (v := (-1)) hx hb d_Model_reckon_36 (by decide) ?_
      have hP9 := hP.sub (ws' := []) [] rfl
      have hD9 := hD.sub (ws' := []) [] (by decide) rfl
      have hK9 := hK.sub (tys' := []) [] rfl
      exact W.iret (v := (-1)) hx hb hr (fun t ht hW => ⟨⟨(-1), (), rfl, rfl, by rw [ht]; exact hP9, va_K.moved hW.alike hK9, hD9⟩, hS.F ht⟩) hS.2.2 d_Model_reckon_37
    · refine lv_iload_n hx hb d_Model_reckon_10 rfl (lv_at hl 2 rfl) ?_
      refine lv_if_lt (tgt := 36) hx hb d_Model_reckon_11 (by decide) (fun c_3 => ?_) (fun c_3 => ?_)
      · refine lv_iconst (v := (-1)) hx hb d_Model_reckon_36 (by decide) ?_
        have hP9 := hP.sub (ws' := []) [] rfl
        have hD9 := hD.sub (ws' := []) [] (by decide) rfl
        have hK9 := hK.sub (tys' := []) [] rfl
        exact W.iret (v := (-1)) hx hb hr (fun t ht hW => ⟨⟨(-1), (), rfl, rfl, by rw [ht]; exact hP9, va_K.moved hW.alike hK9, hD9⟩, hS.F ht⟩) hS.2.2 d_Model_reckon_37
      · refine lv_iload_n hx hb d_Model_reckon_14 rfl (lv_at hl 2 rfl) ?_
        refine lv_iconst (v := 3) hx hb d_Model_reckon_15 (by decide) ?_
        refine lv_icmp_gt (tgt := 36) hx hb d_Model_reckon_16 (by decide) (fun c_4 => ?_) (fun c_4 => ?_)
        · refine lv_iconst (v := (-1)) hx hb d_Model_reckon_36 (by decide) ?_
          have hP9 := hP.sub (ws' := []) [] rfl
          have hD9 := hD.sub (ws' := []) [] (by decide) rfl
          have hK9 := hK.sub (tys' := []) [] rfl
          exact W.iret (v := (-1)) hx hb hr (fun t ht hW => ⟨⟨(-1), (), rfl, rfl, by rw [ht]; exact hP9, va_K.moved hW.alike hK9, hD9⟩, hS.F ht⟩) hS.2.2 d_Model_reckon_37
        · refine lv_aload_n hx hb d_Model_reckon_19 rfl (lv_at hl 0 rfl) ?_
          refine lv_iload_n hx hb d_Model_reckon_20 rfl (lv_at hl 3 rfl) ?_
          have hPc := hP.sub (ws' := [(h0, .inr (12, [.ref m_mem, .int 232000, .int 0, .int 0, .int 0, .int 0, .int 0, .int 0, .int 0, .int 0, .int 0, .ref m_polys, .ref m_chains, .ref m_pairs, .int 0, .int 0, .int 0, .ref m_zeros, .ref m_tape, .ref m_outs, .ref m_text, .int 0, .int 0, .int 0, .int 0, .int 0, .int 0, .int 0, .ref m_rows, .ref m_digits, .ref m_entries, .ref m_minors, .int 0, .int 0, .int 0, .int 0, .int 0, .int 0, .ref m_pointX, .ref m_pointH, .ref m_pointY, .ref m_those, .int 0, .int 0, .int 0, .int 0, .int 0, .ref m_does, .ref m_atomOf, .ref m_atomRel, .int 0, .int 0, .int 0, .ref m_signs, .ref m_stack, .ref m_xPoly, .ref m_xRoot, .int 0, .ref m_inBoth, .int 0, .ref m_truth, .int 0, .ref m_hasEnd, .ref m_belongs, .ref m_isSingle, .ref m_endPoly, .ref m_endRoot, .int 0, .ref m_small, .ref m_smallDegree, .int 0, .ref m_irreducible, .int 0, .ref m_stackOf, .int 0, .ref m_factorAt, .ref m_factorPower, .ref m_isKept, .ref m_keptPoly, .ref m_keptRoot, .int 0, .int 0, .int 0, .int 0, .int 0, .int 0])), (m_isKept, .inl (cB, 8, .inl (fun _ => 0)))]) [0, 1] rfl
          have hDc := hD.sub (ws' := [(h0, .inr (12, [.ref m_mem, .int 232000, .int 0, .int 0, .int 0, .int 0, .int 0, .int 0, .int 0, .int 0, .int 0, .ref m_polys, .ref m_chains, .ref m_pairs, .int 0, .int 0, .int 0, .ref m_zeros, .ref m_tape, .ref m_outs, .ref m_text, .int 0, .int 0, .int 0, .int 0, .int 0, .int 0, .int 0, .ref m_rows, .ref m_digits, .ref m_entries, .ref m_minors, .int 0, .int 0, .int 0, .int 0, .int 0, .int 0, .ref m_pointX, .ref m_pointH, .ref m_pointY, .ref m_those, .int 0, .int 0, .int 0, .int 0, .int 0, .ref m_does, .ref m_atomOf, .ref m_atomRel, .int 0, .int 0, .int 0, .ref m_signs, .ref m_stack, .ref m_xPoly, .ref m_xRoot, .int 0, .ref m_inBoth, .int 0, .ref m_truth, .int 0, .ref m_hasEnd, .ref m_belongs, .ref m_isSingle, .ref m_endPoly, .ref m_endRoot, .int 0, .ref m_small, .ref m_smallDegree, .int 0, .ref m_irreducible, .int 0, .ref m_stackOf, .int 0, .ref m_factorAt, .ref m_factorPower, .ref m_isKept, .ref m_keptPoly, .ref m_keptRoot, .int 0, .int 0, .int 0, .int 0, .int 0, .int 0])), (m_isKept, .inl (cB, 8, .inl (fun _ => 0)))]) [0, 1] (by decide) rfl
          have hKc := hK.sub (tys' := [(cB, .boolean)]) [0] rfl
          have hFc := va_free (wc := [(h0, .inr (12, [.ref m_mem, .int 232000, .int 0, .int 0, .int 0, .int 0, .int 0, .int 0, .int 0, .int 0, .int 0, .ref m_polys, .ref m_chains, .ref m_pairs, .int 0, .int 0, .int 0, .ref m_zeros, .ref m_tape, .ref m_outs, .ref m_text, .int 0, .int 0, .int 0, .int 0, .int 0, .int 0, .int 0, .ref m_rows, .ref m_digits, .ref m_entries, .ref m_minors, .int 0, .int 0, .int 0, .int 0, .int 0, .int 0, .ref m_pointX, .ref m_pointH, .ref m_pointY, .ref m_those, .int 0, .int 0, .int 0, .int 0, .int 0, .ref m_does, .ref m_atomOf, .ref m_atomRel, .int 0, .int 0, .int 0, .ref m_signs, .ref m_stack, .ref m_xPoly, .ref m_xRoot, .int 0, .ref m_inBoth, .int 0, .ref m_truth, .int 0, .ref m_hasEnd, .ref m_belongs, .ref m_isSingle, .ref m_endPoly, .ref m_endRoot, .int 0, .ref m_small, .ref m_smallDegree, .int 0, .ref m_irreducible, .int 0, .ref m_stackOf, .int 0, .ref m_factorAt, .ref m_factorPower, .ref m_isKept, .ref m_keptPoly, .ref m_keptRoot, .int 0, .int 0, .int 0, .int 0, .int 0, .int 0])), (m_isKept, .inl (cB, 8, .inl (fun _ => 0)))]) hD hS hA [0, 1] rfl
          refine va_calli (va_runV (As := [.int a3]) (rest := []) ⟨hx, hb, hml, hown, hT⟩ (c_Model_isNumberKept_0 l dC dI s.heap.size h0 m_mem m_polys m_chains m_pairs m_zeros m_tape m_outs m_text m_rows m_digits m_entries m_minors m_pointX m_pointH m_pointY m_those m_does m_atomOf m_atomRel m_signs m_stack m_xPoly m_xRoot m_inBoth m_truth m_hasEnd m_belongs m_isSingle m_endPoly m_endRoot m_small m_smallDegree m_irreducible m_stackOf m_factorAt m_factorPower m_isKept m_keptPoly m_keptRoot cB a3 ) (cwV 1 hT (tb_goodV g_Model_isNumberKept tw_2575 tw_2577 (tb_sel (q := (⟨"RealHouseModel", "isNumberKept", "(I)Z"⟩, 86)) (i := 220) (by decide +kernel)) tw_15) rfl rfl rfl (by decide +kernel) ⟨Nat.le_of_ble_eq_true rfl, Nat.le_of_ble_eq_true rfl⟩) ⟨fun a U g mk q => by obtain ⟨q0, q1, qP, qK, qD, qN⟩ := q; exact ⟨q0, q1, qP, va_K.moved (u := U) (U := U.calling g mk a) (Vm.Alike.refl U.vm) qK, qD, nx_K.same (u := U) (U := U.calling g mk a) rfl qN⟩, va_recv hKc hPc (ci := 12) (q0 := 0) rfl rfl, fun U hU hW => ⟨rfl, by rw [hU], by rw [hU]; exact hPc, va_K.moved hW.alike hKc, hDc.weaken (fun _ _ _ _ => trivial), nx_K.warm hW hN⟩⟩ rfl rfl hl.1 rfl (lv_room (Nat.le_of_ble_eq_true rfl)) d_Model_reckon_21 ⟨Nat.le_of_ble_eq_true rfl, Nat.le_of_ble_eq_true rfl⟩) hS (fun q _ h => hFc q h) hFc (fun r_5 u t H1 locs ht hvm hw hB hz1 hk1 hS => ?_)
          obtain ⟨hP1, hK1, hD1⟩ := hB
          rw [ht] at hP1
          have hK1 := va_K.moved hvm.symm hK1
          obtain rfl : r_5 = 0 := hw
          obtain ⟨hP, hD⟩ := va_join (wr := []) (w1 := [(h0, .inr (12, [.ref m_mem, .int 232000, .int 0, .int 0, .int 0, .int 0, .int 0, .int 0, .int 0, .int 0, .int 0, .ref m_polys, .ref m_chains, .ref m_pairs, .int 0, .int 0, .int 0, .ref m_zeros, .ref m_tape, .ref m_outs, .ref m_text, .int 0, .int 0, .int 0, .int 0, .int 0, .int 0, .int 0, .ref m_rows, .ref m_digits, .ref m_entries, .ref m_minors, .int 0, .int 0, .int 0, .int 0, .int 0, .int 0, .ref m_pointX, .ref m_pointH, .ref m_pointY, .ref m_those, .int 0, .int 0, .int 0, .int 0, .int 0, .ref m_does, .ref m_atomOf, .ref m_atomRel, .int 0, .int 0, .int 0, .ref m_signs, .ref m_stack, .ref m_xPoly, .ref m_xRoot, .int 0, .ref m_inBoth, .int 0, .ref m_truth, .int 0, .ref m_hasEnd, .ref m_belongs, .ref m_isSingle, .ref m_endPoly, .ref m_endRoot, .int 0, .ref m_small, .ref m_smallDegree, .int 0, .ref m_irreducible, .int 0, .ref m_stackOf, .int 0, .ref m_factorAt, .ref m_factorPower, .ref m_isKept, .ref m_keptPoly, .ref m_keptRoot, .int 0, .int 0, .int 0, .int 0, .int 0, .int 0])), (m_isKept, .inl (cB, 8, .inl (fun _ => 0)))]) hP hD [0, 1] [] rfl rfl (by decide) (by decide) hk1 hFc hP1 hD1
          have hK := (hK.sub (tys' := []) [] rfl).app hK1
          generalize H1 = H at hP hS ⊢
          have hP : va_P (dC, dI) classes [(h0, .inr (12, [.ref m_mem, .int 232000, .int 0, .int 0, .int 0, .int 0, .int 0, .int 0, .int 0, .int 0, .int 0, .ref m_polys, .ref m_chains, .ref m_pairs, .int 0, .int 0, .int 0, .ref m_zeros, .ref m_tape, .ref m_outs, .ref m_text, .int 0, .int 0, .int 0, .int 0, .int 0, .int 0, .int 0, .ref m_rows, .ref m_digits, .ref m_entries, .ref m_minors, .int 0, .int 0, .int 0, .int 0, .int 0, .int 0, .ref m_pointX, .ref m_pointH, .ref m_pointY, .ref m_those, .int 0, .int 0, .int 0, .int 0, .int 0, .ref m_does, .ref m_atomOf, .ref m_atomRel, .int 0, .int 0, .int 0, .ref m_signs, .ref m_stack, .ref m_xPoly, .ref m_xRoot, .int 0, .ref m_inBoth, .int 0, .ref m_truth, .int 0, .ref m_hasEnd, .ref m_belongs, .ref m_isSingle, .ref m_endPoly, .ref m_endRoot, .int 0, .ref m_small, .ref m_smallDegree, .int 0, .ref m_irreducible, .int 0, .ref m_stackOf, .int 0, .ref m_factorAt, .ref m_factorPower, .ref m_isKept, .ref m_keptPoly, .ref m_keptRoot, .int 0, .int 0, .int 0, .int 0, .int 0, .int 0])), (m_isKept, .inl (cB, 8, .inl (fun _ => 0)))] H := hP
          have hD : va_D A [(h0, .inr (12, [.ref m_mem, .int 232000, .int 0, .int 0, .int 0, .int 0, .int 0, .int 0, .int 0, .int 0, .int 0, .ref m_polys, .ref m_chains, .ref m_pairs, .int 0, .int 0, .int 0, .ref m_zeros, .ref m_tape, .ref m_outs, .ref m_text, .int 0, .int 0, .int 0, .int 0, .int 0, .int 0, .int 0, .ref m_rows, .ref m_digits, .ref m_entries, .ref m_minors, .int 0, .int 0, .int 0, .int 0, .int 0, .int 0, .ref m_pointX, .ref m_pointH, .ref m_pointY, .ref m_those, .int 0, .int 0, .int 0, .int 0, .int 0, .ref m_does, .ref m_atomOf, .ref m_atomRel, .int 0, .int 0, .int 0, .ref m_signs, .ref m_stack, .ref m_xPoly, .ref m_xRoot, .int 0, .ref m_inBoth, .int 0, .ref m_truth, .int 0, .ref m_hasEnd, .ref m_belongs, .ref m_isSingle, .ref m_endPoly, .ref m_endRoot, .int 0, .ref m_small, .ref m_smallDegree, .int 0, .ref m_irreducible, .int 0, .ref m_stackOf, .int 0, .ref m_factorAt, .ref m_factorPower, .ref m_isKept, .ref m_keptPoly, .ref m_keptRoot, .int 0, .int 0, .int 0, .int 0, .int 0, .int 0])), (m_isKept, .inl (cB, 8, .inl (fun _ => 0)))] := hD
          have hK : va_K (dC, dI) classes [(cB, .boolean)] s := hK
          refine lv_if_eq (tgt := 36) hx hb d_Model_reckon_24 (by decide) (fun c_6 => ?_) (fun c_6 => absurd (by decide) c_6)
          refine lv_iconst (v := (-1)) hx hb d_Model_reckon_36 (by decide) ?_
          have hP9 := hP.sub (ws' := []) [] rfl
          have hD9 := hD.sub (ws' := []) [] (by decide) rfl
          have hK9 := hK.sub (tys' := []) [] rfl
          exact W.iret (v := (-1)) hx hb hr (fun t ht hW => ⟨⟨(-1), (), rfl, rfl, by rw [ht]; exact hP9, va_K.moved hW.alike hK9, hD9⟩, hS.F ht⟩) hS.2.2 d_Model_reckon_37

set_option maxHeartbeats 4000000 in
set_option maxRecDepth 100000 in
/-- least of a fresh reference -/
theorem c_Model_least_0 (l : Launch) (dC : Nat → ClassId) (dI : Nat → Nat → Nat) (sz : Nat) (h0 : Nat) (m_mem : Nat) (m_polys : Nat) (m_chains : Nat) (m_pairs : Nat) (m_zeros : Nat) (m_tape : Nat) (m_outs : Nat) (m_text : Nat) (m_rows : Nat) (m_digits : Nat) (m_entries : Nat) (m_minors : Nat) (m_pointX : Nat) (m_pointH : Nat) (m_pointY : Nat) (m_those : Nat) (m_does : Nat) (m_atomOf : Nat) (m_atomRel : Nat) (m_signs : Nat) (m_stack : Nat) (m_xPoly : Nat) (m_xRoot : Nat) (m_inBoth : Nat) (m_truth : Nat) (m_hasEnd : Nat) (m_belongs : Nat) (m_isSingle : Nat) (m_endPoly : Nat) (m_endRoot : Nat) (m_small : Nat) (m_smallDegree : Nat) (m_irreducible : Nat) (m_stackOf : Nat) (m_factorAt : Nat) (m_factorPower : Nat) (m_isKept : Nat) (m_keptPoly : Nat) (m_keptRoot : Nat) (cB : ClassId) (a1 : Int32)  : Met l y_Model_least w_Model_least ({ frames := 1, cells := 0, slots := 0, locals := 21 }) (va_Pc [.ref h0, .int a1] (fun U => U.heap.size = sz ∧ va_P (dC, dI) classes [(h0, .inr (12, [.ref m_mem, .int 232000, .int 0, .int 0, .int 0, .int 0, .int 0, .int 0, .int 0, .int 0, .int 0, .ref m_polys, .ref m_chains, .ref m_pairs, .int 0, .int 0, .int 0, .ref m_zeros, .ref m_tape, .ref m_outs, .ref m_text, .int 0, .int 0, .int 0, .int 0, .int 0, .int 0, .int 0, .ref m_rows, .ref m_digits, .ref m_entries, .ref m_minors, .int 0, .int 0, .int 0, .int 0, .int 0, .int 0, .ref m_pointX, .ref m_pointH, .ref m_pointY, .ref m_those, .int 0, .int 0, .int 0, .int 0, .int 0, .ref m_does, .ref m_atomOf, .ref m_atomRel, .int 0, .int 0, .int 0, .ref m_signs, .ref m_stack, .ref m_xPoly, .ref m_xRoot, .int 0, .ref m_inBoth, .int 0, .ref m_truth, .int 0, .ref m_hasEnd, .ref m_belongs, .ref m_isSingle, .ref m_endPoly, .ref m_endRoot, .int 0, .ref m_small, .ref m_smallDegree, .int 0, .ref m_irreducible, .int 0, .ref m_stackOf, .int 0, .ref m_factorAt, .ref m_factorPower, .ref m_isKept, .ref m_keptPoly, .ref m_keptRoot, .int 0, .int 0, .int 0, .int 0, .int 0, .int 0])), (m_isKept, .inl (cB, 8, .inl (fun _ => 0)))] U.heap ∧ va_K (dC, dI) classes [(cB, .boolean)] U ∧ va_D (fun _ => True) [(h0, .inr (12, [.ref m_mem, .int 232000, .int 0, .int 0, .int 0, .int 0, .int 0, .int 0, .int 0, .int 0, .int 0, .ref m_polys, .ref m_chains, .ref m_pairs, .int 0, .int 0, .int 0, .ref m_zeros, .ref m_tape, .ref m_outs, .ref m_text, .int 0, .int 0, .int 0, .int 0, .int 0, .int 0, .int 0, .ref m_rows, .ref m_digits, .ref m_entries, .ref m_minors, .int 0, .int 0, .int 0, .int 0, .int 0, .int 0, .ref m_pointX, .ref m_pointH, .ref m_pointY, .ref m_those, .int 0, .int 0, .int 0, .int 0, .int 0, .ref m_does, .ref m_atomOf, .ref m_atomRel, .int 0, .int 0, .int 0, .ref m_signs, .ref m_stack, .ref m_xPoly, .ref m_xRoot, .int 0, .ref m_inBoth, .int 0, .ref m_truth, .int 0, .ref m_hasEnd, .ref m_belongs, .ref m_isSingle, .ref m_endPoly, .ref m_endRoot, .int 0, .ref m_small, .ref m_smallDegree, .int 0, .ref m_irreducible, .int 0, .ref m_stackOf, .int 0, .ref m_factorAt, .ref m_factorPower, .ref m_isKept, .ref m_keptPoly, .ref m_keptRoot, .int 0, .int 0, .int 0, .int 0, .int 0, .int 0])), (m_isKept, .inl (cB, 8, .inl (fun _ => 0)))] ∧ nx_K U)) (va_Qi (fun (r : Int32) (_ : Unit) => r = (-1)) (fun _ t => va_P (dC, dI) classes [] t.heap ∧ va_K (dC, dI) classes [] t ∧ va_D (va_A [(h0, .inr (12, [.ref m_mem, .int 232000, .int 0, .int 0, .int 0, .int 0, .int 0, .int 0, .int 0, .int 0, .int 0, .ref m_polys, .ref m_chains, .ref m_pairs, .int 0, .int 0, .int 0, .ref m_zeros, .ref m_tape, .ref m_outs, .ref m_text, .int 0, .int 0, .int 0, .int 0, .int 0, .int 0, .int 0, .ref m_rows, .ref m_digits, .ref m_entries, .ref m_minors, .int 0, .int 0, .int 0, .int 0, .int 0, .int 0, .ref m_pointX, .ref m_pointH, .ref m_pointY, .ref m_those, .int 0, .int 0, .int 0, .int 0, .int 0, .ref m_does, .ref m_atomOf, .ref m_atomRel, .int 0, .int 0, .int 0, .ref m_signs, .ref m_stack, .ref m_xPoly, .ref m_xRoot, .int 0, .ref m_inBoth, .int 0, .ref m_truth, .int 0, .ref m_hasEnd, .ref m_belongs, .ref m_isSingle, .ref m_endPoly, .ref m_endRoot, .int 0, .ref m_small, .ref m_smallDegree, .int 0, .ref m_irreducible, .int 0, .ref m_stackOf, .int 0, .ref m_factorAt, .ref m_factorPower, .ref m_isKept, .ref m_keptPoly, .ref m_keptRoot, .int 0, .int 0, .int 0, .int 0, .int 0, .int 0])), (m_isKept, .inl (cB, 8, .inl (fun _ => 0)))] sz) []) (va_A [(h0, .inr (12, [.ref m_mem, .int 232000, .int 0, .int 0, .int 0, .int 0, .int 0, .int 0, .int 0, .int 0, .int 0, .ref m_polys, .ref m_chains, .ref m_pairs, .int 0, .int 0, .int 0, .ref m_zeros, .ref m_tape, .ref m_outs, .ref m_text, .int 0, .int 0, .int 0, .int 0, .int 0, .int 0, .int 0, .ref m_rows, .ref m_digits, .ref m_entries, .ref m_minors, .int 0, .int 0, .int 0, .int 0, .int 0, .int 0, .ref m_pointX, .ref m_pointH, .ref m_pointY, .ref m_those, .int 0, .int 0, .int 0, .int 0, .int 0, .ref m_does, .ref m_atomOf, .ref m_atomRel, .int 0, .int 0, .int 0, .ref m_signs, .ref m_stack, .ref m_xPoly, .ref m_xRoot, .int 0, .ref m_inBoth, .int 0, .ref m_truth, .int 0, .ref m_hasEnd, .ref m_belongs, .ref m_isSingle, .ref m_endPoly, .ref m_endRoot, .int 0, .ref m_small, .ref m_smallDegree, .int 0, .ref m_irreducible, .int 0, .ref m_stackOf, .int 0, .ref m_factorAt, .ref m_factorPower, .ref m_isKept, .ref m_keptPoly, .ref m_keptRoot, .int 0, .int 0, .int 0, .int 0, .int 0, .int 0])), (m_isKept, .inl (cB, 8, .inl (fun _ => 0)))] sz)) 0 0 (va_A [(h0, .inr (12, [.ref m_mem, .int 232000, .int 0, .int 0, .int 0, .int 0, .int 0, .int 0, .int 0, .int 0, .int 0, .ref m_polys, .ref m_chains, .ref m_pairs, .int 0, .int 0, .int 0, .ref m_zeros, .ref m_tape, .ref m_outs, .ref m_text, .int 0, .int 0, .int 0, .int 0, .int 0, .int 0, .int 0, .ref m_rows, .ref m_digits, .ref m_entries, .ref m_minors, .int 0, .int 0, .int 0, .int 0, .int 0, .int 0, .ref m_pointX, .ref m_pointH, .ref m_pointY, .ref m_those, .int 0, .int 0, .int 0, .int 0, .int 0, .ref m_does, .ref m_atomOf, .ref m_atomRel, .int 0, .int 0, .int 0, .ref m_signs, .ref m_stack, .ref m_xPoly, .ref m_xRoot, .int 0, .ref m_inBoth, .int 0, .ref m_truth, .int 0, .ref m_hasEnd, .ref m_belongs, .ref m_isSingle, .ref m_endPoly, .ref m_endRoot, .int 0, .ref m_small, .ref m_smallDegree, .int 0, .ref m_irreducible, .int 0, .ref m_stackOf, .int 0, .ref m_factorAt, .ref m_factorPower, .ref m_isKept, .ref m_keptPoly, .ref m_keptRoot, .int 0, .int 0, .int 0, .int 0, .int 0, .int 0])), (m_isKept, .inl (cB, 8, .inl (fun _ => 0)))] sz) := by
  refine Met.ofW (cc := b_Model_least) (maxL := 2) (ret := (some .int)) (by decide) rfl ?_
  intro p e s m args below meth c s₁ B hml hv
  obtain ⟨rfl, hsz, hP, hK, hD0, hN⟩ := hv
  have hx := B.exec
  have hb := B.bytes
  have hr := B.returns
  have hT : ∀ w ∈ lw_g, w.before _ s = true := fun w h => atoms_spec (ws := w_Model_least) B.pre w (List.mem_cons_of_mem _ h)
  have hown : s.vm.findClass R_Model = some m.cls := findClass_of_methodNamed B.named
  have hlocks := B.notSynchronized
  subst hsz
  have hD := hD0.self (sz := s.heap.size)
  generalize hAe : va_A [(h0, .inr (12, [.ref m_mem, .int 232000, .int 0, .int 0, .int 0, .int 0, .int 0, .int 0, .int 0, .int 0, .int 0, .ref m_polys, .ref m_chains, .ref m_pairs, .int 0, .int 0, .int 0, .ref m_zeros, .ref m_tape, .ref m_outs, .ref m_text, .int 0, .int 0, .int 0, .int 0, .int 0, .int 0, .int 0, .ref m_rows, .ref m_digits, .ref m_entries, .ref m_minors, .int 0, .int 0, .int 0, .int 0, .int 0, .int 0, .ref m_pointX, .ref m_pointH, .ref m_pointY, .ref m_those, .int 0, .int 0, .int 0, .int 0, .int 0, .ref m_does, .ref m_atomOf, .ref m_atomRel, .int 0, .int 0, .int 0, .ref m_signs, .ref m_stack, .ref m_xPoly, .ref m_xRoot, .int 0, .ref m_inBoth, .int 0, .ref m_truth, .int 0, .ref m_hasEnd, .ref m_belongs, .ref m_isSingle, .ref m_endPoly, .ref m_endRoot, .int 0, .ref m_small, .ref m_smallDegree, .int 0, .ref m_irreducible, .int 0, .ref m_stackOf, .int 0, .ref m_factorAt, .ref m_factorPower, .ref m_isKept, .ref m_keptPoly, .ref m_keptRoot, .int 0, .int 0, .int 0, .int 0, .int 0, .int 0])), (m_isKept, .inl (cB, 8, .inl (fun _ => 0)))] s.heap.size = A at hD ⊢
  have hA : ∀ q : Nat, s.heap.size ≤ q → A q := fun q h => by rw [← hAe]; exact Or.inr h
  have hS : va_S A s.heap s.heap [] := va_S.rf
  have hP : va_P (dC, dI) classes [(h0, .inr (12, [.ref m_mem, .int 232000, .int 0, .int 0, .int 0, .int 0, .int 0, .int 0, .int 0, .int 0, .int 0, .ref m_polys, .ref m_chains, .ref m_pairs, .int 0, .int 0, .int 0, .ref m_zeros, .ref m_tape, .ref m_outs, .ref m_text, .int 0, .int 0, .int 0, .int 0, .int 0, .int 0, .int 0, .ref m_rows, .ref m_digits, .ref m_entries, .ref m_minors, .int 0, .int 0, .int 0, .int 0, .int 0, .int 0, .ref m_pointX, .ref m_pointH, .ref m_pointY, .ref m_those, .int 0, .int 0, .int 0, .int 0, .int 0, .ref m_does, .ref m_atomOf, .ref m_atomRel, .int 0, .int 0, .int 0, .ref m_signs, .ref m_stack, .ref m_xPoly, .ref m_xRoot, .int 0, .ref m_inBoth, .int 0, .ref m_truth, .int 0, .ref m_hasEnd, .ref m_belongs, .ref m_isSingle, .ref m_endPoly, .ref m_endRoot, .int 0, .ref m_small, .ref m_smallDegree, .int 0, .ref m_irreducible, .int 0, .ref m_stackOf, .int 0, .ref m_factorAt, .ref m_factorPower, .ref m_isKept, .ref m_keptPoly, .ref m_keptRoot, .int 0, .int 0, .int 0, .int 0, .int 0, .int 0])), (m_isKept, .inl (cB, 8, .inl (fun _ => 0)))] s.heap := hP
  have hl := lv_entry ([.ref h0, .int a1]) (n := 2) (Nat.le_of_ble_eq_true rfl)
  rw [lg_entry_eq]
  generalize (lg_sl ([.ref h0, .int a1]) ++ List.replicate (2 - (lg_sl ([.ref h0, .int a1])).length) Slot.unset).toArray = ls at hl ⊢
  have hl : lv_has ls 2 [(0, .ref h0), (1, .int a1)] := hl
  refine lv_aload_n hx hb d_Model_least_0 rfl (lv_at hl 0 rfl) ?_
  refine lv_iload_n hx hb d_Model_least_1 rfl (lv_at hl 1 rfl) ?_
  have hPc := hP.sub (ws' := [(h0, .inr (12, [.ref m_mem, .int 232000, .int 0, .int 0, .int 0, .int 0, .int 0, .int 0, .int 0, .int 0, .int 0, .ref m_polys, .ref m_chains, .ref m_pairs, .int 0, .int 0, .int 0, .ref m_zeros, .ref m_tape, .ref m_outs, .ref m_text, .int 0, .int 0, .int 0, .int 0, .int 0, .int 0, .int 0, .ref m_rows, .ref m_digits, .ref m_entries, .ref m_minors, .int 0, .int 0, .int 0, .int 0, .int 0, .int 0, .ref m_pointX, .ref m_pointH, .ref m_pointY, .ref m_those, .int 0, .int 0, .int 0, .int 0, .int 0, .ref m_does, .ref m_atomOf, .ref m_atomRel, .int 0, .int 0, .int 0, .ref m_signs, .ref m_stack, .ref m_xPoly, .ref m_xRoot, .int 0, .ref m_inBoth, .int 0, .ref m_truth, .int 0, .ref m_hasEnd, .ref m_belongs, .ref m_isSingle, .ref m_endPoly, .ref m_endRoot, .int 0, .ref m_small, .ref m_smallDegree, .int 0, .ref m_irreducible, .int 0, .ref m_stackOf, .int 0, .ref m_factorAt, .ref m_factorPower, .ref m_isKept, .ref m_keptPoly, .ref m_keptRoot, .int 0, .int 0, .int 0, .int 0, .int 0, .int 0])), (m_isKept, .inl (cB, 8, .inl (fun _ => 0)))]) [0, 1] rfl
  have hDc := hD.sub (ws' := [(h0, .inr (12, [.ref m_mem, .int 232000, .int 0, .int 0, .int 0, .int 0, .int 0, .int 0, .int 0, .int 0, .int 0, .ref m_polys, .ref m_chains, .ref m_pairs, .int 0, .int 0, .int 0, .ref m_zeros, .ref m_tape, .ref m_outs, .ref m_text, .int 0, .int 0, .int 0, .int 0, .int 0, .int 0, .int 0, .ref m_rows, .ref m_digits, .ref m_entries, .ref m_minors, .int 0, .int 0, .int 0, .int 0, .int 0, .int 0, .ref m_pointX, .ref m_pointH, .ref m_pointY, .ref m_those, .int 0, .int 0, .int 0, .int 0, .int 0, .ref m_does, .ref m_atomOf, .ref m_atomRel, .int 0, .int 0, .int 0, .ref m_signs, .ref m_stack, .ref m_xPoly, .ref m_xRoot, .int 0, .ref m_inBoth, .int 0, .ref m_truth, .int 0, .ref m_hasEnd, .ref m_belongs, .ref m_isSingle, .ref m_endPoly, .ref m_endRoot, .int 0, .ref m_small, .ref m_smallDegree, .int 0, .ref m_irreducible, .int 0, .ref m_stackOf, .int 0, .ref m_factorAt, .ref m_factorPower, .ref m_isKept, .ref m_keptPoly, .ref m_keptRoot, .int 0, .int 0, .int 0, .int 0, .int 0, .int 0])), (m_isKept, .inl (cB, 8, .inl (fun _ => 0)))]) [0, 1] (by decide) rfl
  have hKc := hK.sub (tys' := [(cB, .boolean)]) [0] rfl
  have hFc := va_free (wc := [(h0, .inr (12, [.ref m_mem, .int 232000, .int 0, .int 0, .int 0, .int 0, .int 0, .int 0, .int 0, .int 0, .int 0, .ref m_polys, .ref m_chains, .ref m_pairs, .int 0, .int 0, .int 0, .ref m_zeros, .ref m_tape, .ref m_outs, .ref m_text, .int 0, .int 0, .int 0, .int 0, .int 0, .int 0, .int 0, .ref m_rows, .ref m_digits, .ref m_entries, .ref m_minors, .int 0, .int 0, .int 0, .int 0, .int 0, .int 0, .ref m_pointX, .ref m_pointH, .ref m_pointY, .ref m_those, .int 0, .int 0, .int 0, .int 0, .int 0, .ref m_does, .ref m_atomOf, .ref m_atomRel, .int 0, .int 0, .int 0, .ref m_signs, .ref m_stack, .ref m_xPoly, .ref m_xRoot, .int 0, .ref m_inBoth, .int 0, .ref m_truth, .int 0, .ref m_hasEnd, .ref m_belongs, .ref m_isSingle, .ref m_endPoly, .ref m_endRoot, .int 0, .ref m_small, .ref m_smallDegree, .int 0, .ref m_irreducible, .int 0, .ref m_stackOf, .int 0, .ref m_factorAt, .ref m_factorPower, .ref m_isKept, .ref m_keptPoly, .ref m_keptRoot, .int 0, .int 0, .int 0, .int 0, .int 0, .int 0])), (m_isKept, .inl (cB, 8, .inl (fun _ => 0)))]) hD hS hA [0, 1] rfl
  refine va_calli (va_runV (As := [.int a1]) (rest := []) ⟨hx, hb, hml, hown, hT⟩ (c_Model_isNumberKept_0 l dC dI s.heap.size h0 m_mem m_polys m_chains m_pairs m_zeros m_tape m_outs m_text m_rows m_digits m_entries m_minors m_pointX m_pointH m_pointY m_those m_does m_atomOf m_atomRel m_signs m_stack m_xPoly m_xRoot m_inBoth m_truth m_hasEnd m_belongs m_isSingle m_endPoly m_endRoot m_small m_smallDegree m_irreducible m_stackOf m_factorAt m_factorPower m_isKept m_keptPoly m_keptRoot cB a1 ) (cwV 1 hT (tb_goodV g_Model_isNumberKept tw_2575 tw_2577 (tb_sel (q := (⟨"RealHouseModel", "isNumberKept", "(I)Z"⟩, 86)) (i := 220) (by decide +kernel)) tw_15) rfl rfl rfl (by decide +kernel) ⟨Nat.le_of_ble_eq_true rfl, Nat.le_of_ble_eq_true rfl⟩) ⟨fun a U g mk q => by obtain ⟨q0, q1, qP, qK, qD, qN⟩ := q; exact ⟨q0, q1, qP, va_K.moved (u := U) (U := U.calling g mk a) (Vm.Alike.refl U.vm) qK, qD, nx_K.same (u := U) (U := U.calling g mk a) rfl qN⟩, va_recv hKc hPc (ci := 12) (q0 := 0) rfl rfl, fun U hU hW => ⟨rfl, by rw [hU], by rw [hU]; exact hPc, va_K.moved hW.alike hKc, hDc.weaken (fun _ _ _ _ => trivial), nx_K.warm hW hN⟩⟩ rfl rfl hl.1 rfl (lv_room (Nat.le_of_ble_eq_true rfl)) d_Model_least_2 ⟨Nat.le_of_ble_eq_true rfl, Nat.le_of_ble_eq_true rfl⟩) hS (fun q _ h => hFc q h) hFc (fun r_1 u t H1 locs ht hvm hw hB hz1 hk1 hS => ?_)
  obtain ⟨hP1, hK1, hD1⟩ := hB
  rw [ht] at hP1
  have hK1 := va_K.moved hvm.symm hK1
  obtain rfl : r_1 = 0 := hw
  obtain ⟨hP, hD⟩ := va_join (wr := []) (w1 := [(h0, .inr (12, [.ref m_mem, .int 232000, .int 0, .int 0, .int 0, .int 0, .int 0, .int 0, .int 0, .int 0, .int 0, .ref m_polys, .ref m_chains, .ref m_pairs, .int 0, .int 0, .int 0, .ref m_zeros, .ref m_tape, .ref m_outs, .ref m_text, .int 0, .int 0, .int 0, .int 0, .int 0, .int 0, .int 0, .ref m_rows, .ref m_digits, .ref m_entries, .ref m_minors, .int 0, .int 0, .int 0, .int 0, .int 0, .int 0, .ref m_pointX, .ref m_pointH, .ref m_pointY, .ref m_those, .int 0, .int 0, .int 0, .int 0, .int 0, .ref m_does, .ref m_atomOf, .ref m_atomRel, .int 0, .int 0, .int 0, .ref m_signs, .ref m_stack, .ref m_xPoly, .ref m_xRoot, .int 0, .ref m_inBoth, .int 0, .ref m_truth, .int 0, .ref m_hasEnd, .ref m_belongs, .ref m_isSingle, .ref m_endPoly, .ref m_endRoot, .int 0, .ref m_small, .ref m_smallDegree, .int 0, .ref m_irreducible, .int 0, .ref m_stackOf, .int 0, .ref m_factorAt, .ref m_factorPower, .ref m_isKept, .ref m_keptPoly, .ref m_keptRoot, .int 0, .int 0, .int 0, .int 0, .int 0, .int 0])), (m_isKept, .inl (cB, 8, .inl (fun _ => 0)))]) hP hD [0, 1] [] rfl rfl (by decide) (by decide) hk1 hFc hP1 hD1
  have hK := (hK.sub (tys' := []) [] rfl).app hK1
  generalize H1 = H at hP hS ⊢
  have hP : va_P (dC, dI) classes [(h0, .inr (12, [.ref m_mem, .int 232000, .int 0, .int 0, .int 0, .int 0, .int 0, .int 0, .int 0, .int 0, .int 0, .ref m_polys, .ref m_chains, .ref m_pairs, .int 0, .int 0, .int 0, .ref m_zeros, .ref m_tape, .ref m_outs, .ref m_text, .int 0, .int 0, .int 0, .int 0, .int 0, .int 0, .int 0, .ref m_rows, .ref m_digits, .ref m_entries, .ref m_minors, .int 0, .int 0, .int 0, .int 0, .int 0, .int 0, .ref m_pointX, .ref m_pointH, .ref m_pointY, .ref m_those, .int 0, .int 0, .int 0, .int 0, .int 0, .ref m_does, .ref m_atomOf, .ref m_atomRel, .int 0, .int 0, .int 0, .ref m_signs, .ref m_stack, .ref m_xPoly, .ref m_xRoot, .int 0, .ref m_inBoth, .int 0, .ref m_truth, .int 0, .ref m_hasEnd, .ref m_belongs, .ref m_isSingle, .ref m_endPoly, .ref m_endRoot, .int 0, .ref m_small, .ref m_smallDegree, .int 0, .ref m_irreducible, .int 0, .ref m_stackOf, .int 0, .ref m_factorAt, .ref m_factorPower, .ref m_isKept, .ref m_keptPoly, .ref m_keptRoot, .int 0, .int 0, .int 0, .int 0, .int 0, .int 0])), (m_isKept, .inl (cB, 8, .inl (fun _ => 0)))] H := hP
  have hD : va_D A [(h0, .inr (12, [.ref m_mem, .int 232000, .int 0, .int 0, .int 0, .int 0, .int 0, .int 0, .int 0, .int 0, .int 0, .ref m_polys, .ref m_chains, .ref m_pairs, .int 0, .int 0, .int 0, .ref m_zeros, .ref m_tape, .ref m_outs, .ref m_text, .int 0, .int 0, .int 0, .int 0, .int 0, .int 0, .int 0, .ref m_rows, .ref m_digits, .ref m_entries, .ref m_minors, .int 0, .int 0, .int 0, .int 0, .int 0, .int 0, .ref m_pointX, .ref m_pointH, .ref m_pointY, .ref m_those, .int 0, .int 0, .int 0, .int 0, .int 0, .ref m_does, .ref m_atomOf, .ref m_atomRel, .int 0, .int 0, .int 0, .ref m_signs, .ref m_stack, .ref m_xPoly, .ref m_xRoot, .int 0, .ref m_inBoth, .int 0, .ref m_truth, .int 0, .ref m_hasEnd, .ref m_belongs, .ref m_isSingle, .ref m_endPoly, .ref m_endRoot, .int 0, .ref m_small, .ref m_smallDegree, .int 0, .ref m_irreducible, .int 0, .ref m_stackOf, .int 0, .ref m_factorAt, .ref m_factorPower, .ref m_isKept, .ref m_keptPoly, .ref m_keptRoot, .int 0, .int 0, .int 0, .int 0, .int 0, .int 0])), (m_isKept, .inl (cB, 8, .inl (fun _ => 0)))] := hD
  have hK : va_K (dC, dI) classes [(cB, .boolean)] s := hK
  refine lv_if_ne (tgt := 10) hx hb d_Model_least_5 (by decide) (fun c_2 => absurd (by decide) c_2) (fun c_2 => ?_)
  refine lv_iconst (v := (-1)) hx hb d_Model_least_8 (by decide) ?_
  have hP9 := hP.sub (ws' := []) [] rfl
  have hD9 := hD.sub (ws' := []) [] (by decide) rfl
  have hK9 := hK.sub (tys' := []) [] rfl
  exact W.iret (v := (-1)) hx hb hr (fun t ht hW => ⟨⟨(-1), (), rfl, rfl, by rw [ht]; exact hP9, va_K.moved hW.alike hK9, hD9⟩, hS.F ht⟩) hS.2.2 d_Model_least_9

set_option maxHeartbeats 4000000 in
set_option maxRecDepth 100000 in
/-- number of a fresh reference -/
theorem c_Model_number_0 (l : Launch) (dC : Nat → ClassId) (dI : Nat → Nat → Nat) (sz : Nat) (h0 : Nat) (m_mem : Nat) (m_polys : Nat) (m_chains : Nat) (m_pairs : Nat) (m_zeros : Nat) (m_tape : Nat) (m_outs : Nat) (m_text : Nat) (m_rows : Nat) (m_digits : Nat) (m_entries : Nat) (m_minors : Nat) (m_pointX : Nat) (m_pointH : Nat) (m_pointY : Nat) (m_those : Nat) (m_does : Nat) (m_atomOf : Nat) (m_atomRel : Nat) (m_signs : Nat) (m_stack : Nat) (m_xPoly : Nat) (m_xRoot : Nat) (m_inBoth : Nat) (m_truth : Nat) (m_hasEnd : Nat) (m_belongs : Nat) (m_isSingle : Nat) (m_endPoly : Nat) (m_endRoot : Nat) (m_small : Nat) (m_smallDegree : Nat) (m_irreducible : Nat) (m_stackOf : Nat) (m_factorAt : Nat) (m_factorPower : Nat) (m_isKept : Nat) (m_keptPoly : Nat) (m_keptRoot : Nat) (cB : ClassId) (a1 : Int32) (a2 : Int32)  : Met l y_Model_number w_Model_number ({ frames := 1, cells := 0, slots := 0, locals := 21 }) (va_Pc [.ref h0, .int a1, .int a2] (fun U => U.heap.size = sz ∧ va_P (dC, dI) classes [(h0, .inr (12, [.ref m_mem, .int 232000, .int 0, .int 0, .int 0, .int 0, .int 0, .int 0, .int 0, .int 0, .int 0, .ref m_polys, .ref m_chains, .ref m_pairs, .int 0, .int 0, .int 0, .ref m_zeros, .ref m_tape, .ref m_outs, .ref m_text, .int 0, .int 0, .int 0, .int 0, .int 0, .int 0, .int 0, .ref m_rows, .ref m_digits, .ref m_entries, .ref m_minors, .int 0, .int 0, .int 0, .int 0, .int 0, .int 0, .ref m_pointX, .ref m_pointH, .ref m_pointY, .ref m_those, .int 0, .int 0, .int 0, .int 0, .int 0, .ref m_does, .ref m_atomOf, .ref m_atomRel, .int 0, .int 0, .int 0, .ref m_signs, .ref m_stack, .ref m_xPoly, .ref m_xRoot, .int 0, .ref m_inBoth, .int 0, .ref m_truth, .int 0, .ref m_hasEnd, .ref m_belongs, .ref m_isSingle, .ref m_endPoly, .ref m_endRoot, .int 0, .ref m_small, .ref m_smallDegree, .int 0, .ref m_irreducible, .int 0, .ref m_stackOf, .int 0, .ref m_factorAt, .ref m_factorPower, .ref m_isKept, .ref m_keptPoly, .ref m_keptRoot, .int 0, .int 0, .int 0, .int 0, .int 0, .int 0])), (m_isKept, .inl (cB, 8, .inl (fun _ => 0)))] U.heap ∧ va_K (dC, dI) classes [(cB, .boolean)] U ∧ va_D (fun _ => True) [(h0, .inr (12, [.ref m_mem, .int 232000, .int 0, .int 0, .int 0, .int 0, .int 0, .int 0, .int 0, .int 0, .int 0, .ref m_polys, .ref m_chains, .ref m_pairs, .int 0, .int 0, .int 0, .ref m_zeros, .ref m_tape, .ref m_outs, .ref m_text, .int 0, .int 0, .int 0, .int 0, .int 0, .int 0, .int 0, .ref m_rows, .ref m_digits, .ref m_entries, .ref m_minors, .int 0, .int 0, .int 0, .int 0, .int 0, .int 0, .ref m_pointX, .ref m_pointH, .ref m_pointY, .ref m_those, .int 0, .int 0, .int 0, .int 0, .int 0, .ref m_does, .ref m_atomOf, .ref m_atomRel, .int 0, .int 0, .int 0, .ref m_signs, .ref m_stack, .ref m_xPoly, .ref m_xRoot, .int 0, .ref m_inBoth, .int 0, .ref m_truth, .int 0, .ref m_hasEnd, .ref m_belongs, .ref m_isSingle, .ref m_endPoly, .ref m_endRoot, .int 0, .ref m_small, .ref m_smallDegree, .int 0, .ref m_irreducible, .int 0, .ref m_stackOf, .int 0, .ref m_factorAt, .ref m_factorPower, .ref m_isKept, .ref m_keptPoly, .ref m_keptRoot, .int 0, .int 0, .int 0, .int 0, .int 0, .int 0])), (m_isKept, .inl (cB, 8, .inl (fun _ => 0)))] ∧ nx_K U)) (va_Qi (fun (r : Int32) (_ : Unit) => r = (-1)) (fun _ t => va_P (dC, dI) classes [] t.heap ∧ va_K (dC, dI) classes [] t ∧ va_D (va_A [(h0, .inr (12, [.ref m_mem, .int 232000, .int 0, .int 0, .int 0, .int 0, .int 0, .int 0, .int 0, .int 0, .int 0, .ref m_polys, .ref m_chains, .ref m_pairs, .int 0, .int 0, .int 0, .ref m_zeros, .ref m_tape, .ref m_outs, .ref m_text, .int 0, .int 0, .int 0, .int 0, .int 0, .int 0, .int 0, .ref m_rows, .ref m_digits, .ref m_entries, .ref m_minors, .int 0, .int 0, .int 0, .int 0, .int 0, .int 0, .ref m_pointX, .ref m_pointH, .ref m_pointY, .ref m_those, .int 0, .int 0, .int 0, .int 0, .int 0, .ref m_does, .ref m_atomOf, .ref m_atomRel, .int 0, .int 0, .int 0, .ref m_signs, .ref m_stack, .ref m_xPoly, .ref m_xRoot, .int 0, .ref m_inBoth, .int 0, .ref m_truth, .int 0, .ref m_hasEnd, .ref m_belongs, .ref m_isSingle, .ref m_endPoly, .ref m_endRoot, .int 0, .ref m_small, .ref m_smallDegree, .int 0, .ref m_irreducible, .int 0, .ref m_stackOf, .int 0, .ref m_factorAt, .ref m_factorPower, .ref m_isKept, .ref m_keptPoly, .ref m_keptRoot, .int 0, .int 0, .int 0, .int 0, .int 0, .int 0])), (m_isKept, .inl (cB, 8, .inl (fun _ => 0)))] sz) []) (va_A [(h0, .inr (12, [.ref m_mem, .int 232000, .int 0, .int 0, .int 0, .int 0, .int 0, .int 0, .int 0, .int 0, .int 0, .ref m_polys, .ref m_chains, .ref m_pairs, .int 0, .int 0, .int 0, .ref m_zeros, .ref m_tape, .ref m_outs, .ref m_text, .int 0, .int 0, .int 0, .int 0, .int 0, .int 0, .int 0, .ref m_rows, .ref m_digits, .ref m_entries, .ref m_minors, .int 0, .int 0, .int 0, .int 0, .int 0, .int 0, .ref m_pointX, .ref m_pointH, .ref m_pointY, .ref m_those, .int 0, .int 0, .int 0, .int 0, .int 0, .ref m_does, .ref m_atomOf, .ref m_atomRel, .int 0, .int 0, .int 0, .ref m_signs, .ref m_stack, .ref m_xPoly, .ref m_xRoot, .int 0, .ref m_inBoth, .int 0, .ref m_truth, .int 0, .ref m_hasEnd, .ref m_belongs, .ref m_isSingle, .ref m_endPoly, .ref m_endRoot, .int 0, .ref m_small, .ref m_smallDegree, .int 0, .ref m_irreducible, .int 0, .ref m_stackOf, .int 0, .ref m_factorAt, .ref m_factorPower, .ref m_isKept, .ref m_keptPoly, .ref m_keptRoot, .int 0, .int 0, .int 0, .int 0, .int 0, .int 0])), (m_isKept, .inl (cB, 8, .inl (fun _ => 0)))] sz)) 0 0 (va_A [(h0, .inr (12, [.ref m_mem, .int 232000, .int 0, .int 0, .int 0, .int 0, .int 0, .int 0, .int 0, .int 0, .int 0, .ref m_polys, .ref m_chains, .ref m_pairs, .int 0, .int 0, .int 0, .ref m_zeros, .ref m_tape, .ref m_outs, .ref m_text, .int 0, .int 0, .int 0, .int 0, .int 0, .int 0, .int 0, .ref m_rows, .ref m_digits, .ref m_entries, .ref m_minors, .int 0, .int 0, .int 0, .int 0, .int 0, .int 0, .ref m_pointX, .ref m_pointH, .ref m_pointY, .ref m_those, .int 0, .int 0, .int 0, .int 0, .int 0, .ref m_does, .ref m_atomOf, .ref m_atomRel, .int 0, .int 0, .int 0, .ref m_signs, .ref m_stack, .ref m_xPoly, .ref m_xRoot, .int 0, .ref m_inBoth, .int 0, .ref m_truth, .int 0, .ref m_hasEnd, .ref m_belongs, .ref m_isSingle, .ref m_endPoly, .ref m_endRoot, .int 0, .ref m_small, .ref m_smallDegree, .int 0, .ref m_irreducible, .int 0, .ref m_stackOf, .int 0, .ref m_factorAt, .ref m_factorPower, .ref m_isKept, .ref m_keptPoly, .ref m_keptRoot, .int 0, .int 0, .int 0, .int 0, .int 0, .int 0])), (m_isKept, .inl (cB, 8, .inl (fun _ => 0)))] sz) := by
  refine Met.ofW (cc := b_Model_number) (maxL := 4) (ret := (some .int)) (by decide) rfl ?_
  intro p e s m args below meth c s₁ B hml hv
  obtain ⟨rfl, hsz, hP, hK, hD0, hN⟩ := hv
  have hx := B.exec
  have hb := B.bytes
  have hr := B.returns
  have hT : ∀ w ∈ lw_g, w.before _ s = true := fun w h => atoms_spec (ws := w_Model_number) B.pre w (List.mem_cons_of_mem _ h)
  have hown : s.vm.findClass R_Model = some m.cls := findClass_of_methodNamed B.named
  have hlocks := B.notSynchronized
  subst hsz
  have hD := hD0.self (sz := s.heap.size)
  generalize hAe : va_A [(h0, .inr (12, [.ref m_mem, .int 232000, .int 0, .int 0, .int 0, .int 0, .int 0, .int 0, .int 0, .int 0, .int 0, .ref m_polys, .ref m_chains, .ref m_pairs, .int 0, .int 0, .int 0, .ref m_zeros, .ref m_tape, .ref m_outs, .ref m_text, .int 0, .int 0, .int 0, .int 0, .int 0, .int 0, .int 0, .ref m_rows, .ref m_digits, .ref m_entries, .ref m_minors, .int 0, .int 0, .int 0, .int 0, .int 0, .int 0, .ref m_pointX, .ref m_pointH, .ref m_pointY, .ref m_those, .int 0, .int 0, .int 0, .int 0, .int 0, .ref m_does, .ref m_atomOf, .ref m_atomRel, .int 0, .int 0, .int 0, .ref m_signs, .ref m_stack, .ref m_xPoly, .ref m_xRoot, .int 0, .ref m_inBoth, .int 0, .ref m_truth, .int 0, .ref m_hasEnd, .ref m_belongs, .ref m_isSingle, .ref m_endPoly, .ref m_endRoot, .int 0, .ref m_small, .ref m_smallDegree, .int 0, .ref m_irreducible, .int 0, .ref m_stackOf, .int 0, .ref m_factorAt, .ref m_factorPower, .ref m_isKept, .ref m_keptPoly, .ref m_keptRoot, .int 0, .int 0, .int 0, .int 0, .int 0, .int 0])), (m_isKept, .inl (cB, 8, .inl (fun _ => 0)))] s.heap.size = A at hD ⊢
  have hA : ∀ q : Nat, s.heap.size ≤ q → A q := fun q h => by rw [← hAe]; exact Or.inr h
  have hS : va_S A s.heap s.heap [] := va_S.rf
  have hP : va_P (dC, dI) classes [(h0, .inr (12, [.ref m_mem, .int 232000, .int 0, .int 0, .int 0, .int 0, .int 0, .int 0, .int 0, .int 0, .int 0, .ref m_polys, .ref m_chains, .ref m_pairs, .int 0, .int 0, .int 0, .ref m_zeros, .ref m_tape, .ref m_outs, .ref m_text, .int 0, .int 0, .int 0, .int 0, .int 0, .int 0, .int 0, .ref m_rows, .ref m_digits, .ref m_entries, .ref m_minors, .int 0, .int 0, .int 0, .int 0, .int 0, .int 0, .ref m_pointX, .ref m_pointH, .ref m_pointY, .ref m_those, .int 0, .int 0, .int 0, .int 0, .int 0, .ref m_does, .ref m_atomOf, .ref m_atomRel, .int 0, .int 0, .int 0, .ref m_signs, .ref m_stack, .ref m_xPoly, .ref m_xRoot, .int 0, .ref m_inBoth, .int 0, .ref m_truth, .int 0, .ref m_hasEnd, .ref m_belongs, .ref m_isSingle, .ref m_endPoly, .ref m_endRoot, .int 0, .ref m_small, .ref m_smallDegree, .int 0, .ref m_irreducible, .int 0, .ref m_stackOf, .int 0, .ref m_factorAt, .ref m_factorPower, .ref m_isKept, .ref m_keptPoly, .ref m_keptRoot, .int 0, .int 0, .int 0, .int 0, .int 0, .int 0])), (m_isKept, .inl (cB, 8, .inl (fun _ => 0)))] s.heap := hP
  have hl := lv_entry ([.ref h0, .int a1, .int a2]) (n := 4) (Nat.le_of_ble_eq_true rfl)
  rw [lg_entry_eq]
  generalize (lg_sl ([.ref h0, .int a1, .int a2]) ++ List.replicate (4 - (lg_sl ([.ref h0, .int a1, .int a2])).length) Slot.unset).toArray = ls at hl ⊢
  have hl : lv_has ls 4 [(0, .ref h0), (1, .int a1), (2, .int a2)] := hl
  refine lv_aload_n hx hb d_Model_number_0 rfl (lv_at hl 0 rfl) ?_
  refine lv_iload_n hx hb d_Model_number_1 rfl (lv_at hl 1 rfl) ?_
  have hPc := hP.sub (ws' := [(h0, .inr (12, [.ref m_mem, .int 232000, .int 0, .int 0, .int 0, .int 0, .int 0, .int 0, .int 0, .int 0, .int 0, .ref m_polys, .ref m_chains, .ref m_pairs, .int 0, .int 0, .int 0, .ref m_zeros, .ref m_tape, .ref m_outs, .ref m_text, .int 0, .int 0, .int 0, .int 0, .int 0, .int 0, .int 0, .ref m_rows, .ref m_digits, .ref m_entries, .ref m_minors, .int 0, .int 0, .int 0, .int 0, .int 0, .int 0, .ref m_pointX, .ref m_pointH, .ref m_pointY, .ref m_those, .int 0, .int 0, .int 0, .int 0, .int 0, .ref m_does, .ref m_atomOf, .ref m_atomRel, .int 0, .int 0, .int 0, .ref m_signs, .ref m_stack, .ref m_xPoly, .ref m_xRoot, .int 0, .ref m_inBoth, .int 0, .ref m_truth, .int 0, .ref m_hasEnd, .ref m_belongs, .ref m_isSingle, .ref m_endPoly, .ref m_endRoot, .int 0, .ref m_small, .ref m_smallDegree, .int 0, .ref m_irreducible, .int 0, .ref m_stackOf, .int 0, .ref m_factorAt, .ref m_factorPower, .ref m_isKept, .ref m_keptPoly, .ref m_keptRoot, .int 0, .int 0, .int 0, .int 0, .int 0, .int 0])), (m_isKept, .inl (cB, 8, .inl (fun _ => 0)))]) [0, 1] rfl
  have hDc := hD.sub (ws' := [(h0, .inr (12, [.ref m_mem, .int 232000, .int 0, .int 0, .int 0, .int 0, .int 0, .int 0, .int 0, .int 0, .int 0, .ref m_polys, .ref m_chains, .ref m_pairs, .int 0, .int 0, .int 0, .ref m_zeros, .ref m_tape, .ref m_outs, .ref m_text, .int 0, .int 0, .int 0, .int 0, .int 0, .int 0, .int 0, .ref m_rows, .ref m_digits, .ref m_entries, .ref m_minors, .int 0, .int 0, .int 0, .int 0, .int 0, .int 0, .ref m_pointX, .ref m_pointH, .ref m_pointY, .ref m_those, .int 0, .int 0, .int 0, .int 0, .int 0, .ref m_does, .ref m_atomOf, .ref m_atomRel, .int 0, .int 0, .int 0, .ref m_signs, .ref m_stack, .ref m_xPoly, .ref m_xRoot, .int 0, .ref m_inBoth, .int 0, .ref m_truth, .int 0, .ref m_hasEnd, .ref m_belongs, .ref m_isSingle, .ref m_endPoly, .ref m_endRoot, .int 0, .ref m_small, .ref m_smallDegree, .int 0, .ref m_irreducible, .int 0, .ref m_stackOf, .int 0, .ref m_factorAt, .ref m_factorPower, .ref m_isKept, .ref m_keptPoly, .ref m_keptRoot, .int 0, .int 0, .int 0, .int 0, .int 0, .int 0])), (m_isKept, .inl (cB, 8, .inl (fun _ => 0)))]) [0, 1] (by decide) rfl
  have hKc := hK.sub (tys' := [(cB, .boolean)]) [0] rfl
  have hFc := va_free (wc := [(h0, .inr (12, [.ref m_mem, .int 232000, .int 0, .int 0, .int 0, .int 0, .int 0, .int 0, .int 0, .int 0, .int 0, .ref m_polys, .ref m_chains, .ref m_pairs, .int 0, .int 0, .int 0, .ref m_zeros, .ref m_tape, .ref m_outs, .ref m_text, .int 0, .int 0, .int 0, .int 0, .int 0, .int 0, .int 0, .ref m_rows, .ref m_digits, .ref m_entries, .ref m_minors, .int 0, .int 0, .int 0, .int 0, .int 0, .int 0, .ref m_pointX, .ref m_pointH, .ref m_pointY, .ref m_those, .int 0, .int 0, .int 0, .int 0, .int 0, .ref m_does, .ref m_atomOf, .ref m_atomRel, .int 0, .int 0, .int 0, .ref m_signs, .ref m_stack, .ref m_xPoly, .ref m_xRoot, .int 0, .ref m_inBoth, .int 0, .ref m_truth, .int 0, .ref m_hasEnd, .ref m_belongs, .ref m_isSingle, .ref m_endPoly, .ref m_endRoot, .int 0, .ref m_small, .ref m_smallDegree, .int 0, .ref m_irreducible, .int 0, .ref m_stackOf, .int 0, .ref m_factorAt, .ref m_factorPower, .ref m_isKept, .ref m_keptPoly, .ref m_keptRoot, .int 0, .int 0, .int 0, .int 0, .int 0, .int 0])), (m_isKept, .inl (cB, 8, .inl (fun _ => 0)))]) hD hS hA [0, 1] rfl
  refine va_calli (va_runV (As := [.int a1]) (rest := []) ⟨hx, hb, hml, hown, hT⟩ (c_Model_isNumberKept_0 l dC dI s.heap.size h0 m_mem m_polys m_chains m_pairs m_zeros m_tape m_outs m_text m_rows m_digits m_entries m_minors m_pointX m_pointH m_pointY m_those m_does m_atomOf m_atomRel m_signs m_stack m_xPoly m_xRoot m_inBoth m_truth m_hasEnd m_belongs m_isSingle m_endPoly m_endRoot m_small m_smallDegree m_irreducible m_stackOf m_factorAt m_factorPower m_isKept m_keptPoly m_keptRoot cB a1 ) (cwV 1 hT (tb_goodV g_Model_isNumberKept tw_2575 tw_2577 (tb_sel (q := (⟨"RealHouseModel", "isNumberKept", "(I)Z"⟩, 86)) (i := 220) (by decide +kernel)) tw_15) rfl rfl rfl (by decide +kernel) ⟨Nat.le_of_ble_eq_true rfl, Nat.le_of_ble_eq_true rfl⟩) ⟨fun a U g mk q => by obtain ⟨q0, q1, qP, qK, qD, qN⟩ := q; exact ⟨q0, q1, qP, va_K.moved (u := U) (U := U.calling g mk a) (Vm.Alike.refl U.vm) qK, qD, nx_K.same (u := U) (U := U.calling g mk a) rfl qN⟩, va_recv hKc hPc (ci := 12) (q0 := 0) rfl rfl, fun U hU hW => ⟨rfl, by rw [hU], by rw [hU]; exact hPc, va_K.moved hW.alike hKc, hDc.weaken (fun _ _ _ _ => trivial), nx_K.warm hW hN⟩⟩ rfl rfl hl.1 rfl (lv_room (Nat.le_of_ble_eq_true rfl)) d_Model_number_2 ⟨Nat.le_of_ble_eq_true rfl, Nat.le_of_ble_eq_true rfl⟩) hS (fun q _ h => hFc q h) hFc (fun r_1 u t H1 locs ht hvm hw hB hz1 hk1 hS => ?_)
  obtain ⟨hP1, hK1, hD1⟩ := hB
  rw [ht] at hP1
  have hK1 := va_K.moved hvm.symm hK1
  obtain rfl : r_1 = 0 := hw
  obtain ⟨hP, hD⟩ := va_join (wr := []) (w1 := [(h0, .inr (12, [.ref m_mem, .int 232000, .int 0, .int 0, .int 0, .int 0, .int 0, .int 0, .int 0, .int 0, .int 0, .ref m_polys, .ref m_chains, .ref m_pairs, .int 0, .int 0, .int 0, .ref m_zeros, .ref m_tape, .ref m_outs, .ref m_text, .int 0, .int 0, .int 0, .int 0, .int 0, .int 0, .int 0, .ref m_rows, .ref m_digits, .ref m_entries, .ref m_minors, .int 0, .int 0, .int 0, .int 0, .int 0, .int 0, .ref m_pointX, .ref m_pointH, .ref m_pointY, .ref m_those, .int 0, .int 0, .int 0, .int 0, .int 0, .ref m_does, .ref m_atomOf, .ref m_atomRel, .int 0, .int 0, .int 0, .ref m_signs, .ref m_stack, .ref m_xPoly, .ref m_xRoot, .int 0, .ref m_inBoth, .int 0, .ref m_truth, .int 0, .ref m_hasEnd, .ref m_belongs, .ref m_isSingle, .ref m_endPoly, .ref m_endRoot, .int 0, .ref m_small, .ref m_smallDegree, .int 0, .ref m_irreducible, .int 0, .ref m_stackOf, .int 0, .ref m_factorAt, .ref m_factorPower, .ref m_isKept, .ref m_keptPoly, .ref m_keptRoot, .int 0, .int 0, .int 0, .int 0, .int 0, .int 0])), (m_isKept, .inl (cB, 8, .inl (fun _ => 0)))]) hP hD [0, 1] [] rfl rfl (by decide) (by decide) hk1 hFc hP1 hD1
  have hK := (hK.sub (tys' := []) [] rfl).app hK1
  generalize H1 = H at hP hS ⊢
  have hP : va_P (dC, dI) classes [(h0, .inr (12, [.ref m_mem, .int 232000, .int 0, .int 0, .int 0, .int 0, .int 0, .int 0, .int 0, .int 0, .int 0, .ref m_polys, .ref m_chains, .ref m_pairs, .int 0, .int 0, .int 0, .ref m_zeros, .ref m_tape, .ref m_outs, .ref m_text, .int 0, .int 0, .int 0, .int 0, .int 0, .int 0, .int 0, .ref m_rows, .ref m_digits, .ref m_entries, .ref m_minors, .int 0, .int 0, .int 0, .int 0, .int 0, .int 0, .ref m_pointX, .ref m_pointH, .ref m_pointY, .ref m_those, .int 0, .int 0, .int 0, .int 0, .int 0, .ref m_does, .ref m_atomOf, .ref m_atomRel, .int 0, .int 0, .int 0, .ref m_signs, .ref m_stack, .ref m_xPoly, .ref m_xRoot, .int 0, .ref m_inBoth, .int 0, .ref m_truth, .int 0, .ref m_hasEnd, .ref m_belongs, .ref m_isSingle, .ref m_endPoly, .ref m_endRoot, .int 0, .ref m_small, .ref m_smallDegree, .int 0, .ref m_irreducible, .int 0, .ref m_stackOf, .int 0, .ref m_factorAt, .ref m_factorPower, .ref m_isKept, .ref m_keptPoly, .ref m_keptRoot, .int 0, .int 0, .int 0, .int 0, .int 0, .int 0])), (m_isKept, .inl (cB, 8, .inl (fun _ => 0)))] H := hP
  have hD : va_D A [(h0, .inr (12, [.ref m_mem, .int 232000, .int 0, .int 0, .int 0, .int 0, .int 0, .int 0, .int 0, .int 0, .int 0, .ref m_polys, .ref m_chains, .ref m_pairs, .int 0, .int 0, .int 0, .ref m_zeros, .ref m_tape, .ref m_outs, .ref m_text, .int 0, .int 0, .int 0, .int 0, .int 0, .int 0, .int 0, .ref m_rows, .ref m_digits, .ref m_entries, .ref m_minors, .int 0, .int 0, .int 0, .int 0, .int 0, .int 0, .ref m_pointX, .ref m_pointH, .ref m_pointY, .ref m_those, .int 0, .int 0, .int 0, .int 0, .int 0, .ref m_does, .ref m_atomOf, .ref m_atomRel, .int 0, .int 0, .int 0, .ref m_signs, .ref m_stack, .ref m_xPoly, .ref m_xRoot, .int 0, .ref m_inBoth, .int 0, .ref m_truth, .int 0, .ref m_hasEnd, .ref m_belongs, .ref m_isSingle, .ref m_endPoly, .ref m_endRoot, .int 0, .ref m_small, .ref m_smallDegree, .int 0, .ref m_irreducible, .int 0, .ref m_stackOf, .int 0, .ref m_factorAt, .ref m_factorPower, .ref m_isKept, .ref m_keptPoly, .ref m_keptRoot, .int 0, .int 0, .int 0, .int 0, .int 0, .int 0])), (m_isKept, .inl (cB, 8, .inl (fun _ => 0)))] := hD
  have hK : va_K (dC, dI) classes [(cB, .boolean)] s := hK
  refine lv_if_eq (tgt := 19) hx hb d_Model_number_5 (by decide) (fun c_2 => ?_) (fun c_2 => absurd (by decide) c_2)
  refine lv_iconst (v := (-1)) hx hb d_Model_number_19 (by decide) ?_
  have hP9 := hP.sub (ws' := []) [] rfl
  have hD9 := hD.sub (ws' := []) [] (by decide) rfl
  have hK9 := hK.sub (tys' := []) [] rfl
  exact W.iret (v := (-1)) hx hb hr (fun t ht hW => ⟨⟨(-1), (), rfl, rfl, by rw [ht]; exact hP9, va_K.moved hW.alike hK9, hD9⟩, hS.F ht⟩) hS.2.2 d_Model_number_20

set_option maxHeartbeats 4000000 in
set_option maxRecDepth 100000 in
/-- compare of a fresh reference -/
theorem c_Model_compare_0 (l : Launch) (dC : Nat → ClassId) (dI : Nat → Nat → Nat) (sz : Nat) (h0 : Nat) (m_mem : Nat) (m_polys : Nat) (m_chains : Nat) (m_pairs : Nat) (m_zeros : Nat) (m_tape : Nat) (m_outs : Nat) (m_text : Nat) (m_rows : Nat) (m_digits : Nat) (m_entries : Nat) (m_minors : Nat) (m_pointX : Nat) (m_pointH : Nat) (m_pointY : Nat) (m_those : Nat) (m_does : Nat) (m_atomOf : Nat) (m_atomRel : Nat) (m_signs : Nat) (m_stack : Nat) (m_xPoly : Nat) (m_xRoot : Nat) (m_inBoth : Nat) (m_truth : Nat) (m_hasEnd : Nat) (m_belongs : Nat) (m_isSingle : Nat) (m_endPoly : Nat) (m_endRoot : Nat) (m_small : Nat) (m_smallDegree : Nat) (m_irreducible : Nat) (m_stackOf : Nat) (m_factorAt : Nat) (m_factorPower : Nat) (m_isKept : Nat) (m_keptPoly : Nat) (m_keptRoot : Nat) (cB : ClassId) (a1 : Int32) (a2 : Int32)  : Met l y_Model_compare w_Model_compare ({ frames := 1, cells := 0, slots := 0, locals := 21 }) (va_Pc [.ref h0, .int a1, .int a2] (fun U => U.heap.size = sz ∧ va_P (dC, dI) classes [(h0, .inr (12, [.ref m_mem, .int 232000, .int 0, .int 0, .int 0, .int 0, .int 0, .int 0, .int 0, .int 0, .int 0, .ref m_polys, .ref m_chains, .ref m_pairs, .int 0, .int 0, .int 0, .ref m_zeros, .ref m_tape, .ref m_outs, .ref m_text, .int 0, .int 0, .int 0, .int 0, .int 0, .int 0, .int 0, .ref m_rows, .ref m_digits, .ref m_entries, .ref m_minors, .int 0, .int 0, .int 0, .int 0, .int 0, .int 0, .ref m_pointX, .ref m_pointH, .ref m_pointY, .ref m_those, .int 0, .int 0, .int 0, .int 0, .int 0, .ref m_does, .ref m_atomOf, .ref m_atomRel, .int 0, .int 0, .int 0, .ref m_signs, .ref m_stack, .ref m_xPoly, .ref m_xRoot, .int 0, .ref m_inBoth, .int 0, .ref m_truth, .int 0, .ref m_hasEnd, .ref m_belongs, .ref m_isSingle, .ref m_endPoly, .ref m_endRoot, .int 0, .ref m_small, .ref m_smallDegree, .int 0, .ref m_irreducible, .int 0, .ref m_stackOf, .int 0, .ref m_factorAt, .ref m_factorPower, .ref m_isKept, .ref m_keptPoly, .ref m_keptRoot, .int 0, .int 0, .int 0, .int 0, .int 0, .int 0])), (m_isKept, .inl (cB, 8, .inl (fun _ => 0)))] U.heap ∧ va_K (dC, dI) classes [(cB, .boolean)] U ∧ va_D (fun _ => True) [(h0, .inr (12, [.ref m_mem, .int 232000, .int 0, .int 0, .int 0, .int 0, .int 0, .int 0, .int 0, .int 0, .int 0, .ref m_polys, .ref m_chains, .ref m_pairs, .int 0, .int 0, .int 0, .ref m_zeros, .ref m_tape, .ref m_outs, .ref m_text, .int 0, .int 0, .int 0, .int 0, .int 0, .int 0, .int 0, .ref m_rows, .ref m_digits, .ref m_entries, .ref m_minors, .int 0, .int 0, .int 0, .int 0, .int 0, .int 0, .ref m_pointX, .ref m_pointH, .ref m_pointY, .ref m_those, .int 0, .int 0, .int 0, .int 0, .int 0, .ref m_does, .ref m_atomOf, .ref m_atomRel, .int 0, .int 0, .int 0, .ref m_signs, .ref m_stack, .ref m_xPoly, .ref m_xRoot, .int 0, .ref m_inBoth, .int 0, .ref m_truth, .int 0, .ref m_hasEnd, .ref m_belongs, .ref m_isSingle, .ref m_endPoly, .ref m_endRoot, .int 0, .ref m_small, .ref m_smallDegree, .int 0, .ref m_irreducible, .int 0, .ref m_stackOf, .int 0, .ref m_factorAt, .ref m_factorPower, .ref m_isKept, .ref m_keptPoly, .ref m_keptRoot, .int 0, .int 0, .int 0, .int 0, .int 0, .int 0])), (m_isKept, .inl (cB, 8, .inl (fun _ => 0)))] ∧ nx_K U)) (va_Qi (fun (r : Int32) (_ : Unit) => r = (-1)) (fun _ t => va_P (dC, dI) classes [] t.heap ∧ va_K (dC, dI) classes [] t ∧ va_D (va_A [(h0, .inr (12, [.ref m_mem, .int 232000, .int 0, .int 0, .int 0, .int 0, .int 0, .int 0, .int 0, .int 0, .int 0, .ref m_polys, .ref m_chains, .ref m_pairs, .int 0, .int 0, .int 0, .ref m_zeros, .ref m_tape, .ref m_outs, .ref m_text, .int 0, .int 0, .int 0, .int 0, .int 0, .int 0, .int 0, .ref m_rows, .ref m_digits, .ref m_entries, .ref m_minors, .int 0, .int 0, .int 0, .int 0, .int 0, .int 0, .ref m_pointX, .ref m_pointH, .ref m_pointY, .ref m_those, .int 0, .int 0, .int 0, .int 0, .int 0, .ref m_does, .ref m_atomOf, .ref m_atomRel, .int 0, .int 0, .int 0, .ref m_signs, .ref m_stack, .ref m_xPoly, .ref m_xRoot, .int 0, .ref m_inBoth, .int 0, .ref m_truth, .int 0, .ref m_hasEnd, .ref m_belongs, .ref m_isSingle, .ref m_endPoly, .ref m_endRoot, .int 0, .ref m_small, .ref m_smallDegree, .int 0, .ref m_irreducible, .int 0, .ref m_stackOf, .int 0, .ref m_factorAt, .ref m_factorPower, .ref m_isKept, .ref m_keptPoly, .ref m_keptRoot, .int 0, .int 0, .int 0, .int 0, .int 0, .int 0])), (m_isKept, .inl (cB, 8, .inl (fun _ => 0)))] sz) []) (va_A [(h0, .inr (12, [.ref m_mem, .int 232000, .int 0, .int 0, .int 0, .int 0, .int 0, .int 0, .int 0, .int 0, .int 0, .ref m_polys, .ref m_chains, .ref m_pairs, .int 0, .int 0, .int 0, .ref m_zeros, .ref m_tape, .ref m_outs, .ref m_text, .int 0, .int 0, .int 0, .int 0, .int 0, .int 0, .int 0, .ref m_rows, .ref m_digits, .ref m_entries, .ref m_minors, .int 0, .int 0, .int 0, .int 0, .int 0, .int 0, .ref m_pointX, .ref m_pointH, .ref m_pointY, .ref m_those, .int 0, .int 0, .int 0, .int 0, .int 0, .ref m_does, .ref m_atomOf, .ref m_atomRel, .int 0, .int 0, .int 0, .ref m_signs, .ref m_stack, .ref m_xPoly, .ref m_xRoot, .int 0, .ref m_inBoth, .int 0, .ref m_truth, .int 0, .ref m_hasEnd, .ref m_belongs, .ref m_isSingle, .ref m_endPoly, .ref m_endRoot, .int 0, .ref m_small, .ref m_smallDegree, .int 0, .ref m_irreducible, .int 0, .ref m_stackOf, .int 0, .ref m_factorAt, .ref m_factorPower, .ref m_isKept, .ref m_keptPoly, .ref m_keptRoot, .int 0, .int 0, .int 0, .int 0, .int 0, .int 0])), (m_isKept, .inl (cB, 8, .inl (fun _ => 0)))] sz)) 0 0 (va_A [(h0, .inr (12, [.ref m_mem, .int 232000, .int 0, .int 0, .int 0, .int 0, .int 0, .int 0, .int 0, .int 0, .int 0, .ref m_polys, .ref m_chains, .ref m_pairs, .int 0, .int 0, .int 0, .ref m_zeros, .ref m_tape, .ref m_outs, .ref m_text, .int 0, .int 0, .int 0, .int 0, .int 0, .int 0, .int 0, .ref m_rows, .ref m_digits, .ref m_entries, .ref m_minors, .int 0, .int 0, .int 0, .int 0, .int 0, .int 0, .ref m_pointX, .ref m_pointH, .ref m_pointY, .ref m_those, .int 0, .int 0, .int 0, .int 0, .int 0, .ref m_does, .ref m_atomOf, .ref m_atomRel, .int 0, .int 0, .int 0, .ref m_signs, .ref m_stack, .ref m_xPoly, .ref m_xRoot, .int 0, .ref m_inBoth, .int 0, .ref m_truth, .int 0, .ref m_hasEnd, .ref m_belongs, .ref m_isSingle, .ref m_endPoly, .ref m_endRoot, .int 0, .ref m_small, .ref m_smallDegree, .int 0, .ref m_irreducible, .int 0, .ref m_stackOf, .int 0, .ref m_factorAt, .ref m_factorPower, .ref m_isKept, .ref m_keptPoly, .ref m_keptRoot, .int 0, .int 0, .int 0, .int 0, .int 0, .int 0])), (m_isKept, .inl (cB, 8, .inl (fun _ => 0)))] sz) := by
  refine Met.ofW (cc := b_Model_compare) (maxL := 3) (ret := (some .int)) (by decide) rfl ?_
  intro p e s m args below meth c s₁ B hml hv
  obtain ⟨rfl, hsz, hP, hK, hD0, hN⟩ := hv
  have hx := B.exec
  have hb := B.bytes
  have hr := B.returns
  have hT : ∀ w ∈ lw_g, w.before _ s = true := fun w h => atoms_spec (ws := w_Model_compare) B.pre w (List.mem_cons_of_mem _ h)
  have hown : s.vm.findClass R_Model = some m.cls := findClass_of_methodNamed B.named
  have hlocks := B.notSynchronized
  subst hsz
  have hD := hD0.self (sz := s.heap.size)
  generalize hAe : va_A [(h0, .inr (12, [.ref m_mem, .int 232000, .int 0, .int 0, .int 0, .int 0, .int 0, .int 0, .int 0, .int 0, .int 0, .ref m_polys, .ref m_chains, .ref m_pairs, .int 0, .int 0, .int 0, .ref m_zeros, .ref m_tape, .ref m_outs, .ref m_text, .int 0, .int 0, .int 0, .int 0, .int 0, .int 0, .int 0, .ref m_rows, .ref m_digits, .ref m_entries, .ref m_minors, .int 0, .int 0, .int 0, .int 0, .int 0, .int 0, .ref m_pointX, .ref m_pointH, .ref m_pointY, .ref m_those, .int 0, .int 0, .int 0, .int 0, .int 0, .ref m_does, .ref m_atomOf, .ref m_atomRel, .int 0, .int 0, .int 0, .ref m_signs, .ref m_stack, .ref m_xPoly, .ref m_xRoot, .int 0, .ref m_inBoth, .int 0, .ref m_truth, .int 0, .ref m_hasEnd, .ref m_belongs, .ref m_isSingle, .ref m_endPoly, .ref m_endRoot, .int 0, .ref m_small, .ref m_smallDegree, .int 0, .ref m_irreducible, .int 0, .ref m_stackOf, .int 0, .ref m_factorAt, .ref m_factorPower, .ref m_isKept, .ref m_keptPoly, .ref m_keptRoot, .int 0, .int 0, .int 0, .int 0, .int 0, .int 0])), (m_isKept, .inl (cB, 8, .inl (fun _ => 0)))] s.heap.size = A at hD ⊢
  have hA : ∀ q : Nat, s.heap.size ≤ q → A q := fun q h => by rw [← hAe]; exact Or.inr h
  have hS : va_S A s.heap s.heap [] := va_S.rf
  have hP : va_P (dC, dI) classes [(h0, .inr (12, [.ref m_mem, .int 232000, .int 0, .int 0, .int 0, .int 0, .int 0, .int 0, .int 0, .int 0, .int 0, .ref m_polys, .ref m_chains, .ref m_pairs, .int 0, .int 0, .int 0, .ref m_zeros, .ref m_tape, .ref m_outs, .ref m_text, .int 0, .int 0, .int 0, .int 0, .int 0, .int 0, .int 0, .ref m_rows, .ref m_digits, .ref m_entries, .ref m_minors, .int 0, .int 0, .int 0, .int 0, .int 0, .int 0, .ref m_pointX, .ref m_pointH, .ref m_pointY, .ref m_those, .int 0, .int 0, .int 0, .int 0, .int 0, .ref m_does, .ref m_atomOf, .ref m_atomRel, .int 0, .int 0, .int 0, .ref m_signs, .ref m_stack, .ref m_xPoly, .ref m_xRoot, .int 0, .ref m_inBoth, .int 0, .ref m_truth, .int 0, .ref m_hasEnd, .ref m_belongs, .ref m_isSingle, .ref m_endPoly, .ref m_endRoot, .int 0, .ref m_small, .ref m_smallDegree, .int 0, .ref m_irreducible, .int 0, .ref m_stackOf, .int 0, .ref m_factorAt, .ref m_factorPower, .ref m_isKept, .ref m_keptPoly, .ref m_keptRoot, .int 0, .int 0, .int 0, .int 0, .int 0, .int 0])), (m_isKept, .inl (cB, 8, .inl (fun _ => 0)))] s.heap := hP
  have hl := lv_entry ([.ref h0, .int a1, .int a2]) (n := 3) (Nat.le_of_ble_eq_true rfl)
  rw [lg_entry_eq]
  generalize (lg_sl ([.ref h0, .int a1, .int a2]) ++ List.replicate (3 - (lg_sl ([.ref h0, .int a1, .int a2])).length) Slot.unset).toArray = ls at hl ⊢
  have hl : lv_has ls 3 [(0, .ref h0), (1, .int a1), (2, .int a2)] := hl
  refine lv_aload_n hx hb d_Model_compare_0 rfl (lv_at hl 0 rfl) ?_
  refine lv_iload_n hx hb d_Model_compare_1 rfl (lv_at hl 1 rfl) ?_
  have hPc := hP.sub (ws' := [(h0, .inr (12, [.ref m_mem, .int 232000, .int 0, .int 0, .int 0, .int 0, .int 0, .int 0, .int 0, .int 0, .int 0, .ref m_polys, .ref m_chains, .ref m_pairs, .int 0, .int 0, .int 0, .ref m_zeros, .ref m_tape, .ref m_outs, .ref m_text, .int 0, .int 0, .int 0, .int 0, .int 0, .int 0, .int 0, .ref m_rows, .ref m_digits, .ref m_entries, .ref m_minors, .int 0, .int 0, .int 0, .int 0, .int 0, .int 0, .ref m_pointX, .ref m_pointH, .ref m_pointY, .ref m_those, .int 0, .int 0, .int 0, .int 0, .int 0, .ref m_does, .ref m_atomOf, .ref m_atomRel, .int 0, .int 0, .int 0, .ref m_signs, .ref m_stack, .ref m_xPoly, .ref m_xRoot, .int 0, .ref m_inBoth, .int 0, .ref m_truth, .int 0, .ref m_hasEnd, .ref m_belongs, .ref m_isSingle, .ref m_endPoly, .ref m_endRoot, .int 0, .ref m_small, .ref m_smallDegree, .int 0, .ref m_irreducible, .int 0, .ref m_stackOf, .int 0, .ref m_factorAt, .ref m_factorPower, .ref m_isKept, .ref m_keptPoly, .ref m_keptRoot, .int 0, .int 0, .int 0, .int 0, .int 0, .int 0])), (m_isKept, .inl (cB, 8, .inl (fun _ => 0)))]) [0, 1] rfl
  have hDc := hD.sub (ws' := [(h0, .inr (12, [.ref m_mem, .int 232000, .int 0, .int 0, .int 0, .int 0, .int 0, .int 0, .int 0, .int 0, .int 0, .ref m_polys, .ref m_chains, .ref m_pairs, .int 0, .int 0, .int 0, .ref m_zeros, .ref m_tape, .ref m_outs, .ref m_text, .int 0, .int 0, .int 0, .int 0, .int 0, .int 0, .int 0, .ref m_rows, .ref m_digits, .ref m_entries, .ref m_minors, .int 0, .int 0, .int 0, .int 0, .int 0, .int 0, .ref m_pointX, .ref m_pointH, .ref m_pointY, .ref m_those, .int 0, .int 0, .int 0, .int 0, .int 0, .ref m_does, .ref m_atomOf, .ref m_atomRel, .int 0, .int 0, .int 0, .ref m_signs, .ref m_stack, .ref m_xPoly, .ref m_xRoot, .int 0, .ref m_inBoth, .int 0, .ref m_truth, .int 0, .ref m_hasEnd, .ref m_belongs, .ref m_isSingle, .ref m_endPoly, .ref m_endRoot, .int 0, .ref m_small, .ref m_smallDegree, .int 0, .ref m_irreducible, .int 0, .ref m_stackOf, .int 0, .ref m_factorAt, .ref m_factorPower, .ref m_isKept, .ref m_keptPoly, .ref m_keptRoot, .int 0, .int 0, .int 0, .int 0, .int 0, .int 0])), (m_isKept, .inl (cB, 8, .inl (fun _ => 0)))]) [0, 1] (by decide) rfl
  have hKc := hK.sub (tys' := [(cB, .boolean)]) [0] rfl
  have hFc := va_free (wc := [(h0, .inr (12, [.ref m_mem, .int 232000, .int 0, .int 0, .int 0, .int 0, .int 0, .int 0, .int 0, .int 0, .int 0, .ref m_polys, .ref m_chains, .ref m_pairs, .int 0, .int 0, .int 0, .ref m_zeros, .ref m_tape, .ref m_outs, .ref m_text, .int 0, .int 0, .int 0, .int 0, .int 0, .int 0, .int 0, .ref m_rows, .ref m_digits, .ref m_entries, .ref m_minors, .int 0, .int 0, .int 0, .int 0, .int 0, .int 0, .ref m_pointX, .ref m_pointH, .ref m_pointY, .ref m_those, .int 0, .int 0, .int 0, .int 0, .int 0, .ref m_does, .ref m_atomOf, .ref m_atomRel, .int 0, .int 0, .int 0, .ref m_signs, .ref m_stack, .ref m_xPoly, .ref m_xRoot, .int 0, .ref m_inBoth, .int 0, .ref m_truth, .int 0, .ref m_hasEnd, .ref m_belongs, .ref m_isSingle, .ref m_endPoly, .ref m_endRoot, .int 0, .ref m_small, .ref m_smallDegree, .int 0, .ref m_irreducible, .int 0, .ref m_stackOf, .int 0, .ref m_factorAt, .ref m_factorPower, .ref m_isKept, .ref m_keptPoly, .ref m_keptRoot, .int 0, .int 0, .int 0, .int 0, .int 0, .int 0])), (m_isKept, .inl (cB, 8, .inl (fun _ => 0)))]) hD hS hA [0, 1] rfl
  refine va_calli (va_runV (As := [.int a1]) (rest := []) ⟨hx, hb, hml, hown, hT⟩ (c_Model_isNumberKept_0 l dC dI s.heap.size h0 m_mem m_polys m_chains m_pairs m_zeros m_tape m_outs m_text m_rows m_digits m_entries m_minors m_pointX m_pointH m_pointY m_those m_does m_atomOf m_atomRel m_signs m_stack m_xPoly m_xRoot m_inBoth m_truth m_hasEnd m_belongs m_isSingle m_endPoly m_endRoot m_small m_smallDegree m_irreducible m_stackOf m_factorAt m_factorPower m_isKept m_keptPoly m_keptRoot cB a1 ) (cwV 1 hT (tb_goodV g_Model_isNumberKept tw_2575 tw_2577 (tb_sel (q := (⟨"RealHouseModel", "isNumberKept", "(I)Z"⟩, 86)) (i := 220) (by decide +kernel)) tw_15) rfl rfl rfl (by decide +kernel) ⟨Nat.le_of_ble_eq_true rfl, Nat.le_of_ble_eq_true rfl⟩) ⟨fun a U g mk q => by obtain ⟨q0, q1, qP, qK, qD, qN⟩ := q; exact ⟨q0, q1, qP, va_K.moved (u := U) (U := U.calling g mk a) (Vm.Alike.refl U.vm) qK, qD, nx_K.same (u := U) (U := U.calling g mk a) rfl qN⟩, va_recv hKc hPc (ci := 12) (q0 := 0) rfl rfl, fun U hU hW => ⟨rfl, by rw [hU], by rw [hU]; exact hPc, va_K.moved hW.alike hKc, hDc.weaken (fun _ _ _ _ => trivial), nx_K.warm hW hN⟩⟩ rfl rfl hl.1 rfl (lv_room (Nat.le_of_ble_eq_true rfl)) d_Model_compare_2 ⟨Nat.le_of_ble_eq_true rfl, Nat.le_of_ble_eq_true rfl⟩) hS (fun q _ h => hFc q h) hFc (fun r_1 u t H1 locs ht hvm hw hB hz1 hk1 hS => ?_)
  obtain ⟨hP1, hK1, hD1⟩ := hB
  rw [ht] at hP1
  have hK1 := va_K.moved hvm.symm hK1
  obtain rfl : r_1 = 0 := hw
  obtain ⟨hP, hD⟩ := va_join (wr := []) (w1 := [(h0, .inr (12, [.ref m_mem, .int 232000, .int 0, .int 0, .int 0, .int 0, .int 0, .int 0, .int 0, .int 0, .int 0, .ref m_polys, .ref m_chains, .ref m_pairs, .int 0, .int 0, .int 0, .ref m_zeros, .ref m_tape, .ref m_outs, .ref m_text, .int 0, .int 0, .int 0, .int 0, .int 0, .int 0, .int 0, .ref m_rows, .ref m_digits, .ref m_entries, .ref m_minors, .int 0, .int 0, .int 0, .int 0, .int 0, .int 0, .ref m_pointX, .ref m_pointH, .ref m_pointY, .ref m_those, .int 0, .int 0, .int 0, .int 0, .int 0, .ref m_does, .ref m_atomOf, .ref m_atomRel, .int 0, .int 0, .int 0, .ref m_signs, .ref m_stack, .ref m_xPoly, .ref m_xRoot, .int 0, .ref m_inBoth, .int 0, .ref m_truth, .int 0, .ref m_hasEnd, .ref m_belongs, .ref m_isSingle, .ref m_endPoly, .ref m_endRoot, .int 0, .ref m_small, .ref m_smallDegree, .int 0, .ref m_irreducible, .int 0, .ref m_stackOf, .int 0, .ref m_factorAt, .ref m_factorPower, .ref m_isKept, .ref m_keptPoly, .ref m_keptRoot, .int 0, .int 0, .int 0, .int 0, .int 0, .int 0])), (m_isKept, .inl (cB, 8, .inl (fun _ => 0)))]) hP hD [0, 1] [] rfl rfl (by decide) (by decide) hk1 hFc hP1 hD1
  have hK := (hK.sub (tys' := []) [] rfl).app hK1
  generalize H1 = H at hP hS ⊢
  have hP : va_P (dC, dI) classes [(h0, .inr (12, [.ref m_mem, .int 232000, .int 0, .int 0, .int 0, .int 0, .int 0, .int 0, .int 0, .int 0, .int 0, .ref m_polys, .ref m_chains, .ref m_pairs, .int 0, .int 0, .int 0, .ref m_zeros, .ref m_tape, .ref m_outs, .ref m_text, .int 0, .int 0, .int 0, .int 0, .int 0, .int 0, .int 0, .ref m_rows, .ref m_digits, .ref m_entries, .ref m_minors, .int 0, .int 0, .int 0, .int 0, .int 0, .int 0, .ref m_pointX, .ref m_pointH, .ref m_pointY, .ref m_those, .int 0, .int 0, .int 0, .int 0, .int 0, .ref m_does, .ref m_atomOf, .ref m_atomRel, .int 0, .int 0, .int 0, .ref m_signs, .ref m_stack, .ref m_xPoly, .ref m_xRoot, .int 0, .ref m_inBoth, .int 0, .ref m_truth, .int 0, .ref m_hasEnd, .ref m_belongs, .ref m_isSingle, .ref m_endPoly, .ref m_endRoot, .int 0, .ref m_small, .ref m_smallDegree, .int 0, .ref m_irreducible, .int 0, .ref m_stackOf, .int 0, .ref m_factorAt, .ref m_factorPower, .ref m_isKept, .ref m_keptPoly, .ref m_keptRoot, .int 0, .int 0, .int 0, .int 0, .int 0, .int 0])), (m_isKept, .inl (cB, 8, .inl (fun _ => 0)))] H := hP
  have hD : va_D A [(h0, .inr (12, [.ref m_mem, .int 232000, .int 0, .int 0, .int 0, .int 0, .int 0, .int 0, .int 0, .int 0, .int 0, .ref m_polys, .ref m_chains, .ref m_pairs, .int 0, .int 0, .int 0, .ref m_zeros, .ref m_tape, .ref m_outs, .ref m_text, .int 0, .int 0, .int 0, .int 0, .int 0, .int 0, .int 0, .ref m_rows, .ref m_digits, .ref m_entries, .ref m_minors, .int 0, .int 0, .int 0, .int 0, .int 0, .int 0, .ref m_pointX, .ref m_pointH, .ref m_pointY, .ref m_those, .int 0, .int 0, .int 0, .int 0, .int 0, .ref m_does, .ref m_atomOf, .ref m_atomRel, .int 0, .int 0, .int 0, .ref m_signs, .ref m_stack, .ref m_xPoly, .ref m_xRoot, .int 0, .ref m_inBoth, .int 0, .ref m_truth, .int 0, .ref m_hasEnd, .ref m_belongs, .ref m_isSingle, .ref m_endPoly, .ref m_endRoot, .int 0, .ref m_small, .ref m_smallDegree, .int 0, .ref m_irreducible, .int 0, .ref m_stackOf, .int 0, .ref m_factorAt, .ref m_factorPower, .ref m_isKept, .ref m_keptPoly, .ref m_keptRoot, .int 0, .int 0, .int 0, .int 0, .int 0, .int 0])), (m_isKept, .inl (cB, 8, .inl (fun _ => 0)))] := hD
  have hK : va_K (dC, dI) classes [(cB, .boolean)] s := hK
  refine lv_if_eq (tgt := 16) hx hb d_Model_compare_5 (by decide) (fun c_2 => ?_) (fun c_2 => absurd (by decide) c_2)
  refine lv_iconst (v := (-1)) hx hb d_Model_compare_16 (by decide) ?_
  have hP9 := hP.sub (ws' := []) [] rfl
  have hD9 := hD.sub (ws' := []) [] (by decide) rfl
  have hK9 := hK.sub (tys' := []) [] rfl
  exact W.iret (v := (-1)) hx hb hr (fun t ht hW => ⟨⟨(-1), (), rfl, rfl, by rw [ht]; exact hP9, va_K.moved hW.alike hK9, hD9⟩, hS.F ht⟩) hS.2.2 d_Model_compare_17

set_option maxHeartbeats 4000000 in
set_option maxRecDepth 100000 in
/-- out of a fresh reference -/
theorem c_Model_out_0 (l : Launch) (dC : Nat → ClassId) (dI : Nat → Nat → Nat) (sz : Nat) (h0 : Nat) (m_mem : Nat) (m_polys : Nat) (m_chains : Nat) (m_pairs : Nat) (m_zeros : Nat) (m_tape : Nat) (m_outs : Nat) (m_text : Nat) (m_rows : Nat) (m_digits : Nat) (m_entries : Nat) (m_minors : Nat) (m_pointX : Nat) (m_pointH : Nat) (m_pointY : Nat) (m_those : Nat) (m_does : Nat) (m_atomOf : Nat) (m_atomRel : Nat) (m_signs : Nat) (m_stack : Nat) (m_xPoly : Nat) (m_xRoot : Nat) (m_inBoth : Nat) (m_truth : Nat) (m_hasEnd : Nat) (m_belongs : Nat) (m_isSingle : Nat) (m_endPoly : Nat) (m_endRoot : Nat) (m_small : Nat) (m_smallDegree : Nat) (m_irreducible : Nat) (m_stackOf : Nat) (m_factorAt : Nat) (m_factorPower : Nat) (m_isKept : Nat) (m_keptPoly : Nat) (m_keptRoot : Nat) (a1 : Int32)  : Met l y_Model_out w_Model_out ({ frames := 0, cells := 0, slots := 0, locals := 0 }) (va_Pc [.ref h0, .int a1] (fun U => U.heap.size = sz ∧ va_P (dC, dI) classes [(h0, .inr (12, [.ref m_mem, .int 232000, .int 0, .int 0, .int 0, .int 0, .int 0, .int 0, .int 0, .int 0, .int 0, .ref m_polys, .ref m_chains, .ref m_pairs, .int 0, .int 0, .int 0, .ref m_zeros, .ref m_tape, .ref m_outs, .ref m_text, .int 0, .int 0, .int 0, .int 0, .int 0, .int 0, .int 0, .ref m_rows, .ref m_digits, .ref m_entries, .ref m_minors, .int 0, .int 0, .int 0, .int 0, .int 0, .int 0, .ref m_pointX, .ref m_pointH, .ref m_pointY, .ref m_those, .int 0, .int 0, .int 0, .int 0, .int 0, .ref m_does, .ref m_atomOf, .ref m_atomRel, .int 0, .int 0, .int 0, .ref m_signs, .ref m_stack, .ref m_xPoly, .ref m_xRoot, .int 0, .ref m_inBoth, .int 0, .ref m_truth, .int 0, .ref m_hasEnd, .ref m_belongs, .ref m_isSingle, .ref m_endPoly, .ref m_endRoot, .int 0, .ref m_small, .ref m_smallDegree, .int 0, .ref m_irreducible, .int 0, .ref m_stackOf, .int 0, .ref m_factorAt, .ref m_factorPower, .ref m_isKept, .ref m_keptPoly, .ref m_keptRoot, .int 0, .int 0, .int 0, .int 0, .int 0, .int 0]))] U.heap ∧ va_K (dC, dI) classes [] U ∧ va_D (fun _ => True) [(h0, .inr (12, [.ref m_mem, .int 232000, .int 0, .int 0, .int 0, .int 0, .int 0, .int 0, .int 0, .int 0, .int 0, .ref m_polys, .ref m_chains, .ref m_pairs, .int 0, .int 0, .int 0, .ref m_zeros, .ref m_tape, .ref m_outs, .ref m_text, .int 0, .int 0, .int 0, .int 0, .int 0, .int 0, .int 0, .ref m_rows, .ref m_digits, .ref m_entries, .ref m_minors, .int 0, .int 0, .int 0, .int 0, .int 0, .int 0, .ref m_pointX, .ref m_pointH, .ref m_pointY, .ref m_those, .int 0, .int 0, .int 0, .int 0, .int 0, .ref m_does, .ref m_atomOf, .ref m_atomRel, .int 0, .int 0, .int 0, .ref m_signs, .ref m_stack, .ref m_xPoly, .ref m_xRoot, .int 0, .ref m_inBoth, .int 0, .ref m_truth, .int 0, .ref m_hasEnd, .ref m_belongs, .ref m_isSingle, .ref m_endPoly, .ref m_endRoot, .int 0, .ref m_small, .ref m_smallDegree, .int 0, .ref m_irreducible, .int 0, .ref m_stackOf, .int 0, .ref m_factorAt, .ref m_factorPower, .ref m_isKept, .ref m_keptPoly, .ref m_keptRoot, .int 0, .int 0, .int 0, .int 0, .int 0, .int 0]))] ∧ nx_K U)) (va_Qi (fun (r : Int32) (_ : Unit) => r = if a1 = (-1) then 0 else (-1)) (fun _ t => va_P (dC, dI) classes [] t.heap ∧ va_K (dC, dI) classes [] t ∧ va_D (va_A [(h0, .inr (12, [.ref m_mem, .int 232000, .int 0, .int 0, .int 0, .int 0, .int 0, .int 0, .int 0, .int 0, .int 0, .ref m_polys, .ref m_chains, .ref m_pairs, .int 0, .int 0, .int 0, .ref m_zeros, .ref m_tape, .ref m_outs, .ref m_text, .int 0, .int 0, .int 0, .int 0, .int 0, .int 0, .int 0, .ref m_rows, .ref m_digits, .ref m_entries, .ref m_minors, .int 0, .int 0, .int 0, .int 0, .int 0, .int 0, .ref m_pointX, .ref m_pointH, .ref m_pointY, .ref m_those, .int 0, .int 0, .int 0, .int 0, .int 0, .ref m_does, .ref m_atomOf, .ref m_atomRel, .int 0, .int 0, .int 0, .ref m_signs, .ref m_stack, .ref m_xPoly, .ref m_xRoot, .int 0, .ref m_inBoth, .int 0, .ref m_truth, .int 0, .ref m_hasEnd, .ref m_belongs, .ref m_isSingle, .ref m_endPoly, .ref m_endRoot, .int 0, .ref m_small, .ref m_smallDegree, .int 0, .ref m_irreducible, .int 0, .ref m_stackOf, .int 0, .ref m_factorAt, .ref m_factorPower, .ref m_isKept, .ref m_keptPoly, .ref m_keptRoot, .int 0, .int 0, .int 0, .int 0, .int 0, .int 0]))] sz) []) (va_A [(h0, .inr (12, [.ref m_mem, .int 232000, .int 0, .int 0, .int 0, .int 0, .int 0, .int 0, .int 0, .int 0, .int 0, .ref m_polys, .ref m_chains, .ref m_pairs, .int 0, .int 0, .int 0, .ref m_zeros, .ref m_tape, .ref m_outs, .ref m_text, .int 0, .int 0, .int 0, .int 0, .int 0, .int 0, .int 0, .ref m_rows, .ref m_digits, .ref m_entries, .ref m_minors, .int 0, .int 0, .int 0, .int 0, .int 0, .int 0, .ref m_pointX, .ref m_pointH, .ref m_pointY, .ref m_those, .int 0, .int 0, .int 0, .int 0, .int 0, .ref m_does, .ref m_atomOf, .ref m_atomRel, .int 0, .int 0, .int 0, .ref m_signs, .ref m_stack, .ref m_xPoly, .ref m_xRoot, .int 0, .ref m_inBoth, .int 0, .ref m_truth, .int 0, .ref m_hasEnd, .ref m_belongs, .ref m_isSingle, .ref m_endPoly, .ref m_endRoot, .int 0, .ref m_small, .ref m_smallDegree, .int 0, .ref m_irreducible, .int 0, .ref m_stackOf, .int 0, .ref m_factorAt, .ref m_factorPower, .ref m_isKept, .ref m_keptPoly, .ref m_keptRoot, .int 0, .int 0, .int 0, .int 0, .int 0, .int 0]))] sz)) 0 0 (va_A [(h0, .inr (12, [.ref m_mem, .int 232000, .int 0, .int 0, .int 0, .int 0, .int 0, .int 0, .int 0, .int 0, .int 0, .ref m_polys, .ref m_chains, .ref m_pairs, .int 0, .int 0, .int 0, .ref m_zeros, .ref m_tape, .ref m_outs, .ref m_text, .int 0, .int 0, .int 0, .int 0, .int 0, .int 0, .int 0, .ref m_rows, .ref m_digits, .ref m_entries, .ref m_minors, .int 0, .int 0, .int 0, .int 0, .int 0, .int 0, .ref m_pointX, .ref m_pointH, .ref m_pointY, .ref m_those, .int 0, .int 0, .int 0, .int 0, .int 0, .ref m_does, .ref m_atomOf, .ref m_atomRel, .int 0, .int 0, .int 0, .ref m_signs, .ref m_stack, .ref m_xPoly, .ref m_xRoot, .int 0, .ref m_inBoth, .int 0, .ref m_truth, .int 0, .ref m_hasEnd, .ref m_belongs, .ref m_isSingle, .ref m_endPoly, .ref m_endRoot, .int 0, .ref m_small, .ref m_smallDegree, .int 0, .ref m_irreducible, .int 0, .ref m_stackOf, .int 0, .ref m_factorAt, .ref m_factorPower, .ref m_isKept, .ref m_keptPoly, .ref m_keptRoot, .int 0, .int 0, .int 0, .int 0, .int 0, .int 0]))] sz) := by
  refine Met.ofW (cc := b_Model_out) (maxL := 2) (ret := (some .int)) (by decide) rfl ?_
  intro p e s m args below meth c s₁ B hml hv
  obtain ⟨rfl, hsz, hP, hK, hD0, hN⟩ := hv
  have hx := B.exec
  have hb := B.bytes
  have hr := B.returns
  have hT : ∀ w ∈ lw_g, w.before _ s = true := fun w h => atoms_spec (ws := w_Model_out) B.pre w (List.mem_cons_of_mem _ h)
  have hown : s.vm.findClass R_Model = some m.cls := findClass_of_methodNamed B.named
  have hlocks := B.notSynchronized
  subst hsz
  have hD := hD0.self (sz := s.heap.size)
  generalize hAe : va_A [(h0, .inr (12, [.ref m_mem, .int 232000, .int 0, .int 0, .int 0, .int 0, .int 0, .int 0, .int 0, .int 0, .int 0, .ref m_polys, .ref m_chains, .ref m_pairs, .int 0, .int 0, .int 0, .ref m_zeros, .ref m_tape, .ref m_outs, .ref m_text, .int 0, .int 0, .int 0, .int 0, .int 0, .int 0, .int 0, .ref m_rows, .ref m_digits, .ref m_entries, .ref m_minors, .int 0, .int 0, .int 0, .int 0, .int 0, .int 0, .ref m_pointX, .ref m_pointH, .ref m_pointY, .ref m_those, .int 0, .int 0, .int 0, .int 0, .int 0, .ref m_does, .ref m_atomOf, .ref m_atomRel, .int 0, .int 0, .int 0, .ref m_signs, .ref m_stack, .ref m_xPoly, .ref m_xRoot, .int 0, .ref m_inBoth, .int 0, .ref m_truth, .int 0, .ref m_hasEnd, .ref m_belongs, .ref m_isSingle, .ref m_endPoly, .ref m_endRoot, .int 0, .ref m_small, .ref m_smallDegree, .int 0, .ref m_irreducible, .int 0, .ref m_stackOf, .int 0, .ref m_factorAt, .ref m_factorPower, .ref m_isKept, .ref m_keptPoly, .ref m_keptRoot, .int 0, .int 0, .int 0, .int 0, .int 0, .int 0]))] s.heap.size = A at hD ⊢
  have hA : ∀ q : Nat, s.heap.size ≤ q → A q := fun q h => by rw [← hAe]; exact Or.inr h
  have hS : va_S A s.heap s.heap [] := va_S.rf
  have hP : va_P (dC, dI) classes [(h0, .inr (12, [.ref m_mem, .int 232000, .int 0, .int 0, .int 0, .int 0, .int 0, .int 0, .int 0, .int 0, .int 0, .ref m_polys, .ref m_chains, .ref m_pairs, .int 0, .int 0, .int 0, .ref m_zeros, .ref m_tape, .ref m_outs, .ref m_text, .int 0, .int 0, .int 0, .int 0, .int 0, .int 0, .int 0, .ref m_rows, .ref m_digits, .ref m_entries, .ref m_minors, .int 0, .int 0, .int 0, .int 0, .int 0, .int 0, .ref m_pointX, .ref m_pointH, .ref m_pointY, .ref m_those, .int 0, .int 0, .int 0, .int 0, .int 0, .ref m_does, .ref m_atomOf, .ref m_atomRel, .int 0, .int 0, .int 0, .ref m_signs, .ref m_stack, .ref m_xPoly, .ref m_xRoot, .int 0, .ref m_inBoth, .int 0, .ref m_truth, .int 0, .ref m_hasEnd, .ref m_belongs, .ref m_isSingle, .ref m_endPoly, .ref m_endRoot, .int 0, .ref m_small, .ref m_smallDegree, .int 0, .ref m_irreducible, .int 0, .ref m_stackOf, .int 0, .ref m_factorAt, .ref m_factorPower, .ref m_isKept, .ref m_keptPoly, .ref m_keptRoot, .int 0, .int 0, .int 0, .int 0, .int 0, .int 0]))] s.heap := hP
  have hl := lv_entry ([.ref h0, .int a1]) (n := 2) (Nat.le_of_ble_eq_true rfl)
  rw [lg_entry_eq]
  generalize (lg_sl ([.ref h0, .int a1]) ++ List.replicate (2 - (lg_sl ([.ref h0, .int a1])).length) Slot.unset).toArray = ls at hl ⊢
  have hl : lv_has ls 2 [(0, .ref h0), (1, .int a1)] := hl
  refine lv_iload_n hx hb d_Model_out_0 rfl (lv_at hl 1 rfl) ?_
  refine lv_iconst (v := (-1)) hx hb d_Model_out_1 (by decide) ?_
  refine lv_icmp_ne (tgt := 12) hx hb d_Model_out_2 (by decide) (fun c_1 => ?_) (fun c_1 => ?_)
  · refine lv_iload_n hx hb d_Model_out_12 rfl (lv_at hl 1 rfl) ?_
    refine lv_if_lt (tgt := 33) hx hb d_Model_out_13 (by decide) (fun c_2 => ?_) (fun c_2 => ?_)
    · refine lv_iconst (v := (-1)) hx hb d_Model_out_33 (by decide) ?_
      have hP9 := hP.sub (ws' := []) [] rfl
      have hD9 := hD.sub (ws' := []) [] (by decide) rfl
      have hK9 := hK.sub (tys' := []) [] rfl
      exact W.iret (v := (-1)) hx hb hr (fun t ht hW => ⟨⟨(-1), (), rfl, (if_neg c_1).symm, by rw [ht]; exact hP9, va_K.moved hW.alike hK9, hD9⟩, hS.F ht⟩) hS.2.2 d_Model_out_34
    · refine lv_iload_n hx hb d_Model_out_16 rfl (lv_at hl 1 rfl) ?_
      refine lv_aload_n hx hb d_Model_out_17 rfl (lv_at hl 0 rfl) ?_
      refine va_get (D := (dC, dI)) (ci := 12) (v := .int 0) (C := R_Model) (T := F_Model) (N := 86) hx hb hT i_Model hown hK hP 0 rfl rfl 22 (by decide) (hT _ tw_1625) (fun _ h9 => h9) rfl d_Model_out_18 ?_
      refine lv_icmp_ge (tgt := 33) hx hb d_Model_out_21 (by decide) (fun c_3 => ?_) (fun c_3 => absurd (Int32.not_lt.mp c_2) c_3)
      refine lv_iconst (v := (-1)) hx hb d_Model_out_33 (by decide) ?_
      have hP9 := hP.sub (ws' := []) [] rfl
      have hD9 := hD.sub (ws' := []) [] (by decide) rfl
      have hK9 := hK.sub (tys' := []) [] rfl
      exact W.iret (v := (-1)) hx hb hr (fun t ht hW => ⟨⟨(-1), (), rfl, (if_neg c_1).symm, by rw [ht]; exact hP9, va_K.moved hW.alike hK9, hD9⟩, hS.F ht⟩) hS.2.2 d_Model_out_34
  · refine lv_aload_n hx hb d_Model_out_5 rfl (lv_at hl 0 rfl) ?_
    refine va_get (D := (dC, dI)) (ci := 12) (v := .int 0) (C := R_Model) (T := F_Model) (N := 86) hx hb hT i_Model hown hK hP 0 rfl rfl 22 (by decide) (hT _ tw_1625) (fun _ h9 => h9) rfl d_Model_out_6 ?_
    refine lv_goto (tgt := 34) hx hb d_Model_out_9 (by decide) ?_
    have hP9 := hP.sub (ws' := []) [] rfl
    have hD9 := hD.sub (ws' := []) [] (by decide) rfl
    have hK9 := hK.sub (tys' := []) [] rfl
    exact W.iret (v := 0) hx hb hr (fun t ht hW => ⟨⟨0, (), rfl, (if_pos c_1).symm, by rw [ht]; exact hP9, va_K.moved hW.alike hK9, hD9⟩, hS.F ht⟩) hS.2.2 d_Model_out_34

set_option maxHeartbeats 4000000 in
set_option maxRecDepth 100000 in
/-- roots of a fresh reference -/
theorem c_Model_roots_0 (l : Launch) (dC : Nat → ClassId) (dI : Nat → Nat → Nat) (sz : Nat) (h0 : Nat) (m_mem : Nat) (m_polys : Nat) (m_chains : Nat) (m_pairs : Nat) (m_zeros : Nat) (m_tape : Nat) (m_outs : Nat) (m_text : Nat) (m_rows : Nat) (m_digits : Nat) (m_entries : Nat) (m_minors : Nat) (m_pointX : Nat) (m_pointH : Nat) (m_pointY : Nat) (m_those : Nat) (m_does : Nat) (m_atomOf : Nat) (m_atomRel : Nat) (m_signs : Nat) (m_stack : Nat) (m_xPoly : Nat) (m_xRoot : Nat) (m_inBoth : Nat) (m_truth : Nat) (m_hasEnd : Nat) (m_belongs : Nat) (m_isSingle : Nat) (m_endPoly : Nat) (m_endRoot : Nat) (m_small : Nat) (m_smallDegree : Nat) (m_irreducible : Nat) (m_stackOf : Nat) (m_factorAt : Nat) (m_factorPower : Nat) (m_isKept : Nat) (m_keptPoly : Nat) (m_keptRoot : Nat) (cR : ClassId) (fR : Nat → Int64) (n : Int32)  : Met l y_Model_roots w_Model_roots ({ frames := 5, cells := 0, slots := 0, locals := 113 }) (va_Pc [.ref h0, .int n] (fun U => U.heap.size = sz ∧ va_P (dC, dI) classes [(h0, .inr (12, [.ref m_mem, .int 232000, .int 0, .int 0, .int 0, .int 0, .int 0, .int 0, .int 0, .int 0, .int 0, .ref m_polys, .ref m_chains, .ref m_pairs, .int 0, .int 0, .int 0, .ref m_zeros, .ref m_tape, .ref m_outs, .ref m_text, .int 0, .int 0, .int 0, .int 0, .int 0, .int 0, .int 0, .ref m_rows, .ref m_digits, .ref m_entries, .ref m_minors, .int 0, .int 0, .int 0, .int 0, .int 0, .int 0, .ref m_pointX, .ref m_pointH, .ref m_pointY, .ref m_those, .int 0, .int 0, .int 0, .int 0, .int 0, .ref m_does, .ref m_atomOf, .ref m_atomRel, .int 0, .int 0, .int 0, .ref m_signs, .ref m_stack, .ref m_xPoly, .ref m_xRoot, .int 0, .ref m_inBoth, .int 0, .ref m_truth, .int 0, .ref m_hasEnd, .ref m_belongs, .ref m_isSingle, .ref m_endPoly, .ref m_endRoot, .int 0, .ref m_small, .ref m_smallDegree, .int 0, .ref m_irreducible, .int 0, .ref m_stackOf, .int 0, .ref m_factorAt, .ref m_factorPower, .ref m_isKept, .ref m_keptPoly, .ref m_keptRoot, .int 0, .int 0, .int 0, .int 0, .int 0, .int 0])), (m_rows, .inl (cR, 3468, .inr (.inl fR)))] U.heap ∧ va_K (dC, dI) classes [(cR, .long)] U ∧ va_D (fun _ => True) [(h0, .inr (12, [.ref m_mem, .int 232000, .int 0, .int 0, .int 0, .int 0, .int 0, .int 0, .int 0, .int 0, .int 0, .ref m_polys, .ref m_chains, .ref m_pairs, .int 0, .int 0, .int 0, .ref m_zeros, .ref m_tape, .ref m_outs, .ref m_text, .int 0, .int 0, .int 0, .int 0, .int 0, .int 0, .int 0, .ref m_rows, .ref m_digits, .ref m_entries, .ref m_minors, .int 0, .int 0, .int 0, .int 0, .int 0, .int 0, .ref m_pointX, .ref m_pointH, .ref m_pointY, .ref m_those, .int 0, .int 0, .int 0, .int 0, .int 0, .ref m_does, .ref m_atomOf, .ref m_atomRel, .int 0, .int 0, .int 0, .ref m_signs, .ref m_stack, .ref m_xPoly, .ref m_xRoot, .int 0, .ref m_inBoth, .int 0, .ref m_truth, .int 0, .ref m_hasEnd, .ref m_belongs, .ref m_isSingle, .ref m_endPoly, .ref m_endRoot, .int 0, .ref m_small, .ref m_smallDegree, .int 0, .ref m_irreducible, .int 0, .ref m_stackOf, .int 0, .ref m_factorAt, .ref m_factorPower, .ref m_isKept, .ref m_keptPoly, .ref m_keptRoot, .int 0, .int 0, .int 0, .int 0, .int 0, .int 0])), (m_rows, .inl (cR, 3468, .inr (.inl fR)))] ∧ nx_K U)) (va_Qi (fun (r : Int32) (_ : Unit) => r = if n = 0 then (-2) else (-1)) (fun _ t => va_P (dC, dI) classes [] t.heap ∧ va_K (dC, dI) classes [] t ∧ va_D (va_A [(h0, .inr (12, [.ref m_mem, .int 232000, .int 0, .int 0, .int 0, .int 0, .int 0, .int 0, .int 0, .int 0, .int 0, .ref m_polys, .ref m_chains, .ref m_pairs, .int 0, .int 0, .int 0, .ref m_zeros, .ref m_tape, .ref m_outs, .ref m_text, .int 0, .int 0, .int 0, .int 0, .int 0, .int 0, .int 0, .ref m_rows, .ref m_digits, .ref m_entries, .ref m_minors, .int 0, .int 0, .int 0, .int 0, .int 0, .int 0, .ref m_pointX, .ref m_pointH, .ref m_pointY, .ref m_those, .int 0, .int 0, .int 0, .int 0, .int 0, .ref m_does, .ref m_atomOf, .ref m_atomRel, .int 0, .int 0, .int 0, .ref m_signs, .ref m_stack, .ref m_xPoly, .ref m_xRoot, .int 0, .ref m_inBoth, .int 0, .ref m_truth, .int 0, .ref m_hasEnd, .ref m_belongs, .ref m_isSingle, .ref m_endPoly, .ref m_endRoot, .int 0, .ref m_small, .ref m_smallDegree, .int 0, .ref m_irreducible, .int 0, .ref m_stackOf, .int 0, .ref m_factorAt, .ref m_factorPower, .ref m_isKept, .ref m_keptPoly, .ref m_keptRoot, .int 0, .int 0, .int 0, .int 0, .int 0, .int 0])), (m_rows, .inl (cR, 3468, .inr (.inl fR)))] sz) []) (va_A [(h0, .inr (12, [.ref m_mem, .int 232000, .int 0, .int 0, .int 0, .int 0, .int 0, .int 0, .int 0, .int 0, .int 0, .ref m_polys, .ref m_chains, .ref m_pairs, .int 0, .int 0, .int 0, .ref m_zeros, .ref m_tape, .ref m_outs, .ref m_text, .int 0, .int 0, .int 0, .int 0, .int 0, .int 0, .int 0, .ref m_rows, .ref m_digits, .ref m_entries, .ref m_minors, .int 0, .int 0, .int 0, .int 0, .int 0, .int 0, .ref m_pointX, .ref m_pointH, .ref m_pointY, .ref m_those, .int 0, .int 0, .int 0, .int 0, .int 0, .ref m_does, .ref m_atomOf, .ref m_atomRel, .int 0, .int 0, .int 0, .ref m_signs, .ref m_stack, .ref m_xPoly, .ref m_xRoot, .int 0, .ref m_inBoth, .int 0, .ref m_truth, .int 0, .ref m_hasEnd, .ref m_belongs, .ref m_isSingle, .ref m_endPoly, .ref m_endRoot, .int 0, .ref m_small, .ref m_smallDegree, .int 0, .ref m_irreducible, .int 0, .ref m_stackOf, .int 0, .ref m_factorAt, .ref m_factorPower, .ref m_isKept, .ref m_keptPoly, .ref m_keptRoot, .int 0, .int 0, .int 0, .int 0, .int 0, .int 0])), (m_rows, .inl (cR, 3468, .inr (.inl fR)))] sz)) 0 0 (va_A [(h0, .inr (12, [.ref m_mem, .int 232000, .int 0, .int 0, .int 0, .int 0, .int 0, .int 0, .int 0, .int 0, .int 0, .ref m_polys, .ref m_chains, .ref m_pairs, .int 0, .int 0, .int 0, .ref m_zeros, .ref m_tape, .ref m_outs, .ref m_text, .int 0, .int 0, .int 0, .int 0, .int 0, .int 0, .int 0, .ref m_rows, .ref m_digits, .ref m_entries, .ref m_minors, .int 0, .int 0, .int 0, .int 0, .int 0, .int 0, .ref m_pointX, .ref m_pointH, .ref m_pointY, .ref m_those, .int 0, .int 0, .int 0, .int 0, .int 0, .ref m_does, .ref m_atomOf, .ref m_atomRel, .int 0, .int 0, .int 0, .ref m_signs, .ref m_stack, .ref m_xPoly, .ref m_xRoot, .int 0, .ref m_inBoth, .int 0, .ref m_truth, .int 0, .ref m_hasEnd, .ref m_belongs, .ref m_isSingle, .ref m_endPoly, .ref m_endRoot, .int 0, .ref m_small, .ref m_smallDegree, .int 0, .ref m_irreducible, .int 0, .ref m_stackOf, .int 0, .ref m_factorAt, .ref m_factorPower, .ref m_isKept, .ref m_keptPoly, .ref m_keptRoot, .int 0, .int 0, .int 0, .int 0, .int 0, .int 0])), (m_rows, .inl (cR, 3468, .inr (.inl fR)))] sz) := by
  refine Met.ofW (cc := b_Model_roots) (maxL := 6) (ret := (some .int)) (by decide) rfl ?_
  intro p e s m args below meth c s₁ B hml hv
  obtain ⟨rfl, hsz, hP, hK, hD0, hN⟩ := hv
  have hx := B.exec
  have hb := B.bytes
  have hr := B.returns
  have hT : ∀ w ∈ lw_g, w.before _ s = true := fun w h => atoms_spec (ws := w_Model_roots) B.pre w (List.mem_cons_of_mem _ h)
  have hown : s.vm.findClass R_Model = some m.cls := findClass_of_methodNamed B.named
  have hlocks := B.notSynchronized
  subst hsz
  have hD := hD0.self (sz := s.heap.size)
  generalize hAe : va_A [(h0, .inr (12, [.ref m_mem, .int 232000, .int 0, .int 0, .int 0, .int 0, .int 0, .int 0, .int 0, .int 0, .int 0, .ref m_polys, .ref m_chains, .ref m_pairs, .int 0, .int 0, .int 0, .ref m_zeros, .ref m_tape, .ref m_outs, .ref m_text, .int 0, .int 0, .int 0, .int 0, .int 0, .int 0, .int 0, .ref m_rows, .ref m_digits, .ref m_entries, .ref m_minors, .int 0, .int 0, .int 0, .int 0, .int 0, .int 0, .ref m_pointX, .ref m_pointH, .ref m_pointY, .ref m_those, .int 0, .int 0, .int 0, .int 0, .int 0, .ref m_does, .ref m_atomOf, .ref m_atomRel, .int 0, .int 0, .int 0, .ref m_signs, .ref m_stack, .ref m_xPoly, .ref m_xRoot, .int 0, .ref m_inBoth, .int 0, .ref m_truth, .int 0, .ref m_hasEnd, .ref m_belongs, .ref m_isSingle, .ref m_endPoly, .ref m_endRoot, .int 0, .ref m_small, .ref m_smallDegree, .int 0, .ref m_irreducible, .int 0, .ref m_stackOf, .int 0, .ref m_factorAt, .ref m_factorPower, .ref m_isKept, .ref m_keptPoly, .ref m_keptRoot, .int 0, .int 0, .int 0, .int 0, .int 0, .int 0])), (m_rows, .inl (cR, 3468, .inr (.inl fR)))] s.heap.size = A at hD ⊢
  have hA : ∀ q : Nat, s.heap.size ≤ q → A q := fun q h => by rw [← hAe]; exact Or.inr h
  have hS : va_S A s.heap s.heap [] := va_S.rf
  have hP : va_P (dC, dI) classes [(h0, .inr (12, [.ref m_mem, .int 232000, .int 0, .int 0, .int 0, .int 0, .int 0, .int 0, .int 0, .int 0, .int 0, .ref m_polys, .ref m_chains, .ref m_pairs, .int 0, .int 0, .int 0, .ref m_zeros, .ref m_tape, .ref m_outs, .ref m_text, .int 0, .int 0, .int 0, .int 0, .int 0, .int 0, .int 0, .ref m_rows, .ref m_digits, .ref m_entries, .ref m_minors, .int 0, .int 0, .int 0, .int 0, .int 0, .int 0, .ref m_pointX, .ref m_pointH, .ref m_pointY, .ref m_those, .int 0, .int 0, .int 0, .int 0, .int 0, .ref m_does, .ref m_atomOf, .ref m_atomRel, .int 0, .int 0, .int 0, .ref m_signs, .ref m_stack, .ref m_xPoly, .ref m_xRoot, .int 0, .ref m_inBoth, .int 0, .ref m_truth, .int 0, .ref m_hasEnd, .ref m_belongs, .ref m_isSingle, .ref m_endPoly, .ref m_endRoot, .int 0, .ref m_small, .ref m_smallDegree, .int 0, .ref m_irreducible, .int 0, .ref m_stackOf, .int 0, .ref m_factorAt, .ref m_factorPower, .ref m_isKept, .ref m_keptPoly, .ref m_keptRoot, .int 0, .int 0, .int 0, .int 0, .int 0, .int 0])), (m_rows, .inl (cR, 3468, .inr (.inl fR)))] s.heap := hP
  have hl := lv_entry ([.ref h0, .int n]) (n := 6) (Nat.le_of_ble_eq_true rfl)
  rw [lg_entry_eq]
  generalize (lg_sl ([.ref h0, .int n]) ++ List.replicate (6 - (lg_sl ([.ref h0, .int n])).length) Slot.unset).toArray = ls at hl ⊢
  have hl : lv_has ls 6 [(0, .ref h0), (1, .int n)] := hl
  rcases Decidable.em (n = 0) with hn0 | hn0
  · subst hn0
    refine lv_aload_n hx hb d_Model_roots_0 rfl (lv_at hl 0 rfl) ?_
    refine lv_iload_n hx hb d_Model_roots_1 rfl (lv_at hl 1 rfl) ?_
    have hPc := hP.sub (ws' := [(h0, .inr (12, [.ref m_mem, .int 232000, .int 0, .int 0, .int 0, .int 0, .int 0, .int 0, .int 0, .int 0, .int 0, .ref m_polys, .ref m_chains, .ref m_pairs, .int 0, .int 0, .int 0, .ref m_zeros, .ref m_tape, .ref m_outs, .ref m_text, .int 0, .int 0, .int 0, .int 0, .int 0, .int 0, .int 0, .ref m_rows, .ref m_digits, .ref m_entries, .ref m_minors, .int 0, .int 0, .int 0, .int 0, .int 0, .int 0, .ref m_pointX, .ref m_pointH, .ref m_pointY, .ref m_those, .int 0, .int 0, .int 0, .int 0, .int 0, .ref m_does, .ref m_atomOf, .ref m_atomRel, .int 0, .int 0, .int 0, .ref m_signs, .ref m_stack, .ref m_xPoly, .ref m_xRoot, .int 0, .ref m_inBoth, .int 0, .ref m_truth, .int 0, .ref m_hasEnd, .ref m_belongs, .ref m_isSingle, .ref m_endPoly, .ref m_endRoot, .int 0, .ref m_small, .ref m_smallDegree, .int 0, .ref m_irreducible, .int 0, .ref m_stackOf, .int 0, .ref m_factorAt, .ref m_factorPower, .ref m_isKept, .ref m_keptPoly, .ref m_keptRoot, .int 0, .int 0, .int 0, .int 0, .int 0, .int 0]))]) [0] rfl
    have hDc := hD.sub (ws' := [(h0, .inr (12, [.ref m_mem, .int 232000, .int 0, .int 0, .int 0, .int 0, .int 0, .int 0, .int 0, .int 0, .int 0, .ref m_polys, .ref m_chains, .ref m_pairs, .int 0, .int 0, .int 0, .ref m_zeros, .ref m_tape, .ref m_outs, .ref m_text, .int 0, .int 0, .int 0, .int 0, .int 0, .int 0, .int 0, .ref m_rows, .ref m_digits, .ref m_entries, .ref m_minors, .int 0, .int 0, .int 0, .int 0, .int 0, .int 0, .ref m_pointX, .ref m_pointH, .ref m_pointY, .ref m_those, .int 0, .int 0, .int 0, .int 0, .int 0, .ref m_does, .ref m_atomOf, .ref m_atomRel, .int 0, .int 0, .int 0, .ref m_signs, .ref m_stack, .ref m_xPoly, .ref m_xRoot, .int 0, .ref m_inBoth, .int 0, .ref m_truth, .int 0, .ref m_hasEnd, .ref m_belongs, .ref m_isSingle, .ref m_endPoly, .ref m_endRoot, .int 0, .ref m_small, .ref m_smallDegree, .int 0, .ref m_irreducible, .int 0, .ref m_stackOf, .int 0, .ref m_factorAt, .ref m_factorPower, .ref m_isKept, .ref m_keptPoly, .ref m_keptRoot, .int 0, .int 0, .int 0, .int 0, .int 0, .int 0]))]) [0] (by decide) rfl
    have hKc := hK.sub (tys' := []) [] rfl
    have hFc := va_free (wc := [(h0, .inr (12, [.ref m_mem, .int 232000, .int 0, .int 0, .int 0, .int 0, .int 0, .int 0, .int 0, .int 0, .int 0, .ref m_polys, .ref m_chains, .ref m_pairs, .int 0, .int 0, .int 0, .ref m_zeros, .ref m_tape, .ref m_outs, .ref m_text, .int 0, .int 0, .int 0, .int 0, .int 0, .int 0, .int 0, .ref m_rows, .ref m_digits, .ref m_entries, .ref m_minors, .int 0, .int 0, .int 0, .int 0, .int 0, .int 0, .ref m_pointX, .ref m_pointH, .ref m_pointY, .ref m_those, .int 0, .int 0, .int 0, .int 0, .int 0, .ref m_does, .ref m_atomOf, .ref m_atomRel, .int 0, .int 0, .int 0, .ref m_signs, .ref m_stack, .ref m_xPoly, .ref m_xRoot, .int 0, .ref m_inBoth, .int 0, .ref m_truth, .int 0, .ref m_hasEnd, .ref m_belongs, .ref m_isSingle, .ref m_endPoly, .ref m_endRoot, .int 0, .ref m_small, .ref m_smallDegree, .int 0, .ref m_irreducible, .int 0, .ref m_stackOf, .int 0, .ref m_factorAt, .ref m_factorPower, .ref m_isKept, .ref m_keptPoly, .ref m_keptRoot, .int 0, .int 0, .int 0, .int 0, .int 0, .int 0]))]) hD hS hA [0] rfl
    refine va_calli (va_runV (As := [.int 0]) (rest := []) ⟨hx, hb, hml, hown, hT⟩ (c_Model_mayRead_z l dC dI s.heap.size h0 m_mem m_polys m_chains m_pairs m_zeros m_tape m_outs m_text m_rows m_digits m_entries m_minors m_pointX m_pointH m_pointY m_those m_does m_atomOf m_atomRel m_signs m_stack m_xPoly m_xRoot m_inBoth m_truth m_hasEnd m_belongs m_isSingle m_endPoly m_endRoot m_small m_smallDegree m_irreducible m_stackOf m_factorAt m_factorPower m_isKept m_keptPoly m_keptRoot 0 0 ) (cwV 1 hT (tb_goodV g_Model_mayRead tw_1875 tw_1877 (tb_sel (q := (⟨"RealHouseModel", "mayRead", "(I)Z"⟩, 86)) (i := 66) (by decide +kernel)) tw_15) rfl rfl rfl (by decide +kernel) ⟨Nat.le_of_ble_eq_true rfl, Nat.le_of_ble_eq_true rfl⟩) ⟨fun a U g mk q => by obtain ⟨q0, q1, qP, qK, qD, qN⟩ := q; exact ⟨q0, q1, qP, va_K.moved (u := U) (U := U.calling g mk a) (Vm.Alike.refl U.vm) qK, qD, nx_K.same (u := U) (U := U.calling g mk a) rfl qN⟩, va_recv hKc hPc (ci := 12) (q0 := 0) rfl rfl, fun U hU hW => ⟨rfl, by rw [hU], by rw [hU]; exact hPc, va_K.moved hW.alike hKc, hDc.weaken (fun _ _ _ _ => trivial), nx_K.warm hW hN⟩⟩ rfl rfl hl.1 rfl (lv_room (Nat.le_of_ble_eq_true rfl)) d_Model_roots_2 ⟨Nat.le_of_ble_eq_true rfl, Nat.le_of_ble_eq_true rfl⟩) hS (fun q _ h => hFc q h) hFc (fun r_1 u t H1 locs ht hvm hw hB hz1 hk1 hS => ?_)
    obtain ⟨hP1, hK1, hD1⟩ := hB
    rw [ht] at hP1
    have hK1 := va_K.moved hvm.symm hK1
    obtain rfl : r_1 = 1 := hw
    obtain ⟨hP, hD⟩ := va_join (wr := [(m_rows, .inl (cR, 3468, .inr (.inl fR)))]) (w1 := [(h0, .inr (12, [.ref m_mem, .int 232000, .int 0, .int 0, .int 0, .int 0, .int 0, .int 0, .int 0, .int 0, .int 0, .ref m_polys, .ref m_chains, .ref m_pairs, .int 0, .int 0, .int 0, .ref m_zeros, .ref m_tape, .ref m_outs, .ref m_text, .int 0, .int 0, .int 0, .int 0, .int (-1), .int 0, .int 0, .ref m_rows, .ref m_digits, .ref m_entries, .ref m_minors, .int 0, .int 0, .int 0, .int 0, .int 0, .int 0, .ref m_pointX, .ref m_pointH, .ref m_pointY, .ref m_those, .int 0, .int 0, .int 0, .int 0, .int 0, .ref m_does, .ref m_atomOf, .ref m_atomRel, .int 0, .int 0, .int 0, .ref m_signs, .ref m_stack, .ref m_xPoly, .ref m_xRoot, .int 0, .ref m_inBoth, .int 0, .ref m_truth, .int 0, .ref m_hasEnd, .ref m_belongs, .ref m_isSingle, .ref m_endPoly, .ref m_endRoot, .int 0, .ref m_small, .ref m_smallDegree, .int 0, .ref m_irreducible, .int 0, .ref m_stackOf, .int 0, .ref m_factorAt, .ref m_factorPower, .ref m_isKept, .ref m_keptPoly, .ref m_keptRoot, .int 0, .int 0, .int 0, .int 0, .int 0, .int 0]))]) hP hD [0] [1] rfl rfl (by decide) (by decide) hk1 hFc hP1 hD1
    have hK := (hK.sub (tys' := [(cR, .long)]) [0] rfl).app hK1
    generalize H1 = H at hP hS ⊢
    have hP : va_P (dC, dI) classes [(m_rows, .inl (cR, 3468, .inr (.inl fR))), (h0, .inr (12, [.ref m_mem, .int 232000, .int 0, .int 0, .int 0, .int 0, .int 0, .int 0, .int 0, .int 0, .int 0, .ref m_polys, .ref m_chains, .ref m_pairs, .int 0, .int 0, .int 0, .ref m_zeros, .ref m_tape, .ref m_outs, .ref m_text, .int 0, .int 0, .int 0, .int 0, .int (-1), .int 0, .int 0, .ref m_rows, .ref m_digits, .ref m_entries, .ref m_minors, .int 0, .int 0, .int 0, .int 0, .int 0, .int 0, .ref m_pointX, .ref m_pointH, .ref m_pointY, .ref m_those, .int 0, .int 0, .int 0, .int 0, .int 0, .ref m_does, .ref m_atomOf, .ref m_atomRel, .int 0, .int 0, .int 0, .ref m_signs, .ref m_stack, .ref m_xPoly, .ref m_xRoot, .int 0, .ref m_inBoth, .int 0, .ref m_truth, .int 0, .ref m_hasEnd, .ref m_belongs, .ref m_isSingle, .ref m_endPoly, .ref m_endRoot, .int 0, .ref m_small, .ref m_smallDegree, .int 0, .ref m_irreducible, .int 0, .ref m_stackOf, .int 0, .ref m_factorAt, .ref m_factorPower, .ref m_isKept, .ref m_keptPoly, .ref m_keptRoot, .int 0, .int 0, .int 0, .int 0, .int 0, .int 0]))] H := hP
    have hD : va_D A [(m_rows, .inl (cR, 3468, .inr (.inl fR))), (h0, .inr (12, [.ref m_mem, .int 232000, .int 0, .int 0, .int 0, .int 0, .int 0, .int 0, .int 0, .int 0, .int 0, .ref m_polys, .ref m_chains, .ref m_pairs, .int 0, .int 0, .int 0, .ref m_zeros, .ref m_tape, .ref m_outs, .ref m_text, .int 0, .int 0, .int 0, .int 0, .int (-1), .int 0, .int 0, .ref m_rows, .ref m_digits, .ref m_entries, .ref m_minors, .int 0, .int 0, .int 0, .int 0, .int 0, .int 0, .ref m_pointX, .ref m_pointH, .ref m_pointY, .ref m_those, .int 0, .int 0, .int 0, .int 0, .int 0, .ref m_does, .ref m_atomOf, .ref m_atomRel, .int 0, .int 0, .int 0, .ref m_signs, .ref m_stack, .ref m_xPoly, .ref m_xRoot, .int 0, .ref m_inBoth, .int 0, .ref m_truth, .int 0, .ref m_hasEnd, .ref m_belongs, .ref m_isSingle, .ref m_endPoly, .ref m_endRoot, .int 0, .ref m_small, .ref m_smallDegree, .int 0, .ref m_irreducible, .int 0, .ref m_stackOf, .int 0, .ref m_factorAt, .ref m_factorPower, .ref m_isKept, .ref m_keptPoly, .ref m_keptRoot, .int 0, .int 0, .int 0, .int 0, .int 0, .int 0]))] := hD
    have hK : va_K (dC, dI) classes [(cR, .long)] s := hK
    refine lv_if_ne (tgt := 10) hx hb d_Model_roots_5 (by decide) (fun c_2 => ?_) (fun c_2 => absurd c_2 (by decide))
    refine lv_aload_n hx hb d_Model_roots_10 rfl (lv_at hl 0 rfl) ?_
    refine lv_iload_n hx hb d_Model_roots_11 rfl (lv_at hl 1 rfl) ?_
    have hPc := hP.sub (ws' := [(h0, .inr (12, [.ref m_mem, .int 232000, .int 0, .int 0, .int 0, .int 0, .int 0, .int 0, .int 0, .int 0, .int 0, .ref m_polys, .ref m_chains, .ref m_pairs, .int 0, .int 0, .int 0, .ref m_zeros, .ref m_tape, .ref m_outs, .ref m_text, .int 0, .int 0, .int 0, .int 0, .int (-1), .int 0, .int 0, .ref m_rows, .ref m_digits, .ref m_entries, .ref m_minors, .int 0, .int 0, .int 0, .int 0, .int 0, .int 0, .ref m_pointX, .ref m_pointH, .ref m_pointY, .ref m_those, .int 0, .int 0, .int 0, .int 0, .int 0, .ref m_does, .ref m_atomOf, .ref m_atomRel, .int 0, .int 0, .int 0, .ref m_signs, .ref m_stack, .ref m_xPoly, .ref m_xRoot, .int 0, .ref m_inBoth, .int 0, .ref m_truth, .int 0, .ref m_hasEnd, .ref m_belongs, .ref m_isSingle, .ref m_endPoly, .ref m_endRoot, .int 0, .ref m_small, .ref m_smallDegree, .int 0, .ref m_irreducible, .int 0, .ref m_stackOf, .int 0, .ref m_factorAt, .ref m_factorPower, .ref m_isKept, .ref m_keptPoly, .ref m_keptRoot, .int 0, .int 0, .int 0, .int 0, .int 0, .int 0])), (m_rows, .inl (cR, 3468, .inr (.inl fR)))]) [1, 0] rfl
    have hDc := hD.sub (ws' := [(h0, .inr (12, [.ref m_mem, .int 232000, .int 0, .int 0, .int 0, .int 0, .int 0, .int 0, .int 0, .int 0, .int 0, .ref m_polys, .ref m_chains, .ref m_pairs, .int 0, .int 0, .int 0, .ref m_zeros, .ref m_tape, .ref m_outs, .ref m_text, .int 0, .int 0, .int 0, .int 0, .int (-1), .int 0, .int 0, .ref m_rows, .ref m_digits, .ref m_entries, .ref m_minors, .int 0, .int 0, .int 0, .int 0, .int 0, .int 0, .ref m_pointX, .ref m_pointH, .ref m_pointY, .ref m_those, .int 0, .int 0, .int 0, .int 0, .int 0, .ref m_does, .ref m_atomOf, .ref m_atomRel, .int 0, .int 0, .int 0, .ref m_signs, .ref m_stack, .ref m_xPoly, .ref m_xRoot, .int 0, .ref m_inBoth, .int 0, .ref m_truth, .int 0, .ref m_hasEnd, .ref m_belongs, .ref m_isSingle, .ref m_endPoly, .ref m_endRoot, .int 0, .ref m_small, .ref m_smallDegree, .int 0, .ref m_irreducible, .int 0, .ref m_stackOf, .int 0, .ref m_factorAt, .ref m_factorPower, .ref m_isKept, .ref m_keptPoly, .ref m_keptRoot, .int 0, .int 0, .int 0, .int 0, .int 0, .int 0])), (m_rows, .inl (cR, 3468, .inr (.inl fR)))]) [1, 0] (by decide) rfl
    have hKc := hK.sub (tys' := [(cR, .long)]) [0] rfl
    have hFc := va_free (wc := [(h0, .inr (12, [.ref m_mem, .int 232000, .int 0, .int 0, .int 0, .int 0, .int 0, .int 0, .int 0, .int 0, .int 0, .ref m_polys, .ref m_chains, .ref m_pairs, .int 0, .int 0, .int 0, .ref m_zeros, .ref m_tape, .ref m_outs, .ref m_text, .int 0, .int 0, .int 0, .int 0, .int (-1), .int 0, .int 0, .ref m_rows, .ref m_digits, .ref m_entries, .ref m_minors, .int 0, .int 0, .int 0, .int 0, .int 0, .int 0, .ref m_pointX, .ref m_pointH, .ref m_pointY, .ref m_those, .int 0, .int 0, .int 0, .int 0, .int 0, .ref m_does, .ref m_atomOf, .ref m_atomRel, .int 0, .int 0, .int 0, .ref m_signs, .ref m_stack, .ref m_xPoly, .ref m_xRoot, .int 0, .ref m_inBoth, .int 0, .ref m_truth, .int 0, .ref m_hasEnd, .ref m_belongs, .ref m_isSingle, .ref m_endPoly, .ref m_endRoot, .int 0, .ref m_small, .ref m_smallDegree, .int 0, .ref m_irreducible, .int 0, .ref m_stackOf, .int 0, .ref m_factorAt, .ref m_factorPower, .ref m_isKept, .ref m_keptPoly, .ref m_keptRoot, .int 0, .int 0, .int 0, .int 0, .int 0, .int 0])), (m_rows, .inl (cR, 3468, .inr (.inl fR)))]) hD hS hA [1, 0] rfl
    refine va_calli (va_runV (As := [.int 0]) (rest := []) ⟨hx, hb, hml, hown, hT⟩ (c_Model_readX_0 l dC dI H.size h0 m_mem m_polys m_chains m_pairs m_zeros m_tape m_outs m_text m_rows m_digits m_entries m_minors m_pointX m_pointH m_pointY m_those m_does m_atomOf m_atomRel m_signs m_stack m_xPoly m_xRoot m_inBoth m_truth m_hasEnd m_belongs m_isSingle m_endPoly m_endRoot m_small m_smallDegree m_irreducible m_stackOf m_factorAt m_factorPower m_isKept m_keptPoly m_keptRoot 0 0 cR fR ) (cwV 1 hT (tb_goodV g_Model_readX tw_2149 tw_2151 (tb_sel (q := (⟨"RealHouseModel", "readX", "(I)I"⟩, 86)) (i := 132) (by decide +kernel)) tw_15) rfl rfl rfl (by decide +kernel) ⟨Nat.le_of_ble_eq_true rfl, Nat.le_of_ble_eq_true rfl⟩) ⟨fun a U g mk q => by obtain ⟨q0, q1, qP, qK, qD, qN⟩ := q; exact ⟨q0, q1, qP, va_K.moved (u := U) (U := U.calling g mk a) (Vm.Alike.refl U.vm) qK, qD, nx_K.same (u := U) (U := U.calling g mk a) rfl qN⟩, va_recv hKc hPc (ci := 12) (q0 := 0) rfl rfl, fun U hU hW => ⟨rfl, by rw [hU], by rw [hU]; exact hPc, va_K.moved hW.alike hKc, hDc.weaken (fun _ _ _ _ => trivial), nx_K.warm hW hN⟩⟩ rfl rfl hl.1 rfl (lv_room (Nat.le_of_ble_eq_true rfl)) d_Model_roots_12 ⟨Nat.le_of_ble_eq_true rfl, Nat.le_of_ble_eq_true rfl⟩) hS (fun q _ h => hFc q h) hFc (fun r_3 u t H1 locs ht hvm hw hB hz1 hk1 hS => ?_)
    obtain ⟨hP1, hK1, hD1⟩ := hB
    rw [ht] at hP1
    have hK1 := va_K.moved hvm.symm hK1
    obtain rfl : r_3 = (-2) := hw
    obtain ⟨hP, hD⟩ := va_join (wr := []) (w1 := []) hP hD [1, 0] [] rfl rfl (by decide) (by decide) hk1 hFc hP1 hD1
    have hK := (hK.sub (tys' := [(cR, .long)]) [0] rfl).app hK1
    generalize H1 = H at hP hS ⊢
    have hP : va_P (dC, dI) classes [] H := hP
    have hD : va_D A [] := hD
    have hK : va_K (dC, dI) classes [(cR, .long)] s := hK
    refine lv_istore_n (lv' := [(2, .int (-2)), (0, .ref h0), (1, .int 0)]) hx hb d_Model_roots_15 rfl hl (by decide) rfl (fun ls hl => ?_)
    refine lv_iload_n hx hb d_Model_roots_16 rfl (lv_at hl 0 rfl) ?_
    refine lv_if_ge (tgt := 22) hx hb d_Model_roots_17 (by decide) (fun c_4 => absurd c_4 (by decide)) (fun c_4 => ?_)
    refine lv_iload_n hx hb d_Model_roots_20 rfl (lv_at hl 0 rfl) ?_
    have hP9 := hP.sub (ws' := []) [] rfl
    have hD9 := hD.sub (ws' := []) [] (by decide) rfl
    have hK9 := hK.sub (tys' := []) [] rfl
    exact W.iret (v := (-2)) hx hb hr (fun t ht hW => ⟨⟨(-2), (), rfl, (if_pos rfl).symm, by rw [ht]; exact hP9, va_K.moved hW.alike hK9, hD9⟩, hS.F ht⟩) hS.2.2 d_Model_roots_21
  · have hn0 : ¬ n = 0 := hn0
    refine lv_aload_n hx hb d_Model_roots_0 rfl (lv_at hl 0 rfl) ?_
    refine lv_iload_n hx hb d_Model_roots_1 rfl (lv_at hl 1 rfl) ?_
    have hPc := hP.sub (ws' := [(h0, .inr (12, [.ref m_mem, .int 232000, .int 0, .int 0, .int 0, .int 0, .int 0, .int 0, .int 0, .int 0, .int 0, .ref m_polys, .ref m_chains, .ref m_pairs, .int 0, .int 0, .int 0, .ref m_zeros, .ref m_tape, .ref m_outs, .ref m_text, .int 0, .int 0, .int 0, .int 0, .int 0, .int 0, .int 0, .ref m_rows, .ref m_digits, .ref m_entries, .ref m_minors, .int 0, .int 0, .int 0, .int 0, .int 0, .int 0, .ref m_pointX, .ref m_pointH, .ref m_pointY, .ref m_those, .int 0, .int 0, .int 0, .int 0, .int 0, .ref m_does, .ref m_atomOf, .ref m_atomRel, .int 0, .int 0, .int 0, .ref m_signs, .ref m_stack, .ref m_xPoly, .ref m_xRoot, .int 0, .ref m_inBoth, .int 0, .ref m_truth, .int 0, .ref m_hasEnd, .ref m_belongs, .ref m_isSingle, .ref m_endPoly, .ref m_endRoot, .int 0, .ref m_small, .ref m_smallDegree, .int 0, .ref m_irreducible, .int 0, .ref m_stackOf, .int 0, .ref m_factorAt, .ref m_factorPower, .ref m_isKept, .ref m_keptPoly, .ref m_keptRoot, .int 0, .int 0, .int 0, .int 0, .int 0, .int 0]))]) [0] rfl
    have hDc := hD.sub (ws' := [(h0, .inr (12, [.ref m_mem, .int 232000, .int 0, .int 0, .int 0, .int 0, .int 0, .int 0, .int 0, .int 0, .int 0, .ref m_polys, .ref m_chains, .ref m_pairs, .int 0, .int 0, .int 0, .ref m_zeros, .ref m_tape, .ref m_outs, .ref m_text, .int 0, .int 0, .int 0, .int 0, .int 0, .int 0, .int 0, .ref m_rows, .ref m_digits, .ref m_entries, .ref m_minors, .int 0, .int 0, .int 0, .int 0, .int 0, .int 0, .ref m_pointX, .ref m_pointH, .ref m_pointY, .ref m_those, .int 0, .int 0, .int 0, .int 0, .int 0, .ref m_does, .ref m_atomOf, .ref m_atomRel, .int 0, .int 0, .int 0, .ref m_signs, .ref m_stack, .ref m_xPoly, .ref m_xRoot, .int 0, .ref m_inBoth, .int 0, .ref m_truth, .int 0, .ref m_hasEnd, .ref m_belongs, .ref m_isSingle, .ref m_endPoly, .ref m_endRoot, .int 0, .ref m_small, .ref m_smallDegree, .int 0, .ref m_irreducible, .int 0, .ref m_stackOf, .int 0, .ref m_factorAt, .ref m_factorPower, .ref m_isKept, .ref m_keptPoly, .ref m_keptRoot, .int 0, .int 0, .int 0, .int 0, .int 0, .int 0]))]) [0] (by decide) rfl
    have hKc := hK.sub (tys' := []) [] rfl
    have hFc := va_free (wc := [(h0, .inr (12, [.ref m_mem, .int 232000, .int 0, .int 0, .int 0, .int 0, .int 0, .int 0, .int 0, .int 0, .int 0, .ref m_polys, .ref m_chains, .ref m_pairs, .int 0, .int 0, .int 0, .ref m_zeros, .ref m_tape, .ref m_outs, .ref m_text, .int 0, .int 0, .int 0, .int 0, .int 0, .int 0, .int 0, .ref m_rows, .ref m_digits, .ref m_entries, .ref m_minors, .int 0, .int 0, .int 0, .int 0, .int 0, .int 0, .ref m_pointX, .ref m_pointH, .ref m_pointY, .ref m_those, .int 0, .int 0, .int 0, .int 0, .int 0, .ref m_does, .ref m_atomOf, .ref m_atomRel, .int 0, .int 0, .int 0, .ref m_signs, .ref m_stack, .ref m_xPoly, .ref m_xRoot, .int 0, .ref m_inBoth, .int 0, .ref m_truth, .int 0, .ref m_hasEnd, .ref m_belongs, .ref m_isSingle, .ref m_endPoly, .ref m_endRoot, .int 0, .ref m_small, .ref m_smallDegree, .int 0, .ref m_irreducible, .int 0, .ref m_stackOf, .int 0, .ref m_factorAt, .ref m_factorPower, .ref m_isKept, .ref m_keptPoly, .ref m_keptRoot, .int 0, .int 0, .int 0, .int 0, .int 0, .int 0]))]) hD hS hA [0] rfl
    refine va_calli (va_runV (As := [.int n]) (rest := []) ⟨hx, hb, hml, hown, hT⟩ (c_Model_mayRead_n l dC dI s.heap.size h0 m_mem m_polys m_chains m_pairs m_zeros m_tape m_outs m_text m_rows m_digits m_entries m_minors m_pointX m_pointH m_pointY m_those m_does m_atomOf m_atomRel m_signs m_stack m_xPoly m_xRoot m_inBoth m_truth m_hasEnd m_belongs m_isSingle m_endPoly m_endRoot m_small m_smallDegree m_irreducible m_stackOf m_factorAt m_factorPower m_isKept m_keptPoly m_keptRoot 0 0 n hn0) (cwV 1 hT (tb_goodV g_Model_mayRead tw_1875 tw_1877 (tb_sel (q := (⟨"RealHouseModel", "mayRead", "(I)Z"⟩, 86)) (i := 66) (by decide +kernel)) tw_15) rfl rfl rfl (by decide +kernel) ⟨Nat.le_of_ble_eq_true rfl, Nat.le_of_ble_eq_true rfl⟩) ⟨fun a U g mk q => by obtain ⟨q0, q1, qP, qK, qD, qN⟩ := q; exact ⟨q0, q1, qP, va_K.moved (u := U) (U := U.calling g mk a) (Vm.Alike.refl U.vm) qK, qD, nx_K.same (u := U) (U := U.calling g mk a) rfl qN⟩, va_recv hKc hPc (ci := 12) (q0 := 0) rfl rfl, fun U hU hW => ⟨rfl, by rw [hU], by rw [hU]; exact hPc, va_K.moved hW.alike hKc, hDc.weaken (fun _ _ _ _ => trivial), nx_K.warm hW hN⟩⟩ rfl rfl hl.1 rfl (lv_room (Nat.le_of_ble_eq_true rfl)) d_Model_roots_2 ⟨Nat.le_of_ble_eq_true rfl, Nat.le_of_ble_eq_true rfl⟩) hS (fun q _ h => hFc q h) hFc (fun r_5 u t H1 locs ht hvm hw hB hz1 hk1 hS => ?_)
    obtain ⟨hP1, hK1, hD1⟩ := hB
    rw [ht] at hP1
    have hK1 := va_K.moved hvm.symm hK1
    obtain rfl : r_5 = 0 := hw
    obtain ⟨hP, hD⟩ := va_join (wr := [(m_rows, .inl (cR, 3468, .inr (.inl fR)))]) (w1 := [(h0, .inr (12, [.ref m_mem, .int 232000, .int 0, .int 0, .int 0, .int 0, .int 0, .int 0, .int 0, .int 0, .int 0, .ref m_polys, .ref m_chains, .ref m_pairs, .int 0, .int 0, .int 0, .ref m_zeros, .ref m_tape, .ref m_outs, .ref m_text, .int 0, .int 0, .int 0, .int 0, .int 0, .int 0, .int 0, .ref m_rows, .ref m_digits, .ref m_entries, .ref m_minors, .int 0, .int 0, .int 0, .int 0, .int 0, .int 0, .ref m_pointX, .ref m_pointH, .ref m_pointY, .ref m_those, .int 0, .int 0, .int 0, .int 0, .int 0, .ref m_does, .ref m_atomOf, .ref m_atomRel, .int 0, .int 0, .int 0, .ref m_signs, .ref m_stack, .ref m_xPoly, .ref m_xRoot, .int 0, .ref m_inBoth, .int 0, .ref m_truth, .int 0, .ref m_hasEnd, .ref m_belongs, .ref m_isSingle, .ref m_endPoly, .ref m_endRoot, .int 0, .ref m_small, .ref m_smallDegree, .int 0, .ref m_irreducible, .int 0, .ref m_stackOf, .int 0, .ref m_factorAt, .ref m_factorPower, .ref m_isKept, .ref m_keptPoly, .ref m_keptRoot, .int 0, .int 0, .int 0, .int 0, .int 0, .int 0]))]) hP hD [0] [1] rfl rfl (by decide) (by decide) hk1 hFc hP1 hD1
    have hK := (hK.sub (tys' := [(cR, .long)]) [0] rfl).app hK1
    generalize H1 = H at hP hS ⊢
    have hP : va_P (dC, dI) classes [(m_rows, .inl (cR, 3468, .inr (.inl fR))), (h0, .inr (12, [.ref m_mem, .int 232000, .int 0, .int 0, .int 0, .int 0, .int 0, .int 0, .int 0, .int 0, .int 0, .ref m_polys, .ref m_chains, .ref m_pairs, .int 0, .int 0, .int 0, .ref m_zeros, .ref m_tape, .ref m_outs, .ref m_text, .int 0, .int 0, .int 0, .int 0, .int 0, .int 0, .int 0, .ref m_rows, .ref m_digits, .ref m_entries, .ref m_minors, .int 0, .int 0, .int 0, .int 0, .int 0, .int 0, .ref m_pointX, .ref m_pointH, .ref m_pointY, .ref m_those, .int 0, .int 0, .int 0, .int 0, .int 0, .ref m_does, .ref m_atomOf, .ref m_atomRel, .int 0, .int 0, .int 0, .ref m_signs, .ref m_stack, .ref m_xPoly, .ref m_xRoot, .int 0, .ref m_inBoth, .int 0, .ref m_truth, .int 0, .ref m_hasEnd, .ref m_belongs, .ref m_isSingle, .ref m_endPoly, .ref m_endRoot, .int 0, .ref m_small, .ref m_smallDegree, .int 0, .ref m_irreducible, .int 0, .ref m_stackOf, .int 0, .ref m_factorAt, .ref m_factorPower, .ref m_isKept, .ref m_keptPoly, .ref m_keptRoot, .int 0, .int 0, .int 0, .int 0, .int 0, .int 0]))] H := hP
    have hD : va_D A [(m_rows, .inl (cR, 3468, .inr (.inl fR))), (h0, .inr (12, [.ref m_mem, .int 232000, .int 0, .int 0, .int 0, .int 0, .int 0, .int 0, .int 0, .int 0, .int 0, .ref m_polys, .ref m_chains, .ref m_pairs, .int 0, .int 0, .int 0, .ref m_zeros, .ref m_tape, .ref m_outs, .ref m_text, .int 0, .int 0, .int 0, .int 0, .int 0, .int 0, .int 0, .ref m_rows, .ref m_digits, .ref m_entries, .ref m_minors, .int 0, .int 0, .int 0, .int 0, .int 0, .int 0, .ref m_pointX, .ref m_pointH, .ref m_pointY, .ref m_those, .int 0, .int 0, .int 0, .int 0, .int 0, .ref m_does, .ref m_atomOf, .ref m_atomRel, .int 0, .int 0, .int 0, .ref m_signs, .ref m_stack, .ref m_xPoly, .ref m_xRoot, .int 0, .ref m_inBoth, .int 0, .ref m_truth, .int 0, .ref m_hasEnd, .ref m_belongs, .ref m_isSingle, .ref m_endPoly, .ref m_endRoot, .int 0, .ref m_small, .ref m_smallDegree, .int 0, .ref m_irreducible, .int 0, .ref m_stackOf, .int 0, .ref m_factorAt, .ref m_factorPower, .ref m_isKept, .ref m_keptPoly, .ref m_keptRoot, .int 0, .int 0, .int 0, .int 0, .int 0, .int 0]))] := hD
    have hK : va_K (dC, dI) classes [(cR, .long)] s := hK
    refine lv_if_ne (tgt := 10) hx hb d_Model_roots_5 (by decide) (fun c_6 => absurd (by decide) c_6) (fun c_6 => ?_)
    refine lv_iconst (v := (-1)) hx hb d_Model_roots_8 (by decide) ?_
    have hP9 := hP.sub (ws' := []) [] rfl
    have hD9 := hD.sub (ws' := []) [] (by decide) rfl
    have hK9 := hK.sub (tys' := []) [] rfl
    exact W.iret (v := (-1)) hx hb hr (fun t ht hW => ⟨⟨(-1), (), rfl, (if_neg hn0).symm, by rw [ht]; exact hP9, va_K.moved hW.alike hK9, hD9⟩, hS.F ht⟩) hS.2.2 d_Model_roots_9

set_option maxHeartbeats 4000000 in
set_option maxRecDepth 100000 in
/-- factors of a fresh reference -/
theorem c_Model_factors_0 (l : Launch) (dC : Nat → ClassId) (dI : Nat → Nat → Nat) (sz : Nat) (h0 : Nat) (m_mem : Nat) (m_polys : Nat) (m_chains : Nat) (m_pairs : Nat) (m_zeros : Nat) (m_tape : Nat) (m_outs : Nat) (m_text : Nat) (m_rows : Nat) (m_digits : Nat) (m_entries : Nat) (m_minors : Nat) (m_pointX : Nat) (m_pointH : Nat) (m_pointY : Nat) (m_those : Nat) (m_does : Nat) (m_atomOf : Nat) (m_atomRel : Nat) (m_signs : Nat) (m_stack : Nat) (m_xPoly : Nat) (m_xRoot : Nat) (m_inBoth : Nat) (m_truth : Nat) (m_hasEnd : Nat) (m_belongs : Nat) (m_isSingle : Nat) (m_endPoly : Nat) (m_endRoot : Nat) (m_small : Nat) (m_smallDegree : Nat) (m_irreducible : Nat) (m_stackOf : Nat) (m_factorAt : Nat) (m_factorPower : Nat) (m_isKept : Nat) (m_keptPoly : Nat) (m_keptRoot : Nat) (cR : ClassId) (fR : Nat → Int64) (n : Int32)  : Met l y_Model_factors w_Model_factors ({ frames := 5, cells := 0, slots := 0, locals := 113 }) (va_Pc [.ref h0, .int n] (fun U => U.heap.size = sz ∧ va_P (dC, dI) classes [(h0, .inr (12, [.ref m_mem, .int 232000, .int 0, .int 0, .int 0, .int 0, .int 0, .int 0, .int 0, .int 0, .int 0, .ref m_polys, .ref m_chains, .ref m_pairs, .int 0, .int 0, .int 0, .ref m_zeros, .ref m_tape, .ref m_outs, .ref m_text, .int 0, .int 0, .int 0, .int 0, .int 0, .int 0, .int 0, .ref m_rows, .ref m_digits, .ref m_entries, .ref m_minors, .int 0, .int 0, .int 0, .int 0, .int 0, .int 0, .ref m_pointX, .ref m_pointH, .ref m_pointY, .ref m_those, .int 0, .int 0, .int 0, .int 0, .int 0, .ref m_does, .ref m_atomOf, .ref m_atomRel, .int 0, .int 0, .int 0, .ref m_signs, .ref m_stack, .ref m_xPoly, .ref m_xRoot, .int 0, .ref m_inBoth, .int 0, .ref m_truth, .int 0, .ref m_hasEnd, .ref m_belongs, .ref m_isSingle, .ref m_endPoly, .ref m_endRoot, .int 0, .ref m_small, .ref m_smallDegree, .int 0, .ref m_irreducible, .int 0, .ref m_stackOf, .int 0, .ref m_factorAt, .ref m_factorPower, .ref m_isKept, .ref m_keptPoly, .ref m_keptRoot, .int 0, .int 0, .int 0, .int 0, .int 0, .int 0])), (m_rows, .inl (cR, 3468, .inr (.inl fR)))] U.heap ∧ va_K (dC, dI) classes [(cR, .long)] U ∧ va_D (fun _ => True) [(h0, .inr (12, [.ref m_mem, .int 232000, .int 0, .int 0, .int 0, .int 0, .int 0, .int 0, .int 0, .int 0, .int 0, .ref m_polys, .ref m_chains, .ref m_pairs, .int 0, .int 0, .int 0, .ref m_zeros, .ref m_tape, .ref m_outs, .ref m_text, .int 0, .int 0, .int 0, .int 0, .int 0, .int 0, .int 0, .ref m_rows, .ref m_digits, .ref m_entries, .ref m_minors, .int 0, .int 0, .int 0, .int 0, .int 0, .int 0, .ref m_pointX, .ref m_pointH, .ref m_pointY, .ref m_those, .int 0, .int 0, .int 0, .int 0, .int 0, .ref m_does, .ref m_atomOf, .ref m_atomRel, .int 0, .int 0, .int 0, .ref m_signs, .ref m_stack, .ref m_xPoly, .ref m_xRoot, .int 0, .ref m_inBoth, .int 0, .ref m_truth, .int 0, .ref m_hasEnd, .ref m_belongs, .ref m_isSingle, .ref m_endPoly, .ref m_endRoot, .int 0, .ref m_small, .ref m_smallDegree, .int 0, .ref m_irreducible, .int 0, .ref m_stackOf, .int 0, .ref m_factorAt, .ref m_factorPower, .ref m_isKept, .ref m_keptPoly, .ref m_keptRoot, .int 0, .int 0, .int 0, .int 0, .int 0, .int 0])), (m_rows, .inl (cR, 3468, .inr (.inl fR)))] ∧ nx_K U)) (va_Qi (fun (r : Int32) (_ : Unit) => r = if n = 0 then (-2) else (-1)) (fun _ t => va_P (dC, dI) classes [] t.heap ∧ va_K (dC, dI) classes [] t ∧ va_D (va_A [(h0, .inr (12, [.ref m_mem, .int 232000, .int 0, .int 0, .int 0, .int 0, .int 0, .int 0, .int 0, .int 0, .int 0, .ref m_polys, .ref m_chains, .ref m_pairs, .int 0, .int 0, .int 0, .ref m_zeros, .ref m_tape, .ref m_outs, .ref m_text, .int 0, .int 0, .int 0, .int 0, .int 0, .int 0, .int 0, .ref m_rows, .ref m_digits, .ref m_entries, .ref m_minors, .int 0, .int 0, .int 0, .int 0, .int 0, .int 0, .ref m_pointX, .ref m_pointH, .ref m_pointY, .ref m_those, .int 0, .int 0, .int 0, .int 0, .int 0, .ref m_does, .ref m_atomOf, .ref m_atomRel, .int 0, .int 0, .int 0, .ref m_signs, .ref m_stack, .ref m_xPoly, .ref m_xRoot, .int 0, .ref m_inBoth, .int 0, .ref m_truth, .int 0, .ref m_hasEnd, .ref m_belongs, .ref m_isSingle, .ref m_endPoly, .ref m_endRoot, .int 0, .ref m_small, .ref m_smallDegree, .int 0, .ref m_irreducible, .int 0, .ref m_stackOf, .int 0, .ref m_factorAt, .ref m_factorPower, .ref m_isKept, .ref m_keptPoly, .ref m_keptRoot, .int 0, .int 0, .int 0, .int 0, .int 0, .int 0])), (m_rows, .inl (cR, 3468, .inr (.inl fR)))] sz) []) (va_A [(h0, .inr (12, [.ref m_mem, .int 232000, .int 0, .int 0, .int 0, .int 0, .int 0, .int 0, .int 0, .int 0, .int 0, .ref m_polys, .ref m_chains, .ref m_pairs, .int 0, .int 0, .int 0, .ref m_zeros, .ref m_tape, .ref m_outs, .ref m_text, .int 0, .int 0, .int 0, .int 0, .int 0, .int 0, .int 0, .ref m_rows, .ref m_digits, .ref m_entries, .ref m_minors, .int 0, .int 0, .int 0, .int 0, .int 0, .int 0, .ref m_pointX, .ref m_pointH, .ref m_pointY, .ref m_those, .int 0, .int 0, .int 0, .int 0, .int 0, .ref m_does, .ref m_atomOf, .ref m_atomRel, .int 0, .int 0, .int 0, .ref m_signs, .ref m_stack, .ref m_xPoly, .ref m_xRoot, .int 0, .ref m_inBoth, .int 0, .ref m_truth, .int 0, .ref m_hasEnd, .ref m_belongs, .ref m_isSingle, .ref m_endPoly, .ref m_endRoot, .int 0, .ref m_small, .ref m_smallDegree, .int 0, .ref m_irreducible, .int 0, .ref m_stackOf, .int 0, .ref m_factorAt, .ref m_factorPower, .ref m_isKept, .ref m_keptPoly, .ref m_keptRoot, .int 0, .int 0, .int 0, .int 0, .int 0, .int 0])), (m_rows, .inl (cR, 3468, .inr (.inl fR)))] sz)) 0 0 (va_A [(h0, .inr (12, [.ref m_mem, .int 232000, .int 0, .int 0, .int 0, .int 0, .int 0, .int 0, .int 0, .int 0, .int 0, .ref m_polys, .ref m_chains, .ref m_pairs, .int 0, .int 0, .int 0, .ref m_zeros, .ref m_tape, .ref m_outs, .ref m_text, .int 0, .int 0, .int 0, .int 0, .int 0, .int 0, .int 0, .ref m_rows, .ref m_digits, .ref m_entries, .ref m_minors, .int 0, .int 0, .int 0, .int 0, .int 0, .int 0, .ref m_pointX, .ref m_pointH, .ref m_pointY, .ref m_those, .int 0, .int 0, .int 0, .int 0, .int 0, .ref m_does, .ref m_atomOf, .ref m_atomRel, .int 0, .int 0, .int 0, .ref m_signs, .ref m_stack, .ref m_xPoly, .ref m_xRoot, .int 0, .ref m_inBoth, .int 0, .ref m_truth, .int 0, .ref m_hasEnd, .ref m_belongs, .ref m_isSingle, .ref m_endPoly, .ref m_endRoot, .int 0, .ref m_small, .ref m_smallDegree, .int 0, .ref m_irreducible, .int 0, .ref m_stackOf, .int 0, .ref m_factorAt, .ref m_factorPower, .ref m_isKept, .ref m_keptPoly, .ref m_keptRoot, .int 0, .int 0, .int 0, .int 0, .int 0, .int 0])), (m_rows, .inl (cR, 3468, .inr (.inl fR)))] sz) := by
  refine Met.ofW (cc := b_Model_factors) (maxL := 9) (ret := (some .int)) (by decide) rfl ?_
  intro p e s m args below meth c s₁ B hml hv
  obtain ⟨rfl, hsz, hP, hK, hD0, hN⟩ := hv
  have hx := B.exec
  have hb := B.bytes
  have hr := B.returns
  have hT : ∀ w ∈ lw_g, w.before _ s = true := fun w h => atoms_spec (ws := w_Model_factors) B.pre w (List.mem_cons_of_mem _ h)
  have hown : s.vm.findClass R_Model = some m.cls := findClass_of_methodNamed B.named
  have hlocks := B.notSynchronized
  subst hsz
  have hD := hD0.self (sz := s.heap.size)
  generalize hAe : va_A [(h0, .inr (12, [.ref m_mem, .int 232000, .int 0, .int 0, .int 0, .int 0, .int 0, .int 0, .int 0, .int 0, .int 0, .ref m_polys, .ref m_chains, .ref m_pairs, .int 0, .int 0, .int 0, .ref m_zeros, .ref m_tape, .ref m_outs, .ref m_text, .int 0, .int 0, .int 0, .int 0, .int 0, .int 0, .int 0, .ref m_rows, .ref m_digits, .ref m_entries, .ref m_minors, .int 0, .int 0, .int 0, .int 0, .int 0, .int 0, .ref m_pointX, .ref m_pointH, .ref m_pointY, .ref m_those, .int 0, .int 0, .int 0, .int 0, .int 0, .ref m_does, .ref m_atomOf, .ref m_atomRel, .int 0, .int 0, .int 0, .ref m_signs, .ref m_stack, .ref m_xPoly, .ref m_xRoot, .int 0, .ref m_inBoth, .int 0, .ref m_truth, .int 0, .ref m_hasEnd, .ref m_belongs, .ref m_isSingle, .ref m_endPoly, .ref m_endRoot, .int 0, .ref m_small, .ref m_smallDegree, .int 0, .ref m_irreducible, .int 0, .ref m_stackOf, .int 0, .ref m_factorAt, .ref m_factorPower, .ref m_isKept, .ref m_keptPoly, .ref m_keptRoot, .int 0, .int 0, .int 0, .int 0, .int 0, .int 0])), (m_rows, .inl (cR, 3468, .inr (.inl fR)))] s.heap.size = A at hD ⊢
  have hA : ∀ q : Nat, s.heap.size ≤ q → A q := fun q h => by rw [← hAe]; exact Or.inr h
  have hS : va_S A s.heap s.heap [] := va_S.rf
  have hP : va_P (dC, dI) classes [(h0, .inr (12, [.ref m_mem, .int 232000, .int 0, .int 0, .int 0, .int 0, .int 0, .int 0, .int 0, .int 0, .int 0, .ref m_polys, .ref m_chains, .ref m_pairs, .int 0, .int 0, .int 0, .ref m_zeros, .ref m_tape, .ref m_outs, .ref m_text, .int 0, .int 0, .int 0, .int 0, .int 0, .int 0, .int 0, .ref m_rows, .ref m_digits, .ref m_entries, .ref m_minors, .int 0, .int 0, .int 0, .int 0, .int 0, .int 0, .ref m_pointX, .ref m_pointH, .ref m_pointY, .ref m_those, .int 0, .int 0, .int 0, .int 0, .int 0, .ref m_does, .ref m_atomOf, .ref m_atomRel, .int 0, .int 0, .int 0, .ref m_signs, .ref m_stack, .ref m_xPoly, .ref m_xRoot, .int 0, .ref m_inBoth, .int 0, .ref m_truth, .int 0, .ref m_hasEnd, .ref m_belongs, .ref m_isSingle, .ref m_endPoly, .ref m_endRoot, .int 0, .ref m_small, .ref m_smallDegree, .int 0, .ref m_irreducible, .int 0, .ref m_stackOf, .int 0, .ref m_factorAt, .ref m_factorPower, .ref m_isKept, .ref m_keptPoly, .ref m_keptRoot, .int 0, .int 0, .int 0, .int 0, .int 0, .int 0])), (m_rows, .inl (cR, 3468, .inr (.inl fR)))] s.heap := hP
  have hl := lv_entry ([.ref h0, .int n]) (n := 9) (Nat.le_of_ble_eq_true rfl)
  rw [lg_entry_eq]
  generalize (lg_sl ([.ref h0, .int n]) ++ List.replicate (9 - (lg_sl ([.ref h0, .int n])).length) Slot.unset).toArray = ls at hl ⊢
  have hl : lv_has ls 9 [(0, .ref h0), (1, .int n)] := hl
  rcases Decidable.em (n = 0) with hn0 | hn0
  · subst hn0
    refine lv_aload_n hx hb d_Model_factors_0 rfl (lv_at hl 0 rfl) ?_
    refine lv_iload_n hx hb d_Model_factors_1 rfl (lv_at hl 1 rfl) ?_
    have hPc := hP.sub (ws' := [(h0, .inr (12, [.ref m_mem, .int 232000, .int 0, .int 0, .int 0, .int 0, .int 0, .int 0, .int 0, .int 0, .int 0, .ref m_polys, .ref m_chains, .ref m_pairs, .int 0, .int 0, .int 0, .ref m_zeros, .ref m_tape, .ref m_outs, .ref m_text, .int 0, .int 0, .int 0, .int 0, .int 0, .int 0, .int 0, .ref m_rows, .ref m_digits, .ref m_entries, .ref m_minors, .int 0, .int 0, .int 0, .int 0, .int 0, .int 0, .ref m_pointX, .ref m_pointH, .ref m_pointY, .ref m_those, .int 0, .int 0, .int 0, .int 0, .int 0, .ref m_does, .ref m_atomOf, .ref m_atomRel, .int 0, .int 0, .int 0, .ref m_signs, .ref m_stack, .ref m_xPoly, .ref m_xRoot, .int 0, .ref m_inBoth, .int 0, .ref m_truth, .int 0, .ref m_hasEnd, .ref m_belongs, .ref m_isSingle, .ref m_endPoly, .ref m_endRoot, .int 0, .ref m_small, .ref m_smallDegree, .int 0, .ref m_irreducible, .int 0, .ref m_stackOf, .int 0, .ref m_factorAt, .ref m_factorPower, .ref m_isKept, .ref m_keptPoly, .ref m_keptRoot, .int 0, .int 0, .int 0, .int 0, .int 0, .int 0]))]) [0] rfl
    have hDc := hD.sub (ws' := [(h0, .inr (12, [.ref m_mem, .int 232000, .int 0, .int 0, .int 0, .int 0, .int 0, .int 0, .int 0, .int 0, .int 0, .ref m_polys, .ref m_chains, .ref m_pairs, .int 0, .int 0, .int 0, .ref m_zeros, .ref m_tape, .ref m_outs, .ref m_text, .int 0, .int 0, .int 0, .int 0, .int 0, .int 0, .int 0, .ref m_rows, .ref m_digits, .ref m_entries, .ref m_minors, .int 0, .int 0, .int 0, .int 0, .int 0, .int 0, .ref m_pointX, .ref m_pointH, .ref m_pointY, .ref m_those, .int 0, .int 0, .int 0, .int 0, .int 0, .ref m_does, .ref m_atomOf, .ref m_atomRel, .int 0, .int 0, .int 0, .ref m_signs, .ref m_stack, .ref m_xPoly, .ref m_xRoot, .int 0, .ref m_inBoth, .int 0, .ref m_truth, .int 0, .ref m_hasEnd, .ref m_belongs, .ref m_isSingle, .ref m_endPoly, .ref m_endRoot, .int 0, .ref m_small, .ref m_smallDegree, .int 0, .ref m_irreducible, .int 0, .ref m_stackOf, .int 0, .ref m_factorAt, .ref m_factorPower, .ref m_isKept, .ref m_keptPoly, .ref m_keptRoot, .int 0, .int 0, .int 0, .int 0, .int 0, .int 0]))]) [0] (by decide) rfl
    have hKc := hK.sub (tys' := []) [] rfl
    have hFc := va_free (wc := [(h0, .inr (12, [.ref m_mem, .int 232000, .int 0, .int 0, .int 0, .int 0, .int 0, .int 0, .int 0, .int 0, .int 0, .ref m_polys, .ref m_chains, .ref m_pairs, .int 0, .int 0, .int 0, .ref m_zeros, .ref m_tape, .ref m_outs, .ref m_text, .int 0, .int 0, .int 0, .int 0, .int 0, .int 0, .int 0, .ref m_rows, .ref m_digits, .ref m_entries, .ref m_minors, .int 0, .int 0, .int 0, .int 0, .int 0, .int 0, .ref m_pointX, .ref m_pointH, .ref m_pointY, .ref m_those, .int 0, .int 0, .int 0, .int 0, .int 0, .ref m_does, .ref m_atomOf, .ref m_atomRel, .int 0, .int 0, .int 0, .ref m_signs, .ref m_stack, .ref m_xPoly, .ref m_xRoot, .int 0, .ref m_inBoth, .int 0, .ref m_truth, .int 0, .ref m_hasEnd, .ref m_belongs, .ref m_isSingle, .ref m_endPoly, .ref m_endRoot, .int 0, .ref m_small, .ref m_smallDegree, .int 0, .ref m_irreducible, .int 0, .ref m_stackOf, .int 0, .ref m_factorAt, .ref m_factorPower, .ref m_isKept, .ref m_keptPoly, .ref m_keptRoot, .int 0, .int 0, .int 0, .int 0, .int 0, .int 0]))]) hD hS hA [0] rfl
    refine va_calli (va_runV (As := [.int 0]) (rest := []) ⟨hx, hb, hml, hown, hT⟩ (c_Model_mayRead_z l dC dI s.heap.size h0 m_mem m_polys m_chains m_pairs m_zeros m_tape m_outs m_text m_rows m_digits m_entries m_minors m_pointX m_pointH m_pointY m_those m_does m_atomOf m_atomRel m_signs m_stack m_xPoly m_xRoot m_inBoth m_truth m_hasEnd m_belongs m_isSingle m_endPoly m_endRoot m_small m_smallDegree m_irreducible m_stackOf m_factorAt m_factorPower m_isKept m_keptPoly m_keptRoot 0 0 ) (cwV 1 hT (tb_goodV g_Model_mayRead tw_1875 tw_1877 (tb_sel (q := (⟨"RealHouseModel", "mayRead", "(I)Z"⟩, 86)) (i := 66) (by decide +kernel)) tw_15) rfl rfl rfl (by decide +kernel) ⟨Nat.le_of_ble_eq_true rfl, Nat.le_of_ble_eq_true rfl⟩) ⟨fun a U g mk q => by obtain ⟨q0, q1, qP, qK, qD, qN⟩ := q; exact ⟨q0, q1, qP, va_K.moved (u := U) (U := U.calling g mk a) (Vm.Alike.refl U.vm) qK, qD, nx_K.same (u := U) (U := U.calling g mk a) rfl qN⟩, va_recv hKc hPc (ci := 12) (q0 := 0) rfl rfl, fun U hU hW => ⟨rfl, by rw [hU], by rw [hU]; exact hPc, va_K.moved hW.alike hKc, hDc.weaken (fun _ _ _ _ => trivial), nx_K.warm hW hN⟩⟩ rfl rfl hl.1 rfl (lv_room (Nat.le_of_ble_eq_true rfl)) d_Model_factors_2 ⟨Nat.le_of_ble_eq_true rfl, Nat.le_of_ble_eq_true rfl⟩) hS (fun q _ h => hFc q h) hFc (fun r_1 u t H1 locs ht hvm hw hB hz1 hk1 hS => ?_)
    obtain ⟨hP1, hK1, hD1⟩ := hB
    rw [ht] at hP1
    have hK1 := va_K.moved hvm.symm hK1
    obtain rfl : r_1 = 1 := hw
    obtain ⟨hP, hD⟩ := va_join (wr := [(m_rows, .inl (cR, 3468, .inr (.inl fR)))]) (w1 := [(h0, .inr (12, [.ref m_mem, .int 232000, .int 0, .int 0, .int 0, .int 0, .int 0, .int 0, .int 0, .int 0, .int 0, .ref m_polys, .ref m_chains, .ref m_pairs, .int 0, .int 0, .int 0, .ref m_zeros, .ref m_tape, .ref m_outs, .ref m_text, .int 0, .int 0, .int 0, .int 0, .int (-1), .int 0, .int 0, .ref m_rows, .ref m_digits, .ref m_entries, .ref m_minors, .int 0, .int 0, .int 0, .int 0, .int 0, .int 0, .ref m_pointX, .ref m_pointH, .ref m_pointY, .ref m_those, .int 0, .int 0, .int 0, .int 0, .int 0, .ref m_does, .ref m_atomOf, .ref m_atomRel, .int 0, .int 0, .int 0, .ref m_signs, .ref m_stack, .ref m_xPoly, .ref m_xRoot, .int 0, .ref m_inBoth, .int 0, .ref m_truth, .int 0, .ref m_hasEnd, .ref m_belongs, .ref m_isSingle, .ref m_endPoly, .ref m_endRoot, .int 0, .ref m_small, .ref m_smallDegree, .int 0, .ref m_irreducible, .int 0, .ref m_stackOf, .int 0, .ref m_factorAt, .ref m_factorPower, .ref m_isKept, .ref m_keptPoly, .ref m_keptRoot, .int 0, .int 0, .int 0, .int 0, .int 0, .int 0]))]) hP hD [0] [1] rfl rfl (by decide) (by decide) hk1 hFc hP1 hD1
    have hK := (hK.sub (tys' := [(cR, .long)]) [0] rfl).app hK1
    generalize H1 = H at hP hS ⊢
    have hP : va_P (dC, dI) classes [(m_rows, .inl (cR, 3468, .inr (.inl fR))), (h0, .inr (12, [.ref m_mem, .int 232000, .int 0, .int 0, .int 0, .int 0, .int 0, .int 0, .int 0, .int 0, .int 0, .ref m_polys, .ref m_chains, .ref m_pairs, .int 0, .int 0, .int 0, .ref m_zeros, .ref m_tape, .ref m_outs, .ref m_text, .int 0, .int 0, .int 0, .int 0, .int (-1), .int 0, .int 0, .ref m_rows, .ref m_digits, .ref m_entries, .ref m_minors, .int 0, .int 0, .int 0, .int 0, .int 0, .int 0, .ref m_pointX, .ref m_pointH, .ref m_pointY, .ref m_those, .int 0, .int 0, .int 0, .int 0, .int 0, .ref m_does, .ref m_atomOf, .ref m_atomRel, .int 0, .int 0, .int 0, .ref m_signs, .ref m_stack, .ref m_xPoly, .ref m_xRoot, .int 0, .ref m_inBoth, .int 0, .ref m_truth, .int 0, .ref m_hasEnd, .ref m_belongs, .ref m_isSingle, .ref m_endPoly, .ref m_endRoot, .int 0, .ref m_small, .ref m_smallDegree, .int 0, .ref m_irreducible, .int 0, .ref m_stackOf, .int 0, .ref m_factorAt, .ref m_factorPower, .ref m_isKept, .ref m_keptPoly, .ref m_keptRoot, .int 0, .int 0, .int 0, .int 0, .int 0, .int 0]))] H := hP
    have hD : va_D A [(m_rows, .inl (cR, 3468, .inr (.inl fR))), (h0, .inr (12, [.ref m_mem, .int 232000, .int 0, .int 0, .int 0, .int 0, .int 0, .int 0, .int 0, .int 0, .int 0, .ref m_polys, .ref m_chains, .ref m_pairs, .int 0, .int 0, .int 0, .ref m_zeros, .ref m_tape, .ref m_outs, .ref m_text, .int 0, .int 0, .int 0, .int 0, .int (-1), .int 0, .int 0, .ref m_rows, .ref m_digits, .ref m_entries, .ref m_minors, .int 0, .int 0, .int 0, .int 0, .int 0, .int 0, .ref m_pointX, .ref m_pointH, .ref m_pointY, .ref m_those, .int 0, .int 0, .int 0, .int 0, .int 0, .ref m_does, .ref m_atomOf, .ref m_atomRel, .int 0, .int 0, .int 0, .ref m_signs, .ref m_stack, .ref m_xPoly, .ref m_xRoot, .int 0, .ref m_inBoth, .int 0, .ref m_truth, .int 0, .ref m_hasEnd, .ref m_belongs, .ref m_isSingle, .ref m_endPoly, .ref m_endRoot, .int 0, .ref m_small, .ref m_smallDegree, .int 0, .ref m_irreducible, .int 0, .ref m_stackOf, .int 0, .ref m_factorAt, .ref m_factorPower, .ref m_isKept, .ref m_keptPoly, .ref m_keptRoot, .int 0, .int 0, .int 0, .int 0, .int 0, .int 0]))] := hD
    have hK : va_K (dC, dI) classes [(cR, .long)] s := hK
    refine lv_if_ne (tgt := 10) hx hb d_Model_factors_5 (by decide) (fun c_2 => ?_) (fun c_2 => absurd c_2 (by decide))
    refine lv_aload_n hx hb d_Model_factors_10 rfl (lv_at hl 0 rfl) ?_
    refine lv_iload_n hx hb d_Model_factors_11 rfl (lv_at hl 1 rfl) ?_
    have hPc := hP.sub (ws' := [(h0, .inr (12, [.ref m_mem, .int 232000, .int 0, .int 0, .int 0, .int 0, .int 0, .int 0, .int 0, .int 0, .int 0, .ref m_polys, .ref m_chains, .ref m_pairs, .int 0, .int 0, .int 0, .ref m_zeros, .ref m_tape, .ref m_outs, .ref m_text, .int 0, .int 0, .int 0, .int 0, .int (-1), .int 0, .int 0, .ref m_rows, .ref m_digits, .ref m_entries, .ref m_minors, .int 0, .int 0, .int 0, .int 0, .int 0, .int 0, .ref m_pointX, .ref m_pointH, .ref m_pointY, .ref m_those, .int 0, .int 0, .int 0, .int 0, .int 0, .ref m_does, .ref m_atomOf, .ref m_atomRel, .int 0, .int 0, .int 0, .ref m_signs, .ref m_stack, .ref m_xPoly, .ref m_xRoot, .int 0, .ref m_inBoth, .int 0, .ref m_truth, .int 0, .ref m_hasEnd, .ref m_belongs, .ref m_isSingle, .ref m_endPoly, .ref m_endRoot, .int 0, .ref m_small, .ref m_smallDegree, .int 0, .ref m_irreducible, .int 0, .ref m_stackOf, .int 0, .ref m_factorAt, .ref m_factorPower, .ref m_isKept, .ref m_keptPoly, .ref m_keptRoot, .int 0, .int 0, .int 0, .int 0, .int 0, .int 0])), (m_rows, .inl (cR, 3468, .inr (.inl fR)))]) [1, 0] rfl
    have hDc := hD.sub (ws' := [(h0, .inr (12, [.ref m_mem, .int 232000, .int 0, .int 0, .int 0, .int 0, .int 0, .int 0, .int 0, .int 0, .int 0, .ref m_polys, .ref m_chains, .ref m_pairs, .int 0, .int 0, .int 0, .ref m_zeros, .ref m_tape, .ref m_outs, .ref m_text, .int 0, .int 0, .int 0, .int 0, .int (-1), .int 0, .int 0, .ref m_rows, .ref m_digits, .ref m_entries, .ref m_minors, .int 0, .int 0, .int 0, .int 0, .int 0, .int 0, .ref m_pointX, .ref m_pointH, .ref m_pointY, .ref m_those, .int 0, .int 0, .int 0, .int 0, .int 0, .ref m_does, .ref m_atomOf, .ref m_atomRel, .int 0, .int 0, .int 0, .ref m_signs, .ref m_stack, .ref m_xPoly, .ref m_xRoot, .int 0, .ref m_inBoth, .int 0, .ref m_truth, .int 0, .ref m_hasEnd, .ref m_belongs, .ref m_isSingle, .ref m_endPoly, .ref m_endRoot, .int 0, .ref m_small, .ref m_smallDegree, .int 0, .ref m_irreducible, .int 0, .ref m_stackOf, .int 0, .ref m_factorAt, .ref m_factorPower, .ref m_isKept, .ref m_keptPoly, .ref m_keptRoot, .int 0, .int 0, .int 0, .int 0, .int 0, .int 0])), (m_rows, .inl (cR, 3468, .inr (.inl fR)))]) [1, 0] (by decide) rfl
    have hKc := hK.sub (tys' := [(cR, .long)]) [0] rfl
    have hFc := va_free (wc := [(h0, .inr (12, [.ref m_mem, .int 232000, .int 0, .int 0, .int 0, .int 0, .int 0, .int 0, .int 0, .int 0, .int 0, .ref m_polys, .ref m_chains, .ref m_pairs, .int 0, .int 0, .int 0, .ref m_zeros, .ref m_tape, .ref m_outs, .ref m_text, .int 0, .int 0, .int 0, .int 0, .int (-1), .int 0, .int 0, .ref m_rows, .ref m_digits, .ref m_entries, .ref m_minors, .int 0, .int 0, .int 0, .int 0, .int 0, .int 0, .ref m_pointX, .ref m_pointH, .ref m_pointY, .ref m_those, .int 0, .int 0, .int 0, .int 0, .int 0, .ref m_does, .ref m_atomOf, .ref m_atomRel, .int 0, .int 0, .int 0, .ref m_signs, .ref m_stack, .ref m_xPoly, .ref m_xRoot, .int 0, .ref m_inBoth, .int 0, .ref m_truth, .int 0, .ref m_hasEnd, .ref m_belongs, .ref m_isSingle, .ref m_endPoly, .ref m_endRoot, .int 0, .ref m_small, .ref m_smallDegree, .int 0, .ref m_irreducible, .int 0, .ref m_stackOf, .int 0, .ref m_factorAt, .ref m_factorPower, .ref m_isKept, .ref m_keptPoly, .ref m_keptRoot, .int 0, .int 0, .int 0, .int 0, .int 0, .int 0])), (m_rows, .inl (cR, 3468, .inr (.inl fR)))]) hD hS hA [1, 0] rfl
    refine va_calli (va_runV (As := [.int 0]) (rest := []) ⟨hx, hb, hml, hown, hT⟩ (c_Model_readX_0 l dC dI H.size h0 m_mem m_polys m_chains m_pairs m_zeros m_tape m_outs m_text m_rows m_digits m_entries m_minors m_pointX m_pointH m_pointY m_those m_does m_atomOf m_atomRel m_signs m_stack m_xPoly m_xRoot m_inBoth m_truth m_hasEnd m_belongs m_isSingle m_endPoly m_endRoot m_small m_smallDegree m_irreducible m_stackOf m_factorAt m_factorPower m_isKept m_keptPoly m_keptRoot 0 0 cR fR ) (cwV 1 hT (tb_goodV g_Model_readX tw_2149 tw_2151 (tb_sel (q := (⟨"RealHouseModel", "readX", "(I)I"⟩, 86)) (i := 132) (by decide +kernel)) tw_15) rfl rfl rfl (by decide +kernel) ⟨Nat.le_of_ble_eq_true rfl, Nat.le_of_ble_eq_true rfl⟩) ⟨fun a U g mk q => by obtain ⟨q0, q1, qP, qK, qD, qN⟩ := q; exact ⟨q0, q1, qP, va_K.moved (u := U) (U := U.calling g mk a) (Vm.Alike.refl U.vm) qK, qD, nx_K.same (u := U) (U := U.calling g mk a) rfl qN⟩, va_recv hKc hPc (ci := 12) (q0 := 0) rfl rfl, fun U hU hW => ⟨rfl, by rw [hU], by rw [hU]; exact hPc, va_K.moved hW.alike hKc, hDc.weaken (fun _ _ _ _ => trivial), nx_K.warm hW hN⟩⟩ rfl rfl hl.1 rfl (lv_room (Nat.le_of_ble_eq_true rfl)) d_Model_factors_12 ⟨Nat.le_of_ble_eq_true rfl, Nat.le_of_ble_eq_true rfl⟩) hS (fun q _ h => hFc q h) hFc (fun r_3 u t H1 locs ht hvm hw hB hz1 hk1 hS => ?_)
    obtain ⟨hP1, hK1, hD1⟩ := hB
    rw [ht] at hP1
    have hK1 := va_K.moved hvm.symm hK1
    obtain rfl : r_3 = (-2) := hw
    obtain ⟨hP, hD⟩ := va_join (wr := []) (w1 := []) hP hD [1, 0] [] rfl rfl (by decide) (by decide) hk1 hFc hP1 hD1
    have hK := (hK.sub (tys' := [(cR, .long)]) [0] rfl).app hK1
    generalize H1 = H at hP hS ⊢
    have hP : va_P (dC, dI) classes [] H := hP
    have hD : va_D A [] := hD
    have hK : va_K (dC, dI) classes [(cR, .long)] s := hK
    refine lv_istore_n (lv' := [(2, .int (-2)), (0, .ref h0), (1, .int 0)]) hx hb d_Model_factors_15 rfl hl (by decide) rfl (fun ls hl => ?_)
    refine lv_iload_n hx hb d_Model_factors_16 rfl (lv_at hl 0 rfl) ?_
    refine lv_if_ge (tgt := 22) hx hb d_Model_factors_17 (by decide) (fun c_4 => absurd c_4 (by decide)) (fun c_4 => ?_)
    refine lv_iload_n hx hb d_Model_factors_20 rfl (lv_at hl 0 rfl) ?_
    have hP9 := hP.sub (ws' := []) [] rfl
    have hD9 := hD.sub (ws' := []) [] (by decide) rfl
    have hK9 := hK.sub (tys' := []) [] rfl
    exact W.iret (v := (-2)) hx hb hr (fun t ht hW => ⟨⟨(-2), (), rfl, (if_pos rfl).symm, by rw [ht]; exact hP9, va_K.moved hW.alike hK9, hD9⟩, hS.F ht⟩) hS.2.2 d_Model_factors_21
  · have hn0 : ¬ n = 0 := hn0
    refine lv_aload_n hx hb d_Model_factors_0 rfl (lv_at hl 0 rfl) ?_
    refine lv_iload_n hx hb d_Model_factors_1 rfl (lv_at hl 1 rfl) ?_
    have hPc := hP.sub (ws' := [(h0, .inr (12, [.ref m_mem, .int 232000, .int 0, .int 0, .int 0, .int 0, .int 0, .int 0, .int 0, .int 0, .int 0, .ref m_polys, .ref m_chains, .ref m_pairs, .int 0, .int 0, .int 0, .ref m_zeros, .ref m_tape, .ref m_outs, .ref m_text, .int 0, .int 0, .int 0, .int 0, .int 0, .int 0, .int 0, .ref m_rows, .ref m_digits, .ref m_entries, .ref m_minors, .int 0, .int 0, .int 0, .int 0, .int 0, .int 0, .ref m_pointX, .ref m_pointH, .ref m_pointY, .ref m_those, .int 0, .int 0, .int 0, .int 0, .int 0, .ref m_does, .ref m_atomOf, .ref m_atomRel, .int 0, .int 0, .int 0, .ref m_signs, .ref m_stack, .ref m_xPoly, .ref m_xRoot, .int 0, .ref m_inBoth, .int 0, .ref m_truth, .int 0, .ref m_hasEnd, .ref m_belongs, .ref m_isSingle, .ref m_endPoly, .ref m_endRoot, .int 0, .ref m_small, .ref m_smallDegree, .int 0, .ref m_irreducible, .int 0, .ref m_stackOf, .int 0, .ref m_factorAt, .ref m_factorPower, .ref m_isKept, .ref m_keptPoly, .ref m_keptRoot, .int 0, .int 0, .int 0, .int 0, .int 0, .int 0]))]) [0] rfl
    have hDc := hD.sub (ws' := [(h0, .inr (12, [.ref m_mem, .int 232000, .int 0, .int 0, .int 0, .int 0, .int 0, .int 0, .int 0, .int 0, .int 0, .ref m_polys, .ref m_chains, .ref m_pairs, .int 0, .int 0, .int 0, .ref m_zeros, .ref m_tape, .ref m_outs, .ref m_text, .int 0, .int 0, .int 0, .int 0, .int 0, .int 0, .int 0, .ref m_rows, .ref m_digits, .ref m_entries, .ref m_minors, .int 0, .int 0, .int 0, .int 0, .int 0, .int 0, .ref m_pointX, .ref m_pointH, .ref m_pointY, .ref m_those, .int 0, .int 0, .int 0, .int 0, .int 0, .ref m_does, .ref m_atomOf, .ref m_atomRel, .int 0, .int 0, .int 0, .ref m_signs, .ref m_stack, .ref m_xPoly, .ref m_xRoot, .int 0, .ref m_inBoth, .int 0, .ref m_truth, .int 0, .ref m_hasEnd, .ref m_belongs, .ref m_isSingle, .ref m_endPoly, .ref m_endRoot, .int 0, .ref m_small, .ref m_smallDegree, .int 0, .ref m_irreducible, .int 0, .ref m_stackOf, .int 0, .ref m_factorAt, .ref m_factorPower, .ref m_isKept, .ref m_keptPoly, .ref m_keptRoot, .int 0, .int 0, .int 0, .int 0, .int 0, .int 0]))]) [0] (by decide) rfl
    have hKc := hK.sub (tys' := []) [] rfl
    have hFc := va_free (wc := [(h0, .inr (12, [.ref m_mem, .int 232000, .int 0, .int 0, .int 0, .int 0, .int 0, .int 0, .int 0, .int 0, .int 0, .ref m_polys, .ref m_chains, .ref m_pairs, .int 0, .int 0, .int 0, .ref m_zeros, .ref m_tape, .ref m_outs, .ref m_text, .int 0, .int 0, .int 0, .int 0, .int 0, .int 0, .int 0, .ref m_rows, .ref m_digits, .ref m_entries, .ref m_minors, .int 0, .int 0, .int 0, .int 0, .int 0, .int 0, .ref m_pointX, .ref m_pointH, .ref m_pointY, .ref m_those, .int 0, .int 0, .int 0, .int 0, .int 0, .ref m_does, .ref m_atomOf, .ref m_atomRel, .int 0, .int 0, .int 0, .ref m_signs, .ref m_stack, .ref m_xPoly, .ref m_xRoot, .int 0, .ref m_inBoth, .int 0, .ref m_truth, .int 0, .ref m_hasEnd, .ref m_belongs, .ref m_isSingle, .ref m_endPoly, .ref m_endRoot, .int 0, .ref m_small, .ref m_smallDegree, .int 0, .ref m_irreducible, .int 0, .ref m_stackOf, .int 0, .ref m_factorAt, .ref m_factorPower, .ref m_isKept, .ref m_keptPoly, .ref m_keptRoot, .int 0, .int 0, .int 0, .int 0, .int 0, .int 0]))]) hD hS hA [0] rfl
    refine va_calli (va_runV (As := [.int n]) (rest := []) ⟨hx, hb, hml, hown, hT⟩ (c_Model_mayRead_n l dC dI s.heap.size h0 m_mem m_polys m_chains m_pairs m_zeros m_tape m_outs m_text m_rows m_digits m_entries m_minors m_pointX m_pointH m_pointY m_those m_does m_atomOf m_atomRel m_signs m_stack m_xPoly m_xRoot m_inBoth m_truth m_hasEnd m_belongs m_isSingle m_endPoly m_endRoot m_small m_smallDegree m_irreducible m_stackOf m_factorAt m_factorPower m_isKept m_keptPoly m_keptRoot 0 0 n hn0) (cwV 1 hT (tb_goodV g_Model_mayRead tw_1875 tw_1877 (tb_sel (q := (⟨"RealHouseModel", "mayRead", "(I)Z"⟩, 86)) (i := 66) (by decide +kernel)) tw_15) rfl rfl rfl (by decide +kernel) ⟨Nat.le_of_ble_eq_true rfl, Nat.le_of_ble_eq_true rfl⟩) ⟨fun a U g mk q => by obtain ⟨q0, q1, qP, qK, qD, qN⟩ := q; exact ⟨q0, q1, qP, va_K.moved (u := U) (U := U.calling g mk a) (Vm.Alike.refl U.vm) qK, qD, nx_K.same (u := U) (U := U.calling g mk a) rfl qN⟩, va_recv hKc hPc (ci := 12) (q0 := 0) rfl rfl, fun U hU hW => ⟨rfl, by rw [hU], by rw [hU]; exact hPc, va_K.moved hW.alike hKc, hDc.weaken (fun _ _ _ _ => trivial), nx_K.warm hW hN⟩⟩ rfl rfl hl.1 rfl (lv_room (Nat.le_of_ble_eq_true rfl)) d_Model_factors_2 ⟨Nat.le_of_ble_eq_true rfl, Nat.le_of_ble_eq_true rfl⟩) hS (fun q _ h => hFc q h) hFc (fun r_5 u t H1 locs ht hvm hw hB hz1 hk1 hS => ?_)
    obtain ⟨hP1, hK1, hD1⟩ := hB
    rw [ht] at hP1
    have hK1 := va_K.moved hvm.symm hK1
    obtain rfl : r_5 = 0 := hw
    obtain ⟨hP, hD⟩ := va_join (wr := [(m_rows, .inl (cR, 3468, .inr (.inl fR)))]) (w1 := [(h0, .inr (12, [.ref m_mem, .int 232000, .int 0, .int 0, .int 0, .int 0, .int 0, .int 0, .int 0, .int 0, .int 0, .ref m_polys, .ref m_chains, .ref m_pairs, .int 0, .int 0, .int 0, .ref m_zeros, .ref m_tape, .ref m_outs, .ref m_text, .int 0, .int 0, .int 0, .int 0, .int 0, .int 0, .int 0, .ref m_rows, .ref m_digits, .ref m_entries, .ref m_minors, .int 0, .int 0, .int 0, .int 0, .int 0, .int 0, .ref m_pointX, .ref m_pointH, .ref m_pointY, .ref m_those, .int 0, .int 0, .int 0, .int 0, .int 0, .ref m_does, .ref m_atomOf, .ref m_atomRel, .int 0, .int 0, .int 0, .ref m_signs, .ref m_stack, .ref m_xPoly, .ref m_xRoot, .int 0, .ref m_inBoth, .int 0, .ref m_truth, .int 0, .ref m_hasEnd, .ref m_belongs, .ref m_isSingle, .ref m_endPoly, .ref m_endRoot, .int 0, .ref m_small, .ref m_smallDegree, .int 0, .ref m_irreducible, .int 0, .ref m_stackOf, .int 0, .ref m_factorAt, .ref m_factorPower, .ref m_isKept, .ref m_keptPoly, .ref m_keptRoot, .int 0, .int 0, .int 0, .int 0, .int 0, .int 0]))]) hP hD [0] [1] rfl rfl (by decide) (by decide) hk1 hFc hP1 hD1
    have hK := (hK.sub (tys' := [(cR, .long)]) [0] rfl).app hK1
    generalize H1 = H at hP hS ⊢
    have hP : va_P (dC, dI) classes [(m_rows, .inl (cR, 3468, .inr (.inl fR))), (h0, .inr (12, [.ref m_mem, .int 232000, .int 0, .int 0, .int 0, .int 0, .int 0, .int 0, .int 0, .int 0, .int 0, .ref m_polys, .ref m_chains, .ref m_pairs, .int 0, .int 0, .int 0, .ref m_zeros, .ref m_tape, .ref m_outs, .ref m_text, .int 0, .int 0, .int 0, .int 0, .int 0, .int 0, .int 0, .ref m_rows, .ref m_digits, .ref m_entries, .ref m_minors, .int 0, .int 0, .int 0, .int 0, .int 0, .int 0, .ref m_pointX, .ref m_pointH, .ref m_pointY, .ref m_those, .int 0, .int 0, .int 0, .int 0, .int 0, .ref m_does, .ref m_atomOf, .ref m_atomRel, .int 0, .int 0, .int 0, .ref m_signs, .ref m_stack, .ref m_xPoly, .ref m_xRoot, .int 0, .ref m_inBoth, .int 0, .ref m_truth, .int 0, .ref m_hasEnd, .ref m_belongs, .ref m_isSingle, .ref m_endPoly, .ref m_endRoot, .int 0, .ref m_small, .ref m_smallDegree, .int 0, .ref m_irreducible, .int 0, .ref m_stackOf, .int 0, .ref m_factorAt, .ref m_factorPower, .ref m_isKept, .ref m_keptPoly, .ref m_keptRoot, .int 0, .int 0, .int 0, .int 0, .int 0, .int 0]))] H := hP
    have hD : va_D A [(m_rows, .inl (cR, 3468, .inr (.inl fR))), (h0, .inr (12, [.ref m_mem, .int 232000, .int 0, .int 0, .int 0, .int 0, .int 0, .int 0, .int 0, .int 0, .int 0, .ref m_polys, .ref m_chains, .ref m_pairs, .int 0, .int 0, .int 0, .ref m_zeros, .ref m_tape, .ref m_outs, .ref m_text, .int 0, .int 0, .int 0, .int 0, .int 0, .int 0, .int 0, .ref m_rows, .ref m_digits, .ref m_entries, .ref m_minors, .int 0, .int 0, .int 0, .int 0, .int 0, .int 0, .ref m_pointX, .ref m_pointH, .ref m_pointY, .ref m_those, .int 0, .int 0, .int 0, .int 0, .int 0, .ref m_does, .ref m_atomOf, .ref m_atomRel, .int 0, .int 0, .int 0, .ref m_signs, .ref m_stack, .ref m_xPoly, .ref m_xRoot, .int 0, .ref m_inBoth, .int 0, .ref m_truth, .int 0, .ref m_hasEnd, .ref m_belongs, .ref m_isSingle, .ref m_endPoly, .ref m_endRoot, .int 0, .ref m_small, .ref m_smallDegree, .int 0, .ref m_irreducible, .int 0, .ref m_stackOf, .int 0, .ref m_factorAt, .ref m_factorPower, .ref m_isKept, .ref m_keptPoly, .ref m_keptRoot, .int 0, .int 0, .int 0, .int 0, .int 0, .int 0]))] := hD
    have hK : va_K (dC, dI) classes [(cR, .long)] s := hK
    refine lv_if_ne (tgt := 10) hx hb d_Model_factors_5 (by decide) (fun c_6 => absurd (by decide) c_6) (fun c_6 => ?_)
    refine lv_iconst (v := (-1)) hx hb d_Model_factors_8 (by decide) ?_
    have hP9 := hP.sub (ws' := []) [] rfl
    have hD9 := hD.sub (ws' := []) [] (by decide) rfl
    have hK9 := hK.sub (tys' := []) [] rfl
    exact W.iret (v := (-1)) hx hb hr (fun t ht hW => ⟨⟨(-1), (), rfl, (if_neg hn0).symm, by rw [ht]; exact hP9, va_K.moved hW.alike hK9, hD9⟩, hS.F ht⟩) hS.2.2 d_Model_factors_9
