theorem tw_624 : (.fieldLink "RealHouse" 180 "RealHouse" "rootCount" "I" : Cond) ∈ lw_g := tb_at (i := 624) (by decide +kernel) rfl
theorem tw_628 : (.fieldLink "RealHouse" 223 "RealHouse" "spots" "I" : Cond) ∈ lw_g := tb_at (i := 628) (by decide +kernel) rfl
theorem tw_631 : (.fieldLink "RealHouse" 277 "RealHouse" "pieces" "I" : Cond) ∈ lw_g := tb_at (i := 631) (by decide +kernel) rfl
theorem tw_634 : (.fieldLink "RealHouse" 283 "RealHouse" "parts" "I" : Cond) ∈ lw_g := tb_at (i := 634) (by decide +kernel) rfl
theorem tw_1549 : (.methodLink "RealHouse" 300 ⟨"RealHouse", "isNoNumber", "(I)Z"⟩ : Cond) ∈ lw_g := tb_at (i := 1549) (by decide +kernel) rfl
theorem tw_1551 : (.instanceMethod ⟨"RealHouse", "isNoNumber", "(I)Z"⟩ : Cond) ∈ lw_g := tb_at (i := 1551) (by decide +kernel) rfl
theorem tw_621 : (.fieldLink "RealHouse" 86 "RealHouse" "scriptSize" "I" : Cond) ∈ lw_g := tb_at (i := 621) (by decide +kernel) rfl
theorem tw_946 : (.methodLink "RealHouse" 157 ⟨"RealHouse", "readInX", "(IZ)I"⟩ : Cond) ∈ lw_g := tb_at (i := 946) (by decide +kernel) rfl
theorem tw_948 : (.instanceMethod ⟨"RealHouse", "readInX", "(IZ)I"⟩ : Cond) ∈ lw_g := tb_at (i := 948) (by decide +kernel) rfl
theorem tw_1387 : (.methodLink "RealHouse" 247 ⟨"RealHouse$Reader", "readQuantifiers", "()V"⟩ : Cond) ∈ lw_g := tb_at (i := 1387) (by decide +kernel) rfl
theorem tw_1389 : (.selects "RealHouse$Reader" ⟨"RealHouse$Reader", "readQuantifiers", "()V"⟩ ⟨"RealHouse$Reader", "readQuantifiers", "()V"⟩ : Cond) ∈ lw_g := tb_at (i := 1389) (by decide +kernel) rfl
theorem tw_1388 : (.instanceMethod ⟨"RealHouse$Reader", "readQuantifiers", "()V"⟩ : Cond) ∈ lw_g := tb_at (i := 1388) (by decide +kernel) rfl
theorem tw_1395 : (.methodLink "RealHouse" 250 ⟨"RealHouse$Reader", "readFormula", "()V"⟩ : Cond) ∈ lw_g := tb_at (i := 1395) (by decide +kernel) rfl
theorem tw_1397 : (.selects "RealHouse$Reader" ⟨"RealHouse$Reader", "readFormula", "()V"⟩ ⟨"RealHouse$Reader", "readFormula", "()V"⟩ : Cond) ∈ lw_g := tb_at (i := 1397) (by decide +kernel) rfl
theorem tw_1396 : (.instanceMethod ⟨"RealHouse$Reader", "readFormula", "()V"⟩ : Cond) ∈ lw_g := tb_at (i := 1396) (by decide +kernel) rfl
theorem tw_1512 : (.methodLink "RealHouse" 274 ⟨"RealHouse$Reader", "readOverY", "()V"⟩ : Cond) ∈ lw_g := tb_at (i := 1512) (by decide +kernel) rfl
theorem tw_1514 : (.selects "RealHouse$Reader" ⟨"RealHouse$Reader", "readOverY", "()V"⟩ ⟨"RealHouse$Reader", "readOverY", "()V"⟩ : Cond) ∈ lw_g := tb_at (i := 1514) (by decide +kernel) rfl
theorem tw_1513 : (.instanceMethod ⟨"RealHouse$Reader", "readOverY", "()V"⟩ : Cond) ∈ lw_g := tb_at (i := 1513) (by decide +kernel) rfl
abbrev b_House_times : ByteArray := prog_1_method_6_code
def y_House_times : MethodName := ⟨"RealHouse", "times", "(I)I"⟩
abbrev w_House_times : List Cond := .code y_House_times b_House_times 2 (some .int) :: lw_g
theorem g_House_times : GoodIn lw_g w_House_times := tb_good1 (tb_at (i := 1279) (by decide +kernel) rfl)
theorem d_House_times_0 : decode b_House_times 0 = .ok (.iload_n 1, 1) := by decide +kernel
theorem d_House_times_1 : decode b_House_times 1 = .ok (.ifCond .lt 20, 3) := by decide +kernel
theorem d_House_times_4 : decode b_House_times 4 = .ok (.iload_n 1, 1) := by decide +kernel
theorem d_House_times_5 : decode b_House_times 5 = .ok (.aload_n 0, 1) := by decide +kernel
theorem d_House_times_6 : decode b_House_times 6 = .ok (.getfield 180, 3) := by decide +kernel
theorem d_House_times_9 : decode b_House_times 9 = .ok (.if_icmp .ge 12, 3) := by decide +kernel
theorem d_House_times_21 : decode b_House_times 21 = .ok (.iconst (-1), 1) := by decide +kernel
theorem d_House_times_22 : decode b_House_times 22 = .ok (.ireturn, 1) := by decide +kernel
abbrev b_House_root : ByteArray := prog_1_method_7_code
def y_House_root : MethodName := ⟨"RealHouse", "root", "(II)I"⟩
abbrev w_House_root : List Cond := .code y_House_root b_House_root 3 (some .int) :: lw_g
theorem g_House_root : GoodIn lw_g w_House_root := tb_good1 (tb_at (i := 1283) (by decide +kernel) rfl)
theorem d_House_root_0 : decode b_House_root 0 = .ok (.iload_n 1, 1) := by decide +kernel
theorem d_House_root_1 : decode b_House_root 1 = .ok (.ifCond .lt 25, 3) := by decide +kernel
theorem d_House_root_4 : decode b_House_root 4 = .ok (.iload_n 1, 1) := by decide +kernel
theorem d_House_root_5 : decode b_House_root 5 = .ok (.aload_n 0, 1) := by decide +kernel
theorem d_House_root_6 : decode b_House_root 6 = .ok (.getfield 180, 3) := by decide +kernel
theorem d_House_root_9 : decode b_House_root 9 = .ok (.if_icmp .ge 17, 3) := by decide +kernel
theorem d_House_root_26 : decode b_House_root 26 = .ok (.iconst (-1), 1) := by decide +kernel
theorem d_House_root_27 : decode b_House_root 27 = .ok (.ireturn, 1) := by decide +kernel
abbrev b_House_signAt : ByteArray := prog_1_method_8_code
def y_House_signAt : MethodName := ⟨"RealHouse", "signAt", "(II)I"⟩
abbrev w_House_signAt : List Cond := .code y_House_signAt b_House_signAt 4 (some .int) :: lw_g
theorem g_House_signAt : GoodIn lw_g w_House_signAt := tb_good1 (tb_at (i := 1293) (by decide +kernel) rfl)
theorem d_House_signAt_0 : decode b_House_signAt 0 = .ok (.iload_n 1, 1) := by decide +kernel
theorem d_House_signAt_1 : decode b_House_signAt 1 = .ok (.ifCond .lt 11, 3) := by decide +kernel
theorem d_House_signAt_4 : decode b_House_signAt 4 = .ok (.iload_n 1, 1) := by decide +kernel
theorem d_House_signAt_5 : decode b_House_signAt 5 = .ok (.aload_n 0, 1) := by decide +kernel
theorem d_House_signAt_6 : decode b_House_signAt 6 = .ok (.getfield 180, 3) := by decide +kernel
theorem d_House_signAt_9 : decode b_House_signAt 9 = .ok (.if_icmp .lt 5, 3) := by decide +kernel
theorem d_House_signAt_12 : decode b_House_signAt 12 = .ok (.iconst (-1), 1) := by decide +kernel
theorem d_House_signAt_13 : decode b_House_signAt 13 = .ok (.ireturn, 1) := by decide +kernel
abbrev b_House_below : ByteArray := prog_1_method_9_code
def y_House_below : MethodName := ⟨"RealHouse", "below", "(II)I"⟩
abbrev w_House_below : List Cond := .code y_House_below b_House_below 6 (some .int) :: lw_g
theorem g_House_below : GoodIn lw_g w_House_below := tb_good1 (tb_at (i := 1298) (by decide +kernel) rfl)
theorem d_House_below_0 : decode b_House_below 0 = .ok (.iload_n 1, 1) := by decide +kernel
theorem d_House_below_1 : decode b_House_below 1 = .ok (.ifCond .lt 11, 3) := by decide +kernel
theorem d_House_below_4 : decode b_House_below 4 = .ok (.iload_n 1, 1) := by decide +kernel
theorem d_House_below_5 : decode b_House_below 5 = .ok (.aload_n 0, 1) := by decide +kernel
theorem d_House_below_6 : decode b_House_below 6 = .ok (.getfield 180, 3) := by decide +kernel
theorem d_House_below_9 : decode b_House_below 9 = .ok (.if_icmp .lt 5, 3) := by decide +kernel
theorem d_House_below_12 : decode b_House_below 12 = .ok (.iconst (-1), 1) := by decide +kernel
theorem d_House_below_13 : decode b_House_below 13 = .ok (.ireturn, 1) := by decide +kernel
abbrev b_House_point : ByteArray := prog_1_method_11_code
def y_House_point : MethodName := ⟨"RealHouse", "point", "(III)I"⟩
abbrev w_House_point : List Cond := .code y_House_point b_House_point 4 (some .int) :: lw_g
theorem g_House_point : GoodIn lw_g w_House_point := tb_good1 (tb_at (i := 1372) (by decide +kernel) rfl)
theorem d_House_point_0 : decode b_House_point 0 = .ok (.iload_n 1, 1) := by decide +kernel
theorem d_House_point_1 : decode b_House_point 1 = .ok (.ifCond .lt 20, 3) := by decide +kernel
theorem d_House_point_4 : decode b_House_point 4 = .ok (.iload_n 1, 1) := by decide +kernel
theorem d_House_point_5 : decode b_House_point 5 = .ok (.aload_n 0, 1) := by decide +kernel
theorem d_House_point_6 : decode b_House_point 6 = .ok (.getfield 223, 3) := by decide +kernel
theorem d_House_point_9 : decode b_House_point 9 = .ok (.if_icmp .ge 12, 3) := by decide +kernel
theorem d_House_point_21 : decode b_House_point 21 = .ok (.iconst (-1), 1) := by decide +kernel
theorem d_House_point_22 : decode b_House_point 22 = .ok (.ireturn, 1) := by decide +kernel
abbrev b_House_signAtPoint : ByteArray := prog_1_method_12_code
def y_House_signAtPoint : MethodName := ⟨"RealHouse", "signAtPoint", "(II)I"⟩
abbrev w_House_signAtPoint : List Cond := .code y_House_signAtPoint b_House_signAtPoint 3 (some .int) :: lw_g
theorem g_House_signAtPoint : GoodIn lw_g w_House_signAtPoint := tb_good1 (tb_at (i := 1376) (by decide +kernel) rfl)
theorem d_House_signAtPoint_0 : decode b_House_signAtPoint 0 = .ok (.iload_n 1, 1) := by decide +kernel
theorem d_House_signAtPoint_1 : decode b_House_signAtPoint 1 = .ok (.ifCond .lt 19, 3) := by decide +kernel
theorem d_House_signAtPoint_4 : decode b_House_signAtPoint 4 = .ok (.iload_n 1, 1) := by decide +kernel
theorem d_House_signAtPoint_5 : decode b_House_signAtPoint 5 = .ok (.aload_n 0, 1) := by decide +kernel
theorem d_House_signAtPoint_6 : decode b_House_signAtPoint 6 = .ok (.getfield 223, 3) := by decide +kernel
theorem d_House_signAtPoint_9 : decode b_House_signAtPoint 9 = .ok (.if_icmp .ge 11, 3) := by decide +kernel
theorem d_House_signAtPoint_20 : decode b_House_signAtPoint 20 = .ok (.iconst (-1), 1) := by decide +kernel
theorem d_House_signAtPoint_21 : decode b_House_signAtPoint 21 = .ok (.ireturn, 1) := by decide +kernel
abbrev b_House_piece : ByteArray := prog_1_method_15_code
def y_House_piece : MethodName := ⟨"RealHouse", "piece", "(II)I"⟩
abbrev w_House_piece : List Cond := .code y_House_piece b_House_piece 6 (some .int) :: lw_g
theorem g_House_piece : GoodIn lw_g w_House_piece := tb_good1 (tb_at (i := 1519) (by decide +kernel) rfl)
theorem d_House_piece_0 : decode b_House_piece 0 = .ok (.iload_n 1, 1) := by decide +kernel
theorem d_House_piece_1 : decode b_House_piece 1 = .ok (.ifCond .lt 20, 3) := by decide +kernel
theorem d_House_piece_4 : decode b_House_piece 4 = .ok (.iload_n 1, 1) := by decide +kernel
theorem d_House_piece_5 : decode b_House_piece 5 = .ok (.aload_n 0, 1) := by decide +kernel
theorem d_House_piece_6 : decode b_House_piece 6 = .ok (.getfield 277, 3) := by decide +kernel
theorem d_House_piece_9 : decode b_House_piece 9 = .ok (.if_icmp .ge 12, 3) := by decide +kernel
theorem d_House_piece_21 : decode b_House_piece 21 = .ok (.iconst (-1), 1) := by decide +kernel
theorem d_House_piece_22 : decode b_House_piece 22 = .ok (.ireturn, 1) := by decide +kernel
abbrev b_House_edge : ByteArray := prog_1_method_16_code
def y_House_edge : MethodName := ⟨"RealHouse", "edge", "(III)I"⟩
abbrev w_House_edge : List Cond := .code y_House_edge b_House_edge 5 (some .int) :: lw_g
theorem g_House_edge : GoodIn lw_g w_House_edge := tb_good1 (tb_at (i := 1523) (by decide +kernel) rfl)
theorem d_House_edge_0 : decode b_House_edge 0 = .ok (.iload_n 1, 1) := by decide +kernel
theorem d_House_edge_1 : decode b_House_edge 1 = .ok (.ifCond .lt 20, 3) := by decide +kernel
theorem d_House_edge_4 : decode b_House_edge 4 = .ok (.iload_n 1, 1) := by decide +kernel
theorem d_House_edge_5 : decode b_House_edge 5 = .ok (.aload_n 0, 1) := by decide +kernel
theorem d_House_edge_6 : decode b_House_edge 6 = .ok (.getfield 277, 3) := by decide +kernel
theorem d_House_edge_9 : decode b_House_edge 9 = .ok (.if_icmp .ge 12, 3) := by decide +kernel
theorem d_House_edge_21 : decode b_House_edge 21 = .ok (.iconst (-1), 1) := by decide +kernel
theorem d_House_edge_22 : decode b_House_edge 22 = .ok (.ireturn, 1) := by decide +kernel
abbrev b_House_factor : ByteArray := prog_1_method_18_code
def y_House_factor : MethodName := ⟨"RealHouse", "factor", "(I)I"⟩
abbrev w_House_factor : List Cond := .code y_House_factor b_House_factor 2 (some .int) :: lw_g
theorem g_House_factor : GoodIn lw_g w_House_factor := tb_good1 (tb_at (i := 1532) (by decide +kernel) rfl)
theorem d_House_factor_0 : decode b_House_factor 0 = .ok (.iload_n 1, 1) := by decide +kernel
theorem d_House_factor_1 : decode b_House_factor 1 = .ok (.ifCond .lt 24, 3) := by decide +kernel
theorem d_House_factor_4 : decode b_House_factor 4 = .ok (.iload_n 1, 1) := by decide +kernel
theorem d_House_factor_5 : decode b_House_factor 5 = .ok (.aload_n 0, 1) := by decide +kernel
theorem d_House_factor_6 : decode b_House_factor 6 = .ok (.getfield 283, 3) := by decide +kernel
theorem d_House_factor_9 : decode b_House_factor 9 = .ok (.if_icmp .ge 16, 3) := by decide +kernel
theorem d_House_factor_25 : decode b_House_factor 25 = .ok (.iconst (-1), 1) := by decide +kernel
theorem d_House_factor_26 : decode b_House_factor 26 = .ok (.ireturn, 1) := by decide +kernel
abbrev b_House_power : ByteArray := prog_1_method_19_code
def y_House_power : MethodName := ⟨"RealHouse", "power", "(I)I"⟩
abbrev w_House_power : List Cond := .code y_House_power b_House_power 2 (some .int) :: lw_g
theorem g_House_power : GoodIn lw_g w_House_power := tb_good1 (tb_at (i := 1540) (by decide +kernel) rfl)
theorem d_House_power_0 : decode b_House_power 0 = .ok (.iload_n 1, 1) := by decide +kernel
theorem d_House_power_1 : decode b_House_power 1 = .ok (.ifCond .lt 20, 3) := by decide +kernel
theorem d_House_power_4 : decode b_House_power 4 = .ok (.iload_n 1, 1) := by decide +kernel
theorem d_House_power_5 : decode b_House_power 5 = .ok (.aload_n 0, 1) := by decide +kernel
theorem d_House_power_6 : decode b_House_power 6 = .ok (.getfield 283, 3) := by decide +kernel
theorem d_House_power_9 : decode b_House_power 9 = .ok (.if_icmp .ge 12, 3) := by decide +kernel
theorem d_House_power_21 : decode b_House_power 21 = .ok (.iconst (-1), 1) := by decide +kernel
theorem d_House_power_22 : decode b_House_power 22 = .ok (.ireturn, 1) := by decide +kernel
abbrev b_House_hold : ByteArray := prog_1_method_20_code
def y_House_hold : MethodName := ⟨"RealHouse", "hold", "(II)I"⟩
abbrev w_House_hold : List Cond := .code y_House_hold b_House_hold 3 (some .int) :: lw_g
theorem g_House_hold : GoodIn lw_g w_House_hold := tb_good1 (tb_at (i := 1544) (by decide +kernel) rfl)
theorem d_House_hold_0 : decode b_House_hold 0 = .ok (.iload_n 1, 1) := by decide +kernel
theorem d_House_hold_1 : decode b_House_hold 1 = .ok (.ifCond .lt 21, 3) := by decide +kernel
theorem d_House_hold_4 : decode b_House_hold 4 = .ok (.iload_n 1, 1) := by decide +kernel
theorem d_House_hold_5 : decode b_House_hold 5 = .ok (.bipush 8, 2) := by decide +kernel
theorem d_House_hold_7 : decode b_House_hold 7 = .ok (.if_icmp .ge 15, 3) := by decide +kernel
theorem d_House_hold_10 : decode b_House_hold 10 = .ok (.iload_n 2, 1) := by decide +kernel
theorem d_House_hold_11 : decode b_House_hold 11 = .ok (.ifCond .lt 11, 3) := by decide +kernel
theorem d_House_hold_14 : decode b_House_hold 14 = .ok (.iload_n 2, 1) := by decide +kernel
theorem d_House_hold_15 : decode b_House_hold 15 = .ok (.aload_n 0, 1) := by decide +kernel
theorem d_House_hold_16 : decode b_House_hold 16 = .ok (.getfield 180, 3) := by decide +kernel
theorem d_House_hold_19 : decode b_House_hold 19 = .ok (.if_icmp .lt 5, 3) := by decide +kernel
theorem d_House_hold_22 : decode b_House_hold 22 = .ok (.iconst (-1), 1) := by decide +kernel
theorem d_House_hold_23 : decode b_House_hold 23 = .ok (.ireturn, 1) := by decide +kernel
abbrev b_House_reckon : ByteArray := prog_1_method_21_code
def y_House_reckon : MethodName := ⟨"RealHouse", "reckon", "(IIII)I"⟩
abbrev w_House_reckon : List Cond := .code y_House_reckon b_House_reckon 10 (some .int) :: lw_g
theorem g_House_reckon : GoodIn lw_g w_House_reckon := tb_good1 (tb_at (i := 1548) (by decide +kernel) rfl)
theorem d_House_reckon_0 : decode b_House_reckon 0 = .ok (.iload_n 1, 1) := by decide +kernel
theorem d_House_reckon_1 : decode b_House_reckon 1 = .ok (.ifCond .lt 35, 3) := by decide +kernel
theorem d_House_reckon_4 : decode b_House_reckon 4 = .ok (.iload_n 1, 1) := by decide +kernel
theorem d_House_reckon_5 : decode b_House_reckon 5 = .ok (.bipush 8, 2) := by decide +kernel
theorem d_House_reckon_7 : decode b_House_reckon 7 = .ok (.if_icmp .ge 29, 3) := by decide +kernel
theorem d_House_reckon_10 : decode b_House_reckon 10 = .ok (.iload_n 2, 1) := by decide +kernel
theorem d_House_reckon_11 : decode b_House_reckon 11 = .ok (.ifCond .lt 25, 3) := by decide +kernel
theorem d_House_reckon_14 : decode b_House_reckon 14 = .ok (.iload_n 2, 1) := by decide +kernel
theorem d_House_reckon_15 : decode b_House_reckon 15 = .ok (.iconst 3, 1) := by decide +kernel
theorem d_House_reckon_16 : decode b_House_reckon 16 = .ok (.if_icmp .gt 20, 3) := by decide +kernel
theorem d_House_reckon_19 : decode b_House_reckon 19 = .ok (.aload_n 0, 1) := by decide +kernel
theorem d_House_reckon_20 : decode b_House_reckon 20 = .ok (.iload_n 3, 1) := by decide +kernel
theorem d_House_reckon_21 : decode b_House_reckon 21 = .ok (.invokevirtual 300, 3) := by decide +kernel
theorem d_House_reckon_24 : decode b_House_reckon 24 = .ok (.ifCond .ne 12, 3) := by decide +kernel
theorem d_House_reckon_36 : decode b_House_reckon 36 = .ok (.iconst (-1), 1) := by decide +kernel
theorem d_House_reckon_37 : decode b_House_reckon 37 = .ok (.ireturn, 1) := by decide +kernel
abbrev b_House_least : ByteArray := prog_1_method_22_code
def y_House_least : MethodName := ⟨"RealHouse", "least", "(I)I"⟩
abbrev w_House_least : List Cond := .code y_House_least b_House_least 2 (some .int) :: lw_g
theorem g_House_least : GoodIn lw_g w_House_least := tb_good1 (tb_at (i := 1584) (by decide +kernel) rfl)
theorem d_House_least_0 : decode b_House_least 0 = .ok (.aload_n 0, 1) := by decide +kernel
theorem d_House_least_1 : decode b_House_least 1 = .ok (.iload_n 1, 1) := by decide +kernel
theorem d_House_least_2 : decode b_House_least 2 = .ok (.invokevirtual 300, 3) := by decide +kernel
theorem d_House_least_5 : decode b_House_least 5 = .ok (.ifCond .eq 7, 3) := by decide +kernel
theorem d_House_least_8 : decode b_House_least 8 = .ok (.iconst (-1), 1) := by decide +kernel
theorem d_House_least_9 : decode b_House_least 9 = .ok (.goto 16, 3) := by decide +kernel
theorem d_House_least_25 : decode b_House_least 25 = .ok (.ireturn, 1) := by decide +kernel
abbrev b_House_number : ByteArray := prog_1_method_23_code
def y_House_number : MethodName := ⟨"RealHouse", "number", "(II)I"⟩
abbrev w_House_number : List Cond := .code y_House_number b_House_number 3 (some .int) :: lw_g
theorem g_House_number : GoodIn lw_g w_House_number := tb_good1 (tb_at (i := 1588) (by decide +kernel) rfl)
theorem d_House_number_0 : decode b_House_number 0 = .ok (.aload_n 0, 1) := by decide +kernel
theorem d_House_number_1 : decode b_House_number 1 = .ok (.iload_n 1, 1) := by decide +kernel
theorem d_House_number_2 : decode b_House_number 2 = .ok (.invokevirtual 300, 3) := by decide +kernel
theorem d_House_number_5 : decode b_House_number 5 = .ok (.ifCond .eq 7, 3) := by decide +kernel
theorem d_House_number_8 : decode b_House_number 8 = .ok (.iconst (-1), 1) := by decide +kernel
theorem d_House_number_9 : decode b_House_number 9 = .ok (.goto 14, 3) := by decide +kernel
theorem d_House_number_23 : decode b_House_number 23 = .ok (.ireturn, 1) := by decide +kernel
abbrev b_House_compare : ByteArray := prog_1_method_24_code
def y_House_compare : MethodName := ⟨"RealHouse", "compare", "(II)I"⟩
abbrev w_House_compare : List Cond := .code y_House_compare b_House_compare 3 (some .int) :: lw_g
theorem g_House_compare : GoodIn lw_g w_House_compare := tb_good1 (tb_at (i := 1592) (by decide +kernel) rfl)
theorem d_House_compare_0 : decode b_House_compare 0 = .ok (.aload_n 0, 1) := by decide +kernel
theorem d_House_compare_1 : decode b_House_compare 1 = .ok (.iload_n 1, 1) := by decide +kernel
theorem d_House_compare_2 : decode b_House_compare 2 = .ok (.invokevirtual 300, 3) := by decide +kernel
theorem d_House_compare_5 : decode b_House_compare 5 = .ok (.ifCond .ne 11, 3) := by decide +kernel
theorem d_House_compare_16 : decode b_House_compare 16 = .ok (.iconst (-1), 1) := by decide +kernel
theorem d_House_compare_17 : decode b_House_compare 17 = .ok (.goto 20, 3) := by decide +kernel
theorem d_House_compare_37 : decode b_House_compare 37 = .ok (.ireturn, 1) := by decide +kernel
abbrev b_House_out : ByteArray := prog_1_method_3_code
def y_House_out : MethodName := ⟨"RealHouse", "out", "(I)I"⟩
abbrev w_House_out : List Cond := .code y_House_out b_House_out 2 (some .int) :: lw_g
theorem g_House_out : GoodIn lw_g w_House_out := tb_good1 (tb_at (i := 690) (by decide +kernel) rfl)
theorem d_House_out_0 : decode b_House_out 0 = .ok (.iload_n 1, 1) := by decide +kernel
theorem d_House_out_1 : decode b_House_out 1 = .ok (.iconst (-1), 1) := by decide +kernel
theorem d_House_out_2 : decode b_House_out 2 = .ok (.if_icmp .ne 8, 3) := by decide +kernel
theorem d_House_out_5 : decode b_House_out 5 = .ok (.aload_n 0, 1) := by decide +kernel
theorem d_House_out_6 : decode b_House_out 6 = .ok (.getfield 86, 3) := by decide +kernel
theorem d_House_out_9 : decode b_House_out 9 = .ok (.ireturn, 1) := by decide +kernel
theorem d_House_out_10 : decode b_House_out 10 = .ok (.iload_n 1, 1) := by decide +kernel
theorem d_House_out_11 : decode b_House_out 11 = .ok (.ifCond .lt 20, 3) := by decide +kernel
theorem d_House_out_14 : decode b_House_out 14 = .ok (.iload_n 1, 1) := by decide +kernel
theorem d_House_out_15 : decode b_House_out 15 = .ok (.aload_n 0, 1) := by decide +kernel
theorem d_House_out_16 : decode b_House_out 16 = .ok (.getfield 86, 3) := by decide +kernel
theorem d_House_out_19 : decode b_House_out 19 = .ok (.if_icmp .ge 12, 3) := by decide +kernel
theorem d_House_out_31 : decode b_House_out 31 = .ok (.iconst (-1), 1) := by decide +kernel
theorem d_House_out_32 : decode b_House_out 32 = .ok (.ireturn, 1) := by decide +kernel
abbrev b_House_roots : ByteArray := prog_1_method_5_code
def y_House_roots : MethodName := ⟨"RealHouse", "roots", "(I)I"⟩
abbrev w_House_roots : List Cond := .code y_House_roots b_House_roots 4 (some .int) :: lw_g
theorem g_House_roots : GoodIn lw_g w_House_roots := tb_good1 (tb_at (i := 945) (by decide +kernel) rfl)
theorem d_House_roots_0 : decode b_House_roots 0 = .ok (.aload_n 0, 1) := by decide +kernel
theorem d_House_roots_1 : decode b_House_roots 1 = .ok (.iload_n 1, 1) := by decide +kernel
theorem d_House_roots_2 : decode b_House_roots 2 = .ok (.iconst 1, 1) := by decide +kernel
theorem d_House_roots_3 : decode b_House_roots 3 = .ok (.invokevirtual 157, 3) := by decide +kernel
theorem d_House_roots_6 : decode b_House_roots 6 = .ok (.istore_n 2, 1) := by decide +kernel
theorem d_House_roots_7 : decode b_House_roots 7 = .ok (.iload_n 2, 1) := by decide +kernel
theorem d_House_roots_8 : decode b_House_roots 8 = .ok (.ifCond .ge 5, 3) := by decide +kernel
theorem d_House_roots_11 : decode b_House_roots 11 = .ok (.iload_n 2, 1) := by decide +kernel
theorem d_House_roots_12 : decode b_House_roots 12 = .ok (.ireturn, 1) := by decide +kernel
abbrev b_House_factors : ByteArray := prog_1_method_17_code
def y_House_factors : MethodName := ⟨"RealHouse", "factors", "(I)I"⟩
abbrev w_House_factors : List Cond := .code y_House_factors b_House_factors 5 (some .int) :: lw_g
theorem g_House_factors : GoodIn lw_g w_House_factors := tb_good1 (tb_at (i := 1527) (by decide +kernel) rfl)
theorem d_House_factors_0 : decode b_House_factors 0 = .ok (.aload_n 0, 1) := by decide +kernel
theorem d_House_factors_1 : decode b_House_factors 1 = .ok (.iload_n 1, 1) := by decide +kernel
theorem d_House_factors_2 : decode b_House_factors 2 = .ok (.iconst 1, 1) := by decide +kernel
theorem d_House_factors_3 : decode b_House_factors 3 = .ok (.invokevirtual 157, 3) := by decide +kernel
theorem d_House_factors_6 : decode b_House_factors 6 = .ok (.istore_n 2, 1) := by decide +kernel
theorem d_House_factors_7 : decode b_House_factors 7 = .ok (.iload_n 2, 1) := by decide +kernel
theorem d_House_factors_8 : decode b_House_factors 8 = .ok (.ifCond .ge 5, 3) := by decide +kernel
theorem d_House_factors_11 : decode b_House_factors 11 = .ok (.iload_n 2, 1) := by decide +kernel
theorem d_House_factors_12 : decode b_House_factors 12 = .ok (.ireturn, 1) := by decide +kernel
abbrev b_House_points : ByteArray := prog_1_method_10_code
def y_House_points : MethodName := ⟨"RealHouse", "points", "(I)I"⟩
abbrev w_House_points : List Cond := .code y_House_points b_House_points 6 (some .int) :: lw_g
theorem g_House_points : GoodIn lw_g w_House_points := tb_good1 (tb_at (i := 1303) (by decide +kernel) rfl)
theorem d_House_points_0 : decode b_House_points 0 = .ok (.aload_n 0, 1) := by decide +kernel
theorem d_House_points_1 : decode b_House_points 1 = .ok (.iload_n 1, 1) := by decide +kernel
theorem d_House_points_2 : decode b_House_points 2 = .ok (.invokevirtual 89, 3) := by decide +kernel
theorem d_House_points_5 : decode b_House_points 5 = .ok (.ifCond .eq 5, 3) := by decide +kernel
theorem d_House_points_8 : decode b_House_points 8 = .ok (.iconst (-1), 1) := by decide +kernel
theorem d_House_points_9 : decode b_House_points 9 = .ok (.ireturn, 1) := by decide +kernel
theorem d_House_points_10 : decode b_House_points 10 = .ok (.aload_n 0, 1) := by decide +kernel
theorem d_House_points_11 : decode b_House_points 11 = .ok (.getfield 67, 3) := by decide +kernel
theorem d_House_points_14 : decode b_House_points 14 = .ok (.aload_n 0, 1) := by decide +kernel
theorem d_House_points_15 : decode b_House_points 15 = .ok (.getfield 9, 3) := by decide +kernel
theorem d_House_points_18 : decode b_House_points 18 = .ok (.iload_n 1, 1) := by decide +kernel
theorem d_House_points_19 : decode b_House_points 19 = .ok (.iconst 1, 1) := by decide +kernel
theorem d_House_points_20 : decode b_House_points 20 = .ok (.iconst 1, 1) := by decide +kernel
theorem d_House_points_21 : decode b_House_points 21 = .ok (.invokevirtual 93, 3) := by decide +kernel
theorem d_House_points_24 : decode b_House_points 24 = .ok (.aload_n 0, 1) := by decide +kernel
theorem d_House_points_25 : decode b_House_points 25 = .ok (.getfield 67, 3) := by decide +kernel
theorem d_House_points_28 : decode b_House_points 28 = .ok (.iconst 1, 1) := by decide +kernel
theorem d_House_points_29 : decode b_House_points 29 = .ok (.invokevirtual 97, 3) := by decide +kernel
theorem d_House_points_32 : decode b_House_points 32 = .ok (.aload_n 0, 1) := by decide +kernel
theorem d_House_points_33 : decode b_House_points 33 = .ok (.getfield 67, 3) := by decide +kernel
theorem d_House_points_36 : decode b_House_points 36 = .ok (.getfield 101, 3) := by decide +kernel
theorem d_House_points_39 : decode b_House_points 39 = .ok (.ifCond .lt 8, 3) := by decide +kernel
theorem d_House_points_42 : decode b_House_points 42 = .ok (.aload_n 0, 1) := by decide +kernel
theorem d_House_points_43 : decode b_House_points 43 = .ok (.invokevirtual 104, 3) := by decide +kernel
theorem d_House_points_46 : decode b_House_points 46 = .ok (.ireturn, 1) := by decide +kernel
abbrev b_House_decide : ByteArray := prog_1_method_13_code
def y_House_decide : MethodName := ⟨"RealHouse", "decide", "(I)I"⟩
abbrev w_House_decide : List Cond := .code y_House_decide b_House_decide 6 (some .int) :: lw_g
theorem g_House_decide : GoodIn lw_g w_House_decide := tb_good1 (tb_at (i := 1386) (by decide +kernel) rfl)
theorem d_House_decide_0 : decode b_House_decide 0 = .ok (.aload_n 0, 1) := by decide +kernel
theorem d_House_decide_1 : decode b_House_decide 1 = .ok (.iload_n 1, 1) := by decide +kernel
theorem d_House_decide_2 : decode b_House_decide 2 = .ok (.invokevirtual 89, 3) := by decide +kernel
theorem d_House_decide_5 : decode b_House_decide 5 = .ok (.ifCond .eq 5, 3) := by decide +kernel
theorem d_House_decide_8 : decode b_House_decide 8 = .ok (.iconst (-1), 1) := by decide +kernel
theorem d_House_decide_9 : decode b_House_decide 9 = .ok (.ireturn, 1) := by decide +kernel
theorem d_House_decide_10 : decode b_House_decide 10 = .ok (.aload_n 0, 1) := by decide +kernel
theorem d_House_decide_11 : decode b_House_decide 11 = .ok (.getfield 67, 3) := by decide +kernel
theorem d_House_decide_14 : decode b_House_decide 14 = .ok (.aload_n 0, 1) := by decide +kernel
theorem d_House_decide_15 : decode b_House_decide 15 = .ok (.getfield 9, 3) := by decide +kernel
theorem d_House_decide_18 : decode b_House_decide 18 = .ok (.iload_n 1, 1) := by decide +kernel
theorem d_House_decide_19 : decode b_House_decide 19 = .ok (.iconst 0, 1) := by decide +kernel
theorem d_House_decide_20 : decode b_House_decide 20 = .ok (.iconst 0, 1) := by decide +kernel
theorem d_House_decide_21 : decode b_House_decide 21 = .ok (.invokevirtual 93, 3) := by decide +kernel
theorem d_House_decide_24 : decode b_House_decide 24 = .ok (.aload_n 0, 1) := by decide +kernel
theorem d_House_decide_25 : decode b_House_decide 25 = .ok (.getfield 67, 3) := by decide +kernel
theorem d_House_decide_28 : decode b_House_decide 28 = .ok (.invokevirtual 247, 3) := by decide +kernel
theorem d_House_decide_31 : decode b_House_decide 31 = .ok (.aload_n 0, 1) := by decide +kernel
theorem d_House_decide_32 : decode b_House_decide 32 = .ok (.getfield 67, 3) := by decide +kernel
theorem d_House_decide_35 : decode b_House_decide 35 = .ok (.invokevirtual 250, 3) := by decide +kernel
theorem d_House_decide_38 : decode b_House_decide 38 = .ok (.aload_n 0, 1) := by decide +kernel
theorem d_House_decide_39 : decode b_House_decide 39 = .ok (.getfield 67, 3) := by decide +kernel
theorem d_House_decide_42 : decode b_House_decide 42 = .ok (.getfield 101, 3) := by decide +kernel
theorem d_House_decide_45 : decode b_House_decide 45 = .ok (.ifCond .lt 8, 3) := by decide +kernel
theorem d_House_decide_48 : decode b_House_decide 48 = .ok (.aload_n 0, 1) := by decide +kernel
theorem d_House_decide_49 : decode b_House_decide 49 = .ok (.invokevirtual 104, 3) := by decide +kernel
theorem d_House_decide_52 : decode b_House_decide 52 = .ok (.ireturn, 1) := by decide +kernel
abbrev b_House_solve : ByteArray := prog_1_method_14_code
def y_House_solve : MethodName := ⟨"RealHouse", "solve", "(I)I"⟩
abbrev w_House_solve : List Cond := .code y_House_solve b_House_solve 5 (some .int) :: lw_g
theorem g_House_solve : GoodIn lw_g w_House_solve := tb_good1 (tb_at (i := 1511) (by decide +kernel) rfl)
theorem d_House_solve_0 : decode b_House_solve 0 = .ok (.aload_n 0, 1) := by decide +kernel
theorem d_House_solve_1 : decode b_House_solve 1 = .ok (.iload_n 1, 1) := by decide +kernel
theorem d_House_solve_2 : decode b_House_solve 2 = .ok (.invokevirtual 89, 3) := by decide +kernel
theorem d_House_solve_5 : decode b_House_solve 5 = .ok (.ifCond .eq 5, 3) := by decide +kernel
theorem d_House_solve_8 : decode b_House_solve 8 = .ok (.iconst (-1), 1) := by decide +kernel
theorem d_House_solve_9 : decode b_House_solve 9 = .ok (.ireturn, 1) := by decide +kernel
theorem d_House_solve_10 : decode b_House_solve 10 = .ok (.aload_n 0, 1) := by decide +kernel
theorem d_House_solve_11 : decode b_House_solve 11 = .ok (.getfield 67, 3) := by decide +kernel
theorem d_House_solve_14 : decode b_House_solve 14 = .ok (.aload_n 0, 1) := by decide +kernel
theorem d_House_solve_15 : decode b_House_solve 15 = .ok (.getfield 9, 3) := by decide +kernel
theorem d_House_solve_18 : decode b_House_solve 18 = .ok (.iload_n 1, 1) := by decide +kernel
theorem d_House_solve_19 : decode b_House_solve 19 = .ok (.iconst 1, 1) := by decide +kernel
theorem d_House_solve_20 : decode b_House_solve 20 = .ok (.iconst 0, 1) := by decide +kernel
theorem d_House_solve_21 : decode b_House_solve 21 = .ok (.invokevirtual 93, 3) := by decide +kernel
theorem d_House_solve_24 : decode b_House_solve 24 = .ok (.aload_n 0, 1) := by decide +kernel
theorem d_House_solve_25 : decode b_House_solve 25 = .ok (.getfield 67, 3) := by decide +kernel
theorem d_House_solve_28 : decode b_House_solve 28 = .ok (.invokevirtual 274, 3) := by decide +kernel
theorem d_House_solve_31 : decode b_House_solve 31 = .ok (.aload_n 0, 1) := by decide +kernel
theorem d_House_solve_32 : decode b_House_solve 32 = .ok (.getfield 67, 3) := by decide +kernel
theorem d_House_solve_35 : decode b_House_solve 35 = .ok (.invokevirtual 250, 3) := by decide +kernel
theorem d_House_solve_38 : decode b_House_solve 38 = .ok (.aload_n 0, 1) := by decide +kernel
theorem d_House_solve_39 : decode b_House_solve 39 = .ok (.getfield 67, 3) := by decide +kernel
theorem d_House_solve_42 : decode b_House_solve 42 = .ok (.getfield 101, 3) := by decide +kernel
theorem d_House_solve_45 : decode b_House_solve 45 = .ok (.ifCond .lt 8, 3) := by decide +kernel
theorem d_House_solve_48 : decode b_House_solve 48 = .ok (.aload_n 0, 1) := by decide +kernel
theorem d_House_solve_49 : decode b_House_solve 49 = .ok (.invokevirtual 104, 3) := by decide +kernel
theorem d_House_solve_52 : decode b_House_solve 52 = .ok (.ireturn, 1) := by decide +kernel
set_option maxHeartbeats 4000000 in
set_option maxRecDepth 100000 in
/-- times on a fresh house -/
theorem c_House_times_0 (l : Launch) (dC : Nat → ClassId) (dI : Nat → Nat → Nat) (sz : Nat) (h0 : Nat) (x_desk : Nat) (x_reader : Nat) (x_cells : Nat) (x_tape : Nat) (x_script : Nat) (x_rootAt : Nat) (x_rootTimes : Nat) (x_spotX : Nat) (x_spotY : Nat) (x_bond : Nat) (x_end : Nat) (x_span : Nat) (x_part : Nat) (x_partPower : Nat) (x_kept : Nat) (a1 : Int32)  : Met l y_House_times w_House_times ({ frames := 0, cells := 0, slots := 0, locals := 0 }) (va_Pc [.ref h0, .int a1] (fun U => U.heap.size = sz ∧ va_P (dC, dI) classes [(h0, .inr (11, [.ref x_desk, .ref x_reader, .ref x_cells, .ref x_tape, .int 0, .ref x_script, .int 0, .ref x_rootAt, .ref x_rootTimes, .int 0, .ref x_spotX, .ref x_spotY, .ref x_bond, .int 0, .ref x_end, .ref x_span, .int 0, .ref x_part, .ref x_partPower, .int 0, .ref x_kept]))] U.heap ∧ va_K (dC, dI) classes [] U ∧ va_D (fun _ => True) [(h0, .inr (11, [.ref x_desk, .ref x_reader, .ref x_cells, .ref x_tape, .int 0, .ref x_script, .int 0, .ref x_rootAt, .ref x_rootTimes, .int 0, .ref x_spotX, .ref x_spotY, .ref x_bond, .int 0, .ref x_end, .ref x_span, .int 0, .ref x_part, .ref x_partPower, .int 0, .ref x_kept]))] ∧ nx_K U)) (va_Qi (fun (r : Int32) (_ : Unit) => r = (-1)) (fun _ t => va_P (dC, dI) classes [] t.heap ∧ va_K (dC, dI) classes [] t ∧ va_D (va_A [(h0, .inr (11, [.ref x_desk, .ref x_reader, .ref x_cells, .ref x_tape, .int 0, .ref x_script, .int 0, .ref x_rootAt, .ref x_rootTimes, .int 0, .ref x_spotX, .ref x_spotY, .ref x_bond, .int 0, .ref x_end, .ref x_span, .int 0, .ref x_part, .ref x_partPower, .int 0, .ref x_kept]))] sz) []) (va_A [(h0, .inr (11, [.ref x_desk, .ref x_reader, .ref x_cells, .ref x_tape, .int 0, .ref x_script, .int 0, .ref x_rootAt, .ref x_rootTimes, .int 0, .ref x_spotX, .ref x_spotY, .ref x_bond, .int 0, .ref x_end, .ref x_span, .int 0, .ref x_part, .ref x_partPower, .int 0, .ref x_kept]))] sz)) 0 0 (va_A [(h0, .inr (11, [.ref x_desk, .ref x_reader, .ref x_cells, .ref x_tape, .int 0, .ref x_script, .int 0, .ref x_rootAt, .ref x_rootTimes, .int 0, .ref x_spotX, .ref x_spotY, .ref x_bond, .int 0, .ref x_end, .ref x_span, .int 0, .ref x_part, .ref x_partPower, .int 0, .ref x_kept]))] sz) := by
  refine Met.ofW (cc := b_House_times) (maxL := 2) (ret := (some .int)) (by decide) rfl ?_
  intro p e s m args below meth c s₁ B hml hv
  obtain ⟨rfl, hsz, hP, hK, hD0, hN⟩ := hv
  have hx := B.exec
  have hb := B.bytes
  have hr := B.returns
  have hT : ∀ w ∈ lw_g, w.before _ s = true := fun w h => atoms_spec (ws := w_House_times) B.pre w (List.mem_cons_of_mem _ h)
  have hown : s.vm.findClass R_House = some m.cls := findClass_of_methodNamed B.named
  have hlocks := B.notSynchronized
  subst hsz
  have hD := hD0.self (sz := s.heap.size)
  generalize hAe : va_A [(h0, .inr (11, [.ref x_desk, .ref x_reader, .ref x_cells, .ref x_tape, .int 0, .ref x_script, .int 0, .ref x_rootAt, .ref x_rootTimes, .int 0, .ref x_spotX, .ref x_spotY, .ref x_bond, .int 0, .ref x_end, .ref x_span, .int 0, .ref x_part, .ref x_partPower, .int 0, .ref x_kept]))] s.heap.size = A at hD ⊢
  have hA : ∀ q : Nat, s.heap.size ≤ q → A q := fun q h => by rw [← hAe]; exact Or.inr h
  have hS : va_S A s.heap s.heap [] := va_S.rf
  have hP : va_P (dC, dI) classes [(h0, .inr (11, [.ref x_desk, .ref x_reader, .ref x_cells, .ref x_tape, .int 0, .ref x_script, .int 0, .ref x_rootAt, .ref x_rootTimes, .int 0, .ref x_spotX, .ref x_spotY, .ref x_bond, .int 0, .ref x_end, .ref x_span, .int 0, .ref x_part, .ref x_partPower, .int 0, .ref x_kept]))] s.heap := hP
  have hl := lv_entry ([.ref h0, .int a1]) (n := 2) (Nat.le_of_ble_eq_true rfl)
  rw [lg_entry_eq]
  generalize (lg_sl ([.ref h0, .int a1]) ++ List.replicate (2 - (lg_sl ([.ref h0, .int a1])).length) Slot.unset).toArray = ls at hl ⊢
  have hl : lv_has ls 2 [(0, .ref h0), (1, .int a1)] := hl
  refine lv_iload_n hx hb d_House_times_0 rfl (lv_at hl 1 rfl) ?_
  refine lv_if_lt (tgt := 21) hx hb d_House_times_1 (by decide) (fun c_1 => ?_) (fun c_1 => ?_)
  · refine lv_iconst (v := (-1)) hx hb d_House_times_21 (by decide) ?_
    have hP9 := hP.sub (ws' := []) [] rfl
    have hD9 := hD.sub (ws' := []) [] (by decide) rfl
    have hK9 := hK.sub (tys' := []) [] rfl
    exact W.iret (v := (-1)) hx hb hr (fun t ht hW => ⟨⟨(-1), (), rfl, rfl, by rw [ht]; exact hP9, va_K.moved hW.alike hK9, hD9⟩, hS.F ht⟩) hS.2.2 d_House_times_22
  · refine lv_iload_n hx hb d_House_times_4 rfl (lv_at hl 1 rfl) ?_
    refine lv_aload_n hx hb d_House_times_5 rfl (lv_at hl 0 rfl) ?_
    refine va_get (D := (dC, dI)) (ci := 11) (v := .int 0) (C := R_House) (T := F_House) (N := 21) hx hb hT i_House hown hK hP 0 rfl rfl 9 (by decide) (hT _ tw_624) (fun _ h9 => h9) rfl d_House_times_6 ?_
    refine lv_icmp_ge (tgt := 21) hx hb d_House_times_9 (by decide) (fun c_2 => ?_) (fun c_2 => absurd (Int32.not_lt.mp c_1) c_2)
    refine lv_iconst (v := (-1)) hx hb d_House_times_21 (by decide) ?_
    have hP9 := hP.sub (ws' := []) [] rfl
    have hD9 := hD.sub (ws' := []) [] (by decide) rfl
    have hK9 := hK.sub (tys' := []) [] rfl
    exact W.iret (v := (-1)) hx hb hr (fun t ht hW => ⟨⟨(-1), (), rfl, rfl, by rw [ht]; exact hP9, va_K.moved hW.alike hK9, hD9⟩, hS.F ht⟩) hS.2.2 d_House_times_22

set_option maxHeartbeats 4000000 in
set_option maxRecDepth 100000 in
/-- root on a fresh house -/
theorem c_House_root_0 (l : Launch) (dC : Nat → ClassId) (dI : Nat → Nat → Nat) (sz : Nat) (h0 : Nat) (x_desk : Nat) (x_reader : Nat) (x_cells : Nat) (x_tape : Nat) (x_script : Nat) (x_rootAt : Nat) (x_rootTimes : Nat) (x_spotX : Nat) (x_spotY : Nat) (x_bond : Nat) (x_end : Nat) (x_span : Nat) (x_part : Nat) (x_partPower : Nat) (x_kept : Nat) (a1 : Int32) (a2 : Int32)  : Met l y_House_root w_House_root ({ frames := 0, cells := 0, slots := 0, locals := 0 }) (va_Pc [.ref h0, .int a1, .int a2] (fun U => U.heap.size = sz ∧ va_P (dC, dI) classes [(h0, .inr (11, [.ref x_desk, .ref x_reader, .ref x_cells, .ref x_tape, .int 0, .ref x_script, .int 0, .ref x_rootAt, .ref x_rootTimes, .int 0, .ref x_spotX, .ref x_spotY, .ref x_bond, .int 0, .ref x_end, .ref x_span, .int 0, .ref x_part, .ref x_partPower, .int 0, .ref x_kept]))] U.heap ∧ va_K (dC, dI) classes [] U ∧ va_D (fun _ => True) [(h0, .inr (11, [.ref x_desk, .ref x_reader, .ref x_cells, .ref x_tape, .int 0, .ref x_script, .int 0, .ref x_rootAt, .ref x_rootTimes, .int 0, .ref x_spotX, .ref x_spotY, .ref x_bond, .int 0, .ref x_end, .ref x_span, .int 0, .ref x_part, .ref x_partPower, .int 0, .ref x_kept]))] ∧ nx_K U)) (va_Qi (fun (r : Int32) (_ : Unit) => r = (-1)) (fun _ t => va_P (dC, dI) classes [] t.heap ∧ va_K (dC, dI) classes [] t ∧ va_D (va_A [(h0, .inr (11, [.ref x_desk, .ref x_reader, .ref x_cells, .ref x_tape, .int 0, .ref x_script, .int 0, .ref x_rootAt, .ref x_rootTimes, .int 0, .ref x_spotX, .ref x_spotY, .ref x_bond, .int 0, .ref x_end, .ref x_span, .int 0, .ref x_part, .ref x_partPower, .int 0, .ref x_kept]))] sz) []) (va_A [(h0, .inr (11, [.ref x_desk, .ref x_reader, .ref x_cells, .ref x_tape, .int 0, .ref x_script, .int 0, .ref x_rootAt, .ref x_rootTimes, .int 0, .ref x_spotX, .ref x_spotY, .ref x_bond, .int 0, .ref x_end, .ref x_span, .int 0, .ref x_part, .ref x_partPower, .int 0, .ref x_kept]))] sz)) 0 0 (va_A [(h0, .inr (11, [.ref x_desk, .ref x_reader, .ref x_cells, .ref x_tape, .int 0, .ref x_script, .int 0, .ref x_rootAt, .ref x_rootTimes, .int 0, .ref x_spotX, .ref x_spotY, .ref x_bond, .int 0, .ref x_end, .ref x_span, .int 0, .ref x_part, .ref x_partPower, .int 0, .ref x_kept]))] sz) := by
  refine Met.ofW (cc := b_House_root) (maxL := 3) (ret := (some .int)) (by decide) rfl ?_
  intro p e s m args below meth c s₁ B hml hv
  obtain ⟨rfl, hsz, hP, hK, hD0, hN⟩ := hv
  have hx := B.exec
  have hb := B.bytes
  have hr := B.returns
  have hT : ∀ w ∈ lw_g, w.before _ s = true := fun w h => atoms_spec (ws := w_House_root) B.pre w (List.mem_cons_of_mem _ h)
  have hown : s.vm.findClass R_House = some m.cls := findClass_of_methodNamed B.named
  have hlocks := B.notSynchronized
  subst hsz
  have hD := hD0.self (sz := s.heap.size)
  generalize hAe : va_A [(h0, .inr (11, [.ref x_desk, .ref x_reader, .ref x_cells, .ref x_tape, .int 0, .ref x_script, .int 0, .ref x_rootAt, .ref x_rootTimes, .int 0, .ref x_spotX, .ref x_spotY, .ref x_bond, .int 0, .ref x_end, .ref x_span, .int 0, .ref x_part, .ref x_partPower, .int 0, .ref x_kept]))] s.heap.size = A at hD ⊢
  have hA : ∀ q : Nat, s.heap.size ≤ q → A q := fun q h => by rw [← hAe]; exact Or.inr h
  have hS : va_S A s.heap s.heap [] := va_S.rf
  have hP : va_P (dC, dI) classes [(h0, .inr (11, [.ref x_desk, .ref x_reader, .ref x_cells, .ref x_tape, .int 0, .ref x_script, .int 0, .ref x_rootAt, .ref x_rootTimes, .int 0, .ref x_spotX, .ref x_spotY, .ref x_bond, .int 0, .ref x_end, .ref x_span, .int 0, .ref x_part, .ref x_partPower, .int 0, .ref x_kept]))] s.heap := hP
  have hl := lv_entry ([.ref h0, .int a1, .int a2]) (n := 3) (Nat.le_of_ble_eq_true rfl)
  rw [lg_entry_eq]
  generalize (lg_sl ([.ref h0, .int a1, .int a2]) ++ List.replicate (3 - (lg_sl ([.ref h0, .int a1, .int a2])).length) Slot.unset).toArray = ls at hl ⊢
  have hl : lv_has ls 3 [(0, .ref h0), (1, .int a1), (2, .int a2)] := hl
  refine lv_iload_n hx hb d_House_root_0 rfl (lv_at hl 1 rfl) ?_
  refine lv_if_lt (tgt := 26) hx hb d_House_root_1 (by decide) (fun c_1 => ?_) (fun c_1 => ?_)
  · refine lv_iconst (v := (-1)) hx hb d_House_root_26 (by decide) ?_
    have hP9 := hP.sub (ws' := []) [] rfl
    have hD9 := hD.sub (ws' := []) [] (by decide) rfl
    have hK9 := hK.sub (tys' := []) [] rfl
    exact W.iret (v := (-1)) hx hb hr (fun t ht hW => ⟨⟨(-1), (), rfl, rfl, by rw [ht]; exact hP9, va_K.moved hW.alike hK9, hD9⟩, hS.F ht⟩) hS.2.2 d_House_root_27
  · refine lv_iload_n hx hb d_House_root_4 rfl (lv_at hl 1 rfl) ?_
    refine lv_aload_n hx hb d_House_root_5 rfl (lv_at hl 0 rfl) ?_
    refine va_get (D := (dC, dI)) (ci := 11) (v := .int 0) (C := R_House) (T := F_House) (N := 21) hx hb hT i_House hown hK hP 0 rfl rfl 9 (by decide) (hT _ tw_624) (fun _ h9 => h9) rfl d_House_root_6 ?_
    refine lv_icmp_ge (tgt := 26) hx hb d_House_root_9 (by decide) (fun c_2 => ?_) (fun c_2 => absurd (Int32.not_lt.mp c_1) c_2)
    refine lv_iconst (v := (-1)) hx hb d_House_root_26 (by decide) ?_
    have hP9 := hP.sub (ws' := []) [] rfl
    have hD9 := hD.sub (ws' := []) [] (by decide) rfl
    have hK9 := hK.sub (tys' := []) [] rfl
    exact W.iret (v := (-1)) hx hb hr (fun t ht hW => ⟨⟨(-1), (), rfl, rfl, by rw [ht]; exact hP9, va_K.moved hW.alike hK9, hD9⟩, hS.F ht⟩) hS.2.2 d_House_root_27

set_option maxHeartbeats 4000000 in
set_option maxRecDepth 100000 in
/-- signAt on a fresh house -/
theorem c_House_signAt_0 (l : Launch) (dC : Nat → ClassId) (dI : Nat → Nat → Nat) (sz : Nat) (h0 : Nat) (x_desk : Nat) (x_reader : Nat) (x_cells : Nat) (x_tape : Nat) (x_script : Nat) (x_rootAt : Nat) (x_rootTimes : Nat) (x_spotX : Nat) (x_spotY : Nat) (x_bond : Nat) (x_end : Nat) (x_span : Nat) (x_part : Nat) (x_partPower : Nat) (x_kept : Nat) (a1 : Int32) (a2 : Int32)  : Met l y_House_signAt w_House_signAt ({ frames := 0, cells := 0, slots := 0, locals := 0 }) (va_Pc [.ref h0, .int a1, .int a2] (fun U => U.heap.size = sz ∧ va_P (dC, dI) classes [(h0, .inr (11, [.ref x_desk, .ref x_reader, .ref x_cells, .ref x_tape, .int 0, .ref x_script, .int 0, .ref x_rootAt, .ref x_rootTimes, .int 0, .ref x_spotX, .ref x_spotY, .ref x_bond, .int 0, .ref x_end, .ref x_span, .int 0, .ref x_part, .ref x_partPower, .int 0, .ref x_kept]))] U.heap ∧ va_K (dC, dI) classes [] U ∧ va_D (fun _ => True) [(h0, .inr (11, [.ref x_desk, .ref x_reader, .ref x_cells, .ref x_tape, .int 0, .ref x_script, .int 0, .ref x_rootAt, .ref x_rootTimes, .int 0, .ref x_spotX, .ref x_spotY, .ref x_bond, .int 0, .ref x_end, .ref x_span, .int 0, .ref x_part, .ref x_partPower, .int 0, .ref x_kept]))] ∧ nx_K U)) (va_Qi (fun (r : Int32) (_ : Unit) => r = (-1)) (fun _ t => va_P (dC, dI) classes [] t.heap ∧ va_K (dC, dI) classes [] t ∧ va_D (va_A [(h0, .inr (11, [.ref x_desk, .ref x_reader, .ref x_cells, .ref x_tape, .int 0, .ref x_script, .int 0, .ref x_rootAt, .ref x_rootTimes, .int 0, .ref x_spotX, .ref x_spotY, .ref x_bond, .int 0, .ref x_end, .ref x_span, .int 0, .ref x_part, .ref x_partPower, .int 0, .ref x_kept]))] sz) []) (va_A [(h0, .inr (11, [.ref x_desk, .ref x_reader, .ref x_cells, .ref x_tape, .int 0, .ref x_script, .int 0, .ref x_rootAt, .ref x_rootTimes, .int 0, .ref x_spotX, .ref x_spotY, .ref x_bond, .int 0, .ref x_end, .ref x_span, .int 0, .ref x_part, .ref x_partPower, .int 0, .ref x_kept]))] sz)) 0 0 (va_A [(h0, .inr (11, [.ref x_desk, .ref x_reader, .ref x_cells, .ref x_tape, .int 0, .ref x_script, .int 0, .ref x_rootAt, .ref x_rootTimes, .int 0, .ref x_spotX, .ref x_spotY, .ref x_bond, .int 0, .ref x_end, .ref x_span, .int 0, .ref x_part, .ref x_partPower, .int 0, .ref x_kept]))] sz) := by
  refine Met.ofW (cc := b_House_signAt) (maxL := 4) (ret := (some .int)) (by decide) rfl ?_
  intro p e s m args below meth c s₁ B hml hv
  obtain ⟨rfl, hsz, hP, hK, hD0, hN⟩ := hv
  have hx := B.exec
  have hb := B.bytes
  have hr := B.returns
  have hT : ∀ w ∈ lw_g, w.before _ s = true := fun w h => atoms_spec (ws := w_House_signAt) B.pre w (List.mem_cons_of_mem _ h)
  have hown : s.vm.findClass R_House = some m.cls := findClass_of_methodNamed B.named
  have hlocks := B.notSynchronized
  subst hsz
  have hD := hD0.self (sz := s.heap.size)
  generalize hAe : va_A [(h0, .inr (11, [.ref x_desk, .ref x_reader, .ref x_cells, .ref x_tape, .int 0, .ref x_script, .int 0, .ref x_rootAt, .ref x_rootTimes, .int 0, .ref x_spotX, .ref x_spotY, .ref x_bond, .int 0, .ref x_end, .ref x_span, .int 0, .ref x_part, .ref x_partPower, .int 0, .ref x_kept]))] s.heap.size = A at hD ⊢
  have hA : ∀ q : Nat, s.heap.size ≤ q → A q := fun q h => by rw [← hAe]; exact Or.inr h
  have hS : va_S A s.heap s.heap [] := va_S.rf
  have hP : va_P (dC, dI) classes [(h0, .inr (11, [.ref x_desk, .ref x_reader, .ref x_cells, .ref x_tape, .int 0, .ref x_script, .int 0, .ref x_rootAt, .ref x_rootTimes, .int 0, .ref x_spotX, .ref x_spotY, .ref x_bond, .int 0, .ref x_end, .ref x_span, .int 0, .ref x_part, .ref x_partPower, .int 0, .ref x_kept]))] s.heap := hP
  have hl := lv_entry ([.ref h0, .int a1, .int a2]) (n := 4) (Nat.le_of_ble_eq_true rfl)
  rw [lg_entry_eq]
  generalize (lg_sl ([.ref h0, .int a1, .int a2]) ++ List.replicate (4 - (lg_sl ([.ref h0, .int a1, .int a2])).length) Slot.unset).toArray = ls at hl ⊢
  have hl : lv_has ls 4 [(0, .ref h0), (1, .int a1), (2, .int a2)] := hl
  refine lv_iload_n hx hb d_House_signAt_0 rfl (lv_at hl 1 rfl) ?_
  refine lv_if_lt (tgt := 12) hx hb d_House_signAt_1 (by decide) (fun c_1 => ?_) (fun c_1 => ?_)
  · refine lv_iconst (v := (-1)) hx hb d_House_signAt_12 (by decide) ?_
    have hP9 := hP.sub (ws' := []) [] rfl
    have hD9 := hD.sub (ws' := []) [] (by decide) rfl
    have hK9 := hK.sub (tys' := []) [] rfl
    exact W.iret (v := (-1)) hx hb hr (fun t ht hW => ⟨⟨(-1), (), rfl, rfl, by rw [ht]; exact hP9, va_K.moved hW.alike hK9, hD9⟩, hS.F ht⟩) hS.2.2 d_House_signAt_13
  · refine lv_iload_n hx hb d_House_signAt_4 rfl (lv_at hl 1 rfl) ?_
    refine lv_aload_n hx hb d_House_signAt_5 rfl (lv_at hl 0 rfl) ?_
    refine va_get (D := (dC, dI)) (ci := 11) (v := .int 0) (C := R_House) (T := F_House) (N := 21) hx hb hT i_House hown hK hP 0 rfl rfl 9 (by decide) (hT _ tw_624) (fun _ h9 => h9) rfl d_House_signAt_6 ?_
    refine lv_icmp_lt (tgt := 14) hx hb d_House_signAt_9 (by decide) (fun c_2 => absurd c_2 c_1) (fun c_2 => ?_)
    refine lv_iconst (v := (-1)) hx hb d_House_signAt_12 (by decide) ?_
    have hP9 := hP.sub (ws' := []) [] rfl
    have hD9 := hD.sub (ws' := []) [] (by decide) rfl
    have hK9 := hK.sub (tys' := []) [] rfl
    exact W.iret (v := (-1)) hx hb hr (fun t ht hW => ⟨⟨(-1), (), rfl, rfl, by rw [ht]; exact hP9, va_K.moved hW.alike hK9, hD9⟩, hS.F ht⟩) hS.2.2 d_House_signAt_13

set_option maxHeartbeats 4000000 in
set_option maxRecDepth 100000 in
/-- below on a fresh house -/
theorem c_House_below_0 (l : Launch) (dC : Nat → ClassId) (dI : Nat → Nat → Nat) (sz : Nat) (h0 : Nat) (x_desk : Nat) (x_reader : Nat) (x_cells : Nat) (x_tape : Nat) (x_script : Nat) (x_rootAt : Nat) (x_rootTimes : Nat) (x_spotX : Nat) (x_spotY : Nat) (x_bond : Nat) (x_end : Nat) (x_span : Nat) (x_part : Nat) (x_partPower : Nat) (x_kept : Nat) (a1 : Int32) (a2 : Int32)  : Met l y_House_below w_House_below ({ frames := 0, cells := 0, slots := 0, locals := 0 }) (va_Pc [.ref h0, .int a1, .int a2] (fun U => U.heap.size = sz ∧ va_P (dC, dI) classes [(h0, .inr (11, [.ref x_desk, .ref x_reader, .ref x_cells, .ref x_tape, .int 0, .ref x_script, .int 0, .ref x_rootAt, .ref x_rootTimes, .int 0, .ref x_spotX, .ref x_spotY, .ref x_bond, .int 0, .ref x_end, .ref x_span, .int 0, .ref x_part, .ref x_partPower, .int 0, .ref x_kept]))] U.heap ∧ va_K (dC, dI) classes [] U ∧ va_D (fun _ => True) [(h0, .inr (11, [.ref x_desk, .ref x_reader, .ref x_cells, .ref x_tape, .int 0, .ref x_script, .int 0, .ref x_rootAt, .ref x_rootTimes, .int 0, .ref x_spotX, .ref x_spotY, .ref x_bond, .int 0, .ref x_end, .ref x_span, .int 0, .ref x_part, .ref x_partPower, .int 0, .ref x_kept]))] ∧ nx_K U)) (va_Qi (fun (r : Int32) (_ : Unit) => r = (-1)) (fun _ t => va_P (dC, dI) classes [] t.heap ∧ va_K (dC, dI) classes [] t ∧ va_D (va_A [(h0, .inr (11, [.ref x_desk, .ref x_reader, .ref x_cells, .ref x_tape, .int 0, .ref x_script, .int 0, .ref x_rootAt, .ref x_rootTimes, .int 0, .ref x_spotX, .ref x_spotY, .ref x_bond, .int 0, .ref x_end, .ref x_span, .int 0, .ref x_part, .ref x_partPower, .int 0, .ref x_kept]))] sz) []) (va_A [(h0, .inr (11, [.ref x_desk, .ref x_reader, .ref x_cells, .ref x_tape, .int 0, .ref x_script, .int 0, .ref x_rootAt, .ref x_rootTimes, .int 0, .ref x_spotX, .ref x_spotY, .ref x_bond, .int 0, .ref x_end, .ref x_span, .int 0, .ref x_part, .ref x_partPower, .int 0, .ref x_kept]))] sz)) 0 0 (va_A [(h0, .inr (11, [.ref x_desk, .ref x_reader, .ref x_cells, .ref x_tape, .int 0, .ref x_script, .int 0, .ref x_rootAt, .ref x_rootTimes, .int 0, .ref x_spotX, .ref x_spotY, .ref x_bond, .int 0, .ref x_end, .ref x_span, .int 0, .ref x_part, .ref x_partPower, .int 0, .ref x_kept]))] sz) := by
  refine Met.ofW (cc := b_House_below) (maxL := 6) (ret := (some .int)) (by decide) rfl ?_
  intro p e s m args below meth c s₁ B hml hv
  obtain ⟨rfl, hsz, hP, hK, hD0, hN⟩ := hv
  have hx := B.exec
  have hb := B.bytes
  have hr := B.returns
  have hT : ∀ w ∈ lw_g, w.before _ s = true := fun w h => atoms_spec (ws := w_House_below) B.pre w (List.mem_cons_of_mem _ h)
  have hown : s.vm.findClass R_House = some m.cls := findClass_of_methodNamed B.named
  have hlocks := B.notSynchronized
  subst hsz
  have hD := hD0.self (sz := s.heap.size)
  generalize hAe : va_A [(h0, .inr (11, [.ref x_desk, .ref x_reader, .ref x_cells, .ref x_tape, .int 0, .ref x_script, .int 0, .ref x_rootAt, .ref x_rootTimes, .int 0, .ref x_spotX, .ref x_spotY, .ref x_bond, .int 0, .ref x_end, .ref x_span, .int 0, .ref x_part, .ref x_partPower, .int 0, .ref x_kept]))] s.heap.size = A at hD ⊢
  have hA : ∀ q : Nat, s.heap.size ≤ q → A q := fun q h => by rw [← hAe]; exact Or.inr h
  have hS : va_S A s.heap s.heap [] := va_S.rf
  have hP : va_P (dC, dI) classes [(h0, .inr (11, [.ref x_desk, .ref x_reader, .ref x_cells, .ref x_tape, .int 0, .ref x_script, .int 0, .ref x_rootAt, .ref x_rootTimes, .int 0, .ref x_spotX, .ref x_spotY, .ref x_bond, .int 0, .ref x_end, .ref x_span, .int 0, .ref x_part, .ref x_partPower, .int 0, .ref x_kept]))] s.heap := hP
  have hl := lv_entry ([.ref h0, .int a1, .int a2]) (n := 6) (Nat.le_of_ble_eq_true rfl)
  rw [lg_entry_eq]
  generalize (lg_sl ([.ref h0, .int a1, .int a2]) ++ List.replicate (6 - (lg_sl ([.ref h0, .int a1, .int a2])).length) Slot.unset).toArray = ls at hl ⊢
  have hl : lv_has ls 6 [(0, .ref h0), (1, .int a1), (2, .int a2)] := hl
  refine lv_iload_n hx hb d_House_below_0 rfl (lv_at hl 1 rfl) ?_
  refine lv_if_lt (tgt := 12) hx hb d_House_below_1 (by decide) (fun c_1 => ?_) (fun c_1 => ?_)
  · refine lv_iconst (v := (-1)) hx hb d_House_below_12 (by decide) ?_
    have hP9 := hP.sub (ws' := []) [] rfl
    have hD9 := hD.sub (ws' := []) [] (by decide) rfl
    have hK9 := hK.sub (tys' := []) [] rfl
    exact W.iret (v := (-1)) hx hb hr (fun t ht hW => ⟨⟨(-1), (), rfl, rfl, by rw [ht]; exact hP9, va_K.moved hW.alike hK9, hD9⟩, hS.F ht⟩) hS.2.2 d_House_below_13
  · refine lv_iload_n hx hb d_House_below_4 rfl (lv_at hl 1 rfl) ?_
    refine lv_aload_n hx hb d_House_below_5 rfl (lv_at hl 0 rfl) ?_
    refine va_get (D := (dC, dI)) (ci := 11) (v := .int 0) (C := R_House) (T := F_House) (N := 21) hx hb hT i_House hown hK hP 0 rfl rfl 9 (by decide) (hT _ tw_624) (fun _ h9 => h9) rfl d_House_below_6 ?_
    refine lv_icmp_lt (tgt := 14) hx hb d_House_below_9 (by decide) (fun c_2 => absurd c_2 c_1) (fun c_2 => ?_)
    refine lv_iconst (v := (-1)) hx hb d_House_below_12 (by decide) ?_
    have hP9 := hP.sub (ws' := []) [] rfl
    have hD9 := hD.sub (ws' := []) [] (by decide) rfl
    have hK9 := hK.sub (tys' := []) [] rfl
    exact W.iret (v := (-1)) hx hb hr (fun t ht hW => ⟨⟨(-1), (), rfl, rfl, by rw [ht]; exact hP9, va_K.moved hW.alike hK9, hD9⟩, hS.F ht⟩) hS.2.2 d_House_below_13

set_option maxHeartbeats 4000000 in
set_option maxRecDepth 100000 in
/-- point on a fresh house -/
theorem c_House_point_0 (l : Launch) (dC : Nat → ClassId) (dI : Nat → Nat → Nat) (sz : Nat) (h0 : Nat) (x_desk : Nat) (x_reader : Nat) (x_cells : Nat) (x_tape : Nat) (x_script : Nat) (x_rootAt : Nat) (x_rootTimes : Nat) (x_spotX : Nat) (x_spotY : Nat) (x_bond : Nat) (x_end : Nat) (x_span : Nat) (x_part : Nat) (x_partPower : Nat) (x_kept : Nat) (a1 : Int32) (a2 : Int32) (a3 : Int32)  : Met l y_House_point w_House_point ({ frames := 0, cells := 0, slots := 0, locals := 0 }) (va_Pc [.ref h0, .int a1, .int a2, .int a3] (fun U => U.heap.size = sz ∧ va_P (dC, dI) classes [(h0, .inr (11, [.ref x_desk, .ref x_reader, .ref x_cells, .ref x_tape, .int 0, .ref x_script, .int 0, .ref x_rootAt, .ref x_rootTimes, .int 0, .ref x_spotX, .ref x_spotY, .ref x_bond, .int 0, .ref x_end, .ref x_span, .int 0, .ref x_part, .ref x_partPower, .int 0, .ref x_kept]))] U.heap ∧ va_K (dC, dI) classes [] U ∧ va_D (fun _ => True) [(h0, .inr (11, [.ref x_desk, .ref x_reader, .ref x_cells, .ref x_tape, .int 0, .ref x_script, .int 0, .ref x_rootAt, .ref x_rootTimes, .int 0, .ref x_spotX, .ref x_spotY, .ref x_bond, .int 0, .ref x_end, .ref x_span, .int 0, .ref x_part, .ref x_partPower, .int 0, .ref x_kept]))] ∧ nx_K U)) (va_Qi (fun (r : Int32) (_ : Unit) => r = (-1)) (fun _ t => va_P (dC, dI) classes [] t.heap ∧ va_K (dC, dI) classes [] t ∧ va_D (va_A [(h0, .inr (11, [.ref x_desk, .ref x_reader, .ref x_cells, .ref x_tape, .int 0, .ref x_script, .int 0, .ref x_rootAt, .ref x_rootTimes, .int 0, .ref x_spotX, .ref x_spotY, .ref x_bond, .int 0, .ref x_end, .ref x_span, .int 0, .ref x_part, .ref x_partPower, .int 0, .ref x_kept]))] sz) []) (va_A [(h0, .inr (11, [.ref x_desk, .ref x_reader, .ref x_cells, .ref x_tape, .int 0, .ref x_script, .int 0, .ref x_rootAt, .ref x_rootTimes, .int 0, .ref x_spotX, .ref x_spotY, .ref x_bond, .int 0, .ref x_end, .ref x_span, .int 0, .ref x_part, .ref x_partPower, .int 0, .ref x_kept]))] sz)) 0 0 (va_A [(h0, .inr (11, [.ref x_desk, .ref x_reader, .ref x_cells, .ref x_tape, .int 0, .ref x_script, .int 0, .ref x_rootAt, .ref x_rootTimes, .int 0, .ref x_spotX, .ref x_spotY, .ref x_bond, .int 0, .ref x_end, .ref x_span, .int 0, .ref x_part, .ref x_partPower, .int 0, .ref x_kept]))] sz) := by
  refine Met.ofW (cc := b_House_point) (maxL := 4) (ret := (some .int)) (by decide) rfl ?_
  intro p e s m args below meth c s₁ B hml hv
  obtain ⟨rfl, hsz, hP, hK, hD0, hN⟩ := hv
  have hx := B.exec
  have hb := B.bytes
  have hr := B.returns
  have hT : ∀ w ∈ lw_g, w.before _ s = true := fun w h => atoms_spec (ws := w_House_point) B.pre w (List.mem_cons_of_mem _ h)
  have hown : s.vm.findClass R_House = some m.cls := findClass_of_methodNamed B.named
  have hlocks := B.notSynchronized
  subst hsz
  have hD := hD0.self (sz := s.heap.size)
  generalize hAe : va_A [(h0, .inr (11, [.ref x_desk, .ref x_reader, .ref x_cells, .ref x_tape, .int 0, .ref x_script, .int 0, .ref x_rootAt, .ref x_rootTimes, .int 0, .ref x_spotX, .ref x_spotY, .ref x_bond, .int 0, .ref x_end, .ref x_span, .int 0, .ref x_part, .ref x_partPower, .int 0, .ref x_kept]))] s.heap.size = A at hD ⊢
  have hA : ∀ q : Nat, s.heap.size ≤ q → A q := fun q h => by rw [← hAe]; exact Or.inr h
  have hS : va_S A s.heap s.heap [] := va_S.rf
  have hP : va_P (dC, dI) classes [(h0, .inr (11, [.ref x_desk, .ref x_reader, .ref x_cells, .ref x_tape, .int 0, .ref x_script, .int 0, .ref x_rootAt, .ref x_rootTimes, .int 0, .ref x_spotX, .ref x_spotY, .ref x_bond, .int 0, .ref x_end, .ref x_span, .int 0, .ref x_part, .ref x_partPower, .int 0, .ref x_kept]))] s.heap := hP
  have hl := lv_entry ([.ref h0, .int a1, .int a2, .int a3]) (n := 4) (Nat.le_of_ble_eq_true rfl)
  rw [lg_entry_eq]
  generalize (lg_sl ([.ref h0, .int a1, .int a2, .int a3]) ++ List.replicate (4 - (lg_sl ([.ref h0, .int a1, .int a2, .int a3])).length) Slot.unset).toArray = ls at hl ⊢
  have hl : lv_has ls 4 [(0, .ref h0), (1, .int a1), (2, .int a2), (3, .int a3)] := hl
  refine lv_iload_n hx hb d_House_point_0 rfl (lv_at hl 1 rfl) ?_
  refine lv_if_lt (tgt := 21) hx hb d_House_point_1 (by decide) (fun c_1 => ?_) (fun c_1 => ?_)
  · refine lv_iconst (v := (-1)) hx hb d_House_point_21 (by decide) ?_
    have hP9 := hP.sub (ws' := []) [] rfl
    have hD9 := hD.sub (ws' := []) [] (by decide) rfl
    have hK9 := hK.sub (tys' := []) [] rfl
    exact W.iret (v := (-1)) hx hb hr (fun t ht hW => ⟨⟨(-1), (), rfl, rfl, by rw [ht]; exact hP9, va_K.moved hW.alike hK9, hD9⟩, hS.F ht⟩) hS.2.2 d_House_point_22
  · refine lv_iload_n hx hb d_House_point_4 rfl (lv_at hl 1 rfl) ?_
    refine lv_aload_n hx hb d_House_point_5 rfl (lv_at hl 0 rfl) ?_
    refine va_get (D := (dC, dI)) (ci := 11) (v := .int 0) (C := R_House) (T := F_House) (N := 21) hx hb hT i_House hown hK hP 0 rfl rfl 13 (by decide) (hT _ tw_628) (fun _ h9 => h9) rfl d_House_point_6 ?_
    refine lv_icmp_ge (tgt := 21) hx hb d_House_point_9 (by decide) (fun c_2 => ?_) (fun c_2 => absurd (Int32.not_lt.mp c_1) c_2)
    refine lv_iconst (v := (-1)) hx hb d_House_point_21 (by decide) ?_
    have hP9 := hP.sub (ws' := []) [] rfl
    have hD9 := hD.sub (ws' := []) [] (by decide) rfl
    have hK9 := hK.sub (tys' := []) [] rfl
    exact W.iret (v := (-1)) hx hb hr (fun t ht hW => ⟨⟨(-1), (), rfl, rfl, by rw [ht]; exact hP9, va_K.moved hW.alike hK9, hD9⟩, hS.F ht⟩) hS.2.2 d_House_point_22

set_option maxHeartbeats 4000000 in
set_option maxRecDepth 100000 in
/-- signAtPoint on a fresh house -/
theorem c_House_signAtPoint_0 (l : Launch) (dC : Nat → ClassId) (dI : Nat → Nat → Nat) (sz : Nat) (h0 : Nat) (x_desk : Nat) (x_reader : Nat) (x_cells : Nat) (x_tape : Nat) (x_script : Nat) (x_rootAt : Nat) (x_rootTimes : Nat) (x_spotX : Nat) (x_spotY : Nat) (x_bond : Nat) (x_end : Nat) (x_span : Nat) (x_part : Nat) (x_partPower : Nat) (x_kept : Nat) (a1 : Int32) (a2 : Int32)  : Met l y_House_signAtPoint w_House_signAtPoint ({ frames := 0, cells := 0, slots := 0, locals := 0 }) (va_Pc [.ref h0, .int a1, .int a2] (fun U => U.heap.size = sz ∧ va_P (dC, dI) classes [(h0, .inr (11, [.ref x_desk, .ref x_reader, .ref x_cells, .ref x_tape, .int 0, .ref x_script, .int 0, .ref x_rootAt, .ref x_rootTimes, .int 0, .ref x_spotX, .ref x_spotY, .ref x_bond, .int 0, .ref x_end, .ref x_span, .int 0, .ref x_part, .ref x_partPower, .int 0, .ref x_kept]))] U.heap ∧ va_K (dC, dI) classes [] U ∧ va_D (fun _ => True) [(h0, .inr (11, [.ref x_desk, .ref x_reader, .ref x_cells, .ref x_tape, .int 0, .ref x_script, .int 0, .ref x_rootAt, .ref x_rootTimes, .int 0, .ref x_spotX, .ref x_spotY, .ref x_bond, .int 0, .ref x_end, .ref x_span, .int 0, .ref x_part, .ref x_partPower, .int 0, .ref x_kept]))] ∧ nx_K U)) (va_Qi (fun (r : Int32) (_ : Unit) => r = (-1)) (fun _ t => va_P (dC, dI) classes [] t.heap ∧ va_K (dC, dI) classes [] t ∧ va_D (va_A [(h0, .inr (11, [.ref x_desk, .ref x_reader, .ref x_cells, .ref x_tape, .int 0, .ref x_script, .int 0, .ref x_rootAt, .ref x_rootTimes, .int 0, .ref x_spotX, .ref x_spotY, .ref x_bond, .int 0, .ref x_end, .ref x_span, .int 0, .ref x_part, .ref x_partPower, .int 0, .ref x_kept]))] sz) []) (va_A [(h0, .inr (11, [.ref x_desk, .ref x_reader, .ref x_cells, .ref x_tape, .int 0, .ref x_script, .int 0, .ref x_rootAt, .ref x_rootTimes, .int 0, .ref x_spotX, .ref x_spotY, .ref x_bond, .int 0, .ref x_end, .ref x_span, .int 0, .ref x_part, .ref x_partPower, .int 0, .ref x_kept]))] sz)) 0 0 (va_A [(h0, .inr (11, [.ref x_desk, .ref x_reader, .ref x_cells, .ref x_tape, .int 0, .ref x_script, .int 0, .ref x_rootAt, .ref x_rootTimes, .int 0, .ref x_spotX, .ref x_spotY, .ref x_bond, .int 0, .ref x_end, .ref x_span, .int 0, .ref x_part, .ref x_partPower, .int 0, .ref x_kept]))] sz) := by
  refine Met.ofW (cc := b_House_signAtPoint) (maxL := 3) (ret := (some .int)) (by decide) rfl ?_
  intro p e s m args below meth c s₁ B hml hv
  obtain ⟨rfl, hsz, hP, hK, hD0, hN⟩ := hv
  have hx := B.exec
  have hb := B.bytes
  have hr := B.returns
  have hT : ∀ w ∈ lw_g, w.before _ s = true := fun w h => atoms_spec (ws := w_House_signAtPoint) B.pre w (List.mem_cons_of_mem _ h)
  have hown : s.vm.findClass R_House = some m.cls := findClass_of_methodNamed B.named
  have hlocks := B.notSynchronized
  subst hsz
  have hD := hD0.self (sz := s.heap.size)
  generalize hAe : va_A [(h0, .inr (11, [.ref x_desk, .ref x_reader, .ref x_cells, .ref x_tape, .int 0, .ref x_script, .int 0, .ref x_rootAt, .ref x_rootTimes, .int 0, .ref x_spotX, .ref x_spotY, .ref x_bond, .int 0, .ref x_end, .ref x_span, .int 0, .ref x_part, .ref x_partPower, .int 0, .ref x_kept]))] s.heap.size = A at hD ⊢
  have hA : ∀ q : Nat, s.heap.size ≤ q → A q := fun q h => by rw [← hAe]; exact Or.inr h
  have hS : va_S A s.heap s.heap [] := va_S.rf
  have hP : va_P (dC, dI) classes [(h0, .inr (11, [.ref x_desk, .ref x_reader, .ref x_cells, .ref x_tape, .int 0, .ref x_script, .int 0, .ref x_rootAt, .ref x_rootTimes, .int 0, .ref x_spotX, .ref x_spotY, .ref x_bond, .int 0, .ref x_end, .ref x_span, .int 0, .ref x_part, .ref x_partPower, .int 0, .ref x_kept]))] s.heap := hP
  have hl := lv_entry ([.ref h0, .int a1, .int a2]) (n := 3) (Nat.le_of_ble_eq_true rfl)
  rw [lg_entry_eq]
  generalize (lg_sl ([.ref h0, .int a1, .int a2]) ++ List.replicate (3 - (lg_sl ([.ref h0, .int a1, .int a2])).length) Slot.unset).toArray = ls at hl ⊢
  have hl : lv_has ls 3 [(0, .ref h0), (1, .int a1), (2, .int a2)] := hl
  refine lv_iload_n hx hb d_House_signAtPoint_0 rfl (lv_at hl 1 rfl) ?_
  refine lv_if_lt (tgt := 20) hx hb d_House_signAtPoint_1 (by decide) (fun c_1 => ?_) (fun c_1 => ?_)
  · refine lv_iconst (v := (-1)) hx hb d_House_signAtPoint_20 (by decide) ?_
    have hP9 := hP.sub (ws' := []) [] rfl
    have hD9 := hD.sub (ws' := []) [] (by decide) rfl
    have hK9 := hK.sub (tys' := []) [] rfl
    exact W.iret (v := (-1)) hx hb hr (fun t ht hW => ⟨⟨(-1), (), rfl, rfl, by rw [ht]; exact hP9, va_K.moved hW.alike hK9, hD9⟩, hS.F ht⟩) hS.2.2 d_House_signAtPoint_21
  · refine lv_iload_n hx hb d_House_signAtPoint_4 rfl (lv_at hl 1 rfl) ?_
    refine lv_aload_n hx hb d_House_signAtPoint_5 rfl (lv_at hl 0 rfl) ?_
    refine va_get (D := (dC, dI)) (ci := 11) (v := .int 0) (C := R_House) (T := F_House) (N := 21) hx hb hT i_House hown hK hP 0 rfl rfl 13 (by decide) (hT _ tw_628) (fun _ h9 => h9) rfl d_House_signAtPoint_6 ?_
    refine lv_icmp_ge (tgt := 20) hx hb d_House_signAtPoint_9 (by decide) (fun c_2 => ?_) (fun c_2 => absurd (Int32.not_lt.mp c_1) c_2)
    refine lv_iconst (v := (-1)) hx hb d_House_signAtPoint_20 (by decide) ?_
    have hP9 := hP.sub (ws' := []) [] rfl
    have hD9 := hD.sub (ws' := []) [] (by decide) rfl
    have hK9 := hK.sub (tys' := []) [] rfl
    exact W.iret (v := (-1)) hx hb hr (fun t ht hW => ⟨⟨(-1), (), rfl, rfl, by rw [ht]; exact hP9, va_K.moved hW.alike hK9, hD9⟩, hS.F ht⟩) hS.2.2 d_House_signAtPoint_21

set_option maxHeartbeats 4000000 in
set_option maxRecDepth 100000 in
/-- piece on a fresh house -/
theorem c_House_piece_0 (l : Launch) (dC : Nat → ClassId) (dI : Nat → Nat → Nat) (sz : Nat) (h0 : Nat) (x_desk : Nat) (x_reader : Nat) (x_cells : Nat) (x_tape : Nat) (x_script : Nat) (x_rootAt : Nat) (x_rootTimes : Nat) (x_spotX : Nat) (x_spotY : Nat) (x_bond : Nat) (x_end : Nat) (x_span : Nat) (x_part : Nat) (x_partPower : Nat) (x_kept : Nat) (a1 : Int32) (a2 : Int32)  : Met l y_House_piece w_House_piece ({ frames := 0, cells := 0, slots := 0, locals := 0 }) (va_Pc [.ref h0, .int a1, .int a2] (fun U => U.heap.size = sz ∧ va_P (dC, dI) classes [(h0, .inr (11, [.ref x_desk, .ref x_reader, .ref x_cells, .ref x_tape, .int 0, .ref x_script, .int 0, .ref x_rootAt, .ref x_rootTimes, .int 0, .ref x_spotX, .ref x_spotY, .ref x_bond, .int 0, .ref x_end, .ref x_span, .int 0, .ref x_part, .ref x_partPower, .int 0, .ref x_kept]))] U.heap ∧ va_K (dC, dI) classes [] U ∧ va_D (fun _ => True) [(h0, .inr (11, [.ref x_desk, .ref x_reader, .ref x_cells, .ref x_tape, .int 0, .ref x_script, .int 0, .ref x_rootAt, .ref x_rootTimes, .int 0, .ref x_spotX, .ref x_spotY, .ref x_bond, .int 0, .ref x_end, .ref x_span, .int 0, .ref x_part, .ref x_partPower, .int 0, .ref x_kept]))] ∧ nx_K U)) (va_Qi (fun (r : Int32) (_ : Unit) => r = (-1)) (fun _ t => va_P (dC, dI) classes [] t.heap ∧ va_K (dC, dI) classes [] t ∧ va_D (va_A [(h0, .inr (11, [.ref x_desk, .ref x_reader, .ref x_cells, .ref x_tape, .int 0, .ref x_script, .int 0, .ref x_rootAt, .ref x_rootTimes, .int 0, .ref x_spotX, .ref x_spotY, .ref x_bond, .int 0, .ref x_end, .ref x_span, .int 0, .ref x_part, .ref x_partPower, .int 0, .ref x_kept]))] sz) []) (va_A [(h0, .inr (11, [.ref x_desk, .ref x_reader, .ref x_cells, .ref x_tape, .int 0, .ref x_script, .int 0, .ref x_rootAt, .ref x_rootTimes, .int 0, .ref x_spotX, .ref x_spotY, .ref x_bond, .int 0, .ref x_end, .ref x_span, .int 0, .ref x_part, .ref x_partPower, .int 0, .ref x_kept]))] sz)) 0 0 (va_A [(h0, .inr (11, [.ref x_desk, .ref x_reader, .ref x_cells, .ref x_tape, .int 0, .ref x_script, .int 0, .ref x_rootAt, .ref x_rootTimes, .int 0, .ref x_spotX, .ref x_spotY, .ref x_bond, .int 0, .ref x_end, .ref x_span, .int 0, .ref x_part, .ref x_partPower, .int 0, .ref x_kept]))] sz) := by
  refine Met.ofW (cc := b_House_piece) (maxL := 6) (ret := (some .int)) (by decide) rfl ?_
  intro p e s m args below meth c s₁ B hml hv
  obtain ⟨rfl, hsz, hP, hK, hD0, hN⟩ := hv
  have hx := B.exec
  have hb := B.bytes
  have hr := B.returns
  have hT : ∀ w ∈ lw_g, w.before _ s = true := fun w h => atoms_spec (ws := w_House_piece) B.pre w (List.mem_cons_of_mem _ h)
  have hown : s.vm.findClass R_House = some m.cls := findClass_of_methodNamed B.named
  have hlocks := B.notSynchronized
  subst hsz
  have hD := hD0.self (sz := s.heap.size)
  generalize hAe : va_A [(h0, .inr (11, [.ref x_desk, .ref x_reader, .ref x_cells, .ref x_tape, .int 0, .ref x_script, .int 0, .ref x_rootAt, .ref x_rootTimes, .int 0, .ref x_spotX, .ref x_spotY, .ref x_bond, .int 0, .ref x_end, .ref x_span, .int 0, .ref x_part, .ref x_partPower, .int 0, .ref x_kept]))] s.heap.size = A at hD ⊢
  have hA : ∀ q : Nat, s.heap.size ≤ q → A q := fun q h => by rw [← hAe]; exact Or.inr h
  have hS : va_S A s.heap s.heap [] := va_S.rf
  have hP : va_P (dC, dI) classes [(h0, .inr (11, [.ref x_desk, .ref x_reader, .ref x_cells, .ref x_tape, .int 0, .ref x_script, .int 0, .ref x_rootAt, .ref x_rootTimes, .int 0, .ref x_spotX, .ref x_spotY, .ref x_bond, .int 0, .ref x_end, .ref x_span, .int 0, .ref x_part, .ref x_partPower, .int 0, .ref x_kept]))] s.heap := hP
  have hl := lv_entry ([.ref h0, .int a1, .int a2]) (n := 6) (Nat.le_of_ble_eq_true rfl)
  rw [lg_entry_eq]
  generalize (lg_sl ([.ref h0, .int a1, .int a2]) ++ List.replicate (6 - (lg_sl ([.ref h0, .int a1, .int a2])).length) Slot.unset).toArray = ls at hl ⊢
  have hl : lv_has ls 6 [(0, .ref h0), (1, .int a1), (2, .int a2)] := hl
  refine lv_iload_n hx hb d_House_piece_0 rfl (lv_at hl 1 rfl) ?_
  refine lv_if_lt (tgt := 21) hx hb d_House_piece_1 (by decide) (fun c_1 => ?_) (fun c_1 => ?_)
  · refine lv_iconst (v := (-1)) hx hb d_House_piece_21 (by decide) ?_
    have hP9 := hP.sub (ws' := []) [] rfl
    have hD9 := hD.sub (ws' := []) [] (by decide) rfl
    have hK9 := hK.sub (tys' := []) [] rfl
    exact W.iret (v := (-1)) hx hb hr (fun t ht hW => ⟨⟨(-1), (), rfl, rfl, by rw [ht]; exact hP9, va_K.moved hW.alike hK9, hD9⟩, hS.F ht⟩) hS.2.2 d_House_piece_22
  · refine lv_iload_n hx hb d_House_piece_4 rfl (lv_at hl 1 rfl) ?_
    refine lv_aload_n hx hb d_House_piece_5 rfl (lv_at hl 0 rfl) ?_
    refine va_get (D := (dC, dI)) (ci := 11) (v := .int 0) (C := R_House) (T := F_House) (N := 21) hx hb hT i_House hown hK hP 0 rfl rfl 16 (by decide) (hT _ tw_631) (fun _ h9 => h9) rfl d_House_piece_6 ?_
    refine lv_icmp_ge (tgt := 21) hx hb d_House_piece_9 (by decide) (fun c_2 => ?_) (fun c_2 => absurd (Int32.not_lt.mp c_1) c_2)
    refine lv_iconst (v := (-1)) hx hb d_House_piece_21 (by decide) ?_
    have hP9 := hP.sub (ws' := []) [] rfl
    have hD9 := hD.sub (ws' := []) [] (by decide) rfl
    have hK9 := hK.sub (tys' := []) [] rfl
    exact W.iret (v := (-1)) hx hb hr (fun t ht hW => ⟨⟨(-1), (), rfl, rfl, by rw [ht]; exact hP9, va_K.moved hW.alike hK9, hD9⟩, hS.F ht⟩) hS.2.2 d_House_piece_22

set_option maxHeartbeats 4000000 in
set_option maxRecDepth 100000 in
/-- edge on a fresh house -/
theorem c_House_edge_0 (l : Launch) (dC : Nat → ClassId) (dI : Nat → Nat → Nat) (sz : Nat) (h0 : Nat) (x_desk : Nat) (x_reader : Nat) (x_cells : Nat) (x_tape : Nat) (x_script : Nat) (x_rootAt : Nat) (x_rootTimes : Nat) (x_spotX : Nat) (x_spotY : Nat) (x_bond : Nat) (x_end : Nat) (x_span : Nat) (x_part : Nat) (x_partPower : Nat) (x_kept : Nat) (a1 : Int32) (a2 : Int32) (a3 : Int32)  : Met l y_House_edge w_House_edge ({ frames := 0, cells := 0, slots := 0, locals := 0 }) (va_Pc [.ref h0, .int a1, .int a2, .int a3] (fun U => U.heap.size = sz ∧ va_P (dC, dI) classes [(h0, .inr (11, [.ref x_desk, .ref x_reader, .ref x_cells, .ref x_tape, .int 0, .ref x_script, .int 0, .ref x_rootAt, .ref x_rootTimes, .int 0, .ref x_spotX, .ref x_spotY, .ref x_bond, .int 0, .ref x_end, .ref x_span, .int 0, .ref x_part, .ref x_partPower, .int 0, .ref x_kept]))] U.heap ∧ va_K (dC, dI) classes [] U ∧ va_D (fun _ => True) [(h0, .inr (11, [.ref x_desk, .ref x_reader, .ref x_cells, .ref x_tape, .int 0, .ref x_script, .int 0, .ref x_rootAt, .ref x_rootTimes, .int 0, .ref x_spotX, .ref x_spotY, .ref x_bond, .int 0, .ref x_end, .ref x_span, .int 0, .ref x_part, .ref x_partPower, .int 0, .ref x_kept]))] ∧ nx_K U)) (va_Qi (fun (r : Int32) (_ : Unit) => r = (-1)) (fun _ t => va_P (dC, dI) classes [] t.heap ∧ va_K (dC, dI) classes [] t ∧ va_D (va_A [(h0, .inr (11, [.ref x_desk, .ref x_reader, .ref x_cells, .ref x_tape, .int 0, .ref x_script, .int 0, .ref x_rootAt, .ref x_rootTimes, .int 0, .ref x_spotX, .ref x_spotY, .ref x_bond, .int 0, .ref x_end, .ref x_span, .int 0, .ref x_part, .ref x_partPower, .int 0, .ref x_kept]))] sz) []) (va_A [(h0, .inr (11, [.ref x_desk, .ref x_reader, .ref x_cells, .ref x_tape, .int 0, .ref x_script, .int 0, .ref x_rootAt, .ref x_rootTimes, .int 0, .ref x_spotX, .ref x_spotY, .ref x_bond, .int 0, .ref x_end, .ref x_span, .int 0, .ref x_part, .ref x_partPower, .int 0, .ref x_kept]))] sz)) 0 0 (va_A [(h0, .inr (11, [.ref x_desk, .ref x_reader, .ref x_cells, .ref x_tape, .int 0, .ref x_script, .int 0, .ref x_rootAt, .ref x_rootTimes, .int 0, .ref x_spotX, .ref x_spotY, .ref x_bond, .int 0, .ref x_end, .ref x_span, .int 0, .ref x_part, .ref x_partPower, .int 0, .ref x_kept]))] sz) := by
  refine Met.ofW (cc := b_House_edge) (maxL := 5) (ret := (some .int)) (by decide) rfl ?_
  intro p e s m args below meth c s₁ B hml hv
  obtain ⟨rfl, hsz, hP, hK, hD0, hN⟩ := hv
  have hx := B.exec
  have hb := B.bytes
  have hr := B.returns
  have hT : ∀ w ∈ lw_g, w.before _ s = true := fun w h => atoms_spec (ws := w_House_edge) B.pre w (List.mem_cons_of_mem _ h)
  have hown : s.vm.findClass R_House = some m.cls := findClass_of_methodNamed B.named
  have hlocks := B.notSynchronized
  subst hsz
  have hD := hD0.self (sz := s.heap.size)
  generalize hAe : va_A [(h0, .inr (11, [.ref x_desk, .ref x_reader, .ref x_cells, .ref x_tape, .int 0, .ref x_script, .int 0, .ref x_rootAt, .ref x_rootTimes, .int 0, .ref x_spotX, .ref x_spotY, .ref x_bond, .int 0, .ref x_end, .ref x_span, .int 0, .ref x_part, .ref x_partPower, .int 0, .ref x_kept]))] s.heap.size = A at hD ⊢
  have hA : ∀ q : Nat, s.heap.size ≤ q → A q := fun q h => by rw [← hAe]; exact Or.inr h
  have hS : va_S A s.heap s.heap [] := va_S.rf
  have hP : va_P (dC, dI) classes [(h0, .inr (11, [.ref x_desk, .ref x_reader, .ref x_cells, .ref x_tape, .int 0, .ref x_script, .int 0, .ref x_rootAt, .ref x_rootTimes, .int 0, .ref x_spotX, .ref x_spotY, .ref x_bond, .int 0, .ref x_end, .ref x_span, .int 0, .ref x_part, .ref x_partPower, .int 0, .ref x_kept]))] s.heap := hP
  have hl := lv_entry ([.ref h0, .int a1, .int a2, .int a3]) (n := 5) (Nat.le_of_ble_eq_true rfl)
  rw [lg_entry_eq]
  generalize (lg_sl ([.ref h0, .int a1, .int a2, .int a3]) ++ List.replicate (5 - (lg_sl ([.ref h0, .int a1, .int a2, .int a3])).length) Slot.unset).toArray = ls at hl ⊢
  have hl : lv_has ls 5 [(0, .ref h0), (1, .int a1), (2, .int a2), (3, .int a3)] := hl
  refine lv_iload_n hx hb d_House_edge_0 rfl (lv_at hl 1 rfl) ?_
  refine lv_if_lt (tgt := 21) hx hb d_House_edge_1 (by decide) (fun c_1 => ?_) (fun c_1 => ?_)
  · refine lv_iconst (v := (-1)) hx hb d_House_edge_21 (by decide) ?_
    have hP9 := hP.sub (ws' := []) [] rfl
    have hD9 := hD.sub (ws' := []) [] (by decide) rfl
    have hK9 := hK.sub (tys' := []) [] rfl
    exact W.iret (v := (-1)) hx hb hr (fun t ht hW => ⟨⟨(-1), (), rfl, rfl, by rw [ht]; exact hP9, va_K.moved hW.alike hK9, hD9⟩, hS.F ht⟩) hS.2.2 d_House_edge_22
  · refine lv_iload_n hx hb d_House_edge_4 rfl (lv_at hl 1 rfl) ?_
    refine lv_aload_n hx hb d_House_edge_5 rfl (lv_at hl 0 rfl) ?_
    refine va_get (D := (dC, dI)) (ci := 11) (v := .int 0) (C := R_House) (T := F_House) (N := 21) hx hb hT i_House hown hK hP 0 rfl rfl 16 (by decide) (hT _ tw_631) (fun _ h9 => h9) rfl d_House_edge_6 ?_
    refine lv_icmp_ge (tgt := 21) hx hb d_House_edge_9 (by decide) (fun c_2 => ?_) (fun c_2 => absurd (Int32.not_lt.mp c_1) c_2)
    refine lv_iconst (v := (-1)) hx hb d_House_edge_21 (by decide) ?_
    have hP9 := hP.sub (ws' := []) [] rfl
    have hD9 := hD.sub (ws' := []) [] (by decide) rfl
    have hK9 := hK.sub (tys' := []) [] rfl
    exact W.iret (v := (-1)) hx hb hr (fun t ht hW => ⟨⟨(-1), (), rfl, rfl, by rw [ht]; exact hP9, va_K.moved hW.alike hK9, hD9⟩, hS.F ht⟩) hS.2.2 d_House_edge_22

set_option maxHeartbeats 4000000 in
set_option maxRecDepth 100000 in
/-- factor on a fresh house -/
theorem c_House_factor_0 (l : Launch) (dC : Nat → ClassId) (dI : Nat → Nat → Nat) (sz : Nat) (h0 : Nat) (x_desk : Nat) (x_reader : Nat) (x_cells : Nat) (x_tape : Nat) (x_script : Nat) (x_rootAt : Nat) (x_rootTimes : Nat) (x_spotX : Nat) (x_spotY : Nat) (x_bond : Nat) (x_end : Nat) (x_span : Nat) (x_part : Nat) (x_partPower : Nat) (x_kept : Nat) (a1 : Int32)  : Met l y_House_factor w_House_factor ({ frames := 0, cells := 0, slots := 0, locals := 0 }) (va_Pc [.ref h0, .int a1] (fun U => U.heap.size = sz ∧ va_P (dC, dI) classes [(h0, .inr (11, [.ref x_desk, .ref x_reader, .ref x_cells, .ref x_tape, .int 0, .ref x_script, .int 0, .ref x_rootAt, .ref x_rootTimes, .int 0, .ref x_spotX, .ref x_spotY, .ref x_bond, .int 0, .ref x_end, .ref x_span, .int 0, .ref x_part, .ref x_partPower, .int 0, .ref x_kept]))] U.heap ∧ va_K (dC, dI) classes [] U ∧ va_D (fun _ => True) [(h0, .inr (11, [.ref x_desk, .ref x_reader, .ref x_cells, .ref x_tape, .int 0, .ref x_script, .int 0, .ref x_rootAt, .ref x_rootTimes, .int 0, .ref x_spotX, .ref x_spotY, .ref x_bond, .int 0, .ref x_end, .ref x_span, .int 0, .ref x_part, .ref x_partPower, .int 0, .ref x_kept]))] ∧ nx_K U)) (va_Qi (fun (r : Int32) (_ : Unit) => r = (-1)) (fun _ t => va_P (dC, dI) classes [] t.heap ∧ va_K (dC, dI) classes [] t ∧ va_D (va_A [(h0, .inr (11, [.ref x_desk, .ref x_reader, .ref x_cells, .ref x_tape, .int 0, .ref x_script, .int 0, .ref x_rootAt, .ref x_rootTimes, .int 0, .ref x_spotX, .ref x_spotY, .ref x_bond, .int 0, .ref x_end, .ref x_span, .int 0, .ref x_part, .ref x_partPower, .int 0, .ref x_kept]))] sz) []) (va_A [(h0, .inr (11, [.ref x_desk, .ref x_reader, .ref x_cells, .ref x_tape, .int 0, .ref x_script, .int 0, .ref x_rootAt, .ref x_rootTimes, .int 0, .ref x_spotX, .ref x_spotY, .ref x_bond, .int 0, .ref x_end, .ref x_span, .int 0, .ref x_part, .ref x_partPower, .int 0, .ref x_kept]))] sz)) 0 0 (va_A [(h0, .inr (11, [.ref x_desk, .ref x_reader, .ref x_cells, .ref x_tape, .int 0, .ref x_script, .int 0, .ref x_rootAt, .ref x_rootTimes, .int 0, .ref x_spotX, .ref x_spotY, .ref x_bond, .int 0, .ref x_end, .ref x_span, .int 0, .ref x_part, .ref x_partPower, .int 0, .ref x_kept]))] sz) := by
  refine Met.ofW (cc := b_House_factor) (maxL := 2) (ret := (some .int)) (by decide) rfl ?_
  intro p e s m args below meth c s₁ B hml hv
  obtain ⟨rfl, hsz, hP, hK, hD0, hN⟩ := hv
  have hx := B.exec
  have hb := B.bytes
  have hr := B.returns
  have hT : ∀ w ∈ lw_g, w.before _ s = true := fun w h => atoms_spec (ws := w_House_factor) B.pre w (List.mem_cons_of_mem _ h)
  have hown : s.vm.findClass R_House = some m.cls := findClass_of_methodNamed B.named
  have hlocks := B.notSynchronized
  subst hsz
  have hD := hD0.self (sz := s.heap.size)
  generalize hAe : va_A [(h0, .inr (11, [.ref x_desk, .ref x_reader, .ref x_cells, .ref x_tape, .int 0, .ref x_script, .int 0, .ref x_rootAt, .ref x_rootTimes, .int 0, .ref x_spotX, .ref x_spotY, .ref x_bond, .int 0, .ref x_end, .ref x_span, .int 0, .ref x_part, .ref x_partPower, .int 0, .ref x_kept]))] s.heap.size = A at hD ⊢
  have hA : ∀ q : Nat, s.heap.size ≤ q → A q := fun q h => by rw [← hAe]; exact Or.inr h
  have hS : va_S A s.heap s.heap [] := va_S.rf
  have hP : va_P (dC, dI) classes [(h0, .inr (11, [.ref x_desk, .ref x_reader, .ref x_cells, .ref x_tape, .int 0, .ref x_script, .int 0, .ref x_rootAt, .ref x_rootTimes, .int 0, .ref x_spotX, .ref x_spotY, .ref x_bond, .int 0, .ref x_end, .ref x_span, .int 0, .ref x_part, .ref x_partPower, .int 0, .ref x_kept]))] s.heap := hP
  have hl := lv_entry ([.ref h0, .int a1]) (n := 2) (Nat.le_of_ble_eq_true rfl)
  rw [lg_entry_eq]
  generalize (lg_sl ([.ref h0, .int a1]) ++ List.replicate (2 - (lg_sl ([.ref h0, .int a1])).length) Slot.unset).toArray = ls at hl ⊢
  have hl : lv_has ls 2 [(0, .ref h0), (1, .int a1)] := hl
  refine lv_iload_n hx hb d_House_factor_0 rfl (lv_at hl 1 rfl) ?_
  refine lv_if_lt (tgt := 25) hx hb d_House_factor_1 (by decide) (fun c_1 => ?_) (fun c_1 => ?_)
  · refine lv_iconst (v := (-1)) hx hb d_House_factor_25 (by decide) ?_
    have hP9 := hP.sub (ws' := []) [] rfl
    have hD9 := hD.sub (ws' := []) [] (by decide) rfl
    have hK9 := hK.sub (tys' := []) [] rfl
    exact W.iret (v := (-1)) hx hb hr (fun t ht hW => ⟨⟨(-1), (), rfl, rfl, by rw [ht]; exact hP9, va_K.moved hW.alike hK9, hD9⟩, hS.F ht⟩) hS.2.2 d_House_factor_26
  · refine lv_iload_n hx hb d_House_factor_4 rfl (lv_at hl 1 rfl) ?_
    refine lv_aload_n hx hb d_House_factor_5 rfl (lv_at hl 0 rfl) ?_
    refine va_get (D := (dC, dI)) (ci := 11) (v := .int 0) (C := R_House) (T := F_House) (N := 21) hx hb hT i_House hown hK hP 0 rfl rfl 19 (by decide) (hT _ tw_634) (fun _ h9 => h9) rfl d_House_factor_6 ?_
    refine lv_icmp_ge (tgt := 25) hx hb d_House_factor_9 (by decide) (fun c_2 => ?_) (fun c_2 => absurd (Int32.not_lt.mp c_1) c_2)
    refine lv_iconst (v := (-1)) hx hb d_House_factor_25 (by decide) ?_
    have hP9 := hP.sub (ws' := []) [] rfl
    have hD9 := hD.sub (ws' := []) [] (by decide) rfl
    have hK9 := hK.sub (tys' := []) [] rfl
    exact W.iret (v := (-1)) hx hb hr (fun t ht hW => ⟨⟨(-1), (), rfl, rfl, by rw [ht]; exact hP9, va_K.moved hW.alike hK9, hD9⟩, hS.F ht⟩) hS.2.2 d_House_factor_26

set_option maxHeartbeats 4000000 in
set_option maxRecDepth 100000 in
/-- power on a fresh house -/
theorem c_House_power_0 (l : Launch) (dC : Nat → ClassId) (dI : Nat → Nat → Nat) (sz : Nat) (h0 : Nat) (x_desk : Nat) (x_reader : Nat) (x_cells : Nat) (x_tape : Nat) (x_script : Nat) (x_rootAt : Nat) (x_rootTimes : Nat) (x_spotX : Nat) (x_spotY : Nat) (x_bond : Nat) (x_end : Nat) (x_span : Nat) (x_part : Nat) (x_partPower : Nat) (x_kept : Nat) (a1 : Int32)  : Met l y_House_power w_House_power ({ frames := 0, cells := 0, slots := 0, locals := 0 }) (va_Pc [.ref h0, .int a1] (fun U => U.heap.size = sz ∧ va_P (dC, dI) classes [(h0, .inr (11, [.ref x_desk, .ref x_reader, .ref x_cells, .ref x_tape, .int 0, .ref x_script, .int 0, .ref x_rootAt, .ref x_rootTimes, .int 0, .ref x_spotX, .ref x_spotY, .ref x_bond, .int 0, .ref x_end, .ref x_span, .int 0, .ref x_part, .ref x_partPower, .int 0, .ref x_kept]))] U.heap ∧ va_K (dC, dI) classes [] U ∧ va_D (fun _ => True) [(h0, .inr (11, [.ref x_desk, .ref x_reader, .ref x_cells, .ref x_tape, .int 0, .ref x_script, .int 0, .ref x_rootAt, .ref x_rootTimes, .int 0, .ref x_spotX, .ref x_spotY, .ref x_bond, .int 0, .ref x_end, .ref x_span, .int 0, .ref x_part, .ref x_partPower, .int 0, .ref x_kept]))] ∧ nx_K U)) (va_Qi (fun (r : Int32) (_ : Unit) => r = (-1)) (fun _ t => va_P (dC, dI) classes [] t.heap ∧ va_K (dC, dI) classes [] t ∧ va_D (va_A [(h0, .inr (11, [.ref x_desk, .ref x_reader, .ref x_cells, .ref x_tape, .int 0, .ref x_script, .int 0, .ref x_rootAt, .ref x_rootTimes, .int 0, .ref x_spotX, .ref x_spotY, .ref x_bond, .int 0, .ref x_end, .ref x_span, .int 0, .ref x_part, .ref x_partPower, .int 0, .ref x_kept]))] sz) []) (va_A [(h0, .inr (11, [.ref x_desk, .ref x_reader, .ref x_cells, .ref x_tape, .int 0, .ref x_script, .int 0, .ref x_rootAt, .ref x_rootTimes, .int 0, .ref x_spotX, .ref x_spotY, .ref x_bond, .int 0, .ref x_end, .ref x_span, .int 0, .ref x_part, .ref x_partPower, .int 0, .ref x_kept]))] sz)) 0 0 (va_A [(h0, .inr (11, [.ref x_desk, .ref x_reader, .ref x_cells, .ref x_tape, .int 0, .ref x_script, .int 0, .ref x_rootAt, .ref x_rootTimes, .int 0, .ref x_spotX, .ref x_spotY, .ref x_bond, .int 0, .ref x_end, .ref x_span, .int 0, .ref x_part, .ref x_partPower, .int 0, .ref x_kept]))] sz) := by
  refine Met.ofW (cc := b_House_power) (maxL := 2) (ret := (some .int)) (by decide) rfl ?_
  intro p e s m args below meth c s₁ B hml hv
  obtain ⟨rfl, hsz, hP, hK, hD0, hN⟩ := hv
  have hx := B.exec
  have hb := B.bytes
  have hr := B.returns
  have hT : ∀ w ∈ lw_g, w.before _ s = true := fun w h => atoms_spec (ws := w_House_power) B.pre w (List.mem_cons_of_mem _ h)
  have hown : s.vm.findClass R_House = some m.cls := findClass_of_methodNamed B.named
  have hlocks := B.notSynchronized
  subst hsz
  have hD := hD0.self (sz := s.heap.size)
  generalize hAe : va_A [(h0, .inr (11, [.ref x_desk, .ref x_reader, .ref x_cells, .ref x_tape, .int 0, .ref x_script, .int 0, .ref x_rootAt, .ref x_rootTimes, .int 0, .ref x_spotX, .ref x_spotY, .ref x_bond, .int 0, .ref x_end, .ref x_span, .int 0, .ref x_part, .ref x_partPower, .int 0, .ref x_kept]))] s.heap.size = A at hD ⊢
  have hA : ∀ q : Nat, s.heap.size ≤ q → A q := fun q h => by rw [← hAe]; exact Or.inr h
  have hS : va_S A s.heap s.heap [] := va_S.rf
  have hP : va_P (dC, dI) classes [(h0, .inr (11, [.ref x_desk, .ref x_reader, .ref x_cells, .ref x_tape, .int 0, .ref x_script, .int 0, .ref x_rootAt, .ref x_rootTimes, .int 0, .ref x_spotX, .ref x_spotY, .ref x_bond, .int 0, .ref x_end, .ref x_span, .int 0, .ref x_part, .ref x_partPower, .int 0, .ref x_kept]))] s.heap := hP
  have hl := lv_entry ([.ref h0, .int a1]) (n := 2) (Nat.le_of_ble_eq_true rfl)
  rw [lg_entry_eq]
  generalize (lg_sl ([.ref h0, .int a1]) ++ List.replicate (2 - (lg_sl ([.ref h0, .int a1])).length) Slot.unset).toArray = ls at hl ⊢
  have hl : lv_has ls 2 [(0, .ref h0), (1, .int a1)] := hl
  refine lv_iload_n hx hb d_House_power_0 rfl (lv_at hl 1 rfl) ?_
  refine lv_if_lt (tgt := 21) hx hb d_House_power_1 (by decide) (fun c_1 => ?_) (fun c_1 => ?_)
  · refine lv_iconst (v := (-1)) hx hb d_House_power_21 (by decide) ?_
    have hP9 := hP.sub (ws' := []) [] rfl
    have hD9 := hD.sub (ws' := []) [] (by decide) rfl
    have hK9 := hK.sub (tys' := []) [] rfl
    exact W.iret (v := (-1)) hx hb hr (fun t ht hW => ⟨⟨(-1), (), rfl, rfl, by rw [ht]; exact hP9, va_K.moved hW.alike hK9, hD9⟩, hS.F ht⟩) hS.2.2 d_House_power_22
  · refine lv_iload_n hx hb d_House_power_4 rfl (lv_at hl 1 rfl) ?_
    refine lv_aload_n hx hb d_House_power_5 rfl (lv_at hl 0 rfl) ?_
    refine va_get (D := (dC, dI)) (ci := 11) (v := .int 0) (C := R_House) (T := F_House) (N := 21) hx hb hT i_House hown hK hP 0 rfl rfl 19 (by decide) (hT _ tw_634) (fun _ h9 => h9) rfl d_House_power_6 ?_
    refine lv_icmp_ge (tgt := 21) hx hb d_House_power_9 (by decide) (fun c_2 => ?_) (fun c_2 => absurd (Int32.not_lt.mp c_1) c_2)
    refine lv_iconst (v := (-1)) hx hb d_House_power_21 (by decide) ?_
    have hP9 := hP.sub (ws' := []) [] rfl
    have hD9 := hD.sub (ws' := []) [] (by decide) rfl
    have hK9 := hK.sub (tys' := []) [] rfl
    exact W.iret (v := (-1)) hx hb hr (fun t ht hW => ⟨⟨(-1), (), rfl, rfl, by rw [ht]; exact hP9, va_K.moved hW.alike hK9, hD9⟩, hS.F ht⟩) hS.2.2 d_House_power_22

set_option maxHeartbeats 4000000 in
set_option maxRecDepth 100000 in
/-- hold on a fresh house -/
theorem c_House_hold_0 (l : Launch) (dC : Nat → ClassId) (dI : Nat → Nat → Nat) (sz : Nat) (h0 : Nat) (x_desk : Nat) (x_reader : Nat) (x_cells : Nat) (x_tape : Nat) (x_script : Nat) (x_rootAt : Nat) (x_rootTimes : Nat) (x_spotX : Nat) (x_spotY : Nat) (x_bond : Nat) (x_end : Nat) (x_span : Nat) (x_part : Nat) (x_partPower : Nat) (x_kept : Nat) (a1 : Int32) (a2 : Int32)  : Met l y_House_hold w_House_hold ({ frames := 0, cells := 0, slots := 0, locals := 0 }) (va_Pc [.ref h0, .int a1, .int a2] (fun U => U.heap.size = sz ∧ va_P (dC, dI) classes [(h0, .inr (11, [.ref x_desk, .ref x_reader, .ref x_cells, .ref x_tape, .int 0, .ref x_script, .int 0, .ref x_rootAt, .ref x_rootTimes, .int 0, .ref x_spotX, .ref x_spotY, .ref x_bond, .int 0, .ref x_end, .ref x_span, .int 0, .ref x_part, .ref x_partPower, .int 0, .ref x_kept]))] U.heap ∧ va_K (dC, dI) classes [] U ∧ va_D (fun _ => True) [(h0, .inr (11, [.ref x_desk, .ref x_reader, .ref x_cells, .ref x_tape, .int 0, .ref x_script, .int 0, .ref x_rootAt, .ref x_rootTimes, .int 0, .ref x_spotX, .ref x_spotY, .ref x_bond, .int 0, .ref x_end, .ref x_span, .int 0, .ref x_part, .ref x_partPower, .int 0, .ref x_kept]))] ∧ nx_K U)) (va_Qi (fun (r : Int32) (_ : Unit) => r = (-1)) (fun _ t => va_P (dC, dI) classes [] t.heap ∧ va_K (dC, dI) classes [] t ∧ va_D (va_A [(h0, .inr (11, [.ref x_desk, .ref x_reader, .ref x_cells, .ref x_tape, .int 0, .ref x_script, .int 0, .ref x_rootAt, .ref x_rootTimes, .int 0, .ref x_spotX, .ref x_spotY, .ref x_bond, .int 0, .ref x_end, .ref x_span, .int 0, .ref x_part, .ref x_partPower, .int 0, .ref x_kept]))] sz) []) (va_A [(h0, .inr (11, [.ref x_desk, .ref x_reader, .ref x_cells, .ref x_tape, .int 0, .ref x_script, .int 0, .ref x_rootAt, .ref x_rootTimes, .int 0, .ref x_spotX, .ref x_spotY, .ref x_bond, .int 0, .ref x_end, .ref x_span, .int 0, .ref x_part, .ref x_partPower, .int 0, .ref x_kept]))] sz)) 0 0 (va_A [(h0, .inr (11, [.ref x_desk, .ref x_reader, .ref x_cells, .ref x_tape, .int 0, .ref x_script, .int 0, .ref x_rootAt, .ref x_rootTimes, .int 0, .ref x_spotX, .ref x_spotY, .ref x_bond, .int 0, .ref x_end, .ref x_span, .int 0, .ref x_part, .ref x_partPower, .int 0, .ref x_kept]))] sz) := by
  refine Met.ofW (cc := b_House_hold) (maxL := 3) (ret := (some .int)) (by decide) rfl ?_
  intro p e s m args below meth c s₁ B hml hv
  obtain ⟨rfl, hsz, hP, hK, hD0, hN⟩ := hv
  have hx := B.exec
  have hb := B.bytes
  have hr := B.returns
  have hT : ∀ w ∈ lw_g, w.before _ s = true := fun w h => atoms_spec (ws := w_House_hold) B.pre w (List.mem_cons_of_mem _ h)
  have hown : s.vm.findClass R_House = some m.cls := findClass_of_methodNamed B.named
  have hlocks := B.notSynchronized
  subst hsz
  have hD := hD0.self (sz := s.heap.size)
  generalize hAe : va_A [(h0, .inr (11, [.ref x_desk, .ref x_reader, .ref x_cells, .ref x_tape, .int 0, .ref x_script, .int 0, .ref x_rootAt, .ref x_rootTimes, .int 0, .ref x_spotX, .ref x_spotY, .ref x_bond, .int 0, .ref x_end, .ref x_span, .int 0, .ref x_part, .ref x_partPower, .int 0, .ref x_kept]))] s.heap.size = A at hD ⊢
  have hA : ∀ q : Nat, s.heap.size ≤ q → A q := fun q h => by rw [← hAe]; exact Or.inr h
  have hS : va_S A s.heap s.heap [] := va_S.rf
  have hP : va_P (dC, dI) classes [(h0, .inr (11, [.ref x_desk, .ref x_reader, .ref x_cells, .ref x_tape, .int 0, .ref x_script, .int 0, .ref x_rootAt, .ref x_rootTimes, .int 0, .ref x_spotX, .ref x_spotY, .ref x_bond, .int 0, .ref x_end, .ref x_span, .int 0, .ref x_part, .ref x_partPower, .int 0, .ref x_kept]))] s.heap := hP
  have hl := lv_entry ([.ref h0, .int a1, .int a2]) (n := 3) (Nat.le_of_ble_eq_true rfl)
  rw [lg_entry_eq]
  generalize (lg_sl ([.ref h0, .int a1, .int a2]) ++ List.replicate (3 - (lg_sl ([.ref h0, .int a1, .int a2])).length) Slot.unset).toArray = ls at hl ⊢
  have hl : lv_has ls 3 [(0, .ref h0), (1, .int a1), (2, .int a2)] := hl
  refine lv_iload_n hx hb d_House_hold_0 rfl (lv_at hl 1 rfl) ?_
  refine lv_if_lt (tgt := 22) hx hb d_House_hold_1 (by decide) (fun c_1 => ?_) (fun c_1 => ?_)
  · refine lv_iconst (v := (-1)) hx hb d_House_hold_22 (by decide) ?_
    have hP9 := hP.sub (ws' := []) [] rfl
    have hD9 := hD.sub (ws' := []) [] (by decide) rfl
    have hK9 := hK.sub (tys' := []) [] rfl
    exact W.iret (v := (-1)) hx hb hr (fun t ht hW => ⟨⟨(-1), (), rfl, rfl, by rw [ht]; exact hP9, va_K.moved hW.alike hK9, hD9⟩, hS.F ht⟩) hS.2.2 d_House_hold_23
  · refine lv_iload_n hx hb d_House_hold_4 rfl (lv_at hl 1 rfl) ?_
    refine lv_bipush (v := 8) hx hb d_House_hold_5 (by decide) ?_
    refine lv_icmp_ge (tgt := 22) hx hb d_House_hold_7 (by decide) (fun c_2 => ?_) (fun c_2 => ?_)
    · refine lv_iconst (v := (-1)) hx hb d_House_hold_22 (by decide) ?_
      have hP9 := hP.sub (ws' := []) [] rfl
      have hD9 := hD.sub (ws' := []) [] (by decide) rfl
      have hK9 := hK.sub (tys' := []) [] rfl
      exact W.iret (v := (-1)) hx hb hr (fun t ht hW => ⟨⟨(-1), (), rfl, rfl, by rw [ht]; exact hP9, va_K.moved hW.alike hK9, hD9⟩, hS.F ht⟩) hS.2.2 d_House_hold_23
    · refine lv_iload_n hx hb d_House_hold_10 rfl (lv_at hl 2 rfl) ?_
      refine lv_if_lt (tgt := 22) hx hb d_House_hold_11 (by decide) (fun c_3 => ?_) (fun c_3 => ?_)
      · refine lv_iconst (v := (-1)) hx hb d_House_hold_22 (by decide) ?_
        have hP9 := hP.sub (ws' := []) [] rfl
        have hD9 := hD.sub (ws' := []) [] (by decide) rfl
        have hK9 := hK.sub (tys' := []) [] rfl
        exact W.iret (v := (-1)) hx hb hr (fun t ht hW => ⟨⟨(-1), (), rfl, rfl, by rw [ht]; exact hP9, va_K.moved hW.alike hK9, hD9⟩, hS.F ht⟩) hS.2.2 d_House_hold_23
      · refine lv_iload_n hx hb d_House_hold_14 rfl (lv_at hl 2 rfl) ?_
        refine lv_aload_n hx hb d_House_hold_15 rfl (lv_at hl 0 rfl) ?_
        refine va_get (D := (dC, dI)) (ci := 11) (v := .int 0) (C := R_House) (T := F_House) (N := 21) hx hb hT i_House hown hK hP 0 rfl rfl 9 (by decide) (hT _ tw_624) (fun _ h9 => h9) rfl d_House_hold_16 ?_
        refine lv_icmp_lt (tgt := 24) hx hb d_House_hold_19 (by decide) (fun c_4 => absurd c_4 c_3) (fun c_4 => ?_)
        refine lv_iconst (v := (-1)) hx hb d_House_hold_22 (by decide) ?_
        have hP9 := hP.sub (ws' := []) [] rfl
        have hD9 := hD.sub (ws' := []) [] (by decide) rfl
        have hK9 := hK.sub (tys' := []) [] rfl
        exact W.iret (v := (-1)) hx hb hr (fun t ht hW => ⟨⟨(-1), (), rfl, rfl, by rw [ht]; exact hP9, va_K.moved hW.alike hK9, hD9⟩, hS.F ht⟩) hS.2.2 d_House_hold_23

set_option maxHeartbeats 4000000 in
set_option maxRecDepth 100000 in
/-- reckon on a fresh house -/
theorem c_House_reckon_0 (l : Launch) (dC : Nat → ClassId) (dI : Nat → Nat → Nat) (sz : Nat) (h0 : Nat) (x_desk : Nat) (x_reader : Nat) (x_cells : Nat) (x_tape : Nat) (x_script : Nat) (x_rootAt : Nat) (x_rootTimes : Nat) (x_spotX : Nat) (x_spotY : Nat) (x_bond : Nat) (x_end : Nat) (x_span : Nat) (x_part : Nat) (x_partPower : Nat) (x_kept : Nat) (cK : ClassId) (a1 : Int32) (a2 : Int32) (a3 : Int32) (a4 : Int32)  : Met l y_House_reckon w_House_reckon ({ frames := 1, cells := 0, slots := 0, locals := 21 }) (va_Pc [.ref h0, .int a1, .int a2, .int a3, .int a4] (fun U => U.heap.size = sz ∧ va_P (dC, dI) classes [(h0, .inr (11, [.ref x_desk, .ref x_reader, .ref x_cells, .ref x_tape, .int 0, .ref x_script, .int 0, .ref x_rootAt, .ref x_rootTimes, .int 0, .ref x_spotX, .ref x_spotY, .ref x_bond, .int 0, .ref x_end, .ref x_span, .int 0, .ref x_part, .ref x_partPower, .int 0, .ref x_kept])), (x_kept, .inl (cK, 8, .inr (.inr (.inr (.inr (fun _ => none))))))] U.heap ∧ va_K (dC, dI) classes [(cK, .object "RealHouse$Real")] U ∧ va_D (fun _ => True) [(h0, .inr (11, [.ref x_desk, .ref x_reader, .ref x_cells, .ref x_tape, .int 0, .ref x_script, .int 0, .ref x_rootAt, .ref x_rootTimes, .int 0, .ref x_spotX, .ref x_spotY, .ref x_bond, .int 0, .ref x_end, .ref x_span, .int 0, .ref x_part, .ref x_partPower, .int 0, .ref x_kept])), (x_kept, .inl (cK, 8, .inr (.inr (.inr (.inr (fun _ => none))))))] ∧ nx_K U)) (va_Qi (fun (r : Int32) (_ : Unit) => r = (-1)) (fun _ t => va_P (dC, dI) classes [] t.heap ∧ va_K (dC, dI) classes [] t ∧ va_D (va_A [(h0, .inr (11, [.ref x_desk, .ref x_reader, .ref x_cells, .ref x_tape, .int 0, .ref x_script, .int 0, .ref x_rootAt, .ref x_rootTimes, .int 0, .ref x_spotX, .ref x_spotY, .ref x_bond, .int 0, .ref x_end, .ref x_span, .int 0, .ref x_part, .ref x_partPower, .int 0, .ref x_kept])), (x_kept, .inl (cK, 8, .inr (.inr (.inr (.inr (fun _ => none))))))] sz) []) (va_A [(h0, .inr (11, [.ref x_desk, .ref x_reader, .ref x_cells, .ref x_tape, .int 0, .ref x_script, .int 0, .ref x_rootAt, .ref x_rootTimes, .int 0, .ref x_spotX, .ref x_spotY, .ref x_bond, .int 0, .ref x_end, .ref x_span, .int 0, .ref x_part, .ref x_partPower, .int 0, .ref x_kept])), (x_kept, .inl (cK, 8, .inr (.inr (.inr (.inr (fun _ => none))))))] sz)) 0 0 (va_A [(h0, .inr (11, [.ref x_desk, .ref x_reader, .ref x_cells, .ref x_tape, .int 0, .ref x_script, .int 0, .ref x_rootAt, .ref x_rootTimes, .int 0, .ref x_spotX, .ref x_spotY, .ref x_bond, .int 0, .ref x_end, .ref x_span, .int 0, .ref x_part, .ref x_partPower, .int 0, .ref x_kept])), (x_kept, .inl (cK, 8, .inr (.inr (.inr (.inr (fun _ => none))))))] sz) := by
  refine Met.ofW (cc := b_House_reckon) (maxL := 10) (ret := (some .int)) (by decide) rfl ?_
  intro p e s m args below meth c s₁ B hml hv
  obtain ⟨rfl, hsz, hP, hK, hD0, hN⟩ := hv
  have hx := B.exec
  have hb := B.bytes
  have hr := B.returns
  have hT : ∀ w ∈ lw_g, w.before _ s = true := fun w h => atoms_spec (ws := w_House_reckon) B.pre w (List.mem_cons_of_mem _ h)
  have hown : s.vm.findClass R_House = some m.cls := findClass_of_methodNamed B.named
  have hlocks := B.notSynchronized
  subst hsz
  have hD := hD0.self (sz := s.heap.size)
  generalize hAe : va_A [(h0, .inr (11, [.ref x_desk, .ref x_reader, .ref x_cells, .ref x_tape, .int 0, .ref x_script, .int 0, .ref x_rootAt, .ref x_rootTimes, .int 0, .ref x_spotX, .ref x_spotY, .ref x_bond, .int 0, .ref x_end, .ref x_span, .int 0, .ref x_part, .ref x_partPower, .int 0, .ref x_kept])), (x_kept, .inl (cK, 8, .inr (.inr (.inr (.inr (fun _ => none))))))] s.heap.size = A at hD ⊢
  have hA : ∀ q : Nat, s.heap.size ≤ q → A q := fun q h => by rw [← hAe]; exact Or.inr h
  have hS : va_S A s.heap s.heap [] := va_S.rf
  have hP : va_P (dC, dI) classes [(h0, .inr (11, [.ref x_desk, .ref x_reader, .ref x_cells, .ref x_tape, .int 0, .ref x_script, .int 0, .ref x_rootAt, .ref x_rootTimes, .int 0, .ref x_spotX, .ref x_spotY, .ref x_bond, .int 0, .ref x_end, .ref x_span, .int 0, .ref x_part, .ref x_partPower, .int 0, .ref x_kept])), (x_kept, .inl (cK, 8, .inr (.inr (.inr (.inr (fun _ => none))))))] s.heap := hP
  have hl := lv_entry ([.ref h0, .int a1, .int a2, .int a3, .int a4]) (n := 10) (Nat.le_of_ble_eq_true rfl)
  rw [lg_entry_eq]
  generalize (lg_sl ([.ref h0, .int a1, .int a2, .int a3, .int a4]) ++ List.replicate (10 - (lg_sl ([.ref h0, .int a1, .int a2, .int a3, .int a4])).length) Slot.unset).toArray = ls at hl ⊢
  have hl : lv_has ls 10 [(0, .ref h0), (1, .int a1), (2, .int a2), (3, .int a3), (4, .int a4)] := hl
  refine lv_iload_n hx hb d_House_reckon_0 rfl (lv_at hl 1 rfl) ?_
  refine lv_if_lt (tgt := 36) hx hb d_House_reckon_1 (by decide) (fun c_1 => ?_) (fun c_1 => ?_)
  · refine lv_iconst (v := (-1)) hx hb d_House_reckon_36 (by decide) ?_
    have hP9 := hP.sub (ws' := []) [] rfl
    have hD9 := hD.sub (ws' := []) [] (by decide) rfl
    have hK9 := hK.sub (tys' := []) [] rfl
    exact W.iret (v := (-1)) hx hb hr (fun t ht hW => ⟨⟨(-1), (), rfl, rfl, by rw [ht]; exact hP9, va_K.moved hW.alike hK9, hD9⟩, hS.F ht⟩) hS.2.2 d_House_reckon_37
  · refine lv_iload_n hx hb d_House_reckon_4 rfl (lv_at hl 1 rfl) ?_
    refine lv_bipush (v := 8) hx hb d_House_reckon_5 (by decide) ?_
    refine lv_icmp_ge (tgt := 36) hx hb d_House_reckon_7 (by decide) (fun c_2 => ?_) (fun c_2 => ?_)
    · refine lv_iconst (v := (-1)) hx hb d_House_reckon_36 (by decide) ?_
      have hP9 := hP.sub (ws' := []) [] rfl
      have hD9 := hD.sub (ws' := []) [] (by decide) rfl
      have hK9 := hK.sub (tys' := []) [] rfl
      exact W.iret (v := (-1)) hx hb hr (fun t ht hW => ⟨⟨(-1), (), rfl, rfl, by rw [ht]; exact hP9, va_K.moved hW.alike hK9, hD9⟩, hS.F ht⟩) hS.2.2 d_House_reckon_37
    · refine lv_iload_n hx hb d_House_reckon_10 rfl (lv_at hl 2 rfl) ?_
      refine lv_if_lt (tgt := 36) hx hb d_House_reckon_11 (by decide) (fun c_3 => ?_) (fun c_3 => ?_)
      · refine lv_iconst (v := (-1)) hx hb d_House_reckon_36 (by decide) ?_
        have hP9 := hP.sub (ws' := []) [] rfl
        have hD9 := hD.sub (ws' := []) [] (by decide) rfl
        have hK9 := hK.sub (tys' := []) [] rfl
        exact W.iret (v := (-1)) hx hb hr (fun t ht hW => ⟨⟨(-1), (), rfl, rfl, by rw [ht]; exact hP9, va_K.moved hW.alike hK9, hD9⟩, hS.F ht⟩) hS.2.2 d_House_reckon_37
      · refine lv_iload_n hx hb d_House_reckon_14 rfl (lv_at hl 2 rfl) ?_
        refine lv_iconst (v := 3) hx hb d_House_reckon_15 (by decide) ?_
        refine lv_icmp_gt (tgt := 36) hx hb d_House_reckon_16 (by decide) (fun c_4 => ?_) (fun c_4 => ?_)
        · refine lv_iconst (v := (-1)) hx hb d_House_reckon_36 (by decide) ?_
          have hP9 := hP.sub (ws' := []) [] rfl
          have hD9 := hD.sub (ws' := []) [] (by decide) rfl
          have hK9 := hK.sub (tys' := []) [] rfl
          exact W.iret (v := (-1)) hx hb hr (fun t ht hW => ⟨⟨(-1), (), rfl, rfl, by rw [ht]; exact hP9, va_K.moved hW.alike hK9, hD9⟩, hS.F ht⟩) hS.2.2 d_House_reckon_37
        · refine lv_aload_n hx hb d_House_reckon_19 rfl (lv_at hl 0 rfl) ?_
          refine lv_iload_n hx hb d_House_reckon_20 rfl (lv_at hl 3 rfl) ?_
          have hPc := hP.sub (ws' := [(h0, .inr (11, [.ref x_desk, .ref x_reader, .ref x_cells, .ref x_tape, .int 0, .ref x_script, .int 0, .ref x_rootAt, .ref x_rootTimes, .int 0, .ref x_spotX, .ref x_spotY, .ref x_bond, .int 0, .ref x_end, .ref x_span, .int 0, .ref x_part, .ref x_partPower, .int 0, .ref x_kept])), (x_kept, .inl (cK, 8, .inr (.inr (.inr (.inr (fun _ => none))))))]) [0, 1] rfl
          have hDc := hD.sub (ws' := [(h0, .inr (11, [.ref x_desk, .ref x_reader, .ref x_cells, .ref x_tape, .int 0, .ref x_script, .int 0, .ref x_rootAt, .ref x_rootTimes, .int 0, .ref x_spotX, .ref x_spotY, .ref x_bond, .int 0, .ref x_end, .ref x_span, .int 0, .ref x_part, .ref x_partPower, .int 0, .ref x_kept])), (x_kept, .inl (cK, 8, .inr (.inr (.inr (.inr (fun _ => none))))))]) [0, 1] (by decide) rfl
          have hKc := hK.sub (tys' := [(cK, .object "RealHouse$Real")]) [0] rfl
          have hFc := va_free (wc := [(h0, .inr (11, [.ref x_desk, .ref x_reader, .ref x_cells, .ref x_tape, .int 0, .ref x_script, .int 0, .ref x_rootAt, .ref x_rootTimes, .int 0, .ref x_spotX, .ref x_spotY, .ref x_bond, .int 0, .ref x_end, .ref x_span, .int 0, .ref x_part, .ref x_partPower, .int 0, .ref x_kept])), (x_kept, .inl (cK, 8, .inr (.inr (.inr (.inr (fun _ => none))))))]) hD hS hA [0, 1] rfl
          refine va_calli (va_runV (As := [.int a3]) (rest := []) ⟨hx, hb, hml, hown, hT⟩ (c_House_isNoNumber_0 l dC dI s.heap.size h0 x_desk x_reader x_cells x_tape x_script x_rootAt x_rootTimes x_spotX x_spotY x_bond x_end x_span x_part x_partPower x_kept cK a3 ) (cwV 1 hT (tb_goodV g_House_isNoNumber tw_1549 tw_1551 (tb_sel (q := (⟨"RealHouse", "isNoNumber", "(I)Z"⟩, 21)) (i := 64) (by decide +kernel)) tw_1) rfl rfl rfl (by decide +kernel) ⟨Nat.le_of_ble_eq_true rfl, Nat.le_of_ble_eq_true rfl⟩) ⟨fun a U g mk q => by obtain ⟨q0, q1, qP, qK, qD, qN⟩ := q; exact ⟨q0, q1, qP, va_K.moved (u := U) (U := U.calling g mk a) (Vm.Alike.refl U.vm) qK, qD, nx_K.same (u := U) (U := U.calling g mk a) rfl qN⟩, va_recv hKc hPc (ci := 11) (q0 := 0) rfl rfl, fun U hU hW => ⟨rfl, by rw [hU], by rw [hU]; exact hPc, va_K.moved hW.alike hKc, hDc.weaken (fun _ _ _ _ => trivial), nx_K.warm hW hN⟩⟩ rfl rfl hl.1 rfl (lv_room (Nat.le_of_ble_eq_true rfl)) d_House_reckon_21 ⟨Nat.le_of_ble_eq_true rfl, Nat.le_of_ble_eq_true rfl⟩) hS (fun q _ h => hFc q h) hFc (fun r_5 u t H1 locs ht hvm hw hB hz1 hk1 hS => ?_)
          obtain ⟨hP1, hK1, hD1⟩ := hB
          rw [ht] at hP1
          have hK1 := va_K.moved hvm.symm hK1
          obtain rfl : r_5 = 1 := hw
          obtain ⟨hP, hD⟩ := va_join (wr := []) (w1 := [(h0, .inr (11, [.ref x_desk, .ref x_reader, .ref x_cells, .ref x_tape, .int 0, .ref x_script, .int 0, .ref x_rootAt, .ref x_rootTimes, .int 0, .ref x_spotX, .ref x_spotY, .ref x_bond, .int 0, .ref x_end, .ref x_span, .int 0, .ref x_part, .ref x_partPower, .int 0, .ref x_kept])), (x_kept, .inl (cK, 8, .inr (.inr (.inr (.inr (fun _ => none))))))]) hP hD [0, 1] [] rfl rfl (by decide) (by decide) hk1 hFc hP1 hD1
          have hK := (hK.sub (tys' := []) [] rfl).app hK1
          generalize H1 = H at hP hS ⊢
          have hP : va_P (dC, dI) classes [(h0, .inr (11, [.ref x_desk, .ref x_reader, .ref x_cells, .ref x_tape, .int 0, .ref x_script, .int 0, .ref x_rootAt, .ref x_rootTimes, .int 0, .ref x_spotX, .ref x_spotY, .ref x_bond, .int 0, .ref x_end, .ref x_span, .int 0, .ref x_part, .ref x_partPower, .int 0, .ref x_kept])), (x_kept, .inl (cK, 8, .inr (.inr (.inr (.inr (fun _ => none))))))] H := hP
          have hD : va_D A [(h0, .inr (11, [.ref x_desk, .ref x_reader, .ref x_cells, .ref x_tape, .int 0, .ref x_script, .int 0, .ref x_rootAt, .ref x_rootTimes, .int 0, .ref x_spotX, .ref x_spotY, .ref x_bond, .int 0, .ref x_end, .ref x_span, .int 0, .ref x_part, .ref x_partPower, .int 0, .ref x_kept])), (x_kept, .inl (cK, 8, .inr (.inr (.inr (.inr (fun _ => none))))))] := hD
          have hK : va_K (dC, dI) classes [(cK, .object "RealHouse$Real")] s := hK
          refine lv_if_ne (tgt := 36) hx hb d_House_reckon_24 (by decide) (fun c_6 => ?_) (fun c_6 => absurd c_6 (by decide))
          refine lv_iconst (v := (-1)) hx hb d_House_reckon_36 (by decide) ?_
          have hP9 := hP.sub (ws' := []) [] rfl
          have hD9 := hD.sub (ws' := []) [] (by decide) rfl
          have hK9 := hK.sub (tys' := []) [] rfl
          exact W.iret (v := (-1)) hx hb hr (fun t ht hW => ⟨⟨(-1), (), rfl, rfl, by rw [ht]; exact hP9, va_K.moved hW.alike hK9, hD9⟩, hS.F ht⟩) hS.2.2 d_House_reckon_37

set_option maxHeartbeats 4000000 in
set_option maxRecDepth 100000 in
/-- least on a fresh house -/
theorem c_House_least_0 (l : Launch) (dC : Nat → ClassId) (dI : Nat → Nat → Nat) (sz : Nat) (h0 : Nat) (x_desk : Nat) (x_reader : Nat) (x_cells : Nat) (x_tape : Nat) (x_script : Nat) (x_rootAt : Nat) (x_rootTimes : Nat) (x_spotX : Nat) (x_spotY : Nat) (x_bond : Nat) (x_end : Nat) (x_span : Nat) (x_part : Nat) (x_partPower : Nat) (x_kept : Nat) (cK : ClassId) (a1 : Int32)  : Met l y_House_least w_House_least ({ frames := 1, cells := 0, slots := 0, locals := 21 }) (va_Pc [.ref h0, .int a1] (fun U => U.heap.size = sz ∧ va_P (dC, dI) classes [(h0, .inr (11, [.ref x_desk, .ref x_reader, .ref x_cells, .ref x_tape, .int 0, .ref x_script, .int 0, .ref x_rootAt, .ref x_rootTimes, .int 0, .ref x_spotX, .ref x_spotY, .ref x_bond, .int 0, .ref x_end, .ref x_span, .int 0, .ref x_part, .ref x_partPower, .int 0, .ref x_kept])), (x_kept, .inl (cK, 8, .inr (.inr (.inr (.inr (fun _ => none))))))] U.heap ∧ va_K (dC, dI) classes [(cK, .object "RealHouse$Real")] U ∧ va_D (fun _ => True) [(h0, .inr (11, [.ref x_desk, .ref x_reader, .ref x_cells, .ref x_tape, .int 0, .ref x_script, .int 0, .ref x_rootAt, .ref x_rootTimes, .int 0, .ref x_spotX, .ref x_spotY, .ref x_bond, .int 0, .ref x_end, .ref x_span, .int 0, .ref x_part, .ref x_partPower, .int 0, .ref x_kept])), (x_kept, .inl (cK, 8, .inr (.inr (.inr (.inr (fun _ => none))))))] ∧ nx_K U)) (va_Qi (fun (r : Int32) (_ : Unit) => r = (-1)) (fun _ t => va_P (dC, dI) classes [] t.heap ∧ va_K (dC, dI) classes [] t ∧ va_D (va_A [(h0, .inr (11, [.ref x_desk, .ref x_reader, .ref x_cells, .ref x_tape, .int 0, .ref x_script, .int 0, .ref x_rootAt, .ref x_rootTimes, .int 0, .ref x_spotX, .ref x_spotY, .ref x_bond, .int 0, .ref x_end, .ref x_span, .int 0, .ref x_part, .ref x_partPower, .int 0, .ref x_kept])), (x_kept, .inl (cK, 8, .inr (.inr (.inr (.inr (fun _ => none))))))] sz) []) (va_A [(h0, .inr (11, [.ref x_desk, .ref x_reader, .ref x_cells, .ref x_tape, .int 0, .ref x_script, .int 0, .ref x_rootAt, .ref x_rootTimes, .int 0, .ref x_spotX, .ref x_spotY, .ref x_bond, .int 0, .ref x_end, .ref x_span, .int 0, .ref x_part, .ref x_partPower, .int 0, .ref x_kept])), (x_kept, .inl (cK, 8, .inr (.inr (.inr (.inr (fun _ => none))))))] sz)) 0 0 (va_A [(h0, .inr (11, [.ref x_desk, .ref x_reader, .ref x_cells, .ref x_tape, .int 0, .ref x_script, .int 0, .ref x_rootAt, .ref x_rootTimes, .int 0, .ref x_spotX, .ref x_spotY, .ref x_bond, .int 0, .ref x_end, .ref x_span, .int 0, .ref x_part, .ref x_partPower, .int 0, .ref x_kept])), (x_kept, .inl (cK, 8, .inr (.inr (.inr (.inr (fun _ => none))))))] sz) := by
  refine Met.ofW (cc := b_House_least) (maxL := 2) (ret := (some .int)) (by decide) rfl ?_
  intro p e s m args below meth c s₁ B hml hv
  obtain ⟨rfl, hsz, hP, hK, hD0, hN⟩ := hv
  have hx := B.exec
  have hb := B.bytes
  have hr := B.returns
  have hT : ∀ w ∈ lw_g, w.before _ s = true := fun w h => atoms_spec (ws := w_House_least) B.pre w (List.mem_cons_of_mem _ h)
  have hown : s.vm.findClass R_House = some m.cls := findClass_of_methodNamed B.named
  have hlocks := B.notSynchronized
  subst hsz
  have hD := hD0.self (sz := s.heap.size)
  generalize hAe : va_A [(h0, .inr (11, [.ref x_desk, .ref x_reader, .ref x_cells, .ref x_tape, .int 0, .ref x_script, .int 0, .ref x_rootAt, .ref x_rootTimes, .int 0, .ref x_spotX, .ref x_spotY, .ref x_bond, .int 0, .ref x_end, .ref x_span, .int 0, .ref x_part, .ref x_partPower, .int 0, .ref x_kept])), (x_kept, .inl (cK, 8, .inr (.inr (.inr (.inr (fun _ => none))))))] s.heap.size = A at hD ⊢
  have hA : ∀ q : Nat, s.heap.size ≤ q → A q := fun q h => by rw [← hAe]; exact Or.inr h
  have hS : va_S A s.heap s.heap [] := va_S.rf
  have hP : va_P (dC, dI) classes [(h0, .inr (11, [.ref x_desk, .ref x_reader, .ref x_cells, .ref x_tape, .int 0, .ref x_script, .int 0, .ref x_rootAt, .ref x_rootTimes, .int 0, .ref x_spotX, .ref x_spotY, .ref x_bond, .int 0, .ref x_end, .ref x_span, .int 0, .ref x_part, .ref x_partPower, .int 0, .ref x_kept])), (x_kept, .inl (cK, 8, .inr (.inr (.inr (.inr (fun _ => none))))))] s.heap := hP
  have hl := lv_entry ([.ref h0, .int a1]) (n := 2) (Nat.le_of_ble_eq_true rfl)
  rw [lg_entry_eq]
  generalize (lg_sl ([.ref h0, .int a1]) ++ List.replicate (2 - (lg_sl ([.ref h0, .int a1])).length) Slot.unset).toArray = ls at hl ⊢
  have hl : lv_has ls 2 [(0, .ref h0), (1, .int a1)] := hl
  refine lv_aload_n hx hb d_House_least_0 rfl (lv_at hl 0 rfl) ?_
  refine lv_iload_n hx hb d_House_least_1 rfl (lv_at hl 1 rfl) ?_
  have hPc := hP.sub (ws' := [(h0, .inr (11, [.ref x_desk, .ref x_reader, .ref x_cells, .ref x_tape, .int 0, .ref x_script, .int 0, .ref x_rootAt, .ref x_rootTimes, .int 0, .ref x_spotX, .ref x_spotY, .ref x_bond, .int 0, .ref x_end, .ref x_span, .int 0, .ref x_part, .ref x_partPower, .int 0, .ref x_kept])), (x_kept, .inl (cK, 8, .inr (.inr (.inr (.inr (fun _ => none))))))]) [0, 1] rfl
  have hDc := hD.sub (ws' := [(h0, .inr (11, [.ref x_desk, .ref x_reader, .ref x_cells, .ref x_tape, .int 0, .ref x_script, .int 0, .ref x_rootAt, .ref x_rootTimes, .int 0, .ref x_spotX, .ref x_spotY, .ref x_bond, .int 0, .ref x_end, .ref x_span, .int 0, .ref x_part, .ref x_partPower, .int 0, .ref x_kept])), (x_kept, .inl (cK, 8, .inr (.inr (.inr (.inr (fun _ => none))))))]) [0, 1] (by decide) rfl
  have hKc := hK.sub (tys' := [(cK, .object "RealHouse$Real")]) [0] rfl
  have hFc := va_free (wc := [(h0, .inr (11, [.ref x_desk, .ref x_reader, .ref x_cells, .ref x_tape, .int 0, .ref x_script, .int 0, .ref x_rootAt, .ref x_rootTimes, .int 0, .ref x_spotX, .ref x_spotY, .ref x_bond, .int 0, .ref x_end, .ref x_span, .int 0, .ref x_part, .ref x_partPower, .int 0, .ref x_kept])), (x_kept, .inl (cK, 8, .inr (.inr (.inr (.inr (fun _ => none))))))]) hD hS hA [0, 1] rfl
  refine va_calli (va_runV (As := [.int a1]) (rest := []) ⟨hx, hb, hml, hown, hT⟩ (c_House_isNoNumber_0 l dC dI s.heap.size h0 x_desk x_reader x_cells x_tape x_script x_rootAt x_rootTimes x_spotX x_spotY x_bond x_end x_span x_part x_partPower x_kept cK a1 ) (cwV 1 hT (tb_goodV g_House_isNoNumber tw_1549 tw_1551 (tb_sel (q := (⟨"RealHouse", "isNoNumber", "(I)Z"⟩, 21)) (i := 64) (by decide +kernel)) tw_1) rfl rfl rfl (by decide +kernel) ⟨Nat.le_of_ble_eq_true rfl, Nat.le_of_ble_eq_true rfl⟩) ⟨fun a U g mk q => by obtain ⟨q0, q1, qP, qK, qD, qN⟩ := q; exact ⟨q0, q1, qP, va_K.moved (u := U) (U := U.calling g mk a) (Vm.Alike.refl U.vm) qK, qD, nx_K.same (u := U) (U := U.calling g mk a) rfl qN⟩, va_recv hKc hPc (ci := 11) (q0 := 0) rfl rfl, fun U hU hW => ⟨rfl, by rw [hU], by rw [hU]; exact hPc, va_K.moved hW.alike hKc, hDc.weaken (fun _ _ _ _ => trivial), nx_K.warm hW hN⟩⟩ rfl rfl hl.1 rfl (lv_room (Nat.le_of_ble_eq_true rfl)) d_House_least_2 ⟨Nat.le_of_ble_eq_true rfl, Nat.le_of_ble_eq_true rfl⟩) hS (fun q _ h => hFc q h) hFc (fun r_1 u t H1 locs ht hvm hw hB hz1 hk1 hS => ?_)
  obtain ⟨hP1, hK1, hD1⟩ := hB
  rw [ht] at hP1
  have hK1 := va_K.moved hvm.symm hK1
  obtain rfl : r_1 = 1 := hw
  obtain ⟨hP, hD⟩ := va_join (wr := []) (w1 := [(h0, .inr (11, [.ref x_desk, .ref x_reader, .ref x_cells, .ref x_tape, .int 0, .ref x_script, .int 0, .ref x_rootAt, .ref x_rootTimes, .int 0, .ref x_spotX, .ref x_spotY, .ref x_bond, .int 0, .ref x_end, .ref x_span, .int 0, .ref x_part, .ref x_partPower, .int 0, .ref x_kept])), (x_kept, .inl (cK, 8, .inr (.inr (.inr (.inr (fun _ => none))))))]) hP hD [0, 1] [] rfl rfl (by decide) (by decide) hk1 hFc hP1 hD1
  have hK := (hK.sub (tys' := []) [] rfl).app hK1
  generalize H1 = H at hP hS ⊢
  have hP : va_P (dC, dI) classes [(h0, .inr (11, [.ref x_desk, .ref x_reader, .ref x_cells, .ref x_tape, .int 0, .ref x_script, .int 0, .ref x_rootAt, .ref x_rootTimes, .int 0, .ref x_spotX, .ref x_spotY, .ref x_bond, .int 0, .ref x_end, .ref x_span, .int 0, .ref x_part, .ref x_partPower, .int 0, .ref x_kept])), (x_kept, .inl (cK, 8, .inr (.inr (.inr (.inr (fun _ => none))))))] H := hP
  have hD : va_D A [(h0, .inr (11, [.ref x_desk, .ref x_reader, .ref x_cells, .ref x_tape, .int 0, .ref x_script, .int 0, .ref x_rootAt, .ref x_rootTimes, .int 0, .ref x_spotX, .ref x_spotY, .ref x_bond, .int 0, .ref x_end, .ref x_span, .int 0, .ref x_part, .ref x_partPower, .int 0, .ref x_kept])), (x_kept, .inl (cK, 8, .inr (.inr (.inr (.inr (fun _ => none))))))] := hD
  have hK : va_K (dC, dI) classes [(cK, .object "RealHouse$Real")] s := hK
  refine lv_if_eq (tgt := 12) hx hb d_House_least_5 (by decide) (fun c_2 => absurd c_2 (by decide)) (fun c_2 => ?_)
  refine lv_iconst (v := (-1)) hx hb d_House_least_8 (by decide) ?_
  refine lv_goto (tgt := 25) hx hb d_House_least_9 (by decide) ?_
  have hP9 := hP.sub (ws' := []) [] rfl
  have hD9 := hD.sub (ws' := []) [] (by decide) rfl
  have hK9 := hK.sub (tys' := []) [] rfl
  exact W.iret (v := (-1)) hx hb hr (fun t ht hW => ⟨⟨(-1), (), rfl, rfl, by rw [ht]; exact hP9, va_K.moved hW.alike hK9, hD9⟩, hS.F ht⟩) hS.2.2 d_House_least_25

set_option maxHeartbeats 4000000 in
set_option maxRecDepth 100000 in
/-- number on a fresh house -/
theorem c_House_number_0 (l : Launch) (dC : Nat → ClassId) (dI : Nat → Nat → Nat) (sz : Nat) (h0 : Nat) (x_desk : Nat) (x_reader : Nat) (x_cells : Nat) (x_tape : Nat) (x_script : Nat) (x_rootAt : Nat) (x_rootTimes : Nat) (x_spotX : Nat) (x_spotY : Nat) (x_bond : Nat) (x_end : Nat) (x_span : Nat) (x_part : Nat) (x_partPower : Nat) (x_kept : Nat) (cK : ClassId) (a1 : Int32) (a2 : Int32)  : Met l y_House_number w_House_number ({ frames := 1, cells := 0, slots := 0, locals := 21 }) (va_Pc [.ref h0, .int a1, .int a2] (fun U => U.heap.size = sz ∧ va_P (dC, dI) classes [(h0, .inr (11, [.ref x_desk, .ref x_reader, .ref x_cells, .ref x_tape, .int 0, .ref x_script, .int 0, .ref x_rootAt, .ref x_rootTimes, .int 0, .ref x_spotX, .ref x_spotY, .ref x_bond, .int 0, .ref x_end, .ref x_span, .int 0, .ref x_part, .ref x_partPower, .int 0, .ref x_kept])), (x_kept, .inl (cK, 8, .inr (.inr (.inr (.inr (fun _ => none))))))] U.heap ∧ va_K (dC, dI) classes [(cK, .object "RealHouse$Real")] U ∧ va_D (fun _ => True) [(h0, .inr (11, [.ref x_desk, .ref x_reader, .ref x_cells, .ref x_tape, .int 0, .ref x_script, .int 0, .ref x_rootAt, .ref x_rootTimes, .int 0, .ref x_spotX, .ref x_spotY, .ref x_bond, .int 0, .ref x_end, .ref x_span, .int 0, .ref x_part, .ref x_partPower, .int 0, .ref x_kept])), (x_kept, .inl (cK, 8, .inr (.inr (.inr (.inr (fun _ => none))))))] ∧ nx_K U)) (va_Qi (fun (r : Int32) (_ : Unit) => r = (-1)) (fun _ t => va_P (dC, dI) classes [] t.heap ∧ va_K (dC, dI) classes [] t ∧ va_D (va_A [(h0, .inr (11, [.ref x_desk, .ref x_reader, .ref x_cells, .ref x_tape, .int 0, .ref x_script, .int 0, .ref x_rootAt, .ref x_rootTimes, .int 0, .ref x_spotX, .ref x_spotY, .ref x_bond, .int 0, .ref x_end, .ref x_span, .int 0, .ref x_part, .ref x_partPower, .int 0, .ref x_kept])), (x_kept, .inl (cK, 8, .inr (.inr (.inr (.inr (fun _ => none))))))] sz) []) (va_A [(h0, .inr (11, [.ref x_desk, .ref x_reader, .ref x_cells, .ref x_tape, .int 0, .ref x_script, .int 0, .ref x_rootAt, .ref x_rootTimes, .int 0, .ref x_spotX, .ref x_spotY, .ref x_bond, .int 0, .ref x_end, .ref x_span, .int 0, .ref x_part, .ref x_partPower, .int 0, .ref x_kept])), (x_kept, .inl (cK, 8, .inr (.inr (.inr (.inr (fun _ => none))))))] sz)) 0 0 (va_A [(h0, .inr (11, [.ref x_desk, .ref x_reader, .ref x_cells, .ref x_tape, .int 0, .ref x_script, .int 0, .ref x_rootAt, .ref x_rootTimes, .int 0, .ref x_spotX, .ref x_spotY, .ref x_bond, .int 0, .ref x_end, .ref x_span, .int 0, .ref x_part, .ref x_partPower, .int 0, .ref x_kept])), (x_kept, .inl (cK, 8, .inr (.inr (.inr (.inr (fun _ => none))))))] sz) := by
  refine Met.ofW (cc := b_House_number) (maxL := 3) (ret := (some .int)) (by decide) rfl ?_
  intro p e s m args below meth c s₁ B hml hv
  obtain ⟨rfl, hsz, hP, hK, hD0, hN⟩ := hv
  have hx := B.exec
  have hb := B.bytes
  have hr := B.returns
  have hT : ∀ w ∈ lw_g, w.before _ s = true := fun w h => atoms_spec (ws := w_House_number) B.pre w (List.mem_cons_of_mem _ h)
  have hown : s.vm.findClass R_House = some m.cls := findClass_of_methodNamed B.named
  have hlocks := B.notSynchronized
  subst hsz
  have hD := hD0.self (sz := s.heap.size)
  generalize hAe : va_A [(h0, .inr (11, [.ref x_desk, .ref x_reader, .ref x_cells, .ref x_tape, .int 0, .ref x_script, .int 0, .ref x_rootAt, .ref x_rootTimes, .int 0, .ref x_spotX, .ref x_spotY, .ref x_bond, .int 0, .ref x_end, .ref x_span, .int 0, .ref x_part, .ref x_partPower, .int 0, .ref x_kept])), (x_kept, .inl (cK, 8, .inr (.inr (.inr (.inr (fun _ => none))))))] s.heap.size = A at hD ⊢
  have hA : ∀ q : Nat, s.heap.size ≤ q → A q := fun q h => by rw [← hAe]; exact Or.inr h
  have hS : va_S A s.heap s.heap [] := va_S.rf
  have hP : va_P (dC, dI) classes [(h0, .inr (11, [.ref x_desk, .ref x_reader, .ref x_cells, .ref x_tape, .int 0, .ref x_script, .int 0, .ref x_rootAt, .ref x_rootTimes, .int 0, .ref x_spotX, .ref x_spotY, .ref x_bond, .int 0, .ref x_end, .ref x_span, .int 0, .ref x_part, .ref x_partPower, .int 0, .ref x_kept])), (x_kept, .inl (cK, 8, .inr (.inr (.inr (.inr (fun _ => none))))))] s.heap := hP
  have hl := lv_entry ([.ref h0, .int a1, .int a2]) (n := 3) (Nat.le_of_ble_eq_true rfl)
  rw [lg_entry_eq]
  generalize (lg_sl ([.ref h0, .int a1, .int a2]) ++ List.replicate (3 - (lg_sl ([.ref h0, .int a1, .int a2])).length) Slot.unset).toArray = ls at hl ⊢
  have hl : lv_has ls 3 [(0, .ref h0), (1, .int a1), (2, .int a2)] := hl
  refine lv_aload_n hx hb d_House_number_0 rfl (lv_at hl 0 rfl) ?_
  refine lv_iload_n hx hb d_House_number_1 rfl (lv_at hl 1 rfl) ?_
  have hPc := hP.sub (ws' := [(h0, .inr (11, [.ref x_desk, .ref x_reader, .ref x_cells, .ref x_tape, .int 0, .ref x_script, .int 0, .ref x_rootAt, .ref x_rootTimes, .int 0, .ref x_spotX, .ref x_spotY, .ref x_bond, .int 0, .ref x_end, .ref x_span, .int 0, .ref x_part, .ref x_partPower, .int 0, .ref x_kept])), (x_kept, .inl (cK, 8, .inr (.inr (.inr (.inr (fun _ => none))))))]) [0, 1] rfl
  have hDc := hD.sub (ws' := [(h0, .inr (11, [.ref x_desk, .ref x_reader, .ref x_cells, .ref x_tape, .int 0, .ref x_script, .int 0, .ref x_rootAt, .ref x_rootTimes, .int 0, .ref x_spotX, .ref x_spotY, .ref x_bond, .int 0, .ref x_end, .ref x_span, .int 0, .ref x_part, .ref x_partPower, .int 0, .ref x_kept])), (x_kept, .inl (cK, 8, .inr (.inr (.inr (.inr (fun _ => none))))))]) [0, 1] (by decide) rfl
  have hKc := hK.sub (tys' := [(cK, .object "RealHouse$Real")]) [0] rfl
  have hFc := va_free (wc := [(h0, .inr (11, [.ref x_desk, .ref x_reader, .ref x_cells, .ref x_tape, .int 0, .ref x_script, .int 0, .ref x_rootAt, .ref x_rootTimes, .int 0, .ref x_spotX, .ref x_spotY, .ref x_bond, .int 0, .ref x_end, .ref x_span, .int 0, .ref x_part, .ref x_partPower, .int 0, .ref x_kept])), (x_kept, .inl (cK, 8, .inr (.inr (.inr (.inr (fun _ => none))))))]) hD hS hA [0, 1] rfl
  refine va_calli (va_runV (As := [.int a1]) (rest := []) ⟨hx, hb, hml, hown, hT⟩ (c_House_isNoNumber_0 l dC dI s.heap.size h0 x_desk x_reader x_cells x_tape x_script x_rootAt x_rootTimes x_spotX x_spotY x_bond x_end x_span x_part x_partPower x_kept cK a1 ) (cwV 1 hT (tb_goodV g_House_isNoNumber tw_1549 tw_1551 (tb_sel (q := (⟨"RealHouse", "isNoNumber", "(I)Z"⟩, 21)) (i := 64) (by decide +kernel)) tw_1) rfl rfl rfl (by decide +kernel) ⟨Nat.le_of_ble_eq_true rfl, Nat.le_of_ble_eq_true rfl⟩) ⟨fun a U g mk q => by obtain ⟨q0, q1, qP, qK, qD, qN⟩ := q; exact ⟨q0, q1, qP, va_K.moved (u := U) (U := U.calling g mk a) (Vm.Alike.refl U.vm) qK, qD, nx_K.same (u := U) (U := U.calling g mk a) rfl qN⟩, va_recv hKc hPc (ci := 11) (q0 := 0) rfl rfl, fun U hU hW => ⟨rfl, by rw [hU], by rw [hU]; exact hPc, va_K.moved hW.alike hKc, hDc.weaken (fun _ _ _ _ => trivial), nx_K.warm hW hN⟩⟩ rfl rfl hl.1 rfl (lv_room (Nat.le_of_ble_eq_true rfl)) d_House_number_2 ⟨Nat.le_of_ble_eq_true rfl, Nat.le_of_ble_eq_true rfl⟩) hS (fun q _ h => hFc q h) hFc (fun r_1 u t H1 locs ht hvm hw hB hz1 hk1 hS => ?_)
  obtain ⟨hP1, hK1, hD1⟩ := hB
  rw [ht] at hP1
  have hK1 := va_K.moved hvm.symm hK1
  obtain rfl : r_1 = 1 := hw
  obtain ⟨hP, hD⟩ := va_join (wr := []) (w1 := [(h0, .inr (11, [.ref x_desk, .ref x_reader, .ref x_cells, .ref x_tape, .int 0, .ref x_script, .int 0, .ref x_rootAt, .ref x_rootTimes, .int 0, .ref x_spotX, .ref x_spotY, .ref x_bond, .int 0, .ref x_end, .ref x_span, .int 0, .ref x_part, .ref x_partPower, .int 0, .ref x_kept])), (x_kept, .inl (cK, 8, .inr (.inr (.inr (.inr (fun _ => none))))))]) hP hD [0, 1] [] rfl rfl (by decide) (by decide) hk1 hFc hP1 hD1
  have hK := (hK.sub (tys' := []) [] rfl).app hK1
  generalize H1 = H at hP hS ⊢
  have hP : va_P (dC, dI) classes [(h0, .inr (11, [.ref x_desk, .ref x_reader, .ref x_cells, .ref x_tape, .int 0, .ref x_script, .int 0, .ref x_rootAt, .ref x_rootTimes, .int 0, .ref x_spotX, .ref x_spotY, .ref x_bond, .int 0, .ref x_end, .ref x_span, .int 0, .ref x_part, .ref x_partPower, .int 0, .ref x_kept])), (x_kept, .inl (cK, 8, .inr (.inr (.inr (.inr (fun _ => none))))))] H := hP
  have hD : va_D A [(h0, .inr (11, [.ref x_desk, .ref x_reader, .ref x_cells, .ref x_tape, .int 0, .ref x_script, .int 0, .ref x_rootAt, .ref x_rootTimes, .int 0, .ref x_spotX, .ref x_spotY, .ref x_bond, .int 0, .ref x_end, .ref x_span, .int 0, .ref x_part, .ref x_partPower, .int 0, .ref x_kept])), (x_kept, .inl (cK, 8, .inr (.inr (.inr (.inr (fun _ => none))))))] := hD
  have hK : va_K (dC, dI) classes [(cK, .object "RealHouse$Real")] s := hK
  refine lv_if_eq (tgt := 12) hx hb d_House_number_5 (by decide) (fun c_2 => absurd c_2 (by decide)) (fun c_2 => ?_)
  refine lv_iconst (v := (-1)) hx hb d_House_number_8 (by decide) ?_
  refine lv_goto (tgt := 23) hx hb d_House_number_9 (by decide) ?_
  have hP9 := hP.sub (ws' := []) [] rfl
  have hD9 := hD.sub (ws' := []) [] (by decide) rfl
  have hK9 := hK.sub (tys' := []) [] rfl
  exact W.iret (v := (-1)) hx hb hr (fun t ht hW => ⟨⟨(-1), (), rfl, rfl, by rw [ht]; exact hP9, va_K.moved hW.alike hK9, hD9⟩, hS.F ht⟩) hS.2.2 d_House_number_23

set_option maxHeartbeats 4000000 in
set_option maxRecDepth 100000 in
/-- compare on a fresh house -/
theorem c_House_compare_0 (l : Launch) (dC : Nat → ClassId) (dI : Nat → Nat → Nat) (sz : Nat) (h0 : Nat) (x_desk : Nat) (x_reader : Nat) (x_cells : Nat) (x_tape : Nat) (x_script : Nat) (x_rootAt : Nat) (x_rootTimes : Nat) (x_spotX : Nat) (x_spotY : Nat) (x_bond : Nat) (x_end : Nat) (x_span : Nat) (x_part : Nat) (x_partPower : Nat) (x_kept : Nat) (cK : ClassId) (a1 : Int32) (a2 : Int32)  : Met l y_House_compare w_House_compare ({ frames := 1, cells := 0, slots := 0, locals := 21 }) (va_Pc [.ref h0, .int a1, .int a2] (fun U => U.heap.size = sz ∧ va_P (dC, dI) classes [(h0, .inr (11, [.ref x_desk, .ref x_reader, .ref x_cells, .ref x_tape, .int 0, .ref x_script, .int 0, .ref x_rootAt, .ref x_rootTimes, .int 0, .ref x_spotX, .ref x_spotY, .ref x_bond, .int 0, .ref x_end, .ref x_span, .int 0, .ref x_part, .ref x_partPower, .int 0, .ref x_kept])), (x_kept, .inl (cK, 8, .inr (.inr (.inr (.inr (fun _ => none))))))] U.heap ∧ va_K (dC, dI) classes [(cK, .object "RealHouse$Real")] U ∧ va_D (fun _ => True) [(h0, .inr (11, [.ref x_desk, .ref x_reader, .ref x_cells, .ref x_tape, .int 0, .ref x_script, .int 0, .ref x_rootAt, .ref x_rootTimes, .int 0, .ref x_spotX, .ref x_spotY, .ref x_bond, .int 0, .ref x_end, .ref x_span, .int 0, .ref x_part, .ref x_partPower, .int 0, .ref x_kept])), (x_kept, .inl (cK, 8, .inr (.inr (.inr (.inr (fun _ => none))))))] ∧ nx_K U)) (va_Qi (fun (r : Int32) (_ : Unit) => r = (-1)) (fun _ t => va_P (dC, dI) classes [] t.heap ∧ va_K (dC, dI) classes [] t ∧ va_D (va_A [(h0, .inr (11, [.ref x_desk, .ref x_reader, .ref x_cells, .ref x_tape, .int 0, .ref x_script, .int 0, .ref x_rootAt, .ref x_rootTimes, .int 0, .ref x_spotX, .ref x_spotY, .ref x_bond, .int 0, .ref x_end, .ref x_span, .int 0, .ref x_part, .ref x_partPower, .int 0, .ref x_kept])), (x_kept, .inl (cK, 8, .inr (.inr (.inr (.inr (fun _ => none))))))] sz) []) (va_A [(h0, .inr (11, [.ref x_desk, .ref x_reader, .ref x_cells, .ref x_tape, .int 0, .ref x_script, .int 0, .ref x_rootAt, .ref x_rootTimes, .int 0, .ref x_spotX, .ref x_spotY, .ref x_bond, .int 0, .ref x_end, .ref x_span, .int 0, .ref x_part, .ref x_partPower, .int 0, .ref x_kept])), (x_kept, .inl (cK, 8, .inr (.inr (.inr (.inr (fun _ => none))))))] sz)) 0 0 (va_A [(h0, .inr (11, [.ref x_desk, .ref x_reader, .ref x_cells, .ref x_tape, .int 0, .ref x_script, .int 0, .ref x_rootAt, .ref x_rootTimes, .int 0, .ref x_spotX, .ref x_spotY, .ref x_bond, .int 0, .ref x_end, .ref x_span, .int 0, .ref x_part, .ref x_partPower, .int 0, .ref x_kept])), (x_kept, .inl (cK, 8, .inr (.inr (.inr (.inr (fun _ => none))))))] sz) := by
  refine Met.ofW (cc := b_House_compare) (maxL := 3) (ret := (some .int)) (by decide) rfl ?_
  intro p e s m args below meth c s₁ B hml hv
  obtain ⟨rfl, hsz, hP, hK, hD0, hN⟩ := hv
  have hx := B.exec
  have hb := B.bytes
  have hr := B.returns
  have hT : ∀ w ∈ lw_g, w.before _ s = true := fun w h => atoms_spec (ws := w_House_compare) B.pre w (List.mem_cons_of_mem _ h)
  have hown : s.vm.findClass R_House = some m.cls := findClass_of_methodNamed B.named
  have hlocks := B.notSynchronized
  subst hsz
  have hD := hD0.self (sz := s.heap.size)
  generalize hAe : va_A [(h0, .inr (11, [.ref x_desk, .ref x_reader, .ref x_cells, .ref x_tape, .int 0, .ref x_script, .int 0, .ref x_rootAt, .ref x_rootTimes, .int 0, .ref x_spotX, .ref x_spotY, .ref x_bond, .int 0, .ref x_end, .ref x_span, .int 0, .ref x_part, .ref x_partPower, .int 0, .ref x_kept])), (x_kept, .inl (cK, 8, .inr (.inr (.inr (.inr (fun _ => none))))))] s.heap.size = A at hD ⊢
  have hA : ∀ q : Nat, s.heap.size ≤ q → A q := fun q h => by rw [← hAe]; exact Or.inr h
  have hS : va_S A s.heap s.heap [] := va_S.rf
  have hP : va_P (dC, dI) classes [(h0, .inr (11, [.ref x_desk, .ref x_reader, .ref x_cells, .ref x_tape, .int 0, .ref x_script, .int 0, .ref x_rootAt, .ref x_rootTimes, .int 0, .ref x_spotX, .ref x_spotY, .ref x_bond, .int 0, .ref x_end, .ref x_span, .int 0, .ref x_part, .ref x_partPower, .int 0, .ref x_kept])), (x_kept, .inl (cK, 8, .inr (.inr (.inr (.inr (fun _ => none))))))] s.heap := hP
  have hl := lv_entry ([.ref h0, .int a1, .int a2]) (n := 3) (Nat.le_of_ble_eq_true rfl)
  rw [lg_entry_eq]
  generalize (lg_sl ([.ref h0, .int a1, .int a2]) ++ List.replicate (3 - (lg_sl ([.ref h0, .int a1, .int a2])).length) Slot.unset).toArray = ls at hl ⊢
  have hl : lv_has ls 3 [(0, .ref h0), (1, .int a1), (2, .int a2)] := hl
  refine lv_aload_n hx hb d_House_compare_0 rfl (lv_at hl 0 rfl) ?_
  refine lv_iload_n hx hb d_House_compare_1 rfl (lv_at hl 1 rfl) ?_
  have hPc := hP.sub (ws' := [(h0, .inr (11, [.ref x_desk, .ref x_reader, .ref x_cells, .ref x_tape, .int 0, .ref x_script, .int 0, .ref x_rootAt, .ref x_rootTimes, .int 0, .ref x_spotX, .ref x_spotY, .ref x_bond, .int 0, .ref x_end, .ref x_span, .int 0, .ref x_part, .ref x_partPower, .int 0, .ref x_kept])), (x_kept, .inl (cK, 8, .inr (.inr (.inr (.inr (fun _ => none))))))]) [0, 1] rfl
  have hDc := hD.sub (ws' := [(h0, .inr (11, [.ref x_desk, .ref x_reader, .ref x_cells, .ref x_tape, .int 0, .ref x_script, .int 0, .ref x_rootAt, .ref x_rootTimes, .int 0, .ref x_spotX, .ref x_spotY, .ref x_bond, .int 0, .ref x_end, .ref x_span, .int 0, .ref x_part, .ref x_partPower, .int 0, .ref x_kept])), (x_kept, .inl (cK, 8, .inr (.inr (.inr (.inr (fun _ => none))))))]) [0, 1] (by decide) rfl
  have hKc := hK.sub (tys' := [(cK, .object "RealHouse$Real")]) [0] rfl
  have hFc := va_free (wc := [(h0, .inr (11, [.ref x_desk, .ref x_reader, .ref x_cells, .ref x_tape, .int 0, .ref x_script, .int 0, .ref x_rootAt, .ref x_rootTimes, .int 0, .ref x_spotX, .ref x_spotY, .ref x_bond, .int 0, .ref x_end, .ref x_span, .int 0, .ref x_part, .ref x_partPower, .int 0, .ref x_kept])), (x_kept, .inl (cK, 8, .inr (.inr (.inr (.inr (fun _ => none))))))]) hD hS hA [0, 1] rfl
  refine va_calli (va_runV (As := [.int a1]) (rest := []) ⟨hx, hb, hml, hown, hT⟩ (c_House_isNoNumber_0 l dC dI s.heap.size h0 x_desk x_reader x_cells x_tape x_script x_rootAt x_rootTimes x_spotX x_spotY x_bond x_end x_span x_part x_partPower x_kept cK a1 ) (cwV 1 hT (tb_goodV g_House_isNoNumber tw_1549 tw_1551 (tb_sel (q := (⟨"RealHouse", "isNoNumber", "(I)Z"⟩, 21)) (i := 64) (by decide +kernel)) tw_1) rfl rfl rfl (by decide +kernel) ⟨Nat.le_of_ble_eq_true rfl, Nat.le_of_ble_eq_true rfl⟩) ⟨fun a U g mk q => by obtain ⟨q0, q1, qP, qK, qD, qN⟩ := q; exact ⟨q0, q1, qP, va_K.moved (u := U) (U := U.calling g mk a) (Vm.Alike.refl U.vm) qK, qD, nx_K.same (u := U) (U := U.calling g mk a) rfl qN⟩, va_recv hKc hPc (ci := 11) (q0 := 0) rfl rfl, fun U hU hW => ⟨rfl, by rw [hU], by rw [hU]; exact hPc, va_K.moved hW.alike hKc, hDc.weaken (fun _ _ _ _ => trivial), nx_K.warm hW hN⟩⟩ rfl rfl hl.1 rfl (lv_room (Nat.le_of_ble_eq_true rfl)) d_House_compare_2 ⟨Nat.le_of_ble_eq_true rfl, Nat.le_of_ble_eq_true rfl⟩) hS (fun q _ h => hFc q h) hFc (fun r_1 u t H1 locs ht hvm hw hB hz1 hk1 hS => ?_)
  obtain ⟨hP1, hK1, hD1⟩ := hB
  rw [ht] at hP1
  have hK1 := va_K.moved hvm.symm hK1
  obtain rfl : r_1 = 1 := hw
  obtain ⟨hP, hD⟩ := va_join (wr := []) (w1 := [(h0, .inr (11, [.ref x_desk, .ref x_reader, .ref x_cells, .ref x_tape, .int 0, .ref x_script, .int 0, .ref x_rootAt, .ref x_rootTimes, .int 0, .ref x_spotX, .ref x_spotY, .ref x_bond, .int 0, .ref x_end, .ref x_span, .int 0, .ref x_part, .ref x_partPower, .int 0, .ref x_kept])), (x_kept, .inl (cK, 8, .inr (.inr (.inr (.inr (fun _ => none))))))]) hP hD [0, 1] [] rfl rfl (by decide) (by decide) hk1 hFc hP1 hD1
  have hK := (hK.sub (tys' := []) [] rfl).app hK1
  generalize H1 = H at hP hS ⊢
  have hP : va_P (dC, dI) classes [(h0, .inr (11, [.ref x_desk, .ref x_reader, .ref x_cells, .ref x_tape, .int 0, .ref x_script, .int 0, .ref x_rootAt, .ref x_rootTimes, .int 0, .ref x_spotX, .ref x_spotY, .ref x_bond, .int 0, .ref x_end, .ref x_span, .int 0, .ref x_part, .ref x_partPower, .int 0, .ref x_kept])), (x_kept, .inl (cK, 8, .inr (.inr (.inr (.inr (fun _ => none))))))] H := hP
  have hD : va_D A [(h0, .inr (11, [.ref x_desk, .ref x_reader, .ref x_cells, .ref x_tape, .int 0, .ref x_script, .int 0, .ref x_rootAt, .ref x_rootTimes, .int 0, .ref x_spotX, .ref x_spotY, .ref x_bond, .int 0, .ref x_end, .ref x_span, .int 0, .ref x_part, .ref x_partPower, .int 0, .ref x_kept])), (x_kept, .inl (cK, 8, .inr (.inr (.inr (.inr (fun _ => none))))))] := hD
  have hK : va_K (dC, dI) classes [(cK, .object "RealHouse$Real")] s := hK
  refine lv_if_ne (tgt := 16) hx hb d_House_compare_5 (by decide) (fun c_2 => ?_) (fun c_2 => absurd c_2 (by decide))
  refine lv_iconst (v := (-1)) hx hb d_House_compare_16 (by decide) ?_
  refine lv_goto (tgt := 37) hx hb d_House_compare_17 (by decide) ?_
  have hP9 := hP.sub (ws' := []) [] rfl
  have hD9 := hD.sub (ws' := []) [] (by decide) rfl
  have hK9 := hK.sub (tys' := []) [] rfl
  exact W.iret (v := (-1)) hx hb hr (fun t ht hW => ⟨⟨(-1), (), rfl, rfl, by rw [ht]; exact hP9, va_K.moved hW.alike hK9, hD9⟩, hS.F ht⟩) hS.2.2 d_House_compare_37

set_option maxHeartbeats 4000000 in
set_option maxRecDepth 100000 in
/-- out on a fresh house -/
theorem c_House_out_0 (l : Launch) (dC : Nat → ClassId) (dI : Nat → Nat → Nat) (sz : Nat) (h0 : Nat) (x_desk : Nat) (x_reader : Nat) (x_cells : Nat) (x_tape : Nat) (x_script : Nat) (x_rootAt : Nat) (x_rootTimes : Nat) (x_spotX : Nat) (x_spotY : Nat) (x_bond : Nat) (x_end : Nat) (x_span : Nat) (x_part : Nat) (x_partPower : Nat) (x_kept : Nat) (a1 : Int32)  : Met l y_House_out w_House_out ({ frames := 0, cells := 0, slots := 0, locals := 0 }) (va_Pc [.ref h0, .int a1] (fun U => U.heap.size = sz ∧ va_P (dC, dI) classes [(h0, .inr (11, [.ref x_desk, .ref x_reader, .ref x_cells, .ref x_tape, .int 0, .ref x_script, .int 0, .ref x_rootAt, .ref x_rootTimes, .int 0, .ref x_spotX, .ref x_spotY, .ref x_bond, .int 0, .ref x_end, .ref x_span, .int 0, .ref x_part, .ref x_partPower, .int 0, .ref x_kept]))] U.heap ∧ va_K (dC, dI) classes [] U ∧ va_D (fun _ => True) [(h0, .inr (11, [.ref x_desk, .ref x_reader, .ref x_cells, .ref x_tape, .int 0, .ref x_script, .int 0, .ref x_rootAt, .ref x_rootTimes, .int 0, .ref x_spotX, .ref x_spotY, .ref x_bond, .int 0, .ref x_end, .ref x_span, .int 0, .ref x_part, .ref x_partPower, .int 0, .ref x_kept]))] ∧ nx_K U)) (va_Qi (fun (r : Int32) (_ : Unit) => r = if a1 = (-1) then 0 else (-1)) (fun _ t => va_P (dC, dI) classes [] t.heap ∧ va_K (dC, dI) classes [] t ∧ va_D (va_A [(h0, .inr (11, [.ref x_desk, .ref x_reader, .ref x_cells, .ref x_tape, .int 0, .ref x_script, .int 0, .ref x_rootAt, .ref x_rootTimes, .int 0, .ref x_spotX, .ref x_spotY, .ref x_bond, .int 0, .ref x_end, .ref x_span, .int 0, .ref x_part, .ref x_partPower, .int 0, .ref x_kept]))] sz) []) (va_A [(h0, .inr (11, [.ref x_desk, .ref x_reader, .ref x_cells, .ref x_tape, .int 0, .ref x_script, .int 0, .ref x_rootAt, .ref x_rootTimes, .int 0, .ref x_spotX, .ref x_spotY, .ref x_bond, .int 0, .ref x_end, .ref x_span, .int 0, .ref x_part, .ref x_partPower, .int 0, .ref x_kept]))] sz)) 0 0 (va_A [(h0, .inr (11, [.ref x_desk, .ref x_reader, .ref x_cells, .ref x_tape, .int 0, .ref x_script, .int 0, .ref x_rootAt, .ref x_rootTimes, .int 0, .ref x_spotX, .ref x_spotY, .ref x_bond, .int 0, .ref x_end, .ref x_span, .int 0, .ref x_part, .ref x_partPower, .int 0, .ref x_kept]))] sz) := by
  refine Met.ofW (cc := b_House_out) (maxL := 2) (ret := (some .int)) (by decide) rfl ?_
  intro p e s m args below meth c s₁ B hml hv
  obtain ⟨rfl, hsz, hP, hK, hD0, hN⟩ := hv
  have hx := B.exec
  have hb := B.bytes
  have hr := B.returns
  have hT : ∀ w ∈ lw_g, w.before _ s = true := fun w h => atoms_spec (ws := w_House_out) B.pre w (List.mem_cons_of_mem _ h)
  have hown : s.vm.findClass R_House = some m.cls := findClass_of_methodNamed B.named
  have hlocks := B.notSynchronized
  subst hsz
  have hD := hD0.self (sz := s.heap.size)
  generalize hAe : va_A [(h0, .inr (11, [.ref x_desk, .ref x_reader, .ref x_cells, .ref x_tape, .int 0, .ref x_script, .int 0, .ref x_rootAt, .ref x_rootTimes, .int 0, .ref x_spotX, .ref x_spotY, .ref x_bond, .int 0, .ref x_end, .ref x_span, .int 0, .ref x_part, .ref x_partPower, .int 0, .ref x_kept]))] s.heap.size = A at hD ⊢
  have hA : ∀ q : Nat, s.heap.size ≤ q → A q := fun q h => by rw [← hAe]; exact Or.inr h
  have hS : va_S A s.heap s.heap [] := va_S.rf
  have hP : va_P (dC, dI) classes [(h0, .inr (11, [.ref x_desk, .ref x_reader, .ref x_cells, .ref x_tape, .int 0, .ref x_script, .int 0, .ref x_rootAt, .ref x_rootTimes, .int 0, .ref x_spotX, .ref x_spotY, .ref x_bond, .int 0, .ref x_end, .ref x_span, .int 0, .ref x_part, .ref x_partPower, .int 0, .ref x_kept]))] s.heap := hP
  have hl := lv_entry ([.ref h0, .int a1]) (n := 2) (Nat.le_of_ble_eq_true rfl)
  rw [lg_entry_eq]
  generalize (lg_sl ([.ref h0, .int a1]) ++ List.replicate (2 - (lg_sl ([.ref h0, .int a1])).length) Slot.unset).toArray = ls at hl ⊢
  have hl : lv_has ls 2 [(0, .ref h0), (1, .int a1)] := hl
  refine lv_iload_n hx hb d_House_out_0 rfl (lv_at hl 1 rfl) ?_
  refine lv_iconst (v := (-1)) hx hb d_House_out_1 (by decide) ?_
  refine lv_icmp_ne (tgt := 10) hx hb d_House_out_2 (by decide) (fun c_1 => ?_) (fun c_1 => ?_)
  · refine lv_iload_n hx hb d_House_out_10 rfl (lv_at hl 1 rfl) ?_
    refine lv_if_lt (tgt := 31) hx hb d_House_out_11 (by decide) (fun c_2 => ?_) (fun c_2 => ?_)
    · refine lv_iconst (v := (-1)) hx hb d_House_out_31 (by decide) ?_
      have hP9 := hP.sub (ws' := []) [] rfl
      have hD9 := hD.sub (ws' := []) [] (by decide) rfl
      have hK9 := hK.sub (tys' := []) [] rfl
      exact W.iret (v := (-1)) hx hb hr (fun t ht hW => ⟨⟨(-1), (), rfl, (if_neg c_1).symm, by rw [ht]; exact hP9, va_K.moved hW.alike hK9, hD9⟩, hS.F ht⟩) hS.2.2 d_House_out_32
    · refine lv_iload_n hx hb d_House_out_14 rfl (lv_at hl 1 rfl) ?_
      refine lv_aload_n hx hb d_House_out_15 rfl (lv_at hl 0 rfl) ?_
      refine va_get (D := (dC, dI)) (ci := 11) (v := .int 0) (C := R_House) (T := F_House) (N := 21) hx hb hT i_House hown hK hP 0 rfl rfl 6 (by decide) (hT _ tw_621) (fun _ h9 => h9) rfl d_House_out_16 ?_
      refine lv_icmp_ge (tgt := 31) hx hb d_House_out_19 (by decide) (fun c_3 => ?_) (fun c_3 => absurd (Int32.not_lt.mp c_2) c_3)
      refine lv_iconst (v := (-1)) hx hb d_House_out_31 (by decide) ?_
      have hP9 := hP.sub (ws' := []) [] rfl
      have hD9 := hD.sub (ws' := []) [] (by decide) rfl
      have hK9 := hK.sub (tys' := []) [] rfl
      exact W.iret (v := (-1)) hx hb hr (fun t ht hW => ⟨⟨(-1), (), rfl, (if_neg c_1).symm, by rw [ht]; exact hP9, va_K.moved hW.alike hK9, hD9⟩, hS.F ht⟩) hS.2.2 d_House_out_32
  · refine lv_aload_n hx hb d_House_out_5 rfl (lv_at hl 0 rfl) ?_
    refine va_get (D := (dC, dI)) (ci := 11) (v := .int 0) (C := R_House) (T := F_House) (N := 21) hx hb hT i_House hown hK hP 0 rfl rfl 6 (by decide) (hT _ tw_621) (fun _ h9 => h9) rfl d_House_out_6 ?_
    have hP9 := hP.sub (ws' := []) [] rfl
    have hD9 := hD.sub (ws' := []) [] (by decide) rfl
    have hK9 := hK.sub (tys' := []) [] rfl
    exact W.iret (v := 0) hx hb hr (fun t ht hW => ⟨⟨0, (), rfl, (if_pos c_1).symm, by rw [ht]; exact hP9, va_K.moved hW.alike hK9, hD9⟩, hS.F ht⟩) hS.2.2 d_House_out_9

set_option maxHeartbeats 4000000 in
set_option maxRecDepth 100000 in
/-- roots on a fresh house -/
theorem c_House_roots_0 (l : Launch) (dC : Nat → ClassId) (dI : Nat → Nat → Nat) (sz : Nat) (h0 : Nat) (x_desk : Nat) (x_reader : Nat) (x_cells : Nat) (x_tape : Nat) (x_script : Nat) (x_rootAt : Nat) (x_rootTimes : Nat) (x_spotX : Nat) (x_spotY : Nat) (x_bond : Nat) (x_end : Nat) (x_span : Nat) (x_part : Nat) (x_partPower : Nat) (x_kept : Nat) (cT : ClassId) (fT : Nat → Int32) (r_left : Nat) (r_right : Nat) (r_told : Nat) (r_curve : Nat) (r_steps : Nat) (r_stack : Nat) (t0 : Nat) (ft : Int32) (wx : Int32) (wy : Int32) (x_c : Nat) (cL : ClassId) (fc : Nat → Option Nat) (dk : Nat) (p0 : Nat) (p1 : Nat) (p2 : Nat) (p3 : Nat) (p4 : Nat) (p5 : Nat) (p6 : Nat) (p7 : Nat) (p8 : Nat) (y0 : Nat) (y1 : Nat) (y2 : Nat) (y3 : Nat) (y4 : Nat) (y5 : Nat) (y6 : Nat) (y7 : Nat) (y8 : Nat) (n : Int32) (hF : fc 0 = some p0 ∧ fc 1 = some p1 ∧ fc 2 = some p2 ∧ fc 3 = some p3 ∧ fc 4 = some p4 ∧ fc 5 = some p5 ∧ fc 6 = some p6 ∧ fc 7 = some p7 ∧ fc 8 = some p8) : Met l y_House_roots w_House_roots ({ frames := 5, cells := 0, slots := 0, locals := 119 }) (va_Pc [.ref h0, .int n] (fun U => U.heap.size = sz ∧ va_P (dC, dI) classes [(h0, .inr (11, [.ref x_desk, .ref x_reader, .ref x_cells, .ref x_tape, .int 0, .ref x_script, .int 0, .ref x_rootAt, .ref x_rootTimes, .int 0, .ref x_spotX, .ref x_spotY, .ref x_bond, .int 0, .ref x_end, .ref x_span, .int 0, .ref x_part, .ref x_partPower, .int 0, .ref x_kept])), (x_tape, .inl (cT, 400, .inl fT)), (x_reader, .inr (8, [.ref t0, .int 0, .int 0, .int ft, .int wx, .int wy, .int 0, .ref r_left, .ref r_right, .ref r_told, .ref r_curve, .int 0, .int 0, .int 0, .int 0, .ref r_steps, .int 0, .ref r_stack, .int 0])), (r_left, .inr (2, [.ref x_c])), (x_c, .inl (cL, 9, .inr (.inr (.inr (.inr fc))))), (p0, .inr (6, [.ref dk, .ref y0, .int 0])), (p1, .inr (6, [.ref dk, .ref y1, .int 0])), (p2, .inr (6, [.ref dk, .ref y2, .int 0])), (p3, .inr (6, [.ref dk, .ref y3, .int 0])), (p4, .inr (6, [.ref dk, .ref y4, .int 0])), (p5, .inr (6, [.ref dk, .ref y5, .int 0])), (p6, .inr (6, [.ref dk, .ref y6, .int 0])), (p7, .inr (6, [.ref dk, .ref y7, .int 0])), (p8, .inr (6, [.ref dk, .ref y8, .int 0]))] U.heap ∧ va_K (dC, dI) classes [(cT, .int), (cL, .object "RealHouse$Poly")] U ∧ va_D (fun _ => True) [(h0, .inr (11, [.ref x_desk, .ref x_reader, .ref x_cells, .ref x_tape, .int 0, .ref x_script, .int 0, .ref x_rootAt, .ref x_rootTimes, .int 0, .ref x_spotX, .ref x_spotY, .ref x_bond, .int 0, .ref x_end, .ref x_span, .int 0, .ref x_part, .ref x_partPower, .int 0, .ref x_kept])), (x_tape, .inl (cT, 400, .inl fT)), (x_reader, .inr (8, [.ref t0, .int 0, .int 0, .int ft, .int wx, .int wy, .int 0, .ref r_left, .ref r_right, .ref r_told, .ref r_curve, .int 0, .int 0, .int 0, .int 0, .ref r_steps, .int 0, .ref r_stack, .int 0])), (r_left, .inr (2, [.ref x_c])), (x_c, .inl (cL, 9, .inr (.inr (.inr (.inr fc))))), (p0, .inr (6, [.ref dk, .ref y0, .int 0])), (p1, .inr (6, [.ref dk, .ref y1, .int 0])), (p2, .inr (6, [.ref dk, .ref y2, .int 0])), (p3, .inr (6, [.ref dk, .ref y3, .int 0])), (p4, .inr (6, [.ref dk, .ref y4, .int 0])), (p5, .inr (6, [.ref dk, .ref y5, .int 0])), (p6, .inr (6, [.ref dk, .ref y6, .int 0])), (p7, .inr (6, [.ref dk, .ref y7, .int 0])), (p8, .inr (6, [.ref dk, .ref y8, .int 0]))] ∧ nx_K U)) (va_Qi (fun (r : Int32) (_ : Unit) => r = if n = 0 then (-2) else (-1)) (fun _ t => va_P (dC, dI) classes [] t.heap ∧ va_K (dC, dI) classes [] t ∧ va_D (va_A [(h0, .inr (11, [.ref x_desk, .ref x_reader, .ref x_cells, .ref x_tape, .int 0, .ref x_script, .int 0, .ref x_rootAt, .ref x_rootTimes, .int 0, .ref x_spotX, .ref x_spotY, .ref x_bond, .int 0, .ref x_end, .ref x_span, .int 0, .ref x_part, .ref x_partPower, .int 0, .ref x_kept])), (x_tape, .inl (cT, 400, .inl fT)), (x_reader, .inr (8, [.ref t0, .int 0, .int 0, .int ft, .int wx, .int wy, .int 0, .ref r_left, .ref r_right, .ref r_told, .ref r_curve, .int 0, .int 0, .int 0, .int 0, .ref r_steps, .int 0, .ref r_stack, .int 0])), (r_left, .inr (2, [.ref x_c])), (x_c, .inl (cL, 9, .inr (.inr (.inr (.inr fc))))), (p0, .inr (6, [.ref dk, .ref y0, .int 0])), (p1, .inr (6, [.ref dk, .ref y1, .int 0])), (p2, .inr (6, [.ref dk, .ref y2, .int 0])), (p3, .inr (6, [.ref dk, .ref y3, .int 0])), (p4, .inr (6, [.ref dk, .ref y4, .int 0])), (p5, .inr (6, [.ref dk, .ref y5, .int 0])), (p6, .inr (6, [.ref dk, .ref y6, .int 0])), (p7, .inr (6, [.ref dk, .ref y7, .int 0])), (p8, .inr (6, [.ref dk, .ref y8, .int 0]))] sz) []) (va_A [(h0, .inr (11, [.ref x_desk, .ref x_reader, .ref x_cells, .ref x_tape, .int 0, .ref x_script, .int 0, .ref x_rootAt, .ref x_rootTimes, .int 0, .ref x_spotX, .ref x_spotY, .ref x_bond, .int 0, .ref x_end, .ref x_span, .int 0, .ref x_part, .ref x_partPower, .int 0, .ref x_kept])), (x_tape, .inl (cT, 400, .inl fT)), (x_reader, .inr (8, [.ref t0, .int 0, .int 0, .int ft, .int wx, .int wy, .int 0, .ref r_left, .ref r_right, .ref r_told, .ref r_curve, .int 0, .int 0, .int 0, .int 0, .ref r_steps, .int 0, .ref r_stack, .int 0])), (r_left, .inr (2, [.ref x_c])), (x_c, .inl (cL, 9, .inr (.inr (.inr (.inr fc))))), (p0, .inr (6, [.ref dk, .ref y0, .int 0])), (p1, .inr (6, [.ref dk, .ref y1, .int 0])), (p2, .inr (6, [.ref dk, .ref y2, .int 0])), (p3, .inr (6, [.ref dk, .ref y3, .int 0])), (p4, .inr (6, [.ref dk, .ref y4, .int 0])), (p5, .inr (6, [.ref dk, .ref y5, .int 0])), (p6, .inr (6, [.ref dk, .ref y6, .int 0])), (p7, .inr (6, [.ref dk, .ref y7, .int 0])), (p8, .inr (6, [.ref dk, .ref y8, .int 0]))] sz)) 0 0 (va_A [(h0, .inr (11, [.ref x_desk, .ref x_reader, .ref x_cells, .ref x_tape, .int 0, .ref x_script, .int 0, .ref x_rootAt, .ref x_rootTimes, .int 0, .ref x_spotX, .ref x_spotY, .ref x_bond, .int 0, .ref x_end, .ref x_span, .int 0, .ref x_part, .ref x_partPower, .int 0, .ref x_kept])), (x_tape, .inl (cT, 400, .inl fT)), (x_reader, .inr (8, [.ref t0, .int 0, .int 0, .int ft, .int wx, .int wy, .int 0, .ref r_left, .ref r_right, .ref r_told, .ref r_curve, .int 0, .int 0, .int 0, .int 0, .ref r_steps, .int 0, .ref r_stack, .int 0])), (r_left, .inr (2, [.ref x_c])), (x_c, .inl (cL, 9, .inr (.inr (.inr (.inr fc))))), (p0, .inr (6, [.ref dk, .ref y0, .int 0])), (p1, .inr (6, [.ref dk, .ref y1, .int 0])), (p2, .inr (6, [.ref dk, .ref y2, .int 0])), (p3, .inr (6, [.ref dk, .ref y3, .int 0])), (p4, .inr (6, [.ref dk, .ref y4, .int 0])), (p5, .inr (6, [.ref dk, .ref y5, .int 0])), (p6, .inr (6, [.ref dk, .ref y6, .int 0])), (p7, .inr (6, [.ref dk, .ref y7, .int 0])), (p8, .inr (6, [.ref dk, .ref y8, .int 0]))] sz) := by
  refine Met.ofW (cc := b_House_roots) (maxL := 4) (ret := (some .int)) (by decide) rfl ?_
  intro p e s m args below meth c s₁ B hml hv
  obtain ⟨rfl, hsz, hP, hK, hD0, hN⟩ := hv
  have hx := B.exec
  have hb := B.bytes
  have hr := B.returns
  have hT : ∀ w ∈ lw_g, w.before _ s = true := fun w h => atoms_spec (ws := w_House_roots) B.pre w (List.mem_cons_of_mem _ h)
  have hown : s.vm.findClass R_House = some m.cls := findClass_of_methodNamed B.named
  have hlocks := B.notSynchronized
  subst hsz
  have hD := hD0.self (sz := s.heap.size)
  generalize hAe : va_A [(h0, .inr (11, [.ref x_desk, .ref x_reader, .ref x_cells, .ref x_tape, .int 0, .ref x_script, .int 0, .ref x_rootAt, .ref x_rootTimes, .int 0, .ref x_spotX, .ref x_spotY, .ref x_bond, .int 0, .ref x_end, .ref x_span, .int 0, .ref x_part, .ref x_partPower, .int 0, .ref x_kept])), (x_tape, .inl (cT, 400, .inl fT)), (x_reader, .inr (8, [.ref t0, .int 0, .int 0, .int ft, .int wx, .int wy, .int 0, .ref r_left, .ref r_right, .ref r_told, .ref r_curve, .int 0, .int 0, .int 0, .int 0, .ref r_steps, .int 0, .ref r_stack, .int 0])), (r_left, .inr (2, [.ref x_c])), (x_c, .inl (cL, 9, .inr (.inr (.inr (.inr fc))))), (p0, .inr (6, [.ref dk, .ref y0, .int 0])), (p1, .inr (6, [.ref dk, .ref y1, .int 0])), (p2, .inr (6, [.ref dk, .ref y2, .int 0])), (p3, .inr (6, [.ref dk, .ref y3, .int 0])), (p4, .inr (6, [.ref dk, .ref y4, .int 0])), (p5, .inr (6, [.ref dk, .ref y5, .int 0])), (p6, .inr (6, [.ref dk, .ref y6, .int 0])), (p7, .inr (6, [.ref dk, .ref y7, .int 0])), (p8, .inr (6, [.ref dk, .ref y8, .int 0]))] s.heap.size = A at hD ⊢
  have hA : ∀ q : Nat, s.heap.size ≤ q → A q := fun q h => by rw [← hAe]; exact Or.inr h
  have hS : va_S A s.heap s.heap [] := va_S.rf
  have hP : va_P (dC, dI) classes [(h0, .inr (11, [.ref x_desk, .ref x_reader, .ref x_cells, .ref x_tape, .int 0, .ref x_script, .int 0, .ref x_rootAt, .ref x_rootTimes, .int 0, .ref x_spotX, .ref x_spotY, .ref x_bond, .int 0, .ref x_end, .ref x_span, .int 0, .ref x_part, .ref x_partPower, .int 0, .ref x_kept])), (x_tape, .inl (cT, 400, .inl fT)), (x_reader, .inr (8, [.ref t0, .int 0, .int 0, .int ft, .int wx, .int wy, .int 0, .ref r_left, .ref r_right, .ref r_told, .ref r_curve, .int 0, .int 0, .int 0, .int 0, .ref r_steps, .int 0, .ref r_stack, .int 0])), (r_left, .inr (2, [.ref x_c])), (x_c, .inl (cL, 9, .inr (.inr (.inr (.inr fc))))), (p0, .inr (6, [.ref dk, .ref y0, .int 0])), (p1, .inr (6, [.ref dk, .ref y1, .int 0])), (p2, .inr (6, [.ref dk, .ref y2, .int 0])), (p3, .inr (6, [.ref dk, .ref y3, .int 0])), (p4, .inr (6, [.ref dk, .ref y4, .int 0])), (p5, .inr (6, [.ref dk, .ref y5, .int 0])), (p6, .inr (6, [.ref dk, .ref y6, .int 0])), (p7, .inr (6, [.ref dk, .ref y7, .int 0])), (p8, .inr (6, [.ref dk, .ref y8, .int 0]))] s.heap := hP
  have hl := lv_entry ([.ref h0, .int n]) (n := 4) (Nat.le_of_ble_eq_true rfl)
  rw [lg_entry_eq]
  generalize (lg_sl ([.ref h0, .int n]) ++ List.replicate (4 - (lg_sl ([.ref h0, .int n])).length) Slot.unset).toArray = ls at hl ⊢
  have hl : lv_has ls 4 [(0, .ref h0), (1, .int n)] := hl
  refine lv_aload_n hx hb d_House_roots_0 rfl (lv_at hl 0 rfl) ?_
  refine lv_iload_n hx hb d_House_roots_1 rfl (lv_at hl 1 rfl) ?_
  refine lv_iconst (v := 1) hx hb d_House_roots_2 (by decide) ?_
  have hPc := hP.sub (ws' := [(h0, .inr (11, [.ref x_desk, .ref x_reader, .ref x_cells, .ref x_tape, .int 0, .ref x_script, .int 0, .ref x_rootAt, .ref x_rootTimes, .int 0, .ref x_spotX, .ref x_spotY, .ref x_bond, .int 0, .ref x_end, .ref x_span, .int 0, .ref x_part, .ref x_partPower, .int 0, .ref x_kept])), (x_tape, .inl (cT, 400, .inl fT)), (x_reader, .inr (8, [.ref t0, .int 0, .int 0, .int ft, .int wx, .int wy, .int 0, .ref r_left, .ref r_right, .ref r_told, .ref r_curve, .int 0, .int 0, .int 0, .int 0, .ref r_steps, .int 0, .ref r_stack, .int 0])), (r_left, .inr (2, [.ref x_c])), (x_c, .inl (cL, 9, .inr (.inr (.inr (.inr fc))))), (p0, .inr (6, [.ref dk, .ref y0, .int 0])), (p1, .inr (6, [.ref dk, .ref y1, .int 0])), (p2, .inr (6, [.ref dk, .ref y2, .int 0])), (p3, .inr (6, [.ref dk, .ref y3, .int 0])), (p4, .inr (6, [.ref dk, .ref y4, .int 0])), (p5, .inr (6, [.ref dk, .ref y5, .int 0])), (p6, .inr (6, [.ref dk, .ref y6, .int 0])), (p7, .inr (6, [.ref dk, .ref y7, .int 0])), (p8, .inr (6, [.ref dk, .ref y8, .int 0]))]) [0, 1, 2, 3, 4, 5, 6, 7, 8, 9, 10, 11, 12, 13] rfl
  have hDc := hD.sub (ws' := [(h0, .inr (11, [.ref x_desk, .ref x_reader, .ref x_cells, .ref x_tape, .int 0, .ref x_script, .int 0, .ref x_rootAt, .ref x_rootTimes, .int 0, .ref x_spotX, .ref x_spotY, .ref x_bond, .int 0, .ref x_end, .ref x_span, .int 0, .ref x_part, .ref x_partPower, .int 0, .ref x_kept])), (x_tape, .inl (cT, 400, .inl fT)), (x_reader, .inr (8, [.ref t0, .int 0, .int 0, .int ft, .int wx, .int wy, .int 0, .ref r_left, .ref r_right, .ref r_told, .ref r_curve, .int 0, .int 0, .int 0, .int 0, .ref r_steps, .int 0, .ref r_stack, .int 0])), (r_left, .inr (2, [.ref x_c])), (x_c, .inl (cL, 9, .inr (.inr (.inr (.inr fc))))), (p0, .inr (6, [.ref dk, .ref y0, .int 0])), (p1, .inr (6, [.ref dk, .ref y1, .int 0])), (p2, .inr (6, [.ref dk, .ref y2, .int 0])), (p3, .inr (6, [.ref dk, .ref y3, .int 0])), (p4, .inr (6, [.ref dk, .ref y4, .int 0])), (p5, .inr (6, [.ref dk, .ref y5, .int 0])), (p6, .inr (6, [.ref dk, .ref y6, .int 0])), (p7, .inr (6, [.ref dk, .ref y7, .int 0])), (p8, .inr (6, [.ref dk, .ref y8, .int 0]))]) [0, 1, 2, 3, 4, 5, 6, 7, 8, 9, 10, 11, 12, 13] (by decide) rfl
  have hKc := hK.sub (tys' := [(cT, .int), (cL, .object "RealHouse$Poly")]) [0, 1] rfl
  have hFc := va_free (wc := [(h0, .inr (11, [.ref x_desk, .ref x_reader, .ref x_cells, .ref x_tape, .int 0, .ref x_script, .int 0, .ref x_rootAt, .ref x_rootTimes, .int 0, .ref x_spotX, .ref x_spotY, .ref x_bond, .int 0, .ref x_end, .ref x_span, .int 0, .ref x_part, .ref x_partPower, .int 0, .ref x_kept])), (x_tape, .inl (cT, 400, .inl fT)), (x_reader, .inr (8, [.ref t0, .int 0, .int 0, .int ft, .int wx, .int wy, .int 0, .ref r_left, .ref r_right, .ref r_told, .ref r_curve, .int 0, .int 0, .int 0, .int 0, .ref r_steps, .int 0, .ref r_stack, .int 0])), (r_left, .inr (2, [.ref x_c])), (x_c, .inl (cL, 9, .inr (.inr (.inr (.inr fc))))), (p0, .inr (6, [.ref dk, .ref y0, .int 0])), (p1, .inr (6, [.ref dk, .ref y1, .int 0])), (p2, .inr (6, [.ref dk, .ref y2, .int 0])), (p3, .inr (6, [.ref dk, .ref y3, .int 0])), (p4, .inr (6, [.ref dk, .ref y4, .int 0])), (p5, .inr (6, [.ref dk, .ref y5, .int 0])), (p6, .inr (6, [.ref dk, .ref y6, .int 0])), (p7, .inr (6, [.ref dk, .ref y7, .int 0])), (p8, .inr (6, [.ref dk, .ref y8, .int 0]))]) hD hS hA [0, 1, 2, 3, 4, 5, 6, 7, 8, 9, 10, 11, 12, 13] rfl
  refine va_calli (va_runV (As := [.int n, .int 1]) (rest := []) ⟨hx, hb, hml, hown, hT⟩ (c_House_readInX_0 l dC dI s.heap.size h0 x_desk x_reader x_cells x_tape x_script x_rootAt x_rootTimes x_spotX x_spotY x_bond x_end x_span x_part x_partPower x_kept cT fT r_left r_right r_told r_curve r_steps r_stack t0 ft wx wy x_c cL fc dk p0 p1 p2 p3 p4 p5 p6 p7 p8 y0 y1 y2 y3 y4 y5 y6 y7 y8 n 1 hF) (cwV 2 hT (tb_goodV g_House_readInX tw_946 tw_948 (tb_sel (q := (⟨"RealHouse", "readInX", "(IZ)I"⟩, 21)) (i := 17) (by decide +kernel)) tw_1) rfl rfl rfl (by decide +kernel) ⟨Nat.le_of_ble_eq_true rfl, Nat.le_of_ble_eq_true rfl⟩) ⟨fun a U g mk q => by obtain ⟨q0, q1, qP, qK, qD, qN⟩ := q; exact ⟨q0, q1, qP, va_K.moved (u := U) (U := U.calling g mk a) (Vm.Alike.refl U.vm) qK, qD, nx_K.same (u := U) (U := U.calling g mk a) rfl qN⟩, va_recv hKc hPc (ci := 11) (q0 := 0) rfl rfl, fun U hU hW => ⟨rfl, by rw [hU], by rw [hU]; exact hPc, va_K.moved hW.alike hKc, hDc.weaken (fun _ _ _ _ => trivial), nx_K.warm hW hN⟩⟩ rfl rfl hl.1 rfl (lv_room (Nat.le_of_ble_eq_true rfl)) d_House_roots_3 ⟨Nat.le_of_ble_eq_true rfl, Nat.le_of_ble_eq_true rfl⟩) hS (fun q _ h => hFc q h) hFc (fun r_1 u t H1 locs ht hvm hw hB hz1 hk1 hS => ?_)
  obtain ⟨hP1, hK1, hD1⟩ := hB
  rw [ht] at hP1
  have hK1 := va_K.moved hvm.symm hK1
  have hr_1 := hw
  obtain ⟨hP, hD⟩ := va_join (wr := []) (w1 := []) hP hD [0, 1, 2, 3, 4, 5, 6, 7, 8, 9, 10, 11, 12, 13] [] rfl rfl (by decide) (by decide) hk1 hFc hP1 hD1
  have hK := (hK.sub (tys' := [(cT, .int), (cL, .object "RealHouse$Poly")]) [0, 1] rfl).app hK1
  generalize H1 = H at hP hS ⊢
  have hP : va_P (dC, dI) classes [] H := hP
  have hD : va_D A [] := hD
  have hK : va_K (dC, dI) classes [(cT, .int), (cL, .object "RealHouse$Poly")] s := hK
  refine lv_istore_n (lv' := [(2, .int r_1), (0, .ref h0), (1, .int n)]) hx hb d_House_roots_6 rfl hl (by decide) rfl (fun ls hl => ?_)
  refine lv_iload_n hx hb d_House_roots_7 rfl (lv_at hl 0 rfl) ?_
  refine lv_if_ge (tgt := 13) hx hb d_House_roots_8 (by decide) (fun c_2 => ?_) (fun c_2 => ?_)
  · exact absurd c_2 (by rw [hr_1]; by_cases h : n = 0 <;> simp [h])
  · refine lv_iload_n hx hb d_House_roots_11 rfl (lv_at hl 0 rfl) ?_
    have hP9 := hP.sub (ws' := []) [] rfl
    have hD9 := hD.sub (ws' := []) [] (by decide) rfl
    have hK9 := hK.sub (tys' := []) [] rfl
    exact W.iret (v := r_1) hx hb hr (fun t ht hW => ⟨⟨r_1, (), rfl, hr_1, by rw [ht]; exact hP9, va_K.moved hW.alike hK9, hD9⟩, hS.F ht⟩) hS.2.2 d_House_roots_12

set_option maxHeartbeats 4000000 in
set_option maxRecDepth 100000 in
/-- factors on a fresh house -/
theorem c_House_factors_0 (l : Launch) (dC : Nat → ClassId) (dI : Nat → Nat → Nat) (sz : Nat) (h0 : Nat) (x_desk : Nat) (x_reader : Nat) (x_cells : Nat) (x_tape : Nat) (x_script : Nat) (x_rootAt : Nat) (x_rootTimes : Nat) (x_spotX : Nat) (x_spotY : Nat) (x_bond : Nat) (x_end : Nat) (x_span : Nat) (x_part : Nat) (x_partPower : Nat) (x_kept : Nat) (cT : ClassId) (fT : Nat → Int32) (r_left : Nat) (r_right : Nat) (r_told : Nat) (r_curve : Nat) (r_steps : Nat) (r_stack : Nat) (t0 : Nat) (ft : Int32) (wx : Int32) (wy : Int32) (x_c : Nat) (cL : ClassId) (fc : Nat → Option Nat) (dk : Nat) (p0 : Nat) (p1 : Nat) (p2 : Nat) (p3 : Nat) (p4 : Nat) (p5 : Nat) (p6 : Nat) (p7 : Nat) (p8 : Nat) (y0 : Nat) (y1 : Nat) (y2 : Nat) (y3 : Nat) (y4 : Nat) (y5 : Nat) (y6 : Nat) (y7 : Nat) (y8 : Nat) (n : Int32) (hF : fc 0 = some p0 ∧ fc 1 = some p1 ∧ fc 2 = some p2 ∧ fc 3 = some p3 ∧ fc 4 = some p4 ∧ fc 5 = some p5 ∧ fc 6 = some p6 ∧ fc 7 = some p7 ∧ fc 8 = some p8) : Met l y_House_factors w_House_factors ({ frames := 5, cells := 0, slots := 0, locals := 119 }) (va_Pc [.ref h0, .int n] (fun U => U.heap.size = sz ∧ va_P (dC, dI) classes [(h0, .inr (11, [.ref x_desk, .ref x_reader, .ref x_cells, .ref x_tape, .int 0, .ref x_script, .int 0, .ref x_rootAt, .ref x_rootTimes, .int 0, .ref x_spotX, .ref x_spotY, .ref x_bond, .int 0, .ref x_end, .ref x_span, .int 0, .ref x_part, .ref x_partPower, .int 0, .ref x_kept])), (x_tape, .inl (cT, 400, .inl fT)), (x_reader, .inr (8, [.ref t0, .int 0, .int 0, .int ft, .int wx, .int wy, .int 0, .ref r_left, .ref r_right, .ref r_told, .ref r_curve, .int 0, .int 0, .int 0, .int 0, .ref r_steps, .int 0, .ref r_stack, .int 0])), (r_left, .inr (2, [.ref x_c])), (x_c, .inl (cL, 9, .inr (.inr (.inr (.inr fc))))), (p0, .inr (6, [.ref dk, .ref y0, .int 0])), (p1, .inr (6, [.ref dk, .ref y1, .int 0])), (p2, .inr (6, [.ref dk, .ref y2, .int 0])), (p3, .inr (6, [.ref dk, .ref y3, .int 0])), (p4, .inr (6, [.ref dk, .ref y4, .int 0])), (p5, .inr (6, [.ref dk, .ref y5, .int 0])), (p6, .inr (6, [.ref dk, .ref y6, .int 0])), (p7, .inr (6, [.ref dk, .ref y7, .int 0])), (p8, .inr (6, [.ref dk, .ref y8, .int 0]))] U.heap ∧ va_K (dC, dI) classes [(cT, .int), (cL, .object "RealHouse$Poly")] U ∧ va_D (fun _ => True) [(h0, .inr (11, [.ref x_desk, .ref x_reader, .ref x_cells, .ref x_tape, .int 0, .ref x_script, .int 0, .ref x_rootAt, .ref x_rootTimes, .int 0, .ref x_spotX, .ref x_spotY, .ref x_bond, .int 0, .ref x_end, .ref x_span, .int 0, .ref x_part, .ref x_partPower, .int 0, .ref x_kept])), (x_tape, .inl (cT, 400, .inl fT)), (x_reader, .inr (8, [.ref t0, .int 0, .int 0, .int ft, .int wx, .int wy, .int 0, .ref r_left, .ref r_right, .ref r_told, .ref r_curve, .int 0, .int 0, .int 0, .int 0, .ref r_steps, .int 0, .ref r_stack, .int 0])), (r_left, .inr (2, [.ref x_c])), (x_c, .inl (cL, 9, .inr (.inr (.inr (.inr fc))))), (p0, .inr (6, [.ref dk, .ref y0, .int 0])), (p1, .inr (6, [.ref dk, .ref y1, .int 0])), (p2, .inr (6, [.ref dk, .ref y2, .int 0])), (p3, .inr (6, [.ref dk, .ref y3, .int 0])), (p4, .inr (6, [.ref dk, .ref y4, .int 0])), (p5, .inr (6, [.ref dk, .ref y5, .int 0])), (p6, .inr (6, [.ref dk, .ref y6, .int 0])), (p7, .inr (6, [.ref dk, .ref y7, .int 0])), (p8, .inr (6, [.ref dk, .ref y8, .int 0]))] ∧ nx_K U)) (va_Qi (fun (r : Int32) (_ : Unit) => r = if n = 0 then (-2) else (-1)) (fun _ t => va_P (dC, dI) classes [] t.heap ∧ va_K (dC, dI) classes [] t ∧ va_D (va_A [(h0, .inr (11, [.ref x_desk, .ref x_reader, .ref x_cells, .ref x_tape, .int 0, .ref x_script, .int 0, .ref x_rootAt, .ref x_rootTimes, .int 0, .ref x_spotX, .ref x_spotY, .ref x_bond, .int 0, .ref x_end, .ref x_span, .int 0, .ref x_part, .ref x_partPower, .int 0, .ref x_kept])), (x_tape, .inl (cT, 400, .inl fT)), (x_reader, .inr (8, [.ref t0, .int 0, .int 0, .int ft, .int wx, .int wy, .int 0, .ref r_left, .ref r_right, .ref r_told, .ref r_curve, .int 0, .int 0, .int 0, .int 0, .ref r_steps, .int 0, .ref r_stack, .int 0])), (r_left, .inr (2, [.ref x_c])), (x_c, .inl (cL, 9, .inr (.inr (.inr (.inr fc))))), (p0, .inr (6, [.ref dk, .ref y0, .int 0])), (p1, .inr (6, [.ref dk, .ref y1, .int 0])), (p2, .inr (6, [.ref dk, .ref y2, .int 0])), (p3, .inr (6, [.ref dk, .ref y3, .int 0])), (p4, .inr (6, [.ref dk, .ref y4, .int 0])), (p5, .inr (6, [.ref dk, .ref y5, .int 0])), (p6, .inr (6, [.ref dk, .ref y6, .int 0])), (p7, .inr (6, [.ref dk, .ref y7, .int 0])), (p8, .inr (6, [.ref dk, .ref y8, .int 0]))] sz) []) (va_A [(h0, .inr (11, [.ref x_desk, .ref x_reader, .ref x_cells, .ref x_tape, .int 0, .ref x_script, .int 0, .ref x_rootAt, .ref x_rootTimes, .int 0, .ref x_spotX, .ref x_spotY, .ref x_bond, .int 0, .ref x_end, .ref x_span, .int 0, .ref x_part, .ref x_partPower, .int 0, .ref x_kept])), (x_tape, .inl (cT, 400, .inl fT)), (x_reader, .inr (8, [.ref t0, .int 0, .int 0, .int ft, .int wx, .int wy, .int 0, .ref r_left, .ref r_right, .ref r_told, .ref r_curve, .int 0, .int 0, .int 0, .int 0, .ref r_steps, .int 0, .ref r_stack, .int 0])), (r_left, .inr (2, [.ref x_c])), (x_c, .inl (cL, 9, .inr (.inr (.inr (.inr fc))))), (p0, .inr (6, [.ref dk, .ref y0, .int 0])), (p1, .inr (6, [.ref dk, .ref y1, .int 0])), (p2, .inr (6, [.ref dk, .ref y2, .int 0])), (p3, .inr (6, [.ref dk, .ref y3, .int 0])), (p4, .inr (6, [.ref dk, .ref y4, .int 0])), (p5, .inr (6, [.ref dk, .ref y5, .int 0])), (p6, .inr (6, [.ref dk, .ref y6, .int 0])), (p7, .inr (6, [.ref dk, .ref y7, .int 0])), (p8, .inr (6, [.ref dk, .ref y8, .int 0]))] sz)) 0 0 (va_A [(h0, .inr (11, [.ref x_desk, .ref x_reader, .ref x_cells, .ref x_tape, .int 0, .ref x_script, .int 0, .ref x_rootAt, .ref x_rootTimes, .int 0, .ref x_spotX, .ref x_spotY, .ref x_bond, .int 0, .ref x_end, .ref x_span, .int 0, .ref x_part, .ref x_partPower, .int 0, .ref x_kept])), (x_tape, .inl (cT, 400, .inl fT)), (x_reader, .inr (8, [.ref t0, .int 0, .int 0, .int ft, .int wx, .int wy, .int 0, .ref r_left, .ref r_right, .ref r_told, .ref r_curve, .int 0, .int 0, .int 0, .int 0, .ref r_steps, .int 0, .ref r_stack, .int 0])), (r_left, .inr (2, [.ref x_c])), (x_c, .inl (cL, 9, .inr (.inr (.inr (.inr fc))))), (p0, .inr (6, [.ref dk, .ref y0, .int 0])), (p1, .inr (6, [.ref dk, .ref y1, .int 0])), (p2, .inr (6, [.ref dk, .ref y2, .int 0])), (p3, .inr (6, [.ref dk, .ref y3, .int 0])), (p4, .inr (6, [.ref dk, .ref y4, .int 0])), (p5, .inr (6, [.ref dk, .ref y5, .int 0])), (p6, .inr (6, [.ref dk, .ref y6, .int 0])), (p7, .inr (6, [.ref dk, .ref y7, .int 0])), (p8, .inr (6, [.ref dk, .ref y8, .int 0]))] sz) := by
  refine Met.ofW (cc := b_House_factors) (maxL := 5) (ret := (some .int)) (by decide) rfl ?_
  intro p e s m args below meth c s₁ B hml hv
  obtain ⟨rfl, hsz, hP, hK, hD0, hN⟩ := hv
  have hx := B.exec
  have hb := B.bytes
  have hr := B.returns
  have hT : ∀ w ∈ lw_g, w.before _ s = true := fun w h => atoms_spec (ws := w_House_factors) B.pre w (List.mem_cons_of_mem _ h)
  have hown : s.vm.findClass R_House = some m.cls := findClass_of_methodNamed B.named
  have hlocks := B.notSynchronized
  subst hsz
  have hD := hD0.self (sz := s.heap.size)
  generalize hAe : va_A [(h0, .inr (11, [.ref x_desk, .ref x_reader, .ref x_cells, .ref x_tape, .int 0, .ref x_script, .int 0, .ref x_rootAt, .ref x_rootTimes, .int 0, .ref x_spotX, .ref x_spotY, .ref x_bond, .int 0, .ref x_end, .ref x_span, .int 0, .ref x_part, .ref x_partPower, .int 0, .ref x_kept])), (x_tape, .inl (cT, 400, .inl fT)), (x_reader, .inr (8, [.ref t0, .int 0, .int 0, .int ft, .int wx, .int wy, .int 0, .ref r_left, .ref r_right, .ref r_told, .ref r_curve, .int 0, .int 0, .int 0, .int 0, .ref r_steps, .int 0, .ref r_stack, .int 0])), (r_left, .inr (2, [.ref x_c])), (x_c, .inl (cL, 9, .inr (.inr (.inr (.inr fc))))), (p0, .inr (6, [.ref dk, .ref y0, .int 0])), (p1, .inr (6, [.ref dk, .ref y1, .int 0])), (p2, .inr (6, [.ref dk, .ref y2, .int 0])), (p3, .inr (6, [.ref dk, .ref y3, .int 0])), (p4, .inr (6, [.ref dk, .ref y4, .int 0])), (p5, .inr (6, [.ref dk, .ref y5, .int 0])), (p6, .inr (6, [.ref dk, .ref y6, .int 0])), (p7, .inr (6, [.ref dk, .ref y7, .int 0])), (p8, .inr (6, [.ref dk, .ref y8, .int 0]))] s.heap.size = A at hD ⊢
  have hA : ∀ q : Nat, s.heap.size ≤ q → A q := fun q h => by rw [← hAe]; exact Or.inr h
  have hS : va_S A s.heap s.heap [] := va_S.rf
  have hP : va_P (dC, dI) classes [(h0, .inr (11, [.ref x_desk, .ref x_reader, .ref x_cells, .ref x_tape, .int 0, .ref x_script, .int 0, .ref x_rootAt, .ref x_rootTimes, .int 0, .ref x_spotX, .ref x_spotY, .ref x_bond, .int 0, .ref x_end, .ref x_span, .int 0, .ref x_part, .ref x_partPower, .int 0, .ref x_kept])), (x_tape, .inl (cT, 400, .inl fT)), (x_reader, .inr (8, [.ref t0, .int 0, .int 0, .int ft, .int wx, .int wy, .int 0, .ref r_left, .ref r_right, .ref r_told, .ref r_curve, .int 0, .int 0, .int 0, .int 0, .ref r_steps, .int 0, .ref r_stack, .int 0])), (r_left, .inr (2, [.ref x_c])), (x_c, .inl (cL, 9, .inr (.inr (.inr (.inr fc))))), (p0, .inr (6, [.ref dk, .ref y0, .int 0])), (p1, .inr (6, [.ref dk, .ref y1, .int 0])), (p2, .inr (6, [.ref dk, .ref y2, .int 0])), (p3, .inr (6, [.ref dk, .ref y3, .int 0])), (p4, .inr (6, [.ref dk, .ref y4, .int 0])), (p5, .inr (6, [.ref dk, .ref y5, .int 0])), (p6, .inr (6, [.ref dk, .ref y6, .int 0])), (p7, .inr (6, [.ref dk, .ref y7, .int 0])), (p8, .inr (6, [.ref dk, .ref y8, .int 0]))] s.heap := hP
  have hl := lv_entry ([.ref h0, .int n]) (n := 5) (Nat.le_of_ble_eq_true rfl)
  rw [lg_entry_eq]
  generalize (lg_sl ([.ref h0, .int n]) ++ List.replicate (5 - (lg_sl ([.ref h0, .int n])).length) Slot.unset).toArray = ls at hl ⊢
  have hl : lv_has ls 5 [(0, .ref h0), (1, .int n)] := hl
  refine lv_aload_n hx hb d_House_factors_0 rfl (lv_at hl 0 rfl) ?_
  refine lv_iload_n hx hb d_House_factors_1 rfl (lv_at hl 1 rfl) ?_
  refine lv_iconst (v := 1) hx hb d_House_factors_2 (by decide) ?_
  have hPc := hP.sub (ws' := [(h0, .inr (11, [.ref x_desk, .ref x_reader, .ref x_cells, .ref x_tape, .int 0, .ref x_script, .int 0, .ref x_rootAt, .ref x_rootTimes, .int 0, .ref x_spotX, .ref x_spotY, .ref x_bond, .int 0, .ref x_end, .ref x_span, .int 0, .ref x_part, .ref x_partPower, .int 0, .ref x_kept])), (x_tape, .inl (cT, 400, .inl fT)), (x_reader, .inr (8, [.ref t0, .int 0, .int 0, .int ft, .int wx, .int wy, .int 0, .ref r_left, .ref r_right, .ref r_told, .ref r_curve, .int 0, .int 0, .int 0, .int 0, .ref r_steps, .int 0, .ref r_stack, .int 0])), (r_left, .inr (2, [.ref x_c])), (x_c, .inl (cL, 9, .inr (.inr (.inr (.inr fc))))), (p0, .inr (6, [.ref dk, .ref y0, .int 0])), (p1, .inr (6, [.ref dk, .ref y1, .int 0])), (p2, .inr (6, [.ref dk, .ref y2, .int 0])), (p3, .inr (6, [.ref dk, .ref y3, .int 0])), (p4, .inr (6, [.ref dk, .ref y4, .int 0])), (p5, .inr (6, [.ref dk, .ref y5, .int 0])), (p6, .inr (6, [.ref dk, .ref y6, .int 0])), (p7, .inr (6, [.ref dk, .ref y7, .int 0])), (p8, .inr (6, [.ref dk, .ref y8, .int 0]))]) [0, 1, 2, 3, 4, 5, 6, 7, 8, 9, 10, 11, 12, 13] rfl
  have hDc := hD.sub (ws' := [(h0, .inr (11, [.ref x_desk, .ref x_reader, .ref x_cells, .ref x_tape, .int 0, .ref x_script, .int 0, .ref x_rootAt, .ref x_rootTimes, .int 0, .ref x_spotX, .ref x_spotY, .ref x_bond, .int 0, .ref x_end, .ref x_span, .int 0, .ref x_part, .ref x_partPower, .int 0, .ref x_kept])), (x_tape, .inl (cT, 400, .inl fT)), (x_reader, .inr (8, [.ref t0, .int 0, .int 0, .int ft, .int wx, .int wy, .int 0, .ref r_left, .ref r_right, .ref r_told, .ref r_curve, .int 0, .int 0, .int 0, .int 0, .ref r_steps, .int 0, .ref r_stack, .int 0])), (r_left, .inr (2, [.ref x_c])), (x_c, .inl (cL, 9, .inr (.inr (.inr (.inr fc))))), (p0, .inr (6, [.ref dk, .ref y0, .int 0])), (p1, .inr (6, [.ref dk, .ref y1, .int 0])), (p2, .inr (6, [.ref dk, .ref y2, .int 0])), (p3, .inr (6, [.ref dk, .ref y3, .int 0])), (p4, .inr (6, [.ref dk, .ref y4, .int 0])), (p5, .inr (6, [.ref dk, .ref y5, .int 0])), (p6, .inr (6, [.ref dk, .ref y6, .int 0])), (p7, .inr (6, [.ref dk, .ref y7, .int 0])), (p8, .inr (6, [.ref dk, .ref y8, .int 0]))]) [0, 1, 2, 3, 4, 5, 6, 7, 8, 9, 10, 11, 12, 13] (by decide) rfl
  have hKc := hK.sub (tys' := [(cT, .int), (cL, .object "RealHouse$Poly")]) [0, 1] rfl
  have hFc := va_free (wc := [(h0, .inr (11, [.ref x_desk, .ref x_reader, .ref x_cells, .ref x_tape, .int 0, .ref x_script, .int 0, .ref x_rootAt, .ref x_rootTimes, .int 0, .ref x_spotX, .ref x_spotY, .ref x_bond, .int 0, .ref x_end, .ref x_span, .int 0, .ref x_part, .ref x_partPower, .int 0, .ref x_kept])), (x_tape, .inl (cT, 400, .inl fT)), (x_reader, .inr (8, [.ref t0, .int 0, .int 0, .int ft, .int wx, .int wy, .int 0, .ref r_left, .ref r_right, .ref r_told, .ref r_curve, .int 0, .int 0, .int 0, .int 0, .ref r_steps, .int 0, .ref r_stack, .int 0])), (r_left, .inr (2, [.ref x_c])), (x_c, .inl (cL, 9, .inr (.inr (.inr (.inr fc))))), (p0, .inr (6, [.ref dk, .ref y0, .int 0])), (p1, .inr (6, [.ref dk, .ref y1, .int 0])), (p2, .inr (6, [.ref dk, .ref y2, .int 0])), (p3, .inr (6, [.ref dk, .ref y3, .int 0])), (p4, .inr (6, [.ref dk, .ref y4, .int 0])), (p5, .inr (6, [.ref dk, .ref y5, .int 0])), (p6, .inr (6, [.ref dk, .ref y6, .int 0])), (p7, .inr (6, [.ref dk, .ref y7, .int 0])), (p8, .inr (6, [.ref dk, .ref y8, .int 0]))]) hD hS hA [0, 1, 2, 3, 4, 5, 6, 7, 8, 9, 10, 11, 12, 13] rfl
  refine va_calli (va_runV (As := [.int n, .int 1]) (rest := []) ⟨hx, hb, hml, hown, hT⟩ (c_House_readInX_0 l dC dI s.heap.size h0 x_desk x_reader x_cells x_tape x_script x_rootAt x_rootTimes x_spotX x_spotY x_bond x_end x_span x_part x_partPower x_kept cT fT r_left r_right r_told r_curve r_steps r_stack t0 ft wx wy x_c cL fc dk p0 p1 p2 p3 p4 p5 p6 p7 p8 y0 y1 y2 y3 y4 y5 y6 y7 y8 n 1 hF) (cwV 2 hT (tb_goodV g_House_readInX tw_946 tw_948 (tb_sel (q := (⟨"RealHouse", "readInX", "(IZ)I"⟩, 21)) (i := 17) (by decide +kernel)) tw_1) rfl rfl rfl (by decide +kernel) ⟨Nat.le_of_ble_eq_true rfl, Nat.le_of_ble_eq_true rfl⟩) ⟨fun a U g mk q => by obtain ⟨q0, q1, qP, qK, qD, qN⟩ := q; exact ⟨q0, q1, qP, va_K.moved (u := U) (U := U.calling g mk a) (Vm.Alike.refl U.vm) qK, qD, nx_K.same (u := U) (U := U.calling g mk a) rfl qN⟩, va_recv hKc hPc (ci := 11) (q0 := 0) rfl rfl, fun U hU hW => ⟨rfl, by rw [hU], by rw [hU]; exact hPc, va_K.moved hW.alike hKc, hDc.weaken (fun _ _ _ _ => trivial), nx_K.warm hW hN⟩⟩ rfl rfl hl.1 rfl (lv_room (Nat.le_of_ble_eq_true rfl)) d_House_factors_3 ⟨Nat.le_of_ble_eq_true rfl, Nat.le_of_ble_eq_true rfl⟩) hS (fun q _ h => hFc q h) hFc (fun r_1 u t H1 locs ht hvm hw hB hz1 hk1 hS => ?_)
  obtain ⟨hP1, hK1, hD1⟩ := hB
  rw [ht] at hP1
  have hK1 := va_K.moved hvm.symm hK1
  have hr_1 := hw
  obtain ⟨hP, hD⟩ := va_join (wr := []) (w1 := []) hP hD [0, 1, 2, 3, 4, 5, 6, 7, 8, 9, 10, 11, 12, 13] [] rfl rfl (by decide) (by decide) hk1 hFc hP1 hD1
  have hK := (hK.sub (tys' := [(cT, .int), (cL, .object "RealHouse$Poly")]) [0, 1] rfl).app hK1
  generalize H1 = H at hP hS ⊢
  have hP : va_P (dC, dI) classes [] H := hP
  have hD : va_D A [] := hD
  have hK : va_K (dC, dI) classes [(cT, .int), (cL, .object "RealHouse$Poly")] s := hK
  refine lv_istore_n (lv' := [(2, .int r_1), (0, .ref h0), (1, .int n)]) hx hb d_House_factors_6 rfl hl (by decide) rfl (fun ls hl => ?_)
  refine lv_iload_n hx hb d_House_factors_7 rfl (lv_at hl 0 rfl) ?_
  refine lv_if_ge (tgt := 13) hx hb d_House_factors_8 (by decide) (fun c_2 => ?_) (fun c_2 => ?_)
  · exact absurd c_2 (by rw [hr_1]; by_cases h : n = 0 <;> simp [h])
  · refine lv_iload_n hx hb d_House_factors_11 rfl (lv_at hl 0 rfl) ?_
    have hP9 := hP.sub (ws' := []) [] rfl
    have hD9 := hD.sub (ws' := []) [] (by decide) rfl
    have hK9 := hK.sub (tys' := []) [] rfl
    exact W.iret (v := r_1) hx hb hr (fun t ht hW => ⟨⟨r_1, (), rfl, hr_1, by rw [ht]; exact hP9, va_K.moved hW.alike hK9, hD9⟩, hS.F ht⟩) hS.2.2 d_House_factors_12

set_option maxHeartbeats 4000000 in
set_option maxRecDepth 100000 in
/-- points on a fresh house -/
theorem c_House_points_0 (l : Launch) (dC : Nat → ClassId) (dI : Nat → Nat → Nat) (sz : Nat) (h0 : Nat) (x_desk : Nat) (x_reader : Nat) (x_cells : Nat) (x_tape : Nat) (x_script : Nat) (x_rootAt : Nat) (x_rootTimes : Nat) (x_spotX : Nat) (x_spotY : Nat) (x_bond : Nat) (x_end : Nat) (x_span : Nat) (x_part : Nat) (x_partPower : Nat) (x_kept : Nat) (cT : ClassId) (fT : Nat → Int32) (r_left : Nat) (r_right : Nat) (r_told : Nat) (r_curve : Nat) (r_steps : Nat) (r_stack : Nat) (t0 : Nat) (ft : Int32) (wx : Int32) (wy : Int32) (x_c : Nat) (cL : ClassId) (fc : Nat → Option Nat) (dk : Nat) (p0 : Nat) (p1 : Nat) (p2 : Nat) (p3 : Nat) (p4 : Nat) (p5 : Nat) (p6 : Nat) (p7 : Nat) (p8 : Nat) (y0 : Nat) (y1 : Nat) (y2 : Nat) (y3 : Nat) (y4 : Nat) (y5 : Nat) (y6 : Nat) (y7 : Nat) (y8 : Nat) (n : Int32) (hF : fc 0 = some p0 ∧ fc 1 = some p1 ∧ fc 2 = some p2 ∧ fc 3 = some p3 ∧ fc 4 = some p4 ∧ fc 5 = some p5 ∧ fc 6 = some p6 ∧ fc 7 = some p7 ∧ fc 8 = some p8) : Met l y_House_points w_House_points ({ frames := 4, cells := 0, slots := 0, locals := 97 }) (va_Pc [.ref h0, .int n] (fun U => U.heap.size = sz ∧ va_P (dC, dI) classes [(h0, .inr (11, [.ref x_desk, .ref x_reader, .ref x_cells, .ref x_tape, .int 0, .ref x_script, .int 0, .ref x_rootAt, .ref x_rootTimes, .int 0, .ref x_spotX, .ref x_spotY, .ref x_bond, .int 0, .ref x_end, .ref x_span, .int 0, .ref x_part, .ref x_partPower, .int 0, .ref x_kept])), (x_tape, .inl (cT, 400, .inl fT)), (x_reader, .inr (8, [.ref t0, .int 0, .int 0, .int ft, .int wx, .int wy, .int 0, .ref r_left, .ref r_right, .ref r_told, .ref r_curve, .int 0, .int 0, .int 0, .int 0, .ref r_steps, .int 0, .ref r_stack, .int 0])), (r_left, .inr (2, [.ref x_c])), (x_c, .inl (cL, 9, .inr (.inr (.inr (.inr fc))))), (p0, .inr (6, [.ref dk, .ref y0, .int 0])), (p1, .inr (6, [.ref dk, .ref y1, .int 0])), (p2, .inr (6, [.ref dk, .ref y2, .int 0])), (p3, .inr (6, [.ref dk, .ref y3, .int 0])), (p4, .inr (6, [.ref dk, .ref y4, .int 0])), (p5, .inr (6, [.ref dk, .ref y5, .int 0])), (p6, .inr (6, [.ref dk, .ref y6, .int 0])), (p7, .inr (6, [.ref dk, .ref y7, .int 0])), (p8, .inr (6, [.ref dk, .ref y8, .int 0]))] U.heap ∧ va_K (dC, dI) classes [(cT, .int), (cL, .object "RealHouse$Poly")] U ∧ va_D (fun _ => True) [(h0, .inr (11, [.ref x_desk, .ref x_reader, .ref x_cells, .ref x_tape, .int 0, .ref x_script, .int 0, .ref x_rootAt, .ref x_rootTimes, .int 0, .ref x_spotX, .ref x_spotY, .ref x_bond, .int 0, .ref x_end, .ref x_span, .int 0, .ref x_part, .ref x_partPower, .int 0, .ref x_kept])), (x_tape, .inl (cT, 400, .inl fT)), (x_reader, .inr (8, [.ref t0, .int 0, .int 0, .int ft, .int wx, .int wy, .int 0, .ref r_left, .ref r_right, .ref r_told, .ref r_curve, .int 0, .int 0, .int 0, .int 0, .ref r_steps, .int 0, .ref r_stack, .int 0])), (r_left, .inr (2, [.ref x_c])), (x_c, .inl (cL, 9, .inr (.inr (.inr (.inr fc))))), (p0, .inr (6, [.ref dk, .ref y0, .int 0])), (p1, .inr (6, [.ref dk, .ref y1, .int 0])), (p2, .inr (6, [.ref dk, .ref y2, .int 0])), (p3, .inr (6, [.ref dk, .ref y3, .int 0])), (p4, .inr (6, [.ref dk, .ref y4, .int 0])), (p5, .inr (6, [.ref dk, .ref y5, .int 0])), (p6, .inr (6, [.ref dk, .ref y6, .int 0])), (p7, .inr (6, [.ref dk, .ref y7, .int 0])), (p8, .inr (6, [.ref dk, .ref y8, .int 0]))] ∧ nx_K U)) (va_Qi (fun (r : Int32) (_ : Unit) => r = if n = 0 then (-2) else (-1)) (fun _ t => va_P (dC, dI) classes [] t.heap ∧ va_K (dC, dI) classes [] t ∧ va_D (va_A [(h0, .inr (11, [.ref x_desk, .ref x_reader, .ref x_cells, .ref x_tape, .int 0, .ref x_script, .int 0, .ref x_rootAt, .ref x_rootTimes, .int 0, .ref x_spotX, .ref x_spotY, .ref x_bond, .int 0, .ref x_end, .ref x_span, .int 0, .ref x_part, .ref x_partPower, .int 0, .ref x_kept])), (x_tape, .inl (cT, 400, .inl fT)), (x_reader, .inr (8, [.ref t0, .int 0, .int 0, .int ft, .int wx, .int wy, .int 0, .ref r_left, .ref r_right, .ref r_told, .ref r_curve, .int 0, .int 0, .int 0, .int 0, .ref r_steps, .int 0, .ref r_stack, .int 0])), (r_left, .inr (2, [.ref x_c])), (x_c, .inl (cL, 9, .inr (.inr (.inr (.inr fc))))), (p0, .inr (6, [.ref dk, .ref y0, .int 0])), (p1, .inr (6, [.ref dk, .ref y1, .int 0])), (p2, .inr (6, [.ref dk, .ref y2, .int 0])), (p3, .inr (6, [.ref dk, .ref y3, .int 0])), (p4, .inr (6, [.ref dk, .ref y4, .int 0])), (p5, .inr (6, [.ref dk, .ref y5, .int 0])), (p6, .inr (6, [.ref dk, .ref y6, .int 0])), (p7, .inr (6, [.ref dk, .ref y7, .int 0])), (p8, .inr (6, [.ref dk, .ref y8, .int 0]))] sz) []) (va_A [(h0, .inr (11, [.ref x_desk, .ref x_reader, .ref x_cells, .ref x_tape, .int 0, .ref x_script, .int 0, .ref x_rootAt, .ref x_rootTimes, .int 0, .ref x_spotX, .ref x_spotY, .ref x_bond, .int 0, .ref x_end, .ref x_span, .int 0, .ref x_part, .ref x_partPower, .int 0, .ref x_kept])), (x_tape, .inl (cT, 400, .inl fT)), (x_reader, .inr (8, [.ref t0, .int 0, .int 0, .int ft, .int wx, .int wy, .int 0, .ref r_left, .ref r_right, .ref r_told, .ref r_curve, .int 0, .int 0, .int 0, .int 0, .ref r_steps, .int 0, .ref r_stack, .int 0])), (r_left, .inr (2, [.ref x_c])), (x_c, .inl (cL, 9, .inr (.inr (.inr (.inr fc))))), (p0, .inr (6, [.ref dk, .ref y0, .int 0])), (p1, .inr (6, [.ref dk, .ref y1, .int 0])), (p2, .inr (6, [.ref dk, .ref y2, .int 0])), (p3, .inr (6, [.ref dk, .ref y3, .int 0])), (p4, .inr (6, [.ref dk, .ref y4, .int 0])), (p5, .inr (6, [.ref dk, .ref y5, .int 0])), (p6, .inr (6, [.ref dk, .ref y6, .int 0])), (p7, .inr (6, [.ref dk, .ref y7, .int 0])), (p8, .inr (6, [.ref dk, .ref y8, .int 0]))] sz)) 0 0 (va_A [(h0, .inr (11, [.ref x_desk, .ref x_reader, .ref x_cells, .ref x_tape, .int 0, .ref x_script, .int 0, .ref x_rootAt, .ref x_rootTimes, .int 0, .ref x_spotX, .ref x_spotY, .ref x_bond, .int 0, .ref x_end, .ref x_span, .int 0, .ref x_part, .ref x_partPower, .int 0, .ref x_kept])), (x_tape, .inl (cT, 400, .inl fT)), (x_reader, .inr (8, [.ref t0, .int 0, .int 0, .int ft, .int wx, .int wy, .int 0, .ref r_left, .ref r_right, .ref r_told, .ref r_curve, .int 0, .int 0, .int 0, .int 0, .ref r_steps, .int 0, .ref r_stack, .int 0])), (r_left, .inr (2, [.ref x_c])), (x_c, .inl (cL, 9, .inr (.inr (.inr (.inr fc))))), (p0, .inr (6, [.ref dk, .ref y0, .int 0])), (p1, .inr (6, [.ref dk, .ref y1, .int 0])), (p2, .inr (6, [.ref dk, .ref y2, .int 0])), (p3, .inr (6, [.ref dk, .ref y3, .int 0])), (p4, .inr (6, [.ref dk, .ref y4, .int 0])), (p5, .inr (6, [.ref dk, .ref y5, .int 0])), (p6, .inr (6, [.ref dk, .ref y6, .int 0])), (p7, .inr (6, [.ref dk, .ref y7, .int 0])), (p8, .inr (6, [.ref dk, .ref y8, .int 0]))] sz) := by
  refine Met.ofW (cc := b_House_points) (maxL := 6) (ret := (some .int)) (by decide) rfl ?_
  intro p e s m args below meth c s₁ B hml hv
  obtain ⟨rfl, hsz, hP, hK, hD0, hN⟩ := hv
  have hx := B.exec
  have hb := B.bytes
  have hr := B.returns
  have hT : ∀ w ∈ lw_g, w.before _ s = true := fun w h => atoms_spec (ws := w_House_points) B.pre w (List.mem_cons_of_mem _ h)
  have hown : s.vm.findClass R_House = some m.cls := findClass_of_methodNamed B.named
  have hlocks := B.notSynchronized
  subst hsz
  have hD := hD0.self (sz := s.heap.size)
  generalize hAe : va_A [(h0, .inr (11, [.ref x_desk, .ref x_reader, .ref x_cells, .ref x_tape, .int 0, .ref x_script, .int 0, .ref x_rootAt, .ref x_rootTimes, .int 0, .ref x_spotX, .ref x_spotY, .ref x_bond, .int 0, .ref x_end, .ref x_span, .int 0, .ref x_part, .ref x_partPower, .int 0, .ref x_kept])), (x_tape, .inl (cT, 400, .inl fT)), (x_reader, .inr (8, [.ref t0, .int 0, .int 0, .int ft, .int wx, .int wy, .int 0, .ref r_left, .ref r_right, .ref r_told, .ref r_curve, .int 0, .int 0, .int 0, .int 0, .ref r_steps, .int 0, .ref r_stack, .int 0])), (r_left, .inr (2, [.ref x_c])), (x_c, .inl (cL, 9, .inr (.inr (.inr (.inr fc))))), (p0, .inr (6, [.ref dk, .ref y0, .int 0])), (p1, .inr (6, [.ref dk, .ref y1, .int 0])), (p2, .inr (6, [.ref dk, .ref y2, .int 0])), (p3, .inr (6, [.ref dk, .ref y3, .int 0])), (p4, .inr (6, [.ref dk, .ref y4, .int 0])), (p5, .inr (6, [.ref dk, .ref y5, .int 0])), (p6, .inr (6, [.ref dk, .ref y6, .int 0])), (p7, .inr (6, [.ref dk, .ref y7, .int 0])), (p8, .inr (6, [.ref dk, .ref y8, .int 0]))] s.heap.size = A at hD ⊢
  have hA : ∀ q : Nat, s.heap.size ≤ q → A q := fun q h => by rw [← hAe]; exact Or.inr h
  have hS : va_S A s.heap s.heap [] := va_S.rf
  have hP : va_P (dC, dI) classes [(h0, .inr (11, [.ref x_desk, .ref x_reader, .ref x_cells, .ref x_tape, .int 0, .ref x_script, .int 0, .ref x_rootAt, .ref x_rootTimes, .int 0, .ref x_spotX, .ref x_spotY, .ref x_bond, .int 0, .ref x_end, .ref x_span, .int 0, .ref x_part, .ref x_partPower, .int 0, .ref x_kept])), (x_tape, .inl (cT, 400, .inl fT)), (x_reader, .inr (8, [.ref t0, .int 0, .int 0, .int ft, .int wx, .int wy, .int 0, .ref r_left, .ref r_right, .ref r_told, .ref r_curve, .int 0, .int 0, .int 0, .int 0, .ref r_steps, .int 0, .ref r_stack, .int 0])), (r_left, .inr (2, [.ref x_c])), (x_c, .inl (cL, 9, .inr (.inr (.inr (.inr fc))))), (p0, .inr (6, [.ref dk, .ref y0, .int 0])), (p1, .inr (6, [.ref dk, .ref y1, .int 0])), (p2, .inr (6, [.ref dk, .ref y2, .int 0])), (p3, .inr (6, [.ref dk, .ref y3, .int 0])), (p4, .inr (6, [.ref dk, .ref y4, .int 0])), (p5, .inr (6, [.ref dk, .ref y5, .int 0])), (p6, .inr (6, [.ref dk, .ref y6, .int 0])), (p7, .inr (6, [.ref dk, .ref y7, .int 0])), (p8, .inr (6, [.ref dk, .ref y8, .int 0]))] s.heap := hP
  have hl := lv_entry ([.ref h0, .int n]) (n := 6) (Nat.le_of_ble_eq_true rfl)
  rw [lg_entry_eq]
  generalize (lg_sl ([.ref h0, .int n]) ++ List.replicate (6 - (lg_sl ([.ref h0, .int n])).length) Slot.unset).toArray = ls at hl ⊢
  have hl : lv_has ls 6 [(0, .ref h0), (1, .int n)] := hl
  refine lv_aload_n hx hb d_House_points_0 rfl (lv_at hl 0 rfl) ?_
  refine lv_iload_n hx hb d_House_points_1 rfl (lv_at hl 1 rfl) ?_
  have hPc := hP.sub (ws' := [(h0, .inr (11, [.ref x_desk, .ref x_reader, .ref x_cells, .ref x_tape, .int 0, .ref x_script, .int 0, .ref x_rootAt, .ref x_rootTimes, .int 0, .ref x_spotX, .ref x_spotY, .ref x_bond, .int 0, .ref x_end, .ref x_span, .int 0, .ref x_part, .ref x_partPower, .int 0, .ref x_kept]))]) [0] rfl
  have hDc := hD.sub (ws' := [(h0, .inr (11, [.ref x_desk, .ref x_reader, .ref x_cells, .ref x_tape, .int 0, .ref x_script, .int 0, .ref x_rootAt, .ref x_rootTimes, .int 0, .ref x_spotX, .ref x_spotY, .ref x_bond, .int 0, .ref x_end, .ref x_span, .int 0, .ref x_part, .ref x_partPower, .int 0, .ref x_kept]))]) [0] (by decide) rfl
  have hKc := hK.sub (tys' := []) [] rfl
  have hFc := va_free (wc := [(h0, .inr (11, [.ref x_desk, .ref x_reader, .ref x_cells, .ref x_tape, .int 0, .ref x_script, .int 0, .ref x_rootAt, .ref x_rootTimes, .int 0, .ref x_spotX, .ref x_spotY, .ref x_bond, .int 0, .ref x_end, .ref x_span, .int 0, .ref x_part, .ref x_partPower, .int 0, .ref x_kept]))]) hD hS hA [0] rfl
  refine va_calli (va_runV (As := [.int n]) (rest := []) ⟨hx, hb, hml, hown, hT⟩ (c_House_isNoLength_0 l dC dI s.heap.size h0 x_desk x_reader x_cells x_tape x_script x_rootAt x_rootTimes x_spotX x_spotY x_bond x_end x_span x_part x_partPower x_kept n ) (cwV 1 hT (tb_goodV g_House_isNoLength tw_695 tw_697 (tb_sel (q := (⟨"RealHouse", "isNoLength", "(I)Z"⟩, 21)) (i := 1) (by decide +kernel)) tw_1) rfl rfl rfl (by decide +kernel) ⟨Nat.le_of_ble_eq_true rfl, Nat.le_of_ble_eq_true rfl⟩) ⟨fun a U g mk q => by obtain ⟨q0, q1, qP, qK, qD, qN⟩ := q; exact ⟨q0, q1, qP, va_K.moved (u := U) (U := U.calling g mk a) (Vm.Alike.refl U.vm) qK, qD, nx_K.same (u := U) (U := U.calling g mk a) rfl qN⟩, va_recv hKc hPc (ci := 11) (q0 := 0) rfl rfl, fun U hU hW => ⟨rfl, by rw [hU], by rw [hU]; exact hPc, va_K.moved hW.alike hKc, hDc.weaken (fun _ _ _ _ => trivial), nx_K.warm hW hN⟩⟩ rfl rfl hl.1 rfl (lv_room (Nat.le_of_ble_eq_true rfl)) d_House_points_2 ⟨Nat.le_of_ble_eq_true rfl, Nat.le_of_ble_eq_true rfl⟩) hS (fun q _ h => hFc q h) hFc (fun r_1 u t H1 locs ht hvm hw hB hz1 hk1 hS => ?_)
  obtain ⟨hP1, hK1, hD1⟩ := hB
  rw [ht] at hP1
  have hK1 := va_K.moved hvm.symm hK1
  have hr_1 := hw
  obtain ⟨hP, hD⟩ := va_join (wr := [(x_tape, .inl (cT, 400, .inl fT)), (x_reader, .inr (8, [.ref t0, .int 0, .int 0, .int ft, .int wx, .int wy, .int 0, .ref r_left, .ref r_right, .ref r_told, .ref r_curve, .int 0, .int 0, .int 0, .int 0, .ref r_steps, .int 0, .ref r_stack, .int 0])), (r_left, .inr (2, [.ref x_c])), (x_c, .inl (cL, 9, .inr (.inr (.inr (.inr fc))))), (p0, .inr (6, [.ref dk, .ref y0, .int 0])), (p1, .inr (6, [.ref dk, .ref y1, .int 0])), (p2, .inr (6, [.ref dk, .ref y2, .int 0])), (p3, .inr (6, [.ref dk, .ref y3, .int 0])), (p4, .inr (6, [.ref dk, .ref y4, .int 0])), (p5, .inr (6, [.ref dk, .ref y5, .int 0])), (p6, .inr (6, [.ref dk, .ref y6, .int 0])), (p7, .inr (6, [.ref dk, .ref y7, .int 0])), (p8, .inr (6, [.ref dk, .ref y8, .int 0]))]) (w1 := [(h0, .inr (11, [.ref x_desk, .ref x_reader, .ref x_cells, .ref x_tape, .int 0, .ref x_script, .int 0, .ref x_rootAt, .ref x_rootTimes, .int 0, .ref x_spotX, .ref x_spotY, .ref x_bond, .int 0, .ref x_end, .ref x_span, .int 0, .ref x_part, .ref x_partPower, .int 0, .ref x_kept]))]) hP hD [0] [1, 2, 3, 4, 5, 6, 7, 8, 9, 10, 11, 12, 13] rfl rfl (by decide) (by decide) hk1 hFc hP1 hD1
  have hK := (hK.sub (tys' := [(cT, .int), (cL, .object "RealHouse$Poly")]) [0, 1] rfl).app hK1
  generalize H1 = H at hP hS ⊢
  have hP : va_P (dC, dI) classes [(x_tape, .inl (cT, 400, .inl fT)), (x_reader, .inr (8, [.ref t0, .int 0, .int 0, .int ft, .int wx, .int wy, .int 0, .ref r_left, .ref r_right, .ref r_told, .ref r_curve, .int 0, .int 0, .int 0, .int 0, .ref r_steps, .int 0, .ref r_stack, .int 0])), (r_left, .inr (2, [.ref x_c])), (x_c, .inl (cL, 9, .inr (.inr (.inr (.inr fc))))), (p0, .inr (6, [.ref dk, .ref y0, .int 0])), (p1, .inr (6, [.ref dk, .ref y1, .int 0])), (p2, .inr (6, [.ref dk, .ref y2, .int 0])), (p3, .inr (6, [.ref dk, .ref y3, .int 0])), (p4, .inr (6, [.ref dk, .ref y4, .int 0])), (p5, .inr (6, [.ref dk, .ref y5, .int 0])), (p6, .inr (6, [.ref dk, .ref y6, .int 0])), (p7, .inr (6, [.ref dk, .ref y7, .int 0])), (p8, .inr (6, [.ref dk, .ref y8, .int 0])), (h0, .inr (11, [.ref x_desk, .ref x_reader, .ref x_cells, .ref x_tape, .int 0, .ref x_script, .int 0, .ref x_rootAt, .ref x_rootTimes, .int 0, .ref x_spotX, .ref x_spotY, .ref x_bond, .int 0, .ref x_end, .ref x_span, .int 0, .ref x_part, .ref x_partPower, .int 0, .ref x_kept]))] H := hP
  have hD : va_D A [(x_tape, .inl (cT, 400, .inl fT)), (x_reader, .inr (8, [.ref t0, .int 0, .int 0, .int ft, .int wx, .int wy, .int 0, .ref r_left, .ref r_right, .ref r_told, .ref r_curve, .int 0, .int 0, .int 0, .int 0, .ref r_steps, .int 0, .ref r_stack, .int 0])), (r_left, .inr (2, [.ref x_c])), (x_c, .inl (cL, 9, .inr (.inr (.inr (.inr fc))))), (p0, .inr (6, [.ref dk, .ref y0, .int 0])), (p1, .inr (6, [.ref dk, .ref y1, .int 0])), (p2, .inr (6, [.ref dk, .ref y2, .int 0])), (p3, .inr (6, [.ref dk, .ref y3, .int 0])), (p4, .inr (6, [.ref dk, .ref y4, .int 0])), (p5, .inr (6, [.ref dk, .ref y5, .int 0])), (p6, .inr (6, [.ref dk, .ref y6, .int 0])), (p7, .inr (6, [.ref dk, .ref y7, .int 0])), (p8, .inr (6, [.ref dk, .ref y8, .int 0])), (h0, .inr (11, [.ref x_desk, .ref x_reader, .ref x_cells, .ref x_tape, .int 0, .ref x_script, .int 0, .ref x_rootAt, .ref x_rootTimes, .int 0, .ref x_spotX, .ref x_spotY, .ref x_bond, .int 0, .ref x_end, .ref x_span, .int 0, .ref x_part, .ref x_partPower, .int 0, .ref x_kept]))] := hD
  have hK : va_K (dC, dI) classes [(cT, .int), (cL, .object "RealHouse$Poly")] s := hK
  refine lv_if_eq (tgt := 10) hx hb d_House_points_5 (by decide) (fun c_2 => ?_) (fun c_2 => ?_)
  · have hn0 : n = 0 := by
      rcases Decidable.em (n = 0) with h | h
      · exact h
      · rw [if_neg h] at hr_1; rw [hr_1] at c_2; exact absurd c_2 (by decide)
    subst hn0
    refine lv_aload_n hx hb d_House_points_10 rfl (lv_at hl 0 rfl) ?_
    refine va_get (D := (dC, dI)) (ci := 11) (v := .ref x_reader) (C := R_House) (T := F_House) (N := 21) hx hb hT i_House hown hK hP 13 rfl rfl 1 (by decide) (hT _ tw_616) (fun _ h9 => h9) rfl d_House_points_11 ?_
    refine lv_aload_n hx hb d_House_points_14 rfl (lv_at hl 0 rfl) ?_
    refine va_get (D := (dC, dI)) (ci := 11) (v := .ref x_tape) (C := R_House) (T := F_House) (N := 21) hx hb hT i_House hown hK hP 13 rfl rfl 3 (by decide) (hT _ tw_618) (fun _ h9 => h9) rfl d_House_points_15 ?_
    refine lv_iload_n hx hb d_House_points_18 rfl (lv_at hl 1 rfl) ?_
    refine lv_iconst (v := 1) hx hb d_House_points_19 (by decide) ?_
    refine lv_iconst (v := 1) hx hb d_House_points_20 (by decide) ?_
    have hPc := hP.sub (ws' := [(x_reader, .inr (8, [.ref t0, .int 0, .int 0, .int ft, .int wx, .int wy, .int 0, .ref r_left, .ref r_right, .ref r_told, .ref r_curve, .int 0, .int 0, .int 0, .int 0, .ref r_steps, .int 0, .ref r_stack, .int 0])), (x_tape, .inl (cT, 400, .inl fT))]) [1, 0] rfl
    have hDc := hD.sub (ws' := [(x_reader, .inr (8, [.ref t0, .int 0, .int 0, .int ft, .int wx, .int wy, .int 0, .ref r_left, .ref r_right, .ref r_told, .ref r_curve, .int 0, .int 0, .int 0, .int 0, .ref r_steps, .int 0, .ref r_stack, .int 0])), (x_tape, .inl (cT, 400, .inl fT))]) [1, 0] (by decide) rfl
    have hKc := hK.sub (tys' := [(cT, .int)]) [0] rfl
    have hFc := va_free (wc := [(x_reader, .inr (8, [.ref t0, .int 0, .int 0, .int ft, .int wx, .int wy, .int 0, .ref r_left, .ref r_right, .ref r_told, .ref r_curve, .int 0, .int 0, .int 0, .int 0, .ref r_steps, .int 0, .ref r_stack, .int 0])), (x_tape, .inl (cT, 400, .inl fT))]) hD hS hA [1, 0] rfl
    refine va_callv (va_runV (As := [.ref x_tape, .int 0, .int 1, .int 1]) (rest := []) ⟨hx, hb, hml, hown, hT⟩ (c_Reader_begin_11 l dC dI H.size x_reader x_tape r_left r_right r_told r_curve r_steps r_stack t0 ft wx wy cT fT ) (cwV 4 hT (tb_goodV g_Reader_begin tw_699 tw_700 tw_701 tw_6) rfl rfl rfl (by decide +kernel) ⟨Nat.le_of_ble_eq_true rfl, Nat.le_of_ble_eq_true rfl⟩) ⟨fun a U g mk q => by obtain ⟨q0, q1, qP, qK, qD, qN⟩ := q; exact ⟨q0, q1, qP, va_K.moved (u := U) (U := U.calling g mk a) (Vm.Alike.refl U.vm) qK, qD, nx_K.same (u := U) (U := U.calling g mk a) rfl qN⟩, va_recv hKc hPc (ci := 8) (q0 := 0) rfl rfl, fun U hU hW => ⟨rfl, by rw [hU], by rw [hU]; exact hPc, va_K.moved hW.alike hKc, hDc.weaken (fun _ _ _ _ => trivial), nx_K.warm hW hN⟩⟩ rfl rfl hl.1 rfl (lv_room (Nat.le_of_ble_eq_true rfl)) d_House_points_21 ⟨Nat.le_of_ble_eq_true rfl, Nat.le_of_ble_eq_true rfl⟩) hS (fun q _ h => hFc q h) hFc (fun u t H1 locs ht hvm hw hB hz1 hk1 hS => ?_)
    obtain ⟨hP1, hK1, hD1⟩ := hB
    rw [ht] at hP1
    have hK1 := va_K.moved hvm.symm hK1
    obtain ⟨hP, hD⟩ := va_join (wr := [(r_left, .inr (2, [.ref x_c])), (x_c, .inl (cL, 9, .inr (.inr (.inr (.inr fc))))), (p0, .inr (6, [.ref dk, .ref y0, .int 0])), (p1, .inr (6, [.ref dk, .ref y1, .int 0])), (p2, .inr (6, [.ref dk, .ref y2, .int 0])), (p3, .inr (6, [.ref dk, .ref y3, .int 0])), (p4, .inr (6, [.ref dk, .ref y4, .int 0])), (p5, .inr (6, [.ref dk, .ref y5, .int 0])), (p6, .inr (6, [.ref dk, .ref y6, .int 0])), (p7, .inr (6, [.ref dk, .ref y7, .int 0])), (p8, .inr (6, [.ref dk, .ref y8, .int 0])), (h0, .inr (11, [.ref x_desk, .ref x_reader, .ref x_cells, .ref x_tape, .int 0, .ref x_script, .int 0, .ref x_rootAt, .ref x_rootTimes, .int 0, .ref x_spotX, .ref x_spotY, .ref x_bond, .int 0, .ref x_end, .ref x_span, .int 0, .ref x_part, .ref x_partPower, .int 0, .ref x_kept]))]) (w1 := [(x_reader, .inr (8, [.ref x_tape, .int 0, .int 0, .int (-1), .int 1, .int 1, .int 0, .ref r_left, .ref r_right, .ref r_told, .ref r_curve, .int 0, .int 0, .int 0, .int 0, .ref r_steps, .int 0, .ref r_stack, .int 0])), (x_tape, .inl (cT, 400, .inl fT))]) hP hD [1, 0] [2, 3, 4, 5, 6, 7, 8, 9, 10, 11, 12, 13] rfl rfl (by decide) (by decide) hk1 hFc hP1 hD1
    have hK := (hK.sub (tys' := [(cL, .object "RealHouse$Poly")]) [1] rfl).app hK1
    generalize H1 = H at hP hS ⊢
    have hP : va_P (dC, dI) classes [(r_left, .inr (2, [.ref x_c])), (x_c, .inl (cL, 9, .inr (.inr (.inr (.inr fc))))), (p0, .inr (6, [.ref dk, .ref y0, .int 0])), (p1, .inr (6, [.ref dk, .ref y1, .int 0])), (p2, .inr (6, [.ref dk, .ref y2, .int 0])), (p3, .inr (6, [.ref dk, .ref y3, .int 0])), (p4, .inr (6, [.ref dk, .ref y4, .int 0])), (p5, .inr (6, [.ref dk, .ref y5, .int 0])), (p6, .inr (6, [.ref dk, .ref y6, .int 0])), (p7, .inr (6, [.ref dk, .ref y7, .int 0])), (p8, .inr (6, [.ref dk, .ref y8, .int 0])), (h0, .inr (11, [.ref x_desk, .ref x_reader, .ref x_cells, .ref x_tape, .int 0, .ref x_script, .int 0, .ref x_rootAt, .ref x_rootTimes, .int 0, .ref x_spotX, .ref x_spotY, .ref x_bond, .int 0, .ref x_end, .ref x_span, .int 0, .ref x_part, .ref x_partPower, .int 0, .ref x_kept])), (x_reader, .inr (8, [.ref x_tape, .int 0, .int 0, .int (-1), .int 1, .int 1, .int 0, .ref r_left, .ref r_right, .ref r_told, .ref r_curve, .int 0, .int 0, .int 0, .int 0, .ref r_steps, .int 0, .ref r_stack, .int 0])), (x_tape, .inl (cT, 400, .inl fT))] H := hP
    have hD : va_D A [(r_left, .inr (2, [.ref x_c])), (x_c, .inl (cL, 9, .inr (.inr (.inr (.inr fc))))), (p0, .inr (6, [.ref dk, .ref y0, .int 0])), (p1, .inr (6, [.ref dk, .ref y1, .int 0])), (p2, .inr (6, [.ref dk, .ref y2, .int 0])), (p3, .inr (6, [.ref dk, .ref y3, .int 0])), (p4, .inr (6, [.ref dk, .ref y4, .int 0])), (p5, .inr (6, [.ref dk, .ref y5, .int 0])), (p6, .inr (6, [.ref dk, .ref y6, .int 0])), (p7, .inr (6, [.ref dk, .ref y7, .int 0])), (p8, .inr (6, [.ref dk, .ref y8, .int 0])), (h0, .inr (11, [.ref x_desk, .ref x_reader, .ref x_cells, .ref x_tape, .int 0, .ref x_script, .int 0, .ref x_rootAt, .ref x_rootTimes, .int 0, .ref x_spotX, .ref x_spotY, .ref x_bond, .int 0, .ref x_end, .ref x_span, .int 0, .ref x_part, .ref x_partPower, .int 0, .ref x_kept])), (x_reader, .inr (8, [.ref x_tape, .int 0, .int 0, .int (-1), .int 1, .int 1, .int 0, .ref r_left, .ref r_right, .ref r_told, .ref r_curve, .int 0, .int 0, .int 0, .int 0, .ref r_steps, .int 0, .ref r_stack, .int 0])), (x_tape, .inl (cT, 400, .inl fT))] := hD
    have hK : va_K (dC, dI) classes [(cL, .object "RealHouse$Poly"), (cT, .int)] s := hK
    refine lv_aload_n hx hb d_House_points_24 rfl (lv_at hl 0 rfl) ?_
    refine va_get (D := (dC, dI)) (ci := 11) (v := .ref x_reader) (C := R_House) (T := F_House) (N := 21) hx hb hT i_House hown hK hP 11 rfl rfl 1 (by decide) (hT _ tw_616) (fun _ h9 => h9) rfl d_House_points_25 ?_
    refine lv_iconst (v := 1) hx hb d_House_points_28 (by decide) ?_
    have hPc := hP.sub (ws' := [(x_reader, .inr (8, [.ref x_tape, .int 0, .int 0, .int (-1), .int 1, .int 1, .int 0, .ref r_left, .ref r_right, .ref r_told, .ref r_curve, .int 0, .int 0, .int 0, .int 0, .ref r_steps, .int 0, .ref r_stack, .int 0])), (r_left, .inr (2, [.ref x_c])), (x_c, .inl (cL, 9, .inr (.inr (.inr (.inr fc))))), (p0, .inr (6, [.ref dk, .ref y0, .int 0])), (p1, .inr (6, [.ref dk, .ref y1, .int 0])), (p2, .inr (6, [.ref dk, .ref y2, .int 0])), (p3, .inr (6, [.ref dk, .ref y3, .int 0])), (p4, .inr (6, [.ref dk, .ref y4, .int 0])), (p5, .inr (6, [.ref dk, .ref y5, .int 0])), (p6, .inr (6, [.ref dk, .ref y6, .int 0])), (p7, .inr (6, [.ref dk, .ref y7, .int 0])), (p8, .inr (6, [.ref dk, .ref y8, .int 0]))]) [12, 0, 1, 2, 3, 4, 5, 6, 7, 8, 9, 10] rfl
    have hDc := hD.sub (ws' := [(x_reader, .inr (8, [.ref x_tape, .int 0, .int 0, .int (-1), .int 1, .int 1, .int 0, .ref r_left, .ref r_right, .ref r_told, .ref r_curve, .int 0, .int 0, .int 0, .int 0, .ref r_steps, .int 0, .ref r_stack, .int 0])), (r_left, .inr (2, [.ref x_c])), (x_c, .inl (cL, 9, .inr (.inr (.inr (.inr fc))))), (p0, .inr (6, [.ref dk, .ref y0, .int 0])), (p1, .inr (6, [.ref dk, .ref y1, .int 0])), (p2, .inr (6, [.ref dk, .ref y2, .int 0])), (p3, .inr (6, [.ref dk, .ref y3, .int 0])), (p4, .inr (6, [.ref dk, .ref y4, .int 0])), (p5, .inr (6, [.ref dk, .ref y5, .int 0])), (p6, .inr (6, [.ref dk, .ref y6, .int 0])), (p7, .inr (6, [.ref dk, .ref y7, .int 0])), (p8, .inr (6, [.ref dk, .ref y8, .int 0]))]) [12, 0, 1, 2, 3, 4, 5, 6, 7, 8, 9, 10] (by decide) rfl
    have hKc := hK.sub (tys' := [(cL, .object "RealHouse$Poly")]) [0] rfl
    have hFc := va_free (wc := [(x_reader, .inr (8, [.ref x_tape, .int 0, .int 0, .int (-1), .int 1, .int 1, .int 0, .ref r_left, .ref r_right, .ref r_told, .ref r_curve, .int 0, .int 0, .int 0, .int 0, .ref r_steps, .int 0, .ref r_stack, .int 0])), (r_left, .inr (2, [.ref x_c])), (x_c, .inl (cL, 9, .inr (.inr (.inr (.inr fc))))), (p0, .inr (6, [.ref dk, .ref y0, .int 0])), (p1, .inr (6, [.ref dk, .ref y1, .int 0])), (p2, .inr (6, [.ref dk, .ref y2, .int 0])), (p3, .inr (6, [.ref dk, .ref y3, .int 0])), (p4, .inr (6, [.ref dk, .ref y4, .int 0])), (p5, .inr (6, [.ref dk, .ref y5, .int 0])), (p6, .inr (6, [.ref dk, .ref y6, .int 0])), (p7, .inr (6, [.ref dk, .ref y7, .int 0])), (p8, .inr (6, [.ref dk, .ref y8, .int 0]))]) hD hS hA [12, 0, 1, 2, 3, 4, 5, 6, 7, 8, 9, 10] rfl
    refine va_callv (va_runV (As := [.int 1]) (rest := []) ⟨hx, hb, hml, hown, hT⟩ (c_Reader_readPolys_0 l dC dI H.size x_reader x_tape r_left r_right r_told r_curve r_steps r_stack 1 1 x_c cL fc dk p0 p1 p2 p3 p4 p5 p6 p7 p8 y0 y1 y2 y3 y4 y5 y6 y7 y8 1 hF) (cwV 1 hT (tb_goodV g_Reader_readPolys tw_706 tw_707 tw_708 tw_6) rfl rfl rfl (by decide +kernel) ⟨Nat.le_of_ble_eq_true rfl, Nat.le_of_ble_eq_true rfl⟩) ⟨fun a U g mk q => by obtain ⟨q0, q1, qP, qK, qD, qN⟩ := q; exact ⟨q0, q1, qP, va_K.moved (u := U) (U := U.calling g mk a) (Vm.Alike.refl U.vm) qK, qD, nx_K.same (u := U) (U := U.calling g mk a) rfl qN⟩, va_recv hKc hPc (ci := 8) (q0 := 0) rfl rfl, fun U hU hW => ⟨rfl, by rw [hU], by rw [hU]; exact hPc, va_K.moved hW.alike hKc, hDc.weaken (fun _ _ _ _ => trivial), nx_K.warm hW hN⟩⟩ rfl rfl hl.1 rfl (lv_room (Nat.le_of_ble_eq_true rfl)) d_House_points_29 ⟨Nat.le_of_ble_eq_true rfl, Nat.le_of_ble_eq_true rfl⟩) hS (fun q _ h => hFc q h) hFc (fun u t H1 locs ht hvm hw hB hz1 hk1 hS => ?_)
    obtain ⟨hP1, hK1, hD1⟩ := hB
    rw [ht] at hP1
    have hK1 := va_K.moved hvm.symm hK1
    obtain ⟨hP, hD⟩ := va_join (wr := [(h0, .inr (11, [.ref x_desk, .ref x_reader, .ref x_cells, .ref x_tape, .int 0, .ref x_script, .int 0, .ref x_rootAt, .ref x_rootTimes, .int 0, .ref x_spotX, .ref x_spotY, .ref x_bond, .int 0, .ref x_end, .ref x_span, .int 0, .ref x_part, .ref x_partPower, .int 0, .ref x_kept])), (x_tape, .inl (cT, 400, .inl fT))]) (w1 := [(x_reader, .inr (8, [.ref x_tape, .int 0, .int 0, .int 0, .int 1, .int 1, .int 0, .ref r_left, .ref r_right, .ref r_told, .ref r_curve, .int 0, .int 0, .int 0, .int 0, .ref r_steps, .int 0, .ref r_stack, .int 0])), (r_left, .inr (2, [.ref x_c])), (x_c, .inl (cL, 9, .inr (.inr (.inr (.inr fc))))), (p0, .inr (6, [.ref dk, .ref y0, .int 0])), (p1, .inr (6, [.ref dk, .ref y1, .int 0])), (p2, .inr (6, [.ref dk, .ref y2, .int 0])), (p3, .inr (6, [.ref dk, .ref y3, .int 0])), (p4, .inr (6, [.ref dk, .ref y4, .int 0])), (p5, .inr (6, [.ref dk, .ref y5, .int 0])), (p6, .inr (6, [.ref dk, .ref y6, .int 0])), (p7, .inr (6, [.ref dk, .ref y7, .int 0])), (p8, .inr (6, [.ref dk, .ref y8, .int 0]))]) hP hD [12, 0, 1, 2, 3, 4, 5, 6, 7, 8, 9, 10] [11, 13] rfl rfl (by decide) (by decide) hk1 hFc hP1 hD1
    have hK := (hK.sub (tys' := [(cT, .int)]) [1] rfl).app hK1
    generalize H1 = H at hP hS ⊢
    have hP : va_P (dC, dI) classes [(h0, .inr (11, [.ref x_desk, .ref x_reader, .ref x_cells, .ref x_tape, .int 0, .ref x_script, .int 0, .ref x_rootAt, .ref x_rootTimes, .int 0, .ref x_spotX, .ref x_spotY, .ref x_bond, .int 0, .ref x_end, .ref x_span, .int 0, .ref x_part, .ref x_partPower, .int 0, .ref x_kept])), (x_tape, .inl (cT, 400, .inl fT)), (x_reader, .inr (8, [.ref x_tape, .int 0, .int 0, .int 0, .int 1, .int 1, .int 0, .ref r_left, .ref r_right, .ref r_told, .ref r_curve, .int 0, .int 0, .int 0, .int 0, .ref r_steps, .int 0, .ref r_stack, .int 0])), (r_left, .inr (2, [.ref x_c])), (x_c, .inl (cL, 9, .inr (.inr (.inr (.inr fc))))), (p0, .inr (6, [.ref dk, .ref y0, .int 0])), (p1, .inr (6, [.ref dk, .ref y1, .int 0])), (p2, .inr (6, [.ref dk, .ref y2, .int 0])), (p3, .inr (6, [.ref dk, .ref y3, .int 0])), (p4, .inr (6, [.ref dk, .ref y4, .int 0])), (p5, .inr (6, [.ref dk, .ref y5, .int 0])), (p6, .inr (6, [.ref dk, .ref y6, .int 0])), (p7, .inr (6, [.ref dk, .ref y7, .int 0])), (p8, .inr (6, [.ref dk, .ref y8, .int 0]))] H := hP
    have hD : va_D A [(h0, .inr (11, [.ref x_desk, .ref x_reader, .ref x_cells, .ref x_tape, .int 0, .ref x_script, .int 0, .ref x_rootAt, .ref x_rootTimes, .int 0, .ref x_spotX, .ref x_spotY, .ref x_bond, .int 0, .ref x_end, .ref x_span, .int 0, .ref x_part, .ref x_partPower, .int 0, .ref x_kept])), (x_tape, .inl (cT, 400, .inl fT)), (x_reader, .inr (8, [.ref x_tape, .int 0, .int 0, .int 0, .int 1, .int 1, .int 0, .ref r_left, .ref r_right, .ref r_told, .ref r_curve, .int 0, .int 0, .int 0, .int 0, .ref r_steps, .int 0, .ref r_stack, .int 0])), (r_left, .inr (2, [.ref x_c])), (x_c, .inl (cL, 9, .inr (.inr (.inr (.inr fc))))), (p0, .inr (6, [.ref dk, .ref y0, .int 0])), (p1, .inr (6, [.ref dk, .ref y1, .int 0])), (p2, .inr (6, [.ref dk, .ref y2, .int 0])), (p3, .inr (6, [.ref dk, .ref y3, .int 0])), (p4, .inr (6, [.ref dk, .ref y4, .int 0])), (p5, .inr (6, [.ref dk, .ref y5, .int 0])), (p6, .inr (6, [.ref dk, .ref y6, .int 0])), (p7, .inr (6, [.ref dk, .ref y7, .int 0])), (p8, .inr (6, [.ref dk, .ref y8, .int 0]))] := hD
    have hK : va_K (dC, dI) classes [(cT, .int), (cL, .object "RealHouse$Poly")] s := hK
    refine lv_aload_n hx hb d_House_points_32 rfl (lv_at hl 0 rfl) ?_
    refine va_get (D := (dC, dI)) (ci := 11) (v := .ref x_reader) (C := R_House) (T := F_House) (N := 21) hx hb hT i_House hown hK hP 0 rfl rfl 1 (by decide) (hT _ tw_616) (fun _ h9 => h9) rfl d_House_points_33 ?_
    refine va_get (D := (dC, dI)) (ci := 8) (v := .int 0) (C := R_Reader) (T := F_Reader) (N := 19) hx hb hT i_Reader hown hK hP 2 rfl rfl 3 (by decide) (hT _ tw_237) (fun _ h9 => h9) rfl d_House_points_36 ?_
    refine lv_if_lt (tgt := 47) hx hb d_House_points_39 (by decide) (fun c_3 => absurd c_3 (by decide)) (fun c_3 => ?_)
    refine lv_aload_n hx hb d_House_points_42 rfl (lv_at hl 0 rfl) ?_
    have hPc := hP.sub (ws' := [(h0, .inr (11, [.ref x_desk, .ref x_reader, .ref x_cells, .ref x_tape, .int 0, .ref x_script, .int 0, .ref x_rootAt, .ref x_rootTimes, .int 0, .ref x_spotX, .ref x_spotY, .ref x_bond, .int 0, .ref x_end, .ref x_span, .int 0, .ref x_part, .ref x_partPower, .int 0, .ref x_kept])), (x_reader, .inr (8, [.ref x_tape, .int 0, .int 0, .int 0, .int 1, .int 1, .int 0, .ref r_left, .ref r_right, .ref r_told, .ref r_curve, .int 0, .int 0, .int 0, .int 0, .ref r_steps, .int 0, .ref r_stack, .int 0]))]) [0, 2] rfl
    have hDc := hD.sub (ws' := [(h0, .inr (11, [.ref x_desk, .ref x_reader, .ref x_cells, .ref x_tape, .int 0, .ref x_script, .int 0, .ref x_rootAt, .ref x_rootTimes, .int 0, .ref x_spotX, .ref x_spotY, .ref x_bond, .int 0, .ref x_end, .ref x_span, .int 0, .ref x_part, .ref x_partPower, .int 0, .ref x_kept])), (x_reader, .inr (8, [.ref x_tape, .int 0, .int 0, .int 0, .int 1, .int 1, .int 0, .ref r_left, .ref r_right, .ref r_told, .ref r_curve, .int 0, .int 0, .int 0, .int 0, .ref r_steps, .int 0, .ref r_stack, .int 0]))]) [0, 2] (by decide) rfl
    have hKc := hK.sub (tys' := []) [] rfl
    have hFc := va_free (wc := [(h0, .inr (11, [.ref x_desk, .ref x_reader, .ref x_cells, .ref x_tape, .int 0, .ref x_script, .int 0, .ref x_rootAt, .ref x_rootTimes, .int 0, .ref x_spotX, .ref x_spotY, .ref x_bond, .int 0, .ref x_end, .ref x_span, .int 0, .ref x_part, .ref x_partPower, .int 0, .ref x_kept])), (x_reader, .inr (8, [.ref x_tape, .int 0, .int 0, .int 0, .int 1, .int 1, .int 0, .ref r_left, .ref r_right, .ref r_told, .ref r_curve, .int 0, .int 0, .int 0, .int 0, .ref r_steps, .int 0, .ref r_stack, .int 0]))]) hD hS hA [0, 2] rfl
    refine va_calli (va_runV (As := []) (rest := []) ⟨hx, hb, hml, hown, hT⟩ (c_House_faulty_0 l dC dI H.size h0 x_desk x_reader x_cells x_tape x_script x_rootAt x_rootTimes x_spotX x_spotY x_bond x_end x_span x_part x_partPower x_kept r_left r_right r_told r_curve r_steps r_stack x_tape 1 1 ) (cwV 0 hT (tb_goodV g_House_faulty tw_766 tw_768 (tb_sel (q := (⟨"RealHouse", "faulty", "()I"⟩, 21)) (i := 9) (by decide +kernel)) tw_1) rfl rfl rfl (by decide +kernel) ⟨Nat.le_of_ble_eq_true rfl, Nat.le_of_ble_eq_true rfl⟩) ⟨fun a U g mk q => by obtain ⟨q0, q1, qP, qK, qD, qN⟩ := q; exact ⟨q0, q1, qP, va_K.moved (u := U) (U := U.calling g mk a) (Vm.Alike.refl U.vm) qK, qD, nx_K.same (u := U) (U := U.calling g mk a) rfl qN⟩, va_recv hKc hPc (ci := 11) (q0 := 0) rfl rfl, fun U hU hW => ⟨rfl, by rw [hU], by rw [hU]; exact hPc, va_K.moved hW.alike hKc, hDc.weaken (fun _ _ _ _ => trivial), nx_K.warm hW hN⟩⟩ rfl rfl hl.1 rfl (lv_room (Nat.le_of_ble_eq_true rfl)) d_House_points_43 ⟨Nat.le_of_ble_eq_true rfl, Nat.le_of_ble_eq_true rfl⟩) hS (fun q _ h => hFc q h) hFc (fun r_4 u t H1 locs ht hvm hw hB hz1 hk1 hS => ?_)
    obtain ⟨hP1, hK1, hD1⟩ := hB
    rw [ht] at hP1
    have hK1 := va_K.moved hvm.symm hK1
    obtain rfl : r_4 = (-2) := hw
    obtain ⟨hP, hD⟩ := va_join (wr := [(x_tape, .inl (cT, 400, .inl fT)), (r_left, .inr (2, [.ref x_c])), (x_c, .inl (cL, 9, .inr (.inr (.inr (.inr fc))))), (p0, .inr (6, [.ref dk, .ref y0, .int 0])), (p1, .inr (6, [.ref dk, .ref y1, .int 0])), (p2, .inr (6, [.ref dk, .ref y2, .int 0])), (p3, .inr (6, [.ref dk, .ref y3, .int 0])), (p4, .inr (6, [.ref dk, .ref y4, .int 0])), (p5, .inr (6, [.ref dk, .ref y5, .int 0])), (p6, .inr (6, [.ref dk, .ref y6, .int 0])), (p7, .inr (6, [.ref dk, .ref y7, .int 0])), (p8, .inr (6, [.ref dk, .ref y8, .int 0]))]) (w1 := [(h0, .inr (11, [.ref x_desk, .ref x_reader, .ref x_cells, .ref x_tape, .int 0, .ref x_script, .int 0, .ref x_rootAt, .ref x_rootTimes, .int 0, .ref x_spotX, .ref x_spotY, .ref x_bond, .int 0, .ref x_end, .ref x_span, .int 0, .ref x_part, .ref x_partPower, .int 0, .ref x_kept])), (x_reader, .inr (8, [.ref x_tape, .int 0, .int 0, .int 0, .int 1, .int 1, .int 0, .ref r_left, .ref r_right, .ref r_told, .ref r_curve, .int 0, .int 0, .int 0, .int 0, .ref r_steps, .int 0, .ref r_stack, .int 0]))]) hP hD [0, 2] [1, 3, 4, 5, 6, 7, 8, 9, 10, 11, 12, 13] rfl rfl (by decide) (by decide) hk1 hFc hP1 hD1
    have hK := (hK.sub (tys' := [(cT, .int), (cL, .object "RealHouse$Poly")]) [0, 1] rfl).app hK1
    generalize H1 = H at hP hS ⊢
    have hP : va_P (dC, dI) classes [(x_tape, .inl (cT, 400, .inl fT)), (r_left, .inr (2, [.ref x_c])), (x_c, .inl (cL, 9, .inr (.inr (.inr (.inr fc))))), (p0, .inr (6, [.ref dk, .ref y0, .int 0])), (p1, .inr (6, [.ref dk, .ref y1, .int 0])), (p2, .inr (6, [.ref dk, .ref y2, .int 0])), (p3, .inr (6, [.ref dk, .ref y3, .int 0])), (p4, .inr (6, [.ref dk, .ref y4, .int 0])), (p5, .inr (6, [.ref dk, .ref y5, .int 0])), (p6, .inr (6, [.ref dk, .ref y6, .int 0])), (p7, .inr (6, [.ref dk, .ref y7, .int 0])), (p8, .inr (6, [.ref dk, .ref y8, .int 0])), (h0, .inr (11, [.ref x_desk, .ref x_reader, .ref x_cells, .ref x_tape, .int 0, .ref x_script, .int 0, .ref x_rootAt, .ref x_rootTimes, .int 0, .ref x_spotX, .ref x_spotY, .ref x_bond, .int 0, .ref x_end, .ref x_span, .int 0, .ref x_part, .ref x_partPower, .int 0, .ref x_kept])), (x_reader, .inr (8, [.ref x_tape, .int 0, .int 0, .int 0, .int 1, .int 1, .int 0, .ref r_left, .ref r_right, .ref r_told, .ref r_curve, .int 0, .int 0, .int 0, .int 0, .ref r_steps, .int 0, .ref r_stack, .int 0]))] H := hP
    have hD : va_D A [(x_tape, .inl (cT, 400, .inl fT)), (r_left, .inr (2, [.ref x_c])), (x_c, .inl (cL, 9, .inr (.inr (.inr (.inr fc))))), (p0, .inr (6, [.ref dk, .ref y0, .int 0])), (p1, .inr (6, [.ref dk, .ref y1, .int 0])), (p2, .inr (6, [.ref dk, .ref y2, .int 0])), (p3, .inr (6, [.ref dk, .ref y3, .int 0])), (p4, .inr (6, [.ref dk, .ref y4, .int 0])), (p5, .inr (6, [.ref dk, .ref y5, .int 0])), (p6, .inr (6, [.ref dk, .ref y6, .int 0])), (p7, .inr (6, [.ref dk, .ref y7, .int 0])), (p8, .inr (6, [.ref dk, .ref y8, .int 0])), (h0, .inr (11, [.ref x_desk, .ref x_reader, .ref x_cells, .ref x_tape, .int 0, .ref x_script, .int 0, .ref x_rootAt, .ref x_rootTimes, .int 0, .ref x_spotX, .ref x_spotY, .ref x_bond, .int 0, .ref x_end, .ref x_span, .int 0, .ref x_part, .ref x_partPower, .int 0, .ref x_kept])), (x_reader, .inr (8, [.ref x_tape, .int 0, .int 0, .int 0, .int 1, .int 1, .int 0, .ref r_left, .ref r_right, .ref r_told, .ref r_curve, .int 0, .int 0, .int 0, .int 0, .ref r_steps, .int 0, .ref r_stack, .int 0]))] := hD
    have hK : va_K (dC, dI) classes [(cT, .int), (cL, .object "RealHouse$Poly")] s := hK
    have hP9 := hP.sub (ws' := []) [] rfl
    have hD9 := hD.sub (ws' := []) [] (by decide) rfl
    have hK9 := hK.sub (tys' := []) [] rfl
    exact W.iret (v := (-2)) hx hb hr (fun t ht hW => ⟨⟨(-2), (), rfl, rfl, by rw [ht]; exact hP9, va_K.moved hW.alike hK9, hD9⟩, hS.F ht⟩) hS.2.2 d_House_points_46
  · have hn0 : ¬ n = 0 := fun h => c_2 (by rw [hr_1, if_pos h])
    refine lv_iconst (v := (-1)) hx hb d_House_points_8 (by decide) ?_
    have hP9 := hP.sub (ws' := []) [] rfl
    have hD9 := hD.sub (ws' := []) [] (by decide) rfl
    have hK9 := hK.sub (tys' := []) [] rfl
    exact W.iret (v := (-1)) hx hb hr (fun t ht hW => ⟨⟨(-1), (), rfl, (if_neg hn0).symm, by rw [ht]; exact hP9, va_K.moved hW.alike hK9, hD9⟩, hS.F ht⟩) hS.2.2 d_House_points_9

set_option maxHeartbeats 4000000 in
set_option maxRecDepth 100000 in
/-- decide on a fresh house -/
theorem c_House_decide_0 (l : Launch) (dC : Nat → ClassId) (dI : Nat → Nat → Nat) (sz : Nat) (h0 : Nat) (x_desk : Nat) (x_reader : Nat) (x_cells : Nat) (x_tape : Nat) (x_script : Nat) (x_rootAt : Nat) (x_rootTimes : Nat) (x_spotX : Nat) (x_spotY : Nat) (x_bond : Nat) (x_end : Nat) (x_span : Nat) (x_part : Nat) (x_partPower : Nat) (x_kept : Nat) (cT : ClassId) (fT : Nat → Int32) (r_left : Nat) (r_right : Nat) (r_told : Nat) (r_curve : Nat) (r_steps : Nat) (r_stack : Nat) (t0 : Nat) (ft : Int32) (wx : Int32) (wy : Int32) (x_c : Nat) (cL : ClassId) (fc : Nat → Option Nat) (dk : Nat) (p0 : Nat) (p1 : Nat) (p2 : Nat) (p3 : Nat) (p4 : Nat) (p5 : Nat) (p6 : Nat) (p7 : Nat) (p8 : Nat) (y0 : Nat) (y1 : Nat) (y2 : Nat) (y3 : Nat) (y4 : Nat) (y5 : Nat) (y6 : Nat) (y7 : Nat) (y8 : Nat) (n : Int32) (hF : fc 0 = some p0 ∧ fc 1 = some p1 ∧ fc 2 = some p2 ∧ fc 3 = some p3 ∧ fc 4 = some p4 ∧ fc 5 = some p5 ∧ fc 6 = some p6 ∧ fc 7 = some p7 ∧ fc 8 = some p8) : Met l y_House_decide w_House_decide ({ frames := 3, cells := 0, slots := 0, locals := 68 }) (va_Pc [.ref h0, .int n] (fun U => U.heap.size = sz ∧ va_P (dC, dI) classes [(h0, .inr (11, [.ref x_desk, .ref x_reader, .ref x_cells, .ref x_tape, .int 0, .ref x_script, .int 0, .ref x_rootAt, .ref x_rootTimes, .int 0, .ref x_spotX, .ref x_spotY, .ref x_bond, .int 0, .ref x_end, .ref x_span, .int 0, .ref x_part, .ref x_partPower, .int 0, .ref x_kept])), (x_tape, .inl (cT, 400, .inl fT)), (x_reader, .inr (8, [.ref t0, .int 0, .int 0, .int ft, .int wx, .int wy, .int 0, .ref r_left, .ref r_right, .ref r_told, .ref r_curve, .int 0, .int 0, .int 0, .int 0, .ref r_steps, .int 0, .ref r_stack, .int 0])), (r_left, .inr (2, [.ref x_c])), (x_c, .inl (cL, 9, .inr (.inr (.inr (.inr fc))))), (p0, .inr (6, [.ref dk, .ref y0, .int 0])), (p1, .inr (6, [.ref dk, .ref y1, .int 0])), (p2, .inr (6, [.ref dk, .ref y2, .int 0])), (p3, .inr (6, [.ref dk, .ref y3, .int 0])), (p4, .inr (6, [.ref dk, .ref y4, .int 0])), (p5, .inr (6, [.ref dk, .ref y5, .int 0])), (p6, .inr (6, [.ref dk, .ref y6, .int 0])), (p7, .inr (6, [.ref dk, .ref y7, .int 0])), (p8, .inr (6, [.ref dk, .ref y8, .int 0]))] U.heap ∧ va_K (dC, dI) classes [(cT, .int), (cL, .object "RealHouse$Poly")] U ∧ va_D (fun _ => True) [(h0, .inr (11, [.ref x_desk, .ref x_reader, .ref x_cells, .ref x_tape, .int 0, .ref x_script, .int 0, .ref x_rootAt, .ref x_rootTimes, .int 0, .ref x_spotX, .ref x_spotY, .ref x_bond, .int 0, .ref x_end, .ref x_span, .int 0, .ref x_part, .ref x_partPower, .int 0, .ref x_kept])), (x_tape, .inl (cT, 400, .inl fT)), (x_reader, .inr (8, [.ref t0, .int 0, .int 0, .int ft, .int wx, .int wy, .int 0, .ref r_left, .ref r_right, .ref r_told, .ref r_curve, .int 0, .int 0, .int 0, .int 0, .ref r_steps, .int 0, .ref r_stack, .int 0])), (r_left, .inr (2, [.ref x_c])), (x_c, .inl (cL, 9, .inr (.inr (.inr (.inr fc))))), (p0, .inr (6, [.ref dk, .ref y0, .int 0])), (p1, .inr (6, [.ref dk, .ref y1, .int 0])), (p2, .inr (6, [.ref dk, .ref y2, .int 0])), (p3, .inr (6, [.ref dk, .ref y3, .int 0])), (p4, .inr (6, [.ref dk, .ref y4, .int 0])), (p5, .inr (6, [.ref dk, .ref y5, .int 0])), (p6, .inr (6, [.ref dk, .ref y6, .int 0])), (p7, .inr (6, [.ref dk, .ref y7, .int 0])), (p8, .inr (6, [.ref dk, .ref y8, .int 0]))] ∧ nx_K U)) (va_Qi (fun (r : Int32) (_ : Unit) => r = if n = 0 then (-2) else (-1)) (fun _ t => va_P (dC, dI) classes [] t.heap ∧ va_K (dC, dI) classes [] t ∧ va_D (va_A [(h0, .inr (11, [.ref x_desk, .ref x_reader, .ref x_cells, .ref x_tape, .int 0, .ref x_script, .int 0, .ref x_rootAt, .ref x_rootTimes, .int 0, .ref x_spotX, .ref x_spotY, .ref x_bond, .int 0, .ref x_end, .ref x_span, .int 0, .ref x_part, .ref x_partPower, .int 0, .ref x_kept])), (x_tape, .inl (cT, 400, .inl fT)), (x_reader, .inr (8, [.ref t0, .int 0, .int 0, .int ft, .int wx, .int wy, .int 0, .ref r_left, .ref r_right, .ref r_told, .ref r_curve, .int 0, .int 0, .int 0, .int 0, .ref r_steps, .int 0, .ref r_stack, .int 0])), (r_left, .inr (2, [.ref x_c])), (x_c, .inl (cL, 9, .inr (.inr (.inr (.inr fc))))), (p0, .inr (6, [.ref dk, .ref y0, .int 0])), (p1, .inr (6, [.ref dk, .ref y1, .int 0])), (p2, .inr (6, [.ref dk, .ref y2, .int 0])), (p3, .inr (6, [.ref dk, .ref y3, .int 0])), (p4, .inr (6, [.ref dk, .ref y4, .int 0])), (p5, .inr (6, [.ref dk, .ref y5, .int 0])), (p6, .inr (6, [.ref dk, .ref y6, .int 0])), (p7, .inr (6, [.ref dk, .ref y7, .int 0])), (p8, .inr (6, [.ref dk, .ref y8, .int 0]))] sz) []) (va_A [(h0, .inr (11, [.ref x_desk, .ref x_reader, .ref x_cells, .ref x_tape, .int 0, .ref x_script, .int 0, .ref x_rootAt, .ref x_rootTimes, .int 0, .ref x_spotX, .ref x_spotY, .ref x_bond, .int 0, .ref x_end, .ref x_span, .int 0, .ref x_part, .ref x_partPower, .int 0, .ref x_kept])), (x_tape, .inl (cT, 400, .inl fT)), (x_reader, .inr (8, [.ref t0, .int 0, .int 0, .int ft, .int wx, .int wy, .int 0, .ref r_left, .ref r_right, .ref r_told, .ref r_curve, .int 0, .int 0, .int 0, .int 0, .ref r_steps, .int 0, .ref r_stack, .int 0])), (r_left, .inr (2, [.ref x_c])), (x_c, .inl (cL, 9, .inr (.inr (.inr (.inr fc))))), (p0, .inr (6, [.ref dk, .ref y0, .int 0])), (p1, .inr (6, [.ref dk, .ref y1, .int 0])), (p2, .inr (6, [.ref dk, .ref y2, .int 0])), (p3, .inr (6, [.ref dk, .ref y3, .int 0])), (p4, .inr (6, [.ref dk, .ref y4, .int 0])), (p5, .inr (6, [.ref dk, .ref y5, .int 0])), (p6, .inr (6, [.ref dk, .ref y6, .int 0])), (p7, .inr (6, [.ref dk, .ref y7, .int 0])), (p8, .inr (6, [.ref dk, .ref y8, .int 0]))] sz)) 0 0 (va_A [(h0, .inr (11, [.ref x_desk, .ref x_reader, .ref x_cells, .ref x_tape, .int 0, .ref x_script, .int 0, .ref x_rootAt, .ref x_rootTimes, .int 0, .ref x_spotX, .ref x_spotY, .ref x_bond, .int 0, .ref x_end, .ref x_span, .int 0, .ref x_part, .ref x_partPower, .int 0, .ref x_kept])), (x_tape, .inl (cT, 400, .inl fT)), (x_reader, .inr (8, [.ref t0, .int 0, .int 0, .int ft, .int wx, .int wy, .int 0, .ref r_left, .ref r_right, .ref r_told, .ref r_curve, .int 0, .int 0, .int 0, .int 0, .ref r_steps, .int 0, .ref r_stack, .int 0])), (r_left, .inr (2, [.ref x_c])), (x_c, .inl (cL, 9, .inr (.inr (.inr (.inr fc))))), (p0, .inr (6, [.ref dk, .ref y0, .int 0])), (p1, .inr (6, [.ref dk, .ref y1, .int 0])), (p2, .inr (6, [.ref dk, .ref y2, .int 0])), (p3, .inr (6, [.ref dk, .ref y3, .int 0])), (p4, .inr (6, [.ref dk, .ref y4, .int 0])), (p5, .inr (6, [.ref dk, .ref y5, .int 0])), (p6, .inr (6, [.ref dk, .ref y6, .int 0])), (p7, .inr (6, [.ref dk, .ref y7, .int 0])), (p8, .inr (6, [.ref dk, .ref y8, .int 0]))] sz) := by
  refine Met.ofW (cc := b_House_decide) (maxL := 6) (ret := (some .int)) (by decide) rfl ?_
  intro p e s m args below meth c s₁ B hml hv
  obtain ⟨rfl, hsz, hP, hK, hD0, hN⟩ := hv
  have hx := B.exec
  have hb := B.bytes
  have hr := B.returns
  have hT : ∀ w ∈ lw_g, w.before _ s = true := fun w h => atoms_spec (ws := w_House_decide) B.pre w (List.mem_cons_of_mem _ h)
  have hown : s.vm.findClass R_House = some m.cls := findClass_of_methodNamed B.named
  have hlocks := B.notSynchronized
  subst hsz
  have hD := hD0.self (sz := s.heap.size)
  generalize hAe : va_A [(h0, .inr (11, [.ref x_desk, .ref x_reader, .ref x_cells, .ref x_tape, .int 0, .ref x_script, .int 0, .ref x_rootAt, .ref x_rootTimes, .int 0, .ref x_spotX, .ref x_spotY, .ref x_bond, .int 0, .ref x_end, .ref x_span, .int 0, .ref x_part, .ref x_partPower, .int 0, .ref x_kept])), (x_tape, .inl (cT, 400, .inl fT)), (x_reader, .inr (8, [.ref t0, .int 0, .int 0, .int ft, .int wx, .int wy, .int 0, .ref r_left, .ref r_right, .ref r_told, .ref r_curve, .int 0, .int 0, .int 0, .int 0, .ref r_steps, .int 0, .ref r_stack, .int 0])), (r_left, .inr (2, [.ref x_c])), (x_c, .inl (cL, 9, .inr (.inr (.inr (.inr fc))))), (p0, .inr (6, [.ref dk, .ref y0, .int 0])), (p1, .inr (6, [.ref dk, .ref y1, .int 0])), (p2, .inr (6, [.ref dk, .ref y2, .int 0])), (p3, .inr (6, [.ref dk, .ref y3, .int 0])), (p4, .inr (6, [.ref dk, .ref y4, .int 0])), (p5, .inr (6, [.ref dk, .ref y5, .int 0])), (p6, .inr (6, [.ref dk, .ref y6, .int 0])), (p7, .inr (6, [.ref dk, .ref y7, .int 0])), (p8, .inr (6, [.ref dk, .ref y8, .int 0]))] s.heap.size = A at hD ⊢
  have hA : ∀ q : Nat, s.heap.size ≤ q → A q := fun q h => by rw [← hAe]; exact Or.inr h
  have hS : va_S A s.heap s.heap [] := va_S.rf
  have hP : va_P (dC, dI) classes [(h0, .inr (11, [.ref x_desk, .ref x_reader, .ref x_cells, .ref x_tape, .int 0, .ref x_script, .int 0, .ref x_rootAt, .ref x_rootTimes, .int 0, .ref x_spotX, .ref x_spotY, .ref x_bond, .int 0, .ref x_end, .ref x_span, .int 0, .ref x_part, .ref x_partPower, .int 0, .ref x_kept])), (x_tape, .inl (cT, 400, .inl fT)), (x_reader, .inr (8, [.ref t0, .int 0, .int 0, .int ft, .int wx, .int wy, .int 0, .ref r_left, .ref r_right, .ref r_told, .ref r_curve, .int 0, .int 0, .int 0, .int 0, .ref r_steps, .int 0, .ref r_stack, .int 0])), (r_left, .inr (2, [.ref x_c])), (x_c, .inl (cL, 9, .inr (.inr (.inr (.inr fc))))), (p0, .inr (6, [.ref dk, .ref y0, .int 0])), (p1, .inr (6, [.ref dk, .ref y1, .int 0])), (p2, .inr (6, [.ref dk, .ref y2, .int 0])), (p3, .inr (6, [.ref dk, .ref y3, .int 0])), (p4, .inr (6, [.ref dk, .ref y4, .int 0])), (p5, .inr (6, [.ref dk, .ref y5, .int 0])), (p6, .inr (6, [.ref dk, .ref y6, .int 0])), (p7, .inr (6, [.ref dk, .ref y7, .int 0])), (p8, .inr (6, [.ref dk, .ref y8, .int 0]))] s.heap := hP
  have hl := lv_entry ([.ref h0, .int n]) (n := 6) (Nat.le_of_ble_eq_true rfl)
  rw [lg_entry_eq]
  generalize (lg_sl ([.ref h0, .int n]) ++ List.replicate (6 - (lg_sl ([.ref h0, .int n])).length) Slot.unset).toArray = ls at hl ⊢
  have hl : lv_has ls 6 [(0, .ref h0), (1, .int n)] := hl
  refine lv_aload_n hx hb d_House_decide_0 rfl (lv_at hl 0 rfl) ?_
  refine lv_iload_n hx hb d_House_decide_1 rfl (lv_at hl 1 rfl) ?_
  have hPc := hP.sub (ws' := [(h0, .inr (11, [.ref x_desk, .ref x_reader, .ref x_cells, .ref x_tape, .int 0, .ref x_script, .int 0, .ref x_rootAt, .ref x_rootTimes, .int 0, .ref x_spotX, .ref x_spotY, .ref x_bond, .int 0, .ref x_end, .ref x_span, .int 0, .ref x_part, .ref x_partPower, .int 0, .ref x_kept]))]) [0] rfl
  have hDc := hD.sub (ws' := [(h0, .inr (11, [.ref x_desk, .ref x_reader, .ref x_cells, .ref x_tape, .int 0, .ref x_script, .int 0, .ref x_rootAt, .ref x_rootTimes, .int 0, .ref x_spotX, .ref x_spotY, .ref x_bond, .int 0, .ref x_end, .ref x_span, .int 0, .ref x_part, .ref x_partPower, .int 0, .ref x_kept]))]) [0] (by decide) rfl
  have hKc := hK.sub (tys' := []) [] rfl
  have hFc := va_free (wc := [(h0, .inr (11, [.ref x_desk, .ref x_reader, .ref x_cells, .ref x_tape, .int 0, .ref x_script, .int 0, .ref x_rootAt, .ref x_rootTimes, .int 0, .ref x_spotX, .ref x_spotY, .ref x_bond, .int 0, .ref x_end, .ref x_span, .int 0, .ref x_part, .ref x_partPower, .int 0, .ref x_kept]))]) hD hS hA [0] rfl
  refine va_calli (va_runV (As := [.int n]) (rest := []) ⟨hx, hb, hml, hown, hT⟩ (c_House_isNoLength_0 l dC dI s.heap.size h0 x_desk x_reader x_cells x_tape x_script x_rootAt x_rootTimes x_spotX x_spotY x_bond x_end x_span x_part x_partPower x_kept n ) (cwV 1 hT (tb_goodV g_House_isNoLength tw_695 tw_697 (tb_sel (q := (⟨"RealHouse", "isNoLength", "(I)Z"⟩, 21)) (i := 1) (by decide +kernel)) tw_1) rfl rfl rfl (by decide +kernel) ⟨Nat.le_of_ble_eq_true rfl, Nat.le_of_ble_eq_true rfl⟩) ⟨fun a U g mk q => by obtain ⟨q0, q1, qP, qK, qD, qN⟩ := q; exact ⟨q0, q1, qP, va_K.moved (u := U) (U := U.calling g mk a) (Vm.Alike.refl U.vm) qK, qD, nx_K.same (u := U) (U := U.calling g mk a) rfl qN⟩, va_recv hKc hPc (ci := 11) (q0 := 0) rfl rfl, fun U hU hW => ⟨rfl, by rw [hU], by rw [hU]; exact hPc, va_K.moved hW.alike hKc, hDc.weaken (fun _ _ _ _ => trivial), nx_K.warm hW hN⟩⟩ rfl rfl hl.1 rfl (lv_room (Nat.le_of_ble_eq_true rfl)) d_House_decide_2 ⟨Nat.le_of_ble_eq_true rfl, Nat.le_of_ble_eq_true rfl⟩) hS (fun q _ h => hFc q h) hFc (fun r_1 u t H1 locs ht hvm hw hB hz1 hk1 hS => ?_)
  obtain ⟨hP1, hK1, hD1⟩ := hB
  rw [ht] at hP1
  have hK1 := va_K.moved hvm.symm hK1
  have hr_1 := hw
  obtain ⟨hP, hD⟩ := va_join (wr := [(x_tape, .inl (cT, 400, .inl fT)), (x_reader, .inr (8, [.ref t0, .int 0, .int 0, .int ft, .int wx, .int wy, .int 0, .ref r_left, .ref r_right, .ref r_told, .ref r_curve, .int 0, .int 0, .int 0, .int 0, .ref r_steps, .int 0, .ref r_stack, .int 0])), (r_left, .inr (2, [.ref x_c])), (x_c, .inl (cL, 9, .inr (.inr (.inr (.inr fc))))), (p0, .inr (6, [.ref dk, .ref y0, .int 0])), (p1, .inr (6, [.ref dk, .ref y1, .int 0])), (p2, .inr (6, [.ref dk, .ref y2, .int 0])), (p3, .inr (6, [.ref dk, .ref y3, .int 0])), (p4, .inr (6, [.ref dk, .ref y4, .int 0])), (p5, .inr (6, [.ref dk, .ref y5, .int 0])), (p6, .inr (6, [.ref dk, .ref y6, .int 0])), (p7, .inr (6, [.ref dk, .ref y7, .int 0])), (p8, .inr (6, [.ref dk, .ref y8, .int 0]))]) (w1 := [(h0, .inr (11, [.ref x_desk, .ref x_reader, .ref x_cells, .ref x_tape, .int 0, .ref x_script, .int 0, .ref x_rootAt, .ref x_rootTimes, .int 0, .ref x_spotX, .ref x_spotY, .ref x_bond, .int 0, .ref x_end, .ref x_span, .int 0, .ref x_part, .ref x_partPower, .int 0, .ref x_kept]))]) hP hD [0] [1, 2, 3, 4, 5, 6, 7, 8, 9, 10, 11, 12, 13] rfl rfl (by decide) (by decide) hk1 hFc hP1 hD1
  have hK := (hK.sub (tys' := [(cT, .int), (cL, .object "RealHouse$Poly")]) [0, 1] rfl).app hK1
  generalize H1 = H at hP hS ⊢
  have hP : va_P (dC, dI) classes [(x_tape, .inl (cT, 400, .inl fT)), (x_reader, .inr (8, [.ref t0, .int 0, .int 0, .int ft, .int wx, .int wy, .int 0, .ref r_left, .ref r_right, .ref r_told, .ref r_curve, .int 0, .int 0, .int 0, .int 0, .ref r_steps, .int 0, .ref r_stack, .int 0])), (r_left, .inr (2, [.ref x_c])), (x_c, .inl (cL, 9, .inr (.inr (.inr (.inr fc))))), (p0, .inr (6, [.ref dk, .ref y0, .int 0])), (p1, .inr (6, [.ref dk, .ref y1, .int 0])), (p2, .inr (6, [.ref dk, .ref y2, .int 0])), (p3, .inr (6, [.ref dk, .ref y3, .int 0])), (p4, .inr (6, [.ref dk, .ref y4, .int 0])), (p5, .inr (6, [.ref dk, .ref y5, .int 0])), (p6, .inr (6, [.ref dk, .ref y6, .int 0])), (p7, .inr (6, [.ref dk, .ref y7, .int 0])), (p8, .inr (6, [.ref dk, .ref y8, .int 0])), (h0, .inr (11, [.ref x_desk, .ref x_reader, .ref x_cells, .ref x_tape, .int 0, .ref x_script, .int 0, .ref x_rootAt, .ref x_rootTimes, .int 0, .ref x_spotX, .ref x_spotY, .ref x_bond, .int 0, .ref x_end, .ref x_span, .int 0, .ref x_part, .ref x_partPower, .int 0, .ref x_kept]))] H := hP
  have hD : va_D A [(x_tape, .inl (cT, 400, .inl fT)), (x_reader, .inr (8, [.ref t0, .int 0, .int 0, .int ft, .int wx, .int wy, .int 0, .ref r_left, .ref r_right, .ref r_told, .ref r_curve, .int 0, .int 0, .int 0, .int 0, .ref r_steps, .int 0, .ref r_stack, .int 0])), (r_left, .inr (2, [.ref x_c])), (x_c, .inl (cL, 9, .inr (.inr (.inr (.inr fc))))), (p0, .inr (6, [.ref dk, .ref y0, .int 0])), (p1, .inr (6, [.ref dk, .ref y1, .int 0])), (p2, .inr (6, [.ref dk, .ref y2, .int 0])), (p3, .inr (6, [.ref dk, .ref y3, .int 0])), (p4, .inr (6, [.ref dk, .ref y4, .int 0])), (p5, .inr (6, [.ref dk, .ref y5, .int 0])), (p6, .inr (6, [.ref dk, .ref y6, .int 0])), (p7, .inr (6, [.ref dk, .ref y7, .int 0])), (p8, .inr (6, [.ref dk, .ref y8, .int 0])), (h0, .inr (11, [.ref x_desk, .ref x_reader, .ref x_cells, .ref x_tape, .int 0, .ref x_script, .int 0, .ref x_rootAt, .ref x_rootTimes, .int 0, .ref x_spotX, .ref x_spotY, .ref x_bond, .int 0, .ref x_end, .ref x_span, .int 0, .ref x_part, .ref x_partPower, .int 0, .ref x_kept]))] := hD
  have hK : va_K (dC, dI) classes [(cT, .int), (cL, .object "RealHouse$Poly")] s := hK
  refine lv_if_eq (tgt := 10) hx hb d_House_decide_5 (by decide) (fun c_2 => ?_) (fun c_2 => ?_)
  · have hn0 : n = 0 := by
      rcases Decidable.em (n = 0) with h | h
      · exact h
      · rw [if_neg h] at hr_1; rw [hr_1] at c_2; exact absurd c_2 (by decide)
    subst hn0
    refine lv_aload_n hx hb d_House_decide_10 rfl (lv_at hl 0 rfl) ?_
    refine va_get (D := (dC, dI)) (ci := 11) (v := .ref x_reader) (C := R_House) (T := F_House) (N := 21) hx hb hT i_House hown hK hP 13 rfl rfl 1 (by decide) (hT _ tw_616) (fun _ h9 => h9) rfl d_House_decide_11 ?_
    refine lv_aload_n hx hb d_House_decide_14 rfl (lv_at hl 0 rfl) ?_
    refine va_get (D := (dC, dI)) (ci := 11) (v := .ref x_tape) (C := R_House) (T := F_House) (N := 21) hx hb hT i_House hown hK hP 13 rfl rfl 3 (by decide) (hT _ tw_618) (fun _ h9 => h9) rfl d_House_decide_15 ?_
    refine lv_iload_n hx hb d_House_decide_18 rfl (lv_at hl 1 rfl) ?_
    refine lv_iconst (v := 0) hx hb d_House_decide_19 (by decide) ?_
    refine lv_iconst (v := 0) hx hb d_House_decide_20 (by decide) ?_
    have hPc := hP.sub (ws' := [(x_reader, .inr (8, [.ref t0, .int 0, .int 0, .int ft, .int wx, .int wy, .int 0, .ref r_left, .ref r_right, .ref r_told, .ref r_curve, .int 0, .int 0, .int 0, .int 0, .ref r_steps, .int 0, .ref r_stack, .int 0])), (x_tape, .inl (cT, 400, .inl fT))]) [1, 0] rfl
    have hDc := hD.sub (ws' := [(x_reader, .inr (8, [.ref t0, .int 0, .int 0, .int ft, .int wx, .int wy, .int 0, .ref r_left, .ref r_right, .ref r_told, .ref r_curve, .int 0, .int 0, .int 0, .int 0, .ref r_steps, .int 0, .ref r_stack, .int 0])), (x_tape, .inl (cT, 400, .inl fT))]) [1, 0] (by decide) rfl
    have hKc := hK.sub (tys' := [(cT, .int)]) [0] rfl
    have hFc := va_free (wc := [(x_reader, .inr (8, [.ref t0, .int 0, .int 0, .int ft, .int wx, .int wy, .int 0, .ref r_left, .ref r_right, .ref r_told, .ref r_curve, .int 0, .int 0, .int 0, .int 0, .ref r_steps, .int 0, .ref r_stack, .int 0])), (x_tape, .inl (cT, 400, .inl fT))]) hD hS hA [1, 0] rfl
    refine va_callv (va_runV (As := [.ref x_tape, .int 0, .int 0, .int 0]) (rest := []) ⟨hx, hb, hml, hown, hT⟩ (c_Reader_begin_00 l dC dI H.size x_reader x_tape r_left r_right r_told r_curve r_steps r_stack t0 ft wx wy cT fT ) (cwV 4 hT (tb_goodV g_Reader_begin tw_699 tw_700 tw_701 tw_6) rfl rfl rfl (by decide +kernel) ⟨Nat.le_of_ble_eq_true rfl, Nat.le_of_ble_eq_true rfl⟩) ⟨fun a U g mk q => by obtain ⟨q0, q1, qP, qK, qD, qN⟩ := q; exact ⟨q0, q1, qP, va_K.moved (u := U) (U := U.calling g mk a) (Vm.Alike.refl U.vm) qK, qD, nx_K.same (u := U) (U := U.calling g mk a) rfl qN⟩, va_recv hKc hPc (ci := 8) (q0 := 0) rfl rfl, fun U hU hW => ⟨rfl, by rw [hU], by rw [hU]; exact hPc, va_K.moved hW.alike hKc, hDc.weaken (fun _ _ _ _ => trivial), nx_K.warm hW hN⟩⟩ rfl rfl hl.1 rfl (lv_room (Nat.le_of_ble_eq_true rfl)) d_House_decide_21 ⟨Nat.le_of_ble_eq_true rfl, Nat.le_of_ble_eq_true rfl⟩) hS (fun q _ h => hFc q h) hFc (fun u t H1 locs ht hvm hw hB hz1 hk1 hS => ?_)
    obtain ⟨hP1, hK1, hD1⟩ := hB
    rw [ht] at hP1
    have hK1 := va_K.moved hvm.symm hK1
    obtain ⟨hP, hD⟩ := va_join (wr := [(r_left, .inr (2, [.ref x_c])), (x_c, .inl (cL, 9, .inr (.inr (.inr (.inr fc))))), (p0, .inr (6, [.ref dk, .ref y0, .int 0])), (p1, .inr (6, [.ref dk, .ref y1, .int 0])), (p2, .inr (6, [.ref dk, .ref y2, .int 0])), (p3, .inr (6, [.ref dk, .ref y3, .int 0])), (p4, .inr (6, [.ref dk, .ref y4, .int 0])), (p5, .inr (6, [.ref dk, .ref y5, .int 0])), (p6, .inr (6, [.ref dk, .ref y6, .int 0])), (p7, .inr (6, [.ref dk, .ref y7, .int 0])), (p8, .inr (6, [.ref dk, .ref y8, .int 0])), (h0, .inr (11, [.ref x_desk, .ref x_reader, .ref x_cells, .ref x_tape, .int 0, .ref x_script, .int 0, .ref x_rootAt, .ref x_rootTimes, .int 0, .ref x_spotX, .ref x_spotY, .ref x_bond, .int 0, .ref x_end, .ref x_span, .int 0, .ref x_part, .ref x_partPower, .int 0, .ref x_kept]))]) (w1 := [(x_reader, .inr (8, [.ref x_tape, .int 0, .int 0, .int (-1), .int 0, .int 0, .int 0, .ref r_left, .ref r_right, .ref r_told, .ref r_curve, .int 0, .int 0, .int 0, .int 0, .ref r_steps, .int 0, .ref r_stack, .int 0])), (x_tape, .inl (cT, 400, .inl fT))]) hP hD [1, 0] [2, 3, 4, 5, 6, 7, 8, 9, 10, 11, 12, 13] rfl rfl (by decide) (by decide) hk1 hFc hP1 hD1
    have hK := (hK.sub (tys' := [(cL, .object "RealHouse$Poly")]) [1] rfl).app hK1
    generalize H1 = H at hP hS ⊢
    have hP : va_P (dC, dI) classes [(r_left, .inr (2, [.ref x_c])), (x_c, .inl (cL, 9, .inr (.inr (.inr (.inr fc))))), (p0, .inr (6, [.ref dk, .ref y0, .int 0])), (p1, .inr (6, [.ref dk, .ref y1, .int 0])), (p2, .inr (6, [.ref dk, .ref y2, .int 0])), (p3, .inr (6, [.ref dk, .ref y3, .int 0])), (p4, .inr (6, [.ref dk, .ref y4, .int 0])), (p5, .inr (6, [.ref dk, .ref y5, .int 0])), (p6, .inr (6, [.ref dk, .ref y6, .int 0])), (p7, .inr (6, [.ref dk, .ref y7, .int 0])), (p8, .inr (6, [.ref dk, .ref y8, .int 0])), (h0, .inr (11, [.ref x_desk, .ref x_reader, .ref x_cells, .ref x_tape, .int 0, .ref x_script, .int 0, .ref x_rootAt, .ref x_rootTimes, .int 0, .ref x_spotX, .ref x_spotY, .ref x_bond, .int 0, .ref x_end, .ref x_span, .int 0, .ref x_part, .ref x_partPower, .int 0, .ref x_kept])), (x_reader, .inr (8, [.ref x_tape, .int 0, .int 0, .int (-1), .int 0, .int 0, .int 0, .ref r_left, .ref r_right, .ref r_told, .ref r_curve, .int 0, .int 0, .int 0, .int 0, .ref r_steps, .int 0, .ref r_stack, .int 0])), (x_tape, .inl (cT, 400, .inl fT))] H := hP
    have hD : va_D A [(r_left, .inr (2, [.ref x_c])), (x_c, .inl (cL, 9, .inr (.inr (.inr (.inr fc))))), (p0, .inr (6, [.ref dk, .ref y0, .int 0])), (p1, .inr (6, [.ref dk, .ref y1, .int 0])), (p2, .inr (6, [.ref dk, .ref y2, .int 0])), (p3, .inr (6, [.ref dk, .ref y3, .int 0])), (p4, .inr (6, [.ref dk, .ref y4, .int 0])), (p5, .inr (6, [.ref dk, .ref y5, .int 0])), (p6, .inr (6, [.ref dk, .ref y6, .int 0])), (p7, .inr (6, [.ref dk, .ref y7, .int 0])), (p8, .inr (6, [.ref dk, .ref y8, .int 0])), (h0, .inr (11, [.ref x_desk, .ref x_reader, .ref x_cells, .ref x_tape, .int 0, .ref x_script, .int 0, .ref x_rootAt, .ref x_rootTimes, .int 0, .ref x_spotX, .ref x_spotY, .ref x_bond, .int 0, .ref x_end, .ref x_span, .int 0, .ref x_part, .ref x_partPower, .int 0, .ref x_kept])), (x_reader, .inr (8, [.ref x_tape, .int 0, .int 0, .int (-1), .int 0, .int 0, .int 0, .ref r_left, .ref r_right, .ref r_told, .ref r_curve, .int 0, .int 0, .int 0, .int 0, .ref r_steps, .int 0, .ref r_stack, .int 0])), (x_tape, .inl (cT, 400, .inl fT))] := hD
    have hK : va_K (dC, dI) classes [(cL, .object "RealHouse$Poly"), (cT, .int)] s := hK
    refine lv_aload_n hx hb d_House_decide_24 rfl (lv_at hl 0 rfl) ?_
    refine va_get (D := (dC, dI)) (ci := 11) (v := .ref x_reader) (C := R_House) (T := F_House) (N := 21) hx hb hT i_House hown hK hP 11 rfl rfl 1 (by decide) (hT _ tw_616) (fun _ h9 => h9) rfl d_House_decide_25 ?_
    have hPc := hP.sub (ws' := [(x_reader, .inr (8, [.ref x_tape, .int 0, .int 0, .int (-1), .int 0, .int 0, .int 0, .ref r_left, .ref r_right, .ref r_told, .ref r_curve, .int 0, .int 0, .int 0, .int 0, .ref r_steps, .int 0, .ref r_stack, .int 0]))]) [12] rfl
    have hDc := hD.sub (ws' := [(x_reader, .inr (8, [.ref x_tape, .int 0, .int 0, .int (-1), .int 0, .int 0, .int 0, .ref r_left, .ref r_right, .ref r_told, .ref r_curve, .int 0, .int 0, .int 0, .int 0, .ref r_steps, .int 0, .ref r_stack, .int 0]))]) [12] (by decide) rfl
    have hKc := hK.sub (tys' := []) [] rfl
    have hFc := va_free (wc := [(x_reader, .inr (8, [.ref x_tape, .int 0, .int 0, .int (-1), .int 0, .int 0, .int 0, .ref r_left, .ref r_right, .ref r_told, .ref r_curve, .int 0, .int 0, .int 0, .int 0, .ref r_steps, .int 0, .ref r_stack, .int 0]))]) hD hS hA [12] rfl
    refine va_callv (va_runV (As := []) (rest := []) ⟨hx, hb, hml, hown, hT⟩ (c_Reader_readQuantifiers_0 l dC dI H.size x_reader x_tape r_left r_right r_told r_curve r_steps r_stack 0 0 ) (cwV 0 hT (tb_goodV g_Reader_readQuantifiers tw_1387 tw_1388 tw_1389 tw_6) rfl rfl rfl (by decide +kernel) ⟨Nat.le_of_ble_eq_true rfl, Nat.le_of_ble_eq_true rfl⟩) ⟨fun a U g mk q => by obtain ⟨q0, q1, qP, qK, qD, qN⟩ := q; exact ⟨q0, q1, qP, va_K.moved (u := U) (U := U.calling g mk a) (Vm.Alike.refl U.vm) qK, qD, nx_K.same (u := U) (U := U.calling g mk a) rfl qN⟩, va_recv hKc hPc (ci := 8) (q0 := 0) rfl rfl, fun U hU hW => ⟨rfl, by rw [hU], by rw [hU]; exact hPc, va_K.moved hW.alike hKc, hDc.weaken (fun _ _ _ _ => trivial), nx_K.warm hW hN⟩⟩ rfl rfl hl.1 rfl (lv_room (Nat.le_of_ble_eq_true rfl)) d_House_decide_28 ⟨Nat.le_of_ble_eq_true rfl, Nat.le_of_ble_eq_true rfl⟩) hS (fun q _ h => hFc q h) hFc (fun u t H1 locs ht hvm hw hB hz1 hk1 hS => ?_)
    obtain ⟨hP1, hK1, hD1⟩ := hB
    rw [ht] at hP1
    have hK1 := va_K.moved hvm.symm hK1
    obtain ⟨hP, hD⟩ := va_join (wr := [(r_left, .inr (2, [.ref x_c])), (x_c, .inl (cL, 9, .inr (.inr (.inr (.inr fc))))), (p0, .inr (6, [.ref dk, .ref y0, .int 0])), (p1, .inr (6, [.ref dk, .ref y1, .int 0])), (p2, .inr (6, [.ref dk, .ref y2, .int 0])), (p3, .inr (6, [.ref dk, .ref y3, .int 0])), (p4, .inr (6, [.ref dk, .ref y4, .int 0])), (p5, .inr (6, [.ref dk, .ref y5, .int 0])), (p6, .inr (6, [.ref dk, .ref y6, .int 0])), (p7, .inr (6, [.ref dk, .ref y7, .int 0])), (p8, .inr (6, [.ref dk, .ref y8, .int 0])), (h0, .inr (11, [.ref x_desk, .ref x_reader, .ref x_cells, .ref x_tape, .int 0, .ref x_script, .int 0, .ref x_rootAt, .ref x_rootTimes, .int 0, .ref x_spotX, .ref x_spotY, .ref x_bond, .int 0, .ref x_end, .ref x_span, .int 0, .ref x_part, .ref x_partPower, .int 0, .ref x_kept])), (x_tape, .inl (cT, 400, .inl fT))]) (w1 := [(x_reader, .inr (8, [.ref x_tape, .int 0, .int 0, .int 0, .int 0, .int 0, .int 0, .ref r_left, .ref r_right, .ref r_told, .ref r_curve, .int 0, .int 0, .int 0, .int 0, .ref r_steps, .int 0, .ref r_stack, .int 0]))]) hP hD [12] [0, 1, 2, 3, 4, 5, 6, 7, 8, 9, 10, 11, 13] rfl rfl (by decide) (by decide) hk1 hFc hP1 hD1
    have hK := (hK.sub (tys' := [(cL, .object "RealHouse$Poly"), (cT, .int)]) [0, 1] rfl).app hK1
    generalize H1 = H at hP hS ⊢
    have hP : va_P (dC, dI) classes [(r_left, .inr (2, [.ref x_c])), (x_c, .inl (cL, 9, .inr (.inr (.inr (.inr fc))))), (p0, .inr (6, [.ref dk, .ref y0, .int 0])), (p1, .inr (6, [.ref dk, .ref y1, .int 0])), (p2, .inr (6, [.ref dk, .ref y2, .int 0])), (p3, .inr (6, [.ref dk, .ref y3, .int 0])), (p4, .inr (6, [.ref dk, .ref y4, .int 0])), (p5, .inr (6, [.ref dk, .ref y5, .int 0])), (p6, .inr (6, [.ref dk, .ref y6, .int 0])), (p7, .inr (6, [.ref dk, .ref y7, .int 0])), (p8, .inr (6, [.ref dk, .ref y8, .int 0])), (h0, .inr (11, [.ref x_desk, .ref x_reader, .ref x_cells, .ref x_tape, .int 0, .ref x_script, .int 0, .ref x_rootAt, .ref x_rootTimes, .int 0, .ref x_spotX, .ref x_spotY, .ref x_bond, .int 0, .ref x_end, .ref x_span, .int 0, .ref x_part, .ref x_partPower, .int 0, .ref x_kept])), (x_tape, .inl (cT, 400, .inl fT)), (x_reader, .inr (8, [.ref x_tape, .int 0, .int 0, .int 0, .int 0, .int 0, .int 0, .ref r_left, .ref r_right, .ref r_told, .ref r_curve, .int 0, .int 0, .int 0, .int 0, .ref r_steps, .int 0, .ref r_stack, .int 0]))] H := hP
    have hD : va_D A [(r_left, .inr (2, [.ref x_c])), (x_c, .inl (cL, 9, .inr (.inr (.inr (.inr fc))))), (p0, .inr (6, [.ref dk, .ref y0, .int 0])), (p1, .inr (6, [.ref dk, .ref y1, .int 0])), (p2, .inr (6, [.ref dk, .ref y2, .int 0])), (p3, .inr (6, [.ref dk, .ref y3, .int 0])), (p4, .inr (6, [.ref dk, .ref y4, .int 0])), (p5, .inr (6, [.ref dk, .ref y5, .int 0])), (p6, .inr (6, [.ref dk, .ref y6, .int 0])), (p7, .inr (6, [.ref dk, .ref y7, .int 0])), (p8, .inr (6, [.ref dk, .ref y8, .int 0])), (h0, .inr (11, [.ref x_desk, .ref x_reader, .ref x_cells, .ref x_tape, .int 0, .ref x_script, .int 0, .ref x_rootAt, .ref x_rootTimes, .int 0, .ref x_spotX, .ref x_spotY, .ref x_bond, .int 0, .ref x_end, .ref x_span, .int 0, .ref x_part, .ref x_partPower, .int 0, .ref x_kept])), (x_tape, .inl (cT, 400, .inl fT)), (x_reader, .inr (8, [.ref x_tape, .int 0, .int 0, .int 0, .int 0, .int 0, .int 0, .ref r_left, .ref r_right, .ref r_told, .ref r_curve, .int 0, .int 0, .int 0, .int 0, .ref r_steps, .int 0, .ref r_stack, .int 0]))] := hD
    have hK : va_K (dC, dI) classes [(cL, .object "RealHouse$Poly"), (cT, .int)] s := hK
    refine lv_aload_n hx hb d_House_decide_31 rfl (lv_at hl 0 rfl) ?_
    refine va_get (D := (dC, dI)) (ci := 11) (v := .ref x_reader) (C := R_House) (T := F_House) (N := 21) hx hb hT i_House hown hK hP 11 rfl rfl 1 (by decide) (hT _ tw_616) (fun _ h9 => h9) rfl d_House_decide_32 ?_
    have hPc := hP.sub (ws' := [(x_reader, .inr (8, [.ref x_tape, .int 0, .int 0, .int 0, .int 0, .int 0, .int 0, .ref r_left, .ref r_right, .ref r_told, .ref r_curve, .int 0, .int 0, .int 0, .int 0, .ref r_steps, .int 0, .ref r_stack, .int 0]))]) [13] rfl
    have hDc := hD.sub (ws' := [(x_reader, .inr (8, [.ref x_tape, .int 0, .int 0, .int 0, .int 0, .int 0, .int 0, .ref r_left, .ref r_right, .ref r_told, .ref r_curve, .int 0, .int 0, .int 0, .int 0, .ref r_steps, .int 0, .ref r_stack, .int 0]))]) [13] (by decide) rfl
    have hKc := hK.sub (tys' := []) [] rfl
    have hFc := va_free (wc := [(x_reader, .inr (8, [.ref x_tape, .int 0, .int 0, .int 0, .int 0, .int 0, .int 0, .ref r_left, .ref r_right, .ref r_told, .ref r_curve, .int 0, .int 0, .int 0, .int 0, .ref r_steps, .int 0, .ref r_stack, .int 0]))]) hD hS hA [13] rfl
    refine va_callv (va_runV (As := []) (rest := []) ⟨hx, hb, hml, hown, hT⟩ (c_Reader_readFormula_1 l dC dI H.size x_reader x_tape r_left r_right r_told r_curve r_steps r_stack 0 0 ) (cwV 0 hT (tb_goodV g_Reader_readFormula tw_1395 tw_1396 tw_1397 tw_6) rfl rfl rfl (by decide +kernel) ⟨Nat.le_of_ble_eq_true rfl, Nat.le_of_ble_eq_true rfl⟩) ⟨fun a U g mk q => by obtain ⟨q0, q1, qP, qK, qD, qN⟩ := q; exact ⟨q0, q1, qP, va_K.moved (u := U) (U := U.calling g mk a) (Vm.Alike.refl U.vm) qK, qD, nx_K.same (u := U) (U := U.calling g mk a) rfl qN⟩, va_recv hKc hPc (ci := 8) (q0 := 0) rfl rfl, fun U hU hW => ⟨rfl, by rw [hU], by rw [hU]; exact hPc, va_K.moved hW.alike hKc, hDc.weaken (fun _ _ _ _ => trivial), nx_K.warm hW hN⟩⟩ rfl rfl hl.1 rfl (lv_room (Nat.le_of_ble_eq_true rfl)) d_House_decide_35 ⟨Nat.le_of_ble_eq_true rfl, Nat.le_of_ble_eq_true rfl⟩) hS (fun q _ h => hFc q h) hFc (fun u t H1 locs ht hvm hw hB hz1 hk1 hS => ?_)
    obtain ⟨hP1, hK1, hD1⟩ := hB
    rw [ht] at hP1
    have hK1 := va_K.moved hvm.symm hK1
    obtain ⟨hP, hD⟩ := va_join (wr := [(r_left, .inr (2, [.ref x_c])), (x_c, .inl (cL, 9, .inr (.inr (.inr (.inr fc))))), (p0, .inr (6, [.ref dk, .ref y0, .int 0])), (p1, .inr (6, [.ref dk, .ref y1, .int 0])), (p2, .inr (6, [.ref dk, .ref y2, .int 0])), (p3, .inr (6, [.ref dk, .ref y3, .int 0])), (p4, .inr (6, [.ref dk, .ref y4, .int 0])), (p5, .inr (6, [.ref dk, .ref y5, .int 0])), (p6, .inr (6, [.ref dk, .ref y6, .int 0])), (p7, .inr (6, [.ref dk, .ref y7, .int 0])), (p8, .inr (6, [.ref dk, .ref y8, .int 0])), (h0, .inr (11, [.ref x_desk, .ref x_reader, .ref x_cells, .ref x_tape, .int 0, .ref x_script, .int 0, .ref x_rootAt, .ref x_rootTimes, .int 0, .ref x_spotX, .ref x_spotY, .ref x_bond, .int 0, .ref x_end, .ref x_span, .int 0, .ref x_part, .ref x_partPower, .int 0, .ref x_kept])), (x_tape, .inl (cT, 400, .inl fT))]) (w1 := [(x_reader, .inr (8, [.ref x_tape, .int 0, .int 0, .int 0, .int 0, .int 0, .int 0, .ref r_left, .ref r_right, .ref r_told, .ref r_curve, .int 0, .int 0, .int 0, .int 0, .ref r_steps, .int 0, .ref r_stack, .int 0]))]) hP hD [13] [0, 1, 2, 3, 4, 5, 6, 7, 8, 9, 10, 11, 12] rfl rfl (by decide) (by decide) hk1 hFc hP1 hD1
    have hK := (hK.sub (tys' := [(cL, .object "RealHouse$Poly"), (cT, .int)]) [0, 1] rfl).app hK1
    generalize H1 = H at hP hS ⊢
    have hP : va_P (dC, dI) classes [(r_left, .inr (2, [.ref x_c])), (x_c, .inl (cL, 9, .inr (.inr (.inr (.inr fc))))), (p0, .inr (6, [.ref dk, .ref y0, .int 0])), (p1, .inr (6, [.ref dk, .ref y1, .int 0])), (p2, .inr (6, [.ref dk, .ref y2, .int 0])), (p3, .inr (6, [.ref dk, .ref y3, .int 0])), (p4, .inr (6, [.ref dk, .ref y4, .int 0])), (p5, .inr (6, [.ref dk, .ref y5, .int 0])), (p6, .inr (6, [.ref dk, .ref y6, .int 0])), (p7, .inr (6, [.ref dk, .ref y7, .int 0])), (p8, .inr (6, [.ref dk, .ref y8, .int 0])), (h0, .inr (11, [.ref x_desk, .ref x_reader, .ref x_cells, .ref x_tape, .int 0, .ref x_script, .int 0, .ref x_rootAt, .ref x_rootTimes, .int 0, .ref x_spotX, .ref x_spotY, .ref x_bond, .int 0, .ref x_end, .ref x_span, .int 0, .ref x_part, .ref x_partPower, .int 0, .ref x_kept])), (x_tape, .inl (cT, 400, .inl fT)), (x_reader, .inr (8, [.ref x_tape, .int 0, .int 0, .int 0, .int 0, .int 0, .int 0, .ref r_left, .ref r_right, .ref r_told, .ref r_curve, .int 0, .int 0, .int 0, .int 0, .ref r_steps, .int 0, .ref r_stack, .int 0]))] H := hP
    have hD : va_D A [(r_left, .inr (2, [.ref x_c])), (x_c, .inl (cL, 9, .inr (.inr (.inr (.inr fc))))), (p0, .inr (6, [.ref dk, .ref y0, .int 0])), (p1, .inr (6, [.ref dk, .ref y1, .int 0])), (p2, .inr (6, [.ref dk, .ref y2, .int 0])), (p3, .inr (6, [.ref dk, .ref y3, .int 0])), (p4, .inr (6, [.ref dk, .ref y4, .int 0])), (p5, .inr (6, [.ref dk, .ref y5, .int 0])), (p6, .inr (6, [.ref dk, .ref y6, .int 0])), (p7, .inr (6, [.ref dk, .ref y7, .int 0])), (p8, .inr (6, [.ref dk, .ref y8, .int 0])), (h0, .inr (11, [.ref x_desk, .ref x_reader, .ref x_cells, .ref x_tape, .int 0, .ref x_script, .int 0, .ref x_rootAt, .ref x_rootTimes, .int 0, .ref x_spotX, .ref x_spotY, .ref x_bond, .int 0, .ref x_end, .ref x_span, .int 0, .ref x_part, .ref x_partPower, .int 0, .ref x_kept])), (x_tape, .inl (cT, 400, .inl fT)), (x_reader, .inr (8, [.ref x_tape, .int 0, .int 0, .int 0, .int 0, .int 0, .int 0, .ref r_left, .ref r_right, .ref r_told, .ref r_curve, .int 0, .int 0, .int 0, .int 0, .ref r_steps, .int 0, .ref r_stack, .int 0]))] := hD
    have hK : va_K (dC, dI) classes [(cL, .object "RealHouse$Poly"), (cT, .int)] s := hK
    refine lv_aload_n hx hb d_House_decide_38 rfl (lv_at hl 0 rfl) ?_
    refine va_get (D := (dC, dI)) (ci := 11) (v := .ref x_reader) (C := R_House) (T := F_House) (N := 21) hx hb hT i_House hown hK hP 11 rfl rfl 1 (by decide) (hT _ tw_616) (fun _ h9 => h9) rfl d_House_decide_39 ?_
    refine va_get (D := (dC, dI)) (ci := 8) (v := .int 0) (C := R_Reader) (T := F_Reader) (N := 19) hx hb hT i_Reader hown hK hP 13 rfl rfl 3 (by decide) (hT _ tw_237) (fun _ h9 => h9) rfl d_House_decide_42 ?_
    refine lv_if_lt (tgt := 53) hx hb d_House_decide_45 (by decide) (fun c_3 => absurd c_3 (by decide)) (fun c_3 => ?_)
    refine lv_aload_n hx hb d_House_decide_48 rfl (lv_at hl 0 rfl) ?_
    have hPc := hP.sub (ws' := [(h0, .inr (11, [.ref x_desk, .ref x_reader, .ref x_cells, .ref x_tape, .int 0, .ref x_script, .int 0, .ref x_rootAt, .ref x_rootTimes, .int 0, .ref x_spotX, .ref x_spotY, .ref x_bond, .int 0, .ref x_end, .ref x_span, .int 0, .ref x_part, .ref x_partPower, .int 0, .ref x_kept])), (x_reader, .inr (8, [.ref x_tape, .int 0, .int 0, .int 0, .int 0, .int 0, .int 0, .ref r_left, .ref r_right, .ref r_told, .ref r_curve, .int 0, .int 0, .int 0, .int 0, .ref r_steps, .int 0, .ref r_stack, .int 0]))]) [11, 13] rfl
    have hDc := hD.sub (ws' := [(h0, .inr (11, [.ref x_desk, .ref x_reader, .ref x_cells, .ref x_tape, .int 0, .ref x_script, .int 0, .ref x_rootAt, .ref x_rootTimes, .int 0, .ref x_spotX, .ref x_spotY, .ref x_bond, .int 0, .ref x_end, .ref x_span, .int 0, .ref x_part, .ref x_partPower, .int 0, .ref x_kept])), (x_reader, .inr (8, [.ref x_tape, .int 0, .int 0, .int 0, .int 0, .int 0, .int 0, .ref r_left, .ref r_right, .ref r_told, .ref r_curve, .int 0, .int 0, .int 0, .int 0, .ref r_steps, .int 0, .ref r_stack, .int 0]))]) [11, 13] (by decide) rfl
    have hKc := hK.sub (tys' := []) [] rfl
    have hFc := va_free (wc := [(h0, .inr (11, [.ref x_desk, .ref x_reader, .ref x_cells, .ref x_tape, .int 0, .ref x_script, .int 0, .ref x_rootAt, .ref x_rootTimes, .int 0, .ref x_spotX, .ref x_spotY, .ref x_bond, .int 0, .ref x_end, .ref x_span, .int 0, .ref x_part, .ref x_partPower, .int 0, .ref x_kept])), (x_reader, .inr (8, [.ref x_tape, .int 0, .int 0, .int 0, .int 0, .int 0, .int 0, .ref r_left, .ref r_right, .ref r_told, .ref r_curve, .int 0, .int 0, .int 0, .int 0, .ref r_steps, .int 0, .ref r_stack, .int 0]))]) hD hS hA [11, 13] rfl
    refine va_calli (va_runV (As := []) (rest := []) ⟨hx, hb, hml, hown, hT⟩ (c_House_faulty_0 l dC dI H.size h0 x_desk x_reader x_cells x_tape x_script x_rootAt x_rootTimes x_spotX x_spotY x_bond x_end x_span x_part x_partPower x_kept r_left r_right r_told r_curve r_steps r_stack x_tape 0 0 ) (cwV 0 hT (tb_goodV g_House_faulty tw_766 tw_768 (tb_sel (q := (⟨"RealHouse", "faulty", "()I"⟩, 21)) (i := 9) (by decide +kernel)) tw_1) rfl rfl rfl (by decide +kernel) ⟨Nat.le_of_ble_eq_true rfl, Nat.le_of_ble_eq_true rfl⟩) ⟨fun a U g mk q => by obtain ⟨q0, q1, qP, qK, qD, qN⟩ := q; exact ⟨q0, q1, qP, va_K.moved (u := U) (U := U.calling g mk a) (Vm.Alike.refl U.vm) qK, qD, nx_K.same (u := U) (U := U.calling g mk a) rfl qN⟩, va_recv hKc hPc (ci := 11) (q0 := 0) rfl rfl, fun U hU hW => ⟨rfl, by rw [hU], by rw [hU]; exact hPc, va_K.moved hW.alike hKc, hDc.weaken (fun _ _ _ _ => trivial), nx_K.warm hW hN⟩⟩ rfl rfl hl.1 rfl (lv_room (Nat.le_of_ble_eq_true rfl)) d_House_decide_49 ⟨Nat.le_of_ble_eq_true rfl, Nat.le_of_ble_eq_true rfl⟩) hS (fun q _ h => hFc q h) hFc (fun r_4 u t H1 locs ht hvm hw hB hz1 hk1 hS => ?_)
    obtain ⟨hP1, hK1, hD1⟩ := hB
    rw [ht] at hP1
    have hK1 := va_K.moved hvm.symm hK1
    obtain rfl : r_4 = (-2) := hw
    obtain ⟨hP, hD⟩ := va_join (wr := [(r_left, .inr (2, [.ref x_c])), (x_c, .inl (cL, 9, .inr (.inr (.inr (.inr fc))))), (p0, .inr (6, [.ref dk, .ref y0, .int 0])), (p1, .inr (6, [.ref dk, .ref y1, .int 0])), (p2, .inr (6, [.ref dk, .ref y2, .int 0])), (p3, .inr (6, [.ref dk, .ref y3, .int 0])), (p4, .inr (6, [.ref dk, .ref y4, .int 0])), (p5, .inr (6, [.ref dk, .ref y5, .int 0])), (p6, .inr (6, [.ref dk, .ref y6, .int 0])), (p7, .inr (6, [.ref dk, .ref y7, .int 0])), (p8, .inr (6, [.ref dk, .ref y8, .int 0])), (x_tape, .inl (cT, 400, .inl fT))]) (w1 := [(h0, .inr (11, [.ref x_desk, .ref x_reader, .ref x_cells, .ref x_tape, .int 0, .ref x_script, .int 0, .ref x_rootAt, .ref x_rootTimes, .int 0, .ref x_spotX, .ref x_spotY, .ref x_bond, .int 0, .ref x_end, .ref x_span, .int 0, .ref x_part, .ref x_partPower, .int 0, .ref x_kept])), (x_reader, .inr (8, [.ref x_tape, .int 0, .int 0, .int 0, .int 0, .int 0, .int 0, .ref r_left, .ref r_right, .ref r_told, .ref r_curve, .int 0, .int 0, .int 0, .int 0, .ref r_steps, .int 0, .ref r_stack, .int 0]))]) hP hD [11, 13] [0, 1, 2, 3, 4, 5, 6, 7, 8, 9, 10, 12] rfl rfl (by decide) (by decide) hk1 hFc hP1 hD1
    have hK := (hK.sub (tys' := [(cL, .object "RealHouse$Poly"), (cT, .int)]) [0, 1] rfl).app hK1
    generalize H1 = H at hP hS ⊢
    have hP : va_P (dC, dI) classes [(r_left, .inr (2, [.ref x_c])), (x_c, .inl (cL, 9, .inr (.inr (.inr (.inr fc))))), (p0, .inr (6, [.ref dk, .ref y0, .int 0])), (p1, .inr (6, [.ref dk, .ref y1, .int 0])), (p2, .inr (6, [.ref dk, .ref y2, .int 0])), (p3, .inr (6, [.ref dk, .ref y3, .int 0])), (p4, .inr (6, [.ref dk, .ref y4, .int 0])), (p5, .inr (6, [.ref dk, .ref y5, .int 0])), (p6, .inr (6, [.ref dk, .ref y6, .int 0])), (p7, .inr (6, [.ref dk, .ref y7, .int 0])), (p8, .inr (6, [.ref dk, .ref y8, .int 0])), (x_tape, .inl (cT, 400, .inl fT)), (h0, .inr (11, [.ref x_desk, .ref x_reader, .ref x_cells, .ref x_tape, .int 0, .ref x_script, .int 0, .ref x_rootAt, .ref x_rootTimes, .int 0, .ref x_spotX, .ref x_spotY, .ref x_bond, .int 0, .ref x_end, .ref x_span, .int 0, .ref x_part, .ref x_partPower, .int 0, .ref x_kept])), (x_reader, .inr (8, [.ref x_tape, .int 0, .int 0, .int 0, .int 0, .int 0, .int 0, .ref r_left, .ref r_right, .ref r_told, .ref r_curve, .int 0, .int 0, .int 0, .int 0, .ref r_steps, .int 0, .ref r_stack, .int 0]))] H := hP
    have hD : va_D A [(r_left, .inr (2, [.ref x_c])), (x_c, .inl (cL, 9, .inr (.inr (.inr (.inr fc))))), (p0, .inr (6, [.ref dk, .ref y0, .int 0])), (p1, .inr (6, [.ref dk, .ref y1, .int 0])), (p2, .inr (6, [.ref dk, .ref y2, .int 0])), (p3, .inr (6, [.ref dk, .ref y3, .int 0])), (p4, .inr (6, [.ref dk, .ref y4, .int 0])), (p5, .inr (6, [.ref dk, .ref y5, .int 0])), (p6, .inr (6, [.ref dk, .ref y6, .int 0])), (p7, .inr (6, [.ref dk, .ref y7, .int 0])), (p8, .inr (6, [.ref dk, .ref y8, .int 0])), (x_tape, .inl (cT, 400, .inl fT)), (h0, .inr (11, [.ref x_desk, .ref x_reader, .ref x_cells, .ref x_tape, .int 0, .ref x_script, .int 0, .ref x_rootAt, .ref x_rootTimes, .int 0, .ref x_spotX, .ref x_spotY, .ref x_bond, .int 0, .ref x_end, .ref x_span, .int 0, .ref x_part, .ref x_partPower, .int 0, .ref x_kept])), (x_reader, .inr (8, [.ref x_tape, .int 0, .int 0, .int 0, .int 0, .int 0, .int 0, .ref r_left, .ref r_right, .ref r_told, .ref r_curve, .int 0, .int 0, .int 0, .int 0, .ref r_steps, .int 0, .ref r_stack, .int 0]))] := hD
    have hK : va_K (dC, dI) classes [(cL, .object "RealHouse$Poly"), (cT, .int)] s := hK
    have hP9 := hP.sub (ws' := []) [] rfl
    have hD9 := hD.sub (ws' := []) [] (by decide) rfl
    have hK9 := hK.sub (tys' := []) [] rfl
    exact W.iret (v := (-2)) hx hb hr (fun t ht hW => ⟨⟨(-2), (), rfl, rfl, by rw [ht]; exact hP9, va_K.moved hW.alike hK9, hD9⟩, hS.F ht⟩) hS.2.2 d_House_decide_52
  · have hn0 : ¬ n = 0 := fun h => c_2 (by rw [hr_1, if_pos h])
    refine lv_iconst (v := (-1)) hx hb d_House_decide_8 (by decide) ?_
    have hP9 := hP.sub (ws' := []) [] rfl
    have hD9 := hD.sub (ws' := []) [] (by decide) rfl
    have hK9 := hK.sub (tys' := []) [] rfl
    exact W.iret (v := (-1)) hx hb hr (fun t ht hW => ⟨⟨(-1), (), rfl, (if_neg hn0).symm, by rw [ht]; exact hP9, va_K.moved hW.alike hK9, hD9⟩, hS.F ht⟩) hS.2.2 d_House_decide_9

set_option maxHeartbeats 4000000 in
set_option maxRecDepth 100000 in
/-- solve on a fresh house -/
theorem c_House_solve_0 (l : Launch) (dC : Nat → ClassId) (dI : Nat → Nat → Nat) (sz : Nat) (h0 : Nat) (x_desk : Nat) (x_reader : Nat) (x_cells : Nat) (x_tape : Nat) (x_script : Nat) (x_rootAt : Nat) (x_rootTimes : Nat) (x_spotX : Nat) (x_spotY : Nat) (x_bond : Nat) (x_end : Nat) (x_span : Nat) (x_part : Nat) (x_partPower : Nat) (x_kept : Nat) (cT : ClassId) (fT : Nat → Int32) (r_left : Nat) (r_right : Nat) (r_told : Nat) (r_curve : Nat) (r_steps : Nat) (r_stack : Nat) (t0 : Nat) (ft : Int32) (wx : Int32) (wy : Int32) (x_c : Nat) (cL : ClassId) (fc : Nat → Option Nat) (dk : Nat) (p0 : Nat) (p1 : Nat) (p2 : Nat) (p3 : Nat) (p4 : Nat) (p5 : Nat) (p6 : Nat) (p7 : Nat) (p8 : Nat) (y0 : Nat) (y1 : Nat) (y2 : Nat) (y3 : Nat) (y4 : Nat) (y5 : Nat) (y6 : Nat) (y7 : Nat) (y8 : Nat) (n : Int32) (hF : fc 0 = some p0 ∧ fc 1 = some p1 ∧ fc 2 = some p2 ∧ fc 3 = some p3 ∧ fc 4 = some p4 ∧ fc 5 = some p5 ∧ fc 6 = some p6 ∧ fc 7 = some p7 ∧ fc 8 = some p8) : Met l y_House_solve w_House_solve ({ frames := 5, cells := 0, slots := 0, locals := 122 }) (va_Pc [.ref h0, .int n] (fun U => U.heap.size = sz ∧ va_P (dC, dI) classes [(h0, .inr (11, [.ref x_desk, .ref x_reader, .ref x_cells, .ref x_tape, .int 0, .ref x_script, .int 0, .ref x_rootAt, .ref x_rootTimes, .int 0, .ref x_spotX, .ref x_spotY, .ref x_bond, .int 0, .ref x_end, .ref x_span, .int 0, .ref x_part, .ref x_partPower, .int 0, .ref x_kept])), (x_tape, .inl (cT, 400, .inl fT)), (x_reader, .inr (8, [.ref t0, .int 0, .int 0, .int ft, .int wx, .int wy, .int 0, .ref r_left, .ref r_right, .ref r_told, .ref r_curve, .int 0, .int 0, .int 0, .int 0, .ref r_steps, .int 0, .ref r_stack, .int 0])), (r_left, .inr (2, [.ref x_c])), (x_c, .inl (cL, 9, .inr (.inr (.inr (.inr fc))))), (p0, .inr (6, [.ref dk, .ref y0, .int 0])), (p1, .inr (6, [.ref dk, .ref y1, .int 0])), (p2, .inr (6, [.ref dk, .ref y2, .int 0])), (p3, .inr (6, [.ref dk, .ref y3, .int 0])), (p4, .inr (6, [.ref dk, .ref y4, .int 0])), (p5, .inr (6, [.ref dk, .ref y5, .int 0])), (p6, .inr (6, [.ref dk, .ref y6, .int 0])), (p7, .inr (6, [.ref dk, .ref y7, .int 0])), (p8, .inr (6, [.ref dk, .ref y8, .int 0]))] U.heap ∧ va_K (dC, dI) classes [(cT, .int), (cL, .object "RealHouse$Poly")] U ∧ va_D (fun _ => True) [(h0, .inr (11, [.ref x_desk, .ref x_reader, .ref x_cells, .ref x_tape, .int 0, .ref x_script, .int 0, .ref x_rootAt, .ref x_rootTimes, .int 0, .ref x_spotX, .ref x_spotY, .ref x_bond, .int 0, .ref x_end, .ref x_span, .int 0, .ref x_part, .ref x_partPower, .int 0, .ref x_kept])), (x_tape, .inl (cT, 400, .inl fT)), (x_reader, .inr (8, [.ref t0, .int 0, .int 0, .int ft, .int wx, .int wy, .int 0, .ref r_left, .ref r_right, .ref r_told, .ref r_curve, .int 0, .int 0, .int 0, .int 0, .ref r_steps, .int 0, .ref r_stack, .int 0])), (r_left, .inr (2, [.ref x_c])), (x_c, .inl (cL, 9, .inr (.inr (.inr (.inr fc))))), (p0, .inr (6, [.ref dk, .ref y0, .int 0])), (p1, .inr (6, [.ref dk, .ref y1, .int 0])), (p2, .inr (6, [.ref dk, .ref y2, .int 0])), (p3, .inr (6, [.ref dk, .ref y3, .int 0])), (p4, .inr (6, [.ref dk, .ref y4, .int 0])), (p5, .inr (6, [.ref dk, .ref y5, .int 0])), (p6, .inr (6, [.ref dk, .ref y6, .int 0])), (p7, .inr (6, [.ref dk, .ref y7, .int 0])), (p8, .inr (6, [.ref dk, .ref y8, .int 0]))] ∧ nx_K U)) (va_Qi (fun (r : Int32) (_ : Unit) => r = if n = 0 then (-2) else (-1)) (fun _ t => va_P (dC, dI) classes [] t.heap ∧ va_K (dC, dI) classes [] t ∧ va_D (va_A [(h0, .inr (11, [.ref x_desk, .ref x_reader, .ref x_cells, .ref x_tape, .int 0, .ref x_script, .int 0, .ref x_rootAt, .ref x_rootTimes, .int 0, .ref x_spotX, .ref x_spotY, .ref x_bond, .int 0, .ref x_end, .ref x_span, .int 0, .ref x_part, .ref x_partPower, .int 0, .ref x_kept])), (x_tape, .inl (cT, 400, .inl fT)), (x_reader, .inr (8, [.ref t0, .int 0, .int 0, .int ft, .int wx, .int wy, .int 0, .ref r_left, .ref r_right, .ref r_told, .ref r_curve, .int 0, .int 0, .int 0, .int 0, .ref r_steps, .int 0, .ref r_stack, .int 0])), (r_left, .inr (2, [.ref x_c])), (x_c, .inl (cL, 9, .inr (.inr (.inr (.inr fc))))), (p0, .inr (6, [.ref dk, .ref y0, .int 0])), (p1, .inr (6, [.ref dk, .ref y1, .int 0])), (p2, .inr (6, [.ref dk, .ref y2, .int 0])), (p3, .inr (6, [.ref dk, .ref y3, .int 0])), (p4, .inr (6, [.ref dk, .ref y4, .int 0])), (p5, .inr (6, [.ref dk, .ref y5, .int 0])), (p6, .inr (6, [.ref dk, .ref y6, .int 0])), (p7, .inr (6, [.ref dk, .ref y7, .int 0])), (p8, .inr (6, [.ref dk, .ref y8, .int 0]))] sz) []) (va_A [(h0, .inr (11, [.ref x_desk, .ref x_reader, .ref x_cells, .ref x_tape, .int 0, .ref x_script, .int 0, .ref x_rootAt, .ref x_rootTimes, .int 0, .ref x_spotX, .ref x_spotY, .ref x_bond, .int 0, .ref x_end, .ref x_span, .int 0, .ref x_part, .ref x_partPower, .int 0, .ref x_kept])), (x_tape, .inl (cT, 400, .inl fT)), (x_reader, .inr (8, [.ref t0, .int 0, .int 0, .int ft, .int wx, .int wy, .int 0, .ref r_left, .ref r_right, .ref r_told, .ref r_curve, .int 0, .int 0, .int 0, .int 0, .ref r_steps, .int 0, .ref r_stack, .int 0])), (r_left, .inr (2, [.ref x_c])), (x_c, .inl (cL, 9, .inr (.inr (.inr (.inr fc))))), (p0, .inr (6, [.ref dk, .ref y0, .int 0])), (p1, .inr (6, [.ref dk, .ref y1, .int 0])), (p2, .inr (6, [.ref dk, .ref y2, .int 0])), (p3, .inr (6, [.ref dk, .ref y3, .int 0])), (p4, .inr (6, [.ref dk, .ref y4, .int 0])), (p5, .inr (6, [.ref dk, .ref y5, .int 0])), (p6, .inr (6, [.ref dk, .ref y6, .int 0])), (p7, .inr (6, [.ref dk, .ref y7, .int 0])), (p8, .inr (6, [.ref dk, .ref y8, .int 0]))] sz)) 0 0 (va_A [(h0, .inr (11, [.ref x_desk, .ref x_reader, .ref x_cells, .ref x_tape, .int 0, .ref x_script, .int 0, .ref x_rootAt, .ref x_rootTimes, .int 0, .ref x_spotX, .ref x_spotY, .ref x_bond, .int 0, .ref x_end, .ref x_span, .int 0, .ref x_part, .ref x_partPower, .int 0, .ref x_kept])), (x_tape, .inl (cT, 400, .inl fT)), (x_reader, .inr (8, [.ref t0, .int 0, .int 0, .int ft, .int wx, .int wy, .int 0, .ref r_left, .ref r_right, .ref r_told, .ref r_curve, .int 0, .int 0, .int 0, .int 0, .ref r_steps, .int 0, .ref r_stack, .int 0])), (r_left, .inr (2, [.ref x_c])), (x_c, .inl (cL, 9, .inr (.inr (.inr (.inr fc))))), (p0, .inr (6, [.ref dk, .ref y0, .int 0])), (p1, .inr (6, [.ref dk, .ref y1, .int 0])), (p2, .inr (6, [.ref dk, .ref y2, .int 0])), (p3, .inr (6, [.ref dk, .ref y3, .int 0])), (p4, .inr (6, [.ref dk, .ref y4, .int 0])), (p5, .inr (6, [.ref dk, .ref y5, .int 0])), (p6, .inr (6, [.ref dk, .ref y6, .int 0])), (p7, .inr (6, [.ref dk, .ref y7, .int 0])), (p8, .inr (6, [.ref dk, .ref y8, .int 0]))] sz) := by
  refine Met.ofW (cc := b_House_solve) (maxL := 5) (ret := (some .int)) (by decide) rfl ?_
  intro p e s m args below meth c s₁ B hml hv
  obtain ⟨rfl, hsz, hP, hK, hD0, hN⟩ := hv
  have hx := B.exec
  have hb := B.bytes
  have hr := B.returns
  have hT : ∀ w ∈ lw_g, w.before _ s = true := fun w h => atoms_spec (ws := w_House_solve) B.pre w (List.mem_cons_of_mem _ h)
  have hown : s.vm.findClass R_House = some m.cls := findClass_of_methodNamed B.named
  have hlocks := B.notSynchronized
  subst hsz
  have hD := hD0.self (sz := s.heap.size)
  generalize hAe : va_A [(h0, .inr (11, [.ref x_desk, .ref x_reader, .ref x_cells, .ref x_tape, .int 0, .ref x_script, .int 0, .ref x_rootAt, .ref x_rootTimes, .int 0, .ref x_spotX, .ref x_spotY, .ref x_bond, .int 0, .ref x_end, .ref x_span, .int 0, .ref x_part, .ref x_partPower, .int 0, .ref x_kept])), (x_tape, .inl (cT, 400, .inl fT)), (x_reader, .inr (8, [.ref t0, .int 0, .int 0, .int ft, .int wx, .int wy, .int 0, .ref r_left, .ref r_right, .ref r_told, .ref r_curve, .int 0, .int 0, .int 0, .int 0, .ref r_steps, .int 0, .ref r_stack, .int 0])), (r_left, .inr (2, [.ref x_c])), (x_c, .inl (cL, 9, .inr (.inr (.inr (.inr fc))))), (p0, .inr (6, [.ref dk, .ref y0, .int 0])), (p1, .inr (6, [.ref dk, .ref y1, .int 0])), (p2, .inr (6, [.ref dk, .ref y2, .int 0])), (p3, .inr (6, [.ref dk, .ref y3, .int 0])), (p4, .inr (6, [.ref dk, .ref y4, .int 0])), (p5, .inr (6, [.ref dk, .ref y5, .int 0])), (p6, .inr (6, [.ref dk, .ref y6, .int 0])), (p7, .inr (6, [.ref dk, .ref y7, .int 0])), (p8, .inr (6, [.ref dk, .ref y8, .int 0]))] s.heap.size = A at hD ⊢
  have hA : ∀ q : Nat, s.heap.size ≤ q → A q := fun q h => by rw [← hAe]; exact Or.inr h
  have hS : va_S A s.heap s.heap [] := va_S.rf
  have hP : va_P (dC, dI) classes [(h0, .inr (11, [.ref x_desk, .ref x_reader, .ref x_cells, .ref x_tape, .int 0, .ref x_script, .int 0, .ref x_rootAt, .ref x_rootTimes, .int 0, .ref x_spotX, .ref x_spotY, .ref x_bond, .int 0, .ref x_end, .ref x_span, .int 0, .ref x_part, .ref x_partPower, .int 0, .ref x_kept])), (x_tape, .inl (cT, 400, .inl fT)), (x_reader, .inr (8, [.ref t0, .int 0, .int 0, .int ft, .int wx, .int wy, .int 0, .ref r_left, .ref r_right, .ref r_told, .ref r_curve, .int 0, .int 0, .int 0, .int 0, .ref r_steps, .int 0, .ref r_stack, .int 0])), (r_left, .inr (2, [.ref x_c])), (x_c, .inl (cL, 9, .inr (.inr (.inr (.inr fc))))), (p0, .inr (6, [.ref dk, .ref y0, .int 0])), (p1, .inr (6, [.ref dk, .ref y1, .int 0])), (p2, .inr (6, [.ref dk, .ref y2, .int 0])), (p3, .inr (6, [.ref dk, .ref y3, .int 0])), (p4, .inr (6, [.ref dk, .ref y4, .int 0])), (p5, .inr (6, [.ref dk, .ref y5, .int 0])), (p6, .inr (6, [.ref dk, .ref y6, .int 0])), (p7, .inr (6, [.ref dk, .ref y7, .int 0])), (p8, .inr (6, [.ref dk, .ref y8, .int 0]))] s.heap := hP
  have hl := lv_entry ([.ref h0, .int n]) (n := 5) (Nat.le_of_ble_eq_true rfl)
  rw [lg_entry_eq]
  generalize (lg_sl ([.ref h0, .int n]) ++ List.replicate (5 - (lg_sl ([.ref h0, .int n])).length) Slot.unset).toArray = ls at hl ⊢
  have hl : lv_has ls 5 [(0, .ref h0), (1, .int n)] := hl
  refine lv_aload_n hx hb d_House_solve_0 rfl (lv_at hl 0 rfl) ?_
  refine lv_iload_n hx hb d_House_solve_1 rfl (lv_at hl 1 rfl) ?_
  have hPc := hP.sub (ws' := [(h0, .inr (11, [.ref x_desk, .ref x_reader, .ref x_cells, .ref x_tape, .int 0, .ref x_script, .int 0, .ref x_rootAt, .ref x_rootTimes, .int 0, .ref x_spotX, .ref x_spotY, .ref x_bond, .int 0, .ref x_end, .ref x_span, .int 0, .ref x_part, .ref x_partPower, .int 0, .ref x_kept]))]) [0] rfl
  have hDc := hD.sub (ws' := [(h0, .inr (11, [.ref x_desk, .ref x_reader, .ref x_cells, .ref x_tape, .int 0, .ref x_script, .int 0, .ref x_rootAt, .ref x_rootTimes, .int 0, .ref x_spotX, .ref x_spotY, .ref x_bond, .int 0, .ref x_end, .ref x_span, .int 0, .ref x_part, .ref x_partPower, .int 0, .ref x_kept]))]) [0] (by decide) rfl
  have hKc := hK.sub (tys' := []) [] rfl
  have hFc := va_free (wc := [(h0, .inr (11, [.ref x_desk, .ref x_reader, .ref x_cells, .ref x_tape, .int 0, .ref x_script, .int 0, .ref x_rootAt, .ref x_rootTimes, .int 0, .ref x_spotX, .ref x_spotY, .ref x_bond, .int 0, .ref x_end, .ref x_span, .int 0, .ref x_part, .ref x_partPower, .int 0, .ref x_kept]))]) hD hS hA [0] rfl
  refine va_calli (va_runV (As := [.int n]) (rest := []) ⟨hx, hb, hml, hown, hT⟩ (c_House_isNoLength_0 l dC dI s.heap.size h0 x_desk x_reader x_cells x_tape x_script x_rootAt x_rootTimes x_spotX x_spotY x_bond x_end x_span x_part x_partPower x_kept n ) (cwV 1 hT (tb_goodV g_House_isNoLength tw_695 tw_697 (tb_sel (q := (⟨"RealHouse", "isNoLength", "(I)Z"⟩, 21)) (i := 1) (by decide +kernel)) tw_1) rfl rfl rfl (by decide +kernel) ⟨Nat.le_of_ble_eq_true rfl, Nat.le_of_ble_eq_true rfl⟩) ⟨fun a U g mk q => by obtain ⟨q0, q1, qP, qK, qD, qN⟩ := q; exact ⟨q0, q1, qP, va_K.moved (u := U) (U := U.calling g mk a) (Vm.Alike.refl U.vm) qK, qD, nx_K.same (u := U) (U := U.calling g mk a) rfl qN⟩, va_recv hKc hPc (ci := 11) (q0 := 0) rfl rfl, fun U hU hW => ⟨rfl, by rw [hU], by rw [hU]; exact hPc, va_K.moved hW.alike hKc, hDc.weaken (fun _ _ _ _ => trivial), nx_K.warm hW hN⟩⟩ rfl rfl hl.1 rfl (lv_room (Nat.le_of_ble_eq_true rfl)) d_House_solve_2 ⟨Nat.le_of_ble_eq_true rfl, Nat.le_of_ble_eq_true rfl⟩) hS (fun q _ h => hFc q h) hFc (fun r_1 u t H1 locs ht hvm hw hB hz1 hk1 hS => ?_)
  obtain ⟨hP1, hK1, hD1⟩ := hB
  rw [ht] at hP1
  have hK1 := va_K.moved hvm.symm hK1
  have hr_1 := hw
  obtain ⟨hP, hD⟩ := va_join (wr := [(x_tape, .inl (cT, 400, .inl fT)), (x_reader, .inr (8, [.ref t0, .int 0, .int 0, .int ft, .int wx, .int wy, .int 0, .ref r_left, .ref r_right, .ref r_told, .ref r_curve, .int 0, .int 0, .int 0, .int 0, .ref r_steps, .int 0, .ref r_stack, .int 0])), (r_left, .inr (2, [.ref x_c])), (x_c, .inl (cL, 9, .inr (.inr (.inr (.inr fc))))), (p0, .inr (6, [.ref dk, .ref y0, .int 0])), (p1, .inr (6, [.ref dk, .ref y1, .int 0])), (p2, .inr (6, [.ref dk, .ref y2, .int 0])), (p3, .inr (6, [.ref dk, .ref y3, .int 0])), (p4, .inr (6, [.ref dk, .ref y4, .int 0])), (p5, .inr (6, [.ref dk, .ref y5, .int 0])), (p6, .inr (6, [.ref dk, .ref y6, .int 0])), (p7, .inr (6, [.ref dk, .ref y7, .int 0])), (p8, .inr (6, [.ref dk, .ref y8, .int 0]))]) (w1 := [(h0, .inr (11, [.ref x_desk, .ref x_reader, .ref x_cells, .ref x_tape, .int 0, .ref x_script, .int 0, .ref x_rootAt, .ref x_rootTimes, .int 0, .ref x_spotX, .ref x_spotY, .ref x_bond, .int 0, .ref x_end, .ref x_span, .int 0, .ref x_part, .ref x_partPower, .int 0, .ref x_kept]))]) hP hD [0] [1, 2, 3, 4, 5, 6, 7, 8, 9, 10, 11, 12, 13] rfl rfl (by decide) (by decide) hk1 hFc hP1 hD1
  have hK := (hK.sub (tys' := [(cT, .int), (cL, .object "RealHouse$Poly")]) [0, 1] rfl).app hK1
  generalize H1 = H at hP hS ⊢
  have hP : va_P (dC, dI) classes [(x_tape, .inl (cT, 400, .inl fT)), (x_reader, .inr (8, [.ref t0, .int 0, .int 0, .int ft, .int wx, .int wy, .int 0, .ref r_left, .ref r_right, .ref r_told, .ref r_curve, .int 0, .int 0, .int 0, .int 0, .ref r_steps, .int 0, .ref r_stack, .int 0])), (r_left, .inr (2, [.ref x_c])), (x_c, .inl (cL, 9, .inr (.inr (.inr (.inr fc))))), (p0, .inr (6, [.ref dk, .ref y0, .int 0])), (p1, .inr (6, [.ref dk, .ref y1, .int 0])), (p2, .inr (6, [.ref dk, .ref y2, .int 0])), (p3, .inr (6, [.ref dk, .ref y3, .int 0])), (p4, .inr (6, [.ref dk, .ref y4, .int 0])), (p5, .inr (6, [.ref dk, .ref y5, .int 0])), (p6, .inr (6, [.ref dk, .ref y6, .int 0])), (p7, .inr (6, [.ref dk, .ref y7, .int 0])), (p8, .inr (6, [.ref dk, .ref y8, .int 0])), (h0, .inr (11, [.ref x_desk, .ref x_reader, .ref x_cells, .ref x_tape, .int 0, .ref x_script, .int 0, .ref x_rootAt, .ref x_rootTimes, .int 0, .ref x_spotX, .ref x_spotY, .ref x_bond, .int 0, .ref x_end, .ref x_span, .int 0, .ref x_part, .ref x_partPower, .int 0, .ref x_kept]))] H := hP
  have hD : va_D A [(x_tape, .inl (cT, 400, .inl fT)), (x_reader, .inr (8, [.ref t0, .int 0, .int 0, .int ft, .int wx, .int wy, .int 0, .ref r_left, .ref r_right, .ref r_told, .ref r_curve, .int 0, .int 0, .int 0, .int 0, .ref r_steps, .int 0, .ref r_stack, .int 0])), (r_left, .inr (2, [.ref x_c])), (x_c, .inl (cL, 9, .inr (.inr (.inr (.inr fc))))), (p0, .inr (6, [.ref dk, .ref y0, .int 0])), (p1, .inr (6, [.ref dk, .ref y1, .int 0])), (p2, .inr (6, [.ref dk, .ref y2, .int 0])), (p3, .inr (6, [.ref dk, .ref y3, .int 0])), (p4, .inr (6, [.ref dk, .ref y4, .int 0])), (p5, .inr (6, [.ref dk, .ref y5, .int 0])), (p6, .inr (6, [.ref dk, .ref y6, .int 0])), (p7, .inr (6, [.ref dk, .ref y7, .int 0])), (p8, .inr (6, [.ref dk, .ref y8, .int 0])), (h0, .inr (11, [.ref x_desk, .ref x_reader, .ref x_cells, .ref x_tape, .int 0, .ref x_script, .int 0, .ref x_rootAt, .ref x_rootTimes, .int 0, .ref x_spotX, .ref x_spotY, .ref x_bond, .int 0, .ref x_end, .ref x_span, .int 0, .ref x_part, .ref x_partPower, .int 0, .ref x_kept]))] := hD
  have hK : va_K (dC, dI) classes [(cT, .int), (cL, .object "RealHouse$Poly")] s := hK
  refine lv_if_eq (tgt := 10) hx hb d_House_solve_5 (by decide) (fun c_2 => ?_) (fun c_2 => ?_)
  · have hn0 : n = 0 := by
      rcases Decidable.em (n = 0) with h | h
      · exact h
      · rw [if_neg h] at hr_1; rw [hr_1] at c_2; exact absurd c_2 (by decide)
    subst hn0
    refine lv_aload_n hx hb d_House_solve_10 rfl (lv_at hl 0 rfl) ?_
    refine va_get (D := (dC, dI)) (ci := 11) (v := .ref x_reader) (C := R_House) (T := F_House) (N := 21) hx hb hT i_House hown hK hP 13 rfl rfl 1 (by decide) (hT _ tw_616) (fun _ h9 => h9) rfl d_House_solve_11 ?_
    refine lv_aload_n hx hb d_House_solve_14 rfl (lv_at hl 0 rfl) ?_
    refine va_get (D := (dC, dI)) (ci := 11) (v := .ref x_tape) (C := R_House) (T := F_House) (N := 21) hx hb hT i_House hown hK hP 13 rfl rfl 3 (by decide) (hT _ tw_618) (fun _ h9 => h9) rfl d_House_solve_15 ?_
    refine lv_iload_n hx hb d_House_solve_18 rfl (lv_at hl 1 rfl) ?_
    refine lv_iconst (v := 1) hx hb d_House_solve_19 (by decide) ?_
    refine lv_iconst (v := 0) hx hb d_House_solve_20 (by decide) ?_
    have hPc := hP.sub (ws' := [(x_reader, .inr (8, [.ref t0, .int 0, .int 0, .int ft, .int wx, .int wy, .int 0, .ref r_left, .ref r_right, .ref r_told, .ref r_curve, .int 0, .int 0, .int 0, .int 0, .ref r_steps, .int 0, .ref r_stack, .int 0])), (x_tape, .inl (cT, 400, .inl fT))]) [1, 0] rfl
    have hDc := hD.sub (ws' := [(x_reader, .inr (8, [.ref t0, .int 0, .int 0, .int ft, .int wx, .int wy, .int 0, .ref r_left, .ref r_right, .ref r_told, .ref r_curve, .int 0, .int 0, .int 0, .int 0, .ref r_steps, .int 0, .ref r_stack, .int 0])), (x_tape, .inl (cT, 400, .inl fT))]) [1, 0] (by decide) rfl
    have hKc := hK.sub (tys' := [(cT, .int)]) [0] rfl
    have hFc := va_free (wc := [(x_reader, .inr (8, [.ref t0, .int 0, .int 0, .int ft, .int wx, .int wy, .int 0, .ref r_left, .ref r_right, .ref r_told, .ref r_curve, .int 0, .int 0, .int 0, .int 0, .ref r_steps, .int 0, .ref r_stack, .int 0])), (x_tape, .inl (cT, 400, .inl fT))]) hD hS hA [1, 0] rfl
    refine va_callv (va_runV (As := [.ref x_tape, .int 0, .int 1, .int 0]) (rest := []) ⟨hx, hb, hml, hown, hT⟩ (c_Reader_begin_10 l dC dI H.size x_reader x_tape r_left r_right r_told r_curve r_steps r_stack t0 ft wx wy cT fT ) (cwV 4 hT (tb_goodV g_Reader_begin tw_699 tw_700 tw_701 tw_6) rfl rfl rfl (by decide +kernel) ⟨Nat.le_of_ble_eq_true rfl, Nat.le_of_ble_eq_true rfl⟩) ⟨fun a U g mk q => by obtain ⟨q0, q1, qP, qK, qD, qN⟩ := q; exact ⟨q0, q1, qP, va_K.moved (u := U) (U := U.calling g mk a) (Vm.Alike.refl U.vm) qK, qD, nx_K.same (u := U) (U := U.calling g mk a) rfl qN⟩, va_recv hKc hPc (ci := 8) (q0 := 0) rfl rfl, fun U hU hW => ⟨rfl, by rw [hU], by rw [hU]; exact hPc, va_K.moved hW.alike hKc, hDc.weaken (fun _ _ _ _ => trivial), nx_K.warm hW hN⟩⟩ rfl rfl hl.1 rfl (lv_room (Nat.le_of_ble_eq_true rfl)) d_House_solve_21 ⟨Nat.le_of_ble_eq_true rfl, Nat.le_of_ble_eq_true rfl⟩) hS (fun q _ h => hFc q h) hFc (fun u t H1 locs ht hvm hw hB hz1 hk1 hS => ?_)
    obtain ⟨hP1, hK1, hD1⟩ := hB
    rw [ht] at hP1
    have hK1 := va_K.moved hvm.symm hK1
    obtain ⟨hP, hD⟩ := va_join (wr := [(r_left, .inr (2, [.ref x_c])), (x_c, .inl (cL, 9, .inr (.inr (.inr (.inr fc))))), (p0, .inr (6, [.ref dk, .ref y0, .int 0])), (p1, .inr (6, [.ref dk, .ref y1, .int 0])), (p2, .inr (6, [.ref dk, .ref y2, .int 0])), (p3, .inr (6, [.ref dk, .ref y3, .int 0])), (p4, .inr (6, [.ref dk, .ref y4, .int 0])), (p5, .inr (6, [.ref dk, .ref y5, .int 0])), (p6, .inr (6, [.ref dk, .ref y6, .int 0])), (p7, .inr (6, [.ref dk, .ref y7, .int 0])), (p8, .inr (6, [.ref dk, .ref y8, .int 0])), (h0, .inr (11, [.ref x_desk, .ref x_reader, .ref x_cells, .ref x_tape, .int 0, .ref x_script, .int 0, .ref x_rootAt, .ref x_rootTimes, .int 0, .ref x_spotX, .ref x_spotY, .ref x_bond, .int 0, .ref x_end, .ref x_span, .int 0, .ref x_part, .ref x_partPower, .int 0, .ref x_kept]))]) (w1 := [(x_reader, .inr (8, [.ref x_tape, .int 0, .int 0, .int (-1), .int 1, .int 0, .int 0, .ref r_left, .ref r_right, .ref r_told, .ref r_curve, .int 0, .int 0, .int 0, .int 0, .ref r_steps, .int 0, .ref r_stack, .int 0])), (x_tape, .inl (cT, 400, .inl fT))]) hP hD [1, 0] [2, 3, 4, 5, 6, 7, 8, 9, 10, 11, 12, 13] rfl rfl (by decide) (by decide) hk1 hFc hP1 hD1
    have hK := (hK.sub (tys' := [(cL, .object "RealHouse$Poly")]) [1] rfl).app hK1
    generalize H1 = H at hP hS ⊢
    have hP : va_P (dC, dI) classes [(r_left, .inr (2, [.ref x_c])), (x_c, .inl (cL, 9, .inr (.inr (.inr (.inr fc))))), (p0, .inr (6, [.ref dk, .ref y0, .int 0])), (p1, .inr (6, [.ref dk, .ref y1, .int 0])), (p2, .inr (6, [.ref dk, .ref y2, .int 0])), (p3, .inr (6, [.ref dk, .ref y3, .int 0])), (p4, .inr (6, [.ref dk, .ref y4, .int 0])), (p5, .inr (6, [.ref dk, .ref y5, .int 0])), (p6, .inr (6, [.ref dk, .ref y6, .int 0])), (p7, .inr (6, [.ref dk, .ref y7, .int 0])), (p8, .inr (6, [.ref dk, .ref y8, .int 0])), (h0, .inr (11, [.ref x_desk, .ref x_reader, .ref x_cells, .ref x_tape, .int 0, .ref x_script, .int 0, .ref x_rootAt, .ref x_rootTimes, .int 0, .ref x_spotX, .ref x_spotY, .ref x_bond, .int 0, .ref x_end, .ref x_span, .int 0, .ref x_part, .ref x_partPower, .int 0, .ref x_kept])), (x_reader, .inr (8, [.ref x_tape, .int 0, .int 0, .int (-1), .int 1, .int 0, .int 0, .ref r_left, .ref r_right, .ref r_told, .ref r_curve, .int 0, .int 0, .int 0, .int 0, .ref r_steps, .int 0, .ref r_stack, .int 0])), (x_tape, .inl (cT, 400, .inl fT))] H := hP
    have hD : va_D A [(r_left, .inr (2, [.ref x_c])), (x_c, .inl (cL, 9, .inr (.inr (.inr (.inr fc))))), (p0, .inr (6, [.ref dk, .ref y0, .int 0])), (p1, .inr (6, [.ref dk, .ref y1, .int 0])), (p2, .inr (6, [.ref dk, .ref y2, .int 0])), (p3, .inr (6, [.ref dk, .ref y3, .int 0])), (p4, .inr (6, [.ref dk, .ref y4, .int 0])), (p5, .inr (6, [.ref dk, .ref y5, .int 0])), (p6, .inr (6, [.ref dk, .ref y6, .int 0])), (p7, .inr (6, [.ref dk, .ref y7, .int 0])), (p8, .inr (6, [.ref dk, .ref y8, .int 0])), (h0, .inr (11, [.ref x_desk, .ref x_reader, .ref x_cells, .ref x_tape, .int 0, .ref x_script, .int 0, .ref x_rootAt, .ref x_rootTimes, .int 0, .ref x_spotX, .ref x_spotY, .ref x_bond, .int 0, .ref x_end, .ref x_span, .int 0, .ref x_part, .ref x_partPower, .int 0, .ref x_kept])), (x_reader, .inr (8, [.ref x_tape, .int 0, .int 0, .int (-1), .int 1, .int 0, .int 0, .ref r_left, .ref r_right, .ref r_told, .ref r_curve, .int 0, .int 0, .int 0, .int 0, .ref r_steps, .int 0, .ref r_stack, .int 0])), (x_tape, .inl (cT, 400, .inl fT))] := hD
    have hK : va_K (dC, dI) classes [(cL, .object "RealHouse$Poly"), (cT, .int)] s := hK
    refine lv_aload_n hx hb d_House_solve_24 rfl (lv_at hl 0 rfl) ?_
    refine va_get (D := (dC, dI)) (ci := 11) (v := .ref x_reader) (C := R_House) (T := F_House) (N := 21) hx hb hT i_House hown hK hP 11 rfl rfl 1 (by decide) (hT _ tw_616) (fun _ h9 => h9) rfl d_House_solve_25 ?_
    have hPc := hP.sub (ws' := [(x_reader, .inr (8, [.ref x_tape, .int 0, .int 0, .int (-1), .int 1, .int 0, .int 0, .ref r_left, .ref r_right, .ref r_told, .ref r_curve, .int 0, .int 0, .int 0, .int 0, .ref r_steps, .int 0, .ref r_stack, .int 0]))]) [12] rfl
    have hDc := hD.sub (ws' := [(x_reader, .inr (8, [.ref x_tape, .int 0, .int 0, .int (-1), .int 1, .int 0, .int 0, .ref r_left, .ref r_right, .ref r_told, .ref r_curve, .int 0, .int 0, .int 0, .int 0, .ref r_steps, .int 0, .ref r_stack, .int 0]))]) [12] (by decide) rfl
    have hKc := hK.sub (tys' := []) [] rfl
    have hFc := va_free (wc := [(x_reader, .inr (8, [.ref x_tape, .int 0, .int 0, .int (-1), .int 1, .int 0, .int 0, .ref r_left, .ref r_right, .ref r_told, .ref r_curve, .int 0, .int 0, .int 0, .int 0, .ref r_steps, .int 0, .ref r_stack, .int 0]))]) hD hS hA [12] rfl
    refine va_callv (va_runV (As := []) (rest := []) ⟨hx, hb, hml, hown, hT⟩ (c_Reader_readOverY_0 l dC dI H.size x_reader x_tape r_left r_right r_told r_curve r_steps r_stack (-1) 1 0 ) (cwV 0 hT (tb_goodV g_Reader_readOverY tw_1512 tw_1513 tw_1514 tw_6) rfl rfl rfl (by decide +kernel) ⟨Nat.le_of_ble_eq_true rfl, Nat.le_of_ble_eq_true rfl⟩) ⟨fun a U g mk q => by obtain ⟨q0, q1, qP, qK, qD, qN⟩ := q; exact ⟨q0, q1, qP, va_K.moved (u := U) (U := U.calling g mk a) (Vm.Alike.refl U.vm) qK, qD, nx_K.same (u := U) (U := U.calling g mk a) rfl qN⟩, va_recv hKc hPc (ci := 8) (q0 := 0) rfl rfl, fun U hU hW => ⟨rfl, by rw [hU], by rw [hU]; exact hPc, va_K.moved hW.alike hKc, hDc.weaken (fun _ _ _ _ => trivial), nx_K.warm hW hN⟩⟩ rfl rfl hl.1 rfl (lv_room (Nat.le_of_ble_eq_true rfl)) d_House_solve_28 ⟨Nat.le_of_ble_eq_true rfl, Nat.le_of_ble_eq_true rfl⟩) hS (fun q _ h => hFc q h) hFc (fun u t H1 locs ht hvm hw hB hz1 hk1 hS => ?_)
    obtain ⟨hP1, hK1, hD1⟩ := hB
    rw [ht] at hP1
    have hK1 := va_K.moved hvm.symm hK1
    obtain ⟨hP, hD⟩ := va_join (wr := [(r_left, .inr (2, [.ref x_c])), (x_c, .inl (cL, 9, .inr (.inr (.inr (.inr fc))))), (p0, .inr (6, [.ref dk, .ref y0, .int 0])), (p1, .inr (6, [.ref dk, .ref y1, .int 0])), (p2, .inr (6, [.ref dk, .ref y2, .int 0])), (p3, .inr (6, [.ref dk, .ref y3, .int 0])), (p4, .inr (6, [.ref dk, .ref y4, .int 0])), (p5, .inr (6, [.ref dk, .ref y5, .int 0])), (p6, .inr (6, [.ref dk, .ref y6, .int 0])), (p7, .inr (6, [.ref dk, .ref y7, .int 0])), (p8, .inr (6, [.ref dk, .ref y8, .int 0])), (h0, .inr (11, [.ref x_desk, .ref x_reader, .ref x_cells, .ref x_tape, .int 0, .ref x_script, .int 0, .ref x_rootAt, .ref x_rootTimes, .int 0, .ref x_spotX, .ref x_spotY, .ref x_bond, .int 0, .ref x_end, .ref x_span, .int 0, .ref x_part, .ref x_partPower, .int 0, .ref x_kept])), (x_tape, .inl (cT, 400, .inl fT))]) (w1 := [(x_reader, .inr (8, [.ref x_tape, .int 0, .int 0, .int (-1), .int 1, .int 0, .int 0, .ref r_left, .ref r_right, .ref r_told, .ref r_curve, .int 0, .int 0, .int 0, .int 0, .ref r_steps, .int 0, .ref r_stack, .int 0]))]) hP hD [12] [0, 1, 2, 3, 4, 5, 6, 7, 8, 9, 10, 11, 13] rfl rfl (by decide) (by decide) hk1 hFc hP1 hD1
    have hK := (hK.sub (tys' := [(cL, .object "RealHouse$Poly"), (cT, .int)]) [0, 1] rfl).app hK1
    generalize H1 = H at hP hS ⊢
    have hP : va_P (dC, dI) classes [(r_left, .inr (2, [.ref x_c])), (x_c, .inl (cL, 9, .inr (.inr (.inr (.inr fc))))), (p0, .inr (6, [.ref dk, .ref y0, .int 0])), (p1, .inr (6, [.ref dk, .ref y1, .int 0])), (p2, .inr (6, [.ref dk, .ref y2, .int 0])), (p3, .inr (6, [.ref dk, .ref y3, .int 0])), (p4, .inr (6, [.ref dk, .ref y4, .int 0])), (p5, .inr (6, [.ref dk, .ref y5, .int 0])), (p6, .inr (6, [.ref dk, .ref y6, .int 0])), (p7, .inr (6, [.ref dk, .ref y7, .int 0])), (p8, .inr (6, [.ref dk, .ref y8, .int 0])), (h0, .inr (11, [.ref x_desk, .ref x_reader, .ref x_cells, .ref x_tape, .int 0, .ref x_script, .int 0, .ref x_rootAt, .ref x_rootTimes, .int 0, .ref x_spotX, .ref x_spotY, .ref x_bond, .int 0, .ref x_end, .ref x_span, .int 0, .ref x_part, .ref x_partPower, .int 0, .ref x_kept])), (x_tape, .inl (cT, 400, .inl fT)), (x_reader, .inr (8, [.ref x_tape, .int 0, .int 0, .int (-1), .int 1, .int 0, .int 0, .ref r_left, .ref r_right, .ref r_told, .ref r_curve, .int 0, .int 0, .int 0, .int 0, .ref r_steps, .int 0, .ref r_stack, .int 0]))] H := hP
    have hD : va_D A [(r_left, .inr (2, [.ref x_c])), (x_c, .inl (cL, 9, .inr (.inr (.inr (.inr fc))))), (p0, .inr (6, [.ref dk, .ref y0, .int 0])), (p1, .inr (6, [.ref dk, .ref y1, .int 0])), (p2, .inr (6, [.ref dk, .ref y2, .int 0])), (p3, .inr (6, [.ref dk, .ref y3, .int 0])), (p4, .inr (6, [.ref dk, .ref y4, .int 0])), (p5, .inr (6, [.ref dk, .ref y5, .int 0])), (p6, .inr (6, [.ref dk, .ref y6, .int 0])), (p7, .inr (6, [.ref dk, .ref y7, .int 0])), (p8, .inr (6, [.ref dk, .ref y8, .int 0])), (h0, .inr (11, [.ref x_desk, .ref x_reader, .ref x_cells, .ref x_tape, .int 0, .ref x_script, .int 0, .ref x_rootAt, .ref x_rootTimes, .int 0, .ref x_spotX, .ref x_spotY, .ref x_bond, .int 0, .ref x_end, .ref x_span, .int 0, .ref x_part, .ref x_partPower, .int 0, .ref x_kept])), (x_tape, .inl (cT, 400, .inl fT)), (x_reader, .inr (8, [.ref x_tape, .int 0, .int 0, .int (-1), .int 1, .int 0, .int 0, .ref r_left, .ref r_right, .ref r_told, .ref r_curve, .int 0, .int 0, .int 0, .int 0, .ref r_steps, .int 0, .ref r_stack, .int 0]))] := hD
    have hK : va_K (dC, dI) classes [(cL, .object "RealHouse$Poly"), (cT, .int)] s := hK
    refine lv_aload_n hx hb d_House_solve_31 rfl (lv_at hl 0 rfl) ?_
    refine va_get (D := (dC, dI)) (ci := 11) (v := .ref x_reader) (C := R_House) (T := F_House) (N := 21) hx hb hT i_House hown hK hP 11 rfl rfl 1 (by decide) (hT _ tw_616) (fun _ h9 => h9) rfl d_House_solve_32 ?_
    have hPc := hP.sub (ws' := [(x_reader, .inr (8, [.ref x_tape, .int 0, .int 0, .int (-1), .int 1, .int 0, .int 0, .ref r_left, .ref r_right, .ref r_told, .ref r_curve, .int 0, .int 0, .int 0, .int 0, .ref r_steps, .int 0, .ref r_stack, .int 0])), (r_left, .inr (2, [.ref x_c])), (x_c, .inl (cL, 9, .inr (.inr (.inr (.inr fc))))), (p0, .inr (6, [.ref dk, .ref y0, .int 0])), (p1, .inr (6, [.ref dk, .ref y1, .int 0])), (p2, .inr (6, [.ref dk, .ref y2, .int 0])), (p3, .inr (6, [.ref dk, .ref y3, .int 0])), (p4, .inr (6, [.ref dk, .ref y4, .int 0])), (p5, .inr (6, [.ref dk, .ref y5, .int 0])), (p6, .inr (6, [.ref dk, .ref y6, .int 0])), (p7, .inr (6, [.ref dk, .ref y7, .int 0])), (p8, .inr (6, [.ref dk, .ref y8, .int 0]))]) [13, 0, 1, 2, 3, 4, 5, 6, 7, 8, 9, 10] rfl
    have hDc := hD.sub (ws' := [(x_reader, .inr (8, [.ref x_tape, .int 0, .int 0, .int (-1), .int 1, .int 0, .int 0, .ref r_left, .ref r_right, .ref r_told, .ref r_curve, .int 0, .int 0, .int 0, .int 0, .ref r_steps, .int 0, .ref r_stack, .int 0])), (r_left, .inr (2, [.ref x_c])), (x_c, .inl (cL, 9, .inr (.inr (.inr (.inr fc))))), (p0, .inr (6, [.ref dk, .ref y0, .int 0])), (p1, .inr (6, [.ref dk, .ref y1, .int 0])), (p2, .inr (6, [.ref dk, .ref y2, .int 0])), (p3, .inr (6, [.ref dk, .ref y3, .int 0])), (p4, .inr (6, [.ref dk, .ref y4, .int 0])), (p5, .inr (6, [.ref dk, .ref y5, .int 0])), (p6, .inr (6, [.ref dk, .ref y6, .int 0])), (p7, .inr (6, [.ref dk, .ref y7, .int 0])), (p8, .inr (6, [.ref dk, .ref y8, .int 0]))]) [13, 0, 1, 2, 3, 4, 5, 6, 7, 8, 9, 10] (by decide) rfl
    have hKc := hK.sub (tys' := [(cL, .object "RealHouse$Poly")]) [0] rfl
    have hFc := va_free (wc := [(x_reader, .inr (8, [.ref x_tape, .int 0, .int 0, .int (-1), .int 1, .int 0, .int 0, .ref r_left, .ref r_right, .ref r_told, .ref r_curve, .int 0, .int 0, .int 0, .int 0, .ref r_steps, .int 0, .ref r_stack, .int 0])), (r_left, .inr (2, [.ref x_c])), (x_c, .inl (cL, 9, .inr (.inr (.inr (.inr fc))))), (p0, .inr (6, [.ref dk, .ref y0, .int 0])), (p1, .inr (6, [.ref dk, .ref y1, .int 0])), (p2, .inr (6, [.ref dk, .ref y2, .int 0])), (p3, .inr (6, [.ref dk, .ref y3, .int 0])), (p4, .inr (6, [.ref dk, .ref y4, .int 0])), (p5, .inr (6, [.ref dk, .ref y5, .int 0])), (p6, .inr (6, [.ref dk, .ref y6, .int 0])), (p7, .inr (6, [.ref dk, .ref y7, .int 0])), (p8, .inr (6, [.ref dk, .ref y8, .int 0]))]) hD hS hA [13, 0, 1, 2, 3, 4, 5, 6, 7, 8, 9, 10] rfl
    refine va_callv (va_runV (As := []) (rest := []) ⟨hx, hb, hml, hown, hT⟩ (c_Reader_readFormula_0 l dC dI H.size x_reader x_tape r_left r_right r_told r_curve r_steps r_stack 1 0 x_c cL fc dk p0 p1 p2 p3 p4 p5 p6 p7 p8 y0 y1 y2 y3 y4 y5 y6 y7 y8 hF) (cwV 0 hT (tb_goodV g_Reader_readFormula tw_1395 tw_1396 tw_1397 tw_6) rfl rfl rfl (by decide +kernel) ⟨Nat.le_of_ble_eq_true rfl, Nat.le_of_ble_eq_true rfl⟩) ⟨fun a U g mk q => by obtain ⟨q0, q1, qP, qK, qD, qN⟩ := q; exact ⟨q0, q1, qP, va_K.moved (u := U) (U := U.calling g mk a) (Vm.Alike.refl U.vm) qK, qD, nx_K.same (u := U) (U := U.calling g mk a) rfl qN⟩, va_recv hKc hPc (ci := 8) (q0 := 0) rfl rfl, fun U hU hW => ⟨rfl, by rw [hU], by rw [hU]; exact hPc, va_K.moved hW.alike hKc, hDc.weaken (fun _ _ _ _ => trivial), nx_K.warm hW hN⟩⟩ rfl rfl hl.1 rfl (lv_room (Nat.le_of_ble_eq_true rfl)) d_House_solve_35 ⟨Nat.le_of_ble_eq_true rfl, Nat.le_of_ble_eq_true rfl⟩) hS (fun q _ h => hFc q h) hFc (fun u t H1 locs ht hvm hw hB hz1 hk1 hS => ?_)
    obtain ⟨hP1, hK1, hD1⟩ := hB
    rw [ht] at hP1
    have hK1 := va_K.moved hvm.symm hK1
    obtain ⟨hP, hD⟩ := va_join (wr := [(h0, .inr (11, [.ref x_desk, .ref x_reader, .ref x_cells, .ref x_tape, .int 0, .ref x_script, .int 0, .ref x_rootAt, .ref x_rootTimes, .int 0, .ref x_spotX, .ref x_spotY, .ref x_bond, .int 0, .ref x_end, .ref x_span, .int 0, .ref x_part, .ref x_partPower, .int 0, .ref x_kept])), (x_tape, .inl (cT, 400, .inl fT))]) (w1 := [(x_reader, .inr (8, [.ref x_tape, .int 0, .int 0, .int 0, .int 1, .int 0, .int 0, .ref r_left, .ref r_right, .ref r_told, .ref r_curve, .int 0, .int 0, .int 0, .int 0, .ref r_steps, .int 0, .ref r_stack, .int 0])), (r_left, .inr (2, [.ref x_c])), (x_c, .inl (cL, 9, .inr (.inr (.inr (.inr fc))))), (p0, .inr (6, [.ref dk, .ref y0, .int 0])), (p1, .inr (6, [.ref dk, .ref y1, .int 0])), (p2, .inr (6, [.ref dk, .ref y2, .int 0])), (p3, .inr (6, [.ref dk, .ref y3, .int 0])), (p4, .inr (6, [.ref dk, .ref y4, .int 0])), (p5, .inr (6, [.ref dk, .ref y5, .int 0])), (p6, .inr (6, [.ref dk, .ref y6, .int 0])), (p7, .inr (6, [.ref dk, .ref y7, .int 0])), (p8, .inr (6, [.ref dk, .ref y8, .int 0]))]) hP hD [13, 0, 1, 2, 3, 4, 5, 6, 7, 8, 9, 10] [11, 12] rfl rfl (by decide) (by decide) hk1 hFc hP1 hD1
    have hK := (hK.sub (tys' := [(cT, .int)]) [1] rfl).app hK1
    generalize H1 = H at hP hS ⊢
    have hP : va_P (dC, dI) classes [(h0, .inr (11, [.ref x_desk, .ref x_reader, .ref x_cells, .ref x_tape, .int 0, .ref x_script, .int 0, .ref x_rootAt, .ref x_rootTimes, .int 0, .ref x_spotX, .ref x_spotY, .ref x_bond, .int 0, .ref x_end, .ref x_span, .int 0, .ref x_part, .ref x_partPower, .int 0, .ref x_kept])), (x_tape, .inl (cT, 400, .inl fT)), (x_reader, .inr (8, [.ref x_tape, .int 0, .int 0, .int 0, .int 1, .int 0, .int 0, .ref r_left, .ref r_right, .ref r_told, .ref r_curve, .int 0, .int 0, .int 0, .int 0, .ref r_steps, .int 0, .ref r_stack, .int 0])), (r_left, .inr (2, [.ref x_c])), (x_c, .inl (cL, 9, .inr (.inr (.inr (.inr fc))))), (p0, .inr (6, [.ref dk, .ref y0, .int 0])), (p1, .inr (6, [.ref dk, .ref y1, .int 0])), (p2, .inr (6, [.ref dk, .ref y2, .int 0])), (p3, .inr (6, [.ref dk, .ref y3, .int 0])), (p4, .inr (6, [.ref dk, .ref y4, .int 0])), (p5, .inr (6, [.ref dk, .ref y5, .int 0])), (p6, .inr (6, [.ref dk, .ref y6, .int 0])), (p7, .inr (6, [.ref dk, .ref y7, .int 0])), (p8, .inr (6, [.ref dk, .ref y8, .int 0]))] H := hP
    have hD : va_D A [(h0, .inr (11, [.ref x_desk, .ref x_reader, .ref x_cells, .ref x_tape, .int 0, .ref x_script, .int 0, .ref x_rootAt, .ref x_rootTimes, .int 0, .ref x_spotX, .ref x_spotY, .ref x_bond, .int 0, .ref x_end, .ref x_span, .int 0, .ref x_part, .ref x_partPower, .int 0, .ref x_kept])), (x_tape, .inl (cT, 400, .inl fT)), (x_reader, .inr (8, [.ref x_tape, .int 0, .int 0, .int 0, .int 1, .int 0, .int 0, .ref r_left, .ref r_right, .ref r_told, .ref r_curve, .int 0, .int 0, .int 0, .int 0, .ref r_steps, .int 0, .ref r_stack, .int 0])), (r_left, .inr (2, [.ref x_c])), (x_c, .inl (cL, 9, .inr (.inr (.inr (.inr fc))))), (p0, .inr (6, [.ref dk, .ref y0, .int 0])), (p1, .inr (6, [.ref dk, .ref y1, .int 0])), (p2, .inr (6, [.ref dk, .ref y2, .int 0])), (p3, .inr (6, [.ref dk, .ref y3, .int 0])), (p4, .inr (6, [.ref dk, .ref y4, .int 0])), (p5, .inr (6, [.ref dk, .ref y5, .int 0])), (p6, .inr (6, [.ref dk, .ref y6, .int 0])), (p7, .inr (6, [.ref dk, .ref y7, .int 0])), (p8, .inr (6, [.ref dk, .ref y8, .int 0]))] := hD
    have hK : va_K (dC, dI) classes [(cT, .int), (cL, .object "RealHouse$Poly")] s := hK
    refine lv_aload_n hx hb d_House_solve_38 rfl (lv_at hl 0 rfl) ?_
    refine va_get (D := (dC, dI)) (ci := 11) (v := .ref x_reader) (C := R_House) (T := F_House) (N := 21) hx hb hT i_House hown hK hP 0 rfl rfl 1 (by decide) (hT _ tw_616) (fun _ h9 => h9) rfl d_House_solve_39 ?_
    refine va_get (D := (dC, dI)) (ci := 8) (v := .int 0) (C := R_Reader) (T := F_Reader) (N := 19) hx hb hT i_Reader hown hK hP 2 rfl rfl 3 (by decide) (hT _ tw_237) (fun _ h9 => h9) rfl d_House_solve_42 ?_
    refine lv_if_lt (tgt := 53) hx hb d_House_solve_45 (by decide) (fun c_3 => absurd c_3 (by decide)) (fun c_3 => ?_)
    refine lv_aload_n hx hb d_House_solve_48 rfl (lv_at hl 0 rfl) ?_
    have hPc := hP.sub (ws' := [(h0, .inr (11, [.ref x_desk, .ref x_reader, .ref x_cells, .ref x_tape, .int 0, .ref x_script, .int 0, .ref x_rootAt, .ref x_rootTimes, .int 0, .ref x_spotX, .ref x_spotY, .ref x_bond, .int 0, .ref x_end, .ref x_span, .int 0, .ref x_part, .ref x_partPower, .int 0, .ref x_kept])), (x_reader, .inr (8, [.ref x_tape, .int 0, .int 0, .int 0, .int 1, .int 0, .int 0, .ref r_left, .ref r_right, .ref r_told, .ref r_curve, .int 0, .int 0, .int 0, .int 0, .ref r_steps, .int 0, .ref r_stack, .int 0]))]) [0, 2] rfl
    have hDc := hD.sub (ws' := [(h0, .inr (11, [.ref x_desk, .ref x_reader, .ref x_cells, .ref x_tape, .int 0, .ref x_script, .int 0, .ref x_rootAt, .ref x_rootTimes, .int 0, .ref x_spotX, .ref x_spotY, .ref x_bond, .int 0, .ref x_end, .ref x_span, .int 0, .ref x_part, .ref x_partPower, .int 0, .ref x_kept])), (x_reader, .inr (8, [.ref x_tape, .int 0, .int 0, .int 0, .int 1, .int 0, .int 0, .ref r_left, .ref r_right, .ref r_told, .ref r_curve, .int 0, .int 0, .int 0, .int 0, .ref r_steps, .int 0, .ref r_stack, .int 0]))]) [0, 2] (by decide) rfl
    have hKc := hK.sub (tys' := []) [] rfl
    have hFc := va_free (wc := [(h0, .inr (11, [.ref x_desk, .ref x_reader, .ref x_cells, .ref x_tape, .int 0, .ref x_script, .int 0, .ref x_rootAt, .ref x_rootTimes, .int 0, .ref x_spotX, .ref x_spotY, .ref x_bond, .int 0, .ref x_end, .ref x_span, .int 0, .ref x_part, .ref x_partPower, .int 0, .ref x_kept])), (x_reader, .inr (8, [.ref x_tape, .int 0, .int 0, .int 0, .int 1, .int 0, .int 0, .ref r_left, .ref r_right, .ref r_told, .ref r_curve, .int 0, .int 0, .int 0, .int 0, .ref r_steps, .int 0, .ref r_stack, .int 0]))]) hD hS hA [0, 2] rfl
    refine va_calli (va_runV (As := []) (rest := []) ⟨hx, hb, hml, hown, hT⟩ (c_House_faulty_0 l dC dI H.size h0 x_desk x_reader x_cells x_tape x_script x_rootAt x_rootTimes x_spotX x_spotY x_bond x_end x_span x_part x_partPower x_kept r_left r_right r_told r_curve r_steps r_stack x_tape 1 0 ) (cwV 0 hT (tb_goodV g_House_faulty tw_766 tw_768 (tb_sel (q := (⟨"RealHouse", "faulty", "()I"⟩, 21)) (i := 9) (by decide +kernel)) tw_1) rfl rfl rfl (by decide +kernel) ⟨Nat.le_of_ble_eq_true rfl, Nat.le_of_ble_eq_true rfl⟩) ⟨fun a U g mk q => by obtain ⟨q0, q1, qP, qK, qD, qN⟩ := q; exact ⟨q0, q1, qP, va_K.moved (u := U) (U := U.calling g mk a) (Vm.Alike.refl U.vm) qK, qD, nx_K.same (u := U) (U := U.calling g mk a) rfl qN⟩, va_recv hKc hPc (ci := 11) (q0 := 0) rfl rfl, fun U hU hW => ⟨rfl, by rw [hU], by rw [hU]; exact hPc, va_K.moved hW.alike hKc, hDc.weaken (fun _ _ _ _ => trivial), nx_K.warm hW hN⟩⟩ rfl rfl hl.1 rfl (lv_room (Nat.le_of_ble_eq_true rfl)) d_House_solve_49 ⟨Nat.le_of_ble_eq_true rfl, Nat.le_of_ble_eq_true rfl⟩) hS (fun q _ h => hFc q h) hFc (fun r_4 u t H1 locs ht hvm hw hB hz1 hk1 hS => ?_)
    obtain ⟨hP1, hK1, hD1⟩ := hB
    rw [ht] at hP1
    have hK1 := va_K.moved hvm.symm hK1
    obtain rfl : r_4 = (-2) := hw
    obtain ⟨hP, hD⟩ := va_join (wr := [(x_tape, .inl (cT, 400, .inl fT)), (r_left, .inr (2, [.ref x_c])), (x_c, .inl (cL, 9, .inr (.inr (.inr (.inr fc))))), (p0, .inr (6, [.ref dk, .ref y0, .int 0])), (p1, .inr (6, [.ref dk, .ref y1, .int 0])), (p2, .inr (6, [.ref dk, .ref y2, .int 0])), (p3, .inr (6, [.ref dk, .ref y3, .int 0])), (p4, .inr (6, [.ref dk, .ref y4, .int 0])), (p5, .inr (6, [.ref dk, .ref y5, .int 0])), (p6, .inr (6, [.ref dk, .ref y6, .int 0])), (p7, .inr (6, [.ref dk, .ref y7, .int 0])), (p8, .inr (6, [.ref dk, .ref y8, .int 0]))]) (w1 := [(h0, .inr (11, [.ref x_desk, .ref x_reader, .ref x_cells, .ref x_tape, .int 0, .ref x_script, .int 0, .ref x_rootAt, .ref x_rootTimes, .int 0, .ref x_spotX, .ref x_spotY, .ref x_bond, .int 0, .ref x_end, .ref x_span, .int 0, .ref x_part, .ref x_partPower, .int 0, .ref x_kept])), (x_reader, .inr (8, [.ref x_tape, .int 0, .int 0, .int 0, .int 1, .int 0, .int 0, .ref r_left, .ref r_right, .ref r_told, .ref r_curve, .int 0, .int 0, .int 0, .int 0, .ref r_steps, .int 0, .ref r_stack, .int 0]))]) hP hD [0, 2] [1, 3, 4, 5, 6, 7, 8, 9, 10, 11, 12, 13] rfl rfl (by decide) (by decide) hk1 hFc hP1 hD1
    have hK := (hK.sub (tys' := [(cT, .int), (cL, .object "RealHouse$Poly")]) [0, 1] rfl).app hK1
    generalize H1 = H at hP hS ⊢
    have hP : va_P (dC, dI) classes [(x_tape, .inl (cT, 400, .inl fT)), (r_left, .inr (2, [.ref x_c])), (x_c, .inl (cL, 9, .inr (.inr (.inr (.inr fc))))), (p0, .inr (6, [.ref dk, .ref y0, .int 0])), (p1, .inr (6, [.ref dk, .ref y1, .int 0])), (p2, .inr (6, [.ref dk, .ref y2, .int 0])), (p3, .inr (6, [.ref dk, .ref y3, .int 0])), (p4, .inr (6, [.ref dk, .ref y4, .int 0])), (p5, .inr (6, [.ref dk, .ref y5, .int 0])), (p6, .inr (6, [.ref dk, .ref y6, .int 0])), (p7, .inr (6, [.ref dk, .ref y7, .int 0])), (p8, .inr (6, [.ref dk, .ref y8, .int 0])), (h0, .inr (11, [.ref x_desk, .ref x_reader, .ref x_cells, .ref x_tape, .int 0, .ref x_script, .int 0, .ref x_rootAt, .ref x_rootTimes, .int 0, .ref x_spotX, .ref x_spotY, .ref x_bond, .int 0, .ref x_end, .ref x_span, .int 0, .ref x_part, .ref x_partPower, .int 0, .ref x_kept])), (x_reader, .inr (8, [.ref x_tape, .int 0, .int 0, .int 0, .int 1, .int 0, .int 0, .ref r_left, .ref r_right, .ref r_told, .ref r_curve, .int 0, .int 0, .int 0, .int 0, .ref r_steps, .int 0, .ref r_stack, .int 0]))] H := hP
    have hD : va_D A [(x_tape, .inl (cT, 400, .inl fT)), (r_left, .inr (2, [.ref x_c])), (x_c, .inl (cL, 9, .inr (.inr (.inr (.inr fc))))), (p0, .inr (6, [.ref dk, .ref y0, .int 0])), (p1, .inr (6, [.ref dk, .ref y1, .int 0])), (p2, .inr (6, [.ref dk, .ref y2, .int 0])), (p3, .inr (6, [.ref dk, .ref y3, .int 0])), (p4, .inr (6, [.ref dk, .ref y4, .int 0])), (p5, .inr (6, [.ref dk, .ref y5, .int 0])), (p6, .inr (6, [.ref dk, .ref y6, .int 0])), (p7, .inr (6, [.ref dk, .ref y7, .int 0])), (p8, .inr (6, [.ref dk, .ref y8, .int 0])), (h0, .inr (11, [.ref x_desk, .ref x_reader, .ref x_cells, .ref x_tape, .int 0, .ref x_script, .int 0, .ref x_rootAt, .ref x_rootTimes, .int 0, .ref x_spotX, .ref x_spotY, .ref x_bond, .int 0, .ref x_end, .ref x_span, .int 0, .ref x_part, .ref x_partPower, .int 0, .ref x_kept])), (x_reader, .inr (8, [.ref x_tape, .int 0, .int 0, .int 0, .int 1, .int 0, .int 0, .ref r_left, .ref r_right, .ref r_told, .ref r_curve, .int 0, .int 0, .int 0, .int 0, .ref r_steps, .int 0, .ref r_stack, .int 0]))] := hD
    have hK : va_K (dC, dI) classes [(cT, .int), (cL, .object "RealHouse$Poly")] s := hK
    have hP9 := hP.sub (ws' := []) [] rfl
    have hD9 := hD.sub (ws' := []) [] (by decide) rfl
    have hK9 := hK.sub (tys' := []) [] rfl
    exact W.iret (v := (-2)) hx hb hr (fun t ht hW => ⟨⟨(-2), (), rfl, rfl, by rw [ht]; exact hP9, va_K.moved hW.alike hK9, hD9⟩, hS.F ht⟩) hS.2.2 d_House_solve_52
  · have hn0 : ¬ n = 0 := fun h => c_2 (by rw [hr_1, if_pos h])
    refine lv_iconst (v := (-1)) hx hb d_House_solve_8 (by decide) ?_
    have hP9 := hP.sub (ws' := []) [] rfl
    have hD9 := hD.sub (ws' := []) [] (by decide) rfl
    have hK9 := hK.sub (tys' := []) [] rfl
    exact W.iret (v := (-1)) hx hb hr (fun t ht hW => ⟨⟨(-1), (), rfl, (if_neg hn0).symm, by rw [ht]; exact hP9, va_K.moved hW.alike hK9, hD9⟩, hS.F ht⟩) hS.2.2 d_House_solve_9
