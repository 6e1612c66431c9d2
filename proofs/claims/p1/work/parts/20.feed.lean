theorem tw_683 : (.methodLink "RealHouse" 82 ⟨"RealHouse", "feedFour", "(I)V"⟩ : Cond) ∈ lw_g := tb_at (i := 683) (by decide +kernel) rfl
theorem tw_685 : (.instanceMethod ⟨"RealHouse", "feedFour", "(I)V"⟩ : Cond) ∈ lw_g := tb_at (i := 685) (by decide +kernel) rfl
abbrev b_House_tell : ByteArray := prog_1_method_4_code
def y_House_tell : MethodName := ⟨"RealHouse", "tell", "(II)I"⟩
abbrev w_House_tell : List Cond := .code y_House_tell b_House_tell 6 (some .int) :: lw_g
theorem g_House_tell : GoodIn lw_g w_House_tell := tb_good1 (tb_at (i := 694) (by decide +kernel) rfl)
theorem d_House_tell_0 : decode b_House_tell 0 = .ok (.iload_n 1, 1) := by decide +kernel
theorem d_House_tell_1 : decode b_House_tell 1 = .ok (.ifCond .lt 17, 3) := by decide +kernel
theorem d_House_tell_4 : decode b_House_tell 4 = .ok (.iload_n 1, 1) := by decide +kernel
theorem d_House_tell_5 : decode b_House_tell 5 = .ok (.bipush 8, 2) := by decide +kernel
theorem d_House_tell_7 : decode b_House_tell 7 = .ok (.if_icmp .gt 11, 3) := by decide +kernel
theorem d_House_tell_10 : decode b_House_tell 10 = .ok (.aload_n 0, 1) := by decide +kernel
theorem d_House_tell_11 : decode b_House_tell 11 = .ok (.iload_n 2, 1) := by decide +kernel
theorem d_House_tell_12 : decode b_House_tell 12 = .ok (.invokevirtual 89, 3) := by decide +kernel
theorem d_House_tell_15 : decode b_House_tell 15 = .ok (.ifCond .eq 5, 3) := by decide +kernel
theorem d_House_tell_18 : decode b_House_tell 18 = .ok (.iconst (-1), 1) := by decide +kernel
theorem d_House_tell_19 : decode b_House_tell 19 = .ok (.ireturn, 1) := by decide +kernel
theorem d_House_tell_20 : decode b_House_tell 20 = .ok (.aload_n 0, 1) := by decide +kernel
theorem d_House_tell_21 : decode b_House_tell 21 = .ok (.getfield 67, 3) := by decide +kernel
theorem d_House_tell_24 : decode b_House_tell 24 = .ok (.aload_n 0, 1) := by decide +kernel
theorem d_House_tell_25 : decode b_House_tell 25 = .ok (.getfield 9, 3) := by decide +kernel
theorem d_House_tell_28 : decode b_House_tell 28 = .ok (.iload_n 2, 1) := by decide +kernel
theorem d_House_tell_29 : decode b_House_tell 29 = .ok (.iconst 1, 1) := by decide +kernel
theorem d_House_tell_30 : decode b_House_tell 30 = .ok (.iconst 1, 1) := by decide +kernel
theorem d_House_tell_31 : decode b_House_tell 31 = .ok (.invokevirtual 93, 3) := by decide +kernel
theorem d_House_tell_34 : decode b_House_tell 34 = .ok (.aload_n 0, 1) := by decide +kernel
theorem d_House_tell_35 : decode b_House_tell 35 = .ok (.getfield 67, 3) := by decide +kernel
theorem d_House_tell_38 : decode b_House_tell 38 = .ok (.iload_n 1, 1) := by decide +kernel
theorem d_House_tell_39 : decode b_House_tell 39 = .ok (.iconst 3, 1) := by decide +kernel
theorem d_House_tell_40 : decode b_House_tell 40 = .ok (.if_icmp .le 7, 3) := by decide +kernel
theorem d_House_tell_43 : decode b_House_tell 43 = .ok (.iconst 1, 1) := by decide +kernel
theorem d_House_tell_44 : decode b_House_tell 44 = .ok (.goto 4, 3) := by decide +kernel
theorem d_House_tell_47 : decode b_House_tell 47 = .ok (.iconst 0, 1) := by decide +kernel
theorem d_House_tell_48 : decode b_House_tell 48 = .ok (.invokevirtual 97, 3) := by decide +kernel
theorem d_House_tell_51 : decode b_House_tell 51 = .ok (.aload_n 0, 1) := by decide +kernel
theorem d_House_tell_52 : decode b_House_tell 52 = .ok (.getfield 67, 3) := by decide +kernel
theorem d_House_tell_55 : decode b_House_tell 55 = .ok (.getfield 101, 3) := by decide +kernel
theorem d_House_tell_58 : decode b_House_tell 58 = .ok (.ifCond .lt 8, 3) := by decide +kernel
theorem d_House_tell_61 : decode b_House_tell 61 = .ok (.aload_n 0, 1) := by decide +kernel
theorem d_House_tell_62 : decode b_House_tell 62 = .ok (.invokevirtual 104, 3) := by decide +kernel
theorem d_House_tell_65 : decode b_House_tell 65 = .ok (.ireturn, 1) := by decide +kernel
theorem d_House_tell_66 : decode b_House_tell 66 = .ok (.aload_n 0, 1) := by decide +kernel
theorem d_House_tell_67 : decode b_House_tell 67 = .ok (.iload_n 1, 1) := by decide +kernel
theorem d_House_tell_68 : decode b_House_tell 68 = .ok (.invokevirtual 108, 3) := by decide +kernel
theorem d_House_tell_71 : decode b_House_tell 71 = .ok (.ifCond .eq 5, 3) := by decide +kernel
theorem d_House_tell_74 : decode b_House_tell 74 = .ok (.iconst (-1), 1) := by decide +kernel
theorem d_House_tell_75 : decode b_House_tell 75 = .ok (.ireturn, 1) := by decide +kernel
theorem d_House_tell_76 : decode b_House_tell 76 = .ok (.aload_n 0, 1) := by decide +kernel
theorem d_House_tell_77 : decode b_House_tell 77 = .ok (.iconst 0, 1) := by decide +kernel
theorem d_House_tell_78 : decode b_House_tell 78 = .ok (.putfield 78, 3) := by decide +kernel
theorem d_House_tell_81 : decode b_House_tell 81 = .ok (.aload_n 0, 1) := by decide +kernel
theorem d_House_tell_82 : decode b_House_tell 82 = .ok (.getfield 67, 3) := by decide +kernel
theorem d_House_tell_85 : decode b_House_tell 85 = .ok (.getfield 111, 3) := by decide +kernel
theorem d_House_tell_88 : decode b_House_tell 88 = .ok (.getfield 115, 3) := by decide +kernel
theorem d_House_tell_91 : decode b_House_tell 91 = .ok (.iconst 0, 1) := by decide +kernel
theorem d_House_tell_92 : decode b_House_tell 92 = .ok (.aaload, 1) := by decide +kernel
theorem d_House_tell_93 : decode b_House_tell 93 = .ok (.astore_n 3, 1) := by decide +kernel
theorem d_House_tell_94 : decode b_House_tell 94 = .ok (.aload_n 0, 1) := by decide +kernel
theorem d_House_tell_95 : decode b_House_tell 95 = .ok (.getfield 67, 3) := by decide +kernel
theorem d_House_tell_98 : decode b_House_tell 98 = .ok (.getfield 118, 3) := by decide +kernel
theorem d_House_tell_101 : decode b_House_tell 101 = .ok (.getfield 115, 3) := by decide +kernel
theorem d_House_tell_104 : decode b_House_tell 104 = .ok (.iconst 0, 1) := by decide +kernel
theorem d_House_tell_105 : decode b_House_tell 105 = .ok (.aaload, 1) := by decide +kernel
theorem d_House_tell_106 : decode b_House_tell 106 = .ok (.astore 4, 2) := by decide +kernel
theorem d_House_tell_108 : decode b_House_tell 108 = .ok (.aload_n 0, 1) := by decide +kernel
theorem d_House_tell_109 : decode b_House_tell 109 = .ok (.getfield 67, 3) := by decide +kernel
theorem d_House_tell_112 : decode b_House_tell 112 = .ok (.getfield 121, 3) := by decide +kernel
theorem d_House_tell_115 : decode b_House_tell 115 = .ok (.astore 5, 2) := by decide +kernel
theorem d_House_tell_117 : decode b_House_tell 117 = .ok (.aload 5, 2) := by decide +kernel
theorem d_House_tell_119 : decode b_House_tell 119 = .ok (.invokevirtual 124, 3) := by decide +kernel
theorem d_House_tell_122 : decode b_House_tell 122 = .ok (.iload_n 1, 1) := by decide +kernel
theorem d_House_tell_123 : decode b_House_tell 123 = .ok (.iconst 5, 1) := by decide +kernel
theorem d_House_tell_124 : decode b_House_tell 124 = .ok (.if_icmp .ne 37, 3) := by decide +kernel
theorem d_House_tell_127 : decode b_House_tell 127 = .ok (.aload 5, 2) := by decide +kernel
theorem d_House_tell_129 : decode b_House_tell 129 = .ok (.getfield 115, 3) := by decide +kernel
theorem d_House_tell_132 : decode b_House_tell 132 = .ok (.iconst 0, 1) := by decide +kernel
theorem d_House_tell_133 : decode b_House_tell 133 = .ok (.aaload, 1) := by decide +kernel
theorem d_House_tell_134 : decode b_House_tell 134 = .ok (.aload_n 0, 1) := by decide +kernel
theorem d_House_tell_135 : decode b_House_tell 135 = .ok (.getfield 74, 3) := by decide +kernel
theorem d_House_tell_138 : decode b_House_tell 138 = .ok (.aload_n 0, 1) := by decide +kernel
theorem d_House_tell_139 : decode b_House_tell 139 = .ok (.getfield 67, 3) := by decide +kernel
theorem d_House_tell_142 : decode b_House_tell 142 = .ok (.getfield 111, 3) := by decide +kernel
theorem d_House_tell_145 : decode b_House_tell 145 = .ok (.aload_n 0, 1) := by decide +kernel
theorem d_House_tell_146 : decode b_House_tell 146 = .ok (.getfield 67, 3) := by decide +kernel
theorem d_House_tell_149 : decode b_House_tell 149 = .ok (.getfield 118, 3) := by decide +kernel
theorem d_House_tell_152 : decode b_House_tell 152 = .ok (.invokevirtual 127, 3) := by decide +kernel
theorem d_House_tell_155 : decode b_House_tell 155 = .ok (.invokevirtual 131, 3) := by decide +kernel
theorem d_House_tell_158 : decode b_House_tell 158 = .ok (.goto 73, 3) := by decide +kernel
theorem d_House_tell_161 : decode b_House_tell 161 = .ok (.iload_n 1, 1) := by decide +kernel
theorem d_House_tell_162 : decode b_House_tell 162 = .ok (.bipush 6, 2) := by decide +kernel
theorem d_House_tell_164 : decode b_House_tell 164 = .ok (.if_icmp .ne 33, 3) := by decide +kernel
theorem d_House_tell_167 : decode b_House_tell 167 = .ok (.aload 5, 2) := by decide +kernel
theorem d_House_tell_169 : decode b_House_tell 169 = .ok (.getfield 115, 3) := by decide +kernel
theorem d_House_tell_172 : decode b_House_tell 172 = .ok (.iconst 0, 1) := by decide +kernel
theorem d_House_tell_173 : decode b_House_tell 173 = .ok (.aaload, 1) := by decide +kernel
theorem d_House_tell_174 : decode b_House_tell 174 = .ok (.aload_n 3, 1) := by decide +kernel
theorem d_House_tell_175 : decode b_House_tell 175 = .ok (.aload 4, 2) := by decide +kernel
theorem d_House_tell_177 : decode b_House_tell 177 = .ok (.aload_n 0, 1) := by decide +kernel
theorem d_House_tell_178 : decode b_House_tell 178 = .ok (.getfield 74, 3) := by decide +kernel
theorem d_House_tell_181 : decode b_House_tell 181 = .ok (.getfield 135, 3) := by decide +kernel
theorem d_House_tell_184 : decode b_House_tell 184 = .ok (.aload_n 0, 1) := by decide +kernel
theorem d_House_tell_185 : decode b_House_tell 185 = .ok (.getfield 74, 3) := by decide +kernel
theorem d_House_tell_188 : decode b_House_tell 188 = .ok (.getfield 139, 3) := by decide +kernel
theorem d_House_tell_191 : decode b_House_tell 191 = .ok (.invokevirtual 142, 3) := by decide +kernel
theorem d_House_tell_194 : decode b_House_tell 194 = .ok (.goto 37, 3) := by decide +kernel
theorem d_House_tell_197 : decode b_House_tell 197 = .ok (.iload_n 1, 1) := by decide +kernel
theorem d_House_tell_198 : decode b_House_tell 198 = .ok (.bipush 7, 2) := by decide +kernel
theorem d_House_tell_200 : decode b_House_tell 200 = .ok (.if_icmp .ne 26, 3) := by decide +kernel
theorem d_House_tell_203 : decode b_House_tell 203 = .ok (.aload 5, 2) := by decide +kernel
theorem d_House_tell_205 : decode b_House_tell 205 = .ok (.getfield 115, 3) := by decide +kernel
theorem d_House_tell_208 : decode b_House_tell 208 = .ok (.iconst 0, 1) := by decide +kernel
theorem d_House_tell_209 : decode b_House_tell 209 = .ok (.aaload, 1) := by decide +kernel
theorem d_House_tell_210 : decode b_House_tell 210 = .ok (.aload_n 3, 1) := by decide +kernel
theorem d_House_tell_211 : decode b_House_tell 211 = .ok (.aload 4, 2) := by decide +kernel
theorem d_House_tell_213 : decode b_House_tell 213 = .ok (.aload_n 0, 1) := by decide +kernel
theorem d_House_tell_214 : decode b_House_tell 214 = .ok (.getfield 74, 3) := by decide +kernel
theorem d_House_tell_217 : decode b_House_tell 217 = .ok (.getfield 135, 3) := by decide +kernel
theorem d_House_tell_220 : decode b_House_tell 220 = .ok (.invokevirtual 146, 3) := by decide +kernel
theorem d_House_tell_223 : decode b_House_tell 223 = .ok (.goto 8, 3) := by decide +kernel
theorem d_House_tell_226 : decode b_House_tell 226 = .ok (.aload_n 0, 1) := by decide +kernel
theorem d_House_tell_227 : decode b_House_tell 227 = .ok (.iload_n 1, 1) := by decide +kernel
theorem d_House_tell_228 : decode b_House_tell 228 = .ok (.invokevirtual 150, 3) := by decide +kernel
theorem d_House_tell_231 : decode b_House_tell 231 = .ok (.aload_n 0, 1) := by decide +kernel
theorem d_House_tell_232 : decode b_House_tell 232 = .ok (.iconst 0, 1) := by decide +kernel
theorem d_House_tell_233 : decode b_House_tell 233 = .ok (.putfield 86, 3) := by decide +kernel
theorem d_House_tell_236 : decode b_House_tell 236 = .ok (.aload_n 0, 1) := by decide +kernel
theorem d_House_tell_237 : decode b_House_tell 237 = .ok (.aload 5, 2) := by decide +kernel
theorem d_House_tell_239 : decode b_House_tell 239 = .ok (.invokevirtual 153, 3) := by decide +kernel
theorem d_House_tell_242 : decode b_House_tell 242 = .ok (.aload_n 0, 1) := by decide +kernel
theorem d_House_tell_243 : decode b_House_tell 243 = .ok (.getfield 86, 3) := by decide +kernel
theorem d_House_tell_246 : decode b_House_tell 246 = .ok (.ireturn, 1) := by decide +kernel
abbrev b_House_feedFour : ByteArray := prog_1_method_25_code
def y_House_feedFour : MethodName := ⟨"RealHouse", "feedFour", "(I)V"⟩
abbrev w_House_feedFour : List Cond := .code y_House_feedFour b_House_feedFour 3 none :: lw_g
theorem g_House_feedFour : GoodIn lw_g w_House_feedFour := tb_good1 (tb_at (i := 686) (by decide +kernel) rfl)
theorem d_House_feedFour_0 : decode b_House_feedFour 0 = .ok (.bipush 24, 2) := by decide +kernel
theorem d_House_feedFour_2 : decode b_House_feedFour 2 = .ok (.istore_n 2, 1) := by decide +kernel
theorem d_House_feedFour_3 : decode b_House_feedFour 3 = .ok (.iload_n 2, 1) := by decide +kernel
theorem d_House_feedFour_4 : decode b_House_feedFour 4 = .ok (.ifCond .lt 45, 3) := by decide +kernel
theorem d_House_feedFour_7 : decode b_House_feedFour 7 = .ok (.aload_n 0, 1) := by decide +kernel
theorem d_House_feedFour_8 : decode b_House_feedFour 8 = .ok (.getfield 78, 3) := by decide +kernel
theorem d_House_feedFour_11 : decode b_House_feedFour 11 = .ok (.sipush 400, 3) := by decide +kernel
theorem d_House_feedFour_14 : decode b_House_feedFour 14 = .ok (.if_icmp .ge 35, 3) := by decide +kernel
theorem d_House_feedFour_17 : decode b_House_feedFour 17 = .ok (.aload_n 0, 1) := by decide +kernel
theorem d_House_feedFour_18 : decode b_House_feedFour 18 = .ok (.getfield 9, 3) := by decide +kernel
theorem d_House_feedFour_21 : decode b_House_feedFour 21 = .ok (.aload_n 0, 1) := by decide +kernel
theorem d_House_feedFour_22 : decode b_House_feedFour 22 = .ok (.getfield 78, 3) := by decide +kernel
theorem d_House_feedFour_25 : decode b_House_feedFour 25 = .ok (.iload_n 1, 1) := by decide +kernel
theorem d_House_feedFour_26 : decode b_House_feedFour 26 = .ok (.iload_n 2, 1) := by decide +kernel
theorem d_House_feedFour_27 : decode b_House_feedFour 27 = .ok (.iushr, 1) := by decide +kernel
theorem d_House_feedFour_28 : decode b_House_feedFour 28 = .ok (.sipush 255, 3) := by decide +kernel
theorem d_House_feedFour_31 : decode b_House_feedFour 31 = .ok (.iand, 1) := by decide +kernel
theorem d_House_feedFour_32 : decode b_House_feedFour 32 = .ok (.iastore, 1) := by decide +kernel
theorem d_House_feedFour_33 : decode b_House_feedFour 33 = .ok (.aload_n 0, 1) := by decide +kernel
theorem d_House_feedFour_34 : decode b_House_feedFour 34 = .ok (.dup, 1) := by decide +kernel
theorem d_House_feedFour_35 : decode b_House_feedFour 35 = .ok (.getfield 78, 3) := by decide +kernel
theorem d_House_feedFour_38 : decode b_House_feedFour 38 = .ok (.iconst 1, 1) := by decide +kernel
theorem d_House_feedFour_39 : decode b_House_feedFour 39 = .ok (.iadd, 1) := by decide +kernel
theorem d_House_feedFour_40 : decode b_House_feedFour 40 = .ok (.putfield 78, 3) := by decide +kernel
theorem d_House_feedFour_43 : decode b_House_feedFour 43 = .ok (.iinc 2 (-8), 3) := by decide +kernel
theorem d_House_feedFour_46 : decode b_House_feedFour 46 = .ok (.goto (-43), 3) := by decide +kernel
theorem d_House_feedFour_49 : decode b_House_feedFour 49 = .ok (.return_, 1) := by decide +kernel
abbrev b_House_feed : ByteArray := prog_1_method_2_code
def y_House_feed : MethodName := ⟨"RealHouse", "feed", "(IIIII)I"⟩
abbrev w_House_feed : List Cond := .code y_House_feed b_House_feed 6 (some .int) :: lw_g
theorem g_House_feed : GoodIn lw_g w_House_feed := tb_good1 (tb_at (i := 682) (by decide +kernel) rfl)
theorem d_House_feed_0 : decode b_House_feed 0 = .ok (.aload_n 0, 1) := by decide +kernel
theorem d_House_feed_1 : decode b_House_feed 1 = .ok (.getfield 78, 3) := by decide +kernel
theorem d_House_feed_4 : decode b_House_feed 4 = .ok (.bipush 20, 2) := by decide +kernel
theorem d_House_feed_6 : decode b_House_feed 6 = .ok (.iadd, 1) := by decide +kernel
theorem d_House_feed_7 : decode b_House_feed 7 = .ok (.sipush 400, 3) := by decide +kernel
theorem d_House_feed_10 : decode b_House_feed 10 = .ok (.if_icmp .le 5, 3) := by decide +kernel
theorem d_House_feed_13 : decode b_House_feed 13 = .ok (.iconst (-1), 1) := by decide +kernel
theorem d_House_feed_14 : decode b_House_feed 14 = .ok (.ireturn, 1) := by decide +kernel
theorem d_House_feed_15 : decode b_House_feed 15 = .ok (.aload_n 0, 1) := by decide +kernel
theorem d_House_feed_16 : decode b_House_feed 16 = .ok (.iload_n 1, 1) := by decide +kernel
theorem d_House_feed_17 : decode b_House_feed 17 = .ok (.invokevirtual 82, 3) := by decide +kernel
theorem d_House_feed_20 : decode b_House_feed 20 = .ok (.aload_n 0, 1) := by decide +kernel
theorem d_House_feed_21 : decode b_House_feed 21 = .ok (.iload_n 2, 1) := by decide +kernel
theorem d_House_feed_22 : decode b_House_feed 22 = .ok (.invokevirtual 82, 3) := by decide +kernel
theorem d_House_feed_25 : decode b_House_feed 25 = .ok (.aload_n 0, 1) := by decide +kernel
theorem d_House_feed_26 : decode b_House_feed 26 = .ok (.iload_n 3, 1) := by decide +kernel
theorem d_House_feed_27 : decode b_House_feed 27 = .ok (.invokevirtual 82, 3) := by decide +kernel
theorem d_House_feed_30 : decode b_House_feed 30 = .ok (.aload_n 0, 1) := by decide +kernel
theorem d_House_feed_31 : decode b_House_feed 31 = .ok (.iload 4, 2) := by decide +kernel
theorem d_House_feed_33 : decode b_House_feed 33 = .ok (.invokevirtual 82, 3) := by decide +kernel
theorem d_House_feed_36 : decode b_House_feed 36 = .ok (.aload_n 0, 1) := by decide +kernel
theorem d_House_feed_37 : decode b_House_feed 37 = .ok (.iload 5, 2) := by decide +kernel
theorem d_House_feed_39 : decode b_House_feed 39 = .ok (.invokevirtual 82, 3) := by decide +kernel
theorem d_House_feed_42 : decode b_House_feed 42 = .ok (.aload_n 0, 1) := by decide +kernel
theorem d_House_feed_43 : decode b_House_feed 43 = .ok (.getfield 78, 3) := by decide +kernel
theorem d_House_feed_46 : decode b_House_feed 46 = .ok (.ireturn, 1) := by decide +kernel
set_option maxHeartbeats 4000000 in
set_option maxRecDepth 100000 in
/-- tell on a fresh house -/
theorem c_House_tell_0 (l : Launch) (dC : Nat → ClassId) (dI : Nat → Nat → Nat) (sz : Nat) (h0 : Nat) (x_desk : Nat) (x_reader : Nat) (x_cells : Nat) (x_tape : Nat) (x_script : Nat) (x_rootAt : Nat) (x_rootTimes : Nat) (x_spotX : Nat) (x_spotY : Nat) (x_bond : Nat) (x_end : Nat) (x_span : Nat) (x_part : Nat) (x_partPower : Nat) (x_kept : Nat) (cT : ClassId) (fT : Nat → Int32) (r_left : Nat) (r_right : Nat) (r_told : Nat) (r_curve : Nat) (r_steps : Nat) (r_stack : Nat) (t0 : Nat) (ft : Int32) (wx : Int32) (wy : Int32) (x_c : Nat) (cL : ClassId) (fc : Nat → Option Nat) (dk : Nat) (p0 : Nat) (p1 : Nat) (p2 : Nat) (p3 : Nat) (p4 : Nat) (p5 : Nat) (p6 : Nat) (p7 : Nat) (p8 : Nat) (y0 : Nat) (y1 : Nat) (y2 : Nat) (y3 : Nat) (y4 : Nat) (y5 : Nat) (y6 : Nat) (y7 : Nat) (y8 : Nat) (a1 : Int32) (n : Int32) (hF : fc 0 = some p0 ∧ fc 1 = some p1 ∧ fc 2 = some p2 ∧ fc 3 = some p3 ∧ fc 4 = some p4 ∧ fc 5 = some p5 ∧ fc 6 = some p6 ∧ fc 7 = some p7 ∧ fc 8 = some p8) : Met l y_House_tell w_House_tell ({ frames := 4, cells := 0, slots := 0, locals := 97 }) (va_Pc [.ref h0, .int a1, .int n] (fun U => U.heap.size = sz ∧ va_P (dC, dI) classes [(h0, .inr (11, [.ref x_desk, .ref x_reader, .ref x_cells, .ref x_tape, .int 0, .ref x_script, .int 0, .ref x_rootAt, .ref x_rootTimes, .int 0, .ref x_spotX, .ref x_spotY, .ref x_bond, .int 0, .ref x_end, .ref x_span, .int 0, .ref x_part, .ref x_partPower, .int 0, .ref x_kept])), (x_tape, .inl (cT, 400, .inl fT)), (x_reader, .inr (8, [.ref t0, .int 0, .int 0, .int ft, .int wx, .int wy, .int 0, .ref r_left, .ref r_right, .ref r_told, .ref r_curve, .int 0, .int 0, .int 0, .int 0, .ref r_steps, .int 0, .ref r_stack, .int 0])), (r_left, .inr (2, [.ref x_c])), (x_c, .inl (cL, 9, .inr (.inr (.inr (.inr fc))))), (p0, .inr (6, [.ref dk, .ref y0, .int 0])), (p1, .inr (6, [.ref dk, .ref y1, .int 0])), (p2, .inr (6, [.ref dk, .ref y2, .int 0])), (p3, .inr (6, [.ref dk, .ref y3, .int 0])), (p4, .inr (6, [.ref dk, .ref y4, .int 0])), (p5, .inr (6, [.ref dk, .ref y5, .int 0])), (p6, .inr (6, [.ref dk, .ref y6, .int 0])), (p7, .inr (6, [.ref dk, .ref y7, .int 0])), (p8, .inr (6, [.ref dk, .ref y8, .int 0]))] U.heap ∧ va_K (dC, dI) classes [(cT, .int), (cL, .object "RealHouse$Poly")] U ∧ va_D (fun _ => True) [(h0, .inr (11, [.ref x_desk, .ref x_reader, .ref x_cells, .ref x_tape, .int 0, .ref x_script, .int 0, .ref x_rootAt, .ref x_rootTimes, .int 0, .ref x_spotX, .ref x_spotY, .ref x_bond, .int 0, .ref x_end, .ref x_span, .int 0, .ref x_part, .ref x_partPower, .int 0, .ref x_kept])), (x_tape, .inl (cT, 400, .inl fT)), (x_reader, .inr (8, [.ref t0, .int 0, .int 0, .int ft, .int wx, .int wy, .int 0, .ref r_left, .ref r_right, .ref r_told, .ref r_curve, .int 0, .int 0, .int 0, .int 0, .ref r_steps, .int 0, .ref r_stack, .int 0])), (r_left, .inr (2, [.ref x_c])), (x_c, .inl (cL, 9, .inr (.inr (.inr (.inr fc))))), (p0, .inr (6, [.ref dk, .ref y0, .int 0])), (p1, .inr (6, [.ref dk, .ref y1, .int 0])), (p2, .inr (6, [.ref dk, .ref y2, .int 0])), (p3, .inr (6, [.ref dk, .ref y3, .int 0])), (p4, .inr (6, [.ref dk, .ref y4, .int 0])), (p5, .inr (6, [.ref dk, .ref y5, .int 0])), (p6, .inr (6, [.ref dk, .ref y6, .int 0])), (p7, .inr (6, [.ref dk, .ref y7, .int 0])), (p8, .inr (6, [.ref dk, .ref y8, .int 0]))] ∧ nx_K U)) (va_Qi (fun (r : Int32) (_ : Unit) => r = if n = 0 ∧ 0 ≤ a1 ∧ a1 ≤ 8 then (-2) else (-1)) (fun _ t => va_P (dC, dI) classes [] t.heap ∧ va_K (dC, dI) classes [] t ∧ va_D (va_A [(h0, .inr (11, [.ref x_desk, .ref x_reader, .ref x_cells, .ref x_tape, .int 0, .ref x_script, .int 0, .ref x_rootAt, .ref x_rootTimes, .int 0, .ref x_spotX, .ref x_spotY, .ref x_bond, .int 0, .ref x_end, .ref x_span, .int 0, .ref x_part, .ref x_partPower, .int 0, .ref x_kept])), (x_tape, .inl (cT, 400, .inl fT)), (x_reader, .inr (8, [.ref t0, .int 0, .int 0, .int ft, .int wx, .int wy, .int 0, .ref r_left, .ref r_right, .ref r_told, .ref r_curve, .int 0, .int 0, .int 0, .int 0, .ref r_steps, .int 0, .ref r_stack, .int 0])), (r_left, .inr (2, [.ref x_c])), (x_c, .inl (cL, 9, .inr (.inr (.inr (.inr fc))))), (p0, .inr (6, [.ref dk, .ref y0, .int 0])), (p1, .inr (6, [.ref dk, .ref y1, .int 0])), (p2, .inr (6, [.ref dk, .ref y2, .int 0])), (p3, .inr (6, [.ref dk, .ref y3, .int 0])), (p4, .inr (6, [.ref dk, .ref y4, .int 0])), (p5, .inr (6, [.ref dk, .ref y5, .int 0])), (p6, .inr (6, [.ref dk, .ref y6, .int 0])), (p7, .inr (6, [.ref dk, .ref y7, .int 0])), (p8, .inr (6, [.ref dk, .ref y8, .int 0]))] sz) []) (va_A [(h0, .inr (11, [.ref x_desk, .ref x_reader, .ref x_cells, .ref x_tape, .int 0, .ref x_script, .int 0, .ref x_rootAt, .ref x_rootTimes, .int 0, .ref x_spotX, .ref x_spotY, .ref x_bond, .int 0, .ref x_end, .ref x_span, .int 0, .ref x_part, .ref x_partPower, .int 0, .ref x_kept])), (x_tape, .inl (cT, 400, .inl fT)), (x_reader, .inr (8, [.ref t0, .int 0, .int 0, .int ft, .int wx, .int wy, .int 0, .ref r_left, .ref r_right, .ref r_told, .ref r_curve, .int 0, .int 0, .int 0, .int 0, .ref r_steps, .int 0, .ref r_stack, .int 0])), (r_left, .inr (2, [.ref x_c])), (x_c, .inl (cL, 9, .inr (.inr (.inr (.inr fc))))), (p0, .inr (6, [.ref dk, .ref y0, .int 0])), (p1, .inr (6, [.ref dk, .ref y1, .int 0])), (p2, .inr (6, [.ref dk, .ref y2, .int 0])), (p3, .inr (6, [.ref dk, .ref y3, .int 0])), (p4, .inr (6, [.ref dk, .ref y4, .int 0])), (p5, .inr (6, [.ref dk, .ref y5, .int 0])), (p6, .inr (6, [.ref dk, .ref y6, .int 0])), (p7, .inr (6, [.ref dk, .ref y7, .int 0])), (p8, .inr (6, [.ref dk, .ref y8, .int 0]))] sz)) 0 0 (va_A [(h0, .inr (11, [.ref x_desk, .ref x_reader, .ref x_cells, .ref x_tape, .int 0, .ref x_script, .int 0, .ref x_rootAt, .ref x_rootTimes, .int 0, .ref x_spotX, .ref x_spotY, .ref x_bond, .int 0, .ref x_end, .ref x_span, .int 0, .ref x_part, .ref x_partPower, .int 0, .ref x_kept])), (x_tape, .inl (cT, 400, .inl fT)), (x_reader, .inr (8, [.ref t0, .int 0, .int 0, .int ft, .int wx, .int wy, .int 0, .ref r_left, .ref r_right, .ref r_told, .ref r_curve, .int 0, .int 0, .int 0, .int 0, .ref r_steps, .int 0, .ref r_stack, .int 0])), (r_left, .inr (2, [.ref x_c])), (x_c, .inl (cL, 9, .inr (.inr (.inr (.inr fc))))), (p0, .inr (6, [.ref dk, .ref y0, .int 0])), (p1, .inr (6, [.ref dk, .ref y1, .int 0])), (p2, .inr (6, [.ref dk, .ref y2, .int 0])), (p3, .inr (6, [.ref dk, .ref y3, .int 0])), (p4, .inr (6, [.ref dk, .ref y4, .int 0])), (p5, .inr (6, [.ref dk, .ref y5, .int 0])), (p6, .inr (6, [.ref dk, .ref y6, .int 0])), (p7, .inr (6, [.ref dk, .ref y7, .int 0])), (p8, .inr (6, [.ref dk, .ref y8, .int 0]))] sz) := by
  refine Met.ofW (cc := b_House_tell) (maxL := 6) (ret := (some .int)) (by decide) rfl ?_
  intro p e s m args below meth c s₁ B hml hv
  obtain ⟨rfl, hsz, hP, hK, hD0, hN⟩ := hv
  have hx := B.exec
  have hb := B.bytes
  have hr := B.returns
  have hT : ∀ w ∈ lw_g, w.before _ s = true := fun w h => atoms_spec (ws := w_House_tell) B.pre w (List.mem_cons_of_mem _ h)
  have hown : s.vm.findClass R_House = some m.cls := findClass_of_methodNamed B.named
  have hlocks := B.notSynchronized
  subst hsz
  have hD := hD0.self (sz := s.heap.size)
  generalize hAe : va_A [(h0, .inr (11, [.ref x_desk, .ref x_reader, .ref x_cells, .ref x_tape, .int 0, .ref x_script, .int 0, .ref x_rootAt, .ref x_rootTimes, .int 0, .ref x_spotX, .ref x_spotY, .ref x_bond, .int 0, .ref x_end, .ref x_span, .int 0, .ref x_part, .ref x_partPower, .int 0, .ref x_kept])), (x_tape, .inl (cT, 400, .inl fT)), (x_reader, .inr (8, [.ref t0, .int 0, .int 0, .int ft, .int wx, .int wy, .int 0, .ref r_left, .ref r_right, .ref r_told, .ref r_curve, .int 0, .int 0, .int 0, .int 0, .ref r_steps, .int 0, .ref r_stack, .int 0])), (r_left, .inr (2, [.ref x_c])), (x_c, .inl (cL, 9, .inr (.inr (.inr (.inr fc))))), (p0, .inr (6, [.ref dk, .ref y0, .int 0])), (p1, .inr (6, [.ref dk, .ref y1, .int 0])), (p2, .inr (6, [.ref dk, .ref y2, .int 0])), (p3, .inr (6, [.ref dk, .ref y3, .int 0])), (p4, .inr (6, [.ref dk, .ref y4, .int 0])), (p5, .inr (6, [.ref dk, .ref y5, .int 0])), (p6, .inr (6, [.ref dk, .ref y6, .int 0])), (p7, .inr (6, [.ref dk, .ref y7, .int 0])), (p8, .inr (6, [.ref dk, .ref y8, .int 0]))] s.heap.size = A at hD ⊢
  have hA : ∀ q : Nat, s.heap.size ≤ q → A q := fun q h => by rw [← hAe]; exact Or.inr h
  have hS : va_S A s.heap s.heap [] := va_S.rf
  have hP : va_P (dC, dI) classes [(h0, .inr (11, [.ref x_desk, .ref x_reader, .ref x_cells, .ref x_tape, .int 0, .ref x_script, .int 0, .ref x_rootAt, .ref x_rootTimes, .int 0, .ref x_spotX, .ref x_spotY, .ref x_bond, .int 0, .ref x_end, .ref x_span, .int 0, .ref x_part, .ref x_partPower, .int 0, .ref x_kept])), (x_tape, .inl (cT, 400, .inl fT)), (x_reader, .inr (8, [.ref t0, .int 0, .int 0, .int ft, .int wx, .int wy, .int 0, .ref r_left, .ref r_right, .ref r_told, .ref r_curve, .int 0, .int 0, .int 0, .int 0, .ref r_steps, .int 0, .ref r_stack, .int 0])), (r_left, .inr (2, [.ref x_c])), (x_c, .inl (cL, 9, .inr (.inr (.inr (.inr fc))))), (p0, .inr (6, [.ref dk, .ref y0, .int 0])), (p1, .inr (6, [.ref dk, .ref y1, .int 0])), (p2, .inr (6, [.ref dk, .ref y2, .int 0])), (p3, .inr (6, [.ref dk, .ref y3, .int 0])), (p4, .inr (6, [.ref dk, .ref y4, .int 0])), (p5, .inr (6, [.ref dk, .ref y5, .int 0])), (p6, .inr (6, [.ref dk, .ref y6, .int 0])), (p7, .inr (6, [.ref dk, .ref y7, .int 0])), (p8, .inr (6, [.ref dk, .ref y8, .int 0]))] s.heap := hP
  have hl := lv_entry ([.ref h0, .int a1, .int n]) (n := 6) (Nat.le_of_ble_eq_true rfl)
  rw [lg_entry_eq]
  generalize (lg_sl ([.ref h0, .int a1, .int n]) ++ List.replicate (6 - (lg_sl ([.ref h0, .int a1, .int n])).length) Slot.unset).toArray = ls at hl ⊢
  have hl : lv_has ls 6 [(0, .ref h0), (1, .int a1), (2, .int n)] := hl
  refine lv_iload_n hx hb d_House_tell_0 rfl (lv_at hl 1 rfl) ?_
  refine lv_if_lt (tgt := 18) hx hb d_House_tell_1 (by decide) (fun c_1 => ?_) (fun c_1 => ?_)
  · refine lv_iconst (v := (-1)) hx hb d_House_tell_18 (by decide) ?_
    have hP9 := hP.sub (ws' := []) [] rfl
    have hD9 := hD.sub (ws' := []) [] (by decide) rfl
    have hK9 := hK.sub (tys' := []) [] rfl
    exact W.iret (v := (-1)) hx hb hr (fun t ht hW => ⟨⟨(-1), (), rfl, (if_neg (fun h => absurd h.2.1 (Int32.not_le.mpr c_1))).symm, by rw [ht]; exact hP9, va_K.moved hW.alike hK9, hD9⟩, hS.F ht⟩) hS.2.2 d_House_tell_19
  · refine lv_iload_n hx hb d_House_tell_4 rfl (lv_at hl 1 rfl) ?_
    refine lv_bipush (v := 8) hx hb d_House_tell_5 (by decide) ?_
    refine lv_icmp_gt (tgt := 18) hx hb d_House_tell_7 (by decide) (fun c_2 => ?_) (fun c_2 => ?_)
    · refine lv_iconst (v := (-1)) hx hb d_House_tell_18 (by decide) ?_
      have hP9 := hP.sub (ws' := []) [] rfl
      have hD9 := hD.sub (ws' := []) [] (by decide) rfl
      have hK9 := hK.sub (tys' := []) [] rfl
      exact W.iret (v := (-1)) hx hb hr (fun t ht hW => ⟨⟨(-1), (), rfl, (if_neg (fun h => absurd h.2.2 (Int32.not_le.mpr c_2))).symm, by rw [ht]; exact hP9, va_K.moved hW.alike hK9, hD9⟩, hS.F ht⟩) hS.2.2 d_House_tell_19
    · refine lv_aload_n hx hb d_House_tell_10 rfl (lv_at hl 0 rfl) ?_
      refine lv_iload_n hx hb d_House_tell_11 rfl (lv_at hl 2 rfl) ?_
      have hPc := hP.sub (ws' := [(h0, .inr (11, [.ref x_desk, .ref x_reader, .ref x_cells, .ref x_tape, .int 0, .ref x_script, .int 0, .ref x_rootAt, .ref x_rootTimes, .int 0, .ref x_spotX, .ref x_spotY, .ref x_bond, .int 0, .ref x_end, .ref x_span, .int 0, .ref x_part, .ref x_partPower, .int 0, .ref x_kept]))]) [0] rfl
      have hDc := hD.sub (ws' := [(h0, .inr (11, [.ref x_desk, .ref x_reader, .ref x_cells, .ref x_tape, .int 0, .ref x_script, .int 0, .ref x_rootAt, .ref x_rootTimes, .int 0, .ref x_spotX, .ref x_spotY, .ref x_bond, .int 0, .ref x_end, .ref x_span, .int 0, .ref x_part, .ref x_partPower, .int 0, .ref x_kept]))]) [0] (by decide) rfl
      have hKc := hK.sub (tys' := []) [] rfl
      have hFc := va_free (wc := [(h0, .inr (11, [.ref x_desk, .ref x_reader, .ref x_cells, .ref x_tape, .int 0, .ref x_script, .int 0, .ref x_rootAt, .ref x_rootTimes, .int 0, .ref x_spotX, .ref x_spotY, .ref x_bond, .int 0, .ref x_end, .ref x_span, .int 0, .ref x_part, .ref x_partPower, .int 0, .ref x_kept]))]) hD hS hA [0] rfl
      refine va_calli (va_runV (As := [.int n]) (rest := []) ⟨hx, hb, hml, hown, hT⟩ (c_House_isNoLength_0 l dC dI s.heap.size h0 x_desk x_reader x_cells x_tape x_script x_rootAt x_rootTimes x_spotX x_spotY x_bond x_end x_span x_part x_partPower x_kept n ) (cwV 1 hT (tb_goodV g_House_isNoLength tw_695 tw_697 (tb_sel (q := (⟨"RealHouse", "isNoLength", "(I)Z"⟩, 21)) (i := 1) (by decide +kernel)) tw_1) rfl rfl rfl (by decide +kernel) ⟨Nat.le_of_ble_eq_true rfl, Nat.le_of_ble_eq_true rfl⟩) ⟨fun a U g mk q => by obtain ⟨q0, q1, qP, qK, qD, qN⟩ := q; exact ⟨q0, q1, qP, va_K.moved (u := U) (U := U.calling g mk a) (Vm.Alike.refl U.vm) qK, qD, nx_K.same (u := U) (U := U.calling g mk a) rfl qN⟩, va_recv hKc hPc (ci := 11) (q0 := 0) rfl rfl, fun U hU hW => ⟨rfl, by rw [hU], by rw [hU]; exact hPc, va_K.moved hW.alike hKc, hDc.weaken (fun _ _ _ _ => trivial), nx_K.warm hW hN⟩⟩ rfl rfl hl.1 rfl (lv_room (Nat.le_of_ble_eq_true rfl)) d_House_tell_12 ⟨Nat.le_of_ble_eq_true rfl, Nat.le_of_ble_eq_true rfl⟩) hS (fun q _ h => hFc q h) hFc (fun r_3 u t H1 locs ht hvm hw hB hz1 hk1 hS => ?_)
      obtain ⟨hP1, hK1, hD1⟩ := hB
      rw [ht] at hP1
      have hK1 := va_K.moved hvm.symm hK1
      have hr_3 := hw
      obtain ⟨hP, hD⟩ := va_join (wr := [(x_tape, .inl (cT, 400, .inl fT)), (x_reader, .inr (8, [.ref t0, .int 0, .int 0, .int ft, .int wx, .int wy, .int 0, .ref r_left, .ref r_right, .ref r_told, .ref r_curve, .int 0, .int 0, .int 0, .int 0, .ref r_steps, .int 0, .ref r_stack, .int 0])), (r_left, .inr (2, [.ref x_c])), (x_c, .inl (cL, 9, .inr (.inr (.inr (.inr fc))))), (p0, .inr (6, [.ref dk, .ref y0, .int 0])), (p1, .inr (6, [.ref dk, .ref y1, .int 0])), (p2, .inr (6, [.ref dk, .ref y2, .int 0])), (p3, .inr (6, [.ref dk, .ref y3, .int 0])), (p4, .inr (6, [.ref dk, .ref y4, .int 0])), (p5, .inr (6, [.ref dk, .ref y5, .int 0])), (p6, .inr (6, [.ref dk, .ref y6, .int 0])), (p7, .inr (6, [.ref dk, .ref y7, .int 0])), (p8, .inr (6, [.ref dk, .ref y8, .int 0]))]) (w1 := [(h0, .inr (11, [.ref x_desk, .ref x_reader, .ref x_cells, .ref x_tape, .int 0, .ref x_script, .int 0, .ref x_rootAt, .ref x_rootTimes, .int 0, .ref x_spotX, .ref x_spotY, .ref x_bond, .int 0, .ref x_end, .ref x_span, .int 0, .ref x_part, .ref x_partPower, .int 0, .ref x_kept]))]) hP hD [0] [1, 2, 3, 4, 5, 6, 7, 8, 9, 10, 11, 12, 13] rfl rfl (by decide) (by decide) hk1 hFc hP1 hD1
      have hK := (hK.sub (tys' := [(cT, .int), (cL, .object "RealHouse$Poly")]) [0, 1] rfl).app hK1
      generalize H1 = H at hP hS ⊢
      have hP : va_P (dC, dI) classes [(x_tape, .inl (cT, 400, .inl fT)), (x_reader, .inr (8, [.ref t0, .int 0, .int 0, .int ft, .int wx, .int wy, .int 0, .ref r_left, .ref r_right, .ref r_told, .ref r_curve, .int 0, .int 0, .int 0, .int 0, .ref r_steps, .int 0, .ref r_stack, .int 0])), (r_left, .inr (2, [.ref x_c])), (x_c, .inl (cL, 9, .inr (.inr (.inr (.inr fc))))), (p0, .inr (6, [.ref dk, .ref y0, .int 0])), (p1, .inr (6, [.ref dk, .ref y1, .int 0])), (p2, .inr (6, [.ref dk, .ref y2, .int 0])), (p3, .inr (6, [.ref dk, .ref y3, .int 0])), (p4, .inr (6, [.ref dk, .ref y4, .int 0])), (p5, .inr (6, [.ref dk, .ref y5, .int 0])), (p6, .inr (6, [.ref dk, .ref y6, .int 0])), (p7, .inr (6, [.ref dk, .ref y7, .int 0])), (p8, .inr (6, [.ref dk, .ref y8, .int 0])), (h0, .inr (11, [.ref x_desk, .ref x_reader, .ref x_cells, .ref x_tape, .int 0, .ref x_script, .int 0, .ref x_rootAt, .ref x_rootTimes, .int 0, .ref x_spotX, .ref x_spotY, .ref x_bond, .int 0, .ref x_end, .ref x_span, .int 0, .ref x_part, .ref x_partPower, .int 0, .ref x_kept]))] H := hP
      have hD : va_D A [(x_tape, .inl (cT, 400, .inl fT)), (x_reader, .inr (8, [.ref t0, .int 0, .int 0, .int ft, .int wx, .int wy, .int 0, .ref r_left, .ref r_right, .ref r_told, .ref r_curve, .int 0, .int 0, .int 0, .int 0, .ref r_steps, .int 0, .ref r_stack, .int 0])), (r_left, .inr (2, [.ref x_c])), (x_c, .inl (cL, 9, .inr (.inr (.inr (.inr fc))))), (p0, .inr (6, [.ref dk, .ref y0, .int 0])), (p1, .inr (6, [.ref dk, .ref y1, .int 0])), (p2, .inr (6, [.ref dk, .ref y2, .int 0])), (p3, .inr (6, [.ref dk, .ref y3, .int 0])), (p4, .inr (6, [.ref dk, .ref y4, .int 0])), (p5, .inr (6, [.ref dk, .ref y5, .int 0])), (p6, .inr (6, [.ref dk, .ref y6, .int 0])), (p7, .inr (6, [.ref dk, .ref y7, .int 0])), (p8, .inr (6, [.ref dk, .ref y8, .int 0])), (h0, .inr (11, [.ref x_desk, .ref x_reader, .ref x_cells, .ref x_tape, .int 0, .ref x_script, .int 0, .ref x_rootAt, .ref x_rootTimes, .int 0, .ref x_spotX, .ref x_spotY, .ref x_bond, .int 0, .ref x_end, .ref x_span, .int 0, .ref x_part, .ref x_partPower, .int 0, .ref x_kept]))] := hD
      have hK : va_K (dC, dI) classes [(cT, .int), (cL, .object "RealHouse$Poly")] s := hK
      refine lv_if_eq (tgt := 20) hx hb d_House_tell_15 (by decide) (fun c_4 => ?_) (fun c_4 => ?_)
      · have hn0 : n = 0 := by
          rcases Decidable.em (n = 0) with h | h
          · exact h
          · rw [if_neg h] at hr_3; rw [hr_3] at c_4; exact absurd c_4 (by decide)
        subst hn0
        refine lv_aload_n hx hb d_House_tell_20 rfl (lv_at hl 0 rfl) ?_
        refine va_get (D := (dC, dI)) (ci := 11) (v := .ref x_reader) (C := R_House) (T := F_House) (N := 21) hx hb hT i_House hown hK hP 13 rfl rfl 1 (by decide) (hT _ tw_616) (fun _ h9 => h9) rfl d_House_tell_21 ?_
        refine lv_aload_n hx hb d_House_tell_24 rfl (lv_at hl 0 rfl) ?_
        refine va_get (D := (dC, dI)) (ci := 11) (v := .ref x_tape) (C := R_House) (T := F_House) (N := 21) hx hb hT i_House hown hK hP 13 rfl rfl 3 (by decide) (hT _ tw_618) (fun _ h9 => h9) rfl d_House_tell_25 ?_
        refine lv_iload_n hx hb d_House_tell_28 rfl (lv_at hl 2 rfl) ?_
        refine lv_iconst (v := 1) hx hb d_House_tell_29 (by decide) ?_
        refine lv_iconst (v := 1) hx hb d_House_tell_30 (by decide) ?_
        have hPc := hP.sub (ws' := [(x_reader, .inr (8, [.ref t0, .int 0, .int 0, .int ft, .int wx, .int wy, .int 0, .ref r_left, .ref r_right, .ref r_told, .ref r_curve, .int 0, .int 0, .int 0, .int 0, .ref r_steps, .int 0, .ref r_stack, .int 0])), (x_tape, .inl (cT, 400, .inl fT))]) [1, 0] rfl
        have hDc := hD.sub (ws' := [(x_reader, .inr (8, [.ref t0, .int 0, .int 0, .int ft, .int wx, .int wy, .int 0, .ref r_left, .ref r_right, .ref r_told, .ref r_curve, .int 0, .int 0, .int 0, .int 0, .ref r_steps, .int 0, .ref r_stack, .int 0])), (x_tape, .inl (cT, 400, .inl fT))]) [1, 0] (by decide) rfl
        have hKc := hK.sub (tys' := [(cT, .int)]) [0] rfl
        have hFc := va_free (wc := [(x_reader, .inr (8, [.ref t0, .int 0, .int 0, .int ft, .int wx, .int wy, .int 0, .ref r_left, .ref r_right, .ref r_told, .ref r_curve, .int 0, .int 0, .int 0, .int 0, .ref r_steps, .int 0, .ref r_stack, .int 0])), (x_tape, .inl (cT, 400, .inl fT))]) hD hS hA [1, 0] rfl
        refine va_callv (va_runV (As := [.ref x_tape, .int 0, .int 1, .int 1]) (rest := []) ⟨hx, hb, hml, hown, hT⟩ (c_Reader_begin_11 l dC dI H.size x_reader x_tape r_left r_right r_told r_curve r_steps r_stack t0 ft wx wy cT fT ) (cwV 4 hT (tb_goodV g_Reader_begin tw_699 tw_700 tw_701 tw_6) rfl rfl rfl (by decide +kernel) ⟨Nat.le_of_ble_eq_true rfl, Nat.le_of_ble_eq_true rfl⟩) ⟨fun a U g mk q => by obtain ⟨q0, q1, qP, qK, qD, qN⟩ := q; exact ⟨q0, q1, qP, va_K.moved (u := U) (U := U.calling g mk a) (Vm.Alike.refl U.vm) qK, qD, nx_K.same (u := U) (U := U.calling g mk a) rfl qN⟩, va_recv hKc hPc (ci := 8) (q0 := 0) rfl rfl, fun U hU hW => ⟨rfl, by rw [hU], by rw [hU]; exact hPc, va_K.moved hW.alike hKc, hDc.weaken (fun _ _ _ _ => trivial), nx_K.warm hW hN⟩⟩ rfl rfl hl.1 rfl (lv_room (Nat.le_of_ble_eq_true rfl)) d_House_tell_31 ⟨Nat.le_of_ble_eq_true rfl, Nat.le_of_ble_eq_true rfl⟩) hS (fun q _ h => hFc q h) hFc (fun u t H1 locs ht hvm hw hB hz1 hk1 hS => ?_)
        obtain ⟨hP1, hK1, hD1⟩ := hB
        rw [ht] at hP1
        have hK1 := va_K.moved hvm.symm hK1
        obtain ⟨hP, hD⟩ := va_join (wr := [(r_left, .inr (2, [.ref x_c])), (x_c, .inl (cL, 9, .inr (.inr (.inr (.inr fc))))), (p0, .inr (6, [.ref dk, .ref y0, .int 0])), (p1, .inr (6, [.ref dk, .ref y1, .int 0])), (p2, .inr (6, [.ref dk, .ref y2, .int 0])), (p3, .inr (6, [.ref dk, .ref y3, .int 0])), (p4, .inr (6, [.ref dk, .ref y4, .int 0])), (p5, .inr (6, [.ref dk, .ref y5, .int 0])), (p6, .inr (6, [.ref dk, .ref y6, .int 0])), (p7, .inr (6, [.ref dk, .ref y7, .int 0])), (p8, .inr (6, [.ref dk, .ref y8, .int 0])), (h0, .inr (11, [.ref x_desk, .ref x_reader, .ref x_cells, .ref x_tape, .int 0, .ref x_script, .int 0, .ref x_rootAt, .ref x_rootTimes, .int 0, .ref x_spotX, .ref x_spotY, .ref x_bond, .int 0, .ref x_end, .ref x_span, .int 0, .ref x_part, .ref x_partPower, .int 0, .ref x_kept]))]) (w1 := [(x_reader, .inr (8, [.ref x_tape, .int 0, .int 0, .int (-1), .int 1, .int 1, .int 0, .ref r_left, .ref r_right, .ref r_told, .ref r_curve, .int 0, .int 0, .int 0, .int 0, .ref r_steps, .int 0, .ref r_stack, .int 0])), (x_tape, .inl (cT, 400, .inl fT))]) hP hD [1, 0] [2, 3, 4, 5, 6, 7, 8, 9, 10, 11, 12, 13] rfl rfl (by decide) (by decide) hk1 hFc hP1 hD1
        have hK := (hK.sub (tys' := [(cL, .object "RealHouse$Poly")]) [1] rfl).app hK1
        generalize H1 = H at hP hS ⊢
        have hP : va_P (dC, dI) classes [(r_left, .inr (2, [.ref x_c])), (x_c, .inl (cL, 9, .inr (.inr (.inr (.inr fc))))), (p0, .inr (6, [.ref dk, .ref y0, .int 0])), (p1, .inr (6, [.ref dk, .ref y1, .int 0])), (p2, .inr (6, [.ref dk, .ref y2, .int 0])), (p3, .inr (6, [.ref dk, .ref y3, .int 0])), (p4, .inr (6, [.ref dk, .ref y4, .int 0])), (p5, .inr (6, [.ref dk, .ref y5, .int 0])), (p6, .inr (6, [.ref dk, .ref y6, .int 0])), (p7, .inr (6, [.ref dk, .ref y7, .int 0])), (p8, .inr (6, [.ref dk, .ref y8, .int 0])), (h0, .inr (11, [.ref x_desk, .ref x_reader, .ref x_cells, .ref x_tape, .int 0, .ref x_script, .int 0, .ref x_rootAt, .ref x_rootTimes, .int 0, .ref x_spotX, .ref x_spotY, .ref x_bond, .int 0, .ref x_end, .ref x_span, .int 0, .ref x_part, .ref x_partPower, .int 0, .ref x_kept])), (x_reader, .inr (8, [.ref x_tape, .int 0, .int 0, .int (-1), .int 1, .int 1, .int 0, .ref r_left, .ref r_right, .ref r_told, .ref r_curve, .int 0, .int 0, .int 0, .int 0, .ref r_steps, .int 0, .ref r_stack, .int 0])), (x_tape, .inl (cT, 400, .inl fT))] H := hP
        have hD : va_D A [(r_left, .inr (2, [.ref x_c])), (x_c, .inl (cL, 9, .inr (.inr (.inr (.inr fc))))), (p0, .inr (6, [.ref dk, .ref y0, .int 0])), (p1, .inr (6, [.ref dk, .ref y1, .int 0])), (p2, .inr (6, [.ref dk, .ref y2, .int 0])), (p3, .inr (6, [.ref dk, .ref y3, .int 0])), (p4, .inr (6, [.ref dk, .ref y4, .int 0])), (p5, .inr (6, [.ref dk, .ref y5, .int 0])), (p6, .inr (6, [.ref dk, .ref y6, .int 0])), (p7, .inr (6, [.ref dk, .ref y7, .int 0])), (p8, .inr (6, [.ref dk, .ref y8, .int 0])), (h0, .inr (11, [.ref x_desk, .ref x_reader, .ref x_cells, .ref x_tape, .int 0, .ref x_script, .int 0, .ref x_rootAt, .ref x_rootTimes, .int 0, .ref x_spotX, .ref x_spotY, .ref x_bond, .int 0, .ref x_end, .ref x_span, .int 0, .ref x_part, .ref x_partPower, .int 0, .ref x_kept])), (x_reader, .inr (8, [.ref x_tape, .int 0, .int 0, .int (-1), .int 1, .int 1, .int 0, .ref r_left, .ref r_right, .ref r_told, .ref r_curve, .int 0, .int 0, .int 0, .int 0, .ref r_steps, .int 0, .ref r_stack, .int 0])), (x_tape, .inl (cT, 400, .inl fT))] := hD
        have hK : va_K (dC, dI) classes [(cL, .object "RealHouse$Poly"), (cT, .int)] s := hK
        refine lv_aload_n hx hb d_House_tell_34 rfl (lv_at hl 0 rfl) ?_
        refine va_get (D := (dC, dI)) (ci := 11) (v := .ref x_reader) (C := R_House) (T := F_House) (N := 21) hx hb hT i_House hown hK hP 11 rfl rfl 1 (by decide) (hT _ tw_616) (fun _ h9 => h9) rfl d_House_tell_35 ?_
        refine lv_iload_n hx hb d_House_tell_38 rfl (lv_at hl 1 rfl) ?_
        refine lv_iconst (v := 3) hx hb d_House_tell_39 (by decide) ?_
        refine lv_icmp_le (tgt := 47) hx hb d_House_tell_40 (by decide) (fun c_5 => ?_) (fun c_5 => ?_)
        · refine lv_iconst (v := 0) hx hb d_House_tell_47 (by decide) ?_
          have hPc := hP.sub (ws' := [(x_reader, .inr (8, [.ref x_tape, .int 0, .int 0, .int (-1), .int 1, .int 1, .int 0, .ref r_left, .ref r_right, .ref r_told, .ref r_curve, .int 0, .int 0, .int 0, .int 0, .ref r_steps, .int 0, .ref r_stack, .int 0])), (r_left, .inr (2, [.ref x_c])), (x_c, .inl (cL, 9, .inr (.inr (.inr (.inr fc))))), (p0, .inr (6, [.ref dk, .ref y0, .int 0])), (p1, .inr (6, [.ref dk, .ref y1, .int 0])), (p2, .inr (6, [.ref dk, .ref y2, .int 0])), (p3, .inr (6, [.ref dk, .ref y3, .int 0])), (p4, .inr (6, [.ref dk, .ref y4, .int 0])), (p5, .inr (6, [.ref dk, .ref y5, .int 0])), (p6, .inr (6, [.ref dk, .ref y6, .int 0])), (p7, .inr (6, [.ref dk, .ref y7, .int 0])), (p8, .inr (6, [.ref dk, .ref y8, .int 0]))]) [12, 0, 1, 2, 3, 4, 5, 6, 7, 8, 9, 10] rfl
          have hDc := hD.sub (ws' := [(x_reader, .inr (8, [.ref x_tape, .int 0, .int 0, .int (-1), .int 1, .int 1, .int 0, .ref r_left, .ref r_right, .ref r_told, .ref r_curve, .int 0, .int 0, .int 0, .int 0, .ref r_steps, .int 0, .ref r_stack, .int 0])), (r_left, .inr (2, [.ref x_c])), (x_c, .inl (cL, 9, .inr (.inr (.inr (.inr fc))))), (p0, .inr (6, [.ref dk, .ref y0, .int 0])), (p1, .inr (6, [.ref dk, .ref y1, .int 0])), (p2, .inr (6, [.ref dk, .ref y2, .int 0])), (p3, .inr (6, [.ref dk, .ref y3, .int 0])), (p4, .inr (6, [.ref dk, .ref y4, .int 0])), (p5, .inr (6, [.ref dk, .ref y5, .int 0])), (p6, .inr (6, [.ref dk, .ref y6, .int 0])), (p7, .inr (6, [.ref dk, .ref y7, .int 0])), (p8, .inr (6, [.ref dk, .ref y8, .int 0]))]) [12, 0, 1, 2, 3, 4, 5, 6, 7, 8, 9, 10] (by decide) rfl
          have hKc := hK.sub (tys' := [(cL, .object "RealHouse$Poly")]) [0] rfl
          have hFc := va_free (wc := [(x_reader, .inr (8, [.ref x_tape, .int 0, .int 0, .int (-1), .int 1, .int 1, .int 0, .ref r_left, .ref r_right, .ref r_told, .ref r_curve, .int 0, .int 0, .int 0, .int 0, .ref r_steps, .int 0, .ref r_stack, .int 0])), (r_left, .inr (2, [.ref x_c])), (x_c, .inl (cL, 9, .inr (.inr (.inr (.inr fc))))), (p0, .inr (6, [.ref dk, .ref y0, .int 0])), (p1, .inr (6, [.ref dk, .ref y1, .int 0])), (p2, .inr (6, [.ref dk, .ref y2, .int 0])), (p3, .inr (6, [.ref dk, .ref y3, .int 0])), (p4, .inr (6, [.ref dk, .ref y4, .int 0])), (p5, .inr (6, [.ref dk, .ref y5, .int 0])), (p6, .inr (6, [.ref dk, .ref y6, .int 0])), (p7, .inr (6, [.ref dk, .ref y7, .int 0])), (p8, .inr (6, [.ref dk, .ref y8, .int 0]))]) hD hS hA [12, 0, 1, 2, 3, 4, 5, 6, 7, 8, 9, 10] rfl
          refine va_callv (va_runV (As := [.int 0]) (rest := []) ⟨hx, hb, hml, hown, hT⟩ (c_Reader_readPolys_0 l dC dI H.size x_reader x_tape r_left r_right r_told r_curve r_steps r_stack 1 1 x_c cL fc dk p0 p1 p2 p3 p4 p5 p6 p7 p8 y0 y1 y2 y3 y4 y5 y6 y7 y8 0 hF) (cwV 1 hT (tb_goodV g_Reader_readPolys tw_706 tw_707 tw_708 tw_6) rfl rfl rfl (by decide +kernel) ⟨Nat.le_of_ble_eq_true rfl, Nat.le_of_ble_eq_true rfl⟩) ⟨fun a U g mk q => by obtain ⟨q0, q1, qP, qK, qD, qN⟩ := q; exact ⟨q0, q1, qP, va_K.moved (u := U) (U := U.calling g mk a) (Vm.Alike.refl U.vm) qK, qD, nx_K.same (u := U) (U := U.calling g mk a) rfl qN⟩, va_recv hKc hPc (ci := 8) (q0 := 0) rfl rfl, fun U hU hW => ⟨rfl, by rw [hU], by rw [hU]; exact hPc, va_K.moved hW.alike hKc, hDc.weaken (fun _ _ _ _ => trivial), nx_K.warm hW hN⟩⟩ rfl rfl hl.1 rfl (lv_room (Nat.le_of_ble_eq_true rfl)) d_House_tell_48 ⟨Nat.le_of_ble_eq_true rfl, Nat.le_of_ble_eq_true rfl⟩) hS (fun q _ h => hFc q h) hFc (fun u t H1 locs ht hvm hw hB hz1 hk1 hS => ?_)
          obtain ⟨hP1, hK1, hD1⟩ := hB
          rw [ht] at hP1
          have hK1 := va_K.moved hvm.symm hK1
          obtain ⟨hP, hD⟩ := va_join (wr := [(h0, .inr (11, [.ref x_desk, .ref x_reader, .ref x_cells, .ref x_tape, .int 0, .ref x_script, .int 0, .ref x_rootAt, .ref x_rootTimes, .int 0, .ref x_spotX, .ref x_spotY, .ref x_bond, .int 0, .ref x_end, .ref x_span, .int 0, .ref x_part, .ref x_partPower, .int 0, .ref x_kept])), (x_tape, .inl (cT, 400, .inl fT))]) (w1 := [(x_reader, .inr (8, [.ref x_tape, .int 0, .int 0, .int 0, .int 1, .int 1, .int 0, .ref r_left, .ref r_right, .ref r_told, .ref r_curve, .int 0, .int 0, .int 0, .int 0, .ref r_steps, .int 0, .ref r_stack, .int 0])), (r_left, .inr (2, [.ref x_c])), (x_c, .inl (cL, 9, .inr (.inr (.inr (.inr fc))))), (p0, .inr (6, [.ref dk, .ref y0, .int 0])), (p1, .inr (6, [.ref dk, .ref y1, .int 0])), (p2, .inr (6, [.ref dk, .ref y2, .int 0])), (p3, .inr (6, [.ref dk, .ref y3, .int 0])), (p4, .inr (6, [.ref dk, .ref y4, .int 0])), (p5, .inr (6, [.ref dk, .ref y5, .int 0])), (p6, .inr (6, [.ref dk, .ref y6, .int 0])), (p7, .inr (6, [.ref dk, .ref y7, .int 0])), (p8, .inr (6, [.ref dk, .ref y8, .int 0]))]) hP hD [12, 0, 1, 2, 3, 4, 5, 6, 7, 8, 9, 10] [11, 13] rfl rfl (by decide) (by decide) hk1 hFc hP1 hD1
          have hK := (hK.sub (tys' := [(cT, .int)]) [1] rfl).app hK1
          generalize H1 = H at hP hS ⊢
          have hP : va_P (dC, dI) classes [(h0, .inr (11, [.ref x_desk, .ref x_reader, .ref x_cells, .ref x_tape, .int 0, .ref x_script, .int 0, .ref x_rootAt, .ref x_rootTimes, .int 0, .ref x_spotX, .ref x_spotY, .ref x_bond, .int 0, .ref x_end, .ref x_span, .int 0, .ref x_part, .ref x_partPower, .int 0, .ref x_kept])), (x_tape, .inl (cT, 400, .inl fT)), (x_reader, .inr (8, [.ref x_tape, .int 0, .int 0, .int 0, .int 1, .int 1, .int 0, .ref r_left, .ref r_right, .ref r_told, .ref r_curve, .int 0, .int 0, .int 0, .int 0, .ref r_steps, .int 0, .ref r_stack, .int 0])), (r_left, .inr (2, [.ref x_c])), (x_c, .inl (cL, 9, .inr (.inr (.inr (.inr fc))))), (p0, .inr (6, [.ref dk, .ref y0, .int 0])), (p1, .inr (6, [.ref dk, .ref y1, .int 0])), (p2, .inr (6, [.ref dk, .ref y2, .int 0])), (p3, .inr (6, [.ref dk, .ref y3, .int 0])), (p4, .inr (6, [.ref dk, .ref y4, .int 0])), (p5, .inr (6, [.ref dk, .ref y5, .int 0])), (p6, .inr (6, [.ref dk, .ref y6, .int 0])), (p7, .inr (6, [.ref dk, .ref y7, .int 0])), (p8, .inr (6, [.ref dk, .ref y8, .int 0]))] H := hP
          have hD : va_D A [(h0, .inr (11, [.ref x_desk, .ref x_reader, .ref x_cells, .ref x_tape, .int 0, .ref x_script, .int 0, .ref x_rootAt, .ref x_rootTimes, .int 0, .ref x_spotX, .ref x_spotY, .ref x_bond, .int 0, .ref x_end, .ref x_span, .int 0, .ref x_part, .ref x_partPower, .int 0, .ref x_kept])), (x_tape, .inl (cT, 400, .inl fT)), (x_reader, .inr (8, [.ref x_tape, .int 0, .int 0, .int 0, .int 1, .int 1, .int 0, .ref r_left, .ref r_right, .ref r_told, .ref r_curve, .int 0, .int 0, .int 0, .int 0, .ref r_steps, .int 0, .ref r_stack, .int 0])), (r_left, .inr (2, [.ref x_c])), (x_c, .inl (cL, 9, .inr (.inr (.inr (.inr fc))))), (p0, .inr (6, [.ref dk, .ref y0, .int 0])), (p1, .inr (6, [.ref dk, .ref y1, .int 0])), (p2, .inr (6, [.ref dk, .ref y2, .int 0])), (p3, .inr (6, [.ref dk, .ref y3, .int 0])), (p4, .inr (6, [.ref dk, .ref y4, .int 0])), (p5, .inr (6, [.ref dk, .ref y5, .int 0])), (p6, .inr (6, [.ref dk, .ref y6, .int 0])), (p7, .inr (6, [.ref dk, .ref y7, .int 0])), (p8, .inr (6, [.ref dk, .ref y8, .int 0]))] := hD
          have hK : va_K (dC, dI) classes [(cT, .int), (cL, .object "RealHouse$Poly")] s := hK
          refine lv_aload_n hx hb d_House_tell_51 rfl (lv_at hl 0 rfl) ?_
          refine va_get (D := (dC, dI)) (ci := 11) (v := .ref x_reader) (C := R_House) (T := F_House) (N := 21) hx hb hT i_House hown hK hP 0 rfl rfl 1 (by decide) (hT _ tw_616) (fun _ h9 => h9) rfl d_House_tell_52 ?_
          refine va_get (D := (dC, dI)) (ci := 8) (v := .int 0) (C := R_Reader) (T := F_Reader) (N := 19) hx hb hT i_Reader hown hK hP 2 rfl rfl 3 (by decide) (hT _ tw_237) (fun _ h9 => h9) rfl d_House_tell_55 ?_
          refine lv_if_lt (tgt := 66) hx hb d_House_tell_58 (by decide) (fun c_6 => absurd c_6 (by decide)) (fun c_6 => ?_)
          refine lv_aload_n hx hb d_House_tell_61 rfl (lv_at hl 0 rfl) ?_
          have hPc := hP.sub (ws' := [(h0, .inr (11, [.ref x_desk, .ref x_reader, .ref x_cells, .ref x_tape, .int 0, .ref x_script, .int 0, .ref x_rootAt, .ref x_rootTimes, .int 0, .ref x_spotX, .ref x_spotY, .ref x_bond, .int 0, .ref x_end, .ref x_span, .int 0, .ref x_part, .ref x_partPower, .int 0, .ref x_kept])), (x_reader, .inr (8, [.ref x_tape, .int 0, .int 0, .int 0, .int 1, .int 1, .int 0, .ref r_left, .ref r_right, .ref r_told, .ref r_curve, .int 0, .int 0, .int 0, .int 0, .ref r_steps, .int 0, .ref r_stack, .int 0]))]) [0, 2] rfl
          have hDc := hD.sub (ws' := [(h0, .inr (11, [.ref x_desk, .ref x_reader, .ref x_cells, .ref x_tape, .int 0, .ref x_script, .int 0, .ref x_rootAt, .ref x_rootTimes, .int 0, .ref x_spotX, .ref x_spotY, .ref x_bond, .int 0, .ref x_end, .ref x_span, .int 0, .ref x_part, .ref x_partPower, .int 0, .ref x_kept])), (x_reader, .inr (8, [.ref x_tape, .int 0, .int 0, .int 0, .int 1, .int 1, .int 0, .ref r_left, .ref r_right, .ref r_told, .ref r_curve, .int 0, .int 0, .int 0, .int 0, .ref r_steps, .int 0, .ref r_stack, .int 0]))]) [0, 2] (by decide) rfl
          have hKc := hK.sub (tys' := []) [] rfl
          have hFc := va_free (wc := [(h0, .inr (11, [.ref x_desk, .ref x_reader, .ref x_cells, .ref x_tape, .int 0, .ref x_script, .int 0, .ref x_rootAt, .ref x_rootTimes, .int 0, .ref x_spotX, .ref x_spotY, .ref x_bond, .int 0, .ref x_end, .ref x_span, .int 0, .ref x_part, .ref x_partPower, .int 0, .ref x_kept])), (x_reader, .inr (8, [.ref x_tape, .int 0, .int 0, .int 0, .int 1, .int 1, .int 0, .ref r_left, .ref r_right, .ref r_told, .ref r_curve, .int 0, .int 0, .int 0, .int 0, .ref r_steps, .int 0, .ref r_stack, .int 0]))]) hD hS hA [0, 2] rfl
          refine va_calli (va_runV (As := []) (rest := []) ⟨hx, hb, hml, hown, hT⟩ (c_House_faulty_0 l dC dI H.size h0 x_desk x_reader x_cells x_tape x_script x_rootAt x_rootTimes x_spotX x_spotY x_bond x_end x_span x_part x_partPower x_kept r_left r_right r_told r_curve r_steps r_stack x_tape 1 1 ) (cwV 0 hT (tb_goodV g_House_faulty tw_766 tw_768 (tb_sel (q := (⟨"RealHouse", "faulty", "()I"⟩, 21)) (i := 9) (by decide +kernel)) tw_1) rfl rfl rfl (by decide +kernel) ⟨Nat.le_of_ble_eq_true rfl, Nat.le_of_ble_eq_true rfl⟩) ⟨fun a U g mk q => by obtain ⟨q0, q1, qP, qK, qD, qN⟩ := q; exact ⟨q0, q1, qP, va_K.moved (u := U) (U := U.calling g mk a) (Vm.Alike.refl U.vm) qK, qD, nx_K.same (u := U) (U := U.calling g mk a) rfl qN⟩, va_recv hKc hPc (ci := 11) (q0 := 0) rfl rfl, fun U hU hW => ⟨rfl, by rw [hU], by rw [hU]; exact hPc, va_K.moved hW.alike hKc, hDc.weaken (fun _ _ _ _ => trivial), nx_K.warm hW hN⟩⟩ rfl rfl hl.1 rfl (lv_room (Nat.le_of_ble_eq_true rfl)) d_House_tell_62 ⟨Nat.le_of_ble_eq_true rfl, Nat.le_of_ble_eq_true rfl⟩) hS (fun q _ h => hFc q h) hFc (fun r_7 u t H1 locs ht hvm hw hB hz1 hk1 hS => ?_)
          obtain ⟨hP1, hK1, hD1⟩ := hB
          rw [ht] at hP1
          have hK1 := va_K.moved hvm.symm hK1
          obtain rfl : r_7 = (-2) := hw
          obtain ⟨hP, hD⟩ := va_join (wr := [(x_tape, .inl (cT, 400, .inl fT)), (r_left, .inr (2, [.ref x_c])), (x_c, .inl (cL, 9, .inr (.inr (.inr (.inr fc))))), (p0, .inr (6, [.ref dk, .ref y0, .int 0])), (p1, .inr (6, [.ref dk, .ref y1, .int 0])), (p2, .inr (6, [.ref dk, .ref y2, .int 0])), (p3, .inr (6, [.ref dk, .ref y3, .int 0])), (p4, .inr (6, [.ref dk, .ref y4, .int 0])), (p5, .inr (6, [.ref dk, .ref y5, .int 0])), (p6, .inr (6, [.ref dk, .ref y6, .int 0])), (p7, .inr (6, [.ref dk, .ref y7, .int 0])), (p8, .inr (6, [.ref dk, .ref y8, .int 0]))]) (w1 := [(h0, .inr (11, [.ref x_desk, .ref x_reader, .ref x_cells, .ref x_tape, .int 0, .ref x_script, .int 0, .ref x_rootAt, .ref x_rootTimes, .int 0, .ref x_spotX, .ref x_spotY, .ref x_bond, .int 0, .ref x_end, .ref x_span, .int 0, .ref x_part, .ref x_partPower, .int 0, .ref x_kept])), (x_reader, .inr (8, [.ref x_tape, .int 0, .int 0, .int 0, .int 1, .int 1, .int 0, .ref r_left, .ref r_right, .ref r_told, .ref r_curve, .int 0, .int 0, .int 0, .int 0, .ref r_steps, .int 0, .ref r_stack, .int 0]))]) hP hD [0, 2] [1, 3, 4, 5, 6, 7, 8, 9, 10, 11, 12, 13] rfl rfl (by decide) (by decide) hk1 hFc hP1 hD1
          have hK := (hK.sub (tys' := [(cT, .int), (cL, .object "RealHouse$Poly")]) [0, 1] rfl).app hK1
          generalize H1 = H at hP hS ⊢
          have hP : va_P (dC, dI) classes [(x_tape, .inl (cT, 400, .inl fT)), (r_left, .inr (2, [.ref x_c])), (x_c, .inl (cL, 9, .inr (.inr (.inr (.inr fc))))), (p0, .inr (6, [.ref dk, .ref y0, .int 0])), (p1, .inr (6, [.ref dk, .ref y1, .int 0])), (p2, .inr (6, [.ref dk, .ref y2, .int 0])), (p3, .inr (6, [.ref dk, .ref y3, .int 0])), (p4, .inr (6, [.ref dk, .ref y4, .int 0])), (p5, .inr (6, [.ref dk, .ref y5, .int 0])), (p6, .inr (6, [.ref dk, .ref y6, .int 0])), (p7, .inr (6, [.ref dk, .ref y7, .int 0])), (p8, .inr (6, [.ref dk, .ref y8, .int 0])), (h0, .inr (11, [.ref x_desk, .ref x_reader, .ref x_cells, .ref x_tape, .int 0, .ref x_script, .int 0, .ref x_rootAt, .ref x_rootTimes, .int 0, .ref x_spotX, .ref x_spotY, .ref x_bond, .int 0, .ref x_end, .ref x_span, .int 0, .ref x_part, .ref x_partPower, .int 0, .ref x_kept])), (x_reader, .inr (8, [.ref x_tape, .int 0, .int 0, .int 0, .int 1, .int 1, .int 0, .ref r_left, .ref r_right, .ref r_told, .ref r_curve, .int 0, .int 0, .int 0, .int 0, .ref r_steps, .int 0, .ref r_stack, .int 0]))] H := hP
          have hD : va_D A [(x_tape, .inl (cT, 400, .inl fT)), (r_left, .inr (2, [.ref x_c])), (x_c, .inl (cL, 9, .inr (.inr (.inr (.inr fc))))), (p0, .inr (6, [.ref dk, .ref y0, .int 0])), (p1, .inr (6, [.ref dk, .ref y1, .int 0])), (p2, .inr (6, [.ref dk, .ref y2, .int 0])), (p3, .inr (6, [.ref dk, .ref y3, .int 0])), (p4, .inr (6, [.ref dk, .ref y4, .int 0])), (p5, .inr (6, [.ref dk, .ref y5, .int 0])), (p6, .inr (6, [.ref dk, .ref y6, .int 0])), (p7, .inr (6, [.ref dk, .ref y7, .int 0])), (p8, .inr (6, [.ref dk, .ref y8, .int 0])), (h0, .inr (11, [.ref x_desk, .ref x_reader, .ref x_cells, .ref x_tape, .int 0, .ref x_script, .int 0, .ref x_rootAt, .ref x_rootTimes, .int 0, .ref x_spotX, .ref x_spotY, .ref x_bond, .int 0, .ref x_end, .ref x_span, .int 0, .ref x_part, .ref x_partPower, .int 0, .ref x_kept])), (x_reader, .inr (8, [.ref x_tape, .int 0, .int 0, .int 0, .int 1, .int 1, .int 0, .ref r_left, .ref r_right, .ref r_told, .ref r_curve, .int 0, .int 0, .int 0, .int 0, .ref r_steps, .int 0, .ref r_stack, .int 0]))] := hD
          have hK : va_K (dC, dI) classes [(cT, .int), (cL, .object "RealHouse$Poly")] s := hK
          have hP9 := hP.sub (ws' := []) [] rfl
          have hD9 := hD.sub (ws' := []) [] (by decide) rfl
          have hK9 := hK.sub (tys' := []) [] rfl
          exact W.iret (v := (-2)) hx hb hr (fun t ht hW => ⟨⟨(-2), (), rfl, (if_pos ⟨rfl, Int32.not_lt.mp c_1, Int32.not_lt.mp c_2⟩).symm, by rw [ht]; exact hP9, va_K.moved hW.alike hK9, hD9⟩, hS.F ht⟩) hS.2.2 d_House_tell_65
        · refine lv_iconst (v := 1) hx hb d_House_tell_43 (by decide) ?_
          refine lv_goto (tgt := 48) hx hb d_House_tell_44 (by decide) ?_
          have hPc := hP.sub (ws' := [(x_reader, .inr (8, [.ref x_tape, .int 0, .int 0, .int (-1), .int 1, .int 1, .int 0, .ref r_left, .ref r_right, .ref r_told, .ref r_curve, .int 0, .int 0, .int 0, .int 0, .ref r_steps, .int 0, .ref r_stack, .int 0])), (r_left, .inr (2, [.ref x_c])), (x_c, .inl (cL, 9, .inr (.inr (.inr (.inr fc))))), (p0, .inr (6, [.ref dk, .ref y0, .int 0])), (p1, .inr (6, [.ref dk, .ref y1, .int 0])), (p2, .inr (6, [.ref dk, .ref y2, .int 0])), (p3, .inr (6, [.ref dk, .ref y3, .int 0])), (p4, .inr (6, [.ref dk, .ref y4, .int 0])), (p5, .inr (6, [.ref dk, .ref y5, .int 0])), (p6, .inr (6, [.ref dk, .ref y6, .int 0])), (p7, .inr (6, [.ref dk, .ref y7, .int 0])), (p8, .inr (6, [.ref dk, .ref y8, .int 0]))]) [12, 0, 1, 2, 3, 4, 5, 6, 7, 8, 9, 10] rfl
          have hDc := hD.sub (ws' := [(x_reader, .inr (8, [.ref x_tape, .int 0, .int 0, .int (-1), .int 1, .int 1, .int 0, .ref r_left, .ref r_right, .ref r_told, .ref r_curve, .int 0, .int 0, .int 0, .int 0, .ref r_steps, .int 0, .ref r_stack, .int 0])), (r_left, .inr (2, [.ref x_c])), (x_c, .inl (cL, 9, .inr (.inr (.inr (.inr fc))))), (p0, .inr (6, [.ref dk, .ref y0, .int 0])), (p1, .inr (6, [.ref dk, .ref y1, .int 0])), (p2, .inr (6, [.ref dk, .ref y2, .int 0])), (p3, .inr (6, [.ref dk, .ref y3, .int 0])), (p4, .inr (6, [.ref dk, .ref y4, .int 0])), (p5, .inr (6, [.ref dk, .ref y5, .int 0])), (p6, .inr (6, [.ref dk, .ref y6, .int 0])), (p7, .inr (6, [.ref dk, .ref y7, .int 0])), (p8, .inr (6, [.ref dk, .ref y8, .int 0]))]) [12, 0, 1, 2, 3, 4, 5, 6, 7, 8, 9, 10] (by decide) rfl
          have hKc := hK.sub (tys' := [(cL, .object "RealHouse$Poly")]) [0] rfl
          have hFc := va_free (wc := [(x_reader, .inr (8, [.ref x_tape, .int 0, .int 0, .int (-1), .int 1, .int 1, .int 0, .ref r_left, .ref r_right, .ref r_told, .ref r_curve, .int 0, .int 0, .int 0, .int 0, .ref r_steps, .int 0, .ref r_stack, .int 0])), (r_left, .inr (2, [.ref x_c])), (x_c, .inl (cL, 9, .inr (.inr (.inr (.inr fc))))), (p0, .inr (6, [.ref dk, .ref y0, .int 0])), (p1, .inr (6, [.ref dk, .ref y1, .int 0])), (p2, .inr (6, [.ref dk, .ref y2, .int 0])), (p3, .inr (6, [.ref dk, .ref y3, .int 0])), (p4, .inr (6, [.ref dk, .ref y4, .int 0])), (p5, .inr (6, [.ref dk, .ref y5, .int 0])), (p6, .inr (6, [.ref dk, .ref y6, .int 0])), (p7, .inr (6, [.ref dk, .ref y7, .int 0])), (p8, .inr (6, [.ref dk, .ref y8, .int 0]))]) hD hS hA [12, 0, 1, 2, 3, 4, 5, 6, 7, 8, 9, 10] rfl
          refine va_callv (va_runV (As := [.int 1]) (rest := []) ⟨hx, hb, hml, hown, hT⟩ (c_Reader_readPolys_0 l dC dI H.size x_reader x_tape r_left r_right r_told r_curve r_steps r_stack 1 1 x_c cL fc dk p0 p1 p2 p3 p4 p5 p6 p7 p8 y0 y1 y2 y3 y4 y5 y6 y7 y8 1 hF) (cwV 1 hT (tb_goodV g_Reader_readPolys tw_706 tw_707 tw_708 tw_6) rfl rfl rfl (by decide +kernel) ⟨Nat.le_of_ble_eq_true rfl, Nat.le_of_ble_eq_true rfl⟩) ⟨fun a U g mk q => by obtain ⟨q0, q1, qP, qK, qD, qN⟩ := q; exact ⟨q0, q1, qP, va_K.moved (u := U) (U := U.calling g mk a) (Vm.Alike.refl U.vm) qK, qD, nx_K.same (u := U) (U := U.calling g mk a) rfl qN⟩, va_recv hKc hPc (ci := 8) (q0 := 0) rfl rfl, fun U hU hW => ⟨rfl, by rw [hU], by rw [hU]; exact hPc, va_K.moved hW.alike hKc, hDc.weaken (fun _ _ _ _ => trivial), nx_K.warm hW hN⟩⟩ rfl rfl hl.1 rfl (lv_room (Nat.le_of_ble_eq_true rfl)) d_House_tell_48 ⟨Nat.le_of_ble_eq_true rfl, Nat.le_of_ble_eq_true rfl⟩) hS (fun q _ h => hFc q h) hFc (fun u t H1 locs ht hvm hw hB hz1 hk1 hS => ?_)
          obtain ⟨hP1, hK1, hD1⟩ := hB
          rw [ht] at hP1
          have hK1 := va_K.moved hvm.symm hK1
          obtain ⟨hP, hD⟩ := va_join (wr := [(h0, .inr (11, [.ref x_desk, .ref x_reader, .ref x_cells, .ref x_tape, .int 0, .ref x_script, .int 0, .ref x_rootAt, .ref x_rootTimes, .int 0, .ref x_spotX, .ref x_spotY, .ref x_bond, .int 0, .ref x_end, .ref x_span, .int 0, .ref x_part, .ref x_partPower, .int 0, .ref x_kept])), (x_tape, .inl (cT, 400, .inl fT))]) (w1 := [(x_reader, .inr (8, [.ref x_tape, .int 0, .int 0, .int 0, .int 1, .int 1, .int 0, .ref r_left, .ref r_right, .ref r_told, .ref r_curve, .int 0, .int 0, .int 0, .int 0, .ref r_steps, .int 0, .ref r_stack, .int 0])), (r_left, .inr (2, [.ref x_c])), (x_c, .inl (cL, 9, .inr (.inr (.inr (.inr fc))))), (p0, .inr (6, [.ref dk, .ref y0, .int 0])), (p1, .inr (6, [.ref dk, .ref y1, .int 0])), (p2, .inr (6, [.ref dk, .ref y2, .int 0])), (p3, .inr (6, [.ref dk, .ref y3, .int 0])), (p4, .inr (6, [.ref dk, .ref y4, .int 0])), (p5, .inr (6, [.ref dk, .ref y5, .int 0])), (p6, .inr (6, [.ref dk, .ref y6, .int 0])), (p7, .inr (6, [.ref dk, .ref y7, .int 0])), (p8, .inr (6, [.ref dk, .ref y8, .int 0]))]) hP hD [12, 0, 1, 2, 3, 4, 5, 6, 7, 8, 9, 10] [11, 13] rfl rfl (by decide) (by decide) hk1 hFc hP1 hD1
          have hK := (hK.sub (tys' := [(cT, .int)]) [1] rfl).app hK1
          generalize H1 = H at hP hS ⊢
          have hP : va_P (dC, dI) classes [(h0, .inr (11, [.ref x_desk, .ref x_reader, .ref x_cells, .ref x_tape, .int 0, .ref x_script, .int 0, .ref x_rootAt, .ref x_rootTimes, .int 0, .ref x_spotX, .ref x_spotY, .ref x_bond, .int 0, .ref x_end, .ref x_span, .int 0, .ref x_part, .ref x_partPower, .int 0, .ref x_kept])), (x_tape, .inl (cT, 400, .inl fT)), (x_reader, .inr (8, [.ref x_tape, .int 0, .int 0, .int 0, .int 1, .int 1, .int 0, .ref r_left, .ref r_right, .ref r_told, .ref r_curve, .int 0, .int 0, .int 0, .int 0, .ref r_steps, .int 0, .ref r_stack, .int 0])), (r_left, .inr (2, [.ref x_c])), (x_c, .inl (cL, 9, .inr (.inr (.inr (.inr fc))))), (p0, .inr (6, [.ref dk, .ref y0, .int 0])), (p1, .inr (6, [.ref dk, .ref y1, .int 0])), (p2, .inr (6, [.ref dk, .ref y2, .int 0])), (p3, .inr (6, [.ref dk, .ref y3, .int 0])), (p4, .inr (6, [.ref dk, .ref y4, .int 0])), (p5, .inr (6, [.ref dk, .ref y5, .int 0])), (p6, .inr (6, [.ref dk, .ref y6, .int 0])), (p7, .inr (6, [.ref dk, .ref y7, .int 0])), (p8, .inr (6, [.ref dk, .ref y8, .int 0]))] H := hP
          have hD : va_D A [(h0, .inr (11, [.ref x_desk, .ref x_reader, .ref x_cells, .ref x_tape, .int 0, .ref x_script, .int 0, .ref x_rootAt, .ref x_rootTimes, .int 0, .ref x_spotX, .ref x_spotY, .ref x_bond, .int 0, .ref x_end, .ref x_span, .int 0, .ref x_part, .ref x_partPower, .int 0, .ref x_kept])), (x_tape, .inl (cT, 400, .inl fT)), (x_reader, .inr (8, [.ref x_tape, .int 0, .int 0, .int 0, .int 1, .int 1, .int 0, .ref r_left, .ref r_right, .ref r_told, .ref r_curve, .int 0, .int 0, .int 0, .int 0, .ref r_steps, .int 0, .ref r_stack, .int 0])), (r_left, .inr (2, [.ref x_c])), (x_c, .inl (cL, 9, .inr (.inr (.inr (.inr fc))))), (p0, .inr (6, [.ref dk, .ref y0, .int 0])), (p1, .inr (6, [.ref dk, .ref y1, .int 0])), (p2, .inr (6, [.ref dk, .ref y2, .int 0])), (p3, .inr (6, [.ref dk, .ref y3, .int 0])), (p4, .inr (6, [.ref dk, .ref y4, .int 0])), (p5, .inr (6, [.ref dk, .ref y5, .int 0])), (p6, .inr (6, [.ref dk, .ref y6, .int 0])), (p7, .inr (6, [.ref dk, .ref y7, .int 0])), (p8, .inr (6, [.ref dk, .ref y8, .int 0]))] := hD
          have hK : va_K (dC, dI) classes [(cT, .int), (cL, .object "RealHouse$Poly")] s := hK
          refine lv_aload_n hx hb d_House_tell_51 rfl (lv_at hl 0 rfl) ?_
          refine va_get (D := (dC, dI)) (ci := 11) (v := .ref x_reader) (C := R_House) (T := F_House) (N := 21) hx hb hT i_House hown hK hP 0 rfl rfl 1 (by decide) (hT _ tw_616) (fun _ h9 => h9) rfl d_House_tell_52 ?_
          refine va_get (D := (dC, dI)) (ci := 8) (v := .int 0) (C := R_Reader) (T := F_Reader) (N := 19) hx hb hT i_Reader hown hK hP 2 rfl rfl 3 (by decide) (hT _ tw_237) (fun _ h9 => h9) rfl d_House_tell_55 ?_
          refine lv_if_lt (tgt := 66) hx hb d_House_tell_58 (by decide) (fun c_8 => absurd c_8 (by decide)) (fun c_8 => ?_)
          refine lv_aload_n hx hb d_House_tell_61 rfl (lv_at hl 0 rfl) ?_
          have hPc := hP.sub (ws' := [(h0, .inr (11, [.ref x_desk, .ref x_reader, .ref x_cells, .ref x_tape, .int 0, .ref x_script, .int 0, .ref x_rootAt, .ref x_rootTimes, .int 0, .ref x_spotX, .ref x_spotY, .ref x_bond, .int 0, .ref x_end, .ref x_span, .int 0, .ref x_part, .ref x_partPower, .int 0, .ref x_kept])), (x_reader, .inr (8, [.ref x_tape, .int 0, .int 0, .int 0, .int 1, .int 1, .int 0, .ref r_left, .ref r_right, .ref r_told, .ref r_curve, .int 0, .int 0, .int 0, .int 0, .ref r_steps, .int 0, .ref r_stack, .int 0]))]) [0, 2] rfl
          have hDc := hD.sub (ws' := [(h0, .inr (11, [.ref x_desk, .ref x_reader, .ref x_cells, .ref x_tape, .int 0, .ref x_script, .int 0, .ref x_rootAt, .ref x_rootTimes, .int 0, .ref x_spotX, .ref x_spotY, .ref x_bond, .int 0, .ref x_end, .ref x_span, .int 0, .ref x_part, .ref x_partPower, .int 0, .ref x_kept])), (x_reader, .inr (8, [.ref x_tape, .int 0, .int 0, .int 0, .int 1, .int 1, .int 0, .ref r_left, .ref r_right, .ref r_told, .ref r_curve, .int 0, .int 0, .int 0, .int 0, .ref r_steps, .int 0, .ref r_stack, .int 0]))]) [0, 2] (by decide) rfl
          have hKc := hK.sub (tys' := []) [] rfl
          have hFc := va_free (wc := [(h0, .inr (11, [.ref x_desk, .ref x_reader, .ref x_cells, .ref x_tape, .int 0, .ref x_script, .int 0, .ref x_rootAt, .ref x_rootTimes, .int 0, .ref x_spotX, .ref x_spotY, .ref x_bond, .int 0, .ref x_end, .ref x_span, .int 0, .ref x_part, .ref x_partPower, .int 0, .ref x_kept])), (x_reader, .inr (8, [.ref x_tape, .int 0, .int 0, .int 0, .int 1, .int 1, .int 0, .ref r_left, .ref r_right, .ref r_told, .ref r_curve, .int 0, .int 0, .int 0, .int 0, .ref r_steps, .int 0, .ref r_stack, .int 0]))]) hD hS hA [0, 2] rfl
          refine va_calli (va_runV (As := []) (rest := []) ⟨hx, hb, hml, hown, hT⟩ (c_House_faulty_0 l dC dI H.size h0 x_desk x_reader x_cells x_tape x_script x_rootAt x_rootTimes x_spotX x_spotY x_bond x_end x_span x_part x_partPower x_kept r_left r_right r_told r_curve r_steps r_stack x_tape 1 1 ) (cwV 0 hT (tb_goodV g_House_faulty tw_766 tw_768 (tb_sel (q := (⟨"RealHouse", "faulty", "()I"⟩, 21)) (i := 9) (by decide +kernel)) tw_1) rfl rfl rfl (by decide +kernel) ⟨Nat.le_of_ble_eq_true rfl, Nat.le_of_ble_eq_true rfl⟩) ⟨fun a U g mk q => by obtain ⟨q0, q1, qP, qK, qD, qN⟩ := q; exact ⟨q0, q1, qP, va_K.moved (u := U) (U := U.calling g mk a) (Vm.Alike.refl U.vm) qK, qD, nx_K.same (u := U) (U := U.calling g mk a) rfl qN⟩, va_recv hKc hPc (ci := 11) (q0 := 0) rfl rfl, fun U hU hW => ⟨rfl, by rw [hU], by rw [hU]; exact hPc, va_K.moved hW.alike hKc, hDc.weaken (fun _ _ _ _ => trivial), nx_K.warm hW hN⟩⟩ rfl rfl hl.1 rfl (lv_room (Nat.le_of_ble_eq_true rfl)) d_House_tell_62 ⟨Nat.le_of_ble_eq_true rfl, Nat.le_of_ble_eq_true rfl⟩) hS (fun q _ h => hFc q h) hFc (fun r_9 u t H1 locs ht hvm hw hB hz1 hk1 hS => ?_)
          obtain ⟨hP1, hK1, hD1⟩ := hB
          rw [ht] at hP1
          have hK1 := va_K.moved hvm.symm hK1
          obtain rfl : r_9 = (-2) := hw
          obtain ⟨hP, hD⟩ := va_join (wr := [(x_tape, .inl (cT, 400, .inl fT)), (r_left, .inr (2, [.ref x_c])), (x_c, .inl (cL, 9, .inr (.inr (.inr (.inr fc))))), (p0, .inr (6, [.ref dk, .ref y0, .int 0])), (p1, .inr (6, [.ref dk, .ref y1, .int 0])), (p2, .inr (6, [.ref dk, .ref y2, .int 0])), (p3, .inr (6, [.ref dk, .ref y3, .int 0])), (p4, .inr (6, [.ref dk, .ref y4, .int 0])), (p5, .inr (6, [.ref dk, .ref y5, .int 0])), (p6, .inr (6, [.ref dk, .ref y6, .int 0])), (p7, .inr (6, [.ref dk, .ref y7, .int 0])), (p8, .inr (6, [.ref dk, .ref y8, .int 0]))]) (w1 := [(h0, .inr (11, [.ref x_desk, .ref x_reader, .ref x_cells, .ref x_tape, .int 0, .ref x_script, .int 0, .ref x_rootAt, .ref x_rootTimes, .int 0, .ref x_spotX, .ref x_spotY, .ref x_bond, .int 0, .ref x_end, .ref x_span, .int 0, .ref x_part, .ref x_partPower, .int 0, .ref x_kept])), (x_reader, .inr (8, [.ref x_tape, .int 0, .int 0, .int 0, .int 1, .int 1, .int 0, .ref r_left, .ref r_right, .ref r_told, .ref r_curve, .int 0, .int 0, .int 0, .int 0, .ref r_steps, .int 0, .ref r_stack, .int 0]))]) hP hD [0, 2] [1, 3, 4, 5, 6, 7, 8, 9, 10, 11, 12, 13] rfl rfl (by decide) (by decide) hk1 hFc hP1 hD1
          have hK := (hK.sub (tys' := [(cT, .int), (cL, .object "RealHouse$Poly")]) [0, 1] rfl).app hK1
          generalize H1 = H at hP hS ⊢
          have hP : va_P (dC, dI) classes [(x_tape, .inl (cT, 400, .inl fT)), (r_left, .inr (2, [.ref x_c])), (x_c, .inl (cL, 9, .inr (.inr (.inr (.inr fc))))), (p0, .inr (6, [.ref dk, .ref y0, .int 0])), (p1, .inr (6, [.ref dk, .ref y1, .int 0])), (p2, .inr (6, [.ref dk, .ref y2, .int 0])), (p3, .inr (6, [.ref dk, .ref y3, .int 0])), (p4, .inr (6, [.ref dk, .ref y4, .int 0])), (p5, .inr (6, [.ref dk, .ref y5, .int 0])), (p6, .inr (6, [.ref dk, .ref y6, .int 0])), (p7, .inr (6, [.ref dk, .ref y7, .int 0])), (p8, .inr (6, [.ref dk, .ref y8, .int 0])), (h0, .inr (11, [.ref x_desk, .ref x_reader, .ref x_cells, .ref x_tape, .int 0, .ref x_script, .int 0, .ref x_rootAt, .ref x_rootTimes, .int 0, .ref x_spotX, .ref x_spotY, .ref x_bond, .int 0, .ref x_end, .ref x_span, .int 0, .ref x_part, .ref x_partPower, .int 0, .ref x_kept])), (x_reader, .inr (8, [.ref x_tape, .int 0, .int 0, .int 0, .int 1, .int 1, .int 0, .ref r_left, .ref r_right, .ref r_told, .ref r_curve, .int 0, .int 0, .int 0, .int 0, .ref r_steps, .int 0, .ref r_stack, .int 0]))] H := hP
          have hD : va_D A [(x_tape, .inl (cT, 400, .inl fT)), (r_left, .inr (2, [.ref x_c])), (x_c, .inl (cL, 9, .inr (.inr (.inr (.inr fc))))), (p0, .inr (6, [.ref dk, .ref y0, .int 0])), (p1, .inr (6, [.ref dk, .ref y1, .int 0])), (p2, .inr (6, [.ref dk, .ref y2, .int 0])), (p3, .inr (6, [.ref dk, .ref y3, .int 0])), (p4, .inr (6, [.ref dk, .ref y4, .int 0])), (p5, .inr (6, [.ref dk, .ref y5, .int 0])), (p6, .inr (6, [.ref dk, .ref y6, .int 0])), (p7, .inr (6, [.ref dk, .ref y7, .int 0])), (p8, .inr (6, [.ref dk, .ref y8, .int 0])), (h0, .inr (11, [.ref x_desk, .ref x_reader, .ref x_cells, .ref x_tape, .int 0, .ref x_script, .int 0, .ref x_rootAt, .ref x_rootTimes, .int 0, .ref x_spotX, .ref x_spotY, .ref x_bond, .int 0, .ref x_end, .ref x_span, .int 0, .ref x_part, .ref x_partPower, .int 0, .ref x_kept])), (x_reader, .inr (8, [.ref x_tape, .int 0, .int 0, .int 0, .int 1, .int 1, .int 0, .ref r_left, .ref r_right, .ref r_told, .ref r_curve, .int 0, .int 0, .int 0, .int 0, .ref r_steps, .int 0, .ref r_stack, .int 0]))] := hD
          have hK : va_K (dC, dI) classes [(cT, .int), (cL, .object "RealHouse$Poly")] s := hK
          have hP9 := hP.sub (ws' := []) [] rfl
          have hD9 := hD.sub (ws' := []) [] (by decide) rfl
          have hK9 := hK.sub (tys' := []) [] rfl
          exact W.iret (v := (-2)) hx hb hr (fun t ht hW => ⟨⟨(-2), (), rfl, (if_pos ⟨rfl, Int32.not_lt.mp c_1, Int32.not_lt.mp c_2⟩).symm, by rw [ht]; exact hP9, va_K.moved hW.alike hK9, hD9⟩, hS.F ht⟩) hS.2.2 d_House_tell_65
      · have hn0 : ¬ n = 0 := fun h => c_4 (by rw [hr_3, if_pos h])
        refine lv_iconst (v := (-1)) hx hb d_House_tell_18 (by decide) ?_
        have hP9 := hP.sub (ws' := []) [] rfl
        have hD9 := hD.sub (ws' := []) [] (by decide) rfl
        have hK9 := hK.sub (tys' := []) [] rfl
        exact W.iret (v := (-1)) hx hb hr (fun t ht hW => ⟨⟨(-1), (), rfl, (if_neg (fun h => hn0 h.1)).symm, by rw [ht]; exact hP9, va_K.moved hW.alike hK9, hD9⟩, hS.F ht⟩) hS.2.2 d_House_tell_19

set_option maxHeartbeats 4000000 in
set_option maxRecDepth 100000 in
/-- feedFour(v) -/
theorem c_House_feedFour_0 (l : Launch) (dC : Nat → ClassId) (dI : Nat → Nat → Nat) (sz : Nat) (h0 : Nat) (x_desk : Nat) (x_reader : Nat) (x_cells : Nat) (x_tape : Nat) (x_script : Nat) (x_rootAt : Nat) (x_rootTimes : Nat) (x_spotX : Nat) (x_spotY : Nat) (x_bond : Nat) (x_end : Nat) (x_span : Nat) (x_part : Nat) (x_partPower : Nat) (x_kept : Nat) (cT : ClassId) (fT : Nat → Int32) (tz : Nat) (v : Int32) (htz : tz + 4 ≤ 24) : Met l y_House_feedFour w_House_feedFour ({ frames := 0, cells := 0, slots := 0, locals := 0 }) (va_Pc [.ref h0, .int v] (fun U => U.heap.size = sz ∧ va_P (dC, dI) classes [(h0, .inr (11, [.ref x_desk, .ref x_reader, .ref x_cells, .ref x_tape, .int (nI tz), .ref x_script, .int 0, .ref x_rootAt, .ref x_rootTimes, .int 0, .ref x_spotX, .ref x_spotY, .ref x_bond, .int 0, .ref x_end, .ref x_span, .int 0, .ref x_part, .ref x_partPower, .int 0, .ref x_kept])), (x_tape, .inl (cT, 400, .inl fT))] U.heap ∧ va_K (dC, dI) classes [(cT, .int)] U ∧ va_D (fun _ => True) [(h0, .inr (11, [.ref x_desk, .ref x_reader, .ref x_cells, .ref x_tape, .int (nI tz), .ref x_script, .int 0, .ref x_rootAt, .ref x_rootTimes, .int 0, .ref x_spotX, .ref x_spotY, .ref x_bond, .int 0, .ref x_end, .ref x_span, .int 0, .ref x_part, .ref x_partPower, .int 0, .ref x_kept])), (x_tape, .inl (cT, 400, .inl fT))] ∧ nx_K U)) (va_Qv (fun _ : Unit => True) (fun _ t => ∃ (tz1 : Nat), ∃ (f1 : Nat → Int32), (tz1 = tz + 4) ∧ va_P (dC, dI) classes [(h0, .inr (11, [.ref x_desk, .ref x_reader, .ref x_cells, .ref x_tape, .int (nI tz1), .ref x_script, .int 0, .ref x_rootAt, .ref x_rootTimes, .int 0, .ref x_spotX, .ref x_spotY, .ref x_bond, .int 0, .ref x_end, .ref x_span, .int 0, .ref x_part, .ref x_partPower, .int 0, .ref x_kept])), (x_tape, .inl (cT, 400, .inl f1))] t.heap ∧ va_K (dC, dI) classes [(cT, .int)] t ∧ va_D (va_A [(h0, .inr (11, [.ref x_desk, .ref x_reader, .ref x_cells, .ref x_tape, .int (nI tz), .ref x_script, .int 0, .ref x_rootAt, .ref x_rootTimes, .int 0, .ref x_spotX, .ref x_spotY, .ref x_bond, .int 0, .ref x_end, .ref x_span, .int 0, .ref x_part, .ref x_partPower, .int 0, .ref x_kept])), (x_tape, .inl (cT, 400, .inl fT))] sz) [(h0, .inr (11, [.ref x_desk, .ref x_reader, .ref x_cells, .ref x_tape, .int (nI tz1), .ref x_script, .int 0, .ref x_rootAt, .ref x_rootTimes, .int 0, .ref x_spotX, .ref x_spotY, .ref x_bond, .int 0, .ref x_end, .ref x_span, .int 0, .ref x_part, .ref x_partPower, .int 0, .ref x_kept])), (x_tape, .inl (cT, 400, .inl f1))]) (va_A [(h0, .inr (11, [.ref x_desk, .ref x_reader, .ref x_cells, .ref x_tape, .int (nI tz), .ref x_script, .int 0, .ref x_rootAt, .ref x_rootTimes, .int 0, .ref x_spotX, .ref x_spotY, .ref x_bond, .int 0, .ref x_end, .ref x_span, .int 0, .ref x_part, .ref x_partPower, .int 0, .ref x_kept])), (x_tape, .inl (cT, 400, .inl fT))] sz)) 0 0 (va_A [(h0, .inr (11, [.ref x_desk, .ref x_reader, .ref x_cells, .ref x_tape, .int (nI tz), .ref x_script, .int 0, .ref x_rootAt, .ref x_rootTimes, .int 0, .ref x_spotX, .ref x_spotY, .ref x_bond, .int 0, .ref x_end, .ref x_span, .int 0, .ref x_part, .ref x_partPower, .int 0, .ref x_kept])), (x_tape, .inl (cT, 400, .inl fT))] sz) := by
  refine Met.ofW (cc := b_House_feedFour) (maxL := 3) (ret := none) (by decide) rfl ?_
  intro p e s m args below meth c s₁ B hml hv
  obtain ⟨rfl, hsz, hP, hK, hD0, hN⟩ := hv
  have hx := B.exec
  have hb := B.bytes
  have hr := B.returns
  have hT : ∀ w ∈ lw_g, w.before _ s = true := fun w h => atoms_spec (ws := w_House_feedFour) B.pre w (List.mem_cons_of_mem _ h)
  have hown : s.vm.findClass R_House = some m.cls := findClass_of_methodNamed B.named
  have hlocks := B.notSynchronized
  subst hsz
  have hD := hD0.self (sz := s.heap.size)
  generalize hAe : va_A [(h0, .inr (11, [.ref x_desk, .ref x_reader, .ref x_cells, .ref x_tape, .int (nI tz), .ref x_script, .int 0, .ref x_rootAt, .ref x_rootTimes, .int 0, .ref x_spotX, .ref x_spotY, .ref x_bond, .int 0, .ref x_end, .ref x_span, .int 0, .ref x_part, .ref x_partPower, .int 0, .ref x_kept])), (x_tape, .inl (cT, 400, .inl fT))] s.heap.size = A at hD ⊢
  have hA : ∀ q : Nat, s.heap.size ≤ q → A q := fun q h => by rw [← hAe]; exact Or.inr h
  have hS : va_S A s.heap s.heap [] := va_S.rf
  have hP : va_P (dC, dI) classes [(h0, .inr (11, [.ref x_desk, .ref x_reader, .ref x_cells, .ref x_tape, .int (nI tz), .ref x_script, .int 0, .ref x_rootAt, .ref x_rootTimes, .int 0, .ref x_spotX, .ref x_spotY, .ref x_bond, .int 0, .ref x_end, .ref x_span, .int 0, .ref x_part, .ref x_partPower, .int 0, .ref x_kept])), (x_tape, .inl (cT, 400, .inl fT))] s.heap := hP
  have hl := lv_entry ([.ref h0, .int v]) (n := 3) (Nat.le_of_ble_eq_true rfl)
  rw [lg_entry_eq]
  generalize (lg_sl ([.ref h0, .int v]) ++ List.replicate (3 - (lg_sl ([.ref h0, .int v])).length) Slot.unset).toArray = ls at hl ⊢
  have hl : lv_has ls 3 [(0, .ref h0), (1, .int v)] := hl
  refine lv_bipush (v := 24) hx hb d_House_feedFour_0 (by decide) ?_
  refine lv_istore_n (lv' := [(2, .int 24), (0, .ref h0), (1, .int v)]) hx hb d_House_feedFour_2 rfl hl (by decide) rfl (fun ls hl => ?_)
  refine lv_iload_n hx hb d_House_feedFour_3 rfl (lv_at hl 0 rfl) ?_
  refine lv_if_lt (tgt := 49) hx hb d_House_feedFour_4 (by decide) (fun c_1 => absurd c_1 (by decide)) (fun c_1 => ?_)
  refine lv_aload_n hx hb d_House_feedFour_7 rfl (lv_at hl 1 rfl) ?_
  refine va_get (D := (dC, dI)) (ci := 11) (v := .int (nI tz)) (C := R_House) (T := F_House) (N := 21) hx hb hT i_House hown hK hP 0 rfl rfl 4 (by decide) (hT _ tw_619) (fun _ h9 => h9) rfl d_House_feedFour_8 ?_
  refine lv_sipush (v := 400) hx hb d_House_feedFour_11 (by decide) ?_
  refine lv_icmp_ge (tgt := 49) hx hb d_House_feedFour_14 (by decide) (fun c_2 => ?_) (fun c_2 => ?_)
  · exact absurd c_2 (nI_ge (a := tz) (b := 400) (by omega) (by omega))
  · refine lv_aload_n hx hb d_House_feedFour_17 rfl (lv_at hl 1 rfl) ?_
    refine va_get (D := (dC, dI)) (ci := 11) (v := .ref x_tape) (C := R_House) (T := F_House) (N := 21) hx hb hT i_House hown hK hP 0 rfl rfl 3 (by decide) (hT _ tw_618) (fun _ h9 => h9) rfl d_House_feedFour_18 ?_
    refine lv_aload_n hx hb d_House_feedFour_21 rfl (lv_at hl 1 rfl) ?_
    refine va_get (D := (dC, dI)) (ci := 11) (v := .int (nI tz)) (C := R_House) (T := F_House) (N := 21) hx hb hT i_House hown hK hP 0 rfl rfl 4 (by decide) (hT _ tw_619) (fun _ h9 => h9) rfl d_House_feedFour_22 ?_
    refine lv_iload_n hx hb d_House_feedFour_25 rfl (lv_at hl 2 rfl) ?_
    refine lv_iload_n hx hb d_House_feedFour_26 rfl (lv_at hl 0 rfl) ?_
    obtain ⟨v_3, ev_3⟩ : ∃ z : Int32, ((v : Int32).toUInt32 >>> ((24 : Int32).toUInt32 &&& Int32.toUInt32 31)).toInt32 = z := ⟨_, rfl⟩
    refine lv_iushr (v := v_3) hx hb d_House_feedFour_27 ev_3 ?_
    refine lv_sipush (v := 255) hx hb d_House_feedFour_28 (by decide) ?_
    refine lv_iand hx hb d_House_feedFour_31 ?_
    refine lv_topi (fun v_4 ev_4 => ?_)
    refine va_iast hx hb hK hP hD hS 1 0 rfl rfl (vp_in_nI (by omega) (by omega)) d_House_feedFour_32 (fun H locs hP hD hS => ?_)
    have hP : va_P (dC, dI) classes [(h0, .inr (11, [.ref x_desk, .ref x_reader, .ref x_cells, .ref x_tape, .int (nI tz), .ref x_script, .int 0, .ref x_rootAt, .ref x_rootTimes, .int 0, .ref x_spotX, .ref x_spotY, .ref x_bond, .int 0, .ref x_end, .ref x_span, .int 0, .ref x_part, .ref x_partPower, .int 0, .ref x_kept])), (x_tape, .inl (cT, 400, .inl (upd fT ((nI tz) : Int32).toNatClampNeg v_4)))] H := hP
    have hD : va_D A [(h0, .inr (11, [.ref x_desk, .ref x_reader, .ref x_cells, .ref x_tape, .int (nI tz), .ref x_script, .int 0, .ref x_rootAt, .ref x_rootTimes, .int 0, .ref x_spotX, .ref x_spotY, .ref x_bond, .int 0, .ref x_end, .ref x_span, .int 0, .ref x_part, .ref x_partPower, .int 0, .ref x_kept])), (x_tape, .inl (cT, 400, .inl (upd fT ((nI tz) : Int32).toNatClampNeg v_4)))] := hD
    generalize upd fT ((nI tz) : Int32).toNatClampNeg v_4 = f_5 at hP hD
    refine lv_aload_n hx hb d_House_feedFour_33 rfl (lv_at hl 1 rfl) ?_
    refine lv_dup hx hb d_House_feedFour_34 rfl ?_
    refine va_get (D := (dC, dI)) (ci := 11) (v := .int (nI tz)) (C := R_House) (T := F_House) (N := 21) hx hb hT i_House hown hK hP 0 rfl rfl 4 (by decide) (hT _ tw_619) (fun _ h9 => h9) rfl d_House_feedFour_35 ?_
    refine lv_iconst (v := 1) hx hb d_House_feedFour_38 (by decide) ?_
    refine lv_iadd hx hb d_House_feedFour_39 ?_
    refine lv_topi (fun v_6 ev_6 => ?_)
    obtain rfl : v_6 = nI (tz + 1) := ev_6.trans (nI_add tz 1)
    refine va_put (D := (dC, dI)) (ci := 11) (v := .int (nI (tz + 1))) (ty := .int) (C := R_House) (T := F_House) (N := 21) hx hb hT i_House t_House t_House_ok n_House hown hK hP hD hS 0 rfl rfl 4 (by decide) (hT _ tw_619) (fun _ h9 => h9) rfl (by decide +kernel) rfl rfl (Nat.le_of_ble_eq_true rfl) d_House_feedFour_40 (fun H locs hP hD hS => ?_)
    have hP : va_P (dC, dI) classes [(h0, .inr (11, [.ref x_desk, .ref x_reader, .ref x_cells, .ref x_tape, .int (nI (tz + 1)), .ref x_script, .int 0, .ref x_rootAt, .ref x_rootTimes, .int 0, .ref x_spotX, .ref x_spotY, .ref x_bond, .int 0, .ref x_end, .ref x_span, .int 0, .ref x_part, .ref x_partPower, .int 0, .ref x_kept])), (x_tape, .inl (cT, 400, .inl f_5))] H := hP
    have hD : va_D A [(h0, .inr (11, [.ref x_desk, .ref x_reader, .ref x_cells, .ref x_tape, .int (nI (tz + 1)), .ref x_script, .int 0, .ref x_rootAt, .ref x_rootTimes, .int 0, .ref x_spotX, .ref x_spotY, .ref x_bond, .int 0, .ref x_end, .ref x_span, .int 0, .ref x_part, .ref x_partPower, .int 0, .ref x_kept])), (x_tape, .inl (cT, 400, .inl f_5))] := hD
    refine lv_iinc (v := 16) (lv' := [(2, .int 16), (0, .ref h0), (1, .int v)]) hx hb d_House_feedFour_43 hl (k := 0) rfl (by decide) (by decide) rfl (fun ls hl => ?_)
    refine lv_goto (tgt := 3) hx hb d_House_feedFour_46 (by decide) ?_
    refine lv_iload_n hx hb d_House_feedFour_3 rfl (lv_at hl 0 rfl) ?_
    refine lv_if_lt (tgt := 49) hx hb d_House_feedFour_4 (by decide) (fun c_7 => absurd c_7 (by decide)) (fun c_7 => ?_)
    refine lv_aload_n hx hb d_House_feedFour_7 rfl (lv_at hl 1 rfl) ?_
    refine va_get (D := (dC, dI)) (ci := 11) (v := .int (nI (tz + 1))) (C := R_House) (T := F_House) (N := 21) hx hb hT i_House hown hK hP 0 rfl rfl 4 (by decide) (hT _ tw_619) (fun _ h9 => h9) rfl d_House_feedFour_8 ?_
    refine lv_sipush (v := 400) hx hb d_House_feedFour_11 (by decide) ?_
    refine lv_icmp_ge (tgt := 49) hx hb d_House_feedFour_14 (by decide) (fun c_8 => ?_) (fun c_8 => ?_)
    · exact absurd c_8 (nI_ge (a := tz + 1) (b := 400) (by omega) (by omega))
    · refine lv_aload_n hx hb d_House_feedFour_17 rfl (lv_at hl 1 rfl) ?_
      refine va_get (D := (dC, dI)) (ci := 11) (v := .ref x_tape) (C := R_House) (T := F_House) (N := 21) hx hb hT i_House hown hK hP 0 rfl rfl 3 (by decide) (hT _ tw_618) (fun _ h9 => h9) rfl d_House_feedFour_18 ?_
      refine lv_aload_n hx hb d_House_feedFour_21 rfl (lv_at hl 1 rfl) ?_
      refine va_get (D := (dC, dI)) (ci := 11) (v := .int (nI (tz + 1))) (C := R_House) (T := F_House) (N := 21) hx hb hT i_House hown hK hP 0 rfl rfl 4 (by decide) (hT _ tw_619) (fun _ h9 => h9) rfl d_House_feedFour_22 ?_
      refine lv_iload_n hx hb d_House_feedFour_25 rfl (lv_at hl 2 rfl) ?_
      refine lv_iload_n hx hb d_House_feedFour_26 rfl (lv_at hl 0 rfl) ?_
      obtain ⟨v_9, ev_9⟩ : ∃ z : Int32, ((v : Int32).toUInt32 >>> ((16 : Int32).toUInt32 &&& Int32.toUInt32 31)).toInt32 = z := ⟨_, rfl⟩
      refine lv_iushr (v := v_9) hx hb d_House_feedFour_27 ev_9 ?_
      refine lv_sipush (v := 255) hx hb d_House_feedFour_28 (by decide) ?_
      refine lv_iand hx hb d_House_feedFour_31 ?_
      refine lv_topi (fun v_10 ev_10 => ?_)
      refine va_iast hx hb hK hP hD hS 1 0 rfl rfl (vp_in_nI (by omega) (by omega)) d_House_feedFour_32 (fun H locs hP hD hS => ?_)
      have hP : va_P (dC, dI) classes [(h0, .inr (11, [.ref x_desk, .ref x_reader, .ref x_cells, .ref x_tape, .int (nI (tz + 1)), .ref x_script, .int 0, .ref x_rootAt, .ref x_rootTimes, .int 0, .ref x_spotX, .ref x_spotY, .ref x_bond, .int 0, .ref x_end, .ref x_span, .int 0, .ref x_part, .ref x_partPower, .int 0, .ref x_kept])), (x_tape, .inl (cT, 400, .inl (upd f_5 ((nI (tz + 1)) : Int32).toNatClampNeg v_10)))] H := hP
      have hD : va_D A [(h0, .inr (11, [.ref x_desk, .ref x_reader, .ref x_cells, .ref x_tape, .int (nI (tz + 1)), .ref x_script, .int 0, .ref x_rootAt, .ref x_rootTimes, .int 0, .ref x_spotX, .ref x_spotY, .ref x_bond, .int 0, .ref x_end, .ref x_span, .int 0, .ref x_part, .ref x_partPower, .int 0, .ref x_kept])), (x_tape, .inl (cT, 400, .inl (upd f_5 ((nI (tz + 1)) : Int32).toNatClampNeg v_10)))] := hD
      generalize upd f_5 ((nI (tz + 1)) : Int32).toNatClampNeg v_10 = f_11 at hP hD
      refine lv_aload_n hx hb d_House_feedFour_33 rfl (lv_at hl 1 rfl) ?_
      refine lv_dup hx hb d_House_feedFour_34 rfl ?_
      refine va_get (D := (dC, dI)) (ci := 11) (v := .int (nI (tz + 1))) (C := R_House) (T := F_House) (N := 21) hx hb hT i_House hown hK hP 0 rfl rfl 4 (by decide) (hT _ tw_619) (fun _ h9 => h9) rfl d_House_feedFour_35 ?_
      refine lv_iconst (v := 1) hx hb d_House_feedFour_38 (by decide) ?_
      refine lv_iadd hx hb d_House_feedFour_39 ?_
      refine lv_topi (fun v_12 ev_12 => ?_)
      obtain rfl : v_12 = nI ((tz + 1) + 1) := ev_12.trans (nI_add (tz + 1) 1)
      refine va_put (D := (dC, dI)) (ci := 11) (v := .int (nI ((tz + 1) + 1))) (ty := .int) (C := R_House) (T := F_House) (N := 21) hx hb hT i_House t_House t_House_ok n_House hown hK hP hD hS 0 rfl rfl 4 (by decide) (hT _ tw_619) (fun _ h9 => h9) rfl (by decide +kernel) rfl rfl (Nat.le_of_ble_eq_true rfl) d_House_feedFour_40 (fun H locs hP hD hS => ?_)
      have hP : va_P (dC, dI) classes [(h0, .inr (11, [.ref x_desk, .ref x_reader, .ref x_cells, .ref x_tape, .int (nI ((tz + 1) + 1)), .ref x_script, .int 0, .ref x_rootAt, .ref x_rootTimes, .int 0, .ref x_spotX, .ref x_spotY, .ref x_bond, .int 0, .ref x_end, .ref x_span, .int 0, .ref x_part, .ref x_partPower, .int 0, .ref x_kept])), (x_tape, .inl (cT, 400, .inl f_11))] H := hP
      have hD : va_D A [(h0, .inr (11, [.ref x_desk, .ref x_reader, .ref x_cells, .ref x_tape, .int (nI ((tz + 1) + 1)), .ref x_script, .int 0, .ref x_rootAt, .ref x_rootTimes, .int 0, .ref x_spotX, .ref x_spotY, .ref x_bond, .int 0, .ref x_end, .ref x_span, .int 0, .ref x_part, .ref x_partPower, .int 0, .ref x_kept])), (x_tape, .inl (cT, 400, .inl f_11))] := hD
      refine lv_iinc (v := 8) (lv' := [(2, .int 8), (0, .ref h0), (1, .int v)]) hx hb d_House_feedFour_43 hl (k := 0) rfl (by decide) (by decide) rfl (fun ls hl => ?_)
      refine lv_goto (tgt := 3) hx hb d_House_feedFour_46 (by decide) ?_
      refine lv_iload_n hx hb d_House_feedFour_3 rfl (lv_at hl 0 rfl) ?_
      refine lv_if_lt (tgt := 49) hx hb d_House_feedFour_4 (by decide) (fun c_13 => absurd c_13 (by decide)) (fun c_13 => ?_)
      refine lv_aload_n hx hb d_House_feedFour_7 rfl (lv_at hl 1 rfl) ?_
      refine va_get (D := (dC, dI)) (ci := 11) (v := .int (nI ((tz + 1) + 1))) (C := R_House) (T := F_House) (N := 21) hx hb hT i_House hown hK hP 0 rfl rfl 4 (by decide) (hT _ tw_619) (fun _ h9 => h9) rfl d_House_feedFour_8 ?_
      refine lv_sipush (v := 400) hx hb d_House_feedFour_11 (by decide) ?_
      refine lv_icmp_ge (tgt := 49) hx hb d_House_feedFour_14 (by decide) (fun c_14 => ?_) (fun c_14 => ?_)
      · exact absurd c_14 (nI_ge (a := (tz + 1) + 1) (b := 400) (by omega) (by omega))
      · refine lv_aload_n hx hb d_House_feedFour_17 rfl (lv_at hl 1 rfl) ?_
        refine va_get (D := (dC, dI)) (ci := 11) (v := .ref x_tape) (C := R_House) (T := F_House) (N := 21) hx hb hT i_House hown hK hP 0 rfl rfl 3 (by decide) (hT _ tw_618) (fun _ h9 => h9) rfl d_House_feedFour_18 ?_
        refine lv_aload_n hx hb d_House_feedFour_21 rfl (lv_at hl 1 rfl) ?_
        refine va_get (D := (dC, dI)) (ci := 11) (v := .int (nI ((tz + 1) + 1))) (C := R_House) (T := F_House) (N := 21) hx hb hT i_House hown hK hP 0 rfl rfl 4 (by decide) (hT _ tw_619) (fun _ h9 => h9) rfl d_House_feedFour_22 ?_
        refine lv_iload_n hx hb d_House_feedFour_25 rfl (lv_at hl 2 rfl) ?_
        refine lv_iload_n hx hb d_House_feedFour_26 rfl (lv_at hl 0 rfl) ?_
        obtain ⟨v_15, ev_15⟩ : ∃ z : Int32, ((v : Int32).toUInt32 >>> ((8 : Int32).toUInt32 &&& Int32.toUInt32 31)).toInt32 = z := ⟨_, rfl⟩
        refine lv_iushr (v := v_15) hx hb d_House_feedFour_27 ev_15 ?_
        refine lv_sipush (v := 255) hx hb d_House_feedFour_28 (by decide) ?_
        refine lv_iand hx hb d_House_feedFour_31 ?_
        refine lv_topi (fun v_16 ev_16 => ?_)
        refine va_iast hx hb hK hP hD hS 1 0 rfl rfl (vp_in_nI (by omega) (by omega)) d_House_feedFour_32 (fun H locs hP hD hS => ?_)
        have hP : va_P (dC, dI) classes [(h0, .inr (11, [.ref x_desk, .ref x_reader, .ref x_cells, .ref x_tape, .int (nI ((tz + 1) + 1)), .ref x_script, .int 0, .ref x_rootAt, .ref x_rootTimes, .int 0, .ref x_spotX, .ref x_spotY, .ref x_bond, .int 0, .ref x_end, .ref x_span, .int 0, .ref x_part, .ref x_partPower, .int 0, .ref x_kept])), (x_tape, .inl (cT, 400, .inl (upd f_11 ((nI ((tz + 1) + 1)) : Int32).toNatClampNeg v_16)))] H := hP
        have hD : va_D A [(h0, .inr (11, [.ref x_desk, .ref x_reader, .ref x_cells, .ref x_tape, .int (nI ((tz + 1) + 1)), .ref x_script, .int 0, .ref x_rootAt, .ref x_rootTimes, .int 0, .ref x_spotX, .ref x_spotY, .ref x_bond, .int 0, .ref x_end, .ref x_span, .int 0, .ref x_part, .ref x_partPower, .int 0, .ref x_kept])), (x_tape, .inl (cT, 400, .inl (upd f_11 ((nI ((tz + 1) + 1)) : Int32).toNatClampNeg v_16)))] := hD
        generalize upd f_11 ((nI ((tz + 1) + 1)) : Int32).toNatClampNeg v_16 = f_17 at hP hD
        refine lv_aload_n hx hb d_House_feedFour_33 rfl (lv_at hl 1 rfl) ?_
        refine lv_dup hx hb d_House_feedFour_34 rfl ?_
        refine va_get (D := (dC, dI)) (ci := 11) (v := .int (nI ((tz + 1) + 1))) (C := R_House) (T := F_House) (N := 21) hx hb hT i_House hown hK hP 0 rfl rfl 4 (by decide) (hT _ tw_619) (fun _ h9 => h9) rfl d_House_feedFour_35 ?_
        refine lv_iconst (v := 1) hx hb d_House_feedFour_38 (by decide) ?_
        refine lv_iadd hx hb d_House_feedFour_39 ?_
        refine lv_topi (fun v_18 ev_18 => ?_)
        obtain rfl : v_18 = nI (((tz + 1) + 1) + 1) := ev_18.trans (nI_add ((tz + 1) + 1) 1)
        refine va_put (D := (dC, dI)) (ci := 11) (v := .int (nI (((tz + 1) + 1) + 1))) (ty := .int) (C := R_House) (T := F_House) (N := 21) hx hb hT i_House t_House t_House_ok n_House hown hK hP hD hS 0 rfl rfl 4 (by decide) (hT _ tw_619) (fun _ h9 => h9) rfl (by decide +kernel) rfl rfl (Nat.le_of_ble_eq_true rfl) d_House_feedFour_40 (fun H locs hP hD hS => ?_)
        have hP : va_P (dC, dI) classes [(h0, .inr (11, [.ref x_desk, .ref x_reader, .ref x_cells, .ref x_tape, .int (nI (((tz + 1) + 1) + 1)), .ref x_script, .int 0, .ref x_rootAt, .ref x_rootTimes, .int 0, .ref x_spotX, .ref x_spotY, .ref x_bond, .int 0, .ref x_end, .ref x_span, .int 0, .ref x_part, .ref x_partPower, .int 0, .ref x_kept])), (x_tape, .inl (cT, 400, .inl f_17))] H := hP
        have hD : va_D A [(h0, .inr (11, [.ref x_desk, .ref x_reader, .ref x_cells, .ref x_tape, .int (nI (((tz + 1) + 1) + 1)), .ref x_script, .int 0, .ref x_rootAt, .ref x_rootTimes, .int 0, .ref x_spotX, .ref x_spotY, .ref x_bond, .int 0, .ref x_end, .ref x_span, .int 0, .ref x_part, .ref x_partPower, .int 0, .ref x_kept])), (x_tape, .inl (cT, 400, .inl f_17))] := hD
        refine lv_iinc (v := 0) (lv' := [(2, .int 0), (0, .ref h0), (1, .int v)]) hx hb d_House_feedFour_43 hl (k := 0) rfl (by decide) (by decide) rfl (fun ls hl => ?_)
        refine lv_goto (tgt := 3) hx hb d_House_feedFour_46 (by decide) ?_
        refine lv_iload_n hx hb d_House_feedFour_3 rfl (lv_at hl 0 rfl) ?_
        refine lv_if_lt (tgt := 49) hx hb d_House_feedFour_4 (by decide) (fun c_19 => absurd c_19 (by decide)) (fun c_19 => ?_)
        refine lv_aload_n hx hb d_House_feedFour_7 rfl (lv_at hl 1 rfl) ?_
        refine va_get (D := (dC, dI)) (ci := 11) (v := .int (nI (((tz + 1) + 1) + 1))) (C := R_House) (T := F_House) (N := 21) hx hb hT i_House hown hK hP 0 rfl rfl 4 (by decide) (hT _ tw_619) (fun _ h9 => h9) rfl d_House_feedFour_8 ?_
        refine lv_sipush (v := 400) hx hb d_House_feedFour_11 (by decide) ?_
        refine lv_icmp_ge (tgt := 49) hx hb d_House_feedFour_14 (by decide) (fun c_20 => ?_) (fun c_20 => ?_)
        · exact absurd c_20 (nI_ge (a := ((tz + 1) + 1) + 1) (b := 400) (by omega) (by omega))
        · refine lv_aload_n hx hb d_House_feedFour_17 rfl (lv_at hl 1 rfl) ?_
          refine va_get (D := (dC, dI)) (ci := 11) (v := .ref x_tape) (C := R_House) (T := F_House) (N := 21) hx hb hT i_House hown hK hP 0 rfl rfl 3 (by decide) (hT _ tw_618) (fun _ h9 => h9) rfl d_House_feedFour_18 ?_
          refine lv_aload_n hx hb d_House_feedFour_21 rfl (lv_at hl 1 rfl) ?_
          refine va_get (D := (dC, dI)) (ci := 11) (v := .int (nI (((tz + 1) + 1) + 1))) (C := R_House) (T := F_House) (N := 21) hx hb hT i_House hown hK hP 0 rfl rfl 4 (by decide) (hT _ tw_619) (fun _ h9 => h9) rfl d_House_feedFour_22 ?_
          refine lv_iload_n hx hb d_House_feedFour_25 rfl (lv_at hl 2 rfl) ?_
          refine lv_iload_n hx hb d_House_feedFour_26 rfl (lv_at hl 0 rfl) ?_
          obtain ⟨v_21, ev_21⟩ : ∃ z : Int32, ((v : Int32).toUInt32 >>> ((0 : Int32).toUInt32 &&& Int32.toUInt32 31)).toInt32 = z := ⟨_, rfl⟩
          refine lv_iushr (v := v_21) hx hb d_House_feedFour_27 ev_21 ?_
          refine lv_sipush (v := 255) hx hb d_House_feedFour_28 (by decide) ?_
          refine lv_iand hx hb d_House_feedFour_31 ?_
          refine lv_topi (fun v_22 ev_22 => ?_)
          refine va_iast hx hb hK hP hD hS 1 0 rfl rfl (vp_in_nI (by omega) (by omega)) d_House_feedFour_32 (fun H locs hP hD hS => ?_)
          have hP : va_P (dC, dI) classes [(h0, .inr (11, [.ref x_desk, .ref x_reader, .ref x_cells, .ref x_tape, .int (nI (((tz + 1) + 1) + 1)), .ref x_script, .int 0, .ref x_rootAt, .ref x_rootTimes, .int 0, .ref x_spotX, .ref x_spotY, .ref x_bond, .int 0, .ref x_end, .ref x_span, .int 0, .ref x_part, .ref x_partPower, .int 0, .ref x_kept])), (x_tape, .inl (cT, 400, .inl (upd f_17 ((nI (((tz + 1) + 1) + 1)) : Int32).toNatClampNeg v_22)))] H := hP
          have hD : va_D A [(h0, .inr (11, [.ref x_desk, .ref x_reader, .ref x_cells, .ref x_tape, .int (nI (((tz + 1) + 1) + 1)), .ref x_script, .int 0, .ref x_rootAt, .ref x_rootTimes, .int 0, .ref x_spotX, .ref x_spotY, .ref x_bond, .int 0, .ref x_end, .ref x_span, .int 0, .ref x_part, .ref x_partPower, .int 0, .ref x_kept])), (x_tape, .inl (cT, 400, .inl (upd f_17 ((nI (((tz + 1) + 1) + 1)) : Int32).toNatClampNeg v_22)))] := hD
          generalize upd f_17 ((nI (((tz + 1) + 1) + 1)) : Int32).toNatClampNeg v_22 = f_23 at hP hD
          refine lv_aload_n hx hb d_House_feedFour_33 rfl (lv_at hl 1 rfl) ?_
          refine lv_dup hx hb d_House_feedFour_34 rfl ?_
          refine va_get (D := (dC, dI)) (ci := 11) (v := .int (nI (((tz + 1) + 1) + 1))) (C := R_House) (T := F_House) (N := 21) hx hb hT i_House hown hK hP 0 rfl rfl 4 (by decide) (hT _ tw_619) (fun _ h9 => h9) rfl d_House_feedFour_35 ?_
          refine lv_iconst (v := 1) hx hb d_House_feedFour_38 (by decide) ?_
          refine lv_iadd hx hb d_House_feedFour_39 ?_
          refine lv_topi (fun v_24 ev_24 => ?_)
          obtain rfl : v_24 = nI ((((tz + 1) + 1) + 1) + 1) := ev_24.trans (nI_add (((tz + 1) + 1) + 1) 1)
          refine va_put (D := (dC, dI)) (ci := 11) (v := .int (nI ((((tz + 1) + 1) + 1) + 1))) (ty := .int) (C := R_House) (T := F_House) (N := 21) hx hb hT i_House t_House t_House_ok n_House hown hK hP hD hS 0 rfl rfl 4 (by decide) (hT _ tw_619) (fun _ h9 => h9) rfl (by decide +kernel) rfl rfl (Nat.le_of_ble_eq_true rfl) d_House_feedFour_40 (fun H locs hP hD hS => ?_)
          have hP : va_P (dC, dI) classes [(h0, .inr (11, [.ref x_desk, .ref x_reader, .ref x_cells, .ref x_tape, .int (nI ((((tz + 1) + 1) + 1) + 1)), .ref x_script, .int 0, .ref x_rootAt, .ref x_rootTimes, .int 0, .ref x_spotX, .ref x_spotY, .ref x_bond, .int 0, .ref x_end, .ref x_span, .int 0, .ref x_part, .ref x_partPower, .int 0, .ref x_kept])), (x_tape, .inl (cT, 400, .inl f_23))] H := hP
          have hD : va_D A [(h0, .inr (11, [.ref x_desk, .ref x_reader, .ref x_cells, .ref x_tape, .int (nI ((((tz + 1) + 1) + 1) + 1)), .ref x_script, .int 0, .ref x_rootAt, .ref x_rootTimes, .int 0, .ref x_spotX, .ref x_spotY, .ref x_bond, .int 0, .ref x_end, .ref x_span, .int 0, .ref x_part, .ref x_partPower, .int 0, .ref x_kept])), (x_tape, .inl (cT, 400, .inl f_23))] := hD
          refine lv_iinc (v := (-8)) (lv' := [(2, .int (-8)), (0, .ref h0), (1, .int v)]) hx hb d_House_feedFour_43 hl (k := 0) rfl (by decide) (by decide) rfl (fun ls hl => ?_)
          refine lv_goto (tgt := 3) hx hb d_House_feedFour_46 (by decide) ?_
          refine lv_iload_n hx hb d_House_feedFour_3 rfl (lv_at hl 0 rfl) ?_
          refine lv_if_lt (tgt := 49) hx hb d_House_feedFour_4 (by decide) (fun c_25 => ?_) (fun c_25 => absurd (by decide) c_25)
          have hP9 := hP.sub (ws' := [(h0, .inr (11, [.ref x_desk, .ref x_reader, .ref x_cells, .ref x_tape, .int (nI ((((tz + 1) + 1) + 1) + 1)), .ref x_script, .int 0, .ref x_rootAt, .ref x_rootTimes, .int 0, .ref x_spotX, .ref x_spotY, .ref x_bond, .int 0, .ref x_end, .ref x_span, .int 0, .ref x_part, .ref x_partPower, .int 0, .ref x_kept])), (x_tape, .inl (cT, 400, .inl f_23))]) [0, 1] rfl
          have hD9 := hD.sub (ws' := [(h0, .inr (11, [.ref x_desk, .ref x_reader, .ref x_cells, .ref x_tape, .int (nI ((((tz + 1) + 1) + 1) + 1)), .ref x_script, .int 0, .ref x_rootAt, .ref x_rootTimes, .int 0, .ref x_spotX, .ref x_spotY, .ref x_bond, .int 0, .ref x_end, .ref x_span, .int 0, .ref x_part, .ref x_partPower, .int 0, .ref x_kept])), (x_tape, .inl (cT, 400, .inl f_23))]) [0, 1] (by decide) rfl
          have hK9 := hK.sub (tys' := [(cT, .int)]) [0] rfl
          exact W.vret hx hb hr (fun t ht hW => ⟨⟨(), rfl, trivial, ((((tz + 1) + 1) + 1) + 1), f_23, by omega, by rw [ht]; exact hP9, va_K.moved hW.alike hK9, hD9⟩, hS.F ht⟩) hS.2.2 d_House_feedFour_49

set_option maxHeartbeats 4000000 in
set_option maxRecDepth 100000 in
/-- feed on a fresh house -/
theorem c_House_feed_0 (l : Launch) (dC : Nat → ClassId) (dI : Nat → Nat → Nat) (sz : Nat) (h0 : Nat) (x_desk : Nat) (x_reader : Nat) (x_cells : Nat) (x_tape : Nat) (x_script : Nat) (x_rootAt : Nat) (x_rootTimes : Nat) (x_spotX : Nat) (x_spotY : Nat) (x_bond : Nat) (x_end : Nat) (x_span : Nat) (x_part : Nat) (x_partPower : Nat) (x_kept : Nat) (cT : ClassId) (fT : Nat → Int32) (a1 : Int32) (a2 : Int32) (a3 : Int32) (a4 : Int32) (a5 : Int32)  : Met l y_House_feed w_House_feed ({ frames := 1, cells := 0, slots := 0, locals := 22 }) (va_Pc [.ref h0, .int a1, .int a2, .int a3, .int a4, .int a5] (fun U => U.heap.size = sz ∧ va_P (dC, dI) classes [(h0, .inr (11, [.ref x_desk, .ref x_reader, .ref x_cells, .ref x_tape, .int 0, .ref x_script, .int 0, .ref x_rootAt, .ref x_rootTimes, .int 0, .ref x_spotX, .ref x_spotY, .ref x_bond, .int 0, .ref x_end, .ref x_span, .int 0, .ref x_part, .ref x_partPower, .int 0, .ref x_kept])), (x_tape, .inl (cT, 400, .inl fT))] U.heap ∧ va_K (dC, dI) classes [(cT, .int)] U ∧ va_D (fun _ => True) [(h0, .inr (11, [.ref x_desk, .ref x_reader, .ref x_cells, .ref x_tape, .int 0, .ref x_script, .int 0, .ref x_rootAt, .ref x_rootTimes, .int 0, .ref x_spotX, .ref x_spotY, .ref x_bond, .int 0, .ref x_end, .ref x_span, .int 0, .ref x_part, .ref x_partPower, .int 0, .ref x_kept])), (x_tape, .inl (cT, 400, .inl fT))] ∧ nx_K U)) (va_Qi (fun (r : Int32) (_ : Unit) => r = 20) (fun _ t => va_P (dC, dI) classes [] t.heap ∧ va_K (dC, dI) classes [] t ∧ va_D (va_A [(h0, .inr (11, [.ref x_desk, .ref x_reader, .ref x_cells, .ref x_tape, .int 0, .ref x_script, .int 0, .ref x_rootAt, .ref x_rootTimes, .int 0, .ref x_spotX, .ref x_spotY, .ref x_bond, .int 0, .ref x_end, .ref x_span, .int 0, .ref x_part, .ref x_partPower, .int 0, .ref x_kept])), (x_tape, .inl (cT, 400, .inl fT))] sz) []) (va_A [(h0, .inr (11, [.ref x_desk, .ref x_reader, .ref x_cells, .ref x_tape, .int 0, .ref x_script, .int 0, .ref x_rootAt, .ref x_rootTimes, .int 0, .ref x_spotX, .ref x_spotY, .ref x_bond, .int 0, .ref x_end, .ref x_span, .int 0, .ref x_part, .ref x_partPower, .int 0, .ref x_kept])), (x_tape, .inl (cT, 400, .inl fT))] sz)) 0 0 (va_A [(h0, .inr (11, [.ref x_desk, .ref x_reader, .ref x_cells, .ref x_tape, .int 0, .ref x_script, .int 0, .ref x_rootAt, .ref x_rootTimes, .int 0, .ref x_spotX, .ref x_spotY, .ref x_bond, .int 0, .ref x_end, .ref x_span, .int 0, .ref x_part, .ref x_partPower, .int 0, .ref x_kept])), (x_tape, .inl (cT, 400, .inl fT))] sz) := by
  refine Met.ofW (cc := b_House_feed) (maxL := 6) (ret := (some .int)) (by decide) rfl ?_
  intro p e s m args below meth c s₁ B hml hv
  obtain ⟨rfl, hsz, hP, hK, hD0, hN⟩ := hv
  have hx := B.exec
  have hb := B.bytes
  have hr := B.returns
  have hT : ∀ w ∈ lw_g, w.before _ s = true := fun w h => atoms_spec (ws := w_House_feed) B.pre w (List.mem_cons_of_mem _ h)
  have hown : s.vm.findClass R_House = some m.cls := findClass_of_methodNamed B.named
  have hlocks := B.notSynchronized
  subst hsz
  have hD := hD0.self (sz := s.heap.size)
  generalize hAe : va_A [(h0, .inr (11, [.ref x_desk, .ref x_reader, .ref x_cells, .ref x_tape, .int 0, .ref x_script, .int 0, .ref x_rootAt, .ref x_rootTimes, .int 0, .ref x_spotX, .ref x_spotY, .ref x_bond, .int 0, .ref x_end, .ref x_span, .int 0, .ref x_part, .ref x_partPower, .int 0, .ref x_kept])), (x_tape, .inl (cT, 400, .inl fT))] s.heap.size = A at hD ⊢
  have hA : ∀ q : Nat, s.heap.size ≤ q → A q := fun q h => by rw [← hAe]; exact Or.inr h
  have hS : va_S A s.heap s.heap [] := va_S.rf
  have hP : va_P (dC, dI) classes [(h0, .inr (11, [.ref x_desk, .ref x_reader, .ref x_cells, .ref x_tape, .int 0, .ref x_script, .int 0, .ref x_rootAt, .ref x_rootTimes, .int 0, .ref x_spotX, .ref x_spotY, .ref x_bond, .int 0, .ref x_end, .ref x_span, .int 0, .ref x_part, .ref x_partPower, .int 0, .ref x_kept])), (x_tape, .inl (cT, 400, .inl fT))] s.heap := hP
  have hl := lv_entry ([.ref h0, .int a1, .int a2, .int a3, .int a4, .int a5]) (n := 6) (Nat.le_of_ble_eq_true rfl)
  rw [lg_entry_eq]
  generalize (lg_sl ([.ref h0, .int a1, .int a2, .int a3, .int a4, .int a5]) ++ List.replicate (6 - (lg_sl ([.ref h0, .int a1, .int a2, .int a3, .int a4, .int a5])).length) Slot.unset).toArray = ls at hl ⊢
  have hl : lv_has ls 6 [(0, .ref h0), (1, .int a1), (2, .int a2), (3, .int a3), (4, .int a4), (5, .int a5)] := hl
  refine lv_aload_n hx hb d_House_feed_0 rfl (lv_at hl 0 rfl) ?_
  refine va_get (D := (dC, dI)) (ci := 11) (v := .int 0) (C := R_House) (T := F_House) (N := 21) hx hb hT i_House hown hK hP 0 rfl rfl 4 (by decide) (hT _ tw_619) (fun _ h9 => h9) rfl d_House_feed_1 ?_
  refine lv_bipush (v := 20) hx hb d_House_feed_4 (by decide) ?_
  refine lv_iadd hx hb d_House_feed_6 ?_
  refine lv_topi (fun v_1 ev_1 => ?_)
  obtain rfl : v_1 = 20 := ev_1.trans (by decide)
  refine lv_sipush (v := 400) hx hb d_House_feed_7 (by decide) ?_
  refine lv_icmp_le (tgt := 15) hx hb d_House_feed_10 (by decide) (fun c_2 => ?_) (fun c_2 => absurd (by decide) c_2)
  have hP : va_P (dC, dI) classes [(h0, .inr (11, [.ref x_desk, .ref x_reader, .ref x_cells, .ref x_tape, .int (nI 0), .ref x_script, .int 0, .ref x_rootAt, .ref x_rootTimes, .int 0, .ref x_spotX, .ref x_spotY, .ref x_bond, .int 0, .ref x_end, .ref x_span, .int 0, .ref x_part, .ref x_partPower, .int 0, .ref x_kept])), (x_tape, .inl (cT, 400, .inl fT))] _ := hP
  have hD : va_D A [(h0, .inr (11, [.ref x_desk, .ref x_reader, .ref x_cells, .ref x_tape, .int (nI 0), .ref x_script, .int 0, .ref x_rootAt, .ref x_rootTimes, .int 0, .ref x_spotX, .ref x_spotY, .ref x_bond, .int 0, .ref x_end, .ref x_span, .int 0, .ref x_part, .ref x_partPower, .int 0, .ref x_kept])), (x_tape, .inl (cT, 400, .inl fT))] := hD
  refine lv_aload_n hx hb d_House_feed_15 rfl (lv_at hl 0 rfl) ?_
  refine lv_iload_n hx hb d_House_feed_16 rfl (lv_at hl 1 rfl) ?_
  have hPc := hP.sub (ws' := [(h0, .inr (11, [.ref x_desk, .ref x_reader, .ref x_cells, .ref x_tape, .int (nI 0), .ref x_script, .int 0, .ref x_rootAt, .ref x_rootTimes, .int 0, .ref x_spotX, .ref x_spotY, .ref x_bond, .int 0, .ref x_end, .ref x_span, .int 0, .ref x_part, .ref x_partPower, .int 0, .ref x_kept])), (x_tape, .inl (cT, 400, .inl fT))]) [0, 1] rfl
  have hDc := hD.sub (ws' := [(h0, .inr (11, [.ref x_desk, .ref x_reader, .ref x_cells, .ref x_tape, .int (nI 0), .ref x_script, .int 0, .ref x_rootAt, .ref x_rootTimes, .int 0, .ref x_spotX, .ref x_spotY, .ref x_bond, .int 0, .ref x_end, .ref x_span, .int 0, .ref x_part, .ref x_partPower, .int 0, .ref x_kept])), (x_tape, .inl (cT, 400, .inl fT))]) [0, 1] (by decide) rfl
  have hKc := hK.sub (tys' := [(cT, .int)]) [0] rfl
  have hFc := va_free (wc := [(h0, .inr (11, [.ref x_desk, .ref x_reader, .ref x_cells, .ref x_tape, .int (nI 0), .ref x_script, .int 0, .ref x_rootAt, .ref x_rootTimes, .int 0, .ref x_spotX, .ref x_spotY, .ref x_bond, .int 0, .ref x_end, .ref x_span, .int 0, .ref x_part, .ref x_partPower, .int 0, .ref x_kept])), (x_tape, .inl (cT, 400, .inl fT))]) hD hS hA [0, 1] rfl
  refine va_callv (va_runV (As := [.int a1]) (rest := []) ⟨hx, hb, hml, hown, hT⟩ (c_House_feedFour_0 l dC dI s.heap.size h0 x_desk x_reader x_cells x_tape x_script x_rootAt x_rootTimes x_spotX x_spotY x_bond x_end x_span x_part x_partPower x_kept cT fT 0 a1 (by omega)) (cwV 1 hT (tb_goodV g_House_feedFour tw_683 tw_685 (tb_sel (q := (⟨"RealHouse", "feedFour", "(I)V"⟩, 21)) (i := 0) (by decide +kernel)) tw_1) rfl rfl rfl (by decide +kernel) ⟨Nat.le_of_ble_eq_true rfl, Nat.le_of_ble_eq_true rfl⟩) ⟨fun a U g mk q => by obtain ⟨q0, q1, qP, qK, qD, qN⟩ := q; exact ⟨q0, q1, qP, va_K.moved (u := U) (U := U.calling g mk a) (Vm.Alike.refl U.vm) qK, qD, nx_K.same (u := U) (U := U.calling g mk a) rfl qN⟩, va_recv hKc hPc (ci := 11) (q0 := 0) rfl rfl, fun U hU hW => ⟨rfl, by rw [hU], by rw [hU]; exact hPc, va_K.moved hW.alike hKc, hDc.weaken (fun _ _ _ _ => trivial), nx_K.warm hW hN⟩⟩ rfl rfl hl.1 rfl (lv_room (Nat.le_of_ble_eq_true rfl)) d_House_feed_17 ⟨Nat.le_of_ble_eq_true rfl, Nat.le_of_ble_eq_true rfl⟩) hS (fun q _ h => hFc q h) hFc (fun u t H1 locs ht hvm hw hB hz1 hk1 hS => ?_)
  obtain ⟨tz1_3, f1_4, hp_5, hP1, hK1, hD1⟩ := hB
  rw [ht] at hP1
  have hK1 := va_K.moved hvm.symm hK1
  obtain ⟨hP, hD⟩ := va_join (wr := []) (w1 := [(h0, .inr (11, [.ref x_desk, .ref x_reader, .ref x_cells, .ref x_tape, .int (nI tz1_3), .ref x_script, .int 0, .ref x_rootAt, .ref x_rootTimes, .int 0, .ref x_spotX, .ref x_spotY, .ref x_bond, .int 0, .ref x_end, .ref x_span, .int 0, .ref x_part, .ref x_partPower, .int 0, .ref x_kept])), (x_tape, .inl (cT, 400, .inl f1_4))]) hP hD [0, 1] [] rfl rfl (by decide) (by decide) hk1 hFc hP1 hD1
  have hK := (hK.sub (tys' := []) [] rfl).app hK1
  generalize H1 = H at hP hS ⊢
  have hP : va_P (dC, dI) classes [(h0, .inr (11, [.ref x_desk, .ref x_reader, .ref x_cells, .ref x_tape, .int (nI tz1_3), .ref x_script, .int 0, .ref x_rootAt, .ref x_rootTimes, .int 0, .ref x_spotX, .ref x_spotY, .ref x_bond, .int 0, .ref x_end, .ref x_span, .int 0, .ref x_part, .ref x_partPower, .int 0, .ref x_kept])), (x_tape, .inl (cT, 400, .inl f1_4))] H := hP
  have hD : va_D A [(h0, .inr (11, [.ref x_desk, .ref x_reader, .ref x_cells, .ref x_tape, .int (nI tz1_3), .ref x_script, .int 0, .ref x_rootAt, .ref x_rootTimes, .int 0, .ref x_spotX, .ref x_spotY, .ref x_bond, .int 0, .ref x_end, .ref x_span, .int 0, .ref x_part, .ref x_partPower, .int 0, .ref x_kept])), (x_tape, .inl (cT, 400, .inl f1_4))] := hD
  have hK : va_K (dC, dI) classes [(cT, .int)] s := hK
  refine lv_aload_n hx hb d_House_feed_20 rfl (lv_at hl 0 rfl) ?_
  refine lv_iload_n hx hb d_House_feed_21 rfl (lv_at hl 2 rfl) ?_
  have hPc := hP.sub (ws' := [(h0, .inr (11, [.ref x_desk, .ref x_reader, .ref x_cells, .ref x_tape, .int (nI tz1_3), .ref x_script, .int 0, .ref x_rootAt, .ref x_rootTimes, .int 0, .ref x_spotX, .ref x_spotY, .ref x_bond, .int 0, .ref x_end, .ref x_span, .int 0, .ref x_part, .ref x_partPower, .int 0, .ref x_kept])), (x_tape, .inl (cT, 400, .inl f1_4))]) [0, 1] rfl
  have hDc := hD.sub (ws' := [(h0, .inr (11, [.ref x_desk, .ref x_reader, .ref x_cells, .ref x_tape, .int (nI tz1_3), .ref x_script, .int 0, .ref x_rootAt, .ref x_rootTimes, .int 0, .ref x_spotX, .ref x_spotY, .ref x_bond, .int 0, .ref x_end, .ref x_span, .int 0, .ref x_part, .ref x_partPower, .int 0, .ref x_kept])), (x_tape, .inl (cT, 400, .inl f1_4))]) [0, 1] (by decide) rfl
  have hKc := hK.sub (tys' := [(cT, .int)]) [0] rfl
  have hFc := va_free (wc := [(h0, .inr (11, [.ref x_desk, .ref x_reader, .ref x_cells, .ref x_tape, .int (nI tz1_3), .ref x_script, .int 0, .ref x_rootAt, .ref x_rootTimes, .int 0, .ref x_spotX, .ref x_spotY, .ref x_bond, .int 0, .ref x_end, .ref x_span, .int 0, .ref x_part, .ref x_partPower, .int 0, .ref x_kept])), (x_tape, .inl (cT, 400, .inl f1_4))]) hD hS hA [0, 1] rfl
  refine va_callv (va_runV (As := [.int a2]) (rest := []) ⟨hx, hb, hml, hown, hT⟩ (c_House_feedFour_0 l dC dI H.size h0 x_desk x_reader x_cells x_tape x_script x_rootAt x_rootTimes x_spotX x_spotY x_bond x_end x_span x_part x_partPower x_kept cT f1_4 tz1_3 a2 (by omega)) (cwV 1 hT (tb_goodV g_House_feedFour tw_683 tw_685 (tb_sel (q := (⟨"RealHouse", "feedFour", "(I)V"⟩, 21)) (i := 0) (by decide +kernel)) tw_1) rfl rfl rfl (by decide +kernel) ⟨Nat.le_of_ble_eq_true rfl, Nat.le_of_ble_eq_true rfl⟩) ⟨fun a U g mk q => by obtain ⟨q0, q1, qP, qK, qD, qN⟩ := q; exact ⟨q0, q1, qP, va_K.moved (u := U) (U := U.calling g mk a) (Vm.Alike.refl U.vm) qK, qD, nx_K.same (u := U) (U := U.calling g mk a) rfl qN⟩, va_recv hKc hPc (ci := 11) (q0 := 0) rfl rfl, fun U hU hW => ⟨rfl, by rw [hU], by rw [hU]; exact hPc, va_K.moved hW.alike hKc, hDc.weaken (fun _ _ _ _ => trivial), nx_K.warm hW hN⟩⟩ rfl rfl hl.1 rfl (lv_room (Nat.le_of_ble_eq_true rfl)) d_House_feed_22 ⟨Nat.le_of_ble_eq_true rfl, Nat.le_of_ble_eq_true rfl⟩) hS (fun q _ h => hFc q h) hFc (fun u t H1 locs ht hvm hw hB hz1 hk1 hS => ?_)
  obtain ⟨tz1_6, f1_7, hp_8, hP1, hK1, hD1⟩ := hB
  rw [ht] at hP1
  have hK1 := va_K.moved hvm.symm hK1
  obtain ⟨hP, hD⟩ := va_join (wr := []) (w1 := [(h0, .inr (11, [.ref x_desk, .ref x_reader, .ref x_cells, .ref x_tape, .int (nI tz1_6), .ref x_script, .int 0, .ref x_rootAt, .ref x_rootTimes, .int 0, .ref x_spotX, .ref x_spotY, .ref x_bond, .int 0, .ref x_end, .ref x_span, .int 0, .ref x_part, .ref x_partPower, .int 0, .ref x_kept])), (x_tape, .inl (cT, 400, .inl f1_7))]) hP hD [0, 1] [] rfl rfl (by decide) (by decide) hk1 hFc hP1 hD1
  have hK := (hK.sub (tys' := []) [] rfl).app hK1
  generalize H1 = H at hP hS ⊢
  have hP : va_P (dC, dI) classes [(h0, .inr (11, [.ref x_desk, .ref x_reader, .ref x_cells, .ref x_tape, .int (nI tz1_6), .ref x_script, .int 0, .ref x_rootAt, .ref x_rootTimes, .int 0, .ref x_spotX, .ref x_spotY, .ref x_bond, .int 0, .ref x_end, .ref x_span, .int 0, .ref x_part, .ref x_partPower, .int 0, .ref x_kept])), (x_tape, .inl (cT, 400, .inl f1_7))] H := hP
  have hD : va_D A [(h0, .inr (11, [.ref x_desk, .ref x_reader, .ref x_cells, .ref x_tape, .int (nI tz1_6), .ref x_script, .int 0, .ref x_rootAt, .ref x_rootTimes, .int 0, .ref x_spotX, .ref x_spotY, .ref x_bond, .int 0, .ref x_end, .ref x_span, .int 0, .ref x_part, .ref x_partPower, .int 0, .ref x_kept])), (x_tape, .inl (cT, 400, .inl f1_7))] := hD
  have hK : va_K (dC, dI) classes [(cT, .int)] s := hK
  refine lv_aload_n hx hb d_House_feed_25 rfl (lv_at hl 0 rfl) ?_
  refine lv_iload_n hx hb d_House_feed_26 rfl (lv_at hl 3 rfl) ?_
  have hPc := hP.sub (ws' := [(h0, .inr (11, [.ref x_desk, .ref x_reader, .ref x_cells, .ref x_tape, .int (nI tz1_6), .ref x_script, .int 0, .ref x_rootAt, .ref x_rootTimes, .int 0, .ref x_spotX, .ref x_spotY, .ref x_bond, .int 0, .ref x_end, .ref x_span, .int 0, .ref x_part, .ref x_partPower, .int 0, .ref x_kept])), (x_tape, .inl (cT, 400, .inl f1_7))]) [0, 1] rfl
  have hDc := hD.sub (ws' := [(h0, .inr (11, [.ref x_desk, .ref x_reader, .ref x_cells, .ref x_tape, .int (nI tz1_6), .ref x_script, .int 0, .ref x_rootAt, .ref x_rootTimes, .int 0, .ref x_spotX, .ref x_spotY, .ref x_bond, .int 0, .ref x_end, .ref x_span, .int 0, .ref x_part, .ref x_partPower, .int 0, .ref x_kept])), (x_tape, .inl (cT, 400, .inl f1_7))]) [0, 1] (by decide) rfl
  have hKc := hK.sub (tys' := [(cT, .int)]) [0] rfl
  have hFc := va_free (wc := [(h0, .inr (11, [.ref x_desk, .ref x_reader, .ref x_cells, .ref x_tape, .int (nI tz1_6), .ref x_script, .int 0, .ref x_rootAt, .ref x_rootTimes, .int 0, .ref x_spotX, .ref x_spotY, .ref x_bond, .int 0, .ref x_end, .ref x_span, .int 0, .ref x_part, .ref x_partPower, .int 0, .ref x_kept])), (x_tape, .inl (cT, 400, .inl f1_7))]) hD hS hA [0, 1] rfl
  refine va_callv (va_runV (As := [.int a3]) (rest := []) ⟨hx, hb, hml, hown, hT⟩ (c_House_feedFour_0 l dC dI H.size h0 x_desk x_reader x_cells x_tape x_script x_rootAt x_rootTimes x_spotX x_spotY x_bond x_end x_span x_part x_partPower x_kept cT f1_7 tz1_6 a3 (by omega)) (cwV 1 hT (tb_goodV g_House_feedFour tw_683 tw_685 (tb_sel (q := (⟨"RealHouse", "feedFour", "(I)V"⟩, 21)) (i := 0) (by decide +kernel)) tw_1) rfl rfl rfl (by decide +kernel) ⟨Nat.le_of_ble_eq_true rfl, Nat.le_of_ble_eq_true rfl⟩) ⟨fun a U g mk q => by obtain ⟨q0, q1, qP, qK, qD, qN⟩ := q; exact ⟨q0, q1, qP, va_K.moved (u := U) (U := U.calling g mk a) (Vm.Alike.refl U.vm) qK, qD, nx_K.same (u := U) (U := U.calling g mk a) rfl qN⟩, va_recv hKc hPc (ci := 11) (q0 := 0) rfl rfl, fun U hU hW => ⟨rfl, by rw [hU], by rw [hU]; exact hPc, va_K.moved hW.alike hKc, hDc.weaken (fun _ _ _ _ => trivial), nx_K.warm hW hN⟩⟩ rfl rfl hl.1 rfl (lv_room (Nat.le_of_ble_eq_true rfl)) d_House_feed_27 ⟨Nat.le_of_ble_eq_true rfl, Nat.le_of_ble_eq_true rfl⟩) hS (fun q _ h => hFc q h) hFc (fun u t H1 locs ht hvm hw hB hz1 hk1 hS => ?_)
  obtain ⟨tz1_9, f1_10, hp_11, hP1, hK1, hD1⟩ := hB
  rw [ht] at hP1
  have hK1 := va_K.moved hvm.symm hK1
  obtain ⟨hP, hD⟩ := va_join (wr := []) (w1 := [(h0, .inr (11, [.ref x_desk, .ref x_reader, .ref x_cells, .ref x_tape, .int (nI tz1_9), .ref x_script, .int 0, .ref x_rootAt, .ref x_rootTimes, .int 0, .ref x_spotX, .ref x_spotY, .ref x_bond, .int 0, .ref x_end, .ref x_span, .int 0, .ref x_part, .ref x_partPower, .int 0, .ref x_kept])), (x_tape, .inl (cT, 400, .inl f1_10))]) hP hD [0, 1] [] rfl rfl (by decide) (by decide) hk1 hFc hP1 hD1
  have hK := (hK.sub (tys' := []) [] rfl).app hK1
  generalize H1 = H at hP hS ⊢
  have hP : va_P (dC, dI) classes [(h0, .inr (11, [.ref x_desk, .ref x_reader, .ref x_cells, .ref x_tape, .int (nI tz1_9), .ref x_script, .int 0, .ref x_rootAt, .ref x_rootTimes, .int 0, .ref x_spotX, .ref x_spotY, .ref x_bond, .int 0, .ref x_end, .ref x_span, .int 0, .ref x_part, .ref x_partPower, .int 0, .ref x_kept])), (x_tape, .inl (cT, 400, .inl f1_10))] H := hP
  have hD : va_D A [(h0, .inr (11, [.ref x_desk, .ref x_reader, .ref x_cells, .ref x_tape, .int (nI tz1_9), .ref x_script, .int 0, .ref x_rootAt, .ref x_rootTimes, .int 0, .ref x_spotX, .ref x_spotY, .ref x_bond, .int 0, .ref x_end, .ref x_span, .int 0, .ref x_part, .ref x_partPower, .int 0, .ref x_kept])), (x_tape, .inl (cT, 400, .inl f1_10))] := hD
  have hK : va_K (dC, dI) classes [(cT, .int)] s := hK
  refine lv_aload_n hx hb d_House_feed_30 rfl (lv_at hl 0 rfl) ?_
  refine lv_iload hx hb d_House_feed_31 (lv_at hl 4 rfl) ?_
  have hPc := hP.sub (ws' := [(h0, .inr (11, [.ref x_desk, .ref x_reader, .ref x_cells, .ref x_tape, .int (nI tz1_9), .ref x_script, .int 0, .ref x_rootAt, .ref x_rootTimes, .int 0, .ref x_spotX, .ref x_spotY, .ref x_bond, .int 0, .ref x_end, .ref x_span, .int 0, .ref x_part, .ref x_partPower, .int 0, .ref x_kept])), (x_tape, .inl (cT, 400, .inl f1_10))]) [0, 1] rfl
  have hDc := hD.sub (ws' := [(h0, .inr (11, [.ref x_desk, .ref x_reader, .ref x_cells, .ref x_tape, .int (nI tz1_9), .ref x_script, .int 0, .ref x_rootAt, .ref x_rootTimes, .int 0, .ref x_spotX, .ref x_spotY, .ref x_bond, .int 0, .ref x_end, .ref x_span, .int 0, .ref x_part, .ref x_partPower, .int 0, .ref x_kept])), (x_tape, .inl (cT, 400, .inl f1_10))]) [0, 1] (by decide) rfl
  have hKc := hK.sub (tys' := [(cT, .int)]) [0] rfl
  have hFc := va_free (wc := [(h0, .inr (11, [.ref x_desk, .ref x_reader, .ref x_cells, .ref x_tape, .int (nI tz1_9), .ref x_script, .int 0, .ref x_rootAt, .ref x_rootTimes, .int 0, .ref x_spotX, .ref x_spotY, .ref x_bond, .int 0, .ref x_end, .ref x_span, .int 0, .ref x_part, .ref x_partPower, .int 0, .ref x_kept])), (x_tape, .inl (cT, 400, .inl f1_10))]) hD hS hA [0, 1] rfl
  refine va_callv (va_runV (As := [.int a4]) (rest := []) ⟨hx, hb, hml, hown, hT⟩ (c_House_feedFour_0 l dC dI H.size h0 x_desk x_reader x_cells x_tape x_script x_rootAt x_rootTimes x_spotX x_spotY x_bond x_end x_span x_part x_partPower x_kept cT f1_10 tz1_9 a4 (by omega)) (cwV 1 hT (tb_goodV g_House_feedFour tw_683 tw_685 (tb_sel (q := (⟨"RealHouse", "feedFour", "(I)V"⟩, 21)) (i := 0) (by decide +kernel)) tw_1) rfl rfl rfl (by decide +kernel) ⟨Nat.le_of_ble_eq_true rfl, Nat.le_of_ble_eq_true rfl⟩) ⟨fun a U g mk q => by obtain ⟨q0, q1, qP, qK, qD, qN⟩ := q; exact ⟨q0, q1, qP, va_K.moved (u := U) (U := U.calling g mk a) (Vm.Alike.refl U.vm) qK, qD, nx_K.same (u := U) (U := U.calling g mk a) rfl qN⟩, va_recv hKc hPc (ci := 11) (q0 := 0) rfl rfl, fun U hU hW => ⟨rfl, by rw [hU], by rw [hU]; exact hPc, va_K.moved hW.alike hKc, hDc.weaken (fun _ _ _ _ => trivial), nx_K.warm hW hN⟩⟩ rfl rfl hl.1 rfl (lv_room (Nat.le_of_ble_eq_true rfl)) d_House_feed_33 ⟨Nat.le_of_ble_eq_true rfl, Nat.le_of_ble_eq_true rfl⟩) hS (fun q _ h => hFc q h) hFc (fun u t H1 locs ht hvm hw hB hz1 hk1 hS => ?_)
  obtain ⟨tz1_12, f1_13, hp_14, hP1, hK1, hD1⟩ := hB
  rw [ht] at hP1
  have hK1 := va_K.moved hvm.symm hK1
  obtain ⟨hP, hD⟩ := va_join (wr := []) (w1 := [(h0, .inr (11, [.ref x_desk, .ref x_reader, .ref x_cells, .ref x_tape, .int (nI tz1_12), .ref x_script, .int 0, .ref x_rootAt, .ref x_rootTimes, .int 0, .ref x_spotX, .ref x_spotY, .ref x_bond, .int 0, .ref x_end, .ref x_span, .int 0, .ref x_part, .ref x_partPower, .int 0, .ref x_kept])), (x_tape, .inl (cT, 400, .inl f1_13))]) hP hD [0, 1] [] rfl rfl (by decide) (by decide) hk1 hFc hP1 hD1
  have hK := (hK.sub (tys' := []) [] rfl).app hK1
  generalize H1 = H at hP hS ⊢
  have hP : va_P (dC, dI) classes [(h0, .inr (11, [.ref x_desk, .ref x_reader, .ref x_cells, .ref x_tape, .int (nI tz1_12), .ref x_script, .int 0, .ref x_rootAt, .ref x_rootTimes, .int 0, .ref x_spotX, .ref x_spotY, .ref x_bond, .int 0, .ref x_end, .ref x_span, .int 0, .ref x_part, .ref x_partPower, .int 0, .ref x_kept])), (x_tape, .inl (cT, 400, .inl f1_13))] H := hP
  have hD : va_D A [(h0, .inr (11, [.ref x_desk, .ref x_reader, .ref x_cells, .ref x_tape, .int (nI tz1_12), .ref x_script, .int 0, .ref x_rootAt, .ref x_rootTimes, .int 0, .ref x_spotX, .ref x_spotY, .ref x_bond, .int 0, .ref x_end, .ref x_span, .int 0, .ref x_part, .ref x_partPower, .int 0, .ref x_kept])), (x_tape, .inl (cT, 400, .inl f1_13))] := hD
  have hK : va_K (dC, dI) classes [(cT, .int)] s := hK
  refine lv_aload_n hx hb d_House_feed_36 rfl (lv_at hl 0 rfl) ?_
  refine lv_iload hx hb d_House_feed_37 (lv_at hl 5 rfl) ?_
  have hPc := hP.sub (ws' := [(h0, .inr (11, [.ref x_desk, .ref x_reader, .ref x_cells, .ref x_tape, .int (nI tz1_12), .ref x_script, .int 0, .ref x_rootAt, .ref x_rootTimes, .int 0, .ref x_spotX, .ref x_spotY, .ref x_bond, .int 0, .ref x_end, .ref x_span, .int 0, .ref x_part, .ref x_partPower, .int 0, .ref x_kept])), (x_tape, .inl (cT, 400, .inl f1_13))]) [0, 1] rfl
  have hDc := hD.sub (ws' := [(h0, .inr (11, [.ref x_desk, .ref x_reader, .ref x_cells, .ref x_tape, .int (nI tz1_12), .ref x_script, .int 0, .ref x_rootAt, .ref x_rootTimes, .int 0, .ref x_spotX, .ref x_spotY, .ref x_bond, .int 0, .ref x_end, .ref x_span, .int 0, .ref x_part, .ref x_partPower, .int 0, .ref x_kept])), (x_tape, .inl (cT, 400, .inl f1_13))]) [0, 1] (by decide) rfl
  have hKc := hK.sub (tys' := [(cT, .int)]) [0] rfl
  have hFc := va_free (wc := [(h0, .inr (11, [.ref x_desk, .ref x_reader, .ref x_cells, .ref x_tape, .int (nI tz1_12), .ref x_script, .int 0, .ref x_rootAt, .ref x_rootTimes, .int 0, .ref x_spotX, .ref x_spotY, .ref x_bond, .int 0, .ref x_end, .ref x_span, .int 0, .ref x_part, .ref x_partPower, .int 0, .ref x_kept])), (x_tape, .inl (cT, 400, .inl f1_13))]) hD hS hA [0, 1] rfl
  refine va_callv (va_runV (As := [.int a5]) (rest := []) ⟨hx, hb, hml, hown, hT⟩ (c_House_feedFour_0 l dC dI H.size h0 x_desk x_reader x_cells x_tape x_script x_rootAt x_rootTimes x_spotX x_spotY x_bond x_end x_span x_part x_partPower x_kept cT f1_13 tz1_12 a5 (by omega)) (cwV 1 hT (tb_goodV g_House_feedFour tw_683 tw_685 (tb_sel (q := (⟨"RealHouse", "feedFour", "(I)V"⟩, 21)) (i := 0) (by decide +kernel)) tw_1) rfl rfl rfl (by decide +kernel) ⟨Nat.le_of_ble_eq_true rfl, Nat.le_of_ble_eq_true rfl⟩) ⟨fun a U g mk q => by obtain ⟨q0, q1, qP, qK, qD, qN⟩ := q; exact ⟨q0, q1, qP, va_K.moved (u := U) (U := U.calling g mk a) (Vm.Alike.refl U.vm) qK, qD, nx_K.same (u := U) (U := U.calling g mk a) rfl qN⟩, va_recv hKc hPc (ci := 11) (q0 := 0) rfl rfl, fun U hU hW => ⟨rfl, by rw [hU], by rw [hU]; exact hPc, va_K.moved hW.alike hKc, hDc.weaken (fun _ _ _ _ => trivial), nx_K.warm hW hN⟩⟩ rfl rfl hl.1 rfl (lv_room (Nat.le_of_ble_eq_true rfl)) d_House_feed_39 ⟨Nat.le_of_ble_eq_true rfl, Nat.le_of_ble_eq_true rfl⟩) hS (fun q _ h => hFc q h) hFc (fun u t H1 locs ht hvm hw hB hz1 hk1 hS => ?_)
  obtain ⟨tz1_15, f1_16, hp_17, hP1, hK1, hD1⟩ := hB
  rw [ht] at hP1
  have hK1 := va_K.moved hvm.symm hK1
  obtain ⟨hP, hD⟩ := va_join (wr := []) (w1 := [(h0, .inr (11, [.ref x_desk, .ref x_reader, .ref x_cells, .ref x_tape, .int (nI tz1_15), .ref x_script, .int 0, .ref x_rootAt, .ref x_rootTimes, .int 0, .ref x_spotX, .ref x_spotY, .ref x_bond, .int 0, .ref x_end, .ref x_span, .int 0, .ref x_part, .ref x_partPower, .int 0, .ref x_kept])), (x_tape, .inl (cT, 400, .inl f1_16))]) hP hD [0, 1] [] rfl rfl (by decide) (by decide) hk1 hFc hP1 hD1
  have hK := (hK.sub (tys' := []) [] rfl).app hK1
  generalize H1 = H at hP hS ⊢
  have hP : va_P (dC, dI) classes [(h0, .inr (11, [.ref x_desk, .ref x_reader, .ref x_cells, .ref x_tape, .int (nI tz1_15), .ref x_script, .int 0, .ref x_rootAt, .ref x_rootTimes, .int 0, .ref x_spotX, .ref x_spotY, .ref x_bond, .int 0, .ref x_end, .ref x_span, .int 0, .ref x_part, .ref x_partPower, .int 0, .ref x_kept])), (x_tape, .inl (cT, 400, .inl f1_16))] H := hP
  have hD : va_D A [(h0, .inr (11, [.ref x_desk, .ref x_reader, .ref x_cells, .ref x_tape, .int (nI tz1_15), .ref x_script, .int 0, .ref x_rootAt, .ref x_rootTimes, .int 0, .ref x_spotX, .ref x_spotY, .ref x_bond, .int 0, .ref x_end, .ref x_span, .int 0, .ref x_part, .ref x_partPower, .int 0, .ref x_kept])), (x_tape, .inl (cT, 400, .inl f1_16))] := hD
  have hK : va_K (dC, dI) classes [(cT, .int)] s := hK
  refine lv_aload_n hx hb d_House_feed_42 rfl (lv_at hl 0 rfl) ?_
  refine va_get (D := (dC, dI)) (ci := 11) (v := .int (nI tz1_15)) (C := R_House) (T := F_House) (N := 21) hx hb hT i_House hown hK hP 0 rfl rfl 4 (by decide) (hT _ tw_619) (fun _ h9 => h9) rfl d_House_feed_43 ?_
  have hP9 := hP.sub (ws' := []) [] rfl
  have hD9 := hD.sub (ws' := []) [] (by decide) rfl
  have hK9 := hK.sub (tys' := []) [] rfl
  exact W.iret (v := (nI tz1_15)) hx hb hr (fun t ht hW => ⟨⟨(nI tz1_15), (), rfl, by rw [show tz1_15 = 20 by omega]; rfl, by rw [ht]; exact hP9, va_K.moved hW.alike hK9, hD9⟩, hS.F ht⟩) hS.2.2 d_House_feed_46
