theorem tw_90 : (.constant "RealHouse$Big" 42 (1073741823) : Cond) ∈ lw_g := tb_at (i := 90) (by decide +kernel) rfl
abbrev b_Big_product : ByteArray := prog_2_method_5_code
def y_Big_product : MethodName := ⟨"RealHouse$Big", "product", "(LRealHouse$Big;LRealHouse$Big;)V"⟩
abbrev w_Big_product : List Cond := .code y_Big_product b_Big_product 15 none :: lw_g
theorem g_Big_product : GoodIn lw_g w_Big_product := tb_good1 (tb_at (i := 89) (by decide +kernel) rfl)
theorem d_Big_product_0 : decode b_Big_product 0 = .ok (.aload_n 1, 1) := by decide +kernel
theorem d_Big_product_1 : decode b_Big_product 1 = .ok (.getfield 25, 3) := by decide +kernel
theorem d_Big_product_4 : decode b_Big_product 4 = .ok (.istore_n 3, 1) := by decide +kernel
theorem d_Big_product_5 : decode b_Big_product 5 = .ok (.aload_n 2, 1) := by decide +kernel
theorem d_Big_product_6 : decode b_Big_product 6 = .ok (.getfield 25, 3) := by decide +kernel
theorem d_Big_product_9 : decode b_Big_product 9 = .ok (.istore 4, 2) := by decide +kernel
theorem d_Big_product_11 : decode b_Big_product 11 = .ok (.iload_n 3, 1) := by decide +kernel
theorem d_Big_product_12 : decode b_Big_product 12 = .ok (.ifCond .eq 8, 3) := by decide +kernel
theorem d_Big_product_15 : decode b_Big_product 15 = .ok (.iload 4, 2) := by decide +kernel
theorem d_Big_product_17 : decode b_Big_product 17 = .ok (.ifCond .ne 14, 3) := by decide +kernel
theorem d_Big_product_20 : decode b_Big_product 20 = .ok (.aload_n 0, 1) := by decide +kernel
theorem d_Big_product_21 : decode b_Big_product 21 = .ok (.iconst 0, 1) := by decide +kernel
theorem d_Big_product_22 : decode b_Big_product 22 = .ok (.putfield 25, 3) := by decide +kernel
theorem d_Big_product_25 : decode b_Big_product 25 = .ok (.aload_n 0, 1) := by decide +kernel
theorem d_Big_product_26 : decode b_Big_product 26 = .ok (.iconst 0, 1) := by decide +kernel
theorem d_Big_product_27 : decode b_Big_product 27 = .ok (.putfield 15, 3) := by decide +kernel
theorem d_Big_product_30 : decode b_Big_product 30 = .ok (.return_, 1) := by decide +kernel
theorem d_Big_product_31 : decode b_Big_product 31 = .ok (.aload_n 0, 1) := by decide +kernel
theorem d_Big_product_32 : decode b_Big_product 32 = .ok (.getfield 9, 3) := by decide +kernel
theorem d_Big_product_35 : decode b_Big_product 35 = .ok (.arraylength, 1) := by decide +kernel
theorem d_Big_product_36 : decode b_Big_product 36 = .ok (.iload_n 3, 1) := by decide +kernel
theorem d_Big_product_37 : decode b_Big_product 37 = .ok (.iload 4, 2) := by decide +kernel
theorem d_Big_product_39 : decode b_Big_product 39 = .ok (.iadd, 1) := by decide +kernel
theorem d_Big_product_40 : decode b_Big_product 40 = .ok (.if_icmp .ge 15, 3) := by decide +kernel
theorem d_Big_product_43 : decode b_Big_product 43 = .ok (.aload_n 0, 1) := by decide +kernel
theorem d_Big_product_44 : decode b_Big_product 44 = .ok (.iload_n 3, 1) := by decide +kernel
theorem d_Big_product_45 : decode b_Big_product 45 = .ok (.iload 4, 2) := by decide +kernel
theorem d_Big_product_47 : decode b_Big_product 47 = .ok (.iadd, 1) := by decide +kernel
theorem d_Big_product_48 : decode b_Big_product 48 = .ok (.iconst 4, 1) := by decide +kernel
theorem d_Big_product_49 : decode b_Big_product 49 = .ok (.iadd, 1) := by decide +kernel
theorem d_Big_product_50 : decode b_Big_product 50 = .ok (.newarray .int, 2) := by decide +kernel
theorem d_Big_product_52 : decode b_Big_product 52 = .ok (.putfield 9, 3) := by decide +kernel
theorem d_Big_product_55 : decode b_Big_product 55 = .ok (.aload_n 0, 1) := by decide +kernel
theorem d_Big_product_56 : decode b_Big_product 56 = .ok (.getfield 9, 3) := by decide +kernel
theorem d_Big_product_59 : decode b_Big_product 59 = .ok (.astore 5, 2) := by decide +kernel
theorem d_Big_product_61 : decode b_Big_product 61 = .ok (.aload_n 2, 1) := by decide +kernel
theorem d_Big_product_62 : decode b_Big_product 62 = .ok (.getfield 9, 3) := by decide +kernel
theorem d_Big_product_65 : decode b_Big_product 65 = .ok (.astore 6, 2) := by decide +kernel
theorem d_Big_product_67 : decode b_Big_product 67 = .ok (.iconst 0, 1) := by decide +kernel
theorem d_Big_product_68 : decode b_Big_product 68 = .ok (.istore 7, 2) := by decide +kernel
theorem d_Big_product_70 : decode b_Big_product 70 = .ok (.iload 7, 2) := by decide +kernel
theorem d_Big_product_72 : decode b_Big_product 72 = .ok (.iload 4, 2) := by decide +kernel
theorem d_Big_product_74 : decode b_Big_product 74 = .ok (.if_icmp .ge 15, 3) := by decide +kernel
theorem d_Big_product_77 : decode b_Big_product 77 = .ok (.aload 5, 2) := by decide +kernel
theorem d_Big_product_79 : decode b_Big_product 79 = .ok (.iload 7, 2) := by decide +kernel
theorem d_Big_product_81 : decode b_Big_product 81 = .ok (.iconst 0, 1) := by decide +kernel
theorem d_Big_product_82 : decode b_Big_product 82 = .ok (.iastore, 1) := by decide +kernel
theorem d_Big_product_83 : decode b_Big_product 83 = .ok (.iinc 7 1, 3) := by decide +kernel
theorem d_Big_product_86 : decode b_Big_product 86 = .ok (.goto (-16), 3) := by decide +kernel
theorem d_Big_product_89 : decode b_Big_product 89 = .ok (.iconst 0, 1) := by decide +kernel
theorem d_Big_product_90 : decode b_Big_product 90 = .ok (.istore 7, 2) := by decide +kernel
theorem d_Big_product_92 : decode b_Big_product 92 = .ok (.iload 7, 2) := by decide +kernel
theorem d_Big_product_94 : decode b_Big_product 94 = .ok (.iload_n 3, 1) := by decide +kernel
theorem d_Big_product_95 : decode b_Big_product 95 = .ok (.if_icmp .ge 94, 3) := by decide +kernel
theorem d_Big_product_98 : decode b_Big_product 98 = .ok (.aload_n 1, 1) := by decide +kernel
theorem d_Big_product_99 : decode b_Big_product 99 = .ok (.getfield 9, 3) := by decide +kernel
theorem d_Big_product_102 : decode b_Big_product 102 = .ok (.iload 7, 2) := by decide +kernel
theorem d_Big_product_104 : decode b_Big_product 104 = .ok (.iaload, 1) := by decide +kernel
theorem d_Big_product_105 : decode b_Big_product 105 = .ok (.i2l, 1) := by decide +kernel
theorem d_Big_product_106 : decode b_Big_product 106 = .ok (.lstore 8, 2) := by decide +kernel
theorem d_Big_product_108 : decode b_Big_product 108 = .ok (.lconst 0, 1) := by decide +kernel
theorem d_Big_product_109 : decode b_Big_product 109 = .ok (.lstore 10, 2) := by decide +kernel
theorem d_Big_product_111 : decode b_Big_product 111 = .ok (.iconst 0, 1) := by decide +kernel
theorem d_Big_product_112 : decode b_Big_product 112 = .ok (.istore 12, 2) := by decide +kernel
theorem d_Big_product_114 : decode b_Big_product 114 = .ok (.iload 12, 2) := by decide +kernel
theorem d_Big_product_116 : decode b_Big_product 116 = .ok (.iload 4, 2) := by decide +kernel
theorem d_Big_product_118 : decode b_Big_product 118 = .ok (.if_icmp .ge 54, 3) := by decide +kernel
theorem d_Big_product_121 : decode b_Big_product 121 = .ok (.lload 8, 2) := by decide +kernel
theorem d_Big_product_123 : decode b_Big_product 123 = .ok (.aload 6, 2) := by decide +kernel
theorem d_Big_product_125 : decode b_Big_product 125 = .ok (.iload 12, 2) := by decide +kernel
theorem d_Big_product_127 : decode b_Big_product 127 = .ok (.iaload, 1) := by decide +kernel
theorem d_Big_product_128 : decode b_Big_product 128 = .ok (.i2l, 1) := by decide +kernel
theorem d_Big_product_129 : decode b_Big_product 129 = .ok (.lmul, 1) := by decide +kernel
theorem d_Big_product_130 : decode b_Big_product 130 = .ok (.aload 5, 2) := by decide +kernel
theorem d_Big_product_132 : decode b_Big_product 132 = .ok (.iload 7, 2) := by decide +kernel
theorem d_Big_product_134 : decode b_Big_product 134 = .ok (.iload 12, 2) := by decide +kernel
theorem d_Big_product_136 : decode b_Big_product 136 = .ok (.iadd, 1) := by decide +kernel
theorem d_Big_product_137 : decode b_Big_product 137 = .ok (.iaload, 1) := by decide +kernel
theorem d_Big_product_138 : decode b_Big_product 138 = .ok (.i2l, 1) := by decide +kernel
theorem d_Big_product_139 : decode b_Big_product 139 = .ok (.ladd, 1) := by decide +kernel
theorem d_Big_product_140 : decode b_Big_product 140 = .ok (.lload 10, 2) := by decide +kernel
theorem d_Big_product_142 : decode b_Big_product 142 = .ok (.ladd, 1) := by decide +kernel
theorem d_Big_product_143 : decode b_Big_product 143 = .ok (.lstore 13, 2) := by decide +kernel
theorem d_Big_product_145 : decode b_Big_product 145 = .ok (.aload 5, 2) := by decide +kernel
theorem d_Big_product_147 : decode b_Big_product 147 = .ok (.iload 7, 2) := by decide +kernel
theorem d_Big_product_149 : decode b_Big_product 149 = .ok (.iload 12, 2) := by decide +kernel
theorem d_Big_product_151 : decode b_Big_product 151 = .ok (.iadd, 1) := by decide +kernel
theorem d_Big_product_152 : decode b_Big_product 152 = .ok (.lload 13, 2) := by decide +kernel
theorem d_Big_product_154 : decode b_Big_product 154 = .ok (.l2i, 1) := by decide +kernel
theorem d_Big_product_155 : decode b_Big_product 155 = .ok (.ldc 42, 2) := by decide +kernel
theorem d_Big_product_157 : decode b_Big_product 157 = .ok (.iand, 1) := by decide +kernel
theorem d_Big_product_158 : decode b_Big_product 158 = .ok (.iastore, 1) := by decide +kernel
theorem d_Big_product_159 : decode b_Big_product 159 = .ok (.lload 13, 2) := by decide +kernel
theorem d_Big_product_161 : decode b_Big_product 161 = .ok (.bipush 30, 2) := by decide +kernel
theorem d_Big_product_163 : decode b_Big_product 163 = .ok (.lushr, 1) := by decide +kernel
theorem d_Big_product_164 : decode b_Big_product 164 = .ok (.lstore 10, 2) := by decide +kernel
theorem d_Big_product_166 : decode b_Big_product 166 = .ok (.iinc 12 1, 3) := by decide +kernel
theorem d_Big_product_169 : decode b_Big_product 169 = .ok (.goto (-55), 3) := by decide +kernel
theorem d_Big_product_172 : decode b_Big_product 172 = .ok (.aload 5, 2) := by decide +kernel
theorem d_Big_product_174 : decode b_Big_product 174 = .ok (.iload 7, 2) := by decide +kernel
theorem d_Big_product_176 : decode b_Big_product 176 = .ok (.iload 4, 2) := by decide +kernel
theorem d_Big_product_178 : decode b_Big_product 178 = .ok (.iadd, 1) := by decide +kernel
theorem d_Big_product_179 : decode b_Big_product 179 = .ok (.lload 10, 2) := by decide +kernel
theorem d_Big_product_181 : decode b_Big_product 181 = .ok (.l2i, 1) := by decide +kernel
theorem d_Big_product_182 : decode b_Big_product 182 = .ok (.iastore, 1) := by decide +kernel
theorem d_Big_product_183 : decode b_Big_product 183 = .ok (.iinc 7 1, 3) := by decide +kernel
theorem d_Big_product_186 : decode b_Big_product 186 = .ok (.goto (-94), 3) := by decide +kernel
theorem d_Big_product_189 : decode b_Big_product 189 = .ok (.aload_n 0, 1) := by decide +kernel
theorem d_Big_product_190 : decode b_Big_product 190 = .ok (.aload 5, 2) := by decide +kernel
theorem d_Big_product_192 : decode b_Big_product 192 = .ok (.iload_n 3, 1) := by decide +kernel
theorem d_Big_product_193 : decode b_Big_product 193 = .ok (.iload 4, 2) := by decide +kernel
theorem d_Big_product_195 : decode b_Big_product 195 = .ok (.iadd, 1) := by decide +kernel
theorem d_Big_product_196 : decode b_Big_product 196 = .ok (.iconst 1, 1) := by decide +kernel
theorem d_Big_product_197 : decode b_Big_product 197 = .ok (.isub, 1) := by decide +kernel
theorem d_Big_product_198 : decode b_Big_product 198 = .ok (.iaload, 1) := by decide +kernel
theorem d_Big_product_199 : decode b_Big_product 199 = .ok (.ifCond .ne 12, 3) := by decide +kernel
theorem d_Big_product_202 : decode b_Big_product 202 = .ok (.iload_n 3, 1) := by decide +kernel
theorem d_Big_product_203 : decode b_Big_product 203 = .ok (.iload 4, 2) := by decide +kernel
theorem d_Big_product_205 : decode b_Big_product 205 = .ok (.iadd, 1) := by decide +kernel
theorem d_Big_product_206 : decode b_Big_product 206 = .ok (.iconst 1, 1) := by decide +kernel
theorem d_Big_product_207 : decode b_Big_product 207 = .ok (.isub, 1) := by decide +kernel
theorem d_Big_product_208 : decode b_Big_product 208 = .ok (.goto 7, 3) := by decide +kernel
theorem d_Big_product_211 : decode b_Big_product 211 = .ok (.iload_n 3, 1) := by decide +kernel
theorem d_Big_product_212 : decode b_Big_product 212 = .ok (.iload 4, 2) := by decide +kernel
theorem d_Big_product_214 : decode b_Big_product 214 = .ok (.iadd, 1) := by decide +kernel
theorem d_Big_product_215 : decode b_Big_product 215 = .ok (.putfield 25, 3) := by decide +kernel
theorem d_Big_product_218 : decode b_Big_product 218 = .ok (.aload_n 0, 1) := by decide +kernel
theorem d_Big_product_219 : decode b_Big_product 219 = .ok (.aload_n 1, 1) := by decide +kernel
theorem d_Big_product_220 : decode b_Big_product 220 = .ok (.getfield 15, 3) := by decide +kernel
theorem d_Big_product_223 : decode b_Big_product 223 = .ok (.aload_n 2, 1) := by decide +kernel
theorem d_Big_product_224 : decode b_Big_product 224 = .ok (.getfield 15, 3) := by decide +kernel
theorem d_Big_product_227 : decode b_Big_product 227 = .ok (.imul, 1) := by decide +kernel
theorem d_Big_product_228 : decode b_Big_product 228 = .ok (.putfield 15, 3) := by decide +kernel
theorem d_Big_product_231 : decode b_Big_product 231 = .ok (.return_, 1) := by decide +kernel
set_option maxHeartbeats 4000000 in
set_option maxRecDepth 100000 in
/-- product(a, b): shape alone -/
theorem c_Big_product (l : Launch) (dC : Nat → ClassId) (dI : Nat → Nat → Nat) (sz : Nat) (h0 : Nat) (q0 : Nat) (cA0 : ClassId) (D0 : Nat) (f0 : Nat → Int32) (n0 : Int32) (s0 : Int32) (h1 : Nat) (q1 : Nat) (cA1 : ClassId) (D1 : Nat) (f1 : Nat → Int32) (k1 : Nat) (s1 : Int32) (h2 : Nat) (q2 : Nat) (cA2 : ClassId) (D2 : Nat) (f2 : Nat → Int32) (k2 : Nat) (s2 : Int32) (hk1 : k1 ≤ D1) (hk2 : k2 ≤ D2) (hk : k1 + k2 ≤ 60) (hD0 : D0 < 2 ^ 31) (hD1 : D1 < 2 ^ 31) (hD2 : D2 < 2 ^ 31) : Met l y_Big_product w_Big_product ({ frames := 0, cells := 1, slots := 64, locals := 0 }) (va_Pc [.ref h0, .ref h1, .ref h2] (fun U => U.heap.size = sz ∧ va_P (dC, dI) classes [(h0, .inr (0, [.ref q0, .int n0, .int s0])), (q0, .inl (cA0, D0, .inl f0)), (h1, .inr (0, [.ref q1, .int (nI k1), .int s1])), (q1, .inl (cA1, D1, .inl f1)), (h2, .inr (0, [.ref q2, .int (nI k2), .int s2])), (q2, .inl (cA2, D2, .inl f2))] U.heap ∧ va_K (dC, dI) classes [(cA0, .int), (cA1, .int), (cA2, .int)] U ∧ va_D (fun _ => True) [(h0, .inr (0, [.ref q0, .int n0, .int s0])), (q0, .inl (cA0, D0, .inl f0)), (h1, .inr (0, [.ref q1, .int (nI k1), .int s1])), (q1, .inl (cA1, D1, .inl f1)), (h2, .inr (0, [.ref q2, .int (nI k2), .int s2])), (q2, .inl (cA2, D2, .inl f2))] ∧ nx_K U)) (va_Qv (fun _ : Unit => True) (fun _ t => ∃ (q3 : Nat), ∃ (cA3 : ClassId), ∃ (D3 : Nat), ∃ (f3 : Nat → Int32), ∃ (k3 : Nat), ∃ (s3 : Int32), (k3 ≤ k1 + k2 ∧ k3 ≤ D3 ∧ (D3 = D0 ∨ D3 ≤ 64)) ∧ va_P (dC, dI) classes [(h0, .inr (0, [.ref q3, .int (nI k3), .int s3])), (q3, .inl (cA3, D3, .inl f3)), (h1, .inr (0, [.ref q1, .int (nI k1), .int s1])), (q1, .inl (cA1, D1, .inl f1)), (h2, .inr (0, [.ref q2, .int (nI k2), .int s2])), (q2, .inl (cA2, D2, .inl f2))] t.heap ∧ va_K (dC, dI) classes [(cA3, .int), (cA1, .int), (cA2, .int)] t ∧ va_D (va_A [(h0, .inr (0, [.ref q0, .int n0, .int s0])), (q0, .inl (cA0, D0, .inl f0)), (h1, .inr (0, [.ref q1, .int (nI k1), .int s1])), (q1, .inl (cA1, D1, .inl f1)), (h2, .inr (0, [.ref q2, .int (nI k2), .int s2])), (q2, .inl (cA2, D2, .inl f2))] sz) [(h0, .inr (0, [.ref q3, .int (nI k3), .int s3])), (q3, .inl (cA3, D3, .inl f3)), (h1, .inr (0, [.ref q1, .int (nI k1), .int s1])), (q1, .inl (cA1, D1, .inl f1)), (h2, .inr (0, [.ref q2, .int (nI k2), .int s2])), (q2, .inl (cA2, D2, .inl f2))]) (va_A [(h0, .inr (0, [.ref q0, .int n0, .int s0])), (q0, .inl (cA0, D0, .inl f0)), (h1, .inr (0, [.ref q1, .int (nI k1), .int s1])), (q1, .inl (cA1, D1, .inl f1)), (h2, .inr (0, [.ref q2, .int (nI k2), .int s2])), (q2, .inl (cA2, D2, .inl f2))] sz)) 1 64 (va_A [(h0, .inr (0, [.ref q0, .int n0, .int s0])), (q0, .inl (cA0, D0, .inl f0)), (h1, .inr (0, [.ref q1, .int (nI k1), .int s1])), (q1, .inl (cA1, D1, .inl f1)), (h2, .inr (0, [.ref q2, .int (nI k2), .int s2])), (q2, .inl (cA2, D2, .inl f2))] sz) := by
  refine Met.ofW (cc := b_Big_product) (maxL := 15) (ret := none) (by decide) rfl ?_
  intro p e s m args below meth c s₁ B hml hv
  obtain ⟨rfl, hsz, hP, hK, hD0, hN⟩ := hv
  have hx := B.exec
  have hb := B.bytes
  have hr := B.returns
  have hT : ∀ w ∈ lw_g, w.before _ s = true := fun w h => atoms_spec (ws := w_Big_product) B.pre w (List.mem_cons_of_mem _ h)
  have hown : s.vm.findClass R_Big = some m.cls := findClass_of_methodNamed B.named
  have hlocks := B.notSynchronized
  subst hsz
  have hD := hD0.self (sz := s.heap.size)
  generalize hAe : va_A [(h0, .inr (0, [.ref q0, .int n0, .int s0])), (q0, .inl (cA0, D0, .inl f0)), (h1, .inr (0, [.ref q1, .int (nI k1), .int s1])), (q1, .inl (cA1, D1, .inl f1)), (h2, .inr (0, [.ref q2, .int (nI k2), .int s2])), (q2, .inl (cA2, D2, .inl f2))] s.heap.size = A at hD ⊢
  have hA : ∀ q : Nat, s.heap.size ≤ q → A q := fun q h => by rw [← hAe]; exact Or.inr h
  have hS : va_S A s.heap s.heap [] := va_S.rf
  have hP : va_P (dC, dI) classes [(h0, .inr (0, [.ref q0, .int n0, .int s0])), (q0, .inl (cA0, D0, .inl f0)), (h1, .inr (0, [.ref q1, .int (nI k1), .int s1])), (q1, .inl (cA1, D1, .inl f1)), (h2, .inr (0, [.ref q2, .int (nI k2), .int s2])), (q2, .inl (cA2, D2, .inl f2))] s.heap := hP
  have hl := lv_entry ([.ref h0, .ref h1, .ref h2]) (n := 15) (Nat.le_of_ble_eq_true rfl)
  rw [lg_entry_eq]
  generalize (lg_sl ([.ref h0, .ref h1, .ref h2]) ++ List.replicate (15 - (lg_sl ([.ref h0, .ref h1, .ref h2])).length) Slot.unset).toArray = ls at hl ⊢
  have hl : lv_has ls 15 [(0, .ref h0), (1, .ref h1), (2, .ref h2)] := hl
  refine nm_Q (fun Q hQ => ?_)
  refine lv_aload_n hx hb d_Big_product_0 rfl (lv_at hl 1 rfl) ?_
  refine va_get (D := (dC, dI)) (ci := 0) (v := .int (nI k1)) (C := R_Big) (T := F_Big) (N := 3) hx hb hT i_Big hown hK hP 2 rfl rfl 1 (by decide) (hT _ tw_47) (fun _ h9 => h9) rfl d_Big_product_1 ?_
  refine lv_istore_n (lv' := [(3, .int (nI k1)), (0, .ref h0), (1, .ref h1), (2, .ref h2)]) hx hb d_Big_product_4 rfl hl (by decide) rfl (fun ls hl => ?_)
  refine lv_aload_n hx hb d_Big_product_5 rfl (lv_at hl 3 rfl) ?_
  refine va_get (D := (dC, dI)) (ci := 0) (v := .int (nI k2)) (C := R_Big) (T := F_Big) (N := 3) hx hb hT i_Big hown hK hP 4 rfl rfl 1 (by decide) (hT _ tw_47) (fun _ h9 => h9) rfl d_Big_product_6 ?_
  refine lv_istore (lv' := [(4, .int (nI k2)), (3, .int (nI k1)), (0, .ref h0), (1, .ref h1), (2, .ref h2)]) hx hb d_Big_product_9 hl (by decide) rfl (fun ls hl => ?_)
  refine lv_iload_n hx hb d_Big_product_11 rfl (lv_at hl 1 rfl) ?_
  refine lv_if_eq (tgt := 20) hx hb d_Big_product_12 (by decide) (fun c_1 => ?_) (fun c_1 => ?_)
  · refine lv_aload_n hx hb d_Big_product_20 rfl (lv_at hl 2 rfl) ?_
    refine lv_iconst (v := 0) hx hb d_Big_product_21 (by decide) ?_
    refine va_put (D := (dC, dI)) (ci := 0) (v := .int 0) (ty := .int) (C := R_Big) (T := F_Big) (N := 3) hx hb hT i_Big t_Big t_Big_ok n_Big hown hK hP hD hS 0 rfl rfl 1 (by decide) (hT _ tw_47) (fun _ h9 => h9) rfl (by decide +kernel) rfl rfl (Nat.le_of_ble_eq_true rfl) d_Big_product_22 (fun H locs hP hD hS => ?_)
    have hP : va_P (dC, dI) classes [(h0, .inr (0, [.ref q0, .int 0, .int s0])), (q0, .inl (cA0, D0, .inl f0)), (h1, .inr (0, [.ref q1, .int (nI k1), .int s1])), (q1, .inl (cA1, D1, .inl f1)), (h2, .inr (0, [.ref q2, .int (nI k2), .int s2])), (q2, .inl (cA2, D2, .inl f2))] H := hP
    have hD : va_D A [(h0, .inr (0, [.ref q0, .int 0, .int s0])), (q0, .inl (cA0, D0, .inl f0)), (h1, .inr (0, [.ref q1, .int (nI k1), .int s1])), (q1, .inl (cA1, D1, .inl f1)), (h2, .inr (0, [.ref q2, .int (nI k2), .int s2])), (q2, .inl (cA2, D2, .inl f2))] := hD
    refine lv_aload_n hx hb d_Big_product_25 rfl (lv_at hl 2 rfl) ?_
    refine lv_iconst (v := 0) hx hb d_Big_product_26 (by decide) ?_
    refine va_put (D := (dC, dI)) (ci := 0) (v := .int 0) (ty := .int) (C := R_Big) (T := F_Big) (N := 3) hx hb hT i_Big t_Big t_Big_ok n_Big hown hK hP hD hS 0 rfl rfl 2 (by decide) (hT _ tw_51) (fun _ h9 => h9) rfl (by decide +kernel) rfl rfl (Nat.le_of_ble_eq_true rfl) d_Big_product_27 (fun H locs hP hD hS => ?_)
    have hP : va_P (dC, dI) classes [(h0, .inr (0, [.ref q0, .int 0, .int 0])), (q0, .inl (cA0, D0, .inl f0)), (h1, .inr (0, [.ref q1, .int (nI k1), .int s1])), (q1, .inl (cA1, D1, .inl f1)), (h2, .inr (0, [.ref q2, .int (nI k2), .int s2])), (q2, .inl (cA2, D2, .inl f2))] H := hP
    have hD : va_D A [(h0, .inr (0, [.ref q0, .int 0, .int 0])), (q0, .inl (cA0, D0, .inl f0)), (h1, .inr (0, [.ref q1, .int (nI k1), .int s1])), (q1, .inl (cA1, D1, .inl f1)), (h2, .inr (0, [.ref q2, .int (nI k2), .int s2])), (q2, .inl (cA2, D2, .inl f2))] := hD
    have hP : va_P (dC, dI) classes [(h0, .inr (0, [.ref q0, .int (nI 0), .int 0])), (q0, .inl (cA0, D0, .inl f0)), (h1, .inr (0, [.ref q1, .int (nI k1), .int s1])), (q1, .inl (cA1, D1, .inl f1)), (h2, .inr (0, [.ref q2, .int (nI k2), .int s2])), (q2, .inl (cA2, D2, .inl f2))] _ := hP
    have hD : va_D A [(h0, .inr (0, [.ref q0, .int (nI 0), .int 0])), (q0, .inl (cA0, D0, .inl f0)), (h1, .inr (0, [.ref q1, .int (nI k1), .int s1])), (q1, .inl (cA1, D1, .inl f1)), (h2, .inr (0, [.ref q2, .int (nI k2), .int s2])), (q2, .inl (cA2, D2, .inl f2))] := hD
    have hP9 := hP.sub (ws' := [(h0, .inr (0, [.ref q0, .int (nI 0), .int 0])), (q0, .inl (cA0, D0, .inl f0)), (h1, .inr (0, [.ref q1, .int (nI k1), .int s1])), (q1, .inl (cA1, D1, .inl f1)), (h2, .inr (0, [.ref q2, .int (nI k2), .int s2])), (q2, .inl (cA2, D2, .inl f2))]) [0, 1, 2, 3, 4, 5] rfl
    have hD9 := hD.sub (ws' := [(h0, .inr (0, [.ref q0, .int (nI 0), .int 0])), (q0, .inl (cA0, D0, .inl f0)), (h1, .inr (0, [.ref q1, .int (nI k1), .int s1])), (q1, .inl (cA1, D1, .inl f1)), (h2, .inr (0, [.ref q2, .int (nI k2), .int s2])), (q2, .inl (cA2, D2, .inl f2))]) [0, 1, 2, 3, 4, 5] (by decide) rfl
    have hK9 := hK.sub (tys' := [(cA0, .int), (cA1, .int), (cA2, .int)]) [0, 1, 2] rfl
    refine W.widen (k := 1) (n := 64) (Nat.le_of_ble_eq_true rfl) (Nat.le_of_ble_eq_true rfl) ?_
    subst hQ
    exact W.vret hx hb hr (fun t ht hW => ⟨⟨(), rfl, trivial, q0, cA0, D0, f0, 0, 0, ⟨by omega, by omega, by omega⟩, by rw [ht]; exact hP9, va_K.moved hW.alike hK9, hD9⟩, hS.F ht⟩) hS.2.2 d_Big_product_30
  · have hz1 : k1 ≠ 0 := fun h => c_1 (by rw [h]; rfl)
    refine lv_iload hx hb d_Big_product_15 (lv_at hl 0 rfl) ?_
    refine lv_if_ne (tgt := 31) hx hb d_Big_product_17 (by decide) (fun c_2 => ?_) (fun c_2 => ?_)
    · have hz2 : k2 ≠ 0 := fun h => c_2 (by rw [h]; rfl)
      refine lv_aload_n hx hb d_Big_product_31 rfl (lv_at hl 2 rfl) ?_
      refine va_get (D := (dC, dI)) (ci := 0) (v := .ref q0) (C := R_Big) (T := F_Big) (N := 3) hx hb hT i_Big hown hK hP 0 rfl rfl 0 (by decide) (hT _ tw_44) (fun _ h9 => h9) rfl d_Big_product_32 ?_
      refine va_alen (v := (nI D0)) hx hb hK hP 1 0 rfl rfl rfl d_Big_product_35 ?_
      refine lv_iload_n hx hb d_Big_product_36 rfl (lv_at hl 1 rfl) ?_
      refine lv_iload hx hb d_Big_product_37 (lv_at hl 0 rfl) ?_
      refine lv_iadd hx hb d_Big_product_39 ?_
      refine lv_topi (fun v_3 ev_3 => ?_)
      obtain rfl : v_3 = nI (k1 + k2) := ev_3.trans (nI_add k1 k2)
      refine lv_icmp_ge (tgt := 55) hx hb d_Big_product_40 (by decide) (fun c_4 => ?_) (fun c_4 => ?_)
      · have hb_c_4 : k1 + k2 ≤ D0 := (nI_leI (by omega) (by omega)).mp c_4
        refine lv_aload_n hx hb d_Big_product_55 rfl (lv_at hl 2 rfl) ?_
        refine va_get (D := (dC, dI)) (ci := 0) (v := .ref q0) (C := R_Big) (T := F_Big) (N := 3) hx hb hT i_Big hown hK hP 0 rfl rfl 0 (by decide) (hT _ tw_44) (fun _ h9 => h9) rfl d_Big_product_56 ?_
        refine lv_astore (lv' := [(5, .ref q0), (4, .int (nI k2)), (3, .int (nI k1)), (0, .ref h0), (1, .ref h1), (2, .ref h2)]) hx hb d_Big_product_59 hl (by decide) rfl (fun ls hl => ?_)
        refine lv_aload_n hx hb d_Big_product_61 rfl (lv_at hl 5 rfl) ?_
        refine va_get (D := (dC, dI)) (ci := 0) (v := .ref q2) (C := R_Big) (T := F_Big) (N := 3) hx hb hT i_Big hown hK hP 4 rfl rfl 0 (by decide) (hT _ tw_44) (fun _ h9 => h9) rfl d_Big_product_62 ?_
        refine lv_astore (lv' := [(6, .ref q2), (5, .ref q0), (4, .int (nI k2)), (3, .int (nI k1)), (0, .ref h0), (1, .ref h1), (2, .ref h2)]) hx hb d_Big_product_65 hl (by decide) rfl (fun ls hl => ?_)
        refine lv_iconst (v := 0) hx hb d_Big_product_67 (by decide) ?_
        refine lv_istore (lv' := [(7, .int 0), (6, .ref q2), (5, .ref q0), (4, .int (nI k2)), (3, .int (nI k1)), (0, .ref h0), (1, .ref h1), (2, .ref h2)]) hx hb d_Big_product_68 hl (by decide) rfl (fun ls hl => ?_)
        have lp_70_4 : ∀ (n i1 : Nat) (fa : Nat → Int32), i1 ≤ k2 → k2 + 1 ≤ i1 + n → ∀ (H : Heap) (locs : List Loc) (ls : Array Slot), va_P (dC, dI) classes [(h0, .inr (0, [.ref q0, .int n0, .int s0])), (q0, .inl (cA0, D0, .inl fa)), (h1, .inr (0, [.ref q1, .int (nI k1), .int s1])), (q1, .inl (cA1, D1, .inl f1)), (h2, .inr (0, [.ref q2, .int (nI k2), .int s2])), (q2, .inl (cA2, D2, .inl f2))] H → va_D A [(h0, .inr (0, [.ref q0, .int n0, .int s0])), (q0, .inl (cA0, D0, .inl fa)), (h1, .inr (0, [.ref q1, .int (nI k1), .int s1])), (q1, .inl (cA1, D1, .inl f1)), (h2, .inr (0, [.ref q2, .int (nI k2), .int s2])), (q2, .inl (cA2, D2, .inl f2))] → va_S A s.heap H locs → lv_has ls 15 [(7, .int (nI i1)), (6, .ref q2), (5, .ref q0), (4, .int (nI k2)), (3, .int (nI k1)), (0, .ref h0), (1, .ref h1), (2, .ref h2)] → W p l e (headSpec w_Big_product ({ frames := 0, cells := 1, slots := 64, locals := 0 })).room s m ([.ref h0, .ref h1, .ref h2]).toArray below meth c H locs (0) (0) Q (F0 m 70 ls []) := by
          intro n
          induction n with
          | zero =>
            intro i1 fa h1 h2
            exact absurd h2 (by omega)
          | succ n ih =>
            intro i1 fa hi hn H locs ls hP hD hS hl
            have ih_lp_70_4 := ih
            refine lv_iload hx hb d_Big_product_70 (lv_at hl 0 rfl) ?_
            refine lv_iload hx hb d_Big_product_72 (lv_at hl 3 rfl) ?_
            refine lv_icmp_ge (tgt := 89) hx hb d_Big_product_74 (by decide) (fun c_6 => ?_) (fun c_6 => ?_)
            · have hb_c_6 : k2 ≤ i1 := (nI_leI (by omega) (by omega)).mp c_6
              refine lv_iconst (v := 0) hx hb d_Big_product_89 (by decide) ?_
              refine lv_istore (lv' := [(7, .int 0), (6, .ref q2), (5, .ref q0), (4, .int (nI k2)), (3, .int (nI k1)), (0, .ref h0), (1, .ref h1), (2, .ref h2)]) hx hb d_Big_product_90 hl (by decide) rfl (fun ls hl => ?_)
              have lp_92_6 : ∀ (n i2 : Nat) (fb : Nat → Int32), i2 ≤ k1 → k1 + 1 ≤ i2 + n → ∀ (H : Heap) (locs : List Loc) (ls : Array Slot), va_P (dC, dI) classes [(h0, .inr (0, [.ref q0, .int n0, .int s0])), (q0, .inl (cA0, D0, .inl fb)), (h1, .inr (0, [.ref q1, .int (nI k1), .int s1])), (q1, .inl (cA1, D1, .inl f1)), (h2, .inr (0, [.ref q2, .int (nI k2), .int s2])), (q2, .inl (cA2, D2, .inl f2))] H → va_D A [(h0, .inr (0, [.ref q0, .int n0, .int s0])), (q0, .inl (cA0, D0, .inl fb)), (h1, .inr (0, [.ref q1, .int (nI k1), .int s1])), (q1, .inl (cA1, D1, .inl f1)), (h2, .inr (0, [.ref q2, .int (nI k2), .int s2])), (q2, .inl (cA2, D2, .inl f2))] → va_S A s.heap H locs → lv_has ls 15 [(7, .int (nI i2)), (6, .ref q2), (5, .ref q0), (4, .int (nI k2)), (3, .int (nI k1)), (0, .ref h0), (1, .ref h1), (2, .ref h2)] → W p l e (headSpec w_Big_product ({ frames := 0, cells := 1, slots := 64, locals := 0 })).room s m ([.ref h0, .ref h1, .ref h2]).toArray below meth c H locs (0) (0) Q (F0 m 92 ls []) := by
                intro n
                induction n with
                | zero =>
                  intro i2 fb h1 h2
                  exact absurd h2 (by omega)
                | succ n ih =>
                  intro i2 fb hi hn H locs ls hP hD hS hl
                  have ih_lp_92_6 := ih
                  refine lv_iload hx hb d_Big_product_92 (lv_at hl 0 rfl) ?_
                  refine lv_iload_n hx hb d_Big_product_94 rfl (lv_at hl 4 rfl) ?_
                  refine lv_icmp_ge (tgt := 189) hx hb d_Big_product_95 (by decide) (fun c_8 => ?_) (fun c_8 => ?_)
                  · have hb_c_8 : k1 ≤ i2 := (nI_leI (by omega) (by omega)).mp c_8
                    refine lv_aload_n hx hb d_Big_product_189 rfl (lv_at hl 5 rfl) ?_
                    refine lv_aload hx hb d_Big_product_190 (lv_at hl 2 rfl) ?_
                    refine lv_iload_n hx hb d_Big_product_192 rfl (lv_at hl 4 rfl) ?_
                    refine lv_iload hx hb d_Big_product_193 (lv_at hl 3 rfl) ?_
                    refine lv_iadd hx hb d_Big_product_195 ?_
                    refine lv_topi (fun v_9 ev_9 => ?_)
                    obtain rfl : v_9 = nI (k1 + k2) := ev_9.trans (nI_add k1 k2)
                    refine lv_iconst (v := 1) hx hb d_Big_product_196 (by decide) ?_
                    refine lv_isub hx hb d_Big_product_197 ?_
                    refine lv_topi (fun v_10 ev_10 => ?_)
                    obtain rfl : v_10 = nI ((k1 + k2) - 1) := ev_10.trans (pk_sub (show 1 ≤ k1 + k2 by omega))
                    refine va_iald hx hb hK hP 1 0 rfl rfl (vp_in_nI (by omega) (by omega)) d_Big_product_198 ?_
                    refine lv_topi (fun v_11 ev_11 => ?_)
                    refine lv_if_ne (tgt := 211) hx hb d_Big_product_199 (by decide) (fun c_12 => ?_) (fun c_12 => ?_)
                    · refine lv_iload_n hx hb d_Big_product_211 rfl (lv_at hl 4 rfl) ?_
                      refine lv_iload hx hb d_Big_product_212 (lv_at hl 3 rfl) ?_
                      refine lv_iadd hx hb d_Big_product_214 ?_
                      refine lv_topi (fun v_13 ev_13 => ?_)
                      obtain rfl : v_13 = nI (k1 + k2) := ev_13.trans (nI_add k1 k2)
                      refine va_put (D := (dC, dI)) (ci := 0) (v := .int (nI (k1 + k2))) (ty := .int) (C := R_Big) (T := F_Big) (N := 3) hx hb hT i_Big t_Big t_Big_ok n_Big hown hK hP hD hS 0 rfl rfl 1 (by decide) (hT _ tw_47) (fun _ h9 => h9) rfl (by decide +kernel) rfl rfl (Nat.le_of_ble_eq_true rfl) d_Big_product_215 (fun H locs hP hD hS => ?_)
                      have hP : va_P (dC, dI) classes [(h0, .inr (0, [.ref q0, .int (nI (k1 + k2)), .int s0])), (q0, .inl (cA0, D0, .inl fb)), (h1, .inr (0, [.ref q1, .int (nI k1), .int s1])), (q1, .inl (cA1, D1, .inl f1)), (h2, .inr (0, [.ref q2, .int (nI k2), .int s2])), (q2, .inl (cA2, D2, .inl f2))] H := hP
                      have hD : va_D A [(h0, .inr (0, [.ref q0, .int (nI (k1 + k2)), .int s0])), (q0, .inl (cA0, D0, .inl fb)), (h1, .inr (0, [.ref q1, .int (nI k1), .int s1])), (q1, .inl (cA1, D1, .inl f1)), (h2, .inr (0, [.ref q2, .int (nI k2), .int s2])), (q2, .inl (cA2, D2, .inl f2))] := hD
                      refine lv_aload_n hx hb d_Big_product_218 rfl (lv_at hl 5 rfl) ?_
                      refine lv_aload_n hx hb d_Big_product_219 rfl (lv_at hl 6 rfl) ?_
                      refine va_get (D := (dC, dI)) (ci := 0) (v := .int s1) (C := R_Big) (T := F_Big) (N := 3) hx hb hT i_Big hown hK hP 2 rfl rfl 2 (by decide) (hT _ tw_51) (fun _ h9 => h9) rfl d_Big_product_220 ?_
                      refine lv_aload_n hx hb d_Big_product_223 rfl (lv_at hl 7 rfl) ?_
                      refine va_get (D := (dC, dI)) (ci := 0) (v := .int s2) (C := R_Big) (T := F_Big) (N := 3) hx hb hT i_Big hown hK hP 4 rfl rfl 2 (by decide) (hT _ tw_51) (fun _ h9 => h9) rfl d_Big_product_224 ?_
                      refine lv_imul hx hb d_Big_product_227 ?_
                      refine lv_topi (fun v_14 ev_14 => ?_)
                      refine va_put (D := (dC, dI)) (ci := 0) (v := .int v_14) (ty := .int) (C := R_Big) (T := F_Big) (N := 3) hx hb hT i_Big t_Big t_Big_ok n_Big hown hK hP hD hS 0 rfl rfl 2 (by decide) (hT _ tw_51) (fun _ h9 => h9) rfl (by decide +kernel) rfl rfl (Nat.le_of_ble_eq_true rfl) d_Big_product_228 (fun H locs hP hD hS => ?_)
                      have hP : va_P (dC, dI) classes [(h0, .inr (0, [.ref q0, .int (nI (k1 + k2)), .int v_14])), (q0, .inl (cA0, D0, .inl fb)), (h1, .inr (0, [.ref q1, .int (nI k1), .int s1])), (q1, .inl (cA1, D1, .inl f1)), (h2, .inr (0, [.ref q2, .int (nI k2), .int s2])), (q2, .inl (cA2, D2, .inl f2))] H := hP
                      have hD : va_D A [(h0, .inr (0, [.ref q0, .int (nI (k1 + k2)), .int v_14])), (q0, .inl (cA0, D0, .inl fb)), (h1, .inr (0, [.ref q1, .int (nI k1), .int s1])), (q1, .inl (cA1, D1, .inl f1)), (h2, .inr (0, [.ref q2, .int (nI k2), .int s2])), (q2, .inl (cA2, D2, .inl f2))] := hD
                      have hP9 := hP.sub (ws' := [(h0, .inr (0, [.ref q0, .int (nI (k1 + k2)), .int v_14])), (q0, .inl (cA0, D0, .inl fb)), (h1, .inr (0, [.ref q1, .int (nI k1), .int s1])), (q1, .inl (cA1, D1, .inl f1)), (h2, .inr (0, [.ref q2, .int (nI k2), .int s2])), (q2, .inl (cA2, D2, .inl f2))]) [0, 1, 2, 3, 4, 5] rfl
                      have hD9 := hD.sub (ws' := [(h0, .inr (0, [.ref q0, .int (nI (k1 + k2)), .int v_14])), (q0, .inl (cA0, D0, .inl fb)), (h1, .inr (0, [.ref q1, .int (nI k1), .int s1])), (q1, .inl (cA1, D1, .inl f1)), (h2, .inr (0, [.ref q2, .int (nI k2), .int s2])), (q2, .inl (cA2, D2, .inl f2))]) [0, 1, 2, 3, 4, 5] (by decide) rfl
                      have hK9 := hK.sub (tys' := [(cA0, .int), (cA1, .int), (cA2, .int)]) [0, 1, 2] rfl
                      refine W.widen (k := 1) (n := 64) (Nat.le_of_ble_eq_true rfl) (Nat.le_of_ble_eq_true rfl) ?_
                      subst hQ
                      exact W.vret hx hb hr (fun t ht hW => ⟨⟨(), rfl, trivial, q0, cA0, D0, fb, (k1 + k2), v_14, ⟨by omega, by omega, by omega⟩, by rw [ht]; exact hP9, va_K.moved hW.alike hK9, hD9⟩, hS.F ht⟩) hS.2.2 d_Big_product_231
                    · refine lv_iload_n hx hb d_Big_product_202 rfl (lv_at hl 4 rfl) ?_
                      refine lv_iload hx hb d_Big_product_203 (lv_at hl 3 rfl) ?_
                      refine lv_iadd hx hb d_Big_product_205 ?_
                      refine lv_topi (fun v_15 ev_15 => ?_)
                      obtain rfl : v_15 = nI (k1 + k2) := ev_15.trans (nI_add k1 k2)
                      refine lv_iconst (v := 1) hx hb d_Big_product_206 (by decide) ?_
                      refine lv_isub hx hb d_Big_product_207 ?_
                      refine lv_topi (fun v_16 ev_16 => ?_)
                      obtain rfl : v_16 = nI ((k1 + k2) - 1) := ev_16.trans (pk_sub (show 1 ≤ k1 + k2 by omega))
                      refine lv_goto (tgt := 215) hx hb d_Big_product_208 (by decide) ?_
                      refine va_put (D := (dC, dI)) (ci := 0) (v := .int (nI ((k1 + k2) - 1))) (ty := .int) (C := R_Big) (T := F_Big) (N := 3) hx hb hT i_Big t_Big t_Big_ok n_Big hown hK hP hD hS 0 rfl rfl 1 (by decide) (hT _ tw_47) (fun _ h9 => h9) rfl (by decide +kernel) rfl rfl (Nat.le_of_ble_eq_true rfl) d_Big_product_215 (fun H locs hP hD hS => ?_)
                      have hP : va_P (dC, dI) classes [(h0, .inr (0, [.ref q0, .int (nI ((k1 + k2) - 1)), .int s0])), (q0, .inl (cA0, D0, .inl fb)), (h1, .inr (0, [.ref q1, .int (nI k1), .int s1])), (q1, .inl (cA1, D1, .inl f1)), (h2, .inr (0, [.ref q2, .int (nI k2), .int s2])), (q2, .inl (cA2, D2, .inl f2))] H := hP
                      have hD : va_D A [(h0, .inr (0, [.ref q0, .int (nI ((k1 + k2) - 1)), .int s0])), (q0, .inl (cA0, D0, .inl fb)), (h1, .inr (0, [.ref q1, .int (nI k1), .int s1])), (q1, .inl (cA1, D1, .inl f1)), (h2, .inr (0, [.ref q2, .int (nI k2), .int s2])), (q2, .inl (cA2, D2, .inl f2))] := hD
                      refine lv_aload_n hx hb d_Big_product_218 rfl (lv_at hl 5 rfl) ?_
                      refine lv_aload_n hx hb d_Big_product_219 rfl (lv_at hl 6 rfl) ?_
                      refine va_get (D := (dC, dI)) (ci := 0) (v := .int s1) (C := R_Big) (T := F_Big) (N := 3) hx hb hT i_Big hown hK hP 2 rfl rfl 2 (by decide) (hT _ tw_51) (fun _ h9 => h9) rfl d_Big_product_220 ?_
                      refine lv_aload_n hx hb d_Big_product_223 rfl (lv_at hl 7 rfl) ?_
                      refine va_get (D := (dC, dI)) (ci := 0) (v := .int s2) (C := R_Big) (T := F_Big) (N := 3) hx hb hT i_Big hown hK hP 4 rfl rfl 2 (by decide) (hT _ tw_51) (fun _ h9 => h9) rfl d_Big_product_224 ?_
                      refine lv_imul hx hb d_Big_product_227 ?_
                      refine lv_topi (fun v_17 ev_17 => ?_)
                      refine va_put (D := (dC, dI)) (ci := 0) (v := .int v_17) (ty := .int) (C := R_Big) (T := F_Big) (N := 3) hx hb hT i_Big t_Big t_Big_ok n_Big hown hK hP hD hS 0 rfl rfl 2 (by decide) (hT _ tw_51) (fun _ h9 => h9) rfl (by decide +kernel) rfl rfl (Nat.le_of_ble_eq_true rfl) d_Big_product_228 (fun H locs hP hD hS => ?_)
                      have hP : va_P (dC, dI) classes [(h0, .inr (0, [.ref q0, .int (nI ((k1 + k2) - 1)), .int v_17])), (q0, .inl (cA0, D0, .inl fb)), (h1, .inr (0, [.ref q1, .int (nI k1), .int s1])), (q1, .inl (cA1, D1, .inl f1)), (h2, .inr (0, [.ref q2, .int (nI k2), .int s2])), (q2, .inl (cA2, D2, .inl f2))] H := hP
                      have hD : va_D A [(h0, .inr (0, [.ref q0, .int (nI ((k1 + k2) - 1)), .int v_17])), (q0, .inl (cA0, D0, .inl fb)), (h1, .inr (0, [.ref q1, .int (nI k1), .int s1])), (q1, .inl (cA1, D1, .inl f1)), (h2, .inr (0, [.ref q2, .int (nI k2), .int s2])), (q2, .inl (cA2, D2, .inl f2))] := hD
                      have hP9 := hP.sub (ws' := [(h0, .inr (0, [.ref q0, .int (nI ((k1 + k2) - 1)), .int v_17])), (q0, .inl (cA0, D0, .inl fb)), (h1, .inr (0, [.ref q1, .int (nI k1), .int s1])), (q1, .inl (cA1, D1, .inl f1)), (h2, .inr (0, [.ref q2, .int (nI k2), .int s2])), (q2, .inl (cA2, D2, .inl f2))]) [0, 1, 2, 3, 4, 5] rfl
                      have hD9 := hD.sub (ws' := [(h0, .inr (0, [.ref q0, .int (nI ((k1 + k2) - 1)), .int v_17])), (q0, .inl (cA0, D0, .inl fb)), (h1, .inr (0, [.ref q1, .int (nI k1), .int s1])), (q1, .inl (cA1, D1, .inl f1)), (h2, .inr (0, [.ref q2, .int (nI k2), .int s2])), (q2, .inl (cA2, D2, .inl f2))]) [0, 1, 2, 3, 4, 5] (by decide) rfl
                      have hK9 := hK.sub (tys' := [(cA0, .int), (cA1, .int), (cA2, .int)]) [0, 1, 2] rfl
                      refine W.widen (k := 1) (n := 64) (Nat.le_of_ble_eq_true rfl) (Nat.le_of_ble_eq_true rfl) ?_
                      subst hQ
                      exact W.vret hx hb hr (fun t ht hW => ⟨⟨(), rfl, trivial, q0, cA0, D0, fb, ((k1 + k2) - 1), v_17, ⟨by omega, by omega, by omega⟩, by rw [ht]; exact hP9, va_K.moved hW.alike hK9, hD9⟩, hS.F ht⟩) hS.2.2 d_Big_product_231
                  · have hb_c_8 : i2 < k1 := Nat.lt_of_not_le (fun h => c_8 ((nI_leI (by omega) (by omega)).mpr h))
                    refine lv_aload_n hx hb d_Big_product_98 rfl (lv_at hl 6 rfl) ?_
                    refine va_get (D := (dC, dI)) (ci := 0) (v := .ref q1) (C := R_Big) (T := F_Big) (N := 3) hx hb hT i_Big hown hK hP 2 rfl rfl 0 (by decide) (hT _ tw_44) (fun _ h9 => h9) rfl d_Big_product_99 ?_
                    refine lv_iload hx hb d_Big_product_102 (lv_at hl 0 rfl) ?_
                    refine va_iald hx hb hK hP 3 1 rfl rfl (vp_in_nI (by omega) (by omega)) d_Big_product_104 ?_
                    refine lv_topi (fun v_18 ev_18 => ?_)
                    obtain ⟨v_19, ev_19⟩ : ∃ z : Int64, (v_18 : Int32).toInt64 = z := ⟨_, rfl⟩
                    refine lv_i2l (v := v_19) hx hb d_Big_product_105 ev_19 ?_
                    refine lv_lstore (lv' := [(8, .long v_19), (7, .int (nI i2)), (6, .ref q2), (5, .ref q0), (4, .int (nI k2)), (3, .int (nI k1)), (0, .ref h0), (1, .ref h1), (2, .ref h2)]) hx hb d_Big_product_106 hl (by decide) rfl (fun ls hl => ?_)
                    refine lv_lconst (v := 0) hx hb d_Big_product_108 (by decide) ?_
                    refine lv_lstore (lv' := [(10, .long 0), (8, .long v_19), (7, .int (nI i2)), (6, .ref q2), (5, .ref q0), (4, .int (nI k2)), (3, .int (nI k1)), (0, .ref h0), (1, .ref h1), (2, .ref h2)]) hx hb d_Big_product_109 hl (by decide) rfl (fun ls hl => ?_)
                    refine lv_iconst (v := 0) hx hb d_Big_product_111 (by decide) ?_
                    refine lv_istore (lv' := [(12, .int 0), (10, .long 0), (8, .long v_19), (7, .int (nI i2)), (6, .ref q2), (5, .ref q0), (4, .int (nI k2)), (3, .int (nI k1)), (0, .ref h0), (1, .ref h1), (2, .ref h2)]) hx hb d_Big_product_112 hl (by decide) rfl (fun ls hl => ?_)
                    have lp_114_19 : ∀ (n j3 : Nat) (fc : Nat → Int32) (ca : Int64), j3 ≤ k2 → k2 + 1 ≤ j3 + n → ∀ (H : Heap) (locs : List Loc) (ls : Array Slot), va_P (dC, dI) classes [(h0, .inr (0, [.ref q0, .int n0, .int s0])), (q0, .inl (cA0, D0, .inl fc)), (h1, .inr (0, [.ref q1, .int (nI k1), .int s1])), (q1, .inl (cA1, D1, .inl f1)), (h2, .inr (0, [.ref q2, .int (nI k2), .int s2])), (q2, .inl (cA2, D2, .inl f2))] H → va_D A [(h0, .inr (0, [.ref q0, .int n0, .int s0])), (q0, .inl (cA0, D0, .inl fc)), (h1, .inr (0, [.ref q1, .int (nI k1), .int s1])), (q1, .inl (cA1, D1, .inl f1)), (h2, .inr (0, [.ref q2, .int (nI k2), .int s2])), (q2, .inl (cA2, D2, .inl f2))] → va_S A s.heap H locs → lv_has ls 15 [(12, .int (nI j3)), (10, .long ca), (8, .long v_19), (7, .int (nI i2)), (6, .ref q2), (5, .ref q0), (4, .int (nI k2)), (3, .int (nI k1)), (0, .ref h0), (1, .ref h1), (2, .ref h2)] → W p l e (headSpec w_Big_product ({ frames := 0, cells := 1, slots := 64, locals := 0 })).room s m ([.ref h0, .ref h1, .ref h2]).toArray below meth c H locs (0) (0) Q (F0 m 114 ls []) := by
                      intro n
                      induction n with
                      | zero =>
                        intro j3 fc ca h1 h2
                        exact absurd h2 (by omega)
                      | succ n ih =>
                        intro j3 fc ca hi hn H locs ls hP hD hS hl
                        have ih_lp_114_19 := ih
                        refine lv_iload hx hb d_Big_product_114 (lv_at hl 0 rfl) ?_
                        refine lv_iload hx hb d_Big_product_116 (lv_at hl 6 rfl) ?_
                        refine lv_icmp_ge (tgt := 172) hx hb d_Big_product_118 (by decide) (fun c_21 => ?_) (fun c_21 => ?_)
                        · have hb_c_21 : k2 ≤ j3 := (nI_leI (by omega) (by omega)).mp c_21
                          refine lv_aload hx hb d_Big_product_172 (lv_at hl 5 rfl) ?_
                          refine lv_iload hx hb d_Big_product_174 (lv_at hl 3 rfl) ?_
                          refine lv_iload hx hb d_Big_product_176 (lv_at hl 6 rfl) ?_
                          refine lv_iadd hx hb d_Big_product_178 ?_
                          refine lv_topi (fun v_22 ev_22 => ?_)
                          obtain rfl : v_22 = nI (i2 + k2) := ev_22.trans (nI_add i2 k2)
                          refine lv_lload hx hb d_Big_product_179 (lv_at hl 1 rfl) ?_
                          obtain ⟨v_23, ev_23⟩ : ∃ z : Int32, (ca : Int64).toInt32 = z := ⟨_, rfl⟩
                          refine lv_l2i (v := v_23) hx hb d_Big_product_181 ev_23 ?_
                          refine va_iast hx hb hK hP hD hS 1 0 rfl rfl (vp_in_nI (by omega) (by omega)) d_Big_product_182 (fun H locs hP hD hS => ?_)
                          have hP : va_P (dC, dI) classes [(h0, .inr (0, [.ref q0, .int n0, .int s0])), (q0, .inl (cA0, D0, .inl (upd fc ((nI (i2 + k2)) : Int32).toNatClampNeg v_23))), (h1, .inr (0, [.ref q1, .int (nI k1), .int s1])), (q1, .inl (cA1, D1, .inl f1)), (h2, .inr (0, [.ref q2, .int (nI k2), .int s2])), (q2, .inl (cA2, D2, .inl f2))] H := hP
                          have hD : va_D A [(h0, .inr (0, [.ref q0, .int n0, .int s0])), (q0, .inl (cA0, D0, .inl (upd fc ((nI (i2 + k2)) : Int32).toNatClampNeg v_23))), (h1, .inr (0, [.ref q1, .int (nI k1), .int s1])), (q1, .inl (cA1, D1, .inl f1)), (h2, .inr (0, [.ref q2, .int (nI k2), .int s2])), (q2, .inl (cA2, D2, .inl f2))] := hD
                          generalize upd fc ((nI (i2 + k2)) : Int32).toNatClampNeg v_23 = f_24 at hP hD
                          refine lv_iinc (v := (nI (i2 + 1))) (lv' := [(7, .int (nI (i2 + 1))), (12, .int (nI j3)), (10, .long ca), (8, .long v_19), (6, .ref q2), (5, .ref q0), (4, .int (nI k2)), (3, .int (nI k1)), (0, .ref h0), (1, .ref h1), (2, .ref h2)]) hx hb d_Big_product_183 hl (k := 3) rfl (nI_1 i2) (by decide) rfl (fun ls hl => ?_)
                          refine lv_goto (tgt := 92) hx hb d_Big_product_186 (by decide) ?_
                          exact ih_lp_92_6 (i2 + 1) f_24 (by omega) (by omega) _ _ _ (hP.sub [0, 1, 2, 3, 4, 5] rfl) (hD.sub [0, 1, 2, 3, 4, 5] (by decide) rfl) hS (lv_sub hl [0, 4, 5, 6, 7, 8, 9, 10] rfl)
                        · have hb_c_21 : j3 < k2 := Nat.lt_of_not_le (fun h => c_21 ((nI_leI (by omega) (by omega)).mpr h))
                          refine lv_lload hx hb d_Big_product_121 (lv_at hl 2 rfl) ?_
                          refine lv_aload hx hb d_Big_product_123 (lv_at hl 4 rfl) ?_
                          refine lv_iload hx hb d_Big_product_125 (lv_at hl 0 rfl) ?_
                          refine va_iald hx hb hK hP 5 2 rfl rfl (vp_in_nI (by omega) (by omega)) d_Big_product_127 ?_
                          refine lv_topi (fun v_25 ev_25 => ?_)
                          obtain ⟨v_26, ev_26⟩ : ∃ z : Int64, (v_25 : Int32).toInt64 = z := ⟨_, rfl⟩
                          refine lv_i2l (v := v_26) hx hb d_Big_product_128 ev_26 ?_
                          refine lv_lmul hx hb d_Big_product_129 ?_
                          refine lv_topl (fun v_27 ev_27 => ?_)
                          refine lv_aload hx hb d_Big_product_130 (lv_at hl 5 rfl) ?_
                          refine lv_iload hx hb d_Big_product_132 (lv_at hl 3 rfl) ?_
                          refine lv_iload hx hb d_Big_product_134 (lv_at hl 0 rfl) ?_
                          refine lv_iadd hx hb d_Big_product_136 ?_
                          refine lv_topi (fun v_28 ev_28 => ?_)
                          obtain rfl : v_28 = nI (i2 + j3) := ev_28.trans (nI_add i2 j3)
                          refine va_iald hx hb hK hP 1 0 rfl rfl (vp_in_nI (by omega) (by omega)) d_Big_product_137 ?_
                          refine lv_topi (fun v_29 ev_29 => ?_)
                          obtain ⟨v_30, ev_30⟩ : ∃ z : Int64, (v_29 : Int32).toInt64 = z := ⟨_, rfl⟩
                          refine lv_i2l (v := v_30) hx hb d_Big_product_138 ev_30 ?_
                          refine lv_ladd hx hb d_Big_product_139 ?_
                          refine lv_topl (fun v_31 ev_31 => ?_)
                          refine lv_lload hx hb d_Big_product_140 (lv_at hl 1 rfl) ?_
                          refine lv_ladd hx hb d_Big_product_142 ?_
                          refine lv_topl (fun v_32 ev_32 => ?_)
                          refine lv_lstore (lv' := [(13, .long v_32), (12, .int (nI j3)), (10, .long ca), (8, .long v_19), (7, .int (nI i2)), (6, .ref q2), (5, .ref q0), (4, .int (nI k2)), (3, .int (nI k1)), (0, .ref h0), (1, .ref h1), (2, .ref h2)]) hx hb d_Big_product_143 hl (by decide) rfl (fun ls hl => ?_)
                          refine lv_aload hx hb d_Big_product_145 (lv_at hl 6 rfl) ?_
                          refine lv_iload hx hb d_Big_product_147 (lv_at hl 4 rfl) ?_
                          refine lv_iload hx hb d_Big_product_149 (lv_at hl 1 rfl) ?_
                          refine lv_iadd hx hb d_Big_product_151 ?_
                          refine lv_topi (fun v_33 ev_33 => ?_)
                          obtain rfl : v_33 = nI (i2 + j3) := ev_33.trans (nI_add i2 j3)
                          refine lv_lload hx hb d_Big_product_152 (lv_at hl 0 rfl) ?_
                          obtain ⟨v_34, ev_34⟩ : ∃ z : Int32, (v_32 : Int64).toInt32 = z := ⟨_, rfl⟩
                          refine lv_l2i (v := v_34) hx hb d_Big_product_154 ev_34 ?_
                          refine lv_ldc (v := 1073741823) hx hb hown (hT _ tw_90) d_Big_product_155 ?_
                          refine lv_iand hx hb d_Big_product_157 ?_
                          refine lv_topi (fun v_35 ev_35 => ?_)
                          refine va_iast hx hb hK hP hD hS 1 0 rfl rfl (vp_in_nI (by omega) (by omega)) d_Big_product_158 (fun H locs hP hD hS => ?_)
                          have hP : va_P (dC, dI) classes [(h0, .inr (0, [.ref q0, .int n0, .int s0])), (q0, .inl (cA0, D0, .inl (upd fc ((nI (i2 + j3)) : Int32).toNatClampNeg v_35))), (h1, .inr (0, [.ref q1, .int (nI k1), .int s1])), (q1, .inl (cA1, D1, .inl f1)), (h2, .inr (0, [.ref q2, .int (nI k2), .int s2])), (q2, .inl (cA2, D2, .inl f2))] H := hP
                          have hD : va_D A [(h0, .inr (0, [.ref q0, .int n0, .int s0])), (q0, .inl (cA0, D0, .inl (upd fc ((nI (i2 + j3)) : Int32).toNatClampNeg v_35))), (h1, .inr (0, [.ref q1, .int (nI k1), .int s1])), (q1, .inl (cA1, D1, .inl f1)), (h2, .inr (0, [.ref q2, .int (nI k2), .int s2])), (q2, .inl (cA2, D2, .inl f2))] := hD
                          generalize upd fc ((nI (i2 + j3)) : Int32).toNatClampNeg v_35 = f_36 at hP hD
                          refine lv_lload hx hb d_Big_product_159 (lv_at hl 0 rfl) ?_
                          refine lv_bipush (v := 30) hx hb d_Big_product_161 (by decide) ?_
                          obtain ⟨v_37, ev_37⟩ : ∃ z : Int64, ((v_32 : Int64).toUInt64 >>> ((30 : Int32).toInt64.toUInt64 &&& Int64.toUInt64 63)).toInt64 = z := ⟨_, rfl⟩
                          refine lv_lushr (v := v_37) hx hb d_Big_product_163 ev_37 ?_
                          refine lv_lstore (lv' := [(10, .long v_37), (13, .long v_32), (12, .int (nI j3)), (8, .long v_19), (7, .int (nI i2)), (6, .ref q2), (5, .ref q0), (4, .int (nI k2)), (3, .int (nI k1)), (0, .ref h0), (1, .ref h1), (2, .ref h2)]) hx hb d_Big_product_164 hl (by decide) rfl (fun ls hl => ?_)
                          refine lv_iinc (v := (nI (j3 + 1))) (lv' := [(12, .int (nI (j3 + 1))), (10, .long v_37), (13, .long v_32), (8, .long v_19), (7, .int (nI i2)), (6, .ref q2), (5, .ref q0), (4, .int (nI k2)), (3, .int (nI k1)), (0, .ref h0), (1, .ref h1), (2, .ref h2)]) hx hb d_Big_product_166 hl (k := 2) rfl (nI_1 j3) (by decide) rfl (fun ls hl => ?_)
                          refine lv_goto (tgt := 114) hx hb d_Big_product_169 (by decide) ?_
                          exact ih_lp_114_19 (j3 + 1) f_36 v_37 (by omega) (by omega) _ _ _ (hP.sub [0, 1, 2, 3, 4, 5] rfl) (hD.sub [0, 1, 2, 3, 4, 5] (by decide) rfl) hS (lv_sub hl [0, 1, 3, 4, 5, 6, 7, 8, 9, 10, 11] rfl)
                    exact lp_114_19 (k2 + 1) 0 fb 0 (by omega) (by omega) _ _ _ hP hD hS (lv_sub hl [0, 1, 2, 3, 4, 5, 6, 7, 8, 9, 10] rfl)
              exact lp_92_6 (k1 + 1) 0 fa (by omega) (by omega) _ _ _ hP hD hS (lv_sub hl [0, 1, 2, 3, 4, 5, 6, 7] rfl)
            · have hb_c_6 : i1 < k2 := Nat.lt_of_not_le (fun h => c_6 ((nI_leI (by omega) (by omega)).mpr h))
              refine lv_aload hx hb d_Big_product_77 (lv_at hl 2 rfl) ?_
              refine lv_iload hx hb d_Big_product_79 (lv_at hl 0 rfl) ?_
              refine lv_iconst (v := 0) hx hb d_Big_product_81 (by decide) ?_
              refine va_iast hx hb hK hP hD hS 1 0 rfl rfl (vp_in_nI (by omega) (by omega)) d_Big_product_82 (fun H locs hP hD hS => ?_)
              have hP : va_P (dC, dI) classes [(h0, .inr (0, [.ref q0, .int n0, .int s0])), (q0, .inl (cA0, D0, .inl (upd fa ((nI i1) : Int32).toNatClampNeg 0))), (h1, .inr (0, [.ref q1, .int (nI k1), .int s1])), (q1, .inl (cA1, D1, .inl f1)), (h2, .inr (0, [.ref q2, .int (nI k2), .int s2])), (q2, .inl (cA2, D2, .inl f2))] H := hP
              have hD : va_D A [(h0, .inr (0, [.ref q0, .int n0, .int s0])), (q0, .inl (cA0, D0, .inl (upd fa ((nI i1) : Int32).toNatClampNeg 0))), (h1, .inr (0, [.ref q1, .int (nI k1), .int s1])), (q1, .inl (cA1, D1, .inl f1)), (h2, .inr (0, [.ref q2, .int (nI k2), .int s2])), (q2, .inl (cA2, D2, .inl f2))] := hD
              generalize upd fa ((nI i1) : Int32).toNatClampNeg 0 = f_38 at hP hD
              refine lv_iinc (v := (nI (i1 + 1))) (lv' := [(7, .int (nI (i1 + 1))), (6, .ref q2), (5, .ref q0), (4, .int (nI k2)), (3, .int (nI k1)), (0, .ref h0), (1, .ref h1), (2, .ref h2)]) hx hb d_Big_product_83 hl (k := 0) rfl (nI_1 i1) (by decide) rfl (fun ls hl => ?_)
              refine lv_goto (tgt := 70) hx hb d_Big_product_86 (by decide) ?_
              exact ih_lp_70_4 (i1 + 1) f_38 (by omega) (by omega) _ _ _ (hP.sub [0, 1, 2, 3, 4, 5] rfl) (hD.sub [0, 1, 2, 3, 4, 5] (by decide) rfl) hS (lv_sub hl [0, 1, 2, 3, 4, 5, 6, 7] rfl)
        exact lp_70_4 (k2 + 1) 0 f0 (by omega) (by omega) _ _ _ hP hD hS (lv_sub hl [0, 1, 2, 3, 4, 5, 6, 7] rfl)
      · have hb_c_4 : D0 < k1 + k2 := Nat.lt_of_not_le (fun h => c_4 ((nI_leI (by omega) (by omega)).mpr h))
        refine lv_aload_n hx hb d_Big_product_43 rfl (lv_at hl 2 rfl) ?_
        refine lv_iload_n hx hb d_Big_product_44 rfl (lv_at hl 1 rfl) ?_
        refine lv_iload hx hb d_Big_product_45 (lv_at hl 0 rfl) ?_
        refine lv_iadd hx hb d_Big_product_47 ?_
        refine lv_topi (fun v_39 ev_39 => ?_)
        obtain rfl : v_39 = nI (k1 + k2) := ev_39.trans (nI_add k1 k2)
        refine lv_iconst (v := 4) hx hb d_Big_product_48 (by decide) ?_
        refine lv_iadd hx hb d_Big_product_49 ?_
        refine lv_topi (fun v_40 ev_40 => ?_)
        obtain rfl : v_40 = nI ((k1 + k2) + 4) := ev_40.trans (nI_add (k1 + k2) 4)
        refine va_newa (atype := .int) (a0 := ((k1 + k2 + 4), .inl (fun _ => 0))) hx hb (hT _ tw_68) rfl hK hP hD hS hA (fun _ => vp_cell_i _ _ _) (nI_pos (by omega)) (nI_clamp (by omega)) (by show (k1 + k2 + 4) * 4 ≤ _; omega) (Nat.le_of_ble_eq_true rfl) (by show 0 + (k1 + k2 + 4) ≤ 64; omega) d_Big_product_50 (fun q_41 cA_42 H hK hP hD hS => ?_)
        have hP : va_P (dC, dI) classes [(h0, .inr (0, [.ref q0, .int n0, .int s0])), (q0, .inl (cA0, D0, .inl f0)), (h1, .inr (0, [.ref q1, .int (nI k1), .int s1])), (q1, .inl (cA1, D1, .inl f1)), (h2, .inr (0, [.ref q2, .int (nI k2), .int s2])), (q2, .inl (cA2, D2, .inl f2)), (q_41, .inl (cA_42, (k1 + k2 + 4), .inl (fun _ => 0)))] H := hP
        have hD : va_D A [(h0, .inr (0, [.ref q0, .int n0, .int s0])), (q0, .inl (cA0, D0, .inl f0)), (h1, .inr (0, [.ref q1, .int (nI k1), .int s1])), (q1, .inl (cA1, D1, .inl f1)), (h2, .inr (0, [.ref q2, .int (nI k2), .int s2])), (q2, .inl (cA2, D2, .inl f2)), (q_41, .inl (cA_42, (k1 + k2 + 4), .inl (fun _ => 0)))] := hD
        have hK : va_K (dC, dI) classes [(cA0, .int), (cA1, .int), (cA2, .int), (cA_42, .int)] s := hK
        refine W.widen (k := 1) (n := 64) (Nat.le_of_ble_eq_true rfl) (by omega) ?_
        refine va_put (D := (dC, dI)) (ci := 0) (v := .ref q_41) (ty := .array .int) (C := R_Big) (T := F_Big) (N := 3) hx hb hT i_Big t_Big t_Big_ok n_Big hown hK hP hD hS 0 rfl rfl 0 (by decide) (hT _ tw_44) (fun _ h9 => h9) rfl (by decide +kernel) rfl rfl (Nat.le_of_ble_eq_true rfl) d_Big_product_52 (fun H locs hP hD hS => ?_)
        have hP : va_P (dC, dI) classes [(h0, .inr (0, [.ref q_41, .int n0, .int s0])), (q0, .inl (cA0, D0, .inl f0)), (h1, .inr (0, [.ref q1, .int (nI k1), .int s1])), (q1, .inl (cA1, D1, .inl f1)), (h2, .inr (0, [.ref q2, .int (nI k2), .int s2])), (q2, .inl (cA2, D2, .inl f2)), (q_41, .inl (cA_42, (k1 + k2 + 4), .inl (fun _ => 0)))] H := hP
        have hD : va_D A [(h0, .inr (0, [.ref q_41, .int n0, .int s0])), (q0, .inl (cA0, D0, .inl f0)), (h1, .inr (0, [.ref q1, .int (nI k1), .int s1])), (q1, .inl (cA1, D1, .inl f1)), (h2, .inr (0, [.ref q2, .int (nI k2), .int s2])), (q2, .inl (cA2, D2, .inl f2)), (q_41, .inl (cA_42, (k1 + k2 + 4), .inl (fun _ => 0)))] := hD
        refine lv_aload_n hx hb d_Big_product_55 rfl (lv_at hl 2 rfl) ?_
        refine va_get (D := (dC, dI)) (ci := 0) (v := .ref q_41) (C := R_Big) (T := F_Big) (N := 3) hx hb hT i_Big hown hK hP 0 rfl rfl 0 (by decide) (hT _ tw_44) (fun _ h9 => h9) rfl d_Big_product_56 ?_
        refine lv_astore (lv' := [(5, .ref q_41), (4, .int (nI k2)), (3, .int (nI k1)), (0, .ref h0), (1, .ref h1), (2, .ref h2)]) hx hb d_Big_product_59 hl (by decide) rfl (fun ls hl => ?_)
        refine lv_aload_n hx hb d_Big_product_61 rfl (lv_at hl 5 rfl) ?_
        refine va_get (D := (dC, dI)) (ci := 0) (v := .ref q2) (C := R_Big) (T := F_Big) (N := 3) hx hb hT i_Big hown hK hP 4 rfl rfl 0 (by decide) (hT _ tw_44) (fun _ h9 => h9) rfl d_Big_product_62 ?_
        refine lv_astore (lv' := [(6, .ref q2), (5, .ref q_41), (4, .int (nI k2)), (3, .int (nI k1)), (0, .ref h0), (1, .ref h1), (2, .ref h2)]) hx hb d_Big_product_65 hl (by decide) rfl (fun ls hl => ?_)
        refine lv_iconst (v := 0) hx hb d_Big_product_67 (by decide) ?_
        refine lv_istore (lv' := [(7, .int 0), (6, .ref q2), (5, .ref q_41), (4, .int (nI k2)), (3, .int (nI k1)), (0, .ref h0), (1, .ref h1), (2, .ref h2)]) hx hb d_Big_product_68 hl (by decide) rfl (fun ls hl => ?_)
        have lp_70_42 : ∀ (n i1 : Nat) (fa : Nat → Int32), i1 ≤ k2 → k2 + 1 ≤ i1 + n → ∀ (H : Heap) (locs : List Loc) (ls : Array Slot), va_P (dC, dI) classes [(h0, .inr (0, [.ref q_41, .int n0, .int s0])), (q0, .inl (cA0, D0, .inl f0)), (h1, .inr (0, [.ref q1, .int (nI k1), .int s1])), (q1, .inl (cA1, D1, .inl f1)), (h2, .inr (0, [.ref q2, .int (nI k2), .int s2])), (q2, .inl (cA2, D2, .inl f2)), (q_41, .inl (cA_42, (k1 + k2 + 4), .inl fa))] H → va_D A [(h0, .inr (0, [.ref q_41, .int n0, .int s0])), (q0, .inl (cA0, D0, .inl f0)), (h1, .inr (0, [.ref q1, .int (nI k1), .int s1])), (q1, .inl (cA1, D1, .inl f1)), (h2, .inr (0, [.ref q2, .int (nI k2), .int s2])), (q2, .inl (cA2, D2, .inl f2)), (q_41, .inl (cA_42, (k1 + k2 + 4), .inl fa))] → va_S A s.heap H locs → lv_has ls 15 [(7, .int (nI i1)), (6, .ref q2), (5, .ref q_41), (4, .int (nI k2)), (3, .int (nI k1)), (0, .ref h0), (1, .ref h1), (2, .ref h2)] → W p l e (headSpec w_Big_product ({ frames := 0, cells := 1, slots := 64, locals := 0 })).room s m ([.ref h0, .ref h1, .ref h2]).toArray below meth c H locs (1) (64) Q (F0 m 70 ls []) := by
          intro n
          induction n with
          | zero =>
            intro i1 fa h1 h2
            exact absurd h2 (by omega)
          | succ n ih =>
            intro i1 fa hi hn H locs ls hP hD hS hl
            have ih_lp_70_42 := ih
            refine lv_iload hx hb d_Big_product_70 (lv_at hl 0 rfl) ?_
            refine lv_iload hx hb d_Big_product_72 (lv_at hl 3 rfl) ?_
            refine lv_icmp_ge (tgt := 89) hx hb d_Big_product_74 (by decide) (fun c_44 => ?_) (fun c_44 => ?_)
            · have hb_c_44 : k2 ≤ i1 := (nI_leI (by omega) (by omega)).mp c_44
              refine lv_iconst (v := 0) hx hb d_Big_product_89 (by decide) ?_
              refine lv_istore (lv' := [(7, .int 0), (6, .ref q2), (5, .ref q_41), (4, .int (nI k2)), (3, .int (nI k1)), (0, .ref h0), (1, .ref h1), (2, .ref h2)]) hx hb d_Big_product_90 hl (by decide) rfl (fun ls hl => ?_)
              have lp_92_44 : ∀ (n i2 : Nat) (fb : Nat → Int32), i2 ≤ k1 → k1 + 1 ≤ i2 + n → ∀ (H : Heap) (locs : List Loc) (ls : Array Slot), va_P (dC, dI) classes [(h0, .inr (0, [.ref q_41, .int n0, .int s0])), (q0, .inl (cA0, D0, .inl f0)), (h1, .inr (0, [.ref q1, .int (nI k1), .int s1])), (q1, .inl (cA1, D1, .inl f1)), (h2, .inr (0, [.ref q2, .int (nI k2), .int s2])), (q2, .inl (cA2, D2, .inl f2)), (q_41, .inl (cA_42, (k1 + k2 + 4), .inl fb))] H → va_D A [(h0, .inr (0, [.ref q_41, .int n0, .int s0])), (q0, .inl (cA0, D0, .inl f0)), (h1, .inr (0, [.ref q1, .int (nI k1), .int s1])), (q1, .inl (cA1, D1, .inl f1)), (h2, .inr (0, [.ref q2, .int (nI k2), .int s2])), (q2, .inl (cA2, D2, .inl f2)), (q_41, .inl (cA_42, (k1 + k2 + 4), .inl fb))] → va_S A s.heap H locs → lv_has ls 15 [(7, .int (nI i2)), (6, .ref q2), (5, .ref q_41), (4, .int (nI k2)), (3, .int (nI k1)), (0, .ref h0), (1, .ref h1), (2, .ref h2)] → W p l e (headSpec w_Big_product ({ frames := 0, cells := 1, slots := 64, locals := 0 })).room s m ([.ref h0, .ref h1, .ref h2]).toArray below meth c H locs (1) (64) Q (F0 m 92 ls []) := by
                intro n
                induction n with
                | zero =>
                  intro i2 fb h1 h2
                  exact absurd h2 (by omega)
                | succ n ih =>
                  intro i2 fb hi hn H locs ls hP hD hS hl
                  have ih_lp_92_44 := ih
                  refine lv_iload hx hb d_Big_product_92 (lv_at hl 0 rfl) ?_
                  refine lv_iload_n hx hb d_Big_product_94 rfl (lv_at hl 4 rfl) ?_
                  refine lv_icmp_ge (tgt := 189) hx hb d_Big_product_95 (by decide) (fun c_46 => ?_) (fun c_46 => ?_)
                  · have hb_c_46 : k1 ≤ i2 := (nI_leI (by omega) (by omega)).mp c_46
                    refine lv_aload_n hx hb d_Big_product_189 rfl (lv_at hl 5 rfl) ?_
                    refine lv_aload hx hb d_Big_product_190 (lv_at hl 2 rfl) ?_
                    refine lv_iload_n hx hb d_Big_product_192 rfl (lv_at hl 4 rfl) ?_
                    refine lv_iload hx hb d_Big_product_193 (lv_at hl 3 rfl) ?_
                    refine lv_iadd hx hb d_Big_product_195 ?_
                    refine lv_topi (fun v_47 ev_47 => ?_)
                    obtain rfl : v_47 = nI (k1 + k2) := ev_47.trans (nI_add k1 k2)
                    refine lv_iconst (v := 1) hx hb d_Big_product_196 (by decide) ?_
                    refine lv_isub hx hb d_Big_product_197 ?_
                    refine lv_topi (fun v_48 ev_48 => ?_)
                    obtain rfl : v_48 = nI ((k1 + k2) - 1) := ev_48.trans (pk_sub (show 1 ≤ k1 + k2 by omega))
                    refine va_iald hx hb hK hP 6 3 rfl rfl (vp_in_nI (by omega) (by omega)) d_Big_product_198 ?_
                    refine lv_topi (fun v_49 ev_49 => ?_)
                    refine lv_if_ne (tgt := 211) hx hb d_Big_product_199 (by decide) (fun c_50 => ?_) (fun c_50 => ?_)
                    · refine lv_iload_n hx hb d_Big_product_211 rfl (lv_at hl 4 rfl) ?_
                      refine lv_iload hx hb d_Big_product_212 (lv_at hl 3 rfl) ?_
                      refine lv_iadd hx hb d_Big_product_214 ?_
                      refine lv_topi (fun v_51 ev_51 => ?_)
                      obtain rfl : v_51 = nI (k1 + k2) := ev_51.trans (nI_add k1 k2)
                      refine va_put (D := (dC, dI)) (ci := 0) (v := .int (nI (k1 + k2))) (ty := .int) (C := R_Big) (T := F_Big) (N := 3) hx hb hT i_Big t_Big t_Big_ok n_Big hown hK hP hD hS 0 rfl rfl 1 (by decide) (hT _ tw_47) (fun _ h9 => h9) rfl (by decide +kernel) rfl rfl (Nat.le_of_ble_eq_true rfl) d_Big_product_215 (fun H locs hP hD hS => ?_)
                      have hP : va_P (dC, dI) classes [(h0, .inr (0, [.ref q_41, .int (nI (k1 + k2)), .int s0])), (q0, .inl (cA0, D0, .inl f0)), (h1, .inr (0, [.ref q1, .int (nI k1), .int s1])), (q1, .inl (cA1, D1, .inl f1)), (h2, .inr (0, [.ref q2, .int (nI k2), .int s2])), (q2, .inl (cA2, D2, .inl f2)), (q_41, .inl (cA_42, (k1 + k2 + 4), .inl fb))] H := hP
                      have hD : va_D A [(h0, .inr (0, [.ref q_41, .int (nI (k1 + k2)), .int s0])), (q0, .inl (cA0, D0, .inl f0)), (h1, .inr (0, [.ref q1, .int (nI k1), .int s1])), (q1, .inl (cA1, D1, .inl f1)), (h2, .inr (0, [.ref q2, .int (nI k2), .int s2])), (q2, .inl (cA2, D2, .inl f2)), (q_41, .inl (cA_42, (k1 + k2 + 4), .inl fb))] := hD
                      refine lv_aload_n hx hb d_Big_product_218 rfl (lv_at hl 5 rfl) ?_
                      refine lv_aload_n hx hb d_Big_product_219 rfl (lv_at hl 6 rfl) ?_
                      refine va_get (D := (dC, dI)) (ci := 0) (v := .int s1) (C := R_Big) (T := F_Big) (N := 3) hx hb hT i_Big hown hK hP 2 rfl rfl 2 (by decide) (hT _ tw_51) (fun _ h9 => h9) rfl d_Big_product_220 ?_
                      refine lv_aload_n hx hb d_Big_product_223 rfl (lv_at hl 7 rfl) ?_
                      refine va_get (D := (dC, dI)) (ci := 0) (v := .int s2) (C := R_Big) (T := F_Big) (N := 3) hx hb hT i_Big hown hK hP 4 rfl rfl 2 (by decide) (hT _ tw_51) (fun _ h9 => h9) rfl d_Big_product_224 ?_
                      refine lv_imul hx hb d_Big_product_227 ?_
                      refine lv_topi (fun v_52 ev_52 => ?_)
                      refine va_put (D := (dC, dI)) (ci := 0) (v := .int v_52) (ty := .int) (C := R_Big) (T := F_Big) (N := 3) hx hb hT i_Big t_Big t_Big_ok n_Big hown hK hP hD hS 0 rfl rfl 2 (by decide) (hT _ tw_51) (fun _ h9 => h9) rfl (by decide +kernel) rfl rfl (Nat.le_of_ble_eq_true rfl) d_Big_product_228 (fun H locs hP hD hS => ?_)
                      have hP : va_P (dC, dI) classes [(h0, .inr (0, [.ref q_41, .int (nI (k1 + k2)), .int v_52])), (q0, .inl (cA0, D0, .inl f0)), (h1, .inr (0, [.ref q1, .int (nI k1), .int s1])), (q1, .inl (cA1, D1, .inl f1)), (h2, .inr (0, [.ref q2, .int (nI k2), .int s2])), (q2, .inl (cA2, D2, .inl f2)), (q_41, .inl (cA_42, (k1 + k2 + 4), .inl fb))] H := hP
                      have hD : va_D A [(h0, .inr (0, [.ref q_41, .int (nI (k1 + k2)), .int v_52])), (q0, .inl (cA0, D0, .inl f0)), (h1, .inr (0, [.ref q1, .int (nI k1), .int s1])), (q1, .inl (cA1, D1, .inl f1)), (h2, .inr (0, [.ref q2, .int (nI k2), .int s2])), (q2, .inl (cA2, D2, .inl f2)), (q_41, .inl (cA_42, (k1 + k2 + 4), .inl fb))] := hD
                      have hP9 := hP.sub (ws' := [(h0, .inr (0, [.ref q_41, .int (nI (k1 + k2)), .int v_52])), (q_41, .inl (cA_42, (k1 + k2 + 4), .inl fb)), (h1, .inr (0, [.ref q1, .int (nI k1), .int s1])), (q1, .inl (cA1, D1, .inl f1)), (h2, .inr (0, [.ref q2, .int (nI k2), .int s2])), (q2, .inl (cA2, D2, .inl f2))]) [0, 6, 2, 3, 4, 5] rfl
                      have hD9 := hD.sub (ws' := [(h0, .inr (0, [.ref q_41, .int (nI (k1 + k2)), .int v_52])), (q_41, .inl (cA_42, (k1 + k2 + 4), .inl fb)), (h1, .inr (0, [.ref q1, .int (nI k1), .int s1])), (q1, .inl (cA1, D1, .inl f1)), (h2, .inr (0, [.ref q2, .int (nI k2), .int s2])), (q2, .inl (cA2, D2, .inl f2))]) [0, 6, 2, 3, 4, 5] (by decide) rfl
                      have hK9 := hK.sub (tys' := [(cA_42, .int), (cA1, .int), (cA2, .int)]) [3, 1, 2] rfl
                      subst hQ
                      exact W.vret hx hb hr (fun t ht hW => ⟨⟨(), rfl, trivial, q_41, cA_42, (k1 + k2 + 4), fb, (k1 + k2), v_52, ⟨by omega, by omega, by omega⟩, by rw [ht]; exact hP9, va_K.moved hW.alike hK9, hD9⟩, hS.F ht⟩) hS.2.2 d_Big_product_231
                    · refine lv_iload_n hx hb d_Big_product_202 rfl (lv_at hl 4 rfl) ?_
                      refine lv_iload hx hb d_Big_product_203 (lv_at hl 3 rfl) ?_
                      refine lv_iadd hx hb d_Big_product_205 ?_
                      refine lv_topi (fun v_53 ev_53 => ?_)
                      obtain rfl : v_53 = nI (k1 + k2) := ev_53.trans (nI_add k1 k2)
                      refine lv_iconst (v := 1) hx hb d_Big_product_206 (by decide) ?_
                      refine lv_isub hx hb d_Big_product_207 ?_
                      refine lv_topi (fun v_54 ev_54 => ?_)
                      obtain rfl : v_54 = nI ((k1 + k2) - 1) := ev_54.trans (pk_sub (show 1 ≤ k1 + k2 by omega))
                      refine lv_goto (tgt := 215) hx hb d_Big_product_208 (by decide) ?_
                      refine va_put (D := (dC, dI)) (ci := 0) (v := .int (nI ((k1 + k2) - 1))) (ty := .int) (C := R_Big) (T := F_Big) (N := 3) hx hb hT i_Big t_Big t_Big_ok n_Big hown hK hP hD hS 0 rfl rfl 1 (by decide) (hT _ tw_47) (fun _ h9 => h9) rfl (by decide +kernel) rfl rfl (Nat.le_of_ble_eq_true rfl) d_Big_product_215 (fun H locs hP hD hS => ?_)
                      have hP : va_P (dC, dI) classes [(h0, .inr (0, [.ref q_41, .int (nI ((k1 + k2) - 1)), .int s0])), (q0, .inl (cA0, D0, .inl f0)), (h1, .inr (0, [.ref q1, .int (nI k1), .int s1])), (q1, .inl (cA1, D1, .inl f1)), (h2, .inr (0, [.ref q2, .int (nI k2), .int s2])), (q2, .inl (cA2, D2, .inl f2)), (q_41, .inl (cA_42, (k1 + k2 + 4), .inl fb))] H := hP
                      have hD : va_D A [(h0, .inr (0, [.ref q_41, .int (nI ((k1 + k2) - 1)), .int s0])), (q0, .inl (cA0, D0, .inl f0)), (h1, .inr (0, [.ref q1, .int (nI k1), .int s1])), (q1, .inl (cA1, D1, .inl f1)), (h2, .inr (0, [.ref q2, .int (nI k2), .int s2])), (q2, .inl (cA2, D2, .inl f2)), (q_41, .inl (cA_42, (k1 + k2 + 4), .inl fb))] := hD
                      refine lv_aload_n hx hb d_Big_product_218 rfl (lv_at hl 5 rfl) ?_
                      refine lv_aload_n hx hb d_Big_product_219 rfl (lv_at hl 6 rfl) ?_
                      refine va_get (D := (dC, dI)) (ci := 0) (v := .int s1) (C := R_Big) (T := F_Big) (N := 3) hx hb hT i_Big hown hK hP 2 rfl rfl 2 (by decide) (hT _ tw_51) (fun _ h9 => h9) rfl d_Big_product_220 ?_
                      refine lv_aload_n hx hb d_Big_product_223 rfl (lv_at hl 7 rfl) ?_
                      refine va_get (D := (dC, dI)) (ci := 0) (v := .int s2) (C := R_Big) (T := F_Big) (N := 3) hx hb hT i_Big hown hK hP 4 rfl rfl 2 (by decide) (hT _ tw_51) (fun _ h9 => h9) rfl d_Big_product_224 ?_
                      refine lv_imul hx hb d_Big_product_227 ?_
                      refine lv_topi (fun v_55 ev_55 => ?_)
                      refine va_put (D := (dC, dI)) (ci := 0) (v := .int v_55) (ty := .int) (C := R_Big) (T := F_Big) (N := 3) hx hb hT i_Big t_Big t_Big_ok n_Big hown hK hP hD hS 0 rfl rfl 2 (by decide) (hT _ tw_51) (fun _ h9 => h9) rfl (by decide +kernel) rfl rfl (Nat.le_of_ble_eq_true rfl) d_Big_product_228 (fun H locs hP hD hS => ?_)
                      have hP : va_P (dC, dI) classes [(h0, .inr (0, [.ref q_41, .int (nI ((k1 + k2) - 1)), .int v_55])), (q0, .inl (cA0, D0, .inl f0)), (h1, .inr (0, [.ref q1, .int (nI k1), .int s1])), (q1, .inl (cA1, D1, .inl f1)), (h2, .inr (0, [.ref q2, .int (nI k2), .int s2])), (q2, .inl (cA2, D2, .inl f2)), (q_41, .inl (cA_42, (k1 + k2 + 4), .inl fb))] H := hP
                      have hD : va_D A [(h0, .inr (0, [.ref q_41, .int (nI ((k1 + k2) - 1)), .int v_55])), (q0, .inl (cA0, D0, .inl f0)), (h1, .inr (0, [.ref q1, .int (nI k1), .int s1])), (q1, .inl (cA1, D1, .inl f1)), (h2, .inr (0, [.ref q2, .int (nI k2), .int s2])), (q2, .inl (cA2, D2, .inl f2)), (q_41, .inl (cA_42, (k1 + k2 + 4), .inl fb))] := hD
                      have hP9 := hP.sub (ws' := [(h0, .inr (0, [.ref q_41, .int (nI ((k1 + k2) - 1)), .int v_55])), (q_41, .inl (cA_42, (k1 + k2 + 4), .inl fb)), (h1, .inr (0, [.ref q1, .int (nI k1), .int s1])), (q1, .inl (cA1, D1, .inl f1)), (h2, .inr (0, [.ref q2, .int (nI k2), .int s2])), (q2, .inl (cA2, D2, .inl f2))]) [0, 6, 2, 3, 4, 5] rfl
                      have hD9 := hD.sub (ws' := [(h0, .inr (0, [.ref q_41, .int (nI ((k1 + k2) - 1)), .int v_55])), (q_41, .inl (cA_42, (k1 + k2 + 4), .inl fb)), (h1, .inr (0, [.ref q1, .int (nI k1), .int s1])), (q1, .inl (cA1, D1, .inl f1)), (h2, .inr (0, [.ref q2, .int (nI k2), .int s2])), (q2, .inl (cA2, D2, .inl f2))]) [0, 6, 2, 3, 4, 5] (by decide) rfl
                      have hK9 := hK.sub (tys' := [(cA_42, .int), (cA1, .int), (cA2, .int)]) [3, 1, 2] rfl
                      subst hQ
                      exact W.vret hx hb hr (fun t ht hW => ⟨⟨(), rfl, trivial, q_41, cA_42, (k1 + k2 + 4), fb, ((k1 + k2) - 1), v_55, ⟨by omega, by omega, by omega⟩, by rw [ht]; exact hP9, va_K.moved hW.alike hK9, hD9⟩, hS.F ht⟩) hS.2.2 d_Big_product_231
                  · have hb_c_46 : i2 < k1 := Nat.lt_of_not_le (fun h => c_46 ((nI_leI (by omega) (by omega)).mpr h))
                    refine lv_aload_n hx hb d_Big_product_98 rfl (lv_at hl 6 rfl) ?_
                    refine va_get (D := (dC, dI)) (ci := 0) (v := .ref q1) (C := R_Big) (T := F_Big) (N := 3) hx hb hT i_Big hown hK hP 2 rfl rfl 0 (by decide) (hT _ tw_44) (fun _ h9 => h9) rfl d_Big_product_99 ?_
                    refine lv_iload hx hb d_Big_product_102 (lv_at hl 0 rfl) ?_
                    refine va_iald hx hb hK hP 3 1 rfl rfl (vp_in_nI (by omega) (by omega)) d_Big_product_104 ?_
                    refine lv_topi (fun v_56 ev_56 => ?_)
                    obtain ⟨v_57, ev_57⟩ : ∃ z : Int64, (v_56 : Int32).toInt64 = z := ⟨_, rfl⟩
                    refine lv_i2l (v := v_57) hx hb d_Big_product_105 ev_57 ?_
                    refine lv_lstore (lv' := [(8, .long v_57), (7, .int (nI i2)), (6, .ref q2), (5, .ref q_41), (4, .int (nI k2)), (3, .int (nI k1)), (0, .ref h0), (1, .ref h1), (2, .ref h2)]) hx hb d_Big_product_106 hl (by decide) rfl (fun ls hl => ?_)
                    refine lv_lconst (v := 0) hx hb d_Big_product_108 (by decide) ?_
                    refine lv_lstore (lv' := [(10, .long 0), (8, .long v_57), (7, .int (nI i2)), (6, .ref q2), (5, .ref q_41), (4, .int (nI k2)), (3, .int (nI k1)), (0, .ref h0), (1, .ref h1), (2, .ref h2)]) hx hb d_Big_product_109 hl (by decide) rfl (fun ls hl => ?_)
                    refine lv_iconst (v := 0) hx hb d_Big_product_111 (by decide) ?_
                    refine lv_istore (lv' := [(12, .int 0), (10, .long 0), (8, .long v_57), (7, .int (nI i2)), (6, .ref q2), (5, .ref q_41), (4, .int (nI k2)), (3, .int (nI k1)), (0, .ref h0), (1, .ref h1), (2, .ref h2)]) hx hb d_Big_product_112 hl (by decide) rfl (fun ls hl => ?_)
                    have lp_114_57 : ∀ (n j3 : Nat) (fc : Nat → Int32) (ca : Int64), j3 ≤ k2 → k2 + 1 ≤ j3 + n → ∀ (H : Heap) (locs : List Loc) (ls : Array Slot), va_P (dC, dI) classes [(h0, .inr (0, [.ref q_41, .int n0, .int s0])), (q0, .inl (cA0, D0, .inl f0)), (h1, .inr (0, [.ref q1, .int (nI k1), .int s1])), (q1, .inl (cA1, D1, .inl f1)), (h2, .inr (0, [.ref q2, .int (nI k2), .int s2])), (q2, .inl (cA2, D2, .inl f2)), (q_41, .inl (cA_42, (k1 + k2 + 4), .inl fc))] H → va_D A [(h0, .inr (0, [.ref q_41, .int n0, .int s0])), (q0, .inl (cA0, D0, .inl f0)), (h1, .inr (0, [.ref q1, .int (nI k1), .int s1])), (q1, .inl (cA1, D1, .inl f1)), (h2, .inr (0, [.ref q2, .int (nI k2), .int s2])), (q2, .inl (cA2, D2, .inl f2)), (q_41, .inl (cA_42, (k1 + k2 + 4), .inl fc))] → va_S A s.heap H locs → lv_has ls 15 [(12, .int (nI j3)), (10, .long ca), (8, .long v_57), (7, .int (nI i2)), (6, .ref q2), (5, .ref q_41), (4, .int (nI k2)), (3, .int (nI k1)), (0, .ref h0), (1, .ref h1), (2, .ref h2)] → W p l e (headSpec w_Big_product ({ frames := 0, cells := 1, slots := 64, locals := 0 })).room s m ([.ref h0, .ref h1, .ref h2]).toArray below meth c H locs (1) (64) Q (F0 m 114 ls []) := by
                      intro n
                      induction n with
                      | zero =>
                        intro j3 fc ca h1 h2
                        exact absurd h2 (by omega)
                      | succ n ih =>
                        intro j3 fc ca hi hn H locs ls hP hD hS hl
                        have ih_lp_114_57 := ih
                        refine lv_iload hx hb d_Big_product_114 (lv_at hl 0 rfl) ?_
                        refine lv_iload hx hb d_Big_product_116 (lv_at hl 6 rfl) ?_
                        refine lv_icmp_ge (tgt := 172) hx hb d_Big_product_118 (by decide) (fun c_59 => ?_) (fun c_59 => ?_)
                        · have hb_c_59 : k2 ≤ j3 := (nI_leI (by omega) (by omega)).mp c_59
                          refine lv_aload hx hb d_Big_product_172 (lv_at hl 5 rfl) ?_
                          refine lv_iload hx hb d_Big_product_174 (lv_at hl 3 rfl) ?_
                          refine lv_iload hx hb d_Big_product_176 (lv_at hl 6 rfl) ?_
                          refine lv_iadd hx hb d_Big_product_178 ?_
                          refine lv_topi (fun v_60 ev_60 => ?_)
                          obtain rfl : v_60 = nI (i2 + k2) := ev_60.trans (nI_add i2 k2)
                          refine lv_lload hx hb d_Big_product_179 (lv_at hl 1 rfl) ?_
                          obtain ⟨v_61, ev_61⟩ : ∃ z : Int32, (ca : Int64).toInt32 = z := ⟨_, rfl⟩
                          refine lv_l2i (v := v_61) hx hb d_Big_product_181 ev_61 ?_
                          refine va_iast hx hb hK hP hD hS 6 3 rfl rfl (vp_in_nI (by omega) (by omega)) d_Big_product_182 (fun H locs hP hD hS => ?_)
                          have hP : va_P (dC, dI) classes [(h0, .inr (0, [.ref q_41, .int n0, .int s0])), (q0, .inl (cA0, D0, .inl f0)), (h1, .inr (0, [.ref q1, .int (nI k1), .int s1])), (q1, .inl (cA1, D1, .inl f1)), (h2, .inr (0, [.ref q2, .int (nI k2), .int s2])), (q2, .inl (cA2, D2, .inl f2)), (q_41, .inl (cA_42, (k1 + k2 + 4), .inl (upd fc ((nI (i2 + k2)) : Int32).toNatClampNeg v_61)))] H := hP
                          have hD : va_D A [(h0, .inr (0, [.ref q_41, .int n0, .int s0])), (q0, .inl (cA0, D0, .inl f0)), (h1, .inr (0, [.ref q1, .int (nI k1), .int s1])), (q1, .inl (cA1, D1, .inl f1)), (h2, .inr (0, [.ref q2, .int (nI k2), .int s2])), (q2, .inl (cA2, D2, .inl f2)), (q_41, .inl (cA_42, (k1 + k2 + 4), .inl (upd fc ((nI (i2 + k2)) : Int32).toNatClampNeg v_61)))] := hD
                          generalize upd fc ((nI (i2 + k2)) : Int32).toNatClampNeg v_61 = f_62 at hP hD
                          refine lv_iinc (v := (nI (i2 + 1))) (lv' := [(7, .int (nI (i2 + 1))), (12, .int (nI j3)), (10, .long ca), (8, .long v_57), (6, .ref q2), (5, .ref q_41), (4, .int (nI k2)), (3, .int (nI k1)), (0, .ref h0), (1, .ref h1), (2, .ref h2)]) hx hb d_Big_product_183 hl (k := 3) rfl (nI_1 i2) (by decide) rfl (fun ls hl => ?_)
                          refine lv_goto (tgt := 92) hx hb d_Big_product_186 (by decide) ?_
                          exact ih_lp_92_44 (i2 + 1) f_62 (by omega) (by omega) _ _ _ (hP.sub [0, 1, 2, 3, 4, 5, 6] rfl) (hD.sub [0, 1, 2, 3, 4, 5, 6] (by decide) rfl) hS (lv_sub hl [0, 4, 5, 6, 7, 8, 9, 10] rfl)
                        · have hb_c_59 : j3 < k2 := Nat.lt_of_not_le (fun h => c_59 ((nI_leI (by omega) (by omega)).mpr h))
                          refine lv_lload hx hb d_Big_product_121 (lv_at hl 2 rfl) ?_
                          refine lv_aload hx hb d_Big_product_123 (lv_at hl 4 rfl) ?_
                          refine lv_iload hx hb d_Big_product_125 (lv_at hl 0 rfl) ?_
                          refine va_iald hx hb hK hP 5 2 rfl rfl (vp_in_nI (by omega) (by omega)) d_Big_product_127 ?_
                          refine lv_topi (fun v_63 ev_63 => ?_)
                          obtain ⟨v_64, ev_64⟩ : ∃ z : Int64, (v_63 : Int32).toInt64 = z := ⟨_, rfl⟩
                          refine lv_i2l (v := v_64) hx hb d_Big_product_128 ev_64 ?_
                          refine lv_lmul hx hb d_Big_product_129 ?_
                          refine lv_topl (fun v_65 ev_65 => ?_)
                          refine lv_aload hx hb d_Big_product_130 (lv_at hl 5 rfl) ?_
                          refine lv_iload hx hb d_Big_product_132 (lv_at hl 3 rfl) ?_
                          refine lv_iload hx hb d_Big_product_134 (lv_at hl 0 rfl) ?_
                          refine lv_iadd hx hb d_Big_product_136 ?_
                          refine lv_topi (fun v_66 ev_66 => ?_)
                          obtain rfl : v_66 = nI (i2 + j3) := ev_66.trans (nI_add i2 j3)
                          refine va_iald hx hb hK hP 6 3 rfl rfl (vp_in_nI (by omega) (by omega)) d_Big_product_137 ?_
                          refine lv_topi (fun v_67 ev_67 => ?_)
                          obtain ⟨v_68, ev_68⟩ : ∃ z : Int64, (v_67 : Int32).toInt64 = z := ⟨_, rfl⟩
                          refine lv_i2l (v := v_68) hx hb d_Big_product_138 ev_68 ?_
                          refine lv_ladd hx hb d_Big_product_139 ?_
                          refine lv_topl (fun v_69 ev_69 => ?_)
                          refine lv_lload hx hb d_Big_product_140 (lv_at hl 1 rfl) ?_
                          refine lv_ladd hx hb d_Big_product_142 ?_
                          refine lv_topl (fun v_70 ev_70 => ?_)
                          refine lv_lstore (lv' := [(13, .long v_70), (12, .int (nI j3)), (10, .long ca), (8, .long v_57), (7, .int (nI i2)), (6, .ref q2), (5, .ref q_41), (4, .int (nI k2)), (3, .int (nI k1)), (0, .ref h0), (1, .ref h1), (2, .ref h2)]) hx hb d_Big_product_143 hl (by decide) rfl (fun ls hl => ?_)
                          refine lv_aload hx hb d_Big_product_145 (lv_at hl 6 rfl) ?_
                          refine lv_iload hx hb d_Big_product_147 (lv_at hl 4 rfl) ?_
                          refine lv_iload hx hb d_Big_product_149 (lv_at hl 1 rfl) ?_
                          refine lv_iadd hx hb d_Big_product_151 ?_
                          refine lv_topi (fun v_71 ev_71 => ?_)
                          obtain rfl : v_71 = nI (i2 + j3) := ev_71.trans (nI_add i2 j3)
                          refine lv_lload hx hb d_Big_product_152 (lv_at hl 0 rfl) ?_
                          obtain ⟨v_72, ev_72⟩ : ∃ z : Int32, (v_70 : Int64).toInt32 = z := ⟨_, rfl⟩
                          refine lv_l2i (v := v_72) hx hb d_Big_product_154 ev_72 ?_
                          refine lv_ldc (v := 1073741823) hx hb hown (hT _ tw_90) d_Big_product_155 ?_
                          refine lv_iand hx hb d_Big_product_157 ?_
                          refine lv_topi (fun v_73 ev_73 => ?_)
                          refine va_iast hx hb hK hP hD hS 6 3 rfl rfl (vp_in_nI (by omega) (by omega)) d_Big_product_158 (fun H locs hP hD hS => ?_)
                          have hP : va_P (dC, dI) classes [(h0, .inr (0, [.ref q_41, .int n0, .int s0])), (q0, .inl (cA0, D0, .inl f0)), (h1, .inr (0, [.ref q1, .int (nI k1), .int s1])), (q1, .inl (cA1, D1, .inl f1)), (h2, .inr (0, [.ref q2, .int (nI k2), .int s2])), (q2, .inl (cA2, D2, .inl f2)), (q_41, .inl (cA_42, (k1 + k2 + 4), .inl (upd fc ((nI (i2 + j3)) : Int32).toNatClampNeg v_73)))] H := hP
                          have hD : va_D A [(h0, .inr (0, [.ref q_41, .int n0, .int s0])), (q0, .inl (cA0, D0, .inl f0)), (h1, .inr (0, [.ref q1, .int (nI k1), .int s1])), (q1, .inl (cA1, D1, .inl f1)), (h2, .inr (0, [.ref q2, .int (nI k2), .int s2])), (q2, .inl (cA2, D2, .inl f2)), (q_41, .inl (cA_42, (k1 + k2 + 4), .inl (upd fc ((nI (i2 + j3)) : Int32).toNatClampNeg v_73)))] := hD
                          generalize upd fc ((nI (i2 + j3)) : Int32).toNatClampNeg v_73 = f_74 at hP hD
                          refine lv_lload hx hb d_Big_product_159 (lv_at hl 0 rfl) ?_
                          refine lv_bipush (v := 30) hx hb d_Big_product_161 (by decide) ?_
                          obtain ⟨v_75, ev_75⟩ : ∃ z : Int64, ((v_70 : Int64).toUInt64 >>> ((30 : Int32).toInt64.toUInt64 &&& Int64.toUInt64 63)).toInt64 = z := ⟨_, rfl⟩
                          refine lv_lushr (v := v_75) hx hb d_Big_product_163 ev_75 ?_
                          refine lv_lstore (lv' := [(10, .long v_75), (13, .long v_70), (12, .int (nI j3)), (8, .long v_57), (7, .int (nI i2)), (6, .ref q2), (5, .ref q_41), (4, .int (nI k2)), (3, .int (nI k1)), (0, .ref h0), (1, .ref h1), (2, .ref h2)]) hx hb d_Big_product_164 hl (by decide) rfl (fun ls hl => ?_)
                          refine lv_iinc (v := (nI (j3 + 1))) (lv' := [(12, .int (nI (j3 + 1))), (10, .long v_75), (13, .long v_70), (8, .long v_57), (7, .int (nI i2)), (6, .ref q2), (5, .ref q_41), (4, .int (nI k2)), (3, .int (nI k1)), (0, .ref h0), (1, .ref h1), (2, .ref h2)]) hx hb d_Big_product_166 hl (k := 2) rfl (nI_1 j3) (by decide) rfl (fun ls hl => ?_)
                          refine lv_goto (tgt := 114) hx hb d_Big_product_169 (by decide) ?_
                          exact ih_lp_114_57 (j3 + 1) f_74 v_75 (by omega) (by omega) _ _ _ (hP.sub [0, 1, 2, 3, 4, 5, 6] rfl) (hD.sub [0, 1, 2, 3, 4, 5, 6] (by decide) rfl) hS (lv_sub hl [0, 1, 3, 4, 5, 6, 7, 8, 9, 10, 11] rfl)
                    exact lp_114_57 (k2 + 1) 0 fb 0 (by omega) (by omega) _ _ _ hP hD hS (lv_sub hl [0, 1, 2, 3, 4, 5, 6, 7, 8, 9, 10] rfl)
              exact lp_92_44 (k1 + 1) 0 fa (by omega) (by omega) _ _ _ hP hD hS (lv_sub hl [0, 1, 2, 3, 4, 5, 6, 7] rfl)
            · have hb_c_44 : i1 < k2 := Nat.lt_of_not_le (fun h => c_44 ((nI_leI (by omega) (by omega)).mpr h))
              refine lv_aload hx hb d_Big_product_77 (lv_at hl 2 rfl) ?_
              refine lv_iload hx hb d_Big_product_79 (lv_at hl 0 rfl) ?_
              refine lv_iconst (v := 0) hx hb d_Big_product_81 (by decide) ?_
              refine va_iast hx hb hK hP hD hS 6 3 rfl rfl (vp_in_nI (by omega) (by omega)) d_Big_product_82 (fun H locs hP hD hS => ?_)
              have hP : va_P (dC, dI) classes [(h0, .inr (0, [.ref q_41, .int n0, .int s0])), (q0, .inl (cA0, D0, .inl f0)), (h1, .inr (0, [.ref q1, .int (nI k1), .int s1])), (q1, .inl (cA1, D1, .inl f1)), (h2, .inr (0, [.ref q2, .int (nI k2), .int s2])), (q2, .inl (cA2, D2, .inl f2)), (q_41, .inl (cA_42, (k1 + k2 + 4), .inl (upd fa ((nI i1) : Int32).toNatClampNeg 0)))] H := hP
              have hD : va_D A [(h0, .inr (0, [.ref q_41, .int n0, .int s0])), (q0, .inl (cA0, D0, .inl f0)), (h1, .inr (0, [.ref q1, .int (nI k1), .int s1])), (q1, .inl (cA1, D1, .inl f1)), (h2, .inr (0, [.ref q2, .int (nI k2), .int s2])), (q2, .inl (cA2, D2, .inl f2)), (q_41, .inl (cA_42, (k1 + k2 + 4), .inl (upd fa ((nI i1) : Int32).toNatClampNeg 0)))] := hD
              generalize upd fa ((nI i1) : Int32).toNatClampNeg 0 = f_76 at hP hD
              refine lv_iinc (v := (nI (i1 + 1))) (lv' := [(7, .int (nI (i1 + 1))), (6, .ref q2), (5, .ref q_41), (4, .int (nI k2)), (3, .int (nI k1)), (0, .ref h0), (1, .ref h1), (2, .ref h2)]) hx hb d_Big_product_83 hl (k := 0) rfl (nI_1 i1) (by decide) rfl (fun ls hl => ?_)
              refine lv_goto (tgt := 70) hx hb d_Big_product_86 (by decide) ?_
              exact ih_lp_70_42 (i1 + 1) f_76 (by omega) (by omega) _ _ _ (hP.sub [0, 1, 2, 3, 4, 5, 6] rfl) (hD.sub [0, 1, 2, 3, 4, 5, 6] (by decide) rfl) hS (lv_sub hl [0, 1, 2, 3, 4, 5, 6, 7] rfl)
        exact lp_70_42 (k2 + 1) 0 (fun _ => 0) (by omega) (by omega) _ _ _ hP hD hS (lv_sub hl [0, 1, 2, 3, 4, 5, 6, 7] rfl)
    · refine lv_aload_n hx hb d_Big_product_20 rfl (lv_at hl 2 rfl) ?_
      refine lv_iconst (v := 0) hx hb d_Big_product_21 (by decide) ?_
      refine va_put (D := (dC, dI)) (ci := 0) (v := .int 0) (ty := .int) (C := R_Big) (T := F_Big) (N := 3) hx hb hT i_Big t_Big t_Big_ok n_Big hown hK hP hD hS 0 rfl rfl 1 (by decide) (hT _ tw_47) (fun _ h9 => h9) rfl (by decide +kernel) rfl rfl (Nat.le_of_ble_eq_true rfl) d_Big_product_22 (fun H locs hP hD hS => ?_)
      have hP : va_P (dC, dI) classes [(h0, .inr (0, [.ref q0, .int 0, .int s0])), (q0, .inl (cA0, D0, .inl f0)), (h1, .inr (0, [.ref q1, .int (nI k1), .int s1])), (q1, .inl (cA1, D1, .inl f1)), (h2, .inr (0, [.ref q2, .int (nI k2), .int s2])), (q2, .inl (cA2, D2, .inl f2))] H := hP
      have hD : va_D A [(h0, .inr (0, [.ref q0, .int 0, .int s0])), (q0, .inl (cA0, D0, .inl f0)), (h1, .inr (0, [.ref q1, .int (nI k1), .int s1])), (q1, .inl (cA1, D1, .inl f1)), (h2, .inr (0, [.ref q2, .int (nI k2), .int s2])), (q2, .inl (cA2, D2, .inl f2))] := hD
      refine lv_aload_n hx hb d_Big_product_25 rfl (lv_at hl 2 rfl) ?_
      refine lv_iconst (v := 0) hx hb d_Big_product_26 (by decide) ?_
      refine va_put (D := (dC, dI)) (ci := 0) (v := .int 0) (ty := .int) (C := R_Big) (T := F_Big) (N := 3) hx hb hT i_Big t_Big t_Big_ok n_Big hown hK hP hD hS 0 rfl rfl 2 (by decide) (hT _ tw_51) (fun _ h9 => h9) rfl (by decide +kernel) rfl rfl (Nat.le_of_ble_eq_true rfl) d_Big_product_27 (fun H locs hP hD hS => ?_)
      have hP : va_P (dC, dI) classes [(h0, .inr (0, [.ref q0, .int 0, .int 0])), (q0, .inl (cA0, D0, .inl f0)), (h1, .inr (0, [.ref q1, .int (nI k1), .int s1])), (q1, .inl (cA1, D1, .inl f1)), (h2, .inr (0, [.ref q2, .int (nI k2), .int s2])), (q2, .inl (cA2, D2, .inl f2))] H := hP
      have hD : va_D A [(h0, .inr (0, [.ref q0, .int 0, .int 0])), (q0, .inl (cA0, D0, .inl f0)), (h1, .inr (0, [.ref q1, .int (nI k1), .int s1])), (q1, .inl (cA1, D1, .inl f1)), (h2, .inr (0, [.ref q2, .int (nI k2), .int s2])), (q2, .inl (cA2, D2, .inl f2))] := hD
      have hP : va_P (dC, dI) classes [(h0, .inr (0, [.ref q0, .int (nI 0), .int 0])), (q0, .inl (cA0, D0, .inl f0)), (h1, .inr (0, [.ref q1, .int (nI k1), .int s1])), (q1, .inl (cA1, D1, .inl f1)), (h2, .inr (0, [.ref q2, .int (nI k2), .int s2])), (q2, .inl (cA2, D2, .inl f2))] _ := hP
      have hD : va_D A [(h0, .inr (0, [.ref q0, .int (nI 0), .int 0])), (q0, .inl (cA0, D0, .inl f0)), (h1, .inr (0, [.ref q1, .int (nI k1), .int s1])), (q1, .inl (cA1, D1, .inl f1)), (h2, .inr (0, [.ref q2, .int (nI k2), .int s2])), (q2, .inl (cA2, D2, .inl f2))] := hD
      have hP9 := hP.sub (ws' := [(h0, .inr (0, [.ref q0, .int (nI 0), .int 0])), (q0, .inl (cA0, D0, .inl f0)), (h1, .inr (0, [.ref q1, .int (nI k1), .int s1])), (q1, .inl (cA1, D1, .inl f1)), (h2, .inr (0, [.ref q2, .int (nI k2), .int s2])), (q2, .inl (cA2, D2, .inl f2))]) [0, 1, 2, 3, 4, 5] rfl
      have hD9 := hD.sub (ws' := [(h0, .inr (0, [.ref q0, .int (nI 0), .int 0])), (q0, .inl (cA0, D0, .inl f0)), (h1, .inr (0, [.ref q1, .int (nI k1), .int s1])), (q1, .inl (cA1, D1, .inl f1)), (h2, .inr (0, [.ref q2, .int (nI k2), .int s2])), (q2, .inl (cA2, D2, .inl f2))]) [0, 1, 2, 3, 4, 5] (by decide) rfl
      have hK9 := hK.sub (tys' := [(cA0, .int), (cA1, .int), (cA2, .int)]) [0, 1, 2] rfl
      refine W.widen (k := 1) (n := 64) (Nat.le_of_ble_eq_true rfl) (Nat.le_of_ble_eq_true rfl) ?_
      subst hQ
      exact W.vret hx hb hr (fun t ht hW => ⟨⟨(), rfl, trivial, q0, cA0, D0, f0, 0, 0, ⟨by omega, by omega, by omega⟩, by rw [ht]; exact hP9, va_K.moved hW.alike hK9, hD9⟩, hS.F ht⟩) hS.2.2 d_Big_product_30
