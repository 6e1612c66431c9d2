theorem tw_43 : (.methodLink "RealHouse$Big" 3 ⟨"java/lang/Object", "<init>", "()V"⟩ : Cond) ∈ lw_g := tb_at (i := 43) (by decide +kernel) rfl
theorem tw_44 : (.fieldLink "RealHouse$Big" 9 "RealHouse$Big" "d" "[I" : Cond) ∈ lw_g := tb_at (i := 44) (by decide +kernel) rfl
theorem tw_194 : (.methodLink "RealHouse$Poly" 3 ⟨"java/lang/Object", "<init>", "()V"⟩ : Cond) ∈ lw_g := tb_at (i := 194) (by decide +kernel) rfl
theorem tw_195 : (.classLink "RealHouse$Poly" 9 "RealHouse$Big" : Cond) ∈ lw_g := tb_at (i := 195) (by decide +kernel) rfl
theorem tw_198 : (.fieldLink "RealHouse$Poly" 11 "RealHouse$Poly" "c" "[LRealHouse$Big;" : Cond) ∈ lw_g := tb_at (i := 198) (by decide +kernel) rfl
theorem tw_196 : (.fieldLink "RealHouse$Poly" 17 "RealHouse$Poly" "desk" "LRealHouse$Desk;" : Cond) ∈ lw_g := tb_at (i := 196) (by decide +kernel) rfl
theorem tw_51 : (.fieldLink "RealHouse$Big" 15 "RealHouse$Big" "s" "I" : Cond) ∈ lw_g := tb_at (i := 51) (by decide +kernel) rfl
theorem tw_74 : (.methodLink "RealHouse$Big" 19 ⟨"java/lang/Math", "abs", "(J)J"⟩ : Cond) ∈ lw_g := tb_at (i := 74) (by decide +kernel) rfl
theorem tw_75 : (.static ⟨"java/lang/Math", "abs", "(J)J"⟩ : Cond) ∈ lw_g := tb_at (i := 75) (by decide +kernel) rfl
theorem tw_4 : (.initialized "java/lang/Math" : Cond) ∈ lw_g := tb_at (i := 4) (by decide +kernel) rfl
theorem tw_76 : (.code ⟨"java/lang/Math", "abs", "(J)J"⟩ prog_17_method_61_code 2 (Option.some .long) : Cond) ∈ lw_g := tb_at (i := 76) (by decide +kernel) rfl
theorem tw_47 : (.fieldLink "RealHouse$Big" 25 "RealHouse$Big" "n" "I" : Cond) ∈ lw_g := tb_at (i := 47) (by decide +kernel) rfl
theorem tw_77 : (.constantLong "RealHouse$Big" 28 (1073741823) : Cond) ∈ lw_g := tb_at (i := 77) (by decide +kernel) rfl
theorem tw_83 : (.methodLink "RealHouse$Big" 30 ⟨"java/lang/System", "arraycopy", "(Ljava/lang/Object;ILjava/lang/Object;II)V"⟩ : Cond) ∈ lw_g := tb_at (i := 83) (by decide +kernel) rfl
theorem tw_85 : (.native ⟨"java/lang/System", "arraycopy", "(Ljava/lang/Object;ILjava/lang/Object;II)V"⟩ : Cond) ∈ lw_g := tb_at (i := 85) (by decide +kernel) rfl
theorem tw_84 : (.static ⟨"java/lang/System", "arraycopy", "(Ljava/lang/Object;ILjava/lang/Object;II)V"⟩ : Cond) ∈ lw_g := tb_at (i := 84) (by decide +kernel) rfl
theorem tw_5 : (.initialized "java/lang/System" : Cond) ∈ lw_g := tb_at (i := 5) (by decide +kernel) rfl
abbrev b_Big_init : ByteArray := prog_2_method_1_code
def y_Big_init : MethodName := ⟨"RealHouse$Big", "<init>", "()V"⟩
abbrev w_Big_init : List Cond := .code y_Big_init b_Big_init 1 none :: lw_g
theorem g_Big_init : GoodIn lw_g w_Big_init := tb_good1 (tb_at (i := 42) (by decide +kernel) rfl)
theorem d_Big_init_0 : decode b_Big_init 0 = .ok (.aload_n 0, 1) := by decide +kernel
theorem d_Big_init_1 : decode b_Big_init 1 = .ok (.invokespecial 3, 3) := by decide +kernel
theorem d_Big_init_4 : decode b_Big_init 4 = .ok (.aload_n 0, 1) := by decide +kernel
theorem d_Big_init_5 : decode b_Big_init 5 = .ok (.bipush 6, 2) := by decide +kernel
theorem d_Big_init_7 : decode b_Big_init 7 = .ok (.newarray .int, 2) := by decide +kernel
theorem d_Big_init_9 : decode b_Big_init 9 = .ok (.putfield 9, 3) := by decide +kernel
theorem d_Big_init_12 : decode b_Big_init 12 = .ok (.return_, 1) := by decide +kernel
abbrev b_Poly_init : ByteArray := prog_8_method_1_code
def y_Poly_init : MethodName := ⟨"RealHouse$Poly", "<init>", "(LRealHouse$Desk;)V"⟩
abbrev w_Poly_init : List Cond := .code y_Poly_init b_Poly_init 2 none :: lw_g
theorem g_Poly_init : GoodIn lw_g w_Poly_init := tb_good1 (tb_at (i := 193) (by decide +kernel) rfl)
theorem d_Poly_init_0 : decode b_Poly_init 0 = .ok (.aload_n 0, 1) := by decide +kernel
theorem d_Poly_init_1 : decode b_Poly_init 1 = .ok (.invokespecial 3, 3) := by decide +kernel
theorem d_Poly_init_4 : decode b_Poly_init 4 = .ok (.aload_n 0, 1) := by decide +kernel
theorem d_Poly_init_5 : decode b_Poly_init 5 = .ok (.iconst 0, 1) := by decide +kernel
theorem d_Poly_init_6 : decode b_Poly_init 6 = .ok (.anewarray 9, 3) := by decide +kernel
theorem d_Poly_init_9 : decode b_Poly_init 9 = .ok (.putfield 11, 3) := by decide +kernel
theorem d_Poly_init_12 : decode b_Poly_init 12 = .ok (.aload_n 0, 1) := by decide +kernel
theorem d_Poly_init_13 : decode b_Poly_init 13 = .ok (.aload_n 1, 1) := by decide +kernel
theorem d_Poly_init_14 : decode b_Poly_init 14 = .ok (.putfield 17, 3) := by decide +kernel
theorem d_Poly_init_17 : decode b_Poly_init 17 = .ok (.return_, 1) := by decide +kernel
abbrev b_Big_put : ByteArray := prog_2_method_2_code
def y_Big_put : MethodName := ⟨"RealHouse$Big", "put", "(J)V"⟩
abbrev w_Big_put : List Cond := .code y_Big_put b_Big_put 5 none :: lw_g
theorem g_Big_put : GoodIn lw_g w_Big_put := tb_good1 (tb_at (i := 73) (by decide +kernel) rfl)
theorem d_Big_put_0 : decode b_Big_put 0 = .ok (.aload_n 0, 1) := by decide +kernel
theorem d_Big_put_1 : decode b_Big_put 1 = .ok (.lload_n 1, 1) := by decide +kernel
theorem d_Big_put_2 : decode b_Big_put 2 = .ok (.lconst 0, 1) := by decide +kernel
theorem d_Big_put_3 : decode b_Big_put 3 = .ok (.lcmp, 1) := by decide +kernel
theorem d_Big_put_4 : decode b_Big_put 4 = .ok (.ifCond .le 7, 3) := by decide +kernel
theorem d_Big_put_7 : decode b_Big_put 7 = .ok (.iconst 1, 1) := by decide +kernel
theorem d_Big_put_8 : decode b_Big_put 8 = .ok (.goto 14, 3) := by decide +kernel
theorem d_Big_put_11 : decode b_Big_put 11 = .ok (.lload_n 1, 1) := by decide +kernel
theorem d_Big_put_12 : decode b_Big_put 12 = .ok (.lconst 0, 1) := by decide +kernel
theorem d_Big_put_13 : decode b_Big_put 13 = .ok (.lcmp, 1) := by decide +kernel
theorem d_Big_put_14 : decode b_Big_put 14 = .ok (.ifCond .ge 7, 3) := by decide +kernel
theorem d_Big_put_17 : decode b_Big_put 17 = .ok (.iconst (-1), 1) := by decide +kernel
theorem d_Big_put_18 : decode b_Big_put 18 = .ok (.goto 4, 3) := by decide +kernel
theorem d_Big_put_21 : decode b_Big_put 21 = .ok (.iconst 0, 1) := by decide +kernel
theorem d_Big_put_22 : decode b_Big_put 22 = .ok (.putfield 15, 3) := by decide +kernel
theorem d_Big_put_25 : decode b_Big_put 25 = .ok (.lload_n 1, 1) := by decide +kernel
theorem d_Big_put_26 : decode b_Big_put 26 = .ok (.invokestatic 19, 3) := by decide +kernel
theorem d_Big_put_29 : decode b_Big_put 29 = .ok (.lstore_n 3, 1) := by decide +kernel
theorem d_Big_put_30 : decode b_Big_put 30 = .ok (.aload_n 0, 1) := by decide +kernel
theorem d_Big_put_31 : decode b_Big_put 31 = .ok (.iconst 0, 1) := by decide +kernel
theorem d_Big_put_32 : decode b_Big_put 32 = .ok (.putfield 25, 3) := by decide +kernel
theorem d_Big_put_35 : decode b_Big_put 35 = .ok (.lload_n 3, 1) := by decide +kernel
theorem d_Big_put_36 : decode b_Big_put 36 = .ok (.lconst 0, 1) := by decide +kernel
theorem d_Big_put_37 : decode b_Big_put 37 = .ok (.lcmp, 1) := by decide +kernel
theorem d_Big_put_38 : decode b_Big_put 38 = .ok (.ifCond .eq 44, 3) := by decide +kernel
theorem d_Big_put_41 : decode b_Big_put 41 = .ok (.aload_n 0, 1) := by decide +kernel
theorem d_Big_put_42 : decode b_Big_put 42 = .ok (.getfield 25, 3) := by decide +kernel
theorem d_Big_put_45 : decode b_Big_put 45 = .ok (.iconst 3, 1) := by decide +kernel
theorem d_Big_put_46 : decode b_Big_put 46 = .ok (.if_icmp .ge 36, 3) := by decide +kernel
theorem d_Big_put_49 : decode b_Big_put 49 = .ok (.aload_n 0, 1) := by decide +kernel
theorem d_Big_put_50 : decode b_Big_put 50 = .ok (.getfield 9, 3) := by decide +kernel
theorem d_Big_put_53 : decode b_Big_put 53 = .ok (.aload_n 0, 1) := by decide +kernel
theorem d_Big_put_54 : decode b_Big_put 54 = .ok (.getfield 25, 3) := by decide +kernel
theorem d_Big_put_57 : decode b_Big_put 57 = .ok (.lload_n 3, 1) := by decide +kernel
theorem d_Big_put_58 : decode b_Big_put 58 = .ok (.ldc2_w 28, 3) := by decide +kernel
theorem d_Big_put_61 : decode b_Big_put 61 = .ok (.land, 1) := by decide +kernel
theorem d_Big_put_62 : decode b_Big_put 62 = .ok (.l2i, 1) := by decide +kernel
theorem d_Big_put_63 : decode b_Big_put 63 = .ok (.iastore, 1) := by decide +kernel
theorem d_Big_put_64 : decode b_Big_put 64 = .ok (.lload_n 3, 1) := by decide +kernel
theorem d_Big_put_65 : decode b_Big_put 65 = .ok (.bipush 30, 2) := by decide +kernel
theorem d_Big_put_67 : decode b_Big_put 67 = .ok (.lushr, 1) := by decide +kernel
theorem d_Big_put_68 : decode b_Big_put 68 = .ok (.lstore_n 3, 1) := by decide +kernel
theorem d_Big_put_69 : decode b_Big_put 69 = .ok (.aload_n 0, 1) := by decide +kernel
theorem d_Big_put_70 : decode b_Big_put 70 = .ok (.dup, 1) := by decide +kernel
theorem d_Big_put_71 : decode b_Big_put 71 = .ok (.getfield 25, 3) := by decide +kernel
theorem d_Big_put_74 : decode b_Big_put 74 = .ok (.iconst 1, 1) := by decide +kernel
theorem d_Big_put_75 : decode b_Big_put 75 = .ok (.iadd, 1) := by decide +kernel
theorem d_Big_put_76 : decode b_Big_put 76 = .ok (.putfield 25, 3) := by decide +kernel
theorem d_Big_put_79 : decode b_Big_put 79 = .ok (.goto (-44), 3) := by decide +kernel
theorem d_Big_put_82 : decode b_Big_put 82 = .ok (.return_, 1) := by decide +kernel
abbrev b_Big_copy : ByteArray := prog_2_method_3_code
def y_Big_copy : MethodName := ⟨"RealHouse$Big", "copy", "(LRealHouse$Big;)V"⟩
abbrev w_Big_copy : List Cond := .code y_Big_copy b_Big_copy 2 none :: lw_g
theorem g_Big_copy : GoodIn lw_g w_Big_copy := tb_good1 (tb_at (i := 82) (by decide +kernel) rfl)
theorem d_Big_copy_0 : decode b_Big_copy 0 = .ok (.aload_n 0, 1) := by decide +kernel
theorem d_Big_copy_1 : decode b_Big_copy 1 = .ok (.getfield 9, 3) := by decide +kernel
theorem d_Big_copy_4 : decode b_Big_copy 4 = .ok (.arraylength, 1) := by decide +kernel
theorem d_Big_copy_5 : decode b_Big_copy 5 = .ok (.aload_n 1, 1) := by decide +kernel
theorem d_Big_copy_6 : decode b_Big_copy 6 = .ok (.getfield 25, 3) := by decide +kernel
theorem d_Big_copy_9 : decode b_Big_copy 9 = .ok (.if_icmp .ge 15, 3) := by decide +kernel
theorem d_Big_copy_12 : decode b_Big_copy 12 = .ok (.aload_n 0, 1) := by decide +kernel
theorem d_Big_copy_13 : decode b_Big_copy 13 = .ok (.aload_n 1, 1) := by decide +kernel
theorem d_Big_copy_14 : decode b_Big_copy 14 = .ok (.getfield 25, 3) := by decide +kernel
theorem d_Big_copy_17 : decode b_Big_copy 17 = .ok (.iconst 4, 1) := by decide +kernel
theorem d_Big_copy_18 : decode b_Big_copy 18 = .ok (.iadd, 1) := by decide +kernel
theorem d_Big_copy_19 : decode b_Big_copy 19 = .ok (.newarray .int, 2) := by decide +kernel
theorem d_Big_copy_21 : decode b_Big_copy 21 = .ok (.putfield 9, 3) := by decide +kernel
theorem d_Big_copy_24 : decode b_Big_copy 24 = .ok (.aload_n 1, 1) := by decide +kernel
theorem d_Big_copy_25 : decode b_Big_copy 25 = .ok (.getfield 9, 3) := by decide +kernel
theorem d_Big_copy_28 : decode b_Big_copy 28 = .ok (.iconst 0, 1) := by decide +kernel
theorem d_Big_copy_29 : decode b_Big_copy 29 = .ok (.aload_n 0, 1) := by decide +kernel
theorem d_Big_copy_30 : decode b_Big_copy 30 = .ok (.getfield 9, 3) := by decide +kernel
theorem d_Big_copy_33 : decode b_Big_copy 33 = .ok (.iconst 0, 1) := by decide +kernel
theorem d_Big_copy_34 : decode b_Big_copy 34 = .ok (.aload_n 1, 1) := by decide +kernel
theorem d_Big_copy_35 : decode b_Big_copy 35 = .ok (.getfield 25, 3) := by decide +kernel
theorem d_Big_copy_38 : decode b_Big_copy 38 = .ok (.invokestatic 30, 3) := by decide +kernel
theorem d_Big_copy_41 : decode b_Big_copy 41 = .ok (.aload_n 0, 1) := by decide +kernel
theorem d_Big_copy_42 : decode b_Big_copy 42 = .ok (.aload_n 1, 1) := by decide +kernel
theorem d_Big_copy_43 : decode b_Big_copy 43 = .ok (.getfield 25, 3) := by decide +kernel
theorem d_Big_copy_46 : decode b_Big_copy 46 = .ok (.putfield 25, 3) := by decide +kernel
theorem d_Big_copy_49 : decode b_Big_copy 49 = .ok (.aload_n 0, 1) := by decide +kernel
theorem d_Big_copy_50 : decode b_Big_copy 50 = .ok (.aload_n 1, 1) := by decide +kernel
theorem d_Big_copy_51 : decode b_Big_copy 51 = .ok (.getfield 15, 3) := by decide +kernel
theorem d_Big_copy_54 : decode b_Big_copy 54 = .ok (.putfield 15, 3) := by decide +kernel
theorem d_Big_copy_57 : decode b_Big_copy 57 = .ok (.return_, 1) := by decide +kernel
set_option maxHeartbeats 4000000 in
set_option maxRecDepth 100000 in
/-- Big(): six limbs, nothing in them -/
theorem c_Big_init (l : Launch) (dC : Nat → ClassId) (dI : Nat → Nat → Nat) (sz : Nat) (h0 : Nat)  : Met l y_Big_init w_Big_init ({ frames := 1, cells := 1, slots := 6, locals := 12 }) (va_Pc [.ref h0] (fun U => U.heap.size = sz ∧ va_P (dC, dI) classes [(h0, .inr (0, [.null, .int 0, .int 0]))] U.heap ∧ va_K (dC, dI) classes [] U ∧ va_D (fun _ => True) [(h0, .inr (0, [.null, .int 0, .int 0]))] ∧ nx_K U)) (va_Qv (fun _ : Unit => True) (fun _ t => ∃ (q1 : Nat), ∃ (cA1 : ClassId), ∃ (f1 : Nat → Int32), va_P (dC, dI) classes [(h0, .inr (0, [.ref q1, .int 0, .int 0])), (q1, .inl (cA1, 6, .inl f1))] t.heap ∧ va_K (dC, dI) classes [(cA1, .int)] t ∧ va_D (va_A [(h0, .inr (0, [.null, .int 0, .int 0]))] sz) [(h0, .inr (0, [.ref q1, .int 0, .int 0])), (q1, .inl (cA1, 6, .inl f1))]) (va_A [(h0, .inr (0, [.null, .int 0, .int 0]))] sz)) 1 6 (va_A [(h0, .inr (0, [.null, .int 0, .int 0]))] sz) := by
  refine Met.ofW (cc := b_Big_init) (maxL := 1) (ret := none) (by decide) rfl ?_
  intro p e s m args below meth c s₁ B hml hv
  obtain ⟨rfl, hsz, hP, hK, hD0, hN⟩ := hv
  have hx := B.exec
  have hb := B.bytes
  have hr := B.returns
  have hT : ∀ w ∈ lw_g, w.before _ s = true := fun w h => atoms_spec (ws := w_Big_init) B.pre w (List.mem_cons_of_mem _ h)
  have hown : s.vm.findClass R_Big = some m.cls := findClass_of_methodNamed B.named
  have hlocks := B.notSynchronized
  have hin : meth.name = "<init>" := (name_of_methodNamed B.named B.method).1
  subst hsz
  have hD := hD0.self (sz := s.heap.size)
  generalize hAe : va_A [(h0, .inr (0, [.null, .int 0, .int 0]))] s.heap.size = A at hD ⊢
  have hA : ∀ q : Nat, s.heap.size ≤ q → A q := fun q h => by rw [← hAe]; exact Or.inr h
  have hS : va_S A s.heap s.heap [] := va_S.rf
  have hP : va_P (dC, dI) classes [(h0, .inr (0, [.null, .int 0, .int 0]))] s.heap := hP
  have hl := lv_entry ([.ref h0]) (n := 1) (Nat.le_of_ble_eq_true rfl)
  rw [lg_entry_eq]
  generalize (lg_sl ([.ref h0]) ++ List.replicate (1 - (lg_sl ([.ref h0])).length) Slot.unset).toArray = ls at hl ⊢
  have hl : lv_has ls 1 [(0, .ref h0)] := hl
  refine lv_aload_n hx hb d_Big_init_0 rfl (lv_at hl 0 rfl) ?_
  refine W.objInit hx hb hown (hT _ tw_43) (hT _ tw_24) (hT _ tw_25) rfl (by rw [hml]; exact hl.1) rfl d_Big_init_1 (Nat.le_of_ble_eq_true rfl) (Nat.le_of_ble_eq_true rfl) ?_
  refine W.eq (g2 := F0 m 4 ls []) rfl ?_
  refine lv_aload_n hx hb d_Big_init_4 rfl (lv_at hl 0 rfl) ?_
  refine lv_bipush (v := 6) hx hb d_Big_init_5 (by decide) ?_
  refine va_newa (atype := .int) (a0 := (6, .inl (fun _ => 0))) hx hb (hT _ tw_68) rfl hK hP hD hS hA (fun _ => vp_cell_i _ _ _) (by decide) rfl (by decide) (Nat.le_of_ble_eq_true rfl) (Nat.le_of_ble_eq_true rfl) d_Big_init_7 (fun q_1 cA_2 H hK hP hD hS => ?_)
  have hP : va_P (dC, dI) classes [(h0, .inr (0, [.null, .int 0, .int 0])), (q_1, .inl (cA_2, 6, .inl (fun _ => 0)))] H := hP
  have hD : va_D A [(h0, .inr (0, [.null, .int 0, .int 0])), (q_1, .inl (cA_2, 6, .inl (fun _ => 0)))] := hD
  have hK : va_K (dC, dI) classes [(cA_2, .int)] s := hK
  refine W.widen (k := 1) (n := 6) (Nat.le_of_ble_eq_true rfl) (Nat.le_of_ble_eq_true rfl) ?_
  refine va_put (D := (dC, dI)) (ci := 0) (v := .ref q_1) (ty := .array .int) (C := R_Big) (T := F_Big) (N := 3) hx hb hT i_Big t_Big t_Big_ok n_Big hown hK hP hD hS 0 rfl rfl 0 (by decide) (hT _ tw_44) (fun _ h9 => h9) rfl (by decide +kernel) rfl rfl (Nat.le_of_ble_eq_true rfl) d_Big_init_9 (fun H locs hP hD hS => ?_)
  have hP : va_P (dC, dI) classes [(h0, .inr (0, [.ref q_1, .int 0, .int 0])), (q_1, .inl (cA_2, 6, .inl (fun _ => 0)))] H := hP
  have hD : va_D A [(h0, .inr (0, [.ref q_1, .int 0, .int 0])), (q_1, .inl (cA_2, 6, .inl (fun _ => 0)))] := hD
  have hP9 := hP.sub (ws' := [(h0, .inr (0, [.ref q_1, .int 0, .int 0])), (q_1, .inl (cA_2, 6, .inl (fun _ => 0)))]) [0, 1] rfl
  have hD9 := hD.sub (ws' := [(h0, .inr (0, [.ref q_1, .int 0, .int 0])), (q_1, .inl (cA_2, 6, .inl (fun _ => 0)))]) [0, 1] (by decide) rfl
  have hK9 := hK.sub (tys' := [(cA_2, .int)]) [0] rfl
  exact W.vret hx hb hr (fun t ht hW => ⟨⟨(), rfl, trivial, q_1, cA_2, (fun _ => 0), by rw [ht]; exact hP9, va_K.moved hW.alike hK9, hD9⟩, hS.F ht⟩) hS.2.2 d_Big_init_12

set_option maxHeartbeats 4000000 in
set_option maxRecDepth 100000 in
/-- Poly(desk) -/
theorem c_Poly_init (l : Launch) (dC : Nat → ClassId) (dI : Nat → Nat → Nat) (sz : Nat) (h0 : Nat) (dk : Nat)  : Met l y_Poly_init w_Poly_init ({ frames := 1, cells := 1, slots := 0, locals := 12 }) (va_Pc [.ref h0, .ref dk] (fun U => U.heap.size = sz ∧ va_P (dC, dI) classes [(h0, .inr (6, [.null, .null, .int 0]))] U.heap ∧ va_K (dC, dI) classes [] U ∧ va_D (fun _ => True) [(h0, .inr (6, [.null, .null, .int 0]))] ∧ nx_K U)) (va_Qv (fun _ : Unit => True) (fun _ t => ∃ (q1 : Nat), va_P (dC, dI) classes [(h0, .inr (6, [.ref dk, .ref q1, .int 0]))] t.heap ∧ va_K (dC, dI) classes [] t ∧ va_D (va_A [(h0, .inr (6, [.null, .null, .int 0]))] sz) [(h0, .inr (6, [.ref dk, .ref q1, .int 0]))]) (va_A [(h0, .inr (6, [.null, .null, .int 0]))] sz)) 1 0 (va_A [(h0, .inr (6, [.null, .null, .int 0]))] sz) := by
  refine Met.ofW (cc := b_Poly_init) (maxL := 2) (ret := none) (by decide) rfl ?_
  intro p e s m args below meth c s₁ B hml hv
  obtain ⟨rfl, hsz, hP, hK, hD0, hN⟩ := hv
  have hx := B.exec
  have hb := B.bytes
  have hr := B.returns
  have hT : ∀ w ∈ lw_g, w.before _ s = true := fun w h => atoms_spec (ws := w_Poly_init) B.pre w (List.mem_cons_of_mem _ h)
  have hown : s.vm.findClass R_Poly = some m.cls := findClass_of_methodNamed B.named
  have hlocks := B.notSynchronized
  have hin : meth.name = "<init>" := (name_of_methodNamed B.named B.method).1
  subst hsz
  have hD := hD0.self (sz := s.heap.size)
  generalize hAe : va_A [(h0, .inr (6, [.null, .null, .int 0]))] s.heap.size = A at hD ⊢
  have hA : ∀ q : Nat, s.heap.size ≤ q → A q := fun q h => by rw [← hAe]; exact Or.inr h
  have hS : va_S A s.heap s.heap [] := va_S.rf
  have hP : va_P (dC, dI) classes [(h0, .inr (6, [.null, .null, .int 0]))] s.heap := hP
  have hl := lv_entry ([.ref h0, .ref dk]) (n := 2) (Nat.le_of_ble_eq_true rfl)
  rw [lg_entry_eq]
  generalize (lg_sl ([.ref h0, .ref dk]) ++ List.replicate (2 - (lg_sl ([.ref h0, .ref dk])).length) Slot.unset).toArray = ls at hl ⊢
  have hl : lv_has ls 2 [(0, .ref h0), (1, .ref dk)] := hl
  refine lv_aload_n hx hb d_Poly_init_0 rfl (lv_at hl 0 rfl) ?_
  refine W.objInit hx hb hown (hT _ tw_194) (hT _ tw_24) (hT _ tw_25) rfl (by rw [hml]; exact hl.1) rfl d_Poly_init_1 (Nat.le_of_ble_eq_true rfl) (Nat.le_of_ble_eq_true rfl) ?_
  refine W.eq (g2 := F0 m 4 ls []) rfl ?_
  refine lv_aload_n hx hb d_Poly_init_4 rfl (lv_at hl 0 rfl) ?_
  refine lv_iconst (v := 0) hx hb d_Poly_init_5 (by decide) ?_
  refine va_newq hx hb hown (hT _ tw_195) hN.2.2.2.1 hK hP hD hS hA (by decide) rfl (by decide) (Nat.le_of_ble_eq_true rfl) (Nat.le_of_ble_eq_true rfl) d_Poly_init_6 (fun q_1 cA_2 H hK hP hD hS => ?_)
  have hP : va_P (dC, dI) classes [(h0, .inr (6, [.null, .null, .int 0])), (q_1, .inl (cA_2, 0, .inr (.inr (.inr (.inr (fun _ => none))))))] H := hP
  have hD : va_D A [(h0, .inr (6, [.null, .null, .int 0])), (q_1, .inl (cA_2, 0, .inr (.inr (.inr (.inr (fun _ => none))))))] := hD
  have hK : va_K (dC, dI) classes [(cA_2, .object "RealHouse$Big")] s := hK
  refine W.widen (k := 1) (n := 0) (Nat.le_of_ble_eq_true rfl) (Nat.le_of_ble_eq_true rfl) ?_
  refine va_put (D := (dC, dI)) (ci := 6) (v := .ref q_1) (ty := .array (.object "RealHouse$Big")) (C := R_Poly) (T := F_Poly) (N := 3) hx hb hT i_Poly t_Poly t_Poly_ok n_Poly hown hK hP hD hS 0 rfl rfl 1 (by decide) (hT _ tw_198) (fun _ h9 => h9) rfl (by decide +kernel) rfl rfl (Nat.le_of_ble_eq_true rfl) d_Poly_init_9 (fun H locs hP hD hS => ?_)
  have hP : va_P (dC, dI) classes [(h0, .inr (6, [.null, .ref q_1, .int 0])), (q_1, .inl (cA_2, 0, .inr (.inr (.inr (.inr (fun _ => none))))))] H := hP
  have hD : va_D A [(h0, .inr (6, [.null, .ref q_1, .int 0])), (q_1, .inl (cA_2, 0, .inr (.inr (.inr (.inr (fun _ => none))))))] := hD
  refine lv_aload_n hx hb d_Poly_init_12 rfl (lv_at hl 0 rfl) ?_
  refine lv_aload_n hx hb d_Poly_init_13 rfl (lv_at hl 1 rfl) ?_
  refine va_putF (D := (dC, dI)) (ci := 6) (v := .ref dk) (ty := .object "RealHouse$Desk") (C := R_Poly) (T := F_Poly) (N := 3) hx hb hT i_Poly t_Poly t_Poly_ok n_Poly hown hK hP hD hS 0 rfl rfl 0 (by decide) (hT _ tw_196) (fun _ h9 => h9) rfl hin rfl (by decide +kernel) rfl rfl (Nat.le_of_ble_eq_true rfl) d_Poly_init_14 (fun H locs hP hD hS => ?_)
  have hP : va_P (dC, dI) classes [(h0, .inr (6, [.ref dk, .ref q_1, .int 0])), (q_1, .inl (cA_2, 0, .inr (.inr (.inr (.inr (fun _ => none))))))] H := hP
  have hD : va_D A [(h0, .inr (6, [.ref dk, .ref q_1, .int 0])), (q_1, .inl (cA_2, 0, .inr (.inr (.inr (.inr (fun _ => none))))))] := hD
  have hP9 := hP.sub (ws' := [(h0, .inr (6, [.ref dk, .ref q_1, .int 0]))]) [0] rfl
  have hD9 := hD.sub (ws' := [(h0, .inr (6, [.ref dk, .ref q_1, .int 0]))]) [0] (by decide) rfl
  have hK9 := hK.sub (tys' := []) [] rfl
  exact W.vret hx hb hr (fun t ht hW => ⟨⟨(), rfl, trivial, q_1, by rw [ht]; exact hP9, va_K.moved hW.alike hK9, hD9⟩, hS.F ht⟩) hS.2.2 d_Poly_init_17

set_option maxHeartbeats 4000000 in
set_option maxRecDepth 100000 in
/-- put(v): shape alone -/
theorem c_Big_put (l : Launch) (dC : Nat → ClassId) (dI : Nat → Nat → Nat) (sz : Nat) (h0 : Nat) (q0 : Nat) (cA0 : ClassId) (D0 : Nat) (f0 : Nat → Int32) (n0 : Int32) (s0 : Int32) (v0 : Int64) (hD0 : 3 ≤ D0) (hD1 : D0 < 2 ^ 31) : Met l y_Big_put w_Big_put ({ frames := 1, cells := 0, slots := 0, locals := 13 }) (va_Pc [.ref h0, .long v0] (fun U => U.heap.size = sz ∧ va_P (dC, dI) classes [(h0, .inr (0, [.ref q0, .int n0, .int s0])), (q0, .inl (cA0, D0, .inl f0))] U.heap ∧ va_K (dC, dI) classes [(cA0, .int)] U ∧ va_D (fun _ => True) [(h0, .inr (0, [.ref q0, .int n0, .int s0])), (q0, .inl (cA0, D0, .inl f0))] ∧ nx_K U)) (va_Qv (fun _ : Unit => True) (fun _ t => ∃ (f1 : Nat → Int32), ∃ (k1 : Nat), ∃ (s1 : Int32), (k1 ≤ 3) ∧ va_P (dC, dI) classes [(h0, .inr (0, [.ref q0, .int (nI k1), .int s1])), (q0, .inl (cA0, D0, .inl f1))] t.heap ∧ va_K (dC, dI) classes [(cA0, .int)] t ∧ va_D (va_A [(h0, .inr (0, [.ref q0, .int n0, .int s0])), (q0, .inl (cA0, D0, .inl f0))] sz) [(h0, .inr (0, [.ref q0, .int (nI k1), .int s1])), (q0, .inl (cA0, D0, .inl f1))]) (va_A [(h0, .inr (0, [.ref q0, .int n0, .int s0])), (q0, .inl (cA0, D0, .inl f0))] sz)) 0 0 (va_A [(h0, .inr (0, [.ref q0, .int n0, .int s0])), (q0, .inl (cA0, D0, .inl f0))] sz) := by
  refine Met.ofW (cc := b_Big_put) (maxL := 5) (ret := none) (by decide) rfl ?_
  intro p e s m args below meth c s₁ B hml hv
  obtain ⟨rfl, hsz, hP, hK, hD0, hN⟩ := hv
  have hx := B.exec
  have hb := B.bytes
  have hr := B.returns
  have hT : ∀ w ∈ lw_g, w.before _ s = true := fun w h => atoms_spec (ws := w_Big_put) B.pre w (List.mem_cons_of_mem _ h)
  have hown : s.vm.findClass R_Big = some m.cls := findClass_of_methodNamed B.named
  have hlocks := B.notSynchronized
  subst hsz
  have hD := hD0.self (sz := s.heap.size)
  generalize hAe : va_A [(h0, .inr (0, [.ref q0, .int n0, .int s0])), (q0, .inl (cA0, D0, .inl f0))] s.heap.size = A at hD ⊢
  have hA : ∀ q : Nat, s.heap.size ≤ q → A q := fun q h => by rw [← hAe]; exact Or.inr h
  have hS : va_S A s.heap s.heap [] := va_S.rf
  have hP : va_P (dC, dI) classes [(h0, .inr (0, [.ref q0, .int n0, .int s0])), (q0, .inl (cA0, D0, .inl f0))] s.heap := hP
  have hl := lv_entry ([.ref h0, .long v0]) (n := 5) (Nat.le_of_ble_eq_true rfl)
  rw [lg_entry_eq]
  generalize (lg_sl ([.ref h0, .long v0]) ++ List.replicate (5 - (lg_sl ([.ref h0, .long v0])).length) Slot.unset).toArray = ls at hl ⊢
  have hl : lv_has ls 5 [(0, .ref h0), (1, .long v0)] := hl
  refine lv_aload_n hx hb d_Big_put_0 rfl (lv_at hl 0 rfl) ?_
  refine lv_lload_n hx hb d_Big_put_1 rfl (lv_at hl 1 rfl) ?_
  refine lv_lconst (v := 0) hx hb d_Big_put_2 (by decide) ?_
  refine W.lcmp hx hb d_Big_put_3 ?_
  refine lv_topi (fun v_1 ev_1 => ?_)
  refine lv_if_le (tgt := 11) hx hb d_Big_put_4 (by decide) (fun c_2 => ?_) (fun c_2 => ?_)
  · refine lv_lload_n hx hb d_Big_put_11 rfl (lv_at hl 1 rfl) ?_
    refine lv_lconst (v := 0) hx hb d_Big_put_12 (by decide) ?_
    refine W.lcmp hx hb d_Big_put_13 ?_
    refine lv_topi (fun v_3 ev_3 => ?_)
    refine lv_if_ge (tgt := 21) hx hb d_Big_put_14 (by decide) (fun c_4 => ?_) (fun c_4 => ?_)
    · refine lv_iconst (v := 0) hx hb d_Big_put_21 (by decide) ?_
      refine va_put (D := (dC, dI)) (ci := 0) (v := .int 0) (ty := .int) (C := R_Big) (T := F_Big) (N := 3) hx hb hT i_Big t_Big t_Big_ok n_Big hown hK hP hD hS 0 rfl rfl 2 (by decide) (hT _ tw_51) (fun _ h9 => h9) rfl (by decide +kernel) rfl rfl (Nat.le_of_ble_eq_true rfl) d_Big_put_22 (fun H locs hP hD hS => ?_)
      have hP : va_P (dC, dI) classes [(h0, .inr (0, [.ref q0, .int n0, .int 0])), (q0, .inl (cA0, D0, .inl f0))] H := hP
      have hD : va_D A [(h0, .inr (0, [.ref q0, .int n0, .int 0])), (q0, .inl (cA0, D0, .inl f0))] := hD
      refine lv_lload_n hx hb d_Big_put_25 rfl (lv_at hl 1 rfl) ?_
      refine va_mabs_long hx hb (hml.trans hl.1.symm) hown (hT _ tw_74) (hT _ tw_75) (hT _ tw_4) (hT _ tw_76) (Nat.le_of_ble_eq_true rfl) (Nat.le_of_ble_eq_true rfl) (Nat.le_of_ble_eq_true rfl) (Nat.le_of_ble_eq_true rfl) d_Big_put_26 ?_
      refine lv_topl (fun v_5 ev_5 => ?_)
      refine lv_lstore_n (lv' := [(3, .long v_5), (0, .ref h0), (1, .long v0)]) hx hb d_Big_put_29 rfl hl (by decide) rfl (fun ls hl => ?_)
      refine lv_aload_n hx hb d_Big_put_30 rfl (lv_at hl 1 rfl) ?_
      refine lv_iconst (v := 0) hx hb d_Big_put_31 (by decide) ?_
      refine va_put (D := (dC, dI)) (ci := 0) (v := .int 0) (ty := .int) (C := R_Big) (T := F_Big) (N := 3) hx hb hT i_Big t_Big t_Big_ok n_Big hown hK hP hD hS 0 rfl rfl 1 (by decide) (hT _ tw_47) (fun _ h9 => h9) rfl (by decide +kernel) rfl rfl (Nat.le_of_ble_eq_true rfl) d_Big_put_32 (fun H locs hP hD hS => ?_)
      have hP : va_P (dC, dI) classes [(h0, .inr (0, [.ref q0, .int 0, .int 0])), (q0, .inl (cA0, D0, .inl f0))] H := hP
      have hD : va_D A [(h0, .inr (0, [.ref q0, .int 0, .int 0])), (q0, .inl (cA0, D0, .inl f0))] := hD
      refine lv_lload_n hx hb d_Big_put_35 rfl (lv_at hl 0 rfl) ?_
      refine lv_lconst (v := 0) hx hb d_Big_put_36 (by decide) ?_
      refine W.lcmp hx hb d_Big_put_37 ?_
      refine lv_topi (fun v_6 ev_6 => ?_)
      refine lv_if_eq (tgt := 82) hx hb d_Big_put_38 (by decide) (fun c_7 => ?_) (fun c_7 => ?_)
      · have hP : va_P (dC, dI) classes [(h0, .inr (0, [.ref q0, .int (nI 0), .int 0])), (q0, .inl (cA0, D0, .inl f0))] _ := hP
        have hD : va_D A [(h0, .inr (0, [.ref q0, .int (nI 0), .int 0])), (q0, .inl (cA0, D0, .inl f0))] := hD
        have hP9 := hP.sub (ws' := [(h0, .inr (0, [.ref q0, .int (nI 0), .int 0])), (q0, .inl (cA0, D0, .inl f0))]) [0, 1] rfl
        have hD9 := hD.sub (ws' := [(h0, .inr (0, [.ref q0, .int (nI 0), .int 0])), (q0, .inl (cA0, D0, .inl f0))]) [0, 1] (by decide) rfl
        have hK9 := hK.sub (tys' := [(cA0, .int)]) [0] rfl
        exact W.vret hx hb hr (fun t ht hW => ⟨⟨(), rfl, trivial, f0, 0, 0, by omega, by rw [ht]; exact hP9, va_K.moved hW.alike hK9, hD9⟩, hS.F ht⟩) hS.2.2 d_Big_put_82
      · refine lv_aload_n hx hb d_Big_put_41 rfl (lv_at hl 1 rfl) ?_
        refine va_get (D := (dC, dI)) (ci := 0) (v := .int 0) (C := R_Big) (T := F_Big) (N := 3) hx hb hT i_Big hown hK hP 0 rfl rfl 1 (by decide) (hT _ tw_47) (fun _ h9 => h9) rfl d_Big_put_42 ?_
        refine lv_iconst (v := 3) hx hb d_Big_put_45 (by decide) ?_
        refine lv_icmp_ge (tgt := 82) hx hb d_Big_put_46 (by decide) (fun c_8 => absurd c_8 (by decide)) (fun c_8 => ?_)
        refine lv_aload_n hx hb d_Big_put_49 rfl (lv_at hl 1 rfl) ?_
        refine va_get (D := (dC, dI)) (ci := 0) (v := .ref q0) (C := R_Big) (T := F_Big) (N := 3) hx hb hT i_Big hown hK hP 0 rfl rfl 0 (by decide) (hT _ tw_44) (fun _ h9 => h9) rfl d_Big_put_50 ?_
        refine lv_aload_n hx hb d_Big_put_53 rfl (lv_at hl 1 rfl) ?_
        refine va_get (D := (dC, dI)) (ci := 0) (v := .int 0) (C := R_Big) (T := F_Big) (N := 3) hx hb hT i_Big hown hK hP 0 rfl rfl 1 (by decide) (hT _ tw_47) (fun _ h9 => h9) rfl d_Big_put_54 ?_
        refine lv_lload_n hx hb d_Big_put_57 rfl (lv_at hl 0 rfl) ?_
        refine lv_ldc2 (v := 1073741823) hx hb hown (hT _ tw_77) d_Big_put_58 ?_
        refine lv_land hx hb d_Big_put_61 ?_
        refine lv_topl (fun v_9 ev_9 => ?_)
        obtain ⟨v_10, ev_10⟩ : ∃ z : Int32, (v_9 : Int64).toInt32 = z := ⟨_, rfl⟩
        refine lv_l2i (v := v_10) hx hb d_Big_put_62 ev_10 ?_
        refine va_iast hx hb hK hP hD hS 1 0 rfl rfl (vp_in_nI (n := 0) (by omega) (by omega)) d_Big_put_63 (fun H locs hP hD hS => ?_)
        have hP : va_P (dC, dI) classes [(h0, .inr (0, [.ref q0, .int 0, .int 0])), (q0, .inl (cA0, D0, .inl (upd f0 (0 : Int32).toNatClampNeg v_10)))] H := hP
        have hD : va_D A [(h0, .inr (0, [.ref q0, .int 0, .int 0])), (q0, .inl (cA0, D0, .inl (upd f0 (0 : Int32).toNatClampNeg v_10)))] := hD
        generalize upd f0 (0 : Int32).toNatClampNeg v_10 = f_11 at hP hD
        refine lv_lload_n hx hb d_Big_put_64 rfl (lv_at hl 0 rfl) ?_
        refine lv_bipush (v := 30) hx hb d_Big_put_65 (by decide) ?_
        obtain ⟨v_12, ev_12⟩ : ∃ z : Int64, ((v_5 : Int64).toUInt64 >>> ((30 : Int32).toInt64.toUInt64 &&& Int64.toUInt64 63)).toInt64 = z := ⟨_, rfl⟩
        refine lv_lushr (v := v_12) hx hb d_Big_put_67 ev_12 ?_
        refine lv_lstore_n (lv' := [(3, .long v_12), (0, .ref h0), (1, .long v0)]) hx hb d_Big_put_68 rfl hl (by decide) rfl (fun ls hl => ?_)
        refine lv_aload_n hx hb d_Big_put_69 rfl (lv_at hl 1 rfl) ?_
        refine lv_dup hx hb d_Big_put_70 rfl ?_
        refine va_get (D := (dC, dI)) (ci := 0) (v := .int 0) (C := R_Big) (T := F_Big) (N := 3) hx hb hT i_Big hown hK hP 0 rfl rfl 1 (by decide) (hT _ tw_47) (fun _ h9 => h9) rfl d_Big_put_71 ?_
        refine lv_iconst (v := 1) hx hb d_Big_put_74 (by decide) ?_
        refine lv_iadd hx hb d_Big_put_75 ?_
        refine lv_topi (fun v_13 ev_13 => ?_)
        obtain rfl : v_13 = 1 := ev_13.trans (by decide)
        refine va_put (D := (dC, dI)) (ci := 0) (v := .int 1) (ty := .int) (C := R_Big) (T := F_Big) (N := 3) hx hb hT i_Big t_Big t_Big_ok n_Big hown hK hP hD hS 0 rfl rfl 1 (by decide) (hT _ tw_47) (fun _ h9 => h9) rfl (by decide +kernel) rfl rfl (Nat.le_of_ble_eq_true rfl) d_Big_put_76 (fun H locs hP hD hS => ?_)
        have hP : va_P (dC, dI) classes [(h0, .inr (0, [.ref q0, .int 1, .int 0])), (q0, .inl (cA0, D0, .inl f_11))] H := hP
        have hD : va_D A [(h0, .inr (0, [.ref q0, .int 1, .int 0])), (q0, .inl (cA0, D0, .inl f_11))] := hD
        refine lv_goto (tgt := 35) hx hb d_Big_put_79 (by decide) ?_
        refine lv_lload_n hx hb d_Big_put_35 rfl (lv_at hl 0 rfl) ?_
        refine lv_lconst (v := 0) hx hb d_Big_put_36 (by decide) ?_
        refine W.lcmp hx hb d_Big_put_37 ?_
        refine lv_topi (fun v_14 ev_14 => ?_)
        refine lv_if_eq (tgt := 82) hx hb d_Big_put_38 (by decide) (fun c_15 => ?_) (fun c_15 => ?_)
        · have hP : va_P (dC, dI) classes [(h0, .inr (0, [.ref q0, .int (nI 1), .int 0])), (q0, .inl (cA0, D0, .inl f_11))] _ := hP
          have hD : va_D A [(h0, .inr (0, [.ref q0, .int (nI 1), .int 0])), (q0, .inl (cA0, D0, .inl f_11))] := hD
          have hP9 := hP.sub (ws' := [(h0, .inr (0, [.ref q0, .int (nI 1), .int 0])), (q0, .inl (cA0, D0, .inl f_11))]) [0, 1] rfl
          have hD9 := hD.sub (ws' := [(h0, .inr (0, [.ref q0, .int (nI 1), .int 0])), (q0, .inl (cA0, D0, .inl f_11))]) [0, 1] (by decide) rfl
          have hK9 := hK.sub (tys' := [(cA0, .int)]) [0] rfl
          exact W.vret hx hb hr (fun t ht hW => ⟨⟨(), rfl, trivial, f_11, 1, 0, by omega, by rw [ht]; exact hP9, va_K.moved hW.alike hK9, hD9⟩, hS.F ht⟩) hS.2.2 d_Big_put_82
        · refine lv_aload_n hx hb d_Big_put_41 rfl (lv_at hl 1 rfl) ?_
          refine va_get (D := (dC, dI)) (ci := 0) (v := .int 1) (C := R_Big) (T := F_Big) (N := 3) hx hb hT i_Big hown hK hP 0 rfl rfl 1 (by decide) (hT _ tw_47) (fun _ h9 => h9) rfl d_Big_put_42 ?_
          refine lv_iconst (v := 3) hx hb d_Big_put_45 (by decide) ?_
          refine lv_icmp_ge (tgt := 82) hx hb d_Big_put_46 (by decide) (fun c_16 => absurd c_16 (by decide)) (fun c_16 => ?_)
          refine lv_aload_n hx hb d_Big_put_49 rfl (lv_at hl 1 rfl) ?_
          refine va_get (D := (dC, dI)) (ci := 0) (v := .ref q0) (C := R_Big) (T := F_Big) (N := 3) hx hb hT i_Big hown hK hP 0 rfl rfl 0 (by decide) (hT _ tw_44) (fun _ h9 => h9) rfl d_Big_put_50 ?_
          refine lv_aload_n hx hb d_Big_put_53 rfl (lv_at hl 1 rfl) ?_
          refine va_get (D := (dC, dI)) (ci := 0) (v := .int 1) (C := R_Big) (T := F_Big) (N := 3) hx hb hT i_Big hown hK hP 0 rfl rfl 1 (by decide) (hT _ tw_47) (fun _ h9 => h9) rfl d_Big_put_54 ?_
          refine lv_lload_n hx hb d_Big_put_57 rfl (lv_at hl 0 rfl) ?_
          refine lv_ldc2 (v := 1073741823) hx hb hown (hT _ tw_77) d_Big_put_58 ?_
          refine lv_land hx hb d_Big_put_61 ?_
          refine lv_topl (fun v_17 ev_17 => ?_)
          obtain ⟨v_18, ev_18⟩ : ∃ z : Int32, (v_17 : Int64).toInt32 = z := ⟨_, rfl⟩
          refine lv_l2i (v := v_18) hx hb d_Big_put_62 ev_18 ?_
          refine va_iast hx hb hK hP hD hS 1 0 rfl rfl (vp_in_nI (n := 1) (by omega) (by omega)) d_Big_put_63 (fun H locs hP hD hS => ?_)
          have hP : va_P (dC, dI) classes [(h0, .inr (0, [.ref q0, .int 1, .int 0])), (q0, .inl (cA0, D0, .inl (upd f_11 (1 : Int32).toNatClampNeg v_18)))] H := hP
          have hD : va_D A [(h0, .inr (0, [.ref q0, .int 1, .int 0])), (q0, .inl (cA0, D0, .inl (upd f_11 (1 : Int32).toNatClampNeg v_18)))] := hD
          generalize upd f_11 (1 : Int32).toNatClampNeg v_18 = f_19 at hP hD
          refine lv_lload_n hx hb d_Big_put_64 rfl (lv_at hl 0 rfl) ?_
          refine lv_bipush (v := 30) hx hb d_Big_put_65 (by decide) ?_
          obtain ⟨v_20, ev_20⟩ : ∃ z : Int64, ((v_12 : Int64).toUInt64 >>> ((30 : Int32).toInt64.toUInt64 &&& Int64.toUInt64 63)).toInt64 = z := ⟨_, rfl⟩
          refine lv_lushr (v := v_20) hx hb d_Big_put_67 ev_20 ?_
          refine lv_lstore_n (lv' := [(3, .long v_20), (0, .ref h0), (1, .long v0)]) hx hb d_Big_put_68 rfl hl (by decide) rfl (fun ls hl => ?_)
          refine lv_aload_n hx hb d_Big_put_69 rfl (lv_at hl 1 rfl) ?_
          refine lv_dup hx hb d_Big_put_70 rfl ?_
          refine va_get (D := (dC, dI)) (ci := 0) (v := .int 1) (C := R_Big) (T := F_Big) (N := 3) hx hb hT i_Big hown hK hP 0 rfl rfl 1 (by decide) (hT _ tw_47) (fun _ h9 => h9) rfl d_Big_put_71 ?_
          refine lv_iconst (v := 1) hx hb d_Big_put_74 (by decide) ?_
          refine lv_iadd hx hb d_Big_put_75 ?_
          refine lv_topi (fun v_21 ev_21 => ?_)
          obtain rfl : v_21 = 2 := ev_21.trans (by decide)
          refine va_put (D := (dC, dI)) (ci := 0) (v := .int 2) (ty := .int) (C := R_Big) (T := F_Big) (N := 3) hx hb hT i_Big t_Big t_Big_ok n_Big hown hK hP hD hS 0 rfl rfl 1 (by decide) (hT _ tw_47) (fun _ h9 => h9) rfl (by decide +kernel) rfl rfl (Nat.le_of_ble_eq_true rfl) d_Big_put_76 (fun H locs hP hD hS => ?_)
          have hP : va_P (dC, dI) classes [(h0, .inr (0, [.ref q0, .int 2, .int 0])), (q0, .inl (cA0, D0, .inl f_19))] H := hP
          have hD : va_D A [(h0, .inr (0, [.ref q0, .int 2, .int 0])), (q0, .inl (cA0, D0, .inl f_19))] := hD
          refine lv_goto (tgt := 35) hx hb d_Big_put_79 (by decide) ?_
          refine lv_lload_n hx hb d_Big_put_35 rfl (lv_at hl 0 rfl) ?_
          refine lv_lconst (v := 0) hx hb d_Big_put_36 (by decide) ?_
          refine W.lcmp hx hb d_Big_put_37 ?_
          refine lv_topi (fun v_22 ev_22 => ?_)
          refine lv_if_eq (tgt := 82) hx hb d_Big_put_38 (by decide) (fun c_23 => ?_) (fun c_23 => ?_)
          · have hP : va_P (dC, dI) classes [(h0, .inr (0, [.ref q0, .int (nI 2), .int 0])), (q0, .inl (cA0, D0, .inl f_19))] _ := hP
            have hD : va_D A [(h0, .inr (0, [.ref q0, .int (nI 2), .int 0])), (q0, .inl (cA0, D0, .inl f_19))] := hD
            have hP9 := hP.sub (ws' := [(h0, .inr (0, [.ref q0, .int (nI 2), .int 0])), (q0, .inl (cA0, D0, .inl f_19))]) [0, 1] rfl
            have hD9 := hD.sub (ws' := [(h0, .inr (0, [.ref q0, .int (nI 2), .int 0])), (q0, .inl (cA0, D0, .inl f_19))]) [0, 1] (by decide) rfl
            have hK9 := hK.sub (tys' := [(cA0, .int)]) [0] rfl
            exact W.vret hx hb hr (fun t ht hW => ⟨⟨(), rfl, trivial, f_19, 2, 0, by omega, by rw [ht]; exact hP9, va_K.moved hW.alike hK9, hD9⟩, hS.F ht⟩) hS.2.2 d_Big_put_82
          · refine lv_aload_n hx hb d_Big_put_41 rfl (lv_at hl 1 rfl) ?_
            refine va_get (D := (dC, dI)) (ci := 0) (v := .int 2) (C := R_Big) (T := F_Big) (N := 3) hx hb hT i_Big hown hK hP 0 rfl rfl 1 (by decide) (hT _ tw_47) (fun _ h9 => h9) rfl d_Big_put_42 ?_
            refine lv_iconst (v := 3) hx hb d_Big_put_45 (by decide) ?_
            refine lv_icmp_ge (tgt := 82) hx hb d_Big_put_46 (by decide) (fun c_24 => absurd c_24 (by decide)) (fun c_24 => ?_)
            refine lv_aload_n hx hb d_Big_put_49 rfl (lv_at hl 1 rfl) ?_
            refine va_get (D := (dC, dI)) (ci := 0) (v := .ref q0) (C := R_Big) (T := F_Big) (N := 3) hx hb hT i_Big hown hK hP 0 rfl rfl 0 (by decide) (hT _ tw_44) (fun _ h9 => h9) rfl d_Big_put_50 ?_
            refine lv_aload_n hx hb d_Big_put_53 rfl (lv_at hl 1 rfl) ?_
            refine va_get (D := (dC, dI)) (ci := 0) (v := .int 2) (C := R_Big) (T := F_Big) (N := 3) hx hb hT i_Big hown hK hP 0 rfl rfl 1 (by decide) (hT _ tw_47) (fun _ h9 => h9) rfl d_Big_put_54 ?_
            refine lv_lload_n hx hb d_Big_put_57 rfl (lv_at hl 0 rfl) ?_
            refine lv_ldc2 (v := 1073741823) hx hb hown (hT _ tw_77) d_Big_put_58 ?_
            refine lv_land hx hb d_Big_put_61 ?_
            refine lv_topl (fun v_25 ev_25 => ?_)
            obtain ⟨v_26, ev_26⟩ : ∃ z : Int32, (v_25 : Int64).toInt32 = z := ⟨_, rfl⟩
            refine lv_l2i (v := v_26) hx hb d_Big_put_62 ev_26 ?_
            refine va_iast hx hb hK hP hD hS 1 0 rfl rfl (vp_in_nI (n := 2) (by omega) (by omega)) d_Big_put_63 (fun H locs hP hD hS => ?_)
            have hP : va_P (dC, dI) classes [(h0, .inr (0, [.ref q0, .int 2, .int 0])), (q0, .inl (cA0, D0, .inl (upd f_19 (2 : Int32).toNatClampNeg v_26)))] H := hP
            have hD : va_D A [(h0, .inr (0, [.ref q0, .int 2, .int 0])), (q0, .inl (cA0, D0, .inl (upd f_19 (2 : Int32).toNatClampNeg v_26)))] := hD
            generalize upd f_19 (2 : Int32).toNatClampNeg v_26 = f_27 at hP hD
            refine lv_lload_n hx hb d_Big_put_64 rfl (lv_at hl 0 rfl) ?_
            refine lv_bipush (v := 30) hx hb d_Big_put_65 (by decide) ?_
            obtain ⟨v_28, ev_28⟩ : ∃ z : Int64, ((v_20 : Int64).toUInt64 >>> ((30 : Int32).toInt64.toUInt64 &&& Int64.toUInt64 63)).toInt64 = z := ⟨_, rfl⟩
            refine lv_lushr (v := v_28) hx hb d_Big_put_67 ev_28 ?_
            refine lv_lstore_n (lv' := [(3, .long v_28), (0, .ref h0), (1, .long v0)]) hx hb d_Big_put_68 rfl hl (by decide) rfl (fun ls hl => ?_)
            refine lv_aload_n hx hb d_Big_put_69 rfl (lv_at hl 1 rfl) ?_
            refine lv_dup hx hb d_Big_put_70 rfl ?_
            refine va_get (D := (dC, dI)) (ci := 0) (v := .int 2) (C := R_Big) (T := F_Big) (N := 3) hx hb hT i_Big hown hK hP 0 rfl rfl 1 (by decide) (hT _ tw_47) (fun _ h9 => h9) rfl d_Big_put_71 ?_
            refine lv_iconst (v := 1) hx hb d_Big_put_74 (by decide) ?_
            refine lv_iadd hx hb d_Big_put_75 ?_
            refine lv_topi (fun v_29 ev_29 => ?_)
            obtain rfl : v_29 = 3 := ev_29.trans (by decide)
            refine va_put (D := (dC, dI)) (ci := 0) (v := .int 3) (ty := .int) (C := R_Big) (T := F_Big) (N := 3) hx hb hT i_Big t_Big t_Big_ok n_Big hown hK hP hD hS 0 rfl rfl 1 (by decide) (hT _ tw_47) (fun _ h9 => h9) rfl (by decide +kernel) rfl rfl (Nat.le_of_ble_eq_true rfl) d_Big_put_76 (fun H locs hP hD hS => ?_)
            have hP : va_P (dC, dI) classes [(h0, .inr (0, [.ref q0, .int 3, .int 0])), (q0, .inl (cA0, D0, .inl f_27))] H := hP
            have hD : va_D A [(h0, .inr (0, [.ref q0, .int 3, .int 0])), (q0, .inl (cA0, D0, .inl f_27))] := hD
            refine lv_goto (tgt := 35) hx hb d_Big_put_79 (by decide) ?_
            refine lv_lload_n hx hb d_Big_put_35 rfl (lv_at hl 0 rfl) ?_
            refine lv_lconst (v := 0) hx hb d_Big_put_36 (by decide) ?_
            refine W.lcmp hx hb d_Big_put_37 ?_
            refine lv_topi (fun v_30 ev_30 => ?_)
            refine lv_if_eq (tgt := 82) hx hb d_Big_put_38 (by decide) (fun c_31 => ?_) (fun c_31 => ?_)
            · have hP : va_P (dC, dI) classes [(h0, .inr (0, [.ref q0, .int (nI 3), .int 0])), (q0, .inl (cA0, D0, .inl f_27))] _ := hP
              have hD : va_D A [(h0, .inr (0, [.ref q0, .int (nI 3), .int 0])), (q0, .inl (cA0, D0, .inl f_27))] := hD
              have hP9 := hP.sub (ws' := [(h0, .inr (0, [.ref q0, .int (nI 3), .int 0])), (q0, .inl (cA0, D0, .inl f_27))]) [0, 1] rfl
              have hD9 := hD.sub (ws' := [(h0, .inr (0, [.ref q0, .int (nI 3), .int 0])), (q0, .inl (cA0, D0, .inl f_27))]) [0, 1] (by decide) rfl
              have hK9 := hK.sub (tys' := [(cA0, .int)]) [0] rfl
              exact W.vret hx hb hr (fun t ht hW => ⟨⟨(), rfl, trivial, f_27, 3, 0, by omega, by rw [ht]; exact hP9, va_K.moved hW.alike hK9, hD9⟩, hS.F ht⟩) hS.2.2 d_Big_put_82
            · refine lv_aload_n hx hb d_Big_put_41 rfl (lv_at hl 1 rfl) ?_
              refine va_get (D := (dC, dI)) (ci := 0) (v := .int 3) (C := R_Big) (T := F_Big) (N := 3) hx hb hT i_Big hown hK hP 0 rfl rfl 1 (by decide) (hT _ tw_47) (fun _ h9 => h9) rfl d_Big_put_42 ?_
              refine lv_iconst (v := 3) hx hb d_Big_put_45 (by decide) ?_
              refine lv_icmp_ge (tgt := 82) hx hb d_Big_put_46 (by decide) (fun c_32 => ?_) (fun c_32 => absurd (by decide) c_32)
              have hP : va_P (dC, dI) classes [(h0, .inr (0, [.ref q0, .int (nI 3), .int 0])), (q0, .inl (cA0, D0, .inl f_27))] _ := hP
              have hD : va_D A [(h0, .inr (0, [.ref q0, .int (nI 3), .int 0])), (q0, .inl (cA0, D0, .inl f_27))] := hD
              have hP9 := hP.sub (ws' := [(h0, .inr (0, [.ref q0, .int (nI 3), .int 0])), (q0, .inl (cA0, D0, .inl f_27))]) [0, 1] rfl
              have hD9 := hD.sub (ws' := [(h0, .inr (0, [.ref q0, .int (nI 3), .int 0])), (q0, .inl (cA0, D0, .inl f_27))]) [0, 1] (by decide) rfl
              have hK9 := hK.sub (tys' := [(cA0, .int)]) [0] rfl
              exact W.vret hx hb hr (fun t ht hW => ⟨⟨(), rfl, trivial, f_27, 3, 0, by omega, by rw [ht]; exact hP9, va_K.moved hW.alike hK9, hD9⟩, hS.F ht⟩) hS.2.2 d_Big_put_82
    · refine lv_iconst (v := (-1)) hx hb d_Big_put_17 (by decide) ?_
      refine lv_goto (tgt := 22) hx hb d_Big_put_18 (by decide) ?_
      refine va_put (D := (dC, dI)) (ci := 0) (v := .int (-1)) (ty := .int) (C := R_Big) (T := F_Big) (N := 3) hx hb hT i_Big t_Big t_Big_ok n_Big hown hK hP hD hS 0 rfl rfl 2 (by decide) (hT _ tw_51) (fun _ h9 => h9) rfl (by decide +kernel) rfl rfl (Nat.le_of_ble_eq_true rfl) d_Big_put_22 (fun H locs hP hD hS => ?_)
      have hP : va_P (dC, dI) classes [(h0, .inr (0, [.ref q0, .int n0, .int (-1)])), (q0, .inl (cA0, D0, .inl f0))] H := hP
      have hD : va_D A [(h0, .inr (0, [.ref q0, .int n0, .int (-1)])), (q0, .inl (cA0, D0, .inl f0))] := hD
      refine lv_lload_n hx hb d_Big_put_25 rfl (lv_at hl 1 rfl) ?_
      refine va_mabs_long hx hb (hml.trans hl.1.symm) hown (hT _ tw_74) (hT _ tw_75) (hT _ tw_4) (hT _ tw_76) (Nat.le_of_ble_eq_true rfl) (Nat.le_of_ble_eq_true rfl) (Nat.le_of_ble_eq_true rfl) (Nat.le_of_ble_eq_true rfl) d_Big_put_26 ?_
      refine lv_topl (fun v_33 ev_33 => ?_)
      refine lv_lstore_n (lv' := [(3, .long v_33), (0, .ref h0), (1, .long v0)]) hx hb d_Big_put_29 rfl hl (by decide) rfl (fun ls hl => ?_)
      refine lv_aload_n hx hb d_Big_put_30 rfl (lv_at hl 1 rfl) ?_
      refine lv_iconst (v := 0) hx hb d_Big_put_31 (by decide) ?_
      refine va_put (D := (dC, dI)) (ci := 0) (v := .int 0) (ty := .int) (C := R_Big) (T := F_Big) (N := 3) hx hb hT i_Big t_Big t_Big_ok n_Big hown hK hP hD hS 0 rfl rfl 1 (by decide) (hT _ tw_47) (fun _ h9 => h9) rfl (by decide +kernel) rfl rfl (Nat.le_of_ble_eq_true rfl) d_Big_put_32 (fun H locs hP hD hS => ?_)
      have hP : va_P (dC, dI) classes [(h0, .inr (0, [.ref q0, .int 0, .int (-1)])), (q0, .inl (cA0, D0, .inl f0))] H := hP
      have hD : va_D A [(h0, .inr (0, [.ref q0, .int 0, .int (-1)])), (q0, .inl (cA0, D0, .inl f0))] := hD
      refine lv_lload_n hx hb d_Big_put_35 rfl (lv_at hl 0 rfl) ?_
      refine lv_lconst (v := 0) hx hb d_Big_put_36 (by decide) ?_
      refine W.lcmp hx hb d_Big_put_37 ?_
      refine lv_topi (fun v_34 ev_34 => ?_)
      refine lv_if_eq (tgt := 82) hx hb d_Big_put_38 (by decide) (fun c_35 => ?_) (fun c_35 => ?_)
      · have hP : va_P (dC, dI) classes [(h0, .inr (0, [.ref q0, .int (nI 0), .int (-1)])), (q0, .inl (cA0, D0, .inl f0))] _ := hP
        have hD : va_D A [(h0, .inr (0, [.ref q0, .int (nI 0), .int (-1)])), (q0, .inl (cA0, D0, .inl f0))] := hD
        have hP9 := hP.sub (ws' := [(h0, .inr (0, [.ref q0, .int (nI 0), .int (-1)])), (q0, .inl (cA0, D0, .inl f0))]) [0, 1] rfl
        have hD9 := hD.sub (ws' := [(h0, .inr (0, [.ref q0, .int (nI 0), .int (-1)])), (q0, .inl (cA0, D0, .inl f0))]) [0, 1] (by decide) rfl
        have hK9 := hK.sub (tys' := [(cA0, .int)]) [0] rfl
        exact W.vret hx hb hr (fun t ht hW => ⟨⟨(), rfl, trivial, f0, 0, (-1), by omega, by rw [ht]; exact hP9, va_K.moved hW.alike hK9, hD9⟩, hS.F ht⟩) hS.2.2 d_Big_put_82
      · refine lv_aload_n hx hb d_Big_put_41 rfl (lv_at hl 1 rfl) ?_
        refine va_get (D := (dC, dI)) (ci := 0) (v := .int 0) (C := R_Big) (T := F_Big) (N := 3) hx hb hT i_Big hown hK hP 0 rfl rfl 1 (by decide) (hT _ tw_47) (fun _ h9 => h9) rfl d_Big_put_42 ?_
        refine lv_iconst (v := 3) hx hb d_Big_put_45 (by decide) ?_
        refine lv_icmp_ge (tgt := 82) hx hb d_Big_put_46 (by decide) (fun c_36 => absurd c_36 (by decide)) (fun c_36 => ?_)
        refine lv_aload_n hx hb d_Big_put_49 rfl (lv_at hl 1 rfl) ?_
        refine va_get (D := (dC, dI)) (ci := 0) (v := .ref q0) (C := R_Big) (T := F_Big) (N := 3) hx hb hT i_Big hown hK hP 0 rfl rfl 0 (by decide) (hT _ tw_44) (fun _ h9 => h9) rfl d_Big_put_50 ?_
        refine lv_aload_n hx hb d_Big_put_53 rfl (lv_at hl 1 rfl) ?_
        refine va_get (D := (dC, dI)) (ci := 0) (v := .int 0) (C := R_Big) (T := F_Big) (N := 3) hx hb hT i_Big hown hK hP 0 rfl rfl 1 (by decide) (hT _ tw_47) (fun _ h9 => h9) rfl d_Big_put_54 ?_
        refine lv_lload_n hx hb d_Big_put_57 rfl (lv_at hl 0 rfl) ?_
        refine lv_ldc2 (v := 1073741823) hx hb hown (hT _ tw_77) d_Big_put_58 ?_
        refine lv_land hx hb d_Big_put_61 ?_
        refine lv_topl (fun v_37 ev_37 => ?_)
        obtain ⟨v_38, ev_38⟩ : ∃ z : Int32, (v_37 : Int64).toInt32 = z := ⟨_, rfl⟩
        refine lv_l2i (v := v_38) hx hb d_Big_put_62 ev_38 ?_
        refine va_iast hx hb hK hP hD hS 1 0 rfl rfl (vp_in_nI (n := 0) (by omega) (by omega)) d_Big_put_63 (fun H locs hP hD hS => ?_)
        have hP : va_P (dC, dI) classes [(h0, .inr (0, [.ref q0, .int 0, .int (-1)])), (q0, .inl (cA0, D0, .inl (upd f0 (0 : Int32).toNatClampNeg v_38)))] H := hP
        have hD : va_D A [(h0, .inr (0, [.ref q0, .int 0, .int (-1)])), (q0, .inl (cA0, D0, .inl (upd f0 (0 : Int32).toNatClampNeg v_38)))] := hD
        generalize upd f0 (0 : Int32).toNatClampNeg v_38 = f_39 at hP hD
        refine lv_lload_n hx hb d_Big_put_64 rfl (lv_at hl 0 rfl) ?_
        refine lv_bipush (v := 30) hx hb d_Big_put_65 (by decide) ?_
        obtain ⟨v_40, ev_40⟩ : ∃ z : Int64, ((v_33 : Int64).toUInt64 >>> ((30 : Int32).toInt64.toUInt64 &&& Int64.toUInt64 63)).toInt64 = z := ⟨_, rfl⟩
        refine lv_lushr (v := v_40) hx hb d_Big_put_67 ev_40 ?_
        refine lv_lstore_n (lv' := [(3, .long v_40), (0, .ref h0), (1, .long v0)]) hx hb d_Big_put_68 rfl hl (by decide) rfl (fun ls hl => ?_)
        refine lv_aload_n hx hb d_Big_put_69 rfl (lv_at hl 1 rfl) ?_
        refine lv_dup hx hb d_Big_put_70 rfl ?_
        refine va_get (D := (dC, dI)) (ci := 0) (v := .int 0) (C := R_Big) (T := F_Big) (N := 3) hx hb hT i_Big hown hK hP 0 rfl rfl 1 (by decide) (hT _ tw_47) (fun _ h9 => h9) rfl d_Big_put_71 ?_
        refine lv_iconst (v := 1) hx hb d_Big_put_74 (by decide) ?_
        refine lv_iadd hx hb d_Big_put_75 ?_
        refine lv_topi (fun v_41 ev_41 => ?_)
        obtain rfl : v_41 = 1 := ev_41.trans (by decide)
        refine va_put (D := (dC, dI)) (ci := 0) (v := .int 1) (ty := .int) (C := R_Big) (T := F_Big) (N := 3) hx hb hT i_Big t_Big t_Big_ok n_Big hown hK hP hD hS 0 rfl rfl 1 (by decide) (hT _ tw_47) (fun _ h9 => h9) rfl (by decide +kernel) rfl rfl (Nat.le_of_ble_eq_true rfl) d_Big_put_76 (fun H locs hP hD hS => ?_)
        have hP : va_P (dC, dI) classes [(h0, .inr (0, [.ref q0, .int 1, .int (-1)])), (q0, .inl (cA0, D0, .inl f_39))] H := hP
        have hD : va_D A [(h0, .inr (0, [.ref q0, .int 1, .int (-1)])), (q0, .inl (cA0, D0, .inl f_39))] := hD
        refine lv_goto (tgt := 35) hx hb d_Big_put_79 (by decide) ?_
        refine lv_lload_n hx hb d_Big_put_35 rfl (lv_at hl 0 rfl) ?_
        refine lv_lconst (v := 0) hx hb d_Big_put_36 (by decide) ?_
        refine W.lcmp hx hb d_Big_put_37 ?_
        refine lv_topi (fun v_42 ev_42 => ?_)
        refine lv_if_eq (tgt := 82) hx hb d_Big_put_38 (by decide) (fun c_43 => ?_) (fun c_43 => ?_)
        · have hP : va_P (dC, dI) classes [(h0, .inr (0, [.ref q0, .int (nI 1), .int (-1)])), (q0, .inl (cA0, D0, .inl f_39))] _ := hP
          have hD : va_D A [(h0, .inr (0, [.ref q0, .int (nI 1), .int (-1)])), (q0, .inl (cA0, D0, .inl f_39))] := hD
          have hP9 := hP.sub (ws' := [(h0, .inr (0, [.ref q0, .int (nI 1), .int (-1)])), (q0, .inl (cA0, D0, .inl f_39))]) [0, 1] rfl
          have hD9 := hD.sub (ws' := [(h0, .inr (0, [.ref q0, .int (nI 1), .int (-1)])), (q0, .inl (cA0, D0, .inl f_39))]) [0, 1] (by decide) rfl
          have hK9 := hK.sub (tys' := [(cA0, .int)]) [0] rfl
          exact W.vret hx hb hr (fun t ht hW => ⟨⟨(), rfl, trivial, f_39, 1, (-1), by omega, by rw [ht]; exact hP9, va_K.moved hW.alike hK9, hD9⟩, hS.F ht⟩) hS.2.2 d_Big_put_82
        · refine lv_aload_n hx hb d_Big_put_41 rfl (lv_at hl 1 rfl) ?_
          refine va_get (D := (dC, dI)) (ci := 0) (v := .int 1) (C := R_Big) (T := F_Big) (N := 3) hx hb hT i_Big hown hK hP 0 rfl rfl 1 (by decide) (hT _ tw_47) (fun _ h9 => h9) rfl d_Big_put_42 ?_
          refine lv_iconst (v := 3) hx hb d_Big_put_45 (by decide) ?_
          refine lv_icmp_ge (tgt := 82) hx hb d_Big_put_46 (by decide) (fun c_44 => absurd c_44 (by decide)) (fun c_44 => ?_)
          refine lv_aload_n hx hb d_Big_put_49 rfl (lv_at hl 1 rfl) ?_
          refine va_get (D := (dC, dI)) (ci := 0) (v := .ref q0) (C := R_Big) (T := F_Big) (N := 3) hx hb hT i_Big hown hK hP 0 rfl rfl 0 (by decide) (hT _ tw_44) (fun _ h9 => h9) rfl d_Big_put_50 ?_
          refine lv_aload_n hx hb d_Big_put_53 rfl (lv_at hl 1 rfl) ?_
          refine va_get (D := (dC, dI)) (ci := 0) (v := .int 1) (C := R_Big) (T := F_Big) (N := 3) hx hb hT i_Big hown hK hP 0 rfl rfl 1 (by decide) (hT _ tw_47) (fun _ h9 => h9) rfl d_Big_put_54 ?_
          refine lv_lload_n hx hb d_Big_put_57 rfl (lv_at hl 0 rfl) ?_
          refine lv_ldc2 (v := 1073741823) hx hb hown (hT _ tw_77) d_Big_put_58 ?_
          refine lv_land hx hb d_Big_put_61 ?_
          refine lv_topl (fun v_45 ev_45 => ?_)
          obtain ⟨v_46, ev_46⟩ : ∃ z : Int32, (v_45 : Int64).toInt32 = z := ⟨_, rfl⟩
          refine lv_l2i (v := v_46) hx hb d_Big_put_62 ev_46 ?_
          refine va_iast hx hb hK hP hD hS 1 0 rfl rfl (vp_in_nI (n := 1) (by omega) (by omega)) d_Big_put_63 (fun H locs hP hD hS => ?_)
          have hP : va_P (dC, dI) classes [(h0, .inr (0, [.ref q0, .int 1, .int (-1)])), (q0, .inl (cA0, D0, .inl (upd f_39 (1 : Int32).toNatClampNeg v_46)))] H := hP
          have hD : va_D A [(h0, .inr (0, [.ref q0, .int 1, .int (-1)])), (q0, .inl (cA0, D0, .inl (upd f_39 (1 : Int32).toNatClampNeg v_46)))] := hD
          generalize upd f_39 (1 : Int32).toNatClampNeg v_46 = f_47 at hP hD
          refine lv_lload_n hx hb d_Big_put_64 rfl (lv_at hl 0 rfl) ?_
          refine lv_bipush (v := 30) hx hb d_Big_put_65 (by decide) ?_
          obtain ⟨v_48, ev_48⟩ : ∃ z : Int64, ((v_40 : Int64).toUInt64 >>> ((30 : Int32).toInt64.toUInt64 &&& Int64.toUInt64 63)).toInt64 = z := ⟨_, rfl⟩
          refine lv_lushr (v := v_48) hx hb d_Big_put_67 ev_48 ?_
          refine lv_lstore_n (lv' := [(3, .long v_48), (0, .ref h0), (1, .long v0)]) hx hb d_Big_put_68 rfl hl (by decide) rfl (fun ls hl => ?_)
          refine lv_aload_n hx hb d_Big_put_69 rfl (lv_at hl 1 rfl) ?_
          refine lv_dup hx hb d_Big_put_70 rfl ?_
          refine va_get (D := (dC, dI)) (ci := 0) (v := .int 1) (C := R_Big) (T := F_Big) (N := 3) hx hb hT i_Big hown hK hP 0 rfl rfl 1 (by decide) (hT _ tw_47) (fun _ h9 => h9) rfl d_Big_put_71 ?_
          refine lv_iconst (v := 1) hx hb d_Big_put_74 (by decide) ?_
          refine lv_iadd hx hb d_Big_put_75 ?_
          refine lv_topi (fun v_49 ev_49 => ?_)
          obtain rfl : v_49 = 2 := ev_49.trans (by decide)
          refine va_put (D := (dC, dI)) (ci := 0) (v := .int 2) (ty := .int) (C := R_Big) (T := F_Big) (N := 3) hx hb hT i_Big t_Big t_Big_ok n_Big hown hK hP hD hS 0 rfl rfl 1 (by decide) (hT _ tw_47) (fun _ h9 => h9) rfl (by decide +kernel) rfl rfl (Nat.le_of_ble_eq_true rfl) d_Big_put_76 (fun H locs hP hD hS => ?_)
          have hP : va_P (dC, dI) classes [(h0, .inr (0, [.ref q0, .int 2, .int (-1)])), (q0, .inl (cA0, D0, .inl f_47))] H := hP
          have hD : va_D A [(h0, .inr (0, [.ref q0, .int 2, .int (-1)])), (q0, .inl (cA0, D0, .inl f_47))] := hD
          refine lv_goto (tgt := 35) hx hb d_Big_put_79 (by decide) ?_
          refine lv_lload_n hx hb d_Big_put_35 rfl (lv_at hl 0 rfl) ?_
          refine lv_lconst (v := 0) hx hb d_Big_put_36 (by decide) ?_
          refine W.lcmp hx hb d_Big_put_37 ?_
          refine lv_topi (fun v_50 ev_50 => ?_)
          refine lv_if_eq (tgt := 82) hx hb d_Big_put_38 (by decide) (fun c_51 => ?_) (fun c_51 => ?_)
          · have hP : va_P (dC, dI) classes [(h0, .inr (0, [.ref q0, .int (nI 2), .int (-1)])), (q0, .inl (cA0, D0, .inl f_47))] _ := hP
            have hD : va_D A [(h0, .inr (0, [.ref q0, .int (nI 2), .int (-1)])), (q0, .inl (cA0, D0, .inl f_47))] := hD
            have hP9 := hP.sub (ws' := [(h0, .inr (0, [.ref q0, .int (nI 2), .int (-1)])), (q0, .inl (cA0, D0, .inl f_47))]) [0, 1] rfl
            have hD9 := hD.sub (ws' := [(h0, .inr (0, [.ref q0, .int (nI 2), .int (-1)])), (q0, .inl (cA0, D0, .inl f_47))]) [0, 1] (by decide) rfl
            have hK9 := hK.sub (tys' := [(cA0, .int)]) [0] rfl
            exact W.vret hx hb hr (fun t ht hW => ⟨⟨(), rfl, trivial, f_47, 2, (-1), by omega, by rw [ht]; exact hP9, va_K.moved hW.alike hK9, hD9⟩, hS.F ht⟩) hS.2.2 d_Big_put_82
          · refine lv_aload_n hx hb d_Big_put_41 rfl (lv_at hl 1 rfl) ?_
            refine va_get (D := (dC, dI)) (ci := 0) (v := .int 2) (C := R_Big) (T := F_Big) (N := 3) hx hb hT i_Big hown hK hP 0 rfl rfl 1 (by decide) (hT _ tw_47) (fun _ h9 => h9) rfl d_Big_put_42 ?_
            refine lv_iconst (v := 3) hx hb d_Big_put_45 (by decide) ?_
            refine lv_icmp_ge (tgt := 82) hx hb d_Big_put_46 (by decide) (fun c_52 => absurd c_52 (by decide)) (fun c_52 => ?_)
            refine lv_aload_n hx hb d_Big_put_49 rfl (lv_at hl 1 rfl) ?_
            refine va_get (D := (dC, dI)) (ci := 0) (v := .ref q0) (C := R_Big) (T := F_Big) (N := 3) hx hb hT i_Big hown hK hP 0 rfl rfl 0 (by decide) (hT _ tw_44) (fun _ h9 => h9) rfl d_Big_put_50 ?_
            refine lv_aload_n hx hb d_Big_put_53 rfl (lv_at hl 1 rfl) ?_
            refine va_get (D := (dC, dI)) (ci := 0) (v := .int 2) (C := R_Big) (T := F_Big) (N := 3) hx hb hT i_Big hown hK hP 0 rfl rfl 1 (by decide) (hT _ tw_47) (fun _ h9 => h9) rfl d_Big_put_54 ?_
            refine lv_lload_n hx hb d_Big_put_57 rfl (lv_at hl 0 rfl) ?_
            refine lv_ldc2 (v := 1073741823) hx hb hown (hT _ tw_77) d_Big_put_58 ?_
            refine lv_land hx hb d_Big_put_61 ?_
            refine lv_topl (fun v_53 ev_53 => ?_)
            obtain ⟨v_54, ev_54⟩ : ∃ z : Int32, (v_53 : Int64).toInt32 = z := ⟨_, rfl⟩
            refine lv_l2i (v := v_54) hx hb d_Big_put_62 ev_54 ?_
            refine va_iast hx hb hK hP hD hS 1 0 rfl rfl (vp_in_nI (n := 2) (by omega) (by omega)) d_Big_put_63 (fun H locs hP hD hS => ?_)
            have hP : va_P (dC, dI) classes [(h0, .inr (0, [.ref q0, .int 2, .int (-1)])), (q0, .inl (cA0, D0, .inl (upd f_47 (2 : Int32).toNatClampNeg v_54)))] H := hP
            have hD : va_D A [(h0, .inr (0, [.ref q0, .int 2, .int (-1)])), (q0, .inl (cA0, D0, .inl (upd f_47 (2 : Int32).toNatClampNeg v_54)))] := hD
            generalize upd f_47 (2 : Int32).toNatClampNeg v_54 = f_55 at hP hD
            refine lv_lload_n hx hb d_Big_put_64 rfl (lv_at hl 0 rfl) ?_
            refine lv_bipush (v := 30) hx hb d_Big_put_65 (by decide) ?_
            obtain ⟨v_56, ev_56⟩ : ∃ z : Int64, ((v_48 : Int64).toUInt64 >>> ((30 : Int32).toInt64.toUInt64 &&& Int64.toUInt64 63)).toInt64 = z := ⟨_, rfl⟩
            refine lv_lushr (v := v_56) hx hb d_Big_put_67 ev_56 ?_
            refine lv_lstore_n (lv' := [(3, .long v_56), (0, .ref h0), (1, .long v0)]) hx hb d_Big_put_68 rfl hl (by decide) rfl (fun ls hl => ?_)
            refine lv_aload_n hx hb d_Big_put_69 rfl (lv_at hl 1 rfl) ?_
            refine lv_dup hx hb d_Big_put_70 rfl ?_
            refine va_get (D := (dC, dI)) (ci := 0) (v := .int 2) (C := R_Big) (T := F_Big) (N := 3) hx hb hT i_Big hown hK hP 0 rfl rfl 1 (by decide) (hT _ tw_47) (fun _ h9 => h9) rfl d_Big_put_71 ?_
            refine lv_iconst (v := 1) hx hb d_Big_put_74 (by decide) ?_
            refine lv_iadd hx hb d_Big_put_75 ?_
            refine lv_topi (fun v_57 ev_57 => ?_)
            obtain rfl : v_57 = 3 := ev_57.trans (by decide)
            refine va_put (D := (dC, dI)) (ci := 0) (v := .int 3) (ty := .int) (C := R_Big) (T := F_Big) (N := 3) hx hb hT i_Big t_Big t_Big_ok n_Big hown hK hP hD hS 0 rfl rfl 1 (by decide) (hT _ tw_47) (fun _ h9 => h9) rfl (by decide +kernel) rfl rfl (Nat.le_of_ble_eq_true rfl) d_Big_put_76 (fun H locs hP hD hS => ?_)
            have hP : va_P (dC, dI) classes [(h0, .inr (0, [.ref q0, .int 3, .int (-1)])), (q0, .inl (cA0, D0, .inl f_55))] H := hP
            have hD : va_D A [(h0, .inr (0, [.ref q0, .int 3, .int (-1)])), (q0, .inl (cA0, D0, .inl f_55))] := hD
            refine lv_goto (tgt := 35) hx hb d_Big_put_79 (by decide) ?_
            refine lv_lload_n hx hb d_Big_put_35 rfl (lv_at hl 0 rfl) ?_
            refine lv_lconst (v := 0) hx hb d_Big_put_36 (by decide) ?_
            refine W.lcmp hx hb d_Big_put_37 ?_
            refine lv_topi (fun v_58 ev_58 => ?_)
            refine lv_if_eq (tgt := 82) hx hb d_Big_put_38 (by decide) (fun c_59 => ?_) (fun c_59 => ?_)
            · have hP : va_P (dC, dI) classes [(h0, .inr (0, [.ref q0, .int (nI 3), .int (-1)])), (q0, .inl (cA0, D0, .inl f_55))] _ := hP
              have hD : va_D A [(h0, .inr (0, [.ref q0, .int (nI 3), .int (-1)])), (q0, .inl (cA0, D0, .inl f_55))] := hD
              have hP9 := hP.sub (ws' := [(h0, .inr (0, [.ref q0, .int (nI 3), .int (-1)])), (q0, .inl (cA0, D0, .inl f_55))]) [0, 1] rfl
              have hD9 := hD.sub (ws' := [(h0, .inr (0, [.ref q0, .int (nI 3), .int (-1)])), (q0, .inl (cA0, D0, .inl f_55))]) [0, 1] (by decide) rfl
              have hK9 := hK.sub (tys' := [(cA0, .int)]) [0] rfl
              exact W.vret hx hb hr (fun t ht hW => ⟨⟨(), rfl, trivial, f_55, 3, (-1), by omega, by rw [ht]; exact hP9, va_K.moved hW.alike hK9, hD9⟩, hS.F ht⟩) hS.2.2 d_Big_put_82
            · refine lv_aload_n hx hb d_Big_put_41 rfl (lv_at hl 1 rfl) ?_
              refine va_get (D := (dC, dI)) (ci := 0) (v := .int 3) (C := R_Big) (T := F_Big) (N := 3) hx hb hT i_Big hown hK hP 0 rfl rfl 1 (by decide) (hT _ tw_47) (fun _ h9 => h9) rfl d_Big_put_42 ?_
              refine lv_iconst (v := 3) hx hb d_Big_put_45 (by decide) ?_
              refine lv_icmp_ge (tgt := 82) hx hb d_Big_put_46 (by decide) (fun c_60 => ?_) (fun c_60 => absurd (by decide) c_60)
              have hP : va_P (dC, dI) classes [(h0, .inr (0, [.ref q0, .int (nI 3), .int (-1)])), (q0, .inl (cA0, D0, .inl f_55))] _ := hP
              have hD : va_D A [(h0, .inr (0, [.ref q0, .int (nI 3), .int (-1)])), (q0, .inl (cA0, D0, .inl f_55))] := hD
              have hP9 := hP.sub (ws' := [(h0, .inr (0, [.ref q0, .int (nI 3), .int (-1)])), (q0, .inl (cA0, D0, .inl f_55))]) [0, 1] rfl
              have hD9 := hD.sub (ws' := [(h0, .inr (0, [.ref q0, .int (nI 3), .int (-1)])), (q0, .inl (cA0, D0, .inl f_55))]) [0, 1] (by decide) rfl
              have hK9 := hK.sub (tys' := [(cA0, .int)]) [0] rfl
              exact W.vret hx hb hr (fun t ht hW => ⟨⟨(), rfl, trivial, f_55, 3, (-1), by omega, by rw [ht]; exact hP9, va_K.moved hW.alike hK9, hD9⟩, hS.F ht⟩) hS.2.2 d_Big_put_82
  · refine lv_iconst (v := 1) hx hb d_Big_put_7 (by decide) ?_
    refine lv_goto (tgt := 22) hx hb d_Big_put_8 (by decide) ?_
    refine va_put (D := (dC, dI)) (ci := 0) (v := .int 1) (ty := .int) (C := R_Big) (T := F_Big) (N := 3) hx hb hT i_Big t_Big t_Big_ok n_Big hown hK hP hD hS 0 rfl rfl 2 (by decide) (hT _ tw_51) (fun _ h9 => h9) rfl (by decide +kernel) rfl rfl (Nat.le_of_ble_eq_true rfl) d_Big_put_22 (fun H locs hP hD hS => ?_)
    have hP : va_P (dC, dI) classes [(h0, .inr (0, [.ref q0, .int n0, .int 1])), (q0, .inl (cA0, D0, .inl f0))] H := hP
    have hD : va_D A [(h0, .inr (0, [.ref q0, .int n0, .int 1])), (q0, .inl (cA0, D0, .inl f0))] := hD
    refine lv_lload_n hx hb d_Big_put_25 rfl (lv_at hl 1 rfl) ?_
    refine va_mabs_long hx hb (hml.trans hl.1.symm) hown (hT _ tw_74) (hT _ tw_75) (hT _ tw_4) (hT _ tw_76) (Nat.le_of_ble_eq_true rfl) (Nat.le_of_ble_eq_true rfl) (Nat.le_of_ble_eq_true rfl) (Nat.le_of_ble_eq_true rfl) d_Big_put_26 ?_
    refine lv_topl (fun v_61 ev_61 => ?_)
    refine lv_lstore_n (lv' := [(3, .long v_61), (0, .ref h0), (1, .long v0)]) hx hb d_Big_put_29 rfl hl (by decide) rfl (fun ls hl => ?_)
    refine lv_aload_n hx hb d_Big_put_30 rfl (lv_at hl 1 rfl) ?_
    refine lv_iconst (v := 0) hx hb d_Big_put_31 (by decide) ?_
    refine va_put (D := (dC, dI)) (ci := 0) (v := .int 0) (ty := .int) (C := R_Big) (T := F_Big) (N := 3) hx hb hT i_Big t_Big t_Big_ok n_Big hown hK hP hD hS 0 rfl rfl 1 (by decide) (hT _ tw_47) (fun _ h9 => h9) rfl (by decide +kernel) rfl rfl (Nat.le_of_ble_eq_true rfl) d_Big_put_32 (fun H locs hP hD hS => ?_)
    have hP : va_P (dC, dI) classes [(h0, .inr (0, [.ref q0, .int 0, .int 1])), (q0, .inl (cA0, D0, .inl f0))] H := hP
    have hD : va_D A [(h0, .inr (0, [.ref q0, .int 0, .int 1])), (q0, .inl (cA0, D0, .inl f0))] := hD
    refine lv_lload_n hx hb d_Big_put_35 rfl (lv_at hl 0 rfl) ?_
    refine lv_lconst (v := 0) hx hb d_Big_put_36 (by decide) ?_
    refine W.lcmp hx hb d_Big_put_37 ?_
    refine lv_topi (fun v_62 ev_62 => ?_)
    refine lv_if_eq (tgt := 82) hx hb d_Big_put_38 (by decide) (fun c_63 => ?_) (fun c_63 => ?_)
    · have hP : va_P (dC, dI) classes [(h0, .inr (0, [.ref q0, .int (nI 0), .int 1])), (q0, .inl (cA0, D0, .inl f0))] _ := hP
      have hD : va_D A [(h0, .inr (0, [.ref q0, .int (nI 0), .int 1])), (q0, .inl (cA0, D0, .inl f0))] := hD
      have hP9 := hP.sub (ws' := [(h0, .inr (0, [.ref q0, .int (nI 0), .int 1])), (q0, .inl (cA0, D0, .inl f0))]) [0, 1] rfl
      have hD9 := hD.sub (ws' := [(h0, .inr (0, [.ref q0, .int (nI 0), .int 1])), (q0, .inl (cA0, D0, .inl f0))]) [0, 1] (by decide) rfl
      have hK9 := hK.sub (tys' := [(cA0, .int)]) [0] rfl
      exact W.vret hx hb hr (fun t ht hW => ⟨⟨(), rfl, trivial, f0, 0, 1, by omega, by rw [ht]; exact hP9, va_K.moved hW.alike hK9, hD9⟩, hS.F ht⟩) hS.2.2 d_Big_put_82
    · refine lv_aload_n hx hb d_Big_put_41 rfl (lv_at hl 1 rfl) ?_
      refine va_get (D := (dC, dI)) (ci := 0) (v := .int 0) (C := R_Big) (T := F_Big) (N := 3) hx hb hT i_Big hown hK hP 0 rfl rfl 1 (by decide) (hT _ tw_47) (fun _ h9 => h9) rfl d_Big_put_42 ?_
      refine lv_iconst (v := 3) hx hb d_Big_put_45 (by decide) ?_
      refine lv_icmp_ge (tgt := 82) hx hb d_Big_put_46 (by decide) (fun c_64 => absurd c_64 (by decide)) (fun c_64 => ?_)
      refine lv_aload_n hx hb d_Big_put_49 rfl (lv_at hl 1 rfl) ?_
      refine va_get (D := (dC, dI)) (ci := 0) (v := .ref q0) (C := R_Big) (T := F_Big) (N := 3) hx hb hT i_Big hown hK hP 0 rfl rfl 0 (by decide) (hT _ tw_44) (fun _ h9 => h9) rfl d_Big_put_50 ?_
      refine lv_aload_n hx hb d_Big_put_53 rfl (lv_at hl 1 rfl) ?_
      refine va_get (D := (dC, dI)) (ci := 0) (v := .int 0) (C := R_Big) (T := F_Big) (N := 3) hx hb hT i_Big hown hK hP 0 rfl rfl 1 (by decide) (hT _ tw_47) (fun _ h9 => h9) rfl d_Big_put_54 ?_
      refine lv_lload_n hx hb d_Big_put_57 rfl (lv_at hl 0 rfl) ?_
      refine lv_ldc2 (v := 1073741823) hx hb hown (hT _ tw_77) d_Big_put_58 ?_
      refine lv_land hx hb d_Big_put_61 ?_
      refine lv_topl (fun v_65 ev_65 => ?_)
      obtain ⟨v_66, ev_66⟩ : ∃ z : Int32, (v_65 : Int64).toInt32 = z := ⟨_, rfl⟩
      refine lv_l2i (v := v_66) hx hb d_Big_put_62 ev_66 ?_
      refine va_iast hx hb hK hP hD hS 1 0 rfl rfl (vp_in_nI (n := 0) (by omega) (by omega)) d_Big_put_63 (fun H locs hP hD hS => ?_)
      have hP : va_P (dC, dI) classes [(h0, .inr (0, [.ref q0, .int 0, .int 1])), (q0, .inl (cA0, D0, .inl (upd f0 (0 : Int32).toNatClampNeg v_66)))] H := hP
      have hD : va_D A [(h0, .inr (0, [.ref q0, .int 0, .int 1])), (q0, .inl (cA0, D0, .inl (upd f0 (0 : Int32).toNatClampNeg v_66)))] := hD
      generalize upd f0 (0 : Int32).toNatClampNeg v_66 = f_67 at hP hD
      refine lv_lload_n hx hb d_Big_put_64 rfl (lv_at hl 0 rfl) ?_
      refine lv_bipush (v := 30) hx hb d_Big_put_65 (by decide) ?_
      obtain ⟨v_68, ev_68⟩ : ∃ z : Int64, ((v_61 : Int64).toUInt64 >>> ((30 : Int32).toInt64.toUInt64 &&& Int64.toUInt64 63)).toInt64 = z := ⟨_, rfl⟩
      refine lv_lushr (v := v_68) hx hb d_Big_put_67 ev_68 ?_
      refine lv_lstore_n (lv' := [(3, .long v_68), (0, .ref h0), (1, .long v0)]) hx hb d_Big_put_68 rfl hl (by decide) rfl (fun ls hl => ?_)
      refine lv_aload_n hx hb d_Big_put_69 rfl (lv_at hl 1 rfl) ?_
      refine lv_dup hx hb d_Big_put_70 rfl ?_
      refine va_get (D := (dC, dI)) (ci := 0) (v := .int 0) (C := R_Big) (T := F_Big) (N := 3) hx hb hT i_Big hown hK hP 0 rfl rfl 1 (by decide) (hT _ tw_47) (fun _ h9 => h9) rfl d_Big_put_71 ?_
      refine lv_iconst (v := 1) hx hb d_Big_put_74 (by decide) ?_
      refine lv_iadd hx hb d_Big_put_75 ?_
      refine lv_topi (fun v_69 ev_69 => ?_)
      obtain rfl : v_69 = 1 := ev_69.trans (by decide)
      refine va_put (D := (dC, dI)) (ci := 0) (v := .int 1) (ty := .int) (C := R_Big) (T := F_Big) (N := 3) hx hb hT i_Big t_Big t_Big_ok n_Big hown hK hP hD hS 0 rfl rfl 1 (by decide) (hT _ tw_47) (fun _ h9 => h9) rfl (by decide +kernel) rfl rfl (Nat.le_of_ble_eq_true rfl) d_Big_put_76 (fun H locs hP hD hS => ?_)
      have hP : va_P (dC, dI) classes [(h0, .inr (0, [.ref q0, .int 1, .int 1])), (q0, .inl (cA0, D0, .inl f_67))] H := hP
      have hD : va_D A [(h0, .inr (0, [.ref q0, .int 1, .int 1])), (q0, .inl (cA0, D0, .inl f_67))] := hD
      refine lv_goto (tgt := 35) hx hb d_Big_put_79 (by decide) ?_
      refine lv_lload_n hx hb d_Big_put_35 rfl (lv_at hl 0 rfl) ?_
      refine lv_lconst (v := 0) hx hb d_Big_put_36 (by decide) ?_
      refine W.lcmp hx hb d_Big_put_37 ?_
      refine lv_topi (fun v_70 ev_70 => ?_)
      refine lv_if_eq (tgt := 82) hx hb d_Big_put_38 (by decide) (fun c_71 => ?_) (fun c_71 => ?_)
      · have hP : va_P (dC, dI) classes [(h0, .inr (0, [.ref q0, .int (nI 1), .int 1])), (q0, .inl (cA0, D0, .inl f_67))] _ := hP
        have hD : va_D A [(h0, .inr (0, [.ref q0, .int (nI 1), .int 1])), (q0, .inl (cA0, D0, .inl f_67))] := hD
        have hP9 := hP.sub (ws' := [(h0, .inr (0, [.ref q0, .int (nI 1), .int 1])), (q0, .inl (cA0, D0, .inl f_67))]) [0, 1] rfl
        have hD9 := hD.sub (ws' := [(h0, .inr (0, [.ref q0, .int (nI 1), .int 1])), (q0, .inl (cA0, D0, .inl f_67))]) [0, 1] (by decide) rfl
        have hK9 := hK.sub (tys' := [(cA0, .int)]) [0] rfl
        exact W.vret hx hb hr (fun t ht hW => ⟨⟨(), rfl, trivial, f_67, 1, 1, by omega, by rw [ht]; exact hP9, va_K.moved hW.alike hK9, hD9⟩, hS.F ht⟩) hS.2.2 d_Big_put_82
      · refine lv_aload_n hx hb d_Big_put_41 rfl (lv_at hl 1 rfl) ?_
        refine va_get (D := (dC, dI)) (ci := 0) (v := .int 1) (C := R_Big) (T := F_Big) (N := 3) hx hb hT i_Big hown hK hP 0 rfl rfl 1 (by decide) (hT _ tw_47) (fun _ h9 => h9) rfl d_Big_put_42 ?_
        refine lv_iconst (v := 3) hx hb d_Big_put_45 (by decide) ?_
        refine lv_icmp_ge (tgt := 82) hx hb d_Big_put_46 (by decide) (fun c_72 => absurd c_72 (by decide)) (fun c_72 => ?_)
        refine lv_aload_n hx hb d_Big_put_49 rfl (lv_at hl 1 rfl) ?_
        refine va_get (D := (dC, dI)) (ci := 0) (v := .ref q0) (C := R_Big) (T := F_Big) (N := 3) hx hb hT i_Big hown hK hP 0 rfl rfl 0 (by decide) (hT _ tw_44) (fun _ h9 => h9) rfl d_Big_put_50 ?_
        refine lv_aload_n hx hb d_Big_put_53 rfl (lv_at hl 1 rfl) ?_
        refine va_get (D := (dC, dI)) (ci := 0) (v := .int 1) (C := R_Big) (T := F_Big) (N := 3) hx hb hT i_Big hown hK hP 0 rfl rfl 1 (by decide) (hT _ tw_47) (fun _ h9 => h9) rfl d_Big_put_54 ?_
        refine lv_lload_n hx hb d_Big_put_57 rfl (lv_at hl 0 rfl) ?_
        refine lv_ldc2 (v := 1073741823) hx hb hown (hT _ tw_77) d_Big_put_58 ?_
        refine lv_land hx hb d_Big_put_61 ?_
        refine lv_topl (fun v_73 ev_73 => ?_)
        obtain ⟨v_74, ev_74⟩ : ∃ z : Int32, (v_73 : Int64).toInt32 = z := ⟨_, rfl⟩
        refine lv_l2i (v := v_74) hx hb d_Big_put_62 ev_74 ?_
        refine va_iast hx hb hK hP hD hS 1 0 rfl rfl (vp_in_nI (n := 1) (by omega) (by omega)) d_Big_put_63 (fun H locs hP hD hS => ?_)
        have hP : va_P (dC, dI) classes [(h0, .inr (0, [.ref q0, .int 1, .int 1])), (q0, .inl (cA0, D0, .inl (upd f_67 (1 : Int32).toNatClampNeg v_74)))] H := hP
        have hD : va_D A [(h0, .inr (0, [.ref q0, .int 1, .int 1])), (q0, .inl (cA0, D0, .inl (upd f_67 (1 : Int32).toNatClampNeg v_74)))] := hD
        generalize upd f_67 (1 : Int32).toNatClampNeg v_74 = f_75 at hP hD
        refine lv_lload_n hx hb d_Big_put_64 rfl (lv_at hl 0 rfl) ?_
        refine lv_bipush (v := 30) hx hb d_Big_put_65 (by decide) ?_
        obtain ⟨v_76, ev_76⟩ : ∃ z : Int64, ((v_68 : Int64).toUInt64 >>> ((30 : Int32).toInt64.toUInt64 &&& Int64.toUInt64 63)).toInt64 = z := ⟨_, rfl⟩
        refine lv_lushr (v := v_76) hx hb d_Big_put_67 ev_76 ?_
        refine lv_lstore_n (lv' := [(3, .long v_76), (0, .ref h0), (1, .long v0)]) hx hb d_Big_put_68 rfl hl (by decide) rfl (fun ls hl => ?_)
        refine lv_aload_n hx hb d_Big_put_69 rfl (lv_at hl 1 rfl) ?_
        refine lv_dup hx hb d_Big_put_70 rfl ?_
        refine va_get (D := (dC, dI)) (ci := 0) (v := .int 1) (C := R_Big) (T := F_Big) (N := 3) hx hb hT i_Big hown hK hP 0 rfl rfl 1 (by decide) (hT _ tw_47) (fun _ h9 => h9) rfl d_Big_put_71 ?_
        refine lv_iconst (v := 1) hx hb d_Big_put_74 (by decide) ?_
        refine lv_iadd hx hb d_Big_put_75 ?_
        refine lv_topi (fun v_77 ev_77 => ?_)
        obtain rfl : v_77 = 2 := ev_77.trans (by decide)
        refine va_put (D := (dC, dI)) (ci := 0) (v := .int 2) (ty := .int) (C := R_Big) (T := F_Big) (N := 3) hx hb hT i_Big t_Big t_Big_ok n_Big hown hK hP hD hS 0 rfl rfl 1 (by decide) (hT _ tw_47) (fun _ h9 => h9) rfl (by decide +kernel) rfl rfl (Nat.le_of_ble_eq_true rfl) d_Big_put_76 (fun H locs hP hD hS => ?_)
        have hP : va_P (dC, dI) classes [(h0, .inr (0, [.ref q0, .int 2, .int 1])), (q0, .inl (cA0, D0, .inl f_75))] H := hP
        have hD : va_D A [(h0, .inr (0, [.ref q0, .int 2, .int 1])), (q0, .inl (cA0, D0, .inl f_75))] := hD
        refine lv_goto (tgt := 35) hx hb d_Big_put_79 (by decide) ?_
        refine lv_lload_n hx hb d_Big_put_35 rfl (lv_at hl 0 rfl) ?_
        refine lv_lconst (v := 0) hx hb d_Big_put_36 (by decide) ?_
        refine W.lcmp hx hb d_Big_put_37 ?_
        refine lv_topi (fun v_78 ev_78 => ?_)
        refine lv_if_eq (tgt := 82) hx hb d_Big_put_38 (by decide) (fun c_79 => ?_) (fun c_79 => ?_)
        · have hP : va_P (dC, dI) classes [(h0, .inr (0, [.ref q0, .int (nI 2), .int 1])), (q0, .inl (cA0, D0, .inl f_75))] _ := hP
          have hD : va_D A [(h0, .inr (0, [.ref q0, .int (nI 2), .int 1])), (q0, .inl (cA0, D0, .inl f_75))] := hD
          have hP9 := hP.sub (ws' := [(h0, .inr (0, [.ref q0, .int (nI 2), .int 1])), (q0, .inl (cA0, D0, .inl f_75))]) [0, 1] rfl
          have hD9 := hD.sub (ws' := [(h0, .inr (0, [.ref q0, .int (nI 2), .int 1])), (q0, .inl (cA0, D0, .inl f_75))]) [0, 1] (by decide) rfl
          have hK9 := hK.sub (tys' := [(cA0, .int)]) [0] rfl
          exact W.vret hx hb hr (fun t ht hW => ⟨⟨(), rfl, trivial, f_75, 2, 1, by omega, by rw [ht]; exact hP9, va_K.moved hW.alike hK9, hD9⟩, hS.F ht⟩) hS.2.2 d_Big_put_82
        · refine lv_aload_n hx hb d_Big_put_41 rfl (lv_at hl 1 rfl) ?_
          refine va_get (D := (dC, dI)) (ci := 0) (v := .int 2) (C := R_Big) (T := F_Big) (N := 3) hx hb hT i_Big hown hK hP 0 rfl rfl 1 (by decide) (hT _ tw_47) (fun _ h9 => h9) rfl d_Big_put_42 ?_
          refine lv_iconst (v := 3) hx hb d_Big_put_45 (by decide) ?_
          refine lv_icmp_ge (tgt := 82) hx hb d_Big_put_46 (by decide) (fun c_80 => absurd c_80 (by decide)) (fun c_80 => ?_)
          refine lv_aload_n hx hb d_Big_put_49 rfl (lv_at hl 1 rfl) ?_
          refine va_get (D := (dC, dI)) (ci := 0) (v := .ref q0) (C := R_Big) (T := F_Big) (N := 3) hx hb hT i_Big hown hK hP 0 rfl rfl 0 (by decide) (hT _ tw_44) (fun _ h9 => h9) rfl d_Big_put_50 ?_
          refine lv_aload_n hx hb d_Big_put_53 rfl (lv_at hl 1 rfl) ?_
          refine va_get (D := (dC, dI)) (ci := 0) (v := .int 2) (C := R_Big) (T := F_Big) (N := 3) hx hb hT i_Big hown hK hP 0 rfl rfl 1 (by decide) (hT _ tw_47) (fun _ h9 => h9) rfl d_Big_put_54 ?_
          refine lv_lload_n hx hb d_Big_put_57 rfl (lv_at hl 0 rfl) ?_
          refine lv_ldc2 (v := 1073741823) hx hb hown (hT _ tw_77) d_Big_put_58 ?_
          refine lv_land hx hb d_Big_put_61 ?_
          refine lv_topl (fun v_81 ev_81 => ?_)
          obtain ⟨v_82, ev_82⟩ : ∃ z : Int32, (v_81 : Int64).toInt32 = z := ⟨_, rfl⟩
          refine lv_l2i (v := v_82) hx hb d_Big_put_62 ev_82 ?_
          refine va_iast hx hb hK hP hD hS 1 0 rfl rfl (vp_in_nI (n := 2) (by omega) (by omega)) d_Big_put_63 (fun H locs hP hD hS => ?_)
          have hP : va_P (dC, dI) classes [(h0, .inr (0, [.ref q0, .int 2, .int 1])), (q0, .inl (cA0, D0, .inl (upd f_75 (2 : Int32).toNatClampNeg v_82)))] H := hP
          have hD : va_D A [(h0, .inr (0, [.ref q0, .int 2, .int 1])), (q0, .inl (cA0, D0, .inl (upd f_75 (2 : Int32).toNatClampNeg v_82)))] := hD
          generalize upd f_75 (2 : Int32).toNatClampNeg v_82 = f_83 at hP hD
          refine lv_lload_n hx hb d_Big_put_64 rfl (lv_at hl 0 rfl) ?_
          refine lv_bipush (v := 30) hx hb d_Big_put_65 (by decide) ?_
          obtain ⟨v_84, ev_84⟩ : ∃ z : Int64, ((v_76 : Int64).toUInt64 >>> ((30 : Int32).toInt64.toUInt64 &&& Int64.toUInt64 63)).toInt64 = z := ⟨_, rfl⟩
          refine lv_lushr (v := v_84) hx hb d_Big_put_67 ev_84 ?_
          refine lv_lstore_n (lv' := [(3, .long v_84), (0, .ref h0), (1, .long v0)]) hx hb d_Big_put_68 rfl hl (by decide) rfl (fun ls hl => ?_)
          refine lv_aload_n hx hb d_Big_put_69 rfl (lv_at hl 1 rfl) ?_
          refine lv_dup hx hb d_Big_put_70 rfl ?_
          refine va_get (D := (dC, dI)) (ci := 0) (v := .int 2) (C := R_Big) (T := F_Big) (N := 3) hx hb hT i_Big hown hK hP 0 rfl rfl 1 (by decide) (hT _ tw_47) (fun _ h9 => h9) rfl d_Big_put_71 ?_
          refine lv_iconst (v := 1) hx hb d_Big_put_74 (by decide) ?_
          refine lv_iadd hx hb d_Big_put_75 ?_
          refine lv_topi (fun v_85 ev_85 => ?_)
          obtain rfl : v_85 = 3 := ev_85.trans (by decide)
          refine va_put (D := (dC, dI)) (ci := 0) (v := .int 3) (ty := .int) (C := R_Big) (T := F_Big) (N := 3) hx hb hT i_Big t_Big t_Big_ok n_Big hown hK hP hD hS 0 rfl rfl 1 (by decide) (hT _ tw_47) (fun _ h9 => h9) rfl (by decide +kernel) rfl rfl (Nat.le_of_ble_eq_true rfl) d_Big_put_76 (fun H locs hP hD hS => ?_)
          have hP : va_P (dC, dI) classes [(h0, .inr (0, [.ref q0, .int 3, .int 1])), (q0, .inl (cA0, D0, .inl f_83))] H := hP
          have hD : va_D A [(h0, .inr (0, [.ref q0, .int 3, .int 1])), (q0, .inl (cA0, D0, .inl f_83))] := hD
          refine lv_goto (tgt := 35) hx hb d_Big_put_79 (by decide) ?_
          refine lv_lload_n hx hb d_Big_put_35 rfl (lv_at hl 0 rfl) ?_
          refine lv_lconst (v := 0) hx hb d_Big_put_36 (by decide) ?_
          refine W.lcmp hx hb d_Big_put_37 ?_
          refine lv_topi (fun v_86 ev_86 => ?_)
          refine lv_if_eq (tgt := 82) hx hb d_Big_put_38 (by decide) (fun c_87 => ?_) (fun c_87 => ?_)
          · have hP : va_P (dC, dI) classes [(h0, .inr (0, [.ref q0, .int (nI 3), .int 1])), (q0, .inl (cA0, D0, .inl f_83))] _ := hP
            have hD : va_D A [(h0, .inr (0, [.ref q0, .int (nI 3), .int 1])), (q0, .inl (cA0, D0, .inl f_83))] := hD
            have hP9 := hP.sub (ws' := [(h0, .inr (0, [.ref q0, .int (nI 3), .int 1])), (q0, .inl (cA0, D0, .inl f_83))]) [0, 1] rfl
            have hD9 := hD.sub (ws' := [(h0, .inr (0, [.ref q0, .int (nI 3), .int 1])), (q0, .inl (cA0, D0, .inl f_83))]) [0, 1] (by decide) rfl
            have hK9 := hK.sub (tys' := [(cA0, .int)]) [0] rfl
            exact W.vret hx hb hr (fun t ht hW => ⟨⟨(), rfl, trivial, f_83, 3, 1, by omega, by rw [ht]; exact hP9, va_K.moved hW.alike hK9, hD9⟩, hS.F ht⟩) hS.2.2 d_Big_put_82
          · refine lv_aload_n hx hb d_Big_put_41 rfl (lv_at hl 1 rfl) ?_
            refine va_get (D := (dC, dI)) (ci := 0) (v := .int 3) (C := R_Big) (T := F_Big) (N := 3) hx hb hT i_Big hown hK hP 0 rfl rfl 1 (by decide) (hT _ tw_47) (fun _ h9 => h9) rfl d_Big_put_42 ?_
            refine lv_iconst (v := 3) hx hb d_Big_put_45 (by decide) ?_
            refine lv_icmp_ge (tgt := 82) hx hb d_Big_put_46 (by decide) (fun c_88 => ?_) (fun c_88 => absurd (by decide) c_88)
            have hP : va_P (dC, dI) classes [(h0, .inr (0, [.ref q0, .int (nI 3), .int 1])), (q0, .inl (cA0, D0, .inl f_83))] _ := hP
            have hD : va_D A [(h0, .inr (0, [.ref q0, .int (nI 3), .int 1])), (q0, .inl (cA0, D0, .inl f_83))] := hD
            have hP9 := hP.sub (ws' := [(h0, .inr (0, [.ref q0, .int (nI 3), .int 1])), (q0, .inl (cA0, D0, .inl f_83))]) [0, 1] rfl
            have hD9 := hD.sub (ws' := [(h0, .inr (0, [.ref q0, .int (nI 3), .int 1])), (q0, .inl (cA0, D0, .inl f_83))]) [0, 1] (by decide) rfl
            have hK9 := hK.sub (tys' := [(cA0, .int)]) [0] rfl
            exact W.vret hx hb hr (fun t ht hW => ⟨⟨(), rfl, trivial, f_83, 3, 1, by omega, by rw [ht]; exact hP9, va_K.moved hW.alike hK9, hD9⟩, hS.F ht⟩) hS.2.2 d_Big_put_82

set_option maxHeartbeats 4000000 in
set_option maxRecDepth 100000 in
/-- copy(a): shape alone -/
theorem c_Big_copy (l : Launch) (dC : Nat → ClassId) (dI : Nat → Nat → Nat) (sz : Nat) (h0 : Nat) (q0 : Nat) (cA0 : ClassId) (D0 : Nat) (f0 : Nat → Int32) (n0 : Int32) (s0 : Int32) (h1 : Nat) (q1 : Nat) (cA1 : ClassId) (D1 : Nat) (f1 : Nat → Int32) (k1 : Nat) (s1 : Int32) (hk : k1 ≤ D1) (hk2 : k1 ≤ 60) (hD0 : D0 < 2 ^ 31) : Met l y_Big_copy w_Big_copy ({ frames := 1, cells := 1, slots := 64, locals := 24 }) (va_Pc [.ref h0, .ref h1] (fun U => U.heap.size = sz ∧ va_P (dC, dI) classes [(h0, .inr (0, [.ref q0, .int n0, .int s0])), (q0, .inl (cA0, D0, .inl f0)), (h1, .inr (0, [.ref q1, .int (nI k1), .int s1])), (q1, .inl (cA1, D1, .inl f1))] U.heap ∧ va_K (dC, dI) classes [(cA0, .int), (cA1, .int)] U ∧ va_D (fun _ => True) [(h0, .inr (0, [.ref q0, .int n0, .int s0])), (q0, .inl (cA0, D0, .inl f0)), (h1, .inr (0, [.ref q1, .int (nI k1), .int s1])), (q1, .inl (cA1, D1, .inl f1))] ∧ nx_K U)) (va_Qv (fun _ : Unit => True) (fun _ t => ∃ (q2 : Nat), ∃ (cA2 : ClassId), ∃ (D2 : Nat), ∃ (f2 : Nat → Int32), (k1 ≤ D2 ∧ (D2 = D0 ∨ D2 ≤ 64)) ∧ va_P (dC, dI) classes [(h0, .inr (0, [.ref q2, .int (nI k1), .int s1])), (q2, .inl (cA2, D2, .inl f2)), (h1, .inr (0, [.ref q1, .int (nI k1), .int s1])), (q1, .inl (cA1, D1, .inl f1))] t.heap ∧ va_K (dC, dI) classes [(cA2, .int), (cA1, .int)] t ∧ va_D (va_A [(h0, .inr (0, [.ref q0, .int n0, .int s0])), (q0, .inl (cA0, D0, .inl f0)), (h1, .inr (0, [.ref q1, .int (nI k1), .int s1])), (q1, .inl (cA1, D1, .inl f1))] sz) [(h0, .inr (0, [.ref q2, .int (nI k1), .int s1])), (q2, .inl (cA2, D2, .inl f2)), (h1, .inr (0, [.ref q1, .int (nI k1), .int s1])), (q1, .inl (cA1, D1, .inl f1))]) (va_A [(h0, .inr (0, [.ref q0, .int n0, .int s0])), (q0, .inl (cA0, D0, .inl f0)), (h1, .inr (0, [.ref q1, .int (nI k1), .int s1])), (q1, .inl (cA1, D1, .inl f1))] sz)) 1 64 (va_A [(h0, .inr (0, [.ref q0, .int n0, .int s0])), (q0, .inl (cA0, D0, .inl f0)), (h1, .inr (0, [.ref q1, .int (nI k1), .int s1])), (q1, .inl (cA1, D1, .inl f1))] sz) := by
  refine Met.ofW (cc := b_Big_copy) (maxL := 2) (ret := none) (by decide) rfl ?_
  intro p e s m args below meth c s₁ B hml hv
  obtain ⟨rfl, hsz, hP, hK, hD0, hN⟩ := hv
  have hx := B.exec
  have hb := B.bytes
  have hr := B.returns
  have hT : ∀ w ∈ lw_g, w.before _ s = true := fun w h => atoms_spec (ws := w_Big_copy) B.pre w (List.mem_cons_of_mem _ h)
  have hown : s.vm.findClass R_Big = some m.cls := findClass_of_methodNamed B.named
  have hlocks := B.notSynchronized
  subst hsz
  have hD := hD0.self (sz := s.heap.size)
  generalize hAe : va_A [(h0, .inr (0, [.ref q0, .int n0, .int s0])), (q0, .inl (cA0, D0, .inl f0)), (h1, .inr (0, [.ref q1, .int (nI k1), .int s1])), (q1, .inl (cA1, D1, .inl f1))] s.heap.size = A at hD ⊢
  have hA : ∀ q : Nat, s.heap.size ≤ q → A q := fun q h => by rw [← hAe]; exact Or.inr h
  have hS : va_S A s.heap s.heap [] := va_S.rf
  have hP : va_P (dC, dI) classes [(h0, .inr (0, [.ref q0, .int n0, .int s0])), (q0, .inl (cA0, D0, .inl f0)), (h1, .inr (0, [.ref q1, .int (nI k1), .int s1])), (q1, .inl (cA1, D1, .inl f1))] s.heap := hP
  have hl := lv_entry ([.ref h0, .ref h1]) (n := 2) (Nat.le_of_ble_eq_true rfl)
  rw [lg_entry_eq]
  generalize (lg_sl ([.ref h0, .ref h1]) ++ List.replicate (2 - (lg_sl ([.ref h0, .ref h1])).length) Slot.unset).toArray = ls at hl ⊢
  have hl : lv_has ls 2 [(0, .ref h0), (1, .ref h1)] := hl
  refine lv_aload_n hx hb d_Big_copy_0 rfl (lv_at hl 0 rfl) ?_
  refine va_get (D := (dC, dI)) (ci := 0) (v := .ref q0) (C := R_Big) (T := F_Big) (N := 3) hx hb hT i_Big hown hK hP 0 rfl rfl 0 (by decide) (hT _ tw_44) (fun _ h9 => h9) rfl d_Big_copy_1 ?_
  refine va_alen (v := (nI D0)) hx hb hK hP 1 0 rfl rfl rfl d_Big_copy_4 ?_
  refine lv_aload_n hx hb d_Big_copy_5 rfl (lv_at hl 1 rfl) ?_
  refine va_get (D := (dC, dI)) (ci := 0) (v := .int (nI k1)) (C := R_Big) (T := F_Big) (N := 3) hx hb hT i_Big hown hK hP 2 rfl rfl 1 (by decide) (hT _ tw_47) (fun _ h9 => h9) rfl d_Big_copy_6 ?_
  refine lv_icmp_ge (tgt := 24) hx hb d_Big_copy_9 (by decide) (fun c_1 => ?_) (fun c_1 => ?_)
  · have hlen : k1 ≤ D0 := (nI_leI (by omega) (by omega)).mp c_1
    refine lv_aload_n hx hb d_Big_copy_24 rfl (lv_at hl 1 rfl) ?_
    refine va_get (D := (dC, dI)) (ci := 0) (v := .ref q1) (C := R_Big) (T := F_Big) (N := 3) hx hb hT i_Big hown hK hP 2 rfl rfl 0 (by decide) (hT _ tw_44) (fun _ h9 => h9) rfl d_Big_copy_25 ?_
    refine lv_iconst (v := 0) hx hb d_Big_copy_28 (by decide) ?_
    refine lv_aload_n hx hb d_Big_copy_29 rfl (lv_at hl 0 rfl) ?_
    refine va_get (D := (dC, dI)) (ci := 0) (v := .ref q0) (C := R_Big) (T := F_Big) (N := 3) hx hb hT i_Big hown hK hP 0 rfl rfl 0 (by decide) (hT _ tw_44) (fun _ h9 => h9) rfl d_Big_copy_30 ?_
    refine lv_iconst (v := 0) hx hb d_Big_copy_33 (by decide) ?_
    refine lv_aload_n hx hb d_Big_copy_34 rfl (lv_at hl 1 rfl) ?_
    refine va_get (D := (dC, dI)) (ci := 0) (v := .int (nI k1)) (C := R_Big) (T := F_Big) (N := 3) hx hb hT i_Big hown hK hP 2 rfl rfl 1 (by decide) (hT _ tw_47) (fun _ h9 => h9) rfl d_Big_copy_35 ?_
    refine va_copyi hx hb (hml.trans hl.1.symm) hown (hT _ tw_83) (hT _ tw_85) (hT _ tw_84) (hT _ tw_5) hK hP hD hS 3 1 1 0 rfl rfl rfl rfl rfl (by decide) (by decide) (nI_pos (by omega)) (by rw [nI_clamp (by omega)]; show 0 + k1 ≤ _; omega) (by rw [nI_clamp (by omega)]; show 0 + k1 ≤ _; omega) (fun _ _ => rfl) (Nat.le_of_ble_eq_true rfl) (by decide) d_Big_copy_38 (fun H locs hP hD hS => ?_)
    have hP : va_P (dC, dI) classes [(h0, .inr (0, [.ref q0, .int n0, .int s0])), (q0, .inl (cA0, D0, .inl (va_cpy f1 f0 (0 : Int32).toNatClampNeg (0 : Int32).toNatClampNeg ((nI k1) : Int32).toNatClampNeg))), (h1, .inr (0, [.ref q1, .int (nI k1), .int s1])), (q1, .inl (cA1, D1, .inl f1))] H := hP
    have hD : va_D A [(h0, .inr (0, [.ref q0, .int n0, .int s0])), (q0, .inl (cA0, D0, .inl (va_cpy f1 f0 (0 : Int32).toNatClampNeg (0 : Int32).toNatClampNeg ((nI k1) : Int32).toNatClampNeg))), (h1, .inr (0, [.ref q1, .int (nI k1), .int s1])), (q1, .inl (cA1, D1, .inl f1))] := hD
    generalize va_cpy f1 f0 (0 : Int32).toNatClampNeg (0 : Int32).toNatClampNeg ((nI k1) : Int32).toNatClampNeg = f_2 at hP hD
    refine lv_aload_n hx hb d_Big_copy_41 rfl (lv_at hl 0 rfl) ?_
    refine lv_aload_n hx hb d_Big_copy_42 rfl (lv_at hl 1 rfl) ?_
    refine va_get (D := (dC, dI)) (ci := 0) (v := .int (nI k1)) (C := R_Big) (T := F_Big) (N := 3) hx hb hT i_Big hown hK hP 2 rfl rfl 1 (by decide) (hT _ tw_47) (fun _ h9 => h9) rfl d_Big_copy_43 ?_
    refine va_put (D := (dC, dI)) (ci := 0) (v := .int (nI k1)) (ty := .int) (C := R_Big) (T := F_Big) (N := 3) hx hb hT i_Big t_Big t_Big_ok n_Big hown hK hP hD hS 0 rfl rfl 1 (by decide) (hT _ tw_47) (fun _ h9 => h9) rfl (by decide +kernel) rfl rfl (Nat.le_of_ble_eq_true rfl) d_Big_copy_46 (fun H locs hP hD hS => ?_)
    have hP : va_P (dC, dI) classes [(h0, .inr (0, [.ref q0, .int (nI k1), .int s0])), (q0, .inl (cA0, D0, .inl f_2)), (h1, .inr (0, [.ref q1, .int (nI k1), .int s1])), (q1, .inl (cA1, D1, .inl f1))] H := hP
    have hD : va_D A [(h0, .inr (0, [.ref q0, .int (nI k1), .int s0])), (q0, .inl (cA0, D0, .inl f_2)), (h1, .inr (0, [.ref q1, .int (nI k1), .int s1])), (q1, .inl (cA1, D1, .inl f1))] := hD
    refine lv_aload_n hx hb d_Big_copy_49 rfl (lv_at hl 0 rfl) ?_
    refine lv_aload_n hx hb d_Big_copy_50 rfl (lv_at hl 1 rfl) ?_
    refine va_get (D := (dC, dI)) (ci := 0) (v := .int s1) (C := R_Big) (T := F_Big) (N := 3) hx hb hT i_Big hown hK hP 2 rfl rfl 2 (by decide) (hT _ tw_51) (fun _ h9 => h9) rfl d_Big_copy_51 ?_
    refine va_put (D := (dC, dI)) (ci := 0) (v := .int s1) (ty := .int) (C := R_Big) (T := F_Big) (N := 3) hx hb hT i_Big t_Big t_Big_ok n_Big hown hK hP hD hS 0 rfl rfl 2 (by decide) (hT _ tw_51) (fun _ h9 => h9) rfl (by decide +kernel) rfl rfl (Nat.le_of_ble_eq_true rfl) d_Big_copy_54 (fun H locs hP hD hS => ?_)
    have hP : va_P (dC, dI) classes [(h0, .inr (0, [.ref q0, .int (nI k1), .int s1])), (q0, .inl (cA0, D0, .inl f_2)), (h1, .inr (0, [.ref q1, .int (nI k1), .int s1])), (q1, .inl (cA1, D1, .inl f1))] H := hP
    have hD : va_D A [(h0, .inr (0, [.ref q0, .int (nI k1), .int s1])), (q0, .inl (cA0, D0, .inl f_2)), (h1, .inr (0, [.ref q1, .int (nI k1), .int s1])), (q1, .inl (cA1, D1, .inl f1))] := hD
    have hP9 := hP.sub (ws' := [(h0, .inr (0, [.ref q0, .int (nI k1), .int s1])), (q0, .inl (cA0, D0, .inl f_2)), (h1, .inr (0, [.ref q1, .int (nI k1), .int s1])), (q1, .inl (cA1, D1, .inl f1))]) [0, 1, 2, 3] rfl
    have hD9 := hD.sub (ws' := [(h0, .inr (0, [.ref q0, .int (nI k1), .int s1])), (q0, .inl (cA0, D0, .inl f_2)), (h1, .inr (0, [.ref q1, .int (nI k1), .int s1])), (q1, .inl (cA1, D1, .inl f1))]) [0, 1, 2, 3] (by decide) rfl
    have hK9 := hK.sub (tys' := [(cA0, .int), (cA1, .int)]) [0, 1] rfl
    refine W.widen (k := 1) (n := 64) (Nat.le_of_ble_eq_true rfl) (Nat.le_of_ble_eq_true rfl) ?_
    exact W.vret hx hb hr (fun t ht hW => ⟨⟨(), rfl, trivial, q0, cA0, D0, f_2, ⟨by omega, by omega⟩, by rw [ht]; exact hP9, va_K.moved hW.alike hK9, hD9⟩, hS.F ht⟩) hS.2.2 d_Big_copy_57
  · have hlen : D0 < k1 := Nat.lt_of_not_le (fun h => c_1 ((nI_leI (by omega) (by omega)).mpr h))
    refine lv_aload_n hx hb d_Big_copy_12 rfl (lv_at hl 0 rfl) ?_
    refine lv_aload_n hx hb d_Big_copy_13 rfl (lv_at hl 1 rfl) ?_
    refine va_get (D := (dC, dI)) (ci := 0) (v := .int (nI k1)) (C := R_Big) (T := F_Big) (N := 3) hx hb hT i_Big hown hK hP 2 rfl rfl 1 (by decide) (hT _ tw_47) (fun _ h9 => h9) rfl d_Big_copy_14 ?_
    refine lv_iconst (v := 4) hx hb d_Big_copy_17 (by decide) ?_
    refine lv_iadd hx hb d_Big_copy_18 ?_
    refine lv_topi (fun v_3 ev_3 => ?_)
    obtain rfl : v_3 = nI (k1 + 4) := ev_3.trans (nI_add k1 4)
    refine va_newa (atype := .int) (a0 := ((k1 + 4), .inl (fun _ => 0))) hx hb (hT _ tw_68) rfl hK hP hD hS hA (fun _ => vp_cell_i _ _ _) (nI_pos (by omega)) (nI_clamp (by omega)) (by show (k1 + 4) * 4 ≤ _; omega) (Nat.le_of_ble_eq_true rfl) (by show 0 + (k1 + 4) ≤ 64; omega) d_Big_copy_19 (fun q_4 cA_5 H hK hP hD hS => ?_)
    have hP : va_P (dC, dI) classes [(h0, .inr (0, [.ref q0, .int n0, .int s0])), (q0, .inl (cA0, D0, .inl f0)), (h1, .inr (0, [.ref q1, .int (nI k1), .int s1])), (q1, .inl (cA1, D1, .inl f1)), (q_4, .inl (cA_5, (k1 + 4), .inl (fun _ => 0)))] H := hP
    have hD : va_D A [(h0, .inr (0, [.ref q0, .int n0, .int s0])), (q0, .inl (cA0, D0, .inl f0)), (h1, .inr (0, [.ref q1, .int (nI k1), .int s1])), (q1, .inl (cA1, D1, .inl f1)), (q_4, .inl (cA_5, (k1 + 4), .inl (fun _ => 0)))] := hD
    have hK : va_K (dC, dI) classes [(cA0, .int), (cA1, .int), (cA_5, .int)] s := hK
    refine W.widen (k := 1) (n := 64) (Nat.le_of_ble_eq_true rfl) (by omega) ?_
    refine va_put (D := (dC, dI)) (ci := 0) (v := .ref q_4) (ty := .array .int) (C := R_Big) (T := F_Big) (N := 3) hx hb hT i_Big t_Big t_Big_ok n_Big hown hK hP hD hS 0 rfl rfl 0 (by decide) (hT _ tw_44) (fun _ h9 => h9) rfl (by decide +kernel) rfl rfl (Nat.le_of_ble_eq_true rfl) d_Big_copy_21 (fun H locs hP hD hS => ?_)
    have hP : va_P (dC, dI) classes [(h0, .inr (0, [.ref q_4, .int n0, .int s0])), (q0, .inl (cA0, D0, .inl f0)), (h1, .inr (0, [.ref q1, .int (nI k1), .int s1])), (q1, .inl (cA1, D1, .inl f1)), (q_4, .inl (cA_5, (k1 + 4), .inl (fun _ => 0)))] H := hP
    have hD : va_D A [(h0, .inr (0, [.ref q_4, .int n0, .int s0])), (q0, .inl (cA0, D0, .inl f0)), (h1, .inr (0, [.ref q1, .int (nI k1), .int s1])), (q1, .inl (cA1, D1, .inl f1)), (q_4, .inl (cA_5, (k1 + 4), .inl (fun _ => 0)))] := hD
    refine lv_aload_n hx hb d_Big_copy_24 rfl (lv_at hl 1 rfl) ?_
    refine va_get (D := (dC, dI)) (ci := 0) (v := .ref q1) (C := R_Big) (T := F_Big) (N := 3) hx hb hT i_Big hown hK hP 2 rfl rfl 0 (by decide) (hT _ tw_44) (fun _ h9 => h9) rfl d_Big_copy_25 ?_
    refine lv_iconst (v := 0) hx hb d_Big_copy_28 (by decide) ?_
    refine lv_aload_n hx hb d_Big_copy_29 rfl (lv_at hl 0 rfl) ?_
    refine va_get (D := (dC, dI)) (ci := 0) (v := .ref q_4) (C := R_Big) (T := F_Big) (N := 3) hx hb hT i_Big hown hK hP 0 rfl rfl 0 (by decide) (hT _ tw_44) (fun _ h9 => h9) rfl d_Big_copy_30 ?_
    refine lv_iconst (v := 0) hx hb d_Big_copy_33 (by decide) ?_
    refine lv_aload_n hx hb d_Big_copy_34 rfl (lv_at hl 1 rfl) ?_
    refine va_get (D := (dC, dI)) (ci := 0) (v := .int (nI k1)) (C := R_Big) (T := F_Big) (N := 3) hx hb hT i_Big hown hK hP 2 rfl rfl 1 (by decide) (hT _ tw_47) (fun _ h9 => h9) rfl d_Big_copy_35 ?_
    refine va_copyi hx hb (hml.trans hl.1.symm) hown (hT _ tw_83) (hT _ tw_85) (hT _ tw_84) (hT _ tw_5) hK hP hD hS 3 4 1 2 rfl rfl rfl rfl rfl (by decide) (by decide) (nI_pos (by omega)) (by rw [nI_clamp (by omega)]; show 0 + k1 ≤ _; omega) (by rw [nI_clamp (by omega)]; show 0 + k1 ≤ _; omega) (fun _ _ => rfl) (Nat.le_of_ble_eq_true rfl) (by decide) d_Big_copy_38 (fun H locs hP hD hS => ?_)
    have hP : va_P (dC, dI) classes [(h0, .inr (0, [.ref q_4, .int n0, .int s0])), (q0, .inl (cA0, D0, .inl f0)), (h1, .inr (0, [.ref q1, .int (nI k1), .int s1])), (q1, .inl (cA1, D1, .inl f1)), (q_4, .inl (cA_5, (k1 + 4), .inl (va_cpy f1 (fun _ => 0) (0 : Int32).toNatClampNeg (0 : Int32).toNatClampNeg ((nI k1) : Int32).toNatClampNeg)))] H := hP
    have hD : va_D A [(h0, .inr (0, [.ref q_4, .int n0, .int s0])), (q0, .inl (cA0, D0, .inl f0)), (h1, .inr (0, [.ref q1, .int (nI k1), .int s1])), (q1, .inl (cA1, D1, .inl f1)), (q_4, .inl (cA_5, (k1 + 4), .inl (va_cpy f1 (fun _ => 0) (0 : Int32).toNatClampNeg (0 : Int32).toNatClampNeg ((nI k1) : Int32).toNatClampNeg)))] := hD
    generalize va_cpy f1 (fun _ => 0) (0 : Int32).toNatClampNeg (0 : Int32).toNatClampNeg ((nI k1) : Int32).toNatClampNeg = f_6 at hP hD
    refine lv_aload_n hx hb d_Big_copy_41 rfl (lv_at hl 0 rfl) ?_
    refine lv_aload_n hx hb d_Big_copy_42 rfl (lv_at hl 1 rfl) ?_
    refine va_get (D := (dC, dI)) (ci := 0) (v := .int (nI k1)) (C := R_Big) (T := F_Big) (N := 3) hx hb hT i_Big hown hK hP 2 rfl rfl 1 (by decide) (hT _ tw_47) (fun _ h9 => h9) rfl d_Big_copy_43 ?_
    refine va_put (D := (dC, dI)) (ci := 0) (v := .int (nI k1)) (ty := .int) (C := R_Big) (T := F_Big) (N := 3) hx hb hT i_Big t_Big t_Big_ok n_Big hown hK hP hD hS 0 rfl rfl 1 (by decide) (hT _ tw_47) (fun _ h9 => h9) rfl (by decide +kernel) rfl rfl (Nat.le_of_ble_eq_true rfl) d_Big_copy_46 (fun H locs hP hD hS => ?_)
    have hP : va_P (dC, dI) classes [(h0, .inr (0, [.ref q_4, .int (nI k1), .int s0])), (q0, .inl (cA0, D0, .inl f0)), (h1, .inr (0, [.ref q1, .int (nI k1), .int s1])), (q1, .inl (cA1, D1, .inl f1)), (q_4, .inl (cA_5, (k1 + 4), .inl f_6))] H := hP
    have hD : va_D A [(h0, .inr (0, [.ref q_4, .int (nI k1), .int s0])), (q0, .inl (cA0, D0, .inl f0)), (h1, .inr (0, [.ref q1, .int (nI k1), .int s1])), (q1, .inl (cA1, D1, .inl f1)), (q_4, .inl (cA_5, (k1 + 4), .inl f_6))] := hD
    refine lv_aload_n hx hb d_Big_copy_49 rfl (lv_at hl 0 rfl) ?_
    refine lv_aload_n hx hb d_Big_copy_50 rfl (lv_at hl 1 rfl) ?_
    refine va_get (D := (dC, dI)) (ci := 0) (v := .int s1) (C := R_Big) (T := F_Big) (N := 3) hx hb hT i_Big hown hK hP 2 rfl rfl 2 (by decide) (hT _ tw_51) (fun _ h9 => h9) rfl d_Big_copy_51 ?_
    refine va_put (D := (dC, dI)) (ci := 0) (v := .int s1) (ty := .int) (C := R_Big) (T := F_Big) (N := 3) hx hb hT i_Big t_Big t_Big_ok n_Big hown hK hP hD hS 0 rfl rfl 2 (by decide) (hT _ tw_51) (fun _ h9 => h9) rfl (by decide +kernel) rfl rfl (Nat.le_of_ble_eq_true rfl) d_Big_copy_54 (fun H locs hP hD hS => ?_)
    have hP : va_P (dC, dI) classes [(h0, .inr (0, [.ref q_4, .int (nI k1), .int s1])), (q0, .inl (cA0, D0, .inl f0)), (h1, .inr (0, [.ref q1, .int (nI k1), .int s1])), (q1, .inl (cA1, D1, .inl f1)), (q_4, .inl (cA_5, (k1 + 4), .inl f_6))] H := hP
    have hD : va_D A [(h0, .inr (0, [.ref q_4, .int (nI k1), .int s1])), (q0, .inl (cA0, D0, .inl f0)), (h1, .inr (0, [.ref q1, .int (nI k1), .int s1])), (q1, .inl (cA1, D1, .inl f1)), (q_4, .inl (cA_5, (k1 + 4), .inl f_6))] := hD
    have hP9 := hP.sub (ws' := [(h0, .inr (0, [.ref q_4, .int (nI k1), .int s1])), (q_4, .inl (cA_5, (k1 + 4), .inl f_6)), (h1, .inr (0, [.ref q1, .int (nI k1), .int s1])), (q1, .inl (cA1, D1, .inl f1))]) [0, 4, 2, 3] rfl
    have hD9 := hD.sub (ws' := [(h0, .inr (0, [.ref q_4, .int (nI k1), .int s1])), (q_4, .inl (cA_5, (k1 + 4), .inl f_6)), (h1, .inr (0, [.ref q1, .int (nI k1), .int s1])), (q1, .inl (cA1, D1, .inl f1))]) [0, 4, 2, 3] (by decide) rfl
    have hK9 := hK.sub (tys' := [(cA_5, .int), (cA1, .int)]) [2, 1] rfl
    exact W.vret hx hb hr (fun t ht hW => ⟨⟨(), rfl, trivial, q_4, cA_5, (k1 + 4), f_6, ⟨by omega, by omega⟩, by rw [ht]; exact hP9, va_K.moved hW.alike hK9, hD9⟩, hS.F ht⟩) hS.2.2 d_Big_copy_57
