theorem tw_43 : (.methodLink "RealHouse$Big" 3 ⟨"java/lang/Object", "<init>", "()V"⟩ : Cond) ∈ lw_g := tb_at (i := 43) (by decide +kernel) rfl
theorem tw_24 : (.instanceMethod ⟨"java/lang/Object", "<init>", "()V"⟩ : Cond) ∈ lw_g := tb_at (i := 24) (by decide +kernel) rfl
theorem tw_25 : (.code ⟨"java/lang/Object", "<init>", "()V"⟩ object_method_1_code 1 (Option.none : Option Jvm.ClassFile.FieldType) : Cond) ∈ lw_g := tb_at (i := 25) (by decide +kernel) rfl
theorem tw_68 : (.arrayClass .int : Cond) ∈ lw_g := tb_at (i := 68) (by decide +kernel) rfl
theorem tw_44 : (.fieldLink "RealHouse$Big" 9 "RealHouse$Big" "d" "[I" : Cond) ∈ lw_g := tb_at (i := 44) (by decide +kernel) rfl
theorem tw_194 : (.methodLink "RealHouse$Poly" 3 ⟨"java/lang/Object", "<init>", "()V"⟩ : Cond) ∈ lw_g := tb_at (i := 194) (by decide +kernel) rfl
theorem tw_195 : (.classLink "RealHouse$Poly" 9 "RealHouse$Big" : Cond) ∈ lw_g := tb_at (i := 195) (by decide +kernel) rfl
theorem tw_198 : (.fieldLink "RealHouse$Poly" 11 "RealHouse$Poly" "c" "[LRealHouse$Big;" : Cond) ∈ lw_g := tb_at (i := 198) (by decide +kernel) rfl
theorem tw_196 : (.fieldLink "RealHouse$Poly" 17 "RealHouse$Poly" "desk" "LRealHouse$Desk;" : Cond) ∈ lw_g := tb_at (i := 196) (by decide +kernel) rfl
abbrev b_Big_init : ByteArray := prog_2_method_1_code
def y_Big_init : MethodName := ⟨"RealHouse$Big", "<init>", "()V"⟩
abbrev w_Big_init : List Cond := .code y_Big_init b_Big_init 1 none :: lw_g
theorem g_Big_init : GoodIn lw_g w_Big_init := tb_good1 (tb_at (i := 42) (by decide +kernel) rfl)
theorem d_Big_init_0 : decode b_Big_init 0 = .ok (.aload_n 0, 1) := by decide +kernel
theorem d_Big_init_1 : decode b_Big_init 1 = .ok (.invokespecial 3, 3) := by decide +kernel
theorem d_Big_init_4 : decode b_Big_init 4 = .ok (.aload_n 0, 1) := by decide +kernel
theorem d_Big_init_5 : decode b_Big_init 5 = .ok (.bipush 6, 2) := by decide +kernel
theorem d_Big_init_7 : decode b_Big_init 7 = .ok (.newarray .int, 2) := by decide +kernel
theorem d_Big_init_9 : decode b_Big_init 9 = .ok (.putfield 9, 3) := by decide +kernel
theorem d_Big_init_12 : decode b_Big_init 12 = .ok (.return_, 1) := by decide +kernel
abbrev b_Poly_init : ByteArray := prog_8_method_1_code
def y_Poly_init : MethodName := ⟨"RealHouse$Poly", "<init>", "(LRealHouse$Desk;)V"⟩
abbrev w_Poly_init : List Cond := .code y_Poly_init b_Poly_init 2 none :: lw_g
theorem g_Poly_init : GoodIn lw_g w_Poly_init := tb_good1 (tb_at (i := 193) (by decide +kernel) rfl)
theorem d_Poly_init_0 : decode b_Poly_init 0 = .ok (.aload_n 0, 1) := by decide +kernel
theorem d_Poly_init_1 : decode b_Poly_init 1 = .ok (.invokespecial 3, 3) := by decide +kernel
theorem d_Poly_init_4 : decode b_Poly_init 4 = .ok (.aload_n 0, 1) := by decide +kernel
theorem d_Poly_init_5 : decode b_Poly_init 5 = .ok (.iconst 0, 1) := by decide +kernel
theorem d_Poly_init_6 : decode b_Poly_init 6 = .ok (.anewarray 9, 3) := by decide +kernel
theorem d_Poly_init_9 : decode b_Poly_init 9 = .ok (.putfield 11, 3) := by decide +kernel
theorem d_Poly_init_12 : decode b_Poly_init 12 = .ok (.aload_n 0, 1) := by decide +kernel
theorem d_Poly_init_13 : decode b_Poly_init 13 = .ok (.aload_n 1, 1) := by decide +kernel
theorem d_Poly_init_14 : decode b_Poly_init 14 = .ok (.putfield 17, 3) := by decide +kernel
theorem d_Poly_init_17 : decode b_Poly_init 17 = .ok (.return_, 1) := by decide +kernel
set_option maxHeartbeats 4000000 in
set_option maxRecDepth 100000 in
/-- Big(): six limbs, nothing in them -/
theorem c_Big_init (l : Launch) (dC : Nat → ClassId) (dI : Nat → Nat → Nat) (sz : Nat) (h0 : Nat)  : Met l y_Big_init w_Big_init ({ frames := 1, cells := 1, slots := 6, locals := 12 }) (va_Pc [.ref h0] (fun U => U.heap.size = sz ∧ va_P (dC, dI) classes [(h0, .inr (0, [.null, .int 0, .int 0]))] U.heap ∧ va_K (dC, dI) classes [] U ∧ va_D (fun _ => True) [(h0, .inr (0, [.null, .int 0, .int 0]))] ∧ nx_K U)) (va_Qv (fun _ : Unit => True) (fun _ t => ∃ (q1 : Nat), ∃ (cA1 : ClassId), ∃ (f1 : Nat → Int32), va_P (dC, dI) classes [(h0, .inr (0, [.ref q1, .int 0, .int 0])), (q1, .inl (cA1, 6, .inl f1))] t.heap ∧ va_K (dC, dI) classes [(cA1, .int)] t ∧ va_D (va_A [(h0, .inr (0, [.null, .int 0, .int 0]))] sz) [(h0, .inr (0, [.ref q1, .int 0, .int 0])), (q1, .inl (cA1, 6, .inl f1))]) (va_A [(h0, .inr (0, [.null, .int 0, .int 0]))] sz)) 1 6 (va_A [(h0, .inr (0, [.null, .int 0, .int 0]))] sz) := by
  refine Met.ofW (cc := b_Big_init) (maxL := 1) (ret := none) (by decide) rfl ?_
  intro p e s m args below meth c s₁ B hml hv
  obtain ⟨rfl, hsz, hP, hK, hD0, hN⟩ := hv
  have hx := B.exec
  have hb := B.bytes
  have hr := B.returns
  have hT : ∀ w ∈ lw_g, w.before _ s = true := fun w h => atoms_spec (ws := w_Big_init) B.pre w (List.mem_cons_of_mem _ h)
  have hown : s.vm.findClass R_Big = some m.cls := findClass_of_methodNamed B.named
  have hlocks := B.notSynchronized
  have hin : meth.name = "<init>" := (name_of_methodNamed B.named B.method).1
  subst hsz
  have hD := hD0.self (sz := s.heap.size)
  generalize hAe : va_A [(h0, .inr (0, [.null, .int 0, .int 0]))] s.heap.size = A at hD ⊢
  have hA : ∀ q : Nat, s.heap.size ≤ q → A q := fun q h => by rw [← hAe]; exact Or.inr h
  have hS : va_S A s.heap s.heap [] := va_S.rf
  have hP : va_P (dC, dI) classes [(h0, .inr (0, [.null, .int 0, .int 0]))] s.heap := hP
  have hl := lv_entry ([.ref h0]) (n := 1) (Nat.le_of_ble_eq_true rfl)
  rw [lg_entry_eq]
  generalize (lg_sl ([.ref h0]) ++ List.replicate (1 - (lg_sl ([.ref h0])).length) Slot.unset).toArray = ls at hl ⊢
  have hl : lv_has ls 1 [(0, .ref h0)] := hl
  refine lv_aload_n hx hb d_Big_init_0 rfl (lv_at hl 0 rfl) ?_
  refine W.objInit hx hb hown (hT _ tw_43) (hT _ tw_24) (hT _ tw_25) rfl (by rw [hml]; exact hl.1) rfl d_Big_init_1 (Nat.le_of_ble_eq_true rfl) (Nat.le_of_ble_eq_true rfl) ?_
  refine W.eq (g2 := F0 m 4 ls []) rfl ?_
  refine lv_aload_n hx hb d_Big_init_4 rfl (lv_at hl 0 rfl) ?_
  refine lv_bipush (v := 6) hx hb d_Big_init_5 (by decide) ?_
  refine va_newa (atype := .int) (a0 := (6, .inl (fun _ => 0))) hx hb (hT _ tw_68) rfl hK hP hD hS hA (fun _ => vp_cell_i _ _ _) (by decide) rfl (by decide) (Nat.le_of_ble_eq_true rfl) (Nat.le_of_ble_eq_true rfl) d_Big_init_7 (fun q_1 cA_2 H hK hP hD hS => ?_)
  have hP : va_P (dC, dI) classes [(h0, .inr (0, [.null, .int 0, .int 0])), (q_1, .inl (cA_2, 6, .inl (fun _ => 0)))] H := hP
  have hD : va_D A [(h0, .inr (0, [.null, .int 0, .int 0])), (q_1, .inl (cA_2, 6, .inl (fun _ => 0)))] := hD
  have hK : va_K (dC, dI) classes [(cA_2, .int)] s := hK
  refine W.widen (k := 1) (n := 6) (Nat.le_of_ble_eq_true rfl) (Nat.le_of_ble_eq_true rfl) ?_
  refine va_put (D := (dC, dI)) (ci := 0) (v := .ref q_1) (ty := .array .int) (C := R_Big) (T := F_Big) (N := 3) hx hb hT i_Big t_Big t_Big_ok n_Big hown hK hP hD hS 0 rfl rfl 0 (by decide) (hT _ tw_44) (fun _ h9 => h9) rfl (by decide +kernel) rfl rfl (Nat.le_of_ble_eq_true rfl) d_Big_init_9 (fun H locs hP hD hS => ?_)
  have hP : va_P (dC, dI) classes [(h0, .inr (0, [.ref q_1, .int 0, .int 0])), (q_1, .inl (cA_2, 6, .inl (fun _ => 0)))] H := hP
  have hD : va_D A [(h0, .inr (0, [.ref q_1, .int 0, .int 0])), (q_1, .inl (cA_2, 6, .inl (fun _ => 0)))] := hD
  have hP9 := hP.sub (ws' := [(h0, .inr (0, [.ref q_1, .int 0, .int 0])), (q_1, .inl (cA_2, 6, .inl (fun _ => 0)))]) [0, 1] rfl
  have hD9 := hD.sub (ws' := [(h0, .inr (0, [.ref q_1, .int 0, .int 0])), (q_1, .inl (cA_2, 6, .inl (fun _ => 0)))]) [0, 1] (by decide) rfl
  have hK9 := hK.sub (tys' := [(cA_2, .int)]) [0] rfl
  exact W.vret hx hb hr (fun t ht hW => ⟨⟨(), rfl, trivial, q_1, cA_2, (fun _ => 0), by rw [ht]; exact hP9, va_K.moved hW.alike hK9, hD9⟩, hS.F ht⟩) hS.2.2 d_Big_init_12

set_option maxHeartbeats 4000000 in
set_option maxRecDepth 100000 in
/-- Poly(desk) -/
theorem c_Poly_init (l : Launch) (dC : Nat → ClassId) (dI : Nat → Nat → Nat) (sz : Nat) (h0 : Nat) (dk : Nat)  : Met l y_Poly_init w_Poly_init ({ frames := 1, cells := 1, slots := 0, locals := 12 }) (va_Pc [.ref h0, .ref dk] (fun U => U.heap.size = sz ∧ va_P (dC, dI) classes [(h0, .inr (6, [.null, .null, .int 0]))] U.heap ∧ va_K (dC, dI) classes [] U ∧ va_D (fun _ => True) [(h0, .inr (6, [.null, .null, .int 0]))] ∧ nx_K U)) (va_Qv (fun _ : Unit => True) (fun _ t => ∃ (q1 : Nat), va_P (dC, dI) classes [(h0, .inr (6, [.ref dk, .ref q1, .int 0]))] t.heap ∧ va_K (dC, dI) classes [] t ∧ va_D (va_A [(h0, .inr (6, [.null, .null, .int 0]))] sz) [(h0, .inr (6, [.ref dk, .ref q1, .int 0]))]) (va_A [(h0, .inr (6, [.null, .null, .int 0]))] sz)) 1 0 (va_A [(h0, .inr (6, [.null, .null, .int 0]))] sz) := by
  refine Met.ofW (cc := b_Poly_init) (maxL := 2) (ret := none) (by decide) rfl ?_
  intro p e s m args below meth c s₁ B hml hv
  obtain ⟨rfl, hsz, hP, hK, hD0, hN⟩ := hv
  have hx := B.exec
  have hb := B.bytes
  have hr := B.returns
  have hT : ∀ w ∈ lw_g, w.before _ s = true := fun w h => atoms_spec (ws := w_Poly_init) B.pre w (List.mem_cons_of_mem _ h)
  have hown : s.vm.findClass R_Poly = some m.cls := findClass_of_methodNamed B.named
  have hlocks := B.notSynchronized
  have hin : meth.name = "<init>" := (name_of_methodNamed B.named B.method).1
  subst hsz
  have hD := hD0.self (sz := s.heap.size)
  generalize hAe : va_A [(h0, .inr (6, [.null, .null, .int 0]))] s.heap.size = A at hD ⊢
  have hA : ∀ q : Nat, s.heap.size ≤ q → A q := fun q h => by rw [← hAe]; exact Or.inr h
  have hS : va_S A s.heap s.heap [] := va_S.rf
  have hP : va_P (dC, dI) classes [(h0, .inr (6, [.null, .null, .int 0]))] s.heap := hP
  have hl := lv_entry ([.ref h0, .ref dk]) (n := 2) (Nat.le_of_ble_eq_true rfl)
  rw [lg_entry_eq]
  generalize (lg_sl ([.ref h0, .ref dk]) ++ List.replicate (2 - (lg_sl ([.ref h0, .ref dk])).length) Slot.unset).toArray = ls at hl ⊢
  have hl : lv_has ls 2 [(0, .ref h0), (1, .ref dk)] := hl
  refine lv_aload_n hx hb d_Poly_init_0 rfl (lv_at hl 0 rfl) ?_
  refine W.objInit hx hb hown (hT _ tw_194) (hT _ tw_24) (hT _ tw_25) rfl (by rw [hml]; exact hl.1) rfl d_Poly_init_1 (Nat.le_of_ble_eq_true rfl) (Nat.le_of_ble_eq_true rfl) ?_
  refine W.eq (g2 := F0 m 4 ls []) rfl ?_
  refine lv_aload_n hx hb d_Poly_init_4 rfl (lv_at hl 0 rfl) ?_
  refine lv_iconst (v := 0) hx hb d_Poly_init_5 (by decide) ?_
  refine va_newq hx hb hown (hT _ tw_195) hN.2.2.2.1 hK hP hD hS hA (by decide) rfl (by decide) (Nat.le_of_ble_eq_true rfl) (Nat.le_of_ble_eq_true rfl) d_Poly_init_6 (fun q_1 cA_2 H hK hP hD hS => ?_)
  have hP : va_P (dC, dI) classes [(h0, .inr (6, [.null, .null, .int 0])), (q_1, .inl (cA_2, 0, .inr (.inr (.inr (.inr (fun _ => none))))))] H := hP
  have hD : va_D A [(h0, .inr (6, [.null, .null, .int 0])), (q_1, .inl (cA_2, 0, .inr (.inr (.inr (.inr (fun _ => none))))))] := hD
  have hK : va_K (dC, dI) classes [(cA_2, .object "RealHouse$Big")] s := hK
  refine W.widen (k := 1) (n := 0) (Nat.le_of_ble_eq_true rfl) (Nat.le_of_ble_eq_true rfl) ?_
  refine va_put (D := (dC, dI)) (ci := 6) (v := .ref q_1) (ty := .array (.object "RealHouse$Big")) (C := R_Poly) (T := F_Poly) (N := 3) hx hb hT i_Poly t_Poly t_Poly_ok n_Poly hown hK hP hD hS 0 rfl rfl 1 (by decide) (hT _ tw_198) (fun _ h9 => h9) rfl (by decide +kernel) rfl rfl (Nat.le_of_ble_eq_true rfl) d_Poly_init_9 (fun H locs hP hD hS => ?_)
  have hP : va_P (dC, dI) classes [(h0, .inr (6, [.null, .ref q_1, .int 0])), (q_1, .inl (cA_2, 0, .inr (.inr (.inr (.inr (fun _ => none))))))] H := hP
  have hD : va_D A [(h0, .inr (6, [.null, .ref q_1, .int 0])), (q_1, .inl (cA_2, 0, .inr (.inr (.inr (.inr (fun _ => none))))))] := hD
  refine lv_aload_n hx hb d_Poly_init_12 rfl (lv_at hl 0 rfl) ?_
  refine lv_aload_n hx hb d_Poly_init_13 rfl (lv_at hl 1 rfl) ?_
  refine va_putF (D := (dC, dI)) (ci := 6) (v := .ref dk) (ty := .object "RealHouse$Desk") (C := R_Poly) (T := F_Poly) (N := 3) hx hb hT i_Poly t_Poly t_Poly_ok n_Poly hown hK hP hD hS 0 rfl rfl 0 (by decide) (hT _ tw_196) (fun _ h9 => h9) rfl hin rfl (by decide +kernel) rfl rfl (Nat.le_of_ble_eq_true rfl) d_Poly_init_14 (fun H locs hP hD hS => ?_)
  have hP : va_P (dC, dI) classes [(h0, .inr (6, [.ref dk, .ref q_1, .int 0])), (q_1, .inl (cA_2, 0, .inr (.inr (.inr (.inr (fun _ => none))))))] H := hP
  have hD : va_D A [(h0, .inr (6, [.ref dk, .ref q_1, .int 0])), (q_1, .inl (cA_2, 0, .inr (.inr (.inr (.inr (fun _ => none))))))] := hD
  have hP9 := hP.sub (ws' := [(h0, .inr (6, [.ref dk, .ref q_1, .int 0]))]) [0] rfl
  have hD9 := hD.sub (ws' := [(h0, .inr (6, [.ref dk, .ref q_1, .int 0]))]) [0] (by decide) rfl
  have hK9 := hK.sub (tys' := []) [] rfl
  exact W.vret hx hb hr (fun t ht hW => ⟨⟨(), rfl, trivial, q_1, by rw [ht]; exact hP9, va_K.moved hW.alike hK9, hD9⟩, hS.F ht⟩) hS.2.2 d_Poly_init_17
