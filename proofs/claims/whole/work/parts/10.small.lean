theorem tw_511 : (.methodLink "RealHouse$Real" 3 ⟨"java/lang/Object", "<init>", "()V"⟩ : Cond) ∈ lw_g := tb_at (i := 511) (by decide +kernel) rfl
theorem tw_512 : (.classLink "RealHouse$Real" 9 "RealHouse$Big" : Cond) ∈ lw_g := tb_at (i := 512) (by decide +kernel) rfl
theorem tw_39 : (.instantiable "RealHouse$Big" 3 : Cond) ∈ lw_g := tb_at (i := 39) (by decide +kernel) rfl
theorem tw_3 : (.initialized "RealHouse$Big" : Cond) ∈ lw_g := tb_at (i := 3) (by decide +kernel) rfl
theorem tw_41 : (.instanceMethod ⟨"RealHouse$Big", "<init>", "()V"⟩ : Cond) ∈ lw_g := tb_at (i := 41) (by decide +kernel) rfl
theorem tw_522 : (.fieldLink "RealHouse$Real" 12 "RealHouse$Real" "c" "LRealHouse$Big;" : Cond) ∈ lw_g := tb_at (i := 522) (by decide +kernel) rfl
theorem tw_516 : (.fieldLink "RealHouse$Real" 18 "RealHouse$Real" "desk" "LRealHouse$Desk;" : Cond) ∈ lw_g := tb_at (i := 516) (by decide +kernel) rfl
theorem tw_514 : (.classLink "RealHouse$Real" 22 "RealHouse$Poly" : Cond) ∈ lw_g := tb_at (i := 514) (by decide +kernel) rfl
theorem tw_190 : (.instantiable "RealHouse$Poly" 3 : Cond) ∈ lw_g := tb_at (i := 190) (by decide +kernel) rfl
theorem tw_8 : (.initialized "RealHouse$Poly" : Cond) ∈ lw_g := tb_at (i := 8) (by decide +kernel) rfl
theorem tw_515 : (.methodLink "RealHouse$Real" 24 ⟨"RealHouse$Poly", "<init>", "(LRealHouse$Desk;)V"⟩ : Cond) ∈ lw_g := tb_at (i := 515) (by decide +kernel) rfl
theorem tw_192 : (.instanceMethod ⟨"RealHouse$Poly", "<init>", "(LRealHouse$Desk;)V"⟩ : Cond) ∈ lw_g := tb_at (i := 192) (by decide +kernel) rfl
theorem tw_519 : (.fieldLink "RealHouse$Real" 27 "RealHouse$Real" "m" "LRealHouse$Poly;" : Cond) ∈ lw_g := tb_at (i := 519) (by decide +kernel) rfl
theorem tw_416 : (.methodLink "RealHouse$Minors" 1 ⟨"java/lang/Object", "<init>", "()V"⟩ : Cond) ∈ lw_g := tb_at (i := 416) (by decide +kernel) rfl
theorem tw_417 : (.classLink "RealHouse$Minors" 9 "RealHouse$Poly" : Cond) ∈ lw_g := tb_at (i := 417) (by decide +kernel) rfl
theorem tw_419 : (.fieldLink "RealHouse$Minors" 11 "RealHouse$Minors" "place" "[LRealHouse$Poly;" : Cond) ∈ lw_g := tb_at (i := 419) (by decide +kernel) rfl
theorem tw_420 : (.fieldLink "RealHouse$Minors" 15 "RealHouse$Minors" "minor" "[LRealHouse$Poly;" : Cond) ∈ lw_g := tb_at (i := 420) (by decide +kernel) rfl
theorem tw_418 : (.fieldLink "RealHouse$Minors" 18 "RealHouse$Minors" "desk" "LRealHouse$Desk;" : Cond) ∈ lw_g := tb_at (i := 418) (by decide +kernel) rfl
theorem tw_188 : (.methodLink "RealHouse$Curve" 1 ⟨"java/lang/Object", "<init>", "()V"⟩ : Cond) ∈ lw_g := tb_at (i := 188) (by decide +kernel) rfl
theorem tw_189 : (.classLink "RealHouse$Curve" 7 "RealHouse$Poly" : Cond) ∈ lw_g := tb_at (i := 189) (by decide +kernel) rfl
theorem tw_224 : (.fieldLink "RealHouse$Curve" 9 "RealHouse$Curve" "c" "[LRealHouse$Poly;" : Cond) ∈ lw_g := tb_at (i := 224) (by decide +kernel) rfl
theorem tw_191 : (.methodLink "RealHouse$Curve" 15 ⟨"RealHouse$Poly", "<init>", "(LRealHouse$Desk;)V"⟩ : Cond) ∈ lw_g := tb_at (i := 191) (by decide +kernel) rfl
abbrev b_Real_init : ByteArray := prog_11_method_1_code
def y_Real_init : MethodName := ⟨"RealHouse$Real", "<init>", "(LRealHouse$Desk;)V"⟩
abbrev w_Real_init : List Cond := .code y_Real_init b_Real_init 2 none :: lw_g
theorem g_Real_init : GoodIn lw_g w_Real_init := tb_good1 (tb_at (i := 510) (by decide +kernel) rfl)
theorem d_Real_init_0 : decode b_Real_init 0 = .ok (.aload_n 0, 1) := by decide +kernel
theorem d_Real_init_1 : decode b_Real_init 1 = .ok (.invokespecial 3, 3) := by decide +kernel
theorem d_Real_init_4 : decode b_Real_init 4 = .ok (.aload_n 0, 1) := by decide +kernel
theorem d_Real_init_5 : decode b_Real_init 5 = .ok (.new 9, 3) := by decide +kernel
theorem d_Real_init_8 : decode b_Real_init 8 = .ok (.dup, 1) := by decide +kernel
theorem d_Real_init_9 : decode b_Real_init 9 = .ok (.invokespecial 11, 3) := by decide +kernel
theorem d_Real_init_12 : decode b_Real_init 12 = .ok (.putfield 12, 3) := by decide +kernel
theorem d_Real_init_15 : decode b_Real_init 15 = .ok (.aload_n 0, 1) := by decide +kernel
theorem d_Real_init_16 : decode b_Real_init 16 = .ok (.aload_n 1, 1) := by decide +kernel
theorem d_Real_init_17 : decode b_Real_init 17 = .ok (.putfield 18, 3) := by decide +kernel
theorem d_Real_init_20 : decode b_Real_init 20 = .ok (.aload_n 0, 1) := by decide +kernel
theorem d_Real_init_21 : decode b_Real_init 21 = .ok (.new 22, 3) := by decide +kernel
theorem d_Real_init_24 : decode b_Real_init 24 = .ok (.dup, 1) := by decide +kernel
theorem d_Real_init_25 : decode b_Real_init 25 = .ok (.aload_n 1, 1) := by decide +kernel
theorem d_Real_init_26 : decode b_Real_init 26 = .ok (.invokespecial 24, 3) := by decide +kernel
theorem d_Real_init_29 : decode b_Real_init 29 = .ok (.putfield 27, 3) := by decide +kernel
theorem d_Real_init_32 : decode b_Real_init 32 = .ok (.return_, 1) := by decide +kernel
abbrev b_Minors_init : ByteArray := prog_7_method_1_code
def y_Minors_init : MethodName := ⟨"RealHouse$Minors", "<init>", "(LRealHouse$Desk;)V"⟩
abbrev w_Minors_init : List Cond := .code y_Minors_init b_Minors_init 2 none :: lw_g
theorem g_Minors_init : GoodIn lw_g w_Minors_init := tb_good1 (tb_at (i := 415) (by decide +kernel) rfl)
theorem d_Minors_init_0 : decode b_Minors_init 0 = .ok (.aload_n 0, 1) := by decide +kernel
theorem d_Minors_init_1 : decode b_Minors_init 1 = .ok (.invokespecial 1, 3) := by decide +kernel
theorem d_Minors_init_4 : decode b_Minors_init 4 = .ok (.aload_n 0, 1) := by decide +kernel
theorem d_Minors_init_5 : decode b_Minors_init 5 = .ok (.bipush 81, 2) := by decide +kernel
theorem d_Minors_init_7 : decode b_Minors_init 7 = .ok (.anewarray 9, 3) := by decide +kernel
theorem d_Minors_init_10 : decode b_Minors_init 10 = .ok (.putfield 11, 3) := by decide +kernel
theorem d_Minors_init_13 : decode b_Minors_init 13 = .ok (.aload_n 0, 1) := by decide +kernel
theorem d_Minors_init_14 : decode b_Minors_init 14 = .ok (.sipush 512, 3) := by decide +kernel
theorem d_Minors_init_17 : decode b_Minors_init 17 = .ok (.anewarray 9, 3) := by decide +kernel
theorem d_Minors_init_20 : decode b_Minors_init 20 = .ok (.putfield 15, 3) := by decide +kernel
theorem d_Minors_init_23 : decode b_Minors_init 23 = .ok (.aload_n 0, 1) := by decide +kernel
theorem d_Minors_init_24 : decode b_Minors_init 24 = .ok (.aload_n 1, 1) := by decide +kernel
theorem d_Minors_init_25 : decode b_Minors_init 25 = .ok (.putfield 18, 3) := by decide +kernel
theorem d_Minors_init_28 : decode b_Minors_init 28 = .ok (.return_, 1) := by decide +kernel
abbrev b_Curve_init : ByteArray := prog_4_method_1_code
def y_Curve_init : MethodName := ⟨"RealHouse$Curve", "<init>", "(LRealHouse$Desk;I)V"⟩
abbrev w_Curve_init : List Cond := .code y_Curve_init b_Curve_init 4 none :: lw_g
theorem g_Curve_init : GoodIn lw_g w_Curve_init := tb_good1 (tb_at (i := 187) (by decide +kernel) rfl)
theorem d_Curve_init_0 : decode b_Curve_init 0 = .ok (.aload_n 0, 1) := by decide +kernel
theorem d_Curve_init_1 : decode b_Curve_init 1 = .ok (.invokespecial 1, 3) := by decide +kernel
theorem d_Curve_init_4 : decode b_Curve_init 4 = .ok (.aload_n 0, 1) := by decide +kernel
theorem d_Curve_init_5 : decode b_Curve_init 5 = .ok (.iload_n 2, 1) := by decide +kernel
theorem d_Curve_init_6 : decode b_Curve_init 6 = .ok (.anewarray 7, 3) := by decide +kernel
theorem d_Curve_init_9 : decode b_Curve_init 9 = .ok (.putfield 9, 3) := by decide +kernel
theorem d_Curve_init_12 : decode b_Curve_init 12 = .ok (.iconst 0, 1) := by decide +kernel
theorem d_Curve_init_13 : decode b_Curve_init 13 = .ok (.istore_n 3, 1) := by decide +kernel
theorem d_Curve_init_14 : decode b_Curve_init 14 = .ok (.iload_n 3, 1) := by decide +kernel
theorem d_Curve_init_15 : decode b_Curve_init 15 = .ok (.iload_n 2, 1) := by decide +kernel
theorem d_Curve_init_16 : decode b_Curve_init 16 = .ok (.if_icmp .ge 23, 3) := by decide +kernel
theorem d_Curve_init_19 : decode b_Curve_init 19 = .ok (.aload_n 0, 1) := by decide +kernel
theorem d_Curve_init_20 : decode b_Curve_init 20 = .ok (.getfield 9, 3) := by decide +kernel
theorem d_Curve_init_23 : decode b_Curve_init 23 = .ok (.iload_n 3, 1) := by decide +kernel
theorem d_Curve_init_24 : decode b_Curve_init 24 = .ok (.new 7, 3) := by decide +kernel
theorem d_Curve_init_27 : decode b_Curve_init 27 = .ok (.dup, 1) := by decide +kernel
theorem d_Curve_init_28 : decode b_Curve_init 28 = .ok (.aload_n 1, 1) := by decide +kernel
theorem d_Curve_init_29 : decode b_Curve_init 29 = .ok (.invokespecial 15, 3) := by decide +kernel
theorem d_Curve_init_32 : decode b_Curve_init 32 = .ok (.aastore, 1) := by decide +kernel
theorem d_Curve_init_33 : decode b_Curve_init 33 = .ok (.iinc 3 1, 3) := by decide +kernel
theorem d_Curve_init_36 : decode b_Curve_init 36 = .ok (.goto (-22), 3) := by decide +kernel
theorem d_Curve_init_39 : decode b_Curve_init 39 = .ok (.return_, 1) := by decide +kernel
set_option maxHeartbeats 4000000 in
set_option maxRecDepth 100000 in
/-- Real(desk) -/
theorem c_Real_init (l : Launch) (dC : Nat → ClassId) (dI : Nat → Nat → Nat) (sz : Nat) (h0 : Nat) (dk : Nat)  : Met l y_Real_init w_Real_init ({ frames := 2, cells := 4, slots := 12, locals := 33 }) (va_Pc [.ref h0, .ref dk] (fun U => U.heap.size = sz ∧ va_P (dC, dI) classes [(h0, .inr (9, [.null, .null, .null, .int 0, .int 0, .int 0]))] U.heap ∧ va_K (dC, dI) classes [] U ∧ va_D (fun _ => True) [(h0, .inr (9, [.null, .null, .null, .int 0, .int 0, .int 0]))] ∧ nx_K U)) (va_Qv (fun _ : Unit => True) (fun _ t => ∃ (x_m : Nat), ∃ (x_c : Nat), va_P (dC, dI) classes [(h0, .inr (9, [.ref dk, .ref x_m, .ref x_c, .int 0, .int 0, .int 0]))] t.heap ∧ va_K (dC, dI) classes [] t ∧ va_D (va_A [(h0, .inr (9, [.null, .null, .null, .int 0, .int 0, .int 0]))] sz) [(h0, .inr (9, [.ref dk, .ref x_m, .ref x_c, .int 0, .int 0, .int 0]))]) (va_A [(h0, .inr (9, [.null, .null, .null, .int 0, .int 0, .int 0]))] sz)) 4 12 (va_A [(h0, .inr (9, [.null, .null, .null, .int 0, .int 0, .int 0]))] sz) := by
  refine Met.ofW (cc := b_Real_init) (maxL := 2) (ret := none) (by decide) rfl ?_
  intro p e s m args below meth c s₁ B hml hv
  obtain ⟨rfl, hsz, hP, hK, hD0, hN⟩ := hv
  have hx := B.exec
  have hb := B.bytes
  have hr := B.returns
  have hT : ∀ w ∈ lw_g, w.before _ s = true := fun w h => atoms_spec (ws := w_Real_init) B.pre w (List.mem_cons_of_mem _ h)
  have hown : s.vm.findClass R_Real = some m.cls := findClass_of_methodNamed B.named
  have hlocks := B.notSynchronized
  have hin : meth.name = "<init>" := (name_of_methodNamed B.named B.method).1
  subst hsz
  have hD := hD0.self (sz := s.heap.size)
  generalize hAe : va_A [(h0, .inr (9, [.null, .null, .null, .int 0, .int 0, .int 0]))] s.heap.size = A at hD ⊢
  have hA : ∀ q : Nat, s.heap.size ≤ q → A q := fun q h => by rw [← hAe]; exact Or.inr h
  have hS : va_S A s.heap s.heap [] := va_S.rf
  have hP : va_P (dC, dI) classes [(h0, .inr (9, [.null, .null, .null, .int 0, .int 0, .int 0]))] s.heap := hP
  have hl := lv_entry ([.ref h0, .ref dk]) (n := 2) (Nat.le_of_ble_eq_true rfl)
  rw [lg_entry_eq]
  generalize (lg_sl ([.ref h0, .ref dk]) ++ List.replicate (2 - (lg_sl ([.ref h0, .ref dk])).length) Slot.unset).toArray = ls at hl ⊢
  have hl : lv_has ls 2 [(0, .ref h0), (1, .ref dk)] := hl
  refine lv_aload_n hx hb d_Real_init_0 rfl (lv_at hl 0 rfl) ?_
  refine W.objInit hx hb hown (hT _ tw_511) (hT _ tw_24) (hT _ tw_25) rfl (by rw [hml]; exact hl.1) rfl d_Real_init_1 (Nat.le_of_ble_eq_true rfl) (Nat.le_of_ble_eq_true rfl) ?_
  refine W.eq (g2 := F0 m 4 ls []) rfl ?_
  refine lv_aload_n hx hb d_Real_init_4 rfl (lv_at hl 0 rfl) ?_
  refine va_new (ci := 0) (fs := [.null, .int 0, .int 0]) (C := R_Big) (T := F_Big) (N := 3) hx hb hT i_Big t_Big t_Big_ok hown (hT _ tw_512) (hT _ tw_39) (hT _ tw_3) hK hP hD hS hA rfl (by decide) (Nat.le_of_ble_eq_true rfl) (Nat.le_of_ble_eq_true rfl) d_Real_init_5 (fun q_1 H hP hD hS => ?_)
  have hP : va_P (dC, dI) classes [(h0, .inr (9, [.null, .null, .null, .int 0, .int 0, .int 0])), (q_1, .inr (0, [.null, .int 0, .int 0]))] H := hP
  have hD : va_D A [(h0, .inr (9, [.null, .null, .null, .int 0, .int 0, .int 0])), (q_1, .inr (0, [.null, .int 0, .int 0]))] := hD
  refine W.widen (k := 1) (n := 3) (Nat.le_of_ble_eq_true rfl) (Nat.le_of_ble_eq_true rfl) ?_
  refine lv_dup hx hb d_Real_init_8 rfl ?_
  have hPc := hP.sub (ws' := [(q_1, .inr (0, [.null, .int 0, .int 0]))]) [1] rfl
  have hDc := hD.sub (ws' := [(q_1, .inr (0, [.null, .int 0, .int 0]))]) [1] (by decide) rfl
  have hKc := hK.sub (tys' := []) [] rfl
  have hFc := va_free (wc := [(q_1, .inr (0, [.null, .int 0, .int 0]))]) hD hS hA [1] rfl
  refine va_callv (va_runIN (As := []) (rest := [.ref q_1, .ref h0]) ⟨hx, hb, hml, hown, hT⟩ (c_Big_init l dC dI H.size q_1 ) ⟨va_cnB 0 hT g_Big_init rfl rfl rfl hN.2.2.2.2.2.2.2.2.2.2.1 (hT _ tw_3) (by decide +kernel) ⟨Nat.le_of_ble_eq_true rfl, Nat.le_of_ble_eq_true rfl⟩, rfl, hT _ tw_41⟩ ⟨fun a U g mk q => by obtain ⟨q0, q1, qP, qK, qD, qN⟩ := q; exact ⟨q0, q1, qP, va_K.moved (u := U) (U := U.calling g mk a) (Vm.Alike.refl U.vm) qK, qD, nx_K.same (u := U) (U := U.calling g mk a) rfl qN⟩, fun U hU hW => ⟨rfl, by rw [hU], by rw [hU]; exact hPc, va_K.moved hW.alike hKc, hDc.weaken (fun _ _ _ _ => trivial), nx_K.warm hW hN⟩⟩ rfl rfl hl.1 rfl (lv_room (Nat.le_of_ble_eq_true rfl)) d_Real_init_9 ⟨Nat.le_of_ble_eq_true rfl, Nat.le_of_ble_eq_true rfl⟩) hS (fun q _ h => hFc q h) hFc (fun u t H1 locs ht hvm hw hB hz1 hk1 hS => ?_)
  obtain ⟨q1_2, cA1_3, f1_4, hP1, hK1, hD1⟩ := hB
  rw [ht] at hP1
  have hK1 := va_K.moved hvm.symm hK1
  obtain ⟨hP, hD⟩ := va_join (wr := [(h0, .inr (9, [.null, .null, .null, .int 0, .int 0, .int 0]))]) (w1 := [(q_1, .inr (0, [.ref q1_2, .int 0, .int 0])), (q1_2, .inl (cA1_3, 6, .inl f1_4))]) hP hD [1] [0] rfl rfl (by decide) (by decide) hk1 hFc hP1 hD1
  have hK := (hK.sub (tys' := []) [] rfl).app hK1
  generalize H1 = H at hP hS ⊢
  have hP : va_P (dC, dI) classes [(h0, .inr (9, [.null, .null, .null, .int 0, .int 0, .int 0])), (q_1, .inr (0, [.ref q1_2, .int 0, .int 0])), (q1_2, .inl (cA1_3, 6, .inl f1_4))] H := hP
  have hD : va_D A [(h0, .inr (9, [.null, .null, .null, .int 0, .int 0, .int 0])), (q_1, .inr (0, [.ref q1_2, .int 0, .int 0])), (q1_2, .inl (cA1_3, 6, .inl f1_4))] := hD
  have hK : va_K (dC, dI) classes [(cA1_3, .int)] s := hK
  refine W.widen (k := 2) (n := 9) (Nat.le_of_ble_eq_true rfl) (Nat.le_of_ble_eq_true rfl) ?_
  refine va_putF (D := (dC, dI)) (ci := 9) (v := .ref q_1) (ty := .object "RealHouse$Big") (C := R_Real) (T := F_Real) (N := 6) hx hb hT i_Real t_Real t_Real_ok n_Real hown hK hP hD hS 0 rfl rfl 2 (by decide) (hT _ tw_522) (fun _ h9 => h9) rfl hin rfl (by decide +kernel) rfl rfl (Nat.le_of_ble_eq_true rfl) d_Real_init_12 (fun H locs hP hD hS => ?_)
  have hP : va_P (dC, dI) classes [(h0, .inr (9, [.null, .null, .ref q_1, .int 0, .int 0, .int 0])), (q_1, .inr (0, [.ref q1_2, .int 0, .int 0])), (q1_2, .inl (cA1_3, 6, .inl f1_4))] H := hP
  have hD : va_D A [(h0, .inr (9, [.null, .null, .ref q_1, .int 0, .int 0, .int 0])), (q_1, .inr (0, [.ref q1_2, .int 0, .int 0])), (q1_2, .inl (cA1_3, 6, .inl f1_4))] := hD
  have hP := hP.sub (ws' := [(h0, .inr (9, [.null, .null, .ref q_1, .int 0, .int 0, .int 0]))]) [0] rfl
  have hD := hD.sub (ws' := [(h0, .inr (9, [.null, .null, .ref q_1, .int 0, .int 0, .int 0]))]) [0] (by decide) rfl
  have hK := hK.sub (tys' := []) [] rfl
  refine lv_aload_n hx hb d_Real_init_15 rfl (lv_at hl 0 rfl) ?_
  refine lv_aload_n hx hb d_Real_init_16 rfl (lv_at hl 1 rfl) ?_
  refine va_putF (D := (dC, dI)) (ci := 9) (v := .ref dk) (ty := .object "RealHouse$Desk") (C := R_Real) (T := F_Real) (N := 6) hx hb hT i_Real t_Real t_Real_ok n_Real hown hK hP hD hS 0 rfl rfl 0 (by decide) (hT _ tw_516) (fun _ h9 => h9) rfl hin rfl (by decide +kernel) rfl rfl (Nat.le_of_ble_eq_true rfl) d_Real_init_17 (fun H locs hP hD hS => ?_)
  have hP : va_P (dC, dI) classes [(h0, .inr (9, [.ref dk, .null, .ref q_1, .int 0, .int 0, .int 0]))] H := hP
  have hD : va_D A [(h0, .inr (9, [.ref dk, .null, .ref q_1, .int 0, .int 0, .int 0]))] := hD
  refine lv_aload_n hx hb d_Real_init_20 rfl (lv_at hl 0 rfl) ?_
  refine va_new (ci := 6) (fs := [.null, .null, .int 0]) (C := R_Poly) (T := F_Poly) (N := 3) hx hb hT i_Poly t_Poly t_Poly_ok hown (hT _ tw_514) (hT _ tw_190) (hT _ tw_8) hK hP hD hS hA rfl (by decide) (Nat.le_of_ble_eq_true rfl) (Nat.le_of_ble_eq_true rfl) d_Real_init_21 (fun q_5 H hP hD hS => ?_)
  have hP : va_P (dC, dI) classes [(h0, .inr (9, [.ref dk, .null, .ref q_1, .int 0, .int 0, .int 0])), (q_5, .inr (6, [.null, .null, .int 0]))] H := hP
  have hD : va_D A [(h0, .inr (9, [.ref dk, .null, .ref q_1, .int 0, .int 0, .int 0])), (q_5, .inr (6, [.null, .null, .int 0]))] := hD
  refine W.widen (k := 3) (n := 12) (Nat.le_of_ble_eq_true rfl) (Nat.le_of_ble_eq_true rfl) ?_
  refine lv_dup hx hb d_Real_init_24 rfl ?_
  refine lv_aload_n hx hb d_Real_init_25 rfl (lv_at hl 1 rfl) ?_
  have hPc := hP.sub (ws' := [(q_5, .inr (6, [.null, .null, .int 0]))]) [1] rfl
  have hDc := hD.sub (ws' := [(q_5, .inr (6, [.null, .null, .int 0]))]) [1] (by decide) rfl
  have hKc := hK.sub (tys' := []) [] rfl
  have hFc := va_free (wc := [(q_5, .inr (6, [.null, .null, .int 0]))]) hD hS hA [1] rfl
  refine va_callv (va_runI (As := [.ref dk]) (rest := [.ref q_5, .ref h0]) ⟨hx, hb, hml, hown, hT⟩ (c_Poly_init l dC dI H.size q_5 dk ) (cwI 1 hT g_Poly_init rfl rfl rfl (hT _ tw_8) (hT _ tw_515) (hT _ tw_192) rfl (by decide +kernel) ⟨Nat.le_of_ble_eq_true rfl, Nat.le_of_ble_eq_true rfl⟩) ⟨fun a U g mk q => by obtain ⟨q0, q1, qP, qK, qD, qN⟩ := q; exact ⟨q0, q1, qP, va_K.moved (u := U) (U := U.calling g mk a) (Vm.Alike.refl U.vm) qK, qD, nx_K.same (u := U) (U := U.calling g mk a) rfl qN⟩, fun U hU hW => ⟨rfl, by rw [hU], by rw [hU]; exact hPc, va_K.moved hW.alike hKc, hDc.weaken (fun _ _ _ _ => trivial), nx_K.warm hW hN⟩⟩ rfl rfl hl.1 rfl (lv_room (Nat.le_of_ble_eq_true rfl)) d_Real_init_26 ⟨Nat.le_of_ble_eq_true rfl, Nat.le_of_ble_eq_true rfl⟩) hS (fun q _ h => hFc q h) hFc (fun u t H1 locs ht hvm hw hB hz1 hk1 hS => ?_)
  obtain ⟨q1_6, hP1, hK1, hD1⟩ := hB
  rw [ht] at hP1
  have hK1 := va_K.moved hvm.symm hK1
  obtain ⟨hP, hD⟩ := va_join (wr := [(h0, .inr (9, [.ref dk, .null, .ref q_1, .int 0, .int 0, .int 0]))]) (w1 := [(q_5, .inr (6, [.ref dk, .ref q1_6, .int 0]))]) hP hD [1] [0] rfl rfl (by decide) (by decide) hk1 hFc hP1 hD1
  have hK := (hK.sub (tys' := []) [] rfl).app hK1
  generalize H1 = H at hP hS ⊢
  have hP : va_P (dC, dI) classes [(h0, .inr (9, [.ref dk, .null, .ref q_1, .int 0, .int 0, .int 0])), (q_5, .inr (6, [.ref dk, .ref q1_6, .int 0]))] H := hP
  have hD : va_D A [(h0, .inr (9, [.ref dk, .null, .ref q_1, .int 0, .int 0, .int 0])), (q_5, .inr (6, [.ref dk, .ref q1_6, .int 0]))] := hD
  have hK : va_K (dC, dI) classes [] s := hK
  refine W.widen (k := 4) (n := 12) (Nat.le_of_ble_eq_true rfl) (Nat.le_of_ble_eq_true rfl) ?_
  refine va_putF (D := (dC, dI)) (ci := 9) (v := .ref q_5) (ty := .object "RealHouse$Poly") (C := R_Real) (T := F_Real) (N := 6) hx hb hT i_Real t_Real t_Real_ok n_Real hown hK hP hD hS 0 rfl rfl 1 (by decide) (hT _ tw_519) (fun _ h9 => h9) rfl hin rfl (by decide +kernel) rfl rfl (Nat.le_of_ble_eq_true rfl) d_Real_init_29 (fun H locs hP hD hS => ?_)
  have hP : va_P (dC, dI) classes [(h0, .inr (9, [.ref dk, .ref q_5, .ref q_1, .int 0, .int 0, .int 0])), (q_5, .inr (6, [.ref dk, .ref q1_6, .int 0]))] H := hP
  have hD : va_D A [(h0, .inr (9, [.ref dk, .ref q_5, .ref q_1, .int 0, .int 0, .int 0])), (q_5, .inr (6, [.ref dk, .ref q1_6, .int 0]))] := hD
  have hP := hP.sub (ws' := [(h0, .inr (9, [.ref dk, .ref q_5, .ref q_1, .int 0, .int 0, .int 0]))]) [0] rfl
  have hD := hD.sub (ws' := [(h0, .inr (9, [.ref dk, .ref q_5, .ref q_1, .int 0, .int 0, .int 0]))]) [0] (by decide) rfl
  have hP9 := hP.sub (ws' := [(h0, .inr (9, [.ref dk, .ref q_5, .ref q_1, .int 0, .int 0, .int 0]))]) [0] rfl
  have hD9 := hD.sub (ws' := [(h0, .inr (9, [.ref dk, .ref q_5, .ref q_1, .int 0, .int 0, .int 0]))]) [0] (by decide) rfl
  have hK9 := hK.sub (tys' := []) [] rfl
  exact W.vret hx hb hr (fun t ht hW => ⟨⟨(), rfl, trivial, q_5, q_1, by rw [ht]; exact hP9, va_K.moved hW.alike hK9, hD9⟩, hS.F ht⟩) hS.2.2 d_Real_init_32

set_option maxHeartbeats 4000000 in
set_option maxRecDepth 100000 in
/-- Minors(desk) -/
theorem c_Minors_init (l : Launch) (dC : Nat → ClassId) (dI : Nat → Nat → Nat) (sz : Nat) (h0 : Nat) (dk : Nat)  : Met l y_Minors_init w_Minors_init ({ frames := 1, cells := 2, slots := 593, locals := 12 }) (va_Pc [.ref h0, .ref dk] (fun U => U.heap.size = sz ∧ va_P (dC, dI) classes [(h0, .inr (5, [.null, .null, .null]))] U.heap ∧ va_K (dC, dI) classes [] U ∧ va_D (fun _ => True) [(h0, .inr (5, [.null, .null, .null]))] ∧ nx_K U)) (va_Qv (fun _ : Unit => True) (fun _ t => ∃ (x_place : Nat), ∃ (x_minor : Nat), va_P (dC, dI) classes [(h0, .inr (5, [.ref dk, .ref x_place, .ref x_minor]))] t.heap ∧ va_K (dC, dI) classes [] t ∧ va_D (va_A [(h0, .inr (5, [.null, .null, .null]))] sz) [(h0, .inr (5, [.ref dk, .ref x_place, .ref x_minor]))]) (va_A [(h0, .inr (5, [.null, .null, .null]))] sz)) 2 593 (va_A [(h0, .inr (5, [.null, .null, .null]))] sz) := by
  refine Met.ofW (cc := b_Minors_init) (maxL := 2) (ret := none) (by decide) rfl ?_
  intro p e s m args below meth c s₁ B hml hv
  obtain ⟨rfl, hsz, hP, hK, hD0, hN⟩ := hv
  have hx := B.exec
  have hb := B.bytes
  have hr := B.returns
  have hT : ∀ w ∈ lw_g, w.before _ s = true := fun w h => atoms_spec (ws := w_Minors_init) B.pre w (List.mem_cons_of_mem _ h)
  have hown : s.vm.findClass R_Minors = some m.cls := findClass_of_methodNamed B.named
  have hlocks := B.notSynchronized
  have hin : meth.name = "<init>" := (name_of_methodNamed B.named B.method).1
  subst hsz
  have hD := hD0.self (sz := s.heap.size)
  generalize hAe : va_A [(h0, .inr (5, [.null, .null, .null]))] s.heap.size = A at hD ⊢
  have hA : ∀ q : Nat, s.heap.size ≤ q → A q := fun q h => by rw [← hAe]; exact Or.inr h
  have hS : va_S A s.heap s.heap [] := va_S.rf
  have hP : va_P (dC, dI) classes [(h0, .inr (5, [.null, .null, .null]))] s.heap := hP
  have hl := lv_entry ([.ref h0, .ref dk]) (n := 2) (Nat.le_of_ble_eq_true rfl)
  rw [lg_entry_eq]
  generalize (lg_sl ([.ref h0, .ref dk]) ++ List.replicate (2 - (lg_sl ([.ref h0, .ref dk])).length) Slot.unset).toArray = ls at hl ⊢
  have hl : lv_has ls 2 [(0, .ref h0), (1, .ref dk)] := hl
  refine lv_aload_n hx hb d_Minors_init_0 rfl (lv_at hl 0 rfl) ?_
  refine W.objInit hx hb hown (hT _ tw_416) (hT _ tw_24) (hT _ tw_25) rfl (by rw [hml]; exact hl.1) rfl d_Minors_init_1 (Nat.le_of_ble_eq_true rfl) (Nat.le_of_ble_eq_true rfl) ?_
  refine W.eq (g2 := F0 m 4 ls []) rfl ?_
  refine lv_aload_n hx hb d_Minors_init_4 rfl (lv_at hl 0 rfl) ?_
  refine lv_bipush (v := 81) hx hb d_Minors_init_5 (by decide) ?_
  refine va_newq hx hb hown (hT _ tw_417) hN.2.2.1 hK hP hD hS hA (by decide) rfl (by decide) (Nat.le_of_ble_eq_true rfl) (Nat.le_of_ble_eq_true rfl) d_Minors_init_7 (fun q_1 cA_2 H hK hP hD hS => ?_)
  have hP : va_P (dC, dI) classes [(h0, .inr (5, [.null, .null, .null])), (q_1, .inl (cA_2, 81, .inr (.inr (.inr (.inr (fun _ => none))))))] H := hP
  have hD : va_D A [(h0, .inr (5, [.null, .null, .null])), (q_1, .inl (cA_2, 81, .inr (.inr (.inr (.inr (fun _ => none))))))] := hD
  have hK : va_K (dC, dI) classes [(cA_2, .object "RealHouse$Poly")] s := hK
  refine W.widen (k := 1) (n := 81) (Nat.le_of_ble_eq_true rfl) (Nat.le_of_ble_eq_true rfl) ?_
  refine va_putF (D := (dC, dI)) (ci := 5) (v := .ref q_1) (ty := .array (.object "RealHouse$Poly")) (C := R_Minors) (T := F_Minors) (N := 3) hx hb hT i_Minors t_Minors t_Minors_ok n_Minors hown hK hP hD hS 0 rfl rfl 1 (by decide) (hT _ tw_419) (fun _ h9 => h9) rfl hin rfl (by decide +kernel) rfl rfl (Nat.le_of_ble_eq_true rfl) d_Minors_init_10 (fun H locs hP hD hS => ?_)
  have hP : va_P (dC, dI) classes [(h0, .inr (5, [.null, .ref q_1, .null])), (q_1, .inl (cA_2, 81, .inr (.inr (.inr (.inr (fun _ => none))))))] H := hP
  have hD : va_D A [(h0, .inr (5, [.null, .ref q_1, .null])), (q_1, .inl (cA_2, 81, .inr (.inr (.inr (.inr (fun _ => none))))))] := hD
  have hP := hP.sub (ws' := [(h0, .inr (5, [.null, .ref q_1, .null]))]) [0] rfl
  have hD := hD.sub (ws' := [(h0, .inr (5, [.null, .ref q_1, .null]))]) [0] (by decide) rfl
  have hK := hK.sub (tys' := []) [] rfl
  refine lv_aload_n hx hb d_Minors_init_13 rfl (lv_at hl 0 rfl) ?_
  refine lv_sipush (v := 512) hx hb d_Minors_init_14 (by decide) ?_
  refine va_newq hx hb hown (hT _ tw_417) hN.2.2.1 hK hP hD hS hA (by decide) rfl (by decide) (Nat.le_of_ble_eq_true rfl) (Nat.le_of_ble_eq_true rfl) d_Minors_init_17 (fun q_3 cA_4 H hK hP hD hS => ?_)
  have hP : va_P (dC, dI) classes [(h0, .inr (5, [.null, .ref q_1, .null])), (q_3, .inl (cA_4, 512, .inr (.inr (.inr (.inr (fun _ => none))))))] H := hP
  have hD : va_D A [(h0, .inr (5, [.null, .ref q_1, .null])), (q_3, .inl (cA_4, 512, .inr (.inr (.inr (.inr (fun _ => none))))))] := hD
  have hK : va_K (dC, dI) classes [(cA_4, .object "RealHouse$Poly")] s := hK
  refine W.widen (k := 2) (n := 593) (Nat.le_of_ble_eq_true rfl) (Nat.le_of_ble_eq_true rfl) ?_
  refine va_putF (D := (dC, dI)) (ci := 5) (v := .ref q_3) (ty := .array (.object "RealHouse$Poly")) (C := R_Minors) (T := F_Minors) (N := 3) hx hb hT i_Minors t_Minors t_Minors_ok n_Minors hown hK hP hD hS 0 rfl rfl 2 (by decide) (hT _ tw_420) (fun _ h9 => h9) rfl hin rfl (by decide +kernel) rfl rfl (Nat.le_of_ble_eq_true rfl) d_Minors_init_20 (fun H locs hP hD hS => ?_)
  have hP : va_P (dC, dI) classes [(h0, .inr (5, [.null, .ref q_1, .ref q_3])), (q_3, .inl (cA_4, 512, .inr (.inr (.inr (.inr (fun _ => none))))))] H := hP
  have hD : va_D A [(h0, .inr (5, [.null, .ref q_1, .ref q_3])), (q_3, .inl (cA_4, 512, .inr (.inr (.inr (.inr (fun _ => none))))))] := hD
  have hP := hP.sub (ws' := [(h0, .inr (5, [.null, .ref q_1, .ref q_3]))]) [0] rfl
  have hD := hD.sub (ws' := [(h0, .inr (5, [.null, .ref q_1, .ref q_3]))]) [0] (by decide) rfl
  have hK := hK.sub (tys' := []) [] rfl
  refine lv_aload_n hx hb d_Minors_init_23 rfl (lv_at hl 0 rfl) ?_
  refine lv_aload_n hx hb d_Minors_init_24 rfl (lv_at hl 1 rfl) ?_
  refine va_putF (D := (dC, dI)) (ci := 5) (v := .ref dk) (ty := .object "RealHouse$Desk") (C := R_Minors) (T := F_Minors) (N := 3) hx hb hT i_Minors t_Minors t_Minors_ok n_Minors hown hK hP hD hS 0 rfl rfl 0 (by decide) (hT _ tw_418) (fun _ h9 => h9) rfl hin rfl (by decide +kernel) rfl rfl (Nat.le_of_ble_eq_true rfl) d_Minors_init_25 (fun H locs hP hD hS => ?_)
  have hP : va_P (dC, dI) classes [(h0, .inr (5, [.ref dk, .ref q_1, .ref q_3]))] H := hP
  have hD : va_D A [(h0, .inr (5, [.ref dk, .ref q_1, .ref q_3]))] := hD
  have hP9 := hP.sub (ws' := [(h0, .inr (5, [.ref dk, .ref q_1, .ref q_3]))]) [0] rfl
  have hD9 := hD.sub (ws' := [(h0, .inr (5, [.ref dk, .ref q_1, .ref q_3]))]) [0] (by decide) rfl
  have hK9 := hK.sub (tys' := []) [] rfl
  exact W.vret hx hb hr (fun t ht hW => ⟨⟨(), rfl, trivial, q_1, q_3, by rw [ht]; exact hP9, va_K.moved hW.alike hK9, hD9⟩, hS.F ht⟩) hS.2.2 d_Minors_init_28

set_option maxHeartbeats 4000000 in
set_option maxRecDepth 100000 in
/-- Curve(desk, 4) -/
theorem c_Curve_init_4 (l : Launch) (dC : Nat → ClassId) (dI : Nat → Nat → Nat) (sz : Nat) (h0 : Nat) (dk : Nat)  : Met l y_Curve_init w_Curve_init ({ frames := 2, cells := 9, slots := 16, locals := 33 }) (va_Pc [.ref h0, .ref dk, .int 4] (fun U => U.heap.size = sz ∧ va_P (dC, dI) classes [(h0, .inr (2, [.null]))] U.heap ∧ va_K (dC, dI) classes [] U ∧ va_D (fun _ => True) [(h0, .inr (2, [.null]))] ∧ nx_K U)) (va_Qv (fun _ : Unit => True) (fun _ t => ∃ (x_c : Nat), va_P (dC, dI) classes [(h0, .inr (2, [.ref x_c]))] t.heap ∧ va_K (dC, dI) classes [] t ∧ va_D (va_A [(h0, .inr (2, [.null]))] sz) [(h0, .inr (2, [.ref x_c]))]) (va_A [(h0, .inr (2, [.null]))] sz)) 9 16 (va_A [(h0, .inr (2, [.null]))] sz) := by
  refine Met.ofW (cc := b_Curve_init) (maxL := 4) (ret := none) (by decide) rfl ?_
  intro p e s m args below meth c s₁ B hml hv
  obtain ⟨rfl, hsz, hP, hK, hD0, hN⟩ := hv
  have hx := B.exec
  have hb := B.bytes
  have hr := B.returns
  have hT : ∀ w ∈ lw_g, w.before _ s = true := fun w h => atoms_spec (ws := w_Curve_init) B.pre w (List.mem_cons_of_mem _ h)
  have hown : s.vm.findClass R_Curve = some m.cls := findClass_of_methodNamed B.named
  have hlocks := B.notSynchronized
  have hin : meth.name = "<init>" := (name_of_methodNamed B.named B.method).1
  subst hsz
  have hD := hD0.self (sz := s.heap.size)
  generalize hAe : va_A [(h0, .inr (2, [.null]))] s.heap.size = A at hD ⊢
  have hA : ∀ q : Nat, s.heap.size ≤ q → A q := fun q h => by rw [← hAe]; exact Or.inr h
  have hS : va_S A s.heap s.heap [] := va_S.rf
  have hP : va_P (dC, dI) classes [(h0, .inr (2, [.null]))] s.heap := hP
  have hl := lv_entry ([.ref h0, .ref dk, .int 4]) (n := 4) (Nat.le_of_ble_eq_true rfl)
  rw [lg_entry_eq]
  generalize (lg_sl ([.ref h0, .ref dk, .int 4]) ++ List.replicate (4 - (lg_sl ([.ref h0, .ref dk, .int 4])).length) Slot.unset).toArray = ls at hl ⊢
  have hl : lv_has ls 4 [(0, .ref h0), (1, .ref dk), (2, .int 4)] := hl
  refine lv_aload_n hx hb d_Curve_init_0 rfl (lv_at hl 0 rfl) ?_
  refine W.objInit hx hb hown (hT _ tw_188) (hT _ tw_24) (hT _ tw_25) rfl (by rw [hml]; exact hl.1) rfl d_Curve_init_1 (Nat.le_of_ble_eq_true rfl) (Nat.le_of_ble_eq_true rfl) ?_
  refine W.eq (g2 := F0 m 4 ls []) rfl ?_
  refine lv_aload_n hx hb d_Curve_init_4 rfl (lv_at hl 0 rfl) ?_
  refine lv_iload_n hx hb d_Curve_init_5 rfl (lv_at hl 2 rfl) ?_
  refine va_newq hx hb hown (hT _ tw_189) hN.2.2.1 hK hP hD hS hA (by decide) rfl (by decide) (Nat.le_of_ble_eq_true rfl) (Nat.le_of_ble_eq_true rfl) d_Curve_init_6 (fun q_1 cA_2 H hK hP hD hS => ?_)
  have hP : va_P (dC, dI) classes [(h0, .inr (2, [.null])), (q_1, .inl (cA_2, 4, .inr (.inr (.inr (.inr (fun _ => none))))))] H := hP
  have hD : va_D A [(h0, .inr (2, [.null])), (q_1, .inl (cA_2, 4, .inr (.inr (.inr (.inr (fun _ => none))))))] := hD
  have hK : va_K (dC, dI) classes [(cA_2, .object "RealHouse$Poly")] s := hK
  refine W.widen (k := 1) (n := 4) (Nat.le_of_ble_eq_true rfl) (Nat.le_of_ble_eq_true rfl) ?_
  refine va_putF (D := (dC, dI)) (ci := 2) (v := .ref q_1) (ty := .array (.object "RealHouse$Poly")) (C := R_Curve) (T := F_Curve) (N := 1) hx hb hT i_Curve t_Curve t_Curve_ok n_Curve hown hK hP hD hS 0 rfl rfl 0 (by decide) (hT _ tw_224) (fun _ h9 => h9) rfl hin rfl (by decide +kernel) rfl rfl (Nat.le_of_ble_eq_true rfl) d_Curve_init_9 (fun H locs hP hD hS => ?_)
  have hP : va_P (dC, dI) classes [(h0, .inr (2, [.ref q_1])), (q_1, .inl (cA_2, 4, .inr (.inr (.inr (.inr (fun _ => none))))))] H := hP
  have hD : va_D A [(h0, .inr (2, [.ref q_1])), (q_1, .inl (cA_2, 4, .inr (.inr (.inr (.inr (fun _ => none))))))] := hD
  refine lv_iconst (v := 0) hx hb d_Curve_init_12 (by decide) ?_
  refine lv_istore_n (lv' := [(3, .int 0), (0, .ref h0), (1, .ref dk), (2, .int 4)]) hx hb d_Curve_init_13 rfl hl (by decide) rfl (fun ls hl => ?_)
  refine lv_iload_n hx hb d_Curve_init_14 rfl (lv_at hl 0 rfl) ?_
  refine lv_iload_n hx hb d_Curve_init_15 rfl (lv_at hl 3 rfl) ?_
  refine lv_icmp_ge (tgt := 39) hx hb d_Curve_init_16 (by decide) (fun c_3 => absurd c_3 (by decide)) (fun c_3 => ?_)
  refine lv_aload_n hx hb d_Curve_init_19 rfl (lv_at hl 1 rfl) ?_
  refine va_get (D := (dC, dI)) (ci := 2) (v := .ref q_1) (C := R_Curve) (T := F_Curve) (N := 1) hx hb hT i_Curve hown hK hP 0 rfl rfl 0 (by decide) (hT _ tw_224) (fun _ h9 => h9) rfl d_Curve_init_20 ?_
  refine lv_iload_n hx hb d_Curve_init_23 rfl (lv_at hl 0 rfl) ?_
  refine va_new (ci := 6) (fs := [.null, .null, .int 0]) (C := R_Poly) (T := F_Poly) (N := 3) hx hb hT i_Poly t_Poly t_Poly_ok hown (hT _ tw_189) (hT _ tw_190) (hT _ tw_8) hK hP hD hS hA rfl (by decide) (Nat.le_of_ble_eq_true rfl) (Nat.le_of_ble_eq_true rfl) d_Curve_init_24 (fun q_4 H hP hD hS => ?_)
  have hP : va_P (dC, dI) classes [(h0, .inr (2, [.ref q_1])), (q_1, .inl (cA_2, 4, .inr (.inr (.inr (.inr (fun _ => none)))))), (q_4, .inr (6, [.null, .null, .int 0]))] H := hP
  have hD : va_D A [(h0, .inr (2, [.ref q_1])), (q_1, .inl (cA_2, 4, .inr (.inr (.inr (.inr (fun _ => none)))))), (q_4, .inr (6, [.null, .null, .int 0]))] := hD
  refine W.widen (k := 2) (n := 7) (Nat.le_of_ble_eq_true rfl) (Nat.le_of_ble_eq_true rfl) ?_
  refine lv_dup hx hb d_Curve_init_27 rfl ?_
  refine lv_aload_n hx hb d_Curve_init_28 rfl (lv_at hl 2 rfl) ?_
  have hPc := hP.sub (ws' := [(q_4, .inr (6, [.null, .null, .int 0]))]) [2] rfl
  have hDc := hD.sub (ws' := [(q_4, .inr (6, [.null, .null, .int 0]))]) [2] (by decide) rfl
  have hKc := hK.sub (tys' := []) [] rfl
  have hFc := va_free (wc := [(q_4, .inr (6, [.null, .null, .int 0]))]) hD hS hA [2] rfl
  refine va_callv (va_runI (As := [.ref dk]) (rest := [.ref q_4, .int 0, .ref q_1]) ⟨hx, hb, hml, hown, hT⟩ (c_Poly_init l dC dI H.size q_4 dk ) (cwI 1 hT g_Poly_init rfl rfl rfl (hT _ tw_8) (hT _ tw_191) (hT _ tw_192) rfl (by decide +kernel) ⟨Nat.le_of_ble_eq_true rfl, Nat.le_of_ble_eq_true rfl⟩) ⟨fun a U g mk q => by obtain ⟨q0, q1, qP, qK, qD, qN⟩ := q; exact ⟨q0, q1, qP, va_K.moved (u := U) (U := U.calling g mk a) (Vm.Alike.refl U.vm) qK, qD, nx_K.same (u := U) (U := U.calling g mk a) rfl qN⟩, fun U hU hW => ⟨rfl, by rw [hU], by rw [hU]; exact hPc, va_K.moved hW.alike hKc, hDc.weaken (fun _ _ _ _ => trivial), nx_K.warm hW hN⟩⟩ rfl rfl hl.1 rfl (lv_room (Nat.le_of_ble_eq_true rfl)) d_Curve_init_29 ⟨Nat.le_of_ble_eq_true rfl, Nat.le_of_ble_eq_true rfl⟩) hS (fun q _ h => hFc q h) hFc (fun u t H1 locs ht hvm hw hB hz1 hk1 hS => ?_)
  obtain ⟨q1_5, hP1, hK1, hD1⟩ := hB
  rw [ht] at hP1
  have hK1 := va_K.moved hvm.symm hK1
  obtain ⟨hP, hD⟩ := va_join (wr := [(h0, .inr (2, [.ref q_1])), (q_1, .inl (cA_2, 4, .inr (.inr (.inr (.inr (fun _ => none))))))]) (w1 := [(q_4, .inr (6, [.ref dk, .ref q1_5, .int 0]))]) hP hD [2] [0, 1] rfl rfl (by decide) (by decide) hk1 hFc hP1 hD1
  have hK := (hK.sub (tys' := [(cA_2, .object "RealHouse$Poly")]) [0] rfl).app hK1
  generalize H1 = H at hP hS ⊢
  have hP : va_P (dC, dI) classes [(h0, .inr (2, [.ref q_1])), (q_1, .inl (cA_2, 4, .inr (.inr (.inr (.inr (fun _ => none)))))), (q_4, .inr (6, [.ref dk, .ref q1_5, .int 0]))] H := hP
  have hD : va_D A [(h0, .inr (2, [.ref q_1])), (q_1, .inl (cA_2, 4, .inr (.inr (.inr (.inr (fun _ => none)))))), (q_4, .inr (6, [.ref dk, .ref q1_5, .int 0]))] := hD
  have hK : va_K (dC, dI) classes [(cA_2, .object "RealHouse$Poly")] s := hK
  refine W.widen (k := 3) (n := 7) (Nat.le_of_ble_eq_true rfl) (Nat.le_of_ble_eq_true rfl) ?_
  refine va_astq (r := (R_Poly, F_Poly, 3)) hx hb hK hP hD hS 1 0 2 6 rfl rfl rfl rfl (vp_in_nI (n := 0) (by decide) (by decide)) d_Curve_init_32 (fun H locs hP hD hS => ?_)
  have hP : va_P (dC, dI) classes [(h0, .inr (2, [.ref q_1])), (q_1, .inl (cA_2, 4, .inr (.inr (.inr (.inr (va_up (fun _ => none) (0 : Int32).toNatClampNeg (some q_4))))))), (q_4, .inr (6, [.ref dk, .ref q1_5, .int 0]))] H := hP
  have hD : va_D A [(h0, .inr (2, [.ref q_1])), (q_1, .inl (cA_2, 4, .inr (.inr (.inr (.inr (va_up (fun _ => none) (0 : Int32).toNatClampNeg (some q_4))))))), (q_4, .inr (6, [.ref dk, .ref q1_5, .int 0]))] := hD
  generalize va_up (fun _ => none) (0 : Int32).toNatClampNeg (some q_4) = f_6 at hP hD
  have hP := hP.sub (ws' := [(h0, .inr (2, [.ref q_1])), (q_1, .inl (cA_2, 4, .inr (.inr (.inr (.inr f_6)))))]) [0, 1] rfl
  have hD := hD.sub (ws' := [(h0, .inr (2, [.ref q_1])), (q_1, .inl (cA_2, 4, .inr (.inr (.inr (.inr f_6)))))]) [0, 1] (by decide) rfl
  refine lv_iinc (v := 1) (lv' := [(3, .int 1), (0, .ref h0), (1, .ref dk), (2, .int 4)]) hx hb d_Curve_init_33 hl (k := 0) rfl (by decide) (by decide) rfl (fun ls hl => ?_)
  refine lv_goto (tgt := 14) hx hb d_Curve_init_36 (by decide) ?_
  refine lv_iload_n hx hb d_Curve_init_14 rfl (lv_at hl 0 rfl) ?_
  refine lv_iload_n hx hb d_Curve_init_15 rfl (lv_at hl 3 rfl) ?_
  refine lv_icmp_ge (tgt := 39) hx hb d_Curve_init_16 (by decide) (fun c_7 => absurd c_7 (by decide)) (fun c_7 => ?_)
  refine lv_aload_n hx hb d_Curve_init_19 rfl (lv_at hl 1 rfl) ?_
  refine va_get (D := (dC, dI)) (ci := 2) (v := .ref q_1) (C := R_Curve) (T := F_Curve) (N := 1) hx hb hT i_Curve hown hK hP 0 rfl rfl 0 (by decide) (hT _ tw_224) (fun _ h9 => h9) rfl d_Curve_init_20 ?_
  refine lv_iload_n hx hb d_Curve_init_23 rfl (lv_at hl 0 rfl) ?_
  refine va_new (ci := 6) (fs := [.null, .null, .int 0]) (C := R_Poly) (T := F_Poly) (N := 3) hx hb hT i_Poly t_Poly t_Poly_ok hown (hT _ tw_189) (hT _ tw_190) (hT _ tw_8) hK hP hD hS hA rfl (by decide) (Nat.le_of_ble_eq_true rfl) (Nat.le_of_ble_eq_true rfl) d_Curve_init_24 (fun q_8 H hP hD hS => ?_)
  have hP : va_P (dC, dI) classes [(h0, .inr (2, [.ref q_1])), (q_1, .inl (cA_2, 4, .inr (.inr (.inr (.inr f_6))))), (q_8, .inr (6, [.null, .null, .int 0]))] H := hP
  have hD : va_D A [(h0, .inr (2, [.ref q_1])), (q_1, .inl (cA_2, 4, .inr (.inr (.inr (.inr f_6))))), (q_8, .inr (6, [.null, .null, .int 0]))] := hD
  refine W.widen (k := 4) (n := 10) (Nat.le_of_ble_eq_true rfl) (Nat.le_of_ble_eq_true rfl) ?_
  refine lv_dup hx hb d_Curve_init_27 rfl ?_
  refine lv_aload_n hx hb d_Curve_init_28 rfl (lv_at hl 2 rfl) ?_
  have hPc := hP.sub (ws' := [(q_8, .inr (6, [.null, .null, .int 0]))]) [2] rfl
  have hDc := hD.sub (ws' := [(q_8, .inr (6, [.null, .null, .int 0]))]) [2] (by decide) rfl
  have hKc := hK.sub (tys' := []) [] rfl
  have hFc := va_free (wc := [(q_8, .inr (6, [.null, .null, .int 0]))]) hD hS hA [2] rfl
  refine va_callv (va_runI (As := [.ref dk]) (rest := [.ref q_8, .int 1, .ref q_1]) ⟨hx, hb, hml, hown, hT⟩ (c_Poly_init l dC dI H.size q_8 dk ) (cwI 1 hT g_Poly_init rfl rfl rfl (hT _ tw_8) (hT _ tw_191) (hT _ tw_192) rfl (by decide +kernel) ⟨Nat.le_of_ble_eq_true rfl, Nat.le_of_ble_eq_true rfl⟩) ⟨fun a U g mk q => by obtain ⟨q0, q1, qP, qK, qD, qN⟩ := q; exact ⟨q0, q1, qP, va_K.moved (u := U) (U := U.calling g mk a) (Vm.Alike.refl U.vm) qK, qD, nx_K.same (u := U) (U := U.calling g mk a) rfl qN⟩, fun U hU hW => ⟨rfl, by rw [hU], by rw [hU]; exact hPc, va_K.moved hW.alike hKc, hDc.weaken (fun _ _ _ _ => trivial), nx_K.warm hW hN⟩⟩ rfl rfl hl.1 rfl (lv_room (Nat.le_of_ble_eq_true rfl)) d_Curve_init_29 ⟨Nat.le_of_ble_eq_true rfl, Nat.le_of_ble_eq_true rfl⟩) hS (fun q _ h => hFc q h) hFc (fun u t H1 locs ht hvm hw hB hz1 hk1 hS => ?_)
  obtain ⟨q1_9, hP1, hK1, hD1⟩ := hB
  rw [ht] at hP1
  have hK1 := va_K.moved hvm.symm hK1
  obtain ⟨hP, hD⟩ := va_join (wr := [(h0, .inr (2, [.ref q_1])), (q_1, .inl (cA_2, 4, .inr (.inr (.inr (.inr f_6)))))]) (w1 := [(q_8, .inr (6, [.ref dk, .ref q1_9, .int 0]))]) hP hD [2] [0, 1] rfl rfl (by decide) (by decide) hk1 hFc hP1 hD1
  have hK := (hK.sub (tys' := [(cA_2, .object "RealHouse$Poly")]) [0] rfl).app hK1
  generalize H1 = H at hP hS ⊢
  have hP : va_P (dC, dI) classes [(h0, .inr (2, [.ref q_1])), (q_1, .inl (cA_2, 4, .inr (.inr (.inr (.inr f_6))))), (q_8, .inr (6, [.ref dk, .ref q1_9, .int 0]))] H := hP
  have hD : va_D A [(h0, .inr (2, [.ref q_1])), (q_1, .inl (cA_2, 4, .inr (.inr (.inr (.inr f_6))))), (q_8, .inr (6, [.ref dk, .ref q1_9, .int 0]))] := hD
  have hK : va_K (dC, dI) classes [(cA_2, .object "RealHouse$Poly")] s := hK
  refine W.widen (k := 5) (n := 10) (Nat.le_of_ble_eq_true rfl) (Nat.le_of_ble_eq_true rfl) ?_
  refine va_astq (r := (R_Poly, F_Poly, 3)) hx hb hK hP hD hS 1 0 2 6 rfl rfl rfl rfl (vp_in_nI (n := 1) (by decide) (by decide)) d_Curve_init_32 (fun H locs hP hD hS => ?_)
  have hP : va_P (dC, dI) classes [(h0, .inr (2, [.ref q_1])), (q_1, .inl (cA_2, 4, .inr (.inr (.inr (.inr (va_up f_6 (1 : Int32).toNatClampNeg (some q_8))))))), (q_8, .inr (6, [.ref dk, .ref q1_9, .int 0]))] H := hP
  have hD : va_D A [(h0, .inr (2, [.ref q_1])), (q_1, .inl (cA_2, 4, .inr (.inr (.inr (.inr (va_up f_6 (1 : Int32).toNatClampNeg (some q_8))))))), (q_8, .inr (6, [.ref dk, .ref q1_9, .int 0]))] := hD
  generalize va_up f_6 (1 : Int32).toNatClampNeg (some q_8) = f_10 at hP hD
  have hP := hP.sub (ws' := [(h0, .inr (2, [.ref q_1])), (q_1, .inl (cA_2, 4, .inr (.inr (.inr (.inr f_10)))))]) [0, 1] rfl
  have hD := hD.sub (ws' := [(h0, .inr (2, [.ref q_1])), (q_1, .inl (cA_2, 4, .inr (.inr (.inr (.inr f_10)))))]) [0, 1] (by decide) rfl
  refine lv_iinc (v := 2) (lv' := [(3, .int 2), (0, .ref h0), (1, .ref dk), (2, .int 4)]) hx hb d_Curve_init_33 hl (k := 0) rfl (by decide) (by decide) rfl (fun ls hl => ?_)
  refine lv_goto (tgt := 14) hx hb d_Curve_init_36 (by decide) ?_
  refine lv_iload_n hx hb d_Curve_init_14 rfl (lv_at hl 0 rfl) ?_
  refine lv_iload_n hx hb d_Curve_init_15 rfl (lv_at hl 3 rfl) ?_
  refine lv_icmp_ge (tgt := 39) hx hb d_Curve_init_16 (by decide) (fun c_11 => absurd c_11 (by decide)) (fun c_11 => ?_)
  refine lv_aload_n hx hb d_Curve_init_19 rfl (lv_at hl 1 rfl) ?_
  refine va_get (D := (dC, dI)) (ci := 2) (v := .ref q_1) (C := R_Curve) (T := F_Curve) (N := 1) hx hb hT i_Curve hown hK hP 0 rfl rfl 0 (by decide) (hT _ tw_224) (fun _ h9 => h9) rfl d_Curve_init_20 ?_
  refine lv_iload_n hx hb d_Curve_init_23 rfl (lv_at hl 0 rfl) ?_
  refine va_new (ci := 6) (fs := [.null, .null, .int 0]) (C := R_Poly) (T := F_Poly) (N := 3) hx hb hT i_Poly t_Poly t_Poly_ok hown (hT _ tw_189) (hT _ tw_190) (hT _ tw_8) hK hP hD hS hA rfl (by decide) (Nat.le_of_ble_eq_true rfl) (Nat.le_of_ble_eq_true rfl) d_Curve_init_24 (fun q_12 H hP hD hS => ?_)
  have hP : va_P (dC, dI) classes [(h0, .inr (2, [.ref q_1])), (q_1, .inl (cA_2, 4, .inr (.inr (.inr (.inr f_10))))), (q_12, .inr (6, [.null, .null, .int 0]))] H := hP
  have hD : va_D A [(h0, .inr (2, [.ref q_1])), (q_1, .inl (cA_2, 4, .inr (.inr (.inr (.inr f_10))))), (q_12, .inr (6, [.null, .null, .int 0]))] := hD
  refine W.widen (k := 6) (n := 13) (Nat.le_of_ble_eq_true rfl) (Nat.le_of_ble_eq_true rfl) ?_
  refine lv_dup hx hb d_Curve_init_27 rfl ?_
  refine lv_aload_n hx hb d_Curve_init_28 rfl (lv_at hl 2 rfl) ?_
  have hPc := hP.sub (ws' := [(q_12, .inr (6, [.null, .null, .int 0]))]) [2] rfl
  have hDc := hD.sub (ws' := [(q_12, .inr (6, [.null, .null, .int 0]))]) [2] (by decide) rfl
  have hKc := hK.sub (tys' := []) [] rfl
  have hFc := va_free (wc := [(q_12, .inr (6, [.null, .null, .int 0]))]) hD hS hA [2] rfl
  refine va_callv (va_runI (As := [.ref dk]) (rest := [.ref q_12, .int 2, .ref q_1]) ⟨hx, hb, hml, hown, hT⟩ (c_Poly_init l dC dI H.size q_12 dk ) (cwI 1 hT g_Poly_init rfl rfl rfl (hT _ tw_8) (hT _ tw_191) (hT _ tw_192) rfl (by decide +kernel) ⟨Nat.le_of_ble_eq_true rfl, Nat.le_of_ble_eq_true rfl⟩) ⟨fun a U g mk q => by obtain ⟨q0, q1, qP, qK, qD, qN⟩ := q; exact ⟨q0, q1, qP, va_K.moved (u := U) (U := U.calling g mk a) (Vm.Alike.refl U.vm) qK, qD, nx_K.same (u := U) (U := U.calling g mk a) rfl qN⟩, fun U hU hW => ⟨rfl, by rw [hU], by rw [hU]; exact hPc, va_K.moved hW.alike hKc, hDc.weaken (fun _ _ _ _ => trivial), nx_K.warm hW hN⟩⟩ rfl rfl hl.1 rfl (lv_room (Nat.le_of_ble_eq_true rfl)) d_Curve_init_29 ⟨Nat.le_of_ble_eq_true rfl, Nat.le_of_ble_eq_true rfl⟩) hS (fun q _ h => hFc q h) hFc (fun u t H1 locs ht hvm hw hB hz1 hk1 hS => ?_)
  obtain ⟨q1_13, hP1, hK1, hD1⟩ := hB
  rw [ht] at hP1
  have hK1 := va_K.moved hvm.symm hK1
  obtain ⟨hP, hD⟩ := va_join (wr := [(h0, .inr (2, [.ref q_1])), (q_1, .inl (cA_2, 4, .inr (.inr (.inr (.inr f_10)))))]) (w1 := [(q_12, .inr (6, [.ref dk, .ref q1_13, .int 0]))]) hP hD [2] [0, 1] rfl rfl (by decide) (by decide) hk1 hFc hP1 hD1
  have hK := (hK.sub (tys' := [(cA_2, .object "RealHouse$Poly")]) [0] rfl).app hK1
  generalize H1 = H at hP hS ⊢
  have hP : va_P (dC, dI) classes [(h0, .inr (2, [.ref q_1])), (q_1, .inl (cA_2, 4, .inr (.inr (.inr (.inr f_10))))), (q_12, .inr (6, [.ref dk, .ref q1_13, .int 0]))] H := hP
  have hD : va_D A [(h0, .inr (2, [.ref q_1])), (q_1, .inl (cA_2, 4, .inr (.inr (.inr (.inr f_10))))), (q_12, .inr (6, [.ref dk, .ref q1_13, .int 0]))] := hD
  have hK : va_K (dC, dI) classes [(cA_2, .object "RealHouse$Poly")] s := hK
  refine W.widen (k := 7) (n := 13) (Nat.le_of_ble_eq_true rfl) (Nat.le_of_ble_eq_true rfl) ?_
  refine va_astq (r := (R_Poly, F_Poly, 3)) hx hb hK hP hD hS 1 0 2 6 rfl rfl rfl rfl (vp_in_nI (n := 2) (by decide) (by decide)) d_Curve_init_32 (fun H locs hP hD hS => ?_)
  have hP : va_P (dC, dI) classes [(h0, .inr (2, [.ref q_1])), (q_1, .inl (cA_2, 4, .inr (.inr (.inr (.inr (va_up f_10 (2 : Int32).toNatClampNeg (some q_12))))))), (q_12, .inr (6, [.ref dk, .ref q1_13, .int 0]))] H := hP
  have hD : va_D A [(h0, .inr (2, [.ref q_1])), (q_1, .inl (cA_2, 4, .inr (.inr (.inr (.inr (va_up f_10 (2 : Int32).toNatClampNeg (some q_12))))))), (q_12, .inr (6, [.ref dk, .ref q1_13, .int 0]))] := hD
  generalize va_up f_10 (2 : Int32).toNatClampNeg (some q_12) = f_14 at hP hD
  have hP := hP.sub (ws' := [(h0, .inr (2, [.ref q_1])), (q_1, .inl (cA_2, 4, .inr (.inr (.inr (.inr f_14)))))]) [0, 1] rfl
  have hD := hD.sub (ws' := [(h0, .inr (2, [.ref q_1])), (q_1, .inl (cA_2, 4, .inr (.inr (.inr (.inr f_14)))))]) [0, 1] (by decide) rfl
  refine lv_iinc (v := 3) (lv' := [(3, .int 3), (0, .ref h0), (1, .ref dk), (2, .int 4)]) hx hb d_Curve_init_33 hl (k := 0) rfl (by decide) (by decide) rfl (fun ls hl => ?_)
  refine lv_goto (tgt := 14) hx hb d_Curve_init_36 (by decide) ?_
  refine lv_iload_n hx hb d_Curve_init_14 rfl (lv_at hl 0 rfl) ?_
  refine lv_iload_n hx hb d_Curve_init_15 rfl (lv_at hl 3 rfl) ?_
  refine lv_icmp_ge (tgt := 39) hx hb d_Curve_init_16 (by decide) (fun c_15 => absurd c_15 (by decide)) (fun c_15 => ?_)
  refine lv_aload_n hx hb d_Curve_init_19 rfl (lv_at hl 1 rfl) ?_
  refine va_get (D := (dC, dI)) (ci := 2) (v := .ref q_1) (C := R_Curve) (T := F_Curve) (N := 1) hx hb hT i_Curve hown hK hP 0 rfl rfl 0 (by decide) (hT _ tw_224) (fun _ h9 => h9) rfl d_Curve_init_20 ?_
  refine lv_iload_n hx hb d_Curve_init_23 rfl (lv_at hl 0 rfl) ?_
  refine va_new (ci := 6) (fs := [.null, .null, .int 0]) (C := R_Poly) (T := F_Poly) (N := 3) hx hb hT i_Poly t_Poly t_Poly_ok hown (hT _ tw_189) (hT _ tw_190) (hT _ tw_8) hK hP hD hS hA rfl (by decide) (Nat.le_of_ble_eq_true rfl) (Nat.le_of_ble_eq_true rfl) d_Curve_init_24 (fun q_16 H hP hD hS => ?_)
  have hP : va_P (dC, dI) classes [(h0, .inr (2, [.ref q_1])), (q_1, .inl (cA_2, 4, .inr (.inr (.inr (.inr f_14))))), (q_16, .inr (6, [.null, .null, .int 0]))] H := hP
  have hD : va_D A [(h0, .inr (2, [.ref q_1])), (q_1, .inl (cA_2, 4, .inr (.inr (.inr (.inr f_14))))), (q_16, .inr (6, [.null, .null, .int 0]))] := hD
  refine W.widen (k := 8) (n := 16) (Nat.le_of_ble_eq_true rfl) (Nat.le_of_ble_eq_true rfl) ?_
  refine lv_dup hx hb d_Curve_init_27 rfl ?_
  refine lv_aload_n hx hb d_Curve_init_28 rfl (lv_at hl 2 rfl) ?_
  have hPc := hP.sub (ws' := [(q_16, .inr (6, [.null, .null, .int 0]))]) [2] rfl
  have hDc := hD.sub (ws' := [(q_16, .inr (6, [.null, .null, .int 0]))]) [2] (by decide) rfl
  have hKc := hK.sub (tys' := []) [] rfl
  have hFc := va_free (wc := [(q_16, .inr (6, [.null, .null, .int 0]))]) hD hS hA [2] rfl
  refine va_callv (va_runI (As := [.ref dk]) (rest := [.ref q_16, .int 3, .ref q_1]) ⟨hx, hb, hml, hown, hT⟩ (c_Poly_init l dC dI H.size q_16 dk ) (cwI 1 hT g_Poly_init rfl rfl rfl (hT _ tw_8) (hT _ tw_191) (hT _ tw_192) rfl (by decide +kernel) ⟨Nat.le_of_ble_eq_true rfl, Nat.le_of_ble_eq_true rfl⟩) ⟨fun a U g mk q => by obtain ⟨q0, q1, qP, qK, qD, qN⟩ := q; exact ⟨q0, q1, qP, va_K.moved (u := U) (U := U.calling g mk a) (Vm.Alike.refl U.vm) qK, qD, nx_K.same (u := U) (U := U.calling g mk a) rfl qN⟩, fun U hU hW => ⟨rfl, by rw [hU], by rw [hU]; exact hPc, va_K.moved hW.alike hKc, hDc.weaken (fun _ _ _ _ => trivial), nx_K.warm hW hN⟩⟩ rfl rfl hl.1 rfl (lv_room (Nat.le_of_ble_eq_true rfl)) d_Curve_init_29 ⟨Nat.le_of_ble_eq_true rfl, Nat.le_of_ble_eq_true rfl⟩) hS (fun q _ h => hFc q h) hFc (fun u t H1 locs ht hvm hw hB hz1 hk1 hS => ?_)
  obtain ⟨q1_17, hP1, hK1, hD1⟩ := hB
  rw [ht] at hP1
  have hK1 := va_K.moved hvm.symm hK1
  obtain ⟨hP, hD⟩ := va_join (wr := [(h0, .inr (2, [.ref q_1])), (q_1, .inl (cA_2, 4, .inr (.inr (.inr (.inr f_14)))))]) (w1 := [(q_16, .inr (6, [.ref dk, .ref q1_17, .int 0]))]) hP hD [2] [0, 1] rfl rfl (by decide) (by decide) hk1 hFc hP1 hD1
  have hK := (hK.sub (tys' := [(cA_2, .object "RealHouse$Poly")]) [0] rfl).app hK1
  generalize H1 = H at hP hS ⊢
  have hP : va_P (dC, dI) classes [(h0, .inr (2, [.ref q_1])), (q_1, .inl (cA_2, 4, .inr (.inr (.inr (.inr f_14))))), (q_16, .inr (6, [.ref dk, .ref q1_17, .int 0]))] H := hP
  have hD : va_D A [(h0, .inr (2, [.ref q_1])), (q_1, .inl (cA_2, 4, .inr (.inr (.inr (.inr f_14))))), (q_16, .inr (6, [.ref dk, .ref q1_17, .int 0]))] := hD
  have hK : va_K (dC, dI) classes [(cA_2, .object "RealHouse$Poly")] s := hK
  refine W.widen (k := 9) (n := 16) (Nat.le_of_ble_eq_true rfl) (Nat.le_of_ble_eq_true rfl) ?_
  refine va_astq (r := (R_Poly, F_Poly, 3)) hx hb hK hP hD hS 1 0 2 6 rfl rfl rfl rfl (vp_in_nI (n := 3) (by decide) (by decide)) d_Curve_init_32 (fun H locs hP hD hS => ?_)
  have hP : va_P (dC, dI) classes [(h0, .inr (2, [.ref q_1])), (q_1, .inl (cA_2, 4, .inr (.inr (.inr (.inr (va_up f_14 (3 : Int32).toNatClampNeg (some q_16))))))), (q_16, .inr (6, [.ref dk, .ref q1_17, .int 0]))] H := hP
  have hD : va_D A [(h0, .inr (2, [.ref q_1])), (q_1, .inl (cA_2, 4, .inr (.inr (.inr (.inr (va_up f_14 (3 : Int32).toNatClampNeg (some q_16))))))), (q_16, .inr (6, [.ref dk, .ref q1_17, .int 0]))] := hD
  generalize va_up f_14 (3 : Int32).toNatClampNeg (some q_16) = f_18 at hP hD
  have hP := hP.sub (ws' := [(h0, .inr (2, [.ref q_1])), (q_1, .inl (cA_2, 4, .inr (.inr (.inr (.inr f_18)))))]) [0, 1] rfl
  have hD := hD.sub (ws' := [(h0, .inr (2, [.ref q_1])), (q_1, .inl (cA_2, 4, .inr (.inr (.inr (.inr f_18)))))]) [0, 1] (by decide) rfl
  refine lv_iinc (v := 4) (lv' := [(3, .int 4), (0, .ref h0), (1, .ref dk), (2, .int 4)]) hx hb d_Curve_init_33 hl (k := 0) rfl (by decide) (by decide) rfl (fun ls hl => ?_)
  refine lv_goto (tgt := 14) hx hb d_Curve_init_36 (by decide) ?_
  refine lv_iload_n hx hb d_Curve_init_14 rfl (lv_at hl 0 rfl) ?_
  refine lv_iload_n hx hb d_Curve_init_15 rfl (lv_at hl 3 rfl) ?_
  refine lv_icmp_ge (tgt := 39) hx hb d_Curve_init_16 (by decide) (fun c_19 => ?_) (fun c_19 => absurd (by decide) c_19)
  have hP9 := hP.sub (ws' := [(h0, .inr (2, [.ref q_1]))]) [0] rfl
  have hD9 := hD.sub (ws' := [(h0, .inr (2, [.ref q_1]))]) [0] (by decide) rfl
  have hK9 := hK.sub (tys' := []) [] rfl
  exact W.vret hx hb hr (fun t ht hW => ⟨⟨(), rfl, trivial, q_1, by rw [ht]; exact hP9, va_K.moved hW.alike hK9, hD9⟩, hS.F ht⟩) hS.2.2 d_Curve_init_39

set_option maxHeartbeats 4000000 in
set_option maxRecDepth 100000 in
/-- Curve(desk, 10) -/
theorem c_Curve_init_10 (l : Launch) (dC : Nat → ClassId) (dI : Nat → Nat → Nat) (sz : Nat) (h0 : Nat) (dk : Nat)  : Met l y_Curve_init w_Curve_init ({ frames := 2, cells := 21, slots := 40, locals := 33 }) (va_Pc [.ref h0, .ref dk, .int 10] (fun U => U.heap.size = sz ∧ va_P (dC, dI) classes [(h0, .inr (2, [.null]))] U.heap ∧ va_K (dC, dI) classes [] U ∧ va_D (fun _ => True) [(h0, .inr (2, [.null]))] ∧ nx_K U)) (va_Qv (fun _ : Unit => True) (fun _ t => ∃ (x_c : Nat), va_P (dC, dI) classes [(h0, .inr (2, [.ref x_c]))] t.heap ∧ va_K (dC, dI) classes [] t ∧ va_D (va_A [(h0, .inr (2, [.null]))] sz) [(h0, .inr (2, [.ref x_c]))]) (va_A [(h0, .inr (2, [.null]))] sz)) 21 40 (va_A [(h0, .inr (2, [.null]))] sz) := by
  refine Met.ofW (cc := b_Curve_init) (maxL := 4) (ret := none) (by decide) rfl ?_
  intro p e s m args below meth c s₁ B hml hv
  obtain ⟨rfl, hsz, hP, hK, hD0, hN⟩ := hv
  have hx := B.exec
  have hb := B.bytes
  have hr := B.returns
  have hT : ∀ w ∈ lw_g, w.before _ s = true := fun w h => atoms_spec (ws := w_Curve_init) B.pre w (List.mem_cons_of_mem _ h)
  have hown : s.vm.findClass R_Curve = some m.cls := findClass_of_methodNamed B.named
  have hlocks := B.notSynchronized
  have hin : meth.name = "<init>" := (name_of_methodNamed B.named B.method).1
  subst hsz
  have hD := hD0.self (sz := s.heap.size)
  generalize hAe : va_A [(h0, .inr (2, [.null]))] s.heap.size = A at hD ⊢
  have hA : ∀ q : Nat, s.heap.size ≤ q → A q := fun q h => by rw [← hAe]; exact Or.inr h
  have hS : va_S A s.heap s.heap [] := va_S.rf
  have hP : va_P (dC, dI) classes [(h0, .inr (2, [.null]))] s.heap := hP
  have hl := lv_entry ([.ref h0, .ref dk, .int 10]) (n := 4) (Nat.le_of_ble_eq_true rfl)
  rw [lg_entry_eq]
  generalize (lg_sl ([.ref h0, .ref dk, .int 10]) ++ List.replicate (4 - (lg_sl ([.ref h0, .ref dk, .int 10])).length) Slot.unset).toArray = ls at hl ⊢
  have hl : lv_has ls 4 [(0, .ref h0), (1, .ref dk), (2, .int 10)] := hl
  refine lv_aload_n hx hb d_Curve_init_0 rfl (lv_at hl 0 rfl) ?_
  refine W.objInit hx hb hown (hT _ tw_188) (hT _ tw_24) (hT _ tw_25) rfl (by rw [hml]; exact hl.1) rfl d_Curve_init_1 (Nat.le_of_ble_eq_true rfl) (Nat.le_of_ble_eq_true rfl) ?_
  refine W.eq (g2 := F0 m 4 ls []) rfl ?_
  refine lv_aload_n hx hb d_Curve_init_4 rfl (lv_at hl 0 rfl) ?_
  refine lv_iload_n hx hb d_Curve_init_5 rfl (lv_at hl 2 rfl) ?_
  refine va_newq hx hb hown (hT _ tw_189) hN.2.2.1 hK hP hD hS hA (by decide) rfl (by decide) (Nat.le_of_ble_eq_true rfl) (Nat.le_of_ble_eq_true rfl) d_Curve_init_6 (fun q_1 cA_2 H hK hP hD hS => ?_)
  have hP : va_P (dC, dI) classes [(h0, .inr (2, [.null])), (q_1, .inl (cA_2, 10, .inr (.inr (.inr (.inr (fun _ => none))))))] H := hP
  have hD : va_D A [(h0, .inr (2, [.null])), (q_1, .inl (cA_2, 10, .inr (.inr (.inr (.inr (fun _ => none))))))] := hD
  have hK : va_K (dC, dI) classes [(cA_2, .object "RealHouse$Poly")] s := hK
  refine W.widen (k := 1) (n := 10) (Nat.le_of_ble_eq_true rfl) (Nat.le_of_ble_eq_true rfl) ?_
  refine va_putF (D := (dC, dI)) (ci := 2) (v := .ref q_1) (ty := .array (.object "RealHouse$Poly")) (C := R_Curve) (T := F_Curve) (N := 1) hx hb hT i_Curve t_Curve t_Curve_ok n_Curve hown hK hP hD hS 0 rfl rfl 0 (by decide) (hT _ tw_224) (fun _ h9 => h9) rfl hin rfl (by decide +kernel) rfl rfl (Nat.le_of_ble_eq_true rfl) d_Curve_init_9 (fun H locs hP hD hS => ?_)
  have hP : va_P (dC, dI) classes [(h0, .inr (2, [.ref q_1])), (q_1, .inl (cA_2, 10, .inr (.inr (.inr (.inr (fun _ => none))))))] H := hP
  have hD : va_D A [(h0, .inr (2, [.ref q_1])), (q_1, .inl (cA_2, 10, .inr (.inr (.inr (.inr (fun _ => none))))))] := hD
  refine lv_iconst (v := 0) hx hb d_Curve_init_12 (by decide) ?_
  refine lv_istore_n (lv' := [(3, .int 0), (0, .ref h0), (1, .ref dk), (2, .int 10)]) hx hb d_Curve_init_13 rfl hl (by decide) rfl (fun ls hl => ?_)
  refine lv_iload_n hx hb d_Curve_init_14 rfl (lv_at hl 0 rfl) ?_
  refine lv_iload_n hx hb d_Curve_init_15 rfl (lv_at hl 3 rfl) ?_
  refine lv_icmp_ge (tgt := 39) hx hb d_Curve_init_16 (by decide) (fun c_3 => absurd c_3 (by decide)) (fun c_3 => ?_)
  refine lv_aload_n hx hb d_Curve_init_19 rfl (lv_at hl 1 rfl) ?_
  refine va_get (D := (dC, dI)) (ci := 2) (v := .ref q_1) (C := R_Curve) (T := F_Curve) (N := 1) hx hb hT i_Curve hown hK hP 0 rfl rfl 0 (by decide) (hT _ tw_224) (fun _ h9 => h9) rfl d_Curve_init_20 ?_
  refine lv_iload_n hx hb d_Curve_init_23 rfl (lv_at hl 0 rfl) ?_
  refine va_new (ci := 6) (fs := [.null, .null, .int 0]) (C := R_Poly) (T := F_Poly) (N := 3) hx hb hT i_Poly t_Poly t_Poly_ok hown (hT _ tw_189) (hT _ tw_190) (hT _ tw_8) hK hP hD hS hA rfl (by decide) (Nat.le_of_ble_eq_true rfl) (Nat.le_of_ble_eq_true rfl) d_Curve_init_24 (fun q_4 H hP hD hS => ?_)
  have hP : va_P (dC, dI) classes [(h0, .inr (2, [.ref q_1])), (q_1, .inl (cA_2, 10, .inr (.inr (.inr (.inr (fun _ => none)))))), (q_4, .inr (6, [.null, .null, .int 0]))] H := hP
  have hD : va_D A [(h0, .inr (2, [.ref q_1])), (q_1, .inl (cA_2, 10, .inr (.inr (.inr (.inr (fun _ => none)))))), (q_4, .inr (6, [.null, .null, .int 0]))] := hD
  refine W.widen (k := 2) (n := 13) (Nat.le_of_ble_eq_true rfl) (Nat.le_of_ble_eq_true rfl) ?_
  refine lv_dup hx hb d_Curve_init_27 rfl ?_
  refine lv_aload_n hx hb d_Curve_init_28 rfl (lv_at hl 2 rfl) ?_
  have hPc := hP.sub (ws' := [(q_4, .inr (6, [.null, .null, .int 0]))]) [2] rfl
  have hDc := hD.sub (ws' := [(q_4, .inr (6, [.null, .null, .int 0]))]) [2] (by decide) rfl
  have hKc := hK.sub (tys' := []) [] rfl
  have hFc := va_free (wc := [(q_4, .inr (6, [.null, .null, .int 0]))]) hD hS hA [2] rfl
  refine va_callv (va_runI (As := [.ref dk]) (rest := [.ref q_4, .int 0, .ref q_1]) ⟨hx, hb, hml, hown, hT⟩ (c_Poly_init l dC dI H.size q_4 dk ) (cwI 1 hT g_Poly_init rfl rfl rfl (hT _ tw_8) (hT _ tw_191) (hT _ tw_192) rfl (by decide +kernel) ⟨Nat.le_of_ble_eq_true rfl, Nat.le_of_ble_eq_true rfl⟩) ⟨fun a U g mk q => by obtain ⟨q0, q1, qP, qK, qD, qN⟩ := q; exact ⟨q0, q1, qP, va_K.moved (u := U) (U := U.calling g mk a) (Vm.Alike.refl U.vm) qK, qD, nx_K.same (u := U) (U := U.calling g mk a) rfl qN⟩, fun U hU hW => ⟨rfl, by rw [hU], by rw [hU]; exact hPc, va_K.moved hW.alike hKc, hDc.weaken (fun _ _ _ _ => trivial), nx_K.warm hW hN⟩⟩ rfl rfl hl.1 rfl (lv_room (Nat.le_of_ble_eq_true rfl)) d_Curve_init_29 ⟨Nat.le_of_ble_eq_true rfl, Nat.le_of_ble_eq_true rfl⟩) hS (fun q _ h => hFc q h) hFc (fun u t H1 locs ht hvm hw hB hz1 hk1 hS => ?_)
  obtain ⟨q1_5, hP1, hK1, hD1⟩ := hB
  rw [ht] at hP1
  have hK1 := va_K.moved hvm.symm hK1
  obtain ⟨hP, hD⟩ := va_join (wr := [(h0, .inr (2, [.ref q_1])), (q_1, .inl (cA_2, 10, .inr (.inr (.inr (.inr (fun _ => none))))))]) (w1 := [(q_4, .inr (6, [.ref dk, .ref q1_5, .int 0]))]) hP hD [2] [0, 1] rfl rfl (by decide) (by decide) hk1 hFc hP1 hD1
  have hK := (hK.sub (tys' := [(cA_2, .object "RealHouse$Poly")]) [0] rfl).app hK1
  generalize H1 = H at hP hS ⊢
  have hP : va_P (dC, dI) classes [(h0, .inr (2, [.ref q_1])), (q_1, .inl (cA_2, 10, .inr (.inr (.inr (.inr (fun _ => none)))))), (q_4, .inr (6, [.ref dk, .ref q1_5, .int 0]))] H := hP
  have hD : va_D A [(h0, .inr (2, [.ref q_1])), (q_1, .inl (cA_2, 10, .inr (.inr (.inr (.inr (fun _ => none)))))), (q_4, .inr (6, [.ref dk, .ref q1_5, .int 0]))] := hD
  have hK : va_K (dC, dI) classes [(cA_2, .object "RealHouse$Poly")] s := hK
  refine W.widen (k := 3) (n := 13) (Nat.le_of_ble_eq_true rfl) (Nat.le_of_ble_eq_true rfl) ?_
  refine va_astq (r := (R_Poly, F_Poly, 3)) hx hb hK hP hD hS 1 0 2 6 rfl rfl rfl rfl (vp_in_nI (n := 0) (by decide) (by decide)) d_Curve_init_32 (fun H locs hP hD hS => ?_)
  have hP : va_P (dC, dI) classes [(h0, .inr (2, [.ref q_1])), (q_1, .inl (cA_2, 10, .inr (.inr (.inr (.inr (va_up (fun _ => none) (0 : Int32).toNatClampNeg (some q_4))))))), (q_4, .inr (6, [.ref dk, .ref q1_5, .int 0]))] H := hP
  have hD : va_D A [(h0, .inr (2, [.ref q_1])), (q_1, .inl (cA_2, 10, .inr (.inr (.inr (.inr (va_up (fun _ => none) (0 : Int32).toNatClampNeg (some q_4))))))), (q_4, .inr (6, [.ref dk, .ref q1_5, .int 0]))] := hD
  generalize va_up (fun _ => none) (0 : Int32).toNatClampNeg (some q_4) = f_6 at hP hD
  have hP := hP.sub (ws' := [(h0, .inr (2, [.ref q_1])), (q_1, .inl (cA_2, 10, .inr (.inr (.inr (.inr f_6)))))]) [0, 1] rfl
  have hD := hD.sub (ws' := [(h0, .inr (2, [.ref q_1])), (q_1, .inl (cA_2, 10, .inr (.inr (.inr (.inr f_6)))))]) [0, 1] (by decide) rfl
  refine lv_iinc (v := 1) (lv' := [(3, .int 1), (0, .ref h0), (1, .ref dk), (2, .int 10)]) hx hb d_Curve_init_33 hl (k := 0) rfl (by decide) (by decide) rfl (fun ls hl => ?_)
  refine lv_goto (tgt := 14) hx hb d_Curve_init_36 (by decide) ?_
  refine lv_iload_n hx hb d_Curve_init_14 rfl (lv_at hl 0 rfl) ?_
  refine lv_iload_n hx hb d_Curve_init_15 rfl (lv_at hl 3 rfl) ?_
  refine lv_icmp_ge (tgt := 39) hx hb d_Curve_init_16 (by decide) (fun c_7 => absurd c_7 (by decide)) (fun c_7 => ?_)
  refine lv_aload_n hx hb d_Curve_init_19 rfl (lv_at hl 1 rfl) ?_
  refine va_get (D := (dC, dI)) (ci := 2) (v := .ref q_1) (C := R_Curve) (T := F_Curve) (N := 1) hx hb hT i_Curve hown hK hP 0 rfl rfl 0 (by decide) (hT _ tw_224) (fun _ h9 => h9) rfl d_Curve_init_20 ?_
  refine lv_iload_n hx hb d_Curve_init_23 rfl (lv_at hl 0 rfl) ?_
  refine va_new (ci := 6) (fs := [.null, .null, .int 0]) (C := R_Poly) (T := F_Poly) (N := 3) hx hb hT i_Poly t_Poly t_Poly_ok hown (hT _ tw_189) (hT _ tw_190) (hT _ tw_8) hK hP hD hS hA rfl (by decide) (Nat.le_of_ble_eq_true rfl) (Nat.le_of_ble_eq_true rfl) d_Curve_init_24 (fun q_8 H hP hD hS => ?_)
  have hP : va_P (dC, dI) classes [(h0, .inr (2, [.ref q_1])), (q_1, .inl (cA_2, 10, .inr (.inr (.inr (.inr f_6))))), (q_8, .inr (6, [.null, .null, .int 0]))] H := hP
  have hD : va_D A [(h0, .inr (2, [.ref q_1])), (q_1, .inl (cA_2, 10, .inr (.inr (.inr (.inr f_6))))), (q_8, .inr (6, [.null, .null, .int 0]))] := hD
  refine W.widen (k := 4) (n := 16) (Nat.le_of_ble_eq_true rfl) (Nat.le_of_ble_eq_true rfl) ?_
  refine lv_dup hx hb d_Curve_init_27 rfl ?_
  refine lv_aload_n hx hb d_Curve_init_28 rfl (lv_at hl 2 rfl) ?_
  have hPc := hP.sub (ws' := [(q_8, .inr (6, [.null, .null, .int 0]))]) [2] rfl
  have hDc := hD.sub (ws' := [(q_8, .inr (6, [.null, .null, .int 0]))]) [2] (by decide) rfl
  have hKc := hK.sub (tys' := []) [] rfl
  have hFc := va_free (wc := [(q_8, .inr (6, [.null, .null, .int 0]))]) hD hS hA [2] rfl
  refine va_callv (va_runI (As := [.ref dk]) (rest := [.ref q_8, .int 1, .ref q_1]) ⟨hx, hb, hml, hown, hT⟩ (c_Poly_init l dC dI H.size q_8 dk ) (cwI 1 hT g_Poly_init rfl rfl rfl (hT _ tw_8) (hT _ tw_191) (hT _ tw_192) rfl (by decide +kernel) ⟨Nat.le_of_ble_eq_true rfl, Nat.le_of_ble_eq_true rfl⟩) ⟨fun a U g mk q => by obtain ⟨q0, q1, qP, qK, qD, qN⟩ := q; exact ⟨q0, q1, qP, va_K.moved (u := U) (U := U.calling g mk a) (Vm.Alike.refl U.vm) qK, qD, nx_K.same (u := U) (U := U.calling g mk a) rfl qN⟩, fun U hU hW => ⟨rfl, by rw [hU], by rw [hU]; exact hPc, va_K.moved hW.alike hKc, hDc.weaken (fun _ _ _ _ => trivial), nx_K.warm hW hN⟩⟩ rfl rfl hl.1 rfl (lv_room (Nat.le_of_ble_eq_true rfl)) d_Curve_init_29 ⟨Nat.le_of_ble_eq_true rfl, Nat.le_of_ble_eq_true rfl⟩) hS (fun q _ h => hFc q h) hFc (fun u t H1 locs ht hvm hw hB hz1 hk1 hS => ?_)
  obtain ⟨q1_9, hP1, hK1, hD1⟩ := hB
  rw [ht] at hP1
  have hK1 := va_K.moved hvm.symm hK1
  obtain ⟨hP, hD⟩ := va_join (wr := [(h0, .inr (2, [.ref q_1])), (q_1, .inl (cA_2, 10, .inr (.inr (.inr (.inr f_6)))))]) (w1 := [(q_8, .inr (6, [.ref dk, .ref q1_9, .int 0]))]) hP hD [2] [0, 1] rfl rfl (by decide) (by decide) hk1 hFc hP1 hD1
  have hK := (hK.sub (tys' := [(cA_2, .object "RealHouse$Poly")]) [0] rfl).app hK1
  generalize H1 = H at hP hS ⊢
  have hP : va_P (dC, dI) classes [(h0, .inr (2, [.ref q_1])), (q_1, .inl (cA_2, 10, .inr (.inr (.inr (.inr f_6))))), (q_8, .inr (6, [.ref dk, .ref q1_9, .int 0]))] H := hP
  have hD : va_D A [(h0, .inr (2, [.ref q_1])), (q_1, .inl (cA_2, 10, .inr (.inr (.inr (.inr f_6))))), (q_8, .inr (6, [.ref dk, .ref q1_9, .int 0]))] := hD
  have hK : va_K (dC, dI) classes [(cA_2, .object "RealHouse$Poly")] s := hK
  refine W.widen (k := 5) (n := 16) (Nat.le_of_ble_eq_true rfl) (Nat.le_of_ble_eq_true rfl) ?_
  refine va_astq (r := (R_Poly, F_Poly, 3)) hx hb hK hP hD hS 1 0 2 6 rfl rfl rfl rfl (vp_in_nI (n := 1) (by decide) (by decide)) d_Curve_init_32 (fun H locs hP hD hS => ?_)
  have hP : va_P (dC, dI) classes [(h0, .inr (2, [.ref q_1])), (q_1, .inl (cA_2, 10, .inr (.inr (.inr (.inr (va_up f_6 (1 : Int32).toNatClampNeg (some q_8))))))), (q_8, .inr (6, [.ref dk, .ref q1_9, .int 0]))] H := hP
  have hD : va_D A [(h0, .inr (2, [.ref q_1])), (q_1, .inl (cA_2, 10, .inr (.inr (.inr (.inr (va_up f_6 (1 : Int32).toNatClampNeg (some q_8))))))), (q_8, .inr (6, [.ref dk, .ref q1_9, .int 0]))] := hD
  generalize va_up f_6 (1 : Int32).toNatClampNeg (some q_8) = f_10 at hP hD
  have hP := hP.sub (ws' := [(h0, .inr (2, [.ref q_1])), (q_1, .inl (cA_2, 10, .inr (.inr (.inr (.inr f_10)))))]) [0, 1] rfl
  have hD := hD.sub (ws' := [(h0, .inr (2, [.ref q_1])), (q_1, .inl (cA_2, 10, .inr (.inr (.inr (.inr f_10)))))]) [0, 1] (by decide) rfl
  refine lv_iinc (v := 2) (lv' := [(3, .int 2), (0, .ref h0), (1, .ref dk), (2, .int 10)]) hx hb d_Curve_init_33 hl (k := 0) rfl (by decide) (by decide) rfl (fun ls hl => ?_)
  refine lv_goto (tgt := 14) hx hb d_Curve_init_36 (by decide) ?_
  refine lv_iload_n hx hb d_Curve_init_14 rfl (lv_at hl 0 rfl) ?_
  refine lv_iload_n hx hb d_Curve_init_15 rfl (lv_at hl 3 rfl) ?_
  refine lv_icmp_ge (tgt := 39) hx hb d_Curve_init_16 (by decide) (fun c_11 => absurd c_11 (by decide)) (fun c_11 => ?_)
  refine lv_aload_n hx hb d_Curve_init_19 rfl (lv_at hl 1 rfl) ?_
  refine va_get (D := (dC, dI)) (ci := 2) (v := .ref q_1) (C := R_Curve) (T := F_Curve) (N := 1) hx hb hT i_Curve hown hK hP 0 rfl rfl 0 (by decide) (hT _ tw_224) (fun _ h9 => h9) rfl d_Curve_init_20 ?_
  refine lv_iload_n hx hb d_Curve_init_23 rfl (lv_at hl 0 rfl) ?_
  refine va_new (ci := 6) (fs := [.null, .null, .int 0]) (C := R_Poly) (T := F_Poly) (N := 3) hx hb hT i_Poly t_Poly t_Poly_ok hown (hT _ tw_189) (hT _ tw_190) (hT _ tw_8) hK hP hD hS hA rfl (by decide) (Nat.le_of_ble_eq_true rfl) (Nat.le_of_ble_eq_true rfl) d_Curve_init_24 (fun q_12 H hP hD hS => ?_)
  have hP : va_P (dC, dI) classes [(h0, .inr (2, [.ref q_1])), (q_1, .inl (cA_2, 10, .inr (.inr (.inr (.inr f_10))))), (q_12, .inr (6, [.null, .null, .int 0]))] H := hP
  have hD : va_D A [(h0, .inr (2, [.ref q_1])), (q_1, .inl (cA_2, 10, .inr (.inr (.inr (.inr f_10))))), (q_12, .inr (6, [.null, .null, .int 0]))] := hD
  refine W.widen (k := 6) (n := 19) (Nat.le_of_ble_eq_true rfl) (Nat.le_of_ble_eq_true rfl) ?_
  refine lv_dup hx hb d_Curve_init_27 rfl ?_
  refine lv_aload_n hx hb d_Curve_init_28 rfl (lv_at hl 2 rfl) ?_
  have hPc := hP.sub (ws' := [(q_12, .inr (6, [.null, .null, .int 0]))]) [2] rfl
  have hDc := hD.sub (ws' := [(q_12, .inr (6, [.null, .null, .int 0]))]) [2] (by decide) rfl
  have hKc := hK.sub (tys' := []) [] rfl
  have hFc := va_free (wc := [(q_12, .inr (6, [.null, .null, .int 0]))]) hD hS hA [2] rfl
  refine va_callv (va_runI (As := [.ref dk]) (rest := [.ref q_12, .int 2, .ref q_1]) ⟨hx, hb, hml, hown, hT⟩ (c_Poly_init l dC dI H.size q_12 dk ) (cwI 1 hT g_Poly_init rfl rfl rfl (hT _ tw_8) (hT _ tw_191) (hT _ tw_192) rfl (by decide +kernel) ⟨Nat.le_of_ble_eq_true rfl, Nat.le_of_ble_eq_true rfl⟩) ⟨fun a U g mk q => by obtain ⟨q0, q1, qP, qK, qD, qN⟩ := q; exact ⟨q0, q1, qP, va_K.moved (u := U) (U := U.calling g mk a) (Vm.Alike.refl U.vm) qK, qD, nx_K.same (u := U) (U := U.calling g mk a) rfl qN⟩, fun U hU hW => ⟨rfl, by rw [hU], by rw [hU]; exact hPc, va_K.moved hW.alike hKc, hDc.weaken (fun _ _ _ _ => trivial), nx_K.warm hW hN⟩⟩ rfl rfl hl.1 rfl (lv_room (Nat.le_of_ble_eq_true rfl)) d_Curve_init_29 ⟨Nat.le_of_ble_eq_true rfl, Nat.le_of_ble_eq_true rfl⟩) hS (fun q _ h => hFc q h) hFc (fun u t H1 locs ht hvm hw hB hz1 hk1 hS => ?_)
  obtain ⟨q1_13, hP1, hK1, hD1⟩ := hB
  rw [ht] at hP1
  have hK1 := va_K.moved hvm.symm hK1
  obtain ⟨hP, hD⟩ := va_join (wr := [(h0, .inr (2, [.ref q_1])), (q_1, .inl (cA_2, 10, .inr (.inr (.inr (.inr f_10)))))]) (w1 := [(q_12, .inr (6, [.ref dk, .ref q1_13, .int 0]))]) hP hD [2] [0, 1] rfl rfl (by decide) (by decide) hk1 hFc hP1 hD1
  have hK := (hK.sub (tys' := [(cA_2, .object "RealHouse$Poly")]) [0] rfl).app hK1
  generalize H1 = H at hP hS ⊢
  have hP : va_P (dC, dI) classes [(h0, .inr (2, [.ref q_1])), (q_1, .inl (cA_2, 10, .inr (.inr (.inr (.inr f_10))))), (q_12, .inr (6, [.ref dk, .ref q1_13, .int 0]))] H := hP
  have hD : va_D A [(h0, .inr (2, [.ref q_1])), (q_1, .inl (cA_2, 10, .inr (.inr (.inr (.inr f_10))))), (q_12, .inr (6, [.ref dk, .ref q1_13, .int 0]))] := hD
  have hK : va_K (dC, dI) classes [(cA_2, .object "RealHouse$Poly")] s := hK
  refine W.widen (k := 7) (n := 19) (Nat.le_of_ble_eq_true rfl) (Nat.le_of_ble_eq_true rfl) ?_
  refine va_astq (r := (R_Poly, F_Poly, 3)) hx hb hK hP hD hS 1 0 2 6 rfl rfl rfl rfl (vp_in_nI (n := 2) (by decide) (by decide)) d_Curve_init_32 (fun H locs hP hD hS => ?_)
  have hP : va_P (dC, dI) classes [(h0, .inr (2, [.ref q_1])), (q_1, .inl (cA_2, 10, .inr (.inr (.inr (.inr (va_up f_10 (2 : Int32).toNatClampNeg (some q_12))))))), (q_12, .inr (6, [.ref dk, .ref q1_13, .int 0]))] H := hP
  have hD : va_D A [(h0, .inr (2, [.ref q_1])), (q_1, .inl (cA_2, 10, .inr (.inr (.inr (.inr (va_up f_10 (2 : Int32).toNatClampNeg (some q_12))))))), (q_12, .inr (6, [.ref dk, .ref q1_13, .int 0]))] := hD
  generalize va_up f_10 (2 : Int32).toNatClampNeg (some q_12) = f_14 at hP hD
  have hP := hP.sub (ws' := [(h0, .inr (2, [.ref q_1])), (q_1, .inl (cA_2, 10, .inr (.inr (.inr (.inr f_14)))))]) [0, 1] rfl
  have hD := hD.sub (ws' := [(h0, .inr (2, [.ref q_1])), (q_1, .inl (cA_2, 10, .inr (.inr (.inr (.inr f_14)))))]) [0, 1] (by decide) rfl
  refine lv_iinc (v := 3) (lv' := [(3, .int 3), (0, .ref h0), (1, .ref dk), (2, .int 10)]) hx hb d_Curve_init_33 hl (k := 0) rfl (by decide) (by decide) rfl (fun ls hl => ?_)
  refine lv_goto (tgt := 14) hx hb d_Curve_init_36 (by decide) ?_
  refine lv_iload_n hx hb d_Curve_init_14 rfl (lv_at hl 0 rfl) ?_
  refine lv_iload_n hx hb d_Curve_init_15 rfl (lv_at hl 3 rfl) ?_
  refine lv_icmp_ge (tgt := 39) hx hb d_Curve_init_16 (by decide) (fun c_15 => absurd c_15 (by decide)) (fun c_15 => ?_)
  refine lv_aload_n hx hb d_Curve_init_19 rfl (lv_at hl 1 rfl) ?_
  refine va_get (D := (dC, dI)) (ci := 2) (v := .ref q_1) (C := R_Curve) (T := F_Curve) (N := 1) hx hb hT i_Curve hown hK hP 0 rfl rfl 0 (by decide) (hT _ tw_224) (fun _ h9 => h9) rfl d_Curve_init_20 ?_
  refine lv_iload_n hx hb d_Curve_init_23 rfl (lv_at hl 0 rfl) ?_
  refine va_new (ci := 6) (fs := [.null, .null, .int 0]) (C := R_Poly) (T := F_Poly) (N := 3) hx hb hT i_Poly t_Poly t_Poly_ok hown (hT _ tw_189) (hT _ tw_190) (hT _ tw_8) hK hP hD hS hA rfl (by decide) (Nat.le_of_ble_eq_true rfl) (Nat.le_of_ble_eq_true rfl) d_Curve_init_24 (fun q_16 H hP hD hS => ?_)
  have hP : va_P (dC, dI) classes [(h0, .inr (2, [.ref q_1])), (q_1, .inl (cA_2, 10, .inr (.inr (.inr (.inr f_14))))), (q_16, .inr (6, [.null, .null, .int 0]))] H := hP
  have hD : va_D A [(h0, .inr (2, [.ref q_1])), (q_1, .inl (cA_2, 10, .inr (.inr (.inr (.inr f_14))))), (q_16, .inr (6, [.null, .null, .int 0]))] := hD
  refine W.widen (k := 8) (n := 22) (Nat.le_of_ble_eq_true rfl) (Nat.le_of_ble_eq_true rfl) ?_
  refine lv_dup hx hb d_Curve_init_27 rfl ?_
  refine lv_aload_n hx hb d_Curve_init_28 rfl (lv_at hl 2 rfl) ?_
  have hPc := hP.sub (ws' := [(q_16, .inr (6, [.null, .null, .int 0]))]) [2] rfl
  have hDc := hD.sub (ws' := [(q_16, .inr (6, [.null, .null, .int 0]))]) [2] (by decide) rfl
  have hKc := hK.sub (tys' := []) [] rfl
  have hFc := va_free (wc := [(q_16, .inr (6, [.null, .null, .int 0]))]) hD hS hA [2] rfl
  refine va_callv (va_runI (As := [.ref dk]) (rest := [.ref q_16, .int 3, .ref q_1]) ⟨hx, hb, hml, hown, hT⟩ (c_Poly_init l dC dI H.size q_16 dk ) (cwI 1 hT g_Poly_init rfl rfl rfl (hT _ tw_8) (hT _ tw_191) (hT _ tw_192) rfl (by decide +kernel) ⟨Nat.le_of_ble_eq_true rfl, Nat.le_of_ble_eq_true rfl⟩) ⟨fun a U g mk q => by obtain ⟨q0, q1, qP, qK, qD, qN⟩ := q; exact ⟨q0, q1, qP, va_K.moved (u := U) (U := U.calling g mk a) (Vm.Alike.refl U.vm) qK, qD, nx_K.same (u := U) (U := U.calling g mk a) rfl qN⟩, fun U hU hW => ⟨rfl, by rw [hU], by rw [hU]; exact hPc, va_K.moved hW.alike hKc, hDc.weaken (fun _ _ _ _ => trivial), nx_K.warm hW hN⟩⟩ rfl rfl hl.1 rfl (lv_room (Nat.le_of_ble_eq_true rfl)) d_Curve_init_29 ⟨Nat.le_of_ble_eq_true rfl, Nat.le_of_ble_eq_true rfl⟩) hS (fun q _ h => hFc q h) hFc (fun u t H1 locs ht hvm hw hB hz1 hk1 hS => ?_)
  obtain ⟨q1_17, hP1, hK1, hD1⟩ := hB
  rw [ht] at hP1
  have hK1 := va_K.moved hvm.symm hK1
  obtain ⟨hP, hD⟩ := va_join (wr := [(h0, .inr (2, [.ref q_1])), (q_1, .inl (cA_2, 10, .inr (.inr (.inr (.inr f_14)))))]) (w1 := [(q_16, .inr (6, [.ref dk, .ref q1_17, .int 0]))]) hP hD [2] [0, 1] rfl rfl (by decide) (by decide) hk1 hFc hP1 hD1
  have hK := (hK.sub (tys' := [(cA_2, .object "RealHouse$Poly")]) [0] rfl).app hK1
  generalize H1 = H at hP hS ⊢
  have hP : va_P (dC, dI) classes [(h0, .inr (2, [.ref q_1])), (q_1, .inl (cA_2, 10, .inr (.inr (.inr (.inr f_14))))), (q_16, .inr (6, [.ref dk, .ref q1_17, .int 0]))] H := hP
  have hD : va_D A [(h0, .inr (2, [.ref q_1])), (q_1, .inl (cA_2, 10, .inr (.inr (.inr (.inr f_14))))), (q_16, .inr (6, [.ref dk, .ref q1_17, .int 0]))] := hD
  have hK : va_K (dC, dI) classes [(cA_2, .object "RealHouse$Poly")] s := hK
  refine W.widen (k := 9) (n := 22) (Nat.le_of_ble_eq_true rfl) (Nat.le_of_ble_eq_true rfl) ?_
  refine va_astq (r := (R_Poly, F_Poly, 3)) hx hb hK hP hD hS 1 0 2 6 rfl rfl rfl rfl (vp_in_nI (n := 3) (by decide) (by decide)) d_Curve_init_32 (fun H locs hP hD hS => ?_)
  have hP : va_P (dC, dI) classes [(h0, .inr (2, [.ref q_1])), (q_1, .inl (cA_2, 10, .inr (.inr (.inr (.inr (va_up f_14 (3 : Int32).toNatClampNeg (some q_16))))))), (q_16, .inr (6, [.ref dk, .ref q1_17, .int 0]))] H := hP
  have hD : va_D A [(h0, .inr (2, [.ref q_1])), (q_1, .inl (cA_2, 10, .inr (.inr (.inr (.inr (va_up f_14 (3 : Int32).toNatClampNeg (some q_16))))))), (q_16, .inr (6, [.ref dk, .ref q1_17, .int 0]))] := hD
  generalize va_up f_14 (3 : Int32).toNatClampNeg (some q_16) = f_18 at hP hD
  have hP := hP.sub (ws' := [(h0, .inr (2, [.ref q_1])), (q_1, .inl (cA_2, 10, .inr (.inr (.inr (.inr f_18)))))]) [0, 1] rfl
  have hD := hD.sub (ws' := [(h0, .inr (2, [.ref q_1])), (q_1, .inl (cA_2, 10, .inr (.inr (.inr (.inr f_18)))))]) [0, 1] (by decide) rfl
  refine lv_iinc (v := 4) (lv' := [(3, .int 4), (0, .ref h0), (1, .ref dk), (2, .int 10)]) hx hb d_Curve_init_33 hl (k := 0) rfl (by decide) (by decide) rfl (fun ls hl => ?_)
  refine lv_goto (tgt := 14) hx hb d_Curve_init_36 (by decide) ?_
  refine lv_iload_n hx hb d_Curve_init_14 rfl (lv_at hl 0 rfl) ?_
  refine lv_iload_n hx hb d_Curve_init_15 rfl (lv_at hl 3 rfl) ?_
  refine lv_icmp_ge (tgt := 39) hx hb d_Curve_init_16 (by decide) (fun c_19 => absurd c_19 (by decide)) (fun c_19 => ?_)
  refine lv_aload_n hx hb d_Curve_init_19 rfl (lv_at hl 1 rfl) ?_
  refine va_get (D := (dC, dI)) (ci := 2) (v := .ref q_1) (C := R_Curve) (T := F_Curve) (N := 1) hx hb hT i_Curve hown hK hP 0 rfl rfl 0 (by decide) (hT _ tw_224) (fun _ h9 => h9) rfl d_Curve_init_20 ?_
  refine lv_iload_n hx hb d_Curve_init_23 rfl (lv_at hl 0 rfl) ?_
  refine va_new (ci := 6) (fs := [.null, .null, .int 0]) (C := R_Poly) (T := F_Poly) (N := 3) hx hb hT i_Poly t_Poly t_Poly_ok hown (hT _ tw_189) (hT _ tw_190) (hT _ tw_8) hK hP hD hS hA rfl (by decide) (Nat.le_of_ble_eq_true rfl) (Nat.le_of_ble_eq_true rfl) d_Curve_init_24 (fun q_20 H hP hD hS => ?_)
  have hP : va_P (dC, dI) classes [(h0, .inr (2, [.ref q_1])), (q_1, .inl (cA_2, 10, .inr (.inr (.inr (.inr f_18))))), (q_20, .inr (6, [.null, .null, .int 0]))] H := hP
  have hD : va_D A [(h0, .inr (2, [.ref q_1])), (q_1, .inl (cA_2, 10, .inr (.inr (.inr (.inr f_18))))), (q_20, .inr (6, [.null, .null, .int 0]))] := hD
  refine W.widen (k := 10) (n := 25) (Nat.le_of_ble_eq_true rfl) (Nat.le_of_ble_eq_true rfl) ?_
  refine lv_dup hx hb d_Curve_init_27 rfl ?_
  refine lv_aload_n hx hb d_Curve_init_28 rfl (lv_at hl 2 rfl) ?_
  have hPc := hP.sub (ws' := [(q_20, .inr (6, [.null, .null, .int 0]))]) [2] rfl
  have hDc := hD.sub (ws' := [(q_20, .inr (6, [.null, .null, .int 0]))]) [2] (by decide) rfl
  have hKc := hK.sub (tys' := []) [] rfl
  have hFc := va_free (wc := [(q_20, .inr (6, [.null, .null, .int 0]))]) hD hS hA [2] rfl
  refine va_callv (va_runI (As := [.ref dk]) (rest := [.ref q_20, .int 4, .ref q_1]) ⟨hx, hb, hml, hown, hT⟩ (c_Poly_init l dC dI H.size q_20 dk ) (cwI 1 hT g_Poly_init rfl rfl rfl (hT _ tw_8) (hT _ tw_191) (hT _ tw_192) rfl (by decide +kernel) ⟨Nat.le_of_ble_eq_true rfl, Nat.le_of_ble_eq_true rfl⟩) ⟨fun a U g mk q => by obtain ⟨q0, q1, qP, qK, qD, qN⟩ := q; exact ⟨q0, q1, qP, va_K.moved (u := U) (U := U.calling g mk a) (Vm.Alike.refl U.vm) qK, qD, nx_K.same (u := U) (U := U.calling g mk a) rfl qN⟩, fun U hU hW => ⟨rfl, by rw [hU], by rw [hU]; exact hPc, va_K.moved hW.alike hKc, hDc.weaken (fun _ _ _ _ => trivial), nx_K.warm hW hN⟩⟩ rfl rfl hl.1 rfl (lv_room (Nat.le_of_ble_eq_true rfl)) d_Curve_init_29 ⟨Nat.le_of_ble_eq_true rfl, Nat.le_of_ble_eq_true rfl⟩) hS (fun q _ h => hFc q h) hFc (fun u t H1 locs ht hvm hw hB hz1 hk1 hS => ?_)
  obtain ⟨q1_21, hP1, hK1, hD1⟩ := hB
  rw [ht] at hP1
  have hK1 := va_K.moved hvm.symm hK1
  obtain ⟨hP, hD⟩ := va_join (wr := [(h0, .inr (2, [.ref q_1])), (q_1, .inl (cA_2, 10, .inr (.inr (.inr (.inr f_18)))))]) (w1 := [(q_20, .inr (6, [.ref dk, .ref q1_21, .int 0]))]) hP hD [2] [0, 1] rfl rfl (by decide) (by decide) hk1 hFc hP1 hD1
  have hK := (hK.sub (tys' := [(cA_2, .object "RealHouse$Poly")]) [0] rfl).app hK1
  generalize H1 = H at hP hS ⊢
  have hP : va_P (dC, dI) classes [(h0, .inr (2, [.ref q_1])), (q_1, .inl (cA_2, 10, .inr (.inr (.inr (.inr f_18))))), (q_20, .inr (6, [.ref dk, .ref q1_21, .int 0]))] H := hP
  have hD : va_D A [(h0, .inr (2, [.ref q_1])), (q_1, .inl (cA_2, 10, .inr (.inr (.inr (.inr f_18))))), (q_20, .inr (6, [.ref dk, .ref q1_21, .int 0]))] := hD
  have hK : va_K (dC, dI) classes [(cA_2, .object "RealHouse$Poly")] s := hK
  refine W.widen (k := 11) (n := 25) (Nat.le_of_ble_eq_true rfl) (Nat.le_of_ble_eq_true rfl) ?_
  refine va_astq (r := (R_Poly, F_Poly, 3)) hx hb hK hP hD hS 1 0 2 6 rfl rfl rfl rfl (vp_in_nI (n := 4) (by decide) (by decide)) d_Curve_init_32 (fun H locs hP hD hS => ?_)
  have hP : va_P (dC, dI) classes [(h0, .inr (2, [.ref q_1])), (q_1, .inl (cA_2, 10, .inr (.inr (.inr (.inr (va_up f_18 (4 : Int32).toNatClampNeg (some q_20))))))), (q_20, .inr (6, [.ref dk, .ref q1_21, .int 0]))] H := hP
  have hD : va_D A [(h0, .inr (2, [.ref q_1])), (q_1, .inl (cA_2, 10, .inr (.inr (.inr (.inr (va_up f_18 (4 : Int32).toNatClampNeg (some q_20))))))), (q_20, .inr (6, [.ref dk, .ref q1_21, .int 0]))] := hD
  generalize va_up f_18 (4 : Int32).toNatClampNeg (some q_20) = f_22 at hP hD
  have hP := hP.sub (ws' := [(h0, .inr (2, [.ref q_1])), (q_1, .inl (cA_2, 10, .inr (.inr (.inr (.inr f_22)))))]) [0, 1] rfl
  have hD := hD.sub (ws' := [(h0, .inr (2, [.ref q_1])), (q_1, .inl (cA_2, 10, .inr (.inr (.inr (.inr f_22)))))]) [0, 1] (by decide) rfl
  refine lv_iinc (v := 5) (lv' := [(3, .int 5), (0, .ref h0), (1, .ref dk), (2, .int 10)]) hx hb d_Curve_init_33 hl (k := 0) rfl (by decide) (by decide) rfl (fun ls hl => ?_)
  refine lv_goto (tgt := 14) hx hb d_Curve_init_36 (by decide) ?_
  refine lv_iload_n hx hb d_Curve_init_14 rfl (lv_at hl 0 rfl) ?_
  refine lv_iload_n hx hb d_Curve_init_15 rfl (lv_at hl 3 rfl) ?_
  refine lv_icmp_ge (tgt := 39) hx hb d_Curve_init_16 (by decide) (fun c_23 => absurd c_23 (by decide)) (fun c_23 => ?_)
  refine lv_aload_n hx hb d_Curve_init_19 rfl (lv_at hl 1 rfl) ?_
  refine va_get (D := (dC, dI)) (ci := 2) (v := .ref q_1) (C := R_Curve) (T := F_Curve) (N := 1) hx hb hT i_Curve hown hK hP 0 rfl rfl 0 (by decide) (hT _ tw_224) (fun _ h9 => h9) rfl d_Curve_init_20 ?_
  refine lv_iload_n hx hb d_Curve_init_23 rfl (lv_at hl 0 rfl) ?_
  refine va_new (ci := 6) (fs := [.null, .null, .int 0]) (C := R_Poly) (T := F_Poly) (N := 3) hx hb hT i_Poly t_Poly t_Poly_ok hown (hT _ tw_189) (hT _ tw_190) (hT _ tw_8) hK hP hD hS hA rfl (by decide) (Nat.le_of_ble_eq_true rfl) (Nat.le_of_ble_eq_true rfl) d_Curve_init_24 (fun q_24 H hP hD hS => ?_)
  have hP : va_P (dC, dI) classes [(h0, .inr (2, [.ref q_1])), (q_1, .inl (cA_2, 10, .inr (.inr (.inr (.inr f_22))))), (q_24, .inr (6, [.null, .null, .int 0]))] H := hP
  have hD : va_D A [(h0, .inr (2, [.ref q_1])), (q_1, .inl (cA_2, 10, .inr (.inr (.inr (.inr f_22))))), (q_24, .inr (6, [.null, .null, .int 0]))] := hD
  refine W.widen (k := 12) (n := 28) (Nat.le_of_ble_eq_true rfl) (Nat.le_of_ble_eq_true rfl) ?_
  refine lv_dup hx hb d_Curve_init_27 rfl ?_
  refine lv_aload_n hx hb d_Curve_init_28 rfl (lv_at hl 2 rfl) ?_
  have hPc := hP.sub (ws' := [(q_24, .inr (6, [.null, .null, .int 0]))]) [2] rfl
  have hDc := hD.sub (ws' := [(q_24, .inr (6, [.null, .null, .int 0]))]) [2] (by decide) rfl
  have hKc := hK.sub (tys' := []) [] rfl
  have hFc := va_free (wc := [(q_24, .inr (6, [.null, .null, .int 0]))]) hD hS hA [2] rfl
  refine va_callv (va_runI (As := [.ref dk]) (rest := [.ref q_24, .int 5, .ref q_1]) ⟨hx, hb, hml, hown, hT⟩ (c_Poly_init l dC dI H.size q_24 dk ) (cwI 1 hT g_Poly_init rfl rfl rfl (hT _ tw_8) (hT _ tw_191) (hT _ tw_192) rfl (by decide +kernel) ⟨Nat.le_of_ble_eq_true rfl, Nat.le_of_ble_eq_true rfl⟩) ⟨fun a U g mk q => by obtain ⟨q0, q1, qP, qK, qD, qN⟩ := q; exact ⟨q0, q1, qP, va_K.moved (u := U) (U := U.calling g mk a) (Vm.Alike.refl U.vm) qK, qD, nx_K.same (u := U) (U := U.calling g mk a) rfl qN⟩, fun U hU hW => ⟨rfl, by rw [hU], by rw [hU]; exact hPc, va_K.moved hW.alike hKc, hDc.weaken (fun _ _ _ _ => trivial), nx_K.warm hW hN⟩⟩ rfl rfl hl.1 rfl (lv_room (Nat.le_of_ble_eq_true rfl)) d_Curve_init_29 ⟨Nat.le_of_ble_eq_true rfl, Nat.le_of_ble_eq_true rfl⟩) hS (fun q _ h => hFc q h) hFc (fun u t H1 locs ht hvm hw hB hz1 hk1 hS => ?_)
  obtain ⟨q1_25, hP1, hK1, hD1⟩ := hB
  rw [ht] at hP1
  have hK1 := va_K.moved hvm.symm hK1
  obtain ⟨hP, hD⟩ := va_join (wr := [(h0, .inr (2, [.ref q_1])), (q_1, .inl (cA_2, 10, .inr (.inr (.inr (.inr f_22)))))]) (w1 := [(q_24, .inr (6, [.ref dk, .ref q1_25, .int 0]))]) hP hD [2] [0, 1] rfl rfl (by decide) (by decide) hk1 hFc hP1 hD1
  have hK := (hK.sub (tys' := [(cA_2, .object "RealHouse$Poly")]) [0] rfl).app hK1
  generalize H1 = H at hP hS ⊢
  have hP : va_P (dC, dI) classes [(h0, .inr (2, [.ref q_1])), (q_1, .inl (cA_2, 10, .inr (.inr (.inr (.inr f_22))))), (q_24, .inr (6, [.ref dk, .ref q1_25, .int 0]))] H := hP
  have hD : va_D A [(h0, .inr (2, [.ref q_1])), (q_1, .inl (cA_2, 10, .inr (.inr (.inr (.inr f_22))))), (q_24, .inr (6, [.ref dk, .ref q1_25, .int 0]))] := hD
  have hK : va_K (dC, dI) classes [(cA_2, .object "RealHouse$Poly")] s := hK
  refine W.widen (k := 13) (n := 28) (Nat.le_of_ble_eq_true rfl) (Nat.le_of_ble_eq_true rfl) ?_
  refine va_astq (r := (R_Poly, F_Poly, 3)) hx hb hK hP hD hS 1 0 2 6 rfl rfl rfl rfl (vp_in_nI (n := 5) (by decide) (by decide)) d_Curve_init_32 (fun H locs hP hD hS => ?_)
  have hP : va_P (dC, dI) classes [(h0, .inr (2, [.ref q_1])), (q_1, .inl (cA_2, 10, .inr (.inr (.inr (.inr (va_up f_22 (5 : Int32).toNatClampNeg (some q_24))))))), (q_24, .inr (6, [.ref dk, .ref q1_25, .int 0]))] H := hP
  have hD : va_D A [(h0, .inr (2, [.ref q_1])), (q_1, .inl (cA_2, 10, .inr (.inr (.inr (.inr (va_up f_22 (5 : Int32).toNatClampNeg (some q_24))))))), (q_24, .inr (6, [.ref dk, .ref q1_25, .int 0]))] := hD
  generalize va_up f_22 (5 : Int32).toNatClampNeg (some q_24) = f_26 at hP hD
  have hP := hP.sub (ws' := [(h0, .inr (2, [.ref q_1])), (q_1, .inl (cA_2, 10, .inr (.inr (.inr (.inr f_26)))))]) [0, 1] rfl
  have hD := hD.sub (ws' := [(h0, .inr (2, [.ref q_1])), (q_1, .inl (cA_2, 10, .inr (.inr (.inr (.inr f_26)))))]) [0, 1] (by decide) rfl
  refine lv_iinc (v := 6) (lv' := [(3, .int 6), (0, .ref h0), (1, .ref dk), (2, .int 10)]) hx hb d_Curve_init_33 hl (k := 0) rfl (by decide) (by decide) rfl (fun ls hl => ?_)
  refine lv_goto (tgt := 14) hx hb d_Curve_init_36 (by decide) ?_
  refine lv_iload_n hx hb d_Curve_init_14 rfl (lv_at hl 0 rfl) ?_
  refine lv_iload_n hx hb d_Curve_init_15 rfl (lv_at hl 3 rfl) ?_
  refine lv_icmp_ge (tgt := 39) hx hb d_Curve_init_16 (by decide) (fun c_27 => absurd c_27 (by decide)) (fun c_27 => ?_)
  refine lv_aload_n hx hb d_Curve_init_19 rfl (lv_at hl 1 rfl) ?_
  refine va_get (D := (dC, dI)) (ci := 2) (v := .ref q_1) (C := R_Curve) (T := F_Curve) (N := 1) hx hb hT i_Curve hown hK hP 0 rfl rfl 0 (by decide) (hT _ tw_224) (fun _ h9 => h9) rfl d_Curve_init_20 ?_
  refine lv_iload_n hx hb d_Curve_init_23 rfl (lv_at hl 0 rfl) ?_
  refine va_new (ci := 6) (fs := [.null, .null, .int 0]) (C := R_Poly) (T := F_Poly) (N := 3) hx hb hT i_Poly t_Poly t_Poly_ok hown (hT _ tw_189) (hT _ tw_190) (hT _ tw_8) hK hP hD hS hA rfl (by decide) (Nat.le_of_ble_eq_true rfl) (Nat.le_of_ble_eq_true rfl) d_Curve_init_24 (fun q_28 H hP hD hS => ?_)
  have hP : va_P (dC, dI) classes [(h0, .inr (2, [.ref q_1])), (q_1, .inl (cA_2, 10, .inr (.inr (.inr (.inr f_26))))), (q_28, .inr (6, [.null, .null, .int 0]))] H := hP
  have hD : va_D A [(h0, .inr (2, [.ref q_1])), (q_1, .inl (cA_2, 10, .inr (.inr (.inr (.inr f_26))))), (q_28, .inr (6, [.null, .null, .int 0]))] := hD
  refine W.widen (k := 14) (n := 31) (Nat.le_of_ble_eq_true rfl) (Nat.le_of_ble_eq_true rfl) ?_
  refine lv_dup hx hb d_Curve_init_27 rfl ?_
  refine lv_aload_n hx hb d_Curve_init_28 rfl (lv_at hl 2 rfl) ?_
  have hPc := hP.sub (ws' := [(q_28, .inr (6, [.null, .null, .int 0]))]) [2] rfl
  have hDc := hD.sub (ws' := [(q_28, .inr (6, [.null, .null, .int 0]))]) [2] (by decide) rfl
  have hKc := hK.sub (tys' := []) [] rfl
  have hFc := va_free (wc := [(q_28, .inr (6, [.null, .null, .int 0]))]) hD hS hA [2] rfl
  refine va_callv (va_runI (As := [.ref dk]) (rest := [.ref q_28, .int 6, .ref q_1]) ⟨hx, hb, hml, hown, hT⟩ (c_Poly_init l dC dI H.size q_28 dk ) (cwI 1 hT g_Poly_init rfl rfl rfl (hT _ tw_8) (hT _ tw_191) (hT _ tw_192) rfl (by decide +kernel) ⟨Nat.le_of_ble_eq_true rfl, Nat.le_of_ble_eq_true rfl⟩) ⟨fun a U g mk q => by obtain ⟨q0, q1, qP, qK, qD, qN⟩ := q; exact ⟨q0, q1, qP, va_K.moved (u := U) (U := U.calling g mk a) (Vm.Alike.refl U.vm) qK, qD, nx_K.same (u := U) (U := U.calling g mk a) rfl qN⟩, fun U hU hW => ⟨rfl, by rw [hU], by rw [hU]; exact hPc, va_K.moved hW.alike hKc, hDc.weaken (fun _ _ _ _ => trivial), nx_K.warm hW hN⟩⟩ rfl rfl hl.1 rfl (lv_room (Nat.le_of_ble_eq_true rfl)) d_Curve_init_29 ⟨Nat.le_of_ble_eq_true rfl, Nat.le_of_ble_eq_true rfl⟩) hS (fun q _ h => hFc q h) hFc (fun u t H1 locs ht hvm hw hB hz1 hk1 hS => ?_)
  obtain ⟨q1_29, hP1, hK1, hD1⟩ := hB
  rw [ht] at hP1
  have hK1 := va_K.moved hvm.symm hK1
  obtain ⟨hP, hD⟩ := va_join (wr := [(h0, .inr (2, [.ref q_1])), (q_1, .inl (cA_2, 10, .inr (.inr (.inr (.inr f_26)))))]) (w1 := [(q_28, .inr (6, [.ref dk, .ref q1_29, .int 0]))]) hP hD [2] [0, 1] rfl rfl (by decide) (by decide) hk1 hFc hP1 hD1
  have hK := (hK.sub (tys' := [(cA_2, .object "RealHouse$Poly")]) [0] rfl).app hK1
  generalize H1 = H at hP hS ⊢
  have hP : va_P (dC, dI) classes [(h0, .inr (2, [.ref q_1])), (q_1, .inl (cA_2, 10, .inr (.inr (.inr (.inr f_26))))), (q_28, .inr (6, [.ref dk, .ref q1_29, .int 0]))] H := hP
  have hD : va_D A [(h0, .inr (2, [.ref q_1])), (q_1, .inl (cA_2, 10, .inr (.inr (.inr (.inr f_26))))), (q_28, .inr (6, [.ref dk, .ref q1_29, .int 0]))] := hD
  have hK : va_K (dC, dI) classes [(cA_2, .object "RealHouse$Poly")] s := hK
  refine W.widen (k := 15) (n := 31) (Nat.le_of_ble_eq_true rfl) (Nat.le_of_ble_eq_true rfl) ?_
  refine va_astq (r := (R_Poly, F_Poly, 3)) hx hb hK hP hD hS 1 0 2 6 rfl rfl rfl rfl (vp_in_nI (n := 6) (by decide) (by decide)) d_Curve_init_32 (fun H locs hP hD hS => ?_)
  have hP : va_P (dC, dI) classes [(h0, .inr (2, [.ref q_1])), (q_1, .inl (cA_2, 10, .inr (.inr (.inr (.inr (va_up f_26 (6 : Int32).toNatClampNeg (some q_28))))))), (q_28, .inr (6, [.ref dk, .ref q1_29, .int 0]))] H := hP
  have hD : va_D A [(h0, .inr (2, [.ref q_1])), (q_1, .inl (cA_2, 10, .inr (.inr (.inr (.inr (va_up f_26 (6 : Int32).toNatClampNeg (some q_28))))))), (q_28, .inr (6, [.ref dk, .ref q1_29, .int 0]))] := hD
  generalize va_up f_26 (6 : Int32).toNatClampNeg (some q_28) = f_30 at hP hD
  have hP := hP.sub (ws' := [(h0, .inr (2, [.ref q_1])), (q_1, .inl (cA_2, 10, .inr (.inr (.inr (.inr f_30)))))]) [0, 1] rfl
  have hD := hD.sub (ws' := [(h0, .inr (2, [.ref q_1])), (q_1, .inl (cA_2, 10, .inr (.inr (.inr (.inr f_30)))))]) [0, 1] (by decide) rfl
  refine lv_iinc (v := 7) (lv' := [(3, .int 7), (0, .ref h0), (1, .ref dk), (2, .int 10)]) hx hb d_Curve_init_33 hl (k := 0) rfl (by decide) (by decide) rfl (fun ls hl => ?_)
  refine lv_goto (tgt := 14) hx hb d_Curve_init_36 (by decide) ?_
  refine lv_iload_n hx hb d_Curve_init_14 rfl (lv_at hl 0 rfl) ?_
  refine lv_iload_n hx hb d_Curve_init_15 rfl (lv_at hl 3 rfl) ?_
  refine lv_icmp_ge (tgt := 39) hx hb d_Curve_init_16 (by decide) (fun c_31 => absurd c_31 (by decide)) (fun c_31 => ?_)
  refine lv_aload_n hx hb d_Curve_init_19 rfl (lv_at hl 1 rfl) ?_
  refine va_get (D := (dC, dI)) (ci := 2) (v := .ref q_1) (C := R_Curve) (T := F_Curve) (N := 1) hx hb hT i_Curve hown hK hP 0 rfl rfl 0 (by decide) (hT _ tw_224) (fun _ h9 => h9) rfl d_Curve_init_20 ?_
  refine lv_iload_n hx hb d_Curve_init_23 rfl (lv_at hl 0 rfl) ?_
  refine va_new (ci := 6) (fs := [.null, .null, .int 0]) (C := R_Poly) (T := F_Poly) (N := 3) hx hb hT i_Poly t_Poly t_Poly_ok hown (hT _ tw_189) (hT _ tw_190) (hT _ tw_8) hK hP hD hS hA rfl (by decide) (Nat.le_of_ble_eq_true rfl) (Nat.le_of_ble_eq_true rfl) d_Curve_init_24 (fun q_32 H hP hD hS => ?_)
  have hP : va_P (dC, dI) classes [(h0, .inr (2, [.ref q_1])), (q_1, .inl (cA_2, 10, .inr (.inr (.inr (.inr f_30))))), (q_32, .inr (6, [.null, .null, .int 0]))] H := hP
  have hD : va_D A [(h0, .inr (2, [.ref q_1])), (q_1, .inl (cA_2, 10, .inr (.inr (.inr (.inr f_30))))), (q_32, .inr (6, [.null, .null, .int 0]))] := hD
  refine W.widen (k := 16) (n := 34) (Nat.le_of_ble_eq_true rfl) (Nat.le_of_ble_eq_true rfl) ?_
  refine lv_dup hx hb d_Curve_init_27 rfl ?_
  refine lv_aload_n hx hb d_Curve_init_28 rfl (lv_at hl 2 rfl) ?_
  have hPc := hP.sub (ws' := [(q_32, .inr (6, [.null, .null, .int 0]))]) [2] rfl
  have hDc := hD.sub (ws' := [(q_32, .inr (6, [.null, .null, .int 0]))]) [2] (by decide) rfl
  have hKc := hK.sub (tys' := []) [] rfl
  have hFc := va_free (wc := [(q_32, .inr (6, [.null, .null, .int 0]))]) hD hS hA [2] rfl
  refine va_callv (va_runI (As := [.ref dk]) (rest := [.ref q_32, .int 7, .ref q_1]) ⟨hx, hb, hml, hown, hT⟩ (c_Poly_init l dC dI H.size q_32 dk ) (cwI 1 hT g_Poly_init rfl rfl rfl (hT _ tw_8) (hT _ tw_191) (hT _ tw_192) rfl (by decide +kernel) ⟨Nat.le_of_ble_eq_true rfl, Nat.le_of_ble_eq_true rfl⟩) ⟨fun a U g mk q => by obtain ⟨q0, q1, qP, qK, qD, qN⟩ := q; exact ⟨q0, q1, qP, va_K.moved (u := U) (U := U.calling g mk a) (Vm.Alike.refl U.vm) qK, qD, nx_K.same (u := U) (U := U.calling g mk a) rfl qN⟩, fun U hU hW => ⟨rfl, by rw [hU], by rw [hU]; exact hPc, va_K.moved hW.alike hKc, hDc.weaken (fun _ _ _ _ => trivial), nx_K.warm hW hN⟩⟩ rfl rfl hl.1 rfl (lv_room (Nat.le_of_ble_eq_true rfl)) d_Curve_init_29 ⟨Nat.le_of_ble_eq_true rfl, Nat.le_of_ble_eq_true rfl⟩) hS (fun q _ h => hFc q h) hFc (fun u t H1 locs ht hvm hw hB hz1 hk1 hS => ?_)
  obtain ⟨q1_33, hP1, hK1, hD1⟩ := hB
  rw [ht] at hP1
  have hK1 := va_K.moved hvm.symm hK1
  obtain ⟨hP, hD⟩ := va_join (wr := [(h0, .inr (2, [.ref q_1])), (q_1, .inl (cA_2, 10, .inr (.inr (.inr (.inr f_30)))))]) (w1 := [(q_32, .inr (6, [.ref dk, .ref q1_33, .int 0]))]) hP hD [2] [0, 1] rfl rfl (by decide) (by decide) hk1 hFc hP1 hD1
  have hK := (hK.sub (tys' := [(cA_2, .object "RealHouse$Poly")]) [0] rfl).app hK1
  generalize H1 = H at hP hS ⊢
  have hP : va_P (dC, dI) classes [(h0, .inr (2, [.ref q_1])), (q_1, .inl (cA_2, 10, .inr (.inr (.inr (.inr f_30))))), (q_32, .inr (6, [.ref dk, .ref q1_33, .int 0]))] H := hP
  have hD : va_D A [(h0, .inr (2, [.ref q_1])), (q_1, .inl (cA_2, 10, .inr (.inr (.inr (.inr f_30))))), (q_32, .inr (6, [.ref dk, .ref q1_33, .int 0]))] := hD
  have hK : va_K (dC, dI) classes [(cA_2, .object "RealHouse$Poly")] s := hK
  refine W.widen (k := 17) (n := 34) (Nat.le_of_ble_eq_true rfl) (Nat.le_of_ble_eq_true rfl) ?_
  refine va_astq (r := (R_Poly, F_Poly, 3)) hx hb hK hP hD hS 1 0 2 6 rfl rfl rfl rfl (vp_in_nI (n := 7) (by decide) (by decide)) d_Curve_init_32 (fun H locs hP hD hS => ?_)
  have hP : va_P (dC, dI) classes [(h0, .inr (2, [.ref q_1])), (q_1, .inl (cA_2, 10, .inr (.inr (.inr (.inr (va_up f_30 (7 : Int32).toNatClampNeg (some q_32))))))), (q_32, .inr (6, [.ref dk, .ref q1_33, .int 0]))] H := hP
  have hD : va_D A [(h0, .inr (2, [.ref q_1])), (q_1, .inl (cA_2, 10, .inr (.inr (.inr (.inr (va_up f_30 (7 : Int32).toNatClampNeg (some q_32))))))), (q_32, .inr (6, [.ref dk, .ref q1_33, .int 0]))] := hD
  generalize va_up f_30 (7 : Int32).toNatClampNeg (some q_32) = f_34 at hP hD
  have hP := hP.sub (ws' := [(h0, .inr (2, [.ref q_1])), (q_1, .inl (cA_2, 10, .inr (.inr (.inr (.inr f_34)))))]) [0, 1] rfl
  have hD := hD.sub (ws' := [(h0, .inr (2, [.ref q_1])), (q_1, .inl (cA_2, 10, .inr (.inr (.inr (.inr f_34)))))]) [0, 1] (by decide) rfl
  refine lv_iinc (v := 8) (lv' := [(3, .int 8), (0, .ref h0), (1, .ref dk), (2, .int 10)]) hx hb d_Curve_init_33 hl (k := 0) rfl (by decide) (by decide) rfl (fun ls hl => ?_)
  refine lv_goto (tgt := 14) hx hb d_Curve_init_36 (by decide) ?_
  refine lv_iload_n hx hb d_Curve_init_14 rfl (lv_at hl 0 rfl) ?_
  refine lv_iload_n hx hb d_Curve_init_15 rfl (lv_at hl 3 rfl) ?_
  refine lv_icmp_ge (tgt := 39) hx hb d_Curve_init_16 (by decide) (fun c_35 => absurd c_35 (by decide)) (fun c_35 => ?_)
  refine lv_aload_n hx hb d_Curve_init_19 rfl (lv_at hl 1 rfl) ?_
  refine va_get (D := (dC, dI)) (ci := 2) (v := .ref q_1) (C := R_Curve) (T := F_Curve) (N := 1) hx hb hT i_Curve hown hK hP 0 rfl rfl 0 (by decide) (hT _ tw_224) (fun _ h9 => h9) rfl d_Curve_init_20 ?_
  refine lv_iload_n hx hb d_Curve_init_23 rfl (lv_at hl 0 rfl) ?_
  refine va_new (ci := 6) (fs := [.null, .null, .int 0]) (C := R_Poly) (T := F_Poly) (N := 3) hx hb hT i_Poly t_Poly t_Poly_ok hown (hT _ tw_189) (hT _ tw_190) (hT _ tw_8) hK hP hD hS hA rfl (by decide) (Nat.le_of_ble_eq_true rfl) (Nat.le_of_ble_eq_true rfl) d_Curve_init_24 (fun q_36 H hP hD hS => ?_)
  have hP : va_P (dC, dI) classes [(h0, .inr (2, [.ref q_1])), (q_1, .inl (cA_2, 10, .inr (.inr (.inr (.inr f_34))))), (q_36, .inr (6, [.null, .null, .int 0]))] H := hP
  have hD : va_D A [(h0, .inr (2, [.ref q_1])), (q_1, .inl (cA_2, 10, .inr (.inr (.inr (.inr f_34))))), (q_36, .inr (6, [.null, .null, .int 0]))] := hD
  refine W.widen (k := 18) (n := 37) (Nat.le_of_ble_eq_true rfl) (Nat.le_of_ble_eq_true rfl) ?_
  refine lv_dup hx hb d_Curve_init_27 rfl ?_
  refine lv_aload_n hx hb d_Curve_init_28 rfl (lv_at hl 2 rfl) ?_
  have hPc := hP.sub (ws' := [(q_36, .inr (6, [.null, .null, .int 0]))]) [2] rfl
  have hDc := hD.sub (ws' := [(q_36, .inr (6, [.null, .null, .int 0]))]) [2] (by decide) rfl
  have hKc := hK.sub (tys' := []) [] rfl
  have hFc := va_free (wc := [(q_36, .inr (6, [.null, .null, .int 0]))]) hD hS hA [2] rfl
  refine va_callv (va_runI (As := [.ref dk]) (rest := [.ref q_36, .int 8, .ref q_1]) ⟨hx, hb, hml, hown, hT⟩ (c_Poly_init l dC dI H.size q_36 dk ) (cwI 1 hT g_Poly_init rfl rfl rfl (hT _ tw_8) (hT _ tw_191) (hT _ tw_192) rfl (by decide +kernel) ⟨Nat.le_of_ble_eq_true rfl, Nat.le_of_ble_eq_true rfl⟩) ⟨fun a U g mk q => by obtain ⟨q0, q1, qP, qK, qD, qN⟩ := q; exact ⟨q0, q1, qP, va_K.moved (u := U) (U := U.calling g mk a) (Vm.Alike.refl U.vm) qK, qD, nx_K.same (u := U) (U := U.calling g mk a) rfl qN⟩, fun U hU hW => ⟨rfl, by rw [hU], by rw [hU]; exact hPc, va_K.moved hW.alike hKc, hDc.weaken (fun _ _ _ _ => trivial), nx_K.warm hW hN⟩⟩ rfl rfl hl.1 rfl (lv_room (Nat.le_of_ble_eq_true rfl)) d_Curve_init_29 ⟨Nat.le_of_ble_eq_true rfl, Nat.le_of_ble_eq_true rfl⟩) hS (fun q _ h => hFc q h) hFc (fun u t H1 locs ht hvm hw hB hz1 hk1 hS => ?_)
  obtain ⟨q1_37, hP1, hK1, hD1⟩ := hB
  rw [ht] at hP1
  have hK1 := va_K.moved hvm.symm hK1
  obtain ⟨hP, hD⟩ := va_join (wr := [(h0, .inr (2, [.ref q_1])), (q_1, .inl (cA_2, 10, .inr (.inr (.inr (.inr f_34)))))]) (w1 := [(q_36, .inr (6, [.ref dk, .ref q1_37, .int 0]))]) hP hD [2] [0, 1] rfl rfl (by decide) (by decide) hk1 hFc hP1 hD1
  have hK := (hK.sub (tys' := [(cA_2, .object "RealHouse$Poly")]) [0] rfl).app hK1
  generalize H1 = H at hP hS ⊢
  have hP : va_P (dC, dI) classes [(h0, .inr (2, [.ref q_1])), (q_1, .inl (cA_2, 10, .inr (.inr (.inr (.inr f_34))))), (q_36, .inr (6, [.ref dk, .ref q1_37, .int 0]))] H := hP
  have hD : va_D A [(h0, .inr (2, [.ref q_1])), (q_1, .inl (cA_2, 10, .inr (.inr (.inr (.inr f_34))))), (q_36, .inr (6, [.ref dk, .ref q1_37, .int 0]))] := hD
  have hK : va_K (dC, dI) classes [(cA_2, .object "RealHouse$Poly")] s := hK
  refine W.widen (k := 19) (n := 37) (Nat.le_of_ble_eq_true rfl) (Nat.le_of_ble_eq_true rfl) ?_
  refine va_astq (r := (R_Poly, F_Poly, 3)) hx hb hK hP hD hS 1 0 2 6 rfl rfl rfl rfl (vp_in_nI (n := 8) (by decide) (by decide)) d_Curve_init_32 (fun H locs hP hD hS => ?_)
  have hP : va_P (dC, dI) classes [(h0, .inr (2, [.ref q_1])), (q_1, .inl (cA_2, 10, .inr (.inr (.inr (.inr (va_up f_34 (8 : Int32).toNatClampNeg (some q_36))))))), (q_36, .inr (6, [.ref dk, .ref q1_37, .int 0]))] H := hP
  have hD : va_D A [(h0, .inr (2, [.ref q_1])), (q_1, .inl (cA_2, 10, .inr (.inr (.inr (.inr (va_up f_34 (8 : Int32).toNatClampNeg (some q_36))))))), (q_36, .inr (6, [.ref dk, .ref q1_37, .int 0]))] := hD
  generalize va_up f_34 (8 : Int32).toNatClampNeg (some q_36) = f_38 at hP hD
  have hP := hP.sub (ws' := [(h0, .inr (2, [.ref q_1])), (q_1, .inl (cA_2, 10, .inr (.inr (.inr (.inr f_38)))))]) [0, 1] rfl
  have hD := hD.sub (ws' := [(h0, .inr (2, [.ref q_1])), (q_1, .inl (cA_2, 10, .inr (.inr (.inr (.inr f_38)))))]) [0, 1] (by decide) rfl
  refine lv_iinc (v := 9) (lv' := [(3, .int 9), (0, .ref h0), (1, .ref dk), (2, .int 10)]) hx hb d_Curve_init_33 hl (k := 0) rfl (by decide) (by decide) rfl (fun ls hl => ?_)
  refine lv_goto (tgt := 14) hx hb d_Curve_init_36 (by decide) ?_
  refine lv_iload_n hx hb d_Curve_init_14 rfl (lv_at hl 0 rfl) ?_
  refine lv_iload_n hx hb d_Curve_init_15 rfl (lv_at hl 3 rfl) ?_
  refine lv_icmp_ge (tgt := 39) hx hb d_Curve_init_16 (by decide) (fun c_39 => absurd c_39 (by decide)) (fun c_39 => ?_)
  refine lv_aload_n hx hb d_Curve_init_19 rfl (lv_at hl 1 rfl) ?_
  refine va_get (D := (dC, dI)) (ci := 2) (v := .ref q_1) (C := R_Curve) (T := F_Curve) (N := 1) hx hb hT i_Curve hown hK hP 0 rfl rfl 0 (by decide) (hT _ tw_224) (fun _ h9 => h9) rfl d_Curve_init_20 ?_
  refine lv_iload_n hx hb d_Curve_init_23 rfl (lv_at hl 0 rfl) ?_
  refine va_new (ci := 6) (fs := [.null, .null, .int 0]) (C := R_Poly) (T := F_Poly) (N := 3) hx hb hT i_Poly t_Poly t_Poly_ok hown (hT _ tw_189) (hT _ tw_190) (hT _ tw_8) hK hP hD hS hA rfl (by decide) (Nat.le_of_ble_eq_true rfl) (Nat.le_of_ble_eq_true rfl) d_Curve_init_24 (fun q_40 H hP hD hS => ?_)
  have hP : va_P (dC, dI) classes [(h0, .inr (2, [.ref q_1])), (q_1, .inl (cA_2, 10, .inr (.inr (.inr (.inr f_38))))), (q_40, .inr (6, [.null, .null, .int 0]))] H := hP
  have hD : va_D A [(h0, .inr (2, [.ref q_1])), (q_1, .inl (cA_2, 10, .inr (.inr (.inr (.inr f_38))))), (q_40, .inr (6, [.null, .null, .int 0]))] := hD
  refine W.widen (k := 20) (n := 40) (Nat.le_of_ble_eq_true rfl) (Nat.le_of_ble_eq_true rfl) ?_
  refine lv_dup hx hb d_Curve_init_27 rfl ?_
  refine lv_aload_n hx hb d_Curve_init_28 rfl (lv_at hl 2 rfl) ?_
  have hPc := hP.sub (ws' := [(q_40, .inr (6, [.null, .null, .int 0]))]) [2] rfl
  have hDc := hD.sub (ws' := [(q_40, .inr (6, [.null, .null, .int 0]))]) [2] (by decide) rfl
  have hKc := hK.sub (tys' := []) [] rfl
  have hFc := va_free (wc := [(q_40, .inr (6, [.null, .null, .int 0]))]) hD hS hA [2] rfl
  refine va_callv (va_runI (As := [.ref dk]) (rest := [.ref q_40, .int 9, .ref q_1]) ⟨hx, hb, hml, hown, hT⟩ (c_Poly_init l dC dI H.size q_40 dk ) (cwI 1 hT g_Poly_init rfl rfl rfl (hT _ tw_8) (hT _ tw_191) (hT _ tw_192) rfl (by decide +kernel) ⟨Nat.le_of_ble_eq_true rfl, Nat.le_of_ble_eq_true rfl⟩) ⟨fun a U g mk q => by obtain ⟨q0, q1, qP, qK, qD, qN⟩ := q; exact ⟨q0, q1, qP, va_K.moved (u := U) (U := U.calling g mk a) (Vm.Alike.refl U.vm) qK, qD, nx_K.same (u := U) (U := U.calling g mk a) rfl qN⟩, fun U hU hW => ⟨rfl, by rw [hU], by rw [hU]; exact hPc, va_K.moved hW.alike hKc, hDc.weaken (fun _ _ _ _ => trivial), nx_K.warm hW hN⟩⟩ rfl rfl hl.1 rfl (lv_room (Nat.le_of_ble_eq_true rfl)) d_Curve_init_29 ⟨Nat.le_of_ble_eq_true rfl, Nat.le_of_ble_eq_true rfl⟩) hS (fun q _ h => hFc q h) hFc (fun u t H1 locs ht hvm hw hB hz1 hk1 hS => ?_)
  obtain ⟨q1_41, hP1, hK1, hD1⟩ := hB
  rw [ht] at hP1
  have hK1 := va_K.moved hvm.symm hK1
  obtain ⟨hP, hD⟩ := va_join (wr := [(h0, .inr (2, [.ref q_1])), (q_1, .inl (cA_2, 10, .inr (.inr (.inr (.inr f_38)))))]) (w1 := [(q_40, .inr (6, [.ref dk, .ref q1_41, .int 0]))]) hP hD [2] [0, 1] rfl rfl (by decide) (by decide) hk1 hFc hP1 hD1
  have hK := (hK.sub (tys' := [(cA_2, .object "RealHouse$Poly")]) [0] rfl).app hK1
  generalize H1 = H at hP hS ⊢
  have hP : va_P (dC, dI) classes [(h0, .inr (2, [.ref q_1])), (q_1, .inl (cA_2, 10, .inr (.inr (.inr (.inr f_38))))), (q_40, .inr (6, [.ref dk, .ref q1_41, .int 0]))] H := hP
  have hD : va_D A [(h0, .inr (2, [.ref q_1])), (q_1, .inl (cA_2, 10, .inr (.inr (.inr (.inr f_38))))), (q_40, .inr (6, [.ref dk, .ref q1_41, .int 0]))] := hD
  have hK : va_K (dC, dI) classes [(cA_2, .object "RealHouse$Poly")] s := hK
  refine W.widen (k := 21) (n := 40) (Nat.le_of_ble_eq_true rfl) (Nat.le_of_ble_eq_true rfl) ?_
  refine va_astq (r := (R_Poly, F_Poly, 3)) hx hb hK hP hD hS 1 0 2 6 rfl rfl rfl rfl (vp_in_nI (n := 9) (by decide) (by decide)) d_Curve_init_32 (fun H locs hP hD hS => ?_)
  have hP : va_P (dC, dI) classes [(h0, .inr (2, [.ref q_1])), (q_1, .inl (cA_2, 10, .inr (.inr (.inr (.inr (va_up f_38 (9 : Int32).toNatClampNeg (some q_40))))))), (q_40, .inr (6, [.ref dk, .ref q1_41, .int 0]))] H := hP
  have hD : va_D A [(h0, .inr (2, [.ref q_1])), (q_1, .inl (cA_2, 10, .inr (.inr (.inr (.inr (va_up f_38 (9 : Int32).toNatClampNeg (some q_40))))))), (q_40, .inr (6, [.ref dk, .ref q1_41, .int 0]))] := hD
  generalize va_up f_38 (9 : Int32).toNatClampNeg (some q_40) = f_42 at hP hD
  have hP := hP.sub (ws' := [(h0, .inr (2, [.ref q_1])), (q_1, .inl (cA_2, 10, .inr (.inr (.inr (.inr f_42)))))]) [0, 1] rfl
  have hD := hD.sub (ws' := [(h0, .inr (2, [.ref q_1])), (q_1, .inl (cA_2, 10, .inr (.inr (.inr (.inr f_42)))))]) [0, 1] (by decide) rfl
  refine lv_iinc (v := 10) (lv' := [(3, .int 10), (0, .ref h0), (1, .ref dk), (2, .int 10)]) hx hb d_Curve_init_33 hl (k := 0) rfl (by decide) (by decide) rfl (fun ls hl => ?_)
  refine lv_goto (tgt := 14) hx hb d_Curve_init_36 (by decide) ?_
  refine lv_iload_n hx hb d_Curve_init_14 rfl (lv_at hl 0 rfl) ?_
  refine lv_iload_n hx hb d_Curve_init_15 rfl (lv_at hl 3 rfl) ?_
  refine lv_icmp_ge (tgt := 39) hx hb d_Curve_init_16 (by decide) (fun c_43 => ?_) (fun c_43 => absurd (by decide) c_43)
  have hP9 := hP.sub (ws' := [(h0, .inr (2, [.ref q_1]))]) [0] rfl
  have hD9 := hD.sub (ws' := [(h0, .inr (2, [.ref q_1]))]) [0] (by decide) rfl
  have hK9 := hK.sub (tys' := []) [] rfl
  exact W.vret hx hb hr (fun t ht hW => ⟨⟨(), rfl, trivial, q_1, by rw [ht]; exact hP9, va_K.moved hW.alike hK9, hD9⟩, hS.F ht⟩) hS.2.2 d_Curve_init_39

set_option maxHeartbeats 4000000 in
set_option maxRecDepth 100000 in
/-- Curve(desk, 17) -/
theorem c_Curve_init_17 (l : Launch) (dC : Nat → ClassId) (dI : Nat → Nat → Nat) (sz : Nat) (h0 : Nat) (dk : Nat)  : Met l y_Curve_init w_Curve_init ({ frames := 2, cells := 35, slots := 68, locals := 33 }) (va_Pc [.ref h0, .ref dk, .int 17] (fun U => U.heap.size = sz ∧ va_P (dC, dI) classes [(h0, .inr (2, [.null]))] U.heap ∧ va_K (dC, dI) classes [] U ∧ va_D (fun _ => True) [(h0, .inr (2, [.null]))] ∧ nx_K U)) (va_Qv (fun _ : Unit => True) (fun _ t => ∃ (x_c : Nat), va_P (dC, dI) classes [(h0, .inr (2, [.ref x_c]))] t.heap ∧ va_K (dC, dI) classes [] t ∧ va_D (va_A [(h0, .inr (2, [.null]))] sz) [(h0, .inr (2, [.ref x_c]))]) (va_A [(h0, .inr (2, [.null]))] sz)) 35 68 (va_A [(h0, .inr (2, [.null]))] sz) := by
  refine Met.ofW (cc := b_Curve_init) (maxL := 4) (ret := none) (by decide) rfl ?_
  intro p e s m args below meth c s₁ B hml hv
  obtain ⟨rfl, hsz, hP, hK, hD0, hN⟩ := hv
  have hx := B.exec
  have hb := B.bytes
  have hr := B.returns
  have hT : ∀ w ∈ lw_g, w.before _ s = true := fun w h => atoms_spec (ws := w_Curve_init) B.pre w (List.mem_cons_of_mem _ h)
  have hown : s.vm.findClass R_Curve = some m.cls := findClass_of_methodNamed B.named
  have hlocks := B.notSynchronized
  have hin : meth.name = "<init>" := (name_of_methodNamed B.named B.method).1
  subst hsz
  have hD := hD0.self (sz := s.heap.size)
  generalize hAe : va_A [(h0, .inr (2, [.null]))] s.heap.size = A at hD ⊢
  have hA : ∀ q : Nat, s.heap.size ≤ q → A q := fun q h => by rw [← hAe]; exact Or.inr h
  have hS : va_S A s.heap s.heap [] := va_S.rf
  have hP : va_P (dC, dI) classes [(h0, .inr (2, [.null]))] s.heap := hP
  have hl := lv_entry ([.ref h0, .ref dk, .int 17]) (n := 4) (Nat.le_of_ble_eq_true rfl)
  rw [lg_entry_eq]
  generalize (lg_sl ([.ref h0, .ref dk, .int 17]) ++ List.replicate (4 - (lg_sl ([.ref h0, .ref dk, .int 17])).length) Slot.unset).toArray = ls at hl ⊢
  have hl : lv_has ls 4 [(0, .ref h0), (1, .ref dk), (2, .int 17)] := hl
  refine lv_aload_n hx hb d_Curve_init_0 rfl (lv_at hl 0 rfl) ?_
  refine W.objInit hx hb hown (hT _ tw_188) (hT _ tw_24) (hT _ tw_25) rfl (by rw [hml]; exact hl.1) rfl d_Curve_init_1 (Nat.le_of_ble_eq_true rfl) (Nat.le_of_ble_eq_true rfl) ?_
  refine W.eq (g2 := F0 m 4 ls []) rfl ?_
  refine lv_aload_n hx hb d_Curve_init_4 rfl (lv_at hl 0 rfl) ?_
  refine lv_iload_n hx hb d_Curve_init_5 rfl (lv_at hl 2 rfl) ?_
  refine va_newq hx hb hown (hT _ tw_189) hN.2.2.1 hK hP hD hS hA (by decide) rfl (by decide) (Nat.le_of_ble_eq_true rfl) (Nat.le_of_ble_eq_true rfl) d_Curve_init_6 (fun q_1 cA_2 H hK hP hD hS => ?_)
  have hP : va_P (dC, dI) classes [(h0, .inr (2, [.null])), (q_1, .inl (cA_2, 17, .inr (.inr (.inr (.inr (fun _ => none))))))] H := hP
  have hD : va_D A [(h0, .inr (2, [.null])), (q_1, .inl (cA_2, 17, .inr (.inr (.inr (.inr (fun _ => none))))))] := hD
  have hK : va_K (dC, dI) classes [(cA_2, .object "RealHouse$Poly")] s := hK
  refine W.widen (k := 1) (n := 17) (Nat.le_of_ble_eq_true rfl) (Nat.le_of_ble_eq_true rfl) ?_
  refine va_putF (D := (dC, dI)) (ci := 2) (v := .ref q_1) (ty := .array (.object "RealHouse$Poly")) (C := R_Curve) (T := F_Curve) (N := 1) hx hb hT i_Curve t_Curve t_Curve_ok n_Curve hown hK hP hD hS 0 rfl rfl 0 (by decide) (hT _ tw_224) (fun _ h9 => h9) rfl hin rfl (by decide +kernel) rfl rfl (Nat.le_of_ble_eq_true rfl) d_Curve_init_9 (fun H locs hP hD hS => ?_)
  have hP : va_P (dC, dI) classes [(h0, .inr (2, [.ref q_1])), (q_1, .inl (cA_2, 17, .inr (.inr (.inr (.inr (fun _ => none))))))] H := hP
  have hD : va_D A [(h0, .inr (2, [.ref q_1])), (q_1, .inl (cA_2, 17, .inr (.inr (.inr (.inr (fun _ => none))))))] := hD
  refine lv_iconst (v := 0) hx hb d_Curve_init_12 (by decide) ?_
  refine lv_istore_n (lv' := [(3, .int 0), (0, .ref h0), (1, .ref dk), (2, .int 17)]) hx hb d_Curve_init_13 rfl hl (by decide) rfl (fun ls hl => ?_)
  refine lv_iload_n hx hb d_Curve_init_14 rfl (lv_at hl 0 rfl) ?_
  refine lv_iload_n hx hb d_Curve_init_15 rfl (lv_at hl 3 rfl) ?_
  refine lv_icmp_ge (tgt := 39) hx hb d_Curve_init_16 (by decide) (fun c_3 => absurd c_3 (by decide)) (fun c_3 => ?_)
  refine lv_aload_n hx hb d_Curve_init_19 rfl (lv_at hl 1 rfl) ?_
  refine va_get (D := (dC, dI)) (ci := 2) (v := .ref q_1) (C := R_Curve) (T := F_Curve) (N := 1) hx hb hT i_Curve hown hK hP 0 rfl rfl 0 (by decide) (hT _ tw_224) (fun _ h9 => h9) rfl d_Curve_init_20 ?_
  refine lv_iload_n hx hb d_Curve_init_23 rfl (lv_at hl 0 rfl) ?_
  refine va_new (ci := 6) (fs := [.null, .null, .int 0]) (C := R_Poly) (T := F_Poly) (N := 3) hx hb hT i_Poly t_Poly t_Poly_ok hown (hT _ tw_189) (hT _ tw_190) (hT _ tw_8) hK hP hD hS hA rfl (by decide) (Nat.le_of_ble_eq_true rfl) (Nat.le_of_ble_eq_true rfl) d_Curve_init_24 (fun q_4 H hP hD hS => ?_)
  have hP : va_P (dC, dI) classes [(h0, .inr (2, [.ref q_1])), (q_1, .inl (cA_2, 17, .inr (.inr (.inr (.inr (fun _ => none)))))), (q_4, .inr (6, [.null, .null, .int 0]))] H := hP
  have hD : va_D A [(h0, .inr (2, [.ref q_1])), (q_1, .inl (cA_2, 17, .inr (.inr (.inr (.inr (fun _ => none)))))), (q_4, .inr (6, [.null, .null, .int 0]))] := hD
  refine W.widen (k := 2) (n := 20) (Nat.le_of_ble_eq_true rfl) (Nat.le_of_ble_eq_true rfl) ?_
  refine lv_dup hx hb d_Curve_init_27 rfl ?_
  refine lv_aload_n hx hb d_Curve_init_28 rfl (lv_at hl 2 rfl) ?_
  have hPc := hP.sub (ws' := [(q_4, .inr (6, [.null, .null, .int 0]))]) [2] rfl
  have hDc := hD.sub (ws' := [(q_4, .inr (6, [.null, .null, .int 0]))]) [2] (by decide) rfl
  have hKc := hK.sub (tys' := []) [] rfl
  have hFc := va_free (wc := [(q_4, .inr (6, [.null, .null, .int 0]))]) hD hS hA [2] rfl
  refine va_callv (va_runI (As := [.ref dk]) (rest := [.ref q_4, .int 0, .ref q_1]) ⟨hx, hb, hml, hown, hT⟩ (c_Poly_init l dC dI H.size q_4 dk ) (cwI 1 hT g_Poly_init rfl rfl rfl (hT _ tw_8) (hT _ tw_191) (hT _ tw_192) rfl (by decide +kernel) ⟨Nat.le_of_ble_eq_true rfl, Nat.le_of_ble_eq_true rfl⟩) ⟨fun a U g mk q => by obtain ⟨q0, q1, qP, qK, qD, qN⟩ := q; exact ⟨q0, q1, qP, va_K.moved (u := U) (U := U.calling g mk a) (Vm.Alike.refl U.vm) qK, qD, nx_K.same (u := U) (U := U.calling g mk a) rfl qN⟩, fun U hU hW => ⟨rfl, by rw [hU], by rw [hU]; exact hPc, va_K.moved hW.alike hKc, hDc.weaken (fun _ _ _ _ => trivial), nx_K.warm hW hN⟩⟩ rfl rfl hl.1 rfl (lv_room (Nat.le_of_ble_eq_true rfl)) d_Curve_init_29 ⟨Nat.le_of_ble_eq_true rfl, Nat.le_of_ble_eq_true rfl⟩) hS (fun q _ h => hFc q h) hFc (fun u t H1 locs ht hvm hw hB hz1 hk1 hS => ?_)
  obtain ⟨q1_5, hP1, hK1, hD1⟩ := hB
  rw [ht] at hP1
  have hK1 := va_K.moved hvm.symm hK1
  obtain ⟨hP, hD⟩ := va_join (wr := [(h0, .inr (2, [.ref q_1])), (q_1, .inl (cA_2, 17, .inr (.inr (.inr (.inr (fun _ => none))))))]) (w1 := [(q_4, .inr (6, [.ref dk, .ref q1_5, .int 0]))]) hP hD [2] [0, 1] rfl rfl (by decide) (by decide) hk1 hFc hP1 hD1
  have hK := (hK.sub (tys' := [(cA_2, .object "RealHouse$Poly")]) [0] rfl).app hK1
  generalize H1 = H at hP hS ⊢
  have hP : va_P (dC, dI) classes [(h0, .inr (2, [.ref q_1])), (q_1, .inl (cA_2, 17, .inr (.inr (.inr (.inr (fun _ => none)))))), (q_4, .inr (6, [.ref dk, .ref q1_5, .int 0]))] H := hP
  have hD : va_D A [(h0, .inr (2, [.ref q_1])), (q_1, .inl (cA_2, 17, .inr (.inr (.inr (.inr (fun _ => none)))))), (q_4, .inr (6, [.ref dk, .ref q1_5, .int 0]))] := hD
  have hK : va_K (dC, dI) classes [(cA_2, .object "RealHouse$Poly")] s := hK
  refine W.widen (k := 3) (n := 20) (Nat.le_of_ble_eq_true rfl) (Nat.le_of_ble_eq_true rfl) ?_
  refine va_astq (r := (R_Poly, F_Poly, 3)) hx hb hK hP hD hS 1 0 2 6 rfl rfl rfl rfl (vp_in_nI (n := 0) (by decide) (by decide)) d_Curve_init_32 (fun H locs hP hD hS => ?_)
  have hP : va_P (dC, dI) classes [(h0, .inr (2, [.ref q_1])), (q_1, .inl (cA_2, 17, .inr (.inr (.inr (.inr (va_up (fun _ => none) (0 : Int32).toNatClampNeg (some q_4))))))), (q_4, .inr (6, [.ref dk, .ref q1_5, .int 0]))] H := hP
  have hD : va_D A [(h0, .inr (2, [.ref q_1])), (q_1, .inl (cA_2, 17, .inr (.inr (.inr (.inr (va_up (fun _ => none) (0 : Int32).toNatClampNeg (some q_4))))))), (q_4, .inr (6, [.ref dk, .ref q1_5, .int 0]))] := hD
  generalize va_up (fun _ => none) (0 : Int32).toNatClampNeg (some q_4) = f_6 at hP hD
  have hP := hP.sub (ws' := [(h0, .inr (2, [.ref q_1])), (q_1, .inl (cA_2, 17, .inr (.inr (.inr (.inr f_6)))))]) [0, 1] rfl
  have hD := hD.sub (ws' := [(h0, .inr (2, [.ref q_1])), (q_1, .inl (cA_2, 17, .inr (.inr (.inr (.inr f_6)))))]) [0, 1] (by decide) rfl
  refine lv_iinc (v := 1) (lv' := [(3, .int 1), (0, .ref h0), (1, .ref dk), (2, .int 17)]) hx hb d_Curve_init_33 hl (k := 0) rfl (by decide) (by decide) rfl (fun ls hl => ?_)
  refine lv_goto (tgt := 14) hx hb d_Curve_init_36 (by decide) ?_
  refine lv_iload_n hx hb d_Curve_init_14 rfl (lv_at hl 0 rfl) ?_
  refine lv_iload_n hx hb d_Curve_init_15 rfl (lv_at hl 3 rfl) ?_
  refine lv_icmp_ge (tgt := 39) hx hb d_Curve_init_16 (by decide) (fun c_7 => absurd c_7 (by decide)) (fun c_7 => ?_)
  refine lv_aload_n hx hb d_Curve_init_19 rfl (lv_at hl 1 rfl) ?_
  refine va_get (D := (dC, dI)) (ci := 2) (v := .ref q_1) (C := R_Curve) (T := F_Curve) (N := 1) hx hb hT i_Curve hown hK hP 0 rfl rfl 0 (by decide) (hT _ tw_224) (fun _ h9 => h9) rfl d_Curve_init_20 ?_
  refine lv_iload_n hx hb d_Curve_init_23 rfl (lv_at hl 0 rfl) ?_
  refine va_new (ci := 6) (fs := [.null, .null, .int 0]) (C := R_Poly) (T := F_Poly) (N := 3) hx hb hT i_Poly t_Poly t_Poly_ok hown (hT _ tw_189) (hT _ tw_190) (hT _ tw_8) hK hP hD hS hA rfl (by decide) (Nat.le_of_ble_eq_true rfl) (Nat.le_of_ble_eq_true rfl) d_Curve_init_24 (fun q_8 H hP hD hS => ?_)
  have hP : va_P (dC, dI) classes [(h0, .inr (2, [.ref q_1])), (q_1, .inl (cA_2, 17, .inr (.inr (.inr (.inr f_6))))), (q_8, .inr (6, [.null, .null, .int 0]))] H := hP
  have hD : va_D A [(h0, .inr (2, [.ref q_1])), (q_1, .inl (cA_2, 17, .inr (.inr (.inr (.inr f_6))))), (q_8, .inr (6, [.null, .null, .int 0]))] := hD
  refine W.widen (k := 4) (n := 23) (Nat.le_of_ble_eq_true rfl) (Nat.le_of_ble_eq_true rfl) ?_
  refine lv_dup hx hb d_Curve_init_27 rfl ?_
  refine lv_aload_n hx hb d_Curve_init_28 rfl (lv_at hl 2 rfl) ?_
  have hPc := hP.sub (ws' := [(q_8, .inr (6, [.null, .null, .int 0]))]) [2] rfl
  have hDc := hD.sub (ws' := [(q_8, .inr (6, [.null, .null, .int 0]))]) [2] (by decide) rfl
  have hKc := hK.sub (tys' := []) [] rfl
  have hFc := va_free (wc := [(q_8, .inr (6, [.null, .null, .int 0]))]) hD hS hA [2] rfl
  refine va_callv (va_runI (As := [.ref dk]) (rest := [.ref q_8, .int 1, .ref q_1]) ⟨hx, hb, hml, hown, hT⟩ (c_Poly_init l dC dI H.size q_8 dk ) (cwI 1 hT g_Poly_init rfl rfl rfl (hT _ tw_8) (hT _ tw_191) (hT _ tw_192) rfl (by decide +kernel) ⟨Nat.le_of_ble_eq_true rfl, Nat.le_of_ble_eq_true rfl⟩) ⟨fun a U g mk q => by obtain ⟨q0, q1, qP, qK, qD, qN⟩ := q; exact ⟨q0, q1, qP, va_K.moved (u := U) (U := U.calling g mk a) (Vm.Alike.refl U.vm) qK, qD, nx_K.same (u := U) (U := U.calling g mk a) rfl qN⟩, fun U hU hW => ⟨rfl, by rw [hU], by rw [hU]; exact hPc, va_K.moved hW.alike hKc, hDc.weaken (fun _ _ _ _ => trivial), nx_K.warm hW hN⟩⟩ rfl rfl hl.1 rfl (lv_room (Nat.le_of_ble_eq_true rfl)) d_Curve_init_29 ⟨Nat.le_of_ble_eq_true rfl, Nat.le_of_ble_eq_true rfl⟩) hS (fun q _ h => hFc q h) hFc (fun u t H1 locs ht hvm hw hB hz1 hk1 hS => ?_)
  obtain ⟨q1_9, hP1, hK1, hD1⟩ := hB
  rw [ht] at hP1
  have hK1 := va_K.moved hvm.symm hK1
  obtain ⟨hP, hD⟩ := va_join (wr := [(h0, .inr (2, [.ref q_1])), (q_1, .inl (cA_2, 17, .inr (.inr (.inr (.inr f_6)))))]) (w1 := [(q_8, .inr (6, [.ref dk, .ref q1_9, .int 0]))]) hP hD [2] [0, 1] rfl rfl (by decide) (by decide) hk1 hFc hP1 hD1
  have hK := (hK.sub (tys' := [(cA_2, .object "RealHouse$Poly")]) [0] rfl).app hK1
  generalize H1 = H at hP hS ⊢
  have hP : va_P (dC, dI) classes [(h0, .inr (2, [.ref q_1])), (q_1, .inl (cA_2, 17, .inr (.inr (.inr (.inr f_6))))), (q_8, .inr (6, [.ref dk, .ref q1_9, .int 0]))] H := hP
  have hD : va_D A [(h0, .inr (2, [.ref q_1])), (q_1, .inl (cA_2, 17, .inr (.inr (.inr (.inr f_6))))), (q_8, .inr (6, [.ref dk, .ref q1_9, .int 0]))] := hD
  have hK : va_K (dC, dI) classes [(cA_2, .object "RealHouse$Poly")] s := hK
  refine W.widen (k := 5) (n := 23) (Nat.le_of_ble_eq_true rfl) (Nat.le_of_ble_eq_true rfl) ?_
  refine va_astq (r := (R_Poly, F_Poly, 3)) hx hb hK hP hD hS 1 0 2 6 rfl rfl rfl rfl (vp_in_nI (n := 1) (by decide) (by decide)) d_Curve_init_32 (fun H locs hP hD hS => ?_)
  have hP : va_P (dC, dI) classes [(h0, .inr (2, [.ref q_1])), (q_1, .inl (cA_2, 17, .inr (.inr (.inr (.inr (va_up f_6 (1 : Int32).toNatClampNeg (some q_8))))))), (q_8, .inr (6, [.ref dk, .ref q1_9, .int 0]))] H := hP
  have hD : va_D A [(h0, .inr (2, [.ref q_1])), (q_1, .inl (cA_2, 17, .inr (.inr (.inr (.inr (va_up f_6 (1 : Int32).toNatClampNeg (some q_8))))))), (q_8, .inr (6, [.ref dk, .ref q1_9, .int 0]))] := hD
  generalize va_up f_6 (1 : Int32).toNatClampNeg (some q_8) = f_10 at hP hD
  have hP := hP.sub (ws' := [(h0, .inr (2, [.ref q_1])), (q_1, .inl (cA_2, 17, .inr (.inr (.inr (.inr f_10)))))]) [0, 1] rfl
  have hD := hD.sub (ws' := [(h0, .inr (2, [.ref q_1])), (q_1, .inl (cA_2, 17, .inr (.inr (.inr (.inr f_10)))))]) [0, 1] (by decide) rfl
  refine lv_iinc (v := 2) (lv' := [(3, .int 2), (0, .ref h0), (1, .ref dk), (2, .int 17)]) hx hb d_Curve_init_33 hl (k := 0) rfl (by decide) (by decide) rfl (fun ls hl => ?_)
  refine lv_goto (tgt := 14) hx hb d_Curve_init_36 (by decide) ?_
  refine lv_iload_n hx hb d_Curve_init_14 rfl (lv_at hl 0 rfl) ?_
  refine lv_iload_n hx hb d_Curve_init_15 rfl (lv_at hl 3 rfl) ?_
  refine lv_icmp_ge (tgt := 39) hx hb d_Curve_init_16 (by decide) (fun c_11 => absurd c_11 (by decide)) (fun c_11 => ?_)
  refine lv_aload_n hx hb d_Curve_init_19 rfl (lv_at hl 1 rfl) ?_
  refine va_get (D := (dC, dI)) (ci := 2) (v := .ref q_1) (C := R_Curve) (T := F_Curve) (N := 1) hx hb hT i_Curve hown hK hP 0 rfl rfl 0 (by decide) (hT _ tw_224) (fun _ h9 => h9) rfl d_Curve_init_20 ?_
  refine lv_iload_n hx hb d_Curve_init_23 rfl (lv_at hl 0 rfl) ?_
  refine va_new (ci := 6) (fs := [.null, .null, .int 0]) (C := R_Poly) (T := F_Poly) (N := 3) hx hb hT i_Poly t_Poly t_Poly_ok hown (hT _ tw_189) (hT _ tw_190) (hT _ tw_8) hK hP hD hS hA rfl (by decide) (Nat.le_of_ble_eq_true rfl) (Nat.le_of_ble_eq_true rfl) d_Curve_init_24 (fun q_12 H hP hD hS => ?_)
  have hP : va_P (dC, dI) classes [(h0, .inr (2, [.ref q_1])), (q_1, .inl (cA_2, 17, .inr (.inr (.inr (.inr f_10))))), (q_12, .inr (6, [.null, .null, .int 0]))] H := hP
  have hD : va_D A [(h0, .inr (2, [.ref q_1])), (q_1, .inl (cA_2, 17, .inr (.inr (.inr (.inr f_10))))), (q_12, .inr (6, [.null, .null, .int 0]))] := hD
  refine W.widen (k := 6) (n := 26) (Nat.le_of_ble_eq_true rfl) (Nat.le_of_ble_eq_true rfl) ?_
  refine lv_dup hx hb d_Curve_init_27 rfl ?_
  refine lv_aload_n hx hb d_Curve_init_28 rfl (lv_at hl 2 rfl) ?_
  have hPc := hP.sub (ws' := [(q_12, .inr (6, [.null, .null, .int 0]))]) [2] rfl
  have hDc := hD.sub (ws' := [(q_12, .inr (6, [.null, .null, .int 0]))]) [2] (by decide) rfl
  have hKc := hK.sub (tys' := []) [] rfl
  have hFc := va_free (wc := [(q_12, .inr (6, [.null, .null, .int 0]))]) hD hS hA [2] rfl
  refine va_callv (va_runI (As := [.ref dk]) (rest := [.ref q_12, .int 2, .ref q_1]) ⟨hx, hb, hml, hown, hT⟩ (c_Poly_init l dC dI H.size q_12 dk ) (cwI 1 hT g_Poly_init rfl rfl rfl (hT _ tw_8) (hT _ tw_191) (hT _ tw_192) rfl (by decide +kernel) ⟨Nat.le_of_ble_eq_true rfl, Nat.le_of_ble_eq_true rfl⟩) ⟨fun a U g mk q => by obtain ⟨q0, q1, qP, qK, qD, qN⟩ := q; exact ⟨q0, q1, qP, va_K.moved (u := U) (U := U.calling g mk a) (Vm.Alike.refl U.vm) qK, qD, nx_K.same (u := U) (U := U.calling g mk a) rfl qN⟩, fun U hU hW => ⟨rfl, by rw [hU], by rw [hU]; exact hPc, va_K.moved hW.alike hKc, hDc.weaken (fun _ _ _ _ => trivial), nx_K.warm hW hN⟩⟩ rfl rfl hl.1 rfl (lv_room (Nat.le_of_ble_eq_true rfl)) d_Curve_init_29 ⟨Nat.le_of_ble_eq_true rfl, Nat.le_of_ble_eq_true rfl⟩) hS (fun q _ h => hFc q h) hFc (fun u t H1 locs ht hvm hw hB hz1 hk1 hS => ?_)
  obtain ⟨q1_13, hP1, hK1, hD1⟩ := hB
  rw [ht] at hP1
  have hK1 := va_K.moved hvm.symm hK1
  obtain ⟨hP, hD⟩ := va_join (wr := [(h0, .inr (2, [.ref q_1])), (q_1, .inl (cA_2, 17, .inr (.inr (.inr (.inr f_10)))))]) (w1 := [(q_12, .inr (6, [.ref dk, .ref q1_13, .int 0]))]) hP hD [2] [0, 1] rfl rfl (by decide) (by decide) hk1 hFc hP1 hD1
  have hK := (hK.sub (tys' := [(cA_2, .object "RealHouse$Poly")]) [0] rfl).app hK1
  generalize H1 = H at hP hS ⊢
  have hP : va_P (dC, dI) classes [(h0, .inr (2, [.ref q_1])), (q_1, .inl (cA_2, 17, .inr (.inr (.inr (.inr f_10))))), (q_12, .inr (6, [.ref dk, .ref q1_13, .int 0]))] H := hP
  have hD : va_D A [(h0, .inr (2, [.ref q_1])), (q_1, .inl (cA_2, 17, .inr (.inr (.inr (.inr f_10))))), (q_12, .inr (6, [.ref dk, .ref q1_13, .int 0]))] := hD
  have hK : va_K (dC, dI) classes [(cA_2, .object "RealHouse$Poly")] s := hK
  refine W.widen (k := 7) (n := 26) (Nat.le_of_ble_eq_true rfl) (Nat.le_of_ble_eq_true rfl) ?_
  refine va_astq (r := (R_Poly, F_Poly, 3)) hx hb hK hP hD hS 1 0 2 6 rfl rfl rfl rfl (vp_in_nI (n := 2) (by decide) (by decide)) d_Curve_init_32 (fun H locs hP hD hS => ?_)
  have hP : va_P (dC, dI) classes [(h0, .inr (2, [.ref q_1])), (q_1, .inl (cA_2, 17, .inr (.inr (.inr (.inr (va_up f_10 (2 : Int32).toNatClampNeg (some q_12))))))), (q_12, .inr (6, [.ref dk, .ref q1_13, .int 0]))] H := hP
  have hD : va_D A [(h0, .inr (2, [.ref q_1])), (q_1, .inl (cA_2, 17, .inr (.inr (.inr (.inr (va_up f_10 (2 : Int32).toNatClampNeg (some q_12))))))), (q_12, .inr (6, [.ref dk, .ref q1_13, .int 0]))] := hD
  generalize va_up f_10 (2 : Int32).toNatClampNeg (some q_12) = f_14 at hP hD
  have hP := hP.sub (ws' := [(h0, .inr (2, [.ref q_1])), (q_1, .inl (cA_2, 17, .inr (.inr (.inr (.inr f_14)))))]) [0, 1] rfl
  have hD := hD.sub (ws' := [(h0, .inr (2, [.ref q_1])), (q_1, .inl (cA_2, 17, .inr (.inr (.inr (.inr f_14)))))]) [0, 1] (by decide) rfl
  refine lv_iinc (v := 3) (lv' := [(3, .int 3), (0, .ref h0), (1, .ref dk), (2, .int 17)]) hx hb d_Curve_init_33 hl (k := 0) rfl (by decide) (by decide) rfl (fun ls hl => ?_)
  refine lv_goto (tgt := 14) hx hb d_Curve_init_36 (by decide) ?_
  refine lv_iload_n hx hb d_Curve_init_14 rfl (lv_at hl 0 rfl) ?_
  refine lv_iload_n hx hb d_Curve_init_15 rfl (lv_at hl 3 rfl) ?_
  refine lv_icmp_ge (tgt := 39) hx hb d_Curve_init_16 (by decide) (fun c_15 => absurd c_15 (by decide)) (fun c_15 => ?_)
  refine lv_aload_n hx hb d_Curve_init_19 rfl (lv_at hl 1 rfl) ?_
  refine va_get (D := (dC, dI)) (ci := 2) (v := .ref q_1) (C := R_Curve) (T := F_Curve) (N := 1) hx hb hT i_Curve hown hK hP 0 rfl rfl 0 (by decide) (hT _ tw_224) (fun _ h9 => h9) rfl d_Curve_init_20 ?_
  refine lv_iload_n hx hb d_Curve_init_23 rfl (lv_at hl 0 rfl) ?_
  refine va_new (ci := 6) (fs := [.null, .null, .int 0]) (C := R_Poly) (T := F_Poly) (N := 3) hx hb hT i_Poly t_Poly t_Poly_ok hown (hT _ tw_189) (hT _ tw_190) (hT _ tw_8) hK hP hD hS hA rfl (by decide) (Nat.le_of_ble_eq_true rfl) (Nat.le_of_ble_eq_true rfl) d_Curve_init_24 (fun q_16 H hP hD hS => ?_)
  have hP : va_P (dC, dI) classes [(h0, .inr (2, [.ref q_1])), (q_1, .inl (cA_2, 17, .inr (.inr (.inr (.inr f_14))))), (q_16, .inr (6, [.null, .null, .int 0]))] H := hP
  have hD : va_D A [(h0, .inr (2, [.ref q_1])), (q_1, .inl (cA_2, 17, .inr (.inr (.inr (.inr f_14))))), (q_16, .inr (6, [.null, .null, .int 0]))] := hD
  refine W.widen (k := 8) (n := 29) (Nat.le_of_ble_eq_true rfl) (Nat.le_of_ble_eq_true rfl) ?_
  refine lv_dup hx hb d_Curve_init_27 rfl ?_
  refine lv_aload_n hx hb d_Curve_init_28 rfl (lv_at hl 2 rfl) ?_
  have hPc := hP.sub (ws' := [(q_16, .inr (6, [.null, .null, .int 0]))]) [2] rfl
  have hDc := hD.sub (ws' := [(q_16, .inr (6, [.null, .null, .int 0]))]) [2] (by decide) rfl
  have hKc := hK.sub (tys' := []) [] rfl
  have hFc := va_free (wc := [(q_16, .inr (6, [.null, .null, .int 0]))]) hD hS hA [2] rfl
  refine va_callv (va_runI (As := [.ref dk]) (rest := [.ref q_16, .int 3, .ref q_1]) ⟨hx, hb, hml, hown, hT⟩ (c_Poly_init l dC dI H.size q_16 dk ) (cwI 1 hT g_Poly_init rfl rfl rfl (hT _ tw_8) (hT _ tw_191) (hT _ tw_192) rfl (by decide +kernel) ⟨Nat.le_of_ble_eq_true rfl, Nat.le_of_ble_eq_true rfl⟩) ⟨fun a U g mk q => by obtain ⟨q0, q1, qP, qK, qD, qN⟩ := q; exact ⟨q0, q1, qP, va_K.moved (u := U) (U := U.calling g mk a) (Vm.Alike.refl U.vm) qK, qD, nx_K.same (u := U) (U := U.calling g mk a) rfl qN⟩, fun U hU hW => ⟨rfl, by rw [hU], by rw [hU]; exact hPc, va_K.moved hW.alike hKc, hDc.weaken (fun _ _ _ _ => trivial), nx_K.warm hW hN⟩⟩ rfl rfl hl.1 rfl (lv_room (Nat.le_of_ble_eq_true rfl)) d_Curve_init_29 ⟨Nat.le_of_ble_eq_true rfl, Nat.le_of_ble_eq_true rfl⟩) hS (fun q _ h => hFc q h) hFc (fun u t H1 locs ht hvm hw hB hz1 hk1 hS => ?_)
  obtain ⟨q1_17, hP1, hK1, hD1⟩ := hB
  rw [ht] at hP1
  have hK1 := va_K.moved hvm.symm hK1
  obtain ⟨hP, hD⟩ := va_join (wr := [(h0, .inr (2, [.ref q_1])), (q_1, .inl (cA_2, 17, .inr (.inr (.inr (.inr f_14)))))]) (w1 := [(q_16, .inr (6, [.ref dk, .ref q1_17, .int 0]))]) hP hD [2] [0, 1] rfl rfl (by decide) (by decide) hk1 hFc hP1 hD1
  have hK := (hK.sub (tys' := [(cA_2, .object "RealHouse$Poly")]) [0] rfl).app hK1
  generalize H1 = H at hP hS ⊢
  have hP : va_P (dC, dI) classes [(h0, .inr (2, [.ref q_1])), (q_1, .inl (cA_2, 17, .inr (.inr (.inr (.inr f_14))))), (q_16, .inr (6, [.ref dk, .ref q1_17, .int 0]))] H := hP
  have hD : va_D A [(h0, .inr (2, [.ref q_1])), (q_1, .inl (cA_2, 17, .inr (.inr (.inr (.inr f_14))))), (q_16, .inr (6, [.ref dk, .ref q1_17, .int 0]))] := hD
  have hK : va_K (dC, dI) classes [(cA_2, .object "RealHouse$Poly")] s := hK
  refine W.widen (k := 9) (n := 29) (Nat.le_of_ble_eq_true rfl) (Nat.le_of_ble_eq_true rfl) ?_
  refine va_astq (r := (R_Poly, F_Poly, 3)) hx hb hK hP hD hS 1 0 2 6 rfl rfl rfl rfl (vp_in_nI (n := 3) (by decide) (by decide)) d_Curve_init_32 (fun H locs hP hD hS => ?_)
  have hP : va_P (dC, dI) classes [(h0, .inr (2, [.ref q_1])), (q_1, .inl (cA_2, 17, .inr (.inr (.inr (.inr (va_up f_14 (3 : Int32).toNatClampNeg (some q_16))))))), (q_16, .inr (6, [.ref dk, .ref q1_17, .int 0]))] H := hP
  have hD : va_D A [(h0, .inr (2, [.ref q_1])), (q_1, .inl (cA_2, 17, .inr (.inr (.inr (.inr (va_up f_14 (3 : Int32).toNatClampNeg (some q_16))))))), (q_16, .inr (6, [.ref dk, .ref q1_17, .int 0]))] := hD
  generalize va_up f_14 (3 : Int32).toNatClampNeg (some q_16) = f_18 at hP hD
  have hP := hP.sub (ws' := [(h0, .inr (2, [.ref q_1])), (q_1, .inl (cA_2, 17, .inr (.inr (.inr (.inr f_18)))))]) [0, 1] rfl
  have hD := hD.sub (ws' := [(h0, .inr (2, [.ref q_1])), (q_1, .inl (cA_2, 17, .inr (.inr (.inr (.inr f_18)))))]) [0, 1] (by decide) rfl
  refine lv_iinc (v := 4) (lv' := [(3, .int 4), (0, .ref h0), (1, .ref dk), (2, .int 17)]) hx hb d_Curve_init_33 hl (k := 0) rfl (by decide) (by decide) rfl (fun ls hl => ?_)
  refine lv_goto (tgt := 14) hx hb d_Curve_init_36 (by decide) ?_
  refine lv_iload_n hx hb d_Curve_init_14 rfl (lv_at hl 0 rfl) ?_
  refine lv_iload_n hx hb d_Curve_init_15 rfl (lv_at hl 3 rfl) ?_
  refine lv_icmp_ge (tgt := 39) hx hb d_Curve_init_16 (by decide) (fun c_19 => absurd c_19 (by decide)) (fun c_19 => ?_)
  refine lv_aload_n hx hb d_Curve_init_19 rfl (lv_at hl 1 rfl) ?_
  refine va_get (D := (dC, dI)) (ci := 2) (v := .ref q_1) (C := R_Curve) (T := F_Curve) (N := 1) hx hb hT i_Curve hown hK hP 0 rfl rfl 0 (by decide) (hT _ tw_224) (fun _ h9 => h9) rfl d_Curve_init_20 ?_
  refine lv_iload_n hx hb d_Curve_init_23 rfl (lv_at hl 0 rfl) ?_
  refine va_new (ci := 6) (fs := [.null, .null, .int 0]) (C := R_Poly) (T := F_Poly) (N := 3) hx hb hT i_Poly t_Poly t_Poly_ok hown (hT _ tw_189) (hT _ tw_190) (hT _ tw_8) hK hP hD hS hA rfl (by decide) (Nat.le_of_ble_eq_true rfl) (Nat.le_of_ble_eq_true rfl) d_Curve_init_24 (fun q_20 H hP hD hS => ?_)
  have hP : va_P (dC, dI) classes [(h0, .inr (2, [.ref q_1])), (q_1, .inl (cA_2, 17, .inr (.inr (.inr (.inr f_18))))), (q_20, .inr (6, [.null, .null, .int 0]))] H := hP
  have hD : va_D A [(h0, .inr (2, [.ref q_1])), (q_1, .inl (cA_2, 17, .inr (.inr (.inr (.inr f_18))))), (q_20, .inr (6, [.null, .null, .int 0]))] := hD
  refine W.widen (k := 10) (n := 32) (Nat.le_of_ble_eq_true rfl) (Nat.le_of_ble_eq_true rfl) ?_
  refine lv_dup hx hb d_Curve_init_27 rfl ?_
  refine lv_aload_n hx hb d_Curve_init_28 rfl (lv_at hl 2 rfl) ?_
  have hPc := hP.sub (ws' := [(q_20, .inr (6, [.null, .null, .int 0]))]) [2] rfl
  have hDc := hD.sub (ws' := [(q_20, .inr (6, [.null, .null, .int 0]))]) [2] (by decide) rfl
  have hKc := hK.sub (tys' := []) [] rfl
  have hFc := va_free (wc := [(q_20, .inr (6, [.null, .null, .int 0]))]) hD hS hA [2] rfl
  refine va_callv (va_runI (As := [.ref dk]) (rest := [.ref q_20, .int 4, .ref q_1]) ⟨hx, hb, hml, hown, hT⟩ (c_Poly_init l dC dI H.size q_20 dk ) (cwI 1 hT g_Poly_init rfl rfl rfl (hT _ tw_8) (hT _ tw_191) (hT _ tw_192) rfl (by decide +kernel) ⟨Nat.le_of_ble_eq_true rfl, Nat.le_of_ble_eq_true rfl⟩) ⟨fun a U g mk q => by obtain ⟨q0, q1, qP, qK, qD, qN⟩ := q; exact ⟨q0, q1, qP, va_K.moved (u := U) (U := U.calling g mk a) (Vm.Alike.refl U.vm) qK, qD, nx_K.same (u := U) (U := U.calling g mk a) rfl qN⟩, fun U hU hW => ⟨rfl, by rw [hU], by rw [hU]; exact hPc, va_K.moved hW.alike hKc, hDc.weaken (fun _ _ _ _ => trivial), nx_K.warm hW hN⟩⟩ rfl rfl hl.1 rfl (lv_room (Nat.le_of_ble_eq_true rfl)) d_Curve_init_29 ⟨Nat.le_of_ble_eq_true rfl, Nat.le_of_ble_eq_true rfl⟩) hS (fun q _ h => hFc q h) hFc (fun u t H1 locs ht hvm hw hB hz1 hk1 hS => ?_)
  obtain ⟨q1_21, hP1, hK1, hD1⟩ := hB
  rw [ht] at hP1
  have hK1 := va_K.moved hvm.symm hK1
  obtain ⟨hP, hD⟩ := va_join (wr := [(h0, .inr (2, [.ref q_1])), (q_1, .inl (cA_2, 17, .inr (.inr (.inr (.inr f_18)))))]) (w1 := [(q_20, .inr (6, [.ref dk, .ref q1_21, .int 0]))]) hP hD [2] [0, 1] rfl rfl (by decide) (by decide) hk1 hFc hP1 hD1
  have hK := (hK.sub (tys' := [(cA_2, .object "RealHouse$Poly")]) [0] rfl).app hK1
  generalize H1 = H at hP hS ⊢
  have hP : va_P (dC, dI) classes [(h0, .inr (2, [.ref q_1])), (q_1, .inl (cA_2, 17, .inr (.inr (.inr (.inr f_18))))), (q_20, .inr (6, [.ref dk, .ref q1_21, .int 0]))] H := hP
  have hD : va_D A [(h0, .inr (2, [.ref q_1])), (q_1, .inl (cA_2, 17, .inr (.inr (.inr (.inr f_18))))), (q_20, .inr (6, [.ref dk, .ref q1_21, .int 0]))] := hD
  have hK : va_K (dC, dI) classes [(cA_2, .object "RealHouse$Poly")] s := hK
  refine W.widen (k := 11) (n := 32) (Nat.le_of_ble_eq_true rfl) (Nat.le_of_ble_eq_true rfl) ?_
  refine va_astq (r := (R_Poly, F_Poly, 3)) hx hb hK hP hD hS 1 0 2 6 rfl rfl rfl rfl (vp_in_nI (n := 4) (by decide) (by decide)) d_Curve_init_32 (fun H locs hP hD hS => ?_)
  have hP : va_P (dC, dI) classes [(h0, .inr (2, [.ref q_1])), (q_1, .inl (cA_2, 17, .inr (.inr (.inr (.inr (va_up f_18 (4 : Int32).toNatClampNeg (some q_20))))))), (q_20, .inr (6, [.ref dk, .ref q1_21, .int 0]))] H := hP
  have hD : va_D A [(h0, .inr (2, [.ref q_1])), (q_1, .inl (cA_2, 17, .inr (.inr (.inr (.inr (va_up f_18 (4 : Int32).toNatClampNeg (some q_20))))))), (q_20, .inr (6, [.ref dk, .ref q1_21, .int 0]))] := hD
  generalize va_up f_18 (4 : Int32).toNatClampNeg (some q_20) = f_22 at hP hD
  have hP := hP.sub (ws' := [(h0, .inr (2, [.ref q_1])), (q_1, .inl (cA_2, 17, .inr (.inr (.inr (.inr f_22)))))]) [0, 1] rfl
  have hD := hD.sub (ws' := [(h0, .inr (2, [.ref q_1])), (q_1, .inl (cA_2, 17, .inr (.inr (.inr (.inr f_22)))))]) [0, 1] (by decide) rfl
  refine lv_iinc (v := 5) (lv' := [(3, .int 5), (0, .ref h0), (1, .ref dk), (2, .int 17)]) hx hb d_Curve_init_33 hl (k := 0) rfl (by decide) (by decide) rfl (fun ls hl => ?_)
  refine lv_goto (tgt := 14) hx hb d_Curve_init_36 (by decide) ?_
  refine lv_iload_n hx hb d_Curve_init_14 rfl (lv_at hl 0 rfl) ?_
  refine lv_iload_n hx hb d_Curve_init_15 rfl (lv_at hl 3 rfl) ?_
  refine lv_icmp_ge (tgt := 39) hx hb d_Curve_init_16 (by decide) (fun c_23 => absurd c_23 (by decide)) (fun c_23 => ?_)
  refine lv_aload_n hx hb d_Curve_init_19 rfl (lv_at hl 1 rfl) ?_
  refine va_get (D := (dC, dI)) (ci := 2) (v := .ref q_1) (C := R_Curve) (T := F_Curve) (N := 1) hx hb hT i_Curve hown hK hP 0 rfl rfl 0 (by decide) (hT _ tw_224) (fun _ h9 => h9) rfl d_Curve_init_20 ?_
  refine lv_iload_n hx hb d_Curve_init_23 rfl (lv_at hl 0 rfl) ?_
  refine va_new (ci := 6) (fs := [.null, .null, .int 0]) (C := R_Poly) (T := F_Poly) (N := 3) hx hb hT i_Poly t_Poly t_Poly_ok hown (hT _ tw_189) (hT _ tw_190) (hT _ tw_8) hK hP hD hS hA rfl (by decide) (Nat.le_of_ble_eq_true rfl) (Nat.le_of_ble_eq_true rfl) d_Curve_init_24 (fun q_24 H hP hD hS => ?_)
  have hP : va_P (dC, dI) classes [(h0, .inr (2, [.ref q_1])), (q_1, .inl (cA_2, 17, .inr (.inr (.inr (.inr f_22))))), (q_24, .inr (6, [.null, .null, .int 0]))] H := hP
  have hD : va_D A [(h0, .inr (2, [.ref q_1])), (q_1, .inl (cA_2, 17, .inr (.inr (.inr (.inr f_22))))), (q_24, .inr (6, [.null, .null, .int 0]))] := hD
  refine W.widen (k := 12) (n := 35) (Nat.le_of_ble_eq_true rfl) (Nat.le_of_ble_eq_true rfl) ?_
  refine lv_dup hx hb d_Curve_init_27 rfl ?_
  refine lv_aload_n hx hb d_Curve_init_28 rfl (lv_at hl 2 rfl) ?_
  have hPc := hP.sub (ws' := [(q_24, .inr (6, [.null, .null, .int 0]))]) [2] rfl
  have hDc := hD.sub (ws' := [(q_24, .inr (6, [.null, .null, .int 0]))]) [2] (by decide) rfl
  have hKc := hK.sub (tys' := []) [] rfl
  have hFc := va_free (wc := [(q_24, .inr (6, [.null, .null, .int 0]))]) hD hS hA [2] rfl
  refine va_callv (va_runI (As := [.ref dk]) (rest := [.ref q_24, .int 5, .ref q_1]) ⟨hx, hb, hml, hown, hT⟩ (c_Poly_init l dC dI H.size q_24 dk ) (cwI 1 hT g_Poly_init rfl rfl rfl (hT _ tw_8) (hT _ tw_191) (hT _ tw_192) rfl (by decide +kernel) ⟨Nat.le_of_ble_eq_true rfl, Nat.le_of_ble_eq_true rfl⟩) ⟨fun a U g mk q => by obtain ⟨q0, q1, qP, qK, qD, qN⟩ := q; exact ⟨q0, q1, qP, va_K.moved (u := U) (U := U.calling g mk a) (Vm.Alike.refl U.vm) qK, qD, nx_K.same (u := U) (U := U.calling g mk a) rfl qN⟩, fun U hU hW => ⟨rfl, by rw [hU], by rw [hU]; exact hPc, va_K.moved hW.alike hKc, hDc.weaken (fun _ _ _ _ => trivial), nx_K.warm hW hN⟩⟩ rfl rfl hl.1 rfl (lv_room (Nat.le_of_ble_eq_true rfl)) d_Curve_init_29 ⟨Nat.le_of_ble_eq_true rfl, Nat.le_of_ble_eq_true rfl⟩) hS (fun q _ h => hFc q h) hFc (fun u t H1 locs ht hvm hw hB hz1 hk1 hS => ?_)
  obtain ⟨q1_25, hP1, hK1, hD1⟩ := hB
  rw [ht] at hP1
  have hK1 := va_K.moved hvm.symm hK1
  obtain ⟨hP, hD⟩ := va_join (wr := [(h0, .inr (2, [.ref q_1])), (q_1, .inl (cA_2, 17, .inr (.inr (.inr (.inr f_22)))))]) (w1 := [(q_24, .inr (6, [.ref dk, .ref q1_25, .int 0]))]) hP hD [2] [0, 1] rfl rfl (by decide) (by decide) hk1 hFc hP1 hD1
  have hK := (hK.sub (tys' := [(cA_2, .object "RealHouse$Poly")]) [0] rfl).app hK1
  generalize H1 = H at hP hS ⊢
  have hP : va_P (dC, dI) classes [(h0, .inr (2, [.ref q_1])), (q_1, .inl (cA_2, 17, .inr (.inr (.inr (.inr f_22))))), (q_24, .inr (6, [.ref dk, .ref q1_25, .int 0]))] H := hP
  have hD : va_D A [(h0, .inr (2, [.ref q_1])), (q_1, .inl (cA_2, 17, .inr (.inr (.inr (.inr f_22))))), (q_24, .inr (6, [.ref dk, .ref q1_25, .int 0]))] := hD
  have hK : va_K (dC, dI) classes [(cA_2, .object "RealHouse$Poly")] s := hK
  refine W.widen (k := 13) (n := 35) (Nat.le_of_ble_eq_true rfl) (Nat.le_of_ble_eq_true rfl) ?_
  refine va_astq (r := (R_Poly, F_Poly, 3)) hx hb hK hP hD hS 1 0 2 6 rfl rfl rfl rfl (vp_in_nI (n := 5) (by decide) (by decide)) d_Curve_init_32 (fun H locs hP hD hS => ?_)
  have hP : va_P (dC, dI) classes [(h0, .inr (2, [.ref q_1])), (q_1, .inl (cA_2, 17, .inr (.inr (.inr (.inr (va_up f_22 (5 : Int32).toNatClampNeg (some q_24))))))), (q_24, .inr (6, [.ref dk, .ref q1_25, .int 0]))] H := hP
  have hD : va_D A [(h0, .inr (2, [.ref q_1])), (q_1, .inl (cA_2, 17, .inr (.inr (.inr (.inr (va_up f_22 (5 : Int32).toNatClampNeg (some q_24))))))), (q_24, .inr (6, [.ref dk, .ref q1_25, .int 0]))] := hD
  generalize va_up f_22 (5 : Int32).toNatClampNeg (some q_24) = f_26 at hP hD
  have hP := hP.sub (ws' := [(h0, .inr (2, [.ref q_1])), (q_1, .inl (cA_2, 17, .inr (.inr (.inr (.inr f_26)))))]) [0, 1] rfl
  have hD := hD.sub (ws' := [(h0, .inr (2, [.ref q_1])), (q_1, .inl (cA_2, 17, .inr (.inr (.inr (.inr f_26)))))]) [0, 1] (by decide) rfl
  refine lv_iinc (v := 6) (lv' := [(3, .int 6), (0, .ref h0), (1, .ref dk), (2, .int 17)]) hx hb d_Curve_init_33 hl (k := 0) rfl (by decide) (by decide) rfl (fun ls hl => ?_)
  refine lv_goto (tgt := 14) hx hb d_Curve_init_36 (by decide) ?_
  refine lv_iload_n hx hb d_Curve_init_14 rfl (lv_at hl 0 rfl) ?_
  refine lv_iload_n hx hb d_Curve_init_15 rfl (lv_at hl 3 rfl) ?_
  refine lv_icmp_ge (tgt := 39) hx hb d_Curve_init_16 (by decide) (fun c_27 => absurd c_27 (by decide)) (fun c_27 => ?_)
  refine lv_aload_n hx hb d_Curve_init_19 rfl (lv_at hl 1 rfl) ?_
  refine va_get (D := (dC, dI)) (ci := 2) (v := .ref q_1) (C := R_Curve) (T := F_Curve) (N := 1) hx hb hT i_Curve hown hK hP 0 rfl rfl 0 (by decide) (hT _ tw_224) (fun _ h9 => h9) rfl d_Curve_init_20 ?_
  refine lv_iload_n hx hb d_Curve_init_23 rfl (lv_at hl 0 rfl) ?_
  refine va_new (ci := 6) (fs := [.null, .null, .int 0]) (C := R_Poly) (T := F_Poly) (N := 3) hx hb hT i_Poly t_Poly t_Poly_ok hown (hT _ tw_189) (hT _ tw_190) (hT _ tw_8) hK hP hD hS hA rfl (by decide) (Nat.le_of_ble_eq_true rfl) (Nat.le_of_ble_eq_true rfl) d_Curve_init_24 (fun q_28 H hP hD hS => ?_)
  have hP : va_P (dC, dI) classes [(h0, .inr (2, [.ref q_1])), (q_1, .inl (cA_2, 17, .inr (.inr (.inr (.inr f_26))))), (q_28, .inr (6, [.null, .null, .int 0]))] H := hP
  have hD : va_D A [(h0, .inr (2, [.ref q_1])), (q_1, .inl (cA_2, 17, .inr (.inr (.inr (.inr f_26))))), (q_28, .inr (6, [.null, .null, .int 0]))] := hD
  refine W.widen (k := 14) (n := 38) (Nat.le_of_ble_eq_true rfl) (Nat.le_of_ble_eq_true rfl) ?_
  refine lv_dup hx hb d_Curve_init_27 rfl ?_
  refine lv_aload_n hx hb d_Curve_init_28 rfl (lv_at hl 2 rfl) ?_
  have hPc := hP.sub (ws' := [(q_28, .inr (6, [.null, .null, .int 0]))]) [2] rfl
  have hDc := hD.sub (ws' := [(q_28, .inr (6, [.null, .null, .int 0]))]) [2] (by decide) rfl
  have hKc := hK.sub (tys' := []) [] rfl
  have hFc := va_free (wc := [(q_28, .inr (6, [.null, .null, .int 0]))]) hD hS hA [2] rfl
  refine va_callv (va_runI (As := [.ref dk]) (rest := [.ref q_28, .int 6, .ref q_1]) ⟨hx, hb, hml, hown, hT⟩ (c_Poly_init l dC dI H.size q_28 dk ) (cwI 1 hT g_Poly_init rfl rfl rfl (hT _ tw_8) (hT _ tw_191) (hT _ tw_192) rfl (by decide +kernel) ⟨Nat.le_of_ble_eq_true rfl, Nat.le_of_ble_eq_true rfl⟩) ⟨fun a U g mk q => by obtain ⟨q0, q1, qP, qK, qD, qN⟩ := q; exact ⟨q0, q1, qP, va_K.moved (u := U) (U := U.calling g mk a) (Vm.Alike.refl U.vm) qK, qD, nx_K.same (u := U) (U := U.calling g mk a) rfl qN⟩, fun U hU hW => ⟨rfl, by rw [hU], by rw [hU]; exact hPc, va_K.moved hW.alike hKc, hDc.weaken (fun _ _ _ _ => trivial), nx_K.warm hW hN⟩⟩ rfl rfl hl.1 rfl (lv_room (Nat.le_of_ble_eq_true rfl)) d_Curve_init_29 ⟨Nat.le_of_ble_eq_true rfl, Nat.le_of_ble_eq_true rfl⟩) hS (fun q _ h => hFc q h) hFc (fun u t H1 locs ht hvm hw hB hz1 hk1 hS => ?_)
  obtain ⟨q1_29, hP1, hK1, hD1⟩ := hB
  rw [ht] at hP1
  have hK1 := va_K.moved hvm.symm hK1
  obtain ⟨hP, hD⟩ := va_join (wr := [(h0, .inr (2, [.ref q_1])), (q_1, .inl (cA_2, 17, .inr (.inr (.inr (.inr f_26)))))]) (w1 := [(q_28, .inr (6, [.ref dk, .ref q1_29, .int 0]))]) hP hD [2] [0, 1] rfl rfl (by decide) (by decide) hk1 hFc hP1 hD1
  have hK := (hK.sub (tys' := [(cA_2, .object "RealHouse$Poly")]) [0] rfl).app hK1
  generalize H1 = H at hP hS ⊢
  have hP : va_P (dC, dI) classes [(h0, .inr (2, [.ref q_1])), (q_1, .inl (cA_2, 17, .inr (.inr (.inr (.inr f_26))))), (q_28, .inr (6, [.ref dk, .ref q1_29, .int 0]))] H := hP
  have hD : va_D A [(h0, .inr (2, [.ref q_1])), (q_1, .inl (cA_2, 17, .inr (.inr (.inr (.inr f_26))))), (q_28, .inr (6, [.ref dk, .ref q1_29, .int 0]))] := hD
  have hK : va_K (dC, dI) classes [(cA_2, .object "RealHouse$Poly")] s := hK
  refine W.widen (k := 15) (n := 38) (Nat.le_of_ble_eq_true rfl) (Nat.le_of_ble_eq_true rfl) ?_
  refine va_astq (r := (R_Poly, F_Poly, 3)) hx hb hK hP hD hS 1 0 2 6 rfl rfl rfl rfl (vp_in_nI (n := 6) (by decide) (by decide)) d_Curve_init_32 (fun H locs hP hD hS => ?_)
  have hP : va_P (dC, dI) classes [(h0, .inr (2, [.ref q_1])), (q_1, .inl (cA_2, 17, .inr (.inr (.inr (.inr (va_up f_26 (6 : Int32).toNatClampNeg (some q_28))))))), (q_28, .inr (6, [.ref dk, .ref q1_29, .int 0]))] H := hP
  have hD : va_D A [(h0, .inr (2, [.ref q_1])), (q_1, .inl (cA_2, 17, .inr (.inr (.inr (.inr (va_up f_26 (6 : Int32).toNatClampNeg (some q_28))))))), (q_28, .inr (6, [.ref dk, .ref q1_29, .int 0]))] := hD
  generalize va_up f_26 (6 : Int32).toNatClampNeg (some q_28) = f_30 at hP hD
  have hP := hP.sub (ws' := [(h0, .inr (2, [.ref q_1])), (q_1, .inl (cA_2, 17, .inr (.inr (.inr (.inr f_30)))))]) [0, 1] rfl
  have hD := hD.sub (ws' := [(h0, .inr (2, [.ref q_1])), (q_1, .inl (cA_2, 17, .inr (.inr (.inr (.inr f_30)))))]) [0, 1] (by decide) rfl
  refine lv_iinc (v := 7) (lv' := [(3, .int 7), (0, .ref h0), (1, .ref dk), (2, .int 17)]) hx hb d_Curve_init_33 hl (k := 0) rfl (by decide) (by decide) rfl (fun ls hl => ?_)
  refine lv_goto (tgt := 14) hx hb d_Curve_init_36 (by decide) ?_
  refine lv_iload_n hx hb d_Curve_init_14 rfl (lv_at hl 0 rfl) ?_
  refine lv_iload_n hx hb d_Curve_init_15 rfl (lv_at hl 3 rfl) ?_
  refine lv_icmp_ge (tgt := 39) hx hb d_Curve_init_16 (by decide) (fun c_31 => absurd c_31 (by decide)) (fun c_31 => ?_)
  refine lv_aload_n hx hb d_Curve_init_19 rfl (lv_at hl 1 rfl) ?_
  refine va_get (D := (dC, dI)) (ci := 2) (v := .ref q_1) (C := R_Curve) (T := F_Curve) (N := 1) hx hb hT i_Curve hown hK hP 0 rfl rfl 0 (by decide) (hT _ tw_224) (fun _ h9 => h9) rfl d_Curve_init_20 ?_
  refine lv_iload_n hx hb d_Curve_init_23 rfl (lv_at hl 0 rfl) ?_
  refine va_new (ci := 6) (fs := [.null, .null, .int 0]) (C := R_Poly) (T := F_Poly) (N := 3) hx hb hT i_Poly t_Poly t_Poly_ok hown (hT _ tw_189) (hT _ tw_190) (hT _ tw_8) hK hP hD hS hA rfl (by decide) (Nat.le_of_ble_eq_true rfl) (Nat.le_of_ble_eq_true rfl) d_Curve_init_24 (fun q_32 H hP hD hS => ?_)
  have hP : va_P (dC, dI) classes [(h0, .inr (2, [.ref q_1])), (q_1, .inl (cA_2, 17, .inr (.inr (.inr (.inr f_30))))), (q_32, .inr (6, [.null, .null, .int 0]))] H := hP
  have hD : va_D A [(h0, .inr (2, [.ref q_1])), (q_1, .inl (cA_2, 17, .inr (.inr (.inr (.inr f_30))))), (q_32, .inr (6, [.null, .null, .int 0]))] := hD
  refine W.widen (k := 16) (n := 41) (Nat.le_of_ble_eq_true rfl) (Nat.le_of_ble_eq_true rfl) ?_
  refine lv_dup hx hb d_Curve_init_27 rfl ?_
  refine lv_aload_n hx hb d_Curve_init_28 rfl (lv_at hl 2 rfl) ?_
  have hPc := hP.sub (ws' := [(q_32, .inr (6, [.null, .null, .int 0]))]) [2] rfl
  have hDc := hD.sub (ws' := [(q_32, .inr (6, [.null, .null, .int 0]))]) [2] (by decide) rfl
  have hKc := hK.sub (tys' := []) [] rfl
  have hFc := va_free (wc := [(q_32, .inr (6, [.null, .null, .int 0]))]) hD hS hA [2] rfl
  refine va_callv (va_runI (As := [.ref dk]) (rest := [.ref q_32, .int 7, .ref q_1]) ⟨hx, hb, hml, hown, hT⟩ (c_Poly_init l dC dI H.size q_32 dk ) (cwI 1 hT g_Poly_init rfl rfl rfl (hT _ tw_8) (hT _ tw_191) (hT _ tw_192) rfl (by decide +kernel) ⟨Nat.le_of_ble_eq_true rfl, Nat.le_of_ble_eq_true rfl⟩) ⟨fun a U g mk q => by obtain ⟨q0, q1, qP, qK, qD, qN⟩ := q; exact ⟨q0, q1, qP, va_K.moved (u := U) (U := U.calling g mk a) (Vm.Alike.refl U.vm) qK, qD, nx_K.same (u := U) (U := U.calling g mk a) rfl qN⟩, fun U hU hW => ⟨rfl, by rw [hU], by rw [hU]; exact hPc, va_K.moved hW.alike hKc, hDc.weaken (fun _ _ _ _ => trivial), nx_K.warm hW hN⟩⟩ rfl rfl hl.1 rfl (lv_room (Nat.le_of_ble_eq_true rfl)) d_Curve_init_29 ⟨Nat.le_of_ble_eq_true rfl, Nat.le_of_ble_eq_true rfl⟩) hS (fun q _ h => hFc q h) hFc (fun u t H1 locs ht hvm hw hB hz1 hk1 hS => ?_)
  obtain ⟨q1_33, hP1, hK1, hD1⟩ := hB
  rw [ht] at hP1
  have hK1 := va_K.moved hvm.symm hK1
  obtain ⟨hP, hD⟩ := va_join (wr := [(h0, .inr (2, [.ref q_1])), (q_1, .inl (cA_2, 17, .inr (.inr (.inr (.inr f_30)))))]) (w1 := [(q_32, .inr (6, [.ref dk, .ref q1_33, .int 0]))]) hP hD [2] [0, 1] rfl rfl (by decide) (by decide) hk1 hFc hP1 hD1
  have hK := (hK.sub (tys' := [(cA_2, .object "RealHouse$Poly")]) [0] rfl).app hK1
  generalize H1 = H at hP hS ⊢
  have hP : va_P (dC, dI) classes [(h0, .inr (2, [.ref q_1])), (q_1, .inl (cA_2, 17, .inr (.inr (.inr (.inr f_30))))), (q_32, .inr (6, [.ref dk, .ref q1_33, .int 0]))] H := hP
  have hD : va_D A [(h0, .inr (2, [.ref q_1])), (q_1, .inl (cA_2, 17, .inr (.inr (.inr (.inr f_30))))), (q_32, .inr (6, [.ref dk, .ref q1_33, .int 0]))] := hD
  have hK : va_K (dC, dI) classes [(cA_2, .object "RealHouse$Poly")] s := hK
  refine W.widen (k := 17) (n := 41) (Nat.le_of_ble_eq_true rfl) (Nat.le_of_ble_eq_true rfl) ?_
  refine va_astq (r := (R_Poly, F_Poly, 3)) hx hb hK hP hD hS 1 0 2 6 rfl rfl rfl rfl (vp_in_nI (n := 7) (by decide) (by decide)) d_Curve_init_32 (fun H locs hP hD hS => ?_)
  have hP : va_P (dC, dI) classes [(h0, .inr (2, [.ref q_1])), (q_1, .inl (cA_2, 17, .inr (.inr (.inr (.inr (va_up f_30 (7 : Int32).toNatClampNeg (some q_32))))))), (q_32, .inr (6, [.ref dk, .ref q1_33, .int 0]))] H := hP
  have hD : va_D A [(h0, .inr (2, [.ref q_1])), (q_1, .inl (cA_2, 17, .inr (.inr (.inr (.inr (va_up f_30 (7 : Int32).toNatClampNeg (some q_32))))))), (q_32, .inr (6, [.ref dk, .ref q1_33, .int 0]))] := hD
  generalize va_up f_30 (7 : Int32).toNatClampNeg (some q_32) = f_34 at hP hD
  have hP := hP.sub (ws' := [(h0, .inr (2, [.ref q_1])), (q_1, .inl (cA_2, 17, .inr (.inr (.inr (.inr f_34)))))]) [0, 1] rfl
  have hD := hD.sub (ws' := [(h0, .inr (2, [.ref q_1])), (q_1, .inl (cA_2, 17, .inr (.inr (.inr (.inr f_34)))))]) [0, 1] (by decide) rfl
  refine lv_iinc (v := 8) (lv' := [(3, .int 8), (0, .ref h0), (1, .ref dk), (2, .int 17)]) hx hb d_Curve_init_33 hl (k := 0) rfl (by decide) (by decide) rfl (fun ls hl => ?_)
  refine lv_goto (tgt := 14) hx hb d_Curve_init_36 (by decide) ?_
  refine lv_iload_n hx hb d_Curve_init_14 rfl (lv_at hl 0 rfl) ?_
  refine lv_iload_n hx hb d_Curve_init_15 rfl (lv_at hl 3 rfl) ?_
  refine lv_icmp_ge (tgt := 39) hx hb d_Curve_init_16 (by decide) (fun c_35 => absurd c_35 (by decide)) (fun c_35 => ?_)
  refine lv_aload_n hx hb d_Curve_init_19 rfl (lv_at hl 1 rfl) ?_
  refine va_get (D := (dC, dI)) (ci := 2) (v := .ref q_1) (C := R_Curve) (T := F_Curve) (N := 1) hx hb hT i_Curve hown hK hP 0 rfl rfl 0 (by decide) (hT _ tw_224) (fun _ h9 => h9) rfl d_Curve_init_20 ?_
  refine lv_iload_n hx hb d_Curve_init_23 rfl (lv_at hl 0 rfl) ?_
  refine va_new (ci := 6) (fs := [.null, .null, .int 0]) (C := R_Poly) (T := F_Poly) (N := 3) hx hb hT i_Poly t_Poly t_Poly_ok hown (hT _ tw_189) (hT _ tw_190) (hT _ tw_8) hK hP hD hS hA rfl (by decide) (Nat.le_of_ble_eq_true rfl) (Nat.le_of_ble_eq_true rfl) d_Curve_init_24 (fun q_36 H hP hD hS => ?_)
  have hP : va_P (dC, dI) classes [(h0, .inr (2, [.ref q_1])), (q_1, .inl (cA_2, 17, .inr (.inr (.inr (.inr f_34))))), (q_36, .inr (6, [.null, .null, .int 0]))] H := hP
  have hD : va_D A [(h0, .inr (2, [.ref q_1])), (q_1, .inl (cA_2, 17, .inr (.inr (.inr (.inr f_34))))), (q_36, .inr (6, [.null, .null, .int 0]))] := hD
  refine W.widen (k := 18) (n := 44) (Nat.le_of_ble_eq_true rfl) (Nat.le_of_ble_eq_true rfl) ?_
  refine lv_dup hx hb d_Curve_init_27 rfl ?_
  refine lv_aload_n hx hb d_Curve_init_28 rfl (lv_at hl 2 rfl) ?_
  have hPc := hP.sub (ws' := [(q_36, .inr (6, [.null, .null, .int 0]))]) [2] rfl
  have hDc := hD.sub (ws' := [(q_36, .inr (6, [.null, .null, .int 0]))]) [2] (by decide) rfl
  have hKc := hK.sub (tys' := []) [] rfl
  have hFc := va_free (wc := [(q_36, .inr (6, [.null, .null, .int 0]))]) hD hS hA [2] rfl
  refine va_callv (va_runI (As := [.ref dk]) (rest := [.ref q_36, .int 8, .ref q_1]) ⟨hx, hb, hml, hown, hT⟩ (c_Poly_init l dC dI H.size q_36 dk ) (cwI 1 hT g_Poly_init rfl rfl rfl (hT _ tw_8) (hT _ tw_191) (hT _ tw_192) rfl (by decide +kernel) ⟨Nat.le_of_ble_eq_true rfl, Nat.le_of_ble_eq_true rfl⟩) ⟨fun a U g mk q => by obtain ⟨q0, q1, qP, qK, qD, qN⟩ := q; exact ⟨q0, q1, qP, va_K.moved (u := U) (U := U.calling g mk a) (Vm.Alike.refl U.vm) qK, qD, nx_K.same (u := U) (U := U.calling g mk a) rfl qN⟩, fun U hU hW => ⟨rfl, by rw [hU], by rw [hU]; exact hPc, va_K.moved hW.alike hKc, hDc.weaken (fun _ _ _ _ => trivial), nx_K.warm hW hN⟩⟩ rfl rfl hl.1 rfl (lv_room (Nat.le_of_ble_eq_true rfl)) d_Curve_init_29 ⟨Nat.le_of_ble_eq_true rfl, Nat.le_of_ble_eq_true rfl⟩) hS (fun q _ h => hFc q h) hFc (fun u t H1 locs ht hvm hw hB hz1 hk1 hS => ?_)
  obtain ⟨q1_37, hP1, hK1, hD1⟩ := hB
  rw [ht] at hP1
  have hK1 := va_K.moved hvm.symm hK1
  obtain ⟨hP, hD⟩ := va_join (wr := [(h0, .inr (2, [.ref q_1])), (q_1, .inl (cA_2, 17, .inr (.inr (.inr (.inr f_34)))))]) (w1 := [(q_36, .inr (6, [.ref dk, .ref q1_37, .int 0]))]) hP hD [2] [0, 1] rfl rfl (by decide) (by decide) hk1 hFc hP1 hD1
  have hK := (hK.sub (tys' := [(cA_2, .object "RealHouse$Poly")]) [0] rfl).app hK1
  generalize H1 = H at hP hS ⊢
  have hP : va_P (dC, dI) classes [(h0, .inr (2, [.ref q_1])), (q_1, .inl (cA_2, 17, .inr (.inr (.inr (.inr f_34))))), (q_36, .inr (6, [.ref dk, .ref q1_37, .int 0]))] H := hP
  have hD : va_D A [(h0, .inr (2, [.ref q_1])), (q_1, .inl (cA_2, 17, .inr (.inr (.inr (.inr f_34))))), (q_36, .inr (6, [.ref dk, .ref q1_37, .int 0]))] := hD
  have hK : va_K (dC, dI) classes [(cA_2, .object "RealHouse$Poly")] s := hK
  refine W.widen (k := 19) (n := 44) (Nat.le_of_ble_eq_true rfl) (Nat.le_of_ble_eq_true rfl) ?_
  refine va_astq (r := (R_Poly, F_Poly, 3)) hx hb hK hP hD hS 1 0 2 6 rfl rfl rfl rfl (vp_in_nI (n := 8) (by decide) (by decide)) d_Curve_init_32 (fun H locs hP hD hS => ?_)
  have hP : va_P (dC, dI) classes [(h0, .inr (2, [.ref q_1])), (q_1, .inl (cA_2, 17, .inr (.inr (.inr (.inr (va_up f_34 (8 : Int32).toNatClampNeg (some q_36))))))), (q_36, .inr (6, [.ref dk, .ref q1_37, .int 0]))] H := hP
  have hD : va_D A [(h0, .inr (2, [.ref q_1])), (q_1, .inl (cA_2, 17, .inr (.inr (.inr (.inr (va_up f_34 (8 : Int32).toNatClampNeg (some q_36))))))), (q_36, .inr (6, [.ref dk, .ref q1_37, .int 0]))] := hD
  generalize va_up f_34 (8 : Int32).toNatClampNeg (some q_36) = f_38 at hP hD
  have hP := hP.sub (ws' := [(h0, .inr (2, [.ref q_1])), (q_1, .inl (cA_2, 17, .inr (.inr (.inr (.inr f_38)))))]) [0, 1] rfl
  have hD := hD.sub (ws' := [(h0, .inr (2, [.ref q_1])), (q_1, .inl (cA_2, 17, .inr (.inr (.inr (.inr f_38)))))]) [0, 1] (by decide) rfl
  refine lv_iinc (v := 9) (lv' := [(3, .int 9), (0, .ref h0), (1, .ref dk), (2, .int 17)]) hx hb d_Curve_init_33 hl (k := 0) rfl (by decide) (by decide) rfl (fun ls hl => ?_)
  refine lv_goto (tgt := 14) hx hb d_Curve_init_36 (by decide) ?_
  refine lv_iload_n hx hb d_Curve_init_14 rfl (lv_at hl 0 rfl) ?_
  refine lv_iload_n hx hb d_Curve_init_15 rfl (lv_at hl 3 rfl) ?_
  refine lv_icmp_ge (tgt := 39) hx hb d_Curve_init_16 (by decide) (fun c_39 => absurd c_39 (by decide)) (fun c_39 => ?_)
  refine lv_aload_n hx hb d_Curve_init_19 rfl (lv_at hl 1 rfl) ?_
  refine va_get (D := (dC, dI)) (ci := 2) (v := .ref q_1) (C := R_Curve) (T := F_Curve) (N := 1) hx hb hT i_Curve hown hK hP 0 rfl rfl 0 (by decide) (hT _ tw_224) (fun _ h9 => h9) rfl d_Curve_init_20 ?_
  refine lv_iload_n hx hb d_Curve_init_23 rfl (lv_at hl 0 rfl) ?_
  refine va_new (ci := 6) (fs := [.null, .null, .int 0]) (C := R_Poly) (T := F_Poly) (N := 3) hx hb hT i_Poly t_Poly t_Poly_ok hown (hT _ tw_189) (hT _ tw_190) (hT _ tw_8) hK hP hD hS hA rfl (by decide) (Nat.le_of_ble_eq_true rfl) (Nat.le_of_ble_eq_true rfl) d_Curve_init_24 (fun q_40 H hP hD hS => ?_)
  have hP : va_P (dC, dI) classes [(h0, .inr (2, [.ref q_1])), (q_1, .inl (cA_2, 17, .inr (.inr (.inr (.inr f_38))))), (q_40, .inr (6, [.null, .null, .int 0]))] H := hP
  have hD : va_D A [(h0, .inr (2, [.ref q_1])), (q_1, .inl (cA_2, 17, .inr (.inr (.inr (.inr f_38))))), (q_40, .inr (6, [.null, .null, .int 0]))] := hD
  refine W.widen (k := 20) (n := 47) (Nat.le_of_ble_eq_true rfl) (Nat.le_of_ble_eq_true rfl) ?_
  refine lv_dup hx hb d_Curve_init_27 rfl ?_
  refine lv_aload_n hx hb d_Curve_init_28 rfl (lv_at hl 2 rfl) ?_
  have hPc := hP.sub (ws' := [(q_40, .inr (6, [.null, .null, .int 0]))]) [2] rfl
  have hDc := hD.sub (ws' := [(q_40, .inr (6, [.null, .null, .int 0]))]) [2] (by decide) rfl
  have hKc := hK.sub (tys' := []) [] rfl
  have hFc := va_free (wc := [(q_40, .inr (6, [.null, .null, .int 0]))]) hD hS hA [2] rfl
  refine va_callv (va_runI (As := [.ref dk]) (rest := [.ref q_40, .int 9, .ref q_1]) ⟨hx, hb, hml, hown, hT⟩ (c_Poly_init l dC dI H.size q_40 dk ) (cwI 1 hT g_Poly_init rfl rfl rfl (hT _ tw_8) (hT _ tw_191) (hT _ tw_192) rfl (by decide +kernel) ⟨Nat.le_of_ble_eq_true rfl, Nat.le_of_ble_eq_true rfl⟩) ⟨fun a U g mk q => by obtain ⟨q0, q1, qP, qK, qD, qN⟩ := q; exact ⟨q0, q1, qP, va_K.moved (u := U) (U := U.calling g mk a) (Vm.Alike.refl U.vm) qK, qD, nx_K.same (u := U) (U := U.calling g mk a) rfl qN⟩, fun U hU hW => ⟨rfl, by rw [hU], by rw [hU]; exact hPc, va_K.moved hW.alike hKc, hDc.weaken (fun _ _ _ _ => trivial), nx_K.warm hW hN⟩⟩ rfl rfl hl.1 rfl (lv_room (Nat.le_of_ble_eq_true rfl)) d_Curve_init_29 ⟨Nat.le_of_ble_eq_true rfl, Nat.le_of_ble_eq_true rfl⟩) hS (fun q _ h => hFc q h) hFc (fun u t H1 locs ht hvm hw hB hz1 hk1 hS => ?_)
  obtain ⟨q1_41, hP1, hK1, hD1⟩ := hB
  rw [ht] at hP1
  have hK1 := va_K.moved hvm.symm hK1
  obtain ⟨hP, hD⟩ := va_join (wr := [(h0, .inr (2, [.ref q_1])), (q_1, .inl (cA_2, 17, .inr (.inr (.inr (.inr f_38)))))]) (w1 := [(q_40, .inr (6, [.ref dk, .ref q1_41, .int 0]))]) hP hD [2] [0, 1] rfl rfl (by decide) (by decide) hk1 hFc hP1 hD1
  have hK := (hK.sub (tys' := [(cA_2, .object "RealHouse$Poly")]) [0] rfl).app hK1
  generalize H1 = H at hP hS ⊢
  have hP : va_P (dC, dI) classes [(h0, .inr (2, [.ref q_1])), (q_1, .inl (cA_2, 17, .inr (.inr (.inr (.inr f_38))))), (q_40, .inr (6, [.ref dk, .ref q1_41, .int 0]))] H := hP
  have hD : va_D A [(h0, .inr (2, [.ref q_1])), (q_1, .inl (cA_2, 17, .inr (.inr (.inr (.inr f_38))))), (q_40, .inr (6, [.ref dk, .ref q1_41, .int 0]))] := hD
  have hK : va_K (dC, dI) classes [(cA_2, .object "RealHouse$Poly")] s := hK
  refine W.widen (k := 21) (n := 47) (Nat.le_of_ble_eq_true rfl) (Nat.le_of_ble_eq_true rfl) ?_
  refine va_astq (r := (R_Poly, F_Poly, 3)) hx hb hK hP hD hS 1 0 2 6 rfl rfl rfl rfl (vp_in_nI (n := 9) (by decide) (by decide)) d_Curve_init_32 (fun H locs hP hD hS => ?_)
  have hP : va_P (dC, dI) classes [(h0, .inr (2, [.ref q_1])), (q_1, .inl (cA_2, 17, .inr (.inr (.inr (.inr (va_up f_38 (9 : Int32).toNatClampNeg (some q_40))))))), (q_40, .inr (6, [.ref dk, .ref q1_41, .int 0]))] H := hP
  have hD : va_D A [(h0, .inr (2, [.ref q_1])), (q_1, .inl (cA_2, 17, .inr (.inr (.inr (.inr (va_up f_38 (9 : Int32).toNatClampNeg (some q_40))))))), (q_40, .inr (6, [.ref dk, .ref q1_41, .int 0]))] := hD
  generalize va_up f_38 (9 : Int32).toNatClampNeg (some q_40) = f_42 at hP hD
  have hP := hP.sub (ws' := [(h0, .inr (2, [.ref q_1])), (q_1, .inl (cA_2, 17, .inr (.inr (.inr (.inr f_42)))))]) [0, 1] rfl
  have hD := hD.sub (ws' := [(h0, .inr (2, [.ref q_1])), (q_1, .inl (cA_2, 17, .inr (.inr (.inr (.inr f_42)))))]) [0, 1] (by decide) rfl
  refine lv_iinc (v := 10) (lv' := [(3, .int 10), (0, .ref h0), (1, .ref dk), (2, .int 17)]) hx hb d_Curve_init_33 hl (k := 0) rfl (by decide) (by decide) rfl (fun ls hl => ?_)
  refine lv_goto (tgt := 14) hx hb d_Curve_init_36 (by decide) ?_
  refine lv_iload_n hx hb d_Curve_init_14 rfl (lv_at hl 0 rfl) ?_
  refine lv_iload_n hx hb d_Curve_init_15 rfl (lv_at hl 3 rfl) ?_
  refine lv_icmp_ge (tgt := 39) hx hb d_Curve_init_16 (by decide) (fun c_43 => absurd c_43 (by decide)) (fun c_43 => ?_)
  refine lv_aload_n hx hb d_Curve_init_19 rfl (lv_at hl 1 rfl) ?_
  refine va_get (D := (dC, dI)) (ci := 2) (v := .ref q_1) (C := R_Curve) (T := F_Curve) (N := 1) hx hb hT i_Curve hown hK hP 0 rfl rfl 0 (by decide) (hT _ tw_224) (fun _ h9 => h9) rfl d_Curve_init_20 ?_
  refine lv_iload_n hx hb d_Curve_init_23 rfl (lv_at hl 0 rfl) ?_
  refine va_new (ci := 6) (fs := [.null, .null, .int 0]) (C := R_Poly) (T := F_Poly) (N := 3) hx hb hT i_Poly t_Poly t_Poly_ok hown (hT _ tw_189) (hT _ tw_190) (hT _ tw_8) hK hP hD hS hA rfl (by decide) (Nat.le_of_ble_eq_true rfl) (Nat.le_of_ble_eq_true rfl) d_Curve_init_24 (fun q_44 H hP hD hS => ?_)
  have hP : va_P (dC, dI) classes [(h0, .inr (2, [.ref q_1])), (q_1, .inl (cA_2, 17, .inr (.inr (.inr (.inr f_42))))), (q_44, .inr (6, [.null, .null, .int 0]))] H := hP
  have hD : va_D A [(h0, .inr (2, [.ref q_1])), (q_1, .inl (cA_2, 17, .inr (.inr (.inr (.inr f_42))))), (q_44, .inr (6, [.null, .null, .int 0]))] := hD
  refine W.widen (k := 22) (n := 50) (Nat.le_of_ble_eq_true rfl) (Nat.le_of_ble_eq_true rfl) ?_
  refine lv_dup hx hb d_Curve_init_27 rfl ?_
  refine lv_aload_n hx hb d_Curve_init_28 rfl (lv_at hl 2 rfl) ?_
  have hPc := hP.sub (ws' := [(q_44, .inr (6, [.null, .null, .int 0]))]) [2] rfl
  have hDc := hD.sub (ws' := [(q_44, .inr (6, [.null, .null, .int 0]))]) [2] (by decide) rfl
  have hKc := hK.sub (tys' := []) [] rfl
  have hFc := va_free (wc := [(q_44, .inr (6, [.null, .null, .int 0]))]) hD hS hA [2] rfl
  refine va_callv (va_runI (As := [.ref dk]) (rest := [.ref q_44, .int 10, .ref q_1]) ⟨hx, hb, hml, hown, hT⟩ (c_Poly_init l dC dI H.size q_44 dk ) (cwI 1 hT g_Poly_init rfl rfl rfl (hT _ tw_8) (hT _ tw_191) (hT _ tw_192) rfl (by decide +kernel) ⟨Nat.le_of_ble_eq_true rfl, Nat.le_of_ble_eq_true rfl⟩) ⟨fun a U g mk q => by obtain ⟨q0, q1, qP, qK, qD, qN⟩ := q; exact ⟨q0, q1, qP, va_K.moved (u := U) (U := U.calling g mk a) (Vm.Alike.refl U.vm) qK, qD, nx_K.same (u := U) (U := U.calling g mk a) rfl qN⟩, fun U hU hW => ⟨rfl, by rw [hU], by rw [hU]; exact hPc, va_K.moved hW.alike hKc, hDc.weaken (fun _ _ _ _ => trivial), nx_K.warm hW hN⟩⟩ rfl rfl hl.1 rfl (lv_room (Nat.le_of_ble_eq_true rfl)) d_Curve_init_29 ⟨Nat.le_of_ble_eq_true rfl, Nat.le_of_ble_eq_true rfl⟩) hS (fun q _ h => hFc q h) hFc (fun u t H1 locs ht hvm hw hB hz1 hk1 hS => ?_)
  obtain ⟨q1_45, hP1, hK1, hD1⟩ := hB
  rw [ht] at hP1
  have hK1 := va_K.moved hvm.symm hK1
  obtain ⟨hP, hD⟩ := va_join (wr := [(h0, .inr (2, [.ref q_1])), (q_1, .inl (cA_2, 17, .inr (.inr (.inr (.inr f_42)))))]) (w1 := [(q_44, .inr (6, [.ref dk, .ref q1_45, .int 0]))]) hP hD [2] [0, 1] rfl rfl (by decide) (by decide) hk1 hFc hP1 hD1
  have hK := (hK.sub (tys' := [(cA_2, .object "RealHouse$Poly")]) [0] rfl).app hK1
  generalize H1 = H at hP hS ⊢
  have hP : va_P (dC, dI) classes [(h0, .inr (2, [.ref q_1])), (q_1, .inl (cA_2, 17, .inr (.inr (.inr (.inr f_42))))), (q_44, .inr (6, [.ref dk, .ref q1_45, .int 0]))] H := hP
  have hD : va_D A [(h0, .inr (2, [.ref q_1])), (q_1, .inl (cA_2, 17, .inr (.inr (.inr (.inr f_42))))), (q_44, .inr (6, [.ref dk, .ref q1_45, .int 0]))] := hD
  have hK : va_K (dC, dI) classes [(cA_2, .object "RealHouse$Poly")] s := hK
  refine W.widen (k := 23) (n := 50) (Nat.le_of_ble_eq_true rfl) (Nat.le_of_ble_eq_true rfl) ?_
  refine va_astq (r := (R_Poly, F_Poly, 3)) hx hb hK hP hD hS 1 0 2 6 rfl rfl rfl rfl (vp_in_nI (n := 10) (by decide) (by decide)) d_Curve_init_32 (fun H locs hP hD hS => ?_)
  have hP : va_P (dC, dI) classes [(h0, .inr (2, [.ref q_1])), (q_1, .inl (cA_2, 17, .inr (.inr (.inr (.inr (va_up f_42 (10 : Int32).toNatClampNeg (some q_44))))))), (q_44, .inr (6, [.ref dk, .ref q1_45, .int 0]))] H := hP
  have hD : va_D A [(h0, .inr (2, [.ref q_1])), (q_1, .inl (cA_2, 17, .inr (.inr (.inr (.inr (va_up f_42 (10 : Int32).toNatClampNeg (some q_44))))))), (q_44, .inr (6, [.ref dk, .ref q1_45, .int 0]))] := hD
  generalize va_up f_42 (10 : Int32).toNatClampNeg (some q_44) = f_46 at hP hD
  have hP := hP.sub (ws' := [(h0, .inr (2, [.ref q_1])), (q_1, .inl (cA_2, 17, .inr (.inr (.inr (.inr f_46)))))]) [0, 1] rfl
  have hD := hD.sub (ws' := [(h0, .inr (2, [.ref q_1])), (q_1, .inl (cA_2, 17, .inr (.inr (.inr (.inr f_46)))))]) [0, 1] (by decide) rfl
  refine lv_iinc (v := 11) (lv' := [(3, .int 11), (0, .ref h0), (1, .ref dk), (2, .int 17)]) hx hb d_Curve_init_33 hl (k := 0) rfl (by decide) (by decide) rfl (fun ls hl => ?_)
  refine lv_goto (tgt := 14) hx hb d_Curve_init_36 (by decide) ?_
  refine lv_iload_n hx hb d_Curve_init_14 rfl (lv_at hl 0 rfl) ?_
  refine lv_iload_n hx hb d_Curve_init_15 rfl (lv_at hl 3 rfl) ?_
  refine lv_icmp_ge (tgt := 39) hx hb d_Curve_init_16 (by decide) (fun c_47 => absurd c_47 (by decide)) (fun c_47 => ?_)
  refine lv_aload_n hx hb d_Curve_init_19 rfl (lv_at hl 1 rfl) ?_
  refine va_get (D := (dC, dI)) (ci := 2) (v := .ref q_1) (C := R_Curve) (T := F_Curve) (N := 1) hx hb hT i_Curve hown hK hP 0 rfl rfl 0 (by decide) (hT _ tw_224) (fun _ h9 => h9) rfl d_Curve_init_20 ?_
  refine lv_iload_n hx hb d_Curve_init_23 rfl (lv_at hl 0 rfl) ?_
  refine va_new (ci := 6) (fs := [.null, .null, .int 0]) (C := R_Poly) (T := F_Poly) (N := 3) hx hb hT i_Poly t_Poly t_Poly_ok hown (hT _ tw_189) (hT _ tw_190) (hT _ tw_8) hK hP hD hS hA rfl (by decide) (Nat.le_of_ble_eq_true rfl) (Nat.le_of_ble_eq_true rfl) d_Curve_init_24 (fun q_48 H hP hD hS => ?_)
  have hP : va_P (dC, dI) classes [(h0, .inr (2, [.ref q_1])), (q_1, .inl (cA_2, 17, .inr (.inr (.inr (.inr f_46))))), (q_48, .inr (6, [.null, .null, .int 0]))] H := hP
  have hD : va_D A [(h0, .inr (2, [.ref q_1])), (q_1, .inl (cA_2, 17, .inr (.inr (.inr (.inr f_46))))), (q_48, .inr (6, [.null, .null, .int 0]))] := hD
  refine W.widen (k := 24) (n := 53) (Nat.le_of_ble_eq_true rfl) (Nat.le_of_ble_eq_true rfl) ?_
  refine lv_dup hx hb d_Curve_init_27 rfl ?_
  refine lv_aload_n hx hb d_Curve_init_28 rfl (lv_at hl 2 rfl) ?_
  have hPc := hP.sub (ws' := [(q_48, .inr (6, [.null, .null, .int 0]))]) [2] rfl
  have hDc := hD.sub (ws' := [(q_48, .inr (6, [.null, .null, .int 0]))]) [2] (by decide) rfl
  have hKc := hK.sub (tys' := []) [] rfl
  have hFc := va_free (wc := [(q_48, .inr (6, [.null, .null, .int 0]))]) hD hS hA [2] rfl
  refine va_callv (va_runI (As := [.ref dk]) (rest := [.ref q_48, .int 11, .ref q_1]) ⟨hx, hb, hml, hown, hT⟩ (c_Poly_init l dC dI H.size q_48 dk ) (cwI 1 hT g_Poly_init rfl rfl rfl (hT _ tw_8) (hT _ tw_191) (hT _ tw_192) rfl (by decide +kernel) ⟨Nat.le_of_ble_eq_true rfl, Nat.le_of_ble_eq_true rfl⟩) ⟨fun a U g mk q => by obtain ⟨q0, q1, qP, qK, qD, qN⟩ := q; exact ⟨q0, q1, qP, va_K.moved (u := U) (U := U.calling g mk a) (Vm.Alike.refl U.vm) qK, qD, nx_K.same (u := U) (U := U.calling g mk a) rfl qN⟩, fun U hU hW => ⟨rfl, by rw [hU], by rw [hU]; exact hPc, va_K.moved hW.alike hKc, hDc.weaken (fun _ _ _ _ => trivial), nx_K.warm hW hN⟩⟩ rfl rfl hl.1 rfl (lv_room (Nat.le_of_ble_eq_true rfl)) d_Curve_init_29 ⟨Nat.le_of_ble_eq_true rfl, Nat.le_of_ble_eq_true rfl⟩) hS (fun q _ h => hFc q h) hFc (fun u t H1 locs ht hvm hw hB hz1 hk1 hS => ?_)
  obtain ⟨q1_49, hP1, hK1, hD1⟩ := hB
  rw [ht] at hP1
  have hK1 := va_K.moved hvm.symm hK1
  obtain ⟨hP, hD⟩ := va_join (wr := [(h0, .inr (2, [.ref q_1])), (q_1, .inl (cA_2, 17, .inr (.inr (.inr (.inr f_46)))))]) (w1 := [(q_48, .inr (6, [.ref dk, .ref q1_49, .int 0]))]) hP hD [2] [0, 1] rfl rfl (by decide) (by decide) hk1 hFc hP1 hD1
  have hK := (hK.sub (tys' := [(cA_2, .object "RealHouse$Poly")]) [0] rfl).app hK1
  generalize H1 = H at hP hS ⊢
  have hP : va_P (dC, dI) classes [(h0, .inr (2, [.ref q_1])), (q_1, .inl (cA_2, 17, .inr (.inr (.inr (.inr f_46))))), (q_48, .inr (6, [.ref dk, .ref q1_49, .int 0]))] H := hP
  have hD : va_D A [(h0, .inr (2, [.ref q_1])), (q_1, .inl (cA_2, 17, .inr (.inr (.inr (.inr f_46))))), (q_48, .inr (6, [.ref dk, .ref q1_49, .int 0]))] := hD
  have hK : va_K (dC, dI) classes [(cA_2, .object "RealHouse$Poly")] s := hK
  refine W.widen (k := 25) (n := 53) (Nat.le_of_ble_eq_true rfl) (Nat.le_of_ble_eq_true rfl) ?_
  refine va_astq (r := (R_Poly, F_Poly, 3)) hx hb hK hP hD hS 1 0 2 6 rfl rfl rfl rfl (vp_in_nI (n := 11) (by decide) (by decide)) d_Curve_init_32 (fun H locs hP hD hS => ?_)
  have hP : va_P (dC, dI) classes [(h0, .inr (2, [.ref q_1])), (q_1, .inl (cA_2, 17, .inr (.inr (.inr (.inr (va_up f_46 (11 : Int32).toNatClampNeg (some q_48))))))), (q_48, .inr (6, [.ref dk, .ref q1_49, .int 0]))] H := hP
  have hD : va_D A [(h0, .inr (2, [.ref q_1])), (q_1, .inl (cA_2, 17, .inr (.inr (.inr (.inr (va_up f_46 (11 : Int32).toNatClampNeg (some q_48))))))), (q_48, .inr (6, [.ref dk, .ref q1_49, .int 0]))] := hD
  generalize va_up f_46 (11 : Int32).toNatClampNeg (some q_48) = f_50 at hP hD
  have hP := hP.sub (ws' := [(h0, .inr (2, [.ref q_1])), (q_1, .inl (cA_2, 17, .inr (.inr (.inr (.inr f_50)))))]) [0, 1] rfl
  have hD := hD.sub (ws' := [(h0, .inr (2, [.ref q_1])), (q_1, .inl (cA_2, 17, .inr (.inr (.inr (.inr f_50)))))]) [0, 1] (by decide) rfl
  refine lv_iinc (v := 12) (lv' := [(3, .int 12), (0, .ref h0), (1, .ref dk), (2, .int 17)]) hx hb d_Curve_init_33 hl (k := 0) rfl (by decide) (by decide) rfl (fun ls hl => ?_)
  refine lv_goto (tgt := 14) hx hb d_Curve_init_36 (by decide) ?_
  refine lv_iload_n hx hb d_Curve_init_14 rfl (lv_at hl 0 rfl) ?_
  refine lv_iload_n hx hb d_Curve_init_15 rfl (lv_at hl 3 rfl) ?_
  refine lv_icmp_ge (tgt := 39) hx hb d_Curve_init_16 (by decide) (fun c_51 => absurd c_51 (by decide)) (fun c_51 => ?_)
  refine lv_aload_n hx hb d_Curve_init_19 rfl (lv_at hl 1 rfl) ?_
  refine va_get (D := (dC, dI)) (ci := 2) (v := .ref q_1) (C := R_Curve) (T := F_Curve) (N := 1) hx hb hT i_Curve hown hK hP 0 rfl rfl 0 (by decide) (hT _ tw_224) (fun _ h9 => h9) rfl d_Curve_init_20 ?_
  refine lv_iload_n hx hb d_Curve_init_23 rfl (lv_at hl 0 rfl) ?_
  refine va_new (ci := 6) (fs := [.null, .null, .int 0]) (C := R_Poly) (T := F_Poly) (N := 3) hx hb hT i_Poly t_Poly t_Poly_ok hown (hT _ tw_189) (hT _ tw_190) (hT _ tw_8) hK hP hD hS hA rfl (by decide) (Nat.le_of_ble_eq_true rfl) (Nat.le_of_ble_eq_true rfl) d_Curve_init_24 (fun q_52 H hP hD hS => ?_)
  have hP : va_P (dC, dI) classes [(h0, .inr (2, [.ref q_1])), (q_1, .inl (cA_2, 17, .inr (.inr (.inr (.inr f_50))))), (q_52, .inr (6, [.null, .null, .int 0]))] H := hP
  have hD : va_D A [(h0, .inr (2, [.ref q_1])), (q_1, .inl (cA_2, 17, .inr (.inr (.inr (.inr f_50))))), (q_52, .inr (6, [.null, .null, .int 0]))] := hD
  refine W.widen (k := 26) (n := 56) (Nat.le_of_ble_eq_true rfl) (Nat.le_of_ble_eq_true rfl) ?_
  refine lv_dup hx hb d_Curve_init_27 rfl ?_
  refine lv_aload_n hx hb d_Curve_init_28 rfl (lv_at hl 2 rfl) ?_
  have hPc := hP.sub (ws' := [(q_52, .inr (6, [.null, .null, .int 0]))]) [2] rfl
  have hDc := hD.sub (ws' := [(q_52, .inr (6, [.null, .null, .int 0]))]) [2] (by decide) rfl
  have hKc := hK.sub (tys' := []) [] rfl
  have hFc := va_free (wc := [(q_52, .inr (6, [.null, .null, .int 0]))]) hD hS hA [2] rfl
  refine va_callv (va_runI (As := [.ref dk]) (rest := [.ref q_52, .int 12, .ref q_1]) ⟨hx, hb, hml, hown, hT⟩ (c_Poly_init l dC dI H.size q_52 dk ) (cwI 1 hT g_Poly_init rfl rfl rfl (hT _ tw_8) (hT _ tw_191) (hT _ tw_192) rfl (by decide +kernel) ⟨Nat.le_of_ble_eq_true rfl, Nat.le_of_ble_eq_true rfl⟩) ⟨fun a U g mk q => by obtain ⟨q0, q1, qP, qK, qD, qN⟩ := q; exact ⟨q0, q1, qP, va_K.moved (u := U) (U := U.calling g mk a) (Vm.Alike.refl U.vm) qK, qD, nx_K.same (u := U) (U := U.calling g mk a) rfl qN⟩, fun U hU hW => ⟨rfl, by rw [hU], by rw [hU]; exact hPc, va_K.moved hW.alike hKc, hDc.weaken (fun _ _ _ _ => trivial), nx_K.warm hW hN⟩⟩ rfl rfl hl.1 rfl (lv_room (Nat.le_of_ble_eq_true rfl)) d_Curve_init_29 ⟨Nat.le_of_ble_eq_true rfl, Nat.le_of_ble_eq_true rfl⟩) hS (fun q _ h => hFc q h) hFc (fun u t H1 locs ht hvm hw hB hz1 hk1 hS => ?_)
  obtain ⟨q1_53, hP1, hK1, hD1⟩ := hB
  rw [ht] at hP1
  have hK1 := va_K.moved hvm.symm hK1
  obtain ⟨hP, hD⟩ := va_join (wr := [(h0, .inr (2, [.ref q_1])), (q_1, .inl (cA_2, 17, .inr (.inr (.inr (.inr f_50)))))]) (w1 := [(q_52, .inr (6, [.ref dk, .ref q1_53, .int 0]))]) hP hD [2] [0, 1] rfl rfl (by decide) (by decide) hk1 hFc hP1 hD1
  have hK := (hK.sub (tys' := [(cA_2, .object "RealHouse$Poly")]) [0] rfl).app hK1
  generalize H1 = H at hP hS ⊢
  have hP : va_P (dC, dI) classes [(h0, .inr (2, [.ref q_1])), (q_1, .inl (cA_2, 17, .inr (.inr (.inr (.inr f_50))))), (q_52, .inr (6, [.ref dk, .ref q1_53, .int 0]))] H := hP
  have hD : va_D A [(h0, .inr (2, [.ref q_1])), (q_1, .inl (cA_2, 17, .inr (.inr (.inr (.inr f_50))))), (q_52, .inr (6, [.ref dk, .ref q1_53, .int 0]))] := hD
  have hK : va_K (dC, dI) classes [(cA_2, .object "RealHouse$Poly")] s := hK
  refine W.widen (k := 27) (n := 56) (Nat.le_of_ble_eq_true rfl) (Nat.le_of_ble_eq_true rfl) ?_
  refine va_astq (r := (R_Poly, F_Poly, 3)) hx hb hK hP hD hS 1 0 2 6 rfl rfl rfl rfl (vp_in_nI (n := 12) (by decide) (by decide)) d_Curve_init_32 (fun H locs hP hD hS => ?_)
  have hP : va_P (dC, dI) classes [(h0, .inr (2, [.ref q_1])), (q_1, .inl (cA_2, 17, .inr (.inr (.inr (.inr (va_up f_50 (12 : Int32).toNatClampNeg (some q_52))))))), (q_52, .inr (6, [.ref dk, .ref q1_53, .int 0]))] H := hP
  have hD : va_D A [(h0, .inr (2, [.ref q_1])), (q_1, .inl (cA_2, 17, .inr (.inr (.inr (.inr (va_up f_50 (12 : Int32).toNatClampNeg (some q_52))))))), (q_52, .inr (6, [.ref dk, .ref q1_53, .int 0]))] := hD
  generalize va_up f_50 (12 : Int32).toNatClampNeg (some q_52) = f_54 at hP hD
  have hP := hP.sub (ws' := [(h0, .inr (2, [.ref q_1])), (q_1, .inl (cA_2, 17, .inr (.inr (.inr (.inr f_54)))))]) [0, 1] rfl
  have hD := hD.sub (ws' := [(h0, .inr (2, [.ref q_1])), (q_1, .inl (cA_2, 17, .inr (.inr (.inr (.inr f_54)))))]) [0, 1] (by decide) rfl
  refine lv_iinc (v := 13) (lv' := [(3, .int 13), (0, .ref h0), (1, .ref dk), (2, .int 17)]) hx hb d_Curve_init_33 hl (k := 0) rfl (by decide) (by decide) rfl (fun ls hl => ?_)
  refine lv_goto (tgt := 14) hx hb d_Curve_init_36 (by decide) ?_
  refine lv_iload_n hx hb d_Curve_init_14 rfl (lv_at hl 0 rfl) ?_
  refine lv_iload_n hx hb d_Curve_init_15 rfl (lv_at hl 3 rfl) ?_
  refine lv_icmp_ge (tgt := 39) hx hb d_Curve_init_16 (by decide) (fun c_55 => absurd c_55 (by decide)) (fun c_55 => ?_)
  refine lv_aload_n hx hb d_Curve_init_19 rfl (lv_at hl 1 rfl) ?_
  refine va_get (D := (dC, dI)) (ci := 2) (v := .ref q_1) (C := R_Curve) (T := F_Curve) (N := 1) hx hb hT i_Curve hown hK hP 0 rfl rfl 0 (by decide) (hT _ tw_224) (fun _ h9 => h9) rfl d_Curve_init_20 ?_
  refine lv_iload_n hx hb d_Curve_init_23 rfl (lv_at hl 0 rfl) ?_
  refine va_new (ci := 6) (fs := [.null, .null, .int 0]) (C := R_Poly) (T := F_Poly) (N := 3) hx hb hT i_Poly t_Poly t_Poly_ok hown (hT _ tw_189) (hT _ tw_190) (hT _ tw_8) hK hP hD hS hA rfl (by decide) (Nat.le_of_ble_eq_true rfl) (Nat.le_of_ble_eq_true rfl) d_Curve_init_24 (fun q_56 H hP hD hS => ?_)
  have hP : va_P (dC, dI) classes [(h0, .inr (2, [.ref q_1])), (q_1, .inl (cA_2, 17, .inr (.inr (.inr (.inr f_54))))), (q_56, .inr (6, [.null, .null, .int 0]))] H := hP
  have hD : va_D A [(h0, .inr (2, [.ref q_1])), (q_1, .inl (cA_2, 17, .inr (.inr (.inr (.inr f_54))))), (q_56, .inr (6, [.null, .null, .int 0]))] := hD
  refine W.widen (k := 28) (n := 59) (Nat.le_of_ble_eq_true rfl) (Nat.le_of_ble_eq_true rfl) ?_
  refine lv_dup hx hb d_Curve_init_27 rfl ?_
  refine lv_aload_n hx hb d_Curve_init_28 rfl (lv_at hl 2 rfl) ?_
  have hPc := hP.sub (ws' := [(q_56, .inr (6, [.null, .null, .int 0]))]) [2] rfl
  have hDc := hD.sub (ws' := [(q_56, .inr (6, [.null, .null, .int 0]))]) [2] (by decide) rfl
  have hKc := hK.sub (tys' := []) [] rfl
  have hFc := va_free (wc := [(q_56, .inr (6, [.null, .null, .int 0]))]) hD hS hA [2] rfl
  refine va_callv (va_runI (As := [.ref dk]) (rest := [.ref q_56, .int 13, .ref q_1]) ⟨hx, hb, hml, hown, hT⟩ (c_Poly_init l dC dI H.size q_56 dk ) (cwI 1 hT g_Poly_init rfl rfl rfl (hT _ tw_8) (hT _ tw_191) (hT _ tw_192) rfl (by decide +kernel) ⟨Nat.le_of_ble_eq_true rfl, Nat.le_of_ble_eq_true rfl⟩) ⟨fun a U g mk q => by obtain ⟨q0, q1, qP, qK, qD, qN⟩ := q; exact ⟨q0, q1, qP, va_K.moved (u := U) (U := U.calling g mk a) (Vm.Alike.refl U.vm) qK, qD, nx_K.same (u := U) (U := U.calling g mk a) rfl qN⟩, fun U hU hW => ⟨rfl, by rw [hU], by rw [hU]; exact hPc, va_K.moved hW.alike hKc, hDc.weaken (fun _ _ _ _ => trivial), nx_K.warm hW hN⟩⟩ rfl rfl hl.1 rfl (lv_room (Nat.le_of_ble_eq_true rfl)) d_Curve_init_29 ⟨Nat.le_of_ble_eq_true rfl, Nat.le_of_ble_eq_true rfl⟩) hS (fun q _ h => hFc q h) hFc (fun u t H1 locs ht hvm hw hB hz1 hk1 hS => ?_)
  obtain ⟨q1_57, hP1, hK1, hD1⟩ := hB
  rw [ht] at hP1
  have hK1 := va_K.moved hvm.symm hK1
  obtain ⟨hP, hD⟩ := va_join (wr := [(h0, .inr (2, [.ref q_1])), (q_1, .inl (cA_2, 17, .inr (.inr (.inr (.inr f_54)))))]) (w1 := [(q_56, .inr (6, [.ref dk, .ref q1_57, .int 0]))]) hP hD [2] [0, 1] rfl rfl (by decide) (by decide) hk1 hFc hP1 hD1
  have hK := (hK.sub (tys' := [(cA_2, .object "RealHouse$Poly")]) [0] rfl).app hK1
  generalize H1 = H at hP hS ⊢
  have hP : va_P (dC, dI) classes [(h0, .inr (2, [.ref q_1])), (q_1, .inl (cA_2, 17, .inr (.inr (.inr (.inr f_54))))), (q_56, .inr (6, [.ref dk, .ref q1_57, .int 0]))] H := hP
  have hD : va_D A [(h0, .inr (2, [.ref q_1])), (q_1, .inl (cA_2, 17, .inr (.inr (.inr (.inr f_54))))), (q_56, .inr (6, [.ref dk, .ref q1_57, .int 0]))] := hD
  have hK : va_K (dC, dI) classes [(cA_2, .object "RealHouse$Poly")] s := hK
  refine W.widen (k := 29) (n := 59) (Nat.le_of_ble_eq_true rfl) (Nat.le_of_ble_eq_true rfl) ?_
  refine va_astq (r := (R_Poly, F_Poly, 3)) hx hb hK hP hD hS 1 0 2 6 rfl rfl rfl rfl (vp_in_nI (n := 13) (by decide) (by decide)) d_Curve_init_32 (fun H locs hP hD hS => ?_)
  have hP : va_P (dC, dI) classes [(h0, .inr (2, [.ref q_1])), (q_1, .inl (cA_2, 17, .inr (.inr (.inr (.inr (va_up f_54 (13 : Int32).toNatClampNeg (some q_56))))))), (q_56, .inr (6, [.ref dk, .ref q1_57, .int 0]))] H := hP
  have hD : va_D A [(h0, .inr (2, [.ref q_1])), (q_1, .inl (cA_2, 17, .inr (.inr (.inr (.inr (va_up f_54 (13 : Int32).toNatClampNeg (some q_56))))))), (q_56, .inr (6, [.ref dk, .ref q1_57, .int 0]))] := hD
  generalize va_up f_54 (13 : Int32).toNatClampNeg (some q_56) = f_58 at hP hD
  have hP := hP.sub (ws' := [(h0, .inr (2, [.ref q_1])), (q_1, .inl (cA_2, 17, .inr (.inr (.inr (.inr f_58)))))]) [0, 1] rfl
  have hD := hD.sub (ws' := [(h0, .inr (2, [.ref q_1])), (q_1, .inl (cA_2, 17, .inr (.inr (.inr (.inr f_58)))))]) [0, 1] (by decide) rfl
  refine lv_iinc (v := 14) (lv' := [(3, .int 14), (0, .ref h0), (1, .ref dk), (2, .int 17)]) hx hb d_Curve_init_33 hl (k := 0) rfl (by decide) (by decide) rfl (fun ls hl => ?_)
  refine lv_goto (tgt := 14) hx hb d_Curve_init_36 (by decide) ?_
  refine lv_iload_n hx hb d_Curve_init_14 rfl (lv_at hl 0 rfl) ?_
  refine lv_iload_n hx hb d_Curve_init_15 rfl (lv_at hl 3 rfl) ?_
  refine lv_icmp_ge (tgt := 39) hx hb d_Curve_init_16 (by decide) (fun c_59 => absurd c_59 (by decide)) (fun c_59 => ?_)
  refine lv_aload_n hx hb d_Curve_init_19 rfl (lv_at hl 1 rfl) ?_
  refine va_get (D := (dC, dI)) (ci := 2) (v := .ref q_1) (C := R_Curve) (T := F_Curve) (N := 1) hx hb hT i_Curve hown hK hP 0 rfl rfl 0 (by decide) (hT _ tw_224) (fun _ h9 => h9) rfl d_Curve_init_20 ?_
  refine lv_iload_n hx hb d_Curve_init_23 rfl (lv_at hl 0 rfl) ?_
  refine va_new (ci := 6) (fs := [.null, .null, .int 0]) (C := R_Poly) (T := F_Poly) (N := 3) hx hb hT i_Poly t_Poly t_Poly_ok hown (hT _ tw_189) (hT _ tw_190) (hT _ tw_8) hK hP hD hS hA rfl (by decide) (Nat.le_of_ble_eq_true rfl) (Nat.le_of_ble_eq_true rfl) d_Curve_init_24 (fun q_60 H hP hD hS => ?_)
  have hP : va_P (dC, dI) classes [(h0, .inr (2, [.ref q_1])), (q_1, .inl (cA_2, 17, .inr (.inr (.inr (.inr f_58))))), (q_60, .inr (6, [.null, .null, .int 0]))] H := hP
  have hD : va_D A [(h0, .inr (2, [.ref q_1])), (q_1, .inl (cA_2, 17, .inr (.inr (.inr (.inr f_58))))), (q_60, .inr (6, [.null, .null, .int 0]))] := hD
  refine W.widen (k := 30) (n := 62) (Nat.le_of_ble_eq_true rfl) (Nat.le_of_ble_eq_true rfl) ?_
  refine lv_dup hx hb d_Curve_init_27 rfl ?_
  refine lv_aload_n hx hb d_Curve_init_28 rfl (lv_at hl 2 rfl) ?_
  have hPc := hP.sub (ws' := [(q_60, .inr (6, [.null, .null, .int 0]))]) [2] rfl
  have hDc := hD.sub (ws' := [(q_60, .inr (6, [.null, .null, .int 0]))]) [2] (by decide) rfl
  have hKc := hK.sub (tys' := []) [] rfl
  have hFc := va_free (wc := [(q_60, .inr (6, [.null, .null, .int 0]))]) hD hS hA [2] rfl
  refine va_callv (va_runI (As := [.ref dk]) (rest := [.ref q_60, .int 14, .ref q_1]) ⟨hx, hb, hml, hown, hT⟩ (c_Poly_init l dC dI H.size q_60 dk ) (cwI 1 hT g_Poly_init rfl rfl rfl (hT _ tw_8) (hT _ tw_191) (hT _ tw_192) rfl (by decide +kernel) ⟨Nat.le_of_ble_eq_true rfl, Nat.le_of_ble_eq_true rfl⟩) ⟨fun a U g mk q => by obtain ⟨q0, q1, qP, qK, qD, qN⟩ := q; exact ⟨q0, q1, qP, va_K.moved (u := U) (U := U.calling g mk a) (Vm.Alike.refl U.vm) qK, qD, nx_K.same (u := U) (U := U.calling g mk a) rfl qN⟩, fun U hU hW => ⟨rfl, by rw [hU], by rw [hU]; exact hPc, va_K.moved hW.alike hKc, hDc.weaken (fun _ _ _ _ => trivial), nx_K.warm hW hN⟩⟩ rfl rfl hl.1 rfl (lv_room (Nat.le_of_ble_eq_true rfl)) d_Curve_init_29 ⟨Nat.le_of_ble_eq_true rfl, Nat.le_of_ble_eq_true rfl⟩) hS (fun q _ h => hFc q h) hFc (fun u t H1 locs ht hvm hw hB hz1 hk1 hS => ?_)
  obtain ⟨q1_61, hP1, hK1, hD1⟩ := hB
  rw [ht] at hP1
  have hK1 := va_K.moved hvm.symm hK1
  obtain ⟨hP, hD⟩ := va_join (wr := [(h0, .inr (2, [.ref q_1])), (q_1, .inl (cA_2, 17, .inr (.inr (.inr (.inr f_58)))))]) (w1 := [(q_60, .inr (6, [.ref dk, .ref q1_61, .int 0]))]) hP hD [2] [0, 1] rfl rfl (by decide) (by decide) hk1 hFc hP1 hD1
  have hK := (hK.sub (tys' := [(cA_2, .object "RealHouse$Poly")]) [0] rfl).app hK1
  generalize H1 = H at hP hS ⊢
  have hP : va_P (dC, dI) classes [(h0, .inr (2, [.ref q_1])), (q_1, .inl (cA_2, 17, .inr (.inr (.inr (.inr f_58))))), (q_60, .inr (6, [.ref dk, .ref q1_61, .int 0]))] H := hP
  have hD : va_D A [(h0, .inr (2, [.ref q_1])), (q_1, .inl (cA_2, 17, .inr (.inr (.inr (.inr f_58))))), (q_60, .inr (6, [.ref dk, .ref q1_61, .int 0]))] := hD
  have hK : va_K (dC, dI) classes [(cA_2, .object "RealHouse$Poly")] s := hK
  refine W.widen (k := 31) (n := 62) (Nat.le_of_ble_eq_true rfl) (Nat.le_of_ble_eq_true rfl) ?_
  refine va_astq (r := (R_Poly, F_Poly, 3)) hx hb hK hP hD hS 1 0 2 6 rfl rfl rfl rfl (vp_in_nI (n := 14) (by decide) (by decide)) d_Curve_init_32 (fun H locs hP hD hS => ?_)
  have hP : va_P (dC, dI) classes [(h0, .inr (2, [.ref q_1])), (q_1, .inl (cA_2, 17, .inr (.inr (.inr (.inr (va_up f_58 (14 : Int32).toNatClampNeg (some q_60))))))), (q_60, .inr (6, [.ref dk, .ref q1_61, .int 0]))] H := hP
  have hD : va_D A [(h0, .inr (2, [.ref q_1])), (q_1, .inl (cA_2, 17, .inr (.inr (.inr (.inr (va_up f_58 (14 : Int32).toNatClampNeg (some q_60))))))), (q_60, .inr (6, [.ref dk, .ref q1_61, .int 0]))] := hD
  generalize va_up f_58 (14 : Int32).toNatClampNeg (some q_60) = f_62 at hP hD
  have hP := hP.sub (ws' := [(h0, .inr (2, [.ref q_1])), (q_1, .inl (cA_2, 17, .inr (.inr (.inr (.inr f_62)))))]) [0, 1] rfl
  have hD := hD.sub (ws' := [(h0, .inr (2, [.ref q_1])), (q_1, .inl (cA_2, 17, .inr (.inr (.inr (.inr f_62)))))]) [0, 1] (by decide) rfl
  refine lv_iinc (v := 15) (lv' := [(3, .int 15), (0, .ref h0), (1, .ref dk), (2, .int 17)]) hx hb d_Curve_init_33 hl (k := 0) rfl (by decide) (by decide) rfl (fun ls hl => ?_)
  refine lv_goto (tgt := 14) hx hb d_Curve_init_36 (by decide) ?_
  refine lv_iload_n hx hb d_Curve_init_14 rfl (lv_at hl 0 rfl) ?_
  refine lv_iload_n hx hb d_Curve_init_15 rfl (lv_at hl 3 rfl) ?_
  refine lv_icmp_ge (tgt := 39) hx hb d_Curve_init_16 (by decide) (fun c_63 => absurd c_63 (by decide)) (fun c_63 => ?_)
  refine lv_aload_n hx hb d_Curve_init_19 rfl (lv_at hl 1 rfl) ?_
  refine va_get (D := (dC, dI)) (ci := 2) (v := .ref q_1) (C := R_Curve) (T := F_Curve) (N := 1) hx hb hT i_Curve hown hK hP 0 rfl rfl 0 (by decide) (hT _ tw_224) (fun _ h9 => h9) rfl d_Curve_init_20 ?_
  refine lv_iload_n hx hb d_Curve_init_23 rfl (lv_at hl 0 rfl) ?_
  refine va_new (ci := 6) (fs := [.null, .null, .int 0]) (C := R_Poly) (T := F_Poly) (N := 3) hx hb hT i_Poly t_Poly t_Poly_ok hown (hT _ tw_189) (hT _ tw_190) (hT _ tw_8) hK hP hD hS hA rfl (by decide) (Nat.le_of_ble_eq_true rfl) (Nat.le_of_ble_eq_true rfl) d_Curve_init_24 (fun q_64 H hP hD hS => ?_)
  have hP : va_P (dC, dI) classes [(h0, .inr (2, [.ref q_1])), (q_1, .inl (cA_2, 17, .inr (.inr (.inr (.inr f_62))))), (q_64, .inr (6, [.null, .null, .int 0]))] H := hP
  have hD : va_D A [(h0, .inr (2, [.ref q_1])), (q_1, .inl (cA_2, 17, .inr (.inr (.inr (.inr f_62))))), (q_64, .inr (6, [.null, .null, .int 0]))] := hD
  refine W.widen (k := 32) (n := 65) (Nat.le_of_ble_eq_true rfl) (Nat.le_of_ble_eq_true rfl) ?_
  refine lv_dup hx hb d_Curve_init_27 rfl ?_
  refine lv_aload_n hx hb d_Curve_init_28 rfl (lv_at hl 2 rfl) ?_
  have hPc := hP.sub (ws' := [(q_64, .inr (6, [.null, .null, .int 0]))]) [2] rfl
  have hDc := hD.sub (ws' := [(q_64, .inr (6, [.null, .null, .int 0]))]) [2] (by decide) rfl
  have hKc := hK.sub (tys' := []) [] rfl
  have hFc := va_free (wc := [(q_64, .inr (6, [.null, .null, .int 0]))]) hD hS hA [2] rfl
  refine va_callv (va_runI (As := [.ref dk]) (rest := [.ref q_64, .int 15, .ref q_1]) ⟨hx, hb, hml, hown, hT⟩ (c_Poly_init l dC dI H.size q_64 dk ) (cwI 1 hT g_Poly_init rfl rfl rfl (hT _ tw_8) (hT _ tw_191) (hT _ tw_192) rfl (by decide +kernel) ⟨Nat.le_of_ble_eq_true rfl, Nat.le_of_ble_eq_true rfl⟩) ⟨fun a U g mk q => by obtain ⟨q0, q1, qP, qK, qD, qN⟩ := q; exact ⟨q0, q1, qP, va_K.moved (u := U) (U := U.calling g mk a) (Vm.Alike.refl U.vm) qK, qD, nx_K.same (u := U) (U := U.calling g mk a) rfl qN⟩, fun U hU hW => ⟨rfl, by rw [hU], by rw [hU]; exact hPc, va_K.moved hW.alike hKc, hDc.weaken (fun _ _ _ _ => trivial), nx_K.warm hW hN⟩⟩ rfl rfl hl.1 rfl (lv_room (Nat.le_of_ble_eq_true rfl)) d_Curve_init_29 ⟨Nat.le_of_ble_eq_true rfl, Nat.le_of_ble_eq_true rfl⟩) hS (fun q _ h => hFc q h) hFc (fun u t H1 locs ht hvm hw hB hz1 hk1 hS => ?_)
  obtain ⟨q1_65, hP1, hK1, hD1⟩ := hB
  rw [ht] at hP1
  have hK1 := va_K.moved hvm.symm hK1
  obtain ⟨hP, hD⟩ := va_join (wr := [(h0, .inr (2, [.ref q_1])), (q_1, .inl (cA_2, 17, .inr (.inr (.inr (.inr f_62)))))]) (w1 := [(q_64, .inr (6, [.ref dk, .ref q1_65, .int 0]))]) hP hD [2] [0, 1] rfl rfl (by decide) (by decide) hk1 hFc hP1 hD1
  have hK := (hK.sub (tys' := [(cA_2, .object "RealHouse$Poly")]) [0] rfl).app hK1
  generalize H1 = H at hP hS ⊢
  have hP : va_P (dC, dI) classes [(h0, .inr (2, [.ref q_1])), (q_1, .inl (cA_2, 17, .inr (.inr (.inr (.inr f_62))))), (q_64, .inr (6, [.ref dk, .ref q1_65, .int 0]))] H := hP
  have hD : va_D A [(h0, .inr (2, [.ref q_1])), (q_1, .inl (cA_2, 17, .inr (.inr (.inr (.inr f_62))))), (q_64, .inr (6, [.ref dk, .ref q1_65, .int 0]))] := hD
  have hK : va_K (dC, dI) classes [(cA_2, .object "RealHouse$Poly")] s := hK
  refine W.widen (k := 33) (n := 65) (Nat.le_of_ble_eq_true rfl) (Nat.le_of_ble_eq_true rfl) ?_
  refine va_astq (r := (R_Poly, F_Poly, 3)) hx hb hK hP hD hS 1 0 2 6 rfl rfl rfl rfl (vp_in_nI (n := 15) (by decide) (by decide)) d_Curve_init_32 (fun H locs hP hD hS => ?_)
  have hP : va_P (dC, dI) classes [(h0, .inr (2, [.ref q_1])), (q_1, .inl (cA_2, 17, .inr (.inr (.inr (.inr (va_up f_62 (15 : Int32).toNatClampNeg (some q_64))))))), (q_64, .inr (6, [.ref dk, .ref q1_65, .int 0]))] H := hP
  have hD : va_D A [(h0, .inr (2, [.ref q_1])), (q_1, .inl (cA_2, 17, .inr (.inr (.inr (.inr (va_up f_62 (15 : Int32).toNatClampNeg (some q_64))))))), (q_64, .inr (6, [.ref dk, .ref q1_65, .int 0]))] := hD
  generalize va_up f_62 (15 : Int32).toNatClampNeg (some q_64) = f_66 at hP hD
  have hP := hP.sub (ws' := [(h0, .inr (2, [.ref q_1])), (q_1, .inl (cA_2, 17, .inr (.inr (.inr (.inr f_66)))))]) [0, 1] rfl
  have hD := hD.sub (ws' := [(h0, .inr (2, [.ref q_1])), (q_1, .inl (cA_2, 17, .inr (.inr (.inr (.inr f_66)))))]) [0, 1] (by decide) rfl
  refine lv_iinc (v := 16) (lv' := [(3, .int 16), (0, .ref h0), (1, .ref dk), (2, .int 17)]) hx hb d_Curve_init_33 hl (k := 0) rfl (by decide) (by decide) rfl (fun ls hl => ?_)
  refine lv_goto (tgt := 14) hx hb d_Curve_init_36 (by decide) ?_
  refine lv_iload_n hx hb d_Curve_init_14 rfl (lv_at hl 0 rfl) ?_
  refine lv_iload_n hx hb d_Curve_init_15 rfl (lv_at hl 3 rfl) ?_
  refine lv_icmp_ge (tgt := 39) hx hb d_Curve_init_16 (by decide) (fun c_67 => absurd c_67 (by decide)) (fun c_67 => ?_)
  refine lv_aload_n hx hb d_Curve_init_19 rfl (lv_at hl 1 rfl) ?_
  refine va_get (D := (dC, dI)) (ci := 2) (v := .ref q_1) (C := R_Curve) (T := F_Curve) (N := 1) hx hb hT i_Curve hown hK hP 0 rfl rfl 0 (by decide) (hT _ tw_224) (fun _ h9 => h9) rfl d_Curve_init_20 ?_
  refine lv_iload_n hx hb d_Curve_init_23 rfl (lv_at hl 0 rfl) ?_
  refine va_new (ci := 6) (fs := [.null, .null, .int 0]) (C := R_Poly) (T := F_Poly) (N := 3) hx hb hT i_Poly t_Poly t_Poly_ok hown (hT _ tw_189) (hT _ tw_190) (hT _ tw_8) hK hP hD hS hA rfl (by decide) (Nat.le_of_ble_eq_true rfl) (Nat.le_of_ble_eq_true rfl) d_Curve_init_24 (fun q_68 H hP hD hS => ?_)
  have hP : va_P (dC, dI) classes [(h0, .inr (2, [.ref q_1])), (q_1, .inl (cA_2, 17, .inr (.inr (.inr (.inr f_66))))), (q_68, .inr (6, [.null, .null, .int 0]))] H := hP
  have hD : va_D A [(h0, .inr (2, [.ref q_1])), (q_1, .inl (cA_2, 17, .inr (.inr (.inr (.inr f_66))))), (q_68, .inr (6, [.null, .null, .int 0]))] := hD
  refine W.widen (k := 34) (n := 68) (Nat.le_of_ble_eq_true rfl) (Nat.le_of_ble_eq_true rfl) ?_
  refine lv_dup hx hb d_Curve_init_27 rfl ?_
  refine lv_aload_n hx hb d_Curve_init_28 rfl (lv_at hl 2 rfl) ?_
  have hPc := hP.sub (ws' := [(q_68, .inr (6, [.null, .null, .int 0]))]) [2] rfl
  have hDc := hD.sub (ws' := [(q_68, .inr (6, [.null, .null, .int 0]))]) [2] (by decide) rfl
  have hKc := hK.sub (tys' := []) [] rfl
  have hFc := va_free (wc := [(q_68, .inr (6, [.null, .null, .int 0]))]) hD hS hA [2] rfl
  refine va_callv (va_runI (As := [.ref dk]) (rest := [.ref q_68, .int 16, .ref q_1]) ⟨hx, hb, hml, hown, hT⟩ (c_Poly_init l dC dI H.size q_68 dk ) (cwI 1 hT g_Poly_init rfl rfl rfl (hT _ tw_8) (hT _ tw_191) (hT _ tw_192) rfl (by decide +kernel) ⟨Nat.le_of_ble_eq_true rfl, Nat.le_of_ble_eq_true rfl⟩) ⟨fun a U g mk q => by obtain ⟨q0, q1, qP, qK, qD, qN⟩ := q; exact ⟨q0, q1, qP, va_K.moved (u := U) (U := U.calling g mk a) (Vm.Alike.refl U.vm) qK, qD, nx_K.same (u := U) (U := U.calling g mk a) rfl qN⟩, fun U hU hW => ⟨rfl, by rw [hU], by rw [hU]; exact hPc, va_K.moved hW.alike hKc, hDc.weaken (fun _ _ _ _ => trivial), nx_K.warm hW hN⟩⟩ rfl rfl hl.1 rfl (lv_room (Nat.le_of_ble_eq_true rfl)) d_Curve_init_29 ⟨Nat.le_of_ble_eq_true rfl, Nat.le_of_ble_eq_true rfl⟩) hS (fun q _ h => hFc q h) hFc (fun u t H1 locs ht hvm hw hB hz1 hk1 hS => ?_)
  obtain ⟨q1_69, hP1, hK1, hD1⟩ := hB
  rw [ht] at hP1
  have hK1 := va_K.moved hvm.symm hK1
  obtain ⟨hP, hD⟩ := va_join (wr := [(h0, .inr (2, [.ref q_1])), (q_1, .inl (cA_2, 17, .inr (.inr (.inr (.inr f_66)))))]) (w1 := [(q_68, .inr (6, [.ref dk, .ref q1_69, .int 0]))]) hP hD [2] [0, 1] rfl rfl (by decide) (by decide) hk1 hFc hP1 hD1
  have hK := (hK.sub (tys' := [(cA_2, .object "RealHouse$Poly")]) [0] rfl).app hK1
  generalize H1 = H at hP hS ⊢
  have hP : va_P (dC, dI) classes [(h0, .inr (2, [.ref q_1])), (q_1, .inl (cA_2, 17, .inr (.inr (.inr (.inr f_66))))), (q_68, .inr (6, [.ref dk, .ref q1_69, .int 0]))] H := hP
  have hD : va_D A [(h0, .inr (2, [.ref q_1])), (q_1, .inl (cA_2, 17, .inr (.inr (.inr (.inr f_66))))), (q_68, .inr (6, [.ref dk, .ref q1_69, .int 0]))] := hD
  have hK : va_K (dC, dI) classes [(cA_2, .object "RealHouse$Poly")] s := hK
  refine W.widen (k := 35) (n := 68) (Nat.le_of_ble_eq_true rfl) (Nat.le_of_ble_eq_true rfl) ?_
  refine va_astq (r := (R_Poly, F_Poly, 3)) hx hb hK hP hD hS 1 0 2 6 rfl rfl rfl rfl (vp_in_nI (n := 16) (by decide) (by decide)) d_Curve_init_32 (fun H locs hP hD hS => ?_)
  have hP : va_P (dC, dI) classes [(h0, .inr (2, [.ref q_1])), (q_1, .inl (cA_2, 17, .inr (.inr (.inr (.inr (va_up f_66 (16 : Int32).toNatClampNeg (some q_68))))))), (q_68, .inr (6, [.ref dk, .ref q1_69, .int 0]))] H := hP
  have hD : va_D A [(h0, .inr (2, [.ref q_1])), (q_1, .inl (cA_2, 17, .inr (.inr (.inr (.inr (va_up f_66 (16 : Int32).toNatClampNeg (some q_68))))))), (q_68, .inr (6, [.ref dk, .ref q1_69, .int 0]))] := hD
  generalize va_up f_66 (16 : Int32).toNatClampNeg (some q_68) = f_70 at hP hD
  have hP := hP.sub (ws' := [(h0, .inr (2, [.ref q_1])), (q_1, .inl (cA_2, 17, .inr (.inr (.inr (.inr f_70)))))]) [0, 1] rfl
  have hD := hD.sub (ws' := [(h0, .inr (2, [.ref q_1])), (q_1, .inl (cA_2, 17, .inr (.inr (.inr (.inr f_70)))))]) [0, 1] (by decide) rfl
  refine lv_iinc (v := 17) (lv' := [(3, .int 17), (0, .ref h0), (1, .ref dk), (2, .int 17)]) hx hb d_Curve_init_33 hl (k := 0) rfl (by decide) (by decide) rfl (fun ls hl => ?_)
  refine lv_goto (tgt := 14) hx hb d_Curve_init_36 (by decide) ?_
  refine lv_iload_n hx hb d_Curve_init_14 rfl (lv_at hl 0 rfl) ?_
  refine lv_iload_n hx hb d_Curve_init_15 rfl (lv_at hl 3 rfl) ?_
  refine lv_icmp_ge (tgt := 39) hx hb d_Curve_init_16 (by decide) (fun c_71 => ?_) (fun c_71 => absurd (by decide) c_71)
  have hP9 := hP.sub (ws' := [(h0, .inr (2, [.ref q_1]))]) [0] rfl
  have hD9 := hD.sub (ws' := [(h0, .inr (2, [.ref q_1]))]) [0] (by decide) rfl
  have hK9 := hK.sub (tys' := []) [] rfl
  exact W.vret hx hb hr (fun t ht hW => ⟨⟨(), rfl, trivial, q_1, by rw [ht]; exact hP9, va_K.moved hW.alike hK9, hD9⟩, hS.F ht⟩) hS.2.2 d_Curve_init_39

set_option maxHeartbeats 4000000 in
set_option maxRecDepth 100000 in
/-- Curve(desk, 9) -/
theorem c_Curve_init_9 (l : Launch) (dC : Nat → ClassId) (dI : Nat → Nat → Nat) (sz : Nat) (h0 : Nat) (dk : Nat)  : Met l y_Curve_init w_Curve_init ({ frames := 2, cells := 19, slots := 36, locals := 33 }) (va_Pc [.ref h0, .ref dk, .int 9] (fun U => U.heap.size = sz ∧ va_P (dC, dI) classes [(h0, .inr (2, [.null]))] U.heap ∧ va_K (dC, dI) classes [] U ∧ va_D (fun _ => True) [(h0, .inr (2, [.null]))] ∧ nx_K U)) (va_Qv (fun _ : Unit => True) (fun _ t => ∃ (x_c : Nat), va_P (dC, dI) classes [(h0, .inr (2, [.ref x_c]))] t.heap ∧ va_K (dC, dI) classes [] t ∧ va_D (va_A [(h0, .inr (2, [.null]))] sz) [(h0, .inr (2, [.ref x_c]))]) (va_A [(h0, .inr (2, [.null]))] sz)) 19 36 (va_A [(h0, .inr (2, [.null]))] sz) := by
  refine Met.ofW (cc := b_Curve_init) (maxL := 4) (ret := none) (by decide) rfl ?_
  intro p e s m args below meth c s₁ B hml hv
  obtain ⟨rfl, hsz, hP, hK, hD0, hN⟩ := hv
  have hx := B.exec
  have hb := B.bytes
  have hr := B.returns
  have hT : ∀ w ∈ lw_g, w.before _ s = true := fun w h => atoms_spec (ws := w_Curve_init) B.pre w (List.mem_cons_of_mem _ h)
  have hown : s.vm.findClass R_Curve = some m.cls := findClass_of_methodNamed B.named
  have hlocks := B.notSynchronized
  have hin : meth.name = "<init>" := (name_of_methodNamed B.named B.method).1
  subst hsz
  have hD := hD0.self (sz := s.heap.size)
  generalize hAe : va_A [(h0, .inr (2, [.null]))] s.heap.size = A at hD ⊢
  have hA : ∀ q : Nat, s.heap.size ≤ q → A q := fun q h => by rw [← hAe]; exact Or.inr h
  have hS : va_S A s.heap s.heap [] := va_S.rf
  have hP : va_P (dC, dI) classes [(h0, .inr (2, [.null]))] s.heap := hP
  have hl := lv_entry ([.ref h0, .ref dk, .int 9]) (n := 4) (Nat.le_of_ble_eq_true rfl)
  rw [lg_entry_eq]
  generalize (lg_sl ([.ref h0, .ref dk, .int 9]) ++ List.replicate (4 - (lg_sl ([.ref h0, .ref dk, .int 9])).length) Slot.unset).toArray = ls at hl ⊢
  have hl : lv_has ls 4 [(0, .ref h0), (1, .ref dk), (2, .int 9)] := hl
  refine lv_aload_n hx hb d_Curve_init_0 rfl (lv_at hl 0 rfl) ?_
  refine W.objInit hx hb hown (hT _ tw_188) (hT _ tw_24) (hT _ tw_25) rfl (by rw [hml]; exact hl.1) rfl d_Curve_init_1 (Nat.le_of_ble_eq_true rfl) (Nat.le_of_ble_eq_true rfl) ?_
  refine W.eq (g2 := F0 m 4 ls []) rfl ?_
  refine lv_aload_n hx hb d_Curve_init_4 rfl (lv_at hl 0 rfl) ?_
  refine lv_iload_n hx hb d_Curve_init_5 rfl (lv_at hl 2 rfl) ?_
  refine va_newq hx hb hown (hT _ tw_189) hN.2.2.1 hK hP hD hS hA (by decide) rfl (by decide) (Nat.le_of_ble_eq_true rfl) (Nat.le_of_ble_eq_true rfl) d_Curve_init_6 (fun q_1 cA_2 H hK hP hD hS => ?_)
  have hP : va_P (dC, dI) classes [(h0, .inr (2, [.null])), (q_1, .inl (cA_2, 9, .inr (.inr (.inr (.inr (fun _ => none))))))] H := hP
  have hD : va_D A [(h0, .inr (2, [.null])), (q_1, .inl (cA_2, 9, .inr (.inr (.inr (.inr (fun _ => none))))))] := hD
  have hK : va_K (dC, dI) classes [(cA_2, .object "RealHouse$Poly")] s := hK
  refine W.widen (k := 1) (n := 9) (Nat.le_of_ble_eq_true rfl) (Nat.le_of_ble_eq_true rfl) ?_
  refine va_putF (D := (dC, dI)) (ci := 2) (v := .ref q_1) (ty := .array (.object "RealHouse$Poly")) (C := R_Curve) (T := F_Curve) (N := 1) hx hb hT i_Curve t_Curve t_Curve_ok n_Curve hown hK hP hD hS 0 rfl rfl 0 (by decide) (hT _ tw_224) (fun _ h9 => h9) rfl hin rfl (by decide +kernel) rfl rfl (Nat.le_of_ble_eq_true rfl) d_Curve_init_9 (fun H locs hP hD hS => ?_)
  have hP : va_P (dC, dI) classes [(h0, .inr (2, [.ref q_1])), (q_1, .inl (cA_2, 9, .inr (.inr (.inr (.inr (fun _ => none))))))] H := hP
  have hD : va_D A [(h0, .inr (2, [.ref q_1])), (q_1, .inl (cA_2, 9, .inr (.inr (.inr (.inr (fun _ => none))))))] := hD
  refine lv_iconst (v := 0) hx hb d_Curve_init_12 (by decide) ?_
  refine lv_istore_n (lv' := [(3, .int 0), (0, .ref h0), (1, .ref dk), (2, .int 9)]) hx hb d_Curve_init_13 rfl hl (by decide) rfl (fun ls hl => ?_)
  refine lv_iload_n hx hb d_Curve_init_14 rfl (lv_at hl 0 rfl) ?_
  refine lv_iload_n hx hb d_Curve_init_15 rfl (lv_at hl 3 rfl) ?_
  refine lv_icmp_ge (tgt := 39) hx hb d_Curve_init_16 (by decide) (fun c_3 => absurd c_3 (by decide)) (fun c_3 => ?_)
  refine lv_aload_n hx hb d_Curve_init_19 rfl (lv_at hl 1 rfl) ?_
  refine va_get (D := (dC, dI)) (ci := 2) (v := .ref q_1) (C := R_Curve) (T := F_Curve) (N := 1) hx hb hT i_Curve hown hK hP 0 rfl rfl 0 (by decide) (hT _ tw_224) (fun _ h9 => h9) rfl d_Curve_init_20 ?_
  refine lv_iload_n hx hb d_Curve_init_23 rfl (lv_at hl 0 rfl) ?_
  refine va_new (ci := 6) (fs := [.null, .null, .int 0]) (C := R_Poly) (T := F_Poly) (N := 3) hx hb hT i_Poly t_Poly t_Poly_ok hown (hT _ tw_189) (hT _ tw_190) (hT _ tw_8) hK hP hD hS hA rfl (by decide) (Nat.le_of_ble_eq_true rfl) (Nat.le_of_ble_eq_true rfl) d_Curve_init_24 (fun q_4 H hP hD hS => ?_)
  have hP : va_P (dC, dI) classes [(h0, .inr (2, [.ref q_1])), (q_1, .inl (cA_2, 9, .inr (.inr (.inr (.inr (fun _ => none)))))), (q_4, .inr (6, [.null, .null, .int 0]))] H := hP
  have hD : va_D A [(h0, .inr (2, [.ref q_1])), (q_1, .inl (cA_2, 9, .inr (.inr (.inr (.inr (fun _ => none)))))), (q_4, .inr (6, [.null, .null, .int 0]))] := hD
  refine W.widen (k := 2) (n := 12) (Nat.le_of_ble_eq_true rfl) (Nat.le_of_ble_eq_true rfl) ?_
  refine lv_dup hx hb d_Curve_init_27 rfl ?_
  refine lv_aload_n hx hb d_Curve_init_28 rfl (lv_at hl 2 rfl) ?_
  have hPc := hP.sub (ws' := [(q_4, .inr (6, [.null, .null, .int 0]))]) [2] rfl
  have hDc := hD.sub (ws' := [(q_4, .inr (6, [.null, .null, .int 0]))]) [2] (by decide) rfl
  have hKc := hK.sub (tys' := []) [] rfl
  have hFc := va_free (wc := [(q_4, .inr (6, [.null, .null, .int 0]))]) hD hS hA [2] rfl
  refine va_callv (va_runI (As := [.ref dk]) (rest := [.ref q_4, .int 0, .ref q_1]) ⟨hx, hb, hml, hown, hT⟩ (c_Poly_init l dC dI H.size q_4 dk ) (cwI 1 hT g_Poly_init rfl rfl rfl (hT _ tw_8) (hT _ tw_191) (hT _ tw_192) rfl (by decide +kernel) ⟨Nat.le_of_ble_eq_true rfl, Nat.le_of_ble_eq_true rfl⟩) ⟨fun a U g mk q => by obtain ⟨q0, q1, qP, qK, qD, qN⟩ := q; exact ⟨q0, q1, qP, va_K.moved (u := U) (U := U.calling g mk a) (Vm.Alike.refl U.vm) qK, qD, nx_K.same (u := U) (U := U.calling g mk a) rfl qN⟩, fun U hU hW => ⟨rfl, by rw [hU], by rw [hU]; exact hPc, va_K.moved hW.alike hKc, hDc.weaken (fun _ _ _ _ => trivial), nx_K.warm hW hN⟩⟩ rfl rfl hl.1 rfl (lv_room (Nat.le_of_ble_eq_true rfl)) d_Curve_init_29 ⟨Nat.le_of_ble_eq_true rfl, Nat.le_of_ble_eq_true rfl⟩) hS (fun q _ h => hFc q h) hFc (fun u t H1 locs ht hvm hw hB hz1 hk1 hS => ?_)
  obtain ⟨q1_5, hP1, hK1, hD1⟩ := hB
  rw [ht] at hP1
  have hK1 := va_K.moved hvm.symm hK1
  obtain ⟨hP, hD⟩ := va_join (wr := [(h0, .inr (2, [.ref q_1])), (q_1, .inl (cA_2, 9, .inr (.inr (.inr (.inr (fun _ => none))))))]) (w1 := [(q_4, .inr (6, [.ref dk, .ref q1_5, .int 0]))]) hP hD [2] [0, 1] rfl rfl (by decide) (by decide) hk1 hFc hP1 hD1
  have hK := (hK.sub (tys' := [(cA_2, .object "RealHouse$Poly")]) [0] rfl).app hK1
  generalize H1 = H at hP hS ⊢
  have hP : va_P (dC, dI) classes [(h0, .inr (2, [.ref q_1])), (q_1, .inl (cA_2, 9, .inr (.inr (.inr (.inr (fun _ => none)))))), (q_4, .inr (6, [.ref dk, .ref q1_5, .int 0]))] H := hP
  have hD : va_D A [(h0, .inr (2, [.ref q_1])), (q_1, .inl (cA_2, 9, .inr (.inr (.inr (.inr (fun _ => none)))))), (q_4, .inr (6, [.ref dk, .ref q1_5, .int 0]))] := hD
  have hK : va_K (dC, dI) classes [(cA_2, .object "RealHouse$Poly")] s := hK
  refine W.widen (k := 3) (n := 12) (Nat.le_of_ble_eq_true rfl) (Nat.le_of_ble_eq_true rfl) ?_
  refine va_astq (r := (R_Poly, F_Poly, 3)) hx hb hK hP hD hS 1 0 2 6 rfl rfl rfl rfl (vp_in_nI (n := 0) (by decide) (by decide)) d_Curve_init_32 (fun H locs hP hD hS => ?_)
  have hP : va_P (dC, dI) classes [(h0, .inr (2, [.ref q_1])), (q_1, .inl (cA_2, 9, .inr (.inr (.inr (.inr (va_up (fun _ => none) (0 : Int32).toNatClampNeg (some q_4))))))), (q_4, .inr (6, [.ref dk, .ref q1_5, .int 0]))] H := hP
  have hD : va_D A [(h0, .inr (2, [.ref q_1])), (q_1, .inl (cA_2, 9, .inr (.inr (.inr (.inr (va_up (fun _ => none) (0 : Int32).toNatClampNeg (some q_4))))))), (q_4, .inr (6, [.ref dk, .ref q1_5, .int 0]))] := hD
  generalize va_up (fun _ => none) (0 : Int32).toNatClampNeg (some q_4) = f_6 at hP hD
  have hP := hP.sub (ws' := [(h0, .inr (2, [.ref q_1])), (q_1, .inl (cA_2, 9, .inr (.inr (.inr (.inr f_6)))))]) [0, 1] rfl
  have hD := hD.sub (ws' := [(h0, .inr (2, [.ref q_1])), (q_1, .inl (cA_2, 9, .inr (.inr (.inr (.inr f_6)))))]) [0, 1] (by decide) rfl
  refine lv_iinc (v := 1) (lv' := [(3, .int 1), (0, .ref h0), (1, .ref dk), (2, .int 9)]) hx hb d_Curve_init_33 hl (k := 0) rfl (by decide) (by decide) rfl (fun ls hl => ?_)
  refine lv_goto (tgt := 14) hx hb d_Curve_init_36 (by decide) ?_
  refine lv_iload_n hx hb d_Curve_init_14 rfl (lv_at hl 0 rfl) ?_
  refine lv_iload_n hx hb d_Curve_init_15 rfl (lv_at hl 3 rfl) ?_
  refine lv_icmp_ge (tgt := 39) hx hb d_Curve_init_16 (by decide) (fun c_7 => absurd c_7 (by decide)) (fun c_7 => ?_)
  refine lv_aload_n hx hb d_Curve_init_19 rfl (lv_at hl 1 rfl) ?_
  refine va_get (D := (dC, dI)) (ci := 2) (v := .ref q_1) (C := R_Curve) (T := F_Curve) (N := 1) hx hb hT i_Curve hown hK hP 0 rfl rfl 0 (by decide) (hT _ tw_224) (fun _ h9 => h9) rfl d_Curve_init_20 ?_
  refine lv_iload_n hx hb d_Curve_init_23 rfl (lv_at hl 0 rfl) ?_
  refine va_new (ci := 6) (fs := [.null, .null, .int 0]) (C := R_Poly) (T := F_Poly) (N := 3) hx hb hT i_Poly t_Poly t_Poly_ok hown (hT _ tw_189) (hT _ tw_190) (hT _ tw_8) hK hP hD hS hA rfl (by decide) (Nat.le_of_ble_eq_true rfl) (Nat.le_of_ble_eq_true rfl) d_Curve_init_24 (fun q_8 H hP hD hS => ?_)
  have hP : va_P (dC, dI) classes [(h0, .inr (2, [.ref q_1])), (q_1, .inl (cA_2, 9, .inr (.inr (.inr (.inr f_6))))), (q_8, .inr (6, [.null, .null, .int 0]))] H := hP
  have hD : va_D A [(h0, .inr (2, [.ref q_1])), (q_1, .inl (cA_2, 9, .inr (.inr (.inr (.inr f_6))))), (q_8, .inr (6, [.null, .null, .int 0]))] := hD
  refine W.widen (k := 4) (n := 15) (Nat.le_of_ble_eq_true rfl) (Nat.le_of_ble_eq_true rfl) ?_
  refine lv_dup hx hb d_Curve_init_27 rfl ?_
  refine lv_aload_n hx hb d_Curve_init_28 rfl (lv_at hl 2 rfl) ?_
  have hPc := hP.sub (ws' := [(q_8, .inr (6, [.null, .null, .int 0]))]) [2] rfl
  have hDc := hD.sub (ws' := [(q_8, .inr (6, [.null, .null, .int 0]))]) [2] (by decide) rfl
  have hKc := hK.sub (tys' := []) [] rfl
  have hFc := va_free (wc := [(q_8, .inr (6, [.null, .null, .int 0]))]) hD hS hA [2] rfl
  refine va_callv (va_runI (As := [.ref dk]) (rest := [.ref q_8, .int 1, .ref q_1]) ⟨hx, hb, hml, hown, hT⟩ (c_Poly_init l dC dI H.size q_8 dk ) (cwI 1 hT g_Poly_init rfl rfl rfl (hT _ tw_8) (hT _ tw_191) (hT _ tw_192) rfl (by decide +kernel) ⟨Nat.le_of_ble_eq_true rfl, Nat.le_of_ble_eq_true rfl⟩) ⟨fun a U g mk q => by obtain ⟨q0, q1, qP, qK, qD, qN⟩ := q; exact ⟨q0, q1, qP, va_K.moved (u := U) (U := U.calling g mk a) (Vm.Alike.refl U.vm) qK, qD, nx_K.same (u := U) (U := U.calling g mk a) rfl qN⟩, fun U hU hW => ⟨rfl, by rw [hU], by rw [hU]; exact hPc, va_K.moved hW.alike hKc, hDc.weaken (fun _ _ _ _ => trivial), nx_K.warm hW hN⟩⟩ rfl rfl hl.1 rfl (lv_room (Nat.le_of_ble_eq_true rfl)) d_Curve_init_29 ⟨Nat.le_of_ble_eq_true rfl, Nat.le_of_ble_eq_true rfl⟩) hS (fun q _ h => hFc q h) hFc (fun u t H1 locs ht hvm hw hB hz1 hk1 hS => ?_)
  obtain ⟨q1_9, hP1, hK1, hD1⟩ := hB
  rw [ht] at hP1
  have hK1 := va_K.moved hvm.symm hK1
  obtain ⟨hP, hD⟩ := va_join (wr := [(h0, .inr (2, [.ref q_1])), (q_1, .inl (cA_2, 9, .inr (.inr (.inr (.inr f_6)))))]) (w1 := [(q_8, .inr (6, [.ref dk, .ref q1_9, .int 0]))]) hP hD [2] [0, 1] rfl rfl (by decide) (by decide) hk1 hFc hP1 hD1
  have hK := (hK.sub (tys' := [(cA_2, .object "RealHouse$Poly")]) [0] rfl).app hK1
  generalize H1 = H at hP hS ⊢
  have hP : va_P (dC, dI) classes [(h0, .inr (2, [.ref q_1])), (q_1, .inl (cA_2, 9, .inr (.inr (.inr (.inr f_6))))), (q_8, .inr (6, [.ref dk, .ref q1_9, .int 0]))] H := hP
  have hD : va_D A [(h0, .inr (2, [.ref q_1])), (q_1, .inl (cA_2, 9, .inr (.inr (.inr (.inr f_6))))), (q_8, .inr (6, [.ref dk, .ref q1_9, .int 0]))] := hD
  have hK : va_K (dC, dI) classes [(cA_2, .object "RealHouse$Poly")] s := hK
  refine W.widen (k := 5) (n := 15) (Nat.le_of_ble_eq_true rfl) (Nat.le_of_ble_eq_true rfl) ?_
  refine va_astq (r := (R_Poly, F_Poly, 3)) hx hb hK hP hD hS 1 0 2 6 rfl rfl rfl rfl (vp_in_nI (n := 1) (by decide) (by decide)) d_Curve_init_32 (fun H locs hP hD hS => ?_)
  have hP : va_P (dC, dI) classes [(h0, .inr (2, [.ref q_1])), (q_1, .inl (cA_2, 9, .inr (.inr (.inr (.inr (va_up f_6 (1 : Int32).toNatClampNeg (some q_8))))))), (q_8, .inr (6, [.ref dk, .ref q1_9, .int 0]))] H := hP
  have hD : va_D A [(h0, .inr (2, [.ref q_1])), (q_1, .inl (cA_2, 9, .inr (.inr (.inr (.inr (va_up f_6 (1 : Int32).toNatClampNeg (some q_8))))))), (q_8, .inr (6, [.ref dk, .ref q1_9, .int 0]))] := hD
  generalize va_up f_6 (1 : Int32).toNatClampNeg (some q_8) = f_10 at hP hD
  have hP := hP.sub (ws' := [(h0, .inr (2, [.ref q_1])), (q_1, .inl (cA_2, 9, .inr (.inr (.inr (.inr f_10)))))]) [0, 1] rfl
  have hD := hD.sub (ws' := [(h0, .inr (2, [.ref q_1])), (q_1, .inl (cA_2, 9, .inr (.inr (.inr (.inr f_10)))))]) [0, 1] (by decide) rfl
  refine lv_iinc (v := 2) (lv' := [(3, .int 2), (0, .ref h0), (1, .ref dk), (2, .int 9)]) hx hb d_Curve_init_33 hl (k := 0) rfl (by decide) (by decide) rfl (fun ls hl => ?_)
  refine lv_goto (tgt := 14) hx hb d_Curve_init_36 (by decide) ?_
  refine lv_iload_n hx hb d_Curve_init_14 rfl (lv_at hl 0 rfl) ?_
  refine lv_iload_n hx hb d_Curve_init_15 rfl (lv_at hl 3 rfl) ?_
  refine lv_icmp_ge (tgt := 39) hx hb d_Curve_init_16 (by decide) (fun c_11 => absurd c_11 (by decide)) (fun c_11 => ?_)
  refine lv_aload_n hx hb d_Curve_init_19 rfl (lv_at hl 1 rfl) ?_
  refine va_get (D := (dC, dI)) (ci := 2) (v := .ref q_1) (C := R_Curve) (T := F_Curve) (N := 1) hx hb hT i_Curve hown hK hP 0 rfl rfl 0 (by decide) (hT _ tw_224) (fun _ h9 => h9) rfl d_Curve_init_20 ?_
  refine lv_iload_n hx hb d_Curve_init_23 rfl (lv_at hl 0 rfl) ?_
  refine va_new (ci := 6) (fs := [.null, .null, .int 0]) (C := R_Poly) (T := F_Poly) (N := 3) hx hb hT i_Poly t_Poly t_Poly_ok hown (hT _ tw_189) (hT _ tw_190) (hT _ tw_8) hK hP hD hS hA rfl (by decide) (Nat.le_of_ble_eq_true rfl) (Nat.le_of_ble_eq_true rfl) d_Curve_init_24 (fun q_12 H hP hD hS => ?_)
  have hP : va_P (dC, dI) classes [(h0, .inr (2, [.ref q_1])), (q_1, .inl (cA_2, 9, .inr (.inr (.inr (.inr f_10))))), (q_12, .inr (6, [.null, .null, .int 0]))] H := hP
  have hD : va_D A [(h0, .inr (2, [.ref q_1])), (q_1, .inl (cA_2, 9, .inr (.inr (.inr (.inr f_10))))), (q_12, .inr (6, [.null, .null, .int 0]))] := hD
  refine W.widen (k := 6) (n := 18) (Nat.le_of_ble_eq_true rfl) (Nat.le_of_ble_eq_true rfl) ?_
  refine lv_dup hx hb d_Curve_init_27 rfl ?_
  refine lv_aload_n hx hb d_Curve_init_28 rfl (lv_at hl 2 rfl) ?_
  have hPc := hP.sub (ws' := [(q_12, .inr (6, [.null, .null, .int 0]))]) [2] rfl
  have hDc := hD.sub (ws' := [(q_12, .inr (6, [.null, .null, .int 0]))]) [2] (by decide) rfl
  have hKc := hK.sub (tys' := []) [] rfl
  have hFc := va_free (wc := [(q_12, .inr (6, [.null, .null, .int 0]))]) hD hS hA [2] rfl
  refine va_callv (va_runI (As := [.ref dk]) (rest := [.ref q_12, .int 2, .ref q_1]) ⟨hx, hb, hml, hown, hT⟩ (c_Poly_init l dC dI H.size q_12 dk ) (cwI 1 hT g_Poly_init rfl rfl rfl (hT _ tw_8) (hT _ tw_191) (hT _ tw_192) rfl (by decide +kernel) ⟨Nat.le_of_ble_eq_true rfl, Nat.le_of_ble_eq_true rfl⟩) ⟨fun a U g mk q => by obtain ⟨q0, q1, qP, qK, qD, qN⟩ := q; exact ⟨q0, q1, qP, va_K.moved (u := U) (U := U.calling g mk a) (Vm.Alike.refl U.vm) qK, qD, nx_K.same (u := U) (U := U.calling g mk a) rfl qN⟩, fun U hU hW => ⟨rfl, by rw [hU], by rw [hU]; exact hPc, va_K.moved hW.alike hKc, hDc.weaken (fun _ _ _ _ => trivial), nx_K.warm hW hN⟩⟩ rfl rfl hl.1 rfl (lv_room (Nat.le_of_ble_eq_true rfl)) d_Curve_init_29 ⟨Nat.le_of_ble_eq_true rfl, Nat.le_of_ble_eq_true rfl⟩) hS (fun q _ h => hFc q h) hFc (fun u t H1 locs ht hvm hw hB hz1 hk1 hS => ?_)
  obtain ⟨q1_13, hP1, hK1, hD1⟩ := hB
  rw [ht] at hP1
  have hK1 := va_K.moved hvm.symm hK1
  obtain ⟨hP, hD⟩ := va_join (wr := [(h0, .inr (2, [.ref q_1])), (q_1, .inl (cA_2, 9, .inr (.inr (.inr (.inr f_10)))))]) (w1 := [(q_12, .inr (6, [.ref dk, .ref q1_13, .int 0]))]) hP hD [2] [0, 1] rfl rfl (by decide) (by decide) hk1 hFc hP1 hD1
  have hK := (hK.sub (tys' := [(cA_2, .object "RealHouse$Poly")]) [0] rfl).app hK1
  generalize H1 = H at hP hS ⊢
  have hP : va_P (dC, dI) classes [(h0, .inr (2, [.ref q_1])), (q_1, .inl (cA_2, 9, .inr (.inr (.inr (.inr f_10))))), (q_12, .inr (6, [.ref dk, .ref q1_13, .int 0]))] H := hP
  have hD : va_D A [(h0, .inr (2, [.ref q_1])), (q_1, .inl (cA_2, 9, .inr (.inr (.inr (.inr f_10))))), (q_12, .inr (6, [.ref dk, .ref q1_13, .int 0]))] := hD
  have hK : va_K (dC, dI) classes [(cA_2, .object "RealHouse$Poly")] s := hK
  refine W.widen (k := 7) (n := 18) (Nat.le_of_ble_eq_true rfl) (Nat.le_of_ble_eq_true rfl) ?_
  refine va_astq (r := (R_Poly, F_Poly, 3)) hx hb hK hP hD hS 1 0 2 6 rfl rfl rfl rfl (vp_in_nI (n := 2) (by decide) (by decide)) d_Curve_init_32 (fun H locs hP hD hS => ?_)
  have hP : va_P (dC, dI) classes [(h0, .inr (2, [.ref q_1])), (q_1, .inl (cA_2, 9, .inr (.inr (.inr (.inr (va_up f_10 (2 : Int32).toNatClampNeg (some q_12))))))), (q_12, .inr (6, [.ref dk, .ref q1_13, .int 0]))] H := hP
  have hD : va_D A [(h0, .inr (2, [.ref q_1])), (q_1, .inl (cA_2, 9, .inr (.inr (.inr (.inr (va_up f_10 (2 : Int32).toNatClampNeg (some q_12))))))), (q_12, .inr (6, [.ref dk, .ref q1_13, .int 0]))] := hD
  generalize va_up f_10 (2 : Int32).toNatClampNeg (some q_12) = f_14 at hP hD
  have hP := hP.sub (ws' := [(h0, .inr (2, [.ref q_1])), (q_1, .inl (cA_2, 9, .inr (.inr (.inr (.inr f_14)))))]) [0, 1] rfl
  have hD := hD.sub (ws' := [(h0, .inr (2, [.ref q_1])), (q_1, .inl (cA_2, 9, .inr (.inr (.inr (.inr f_14)))))]) [0, 1] (by decide) rfl
  refine lv_iinc (v := 3) (lv' := [(3, .int 3), (0, .ref h0), (1, .ref dk), (2, .int 9)]) hx hb d_Curve_init_33 hl (k := 0) rfl (by decide) (by decide) rfl (fun ls hl => ?_)
  refine lv_goto (tgt := 14) hx hb d_Curve_init_36 (by decide) ?_
  refine lv_iload_n hx hb d_Curve_init_14 rfl (lv_at hl 0 rfl) ?_
  refine lv_iload_n hx hb d_Curve_init_15 rfl (lv_at hl 3 rfl) ?_
  refine lv_icmp_ge (tgt := 39) hx hb d_Curve_init_16 (by decide) (fun c_15 => absurd c_15 (by decide)) (fun c_15 => ?_)
  refine lv_aload_n hx hb d_Curve_init_19 rfl (lv_at hl 1 rfl) ?_
  refine va_get (D := (dC, dI)) (ci := 2) (v := .ref q_1) (C := R_Curve) (T := F_Curve) (N := 1) hx hb hT i_Curve hown hK hP 0 rfl rfl 0 (by decide) (hT _ tw_224) (fun _ h9 => h9) rfl d_Curve_init_20 ?_
  refine lv_iload_n hx hb d_Curve_init_23 rfl (lv_at hl 0 rfl) ?_
  refine va_new (ci := 6) (fs := [.null, .null, .int 0]) (C := R_Poly) (T := F_Poly) (N := 3) hx hb hT i_Poly t_Poly t_Poly_ok hown (hT _ tw_189) (hT _ tw_190) (hT _ tw_8) hK hP hD hS hA rfl (by decide) (Nat.le_of_ble_eq_true rfl) (Nat.le_of_ble_eq_true rfl) d_Curve_init_24 (fun q_16 H hP hD hS => ?_)
  have hP : va_P (dC, dI) classes [(h0, .inr (2, [.ref q_1])), (q_1, .inl (cA_2, 9, .inr (.inr (.inr (.inr f_14))))), (q_16, .inr (6, [.null, .null, .int 0]))] H := hP
  have hD : va_D A [(h0, .inr (2, [.ref q_1])), (q_1, .inl (cA_2, 9, .inr (.inr (.inr (.inr f_14))))), (q_16, .inr (6, [.null, .null, .int 0]))] := hD
  refine W.widen (k := 8) (n := 21) (Nat.le_of_ble_eq_true rfl) (Nat.le_of_ble_eq_true rfl) ?_
  refine lv_dup hx hb d_Curve_init_27 rfl ?_
  refine lv_aload_n hx hb d_Curve_init_28 rfl (lv_at hl 2 rfl) ?_
  have hPc := hP.sub (ws' := [(q_16, .inr (6, [.null, .null, .int 0]))]) [2] rfl
  have hDc := hD.sub (ws' := [(q_16, .inr (6, [.null, .null, .int 0]))]) [2] (by decide) rfl
  have hKc := hK.sub (tys' := []) [] rfl
  have hFc := va_free (wc := [(q_16, .inr (6, [.null, .null, .int 0]))]) hD hS hA [2] rfl
  refine va_callv (va_runI (As := [.ref dk]) (rest := [.ref q_16, .int 3, .ref q_1]) ⟨hx, hb, hml, hown, hT⟩ (c_Poly_init l dC dI H.size q_16 dk ) (cwI 1 hT g_Poly_init rfl rfl rfl (hT _ tw_8) (hT _ tw_191) (hT _ tw_192) rfl (by decide +kernel) ⟨Nat.le_of_ble_eq_true rfl, Nat.le_of_ble_eq_true rfl⟩) ⟨fun a U g mk q => by obtain ⟨q0, q1, qP, qK, qD, qN⟩ := q; exact ⟨q0, q1, qP, va_K.moved (u := U) (U := U.calling g mk a) (Vm.Alike.refl U.vm) qK, qD, nx_K.same (u := U) (U := U.calling g mk a) rfl qN⟩, fun U hU hW => ⟨rfl, by rw [hU], by rw [hU]; exact hPc, va_K.moved hW.alike hKc, hDc.weaken (fun _ _ _ _ => trivial), nx_K.warm hW hN⟩⟩ rfl rfl hl.1 rfl (lv_room (Nat.le_of_ble_eq_true rfl)) d_Curve_init_29 ⟨Nat.le_of_ble_eq_true rfl, Nat.le_of_ble_eq_true rfl⟩) hS (fun q _ h => hFc q h) hFc (fun u t H1 locs ht hvm hw hB hz1 hk1 hS => ?_)
  obtain ⟨q1_17, hP1, hK1, hD1⟩ := hB
  rw [ht] at hP1
  have hK1 := va_K.moved hvm.symm hK1
  obtain ⟨hP, hD⟩ := va_join (wr := [(h0, .inr (2, [.ref q_1])), (q_1, .inl (cA_2, 9, .inr (.inr (.inr (.inr f_14)))))]) (w1 := [(q_16, .inr (6, [.ref dk, .ref q1_17, .int 0]))]) hP hD [2] [0, 1] rfl rfl (by decide) (by decide) hk1 hFc hP1 hD1
  have hK := (hK.sub (tys' := [(cA_2, .object "RealHouse$Poly")]) [0] rfl).app hK1
  generalize H1 = H at hP hS ⊢
  have hP : va_P (dC, dI) classes [(h0, .inr (2, [.ref q_1])), (q_1, .inl (cA_2, 9, .inr (.inr (.inr (.inr f_14))))), (q_16, .inr (6, [.ref dk, .ref q1_17, .int 0]))] H := hP
  have hD : va_D A [(h0, .inr (2, [.ref q_1])), (q_1, .inl (cA_2, 9, .inr (.inr (.inr (.inr f_14))))), (q_16, .inr (6, [.ref dk, .ref q1_17, .int 0]))] := hD
  have hK : va_K (dC, dI) classes [(cA_2, .object "RealHouse$Poly")] s := hK
  refine W.widen (k := 9) (n := 21) (Nat.le_of_ble_eq_true rfl) (Nat.le_of_ble_eq_true rfl) ?_
  refine va_astq (r := (R_Poly, F_Poly, 3)) hx hb hK hP hD hS 1 0 2 6 rfl rfl rfl rfl (vp_in_nI (n := 3) (by decide) (by decide)) d_Curve_init_32 (fun H locs hP hD hS => ?_)
  have hP : va_P (dC, dI) classes [(h0, .inr (2, [.ref q_1])), (q_1, .inl (cA_2, 9, .inr (.inr (.inr (.inr (va_up f_14 (3 : Int32).toNatClampNeg (some q_16))))))), (q_16, .inr (6, [.ref dk, .ref q1_17, .int 0]))] H := hP
  have hD : va_D A [(h0, .inr (2, [.ref q_1])), (q_1, .inl (cA_2, 9, .inr (.inr (.inr (.inr (va_up f_14 (3 : Int32).toNatClampNeg (some q_16))))))), (q_16, .inr (6, [.ref dk, .ref q1_17, .int 0]))] := hD
  generalize va_up f_14 (3 : Int32).toNatClampNeg (some q_16) = f_18 at hP hD
  have hP := hP.sub (ws' := [(h0, .inr (2, [.ref q_1])), (q_1, .inl (cA_2, 9, .inr (.inr (.inr (.inr f_18)))))]) [0, 1] rfl
  have hD := hD.sub (ws' := [(h0, .inr (2, [.ref q_1])), (q_1, .inl (cA_2, 9, .inr (.inr (.inr (.inr f_18)))))]) [0, 1] (by decide) rfl
  refine lv_iinc (v := 4) (lv' := [(3, .int 4), (0, .ref h0), (1, .ref dk), (2, .int 9)]) hx hb d_Curve_init_33 hl (k := 0) rfl (by decide) (by decide) rfl (fun ls hl => ?_)
  refine lv_goto (tgt := 14) hx hb d_Curve_init_36 (by decide) ?_
  refine lv_iload_n hx hb d_Curve_init_14 rfl (lv_at hl 0 rfl) ?_
  refine lv_iload_n hx hb d_Curve_init_15 rfl (lv_at hl 3 rfl) ?_
  refine lv_icmp_ge (tgt := 39) hx hb d_Curve_init_16 (by decide) (fun c_19 => absurd c_19 (by decide)) (fun c_19 => ?_)
  refine lv_aload_n hx hb d_Curve_init_19 rfl (lv_at hl 1 rfl) ?_
  refine va_get (D := (dC, dI)) (ci := 2) (v := .ref q_1) (C := R_Curve) (T := F_Curve) (N := 1) hx hb hT i_Curve hown hK hP 0 rfl rfl 0 (by decide) (hT _ tw_224) (fun _ h9 => h9) rfl d_Curve_init_20 ?_
  refine lv_iload_n hx hb d_Curve_init_23 rfl (lv_at hl 0 rfl) ?_
  refine va_new (ci := 6) (fs := [.null, .null, .int 0]) (C := R_Poly) (T := F_Poly) (N := 3) hx hb hT i_Poly t_Poly t_Poly_ok hown (hT _ tw_189) (hT _ tw_190) (hT _ tw_8) hK hP hD hS hA rfl (by decide) (Nat.le_of_ble_eq_true rfl) (Nat.le_of_ble_eq_true rfl) d_Curve_init_24 (fun q_20 H hP hD hS => ?_)
  have hP : va_P (dC, dI) classes [(h0, .inr (2, [.ref q_1])), (q_1, .inl (cA_2, 9, .inr (.inr (.inr (.inr f_18))))), (q_20, .inr (6, [.null, .null, .int 0]))] H := hP
  have hD : va_D A [(h0, .inr (2, [.ref q_1])), (q_1, .inl (cA_2, 9, .inr (.inr (.inr (.inr f_18))))), (q_20, .inr (6, [.null, .null, .int 0]))] := hD
  refine W.widen (k := 10) (n := 24) (Nat.le_of_ble_eq_true rfl) (Nat.le_of_ble_eq_true rfl) ?_
  refine lv_dup hx hb d_Curve_init_27 rfl ?_
  refine lv_aload_n hx hb d_Curve_init_28 rfl (lv_at hl 2 rfl) ?_
  have hPc := hP.sub (ws' := [(q_20, .inr (6, [.null, .null, .int 0]))]) [2] rfl
  have hDc := hD.sub (ws' := [(q_20, .inr (6, [.null, .null, .int 0]))]) [2] (by decide) rfl
  have hKc := hK.sub (tys' := []) [] rfl
  have hFc := va_free (wc := [(q_20, .inr (6, [.null, .null, .int 0]))]) hD hS hA [2] rfl
  refine va_callv (va_runI (As := [.ref dk]) (rest := [.ref q_20, .int 4, .ref q_1]) ⟨hx, hb, hml, hown, hT⟩ (c_Poly_init l dC dI H.size q_20 dk ) (cwI 1 hT g_Poly_init rfl rfl rfl (hT _ tw_8) (hT _ tw_191) (hT _ tw_192) rfl (by decide +kernel) ⟨Nat.le_of_ble_eq_true rfl, Nat.le_of_ble_eq_true rfl⟩) ⟨fun a U g mk q => by obtain ⟨q0, q1, qP, qK, qD, qN⟩ := q; exact ⟨q0, q1, qP, va_K.moved (u := U) (U := U.calling g mk a) (Vm.Alike.refl U.vm) qK, qD, nx_K.same (u := U) (U := U.calling g mk a) rfl qN⟩, fun U hU hW => ⟨rfl, by rw [hU], by rw [hU]; exact hPc, va_K.moved hW.alike hKc, hDc.weaken (fun _ _ _ _ => trivial), nx_K.warm hW hN⟩⟩ rfl rfl hl.1 rfl (lv_room (Nat.le_of_ble_eq_true rfl)) d_Curve_init_29 ⟨Nat.le_of_ble_eq_true rfl, Nat.le_of_ble_eq_true rfl⟩) hS (fun q _ h => hFc q h) hFc (fun u t H1 locs ht hvm hw hB hz1 hk1 hS => ?_)
  obtain ⟨q1_21, hP1, hK1, hD1⟩ := hB
  rw [ht] at hP1
  have hK1 := va_K.moved hvm.symm hK1
  obtain ⟨hP, hD⟩ := va_join (wr := [(h0, .inr (2, [.ref q_1])), (q_1, .inl (cA_2, 9, .inr (.inr (.inr (.inr f_18)))))]) (w1 := [(q_20, .inr (6, [.ref dk, .ref q1_21, .int 0]))]) hP hD [2] [0, 1] rfl rfl (by decide) (by decide) hk1 hFc hP1 hD1
  have hK := (hK.sub (tys' := [(cA_2, .object "RealHouse$Poly")]) [0] rfl).app hK1
  generalize H1 = H at hP hS ⊢
  have hP : va_P (dC, dI) classes [(h0, .inr (2, [.ref q_1])), (q_1, .inl (cA_2, 9, .inr (.inr (.inr (.inr f_18))))), (q_20, .inr (6, [.ref dk, .ref q1_21, .int 0]))] H := hP
  have hD : va_D A [(h0, .inr (2, [.ref q_1])), (q_1, .inl (cA_2, 9, .inr (.inr (.inr (.inr f_18))))), (q_20, .inr (6, [.ref dk, .ref q1_21, .int 0]))] := hD
  have hK : va_K (dC, dI) classes [(cA_2, .object "RealHouse$Poly")] s := hK
  refine W.widen (k := 11) (n := 24) (Nat.le_of_ble_eq_true rfl) (Nat.le_of_ble_eq_true rfl) ?_
  refine va_astq (r := (R_Poly, F_Poly, 3)) hx hb hK hP hD hS 1 0 2 6 rfl rfl rfl rfl (vp_in_nI (n := 4) (by decide) (by decide)) d_Curve_init_32 (fun H locs hP hD hS => ?_)
  have hP : va_P (dC, dI) classes [(h0, .inr (2, [.ref q_1])), (q_1, .inl (cA_2, 9, .inr (.inr (.inr (.inr (va_up f_18 (4 : Int32).toNatClampNeg (some q_20))))))), (q_20, .inr (6, [.ref dk, .ref q1_21, .int 0]))] H := hP
  have hD : va_D A [(h0, .inr (2, [.ref q_1])), (q_1, .inl (cA_2, 9, .inr (.inr (.inr (.inr (va_up f_18 (4 : Int32).toNatClampNeg (some q_20))))))), (q_20, .inr (6, [.ref dk, .ref q1_21, .int 0]))] := hD
  generalize va_up f_18 (4 : Int32).toNatClampNeg (some q_20) = f_22 at hP hD
  have hP := hP.sub (ws' := [(h0, .inr (2, [.ref q_1])), (q_1, .inl (cA_2, 9, .inr (.inr (.inr (.inr f_22)))))]) [0, 1] rfl
  have hD := hD.sub (ws' := [(h0, .inr (2, [.ref q_1])), (q_1, .inl (cA_2, 9, .inr (.inr (.inr (.inr f_22)))))]) [0, 1] (by decide) rfl
  refine lv_iinc (v := 5) (lv' := [(3, .int 5), (0, .ref h0), (1, .ref dk), (2, .int 9)]) hx hb d_Curve_init_33 hl (k := 0) rfl (by decide) (by decide) rfl (fun ls hl => ?_)
  refine lv_goto (tgt := 14) hx hb d_Curve_init_36 (by decide) ?_
  refine lv_iload_n hx hb d_Curve_init_14 rfl (lv_at hl 0 rfl) ?_
  refine lv_iload_n hx hb d_Curve_init_15 rfl (lv_at hl 3 rfl) ?_
  refine lv_icmp_ge (tgt := 39) hx hb d_Curve_init_16 (by decide) (fun c_23 => absurd c_23 (by decide)) (fun c_23 => ?_)
  refine lv_aload_n hx hb d_Curve_init_19 rfl (lv_at hl 1 rfl) ?_
  refine va_get (D := (dC, dI)) (ci := 2) (v := .ref q_1) (C := R_Curve) (T := F_Curve) (N := 1) hx hb hT i_Curve hown hK hP 0 rfl rfl 0 (by decide) (hT _ tw_224) (fun _ h9 => h9) rfl d_Curve_init_20 ?_
  refine lv_iload_n hx hb d_Curve_init_23 rfl (lv_at hl 0 rfl) ?_
  refine va_new (ci := 6) (fs := [.null, .null, .int 0]) (C := R_Poly) (T := F_Poly) (N := 3) hx hb hT i_Poly t_Poly t_Poly_ok hown (hT _ tw_189) (hT _ tw_190) (hT _ tw_8) hK hP hD hS hA rfl (by decide) (Nat.le_of_ble_eq_true rfl) (Nat.le_of_ble_eq_true rfl) d_Curve_init_24 (fun q_24 H hP hD hS => ?_)
  have hP : va_P (dC, dI) classes [(h0, .inr (2, [.ref q_1])), (q_1, .inl (cA_2, 9, .inr (.inr (.inr (.inr f_22))))), (q_24, .inr (6, [.null, .null, .int 0]))] H := hP
  have hD : va_D A [(h0, .inr (2, [.ref q_1])), (q_1, .inl (cA_2, 9, .inr (.inr (.inr (.inr f_22))))), (q_24, .inr (6, [.null, .null, .int 0]))] := hD
  refine W.widen (k := 12) (n := 27) (Nat.le_of_ble_eq_true rfl) (Nat.le_of_ble_eq_true rfl) ?_
  refine lv_dup hx hb d_Curve_init_27 rfl ?_
  refine lv_aload_n hx hb d_Curve_init_28 rfl (lv_at hl 2 rfl) ?_
  have hPc := hP.sub (ws' := [(q_24, .inr (6, [.null, .null, .int 0]))]) [2] rfl
  have hDc := hD.sub (ws' := [(q_24, .inr (6, [.null, .null, .int 0]))]) [2] (by decide) rfl
  have hKc := hK.sub (tys' := []) [] rfl
  have hFc := va_free (wc := [(q_24, .inr (6, [.null, .null, .int 0]))]) hD hS hA [2] rfl
  refine va_callv (va_runI (As := [.ref dk]) (rest := [.ref q_24, .int 5, .ref q_1]) ⟨hx, hb, hml, hown, hT⟩ (c_Poly_init l dC dI H.size q_24 dk ) (cwI 1 hT g_Poly_init rfl rfl rfl (hT _ tw_8) (hT _ tw_191) (hT _ tw_192) rfl (by decide +kernel) ⟨Nat.le_of_ble_eq_true rfl, Nat.le_of_ble_eq_true rfl⟩) ⟨fun a U g mk q => by obtain ⟨q0, q1, qP, qK, qD, qN⟩ := q; exact ⟨q0, q1, qP, va_K.moved (u := U) (U := U.calling g mk a) (Vm.Alike.refl U.vm) qK, qD, nx_K.same (u := U) (U := U.calling g mk a) rfl qN⟩, fun U hU hW => ⟨rfl, by rw [hU], by rw [hU]; exact hPc, va_K.moved hW.alike hKc, hDc.weaken (fun _ _ _ _ => trivial), nx_K.warm hW hN⟩⟩ rfl rfl hl.1 rfl (lv_room (Nat.le_of_ble_eq_true rfl)) d_Curve_init_29 ⟨Nat.le_of_ble_eq_true rfl, Nat.le_of_ble_eq_true rfl⟩) hS (fun q _ h => hFc q h) hFc (fun u t H1 locs ht hvm hw hB hz1 hk1 hS => ?_)
  obtain ⟨q1_25, hP1, hK1, hD1⟩ := hB
  rw [ht] at hP1
  have hK1 := va_K.moved hvm.symm hK1
  obtain ⟨hP, hD⟩ := va_join (wr := [(h0, .inr (2, [.ref q_1])), (q_1, .inl (cA_2, 9, .inr (.inr (.inr (.inr f_22)))))]) (w1 := [(q_24, .inr (6, [.ref dk, .ref q1_25, .int 0]))]) hP hD [2] [0, 1] rfl rfl (by decide) (by decide) hk1 hFc hP1 hD1
  have hK := (hK.sub (tys' := [(cA_2, .object "RealHouse$Poly")]) [0] rfl).app hK1
  generalize H1 = H at hP hS ⊢
  have hP : va_P (dC, dI) classes [(h0, .inr (2, [.ref q_1])), (q_1, .inl (cA_2, 9, .inr (.inr (.inr (.inr f_22))))), (q_24, .inr (6, [.ref dk, .ref q1_25, .int 0]))] H := hP
  have hD : va_D A [(h0, .inr (2, [.ref q_1])), (q_1, .inl (cA_2, 9, .inr (.inr (.inr (.inr f_22))))), (q_24, .inr (6, [.ref dk, .ref q1_25, .int 0]))] := hD
  have hK : va_K (dC, dI) classes [(cA_2, .object "RealHouse$Poly")] s := hK
  refine W.widen (k := 13) (n := 27) (Nat.le_of_ble_eq_true rfl) (Nat.le_of_ble_eq_true rfl) ?_
  refine va_astq (r := (R_Poly, F_Poly, 3)) hx hb hK hP hD hS 1 0 2 6 rfl rfl rfl rfl (vp_in_nI (n := 5) (by decide) (by decide)) d_Curve_init_32 (fun H locs hP hD hS => ?_)
  have hP : va_P (dC, dI) classes [(h0, .inr (2, [.ref q_1])), (q_1, .inl (cA_2, 9, .inr (.inr (.inr (.inr (va_up f_22 (5 : Int32).toNatClampNeg (some q_24))))))), (q_24, .inr (6, [.ref dk, .ref q1_25, .int 0]))] H := hP
  have hD : va_D A [(h0, .inr (2, [.ref q_1])), (q_1, .inl (cA_2, 9, .inr (.inr (.inr (.inr (va_up f_22 (5 : Int32).toNatClampNeg (some q_24))))))), (q_24, .inr (6, [.ref dk, .ref q1_25, .int 0]))] := hD
  generalize va_up f_22 (5 : Int32).toNatClampNeg (some q_24) = f_26 at hP hD
  have hP := hP.sub (ws' := [(h0, .inr (2, [.ref q_1])), (q_1, .inl (cA_2, 9, .inr (.inr (.inr (.inr f_26)))))]) [0, 1] rfl
  have hD := hD.sub (ws' := [(h0, .inr (2, [.ref q_1])), (q_1, .inl (cA_2, 9, .inr (.inr (.inr (.inr f_26)))))]) [0, 1] (by decide) rfl
  refine lv_iinc (v := 6) (lv' := [(3, .int 6), (0, .ref h0), (1, .ref dk), (2, .int 9)]) hx hb d_Curve_init_33 hl (k := 0) rfl (by decide) (by decide) rfl (fun ls hl => ?_)
  refine lv_goto (tgt := 14) hx hb d_Curve_init_36 (by decide) ?_
  refine lv_iload_n hx hb d_Curve_init_14 rfl (lv_at hl 0 rfl) ?_
  refine lv_iload_n hx hb d_Curve_init_15 rfl (lv_at hl 3 rfl) ?_
  refine lv_icmp_ge (tgt := 39) hx hb d_Curve_init_16 (by decide) (fun c_27 => absurd c_27 (by decide)) (fun c_27 => ?_)
  refine lv_aload_n hx hb d_Curve_init_19 rfl (lv_at hl 1 rfl) ?_
  refine va_get (D := (dC, dI)) (ci := 2) (v := .ref q_1) (C := R_Curve) (T := F_Curve) (N := 1) hx hb hT i_Curve hown hK hP 0 rfl rfl 0 (by decide) (hT _ tw_224) (fun _ h9 => h9) rfl d_Curve_init_20 ?_
  refine lv_iload_n hx hb d_Curve_init_23 rfl (lv_at hl 0 rfl) ?_
  refine va_new (ci := 6) (fs := [.null, .null, .int 0]) (C := R_Poly) (T := F_Poly) (N := 3) hx hb hT i_Poly t_Poly t_Poly_ok hown (hT _ tw_189) (hT _ tw_190) (hT _ tw_8) hK hP hD hS hA rfl (by decide) (Nat.le_of_ble_eq_true rfl) (Nat.le_of_ble_eq_true rfl) d_Curve_init_24 (fun q_28 H hP hD hS => ?_)
  have hP : va_P (dC, dI) classes [(h0, .inr (2, [.ref q_1])), (q_1, .inl (cA_2, 9, .inr (.inr (.inr (.inr f_26))))), (q_28, .inr (6, [.null, .null, .int 0]))] H := hP
  have hD : va_D A [(h0, .inr (2, [.ref q_1])), (q_1, .inl (cA_2, 9, .inr (.inr (.inr (.inr f_26))))), (q_28, .inr (6, [.null, .null, .int 0]))] := hD
  refine W.widen (k := 14) (n := 30) (Nat.le_of_ble_eq_true rfl) (Nat.le_of_ble_eq_true rfl) ?_
  refine lv_dup hx hb d_Curve_init_27 rfl ?_
  refine lv_aload_n hx hb d_Curve_init_28 rfl (lv_at hl 2 rfl) ?_
  have hPc := hP.sub (ws' := [(q_28, .inr (6, [.null, .null, .int 0]))]) [2] rfl
  have hDc := hD.sub (ws' := [(q_28, .inr (6, [.null, .null, .int 0]))]) [2] (by decide) rfl
  have hKc := hK.sub (tys' := []) [] rfl
  have hFc := va_free (wc := [(q_28, .inr (6, [.null, .null, .int 0]))]) hD hS hA [2] rfl
  refine va_callv (va_runI (As := [.ref dk]) (rest := [.ref q_28, .int 6, .ref q_1]) ⟨hx, hb, hml, hown, hT⟩ (c_Poly_init l dC dI H.size q_28 dk ) (cwI 1 hT g_Poly_init rfl rfl rfl (hT _ tw_8) (hT _ tw_191) (hT _ tw_192) rfl (by decide +kernel) ⟨Nat.le_of_ble_eq_true rfl, Nat.le_of_ble_eq_true rfl⟩) ⟨fun a U g mk q => by obtain ⟨q0, q1, qP, qK, qD, qN⟩ := q; exact ⟨q0, q1, qP, va_K.moved (u := U) (U := U.calling g mk a) (Vm.Alike.refl U.vm) qK, qD, nx_K.same (u := U) (U := U.calling g mk a) rfl qN⟩, fun U hU hW => ⟨rfl, by rw [hU], by rw [hU]; exact hPc, va_K.moved hW.alike hKc, hDc.weaken (fun _ _ _ _ => trivial), nx_K.warm hW hN⟩⟩ rfl rfl hl.1 rfl (lv_room (Nat.le_of_ble_eq_true rfl)) d_Curve_init_29 ⟨Nat.le_of_ble_eq_true rfl, Nat.le_of_ble_eq_true rfl⟩) hS (fun q _ h => hFc q h) hFc (fun u t H1 locs ht hvm hw hB hz1 hk1 hS => ?_)
  obtain ⟨q1_29, hP1, hK1, hD1⟩ := hB
  rw [ht] at hP1
  have hK1 := va_K.moved hvm.symm hK1
  obtain ⟨hP, hD⟩ := va_join (wr := [(h0, .inr (2, [.ref q_1])), (q_1, .inl (cA_2, 9, .inr (.inr (.inr (.inr f_26)))))]) (w1 := [(q_28, .inr (6, [.ref dk, .ref q1_29, .int 0]))]) hP hD [2] [0, 1] rfl rfl (by decide) (by decide) hk1 hFc hP1 hD1
  have hK := (hK.sub (tys' := [(cA_2, .object "RealHouse$Poly")]) [0] rfl).app hK1
  generalize H1 = H at hP hS ⊢
  have hP : va_P (dC, dI) classes [(h0, .inr (2, [.ref q_1])), (q_1, .inl (cA_2, 9, .inr (.inr (.inr (.inr f_26))))), (q_28, .inr (6, [.ref dk, .ref q1_29, .int 0]))] H := hP
  have hD : va_D A [(h0, .inr (2, [.ref q_1])), (q_1, .inl (cA_2, 9, .inr (.inr (.inr (.inr f_26))))), (q_28, .inr (6, [.ref dk, .ref q1_29, .int 0]))] := hD
  have hK : va_K (dC, dI) classes [(cA_2, .object "RealHouse$Poly")] s := hK
  refine W.widen (k := 15) (n := 30) (Nat.le_of_ble_eq_true rfl) (Nat.le_of_ble_eq_true rfl) ?_
  refine va_astq (r := (R_Poly, F_Poly, 3)) hx hb hK hP hD hS 1 0 2 6 rfl rfl rfl rfl (vp_in_nI (n := 6) (by decide) (by decide)) d_Curve_init_32 (fun H locs hP hD hS => ?_)
  have hP : va_P (dC, dI) classes [(h0, .inr (2, [.ref q_1])), (q_1, .inl (cA_2, 9, .inr (.inr (.inr (.inr (va_up f_26 (6 : Int32).toNatClampNeg (some q_28))))))), (q_28, .inr (6, [.ref dk, .ref q1_29, .int 0]))] H := hP
  have hD : va_D A [(h0, .inr (2, [.ref q_1])), (q_1, .inl (cA_2, 9, .inr (.inr (.inr (.inr (va_up f_26 (6 : Int32).toNatClampNeg (some q_28))))))), (q_28, .inr (6, [.ref dk, .ref q1_29, .int 0]))] := hD
  generalize va_up f_26 (6 : Int32).toNatClampNeg (some q_28) = f_30 at hP hD
  have hP := hP.sub (ws' := [(h0, .inr (2, [.ref q_1])), (q_1, .inl (cA_2, 9, .inr (.inr (.inr (.inr f_30)))))]) [0, 1] rfl
  have hD := hD.sub (ws' := [(h0, .inr (2, [.ref q_1])), (q_1, .inl (cA_2, 9, .inr (.inr (.inr (.inr f_30)))))]) [0, 1] (by decide) rfl
  refine lv_iinc (v := 7) (lv' := [(3, .int 7), (0, .ref h0), (1, .ref dk), (2, .int 9)]) hx hb d_Curve_init_33 hl (k := 0) rfl (by decide) (by decide) rfl (fun ls hl => ?_)
  refine lv_goto (tgt := 14) hx hb d_Curve_init_36 (by decide) ?_
  refine lv_iload_n hx hb d_Curve_init_14 rfl (lv_at hl 0 rfl) ?_
  refine lv_iload_n hx hb d_Curve_init_15 rfl (lv_at hl 3 rfl) ?_
  refine lv_icmp_ge (tgt := 39) hx hb d_Curve_init_16 (by decide) (fun c_31 => absurd c_31 (by decide)) (fun c_31 => ?_)
  refine lv_aload_n hx hb d_Curve_init_19 rfl (lv_at hl 1 rfl) ?_
  refine va_get (D := (dC, dI)) (ci := 2) (v := .ref q_1) (C := R_Curve) (T := F_Curve) (N := 1) hx hb hT i_Curve hown hK hP 0 rfl rfl 0 (by decide) (hT _ tw_224) (fun _ h9 => h9) rfl d_Curve_init_20 ?_
  refine lv_iload_n hx hb d_Curve_init_23 rfl (lv_at hl 0 rfl) ?_
  refine va_new (ci := 6) (fs := [.null, .null, .int 0]) (C := R_Poly) (T := F_Poly) (N := 3) hx hb hT i_Poly t_Poly t_Poly_ok hown (hT _ tw_189) (hT _ tw_190) (hT _ tw_8) hK hP hD hS hA rfl (by decide) (Nat.le_of_ble_eq_true rfl) (Nat.le_of_ble_eq_true rfl) d_Curve_init_24 (fun q_32 H hP hD hS => ?_)
  have hP : va_P (dC, dI) classes [(h0, .inr (2, [.ref q_1])), (q_1, .inl (cA_2, 9, .inr (.inr (.inr (.inr f_30))))), (q_32, .inr (6, [.null, .null, .int 0]))] H := hP
  have hD : va_D A [(h0, .inr (2, [.ref q_1])), (q_1, .inl (cA_2, 9, .inr (.inr (.inr (.inr f_30))))), (q_32, .inr (6, [.null, .null, .int 0]))] := hD
  refine W.widen (k := 16) (n := 33) (Nat.le_of_ble_eq_true rfl) (Nat.le_of_ble_eq_true rfl) ?_
  refine lv_dup hx hb d_Curve_init_27 rfl ?_
  refine lv_aload_n hx hb d_Curve_init_28 rfl (lv_at hl 2 rfl) ?_
  have hPc := hP.sub (ws' := [(q_32, .inr (6, [.null, .null, .int 0]))]) [2] rfl
  have hDc := hD.sub (ws' := [(q_32, .inr (6, [.null, .null, .int 0]))]) [2] (by decide) rfl
  have hKc := hK.sub (tys' := []) [] rfl
  have hFc := va_free (wc := [(q_32, .inr (6, [.null, .null, .int 0]))]) hD hS hA [2] rfl
  refine va_callv (va_runI (As := [.ref dk]) (rest := [.ref q_32, .int 7, .ref q_1]) ⟨hx, hb, hml, hown, hT⟩ (c_Poly_init l dC dI H.size q_32 dk ) (cwI 1 hT g_Poly_init rfl rfl rfl (hT _ tw_8) (hT _ tw_191) (hT _ tw_192) rfl (by decide +kernel) ⟨Nat.le_of_ble_eq_true rfl, Nat.le_of_ble_eq_true rfl⟩) ⟨fun a U g mk q => by obtain ⟨q0, q1, qP, qK, qD, qN⟩ := q; exact ⟨q0, q1, qP, va_K.moved (u := U) (U := U.calling g mk a) (Vm.Alike.refl U.vm) qK, qD, nx_K.same (u := U) (U := U.calling g mk a) rfl qN⟩, fun U hU hW => ⟨rfl, by rw [hU], by rw [hU]; exact hPc, va_K.moved hW.alike hKc, hDc.weaken (fun _ _ _ _ => trivial), nx_K.warm hW hN⟩⟩ rfl rfl hl.1 rfl (lv_room (Nat.le_of_ble_eq_true rfl)) d_Curve_init_29 ⟨Nat.le_of_ble_eq_true rfl, Nat.le_of_ble_eq_true rfl⟩) hS (fun q _ h => hFc q h) hFc (fun u t H1 locs ht hvm hw hB hz1 hk1 hS => ?_)
  obtain ⟨q1_33, hP1, hK1, hD1⟩ := hB
  rw [ht] at hP1
  have hK1 := va_K.moved hvm.symm hK1
  obtain ⟨hP, hD⟩ := va_join (wr := [(h0, .inr (2, [.ref q_1])), (q_1, .inl (cA_2, 9, .inr (.inr (.inr (.inr f_30)))))]) (w1 := [(q_32, .inr (6, [.ref dk, .ref q1_33, .int 0]))]) hP hD [2] [0, 1] rfl rfl (by decide) (by decide) hk1 hFc hP1 hD1
  have hK := (hK.sub (tys' := [(cA_2, .object "RealHouse$Poly")]) [0] rfl).app hK1
  generalize H1 = H at hP hS ⊢
  have hP : va_P (dC, dI) classes [(h0, .inr (2, [.ref q_1])), (q_1, .inl (cA_2, 9, .inr (.inr (.inr (.inr f_30))))), (q_32, .inr (6, [.ref dk, .ref q1_33, .int 0]))] H := hP
  have hD : va_D A [(h0, .inr (2, [.ref q_1])), (q_1, .inl (cA_2, 9, .inr (.inr (.inr (.inr f_30))))), (q_32, .inr (6, [.ref dk, .ref q1_33, .int 0]))] := hD
  have hK : va_K (dC, dI) classes [(cA_2, .object "RealHouse$Poly")] s := hK
  refine W.widen (k := 17) (n := 33) (Nat.le_of_ble_eq_true rfl) (Nat.le_of_ble_eq_true rfl) ?_
  refine va_astq (r := (R_Poly, F_Poly, 3)) hx hb hK hP hD hS 1 0 2 6 rfl rfl rfl rfl (vp_in_nI (n := 7) (by decide) (by decide)) d_Curve_init_32 (fun H locs hP hD hS => ?_)
  have hP : va_P (dC, dI) classes [(h0, .inr (2, [.ref q_1])), (q_1, .inl (cA_2, 9, .inr (.inr (.inr (.inr (va_up f_30 (7 : Int32).toNatClampNeg (some q_32))))))), (q_32, .inr (6, [.ref dk, .ref q1_33, .int 0]))] H := hP
  have hD : va_D A [(h0, .inr (2, [.ref q_1])), (q_1, .inl (cA_2, 9, .inr (.inr (.inr (.inr (va_up f_30 (7 : Int32).toNatClampNeg (some q_32))))))), (q_32, .inr (6, [.ref dk, .ref q1_33, .int 0]))] := hD
  generalize va_up f_30 (7 : Int32).toNatClampNeg (some q_32) = f_34 at hP hD
  have hP := hP.sub (ws' := [(h0, .inr (2, [.ref q_1])), (q_1, .inl (cA_2, 9, .inr (.inr (.inr (.inr f_34)))))]) [0, 1] rfl
  have hD := hD.sub (ws' := [(h0, .inr (2, [.ref q_1])), (q_1, .inl (cA_2, 9, .inr (.inr (.inr (.inr f_34)))))]) [0, 1] (by decide) rfl
  refine lv_iinc (v := 8) (lv' := [(3, .int 8), (0, .ref h0), (1, .ref dk), (2, .int 9)]) hx hb d_Curve_init_33 hl (k := 0) rfl (by decide) (by decide) rfl (fun ls hl => ?_)
  refine lv_goto (tgt := 14) hx hb d_Curve_init_36 (by decide) ?_
  refine lv_iload_n hx hb d_Curve_init_14 rfl (lv_at hl 0 rfl) ?_
  refine lv_iload_n hx hb d_Curve_init_15 rfl (lv_at hl 3 rfl) ?_
  refine lv_icmp_ge (tgt := 39) hx hb d_Curve_init_16 (by decide) (fun c_35 => absurd c_35 (by decide)) (fun c_35 => ?_)
  refine lv_aload_n hx hb d_Curve_init_19 rfl (lv_at hl 1 rfl) ?_
  refine va_get (D := (dC, dI)) (ci := 2) (v := .ref q_1) (C := R_Curve) (T := F_Curve) (N := 1) hx hb hT i_Curve hown hK hP 0 rfl rfl 0 (by decide) (hT _ tw_224) (fun _ h9 => h9) rfl d_Curve_init_20 ?_
  refine lv_iload_n hx hb d_Curve_init_23 rfl (lv_at hl 0 rfl) ?_
  refine va_new (ci := 6) (fs := [.null, .null, .int 0]) (C := R_Poly) (T := F_Poly) (N := 3) hx hb hT i_Poly t_Poly t_Poly_ok hown (hT _ tw_189) (hT _ tw_190) (hT _ tw_8) hK hP hD hS hA rfl (by decide) (Nat.le_of_ble_eq_true rfl) (Nat.le_of_ble_eq_true rfl) d_Curve_init_24 (fun q_36 H hP hD hS => ?_)
  have hP : va_P (dC, dI) classes [(h0, .inr (2, [.ref q_1])), (q_1, .inl (cA_2, 9, .inr (.inr (.inr (.inr f_34))))), (q_36, .inr (6, [.null, .null, .int 0]))] H := hP
  have hD : va_D A [(h0, .inr (2, [.ref q_1])), (q_1, .inl (cA_2, 9, .inr (.inr (.inr (.inr f_34))))), (q_36, .inr (6, [.null, .null, .int 0]))] := hD
  refine W.widen (k := 18) (n := 36) (Nat.le_of_ble_eq_true rfl) (Nat.le_of_ble_eq_true rfl) ?_
  refine lv_dup hx hb d_Curve_init_27 rfl ?_
  refine lv_aload_n hx hb d_Curve_init_28 rfl (lv_at hl 2 rfl) ?_
  have hPc := hP.sub (ws' := [(q_36, .inr (6, [.null, .null, .int 0]))]) [2] rfl
  have hDc := hD.sub (ws' := [(q_36, .inr (6, [.null, .null, .int 0]))]) [2] (by decide) rfl
  have hKc := hK.sub (tys' := []) [] rfl
  have hFc := va_free (wc := [(q_36, .inr (6, [.null, .null, .int 0]))]) hD hS hA [2] rfl
  refine va_callv (va_runI (As := [.ref dk]) (rest := [.ref q_36, .int 8, .ref q_1]) ⟨hx, hb, hml, hown, hT⟩ (c_Poly_init l dC dI H.size q_36 dk ) (cwI 1 hT g_Poly_init rfl rfl rfl (hT _ tw_8) (hT _ tw_191) (hT _ tw_192) rfl (by decide +kernel) ⟨Nat.le_of_ble_eq_true rfl, Nat.le_of_ble_eq_true rfl⟩) ⟨fun a U g mk q => by obtain ⟨q0, q1, qP, qK, qD, qN⟩ := q; exact ⟨q0, q1, qP, va_K.moved (u := U) (U := U.calling g mk a) (Vm.Alike.refl U.vm) qK, qD, nx_K.same (u := U) (U := U.calling g mk a) rfl qN⟩, fun U hU hW => ⟨rfl, by rw [hU], by rw [hU]; exact hPc, va_K.moved hW.alike hKc, hDc.weaken (fun _ _ _ _ => trivial), nx_K.warm hW hN⟩⟩ rfl rfl hl.1 rfl (lv_room (Nat.le_of_ble_eq_true rfl)) d_Curve_init_29 ⟨Nat.le_of_ble_eq_true rfl, Nat.le_of_ble_eq_true rfl⟩) hS (fun q _ h => hFc q h) hFc (fun u t H1 locs ht hvm hw hB hz1 hk1 hS => ?_)
  obtain ⟨q1_37, hP1, hK1, hD1⟩ := hB
  rw [ht] at hP1
  have hK1 := va_K.moved hvm.symm hK1
  obtain ⟨hP, hD⟩ := va_join (wr := [(h0, .inr (2, [.ref q_1])), (q_1, .inl (cA_2, 9, .inr (.inr (.inr (.inr f_34)))))]) (w1 := [(q_36, .inr (6, [.ref dk, .ref q1_37, .int 0]))]) hP hD [2] [0, 1] rfl rfl (by decide) (by decide) hk1 hFc hP1 hD1
  have hK := (hK.sub (tys' := [(cA_2, .object "RealHouse$Poly")]) [0] rfl).app hK1
  generalize H1 = H at hP hS ⊢
  have hP : va_P (dC, dI) classes [(h0, .inr (2, [.ref q_1])), (q_1, .inl (cA_2, 9, .inr (.inr (.inr (.inr f_34))))), (q_36, .inr (6, [.ref dk, .ref q1_37, .int 0]))] H := hP
  have hD : va_D A [(h0, .inr (2, [.ref q_1])), (q_1, .inl (cA_2, 9, .inr (.inr (.inr (.inr f_34))))), (q_36, .inr (6, [.ref dk, .ref q1_37, .int 0]))] := hD
  have hK : va_K (dC, dI) classes [(cA_2, .object "RealHouse$Poly")] s := hK
  refine W.widen (k := 19) (n := 36) (Nat.le_of_ble_eq_true rfl) (Nat.le_of_ble_eq_true rfl) ?_
  refine va_astq (r := (R_Poly, F_Poly, 3)) hx hb hK hP hD hS 1 0 2 6 rfl rfl rfl rfl (vp_in_nI (n := 8) (by decide) (by decide)) d_Curve_init_32 (fun H locs hP hD hS => ?_)
  have hP : va_P (dC, dI) classes [(h0, .inr (2, [.ref q_1])), (q_1, .inl (cA_2, 9, .inr (.inr (.inr (.inr (va_up f_34 (8 : Int32).toNatClampNeg (some q_36))))))), (q_36, .inr (6, [.ref dk, .ref q1_37, .int 0]))] H := hP
  have hD : va_D A [(h0, .inr (2, [.ref q_1])), (q_1, .inl (cA_2, 9, .inr (.inr (.inr (.inr (va_up f_34 (8 : Int32).toNatClampNeg (some q_36))))))), (q_36, .inr (6, [.ref dk, .ref q1_37, .int 0]))] := hD
  generalize va_up f_34 (8 : Int32).toNatClampNeg (some q_36) = f_38 at hP hD
  have hP := hP.sub (ws' := [(h0, .inr (2, [.ref q_1])), (q_1, .inl (cA_2, 9, .inr (.inr (.inr (.inr f_38)))))]) [0, 1] rfl
  have hD := hD.sub (ws' := [(h0, .inr (2, [.ref q_1])), (q_1, .inl (cA_2, 9, .inr (.inr (.inr (.inr f_38)))))]) [0, 1] (by decide) rfl
  refine lv_iinc (v := 9) (lv' := [(3, .int 9), (0, .ref h0), (1, .ref dk), (2, .int 9)]) hx hb d_Curve_init_33 hl (k := 0) rfl (by decide) (by decide) rfl (fun ls hl => ?_)
  refine lv_goto (tgt := 14) hx hb d_Curve_init_36 (by decide) ?_
  refine lv_iload_n hx hb d_Curve_init_14 rfl (lv_at hl 0 rfl) ?_
  refine lv_iload_n hx hb d_Curve_init_15 rfl (lv_at hl 3 rfl) ?_
  refine lv_icmp_ge (tgt := 39) hx hb d_Curve_init_16 (by decide) (fun c_39 => ?_) (fun c_39 => absurd (by decide) c_39)
  have hP9 := hP.sub (ws' := [(h0, .inr (2, [.ref q_1]))]) [0] rfl
  have hD9 := hD.sub (ws' := [(h0, .inr (2, [.ref q_1]))]) [0] (by decide) rfl
  have hK9 := hK.sub (tys' := []) [] rfl
  exact W.vret hx hb hr (fun t ht hW => ⟨⟨(), rfl, trivial, q_1, by rw [ht]; exact hP9, va_K.moved hW.alike hK9, hD9⟩, hS.F ht⟩) hS.2.2 d_Curve_init_39
