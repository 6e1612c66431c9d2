set_option maxHeartbeats 4000000 in
set_option maxRecDepth 100000 in
theorem whole_start {p : Program} {e : Env} {s : State} {m : MethodId} {below : List Frame} {meth : Method} {c : Code} (l : Launch) {b L : Nat} {xs : Nat → Int32} (hL : L ≤ 6) (C0 : lw_At p s m meth c b L xs) : W p l e room_1 s m #[Value.ref b] below meth c s.heap [] 0 0 (lw_Z below #[Value.ref b] s) (entryFrame m ([Value.ref b] : List Value).toArray 4) := by
  obtain ⟨hx, hb, hr, hml, hown, hts, hXs, hbl, hlocks, hgv⟩ := id C0
  have hT : ∀ w ∈ lw_g, w.before _ s = true := fun w h => hts w (List.mem_filter.mp h).1
  obtain ⟨A, hAe⟩ : ∃ A : Nat → Prop, A = (fun q : Nat => s.heap.size ≤ q) := ⟨_, rfl⟩
  have hA : ∀ q : Nat, s.heap.size ≤ q → A q := fun q h => by rw [hAe]; exact h
  have hAi : ∀ q : Nat, A q → s.heap.size ≤ q := fun q h => by rw [hAe] at h; exact h
  have hbA : ¬ A b := fun h => absurd (hAi b h) (Nat.not_le.mpr hbl)
  obtain ⟨c0, iS0, hKn0⟩ := u_known (C := R_Big) (T := F_Big) (N := 3) (n := 3) hT i_Big (hT _ tw_39)
  obtain ⟨c1, iS1, hKn1⟩ := u_known (C := R_Cells) (T := F_Cells) (N := 20) (n := 20) hT i_Cells (hT _ tw_303)
  obtain ⟨c2, iS2, hKn2⟩ := u_known (C := R_Curve) (T := F_Curve) (N := 1) (n := 1) hT i_Curve (hT _ tw_184)
  obtain ⟨c3, iS3, hKn3⟩ := u_known (C := R_Desk) (T := F_Desk) (N := 20) (n := 20) hT i_Desk (hT _ tw_33)
  obtain ⟨c4, iS4, hKn4⟩ := u_known (C := R_Line) (T := F_Line) (N := 20) (n := 20) hT i_Line (hT _ tw_402)
  obtain ⟨c5, iS5, hKn5⟩ := u_known (C := R_Minors) (T := F_Minors) (N := 3) (n := 3) hT i_Minors (hT _ tw_412)
  obtain ⟨c6, iS6, hKn6⟩ := u_known (C := R_Poly) (T := F_Poly) (N := 3) (n := 3) hT i_Poly (hT _ tw_190)
  obtain ⟨c7, iS7, hKn7⟩ := u_known (C := R_Prime) (T := F_Prime) (N := 5) (n := 5) hT i_Prime (hT _ tw_318)
  obtain ⟨c8, iS8, hKn8⟩ := u_known (C := R_Reader) (T := F_Reader) (N := 19) (n := 19) hT i_Reader (hT _ tw_178)
  obtain ⟨c9, iS9, hKn9⟩ := u_known (C := R_Real) (T := F_Real) (N := 6) (n := 6) hT i_Real (hT _ tw_507)
  obtain ⟨c10, iS10, hKn10⟩ := u_known (C := R_Splitter) (T := F_Splitter) (N := 14) (n := 14) hT i_Splitter (hT _ tw_312)
  obtain ⟨c11, iS11, hKn11⟩ := u_known (C := R_House) (T := F_House) (N := 21) (n := 21) hT i_House (hT _ tw_19)
  obtain ⟨c12, iS12, hKn12⟩ := u_known (C := R_Model) (T := F_Model) (N := 86) (n := 86) hT i_Model (hT _ tw_1594)
  obtain ⟨dC, dI, hKc⟩ : ∃ (dC : Nat → ClassId) (dI : Nat → Nat → Nat), ∀ (k : Nat) (q : vw_C), classes[k]? = some q → u_Kn s q.1 q.2.1 q.2.2 (dC k) (dI k) := by
    refine ⟨fun k => match k with | 0 => c0 | 1 => c1 | 2 => c2 | 3 => c3 | 4 => c4 | 5 => c5 | 6 => c6 | 7 => c7 | 8 => c8 | 9 => c9 | 10 => c10 | 11 => c11 | _ => c12, fun k => match k with | 0 => iS0 | 1 => iS1 | 2 => iS2 | 3 => iS3 | 4 => iS4 | 5 => iS5 | 6 => iS6 | 7 => iS7 | 8 => iS8 | 9 => iS9 | 10 => iS10 | 11 => iS11 | _ => iS12, ?_⟩
    intro k q hq
    match k, hq with
    | 0, hq => cases hq; exact hKn0
    | 1, hq => cases hq; exact hKn1
    | 2, hq => cases hq; exact hKn2
    | 3, hq => cases hq; exact hKn3
    | 4, hq => cases hq; exact hKn4
    | 5, hq => cases hq; exact hKn5
    | 6, hq => cases hq; exact hKn6
    | 7, hq => cases hq; exact hKn7
    | 8, hq => cases hq; exact hKn8
    | 9, hq => cases hq; exact hKn9
    | 10, hq => cases hq; exact hKn10
    | 11, hq => cases hq; exact hKn11
    | 12, hq => cases hq; exact hKn12
    | k + 13, hq => simp [classes] at hq
  have hN : nx_K s := ⟨va_AO.of (hts _ (List.mem_append_right _ (List.mem_of_getElem? (i := 27) (by decide +kernel)))), va_AO.of (hts _ (List.mem_append_right _ (List.mem_of_getElem? (i := 29) (by decide +kernel)))), va_AO.of (hts _ (List.mem_append_right _ (List.mem_of_getElem? (i := 31) (by decide +kernel)))), va_AO.of (hts _ (List.mem_append_right _ (List.mem_of_getElem? (i := 69) (by decide +kernel)))), mn_AO.of (hts _ (List.mem_append_right _ (List.mem_of_getElem? (i := 324) (by decide +kernel)))), mn_AO.of (hts _ (List.mem_append_right _ (List.mem_of_getElem? (i := 1602) (by decide +kernel)))), va_Nw.of rfl (hts _ (List.mem_append_right _ (List.mem_of_getElem? (i := 40) (by decide +kernel)))), va_Nw.of rfl (hts _ (List.mem_append_right _ (List.mem_of_getElem? (i := 319) (by decide +kernel)))), va_Nw.of rfl (hts _ (List.mem_append_right _ (List.mem_of_getElem? (i := 349) (by decide +kernel)))), va_Nw.of rfl (hts _ (List.mem_append_right _ (List.mem_of_getElem? (i := 410) (by decide +kernel)))), va_Nw.of rfl (hts _ (List.mem_append_right _ (List.mem_of_getElem? (i := 513) (by decide +kernel)))), va_Nw.of rfl (hts _ (List.mem_append_right _ (List.mem_of_getElem? (i := 741) (by decide +kernel))))⟩
  have hS : va_S A s.heap s.heap [] := va_S.rf
  have hK : va_K (dC, dI) classes [] s := ⟨hKc, fun k q h => by simp at h⟩
  have hP : va_P (dC, dI) classes [] s.heap := fun k q h => by simp at h
  have hD : va_D A [] := ⟨fun i j p q h => by simp at h, fun k q h => by simp at h⟩
  have hl := lv_entry ([.ref b]) (n := 4) (Nat.le_of_ble_eq_true rfl)
  rw [lg_entry_eq]
  generalize (lg_sl ([.ref b]) ++ List.replicate (4 - (lg_sl ([.ref b])).length) Slot.unset).toArray = ls at hl ⊢
  have hl : lv_has ls 4 [(0, .ref b)] := hl
  refine va_new (ci := 11) (fs := [.null, .null, .null, .null, .int 0, .null, .int 0, .null, .null, .int 0, .null, .null, .null, .int 0, .null, .null, .int 0, .null, .null, .int 0, .null]) (C := R_House) (T := F_House) (N := 21) hx hb hT i_House t_House t_House_ok hown (hT _ tw_18) (hT _ tw_19) (hT _ tw_1) hK hP hD hS hA rfl (by decide) (Nat.le_of_ble_eq_true rfl) (Nat.le_of_ble_eq_true rfl) d_law_0 (fun q_1 H hP hD hS => ?_)
  have hP : va_P (dC, dI) classes [(q_1, .inr (11, [.null, .null, .null, .null, .int 0, .null, .int 0, .null, .null, .int 0, .null, .null, .null, .int 0, .null, .null, .int 0, .null, .null, .int 0, .null]))] H := hP
  have hD : va_D A [(q_1, .inr (11, [.null, .null, .null, .null, .int 0, .null, .int 0, .null, .null, .int 0, .null, .null, .null, .int 0, .null, .null, .int 0, .null, .null, .int 0, .null]))] := hD
  refine W.widen (k := 1) (n := 21) (Nat.le_of_ble_eq_true rfl) (Nat.le_of_ble_eq_true rfl) ?_
  refine lv_dup hx hb d_law_3 rfl ?_
  have hPc := hP.sub (ws' := [(q_1, .inr (11, [.null, .null, .null, .null, .int 0, .null, .int 0, .null, .null, .int 0, .null, .null, .null, .int 0, .null, .null, .int 0, .null, .null, .int 0, .null]))]) [0] rfl
  have hDc := hD.sub (ws' := [(q_1, .inr (11, [.null, .null, .null, .null, .int 0, .null, .int 0, .null, .null, .int 0, .null, .null, .null, .int 0, .null, .null, .int 0, .null, .null, .int 0, .null]))]) [0] (by decide) rfl
  have hKc := hK.sub (tys' := []) [] rfl
  have hFc := va_free (wc := [(q_1, .inr (11, [.null, .null, .null, .null, .int 0, .null, .int 0, .null, .null, .int 0, .null, .null, .null, .int 0, .null, .null, .int 0, .null, .null, .int 0, .null]))]) hD hS hA [0] rfl
  refine va_callv (va_runI (As := []) (rest := [.ref q_1]) ⟨hx, hb, hml, hown, hT⟩ (c_House_init l dC dI H.size q_1 ) (cwI 0 hT g_House_init rfl rfl rfl (hT _ tw_1) (hT _ tw_20) (hT _ tw_21) rfl (by decide +kernel) ⟨Nat.le_of_ble_eq_true rfl, Nat.le_of_ble_eq_true rfl⟩) ⟨fun a U g mk q => by obtain ⟨q0, q1, qP, qK, qD, qN⟩ := q; exact ⟨q0, q1, qP, va_K.moved (u := U) (U := U.calling g mk a) (Vm.Alike.refl U.vm) qK, qD, nx_K.same (u := U) (U := U.calling g mk a) rfl qN⟩, fun U hU hW => ⟨rfl, by rw [hU], by rw [hU]; exact hPc, va_K.moved hW.alike hKc, hDc.weaken (fun _ _ _ _ => trivial), nx_K.warm hW hN⟩⟩ rfl rfl hl.1 rfl (lv_room (Nat.le_of_ble_eq_true rfl)) d_law_4 ⟨Nat.le_of_ble_eq_true rfl, Nat.le_of_ble_eq_true rfl⟩) hS (fun q _ h => hFc q h) hFc (fun u t H1 locs ht hvm hw hB hz1 hk1 hS => ?_)
  obtain ⟨x_desk_2, x_reader_3, x_cells_4, x_tape_5, x_script_6, x_rootAt_7, x_rootTimes_8, x_spotX_9, x_spotY_10, x_bond_11, x_end_12, x_span_13, x_part_14, x_partPower_15, x_kept_16, cT_17, fT_18, cK_19, x_text_20, x_left_21, x_right_22, x_told_23, x_curve_24, x_steps_25, x_stack_26, x_c_27, cL_28, fc_29, p0_30, p1_31, p2_32, p3_33, p4_34, p5_35, p6_36, p7_37, p8_38, y0_39, y1_40, y2_41, y3_42, y4_43, y5_44, y6_45, y7_46, y8_47, hp_48, hP1, hK1, hD1⟩ := hB
  rw [ht] at hP1
  have hK1 := va_K.moved hvm.symm hK1
  obtain ⟨hP, hD⟩ := va_join (wr := []) (w1 := [(q_1, .inr (11, [.ref x_desk_2, .ref x_reader_3, .ref x_cells_4, .ref x_tape_5, .int 0, .ref x_script_6, .int 0, .ref x_rootAt_7, .ref x_rootTimes_8, .int 0, .ref x_spotX_9, .ref x_spotY_10, .ref x_bond_11, .int 0, .ref x_end_12, .ref x_span_13, .int 0, .ref x_part_14, .ref x_partPower_15, .int 0, .ref x_kept_16])), (x_tape_5, .inl (cT_17, 400, .inl fT_18)), (x_kept_16, .inl (cK_19, 8, .inr (.inr (.inr (.inr (fun _ => none)))))), (x_reader_3, .inr (8, [.ref x_text_20, .int 0, .int 0, .int 0, .int 0, .int 0, .int 0, .ref x_left_21, .ref x_right_22, .ref x_told_23, .ref x_curve_24, .int 0, .int 0, .int 0, .int 0, .ref x_steps_25, .int 0, .ref x_stack_26, .int 0])), (x_left_21, .inr (2, [.ref x_c_27])), (x_c_27, .inl (cL_28, 9, .inr (.inr (.inr (.inr fc_29))))), (p0_30, .inr (6, [.ref x_desk_2, .ref y0_39, .int 0])), (p1_31, .inr (6, [.ref x_desk_2, .ref y1_40, .int 0])), (p2_32, .inr (6, [.ref x_desk_2, .ref y2_41, .int 0])), (p3_33, .inr (6, [.ref x_desk_2, .ref y3_42, .int 0])), (p4_34, .inr (6, [.ref x_desk_2, .ref y4_43, .int 0])), (p5_35, .inr (6, [.ref x_desk_2, .ref y5_44, .int 0])), (p6_36, .inr (6, [.ref x_desk_2, .ref y6_45, .int 0])), (p7_37, .inr (6, [.ref x_desk_2, .ref y7_46, .int 0])), (p8_38, .inr (6, [.ref x_desk_2, .ref y8_47, .int 0]))]) hP hD [0] [] rfl rfl (by decide) (by decide) hk1 hFc hP1 hD1
  have hK := (hK.sub (tys' := []) [] rfl).app hK1
  generalize H1 = H at hP hS ⊢
  have hP : va_P (dC, dI) classes [(q_1, .inr (11, [.ref x_desk_2, .ref x_reader_3, .ref x_cells_4, .ref x_tape_5, .int 0, .ref x_script_6, .int 0, .ref x_rootAt_7, .ref x_rootTimes_8, .int 0, .ref x_spotX_9, .ref x_spotY_10, .ref x_bond_11, .int 0, .ref x_end_12, .ref x_span_13, .int 0, .ref x_part_14, .ref x_partPower_15, .int 0, .ref x_kept_16])), (x_tape_5, .inl (cT_17, 400, .inl fT_18)), (x_kept_16, .inl (cK_19, 8, .inr (.inr (.inr (.inr (fun _ => none)))))), (x_reader_3, .inr (8, [.ref x_text_20, .int 0, .int 0, .int 0, .int 0, .int 0, .int 0, .ref x_left_21, .ref x_right_22, .ref x_told_23, .ref x_curve_24, .int 0, .int 0, .int 0, .int 0, .ref x_steps_25, .int 0, .ref x_stack_26, .int 0])), (x_left_21, .inr (2, [.ref x_c_27])), (x_c_27, .inl (cL_28, 9, .inr (.inr (.inr (.inr fc_29))))), (p0_30, .inr (6, [.ref x_desk_2, .ref y0_39, .int 0])), (p1_31, .inr (6, [.ref x_desk_2, .ref y1_40, .int 0])), (p2_32, .inr (6, [.ref x_desk_2, .ref y2_41, .int 0])), (p3_33, .inr (6, [.ref x_desk_2, .ref y3_42, .int 0])), (p4_34, .inr (6, [.ref x_desk_2, .ref y4_43, .int 0])), (p5_35, .inr (6, [.ref x_desk_2, .ref y5_44, .int 0])), (p6_36, .inr (6, [.ref x_desk_2, .ref y6_45, .int 0])), (p7_37, .inr (6, [.ref x_desk_2, .ref y7_46, .int 0])), (p8_38, .inr (6, [.ref x_desk_2, .ref y8_47, .int 0]))] H := hP
  have hD : va_D A [(q_1, .inr (11, [.ref x_desk_2, .ref x_reader_3, .ref x_cells_4, .ref x_tape_5, .int 0, .ref x_script_6, .int 0, .ref x_rootAt_7, .ref x_rootTimes_8, .int 0, .ref x_spotX_9, .ref x_spotY_10, .ref x_bond_11, .int 0, .ref x_end_12, .ref x_span_13, .int 0, .ref x_part_14, .ref x_partPower_15, .int 0, .ref x_kept_16])), (x_tape_5, .inl (cT_17, 400, .inl fT_18)), (x_kept_16, .inl (cK_19, 8, .inr (.inr (.inr (.inr (fun _ => none)))))), (x_reader_3, .inr (8, [.ref x_text_20, .int 0, .int 0, .int 0, .int 0, .int 0, .int 0, .ref x_left_21, .ref x_right_22, .ref x_told_23, .ref x_curve_24, .int 0, .int 0, .int 0, .int 0, .ref x_steps_25, .int 0, .ref x_stack_26, .int 0])), (x_left_21, .inr (2, [.ref x_c_27])), (x_c_27, .inl (cL_28, 9, .inr (.inr (.inr (.inr fc_29))))), (p0_30, .inr (6, [.ref x_desk_2, .ref y0_39, .int 0])), (p1_31, .inr (6, [.ref x_desk_2, .ref y1_40, .int 0])), (p2_32, .inr (6, [.ref x_desk_2, .ref y2_41, .int 0])), (p3_33, .inr (6, [.ref x_desk_2, .ref y3_42, .int 0])), (p4_34, .inr (6, [.ref x_desk_2, .ref y4_43, .int 0])), (p5_35, .inr (6, [.ref x_desk_2, .ref y5_44, .int 0])), (p6_36, .inr (6, [.ref x_desk_2, .ref y6_45, .int 0])), (p7_37, .inr (6, [.ref x_desk_2, .ref y7_46, .int 0])), (p8_38, .inr (6, [.ref x_desk_2, .ref y8_47, .int 0]))] := hD
  have hK : va_K (dC, dI) classes [(cT_17, .int), (cK_19, .object "RealHouse$Real"), (cL_28, .object "RealHouse$Poly")] s := hK
  refine W.widen (k := 1395) (n := 8569) (Nat.le_of_ble_eq_true rfl) (Nat.le_of_ble_eq_true rfl) ?_
  refine lv_astore_n (lv' := [(1, .ref q_1), (0, .ref b)]) hx hb d_law_7 rfl hl (by decide) rfl (fun ls hl => ?_)
  refine va_new (ci := 12) (fs := [.null, .int 0, .int 0, .int 0, .int 0, .int 0, .int 0, .int 0, .int 0, .int 0, .int 0, .null, .null, .null, .int 0, .int 0, .int 0, .null, .null, .null, .null, .int 0, .int 0, .int 0, .int 0, .int 0, .int 0, .int 0, .null, .null, .null, .null, .int 0, .int 0, .int 0, .int 0, .int 0, .int 0, .null, .null, .null, .null, .int 0, .int 0, .int 0, .int 0, .int 0, .null, .null, .null, .int 0, .int 0, .int 0, .null, .null, .null, .null, .int 0, .null, .int 0, .null, .int 0, .null, .null, .null, .null, .null, .int 0, .null, .null, .int 0, .null, .int 0, .null, .int 0, .null, .null, .null, .null, .null, .int 0, .int 0, .int 0, .int 0, .int 0, .int 0]) (C := R_Model) (T := F_Model) (N := 86) hx hb hT i_Model t_Model t_Model_ok hown (hT _ tw_1593) (hT _ tw_1594) (hT _ tw_15) hK hP hD hS hA rfl (by decide) (Nat.le_of_ble_eq_true rfl) (Nat.le_of_ble_eq_true rfl) d_law_8 (fun q_49 H hP hD hS => ?_)
  have hP : va_P (dC, dI) classes [(q_1, .inr (11, [.ref x_desk_2, .ref x_reader_3, .ref x_cells_4, .ref x_tape_5, .int 0, .ref x_script_6, .int 0, .ref x_rootAt_7, .ref x_rootTimes_8, .int 0, .ref x_spotX_9, .ref x_spotY_10, .ref x_bond_11, .int 0, .ref x_end_12, .ref x_span_13, .int 0, .ref x_part_14, .ref x_partPower_15, .int 0, .ref x_kept_16])), (x_tape_5, .inl (cT_17, 400, .inl fT_18)), (x_kept_16, .inl (cK_19, 8, .inr (.inr (.inr (.inr (fun _ => none)))))), (x_reader_3, .inr (8, [.ref x_text_20, .int 0, .int 0, .int 0, .int 0, .int 0, .int 0, .ref x_left_21, .ref x_right_22, .ref x_told_23, .ref x_curve_24, .int 0, .int 0, .int 0, .int 0, .ref x_steps_25, .int 0, .ref x_stack_26, .int 0])), (x_left_21, .inr (2, [.ref x_c_27])), (x_c_27, .inl (cL_28, 9, .inr (.inr (.inr (.inr fc_29))))), (p0_30, .inr (6, [.ref x_desk_2, .ref y0_39, .int 0])), (p1_31, .inr (6, [.ref x_desk_2, .ref y1_40, .int 0])), (p2_32, .inr (6, [.ref x_desk_2, .ref y2_41, .int 0])), (p3_33, .inr (6, [.ref x_desk_2, .ref y3_42, .int 0])), (p4_34, .inr (6, [.ref x_desk_2, .ref y4_43, .int 0])), (p5_35, .inr (6, [.ref x_desk_2, .ref y5_44, .int 0])), (p6_36, .inr (6, [.ref x_desk_2, .ref y6_45, .int 0])), (p7_37, .inr (6, [.ref x_desk_2, .ref y7_46, .int 0])), (p8_38, .inr (6, [.ref x_desk_2, .ref y8_47, .int 0])), (q_49, .inr (12, [.null, .int 0, .int 0, .int 0, .int 0, .int 0, .int 0, .int 0, .int 0, .int 0, .int 0, .null, .null, .null, .int 0, .int 0, .int 0, .null, .null, .null, .null, .int 0, .int 0, .int 0, .int 0, .int 0, .int 0, .int 0, .null, .null, .null, .null, .int 0, .int 0, .int 0, .int 0, .int 0, .int 0, .null, .null, .null, .null, .int 0, .int 0, .int 0, .int 0, .int 0, .null, .null, .null, .int 0, .int 0, .int 0, .null, .null, .null, .null, .int 0, .null, .int 0, .null, .int 0, .null, .null, .null, .null, .null, .int 0, .null, .null, .int 0, .null, .int 0, .null, .int 0, .null, .null, .null, .null, .null, .int 0, .int 0, .int 0, .int 0, .int 0, .int 0]))] H := hP
  have hD : va_D A [(q_1, .inr (11, [.ref x_desk_2, .ref x_reader_3, .ref x_cells_4, .ref x_tape_5, .int 0, .ref x_script_6, .int 0, .ref x_rootAt_7, .ref x_rootTimes_8, .int 0, .ref x_spotX_9, .ref x_spotY_10, .ref x_bond_11, .int 0, .ref x_end_12, .ref x_span_13, .int 0, .ref x_part_14, .ref x_partPower_15, .int 0, .ref x_kept_16])), (x_tape_5, .inl (cT_17, 400, .inl fT_18)), (x_kept_16, .inl (cK_19, 8, .inr (.inr (.inr (.inr (fun _ => none)))))), (x_reader_3, .inr (8, [.ref x_text_20, .int 0, .int 0, .int 0, .int 0, .int 0, .int 0, .ref x_left_21, .ref x_right_22, .ref x_told_23, .ref x_curve_24, .int 0, .int 0, .int 0, .int 0, .ref x_steps_25, .int 0, .ref x_stack_26, .int 0])), (x_left_21, .inr (2, [.ref x_c_27])), (x_c_27, .inl (cL_28, 9, .inr (.inr (.inr (.inr fc_29))))), (p0_30, .inr (6, [.ref x_desk_2, .ref y0_39, .int 0])), (p1_31, .inr (6, [.ref x_desk_2, .ref y1_40, .int 0])), (p2_32, .inr (6, [.ref x_desk_2, .ref y2_41, .int 0])), (p3_33, .inr (6, [.ref x_desk_2, .ref y3_42, .int 0])), (p4_34, .inr (6, [.ref x_desk_2, .ref y4_43, .int 0])), (p5_35, .inr (6, [.ref x_desk_2, .ref y5_44, .int 0])), (p6_36, .inr (6, [.ref x_desk_2, .ref y6_45, .int 0])), (p7_37, .inr (6, [.ref x_desk_2, .ref y7_46, .int 0])), (p8_38, .inr (6, [.ref x_desk_2, .ref y8_47, .int 0])), (q_49, .inr (12, [.null, .int 0, .int 0, .int 0, .int 0, .int 0, .int 0, .int 0, .int 0, .int 0, .int 0, .null, .null, .null, .int 0, .int 0, .int 0, .null, .null, .null, .null, .int 0, .int 0, .int 0, .int 0, .int 0, .int 0, .int 0, .null, .null, .null, .null, .int 0, .int 0, .int 0, .int 0, .int 0, .int 0, .null, .null, .null, .null, .int 0, .int 0, .int 0, .int 0, .int 0, .null, .null, .null, .int 0, .int 0, .int 0, .null, .null, .null, .null, .int 0, .null, .int 0, .null, .int 0, .null, .null, .null, .null, .null, .int 0, .null, .null, .int 0, .null, .int 0, .null, .int 0, .null, .null, .null, .null, .null, .int 0, .int 0, .int 0, .int 0, .int 0, .int 0]))] := hD
  refine W.widen (k := 1396) (n := 8655) (Nat.le_of_ble_eq_true rfl) (Nat.le_of_ble_eq_true rfl) ?_
  refine lv_dup hx hb d_law_11 rfl ?_
  have hPc := hP.sub (ws' := [(q_49, .inr (12, [.null, .int 0, .int 0, .int 0, .int 0, .int 0, .int 0, .int 0, .int 0, .int 0, .int 0, .null, .null, .null, .int 0, .int 0, .int 0, .null, .null, .null, .null, .int 0, .int 0, .int 0, .int 0, .int 0, .int 0, .int 0, .null, .null, .null, .null, .int 0, .int 0, .int 0, .int 0, .int 0, .int 0, .null, .null, .null, .null, .int 0, .int 0, .int 0, .int 0, .int 0, .null, .null, .null, .int 0, .int 0, .int 0, .null, .null, .null, .null, .int 0, .null, .int 0, .null, .int 0, .null, .null, .null, .null, .null, .int 0, .null, .null, .int 0, .null, .int 0, .null, .int 0, .null, .null, .null, .null, .null, .int 0, .int 0, .int 0, .int 0, .int 0, .int 0]))]) [15] rfl
  have hDc := hD.sub (ws' := [(q_49, .inr (12, [.null, .int 0, .int 0, .int 0, .int 0, .int 0, .int 0, .int 0, .int 0, .int 0, .int 0, .null, .null, .null, .int 0, .int 0, .int 0, .null, .null, .null, .null, .int 0, .int 0, .int 0, .int 0, .int 0, .int 0, .int 0, .null, .null, .null, .null, .int 0, .int 0, .int 0, .int 0, .int 0, .int 0, .null, .null, .null, .null, .int 0, .int 0, .int 0, .int 0, .int 0, .null, .null, .null, .int 0, .int 0, .int 0, .null, .null, .null, .null, .int 0, .null, .int 0, .null, .int 0, .null, .null, .null, .null, .null, .int 0, .null, .null, .int 0, .null, .int 0, .null, .int 0, .null, .null, .null, .null, .null, .int 0, .int 0, .int 0, .int 0, .int 0, .int 0]))]) [15] (by decide) rfl
  have hKc := hK.sub (tys' := []) [] rfl
  have hFc := va_free (wc := [(q_49, .inr (12, [.null, .int 0, .int 0, .int 0, .int 0, .int 0, .int 0, .int 0, .int 0, .int 0, .int 0, .null, .null, .null, .int 0, .int 0, .int 0, .null, .null, .null, .null, .int 0, .int 0, .int 0, .int 0, .int 0, .int 0, .int 0, .null, .null, .null, .null, .int 0, .int 0, .int 0, .int 0, .int 0, .int 0, .null, .null, .null, .null, .int 0, .int 0, .int 0, .int 0, .int 0, .null, .null, .null, .int 0, .int 0, .int 0, .null, .null, .null, .null, .int 0, .null, .int 0, .null, .int 0, .null, .null, .null, .null, .null, .int 0, .null, .null, .int 0, .null, .int 0, .null, .int 0, .null, .null, .null, .null, .null, .int 0, .int 0, .int 0, .int 0, .int 0, .int 0]))]) hD hS hA [15] rfl
  refine va_callv (va_runI (As := []) (rest := [.ref q_49]) ⟨hx, hb, hml, hown, hT⟩ (c_Model_init l dC dI H.size q_49 ) (cwI 0 hT g_Model_init rfl rfl rfl (hT _ tw_15) (hT _ tw_1595) (hT _ tw_1596) rfl (by decide +kernel) ⟨Nat.le_of_ble_eq_true rfl, Nat.le_of_ble_eq_true rfl⟩) ⟨fun a U g mk q => by obtain ⟨q0, q1, qP, qK, qD, qN⟩ := q; exact ⟨q0, q1, qP, va_K.moved (u := U) (U := U.calling g mk a) (Vm.Alike.refl U.vm) qK, qD, nx_K.same (u := U) (U := U.calling g mk a) rfl qN⟩, fun U hU hW => ⟨rfl, by rw [hU], by rw [hU]; exact hPc, va_K.moved hW.alike hKc, hDc.weaken (fun _ _ _ _ => trivial), nx_K.warm hW hN⟩⟩ rfl rfl hl.1 rfl (lv_room (Nat.le_of_ble_eq_true rfl)) d_law_12 ⟨Nat.le_of_ble_eq_true rfl, Nat.le_of_ble_eq_true rfl⟩) hS (fun q _ h => hFc q h) hFc (fun u t H1 locs ht hvm hw hB hz1 hk1 hS => ?_)
  obtain ⟨m_mem_50, m_polys_51, m_chains_52, m_pairs_53, m_zeros_54, m_tape_55, m_outs_56, m_text_57, m_rows_58, m_digits_59, m_entries_60, m_minors_61, m_pointX_62, m_pointH_63, m_pointY_64, m_those_65, m_does_66, m_atomOf_67, m_atomRel_68, m_signs_69, m_stack_70, m_xPoly_71, m_xRoot_72, m_inBoth_73, m_truth_74, m_hasEnd_75, m_belongs_76, m_isSingle_77, m_endPoly_78, m_endRoot_79, m_small_80, m_smallDegree_81, m_irreducible_82, m_stackOf_83, m_factorAt_84, m_factorPower_85, m_isKept_86, m_keptPoly_87, m_keptRoot_88, cT_89, fT_90, cR_91, fR_92, cB_93, hP1, hK1, hD1⟩ := hB
  rw [ht] at hP1
  have hK1 := va_K.moved hvm.symm hK1
  obtain ⟨hP, hD⟩ := va_join (wr := [(q_1, .inr (11, [.ref x_desk_2, .ref x_reader_3, .ref x_cells_4, .ref x_tape_5, .int 0, .ref x_script_6, .int 0, .ref x_rootAt_7, .ref x_rootTimes_8, .int 0, .ref x_spotX_9, .ref x_spotY_10, .ref x_bond_11, .int 0, .ref x_end_12, .ref x_span_13, .int 0, .ref x_part_14, .ref x_partPower_15, .int 0, .ref x_kept_16])), (x_tape_5, .inl (cT_17, 400, .inl fT_18)), (x_kept_16, .inl (cK_19, 8, .inr (.inr (.inr (.inr (fun _ => none)))))), (x_reader_3, .inr (8, [.ref x_text_20, .int 0, .int 0, .int 0, .int 0, .int 0, .int 0, .ref x_left_21, .ref x_right_22, .ref x_told_23, .ref x_curve_24, .int 0, .int 0, .int 0, .int 0, .ref x_steps_25, .int 0, .ref x_stack_26, .int 0])), (x_left_21, .inr (2, [.ref x_c_27])), (x_c_27, .inl (cL_28, 9, .inr (.inr (.inr (.inr fc_29))))), (p0_30, .inr (6, [.ref x_desk_2, .ref y0_39, .int 0])), (p1_31, .inr (6, [.ref x_desk_2, .ref y1_40, .int 0])), (p2_32, .inr (6, [.ref x_desk_2, .ref y2_41, .int 0])), (p3_33, .inr (6, [.ref x_desk_2, .ref y3_42, .int 0])), (p4_34, .inr (6, [.ref x_desk_2, .ref y4_43, .int 0])), (p5_35, .inr (6, [.ref x_desk_2, .ref y5_44, .int 0])), (p6_36, .inr (6, [.ref x_desk_2, .ref y6_45, .int 0])), (p7_37, .inr (6, [.ref x_desk_2, .ref y7_46, .int 0])), (p8_38, .inr (6, [.ref x_desk_2, .ref y8_47, .int 0]))]) (w1 := [(q_49, .inr (12, [.ref m_mem_50, .int 232000, .int 0, .int 0, .int 0, .int 0, .int 0, .int 0, .int 0, .int 0, .int 0, .ref m_polys_51, .ref m_chains_52, .ref m_pairs_53, .int 0, .int 0, .int 0, .ref m_zeros_54, .ref m_tape_55, .ref m_outs_56, .ref m_text_57, .int 0, .int 0, .int 0, .int 0, .int 0, .int 0, .int 0, .ref m_rows_58, .ref m_digits_59, .ref m_entries_60, .ref m_minors_61, .int 0, .int 0, .int 0, .int 0, .int 0, .int 0, .ref m_pointX_62, .ref m_pointH_63, .ref m_pointY_64, .ref m_those_65, .int 0, .int 0, .int 0, .int 0, .int 0, .ref m_does_66, .ref m_atomOf_67, .ref m_atomRel_68, .int 0, .int 0, .int 0, .ref m_signs_69, .ref m_stack_70, .ref m_xPoly_71, .ref m_xRoot_72, .int 0, .ref m_inBoth_73, .int 0, .ref m_truth_74, .int 0, .ref m_hasEnd_75, .ref m_belongs_76, .ref m_isSingle_77, .ref m_endPoly_78, .ref m_endRoot_79, .int 0, .ref m_small_80, .ref m_smallDegree_81, .int 0, .ref m_irreducible_82, .int 0, .ref m_stackOf_83, .int 0, .ref m_factorAt_84, .ref m_factorPower_85, .ref m_isKept_86, .ref m_keptPoly_87, .ref m_keptRoot_88, .int 0, .int 0, .int 0, .int 0, .int 0, .int 0])), (m_tape_55, .inl (cT_89, 400, .inl fT_90)), (m_rows_58, .inl (cR_91, 3468, .inr (.inl fR_92))), (m_isKept_86, .inl (cB_93, 8, .inl (fun _ => 0)))]) hP hD [15] [0, 1, 2, 3, 4, 5, 6, 7, 8, 9, 10, 11, 12, 13, 14] rfl rfl (by decide) (by decide) hk1 hFc hP1 hD1
  have hK := (hK.sub (tys' := [(cT_17, .int), (cK_19, .object "RealHouse$Real"), (cL_28, .object "RealHouse$Poly")]) [0, 1, 2] rfl).app hK1
  generalize H1 = H at hP hS ⊢
  have hP : va_P (dC, dI) classes [(q_1, .inr (11, [.ref x_desk_2, .ref x_reader_3, .ref x_cells_4, .ref x_tape_5, .int 0, .ref x_script_6, .int 0, .ref x_rootAt_7, .ref x_rootTimes_8, .int 0, .ref x_spotX_9, .ref x_spotY_10, .ref x_bond_11, .int 0, .ref x_end_12, .ref x_span_13, .int 0, .ref x_part_14, .ref x_partPower_15, .int 0, .ref x_kept_16])), (x_tape_5, .inl (cT_17, 400, .inl fT_18)), (x_kept_16, .inl (cK_19, 8, .inr (.inr (.inr (.inr (fun _ => none)))))), (x_reader_3, .inr (8, [.ref x_text_20, .int 0, .int 0, .int 0, .int 0, .int 0, .int 0, .ref x_left_21, .ref x_right_22, .ref x_told_23, .ref x_curve_24, .int 0, .int 0, .int 0, .int 0, .ref x_steps_25, .int 0, .ref x_stack_26, .int 0])), (x_left_21, .inr (2, [.ref x_c_27])), (x_c_27, .inl (cL_28, 9, .inr (.inr (.inr (.inr fc_29))))), (p0_30, .inr (6, [.ref x_desk_2, .ref y0_39, .int 0])), (p1_31, .inr (6, [.ref x_desk_2, .ref y1_40, .int 0])), (p2_32, .inr (6, [.ref x_desk_2, .ref y2_41, .int 0])), (p3_33, .inr (6, [.ref x_desk_2, .ref y3_42, .int 0])), (p4_34, .inr (6, [.ref x_desk_2, .ref y4_43, .int 0])), (p5_35, .inr (6, [.ref x_desk_2, .ref y5_44, .int 0])), (p6_36, .inr (6, [.ref x_desk_2, .ref y6_45, .int 0])), (p7_37, .inr (6, [.ref x_desk_2, .ref y7_46, .int 0])), (p8_38, .inr (6, [.ref x_desk_2, .ref y8_47, .int 0])), (q_49, .inr (12, [.ref m_mem_50, .int 232000, .int 0, .int 0, .int 0, .int 0, .int 0, .int 0, .int 0, .int 0, .int 0, .ref m_polys_51, .ref m_chains_52, .ref m_pairs_53, .int 0, .int 0, .int 0, .ref m_zeros_54, .ref m_tape_55, .ref m_outs_56, .ref m_text_57, .int 0, .int 0, .int 0, .int 0, .int 0, .int 0, .int 0, .ref m_rows_58, .ref m_digits_59, .ref m_entries_60, .ref m_minors_61, .int 0, .int 0, .int 0, .int 0, .int 0, .int 0, .ref m_pointX_62, .ref m_pointH_63, .ref m_pointY_64, .ref m_those_65, .int 0, .int 0, .int 0, .int 0, .int 0, .ref m_does_66, .ref m_atomOf_67, .ref m_atomRel_68, .int 0, .int 0, .int 0, .ref m_signs_69, .ref m_stack_70, .ref m_xPoly_71, .ref m_xRoot_72, .int 0, .ref m_inBoth_73, .int 0, .ref m_truth_74, .int 0, .ref m_hasEnd_75, .ref m_belongs_76, .ref m_isSingle_77, .ref m_endPoly_78, .ref m_endRoot_79, .int 0, .ref m_small_80, .ref m_smallDegree_81, .int 0, .ref m_irreducible_82, .int 0, .ref m_stackOf_83, .int 0, .ref m_factorAt_84, .ref m_factorPower_85, .ref m_isKept_86, .ref m_keptPoly_87, .ref m_keptRoot_88, .int 0, .int 0, .int 0, .int 0, .int 0, .int 0])), (m_tape_55, .inl (cT_89, 400, .inl fT_90)), (m_rows_58, .inl (cR_91, 3468, .inr (.inl fR_92))), (m_isKept_86, .inl (cB_93, 8, .inl (fun _ => 0)))] H := hP
  have hD : va_D A [(q_1, .inr (11, [.ref x_desk_2, .ref x_reader_3, .ref x_cells_4, .ref x_tape_5, .int 0, .ref x_script_6, .int 0, .ref x_rootAt_7, .ref x_rootTimes_8, .int 0, .ref x_spotX_9, .ref x_spotY_10, .ref x_bond_11, .int 0, .ref x_end_12, .ref x_span_13, .int 0, .ref x_part_14, .ref x_partPower_15, .int 0, .ref x_kept_16])), (x_tape_5, .inl (cT_17, 400, .inl fT_18)), (x_kept_16, .inl (cK_19, 8, .inr (.inr (.inr (.inr (fun _ => none)))))), (x_reader_3, .inr (8, [.ref x_text_20, .int 0, .int 0, .int 0, .int 0, .int 0, .int 0, .ref x_left_21, .ref x_right_22, .ref x_told_23, .ref x_curve_24, .int 0, .int 0, .int 0, .int 0, .ref x_steps_25, .int 0, .ref x_stack_26, .int 0])), (x_left_21, .inr (2, [.ref x_c_27])), (x_c_27, .inl (cL_28, 9, .inr (.inr (.inr (.inr fc_29))))), (p0_30, .inr (6, [.ref x_desk_2, .ref y0_39, .int 0])), (p1_31, .inr (6, [.ref x_desk_2, .ref y1_40, .int 0])), (p2_32, .inr (6, [.ref x_desk_2, .ref y2_41, .int 0])), (p3_33, .inr (6, [.ref x_desk_2, .ref y3_42, .int 0])), (p4_34, .inr (6, [.ref x_desk_2, .ref y4_43, .int 0])), (p5_35, .inr (6, [.ref x_desk_2, .ref y5_44, .int 0])), (p6_36, .inr (6, [.ref x_desk_2, .ref y6_45, .int 0])), (p7_37, .inr (6, [.ref x_desk_2, .ref y7_46, .int 0])), (p8_38, .inr (6, [.ref x_desk_2, .ref y8_47, .int 0])), (q_49, .inr (12, [.ref m_mem_50, .int 232000, .int 0, .int 0, .int 0, .int 0, .int 0, .int 0, .int 0, .int 0, .int 0, .ref m_polys_51, .ref m_chains_52, .ref m_pairs_53, .int 0, .int 0, .int 0, .ref m_zeros_54, .ref m_tape_55, .ref m_outs_56, .ref m_text_57, .int 0, .int 0, .int 0, .int 0, .int 0, .int 0, .int 0, .ref m_rows_58, .ref m_digits_59, .ref m_entries_60, .ref m_minors_61, .int 0, .int 0, .int 0, .int 0, .int 0, .int 0, .ref m_pointX_62, .ref m_pointH_63, .ref m_pointY_64, .ref m_those_65, .int 0, .int 0, .int 0, .int 0, .int 0, .ref m_does_66, .ref m_atomOf_67, .ref m_atomRel_68, .int 0, .int 0, .int 0, .ref m_signs_69, .ref m_stack_70, .ref m_xPoly_71, .ref m_xRoot_72, .int 0, .ref m_inBoth_73, .int 0, .ref m_truth_74, .int 0, .ref m_hasEnd_75, .ref m_belongs_76, .ref m_isSingle_77, .ref m_endPoly_78, .ref m_endRoot_79, .int 0, .ref m_small_80, .ref m_smallDegree_81, .int 0, .ref m_irreducible_82, .int 0, .ref m_stackOf_83, .int 0, .ref m_factorAt_84, .ref m_factorPower_85, .ref m_isKept_86, .ref m_keptPoly_87, .ref m_keptRoot_88, .int 0, .int 0, .int 0, .int 0, .int 0, .int 0])), (m_tape_55, .inl (cT_89, 400, .inl fT_90)), (m_rows_58, .inl (cR_91, 3468, .inr (.inl fR_92))), (m_isKept_86, .inl (cB_93, 8, .inl (fun _ => 0)))] := hD
  have hK : va_K (dC, dI) classes [(cT_17, .int), (cK_19, .object "RealHouse$Real"), (cL_28, .object "RealHouse$Poly"), (cT_89, .int), (cR_91, .long), (cB_93, .boolean)] s := hK
  refine W.widen (k := 1475) (n := 1647117) (Nat.le_of_ble_eq_true rfl) (Nat.le_of_ble_eq_true rfl) ?_
  refine lv_astore_n (lv' := [(2, .ref q_49), (1, .ref q_1), (0, .ref b)]) hx hb d_law_15 rfl hl (by decide) rfl (fun ls hl => ?_)
  refine lv_iconst (v := 0) hx hb d_law_16 (by decide) ?_
  refine lv_istore_n (lv' := [(3, .int 0), (2, .ref q_49), (1, .ref q_1), (0, .ref b)]) hx hb d_law_17 rfl hl (by decide) rfl (fun ls hl => ?_)
  refine lv_iload_n hx hb d_law_18 rfl (lv_at hl 0 rfl) ?_
  refine lv_aload_n hx hb d_law_19 rfl (lv_at hl 3 rfl) ?_
  refine va_slen hx hb hXs hbl hbA hS d_law_20 ?_
  refine lv_bipush (v := 6) hx hb d_law_21 (by decide) ?_
  refine lv_isub hx hb d_law_23 ?_
  refine lv_topi (fun v_94 ev_94 => ?_)
  refine lv_icmp_gt (tgt := 875) hx hb d_law_24 (by decide) (fun c_0 => ?_) (fun c_0 => ?_)
  · refine lv_iconst (v := 1) hx hb d_law_875 (by decide) ?_
    refine va_forget (fun q hq => hAi _ (hS.2.2 q hq)) ?_
    refine W.widen (k := 600000) (n := 7302250) (Nat.le_of_ble_eq_true rfl) (Nat.le_of_ble_eq_true rfl) ?_
    exact lw_ret hx hb hr hlocks d_law_876
  · have hL6 : L = 6 := by
      rcases Nat.lt_or_ge L 6 with h | h
      · exfalso
        rcases (show L = 0 ∨ L = 1 ∨ L = 2 ∨ L = 3 ∨ L = 4 ∨ L = 5 by omega) with rfl | rfl | rfl | rfl | rfl | rfl <;> exact c_0 (by rw [ev_94]; decide)
      · omega
    subst hL6
    refine lv_aload_n hx hb d_law_27 rfl (lv_at hl 3 rfl) ?_
    refine lv_iload_n hx hb d_law_28 rfl (lv_at hl 0 rfl) ?_
    refine va_sld hx hb hXs hbl hbA hS (vp_in_nI (n := 0) (by decide) (by decide)) d_law_29 ?_
    refine lv_bipush (v := 31) hx hb d_law_30 (by decide) ?_
    refine lv_iand hx hb d_law_32 ?_
    refine lv_topi (fun v_95 ev_95 => ?_)
    rcases Decidable.em (v_95.toInt < 0 ∨ 22 < v_95.toInt) with ho | ho
    · refine lv_tableOut hx hb d_law_33 ho (tgt := 869) (by decide) ?_
      refine lv_iinc (v := 6) (lv' := [(3, .int 6), (2, .ref q_49), (1, .ref q_1), (0, .ref b)]) hx hb d_law_869 hl (k := 0) rfl (by decide) (by decide) rfl (fun ls hl => ?_)
      refine lv_goto (tgt := 18) hx hb d_law_872 (by decide) ?_
      refine lv_iload_n hx hb d_law_18 rfl (lv_at hl 0 rfl) ?_
      refine lv_aload_n hx hb d_law_19 rfl (lv_at hl 3 rfl) ?_
      refine va_slen hx hb hXs hbl hbA hS d_law_20 ?_
      refine lv_topi (fun v_96 ev_96 => ?_)
      obtain rfl : v_96 = 6 := ev_96.trans (by decide)
      refine lv_bipush (v := 6) hx hb d_law_21 (by decide) ?_
      refine lv_isub hx hb d_law_23 ?_
      refine lv_topi (fun v_97 ev_97 => ?_)
      obtain rfl : v_97 = 0 := ev_97.trans (by decide)
      refine lv_icmp_gt (tgt := 875) hx hb d_law_24 (by decide) (fun c_98 => ?_) (fun c_98 => absurd (by decide) c_98)
      refine lv_iconst (v := 1) hx hb d_law_875 (by decide) ?_
      refine va_forget (fun q hq => hAi _ (hS.2.2 q hq)) ?_
      refine W.widen (k := 600000) (n := 7302250) (Nat.le_of_ble_eq_true rfl) (Nat.le_of_ble_eq_true rfl) ?_
      exact lw_ret hx hb hr hlocks d_law_876
    · have hk : v_95.toInt = 0 ∨ v_95.toInt = 1 ∨ v_95.toInt = 2 ∨ v_95.toInt = 3 ∨ v_95.toInt = 4 ∨ v_95.toInt = 5 ∨ v_95.toInt = 6 ∨ v_95.toInt = 7 ∨ v_95.toInt = 8 ∨ v_95.toInt = 9 ∨ v_95.toInt = 10 ∨ v_95.toInt = 11 ∨ v_95.toInt = 12 ∨ v_95.toInt = 13 ∨ v_95.toInt = 14 ∨ v_95.toInt = 15 ∨ v_95.toInt = 16 ∨ v_95.toInt = 17 ∨ v_95.toInt = 18 ∨ v_95.toInt = 19 ∨ v_95.toInt = 20 ∨ v_95.toInt = 21 ∨ v_95.toInt = 22 := by omega
      rcases hk with hk | hk | hk | hk | hk | hk | hk | hk | hk | hk | hk | hk | hk | hk | hk | hk | hk | hk | hk | hk | hk | hk | hk
      · obtain rfl : v_95 = 0 := Int32.toInt_inj.mp (hk.trans (by decide))
        refine lv_tableIn (off := 107) (tgt := 140) hx hb d_law_33 (by decide) (by decide) (by decide) (by decide) ?_
        exact law_case_0 C0 hA hAi hN hp_48 hK hP hD hS hl
      · obtain rfl : v_95 = 1 := Int32.toInt_inj.mp (hk.trans (by decide))
        refine lv_tableIn (off := 170) (tgt := 203) hx hb d_law_33 (by decide) (by decide) (by decide) (by decide) ?_
        exact law_case_1 C0 hA hAi hN hp_48 hK hP hD hS hl
      · obtain rfl : v_95 = 2 := Int32.toInt_inj.mp (hk.trans (by decide))
        refine lv_tableIn (off := 193) (tgt := 226) hx hb d_law_33 (by decide) (by decide) (by decide) (by decide) ?_
        exact law_case_2 C0 hA hAi hN hp_48 hK hP hD hS hl
      · obtain rfl : v_95 = 3 := Int32.toInt_inj.mp (hk.trans (by decide))
        refine lv_tableIn (off := 226) (tgt := 259) hx hb d_law_33 (by decide) (by decide) (by decide) (by decide) ?_
        exact law_case_3 C0 hA hAi hN hp_48 hK hP hD hS hl
      · obtain rfl : v_95 = 4 := Int32.toInt_inj.mp (hk.trans (by decide))
        refine lv_tableIn (off := 249) (tgt := 282) hx hb d_law_33 (by decide) (by decide) (by decide) (by decide) ?_
        exact law_case_4 C0 hA hAi hN hp_48 hK hP hD hS hl
      · obtain rfl : v_95 = 5 := Int32.toInt_inj.mp (hk.trans (by decide))
        refine lv_tableIn (off := 272) (tgt := 305) hx hb d_law_33 (by decide) (by decide) (by decide) (by decide) ?_
        exact law_case_5 C0 hA hAi hN hp_48 hK hP hD hS hl
      · obtain rfl : v_95 = 6 := Int32.toInt_inj.mp (hk.trans (by decide))
        refine lv_tableIn (off := 305) (tgt := 338) hx hb d_law_33 (by decide) (by decide) (by decide) (by decide) ?_
        exact law_case_6 C0 hA hAi hN hp_48 hK hP hD hS hl
      · obtain rfl : v_95 = 7 := Int32.toInt_inj.mp (hk.trans (by decide))
        refine lv_tableIn (off := 338) (tgt := 371) hx hb d_law_33 (by decide) (by decide) (by decide) (by decide) ?_
        exact law_case_7 C0 hA hAi hN hp_48 hK hP hD hS hl
      · obtain rfl : v_95 = 8 := Int32.toInt_inj.mp (hk.trans (by decide))
        refine lv_tableIn (off := 371) (tgt := 404) hx hb d_law_33 (by decide) (by decide) (by decide) (by decide) ?_
        exact law_case_8 C0 hA hAi hN hp_48 hK hP hD hS hl
      · obtain rfl : v_95 = 9 := Int32.toInt_inj.mp (hk.trans (by decide))
        refine lv_tableIn (off := 394) (tgt := 427) hx hb d_law_33 (by decide) (by decide) (by decide) (by decide) ?_
        exact law_case_9 C0 hA hAi hN hp_48 hK hP hD hS hl
      · obtain rfl : v_95 = 10 := Int32.toInt_inj.mp (hk.trans (by decide))
        refine lv_tableIn (off := 437) (tgt := 470) hx hb d_law_33 (by decide) (by decide) (by decide) (by decide) ?_
        exact law_case_10 C0 hA hAi hN hp_48 hK hP hD hS hl
      · obtain rfl : v_95 = 11 := Int32.toInt_inj.mp (hk.trans (by decide))
        refine lv_tableIn (off := 470) (tgt := 503) hx hb d_law_33 (by decide) (by decide) (by decide) (by decide) ?_
        exact law_case_11 C0 hA hAi hN hp_48 hK hP hD hS hl
      · obtain rfl : v_95 = 12 := Int32.toInt_inj.mp (hk.trans (by decide))
        refine lv_tableIn (off := 493) (tgt := 526) hx hb d_law_33 (by decide) (by decide) (by decide) (by decide) ?_
        exact law_case_12 C0 hA hAi hN hp_48 hK hP hD hS hl
      · obtain rfl : v_95 = 13 := Int32.toInt_inj.mp (hk.trans (by decide))
        refine lv_tableIn (off := 516) (tgt := 549) hx hb d_law_33 (by decide) (by decide) (by decide) (by decide) ?_
        exact law_case_13 C0 hA hAi hN hp_48 hK hP hD hS hl
      · obtain rfl : v_95 = 14 := Int32.toInt_inj.mp (hk.trans (by decide))
        refine lv_tableIn (off := 549) (tgt := 582) hx hb d_law_33 (by decide) (by decide) (by decide) (by decide) ?_
        exact law_case_14 C0 hA hAi hN hp_48 hK hP hD hS hl
      · obtain rfl : v_95 = 15 := Int32.toInt_inj.mp (hk.trans (by decide))
        refine lv_tableIn (off := 592) (tgt := 625) hx hb d_law_33 (by decide) (by decide) (by decide) (by decide) ?_
        exact law_case_15 C0 hA hAi hN hp_48 hK hP hD hS hl
      · obtain rfl : v_95 = 16 := Int32.toInt_inj.mp (hk.trans (by decide))
        refine lv_tableIn (off := 615) (tgt := 648) hx hb d_law_33 (by decide) (by decide) (by decide) (by decide) ?_
        exact law_case_16 C0 hA hAi hN hp_48 hK hP hD hS hl
      · obtain rfl : v_95 = 17 := Int32.toInt_inj.mp (hk.trans (by decide))
        refine lv_tableIn (off := 638) (tgt := 671) hx hb d_law_33 (by decide) (by decide) (by decide) (by decide) ?_
        exact law_case_17 C0 hA hAi hN hp_48 hK hP hD hS hl
      · obtain rfl : v_95 = 18 := Int32.toInt_inj.mp (hk.trans (by decide))
        refine lv_tableIn (off := 661) (tgt := 694) hx hb d_law_33 (by decide) (by decide) (by decide) (by decide) ?_
        exact law_case_18 C0 hA hAi hN hp_48 hK hP hD hS hl
      · obtain rfl : v_95 = 19 := Int32.toInt_inj.mp (hk.trans (by decide))
        refine lv_tableIn (off := 694) (tgt := 727) hx hb d_law_33 (by decide) (by decide) (by decide) (by decide) ?_
        exact law_case_19 C0 hA hAi hN hp_48 hK hP hD hS hl
      · obtain rfl : v_95 = 20 := Int32.toInt_inj.mp (hk.trans (by decide))
        refine lv_tableIn (off := 747) (tgt := 780) hx hb d_law_33 (by decide) (by decide) (by decide) (by decide) ?_
        exact law_case_20 C0 hA hAi hN hp_48 hK hP hD hS hl
      · obtain rfl : v_95 = 21 := Int32.toInt_inj.mp (hk.trans (by decide))
        refine lv_tableIn (off := 770) (tgt := 803) hx hb d_law_33 (by decide) (by decide) (by decide) (by decide) ?_
        exact law_case_21 C0 hA hAi hN hp_48 hK hP hD hS hl
      · obtain rfl : v_95 = 22 := Int32.toInt_inj.mp (hk.trans (by decide))
        refine lv_tableIn (off := 803) (tgt := 836) hx hb d_law_33 (by decide) (by decide) (by decide) (by decide) ?_
        exact law_case_22 C0 hA hAi hN hp_48 hK hP hD hS hl
