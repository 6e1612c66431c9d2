def lw_g : List Cond := lw_tbl.filter goodWord
theorem tb_at {w : Cond} {i : Nat} (h : tables_1[i]? = some w) (hg : goodWord w = true) : w ∈ lw_g := List.mem_filter.mpr ⟨List.mem_append_right _ (List.mem_of_getElem? h), hg⟩
theorem tb_in {ws : List Cond} (ps : List Nat) (h : ws = ps.filterMap (fun i => tables_1[i]?)) (hg : ws.all goodWord = true) : ∀ w ∈ ws, w ∈ lw_g := by
  intro w hw
  have h1 := List.all_eq_true.mp hg w hw
  rw [h] at hw
  obtain ⟨i, -, hi⟩ := List.mem_filterMap.mp hw
  exact tb_at hi h1
theorem tb_sel {q : MethodName × Nat} {i : Nat} (h : lw_privs[i]? = some q) : Cond.selects q.1.cls q.1 q.1 ∈ lw_g := List.mem_filter.mpr ⟨List.mem_append_left _ (List.mem_map.mpr ⟨q, List.mem_of_getElem? h, rfl⟩), rfl⟩
theorem tb_goodIn : GoodIn lw_g lw_g := fun w h => ⟨h, good_of_word (List.mem_filter.mp h).2⟩
theorem tb_good1 {c : Cond} (h : c ∈ lw_g) : GoodIn lw_g (c :: lw_g) := fun w hw => (List.mem_cons.mp hw).elim (fun e => tb_goodIn w (e ▸ h)) (tb_goodIn w)
theorem tb_goodV {own C : String} {idx : Nat} {y : MethodName} {ws : List Cond} (hg : GoodIn lw_g ws) (h1 : Cond.methodLink own idx y ∈ lw_g) (h2 : Cond.instanceMethod y ∈ lw_g) (h3 : Cond.selects C y y ∈ lw_g) (h4 : Cond.initialized C ∈ lw_g) : GoodIn lw_g (wsV own idx C y ws) := by
  intro w hw
  rcases List.mem_append.mp hw with h | h
  · simp only [List.mem_cons, List.not_mem_nil, or_false] at h
    rcases h with rfl | rfl | rfl | rfl
    · exact tb_goodIn _ h1
    · exact tb_goodIn _ h2
    · exact tb_goodIn _ h3
    · exact tb_goodIn _ h4
  · exact hg w h
theorem nm_Q {p : Program} {l : Launch} {e : Env} {R : Room} {s : State} {m : MethodId} {args : Array Value} {below : List Frame} {meth : Method} {c : Code} {H : Heap} {locs : List Loc} {cells slots : Nat} {Q : State → Prop} {g : JFrame} (h : ∀ Q' : State → Prop, Q' = Q → W p l e R s m args below meth c H locs cells slots Q' g) : W p l e R s m args below meth c H locs cells slots Q g := h Q rfl
def nx_K (U : State) : Prop := va_AO "RealHouse$Real" U ∧ va_AO "RealHouse$Curve" U ∧ va_AO "RealHouse$Poly" U ∧ va_AO "RealHouse$Big" U ∧ mn_AO .long U ∧ mn_AO .int U ∧ va_Nw (.methodLinkNest "RealHouse$Desk" 11 ⟨"RealHouse$Big", "<init>", "()V"⟩ "RealHouse") U ∧ va_Nw (.methodLinkNest "RealHouse$Splitter" 11 ⟨"RealHouse$Prime", "<init>", "()V"⟩ "RealHouse") U ∧ va_Nw (.methodLinkNest "RealHouse$Splitter" 33 ⟨"RealHouse$Big", "<init>", "()V"⟩ "RealHouse") U ∧ va_Nw (.methodLinkNest "RealHouse$Line" 28 ⟨"RealHouse$Big", "<init>", "()V"⟩ "RealHouse") U ∧ va_Nw (.methodLinkNest "RealHouse$Real" 11 ⟨"RealHouse$Big", "<init>", "()V"⟩ "RealHouse") U ∧ va_Nw (.methodLinkNest "RealHouse$Poly" 50 ⟨"RealHouse$Big", "<init>", "()V"⟩ "RealHouse") U
theorem nx_K.same {u U : State} (e : u.vm = U.vm) (hN : nx_K u) : nx_K U := ⟨va_AO.moved (by rw [e]; exact Vm.Alike.refl _) hN.1, va_AO.moved (by rw [e]; exact Vm.Alike.refl _) hN.2.1, va_AO.moved (by rw [e]; exact Vm.Alike.refl _) hN.2.2.1, va_AO.moved (by rw [e]; exact Vm.Alike.refl _) hN.2.2.2.1, mn_AO.moved (by rw [e]; exact Vm.Alike.refl _) hN.2.2.2.2.1, mn_AO.moved (by rw [e]; exact Vm.Alike.refl _) hN.2.2.2.2.2.1, va_Nw.same rfl e hN.2.2.2.2.2.2.1, va_Nw.same rfl e hN.2.2.2.2.2.2.2.1, va_Nw.same rfl e hN.2.2.2.2.2.2.2.2.1, va_Nw.same rfl e hN.2.2.2.2.2.2.2.2.2.1, va_Nw.same rfl e hN.2.2.2.2.2.2.2.2.2.2.1, va_Nw.same rfl e hN.2.2.2.2.2.2.2.2.2.2.2⟩
theorem nx_K.warm {s U : State} (hW : s.WarmedH U.vm) (hN : nx_K s) : nx_K U := ⟨va_AO.moved hW.alike hN.1, va_AO.moved hW.alike hN.2.1, va_AO.moved hW.alike hN.2.2.1, va_AO.moved hW.alike hN.2.2.2.1, mn_AO.moved hW.alike hN.2.2.2.2.1, mn_AO.moved hW.alike hN.2.2.2.2.2.1, va_Nw.warmM hW hN.2.2.2.2.2.2.1, va_Nw.warmM hW hN.2.2.2.2.2.2.2.1, va_Nw.warmM hW hN.2.2.2.2.2.2.2.2.1, va_Nw.warmM hW hN.2.2.2.2.2.2.2.2.2.1, va_Nw.warmM hW hN.2.2.2.2.2.2.2.2.2.2.1, va_Nw.warmM hW hN.2.2.2.2.2.2.2.2.2.2.2⟩
def R_Big : String := "RealHouse$Big"
def F_Big : u_T := fun k => match k with
  | 0 => ("RealHouse$Big", "d", "[I", false)
  | 1 => ("RealHouse$Big", "n", "I", false)
  | _ => ("RealHouse$Big", "s", "I", false)
def t_Big : Nat → FieldType := fun k => match k with
  | 0 => .array .int
  | 1 => .int
  | _ => .int
theorem n_Big : ∀ a, a < 3 → ∀ b, b < 3 → a ≠ b → (F_Big a).2.1 ≠ (F_Big b).2.1 := by decide +kernel
theorem t_Big_ok : ∀ k, k < 3 → parseFieldDescriptor (F_Big k).2.2.1 = some (t_Big k) := by decide +kernel
theorem i_Big : ∀ w ∈ u_ws R_Big F_Big 3, w ∈ lw_g := tb_in [61, 63, 65] (by decide +kernel) (by decide +kernel)
def R_Cells : String := "RealHouse$Cells"
def F_Cells : u_T := fun k => match k with
  | 0 => ("RealHouse$Cells", "splitter", "LRealHouse$Splitter;", true)
  | 1 => ("RealHouse$Cells", "line", "LRealHouse$Line;", true)
  | 2 => ("RealHouse$Cells", "spare", "LRealHouse$Poly;", true)
  | 3 => ("RealHouse$Cells", "other", "LRealHouse$Poly;", true)
  | 4 => ("RealHouse$Cells", "curve", "[LRealHouse$Curve;", true)
  | 5 => ("RealHouse$Cells", "curves", "I", false)
  | 6 => ("RealHouse$Cells", "meet", "[LRealHouse$Poly;", true)
  | 7 => ("RealHouse$Cells", "shadow", "[LRealHouse$Poly;", true)
  | 8 => ("RealHouse$Cells", "shadows", "I", false)
  | 9 => ("RealHouse$Cells", "base", "[LRealHouse$Poly;", true)
  | 10 => ("RealHouse$Cells", "baseTimes", "[I", true)
  | 11 => ("RealHouse$Cells", "bases", "I", false)
  | 12 => ("RealHouse$Cells", "mark", "[LRealHouse$Real;", true)
  | 13 => ("RealHouse$Cells", "often", "[I", true)
  | 14 => ("RealHouse$Cells", "marks", "I", false)
  | 15 => ("RealHouse$Cells", "column", "[LRealHouse$Real;", true)
  | 16 => ("RealHouse$Cells", "columns", "I", false)
  | 17 => ("RealHouse$Cells", "tie", "LRealHouse$Curve;", true)
  | 18 => ("RealHouse$Cells", "flat", "LRealHouse$Curve;", true)
  | _ => ("RealHouse$Cells", "probe", "LRealHouse$Real;", true)
def t_Cells : Nat → FieldType := fun k => match k with
  | 0 => .object "RealHouse$Splitter"
  | 1 => .object "RealHouse$Line"
  | 2 => .object "RealHouse$Poly"
  | 3 => .object "RealHouse$Poly"
  | 4 => .array (.object "RealHouse$Curve")
  | 5 => .int
  | 6 => .array (.object "RealHouse$Poly")
  | 7 => .array (.object "RealHouse$Poly")
  | 8 => .int
  | 9 => .array (.object "RealHouse$Poly")
  | 10 => .array .int
  | 11 => .int
  | 12 => .array (.object "RealHouse$Real")
  | 13 => .array .int
  | 14 => .int
  | 15 => .array (.object "RealHouse$Real")
  | 16 => .int
  | 17 => .object "RealHouse$Curve"
  | 18 => .object "RealHouse$Curve"
  | _ => .object "RealHouse$Real"
theorem n_Cells : ∀ a, a < 20 → ∀ b, b < 20 → a ≠ b → (F_Cells a).2.1 ≠ (F_Cells b).2.1 := by decide +kernel
theorem t_Cells_ok : ∀ k, k < 20 → parseFieldDescriptor (F_Cells k).2.2.1 = some (t_Cells k) := by decide +kernel
theorem i_Cells : ∀ w ∈ u_ws R_Cells F_Cells 20, w ∈ lw_g := tb_in [574, 576, 578, 580, 582, 584, 586, 588, 590, 592, 594, 596, 598, 600, 602, 604, 606, 608, 610, 612] (by decide +kernel) (by decide +kernel)
def R_Curve : String := "RealHouse$Curve"
def F_Curve : u_T := fun k => match k with
  | _ => ("RealHouse$Curve", "c", "[LRealHouse$Poly;", true)
def t_Curve : Nat → FieldType := fun k => match k with
  | _ => .array (.object "RealHouse$Poly")
theorem n_Curve : ∀ a, a < 1 → ∀ b, b < 1 → a ≠ b → (F_Curve a).2.1 ≠ (F_Curve b).2.1 := by decide +kernel
theorem t_Curve_ok : ∀ k, k < 1 → parseFieldDescriptor (F_Curve k).2.2.1 = some (t_Curve k) := by decide +kernel
theorem i_Curve : ∀ w ∈ u_ws R_Curve F_Curve 1, w ∈ lw_g := tb_in [230] (by decide +kernel) (by decide +kernel)
def R_Desk : String := "RealHouse$Desk"
def F_Desk : u_T := fun k => match k with
  | 0 => ("RealHouse$Desk", "one", "LRealHouse$Big;", true)
  | 1 => ("RealHouse$Desk", "sixty", "LRealHouse$Big;", true)
  | 2 => ("RealHouse$Desk", "spare", "LRealHouse$Big;", true)
  | 3 => ("RealHouse$Desk", "told", "LRealHouse$Big;", true)
  | 4 => ("RealHouse$Desk", "f", "LRealHouse$Big;", true)
  | 5 => ("RealHouse$Desk", "g", "LRealHouse$Big;", true)
  | 6 => ("RealHouse$Desk", "h", "LRealHouse$Big;", true)
  | 7 => ("RealHouse$Desk", "gcd", "LRealHouse$Big;", true)
  | 8 => ("RealHouse$Desk", "gcdA", "LRealHouse$Big;", true)
  | 9 => ("RealHouse$Desk", "gcdB", "LRealHouse$Big;", true)
  | 10 => ("RealHouse$Desk", "gcdQ", "LRealHouse$Big;", true)
  | 11 => ("RealHouse$Desk", "narrow", "[LRealHouse$Big;", true)
  | 12 => ("RealHouse$Desk", "low", "LRealHouse$Big;", true)
  | 13 => ("RealHouse$Desk", "high", "LRealHouse$Big;", true)
  | 14 => ("RealHouse$Desk", "rest", "[LRealHouse$Big;", false)
  | 15 => ("RealHouse$Desk", "under", "[LRealHouse$Big;", false)
  | 16 => ("RealHouse$Desk", "over", "[LRealHouse$Big;", false)
  | 17 => ("RealHouse$Desk", "owner", "LRealHouse$Real;", false)
  | 18 => ("RealHouse$Desk", "tableLevel", "I", false)
  | _ => ("RealHouse$Desk", "tableSize", "I", false)
def t_Desk : Nat → FieldType := fun k => match k with
  | 0 => .object "RealHouse$Big"
  | 1 => .object "RealHouse$Big"
  | 2 => .object "RealHouse$Big"
  | 3 => .object "RealHouse$Big"
  | 4 => .object "RealHouse$Big"
  | 5 => .object "RealHouse$Big"
  | 6 => .object "RealHouse$Big"
  | 7 => .object "RealHouse$Big"
  | 8 => .object "RealHouse$Big"
  | 9 => .object "RealHouse$Big"
  | 10 => .object "RealHouse$Big"
  | 11 => .array (.object "RealHouse$Big")
  | 12 => .object "RealHouse$Big"
  | 13 => .object "RealHouse$Big"
  | 14 => .array (.object "RealHouse$Big")
  | 15 => .array (.object "RealHouse$Big")
  | 16 => .array (.object "RealHouse$Big")
  | 17 => .object "RealHouse$Real"
  | 18 => .int
  | _ => .int
theorem n_Desk : ∀ a, a < 20 → ∀ b, b < 20 → a ≠ b → (F_Desk a).2.1 ≠ (F_Desk b).2.1 := by decide +kernel
theorem t_Desk_ok : ∀ k, k < 20 → parseFieldDescriptor (F_Desk k).2.2.1 = some (t_Desk k) := by decide +kernel
theorem i_Desk : ∀ w ∈ u_ws R_Desk F_Desk 20, w ∈ lw_g := tb_in [136, 138, 140, 142, 144, 146, 148, 150, 152, 154, 156, 158, 160, 162, 164, 166, 168, 170, 172, 174] (by decide +kernel) (by decide +kernel)
def R_Line : String := "RealHouse$Line"
def F_Line : u_T := fun k => match k with
  | 0 => ("RealHouse$Line", "minors", "LRealHouse$Minors;", true)
  | 1 => ("RealHouse$Line", "at", "LRealHouse$Real;", false)
  | 2 => ("RealHouse$Line", "shape", "[LRealHouse$Curve;", true)
  | 3 => ("RealHouse$Line", "core", "[LRealHouse$Curve;", true)
  | 4 => ("RealHouse$Line", "slope", "LRealHouse$Curve;", true)
  | 5 => ("RealHouse$Line", "common", "LRealHouse$Curve;", true)
  | 6 => ("RealHouse$Line", "work", "[LRealHouse$Poly;", true)
  | 7 => ("RealHouse$Line", "here", "LRealHouse$Big;", true)
  | 8 => ("RealHouse$Line", "there", "LRealHouse$Big;", true)
  | 9 => ("RealHouse$Line", "scale", "[LRealHouse$Big;", true)
  | 10 => ("RealHouse$Line", "leftSign", "I", false)
  | 11 => ("RealHouse$Line", "c", "[LRealHouse$Big;", true)
  | 12 => ("RealHouse$Line", "k", "[I", true)
  | 13 => ("RealHouse$Line", "side", "[I", true)
  | 14 => ("RealHouse$Line", "owner", "[I", true)
  | 15 => ("RealHouse$Line", "twin", "[I", true)
  | 16 => ("RealHouse$Line", "count", "I", false)
  | 17 => ("RealHouse$Line", "rank", "[I", true)
  | 18 => ("RealHouse$Line", "ranks", "I", false)
  | _ => ("RealHouse$Line", "signs", "[I", true)
def t_Line : Nat → FieldType := fun k => match k with
  | 0 => .object "RealHouse$Minors"
  | 1 => .object "RealHouse$Real"
  | 2 => .array (.object "RealHouse$Curve")
  | 3 => .array (.object "RealHouse$Curve")
  | 4 => .object "RealHouse$Curve"
  | 5 => .object "RealHouse$Curve"
  | 6 => .array (.object "RealHouse$Poly")
  | 7 => .object "RealHouse$Big"
  | 8 => .object "RealHouse$Big"
  | 9 => .array (.object "RealHouse$Big")
  | 10 => .int
  | 11 => .array (.object "RealHouse$Big")
  | 12 => .array .int
  | 13 => .array .int
  | 14 => .array .int
  | 15 => .array .int
  | 16 => .int
  | 17 => .array .int
  | 18 => .int
  | _ => .array .int
theorem n_Line : ∀ a, a < 20 → ∀ b, b < 20 → a ≠ b → (F_Line a).2.1 ≠ (F_Line b).2.1 := by decide +kernel
theorem t_Line_ok : ∀ k, k < 20 → parseFieldDescriptor (F_Line k).2.2.1 = some (t_Line k) := by decide +kernel
theorem i_Line : ∀ w ∈ u_ws R_Line F_Line 20, w ∈ lw_g := tb_in [464, 466, 468, 470, 472, 474, 476, 478, 480, 482, 484, 486, 488, 490, 492, 494, 496, 498, 500, 502] (by decide +kernel) (by decide +kernel)
def R_Minors : String := "RealHouse$Minors"
def F_Minors : u_T := fun k => match k with
  | 0 => ("RealHouse$Minors", "desk", "LRealHouse$Desk;", true)
  | 1 => ("RealHouse$Minors", "place", "[LRealHouse$Poly;", true)
  | _ => ("RealHouse$Minors", "minor", "[LRealHouse$Poly;", true)
def t_Minors : Nat → FieldType := fun k => match k with
  | 0 => .object "RealHouse$Desk"
  | 1 => .array (.object "RealHouse$Poly")
  | _ => .array (.object "RealHouse$Poly")
theorem n_Minors : ∀ a, a < 3 → ∀ b, b < 3 → a ≠ b → (F_Minors a).2.1 ≠ (F_Minors b).2.1 := by decide +kernel
theorem t_Minors_ok : ∀ k, k < 3 → parseFieldDescriptor (F_Minors k).2.2.1 = some (t_Minors k) := by decide +kernel
theorem i_Minors : ∀ w ∈ u_ws R_Minors F_Minors 3, w ∈ lw_g := tb_in [421, 423, 425] (by decide +kernel) (by decide +kernel)
def R_Poly : String := "RealHouse$Poly"
def F_Poly : u_T := fun k => match k with
  | 0 => ("RealHouse$Poly", "desk", "LRealHouse$Desk;", true)
  | 1 => ("RealHouse$Poly", "c", "[LRealHouse$Big;", false)
  | _ => ("RealHouse$Poly", "n", "I", false)
def t_Poly : Nat → FieldType := fun k => match k with
  | 0 => .object "RealHouse$Desk"
  | 1 => .array (.object "RealHouse$Big")
  | _ => .int
theorem n_Poly : ∀ a, a < 3 → ∀ b, b < 3 → a ≠ b → (F_Poly a).2.1 ≠ (F_Poly b).2.1 := by decide +kernel
theorem t_Poly_ok : ∀ k, k < 3 → parseFieldDescriptor (F_Poly k).2.2.1 = some (t_Poly k) := by decide +kernel
theorem i_Poly : ∀ w ∈ u_ws R_Poly F_Poly 3, w ∈ lw_g := tb_in [217, 219, 221] (by decide +kernel) (by decide +kernel)
def R_Prime : String := "RealHouse$Prime"
def F_Prime : u_T := fun k => match k with
  | 0 => ("RealHouse$Prime", "row", "[[J", true)
  | 1 => ("RealHouse$Prime", "deg", "[I", true)
  | 2 => ("RealHouse$Prime", "wide", "[J", true)
  | 3 => ("RealHouse$Prime", "p", "J", false)
  | _ => ("RealHouse$Prime", "count", "I", false)
def t_Prime : Nat → FieldType := fun k => match k with
  | 0 => .array (.array .long)
  | 1 => .array .int
  | 2 => .array .long
  | 3 => .long
  | _ => .int
theorem n_Prime : ∀ a, a < 5 → ∀ b, b < 5 → a ≠ b → (F_Prime a).2.1 ≠ (F_Prime b).2.1 := by decide +kernel
theorem t_Prime_ok : ∀ k, k < 5 → parseFieldDescriptor (F_Prime k).2.2.1 = some (t_Prime k) := by decide +kernel
theorem i_Prime : ∀ w ∈ u_ws R_Prime F_Prime 5, w ∈ lw_g := tb_in [335, 337, 339, 341, 343] (by decide +kernel) (by decide +kernel)
def R_Reader : String := "RealHouse$Reader"
def F_Reader : u_T := fun k => match k with
  | 0 => ("RealHouse$Reader", "text", "[I", false)
  | 1 => ("RealHouse$Reader", "size", "I", false)
  | 2 => ("RealHouse$Reader", "at", "I", false)
  | 3 => ("RealHouse$Reader", "fault", "I", false)
  | 4 => ("RealHouse$Reader", "withX", "Z", false)
  | 5 => ("RealHouse$Reader", "withY", "Z", false)
  | 6 => ("RealHouse$Reader", "refused", "Z", false)
  | 7 => ("RealHouse$Reader", "left", "LRealHouse$Curve;", true)
  | 8 => ("RealHouse$Reader", "right", "LRealHouse$Curve;", true)
  | 9 => ("RealHouse$Reader", "told", "LRealHouse$Curve;", true)
  | 10 => ("RealHouse$Reader", "curve", "[LRealHouse$Curve;", true)
  | 11 => ("RealHouse$Reader", "curves", "I", false)
  | 12 => ("RealHouse$Reader", "outer", "I", false)
  | 13 => ("RealHouse$Reader", "inner", "I", false)
  | 14 => ("RealHouse$Reader", "swapped", "Z", false)
  | 15 => ("RealHouse$Reader", "steps", "[I", true)
  | 16 => ("RealHouse$Reader", "stepCount", "I", false)
  | 17 => ("RealHouse$Reader", "stack", "[I", true)
  | _ => ("RealHouse$Reader", "stacked", "I", false)
def t_Reader : Nat → FieldType := fun k => match k with
  | 0 => .array .int
  | 1 => .int
  | 2 => .int
  | 3 => .int
  | 4 => .boolean
  | 5 => .boolean
  | 6 => .boolean
  | 7 => .object "RealHouse$Curve"
  | 8 => .object "RealHouse$Curve"
  | 9 => .object "RealHouse$Curve"
  | 10 => .array (.object "RealHouse$Curve")
  | 11 => .int
  | 12 => .int
  | 13 => .int
  | 14 => .boolean
  | 15 => .array .int
  | 16 => .int
  | 17 => .array .int
  | _ => .int
theorem n_Reader : ∀ a, a < 19 → ∀ b, b < 19 → a ≠ b → (F_Reader a).2.1 ≠ (F_Reader b).2.1 := by decide +kernel
theorem t_Reader_ok : ∀ k, k < 19 → parseFieldDescriptor (F_Reader k).2.2.1 = some (t_Reader k) := by decide +kernel
theorem i_Reader : ∀ w ∈ u_ws R_Reader F_Reader 19, w ∈ lw_g := tb_in [263, 265, 267, 269, 271, 273, 275, 277, 279, 281, 283, 285, 287, 289, 291, 293, 295, 297, 299] (by decide +kernel) (by decide +kernel)
def R_Real : String := "RealHouse$Real"
def F_Real : u_T := fun k => match k with
  | 0 => ("RealHouse$Real", "desk", "LRealHouse$Desk;", true)
  | 1 => ("RealHouse$Real", "m", "LRealHouse$Poly;", true)
  | 2 => ("RealHouse$Real", "c", "LRealHouse$Big;", true)
  | 3 => ("RealHouse$Real", "k", "I", false)
  | 4 => ("RealHouse$Real", "floor", "I", false)
  | _ => ("RealHouse$Real", "ceil", "I", false)
def t_Real : Nat → FieldType := fun k => match k with
  | 0 => .object "RealHouse$Desk"
  | 1 => .object "RealHouse$Poly"
  | 2 => .object "RealHouse$Big"
  | 3 => .int
  | 4 => .int
  | _ => .int
theorem n_Real : ∀ a, a < 6 → ∀ b, b < 6 → a ≠ b → (F_Real a).2.1 ≠ (F_Real b).2.1 := by decide +kernel
theorem t_Real_ok : ∀ k, k < 6 → parseFieldDescriptor (F_Real k).2.2.1 = some (t_Real k) := by decide +kernel
theorem i_Real : ∀ w ∈ u_ws R_Real F_Real 6, w ∈ lw_g := tb_in [532, 534, 536, 538, 540, 542] (by decide +kernel) (by decide +kernel)
def R_Splitter : String := "RealHouse$Splitter"
def F_Splitter : u_T := fun k => match k with
  | 0 => ("RealHouse$Splitter", "desk", "LRealHouse$Desk;", true)
  | 1 => ("RealHouse$Splitter", "prime", "LRealHouse$Prime;", true)
  | 2 => ("RealHouse$Splitter", "found", "[LRealHouse$Poly;", true)
  | 3 => ("RealHouse$Splitter", "often", "[I", true)
  | 4 => ("RealHouse$Splitter", "count", "I", false)
  | 5 => ("RealHouse$Splitter", "lifted", "[LRealHouse$Poly;", true)
  | 6 => ("RealHouse$Splitter", "whole", "LRealHouse$Poly;", true)
  | 7 => ("RealHouse$Splitter", "rest", "LRealHouse$Poly;", true)
  | 8 => ("RealHouse$Splitter", "part", "LRealHouse$Poly;", true)
  | 9 => ("RealHouse$Splitter", "trial", "LRealHouse$Poly;", true)
  | 10 => ("RealHouse$Splitter", "slope", "LRealHouse$Poly;", true)
  | 11 => ("RealHouse$Splitter", "modulus", "LRealHouse$Big;", true)
  | 12 => ("RealHouse$Splitter", "next", "LRealHouse$Big;", true)
  | _ => ("RealHouse$Splitter", "value", "LRealHouse$Big;", true)
def t_Splitter : Nat → FieldType := fun k => match k with
  | 0 => .object "RealHouse$Desk"
  | 1 => .object "RealHouse$Prime"
  | 2 => .array (.object "RealHouse$Poly")
  | 3 => .array .int
  | 4 => .int
  | 5 => .array (.object "RealHouse$Poly")
  | 6 => .object "RealHouse$Poly"
  | 7 => .object "RealHouse$Poly"
  | 8 => .object "RealHouse$Poly"
  | 9 => .object "RealHouse$Poly"
  | 10 => .object "RealHouse$Poly"
  | 11 => .object "RealHouse$Big"
  | 12 => .object "RealHouse$Big"
  | _ => .object "RealHouse$Big"
theorem n_Splitter : ∀ a, a < 14 → ∀ b, b < 14 → a ≠ b → (F_Splitter a).2.1 ≠ (F_Splitter b).2.1 := by decide +kernel
theorem t_Splitter_ok : ∀ k, k < 14 → parseFieldDescriptor (F_Splitter k).2.2.1 = some (t_Splitter k) := by decide +kernel
theorem i_Splitter : ∀ w ∈ u_ws R_Splitter F_Splitter 14, w ∈ lw_g := tb_in [372, 374, 376, 378, 380, 382, 384, 386, 388, 390, 392, 394, 396, 398] (by decide +kernel) (by decide +kernel)
def R_House : String := "RealHouse"
def F_House : u_T := fun k => match k with
  | 0 => ("RealHouse", "desk", "LRealHouse$Desk;", true)
  | 1 => ("RealHouse", "reader", "LRealHouse$Reader;", true)
  | 2 => ("RealHouse", "cells", "LRealHouse$Cells;", true)
  | 3 => ("RealHouse", "tape", "[I", true)
  | 4 => ("RealHouse", "tapeSize", "I", false)
  | 5 => ("RealHouse", "script", "[I", false)
  | 6 => ("RealHouse", "scriptSize", "I", false)
  | 7 => ("RealHouse", "rootAt", "[LRealHouse$Real;", true)
  | 8 => ("RealHouse", "rootTimes", "[I", true)
  | 9 => ("RealHouse", "rootCount", "I", false)
  | 10 => ("RealHouse", "spotX", "[LRealHouse$Real;", true)
  | 11 => ("RealHouse", "spotY", "[LRealHouse$Real;", true)
  | 12 => ("RealHouse", "bond", "[LRealHouse$Curve;", true)
  | 13 => ("RealHouse", "spots", "I", false)
  | 14 => ("RealHouse", "end", "[LRealHouse$Real;", true)
  | 15 => ("RealHouse", "span", "[I", true)
  | 16 => ("RealHouse", "pieces", "I", false)
  | 17 => ("RealHouse", "part", "[LRealHouse$Poly;", true)
  | 18 => ("RealHouse", "partPower", "[I", true)
  | 19 => ("RealHouse", "parts", "I", false)
  | _ => ("RealHouse", "kept", "[LRealHouse$Real;", true)
def t_House : Nat → FieldType := fun k => match k with
  | 0 => .object "RealHouse$Desk"
  | 1 => .object "RealHouse$Reader"
  | 2 => .object "RealHouse$Cells"
  | 3 => .array .int
  | 4 => .int
  | 5 => .array .int
  | 6 => .int
  | 7 => .array (.object "RealHouse$Real")
  | 8 => .array .int
  | 9 => .int
  | 10 => .array (.object "RealHouse$Real")
  | 11 => .array (.object "RealHouse$Real")
  | 12 => .array (.object "RealHouse$Curve")
  | 13 => .int
  | 14 => .array (.object "RealHouse$Real")
  | 15 => .array .int
  | 16 => .int
  | 17 => .array (.object "RealHouse$Poly")
  | 18 => .array .int
  | 19 => .int
  | _ => .array (.object "RealHouse$Real")
theorem n_House : ∀ a, a < 21 → ∀ b, b < 21 → a ≠ b → (F_House a).2.1 ≠ (F_House b).2.1 := by decide +kernel
theorem t_House_ok : ∀ k, k < 21 → parseFieldDescriptor (F_House k).2.2.1 = some (t_House k) := by decide +kernel
theorem i_House : ∀ w ∈ u_ws R_House F_House 21, w ∈ lw_g := tb_in [636, 638, 640, 642, 644, 646, 648, 650, 652, 654, 656, 658, 660, 662, 664, 666, 668, 670, 672, 674, 676] (by decide +kernel) (by decide +kernel)
def R_Model : String := "RealHouseModel"
def F_Model : u_T := fun k => match k with
  | 0 => ("RealHouseModel", "mem", "[I", true)
  | 1 => ("RealHouseModel", "top", "I", false)
  | 2 => ("RealHouseModel", "rest", "I", false)
  | 3 => ("RealHouseModel", "roomEnd", "I", false)
  | 4 => ("RealHouseModel", "f", "I", false)
  | 5 => ("RealHouseModel", "m", "I", false)
  | 6 => ("RealHouseModel", "exact", "Z", false)
  | 7 => ("RealHouseModel", "least", "I", false)
  | 8 => ("RealHouseModel", "greatest", "I", false)
  | 9 => ("RealHouseModel", "found", "I", false)
  | 10 => ("RealHouseModel", "foundMany", "I", false)
  | 11 => ("RealHouseModel", "polys", "[I", true)
  | 12 => ("RealHouseModel", "chains", "[I", true)
  | 13 => ("RealHouseModel", "pairs", "[I", true)
  | 14 => ("RealHouseModel", "polysMany", "I", false)
  | 15 => ("RealHouseModel", "cells", "I", false)
  | 16 => ("RealHouseModel", "cellsMany", "I", false)
  | 17 => ("RealHouseModel", "zeros", "[I", true)
  | 18 => ("RealHouseModel", "tape", "[I", true)
  | 19 => ("RealHouseModel", "outs", "[I", true)
  | 20 => ("RealHouseModel", "text", "[I", true)
  | 21 => ("RealHouseModel", "length", "I", false)
  | 22 => ("RealHouseModel", "outMany", "I", false)
  | 23 => ("RealHouseModel", "size", "I", false)
  | 24 => ("RealHouseModel", "p", "I", false)
  | 25 => ("RealHouseModel", "bad", "I", false)
  | 26 => ("RealHouseModel", "mayX", "Z", false)
  | 27 => ("RealHouseModel", "mayY", "Z", false)
  | 28 => ("RealHouseModel", "rows", "[J", true)
  | 29 => ("RealHouseModel", "digits", "[I", true)
  | 30 => ("RealHouseModel", "entries", "[I", true)
  | 31 => ("RealHouseModel", "minors", "[I", true)
  | 32 => ("RealHouseModel", "rootsMany", "I", false)
  | 33 => ("RealHouseModel", "rootsOf", "I", false)
  | 34 => ("RealHouseModel", "rootsOnce", "I", false)
  | 35 => ("RealHouseModel", "rootsAt", "I", false)
  | 36 => ("RealHouseModel", "pointsMany", "I", false)
  | 37 => ("RealHouseModel", "pointsOf", "I", false)
  | 38 => ("RealHouseModel", "pointX", "[I", true)
  | 39 => ("RealHouseModel", "pointH", "[I", true)
  | 40 => ("RealHouseModel", "pointY", "[I", true)
  | 41 => ("RealHouseModel", "those", "[I", true)
  | 42 => ("RealHouseModel", "yPoly", "I", false)
  | 43 => ("RealHouseModel", "yChain", "I", false)
  | 44 => ("RealHouseModel", "yLow", "I", false)
  | 45 => ("RealHouseModel", "yHigh", "I", false)
  | 46 => ("RealHouseModel", "yExponent", "I", false)
  | 47 => ("RealHouseModel", "does", "[I", true)
  | 48 => ("RealHouseModel", "atomOf", "[I", true)
  | 49 => ("RealHouseModel", "atomRel", "[I", true)
  | 50 => ("RealHouseModel", "doesMany", "I", false)
  | 51 => ("RealHouseModel", "differentMany", "I", false)
  | 52 => ("RealHouseModel", "refused", "Z", false)
  | 53 => ("RealHouseModel", "signs", "[I", true)
  | 54 => ("RealHouseModel", "stack", "[Z", true)
  | 55 => ("RealHouseModel", "xPoly", "[I", true)
  | 56 => ("RealHouseModel", "xRoot", "[I", true)
  | 57 => ("RealHouseModel", "xMany", "I", false)
  | 58 => ("RealHouseModel", "inBoth", "[I", true)
  | 59 => ("RealHouseModel", "inner", "I", false)
  | 60 => ("RealHouseModel", "truth", "[Z", true)
  | 61 => ("RealHouseModel", "piecesMany", "I", false)
  | 62 => ("RealHouseModel", "hasEnd", "[Z", true)
  | 63 => ("RealHouseModel", "belongs", "[Z", true)
  | 64 => ("RealHouseModel", "isSingle", "[Z", true)
  | 65 => ("RealHouseModel", "endPoly", "[I", true)
  | 66 => ("RealHouseModel", "endRoot", "[I", true)
  | 67 => ("RealHouseModel", "prime", "I", false)
  | 68 => ("RealHouseModel", "small", "[[I", true)
  | 69 => ("RealHouseModel", "smallDegree", "[I", true)
  | 70 => ("RealHouseModel", "smallMany", "I", false)
  | 71 => ("RealHouseModel", "irreducible", "[I", true)
  | 72 => ("RealHouseModel", "irreducibleMany", "I", false)
  | 73 => ("RealHouseModel", "stackOf", "[I", true)
  | 74 => ("RealHouseModel", "factorsMany", "I", false)
  | 75 => ("RealHouseModel", "factorAt", "[I", true)
  | 76 => ("RealHouseModel", "factorPower", "[I", true)
  | 77 => ("RealHouseModel", "isKept", "[Z", true)
  | 78 => ("RealHouseModel", "keptPoly", "[I", true)
  | 79 => ("RealHouseModel", "keptRoot", "[I", true)
  | 80 => ("RealHouseModel", "lowA", "I", false)
  | 81 => ("RealHouseModel", "highA", "I", false)
  | 82 => ("RealHouseModel", "expA", "I", false)
  | 83 => ("RealHouseModel", "lowB", "I", false)
  | 84 => ("RealHouseModel", "highB", "I", false)
  | _ => ("RealHouseModel", "expB", "I", false)
def t_Model : Nat → FieldType := fun k => match k with
  | 0 => .array .int
  | 1 => .int
  | 2 => .int
  | 3 => .int
  | 4 => .int
  | 5 => .int
  | 6 => .boolean
  | 7 => .int
  | 8 => .int
  | 9 => .int
  | 10 => .int
  | 11 => .array .int
  | 12 => .array .int
  | 13 => .array .int
  | 14 => .int
  | 15 => .int
  | 16 => .int
  | 17 => .array .int
  | 18 => .array .int
  | 19 => .array .int
  | 20 => .array .int
  | 21 => .int
  | 22 => .int
  | 23 => .int
  | 24 => .int
  | 25 => .int
  | 26 => .boolean
  | 27 => .boolean
  | 28 => .array .long
  | 29 => .array .int
  | 30 => .array .int
  | 31 => .array .int
  | 32 => .int
  | 33 => .int
  | 34 => .int
  | 35 => .int
  | 36 => .int
  | 37 => .int
  | 38 => .array .int
  | 39 => .array .int
  | 40 => .array .int
  | 41 => .array .int
  | 42 => .int
  | 43 => .int
  | 44 => .int
  | 45 => .int
  | 46 => .int
  | 47 => .array .int
  | 48 => .array .int
  | 49 => .array .int
  | 50 => .int
  | 51 => .int
  | 52 => .boolean
  | 53 => .array .int
  | 54 => .array .boolean
  | 55 => .array .int
  | 56 => .array .int
  | 57 => .int
  | 58 => .array .int
  | 59 => .int
  | 60 => .array .boolean
  | 61 => .int
  | 62 => .array .boolean
  | 63 => .array .boolean
  | 64 => .array .boolean
  | 65 => .array .int
  | 66 => .array .int
  | 67 => .int
  | 68 => .array (.array .int)
  | 69 => .array .int
  | 70 => .int
  | 71 => .array .int
  | 72 => .int
  | 73 => .array .int
  | 74 => .int
  | 75 => .array .int
  | 76 => .array .int
  | 77 => .array .boolean
  | 78 => .array .int
  | 79 => .array .int
  | 80 => .int
  | 81 => .int
  | 82 => .int
  | 83 => .int
  | 84 => .int
  | _ => .int
theorem n_Model : ∀ a, a < 86 → ∀ b, b < 86 → a ≠ b → (F_Model a).2.1 ≠ (F_Model b).2.1 := by decide +kernel
theorem t_Model_ok : ∀ k, k < 86 → parseFieldDescriptor (F_Model k).2.2.1 = some (t_Model k) := by decide +kernel
theorem i_Model : ∀ w ∈ u_ws R_Model F_Model 86, w ∈ lw_g := tb_in [1689, 1691, 1693, 1695, 1697, 1699, 1701, 1703, 1705, 1707, 1709, 1711, 1713, 1715, 1717, 1719, 1721, 1723, 1725, 1727, 1729, 1731, 1733, 1735, 1737, 1739, 1741, 1743, 1745, 1747, 1749, 1751, 1753, 1755, 1757, 1759, 1761, 1763, 1765, 1767, 1769, 1771, 1773, 1775, 1777, 1779, 1781, 1783, 1785, 1787, 1789, 1791, 1793, 1795, 1797, 1799, 1801, 1803, 1805, 1807, 1809, 1811, 1813, 1815, 1817, 1819, 1821, 1823, 1825, 1827, 1829, 1831, 1833, 1835, 1837, 1839, 1841, 1843, 1845, 1847, 1849, 1851, 1853, 1855, 1857, 1859] (by decide +kernel) (by decide +kernel)
abbrev classes : List vw_C := [(R_Big, F_Big, 3), (R_Cells, F_Cells, 20), (R_Curve, F_Curve, 1), (R_Desk, F_Desk, 20), (R_Line, F_Line, 20), (R_Minors, F_Minors, 3), (R_Poly, F_Poly, 3), (R_Prime, F_Prime, 5), (R_Reader, F_Reader, 19), (R_Real, F_Real, 6), (R_Splitter, F_Splitter, 14), (R_House, F_House, 21), (R_Model, F_Model, 86)]
theorem z_eq {n : Int32} (h1 : ¬ n < 0) (h2 : n ≤ 0) : n = 0 := Int32.le_antisymm h2 (Int32.not_lt.mp h1)
theorem z_lt {n : Int32} (h : n < 0) : ¬ n = 0 := fun e => by subst e; exact absurd h (by decide)
theorem z_gt {n : Int32} (h : ¬ n ≤ 0) : ¬ n = 0 := fun e => by subst e; exact absurd (by decide) h
theorem z_in {j : Int32} {N : Nat} {M : Int32} (hM : M.toInt = N) (h0 : ¬ j < 0) (h1 : ¬ M ≤ j) : vp_in j N := by
  refine vp_in_iff.mpr ⟨?_, ?_⟩
  · have := Int32.not_lt.mp h0
    exact Int32.le_iff_toInt_le.mp this
  · have := Int32.not_le.mp h1
    rw [← hM]
    exact Int32.lt_iff_toInt_lt.mp this
