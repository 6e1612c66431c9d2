-- an array of arrays of numbers: the instruction that makes it (the kit has no row of it); what is in it is let go
section GRID
def mn_in (comp : ClassId) (M : Nat) (dv : Value) : Cell := { cls := comp, slots := Array.replicate M dv }
def mn_out (cA : ClassId) (N h : Nat) : Nat → Cell
  | 0 => { cls := cA, slots := Array.replicate N .null }
  | i + 1 => (mn_out cA N h i).setSlot i (.ref (h + 1 + i))
def mn_fill (T : State) (cA comp : ClassId) (N M : Nat) (dv : Value) : Nat → State
  | 0 => T.pushCell (mn_out cA N T.heap.size 0)
  | i + 1 => ((mn_fill T cA comp N M dv i).pushCell (mn_in comp M dv)).setCell T.heap.size (mn_out cA N T.heap.size (i + 1))
theorem mn_out_is (cA : ClassId) (N h : Nat) : ∀ i, (mn_out cA N h i).cls = cA ∧ (mn_out cA N h i).vm = .none ∧ (mn_out cA N h i).slots.size = N := by
  intro i
  induction i with
  | zero => exact ⟨rfl, rfl, by simp [mn_out]⟩
  | succ i ih =>
    obtain ⟨a, b, d⟩ := ih
    refine ⟨?_, ?_, ?_⟩
    · simpa [mn_out, Cell.setSlot] using a
    · simpa [mn_out, Cell.setSlot] using b
    · simpa [mn_out, Cell.setSlot] using d
theorem mn_fill_is (T : State) (cA comp : ClassId) (N M : Nat) (dv : Value) : ∀ i, (mn_fill T cA comp N M dv i).vm = T.vm ∧ (mn_fill T cA comp N M dv i).heap.size = T.heap.size + 1 + i ∧ (mn_fill T cA comp N M dv i).slotsUsed = T.slotsUsed + N + i * M ∧ (mn_fill T cA comp N M dv i).heap[T.heap.size]? = some (mn_out cA N T.heap.size i) ∧ (∀ q, q < T.heap.size → (mn_fill T cA comp N M dv i).heap[q]? = T.heap[q]?) := by
  intro i
  induction i with
  | zero =>
    refine ⟨rfl, ?_, ?_, ?_, ?_⟩
    · simp [mn_fill]
    · simp [mn_fill, mn_out]
    · simp [mn_fill]
    · intro q hq
      simp only [mn_fill, State.heap_pushCell]
      rw [Array.getElem?_push, if_neg (Nat.ne_of_lt hq)]
  | succ i ih =>
    obtain ⟨h1, h2, h3, h4, h5⟩ := ih
    refine ⟨?_, ?_, ?_, ?_, ?_⟩
    · exact h1
    · show ((mn_fill T cA comp N M dv i).heap.push _ |>.setIfInBounds _ _).size = _
      simp [h2]; omega
    · show (mn_fill T cA comp N M dv i).slotsUsed + (mn_in comp M dv).slots.size = _
      rw [h3, Nat.succ_mul]
      simp [mn_in]; omega
    · show ((mn_fill T cA comp N M dv i).heap.push _ |>.setIfInBounds _ _)[_]? = _
      rw [Array.getElem?_setIfInBounds_self_of_lt (by simp [h2]; omega)]
    · intro q hq
      show ((mn_fill T cA comp N M dv i).heap.push _ |>.setIfInBounds _ _)[_]? = _
      rw [Array.getElem?_setIfInBounds_ne (by omega), Array.getElem?_push, if_neg (by omega)]
      exact h5 q hq
theorem mn_fill_top (T : State) (f : JFrame) (cA comp : ClassId) (N M : Nat) (dv : Value) : ∀ i, mn_fill (T.setTop f) cA comp N M dv i = (mn_fill T cA comp N M dv i).setTop f := by
  intro i
  induction i with
  | zero => rfl
  | succ i ih => simp only [mn_fill, ih]; rfl
variable {p : Program} {l : Launch} {e : Env} {R : Room} {s : State} {m : MethodId} {args : Array Value} {below : List Frame} {meth : Method} {c : Code} {H : Heap} {locs : List Loc} {cells slots : Nat} {Q : State → Prop}
theorem mn_fill_stand {T : State} (X : Stand p l e R s m args below meth c T locs cells slots) (cA comp : ClassId) (N M : Nat) (dv : Value) : ∀ i, ∃ locs1 : List Loc, Stand p l e R s m args below meth c (mn_fill T cA comp N M dv i) locs1 (cells + 1 + i) (slots + N + i * M) ∧ ∀ q ∈ locs1, q ∈ locs ∨ T.heap.size ≤ q.base := by
  intro i
  induction i with
  | zero =>
    have h := X.pushed (mn_out cA N T.heap.size 0)
    rw [(mn_out_is cA N T.heap.size 0).2.2] at h
    exact ⟨locs, by simpa [mn_fill] using h, fun q hq => Or.inl hq⟩
  | succ i ih =>
    obtain ⟨locs1, X1, hl⟩ := ih
    obtain ⟨h1, h2, h3, h4, h5⟩ := mn_fill_is T cA comp N M dv i
    have hc : ((mn_fill T cA comp N M dv i).pushCell (mn_in comp M dv)).heap[T.heap.size]? = some (mn_out cA N T.heap.size i) := by
      rw [State.heap_pushCell, Array.getElem?_push, if_neg (by omega)]
      exact h4
    have h := (X1.pushed (mn_in comp M dv)).stored hc i (.ref (T.heap.size + 1 + i))
    refine ⟨locs1 ++ [⟨T.heap.size, i⟩], ?_, fun q hq => ?_⟩
    · have e1 : (mn_in comp M dv).slots.size = M := by simp [mn_in]
      rw [e1] at h
      rw [show slots + N + (i + 1) * M = slots + N + i * M + M by rw [Nat.succ_mul]; omega]
      exact h
    · rcases List.mem_append.mp hq with h6 | h6
      · exact hl q h6
      · rw [List.mem_singleton.mp h6]; exact Or.inr (Nat.le_refl _)
theorem mn_rf {t : FieldType} (h : t.isReference = true) (v : Value) (hv : v = .null ∨ ∃ a, v = .ref a) : fits t v = true := by
  rcases hv with rfl | ⟨a, rfl⟩ <;> cases t <;> simp [FieldType.isReference] at h <;> rfl
theorem mn_make {E : CtlPost} {d : Bool} {acts : List Action} {t : State} {cA comp cc : ClassId} {kA kC : Class} {ty : FieldType} {n k : Int32} {N M : Nat} (hN : n.toNatClampNeg = N) (hM : k.toNatClampNeg = M) (hA : t.vm.classes[cA]? = some kA) (hkA : kA.kind = .array comp (.array ty)) (hC : t.vm.classes[comp]? = some kC) (hkC : kC.kind = .array cc ty) (hn : ¬ n < 0) (hk : ¬ k < 0)
    (hl1 : ¬ N > e.platform.arrayLengthLimit) (hh1 : ¬ N * componentBytes (.array ty) > e.platform.maxHeapBytes) (hl2 : ¬ M > e.platform.arrayLengthLimit) (hh2 : ¬ M * componentBytes ty > e.platform.maxHeapBytes) (hdf : fits ty (defaultValue ty) = true)
    (hc : t.heap.size + 1 + N ≤ e.platform.maxCells) (hs : t.slotsUsed + N + N * M ≤ e.platform.maxSlots) {Qm : Addr → Pre}
    (hq : ∀ d' acts', Qm t.heap.size d' acts' (mn_fill t cA comp N M (defaultValue ty) N)) : wp (multianewarray.make cA [n, k]) Qm E e d acts t := by
  subst hN; subst hM
  have hnone : ([k].find? (· < 0)) = none := by simp [hk]
  rw [multianewarray.make]
  simp only [wp_bind', W.ite, hn, if_false, wp_pure', W.theClass, hA, hkA, Option.some.injEq, exists_eq_left']
  refine W.newArray_of hA hkA hl1 hh1 (by omega) (by have := Nat.zero_le (n.toNatClampNeg * k.toNatClampNeg); omega) (mn_rf rfl _ (Or.inl rfl)) (fun acts1 => ?_)
  simp only [hnone]
  rw [ite_self, wp_bind', Std.Legacy.Range.forIn_eq_forIn_range']
  have hsz : ([:n.toNatClampNeg] : Std.Legacy.Range).size = n.toNatClampNeg := by simp [Std.Legacy.Range.size]
  rw [hsz]
  show wp (forIn (List.range' 0 n.toNatClampNeg 1) PUnit.unit _) _ E e d acts1 _
  refine wp_forIn_inv (fun rest u => ∃ i, i ≤ n.toNatClampNeg ∧ rest = List.range' i (n.toNatClampNeg - i) ∧ u = mn_fill t cA comp n.toNatClampNeg k.toNatClampNeg (defaultValue ty) i) _ _ ⟨0, Nat.zero_le _, rfl, rfl⟩ ?_ ?_
  · intro x rest u d2 acts2 Q2 hI hnext
    obtain ⟨i, hi, hl, rfl⟩ := hI
    have hlt : i < n.toNatClampNeg := by
      rcases Nat.lt_or_ge i n.toNatClampNeg with h | h
      · exact h
      · rw [show n.toNatClampNeg - i = 0 by omega] at hl; simp at hl
    rw [show n.toNatClampNeg - i = (n.toNatClampNeg - (i + 1)) + 1 by omega, List.range'_succ] at hl
    obtain ⟨rfl, hrest⟩ := List.cons.inj hl
    obtain ⟨h1, h2, h3, h4, h5⟩ := mn_fill_is t cA comp n.toNatClampNeg k.toNatClampNeg (defaultValue ty) x
    obtain ⟨o1, o2, o3⟩ := mn_out_is cA n.toNatClampNeg t.heap.size x
    have hmul : (x + 1) * k.toNatClampNeg ≤ n.toNatClampNeg * k.toNatClampNeg := Nat.mul_le_mul_right _ hlt
    rw [Nat.succ_mul] at hmul
    simp only [wp_bind']
    rw [multianewarray.make]
    simp only [wp_bind', W.ite, hk, if_false, wp_pure', W.theClass, h1, hC, hkC, Option.some.injEq, exists_eq_left']
    refine W.newArray_of (by rw [h1]; exact hC) hkC hl2 hh2 (by rw [h2]; omega) (by rw [h3]; omega) hdf (fun acts3 => ?_)
    simp only [wp_bind', W.writeLoc, wp_pure']
    refine ⟨mn_out cA n.toNatClampNeg t.heap.size x, ?_, by rw [o2]; simp, by rw [o3]; exact hlt, ?_, hnext _ _ _ ⟨x + 1, hlt, hrest, ?_⟩⟩
    · rw [State.heap_pushCell, Array.getElem?_push, if_neg (by omega)]; exact h4
    · rw [o1, o2]
      simp [State.fitsSlot, State.slotType?, h1, hA, hkA, mn_rf (t := .array ty) rfl _ (Or.inr ⟨_, rfl⟩)]
    · rw [h2]; rfl
  · intro u d2 acts2 hI
    obtain ⟨i, hi, hl, rfl⟩ := hI
    have hiN : i = n.toNatClampNeg := by
      rcases Nat.lt_or_ge i n.toNatClampNeg with h | h
      · rw [show n.toNatClampNeg - i = (n.toNatClampNeg - (i + 1)) + 1 by omega, List.range'_succ] at hl; cases hl
      · omega
    subst hiN
    simp only [wp_pure']
    exact hq _ _
theorem mn_grid {cc : ByteArray} (hexec : p.tables.exec = Jvm.exec) (hb : c.code = cc) {own : String} {index : Nat} {ty : FieldType} (hown : s.vm.findClass own = some m.cls) (hclink : (Cond.classLink own index ("[" ++ (FieldType.array ty).toString)).before args s = true) (hover : (Cond.arrayOver (.array ty)).before args s = true) (harr : (Cond.arrayClass ty).before args s = true)
    {g : JFrame} (hg : g.method = m) (hdg : decode cc g.pc = .ok (.multianewarray index 2, 4)) {n k : Int32} {rest : List Value} (hstack : g.stack = .int k :: .int n :: rest) (hn : ¬ n < 0) (hk : ¬ k < 0) {N M : Nat} (hN : n.toNatClampNeg = N) (hM : k.toNatClampNeg = M) (hb1 : N * 4 ≤ 536870912) (hb2 : M * componentBytes ty ≤ 536870912) (hb3 : M ≤ 536870912) (hdf : fits ty (defaultValue ty) = true) (hcells : cells + (1 + N) ≤ R.cells) (hslots : slots + (N + N * M) ≤ R.slots)
    (kk : ∀ (H1 : Heap) (locs1 : List Loc), H.size ≤ H1.size → (∀ q, q < H.size → H1[q]? = H[q]?) → (∀ q ∈ locs1, q ∈ locs ∨ H.size ≤ q.base) → W p l e R s m args below meth c H1 locs1 (cells + 1 + N) (slots + N + N * M) Q { g with pc := g.pc + 4, stack := .ref H.size :: rest }) : W p l e R s m args below meth c H locs cells slots Q g := by
  intro T hT X
  subst hT; subst hb; subst hg
  have hpl : e.platform.magicAccessors = ({} : Platform).magicAccessors := by rw [X.admits.platform]
  obtain ⟨comp, cA, kA, hcomp, hidx, hkA, hkindA, hnameA⟩ := arrayOverA_spec hover
  obtain ⟨comp', kC, c9, hcomp', hkC, hkindC⟩ := Cond.arrayClass_spec harr
  have ec : comp' = comp := Option.some.inj (hcomp'.symm.trans hcomp)
  subst ec
  obtain ⟨c0, hfc0, hcl⟩ := Cond.classLink_spec hown hclink e.platform hpl
  cases hnameA.symm.trans hfc0
  obtain ⟨hg₁, hwarm₁, hready₁⟩ := State.classEntry (e := e) X.warmed hcl
  generalize T.vm.noted g.method.cls index (.cls cA) = vm₁ at hg₁ hwarm₁ hready₁
  have hal : s.vm.Alike vm₁ := hwarm₁.alike
  obtain ⟨kA₁, hkA₁, heA⟩ := hal.2.2 _ _ hkA
  obtain ⟨kC₁, hkC₁, heC⟩ := hal.2.2 _ _ hkC
  have hkA2 : kA₁.kind = .array comp' (.array ty) := by rw [heA]; exact hkindA
  have hkC2 : kC₁.kind = .array c9 ty := by rw [heC]; exact hkindC
  have X₁ := X.noted hwarm₁
  obtain ⟨hr1, hr2⟩ := X.roomAbove hcells hslots
  obtain ⟨locs1, X2, hl1⟩ := mn_fill_stand X₁ cA comp' N M (defaultValue ty) N
  obtain ⟨f1, f2, f3, f4, f5⟩ := mn_fill_is (T.setVm vm₁) cA comp' N M (defaultValue ty) N
  obtain ⟨t', a1, b1⟩ := kk _ locs1 (by rw [f2]; show T.heap.size ≤ _; exact Nat.le_trans (Nat.le_succ _) (Nat.le_add_right _ _)) f5 hl1 _ rfl X2
  refine ⟨t', ?_, b1⟩
  have q1 : ¬ N > e.platform.arrayLengthLimit := by rw [Launch.admits_arrayLengthLimit X.admits]; omega
  have q2 : ¬ N * componentBytes (.array ty) > e.platform.maxHeapBytes := by
    rw [Launch.admits_maxHeapBytes X.admits]; show ¬ N * 4 > 536870912; omega
  have q3 : ¬ M > e.platform.arrayLengthLimit := by rw [Launch.admits_arrayLengthLimit X.admits]; omega
  have q4 : ¬ M * componentBytes ty > e.platform.maxHeapBytes := by rw [Launch.admits_maxHeapBytes X.admits]; omega
  jvm_step X.here [hexec, hdg]
  simp only [multianewarray.sem, wp_bind', W.resolveClassAt_links (State.method?_setTop g X.here.top) hg₁]
  rw [W.popN, if_neg (by decide)]
  refine ⟨g, State.topJava?_setTop' (s := T.setVm vm₁) g X.here.top, [.int n, .int k], rest, rfl, hstack, ?_⟩
  simp only [List.mapM_cons, List.mapM_nil, wp_bind', wp_pure']
  refine mn_make (kA := kA₁) (kC := kC₁) (comp := comp') (cc := c9) hN hM hkA₁ hkA2 hkC₁ hkC2 hn hk q1 q2 q3 q4 hdf (by show T.heap.size + 1 + _ ≤ _; omega) (by show T.slotsUsed + _ + _ ≤ _; omega) (fun d' acts' => ?_)
  have eS : ((T.setTop g).setVm vm₁).setTop { g with stack := rest } = (T.setVm vm₁).setTop { g with stack := rest } := by
    show ((T.setVm vm₁).setTop g).setTop _ = _
    rw [State.setTop_setTop]
  rw [eS, mn_fill_top]
  simp only [wp_bind', W.mark, W.pushRef, State.topJava?_setTop' _ X2.here.top, Option.some.injEq, exists_eq_left', State.setTop_setTop, State.heap_setTop]
  intro acts
  simp [jvm, X2.here.top]
  exact a1
theorem mn_ref {pc : Nat} {ls : Array Slot} {a : Nat} {rest : List Value} (h : ∀ q : Nat, W p l e R s m args below meth c H locs cells slots Q (F0 m pc ls (.ref q :: rest))) : W p l e R s m args below meth c H locs cells slots Q (F0 m pc ls (.ref a :: rest)) := h a
end GRID
-- an array class over arrays of numbers: it is the same where the tables are alike
def mn_AO (t : FieldType) (U : State) : Prop := (Cond.arrayOver (.array t)).before #[] U = true
theorem mn_AO.of {t : FieldType} {A : Array Value} {U : State} (h : (Cond.arrayOver (.array t)).before A U = true) : mn_AO t U := h
theorem mn_AO.moved {t : FieldType} {u U : State} (hvm : u.vm.Alike U.vm) (h : mn_AO t u) : mn_AO t U := by
  obtain ⟨comp, c, k, h1, h2, h3, h4, h5⟩ := arrayOverA_spec h
  obtain ⟨k', hk', he⟩ := hvm.2.2 _ _ h3
  have hi : (U.vm.classes.findIdx? fun (x : Class) => match x.kind with | .array component _ => component == comp | _ => false) = some c := by
    rw [hvm.findIdx?_eq _ (fun _ => rfl)]
    exact h2
  have hkind : k'.kind = .array comp (.array t) := by rw [he]; exact h4
  have f1 : U.vm.findClass (FieldType.array t).toString = some comp := by rw [hvm.findClass]; exact h1
  have f2 : U.vm.findClass ("[" ++ (FieldType.array t).toString) = some c := by rw [hvm.findClass]; exact h5
  unfold mn_AO Cond.before Cond.holds
  simp only [Cond.value]
  rw [f1, Option.bind_some]
  refine (congrArg (fun o : Option Nat => (o.bind (fun c => (U.vm.classes[c]?).map fun (k : Class) => match k.kind with | .array _ ty => decide (ty = FieldType.array t) && decide (U.vm.findClass ("[" ++ (FieldType.array t).toString) = some c) | _ => false) == some true)) hi).trans ?_
  simp [hk', hkind, f2]
