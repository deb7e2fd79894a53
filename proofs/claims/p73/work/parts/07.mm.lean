section MM
variable {p : Program} {l : Launch} {e : Env} {R : Room} {s : State} {m : MethodId} {args : Array Value} {below : List Frame} {meth : Method} {c : Code} {H : Heap} {locs : List Loc} {cells slots : Nat} {Q : State → Prop}
variable {cc : ByteArray} {pc : Nat} {ls : Array Slot} {rest : List Value} {D : va_G} {A : Nat → Prop} {tys : List (ClassId × FieldType)} {ws : va_W} {H0 : Heap}
/-- how far 'new int[N][K]' has come: i inner rows stand in their places -/
def mmI (Sd : State → List Loc → Nat → Nat → Prop) (T0 : State) (locs : List Loc) (cells slots : Nat) (cA : ClassId) (N K i : Nat) (T : State) : Prop :=
  T.vm = T0.vm ∧ T.heap.size = T0.heap.size + 1 + i ∧ T.slotsUsed = T0.slotsUsed + N + i * K ∧ (∀ a, a < T0.heap.size → T.heap[a]? = T0.heap[a]?) ∧ (∃ cell : Cell, T.heap[T0.heap.size]? = some cell ∧ cell.cls = cA ∧ cell.vm = .none ∧ cell.slots.size = N) ∧ ∃ L : List Loc, Sd T (locs ++ L) (cells + 1 + i) (slots + N + i * K) ∧ ∀ q ∈ L, q.base = T0.heap.size
/-- the state itself, row by row -/
def mmS (T0 : State) (cA comp : ClassId) (N K : Nat) : Nat → State
  | 0 => T0.pushCell { cls := cA, slots := Array.replicate N .null }
  | i + 1 => ((mmS T0 cA comp N K i).pushCell { cls := comp, slots := Array.replicate K (.int 0) }).setCell T0.heap.size ((((mmS T0 cA comp N K i).heap[T0.heap.size]?).getD { cls := cA, slots := #[] }).setSlot i (.ref (mmS T0 cA comp N K i).heap.size))
theorem mm_ok {T0 : State} {cA comp : ClassId} {N K : Nat} (X : Stand p l e R s m args below meth c T0 locs cells slots) : ∀ i, mmI (Stand p l e R s m args below meth c) T0 locs cells slots cA N K i (mmS T0 cA comp N K i) := by
  intro i
  induction i with
  | zero =>
    have X1 := X.pushed { cls := cA, slots := Array.replicate N .null }
    refine ⟨rfl, by simp [mmS], by simp [mmS], fun a ha => State.heap_pushCell_of_lt _ _ ha, ⟨_, State.heap_pushCell_size _ _, rfl, rfl, by simp⟩, [], ?_, fun _ h => by cases h⟩
    simpa [mmS] using X1
  | succ x ih =>
    obtain ⟨i1, i2, i3, i4, ⟨cell, i5, i6, i7, i8⟩, L, i9, i10⟩ := ih
    have e0 : mmS T0 cA comp N K (x + 1) = ((mmS T0 cA comp N K x).pushCell { cls := comp, slots := Array.replicate K (.int 0) }).setCell T0.heap.size (cell.setSlot x (.ref (mmS T0 cA comp N K x).heap.size)) := by
      rw [mmS, i5]; rfl
    rw [e0]
    generalize mmS T0 cA comp N K x = T' at i1 i2 i3 i4 i5 i9
    have hlt0 : T0.heap.size < T'.heap.size := by omega
    have hcell : (T'.pushCell { cls := comp, slots := Array.replicate K (.int 0) }).heap[T0.heap.size]? = some cell := by rw [State.heap_pushCell_of_lt (h := hlt0)]; exact i5
    have X2 := (i9.pushed { cls := comp, slots := Array.replicate K (.int 0) }).stored hcell x (.ref T'.heap.size)
    refine ⟨i1, ?_, ?_, fun a ha => ?_, ⟨cell.setSlot x (.ref T'.heap.size), State.heap_setCell_self hcell, by simp [Cell.setSlot, i6], by simp [Cell.setSlot, i7], by simp [Cell.setSlot, i8]⟩, L ++ [⟨T0.heap.size, x⟩], ?_, ?_⟩
    · simp [State.setCell, i2]; omega
    · simp [i3, Nat.succ_mul]; omega
    · have ha2 : a < T'.heap.size := by omega
      rw [State.heap_setCell_other (Nat.ne_of_gt ha), State.heap_pushCell_of_lt (h := ha2)]
      exact i4 a ha
    · have e3 : slots + N + (x + 1) * K = slots + N + x * K + K := by rw [Nat.succ_mul]; omega
      have e4 : cells + 1 + (x + 1) = cells + 1 + x + 1 := by omega
      rw [← List.append_assoc, e3, e4]
      simpa using X2
    · intro q hq
      rcases List.mem_append.mp hq with h | h
      · exact i10 q h
      · simp only [List.mem_cons, List.not_mem_nil, or_false] at h
        rw [h]
theorem mm_wp {T0 : State} {f : JFrame} {E : CtlPost} {d : Bool} {acts : List Action} {cA comp c0 : ClassId} {k kc : Class} {n k' : Int32} {N K : Nat} (X : Stand p l e R s m args below meth c T0 locs cells slots) (hk : T0.vm.classes[cA]? = some k) (hkind : k.kind = .array comp (.array .int)) (hkc : T0.vm.classes[comp]? = some kc) (hkindc : kc.kind = .array c0 .int)
    (hn : ¬ n < 0) (hm : ¬ k' < 0) (hN : n.toNatClampNeg = N) (hK : k'.toNatClampNeg = K) (hb : N + K ≤ 1000) (hcells : cells + (1 + N) ≤ R.cells) (hslots : slots + (N + N * K) ≤ R.slots)
    {Q : Addr → Pre} (hq : ∀ d' acts', Q T0.heap.size d' acts' ((mmS T0 cA comp N K N).setTop f)) :
    wp (multianewarray.make cA [n, k']) Q E e d acts (T0.setTop f) := by
  subst hN
  subst hK
  have ok := mm_ok (cA := cA) (comp := comp) (N := n.toNatClampNeg) (K := k'.toNatClampNeg) X
  obtain ⟨hr1, hr2⟩ := X.roomAbove hcells hslots
  have hl1 : ¬ n.toNatClampNeg > e.platform.arrayLengthLimit := by rw [Launch.admits_arrayLengthLimit X.admits]; omega
  have hl2 : ¬ k'.toNatClampNeg > e.platform.arrayLengthLimit := by rw [Launch.admits_arrayLengthLimit X.admits]; omega
  have hh1 : ¬ n.toNatClampNeg * componentBytes (.array .int) > e.platform.maxHeapBytes := by
    rw [Launch.admits_maxHeapBytes X.admits]
    show ¬ n.toNatClampNeg * 4 > 536870912
    omega
  have hh2 : ¬ k'.toNatClampNeg * componentBytes .int > e.platform.maxHeapBytes := by
    rw [Launch.admits_maxHeapBytes X.admits]
    show ¬ k'.toNatClampNeg * 4 > 536870912
    omega
  have hfind : ([k'].find? (· < 0)) = none := by simp [hm]
  have hk1 : (T0.setTop f).vm.classes[cA]? = some k := hk
  rw [multianewarray.make]
  simp only [wp_bind', W.ite, hn, if_false, wp_pure', W.theClass, hk1, hkind, Option.some.injEq, exists_eq_left']
  refine W.newArray_of hk1 hkind hl1 hh1 (by show T0.heap.size < _; omega) (by show T0.slotsUsed + _ ≤ _; have := Nat.zero_le (n.toNatClampNeg * k'.toNatClampNeg); omega) rfl (fun acts1 => ?_)
  simp only [hfind]
  rw [ite_self, wp_bind', Std.Legacy.Range.forIn_eq_forIn_range']
  have hsz : ([:n.toNatClampNeg] : Std.Legacy.Range).size = n.toNatClampNeg := by simp [Std.Legacy.Range.size]
  rw [hsz]
  show wp (forIn (List.range' 0 n.toNatClampNeg 1) PUnit.unit _) _ E e d acts1 _
  refine wp_forIn_inv (fun rest s' => ∃ i, i ≤ n.toNatClampNeg ∧ rest = List.range' i (n.toNatClampNeg - i) ∧ s' = (mmS T0 cA comp n.toNatClampNeg k'.toNatClampNeg i).setTop f) _ _ ⟨0, Nat.zero_le _, rfl, rfl⟩ ?_ ?_
  · rintro x rest s' d' acts' Q' ⟨i, hi, hl, rfl⟩ hnext
    obtain ⟨i1, i2, i3, i4, ⟨cell, i5, i6, i7, i8⟩, -⟩ := ok i
    have hlt : i < n.toNatClampNeg := by
      rcases Nat.lt_or_ge i n.toNatClampNeg with h | h
      · exact h
      · rw [show n.toNatClampNeg - i = 0 by omega] at hl
        simp at hl
    obtain ⟨hxi, hrest⟩ : x = i ∧ rest = List.range' (i + 1) (n.toNatClampNeg - (i + 1)) := by
      rw [show n.toNatClampNeg - i = (n.toNatClampNeg - (i + 1)) + 1 by omega, List.range'_succ] at hl
      exact ⟨(List.cons.inj hl).1, (List.cons.inj hl).2⟩
    subst hxi
    have hmul : x * k'.toNatClampNeg + k'.toNatClampNeg ≤ n.toNatClampNeg * k'.toNatClampNeg := by
      have := Nat.mul_le_mul_right k'.toNatClampNeg (show x + 1 ≤ n.toNatClampNeg from hlt)
      rw [Nat.succ_mul] at this
      exact this
    have e0 : mmS T0 cA comp n.toNatClampNeg k'.toNatClampNeg (x + 1) = ((mmS T0 cA comp n.toNatClampNeg k'.toNatClampNeg x).pushCell { cls := comp, slots := Array.replicate k'.toNatClampNeg (.int 0) }).setCell T0.heap.size (cell.setSlot x (.ref (mmS T0 cA comp n.toNatClampNeg k'.toNatClampNeg x).heap.size)) := by
      rw [mmS, i5]; rfl
    generalize mmS T0 cA comp n.toNatClampNeg k'.toNatClampNeg x = T' at i1 i2 i3 i4 i5 e0 ⊢
    have hkc1 : (T'.setTop f).vm.classes[comp]? = some kc := by
      show T'.vm.classes[comp]? = some kc
      rw [i1]; exact hkc
    have hkA1 : T'.vm.classes[cA]? = some k := by rw [i1]; exact hk
    simp only [wp_bind']
    rw [multianewarray.make]
    simp only [wp_bind', W.ite, hm, if_false, wp_pure', W.theClass, hkc1, hkindc, Option.some.injEq, exists_eq_left']
    refine W.newArray_of hkc1 hkindc hl2 hh2 (by show T'.heap.size < _; omega) (by show T'.slotsUsed + _ ≤ _; omega) rfl (fun acts2 => ?_)
    have hlt0 : T0.heap.size < T'.heap.size := by omega
    have hcell : (T'.pushCell { cls := comp, slots := Array.replicate k'.toNatClampNeg (defaultValue .int) }).heap[T0.heap.size]? = some cell := by rw [State.heap_pushCell_of_lt (h := hlt0)]; exact i5
    simp only [wp_bind', W.writeLoc, wp_pure']
    refine ⟨cell, hcell, by rw [i7]; simp, by rw [i8]; exact hlt, ?_, hnext _ _ _ ⟨x + 1, hlt, hrest, ?_⟩⟩
    · rw [i6, i7]
      have hkA2 : (T'.setTop f).vm.classes[cA]? = some k := hkA1
      simp [State.fitsSlot, State.slotType?, hkA1, hkA2, hkind, fits]
    · rw [e0]; rfl
  · rintro s' d' acts' ⟨i, hi, hl, rfl⟩
    have hiN : i = n.toNatClampNeg := by
      rcases Nat.lt_or_ge i n.toNatClampNeg with h | h
      · rw [show n.toNatClampNeg - i = (n.toNatClampNeg - (i + 1)) + 1 by omega, List.range'_succ] at hl
        cases hl
      · omega
    subst hiN
    simp only [wp_pure']
    exact hq _ _
theorem nw_mm {own : String} {index : Nat} (hexec : p.tables.exec = Jvm.exec) (hb : c.code = cc) (hown : s.vm.findClass own = some m.cls) (hclink : (Cond.classLink own index "[[I").before args s = true) (hM : AMM s) (_harr : (Cond.arrayClass .int).before args s = true) (_hK : va_K D vwCl tys s) (hP : va_P D vwCl ws H) (hD : va_D A ws) (hS : va_S A H0 H locs) (hA : ∀ q, H0.size ≤ q → A q)
    {n k : Int32} {N' K' : Nat} (hn : ¬ n < 0) (hk : ¬ k < 0) (hN : n.toNatClampNeg = N') (hKk : k.toNatClampNeg = K') (hb9 : N' + K' ≤ 1000) (hcells : cells + (1 + N') ≤ R.cells) (hslots : slots + (N' + N' * K') ≤ R.slots) (hdg : decode cc pc = .ok (.multianewarray index 2, 4))
    (kk : ∀ (q : Nat) (H1 : Heap) (locs1 : List Loc), va_P D vwCl ws H1 → va_D A ws → va_S A H0 H1 locs1 → W p l e R s m args below meth c H1 locs1 (cells + 1 + N') (slots + N' + N' * K') Q (F0 m (pc + 4) ls (.ref q :: rest))) : W p l e R s m args below meth c H locs cells slots Q (F0 m pc ls (.int k :: .int n :: rest)) := by
  intro T hT X
  obtain ⟨comp, cA, c0, kA, kC, h1, h2, h3, h4, h5, h6⟩ := hM
  have hpl : e.platform.magicAccessors = ({} : Platform).magicAccessors := by rw [X.admits.platform]
  obtain ⟨c9, hfc, hcl⟩ := Cond.classLink_spec hown hclink e.platform hpl
  cases h2.symm.trans hfc
  obtain ⟨hg1, hwarm, hready⟩ := State.classEntry (e := e) X.warmed hcl
  generalize T.vm.noted m.cls index (.cls cA) = vm1 at hg1 hwarm hready
  have hal : s.vm.Alike vm1 := hwarm.alike
  obtain ⟨kA1, hkA1, heA⟩ := hal.2.2 _ _ h3
  obtain ⟨kC1, hkC1, heC⟩ := hal.2.2 _ _ h5
  have X1 := X.noted hwarm
  have ok := mm_ok (cA := cA) (comp := comp) (N := N') (K := K') X1 N'
  obtain ⟨i1, i2, i3, i4, -, L, i9, i10⟩ := ok
  have hh : (T.setVm vm1).heap = H := hT
  rw [hh] at i2 i4 i10
  have hold : ∀ (k9 : Nat) (x : Nat × va_E), ws[k9]? = some x → (mmS (T.setVm vm1) cA comp N' K' N').heap[x.1]? = H[x.1]? := fun k9 x hx => i4 x.1 ((hP k9 x hx).lt)
  obtain ⟨t, a1, b1⟩ := kk H.size (mmS (T.setVm vm1) cA comp N' K' N').heap (locs ++ L) (hP.kept hold) hD ⟨by rw [i2]; have := hS.1; omega, fun x h7 h8 => (i4 x (Nat.lt_of_lt_of_le h7 hS.1)).trans (hS.2.1 x h7 h8), fun q hq => by
    rcases List.mem_append.mp hq with h | h
    · exact hS.2.2 q h
    · rw [i10 q h]; exact hA _ hS.1⟩ _ rfl i9
  refine ⟨t, ?_, b1⟩
  have hdg' : decode c.code (F0 m pc ls (.int k :: .int n :: rest)).pc = .ok (.multianewarray index 2, 4) := by rw [hb]; exact hdg
  jvm_step X.here [hexec, hdg']
  simp only [multianewarray.sem, wp_bind', W.resolveClassAt_links (State.method?_setTop (F0 m pc ls (.int k :: .int n :: rest)) X.here.top) hg1]
  rw [W.popN, if_neg (by decide)]
  refine ⟨F0 m pc ls (.int k :: .int n :: rest), State.topJava?_setTop' (s := T.setVm vm1) (F0 m pc ls (.int k :: .int n :: rest)) X.here.top, [.int n, .int k], rest, rfl, rfl, ?_⟩
  simp only [List.mapM_cons, List.mapM_nil, wp_bind', wp_pure']
  have eS : ((T.setTop (F0 m pc ls (.int k :: .int n :: rest))).setVm vm1).setTop { F0 m pc ls (.int k :: .int n :: rest) with stack := rest } = (T.setVm vm1).setTop { F0 m pc ls (.int k :: .int n :: rest) with stack := rest } := by
    show ((T.setVm vm1).setTop (F0 m pc ls (.int k :: .int n :: rest))).setTop _ = _
    rw [State.setTop_setTop]
  rw [eS]
  refine mm_wp (N := N') (K := K') (k := kA1) (kc := kC1) (c0 := c0) X1 hkA1 (by rw [heA]; exact h4) hkC1 (by rw [heC]; exact h6) hn hk hN hKk hb9 hcells hslots (fun d' acts' => ?_)
  simp only [wp_bind', W.mark, W.pushRef, State.topJava?_setTop' _ i9.here.top, Option.some.injEq, exists_eq_left', State.setTop_setTop, State.heap_setTop]
  intro acts
  simp [jvm, i9.here.top]
  rw [hT]
  exact a1
end MM
