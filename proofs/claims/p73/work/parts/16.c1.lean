/-! new arrays, over the seven array classes; rows of rows with their rows; a constructor at the end of a world -/
theorem arrV_cg {c : ClassId} {N : Nat} {f g : Nat → Value} (h : ∀ j, j < N → f j = g j) : arrV c N f = arrV c N g := by
  unfold arrV
  congr 1
  exact congrArg Array.ofFn (funext fun i => h i.1 i.2)
/-- the outer row of 'new int[N][K]' when i of its places are filled -/
def mmF (q i : Nat) (j : Nat) : Value := if j < i then .ref (q + 1 + j) else .null
theorem mmF_up {q i : Nat} : updV (mmF q i) i (.ref (q + 1 + i)) = mmF q (i + 1) := by
  funext j
  unfold updV mmF
  by_cases h : j = i
  · subst h; rw [if_pos rfl, if_pos (Nat.lt_succ_self _)]
  · rw [if_neg h]
    by_cases h2 : j < i
    · rw [if_pos h2, if_pos (Nat.lt_succ_of_lt h2)]
    · rw [if_neg h2, if_neg (by omega)]
theorem mm_ex {T0 : State} {cA comp : ClassId} {N K : Nat} : ∀ i, (mmS T0 cA comp N K i).heap.size = T0.heap.size + 1 + i ∧ (mmS T0 cA comp N K i).heap[T0.heap.size]? = some (arrV cA N (mmF T0.heap.size i)) ∧ ∀ j, j < i → (mmS T0 cA comp N K i).heap[T0.heap.size + 1 + j]? = some (arrV comp K (fun _ => .int 0)) := by
  intro i
  induction i with
  | zero =>
    refine ⟨by simp [mmS], ?_, fun j hj => absurd hj (Nat.not_lt_zero _)⟩
    have h := State.heap_pushCell_size T0 { cls := cA, slots := Array.replicate N .null }
    rw [show mmS T0 cA comp N K 0 = T0.pushCell { cls := cA, slots := Array.replicate N .null } from rfl, h]
    exact congrArg some ((arrV_new cA N .null).trans (arrV_cg (fun j _ => by unfold mmF; rw [if_neg (Nat.not_lt_zero _)])))
  | succ x ih =>
    obtain ⟨i2, i5, i6⟩ := ih
    have e0 : mmS T0 cA comp N K (x + 1) = ((mmS T0 cA comp N K x).pushCell { cls := comp, slots := Array.replicate K (.int 0) }).setCell T0.heap.size ((arrV cA N (mmF T0.heap.size x)).setSlot x (.ref (mmS T0 cA comp N K x).heap.size)) := by
      rw [mmS, i5]; rfl
    rw [e0]
    generalize mmS T0 cA comp N K x = T' at i2 i5 i6
    have hlt0 : T0.heap.size < T'.heap.size := by omega
    have hcell : (T'.pushCell { cls := comp, slots := Array.replicate K (.int 0) }).heap[T0.heap.size]? = some (arrV cA N (mmF T0.heap.size x)) := by rw [State.heap_pushCell_of_lt (h := hlt0)]; exact i5
    refine ⟨?_, ?_, fun j hj => ?_⟩
    · simp [State.setCell, i2]; omega
    · rw [State.heap_setCell_self hcell, arrV_store, i2, mmF_up]
    · rw [State.heap_setCell_other (show T0.heap.size ≠ T0.heap.size + 1 + j by omega)]
      by_cases h : j = x
      · subst h
        rw [show T0.heap.size + 1 + j = T'.heap.size by omega]
        exact (State.heap_pushCell_size T' _).trans (congrArg some (arrV_new comp K (.int 0)))
      · rw [State.heap_pushCell_of_lt (h := (show T0.heap.size + 1 + j < T'.heap.size by omega))]
        exact i6 j (by omega)
def mmG (C : Nat → ClassId) (q N K : Nat) (f : Nat → Option Nat) : va_W := (q, .inl (C 6, N, .inr (.inr (.inr (.inr f))))) :: (List.range N).map (fun i => (q + 1 + i, .inl (C 1, K, .inl (fun _ => 0))))
abbrev mmB (C : Nat → ClassId) (q N K : Nat) : va_W := mmG C q N K (fun i => some (q + 1 + i))
theorem qcong {D : va_G} {cl : List vw_C} {ws : va_W} {H : Heap} {A : Nat → Prop} {a n : Nat} {cA : ClassId} {f g : Nat → Option Nat} (k : Nat) (hP : va_P D cl ws H) (hD : va_D A ws) (ha : ws[k]? = some (a, .inl (cA, n, .inr (.inr (.inr (.inr f)))))) (h : ∀ j, j < n → f j = g j) : va_P D cl (ws.set k (a, .inl (cA, n, .inr (.inr (.inr (.inr g)))))) H ∧ va_D A (ws.set k (a, .inl (cA, n, .inr (.inr (.inr (.inr g)))))) := by
  refine ⟨hP.set hD ha ?_ (fun _ _ => rfl), hD.set ha⟩
  have h9 := hP k _ ha
  show H[a]? = some (vp_cell cA (n, .inr (.inr (.inr (.inr g)))))
  have e : vp_cell cA (n, .inr (.inr (.inr (.inr f)))) = vp_cell cA (n, .inr (.inr (.inr (.inr g)))) := by
    rw [vp_cell_q, vp_cell_q]
    exact arrV_cg (fun j hj => congrArg va_rf (h j hj))
  rw [← e]
  exact h9
theorem mmB_at {C : Nat → ClassId} {q N K k : Nat} {x : Nat × va_E} (h : (mmB C q N K)[k]? = some x) : (k = 0 ∧ x = (q, .inl (C 6, N, .inr (.inr (.inr (.inr (fun i => some (q + 1 + i)))))))) ∨ ∃ j, j < N ∧ k = j + 1 ∧ x = (q + 1 + j, .inl (C 1, K, .inl (fun _ => 0))) := by
  cases k with
  | zero => exact Or.inl ⟨rfl, (Option.some.inj h).symm⟩
  | succ j =>
    have h2 : ((List.range N).map (fun i => ((q + 1 + i, .inl (C 1, K, .inl (fun _ => 0))) : Nat × va_E)))[j]? = some x := h
    rw [List.getElem?_map] at h2
    by_cases hj : j < N
    · rw [List.getElem?_range hj] at h2
      exact Or.inr ⟨j, hj, rfl, (Option.some.inj h2).symm⟩
    · rw [List.getElem?_eq_none (by rw [List.length_range]; omega)] at h2
      cases h2
theorem mmB_ad {C : Nat → ClassId} {q N K k : Nat} {x : Nat × va_E} (h : (mmB C q N K)[k]? = some x) : x.1 = q + k := by
  rcases mmB_at h with ⟨rfl, rfl⟩ | ⟨j, -, rfl, rfl⟩
  · rfl
  · show q + 1 + j = q + (j + 1); omega
/-! worlds that are put together -/
theorem va_P.left {D : va_G} {cl : List vw_C} {w1 w2 : va_W} {H : Heap} (h : va_P D cl (w1 ++ w2) H) : va_P D cl w1 H := fun k q hk => by
  obtain ⟨hl, -⟩ := List.getElem?_eq_some_iff.mp hk
  exact h k q (by rw [List.getElem?_append_left hl]; exact hk)
theorem va_P.right {D : va_G} {cl : List vw_C} {w1 w2 : va_W} {H : Heap} (h : va_P D cl (w1 ++ w2) H) : va_P D cl w2 H := fun k q hk => h (w1.length + k) q (by rw [List.getElem?_append_right (by omega), show w1.length + k - w1.length = k by omega]; exact hk)
theorem va_D.left {A : Nat → Prop} {w1 w2 : va_W} (h : va_D A (w1 ++ w2)) : va_D A w1 := by
  have g : ∀ (k : Nat) (q : Nat × va_E), w1[k]? = some q → (w1 ++ w2)[k]? = some q := fun k q hk => by
    obtain ⟨hl, -⟩ := List.getElem?_eq_some_iff.mp hk
    rw [List.getElem?_append_left hl]; exact hk
  exact ⟨fun i j p q hi hj e => h.1 i j p q (g i p hi) (g j q hj) e, fun k q hk => h.2 k q (g k q hk)⟩
theorem va_D.right {A : Nat → Prop} {w1 w2 : va_W} (h : va_D A (w1 ++ w2)) : va_D A w2 := by
  have g : ∀ (k : Nat) (q : Nat × va_E), w2[k]? = some q → (w1 ++ w2)[w1.length + k]? = some q := fun k q hk => by
    rw [List.getElem?_append_right (by omega), show w1.length + k - w1.length = k by omega]; exact hk
  refine ⟨fun i j p q hi hj e => ?_, fun k q hk => h.2 _ q (g k q hk)⟩
  have := h.1 _ _ p q (g i p hi) (g j q hj) e
  omega
theorem va_D.apart {A : Nat → Prop} {w1 w2 : va_W} (h : va_D A (w1 ++ w2)) {i j : Nat} {p q : Nat × va_E} (hi : w1[i]? = some p) (hj : w2[j]? = some q) : p.1 ≠ q.1 := fun e => by
  obtain ⟨hl, -⟩ := List.getElem?_eq_some_iff.mp hi
  have := h.1 i (w1.length + j) p q (by rw [List.getElem?_append_left hl]; exact hi) (by rw [List.getElem?_append_right (by omega), show w1.length + j - w1.length = j by omega]; exact hj) e
  omega
theorem va_P.flip {D : va_G} {cl : List vw_C} {w1 w2 : va_W} {H : Heap} (h : va_P D cl (w1 ++ w2) H) : va_P D cl (w2 ++ w1) H := va_P.app h.right h.left
theorem va_D.flip {A : Nat → Prop} {w1 w2 : va_W} (h : va_D A (w1 ++ w2)) : va_D A (w2 ++ w1) := va_D.app h.right h.left (fun _ _ _ _ hi hj e => h.apart hj hi e.symm)
/-- a world's left part put otherwise -/
theorem va_D.turn {A : Nat → Prop} {w1 w1' w2 : va_W} (h : va_D A (w1 ++ w2)) (h1 : va_D A w1') (hm : ∀ x ∈ w1', x ∈ w1) : va_D A (w1' ++ w2) := va_D.app h1 h.right (fun _ _ _ _ hi hj e => by
  obtain ⟨k, hk⟩ := List.getElem?_of_mem (hm _ (List.mem_of_getElem? hi))
  exact h.apart hk hj e)
theorem nd_range (n : Nat) : ∀ k, va_nd ((List.range n).map (k + ·)) = true := by
  have aux : ∀ l : List Nat, l.Nodup → va_nd l = true := by
    intro l hl
    induction l with
    | nil => rfl
    | cons a l ih =>
      obtain ⟨h1, h2⟩ := List.nodup_cons.mp hl
      show (decide (a ∉ l) && va_nd l) = true
      rw [ih h2, decide_eq_true h1]; rfl
  intro k
  refine aux _ ?_
  refine List.Pairwise.map (R := fun a b : Nat => a ≠ b) _ (fun a b h e => h (by omega)) List.nodup_range
theorem at_left {w1 w2 : va_W} : ((List.range w1.length).map (0 + ·)).map (fun i => (w1 ++ w2)[i]?) = w1.map some := by
  apply List.ext_getElem?
  intro k
  rw [List.getElem?_map, List.getElem?_map, List.getElem?_map]
  by_cases h : k < w1.length
  · rw [List.getElem?_range h]
    show some ((w1 ++ w2)[0 + k]?) = _
    rw [Nat.zero_add, List.getElem?_append_left h, List.getElem?_eq_getElem h]
    rfl
  · rw [List.getElem?_eq_none (by rw [List.length_range]; omega), List.getElem?_eq_none (by omega)]
    rfl
theorem at_right {w1 w2 : va_W} : ((List.range w2.length).map (w1.length + ·)).map (fun i => (w1 ++ w2)[i]?) = w2.map some := by
  apply List.ext_getElem?
  intro k
  rw [List.getElem?_map, List.getElem?_map, List.getElem?_map]
  by_cases h : k < w2.length
  · rw [List.getElem?_range h]
    show some ((w1 ++ w2)[w1.length + k]?) = _
    rw [List.getElem?_append_right (by omega), show w1.length + k - w1.length = k by omega, List.getElem?_eq_getElem h]
    rfl
  · rw [List.getElem?_eq_none (by rw [List.length_range]; omega), List.getElem?_eq_none (by omega)]
    rfl
theorem at_dis {w1 w2 : va_W} : ∀ i ∈ (List.range w1.length).map (0 + ·), i ∉ (List.range w2.length).map (w1.length + ·) := by
  intro i hi hj
  obtain ⟨a, ha, rfl⟩ := List.mem_map.mp hi
  obtain ⟨b, -, e⟩ := List.mem_map.mp hj
  have := List.mem_range.mp ha
  omega
theorem at_dis2 {w1 w2 : va_W} : ∀ i ∈ (List.range w2.length).map (w1.length + ·), i ∉ (List.range w1.length).map (0 + ·) := fun i hi hj => at_dis i hj hi
section NX
variable {p : Program} {l : Launch} {e : Env} {R : Room} {s : State} {m : MethodId} {args : Array Value} {below : List Frame} {meth : Method} {c : Code} {H : Heap} {locs : List Loc} {cells slots : Nat} {Q : State → Prop}
variable {cc : ByteArray} {pc nL : Nat} {ls : Array Slot} {rest st0 : List Value} {D : va_G} {A : Nat → Prop} {a : Nat} {ws wr : va_W} {H0 : Heap} {C : Nat → ClassId}
variable {Ts : List Cond} {own Cn : String} {index n maxL h mc ms : Nat} {y : MethodName} {bytes : ByteArray} {ret : Option FieldType} {As : List Value}
theorem nx_I (hexec : p.tables.exec = Jvm.exec) (hb : c.code = cc) (harr : (Cond.arrayClass .int).before args s = true) (hK : va_K D vwCl (tyl C) s) (hP : va_P D vwCl ws H) (hD : va_D A ws) (hS : va_S A H0 H locs) (hA : ∀ q, H0.size ≤ q → A q)
    {n : Int32} {N' : Nat} (hn : ¬ n < 0) (hN : n.toNatClampNeg = N') (hbytes : N' * componentBytes .int ≤ 536870912) (hcells : cells + 1 ≤ R.cells) (hslots : slots + N' ≤ R.slots) (hdg : decode cc pc = .ok (.newarray .int, 2))
    (kk : ∀ (q : Nat) (H1 : Heap), va_P D vwCl (ws ++ [(q, .inl (C 1, N', .inl (fun _ => 0)))]) H1 → va_D A (ws ++ [(q, .inl (C 1, N', .inl (fun _ => 0)))]) → va_S A H0 H1 locs → W p l e R s m args below meth c H1 locs (cells + 1) (slots + N') Q (F0 m (pc + 2) ls (.ref q :: rest))) : W p l e R s m args below meth c H locs cells slots Q (F0 m pc ls (.int n :: rest)) := by
  refine va_newa (atype := .int) (a0 := (N', .inl (fun _ => 0))) hexec hb harr rfl hK hP hD hS hA (fun _ => rfl) hn hN hbytes hcells hslots hdg (fun q cA H1 hK1 hP1 hD1 hS1 => ?_)
  have e1 := (hK1.2 7 (cA, .int) rfl).2
  have e2 := (hK.2 1 (C 1, .int) rfl).2
  have e3 : cA = C 1 := Option.some.inj (e1.symm.trans e2)
  subst e3
  exact kk q H1 hP1 hD1 hS1
theorem nx_B (hexec : p.tables.exec = Jvm.exec) (hb : c.code = cc) (harr : (Cond.arrayClass .byte).before args s = true) (hK : va_K D vwCl (tyl C) s) (hP : va_P D vwCl ws H) (hD : va_D A ws) (hS : va_S A H0 H locs) (hA : ∀ q, H0.size ≤ q → A q)
    {n : Int32} {N' : Nat} (hn : ¬ n < 0) (hN : n.toNatClampNeg = N') (hbytes : N' * componentBytes .byte ≤ 536870912) (hcells : cells + 1 ≤ R.cells) (hslots : slots + N' ≤ R.slots) (hdg : decode cc pc = .ok (.newarray .byte, 2))
    (kk : ∀ (q : Nat) (H1 : Heap), va_P D vwCl (ws ++ [(q, .inl (C 0, N', .inl (fun _ => 0)))]) H1 → va_D A (ws ++ [(q, .inl (C 0, N', .inl (fun _ => 0)))]) → va_S A H0 H1 locs → W p l e R s m args below meth c H1 locs (cells + 1) (slots + N') Q (F0 m (pc + 2) ls (.ref q :: rest))) : W p l e R s m args below meth c H locs cells slots Q (F0 m pc ls (.int n :: rest)) := by
  refine va_newa (atype := .byte) (a0 := (N', .inl (fun _ => 0))) hexec hb harr rfl hK hP hD hS hA (fun _ => rfl) hn hN hbytes hcells hslots hdg (fun q cA H1 hK1 hP1 hD1 hS1 => ?_)
  have e1 := (hK1.2 7 (cA, .byte) rfl).2
  have e2 := (hK.2 0 (C 0, .byte) rfl).2
  have e3 : cA = C 0 := Option.some.inj (e1.symm.trans e2)
  subst e3
  exact kk q H1 hP1 hD1 hS1
theorem nx_J (hexec : p.tables.exec = Jvm.exec) (hb : c.code = cc) (harr : (Cond.arrayClass .long).before args s = true) (hK : va_K D vwCl (tyl C) s) (hP : va_P D vwCl ws H) (hD : va_D A ws) (hS : va_S A H0 H locs) (hA : ∀ q, H0.size ≤ q → A q)
    {n : Int32} {N' : Nat} (hn : ¬ n < 0) (hN : n.toNatClampNeg = N') (hbytes : N' * componentBytes .long ≤ 536870912) (hcells : cells + 1 ≤ R.cells) (hslots : slots + N' ≤ R.slots) (hdg : decode cc pc = .ok (.newarray .long, 2))
    (kk : ∀ (q : Nat) (H1 : Heap), va_P D vwCl (ws ++ [(q, .inl (C 2, N', .inr (.inl (fun _ => 0))))]) H1 → va_D A (ws ++ [(q, .inl (C 2, N', .inr (.inl (fun _ => 0))))]) → va_S A H0 H1 locs → W p l e R s m args below meth c H1 locs (cells + 1) (slots + N') Q (F0 m (pc + 2) ls (.ref q :: rest))) : W p l e R s m args below meth c H locs cells slots Q (F0 m pc ls (.int n :: rest)) := by
  refine va_newa (atype := .long) (a0 := (N', .inr (.inl (fun _ => 0)))) hexec hb harr rfl hK hP hD hS hA (fun _ => rfl) hn hN hbytes hcells hslots hdg (fun q cA H1 hK1 hP1 hD1 hS1 => ?_)
  have e1 := (hK1.2 7 (cA, .long) rfl).2
  have e2 := (hK.2 2 (C 2, .long) rfl).2
  have e3 : cA = C 2 := Option.some.inj (e1.symm.trans e2)
  subst e3
  exact kk q H1 hP1 hD1 hS1
theorem nx_Z (hexec : p.tables.exec = Jvm.exec) (hb : c.code = cc) (harr : (Cond.arrayClass .boolean).before args s = true) (hK : va_K D vwCl (tyl C) s) (hP : va_P D vwCl ws H) (hD : va_D A ws) (hS : va_S A H0 H locs) (hA : ∀ q, H0.size ≤ q → A q)
    {n : Int32} {N' : Nat} (hn : ¬ n < 0) (hN : n.toNatClampNeg = N') (hbytes : N' * componentBytes .boolean ≤ 536870912) (hcells : cells + 1 ≤ R.cells) (hslots : slots + N' ≤ R.slots) (hdg : decode cc pc = .ok (.newarray .boolean, 2))
    (kk : ∀ (q : Nat) (H1 : Heap), va_P D vwCl (ws ++ [(q, .inl (C 3, N', .inl (fun _ => 0)))]) H1 → va_D A (ws ++ [(q, .inl (C 3, N', .inl (fun _ => 0)))]) → va_S A H0 H1 locs → W p l e R s m args below meth c H1 locs (cells + 1) (slots + N') Q (F0 m (pc + 2) ls (.ref q :: rest))) : W p l e R s m args below meth c H locs cells slots Q (F0 m pc ls (.int n :: rest)) := by
  refine va_newa (atype := .boolean) (a0 := (N', .inl (fun _ => 0))) hexec hb harr rfl hK hP hD hS hA (fun _ => rfl) hn hN hbytes hcells hslots hdg (fun q cA H1 hK1 hP1 hD1 hS1 => ?_)
  have e1 := (hK1.2 7 (cA, .boolean) rfl).2
  have e2 := (hK.2 3 (C 3, .boolean) rfl).2
  have e3 : cA = C 3 := Option.some.inj (e1.symm.trans e2)
  subst e3
  exact kk q H1 hP1 hD1 hS1
theorem nx_T (hexec : p.tables.exec = Jvm.exec) (hb : c.code = cc) {own : String} {index : Nat} (hown : s.vm.findClass own = some m.cls) (hclink : (Cond.classLink own index RX7).before args s = true) (hover : va_AO RX7 s) (hK : va_K D vwCl (tyl C) s) (hP : va_P D vwCl ws H) (hD : va_D A ws) (hS : va_S A H0 H locs) (hA : ∀ q, H0.size ≤ q → A q)
    {n : Int32} {N' : Nat} (hn : ¬ n < 0) (hN : n.toNatClampNeg = N') (hbytes : N' * 4 ≤ 536870912) (hcells : cells + 1 ≤ R.cells) (hslots : slots + N' ≤ R.slots) (hdg : decode cc pc = .ok (.anewarray index, 3))
    (kk : ∀ (q : Nat) (H1 : Heap), va_P D vwCl (ws ++ [(q, .inl (C 4, N', .inr (.inr (.inr (.inr (fun _ => none))))))]) H1 → va_D A (ws ++ [(q, .inl (C 4, N', .inr (.inr (.inr (.inr (fun _ => none))))))]) → va_S A H0 H1 locs → W p l e R s m args below meth c H1 locs (cells + 1) (slots + N') Q (F0 m (pc + 3) ls (.ref q :: rest))) : W p l e R s m args below meth c H locs cells slots Q (F0 m pc ls (.int n :: rest)) := by
  refine va_newq hexec hb hown hclink hover hK hP hD hS hA hn hN hbytes hcells hslots hdg (fun q cA H1 hK1 hP1 hD1 hS1 => ?_)
  obtain ⟨-, -, -, -, -, e1⟩ := (hK1.2 7 (cA, .object RX7) rfl).2
  obtain ⟨-, -, -, -, -, e2⟩ := (hK.2 4 (C 4, .object RX7) rfl).2
  have e3 : cA = C 4 := Option.some.inj (e1.symm.trans e2)
  subst e3
  exact kk q H1 hP1 hD1 hS1
theorem nx_R (hexec : p.tables.exec = Jvm.exec) (hb : c.code = cc) {own : String} {index : Nat} (hown : s.vm.findClass own = some m.cls) (hclink : (Cond.classLink own index RX3).before args s = true) (hover : va_AO RX3 s) (hK : va_K D vwCl (tyl C) s) (hP : va_P D vwCl ws H) (hD : va_D A ws) (hS : va_S A H0 H locs) (hA : ∀ q, H0.size ≤ q → A q)
    {n : Int32} {N' : Nat} (hn : ¬ n < 0) (hN : n.toNatClampNeg = N') (hbytes : N' * 4 ≤ 536870912) (hcells : cells + 1 ≤ R.cells) (hslots : slots + N' ≤ R.slots) (hdg : decode cc pc = .ok (.anewarray index, 3))
    (kk : ∀ (q : Nat) (H1 : Heap), va_P D vwCl (ws ++ [(q, .inl (C 5, N', .inr (.inr (.inr (.inr (fun _ => none))))))]) H1 → va_D A (ws ++ [(q, .inl (C 5, N', .inr (.inr (.inr (.inr (fun _ => none))))))]) → va_S A H0 H1 locs → W p l e R s m args below meth c H1 locs (cells + 1) (slots + N') Q (F0 m (pc + 3) ls (.ref q :: rest))) : W p l e R s m args below meth c H locs cells slots Q (F0 m pc ls (.int n :: rest)) := by
  refine va_newq hexec hb hown hclink hover hK hP hD hS hA hn hN hbytes hcells hslots hdg (fun q cA H1 hK1 hP1 hD1 hS1 => ?_)
  obtain ⟨-, -, -, -, -, e1⟩ := (hK1.2 7 (cA, .object RX3) rfl).2
  obtain ⟨-, -, -, -, -, e2⟩ := (hK.2 5 (C 5, .object RX3) rfl).2
  have e3 : cA = C 5 := Option.some.inj (e1.symm.trans e2)
  subst e3
  exact kk q H1 hP1 hD1 hS1
theorem nx_M {own : String} {index : Nat} (hexec : p.tables.exec = Jvm.exec) (hb : c.code = cc) (hown : s.vm.findClass own = some m.cls) (hclink : (Cond.classLink own index "[[I").before args s = true) (hM : AMM s) (hK : va_K D vwCl (tyl C) s) (hP : va_P D vwCl ws H) (hD : va_D A ws) (hS : va_S A H0 H locs) (hA : ∀ q, H0.size ≤ q → A q)
    {n k : Int32} {N' K' : Nat} (hn : ¬ n < 0) (hk : ¬ k < 0) (hN : n.toNatClampNeg = N') (hKk : k.toNatClampNeg = K') (hb9 : N' + K' ≤ 1000) (hcells : cells + (1 + N') ≤ R.cells) (hslots : slots + (N' + N' * K') ≤ R.slots) (hdg : decode cc pc = .ok (.multianewarray index 2, 4))
    (kk : ∀ (q : Nat) (H1 : Heap) (locs1 : List Loc), va_P D vwCl (ws ++ mmB C q N' K') H1 → va_D A (ws ++ mmB C q N' K') → va_S A H0 H1 locs1 → W p l e R s m args below meth c H1 locs1 (cells + 1 + N') (slots + N' + N' * K') Q (F0 m (pc + 4) ls (.ref q :: rest))) : W p l e R s m args below meth c H locs cells slots Q (F0 m pc ls (.int k :: .int n :: rest)) := by
  intro T hT X
  obtain ⟨comp, cA, c0, kA, kC, h1, h2, h3, h4, h5, h6⟩ := hM
  have r6 : s.vm.findClass "[[I" = some (C 6) := (hK.2 6 (C 6, .array .int) rfl).2
  have r1 : s.vm.findClass "[I" = some (C 1) := (hK.2 1 (C 1, .int) rfl).2
  have eA : cA = C 6 := Option.some.inj (h2.symm.trans r6)
  have eC : comp = C 1 := Option.some.inj (h1.symm.trans r1)
  have hpl : e.platform.magicAccessors = ({} : Platform).magicAccessors := by rw [X.admits.platform]
  obtain ⟨c9, hfc, hcl⟩ := Cond.classLink_spec hown hclink e.platform hpl
  cases h2.symm.trans hfc
  obtain ⟨hg1, hwarm, hready⟩ := State.classEntry (e := e) X.warmed hcl
  generalize T.vm.noted m.cls index (.cls cA) = vm1 at hg1 hwarm hready
  have hal : s.vm.Alike vm1 := hwarm.alike
  obtain ⟨kA1, hkA1, heA⟩ := hal.2.2 _ _ h3
  obtain ⟨kC1, hkC1, heC⟩ := hal.2.2 _ _ h5
  have X1 := X.noted hwarm
  have ok := mm_ok (cA := cA) (comp := comp) (N := N') (K := K') X1 N'
  obtain ⟨i1, i2, i3, i4, -, L, i9, i10⟩ := ok
  obtain ⟨-, j5, j6⟩ := mm_ex (T0 := T.setVm vm1) (cA := cA) (comp := comp) (N := N') (K := K') N'
  have hh : (T.setVm vm1).heap = H := hT
  rw [hh] at i2 i4 i10 j5 j6
  have hold : ∀ (k9 : Nat) (x : Nat × va_E), ws[k9]? = some x → (mmS (T.setVm vm1) cA comp N' K' N').heap[x.1]? = H[x.1]? := fun k9 x hx => i4 x.1 ((hP k9 x hx).lt)
  have hnew : va_P D vwCl (mmB C H.size N' K') (mmS (T.setVm vm1) cA comp N' K' N').heap := by
    intro k9 x hx
    rcases mmB_at hx with ⟨-, rfl⟩ | ⟨j, hj, -, rfl⟩
    · show (mmS (T.setVm vm1) cA comp N' K' N').heap[H.size]? = some (vp_cell (C 6) (N', .inr (.inr (.inr (.inr (fun i => some (H.size + 1 + i)))))))
      rw [j5, vp_cell_q, eA]
      exact congrArg some (arrV_cg (fun j hj => by unfold mmF; rw [if_pos hj]; rfl))
    · show (mmS (T.setVm vm1) cA comp N' K' N').heap[H.size + 1 + j]? = some (vp_cell (C 1) (K', .inl (fun _ => 0)))
      rw [j6 j hj, vp_cell_i, eC]
  have hDn : va_D A (mmB C H.size N' K') := ⟨fun i j p q hi hj e => by have e1 := mmB_ad hi; have e2 := mmB_ad hj; omega, fun k9 q hk9 => by rw [mmB_ad hk9]; exact hA _ (Nat.le_trans hS.1 (Nat.le_add_right _ _))⟩
  obtain ⟨t, a1, b1⟩ := kk H.size (mmS (T.setVm vm1) cA comp N' K' N').heap (locs ++ L) (va_P.app (hP.kept hold) hnew) (va_D.app hD hDn (fun i j x y hx hy e => by have g1 := (hP i x hx).lt; have g2 := mmB_ad hy; omega)) ⟨by rw [i2]; have := hS.1; omega, fun x h7 h8 => (i4 x (Nat.lt_of_lt_of_le h7 hS.1)).trans (hS.2.1 x h7 h8), fun q hq => by
    rcases List.mem_append.mp hq with h | h
    · exact hS.2.2 q h
    · rw [i10 q h]; exact hA _ hS.1⟩ _ rfl i9
  refine ⟨t, ?_, b1⟩
  have hdg' : decode c.code (F0 m pc ls (.int k :: .int n :: rest)).pc = .ok (.multianewarray index 2, 4) := by rw [hb]; exact hdg
  jvm_step X.here [hexec, hdg']
  simp only [multianewarray.sem, wp_bind', W.resolveClassAt_links (State.method?_setTop (F0 m pc ls (.int k :: .int n :: rest)) X.here.top) hg1]
  rw [W.popN, if_neg (by decide)]
  refine ⟨F0 m pc ls (.int k :: .int n :: rest), State.topJava?_setTop' (s := T.setVm vm1) (F0 m pc ls (.int k :: .int n :: rest)) X.here.top, [.int n, .int k], rest, rfl, rfl, ?_⟩
  simp only [List.mapM_cons, List.mapM_nil, wp_bind', wp_pure']
  have eS : ((T.setTop (F0 m pc ls (.int k :: .int n :: rest))).setVm vm1).setTop { F0 m pc ls (.int k :: .int n :: rest) with stack := rest } = (T.setVm vm1).setTop { F0 m pc ls (.int k :: .int n :: rest) with stack := rest } := by
    show ((T.setVm vm1).setTop (F0 m pc ls (.int k :: .int n :: rest))).setTop _ = _
    rw [State.setTop_setTop]
  rw [eS]
  refine mm_wp (N := N') (K := K') (k := kA1) (kc := kC1) (c0 := c0) X1 hkA1 (by rw [heA]; exact h4) hkC1 (by rw [heC]; exact h6) hn hk hN hKk hb9 hcells hslots (fun d' acts' => ?_)
  simp only [wp_bind', W.mark, W.pushRef, State.topJava?_setTop' _ i9.here.top, Option.some.injEq, exists_eq_left', State.setTop_setTop, State.heap_setTop]
  intro acts
  simp [jvm, i9.here.top]
  rw [hT]
  exact a1
/-- a nest mate's constructor, of an object at the end of the world -/
theorem ciT {host : String} {S1 : Type} {post : S1 → Prop} {wsP : S1 → va_W} {x : Nat × va_E} (S : CallFix p m c cc nL s args Ts own) (hT : ∀ w ∈ uw, w ∈ Ts)
    (hM : Met l y (uc y bytes maxL none) (rmL h mc ms) (va_Pc (.ref a :: As) (MPre D (tyl C) [x] H.size)) (va_Qv post (MB D (tyl C) [x] H.size wsP) (va_A [x] H.size)) mc ms (va_A [x] H.size))
    (q1 : va_Nw (.methodLinkNest own index y host) s) (q2 : Cond.instanceMethod y ∈ uw) (q4 : Cond.initialized y.cls ∈ uw) (q5 : Cond.code y bytes maxL none ∈ uw)
    (hy : y.name = "<init>") (hd : HdV y Cn n)
    (hR : h + 1 ≤ R.frames ∧ 8 + (maxL + 11) + 60 * h ≤ R.locals) (hf : cells + mc ≤ R.cells ∧ slots + ms ≤ R.slots)
    (hE : EX s) (hK : va_K D vwCl (tyl C) s) (hP : va_P D vwCl (ws ++ [x]) H) (hD : va_D A (ws ++ [x])) (hS : va_S A H0 H locs) (hA : ∀ q, H0.size ≤ q → A q)
    (hn : As.length = n) (hl : ls.size = nL) (hst : st0 = As.reverse ++ .ref a :: rest) (hw : (rest.map fun v => v.category).sum ≤ 8) (hdg : decode cc pc = .ok (.invokespecial index, 3))
    (kk : ∀ (u : S1) (H1 : Heap) (locs1 : List Loc), post u → va_P D vwCl (ws ++ wsP u) H1 → va_D A (ws ++ wsP u) → va_S A H0 H1 locs1 → W p l e R s m args below meth c H1 locs1 (cells + mc) (slots + ms) Q (F0 m (pc + 3) ls rest)) : W p l e R s m args below meth c H locs cells slots Q (F0 m pc ls st0) :=
  ciN (host := host) (wr := ws) S hT hM q1 q2 q4 q5 hy hd.2 hR hf hE hK hP hD hS hA ((List.range [x].length).map (ws.length + ·)) ((List.range ws.length).map (0 + ·)) at_right at_left (nd_range _ _) (nd_range _ _) at_dis hn hl hst hw hdg kk
/-- a constructor, of an object at the end of the world -/
theorem ciU {S1 : Type} {post : S1 → Prop} {wsP : S1 → va_W} {x : Nat × va_E} (S : CallFix p m c cc nL s args Ts own) (hT : ∀ w ∈ uw, w ∈ Ts)
    (hM : Met l y (uc y bytes maxL none) (rmL h mc ms) (va_Pc (.ref a :: As) (MPre D (tyl C) [x] H.size)) (va_Qv post (MB D (tyl C) [x] H.size wsP) (va_A [x] H.size)) mc ms (va_A [x] H.size))
    (q1 : Cond.methodLink own index y ∈ uw) (q2 : Cond.instanceMethod y ∈ uw) (q4 : Cond.initialized y.cls ∈ uw) (q5 : Cond.code y bytes maxL none ∈ uw)
    (hy : y.name = "<init>") (hd : HdV y Cn n)
    (hR : h + 1 ≤ R.frames ∧ 8 + (maxL + 11) + 60 * h ≤ R.locals) (hf : cells + mc ≤ R.cells ∧ slots + ms ≤ R.slots)
    (hE : EX s) (hK : va_K D vwCl (tyl C) s) (hP : va_P D vwCl (ws ++ [x]) H) (hD : va_D A (ws ++ [x])) (hS : va_S A H0 H locs) (hA : ∀ q, H0.size ≤ q → A q)
    (hn : As.length = n) (hl : ls.size = nL) (hst : st0 = As.reverse ++ .ref a :: rest) (hw : (rest.map fun v => v.category).sum ≤ 8) (hdg : decode cc pc = .ok (.invokespecial index, 3))
    (kk : ∀ (u : S1) (H1 : Heap) (locs1 : List Loc), post u → va_P D vwCl (ws ++ wsP u) H1 → va_D A (ws ++ wsP u) → va_S A H0 H1 locs1 → W p l e R s m args below meth c H1 locs1 (cells + mc) (slots + ms) Q (F0 m (pc + 3) ls rest)) : W p l e R s m args below meth c H locs cells slots Q (F0 m pc ls st0) :=
  ciM (wr := ws) S hT hM q1 q2 q4 q5 hy hd.2 hR hf hE hK hP hD hS hA ((List.range [x].length).map (ws.length + ·)) ((List.range ws.length).map (0 + ·)) at_right at_left (nd_range _ _) (nd_range _ _) at_dis hn hl hst hw hdg kk
end NX
theorem i32tr {a b c : Int32} (h1 : a ≤ b) (h2 : b ≤ c) : a ≤ c := by
  simp only [Int32.le_iff_toInt_le] at h1 h2 ⊢
  omega
theorem vcong {cA : ClassId} {n : Nat} {f g : Nat → Int32} (h : ∀ j, j < n → f j = g j) : vp_cell cA (n, .inl f) = vp_cell cA (n, .inl g) := by
  rw [vp_cell_i, vp_cell_i]
  unfold arrV
  congr 1
  exact congrArg Array.ofFn (funext fun i => congrArg Value.int (h i.1 i.2))
theorem wcong {D : va_G} {cl : List vw_C} {ws : va_W} {H : Heap} {A : Nat → Prop} {a n : Nat} {cA : ClassId} {f g : Nat → Int32} (k : Nat) (hP : va_P D cl ws H) (hD : va_D A ws) (ha : ws[k]? = some (a, .inl (cA, n, .inl f))) (h : ∀ j, j < n → f j = g j) : va_P D cl (ws.set k (a, .inl (cA, n, .inl g))) H ∧ va_D A (ws.set k (a, .inl (cA, n, .inl g))) := by
  refine ⟨hP.set hD ha ?_ (fun _ _ => rfl), hD.set ha⟩
  have h9 := hP k _ ha
  show H[a]? = some (vp_cell cA (n, .inl g))
  rw [← vcong h]
  exact h9
/-- what 'arrayOver' of int[] says, and 'arrayClass' of int -/
theorem AMM.of {args : Array Value} {s : State} (h : (Cond.arrayOver (.array .int)).before args s = true) (h2 : (Cond.arrayClass .int).before args s = true) : AMM s := by
  obtain ⟨ci, kc, c0, f1, f2, f3⟩ := Cond.arrayClass_spec h2
  have f1' : s.vm.findClass "[I" = some ci := f1
  have e1 : (FieldType.array .int).toString = "[I" := rfl
  simp only [Cond.before, Cond.holds, Cond.value, beq_iff_eq, e1, f1', Option.bind_some, Option.bind_eq_some_iff, Option.map_eq_some_iff] at h
  obtain ⟨cA, hi, k, hk, hb⟩ := h
  obtain ⟨hlt, hp, -⟩ := Array.findIdx?_eq_some_iff_getElem.mp hi
  have hkk : s.vm.classes[cA] = k := (Array.getElem?_eq_some_iff.mp hk).2
  rw [hkk] at hp
  cases hkind : k.kind with
  | array comp ty =>
    rw [hkind] at hb hp
    simp only [beq_iff_eq, Bool.and_eq_true, decide_eq_true_eq] at hb hp
    exact ⟨ci, cA, c0, k, kc, f1', hb.2, hk, by rw [hkind, hp, hb.1], f2, f3⟩
  | _ => rw [hkind] at hb; simp at hb
