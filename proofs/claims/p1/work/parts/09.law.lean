/-! THE CLAIM OUT OF ONE WALK OF THE LAW'S BODY. Your part is whole_start (and what it stands on); all else here is the same for every law, but numbers. -/
def R_law : String := "SlowNoonLaw"
def lw_P (b : Addr) (xs : List Int32) (args : Array Value) (s : State) : Prop := args = #[.ref b] ∧ s.IntsAt b xs ∧ xs.length ≤ 6 ∧ (Jvm.Cond.and given_1 narrow_1).before args s = true
def lw_Q (_ : Array Value) (s : State) (o : Outcome) (t : State) : Prop := o = .returned (some (.int 1)) ∧ Framed s o t [] 600000 7302250
def lw_Z (below : List Frame) (a : Array Value) (s : State) : State → Prop := fun t => ∃ o, t.status = .running ∧ Ended t below o ∧ lw_Q a s o t
/-- the law's own end, with 1 on the stack, nothing written that was there before, its room as the claim has it -/
theorem lw_ret {p : Program} {l : Launch} {e : Env} {s : State} {m : MethodId} {below : List Frame} {meth : Method} {c : Code} {b : Nat} (hx : p.tables.exec = Jvm.exec) (hb : c.code = code) (hr : meth.sig.returnType = ret) (hlocks : meth.locks = false) {pc : Nat} {H : Heap} {ls : Array Slot} (hdg : decode code pc = .ok (.ireturn, 1)) : W p l e room_1 s m #[Value.ref b] below meth c H [] 600000 7302250 (lw_Z below #[Value.ref b] s) (F0 m pc ls [.int 1]) := by
  intro T hT X
  obtain ⟨fs, hret, hrun, hended, hW, hframe⟩ := X.leave (v := some (.int 1)) (hlocks := hlocks) (fun h => by rw [hr] at h; cases h)
  have hmeth' : T.vm.method? m = some meth := X.method'
  refine ⟨T.setFrames fs, ?_, .returned (some (.int 1)), hrun, hended, rfl, ⟨_, rfl⟩, hW, hframe⟩
  jvm_step X.here [X.here.top, hx, hb, hdg, hmeth', hr, ret, narrow_b1]
  (try refine ⟨rfl, ?_⟩); (try refine ⟨rfl, ?_⟩)
  first | (intro acts; rw [hret _ acts rfl rfl rfl]) | rw [hret _ _ rfl rfl rfl]
  exact Steps.refl _
/-- what holds at the law's entry: the machine, the code, the tables' words (any of lw_tbl by 'hts w (by decide +kernel)'), the script of L ints xs at the cell b, what the Statement gives of the start (any of its parts by flat_of_before) -/
def lw_At (p : Program) (s : State) (m : MethodId) (meth : Method) (c : Code) (b L : Nat) (xs : Nat → Int32) : Prop :=
  p.tables.exec = Jvm.exec ∧ c.code = code ∧ meth.sig.returnType = ret ∧ c.maxLocals = 4 ∧ s.vm.findClass R_law = some m.cls ∧ (∀ w ∈ lw_tbl, w.before #[Value.ref b] s = true) ∧ va_X b L xs s s.heap ∧ b < s.heap.size ∧ meth.locks = false ∧ (Jvm.Cond.and given_1 narrow_1).before #[Value.ref b] s = true
theorem i32tr {a b c : Int32} (h1 : a ≤ b) (h2 : b ≤ c) : a ≤ c := by
  simp only [Int32.le_iff_toInt_le] at h1 h2 ⊢
  omega
theorem vcong {cA : ClassId} {n : Nat} {f g : Nat → Int32} (h : ∀ j, j < n → f j = g j) : vp_cell cA (n, .inl f) = vp_cell cA (n, .inl g) := by
  rw [vp_cell_i, vp_cell_i]
  unfold arrV
  congr 1
  exact congrArg Array.ofFn (funext fun i => congrArg Value.int (h i.1 i.2))
theorem wcong {D : va_G} {cl : List vw_C} {ws : va_W} {H : Heap} {A : Nat → Prop} {a n : Nat} {cA : ClassId} {f g : Nat → Int32} (k : Nat) (hP : va_P D cl ws H) (hD : va_D A ws) (ha : ws[k]? = some (a, .inl (cA, n, .inl f))) (h : ∀ j, j < n → f j = g j) : va_P D cl (ws.set k (a, .inl (cA, n, .inl g))) H ∧ va_D A (ws.set k (a, .inl (cA, n, .inl g))) := by
  refine ⟨hP.set hD ha ?_ (fun _ _ => rfl), hD.set ha⟩
  have h9 := hP k _ ha
  show H[a]? = some (vp_cell cA (n, .inl g))
  rw [← vcong h]
  exact h9
/-- what 'arrayOver' of int[] says, and 'arrayClass' of int -/
theorem AMM.of {args : Array Value} {s : State} (h : (Cond.arrayOver (.array .int)).before args s = true) (h2 : (Cond.arrayClass .int).before args s = true) : AMM s := by
  obtain ⟨ci, kc, c0, f1, f2, f3⟩ := Cond.arrayClass_spec h2
  have f1' : s.vm.findClass "[I" = some ci := f1
  have e1 : (FieldType.array .int).toString = "[I" := rfl
  simp only [Cond.before, Cond.holds, Cond.value, beq_iff_eq, e1, f1', Option.bind_some, Option.bind_eq_some_iff, Option.map_eq_some_iff] at h
  obtain ⟨cA, hi, k, hk, hb⟩ := h
  obtain ⟨hlt, hp, -⟩ := Array.findIdx?_eq_some_iff_getElem.mp hi
  have hkk : s.vm.classes[cA] = k := (Array.getElem?_eq_some_iff.mp hk).2
  rw [hkk] at hp
  cases hkind : k.kind with
  | array comp ty =>
    rw [hkind] at hb hp
    simp only [beq_iff_eq, Bool.and_eq_true, decide_eq_true_eq] at hb hp
    exact ⟨ci, cA, c0, k, kc, f1', hb.2, hk, by rw [hkind, hp, hb.1], f2, f3⟩
  | _ => rw [hkind] at hb; simp at hb
set_option maxHeartbeats 4000000 in
set_option maxRecDepth 100000 in
theorem k_isWithin (l : Launch) (D : va_G) (tys : List (ClassId × FieldType)) (n lo hi r : Int32) (hr0 : r = if lo ≤ n ∧ n ≤ hi then 1 else 0) : Met l yX9_isWithin (uc yX9_isWithin cX9_isWithin 3 (some .boolean)) (rmL 1 0 0) (va_Pc [.int n, .int lo, .int hi] (RPre D tys [])) (QcRead r) 0 0 (fun _ => False) := by
  refine pm (by decide) (Nat.le_of_ble_eq_true rfl) ?_
  intro p e s m below meth c ls hx hb hr hml hown hlk hnm hts hv hl
  have hl : lv_has ls 3 [(0, .int n), (1, .int lo), (2, .int hi)] := hl
  refine lv_iload_n hx hb dX9_isWithin_0 rfl (lv_at hl 0 rfl) ?_
  refine lv_iload_n hx hb dX9_isWithin_1 rfl (lv_at hl 1 rfl) ?_
  by_cases hc1 : n < lo
  · refine lv_icmp_lt (tgt := 14) hx hb dX9_isWithin_2 (by decide) (fun _ => ?_) (fun c9 => absurd hc1 c9)
    refine lv_iconst (v := 0) hx hb dX9_isWithin_14 (by decide) ?_
    have e9 : r = 0 := by rw [hr0]; exact if_neg (fun q9 => Int32.not_le.mpr hc1 q9.1)
    subst e9
    exact W.zret hx hb hr rfl (fun t ht _ => ⟨rfl, ht⟩) (fun _ h => by cases h) dX9_isWithin_15
  · refine lv_icmp_lt (tgt := 14) hx hb dX9_isWithin_2 (by decide) (fun c9 => absurd c9 hc1) (fun _ => ?_)
    refine lv_iload_n hx hb dX9_isWithin_5 rfl (lv_at hl 0 rfl) ?_
    refine lv_iload_n hx hb dX9_isWithin_6 rfl (lv_at hl 2 rfl) ?_
    by_cases hc2 : hi < n
    · refine lv_icmp_gt (tgt := 14) hx hb dX9_isWithin_7 (by decide) (fun _ => ?_) (fun c9 => absurd hc2 c9)
      refine lv_iconst (v := 0) hx hb dX9_isWithin_14 (by decide) ?_
      have e9 : r = 0 := by rw [hr0]; exact if_neg (fun q9 => Int32.not_le.mpr hc2 q9.2)
      subst e9
      exact W.zret hx hb hr rfl (fun t ht _ => ⟨rfl, ht⟩) (fun _ h => by cases h) dX9_isWithin_15
    · refine lv_icmp_gt (tgt := 14) hx hb dX9_isWithin_7 (by decide) (fun c9 => absurd c9 hc2) (fun _ => ?_)
      refine lv_iconst (v := 1) hx hb dX9_isWithin_10 (by decide) ?_
      refine lv_goto (tgt := 15) hx hb dX9_isWithin_11 (by decide) ?_
      have e9 : r = 1 := by rw [hr0]; exact if_pos ⟨Int32.not_lt.mp hc1, Int32.not_lt.mp hc2⟩
      subst e9
      exact W.zret hx hb hr rfl (fun t ht _ => ⟨rfl, ht⟩) (fun _ h => by cases h) dX9_isWithin_15
set_option maxHeartbeats 4000000 in
set_option maxRecDepth 100000 in
theorem k_in (l : Launch) (D : va_G) (tys : List (ClassId × FieldType)) (n lo hi : Int64) (r : Int32) (hr0 : r = if lo ≤ n ∧ n ≤ hi then 1 else 0) : Met l yX10_in (uc yX10_in cX10_in 6 (some .boolean)) (rmL 1 0 0) (va_Pc [.long n, .long lo, .long hi] (RPre D tys [])) (QcRead r) 0 0 (fun _ => False) := by
  refine pm (by decide) (Nat.le_of_ble_eq_true rfl) ?_
  intro p e s m below meth c ls hx hb hr hml hown hlk hnm hts hv hl
  have hl : lv_has ls 6 [(0, .long n), (2, .long lo), (4, .long hi)] := hl
  refine lv_lload_n hx hb dX10_in_0 rfl (lv_at hl 0 rfl) ?_
  refine lv_lload_n hx hb dX10_in_1 rfl (lv_at hl 1 rfl) ?_
  refine W.lcmp hx hb dX10_in_2 ?_
  refine lv_if_lt (tgt := 17) hx hb dX10_in_3 (by decide) (fun c1 => ?_) (fun c1 => ?_)
  · have h1 : n < lo := (lg_cmp_lt n lo).mp c1
    have e9 : r = 0 := by rw [hr0]; exact if_neg (fun q9 => Int64.not_le.mpr h1 q9.1)
    subst e9
    refine lv_iconst (v := 0) hx hb dX10_in_17 (by decide) ?_
    exact W.zret hx hb hr rfl (fun t ht _ => ⟨rfl, ht⟩) (fun _ h => by cases h) dX10_in_18
  · have h1 : ¬ n < lo := fun q9 => c1 ((lg_cmp_lt n lo).mpr q9)
    refine lv_lload_n hx hb dX10_in_6 rfl (lv_at hl 0 rfl) ?_
    refine lv_lload hx hb dX10_in_7 (lv_at hl 2 rfl) ?_
    refine W.lcmp hx hb dX10_in_9 ?_
    refine lv_if_gt (tgt := 17) hx hb dX10_in_10 (by decide) (fun c2 => ?_) (fun c2 => ?_)
    · have h2 : hi < n := (lg_cmp_gt n hi).mp c2
      have e9 : r = 0 := by rw [hr0]; exact if_neg (fun q9 => Int64.not_le.mpr h2 q9.2)
      subst e9
      refine lv_iconst (v := 0) hx hb dX10_in_17 (by decide) ?_
      exact W.zret hx hb hr rfl (fun t ht _ => ⟨rfl, ht⟩) (fun _ h => by cases h) dX10_in_18
    · have h2 : ¬ hi < n := fun q9 => c2 ((lg_cmp_gt n hi).mpr q9)
      have e9 : r = 1 := by rw [hr0]; exact if_pos ⟨Int64.not_lt.mp h1, Int64.not_lt.mp h2⟩
      subst e9
      refine lv_iconst (v := 1) hx hb dX10_in_13 (by decide) ?_
      refine lv_goto (tgt := 18) hx hb dX10_in_14 (by decide) ?_
      exact W.zret hx hb hr rfl (fun t ht _ => ⟨rfl, ht⟩) (fun _ h => by cases h) dX10_in_18
abbrev fwAll (cB cI cJ cZ cT cR : ClassId) (A B : Nat → Nat) : va_W := [((A 0), .inr (9, [.ref (A 1), .ref (A 3), .ref (A 12), .ref (A 21), .int 0, .ref (A 49), .ref (A 51), .ref (A 60), .ref (A 61), .ref (A 62), .ref (A 63), .ref (A 64)])), ((A 1), .inr (6, [.ref (A 2), .int 0, .int 0, .int (-1), .int 0, .int 0, .int 0, .int 0])), ((A 2), .inl (cB, 800, .inl (fun _ => 0))), ((A 3), .inr (7, [.int 0, .int 0, .int 0, .int 0, .int 0, .int 0, .int 0, .int 0, .ref (A 4), .ref (A 5), .ref (A 6), .ref (A 7), .ref (A 8), .ref (A 9), .ref (A 10), .ref (A 11)])), ((A 4), .inl (cI, 6, .inl (fun _ => 0))), ((A 5), .inl (cI, 6, .inl (fun _ => 0))), ((A 6), .inl (cI, 6, .inl (fun _ => 0))), ((A 7), .inl (cI, 6, .inl (fun _ => 0))), ((A 8), .inl (cI, 6, .inl (fun _ => 0))), ((A 9), .inl (cI, 40, .inl (fun _ => 0))), ((A 10), .inl (cI, 40, .inl (fun _ => 0))), ((A 11), .inl (cI, 40, .inl (fun _ => 0))), ((A 12), .inr (7, [.int 0, .int 0, .int 0, .int 0, .int 0, .int 0, .int 0, .int 0, .ref (A 13), .ref (A 14), .ref (A 15), .ref (A 16), .ref (A 17), .ref (A 18), .ref (A 19), .ref (A 20)])), ((A 13), .inl (cI, 6, .inl (fun _ => 0))), ((A 14), .inl (cI, 6, .inl (fun _ => 0))), ((A 15), .inl (cI, 6, .inl (fun _ => 0))), ((A 16), .inl (cI, 6, .inl (fun _ => 0))), ((A 17), .inl (cI, 6, .inl (fun _ => 0))), ((A 18), .inl (cI, 40, .inl (fun _ => 0))), ((A 19), .inl (cI, 40, .inl (fun _ => 0))), ((A 20), .inl (cI, 40, .inl (fun _ => 0))), ((A 21), .inl (cT, 3, .inr (.inr (.inr (.inr (va_up (va_up (va_up (fun _ => none) 0 (some (A 22))) 1 (some (A 31))) 2 (some (A 40)))))))), ((A 22), .inr (7, [.int 0, .int 0, .int 0, .int 0, .int 0, .int 0, .int 0, .int 0, .ref (A 23), .ref (A 24), .ref (A 25), .ref (A 26), .ref (A 27), .ref (A 28), .ref (A 29), .ref (A 30)])), ((A 23), .inl (cI, 6, .inl (fun _ => 0))), ((A 24), .inl (cI, 6, .inl (fun _ => 0))), ((A 25), .inl (cI, 6, .inl (fun _ => 0))), ((A 26), .inl (cI, 6, .inl (fun _ => 0))), ((A 27), .inl (cI, 6, .inl (fun _ => 0))), ((A 28), .inl (cI, 40, .inl (fun _ => 0))), ((A 29), .inl (cI, 40, .inl (fun _ => 0))), ((A 30), .inl (cI, 40, .inl (fun _ => 0))), ((A 31), .inr (7, [.int 0, .int 0, .int 0, .int 0, .int 0, .int 0, .int 0, .int 0, .ref (A 32), .ref (A 33), .ref (A 34), .ref (A 35), .ref (A 36), .ref (A 37), .ref (A 38), .ref (A 39)])), ((A 32), .inl (cI, 6, .inl (fun _ => 0))), ((A 33), .inl (cI, 6, .inl (fun _ => 0))), ((A 34), .inl (cI, 6, .inl (fun _ => 0))), ((A 35), .inl (cI, 6, .inl (fun _ => 0))), ((A 36), .inl (cI, 6, .inl (fun _ => 0))), ((A 37), .inl (cI, 40, .inl (fun _ => 0))), ((A 38), .inl (cI, 40, .inl (fun _ => 0))), ((A 39), .inl (cI, 40, .inl (fun _ => 0))), ((A 40), .inr (7, [.int 0, .int 0, .int 0, .int 0, .int 0, .int 0, .int 0, .int 0, .ref (A 41), .ref (A 42), .ref (A 43), .ref (A 44), .ref (A 45), .ref (A 46), .ref (A 47), .ref (A 48)])), ((A 41), .inl (cI, 6, .inl (fun _ => 0))), ((A 42), .inl (cI, 6, .inl (fun _ => 0))), ((A 43), .inl (cI, 6, .inl (fun _ => 0))), ((A 44), .inl (cI, 6, .inl (fun _ => 0))), ((A 45), .inl (cI, 6, .inl (fun _ => 0))), ((A 46), .inl (cI, 40, .inl (fun _ => 0))), ((A 47), .inl (cI, 40, .inl (fun _ => 0))), ((A 48), .inl (cI, 40, .inl (fun _ => 0))), ((A 49), .inr (5, [.int 0, .int 0, .ref (A 65), .ref (A 50)])), ((A 50), .inl (cI, 7, .inl (fun _ => 0))), ((A 51), .inl (cR, 4, .inr (.inr (.inr (.inr (va_up (va_up (va_up (va_up (fun _ => none) 0 (some (A 52))) 1 (some (A 54))) 2 (some (A 56))) 3 (some (A 58)))))))), ((A 52), .inr (3, [.int (-1), .int 0, .ref (A 53)])), ((A 53), .inl (cJ, 60, .inr (.inl (fun _ => 0)))), ((A 54), .inr (3, [.int (-1), .int 0, .ref (A 55)])), ((A 55), .inl (cJ, 60, .inr (.inl (fun _ => 0)))), ((A 56), .inr (3, [.int (-1), .int 0, .ref (A 57)])), ((A 57), .inl (cJ, 60, .inr (.inl (fun _ => 0)))), ((A 58), .inr (3, [.int (-1), .int 0, .ref (A 59)])), ((A 59), .inl (cJ, 60, .inr (.inl (fun _ => 0)))), ((B 0), .inr (10, [.int 0, .ref (B 1), .ref (B 2), .ref (B 3), .ref (B 4), .ref (B 5), .int 0, .int 0, .int 0, .int 0, .int 0, .long 0, .int 0, .int 0, .int 0, .int (-1), .ref (B 6), .ref (B 7), .ref (B 8), .ref (B 9), .ref (B 10), .ref (B 11), .ref (B 12), .ref (B 13), .int 0, .int 0, .ref (B 14), .ref (B 15), .int 0, .int 0, .int 0, .ref (B 16), .ref (B 17), .int 0, .int 0, .int 0, .int 0, .int 0, .ref (B 18), .int 0, .int 0, .int 0])), ((B 1), .inl (cI, 4, .inl (fun _ => (-1)))), ((B 2), .inl (cI, 4, .inl (fun _ => 0))), ((B 3), .inl (cJ, 240, .inr (.inl (fun _ => 0)))), ((B 4), .inl (cJ, 60, .inr (.inl (fun _ => 0)))), ((B 5), .inl (cB, 800, .inl (fun _ => 0))), ((B 6), .inl (cI, 5, .inl (fun _ => 0))), ((B 7), .inl (cI, 30, .inl (fun _ => 0))), ((B 8), .inl (cI, 150, .inl (fun _ => 0))), ((B 9), .inl (cI, 25, .inl (fun _ => 0))), ((B 10), .inl (cI, 600, .inl (fun _ => 0))), ((B 11), .inl (cZ, 3, .inl (fun _ => 0)))]
set_option maxHeartbeats 4000000 in
set_option maxRecDepth 100000 in
/-- behind the one call: the law's loop ends, with 1 -/
theorem law_end {p : Program} {l : Launch} {e : Env} {s : State} {m : MethodId} {below : List Frame} {meth : Method} {c : Code} {b : Nat} {xs : Nat → Int32} {H : Heap} {locs : List Loc} {cells slots : Nat} {x1 x2 : Nat} (C0 : lw_At p s m meth c b 6 xs) (hS : va_S (fun q : Nat => s.heap.size ≤ q) s.heap H locs) (h1 : cells ≤ 600000) (h2 : slots ≤ 7302250) (ls : Array Slot) (hl : lv_has ls 4 [(3, .int 0), (2, .ref x2), (1, .ref x1), (0, .ref b)]) : W p l e room_1 s m #[Value.ref b] below meth c H locs cells slots (lw_Z below #[Value.ref b] s) (F0 m 2362 ls []) := by
  obtain ⟨hx, hb, hr, hml, hown, hts, hX, hbl, hlocks, hgv⟩ := id C0
  have hbc : c.code = code := hb
  have hb : c.code = cL_law := hb
  have hbA : ¬ (fun q : Nat => s.heap.size ≤ q) b := Nat.not_le.mpr hbl
  refine lv_iinc (v := 6) (lv' := [(3, .int 6), (2, .ref x2), (1, .ref x1), (0, .ref b)]) hx hb dL_law_2362 hl (k := 0) rfl (by decide) (by decide) rfl (fun ls hl => ?_)
  refine lv_goto (tgt := 18) hx hb dL_law_2365 (by decide) ?_
  refine lv_iload_n hx hb dL_law_18 rfl (lv_at hl 0 rfl) ?_
  refine lv_aload_n hx hb dL_law_19 rfl (lv_at hl 3 rfl) ?_
  refine va_slen hx hb hX hbl hbA hS dL_law_20 ?_
  refine pv_i (v := 6) (by decide) ?_
  refine lv_bipush (v := 6) hx hb dL_law_21 (by decide) ?_
  refine lv_isub hx hb dL_law_23 ?_
  refine pv_i (v := 0) (by decide) ?_
  refine lv_icmp_gt (tgt := 2368) hx hb dL_law_24 (by decide) (fun _ => ?_) (fun c9 => absurd (by decide) c9)
  refine lv_iconst (v := 1) hx hb dL_law_2368 (by decide) ?_
  refine va_forget (fun q hq => hS.2.2 q hq) ?_
  refine W.widen (k := 600000) (n := 7302250) h1 h2 ?_
  exact lw_ret hx hbc hr hlocks dL_law_2369
