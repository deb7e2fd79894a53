/-! one list of words for every method: the good words of the tables -/
def uw : List Cond := lw_tbl.filter goodWord
theorem uw_mem {w : Cond} (i : Nat) (h : lw_tbl[i]? = some w) (hg : goodWord w = true) : w ∈ uw := List.mem_filter.mpr ⟨List.mem_of_getElem? h, hg⟩
theorem uw_in {w : Cond} (h : w ∈ uw) : w ∈ lw_tbl := (List.mem_filter.mp h).1
theorem uw_good {w : Cond} (h : w ∈ uw) : goodWord w = true := (List.mem_filter.mp h).2
theorem uw_sub {ws : List Cond} (ps : List Nat) (hp : ws = ps.filterMap (fun i => lw_tbl[i]?)) (h : ws.all goodWord = true) : ∀ w ∈ ws, w ∈ uw := by
  intro w hw
  have h1 := List.all_eq_true.mp h w hw
  rw [hp] at hw
  obtain ⟨i, -, hi⟩ := List.mem_filterMap.mp hw
  exact uw_mem i hi h1
def uc (y : MethodName) (b : ByteArray) (n : Nat) (r : Option FieldType) : List Cond := Cond.code y b n r :: uw
theorem uc_in {y : MethodName} {b : ByteArray} {n : Nat} {r : Option FieldType} : ∀ w ∈ uw, w ∈ uc y b n r := fun _ h => List.mem_cons_of_mem _ h
theorem uw_gd {Ts : List Cond} (hT : ∀ w ∈ uw, w ∈ Ts) {w : Cond} (h : w ∈ uw) : w ∈ Ts ∧ ((w.onTables && w.keeps) = true ∨ ∃ ty, w = .arrayClass ty) := ⟨hT w h, good_of_word (uw_good h)⟩
theorem uc_good {Ts : List Cond} (hT : ∀ w ∈ uw, w ∈ Ts) {y : MethodName} {b : ByteArray} {n : Nat} {r : Option FieldType} (hc : Cond.code y b n r ∈ uw) : GoodIn Ts (uc y b n r) := by
  intro w hw
  rcases List.mem_cons.mp hw with h | h
  · rw [h]; exact uw_gd hT hc
  · exact uw_gd hT h
theorem uV_good {Ts : List Cond} (hT : ∀ w ∈ uw, w ∈ Ts) {own C : String} {idx : Nat} {y : MethodName} {b : ByteArray} {n : Nat} {r : Option FieldType} (h1 : Cond.methodLink own idx y ∈ uw) (h2 : Cond.instanceMethod y ∈ uw) (h3 : Cond.selects C y y ∈ uw) (h4 : Cond.initialized C ∈ uw) (hc : Cond.code y b n r ∈ uw) : GoodIn Ts (wsV own idx C y (uc y b n r)) := by
  intro w hw
  rcases List.mem_append.mp hw with h | h
  · simp only [List.mem_cons, List.not_mem_nil, or_false] at h
    rcases h with h | h | h | h <;> rw [h]
    · exact uw_gd hT h1
    · exact uw_gd hT h2
    · exact uw_gd hT h3
    · exact uw_gd hT h4
  · exact uc_good hT hc w h
theorem uS_good {Ts : List Cond} (hT : ∀ w ∈ uw, w ∈ Ts) {own : String} {idx : Nat} {y : MethodName} {b : ByteArray} {n : Nat} {r : Option FieldType} (h1 : Cond.methodLink own idx y ∈ uw) (h2 : Cond.static y ∈ uw) (h4 : Cond.initialized y.cls ∈ uw) (hc : Cond.code y b n r ∈ uw) : GoodIn Ts (va_wsS own idx y (uc y b n r)) := by
  intro w hw
  rcases List.mem_append.mp hw with h | h
  · simp only [List.mem_cons, List.not_mem_nil, or_false] at h
    rcases h with h | h | h <;> rw [h]
    · exact uw_gd hT h1
    · exact uw_gd hT h2
    · exact uw_gd hT h4
  · exact uc_good hT hc w h
abbrev rmL (h mc ms : Nat) : Room := { frames := h, cells := mc, slots := ms, locals := 60 * h }
/-- a contract out of its walk -/
theorem pm {l : Launch} {y : MethodName} {b : ByteArray} {n : Nat} {ret : Option FieldType} {rm : Room} {av : List Value} {Pre : State → Prop} {Qc : Array Value → State → Outcome → State → Prop} {mc ms : Nat} {free : Addr → Prop}
    (hy : plainName y.cls = true) (hn : (lg_sl av).length ≤ n)
    (body : ∀ (p : Program) (e : Env) (s : State) (m : MethodId) (below : List Frame) (meth : Method) (c : Code) (ls : Array Slot), p.tables.exec = Jvm.exec → c.code = b → meth.sig.returnType = ret → c.maxLocals = n → s.vm.findClass y.cls = some m.cls → meth.locks = false → meth.name = y.name → (∀ w ∈ uc y b n ret, w.before av.toArray s = true) → Pre s → lv_has ls n (lv_args 0 av) →
      W p l e rm s m av.toArray below meth c s.heap [] 0 0 (MQ below Qc av.toArray s mc ms free) (F0 m 0 ls [])) : Met l y (uc y b n ret) rm (va_Pc av Pre) Qc mc ms free := by
  refine Met.ofW (cc := b) (maxL := n) (ret := ret) hy rfl ?_
  intro p e s m args below meth c s₁ B hml hv
  obtain ⟨rfl, hPre⟩ := hv
  have hl := lv_entry av (n := n) hn
  rw [lg_entry_eq]
  exact body p e s m below meth c _ B.exec B.bytes B.returns hml (findClass_of_methodNamed B.named) B.notSynchronized (name_of_methodNamed B.named B.method).1 (atoms_spec (ws := uc y b n ret) B.pre) hPre hl
/-! the forms of a contract's start and end -/
abbrev RPre (D : va_G) (tys : List (ClassId × FieldType)) (ws : va_W) : State → Prop := fun U => va_P D vwCl ws U.heap ∧ va_K D vwCl tys U
abbrev MPre (D : va_G) (tys : List (ClassId × FieldType)) (ws : va_W) (sz : Nat) : State → Prop := fun U => U.heap.size = sz ∧ va_P D vwCl ws U.heap ∧ va_K D vwCl tys U ∧ va_D (fun _ => True) ws
abbrev MB (D : va_G) (tys : List (ClassId × FieldType)) (ws : va_W) (sz : Nat) {S : Type} (wsP : S → va_W) : S → State → Prop := fun u t => va_P D vwCl (wsP u) t.heap ∧ va_K D vwCl tys t ∧ va_D (va_A ws sz) (wsP u)
theorem blR {D : va_G} {tys : List (ClassId × FieldType)} {ws : va_W} {av : List Value} : FrameBlind (va_Pc av (RPre D tys ws)) := fun a U g mk q => by
  obtain ⟨q0, qP, qK⟩ := q
  exact ⟨q0, qP, va_K.moved (u := U) (U := U.calling g mk a) (Vm.Alike.refl U.vm) qK⟩
theorem bl0 {av : List Value} : FrameBlind (va_Pc av (fun _ => True)) := fun a U g mk q => q
theorem blM {D : va_G} {tys : List (ClassId × FieldType)} {ws : va_W} {sz : Nat} {av : List Value} : FrameBlind (va_Pc av (MPre D tys ws sz)) := fun a U g mk q => by
  obtain ⟨q0, q1, qP, qK, qD⟩ := q
  exact ⟨q0, q1, qP, va_K.moved (u := U) (U := U.calling g mk a) (Vm.Alike.refl U.vm) qK, qD⟩
theorem mapFM {ws wc : va_W} {is : List Nat} (h : is.map (fun i => ws[i]?) = wc.map some) : is.filterMap (fun i => ws[i]?) = wc := by
  have h1 : (is.map (fun i => ws[i]?)).filterMap id = wc := by rw [h]; simp
  simpa [List.filterMap_map] using h1
section PV
variable {p : Program} {l : Launch} {e : Env} {R : Room} {s : State} {m : MethodId} {args : Array Value} {below : List Frame} {meth : Method} {c : Code} {H : Heap} {locs : List Loc} {cells slots : Nat} {Q : State → Prop}
variable {cc : ByteArray} {pc nL : Nat} {ls : Array Slot} {rest st0 : List Value} {D : va_G} {A : Nat → Prop} {a : Nat} {tys : List (ClassId × FieldType)} {ws wc wr : va_W} {H0 : Heap}
variable {Ts : List Cond} {own C : String} {index n maxL h mc ms : Nat} {y : MethodName} {bytes : ByteArray} {ret : Option FieldType} {As : List Value}
theorem pv_i {x v : Int32} (hv : x = v) (k : W p l e R s m args below meth c H locs cells slots Q (F0 m pc ls (.int v :: rest))) : W p l e R s m args below meth c H locs cells slots Q (F0 m pc ls (.int x :: rest)) := hv ▸ k
theorem pv_l {x v : Int64} (hv : x = v) (k : W p l e R s m args below meth c H locs cells slots Q (F0 m pc ls (.long v :: rest))) : W p l e R s m args below meth c H locs cells slots Q (F0 m pc ls (.long x :: rest)) := hv ▸ k
theorem pv_v {x v : Value} (hv : x = v) (k : W p l e R s m args below meth c H locs cells slots Q (F0 m pc ls (v :: rest))) : W p l e R s m args below meth c H locs cells slots Q (F0 m pc ls (x :: rest)) := hv ▸ k
/-- a call that reads a world and answers an int -/
theorem cvR {r : Int32} (S : CallFix p m c cc nL s args Ts own) (hT : ∀ w ∈ uw, w ∈ Ts)
    (hM : Met l y (uc y bytes maxL ret) (rmL h 0 0) (va_Pc (.ref a :: As) (RPre D tys wc)) (QcRead r) 0 0 (fun _ => False))
    (q1 : Cond.methodLink own index y ∈ uw) (q2 : Cond.instanceMethod y ∈ uw) (q3 : Cond.selects C y y ∈ uw) (q4 : Cond.initialized C ∈ uw) (q5 : Cond.code y bytes maxL ret ∈ uw)
    (hd : y.cls = C ∧ y.cls ≠ "java/lang/invoke/MethodHandle" ∧ y.cls ≠ "java/lang/invoke/VarHandle" ∧ (parseMethodDescriptor y.desc).map (fun d => d.parameters.length) = some n)
    (hR : h + 1 ≤ R.frames ∧ 8 + (maxL + 11) + 60 * h ≤ R.locals) (hf : cells ≤ R.cells ∧ slots ≤ R.slots)
    (hK : va_K D vwCl tys s) (hP : va_P D vwCl wc H) (ci q0 : Nat) {T : u_T} {N : Nat} {fs : List Value} (hc : vwCl[ci]? = some (C, T, N)) (he : wc[q0]? = some (a, .inr (ci, fs)))
    (hn : As.length = n) (hl : ls.size = nL) (hst : st0 = As.reverse ++ .ref a :: rest) (hw : (rest.map fun v => v.category).sum ≤ 8) (hdg : decode cc pc = .ok (.invokevirtual index, 3))
    (kk : W p l e R s m args below meth c H locs cells slots Q (F0 m (pc + 3) ls (.int r :: rest))) : W p l e R s m args below meth c H locs cells slots Q (F0 m pc ls st0) :=
  W.callR (W.runV (As := As) (rest := rest) (C := C) S hM (cwV n S.2.2.2.2 (uV_good hT q1 q2 q3 q4 q5) rfl rfl rfl hd hR) ⟨blR, va_recv hK hP hc he, fun U hU hW => ⟨rfl, by rw [hU]; exact hP, va_K.moved hW.alike hK⟩⟩ rfl hn hl hst (lv_room hw) hdg hf) kk
/-- a static call that reads nothing and answers an int -/
theorem csR {r : Int32} (S : CallFix p m c cc nL s args Ts own) (hT : ∀ w ∈ uw, w ∈ Ts)
    (hM : Met l y (uc y bytes maxL ret) (rmL h 0 0) (va_Pc As (fun _ => True)) (QcRead r) 0 0 (fun _ => False))
    (q1 : Cond.methodLink own index y ∈ uw) (q2 : Cond.static y ∈ uw) (q4 : Cond.initialized y.cls ∈ uw) (q5 : Cond.code y bytes maxL ret ∈ uw)
    (hd : y.cls ≠ "java/lang/invoke/MethodHandle" ∧ y.cls ≠ "java/lang/invoke/VarHandle" ∧ (parseMethodDescriptor y.desc).map (fun d => d.parameters.length) = some n)
    (hR : h + 1 ≤ R.frames ∧ 8 + (maxL + 11) + 60 * h ≤ R.locals) (hf : cells ≤ R.cells ∧ slots ≤ R.slots)
    (hn : As.length = n) (hl : ls.size = nL) (hst : st0 = As.reverse ++ rest) (hw : (rest.map fun v => v.category).sum ≤ 8) (hdg : decode cc pc = .ok (.invokestatic index, 3))
    (kk : W p l e R s m args below meth c H locs cells slots Q (F0 m (pc + 3) ls (.int r :: rest))) : W p l e R s m args below meth c H locs cells slots Q (F0 m pc ls st0) :=
  W.callR (W.runS (As := As) (rest := rest) S hM (va_cwS n S.2.2.2.2 (uS_good hT q1 q2 q4 q5) rfl rfl rfl hd hR) ⟨bl0, fun U hU hW => ⟨rfl, trivial⟩⟩ rfl hn hl hst (lv_room hw) hdg hf) kk
/-- a call that changes its cells and answers an int -/
theorem cvM {S1 : Type} {post : Int32 → S1 → Prop} {wsP : S1 → va_W} (S : CallFix p m c cc nL s args Ts own) (hT : ∀ w ∈ uw, w ∈ Ts)
    (hM : Met l y (uc y bytes maxL ret) (rmL h mc ms) (va_Pc (.ref a :: As) (MPre D tys wc H.size)) (va_Qi post (MB D tys wc H.size wsP) (va_A wc H.size)) mc ms (va_A wc H.size))
    (q1 : Cond.methodLink own index y ∈ uw) (q2 : Cond.instanceMethod y ∈ uw) (q3 : Cond.selects C y y ∈ uw) (q4 : Cond.initialized C ∈ uw) (q5 : Cond.code y bytes maxL ret ∈ uw)
    (hd : y.cls = C ∧ y.cls ≠ "java/lang/invoke/MethodHandle" ∧ y.cls ≠ "java/lang/invoke/VarHandle" ∧ (parseMethodDescriptor y.desc).map (fun d => d.parameters.length) = some n)
    (hR : h + 1 ≤ R.frames ∧ 8 + (maxL + 11) + 60 * h ≤ R.locals) (hf : cells + mc ≤ R.cells ∧ slots + ms ≤ R.slots)
    (hK : va_K D vwCl tys s) (hP : va_P D vwCl ws H) (hD : va_D A ws) (hS : va_S A H0 H locs) (hA : ∀ q, H0.size ≤ q → A q)
    (isC isR : List Nat) (hC : isC.map (fun i => ws[i]?) = wc.map some) (hRr : isR.map (fun i => ws[i]?) = wr.map some) (hnC : va_nd isC = true) (hnR : va_nd isR = true) (hdis : ∀ i ∈ isR, i ∉ isC)
    (ci q0 : Nat) {T : u_T} {N : Nat} {fs : List Value} (hc : vwCl[ci]? = some (C, T, N)) (he : wc[q0]? = some (a, .inr (ci, fs)))
    (hn : As.length = n) (hl : ls.size = nL) (hst : st0 = As.reverse ++ .ref a :: rest) (hw : (rest.map fun v => v.category).sum ≤ 8) (hdg : decode cc pc = .ok (.invokevirtual index, 3))
    (kk : ∀ (r : Int32) (u : S1) (H1 : Heap) (locs1 : List Loc), post r u → va_P D vwCl (wr ++ wsP u) H1 → va_D A (wr ++ wsP u) → va_S A H0 H1 locs1 → W p l e R s m args below meth c H1 locs1 (cells + mc) (slots + ms) Q (F0 m (pc + 3) ls (.int r :: rest))) : W p l e R s m args below meth c H locs cells slots Q (F0 m pc ls st0) := by
  have hPc := hP.sub isC (mapFM hC)
  have hDc := hD.sub isC hnC hC
  have hFc := va_free hD hS hA isC hC
  refine va_calli (va_runV (As := As) (rest := rest) (C := C) S hM (cwV n S.2.2.2.2 (uV_good hT q1 q2 q3 q4 q5) rfl rfl rfl hd hR) ⟨blM, va_recv hK hPc hc he, fun U hU hW => ⟨rfl, by rw [hU], by rw [hU]; exact hPc, va_K.moved hW.alike hK, hDc.weaken (fun _ _ _ _ => trivial)⟩⟩ rfl hn hl hst (lv_room hw) hdg hf) hS (fun q _ h => hFc q h) hFc (fun r u t H1 locs1 ht hvm hpo hB hz1 hk1 hS1 => ?_)
  obtain ⟨hP1, -, hD1⟩ := hB
  rw [ht] at hP1
  obtain ⟨hP2, hD2⟩ := va_join hP hD isC isR hC hRr hnR hdis hk1 hFc hP1 hD1
  exact kk r u H1 locs1 hpo hP2 hD2 hS1
/-- a call that changes its cells and answers nothing -/
theorem cvV {S1 : Type} {post : S1 → Prop} {wsP : S1 → va_W} (S : CallFix p m c cc nL s args Ts own) (hT : ∀ w ∈ uw, w ∈ Ts)
    (hM : Met l y (uc y bytes maxL none) (rmL h mc ms) (va_Pc (.ref a :: As) (MPre D tys wc H.size)) (va_Qv post (MB D tys wc H.size wsP) (va_A wc H.size)) mc ms (va_A wc H.size))
    (q1 : Cond.methodLink own index y ∈ uw) (q2 : Cond.instanceMethod y ∈ uw) (q3 : Cond.selects C y y ∈ uw) (q4 : Cond.initialized C ∈ uw) (q5 : Cond.code y bytes maxL none ∈ uw)
    (hd : y.cls = C ∧ y.cls ≠ "java/lang/invoke/MethodHandle" ∧ y.cls ≠ "java/lang/invoke/VarHandle" ∧ (parseMethodDescriptor y.desc).map (fun d => d.parameters.length) = some n)
    (hR : h + 1 ≤ R.frames ∧ 8 + (maxL + 11) + 60 * h ≤ R.locals) (hf : cells + mc ≤ R.cells ∧ slots + ms ≤ R.slots)
    (hK : va_K D vwCl tys s) (hP : va_P D vwCl ws H) (hD : va_D A ws) (hS : va_S A H0 H locs) (hA : ∀ q, H0.size ≤ q → A q)
    (isC isR : List Nat) (hC : isC.map (fun i => ws[i]?) = wc.map some) (hRr : isR.map (fun i => ws[i]?) = wr.map some) (hnC : va_nd isC = true) (hnR : va_nd isR = true) (hdis : ∀ i ∈ isR, i ∉ isC)
    (ci q0 : Nat) {T : u_T} {N : Nat} {fs : List Value} (hc : vwCl[ci]? = some (C, T, N)) (he : wc[q0]? = some (a, .inr (ci, fs)))
    (hn : As.length = n) (hl : ls.size = nL) (hst : st0 = As.reverse ++ .ref a :: rest) (hw : (rest.map fun v => v.category).sum ≤ 8) (hdg : decode cc pc = .ok (.invokevirtual index, 3))
    (kk : ∀ (u : S1) (H1 : Heap) (locs1 : List Loc), post u → va_P D vwCl (wr ++ wsP u) H1 → va_D A (wr ++ wsP u) → va_S A H0 H1 locs1 → W p l e R s m args below meth c H1 locs1 (cells + mc) (slots + ms) Q (F0 m (pc + 3) ls rest)) : W p l e R s m args below meth c H locs cells slots Q (F0 m pc ls st0) := by
  have hPc := hP.sub isC (mapFM hC)
  have hDc := hD.sub isC hnC hC
  have hFc := va_free hD hS hA isC hC
  refine va_callv (va_runV (As := As) (rest := rest) (C := C) S hM (cwV n S.2.2.2.2 (uV_good hT q1 q2 q3 q4 q5) rfl rfl rfl hd hR) ⟨blM, va_recv hK hPc hc he, fun U hU hW => ⟨rfl, by rw [hU], by rw [hU]; exact hPc, va_K.moved hW.alike hK, hDc.weaken (fun _ _ _ _ => trivial)⟩⟩ rfl hn hl hst (lv_room hw) hdg hf) hS (fun q _ h => hFc q h) hFc (fun u t H1 locs1 ht hvm hpo hB hz1 hk1 hS1 => ?_)
  obtain ⟨hP1, -, hD1⟩ := hB
  rw [ht] at hP1
  obtain ⟨hP2, hD2⟩ := va_join hP hD isC isR hC hRr hnR hdis hk1 hFc hP1 hD1
  exact kk u H1 locs1 hpo hP2 hD2 hS1
end PV
