/-! one list of words for every method: the good words of the tables -/
def uw : List Cond := lw_tbl.filter goodWord
theorem uw_mem {w : Cond} (i : Nat) (h : lw_tbl[i]? = some w) (hg : goodWord w = true) : w ∈ uw := List.mem_filter.mpr ⟨List.mem_of_getElem? h, hg⟩
theorem uw_in {w : Cond} (h : w ∈ uw) : w ∈ lw_tbl := (List.mem_filter.mp h).1
theorem uw_good {w : Cond} (h : w ∈ uw) : goodWord w = true := (List.mem_filter.mp h).2
theorem uw_sub {ws : List Cond} (ps : List Nat) (hp : ws = ps.filterMap (fun i => lw_tbl[i]?)) (h : ws.all goodWord = true) : ∀ w ∈ ws, w ∈ uw := by
  intro w hw
  have h1 := List.all_eq_true.mp h w hw
  rw [hp] at hw
  obtain ⟨i, -, hi⟩ := List.mem_filterMap.mp hw
  exact uw_mem i hi h1
def uc (y : MethodName) (b : ByteArray) (n : Nat) (r : Option FieldType) : List Cond := Cond.code y b n r :: uw
theorem uc_in {y : MethodName} {b : ByteArray} {n : Nat} {r : Option FieldType} : ∀ w ∈ uw, w ∈ uc y b n r := fun _ h => List.mem_cons_of_mem _ h
theorem uw_gd {Ts : List Cond} (hT : ∀ w ∈ uw, w ∈ Ts) {w : Cond} (h : w ∈ uw) : w ∈ Ts ∧ ((w.onTables && w.keeps) = true ∨ ∃ ty, w = .arrayClass ty) := ⟨hT w h, good_of_word (uw_good h)⟩
theorem uc_good {Ts : List Cond} (hT : ∀ w ∈ uw, w ∈ Ts) {y : MethodName} {b : ByteArray} {n : Nat} {r : Option FieldType} (hc : Cond.code y b n r ∈ uw) : GoodIn Ts (uc y b n r) := by
  intro w hw
  rcases List.mem_cons.mp hw with h | h
  · rw [h]; exact uw_gd hT hc
  · exact uw_gd hT h
theorem uV_good {Ts : List Cond} (hT : ∀ w ∈ uw, w ∈ Ts) {own C : String} {idx : Nat} {y : MethodName} {b : ByteArray} {n : Nat} {r : Option FieldType} (h1 : Cond.methodLink own idx y ∈ uw) (h2 : Cond.instanceMethod y ∈ uw) (h3 : Cond.selects C y y ∈ uw) (h4 : Cond.initialized C ∈ uw) (hc : Cond.code y b n r ∈ uw) : GoodIn Ts (wsV own idx C y (uc y b n r)) := by
  intro w hw
  rcases List.mem_append.mp hw with h | h
  · simp only [List.mem_cons, List.not_mem_nil, or_false] at h
    rcases h with h | h | h | h <;> rw [h]
    · exact uw_gd hT h1
    · exact uw_gd hT h2
    · exact uw_gd hT h3
    · exact uw_gd hT h4
  · exact uc_good hT hc w h
theorem uS_good {Ts : List Cond} (hT : ∀ w ∈ uw, w ∈ Ts) {own : String} {idx : Nat} {y : MethodName} {b : ByteArray} {n : Nat} {r : Option FieldType} (h1 : Cond.methodLink own idx y ∈ uw) (h2 : Cond.static y ∈ uw) (h4 : Cond.initialized y.cls ∈ uw) (hc : Cond.code y b n r ∈ uw) : GoodIn Ts (va_wsS own idx y (uc y b n r)) := by
  intro w hw
  rcases List.mem_append.mp hw with h | h
  · simp only [List.mem_cons, List.not_mem_nil, or_false] at h
    rcases h with h | h | h <;> rw [h]
    · exact uw_gd hT h1
    · exact uw_gd hT h2
    · exact uw_gd hT h4
  · exact uc_good hT hc w h
abbrev rmL (h mc ms : Nat) : Room := { frames := h, cells := mc, slots := ms, locals := 60 * h }
/-- a contract out of its walk -/
theorem pm {l : Launch} {y : MethodName} {b : ByteArray} {n : Nat} {ret : Option FieldType} {rm : Room} {av : List Value} {Pre : State → Prop} {Qc : Array Value → State → Outcome → State → Prop} {mc ms : Nat} {free : Addr → Prop}
    (hy : plainName y.cls = true) (hn : (lg_sl av).length ≤ n)
    (body : ∀ (p : Program) (e : Env) (s : State) (m : MethodId) (below : List Frame) (meth : Method) (c : Code) (ls : Array Slot), p.tables.exec = Jvm.exec → c.code = b → meth.sig.returnType = ret → c.maxLocals = n → s.vm.findClass y.cls = some m.cls → meth.locks = false → meth.name = y.name → (∀ w ∈ uc y b n ret, w.before av.toArray s = true) → Pre s → lv_has ls n (lv_args 0 av) →
      W p l e rm s m av.toArray below meth c s.heap [] 0 0 (MQ below Qc av.toArray s mc ms free) (F0 m 0 ls [])) : Met l y (uc y b n ret) rm (va_Pc av Pre) Qc mc ms free := by
  refine Met.ofW (cc := b) (maxL := n) (ret := ret) hy rfl ?_
  intro p e s m args below meth c s₁ B hml hv
  obtain ⟨rfl, hPre⟩ := hv
  have hl := lv_entry av (n := n) hn
  rw [lg_entry_eq]
  exact body p e s m below meth c _ B.exec B.bytes B.returns hml (findClass_of_methodNamed B.named) B.notSynchronized (name_of_methodNamed B.named B.method).1 (atoms_spec (ws := uc y b n ret) B.pre) hPre hl
