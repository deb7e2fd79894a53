/-! rows over a world that is a picture w of the state u -/
abbrev tyl (C : Nat → ClassId) : List (ClassId × FieldType) := [(C 0, .byte), (C 1, .int), (C 2, .long), (C 3, .boolean), (C 4, .object RX7), (C 5, .object RX3), (C 6, .array .int)]
def Hd (D : va_G) (w : St → va_W) (A : Nat → Prop) (H0 : Heap) (u : St) (H : Heap) (locs : List Loc) : Prop := va_P D vwCl (w u) H ∧ va_D A (w u) ∧ va_S A H0 H locs
abbrev PreR (D : va_G) (tys : List (ClassId × FieldType)) (ws : va_W) : State → Prop := fun U => va_P D vwCl ws U.heap ∧ va_K D vwCl tys U
abbrev PreW (D : va_G) (tys : List (ClassId × FieldType)) (w : St → va_W) (X : (Nat → Prop) → State → Prop) (u : St) (sz : Nat) : State → Prop := fun U => U.heap.size = sz ∧ va_P D vwCl (w u) U.heap ∧ va_K D vwCl tys U ∧ va_D (fun _ => True) (w u) ∧ X (va_A (w u) sz) U
abbrev PostW (D : va_G) (w : St → va_W) (u : St) (sz : Nat) : St → State → Prop := fun u' t => va_P D vwCl (w u') t.heap ∧ va_D (va_A (w u) sz) (w u')
def X0 : (Nat → Prop) → State → Prop := fun _ _ => True
def Bl (X : (Nat → Prop) → State → Prop) : Prop := ∀ A U g mk a, X A U → X A (State.calling U g mk a)
theorem Bl0 : Bl X0 := fun _ _ _ _ _ h => h
theorem blR2 {D : va_G} {tys : List (ClassId × FieldType)} {ws : va_W} {av : List Value} : FrameBlind (va_Pc av (PreR D tys ws)) := fun a U g mk q => by
  obtain ⟨q0, qP, qK⟩ := q
  exact ⟨q0, qP, va_K.moved (u := U) (U := U.calling g mk a) (Vm.Alike.refl U.vm) qK⟩
theorem blW {D : va_G} {tys : List (ClassId × FieldType)} {w : St → va_W} {X : (Nat → Prop) → State → Prop} {u : St} {sz : Nat} {av : List Value} (hX : Bl X) : FrameBlind (va_Pc av (PreW D tys w X u sz)) := fun a U g mk q => by
  obtain ⟨q0, q1, qP, qK, qD, qX⟩ := q
  exact ⟨q0, q1, qP, va_K.moved (u := U) (U := U.calling g mk a) (Vm.Alike.refl U.vm) qK, qD, hX _ _ _ _ _ qX⟩
theorem Hd.free {D : va_G} {w : St → va_W} {A : Nat → Prop} {H0 H : Heap} {u : St} {locs : List Loc} (h : Hd D w A H0 u H locs) (hA : ∀ q, H0.size ≤ q → A q) : ∀ q, va_A (w u) H.size q → A q := by
  intro q hq
  rcases hq with ⟨k, e, hk⟩ | hq
  · exact h.2.1.2 k (q, e) hk
  · exact hA q (Nat.le_trans h.2.2.1 hq)
section RW
variable {p : Program} {l : Launch} {e : Env} {R : Room} {s : State} {m : MethodId} {args : Array Value} {below : List Frame} {meth : Method} {c : Code} {H : Heap} {locs : List Loc} {cells slots : Nat} {Q : State → Prop}
variable {cc : ByteArray} {pc nL : Nat} {ls : Array Slot} {rest st0 : List Value} {D : va_G} {A : Nat → Prop} {a : Nat} {tys : List (ClassId × FieldType)} {H0 : Heap} {w : St → va_W} {u : St}
variable {Ts : List Cond} {own Cn : String} {index n maxL h : Nat} {y : MethodName} {bytes : ByteArray} {ret : Option FieldType} {As : List Value} {X : (Nat → Prop) → State → Prop}
/-- names for what was computed -/
theorem p_any {x : Int32} (k : ∀ z : Int32, W p l e R s m args below meth c H locs cells slots Q (F0 m pc ls (.int z :: rest))) : W p l e R s m args below meth c H locs cells slots Q (F0 m pc ls (.int x :: rest)) := k x
theorem p_anyl {x : Int64} (k : ∀ z : Int64, W p l e R s m args below meth c H locs cells slots Q (F0 m pc ls (.long z :: rest))) : W p l e R s m args below meth c H locs cells slots Q (F0 m pc ls (.long x :: rest)) := k x
theorem p_nm {x : Int32} {X : Int} (hx : x.toInt = X) (k : ∀ z : Int32, z.toInt = X → W p l e R s m args below meth c H locs cells slots Q (F0 m pc ls (.int z :: rest))) : W p l e R s m args below meth c H locs cells slots Q (F0 m pc ls (.int x :: rest)) := k x hx
theorem p_nml {x : Int64} {X : Int} (hx : x.toInt = X) (k : ∀ z : Int64, z.toInt = X → W p l e R s m args below meth c H locs cells slots Q (F0 m pc ls (.long z :: rest))) : W p l e R s m args below meth c H locs cells slots Q (F0 m pc ls (.long x :: rest)) := k x hx
theorem p_bd {x : Int32} {P : Int → Prop} (hx : P x.toInt) (k : ∀ z : Int32, P z.toInt → W p l e R s m args below meth c H locs cells slots Q (F0 m pc ls (.int z :: rest))) : W p l e R s m args below meth c H locs cells slots Q (F0 m pc ls (.int x :: rest)) := k x hx
/-- stores -/
theorem r_put {j : Nat} {x : Int32} (hexec : p.tables.exec = Jvm.exec) (hb : c.code = cc) {ref C : String} {T : u_T} {N ci : Nat} (hts : ∀ w ∈ Ts, w.before args s = true) (hin : ∀ w ∈ u_ws C T N, w ∈ Ts) (ty0 : Nat → FieldType) (hty : ∀ k, k < N → parseFieldDescriptor (T k).2.2.1 = some (ty0 k)) (hnm : ∀ a, a < N → ∀ b, b < N → a ≠ b → (T a).2.1 ≠ (T b).2.1) (hown : s.vm.findClass own = some m.cls) (hK : va_K D vwCl tys s) (hH : Hd D w A H0 u H locs) (q0 : Nat) {fs : List Value} (he : (w u)[q0]? = some (a, .inr (ci, fs))) (hc : vwCl[ci]? = some (C, T, N)) (k : Nat) (hk : k < N) (hlink : (Cond.fieldLink own index ref (T k).2.1 (T k).2.2.1).before args s = true) (hsame : ∀ x, s.fieldFound? (T k).1 (T k).2.1 (T k).2.2.1 = some x → s.fieldFound? ref (T k).2.1 (T k).2.2.1 = some x) (hfin : (T k).2.2.2 = false) (hd : parseFieldDescriptor (T k).2.2.1 = some .int) (hl : k < fs.length)
    (hset : (w u).set q0 (a, .inr (ci, fs.set k (.int x))) = w (si u j x)) (hdg : decode cc pc = .ok (.putfield index, 3)) (kk : ∀ (u1 : St), u1 = si u j x → ∀ (H1 : Heap) (locs1 : List Loc), Hd D w A H0 u1 H1 locs1 → W p l e R s m args below meth c H1 locs1 cells slots Q (F0 m (pc + 3) ls rest)) : W p l e R s m args below meth c H locs cells slots Q (F0 m pc ls (.int x :: .ref a :: rest)) :=
  va_put hexec hb hts hin ty0 hty hnm hown hK hH.1 hH.2.1 hH.2.2 q0 he hc k hk hlink hsame hfin hd rfl rfl hl hdg (fun H1 locs1 h1 h2 h3 => kk _ rfl H1 locs1 ⟨hset ▸ h1, hset ▸ h2, h3⟩)
theorem r_putl {j : Nat} {x : Int64} (hexec : p.tables.exec = Jvm.exec) (hb : c.code = cc) {ref C : String} {T : u_T} {N ci : Nat} (hts : ∀ w ∈ Ts, w.before args s = true) (hin : ∀ w ∈ u_ws C T N, w ∈ Ts) (ty0 : Nat → FieldType) (hty : ∀ k, k < N → parseFieldDescriptor (T k).2.2.1 = some (ty0 k)) (hnm : ∀ a, a < N → ∀ b, b < N → a ≠ b → (T a).2.1 ≠ (T b).2.1) (hown : s.vm.findClass own = some m.cls) (hK : va_K D vwCl tys s) (hH : Hd D w A H0 u H locs) (q0 : Nat) {fs : List Value} (he : (w u)[q0]? = some (a, .inr (ci, fs))) (hc : vwCl[ci]? = some (C, T, N)) (k : Nat) (hk : k < N) (hlink : (Cond.fieldLink own index ref (T k).2.1 (T k).2.2.1).before args s = true) (hsame : ∀ x, s.fieldFound? (T k).1 (T k).2.1 (T k).2.2.1 = some x → s.fieldFound? ref (T k).2.1 (T k).2.2.1 = some x) (hfin : (T k).2.2.2 = false) (hd : parseFieldDescriptor (T k).2.2.1 = some .long) (hl : k < fs.length)
    (hset : (w u).set q0 (a, .inr (ci, fs.set k (.long x))) = w (sl u j x)) (hdg : decode cc pc = .ok (.putfield index, 3)) (kk : ∀ (u1 : St), u1 = sl u j x → ∀ (H1 : Heap) (locs1 : List Loc), Hd D w A H0 u1 H1 locs1 → W p l e R s m args below meth c H1 locs1 cells slots Q (F0 m (pc + 3) ls rest)) : W p l e R s m args below meth c H locs cells slots Q (F0 m pc ls (.long x :: .ref a :: rest)) :=
  va_put hexec hb hts hin ty0 hty hnm hown hK hH.1 hH.2.1 hH.2.2 q0 he hc k hk hlink hsame hfin hd rfl rfl hl hdg (fun H1 locs1 h1 h2 h3 => kk _ rfl H1 locs1 ⟨hset ▸ h1, hset ▸ h2, h3⟩)
theorem r_iast {j : Nat} (hexec : p.tables.exec = Jvm.exec) (hb : c.code = cc) (hK : va_K D vwCl tys s) (hH : Hd D w A H0 u H locs) (q0 t0 : Nat) {cA : ClassId} {n : Nat} (ha : (w u)[q0]? = some (a, .inl (cA, n, .inl (ga u j)))) (ht : tys[t0]? = some (cA, .int)) {i x : Int32} (hin : vp_in i n) (hset : ∀ f, (w u).set q0 (a, .inl (cA, n, .inl f)) = w (sa u j f)) (hdg : decode cc pc = .ok (.iastore, 1))
    (kk : ∀ (u1 : St), u1 = sa u j (upd (ga u j) i.toNatClampNeg x) → ∀ (H1 : Heap) (locs1 : List Loc), Hd D w A H0 u1 H1 locs1 → W p l e R s m args below meth c H1 locs1 cells slots Q (F0 m (pc + 1) ls rest)) : W p l e R s m args below meth c H locs cells slots Q (F0 m pc ls (.int x :: .int i :: .ref a :: rest)) :=
  va_iast hexec hb hK hH.1 hH.2.1 hH.2.2 q0 t0 ha ht hin hdg (fun H1 locs1 h1 h2 h3 => kk _ rfl H1 locs1 ⟨hset _ ▸ h1, hset _ ▸ h2, h3⟩)
theorem r_bast {j : Nat} (hexec : p.tables.exec = Jvm.exec) (hb : c.code = cc) (hK : va_K D vwCl tys s) (hH : Hd D w A H0 u H locs) (q0 t0 : Nat) {cA : ClassId} {n : Nat} (ha : (w u)[q0]? = some (a, .inl (cA, n, .inl (ga u j)))) (ht : tys[t0]? = some (cA, .byte)) {i x : Int32} (hin : vp_in i n) (hset : ∀ f, (w u).set q0 (a, .inl (cA, n, .inl f)) = w (sa u j f)) (hdg : decode cc pc = .ok (.bastore, 1))
    (kk : ∀ (u1 : St), u1 = sa u j (upd (ga u j) i.toNatClampNeg (vp_nar .byte x)) → ∀ (H1 : Heap) (locs1 : List Loc), Hd D w A H0 u1 H1 locs1 → W p l e R s m args below meth c H1 locs1 cells slots Q (F0 m (pc + 1) ls rest)) : W p l e R s m args below meth c H locs cells slots Q (F0 m pc ls (.int x :: .int i :: .ref a :: rest)) :=
  va_bast hexec hb hK hH.1 hH.2.1 hH.2.2 q0 t0 ha ht hin hdg (fun H1 locs1 h1 h2 h3 => kk _ rfl H1 locs1 ⟨hset _ ▸ h1, hset _ ▸ h2, h3⟩)
theorem r_zast {j : Nat} (hexec : p.tables.exec = Jvm.exec) (hb : c.code = cc) (hK : va_K D vwCl tys s) (hH : Hd D w A H0 u H locs) (q0 t0 : Nat) {cA : ClassId} {n : Nat} (ha : (w u)[q0]? = some (a, .inl (cA, n, .inl (ga u j)))) (ht : tys[t0]? = some (cA, .boolean)) {i x : Int32} (hin : vp_in i n) (hset : ∀ f, (w u).set q0 (a, .inl (cA, n, .inl f)) = w (sa u j f)) (hdg : decode cc pc = .ok (.bastore, 1))
    (kk : ∀ (u1 : St), u1 = sa u j (upd (ga u j) i.toNatClampNeg (vp_nar .boolean x)) → ∀ (H1 : Heap) (locs1 : List Loc), Hd D w A H0 u1 H1 locs1 → W p l e R s m args below meth c H1 locs1 cells slots Q (F0 m (pc + 1) ls rest)) : W p l e R s m args below meth c H locs cells slots Q (F0 m pc ls (.int x :: .int i :: .ref a :: rest)) :=
  va_zast hexec hb hK hH.1 hH.2.1 hH.2.2 q0 t0 ha ht hin hdg (fun H1 locs1 h1 h2 h3 => kk _ rfl H1 locs1 ⟨hset _ ▸ h1, hset _ ▸ h2, h3⟩)
theorem r_last {j : Nat} (hexec : p.tables.exec = Jvm.exec) (hb : c.code = cc) (hK : va_K D vwCl tys s) (hH : Hd D w A H0 u H locs) (q0 t0 : Nat) {cA : ClassId} {n : Nat} (ha : (w u)[q0]? = some (a, .inl (cA, n, .inr (.inl (gb u j))))) (ht : tys[t0]? = some (cA, .long)) {i : Int32} {x : Int64} (hin : vp_in i n) (hset : ∀ f, (w u).set q0 (a, .inl (cA, n, .inr (.inl f))) = w (sb u j f)) (hdg : decode cc pc = .ok (.lastore, 1))
    (kk : ∀ (u1 : St), u1 = sb u j (vp_updL (gb u j) i.toNatClampNeg x) → ∀ (H1 : Heap) (locs1 : List Loc), Hd D w A H0 u1 H1 locs1 → W p l e R s m args below meth c H1 locs1 cells slots Q (F0 m (pc + 1) ls rest)) : W p l e R s m args below meth c H locs cells slots Q (F0 m pc ls (.long x :: .int i :: .ref a :: rest)) :=
  va_last hexec hb hK hH.1 hH.2.1 hH.2.2 q0 t0 ha ht hin hdg (fun H1 locs1 h1 h2 h3 => kk _ rfl H1 locs1 ⟨hset _ ▸ h1, hset _ ▸ h2, h3⟩)
/-- a row of a row of rows -/
theorem r_aald (hexec : p.tables.exec = Jvm.exec) (hb : c.code = cc) (hK : va_K D vwCl tys s) {ws : va_W} (hP : va_P D vwCl ws H) (q0 t0 : Nat) {cA : ClassId} {ty : FieldType} (hr : ty.isReference = true) {n : Nat} {f : Nat → Option Nat} (ha : ws[q0]? = some (a, .inl (cA, n, .inr (.inr (.inr (.inr f)))))) (ht : tys[t0]? = some (cA, ty)) {i : Int32} (hin : vp_in i n) (hdg : decode cc pc = .ok (.aaload, 1))
    (kk : W p l e R s m args below meth c H locs cells slots Q (F0 m (pc + 1) ls (va_rf (f i.toNatClampNeg) :: rest))) : W p l e R s m args below meth c H locs cells slots Q (F0 m pc ls (.int i :: .ref a :: rest)) := by
  have hlt : i.toNatClampNeg < n := Nat.not_le.mp fun q => hin (Or.inr q)
  exact W.aald (v := va_rf (f i.toNatClampNeg)) (ty := ty) hexec hb (hP q0 _ ha) ((hK.2 t0 _ ht).1 n (fun j => va_rf (f j))) hr (fun q => by cases q) (by show ¬ (i < 0 ∨ (arrV _ _ _).slots.size ≤ _); rw [arrV_size]; exact hin) (by show (arrV _ _ _).slots[_]? = _; rw [arrV_read _ _ hlt]) rfl rfl hdg kk
/-- System.arraycopy of ints -/
theorem r_copyi {j0 j1 : Nat} (hexec : p.tables.exec = Jvm.exec) (hb : c.code = cc) (hml : c.maxLocals = ls.size) (hown : s.vm.findClass own = some m.cls) (hlink : (Cond.methodLink own index arraycopyName).before args s = true) (hnat : (Cond.native arraycopyName).before args s = true) (hstat : (Cond.static arraycopyName).before args s = true) (hini : (Cond.initialized "java/lang/System").before args s = true)
    (hK : va_K D vwCl tys s) (hH : Hd D w A H0 u H locs) (q0 q1 t0 : Nat) {a0 : Nat} {c0 : ClassId} {n0 n1 : Nat} (ha0 : (w u)[q0]? = some (a0, .inl (c0, n0, .inl (ga u j0)))) (ha1 : (w u)[q1]? = some (a, .inl (c0, n1, .inl (ga u j1)))) (ht0 : tys[t0]? = some (c0, .int))
    {sp dp n : Int32} {S' P' N' : Int} (e1 : sp.toInt = S') (e2 : dp.toInt = P') (e3 : n.toInt = N') (h1 : 0 ≤ S') (h2 : 0 ≤ P') (h3 : 0 ≤ N') (h4 : S' + N' ≤ n0) (h5 : P' + N' ≤ n1) (hset : ∀ f, (w u).set q1 (a, .inl (c0, n1, .inl f)) = w (sa u j1 f))
    (hframes : 1 ≤ R.frames) (hlocals : (rest.map fun v => v.category).sum + (nativeFrameWords "java/lang/System" "arraycopy" 5 + 11) ≤ R.locals) (hdg : decode cc pc = .ok (.invokestatic index, 3))
    (kk : ∀ (u1 : St), u1 = sa u j1 (va_cpy (ga u j0) (ga u j1) sp.toNatClampNeg dp.toNatClampNeg n.toNatClampNeg) → ∀ (H1 : Heap) (locs1 : List Loc), Hd D w A H0 u1 H1 locs1 → W p l e R s m args below meth c H1 locs1 cells slots Q (F0 m (pc + 3) ls rest)) : W p l e R s m args below meth c H locs cells slots Q (F0 m pc ls (.int n :: .int dp :: .ref a :: .int sp :: .ref a0 :: rest)) :=
  va_copyi hexec hb hml hown hlink hnat hstat hini hK hH.1 hH.2.1 hH.2.2 q0 q1 t0 t0 ha0 ha1 ht0 ht0 rfl (i_nn e1 h1) (i_nn e2 h2) (i_nn e3 h3) (by have := i_cl e1 h1; have := i_cl e3 h3; omega) (by have := i_cl e2 h2; have := i_cl e3 h3; omega) (fun _ _ => rfl) hframes hlocals hdg (fun H1 locs1 g1 g2 g3 => kk _ rfl H1 locs1 ⟨hset _ ▸ g1, hset _ ▸ g2, g3⟩)
theorem r_copyl {j0 j1 : Nat} (hexec : p.tables.exec = Jvm.exec) (hb : c.code = cc) (hml : c.maxLocals = ls.size) (hown : s.vm.findClass own = some m.cls) (hlink : (Cond.methodLink own index arraycopyName).before args s = true) (hnat : (Cond.native arraycopyName).before args s = true) (hstat : (Cond.static arraycopyName).before args s = true) (hini : (Cond.initialized "java/lang/System").before args s = true)
    (hK : va_K D vwCl tys s) (hH : Hd D w A H0 u H locs) (q0 q1 t0 : Nat) {a0 : Nat} {c0 : ClassId} {n0 n1 : Nat} (ha0 : (w u)[q0]? = some (a0, .inl (c0, n0, .inr (.inl (gb u j0))))) (ha1 : (w u)[q1]? = some (a, .inl (c0, n1, .inr (.inl (gb u j1))))) (ht0 : tys[t0]? = some (c0, .long))
    {sp dp n : Int32} {S' P' N' : Int} (e1 : sp.toInt = S') (e2 : dp.toInt = P') (e3 : n.toInt = N') (h1 : 0 ≤ S') (h2 : 0 ≤ P') (h3 : 0 ≤ N') (h4 : S' + N' ≤ n0) (h5 : P' + N' ≤ n1) (hset : ∀ f, (w u).set q1 (a, .inl (c0, n1, .inr (.inl f))) = w (sb u j1 f))
    (hframes : 1 ≤ R.frames) (hlocals : (rest.map fun v => v.category).sum + (nativeFrameWords "java/lang/System" "arraycopy" 5 + 11) ≤ R.locals) (hdg : decode cc pc = .ok (.invokestatic index, 3))
    (kk : ∀ (u1 : St), u1 = sb u j1 (va_cpy (gb u j0) (gb u j1) sp.toNatClampNeg dp.toNatClampNeg n.toNatClampNeg) → ∀ (H1 : Heap) (locs1 : List Loc), Hd D w A H0 u1 H1 locs1 → W p l e R s m args below meth c H1 locs1 cells slots Q (F0 m (pc + 3) ls rest)) : W p l e R s m args below meth c H locs cells slots Q (F0 m pc ls (.int n :: .int dp :: .ref a :: .int sp :: .ref a0 :: rest)) :=
  va_copyl hexec hb hml hown hlink hnat hstat hini hK hH.1 hH.2.1 hH.2.2 q0 q1 t0 t0 ha0 ha1 ht0 ht0 rfl (i_nn e1 h1) (i_nn e2 h2) (i_nn e3 h3) (by have := i_cl e1 h1; have := i_cl e3 h3; omega) (by have := i_cl e2 h2; have := i_cl e3 h3; omega) (fun _ _ => rfl) hframes hlocals hdg (fun H1 locs1 g1 g2 g3 => kk _ rfl H1 locs1 ⟨hset _ ▸ g1, hset _ ▸ g2, g3⟩)
/-! calls -/
abbrev HdV (y : MethodName) (C : String) (n : Nat) : Prop := y.cls = C ∧ y.cls ≠ "java/lang/invoke/MethodHandle" ∧ y.cls ≠ "java/lang/invoke/VarHandle" ∧ (parseMethodDescriptor y.desc).map (fun d => d.parameters.length) = some n
theorem cvS {post : Int32 → Prop} {wc : va_W} (S : CallFix p m c cc nL s args Ts own) (hT : ∀ w ∈ uw, w ∈ Ts)
    (hM : Met l y (uc y bytes maxL ret) (rmL h 0 0) (va_Pc (.ref a :: As) (PreR D tys wc)) (vp_Si post) 0 0 (fun _ => False))
    (q1 : Cond.methodLink own index y ∈ uw) (q2 : Cond.instanceMethod y ∈ uw) (q3 : Cond.selects Cn y y ∈ uw) (q4 : Cond.initialized Cn ∈ uw) (q5 : Cond.code y bytes maxL ret ∈ uw) (hd : HdV y Cn n)
    (hR : h + 1 ≤ R.frames ∧ 8 + (maxL + 11) + 60 * h ≤ R.locals) (hf : cells ≤ R.cells ∧ slots ≤ R.slots)
    (hK : va_K D vwCl tys s) (hP : va_P D vwCl wc H) (ci q0 : Nat) {T : u_T} {N : Nat} {fs : List Value} (hc : vwCl[ci]? = some (Cn, T, N)) (he : wc[q0]? = some (a, .inr (ci, fs)))
    (hn : As.length = n) (hl : ls.size = nL) (hst : st0 = As.reverse ++ .ref a :: rest) (hw : (rest.map fun v => v.category).sum ≤ 8) (hdg : decode cc pc = .ok (.invokevirtual index, 3))
    (kk : ∀ r : Int32, post r → W p l e R s m args below meth c H locs cells slots Q (F0 m (pc + 3) ls (.int r :: rest))) : W p l e R s m args below meth c H locs cells slots Q (F0 m pc ls st0) :=
  vp_callSi (W.runV (As := As) (rest := rest) (C := Cn) S hM (cwV n S.2.2.2.2 (uV_good hT q1 q2 q3 q4 q5) rfl rfl rfl hd hR) ⟨blR2, va_recv hK hP hc he, fun U hU hW => ⟨rfl, by rw [hU]; exact hP, va_K.moved hW.alike hK⟩⟩ rfl hn hl hst (lv_room hw) hdg hf) kk
theorem csS {post : Int32 → Prop} {wc : va_W} (S : CallFix p m c cc nL s args Ts own) (hT : ∀ w ∈ uw, w ∈ Ts)
    (hM : Met l y (uc y bytes maxL ret) (rmL h 0 0) (va_Pc As (PreR D tys wc)) (vp_Si post) 0 0 (fun _ => False))
    (q1 : Cond.methodLink own index y ∈ uw) (q2 : Cond.static y ∈ uw) (q4 : Cond.initialized y.cls ∈ uw) (q5 : Cond.code y bytes maxL ret ∈ uw) (hd : HdV y Cn n)
    (hR : h + 1 ≤ R.frames ∧ 8 + (maxL + 11) + 60 * h ≤ R.locals) (hf : cells ≤ R.cells ∧ slots ≤ R.slots) (hK : va_K D vwCl tys s) (hP : va_P D vwCl wc H)
    (hn : As.length = n) (hl : ls.size = nL) (hst : st0 = As.reverse ++ rest) (hw : (rest.map fun v => v.category).sum ≤ 8) (hdg : decode cc pc = .ok (.invokestatic index, 3))
    (kk : ∀ r : Int32, post r → W p l e R s m args below meth c H locs cells slots Q (F0 m (pc + 3) ls (.int r :: rest))) : W p l e R s m args below meth c H locs cells slots Q (F0 m pc ls st0) :=
  vp_callSi (W.runS (As := As) (rest := rest) S hM (va_cwS n S.2.2.2.2 (uS_good hT q1 q2 q4 q5) rfl rfl rfl hd.2 hR) ⟨blR2, fun U hU hW => ⟨rfl, by rw [hU]; exact hP, va_K.moved hW.alike hK⟩⟩ rfl hn hl hst (lv_room hw) hdg hf) kk
theorem csSl {post : Int64 → Prop} {wc : va_W} (S : CallFix p m c cc nL s args Ts own) (hT : ∀ w ∈ uw, w ∈ Ts)
    (hM : Met l y (uc y bytes maxL ret) (rmL h 0 0) (va_Pc As (PreR D tys wc)) (vp_Sl post) 0 0 (fun _ => False))
    (q1 : Cond.methodLink own index y ∈ uw) (q2 : Cond.static y ∈ uw) (q4 : Cond.initialized y.cls ∈ uw) (q5 : Cond.code y bytes maxL ret ∈ uw) (hd : HdV y Cn n)
    (hR : h + 1 ≤ R.frames ∧ 8 + (maxL + 11) + 60 * h ≤ R.locals) (hf : cells ≤ R.cells ∧ slots ≤ R.slots) (hK : va_K D vwCl tys s) (hP : va_P D vwCl wc H)
    (hn : As.length = n) (hl : ls.size = nL) (hst : st0 = As.reverse ++ rest) (hw : (rest.map fun v => v.category).sum ≤ 8) (hdg : decode cc pc = .ok (.invokestatic index, 3))
    (kk : ∀ r : Int64, post r → W p l e R s m args below meth c H locs cells slots Q (F0 m (pc + 3) ls (.long r :: rest))) : W p l e R s m args below meth c H locs cells slots Q (F0 m pc ls st0) :=
  vp_callSl (W.runS (As := As) (rest := rest) S hM (va_cwS n S.2.2.2.2 (uS_good hT q1 q2 q4 q5) rfl rfl rfl hd.2 hR) ⟨blR2, fun U hU hW => ⟨rfl, by rw [hU]; exact hP, va_K.moved hW.alike hK⟩⟩ rfl hn hl hst (lv_room hw) hdg hf) kk
abbrev MetI (l : Launch) (y : MethodName) (bytes : ByteArray) (maxL : Nat) (ret : Option FieldType) (h : Nat) (av : List Value) (D : va_G) (tys : List (ClassId × FieldType)) (w : St → va_W) (X : (Nat → Prop) → State → Prop) (u : St) (sz : Nat) (post : Int32 → St → Prop) : Prop := Met l y (uc y bytes maxL ret) (rmL h 0 0) (va_Pc av (PreW D tys w X u sz)) (va_Qi post (PostW D w u sz) (va_A (w u) sz)) 0 0 (va_A (w u) sz)
abbrev MetV (l : Launch) (y : MethodName) (bytes : ByteArray) (maxL : Nat) (h : Nat) (av : List Value) (D : va_G) (tys : List (ClassId × FieldType)) (w : St → va_W) (X : (Nat → Prop) → State → Prop) (u : St) (sz : Nat) (post : St → Prop) : Prop := Met l y (uc y bytes maxL none) (rmL h 0 0) (va_Pc av (PreW D tys w X u sz)) (va_Qv post (PostW D w u sz) (va_A (w u) sz)) 0 0 (va_A (w u) sz)
theorem cvI {post : Int32 → St → Prop} (S : CallFix p m c cc nL s args Ts own) (hT : ∀ w ∈ uw, w ∈ Ts)
    (hM : MetI l y bytes maxL ret h (.ref a :: As) D tys w X u H.size post)
    (q1 : Cond.methodLink own index y ∈ uw) (q2 : Cond.instanceMethod y ∈ uw) (q3 : Cond.selects Cn y y ∈ uw) (q4 : Cond.initialized Cn ∈ uw) (q5 : Cond.code y bytes maxL ret ∈ uw) (hd : HdV y Cn n)
    (hR : h + 1 ≤ R.frames ∧ 8 + (maxL + 11) + 60 * h ≤ R.locals) (hf : cells ≤ R.cells ∧ slots ≤ R.slots)
    (hK : va_K D vwCl tys s) (hH : Hd D w A H0 u H locs) (hA : ∀ q, H0.size ≤ q → A q) (hB : Bl X) (hX : ∀ U : State, U.heap = H → s.WarmedH U.vm → X (va_A (w u) H.size) U) (ci q0 : Nat) {T : u_T} {N : Nat} {fs : List Value} (hc : vwCl[ci]? = some (Cn, T, N)) (he : (w u)[q0]? = some (a, .inr (ci, fs)))
    (hn : As.length = n) (hl : ls.size = nL) (hst : st0 = As.reverse ++ .ref a :: rest) (hw : (rest.map fun v => v.category).sum ≤ 8) (hdg : decode cc pc = .ok (.invokevirtual index, 3))
    (kk : ∀ (r : Int32) (u1 : St) (H1 : Heap) (locs1 : List Loc), post r u1 → Hd D w A H0 u1 H1 locs1 → W p l e R s m args below meth c H1 locs1 cells slots Q (F0 m (pc + 3) ls (.int r :: rest))) : W p l e R s m args below meth c H locs cells slots Q (F0 m pc ls st0) := by
  have hF := hH.free hA
  refine va_calli (va_runV (As := As) (rest := rest) (C := Cn) S hM (cwV n S.2.2.2.2 (uV_good hT q1 q2 q3 q4 q5) rfl rfl rfl hd hR) ⟨blW hB, va_recv hK hH.1 hc he, fun U hU hW => ⟨rfl, by rw [hU], by rw [hU]; exact hH.1, va_K.moved hW.alike hK, hH.2.1.weaken (fun _ _ _ _ => trivial), hX U hU hW⟩⟩ rfl hn hl hst (lv_room hw) hdg hf) hH.2.2 (fun q _ h => hF q h) hF (fun r u1 t H1 locs1 ht hvm hpo hB hz1 hk1 hS1 => ?_)
  obtain ⟨hP1, hD1⟩ := hB
  rw [ht] at hP1
  exact kk r u1 H1 locs1 hpo ⟨hP1, hD1.weaken (fun _ q _ h => hF q.1 h), hS1⟩
theorem cvU {post : St → Prop} (S : CallFix p m c cc nL s args Ts own) (hT : ∀ w ∈ uw, w ∈ Ts)
    (hM : MetV l y bytes maxL h (.ref a :: As) D tys w X u H.size post)
    (q1 : Cond.methodLink own index y ∈ uw) (q2 : Cond.instanceMethod y ∈ uw) (q3 : Cond.selects Cn y y ∈ uw) (q4 : Cond.initialized Cn ∈ uw) (q5 : Cond.code y bytes maxL none ∈ uw) (hd : HdV y Cn n)
    (hR : h + 1 ≤ R.frames ∧ 8 + (maxL + 11) + 60 * h ≤ R.locals) (hf : cells ≤ R.cells ∧ slots ≤ R.slots)
    (hK : va_K D vwCl tys s) (hH : Hd D w A H0 u H locs) (hA : ∀ q, H0.size ≤ q → A q) (hB : Bl X) (hX : ∀ U : State, U.heap = H → s.WarmedH U.vm → X (va_A (w u) H.size) U) (ci q0 : Nat) {T : u_T} {N : Nat} {fs : List Value} (hc : vwCl[ci]? = some (Cn, T, N)) (he : (w u)[q0]? = some (a, .inr (ci, fs)))
    (hn : As.length = n) (hl : ls.size = nL) (hst : st0 = As.reverse ++ .ref a :: rest) (hw : (rest.map fun v => v.category).sum ≤ 8) (hdg : decode cc pc = .ok (.invokevirtual index, 3))
    (kk : ∀ (u1 : St) (H1 : Heap) (locs1 : List Loc), post u1 → Hd D w A H0 u1 H1 locs1 → W p l e R s m args below meth c H1 locs1 cells slots Q (F0 m (pc + 3) ls rest)) : W p l e R s m args below meth c H locs cells slots Q (F0 m pc ls st0) := by
  have hF := hH.free hA
  refine va_callv (va_runV (As := As) (rest := rest) (C := Cn) S hM (cwV n S.2.2.2.2 (uV_good hT q1 q2 q3 q4 q5) rfl rfl rfl hd hR) ⟨blW hB, va_recv hK hH.1 hc he, fun U hU hW => ⟨rfl, by rw [hU], by rw [hU]; exact hH.1, va_K.moved hW.alike hK, hH.2.1.weaken (fun _ _ _ _ => trivial), hX U hU hW⟩⟩ rfl hn hl hst (lv_room hw) hdg hf) hH.2.2 (fun q _ h => hF q h) hF (fun u1 t H1 locs1 ht hvm hpo hB hz1 hk1 hS1 => ?_)
  obtain ⟨hP1, hD1⟩ := hB
  rw [ht] at hP1
  exact kk u1 H1 locs1 hpo ⟨hP1, hD1.weaken (fun _ q _ h => hF q.1 h), hS1⟩
theorem csU {post : St → Prop} (S : CallFix p m c cc nL s args Ts own) (hT : ∀ w ∈ uw, w ∈ Ts)
    (hM : MetV l y bytes maxL h As D tys w X u H.size post)
    (q1 : Cond.methodLink own index y ∈ uw) (q2 : Cond.static y ∈ uw) (q4 : Cond.initialized y.cls ∈ uw) (q5 : Cond.code y bytes maxL none ∈ uw) (hd : HdV y Cn n)
    (hR : h + 1 ≤ R.frames ∧ 8 + (maxL + 11) + 60 * h ≤ R.locals) (hf : cells ≤ R.cells ∧ slots ≤ R.slots)
    (hK : va_K D vwCl tys s) (hH : Hd D w A H0 u H locs) (hA : ∀ q, H0.size ≤ q → A q) (hB : Bl X) (hX : ∀ U : State, U.heap = H → s.WarmedH U.vm → X (va_A (w u) H.size) U)
    (hn : As.length = n) (hl : ls.size = nL) (hst : st0 = As.reverse ++ rest) (hw : (rest.map fun v => v.category).sum ≤ 8) (hdg : decode cc pc = .ok (.invokestatic index, 3))
    (kk : ∀ (u1 : St) (H1 : Heap) (locs1 : List Loc), post u1 → Hd D w A H0 u1 H1 locs1 → W p l e R s m args below meth c H1 locs1 cells slots Q (F0 m (pc + 3) ls rest)) : W p l e R s m args below meth c H locs cells slots Q (F0 m pc ls st0) := by
  have hF := hH.free hA
  refine va_callv (va_runS (As := As) (rest := rest) S hM (va_cwS n S.2.2.2.2 (uS_good hT q1 q2 q4 q5) rfl rfl rfl hd.2 hR) ⟨blW hB, fun U hU hW => ⟨rfl, by rw [hU], by rw [hU]; exact hH.1, va_K.moved hW.alike hK, hH.2.1.weaken (fun _ _ _ _ => trivial), hX U hU hW⟩⟩ rfl hn hl hst (lv_room hw) hdg hf) hH.2.2 (fun q _ h => hF q h) hF (fun u1 t H1 locs1 ht hvm hpo hB hz1 hk1 hS1 => ?_)
  obtain ⟨hP1, hD1⟩ := hB
  rw [ht] at hP1
  exact kk u1 H1 locs1 hpo ⟨hP1, hD1.weaken (fun _ q _ h => hF q.1 h), hS1⟩
end RW
/-! how a contract begins -/
section ME
variable {l : Launch} {y : MethodName} {b : ByteArray} {n h : Nat} {av : List Value} {D : va_G} {tys : List (ClassId × FieldType)} {w : St → va_W} {X : (Nat → Prop) → State → Prop} {u : St} {sz : Nat}
theorem mS {ty : FieldType} {post : Int32 → Prop} {ws : va_W} (hy : plainName y.cls = true) (hn : (lg_sl av).length ≤ n)
    (body : ∀ (p : Program) (e : Env) (s : State) (m : MethodId) (below : List Frame) (meth : Method) (c : Code) (ls : Array Slot) (ar : Array Value) (Q : State → Prop), p.tables.exec = Jvm.exec → c.code = b → c.maxLocals = n → s.vm.findClass y.cls = some m.cls → (∀ w ∈ uc y b n (some ty), w.before ar s = true) → va_K D vwCl tys s → va_P D vwCl ws s.heap → lv_has ls n (lv_args 0 av) →
      (∀ (pc : Nat) (ls : Array Slot) (v : Int32), decode b pc = .ok (.ireturn, 1) → narrow ty (.int v) = .int v → post v → W p l e (rmL h 0 0) s m ar below meth c s.heap [] 0 0 Q (F0 m pc ls [.int v])) →
      W p l e (rmL h 0 0) s m ar below meth c s.heap [] 0 0 Q (F0 m 0 ls [])) : Met l y (uc y b n (some ty)) (rmL h 0 0) (va_Pc av (PreR D tys ws)) (vp_Si post) 0 0 (fun _ => False) := by
  refine pm hy hn ?_
  intro p e s m below meth c ls hx hb hr hml hown hlk hnm hts hv hl
  exact body p e s m below meth c ls _ _ hx hb hml hown hts hv.2 hv.1 hl (fun pc ls v hdg hnw hpo => W.zret hx hb hr hnw (fun t ht _ => ⟨v, rfl, hpo, ht⟩) (fun _ h => by cases h) hdg)
theorem mSl {post : Int64 → Prop} {ws : va_W} (hy : plainName y.cls = true) (hn : (lg_sl av).length ≤ n)
    (body : ∀ (p : Program) (e : Env) (s : State) (m : MethodId) (below : List Frame) (meth : Method) (c : Code) (ls : Array Slot) (ar : Array Value) (Q : State → Prop), p.tables.exec = Jvm.exec → c.code = b → c.maxLocals = n → s.vm.findClass y.cls = some m.cls → (∀ w ∈ uc y b n (some .long), w.before ar s = true) → va_K D vwCl tys s → va_P D vwCl ws s.heap → lv_has ls n (lv_args 0 av) →
      (∀ (pc : Nat) (ls : Array Slot) (v : Int64), decode b pc = .ok (.lreturn, 1) → post v → W p l e (rmL h 0 0) s m ar below meth c s.heap [] 0 0 Q (F0 m pc ls [.long v])) →
      W p l e (rmL h 0 0) s m ar below meth c s.heap [] 0 0 Q (F0 m 0 ls [])) : Met l y (uc y b n (some .long)) (rmL h 0 0) (va_Pc av (PreR D tys ws)) (vp_Sl post) 0 0 (fun _ => False) := by
  refine pm hy hn ?_
  intro p e s m below meth c ls hx hb hr hml hown hlk hnm hts hv hl
  exact body p e s m below meth c ls _ _ hx hb hml hown hts hv.2 hv.1 hl (fun pc ls v hdg hpo => W.lret hx hb hr (fun t ht _ => ⟨v, rfl, hpo, ht⟩) (fun _ h => by cases h) hdg)
theorem mI {ty : FieldType} {post : Int32 → St → Prop} (hy : plainName y.cls = true) (hn : (lg_sl av).length ≤ n)
    (body : ∀ (p : Program) (e : Env) (s : State) (m : MethodId) (below : List Frame) (meth : Method) (c : Code) (ls : Array Slot) (ar : Array Value) (Q : State → Prop), p.tables.exec = Jvm.exec → c.code = b → c.maxLocals = n → s.vm.findClass y.cls = some m.cls → (∀ w ∈ uc y b n (some ty), w.before ar s = true) → va_K D vwCl tys s → Hd D w (va_A (w u) s.heap.size) s.heap u s.heap [] → X (va_A (w u) s.heap.size) s → lv_has ls n (lv_args 0 av) →
      (∀ (pc : Nat) (ls : Array Slot) (H : Heap) (locs : List Loc) (v : Int32) (u' : St), decode b pc = .ok (.ireturn, 1) → narrow ty (.int v) = .int v → post v u' → Hd D w (va_A (w u) s.heap.size) s.heap u' H locs → W p l e (rmL h 0 0) s m ar below meth c H locs 0 0 Q (F0 m pc ls [.int v])) →
      W p l e (rmL h 0 0) s m ar below meth c s.heap [] 0 0 Q (F0 m 0 ls [])) : MetI l y b n (some ty) h av D tys w X u sz post := by
  refine pm hy hn ?_
  intro p e s m below meth c ls hx hb hr hml hown hlk hnm hts hv hl
  obtain ⟨hsz, hP, hK, hD0, hX⟩ := hv
  subst hsz
  exact body p e s m below meth c ls _ _ hx hb hml hown hts hK ⟨hP, hD0.self, va_S.rf⟩ hX hl (fun pc ls H locs v u' hdg hnw hpo hH => W.zret hx hb hr hnw (fun t ht _ => ⟨⟨v, u', rfl, hpo, by rw [ht]; exact hH.1, hH.2.1⟩, hH.2.2.F ht⟩) hH.2.2.2.2 hdg)
theorem mV {post : St → Prop} (hy : plainName y.cls = true) (hn : (lg_sl av).length ≤ n)
    (body : ∀ (p : Program) (e : Env) (s : State) (m : MethodId) (below : List Frame) (meth : Method) (c : Code) (ls : Array Slot) (ar : Array Value) (Q : State → Prop), p.tables.exec = Jvm.exec → c.code = b → c.maxLocals = n → s.vm.findClass y.cls = some m.cls → (∀ w ∈ uc y b n none, w.before ar s = true) → va_K D vwCl tys s → Hd D w (va_A (w u) s.heap.size) s.heap u s.heap [] → X (va_A (w u) s.heap.size) s → lv_has ls n (lv_args 0 av) →
      (∀ (pc : Nat) (ls : Array Slot) (H : Heap) (locs : List Loc) (u' : St), decode b pc = .ok (.return_, 1) → post u' → Hd D w (va_A (w u) s.heap.size) s.heap u' H locs → W p l e (rmL h 0 0) s m ar below meth c H locs 0 0 Q (F0 m pc ls [])) →
      W p l e (rmL h 0 0) s m ar below meth c s.heap [] 0 0 Q (F0 m 0 ls [])) : MetV l y b n h av D tys w X u sz post := by
  refine pm hy hn ?_
  intro p e s m below meth c ls hx hb hr hml hown hlk hnm hts hv hl
  obtain ⟨hsz, hP, hK, hD0, hX⟩ := hv
  subst hsz
  exact body p e s m below meth c ls _ _ hx hb hml hown hts hK ⟨hP, hD0.self, va_S.rf⟩ hX hl (fun pc ls H locs u' hdg hpo hH => W.vret hx hb hr (fun t ht _ => ⟨⟨u', rfl, hpo, by rw [ht]; exact hH.1, hH.2.1⟩, hH.2.2.F ht⟩) hH.2.2.2.2 hdg)
end ME
