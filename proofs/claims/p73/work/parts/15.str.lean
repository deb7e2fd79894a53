/-! the texts that the reader holds words against, and the JDK's length and charAt of them -/
def strIx : List Nat := [67, 73, 81, 85, 49, 92, 101, 102, 111, 112, 114, 121, 58, 125]
def strTx : List String := ["town", "days", "home", "odds", "clock", "at", "late", "early", "loses", "gains", "rent", "dead", "trade", "waits"]
def strLen : List Nat := [4, 4, 4, 4, 5, 2, 4, 5, 5, 5, 4, 4, 5, 5]
def strBy : List (List Int32) := [[116, 111, 119, 110], [100, 97, 121, 115], [104, 111, 109, 101], [111, 100, 100, 115], [99, 108, 111, 99, 107], [97, 116], [108, 97, 116, 101], [101, 97, 114, 108, 121], [108, 111, 115, 101, 115], [103, 97, 105, 110, 115], [114, 101, 110, 116], [100, 101, 97, 100], [116, 114, 97, 100, 101], [119, 97, 105, 116, 115]]
def XSt (adK adV : Nat → Nat) (A : Nat → Prop) (U : State) (H : Heap) : Prop :=
  vk_S 14 strLen strBy adK adV A U H ∧ (∀ i, i < 14 → vk_R RX6 (strIx.getD i 0) (strTx.getD i "") (adK i) U) ∧ va_Z "java/lang/String" "COMPACT_STRINGS" "Z" (.int 1) A U H ∧ va_Zq "jdk/internal/util/Preconditions" "SIOOBE_FORMATTER" "Ljava/util/function/BiFunction;" A U H
def XS (adK adV : Nat → Nat) (A : Nat → Prop) (U : State) : Prop := XSt adK adV A U U.heap
abbrev PreT (adK adV : Nat → Nat) : State → Prop := fun U => XS adK adV (fun _ => False) U
theorem XSt.mv {adK adV : Nat → Nat} {A : Nat → Prop} {u U : State} {H : Heap} (hW : u.WarmedH U.vm) (h : XSt adK adV A u H) : XSt adK adV A U H :=
  ⟨vk_S.moved hW.alike h.1, fun i hi => vk_R.warm hW (h.2.1 i hi), va_Z.moved hW.alike h.2.2.1, va_Zq.moved hW.alike h.2.2.2⟩
theorem XSt.nr {adK adV : Nat → Nat} {A B : Nat → Prop} {U : State} {H : Heap} (h : XSt adK adV A U H) (hAB : ∀ q, B q → A q) : XSt adK adV B U H :=
  ⟨h.1.narrow hAB, h.2.1, h.2.2.1.narrow hAB, h.2.2.2.narrow hAB⟩
theorem XSt.kp {adK adV : Nat → Nat} {A : Nat → Prop} {U : State} {H H1 : Heap} (h : XSt adK adV A U H) (hq : ∀ a : Nat, a < H.size → ¬ A a → H1[a]? = H[a]?) : XSt adK adV A U H1 :=
  ⟨h.1.kept hq, h.2.1, h.2.2.1.kept hq, h.2.2.2.kept hq⟩
theorem BlS {adK adV : Nat → Nat} : Bl (XS adK adV) := fun A U g mk a h =>
  ⟨vk_S.moved (u := U) (U := U.calling g mk a) (Vm.Alike.refl U.vm) h.1, fun i hi => vk_R.same (u := U) (U := U.calling g mk a) rfl (h.2.1 i hi), va_Z.moved (u := U) (U := U.calling g mk a) (Vm.Alike.refl U.vm) h.2.2.1, va_Zq.moved (u := U) (U := U.calling g mk a) (Vm.Alike.refl U.vm) h.2.2.2⟩
theorem blT {adK adV : Nat → Nat} {av : List Value} : FrameBlind (va_Pc av (PreT adK adV)) := fun a U g mk q => ⟨q.1, BlS _ U g mk a q.2⟩
theorem XS.at {adK adV : Nat → Nat} {D : va_G} {w : St → va_W} {u0 u : St} {s U : State} {H : Heap} {locs : List Loc} (hX : XS adK adV (va_A (w u0) s.heap.size) s) (hH : Hd D w (va_A (w u0) s.heap.size) s.heap u H locs) (hW : s.WarmedH U.vm) (hU : U.heap = H) : XS adK adV (va_A (w u) H.size) U := by
  subst hU
  exact ((XSt.mv hW (XSt.kp hX hH.2.2.2.1)).nr (hH.free (fun q h => Or.inr h)))
theorem XS.now {adK adV : Nat → Nat} {D : va_G} {w : St → va_W} {A : Nat → Prop} {u : St} {s U : State} {H : Heap} {locs : List Loc} (hX : XS adK adV A s) (hH : Hd D w A s.heap u H locs) (hW : s.WarmedH U.vm) (hU : U.heap = H) : PreT adK adV U := by
  subst hU
  exact ((XSt.mv hW (XSt.kp hX hH.2.2.2.1)).nr (fun _ h => h.elim))
theorem XS.go {adK adV : Nat → Nat} {A : Nat → Prop} {s U : State} (hX : XS adK adV A s) (hW : s.WarmedH U.vm) (hU : U.heap = s.heap) : XS adK adV A U := by
  show XSt adK adV A U U.heap
  rw [hU]
  exact XSt.mv hW hX
section TX
variable {p : Program} {l : Launch} {e : Env} {R : Room} {s : State} {m : MethodId} {args : Array Value} {below : List Frame} {meth : Method} {c : Code} {H : Heap} {locs : List Loc} {cells slots : Nat} {Q : State → Prop}
variable {cc : ByteArray} {pc nL : Nat} {ls : Array Slot} {rest st0 : List Value} {a : Nat}
variable {Ts : List Cond} {own Cn : String} {index n maxL h : Nat} {y : MethodName} {bytes : ByteArray} {ret : Option FieldType} {As : List Value} {P : State → Prop}
theorem cvT {post : Int32 → Prop} (S : CallFix p m c cc nL s args Ts own) (hT : ∀ w ∈ uw, w ∈ Ts)
    (hM : Met l y (uc y bytes maxL ret) (rmL h 0 0) (va_Pc (.ref a :: As) P) (vp_Si post) 0 0 (fun _ => False)) (hB : FrameBlind (va_Pc (.ref a :: As) P))
    (q1 : Cond.methodLink own index y ∈ uw) (q2 : Cond.instanceMethod y ∈ uw) (q3 : Cond.selects Cn y y ∈ uw) (q4 : Cond.initialized Cn ∈ uw) (q5 : Cond.code y bytes maxL ret ∈ uw) (hd : HdV y Cn n)
    (hR : h + 1 ≤ R.frames ∧ 8 + (maxL + 11) + 60 * h ≤ R.locals) (hf : cells ≤ R.cells ∧ slots ≤ R.slots)
    (hr : ∃ cell : Cell, H[a]? = some cell ∧ cell.vm.isStatics = false ∧ s.vm.findClass Cn = some cell.cls) (hU : ∀ U : State, U.heap = H → s.WarmedH U.vm → P U)
    (hn : As.length = n) (hl : ls.size = nL) (hst : st0 = As.reverse ++ .ref a :: rest) (hw : (rest.map fun v => v.category).sum ≤ 8) (hdg : decode cc pc = .ok (.invokevirtual index, 3))
    (kk : ∀ r : Int32, post r → W p l e R s m args below meth c H locs cells slots Q (F0 m (pc + 3) ls (.int r :: rest))) : W p l e R s m args below meth c H locs cells slots Q (F0 m pc ls st0) :=
  vp_callSi (W.runV (As := As) (rest := rest) (C := Cn) S hM (cwV n S.2.2.2.2 (uV_good hT q1 q2 q3 q4 q5) rfl rfl rfl hd hR) ⟨hB, hr, fun U g hW => ⟨rfl, hU U g hW⟩⟩ rfl hn hl hst (lv_room hw) hdg hf) kk
theorem csT {post : Int32 → Prop} (S : CallFix p m c cc nL s args Ts own) (hT : ∀ w ∈ uw, w ∈ Ts)
    (hM : Met l y (uc y bytes maxL ret) (rmL h 0 0) (va_Pc As P) (vp_Si post) 0 0 (fun _ => False)) (hB : FrameBlind (va_Pc As P))
    (q1 : Cond.methodLink own index y ∈ uw) (q2 : Cond.static y ∈ uw) (q4 : Cond.initialized y.cls ∈ uw) (q5 : Cond.code y bytes maxL ret ∈ uw) (hd : HdV y Cn n)
    (hR : h + 1 ≤ R.frames ∧ 8 + (maxL + 11) + 60 * h ≤ R.locals) (hf : cells ≤ R.cells ∧ slots ≤ R.slots) (hU : ∀ U : State, U.heap = H → s.WarmedH U.vm → P U)
    (hn : As.length = n) (hl : ls.size = nL) (hst : st0 = As.reverse ++ rest) (hw : (rest.map fun v => v.category).sum ≤ 8) (hdg : decode cc pc = .ok (.invokestatic index, 3))
    (kk : ∀ r : Int32, post r → W p l e R s m args below meth c H locs cells slots Q (F0 m (pc + 3) ls (.int r :: rest))) : W p l e R s m args below meth c H locs cells slots Q (F0 m pc ls st0) :=
  vp_callSi (W.runS (As := As) (rest := rest) S hM (va_cwS n S.2.2.2.2 (uS_good hT q1 q2 q4 q5) rfl rfl rfl hd.2 hR) ⟨hB, fun U g hW => ⟨rfl, hU U g hW⟩⟩ rfl hn hl hst (lv_room hw) hdg hf) kk
/-- nothing answered, nothing changed -/
def QcN : Array Value → State → Outcome → State → Prop := fun _ st o t => o = .returned none ∧ t.heap = st.heap
theorem csN (S : CallFix p m c cc nL s args Ts own) (hT : ∀ w ∈ uw, w ∈ Ts)
    (hM : Met l y (uc y bytes maxL ret) (rmL h 0 0) (va_Pc As P) QcN 0 0 (fun _ => False)) (hB : FrameBlind (va_Pc As P))
    (q1 : Cond.methodLink own index y ∈ uw) (q2 : Cond.static y ∈ uw) (q4 : Cond.initialized y.cls ∈ uw) (q5 : Cond.code y bytes maxL ret ∈ uw) (hd : HdV y Cn n)
    (hR : h + 1 ≤ R.frames ∧ 8 + (maxL + 11) + 60 * h ≤ R.locals) (hf : cells ≤ R.cells ∧ slots ≤ R.slots) (hU : ∀ U : State, U.heap = H → s.WarmedH U.vm → P U)
    (hn : As.length = n) (hl : ls.size = nL) (hst : st0 = As.reverse ++ rest) (hw : (rest.map fun v => v.category).sum ≤ 8) (hdg : decode cc pc = .ok (.invokestatic index, 3))
    (kk : W p l e R s m args below meth c H locs cells slots Q (F0 m (pc + 3) ls rest)) : W p l e R s m args below meth c H locs cells slots Q (F0 m pc ls st0) := by
  have hr := W.runS (H := H) (locs := locs) (cells := cells) (slots := slots) (below := below) (meth := meth) (e := e) (g := F0 m pc ls st0) (As := As) (rest := rest) S hM (va_cwS n S.2.2.2.2 (uS_good hT q1 q2 q4 q5) rfl rfl rfl hd.2 hR) ⟨hB, fun U g hW => ⟨rfl, hU U g hW⟩⟩ rfl hn hl hst (lv_room hw) hdg hf
  intro T hT2 X
  obtain ⟨v, st₀, t, T', L, h0, X', hL, e1, ⟨hv, hh⟩, st⟩ := hr T hT2 X
  cases hv
  obtain ⟨t2, a1, b1⟩ := kk T' (by rw [e1, hh, h0]) (Stand.forget X' (fun q h => (hL q h).elim))
  exact ⟨t2, st t2 a1, b1⟩
end TX
theorem mG {l : Launch} {y : MethodName} {b : ByteArray} {n h : Nat} {av : List Value} {ty : FieldType} {post : Int32 → Prop} {P : State → Prop} (hy : plainName y.cls = true) (hn : (lg_sl av).length ≤ n)
    (body : ∀ (p : Program) (e : Env) (s : State) (m : MethodId) (below : List Frame) (meth : Method) (c : Code) (ls : Array Slot) (ar : Array Value) (Q : State → Prop), p.tables.exec = Jvm.exec → c.code = b → c.maxLocals = n → s.vm.findClass y.cls = some m.cls → (∀ w ∈ uc y b n (some ty), w.before ar s = true) → P s → lv_has ls n (lv_args 0 av) →
      (∀ (pc : Nat) (ls : Array Slot) (v : Int32), decode b pc = .ok (.ireturn, 1) → narrow ty (.int v) = .int v → post v → W p l e (rmL h 0 0) s m ar below meth c s.heap [] 0 0 Q (F0 m pc ls [.int v])) →
      W p l e (rmL h 0 0) s m ar below meth c s.heap [] 0 0 Q (F0 m 0 ls [])) : Met l y (uc y b n (some ty)) (rmL h 0 0) (va_Pc av P) (vp_Si post) 0 0 (fun _ => False) := by
  refine pm hy hn ?_
  intro p e s m below meth c ls hx hb hr hml hown hlk hnm hts hv hl
  exact body p e s m below meth c ls _ _ hx hb hml hown hts hv hl (fun pc ls v hdg hnw hpo => W.zret hx hb hr hnw (fun t ht _ => ⟨v, rfl, hpo, ht⟩) (fun _ h => by cases h) hdg)
theorem mN {l : Launch} {y : MethodName} {b : ByteArray} {n h : Nat} {av : List Value} {P : State → Prop} (hy : plainName y.cls = true) (hn : (lg_sl av).length ≤ n)
    (body : ∀ (p : Program) (e : Env) (s : State) (m : MethodId) (below : List Frame) (meth : Method) (c : Code) (ls : Array Slot) (ar : Array Value) (Q : State → Prop), p.tables.exec = Jvm.exec → c.code = b → c.maxLocals = n → s.vm.findClass y.cls = some m.cls → (∀ w ∈ uc y b n none, w.before ar s = true) → P s → lv_has ls n (lv_args 0 av) →
      (∀ (pc : Nat) (ls : Array Slot), decode b pc = .ok (.return_, 1) → W p l e (rmL h 0 0) s m ar below meth c s.heap [] 0 0 Q (F0 m pc ls [])) →
      W p l e (rmL h 0 0) s m ar below meth c s.heap [] 0 0 Q (F0 m 0 ls [])) : Met l y (uc y b n none) (rmL h 0 0) (va_Pc av P) QcN 0 0 (fun _ => False) := by
  refine pm hy hn ?_
  intro p e s m below meth c ls hx hb hr hml hown hlk hnm hts hv hl
  exact body p e s m below meth c ls _ _ hx hb hml hown hts hv hl (fun pc ls hdg => W.vret hx hb hr (fun t ht _ => ⟨rfl, ht⟩) (fun _ h => by cases h) hdg)
set_option maxHeartbeats 1000000 in
theorem kT_coder (l : Launch) (adK adV : Nat → Nat) (i : Nat) (hi : i < 14) : Met l yJ0_coder_7d493 (uc yJ0_coder_7d493 cJ0_coder_7d493 1 (some .byte)) (rmL 1 0 0) (va_Pc [.ref (adK i)] (PreT adK adV)) (vp_Si (fun r => r = 0)) 0 0 (fun _ => False) := by
  refine mG (by decide) (Nat.le_of_ble_eq_true rfl) ?_
  intro p e s m below meth c ls ar Q hx hb hml hown hts hX hl hret
  have hown : s.vm.findClass "java/lang/String" = some m.cls := hown
  have hl : lv_has ls 1 [(0, .ref (adK i))] := hl
  have hS : va_S (fun _ => False) s.heap s.heap [] := va_S.rf
  refine va_gets hx hb hX.2.2.1 hS hown (hts _ (uc_in _ q_f483)) (fun _ h9 => h9) dJ0_coder_7d493_0 ?_
  refine lv_if_eq (tgt := 13) hx hb dJ0_coder_7d493_3 (by decide) (fun c1 => absurd c1 (by decide)) (fun _ => ?_)
  refine lv_aload_n hx hb dJ0_coder_7d493_6 rfl (lv_at hl 0 rfl) ?_
  refine vk_getf hx hb (hX.1.1 i hi).2.1 hS hown (hts _ (uc_in _ q_f1916)) (fun _ h9 => h9) dJ0_coder_7d493_7 ?_
  refine lv_goto (tgt := 14) hx hb dJ0_coder_7d493_10 (by decide) ?_
  exact hret _ _ 0 dJ0_coder_7d493_14 rfl rfl
set_option maxHeartbeats 1000000 in
theorem kT_isLatin1 (l : Launch) (adK adV : Nat → Nat) (i : Nat) (hi : i < 14) : Met l yJ0_isLatin1_aae02 (uc yJ0_isLatin1_aae02 cJ0_isLatin1_aae02 1 (some .boolean)) (rmL 1 0 0) (va_Pc [.ref (adK i)] (PreT adK adV)) (vp_Si (fun r => r = 1)) 0 0 (fun _ => False) := by
  refine mG (by decide) (Nat.le_of_ble_eq_true rfl) ?_
  intro p e s m below meth c ls ar Q hx hb hml hown hts hX hl hret
  have hown : s.vm.findClass "java/lang/String" = some m.cls := hown
  have hl : lv_has ls 1 [(0, .ref (adK i))] := hl
  have hS : va_S (fun _ => False) s.heap s.heap [] := va_S.rf
  refine va_gets hx hb hX.2.2.1 hS hown (hts _ (uc_in _ q_f483)) (fun _ h9 => h9) dJ0_isLatin1_aae02_0 ?_
  refine lv_if_eq (tgt := 17) hx hb dJ0_isLatin1_aae02_3 (by decide) (fun c1 => absurd c1 (by decide)) (fun _ => ?_)
  refine lv_aload_n hx hb dJ0_isLatin1_aae02_6 rfl (lv_at hl 0 rfl) ?_
  refine vk_getf hx hb (hX.1.1 i hi).2.1 hS hown (hts _ (uc_in _ q_f1916)) (fun _ h9 => h9) dJ0_isLatin1_aae02_7 ?_
  refine lv_if_ne (tgt := 17) hx hb dJ0_isLatin1_aae02_10 (by decide) (fun c1 => absurd rfl c1) (fun _ => ?_)
  refine lv_iconst (v := 1) hx hb dJ0_isLatin1_aae02_13 (by decide) ?_
  refine lv_goto (tgt := 18) hx hb dJ0_isLatin1_aae02_14 (by decide) ?_
  exact hret _ _ 1 dJ0_isLatin1_aae02_18 rfl rfl
set_option maxHeartbeats 1000000 in
theorem kT_length (l : Launch) (adK adV : Nat → Nat) (i : Nat) (hi : i < 14) : Met l yJ0_length_8abf5 (uc yJ0_length_8abf5 cJ0_length_8abf5 1 (some .int)) (rmL 2 0 0) (va_Pc [.ref (adK i)] (PreT adK adV)) (vp_Si (fun r => r = Int32.ofNat (strLen.getD i 0))) 0 0 (fun _ => False) := by
  refine mG (by decide) (Nat.le_of_ble_eq_true rfl) ?_
  intro p e s m below meth c ls ar Q hx hb hml hown hts hX hl hret
  have hown : s.vm.findClass "java/lang/String" = some m.cls := hown
  have hl : lv_has ls 1 [(0, .ref (adK i))] := hl
  have hS : va_S (fun _ => False) s.heap s.heap [] := va_S.rf
  refine lv_aload_n hx hb dJ0_length_8abf5_0 rfl (lv_at hl 0 rfl) ?_
  refine vk_getf hx hb (hX.1.1 i hi).2.2.1 hS hown (hts _ (uc_in _ q_f1915)) (fun _ h9 => h9) dJ0_length_8abf5_1 ?_
  refine va_tlen hx hb (hX.1.1 i hi).2.2.2 hS rfl dJ0_length_8abf5_4 ?_
  refine lv_aload_n hx hb dJ0_length_8abf5_5 rfl (lv_at hl 0 rfl) ?_
  refine cvT (n := 0) (As := []) (rest := [.int (Int32.ofNat (strLen.getD i 0))]) ⟨hx, hb, hml, hown, hts⟩ uc_in (kT_coder l adK adV i hi) blT q_m479 q_n480 q_e481 q_i13 q_c482 hvJ0_coder_7d493 ⟨(Nat.le_of_ble_eq_true rfl), (Nat.le_of_ble_eq_true rfl)⟩ ⟨(Nat.le_of_ble_eq_true rfl), (Nat.le_of_ble_eq_true rfl)⟩ (vk_recv hX.1 hi hS) (fun U hU hW => hX.go hW hU) rfl hl.1 rfl (Nat.le_of_ble_eq_true rfl) dJ0_length_8abf5_6 (fun r hr => ?_)
  subst hr
  refine lv_ishr hx hb dJ0_length_8abf5_9 ?_
  refine pv_i (v := Int32.ofNat (strLen.getD i 0)) ?_ (hret _ _ _ dJ0_length_8abf5_10 rfl rfl)
  rcases (show i = 0 ∨ i = 1 ∨ i = 2 ∨ i = 3 ∨ i = 4 ∨ i = 5 ∨ i = 6 ∨ i = 7 ∨ i = 8 ∨ i = 9 ∨ i = 10 ∨ i = 11 ∨ i = 12 ∨ i = 13 by omega) with rfl | rfl | rfl | rfl | rfl | rfl | rfl | rfl | rfl | rfl | rfl | rfl | rfl | rfl <;> decide
set_option maxHeartbeats 1000000 in
theorem kT_checkIndexJ3 (l : Launch) (adK adV : Nat → Nat) (x n : Int32) (v : Value) (hv : v.category = 1) (h0 : ¬ x < 0) (h1 : x < n) : Met l yJ3_checkIndex_8e157 (uc yJ3_checkIndex_8e157 cJ3_checkIndex_8e157 3 (some .int)) (rmL 1 0 0) (va_Pc [.int x, .int n, v] (PreT adK adV)) (vp_Si (fun r => r = x)) 0 0 (fun _ => False) := by
  refine mG (by decide) (by show (lg_sl [.int x, .int n, v]).length ≤ 3; cases v <;> first | exact (Nat.le_of_ble_eq_true rfl) | exact absurd (show (2 : Nat) = 1 from hv) (by decide)) ?_
  intro p e s m below meth c ls ar Q hx hb hml hown hts hX hl hret
  have hl : lv_has ls 3 [(0, .int x), (1, .int n), (2, v)] := hl
  refine lv_iload_n hx hb dJ3_checkIndex_8e157_0 rfl (lv_at hl 0 rfl) ?_
  refine lv_if_lt (tgt := 9) hx hb dJ3_checkIndex_8e157_1 (by decide) (fun c1 => absurd c1 h0) (fun _ => ?_)
  refine lv_iload_n hx hb dJ3_checkIndex_8e157_4 rfl (lv_at hl 0 rfl) ?_
  refine lv_iload_n hx hb dJ3_checkIndex_8e157_5 rfl (lv_at hl 1 rfl) ?_
  refine lv_icmp_lt (tgt := 16) hx hb dJ3_checkIndex_8e157_6 (by decide) (fun _ => ?_) (fun c1 => absurd h1 c1)
  refine lv_iload_n hx hb dJ3_checkIndex_8e157_16 rfl (lv_at hl 0 rfl) ?_
  exact hret _ _ x dJ3_checkIndex_8e157_17 rfl rfl
set_option maxHeartbeats 1000000 in
theorem kT_checkIndex (l : Launch) (adK adV : Nat → Nat) (x n : Int32) (h0 : ¬ x < 0) (h1 : x < n) : Met l yJ0_checkIndex_df160 (uc yJ0_checkIndex_df160 cJ0_checkIndex_df160 2 none) (rmL 2 0 0) (va_Pc [.int x, .int n] (PreT adK adV)) QcN 0 0 (fun _ => False) := by
  refine mN (by decide) (Nat.le_of_ble_eq_true rfl) ?_
  intro p e s m below meth c ls ar Q hx hb hml hown hts hX hl hret
  have hown : s.vm.findClass "java/lang/String" = some m.cls := hown
  have hl : lv_has ls 2 [(0, .int x), (1, .int n)] := hl
  have hS : va_S (fun _ => False) s.heap s.heap [] := va_S.rf
  refine lv_iload_n hx hb dJ0_checkIndex_df160_0 rfl (lv_at hl 0 rfl) ?_
  refine lv_iload_n hx hb dJ0_checkIndex_df160_1 rfl (lv_at hl 1 rfl) ?_
  have fin : ∀ v : Value, v.category = 1 → W p l e (rmL 2 0 0) s m ar below meth c s.heap [] 0 0 Q (F0 m 5 ls [v, .int n, .int x]) := by
    intro v hv
    refine csT (n := 3) (As := [.int x, .int n, v]) (rest := []) ⟨hx, hb, hml, hown, hts⟩ uc_in (kT_checkIndexJ3 l adK adV x n v hv h0 h1) blT q_m501 q_s502 q_i15 q_c503 hvJ3_checkIndex_8e157 ⟨(Nat.le_of_ble_eq_true rfl), (Nat.le_of_ble_eq_true rfl)⟩ ⟨(Nat.le_of_ble_eq_true rfl), (Nat.le_of_ble_eq_true rfl)⟩ (fun U hU hW => hX.go hW hU) rfl hl.1 rfl (Nat.le_of_ble_eq_true rfl) dJ0_checkIndex_df160_5 (fun r _ => ?_)
    refine lv_pop hx hb dJ0_checkIndex_df160_8 rfl ?_
    exact hret _ _ dJ0_checkIndex_df160_9
  rcases hX.2.2.2 with hZ | ⟨t, hZ⟩
  · refine va_gets hx hb hZ hS hown (hts _ (uc_in _ q_f499)) (fun _ h9 => h9) dJ0_checkIndex_df160_2 ?_
    exact fin _ rfl
  · refine va_gets hx hb hZ hS hown (hts _ (uc_in _ q_f499)) (fun _ h9 => h9) dJ0_checkIndex_df160_2 ?_
    exact fin _ rfl
set_option maxHeartbeats 1000000 in
theorem kT_charAtJ1 (l : Launch) (adK adV : Nat → Nat) (i : Nat) (hi : i < 14) (x : Int32) (hx0 : vp_in x (strLen.getD i 0)) : Met l yJ1_charAt_3b067 (uc yJ1_charAt_3b067 cJ1_charAt_3b067 2 (some .char)) (rmL 3 0 0) (va_Pc [.ref (adV i), .int x] (PreT adK adV)) (vp_Si (fun r => narrow .char (.int r) = .int r)) 0 0 (fun _ => False) := by
  refine mG (by decide) (Nat.le_of_ble_eq_true rfl) ?_
  intro p e s m below meth c ls ar Q hx hb hml hown hts hX hl hret
  have hown : s.vm.findClass "java/lang/StringLatin1" = some m.cls := hown
  have hl : lv_has ls 2 [(0, .ref (adV i)), (1, .int x)] := hl
  have hS : va_S (fun _ => False) s.heap s.heap [] := va_S.rf
  have hlt : x.toNatClampNeg < strLen.getD i 0 := Nat.not_le.mp fun q => hx0 (Or.inr q)
  have h0 : ¬ x < 0 := fun q => hx0 (Or.inl q)
  have hle : strLen.getD i 0 ≤ 5 := by rcases (show i = 0 ∨ i = 1 ∨ i = 2 ∨ i = 3 ∨ i = 4 ∨ i = 5 ∨ i = 6 ∨ i = 7 ∨ i = 8 ∨ i = 9 ∨ i = 10 ∨ i = 11 ∨ i = 12 ∨ i = 13 by omega) with rfl | rfl | rfl | rfl | rfl | rfl | rfl | rfl | rfl | rfl | rfl | rfl | rfl | rfl <;> decide
  have h1 : x < Int32.ofNat (strLen.getD i 0) := by
    obtain ⟨h2, h3⟩ := vp_in_iff.mp hx0
    rw [Int32.lt_iff_toInt_lt]
    have h4 : (Int32.ofNat (strLen.getD i 0)).toInt = (strLen.getD i 0 : Int) := nI_toInt (by omega)
    omega
  refine lv_iload_n hx hb dJ1_charAt_3b067_0 rfl (lv_at hl 1 rfl) ?_
  refine lv_aload_n hx hb dJ1_charAt_3b067_1 rfl (lv_at hl 0 rfl) ?_
  refine va_tlen hx hb (hX.1.1 i hi).2.2.2 hS rfl dJ1_charAt_3b067_2 ?_
  refine csN (n := 2) (As := [.int x, .int (Int32.ofNat (strLen.getD i 0))]) (rest := []) ⟨hx, hb, hml, hown, hts⟩ uc_in (kT_checkIndex l adK adV x _ h0 h1) blT q_m496 q_s497 q_i13 q_c498 hvJ0_checkIndex_df160 ⟨(Nat.le_of_ble_eq_true rfl), (Nat.le_of_ble_eq_true rfl)⟩ ⟨(Nat.le_of_ble_eq_true rfl), (Nat.le_of_ble_eq_true rfl)⟩ (fun U hU hW => hX.go hW hU) rfl hl.1 rfl (Nat.le_of_ble_eq_true rfl) dJ1_charAt_3b067_3 ?_
  refine lv_aload_n hx hb dJ1_charAt_3b067_6 rfl (lv_at hl 0 rfl) ?_
  refine lv_iload_n hx hb dJ1_charAt_3b067_7 rfl (lv_at hl 1 rfl) ?_
  refine va_tb hx hb (hX.1.1 i hi).2.2.2 hS hx0 rfl dJ1_charAt_3b067_8 ?_
  refine lv_sipush (v := 255) hx hb dJ1_charAt_3b067_9 (by decide) ?_
  refine lv_iand hx hb dJ1_charAt_3b067_12 ?_
  refine lv_i2c hx hb dJ1_charAt_3b067_13 rfl ?_
  exact hret _ _ _ dJ1_charAt_3b067_14 (pk_nc _) (pk_nc _)
set_option maxHeartbeats 1000000 in
theorem kT_charAt (l : Launch) (adK adV : Nat → Nat) (i : Nat) (hi : i < 14) (x : Int32) (hx0 : vp_in x (strLen.getD i 0)) : Met l yJ0_charAt_5068e (uc yJ0_charAt_5068e cJ0_charAt_5068e 2 (some .char)) (rmL 4 0 0) (va_Pc [.ref (adK i), .int x] (PreT adK adV)) (vp_Si (fun _ => True)) 0 0 (fun _ => False) := by
  refine mG (by decide) (Nat.le_of_ble_eq_true rfl) ?_
  intro p e s m below meth c ls ar Q hx hb hml hown hts hX hl hret
  have hown : s.vm.findClass "java/lang/String" = some m.cls := hown
  have hl : lv_has ls 2 [(0, .ref (adK i)), (1, .int x)] := hl
  have hS : va_S (fun _ => False) s.heap s.heap [] := va_S.rf
  refine lv_aload_n hx hb dJ0_charAt_5068e_0 rfl (lv_at hl 0 rfl) ?_
  refine cvT (n := 0) (As := []) (rest := []) ⟨hx, hb, hml, hown, hts⟩ uc_in (kT_isLatin1 l adK adV i hi) blT q_m489 q_n490 q_e491 q_i13 q_c492 hvJ0_isLatin1_aae02 ⟨(Nat.le_of_ble_eq_true rfl), (Nat.le_of_ble_eq_true rfl)⟩ ⟨(Nat.le_of_ble_eq_true rfl), (Nat.le_of_ble_eq_true rfl)⟩ (vk_recv hX.1 hi hS) (fun U hU hW => hX.go hW hU) rfl hl.1 rfl (Nat.le_of_ble_eq_true rfl) dJ0_charAt_5068e_1 (fun r hr => ?_)
  subst hr
  refine lv_if_eq (tgt := 16) hx hb dJ0_charAt_5068e_4 (by decide) (fun c1 => absurd c1 (by decide)) (fun _ => ?_)
  refine lv_aload_n hx hb dJ0_charAt_5068e_7 rfl (lv_at hl 0 rfl) ?_
  refine vk_getf hx hb (hX.1.1 i hi).2.2.1 hS hown (hts _ (uc_in _ q_f1915)) (fun _ h9 => h9) dJ0_charAt_5068e_8 ?_
  refine lv_iload_n hx hb dJ0_charAt_5068e_11 rfl (lv_at hl 1 rfl) ?_
  refine csT (n := 2) (As := [.ref (adV i), .int x]) (rest := []) ⟨hx, hb, hml, hown, hts⟩ uc_in (kT_charAtJ1 l adK adV i hi x hx0) blT q_m493 q_s494 q_i14 q_c495 hvJ1_charAt_3b067 ⟨(Nat.le_of_ble_eq_true rfl), (Nat.le_of_ble_eq_true rfl)⟩ ⟨(Nat.le_of_ble_eq_true rfl), (Nat.le_of_ble_eq_true rfl)⟩ (fun U hU hW => hX.go hW hU) rfl hl.1 rfl (Nat.le_of_ble_eq_true rfl) dJ0_charAt_5068e_12 (fun r hr => ?_)
  exact hret _ _ r dJ0_charAt_5068e_15 hr trivial
def SzC (u : St) (A s w : Int) : Prop := (A = 0 ∧ s = (gi u 50).toInt ∧ w = (gi u 51).toInt) ∨ (A = 1 ∧ s = (gi u 52).toInt ∧ w = (gi u 53).toInt) ∨ (A = 2 ∧ s = (gi u 54).toInt ∧ w = (gi u 55).toInt) ∨ (A = 3 ∧ s = (gi u 56).toInt ∧ w = (gi u 57).toInt)
