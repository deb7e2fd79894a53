set_option maxHeartbeats 4000000 in
set_option maxRecDepth 100000 in
theorem law_case_24 {p : Program} {l : Launch} {e : Env} {s : State} {m : MethodId} {below : List Frame} {meth : Method} {c : Code} {D : va_G} {C : Nat → ClassId} {b L i : Nat} {xs : Nat → Int32} {A B adK adV : Nat → Nat} {u v : St} {H : Heap} {locs : List Loc} {ls : Array Slot} (C0 : lw_At p s m meth c b L xs) (hLL : L ≤ 3072) (hiL : i + 6 ≤ L) (hK : va_K D vwCl (tyl C) s) (hXS : XS adK adV (fun q : Nat => s.heap.size ≤ q) s) (hIC : IC u) (hIM : IM v) (hRL : RLt u v) (hP : va_P D vwCl (cw C A u ++ mw C B v) H) (hD : va_D (fun q : Nat => s.heap.size ≤ q) (cw C A u ++ mw C B v)) (hS : va_S (fun q : Nat => s.heap.size ≤ q) s.heap H locs) (hl : lv_has ls 4 [(3, .int (nI i)), (2, .ref (B 0)), (1, .ref (A 0)), (0, .ref b)])
    (kx : ∀ (u v : St) (H : Heap) (locs : List Loc) (ls : Array Slot), IC u → IM v → RLt u v → va_P D vwCl (cw C A u ++ mw C B v) H → va_D (fun q : Nat => s.heap.size ≤ q) (cw C A u ++ mw C B v) → va_S (fun q : Nat => s.heap.size ≤ q) s.heap H locs → lv_has ls 4 [(3, .int (nI i)), (2, .ref (B 0)), (1, .ref (A 0)), (0, .ref b)] → W p l e room_1 s m #[Value.ref b] below meth c H locs 180 4779 (lw_Z below #[Value.ref b] s) (F0 m 2362 ls [])) : W p l e room_1 s m #[Value.ref b] below meth c H locs 180 4779 (lw_Z below #[Value.ref b] s) (F0 m 918 ls []) := by
  obtain ⟨hx, hb, hr, hml, hown, hts, hX, hbl, hlocks, hgv⟩ := id C0
  have hown : s.vm.findClass RL = some m.cls := hown
  have hb : c.code = cL_law := hb
  have hA : ∀ q : Nat, s.heap.size ≤ q → (fun q : Nat => s.heap.size ≤ q) q := fun _ h => h
  have hbA : ¬ (fun q : Nat => s.heap.size ≤ q) b := Nat.not_le.mpr hbl
  have hni : (nI i).toInt = (i : Int) := nI_toInt (by omega)
  refine lv_aload_n hx hb dL_law_918 rfl (lv_at hl 2 rfl) ?_
  refine lv_aload_n hx hb dL_law_919 rfl (lv_at hl 3 rfl) ?_
  refine lv_iload_n hx hb dL_law_920 rfl (lv_at hl 0 rfl) ?_
  refine lv_iconst (v := 1) hx hb dL_law_921 (by decide) ?_
  refine lv_iadd hx hb dL_law_922 ?_
  refine p_nm (tt_add (X := (i : Int)) (Y := 1) hni (by decide) (by omega) (by omega)) (fun z1 hz1 => ?_)
  refine va_sld hx hb hX hbl hbA hS (i_ix hz1 (by omega) (by omega)) dL_law_923 ?_
  refine pv_i (v := xs (i + 1)) (by rw [show Int32.toNatClampNeg z1 = i + 1 by have q9 := i_cl hz1 (by omega); omega]) ?_
  refine cvS (n := 1) (As := [.int (xs (i + 1))]) (rest := []) ⟨hx, hb, hml, hown, hts⟩ (fun _ h => uw_in h) (kX9_heir_0 l D C A u hIC (xs (i + 1)) (xs (i + 1)).toInt rfl) q_m754 q_n755 q_e756 q_i1 q_c757 hvX9_heir ⟨(Nat.le_of_ble_eq_true rfl), (Nat.le_of_ble_eq_true rfl)⟩ ⟨(Nat.le_of_ble_eq_true rfl), (Nat.le_of_ble_eq_true rfl)⟩ hK hP.left 9 0 rfl (cwc0 C A u) rfl hl.1 rfl (Nat.le_of_ble_eq_true rfl) dL_law_924 (fun r2 p3 => ?_)
  have hP := hP.flip
  have hD := hD.flip
  refine lv_pop hx hb dL_law_927 rfl ?_
  refine lv_aload_n hx hb dL_law_928 rfl (lv_at hl 1 rfl) ?_
  refine lv_aload_n hx hb dL_law_929 rfl (lv_at hl 3 rfl) ?_
  refine lv_iload_n hx hb dL_law_930 rfl (lv_at hl 0 rfl) ?_
  refine lv_iconst (v := 1) hx hb dL_law_931 (by decide) ?_
  refine lv_iadd hx hb dL_law_932 ?_
  refine p_nm (tt_add (X := (i : Int)) (Y := 1) hni (by decide) (by omega) (by omega)) (fun z4 hz4 => ?_)
  refine va_sld hx hb hX hbl hbA hS (i_ix hz4 (by omega) (by omega)) dL_law_933 ?_
  refine pv_i (v := xs (i + 1)) (by rw [show Int32.toNatClampNeg z4 = i + 1 by have q9 := i_cl hz4 (by omega); omega]) ?_
  refine lcI (w := mw C B) (n := 1) (As := [.int (xs (i + 1))]) (rest := []) ⟨hx, hb, hml, hown, hts⟩ (fun _ h => uw_in h) (kX10_heir_0 l D C B v hIM (xs (i + 1)) (xs (i + 1)).toInt rfl H.size) q_m1622 q_n1623 q_e1624 q_i11 q_c1625 hvX10_heir ⟨(Nat.le_of_ble_eq_true rfl), (Nat.le_of_ble_eq_true rfl)⟩ ⟨(Nat.le_of_ble_eq_true rfl), (Nat.le_of_ble_eq_true rfl)⟩ hK hP hD hS hA Bl0 (fun _ _ _ => trivial) 10 0 rfl (mwc0 C B v) rfl hl.1 rfl (Nat.le_of_ble_eq_true rfl) dL_law_934 (fun r5 u7 H locs p6 hP hD hS => ?_)
  obtain ⟨hu7, Uu7, p6⟩ := p6
  refine lv_pop hx hb dL_law_937 rfl ?_
  refine lv_goto (tgt := 2362) hx hb dL_law_938 (by decide) ?_
  exact kx u u7 H locs ls hIC hu7 (hRL.un rfl rfl rfl rfl rfl rfl rfl rfl (Uu7.2.1 1 rfl) (Uu7.2.1 2 rfl)) hP hD hS hl
set_option maxHeartbeats 4000000 in
set_option maxRecDepth 100000 in
theorem law_case_25 {p : Program} {l : Launch} {e : Env} {s : State} {m : MethodId} {below : List Frame} {meth : Method} {c : Code} {D : va_G} {C : Nat → ClassId} {b L i : Nat} {xs : Nat → Int32} {A B adK adV : Nat → Nat} {u v : St} {H : Heap} {locs : List Loc} {ls : Array Slot} (C0 : lw_At p s m meth c b L xs) (hLL : L ≤ 3072) (hiL : i + 6 ≤ L) (hK : va_K D vwCl (tyl C) s) (hXS : XS adK adV (fun q : Nat => s.heap.size ≤ q) s) (hIC : IC u) (hIM : IM v) (hRL : RLt u v) (hP : va_P D vwCl (cw C A u ++ mw C B v) H) (hD : va_D (fun q : Nat => s.heap.size ≤ q) (cw C A u ++ mw C B v)) (hS : va_S (fun q : Nat => s.heap.size ≤ q) s.heap H locs) (hl : lv_has ls 4 [(3, .int (nI i)), (2, .ref (B 0)), (1, .ref (A 0)), (0, .ref b)])
    (kx : ∀ (u v : St) (H : Heap) (locs : List Loc) (ls : Array Slot), IC u → IM v → RLt u v → va_P D vwCl (cw C A u ++ mw C B v) H → va_D (fun q : Nat => s.heap.size ≤ q) (cw C A u ++ mw C B v) → va_S (fun q : Nat => s.heap.size ≤ q) s.heap H locs → lv_has ls 4 [(3, .int (nI i)), (2, .ref (B 0)), (1, .ref (A 0)), (0, .ref b)] → W p l e room_1 s m #[Value.ref b] below meth c H locs 180 4779 (lw_Z below #[Value.ref b] s) (F0 m 2362 ls [])) : W p l e room_1 s m #[Value.ref b] below meth c H locs 180 4779 (lw_Z below #[Value.ref b] s) (F0 m 941 ls []) := by
  obtain ⟨hx, hb, hr, hml, hown, hts, hX, hbl, hlocks, hgv⟩ := id C0
  have hown : s.vm.findClass RL = some m.cls := hown
  have hb : c.code = cL_law := hb
  have hA : ∀ q : Nat, s.heap.size ≤ q → (fun q : Nat => s.heap.size ≤ q) q := fun _ h => h
  have hbA : ¬ (fun q : Nat => s.heap.size ≤ q) b := Nat.not_le.mpr hbl
  have hni : (nI i).toInt = (i : Int) := nI_toInt (by omega)
  refine lv_aload_n hx hb dL_law_941 rfl (lv_at hl 2 rfl) ?_
  refine lv_aload_n hx hb dL_law_942 rfl (lv_at hl 3 rfl) ?_
  refine lv_iload_n hx hb dL_law_943 rfl (lv_at hl 0 rfl) ?_
  refine lv_iconst (v := 1) hx hb dL_law_944 (by decide) ?_
  refine lv_iadd hx hb dL_law_945 ?_
  refine p_nm (tt_add (X := (i : Int)) (Y := 1) hni (by decide) (by omega) (by omega)) (fun z1 hz1 => ?_)
  refine va_sld hx hb hX hbl hbA hS (i_ix hz1 (by omega) (by omega)) dL_law_946 ?_
  refine pv_i (v := xs (i + 1)) (by rw [show Int32.toNatClampNeg z1 = i + 1 by have q9 := i_cl hz1 (by omega); omega]) ?_
  refine cvS (n := 1) (As := [.int (xs (i + 1))]) (rest := []) ⟨hx, hb, hml, hown, hts⟩ (fun _ h => uw_in h) (kX9_watch_0 l D C A u hIC (xs (i + 1)) (xs (i + 1)).toInt rfl) q_m758 q_n759 q_e760 q_i1 q_c761 hvX9_watch ⟨(Nat.le_of_ble_eq_true rfl), (Nat.le_of_ble_eq_true rfl)⟩ ⟨(Nat.le_of_ble_eq_true rfl), (Nat.le_of_ble_eq_true rfl)⟩ hK hP.left 9 0 rfl (cwc0 C A u) rfl hl.1 rfl (Nat.le_of_ble_eq_true rfl) dL_law_947 (fun r2 p3 => ?_)
  have hP := hP.flip
  have hD := hD.flip
  refine lv_pop hx hb dL_law_950 rfl ?_
  refine lv_aload_n hx hb dL_law_951 rfl (lv_at hl 1 rfl) ?_
  refine lv_aload_n hx hb dL_law_952 rfl (lv_at hl 3 rfl) ?_
  refine lv_iload_n hx hb dL_law_953 rfl (lv_at hl 0 rfl) ?_
  refine lv_iconst (v := 1) hx hb dL_law_954 (by decide) ?_
  refine lv_iadd hx hb dL_law_955 ?_
  refine p_nm (tt_add (X := (i : Int)) (Y := 1) hni (by decide) (by omega) (by omega)) (fun z4 hz4 => ?_)
  refine va_sld hx hb hX hbl hbA hS (i_ix hz4 (by omega) (by omega)) dL_law_956 ?_
  refine pv_i (v := xs (i + 1)) (by rw [show Int32.toNatClampNeg z4 = i + 1 by have q9 := i_cl hz4 (by omega); omega]) ?_
  refine lcI (w := mw C B) (n := 1) (As := [.int (xs (i + 1))]) (rest := []) ⟨hx, hb, hml, hown, hts⟩ (fun _ h => uw_in h) (kX10_watch_0 l D C B v hIM (xs (i + 1)) (xs (i + 1)).toInt rfl H.size) q_m1626 q_n1627 q_e1628 q_i11 q_c1629 hvX10_watch ⟨(Nat.le_of_ble_eq_true rfl), (Nat.le_of_ble_eq_true rfl)⟩ ⟨(Nat.le_of_ble_eq_true rfl), (Nat.le_of_ble_eq_true rfl)⟩ hK hP hD hS hA Bl0 (fun _ _ _ => trivial) 10 0 rfl (mwc0 C B v) rfl hl.1 rfl (Nat.le_of_ble_eq_true rfl) dL_law_957 (fun r5 u7 H locs p6 hP hD hS => ?_)
  obtain ⟨hu7, Uu7, p6⟩ := p6
  refine lv_pop hx hb dL_law_960 rfl ?_
  refine lv_goto (tgt := 2362) hx hb dL_law_961 (by decide) ?_
  exact kx u u7 H locs ls hIC hu7 (hRL.un rfl rfl rfl rfl rfl rfl rfl rfl (Uu7.2.1 1 rfl) (Uu7.2.1 2 rfl)) hP hD hS hl
set_option maxHeartbeats 4000000 in
set_option maxRecDepth 100000 in
theorem law_case_26 {p : Program} {l : Launch} {e : Env} {s : State} {m : MethodId} {below : List Frame} {meth : Method} {c : Code} {D : va_G} {C : Nat → ClassId} {b L i : Nat} {xs : Nat → Int32} {A B adK adV : Nat → Nat} {u v : St} {H : Heap} {locs : List Loc} {ls : Array Slot} (C0 : lw_At p s m meth c b L xs) (hLL : L ≤ 3072) (hiL : i + 6 ≤ L) (hK : va_K D vwCl (tyl C) s) (hXS : XS adK adV (fun q : Nat => s.heap.size ≤ q) s) (hIC : IC u) (hIM : IM v) (hRL : RLt u v) (hP : va_P D vwCl (cw C A u ++ mw C B v) H) (hD : va_D (fun q : Nat => s.heap.size ≤ q) (cw C A u ++ mw C B v)) (hS : va_S (fun q : Nat => s.heap.size ≤ q) s.heap H locs) (hl : lv_has ls 4 [(3, .int (nI i)), (2, .ref (B 0)), (1, .ref (A 0)), (0, .ref b)])
    (kx : ∀ (u v : St) (H : Heap) (locs : List Loc) (ls : Array Slot), IC u → IM v → RLt u v → va_P D vwCl (cw C A u ++ mw C B v) H → va_D (fun q : Nat => s.heap.size ≤ q) (cw C A u ++ mw C B v) → va_S (fun q : Nat => s.heap.size ≤ q) s.heap H locs → lv_has ls 4 [(3, .int (nI i)), (2, .ref (B 0)), (1, .ref (A 0)), (0, .ref b)] → W p l e room_1 s m #[Value.ref b] below meth c H locs 180 4779 (lw_Z below #[Value.ref b] s) (F0 m 2362 ls [])) : W p l e room_1 s m #[Value.ref b] below meth c H locs 180 4779 (lw_Z below #[Value.ref b] s) (F0 m 964 ls []) := by
  obtain ⟨hx, hb, hr, hml, hown, hts, hX, hbl, hlocks, hgv⟩ := id C0
  have hown : s.vm.findClass RL = some m.cls := hown
  have hb : c.code = cL_law := hb
  have hA : ∀ q : Nat, s.heap.size ≤ q → (fun q : Nat => s.heap.size ≤ q) q := fun _ h => h
  have hbA : ¬ (fun q : Nat => s.heap.size ≤ q) b := Nat.not_le.mpr hbl
  have hni : (nI i).toInt = (i : Int) := nI_toInt (by omega)
  refine lv_aload_n hx hb dL_law_964 rfl (lv_at hl 2 rfl) ?_
  refine lv_aload_n hx hb dL_law_965 rfl (lv_at hl 3 rfl) ?_
  refine lv_iload_n hx hb dL_law_966 rfl (lv_at hl 0 rfl) ?_
  refine lv_iconst (v := 1) hx hb dL_law_967 (by decide) ?_
  refine lv_iadd hx hb dL_law_968 ?_
  refine p_nm (tt_add (X := (i : Int)) (Y := 1) hni (by decide) (by omega) (by omega)) (fun z1 hz1 => ?_)
  refine va_sld hx hb hX hbl hbA hS (i_ix hz1 (by omega) (by omega)) dL_law_969 ?_
  refine pv_i (v := xs (i + 1)) (by rw [show Int32.toNatClampNeg z1 = i + 1 by have q9 := i_cl hz1 (by omega); omega]) ?_
  refine cvS (n := 1) (As := [.int (xs (i + 1))]) (rest := []) ⟨hx, hb, hml, hown, hts⟩ (fun _ h => uw_in h) (kX9_alarm_0 l D C A u hIC (xs (i + 1)) (xs (i + 1)).toInt rfl) q_m765 q_n766 q_e767 q_i1 q_c768 hvX9_alarm ⟨(Nat.le_of_ble_eq_true rfl), (Nat.le_of_ble_eq_true rfl)⟩ ⟨(Nat.le_of_ble_eq_true rfl), (Nat.le_of_ble_eq_true rfl)⟩ hK hP.left 9 0 rfl (cwc0 C A u) rfl hl.1 rfl (Nat.le_of_ble_eq_true rfl) dL_law_970 (fun r2 p3 => ?_)
  have hP := hP.flip
  have hD := hD.flip
  refine lv_pop hx hb dL_law_973 rfl ?_
  refine lv_aload_n hx hb dL_law_974 rfl (lv_at hl 1 rfl) ?_
  refine lv_aload_n hx hb dL_law_975 rfl (lv_at hl 3 rfl) ?_
  refine lv_iload_n hx hb dL_law_976 rfl (lv_at hl 0 rfl) ?_
  refine lv_iconst (v := 1) hx hb dL_law_977 (by decide) ?_
  refine lv_iadd hx hb dL_law_978 ?_
  refine p_nm (tt_add (X := (i : Int)) (Y := 1) hni (by decide) (by omega) (by omega)) (fun z4 hz4 => ?_)
  refine va_sld hx hb hX hbl hbA hS (i_ix hz4 (by omega) (by omega)) dL_law_979 ?_
  refine pv_i (v := xs (i + 1)) (by rw [show Int32.toNatClampNeg z4 = i + 1 by have q9 := i_cl hz4 (by omega); omega]) ?_
  refine lcI (w := mw C B) (n := 1) (As := [.int (xs (i + 1))]) (rest := []) ⟨hx, hb, hml, hown, hts⟩ (fun _ h => uw_in h) (kX10_alarm_0 l D C B v hIM (xs (i + 1)) (xs (i + 1)).toInt rfl H.size) q_m1635 q_n1636 q_e1637 q_i11 q_c1638 hvX10_alarm ⟨(Nat.le_of_ble_eq_true rfl), (Nat.le_of_ble_eq_true rfl)⟩ ⟨(Nat.le_of_ble_eq_true rfl), (Nat.le_of_ble_eq_true rfl)⟩ hK hP hD hS hA Bl0 (fun _ _ _ => trivial) 10 0 rfl (mwc0 C B v) rfl hl.1 rfl (Nat.le_of_ble_eq_true rfl) dL_law_980 (fun r5 u7 H locs p6 hP hD hS => ?_)
  obtain ⟨hu7, Uu7, p6⟩ := p6
  refine lv_pop hx hb dL_law_983 rfl ?_
  refine lv_goto (tgt := 2362) hx hb dL_law_984 (by decide) ?_
  exact kx u u7 H locs ls hIC hu7 (hRL.un rfl rfl rfl rfl rfl rfl rfl rfl (Uu7.2.1 1 rfl) (Uu7.2.1 2 rfl)) hP hD hS hl
set_option maxHeartbeats 4000000 in
set_option maxRecDepth 100000 in
theorem law_case_27 {p : Program} {l : Launch} {e : Env} {s : State} {m : MethodId} {below : List Frame} {meth : Method} {c : Code} {D : va_G} {C : Nat → ClassId} {b L i : Nat} {xs : Nat → Int32} {A B adK adV : Nat → Nat} {u v : St} {H : Heap} {locs : List Loc} {ls : Array Slot} (C0 : lw_At p s m meth c b L xs) (hLL : L ≤ 3072) (hiL : i + 6 ≤ L) (hK : va_K D vwCl (tyl C) s) (hXS : XS adK adV (fun q : Nat => s.heap.size ≤ q) s) (hIC : IC u) (hIM : IM v) (hRL : RLt u v) (hP : va_P D vwCl (cw C A u ++ mw C B v) H) (hD : va_D (fun q : Nat => s.heap.size ≤ q) (cw C A u ++ mw C B v)) (hS : va_S (fun q : Nat => s.heap.size ≤ q) s.heap H locs) (hl : lv_has ls 4 [(3, .int (nI i)), (2, .ref (B 0)), (1, .ref (A 0)), (0, .ref b)])
    (kx : ∀ (u v : St) (H : Heap) (locs : List Loc) (ls : Array Slot), IC u → IM v → RLt u v → va_P D vwCl (cw C A u ++ mw C B v) H → va_D (fun q : Nat => s.heap.size ≤ q) (cw C A u ++ mw C B v) → va_S (fun q : Nat => s.heap.size ≤ q) s.heap H locs → lv_has ls 4 [(3, .int (nI i)), (2, .ref (B 0)), (1, .ref (A 0)), (0, .ref b)] → W p l e room_1 s m #[Value.ref b] below meth c H locs 180 4779 (lw_Z below #[Value.ref b] s) (F0 m 2362 ls [])) : W p l e room_1 s m #[Value.ref b] below meth c H locs 180 4779 (lw_Z below #[Value.ref b] s) (F0 m 987 ls []) := by
  obtain ⟨hx, hb, hr, hml, hown, hts, hX, hbl, hlocks, hgv⟩ := id C0
  have hown : s.vm.findClass RL = some m.cls := hown
  have hb : c.code = cL_law := hb
  have hA : ∀ q : Nat, s.heap.size ≤ q → (fun q : Nat => s.heap.size ≤ q) q := fun _ h => h
  have hbA : ¬ (fun q : Nat => s.heap.size ≤ q) b := Nat.not_le.mpr hbl
  have hni : (nI i).toInt = (i : Int) := nI_toInt (by omega)
  refine lv_aload_n hx hb dL_law_987 rfl (lv_at hl 2 rfl) ?_
  refine lv_aload_n hx hb dL_law_988 rfl (lv_at hl 3 rfl) ?_
  refine lv_iload_n hx hb dL_law_989 rfl (lv_at hl 0 rfl) ?_
  refine lv_iconst (v := 1) hx hb dL_law_990 (by decide) ?_
  refine lv_iadd hx hb dL_law_991 ?_
  refine p_nm (tt_add (X := (i : Int)) (Y := 1) hni (by decide) (by omega) (by omega)) (fun z1 hz1 => ?_)
  refine va_sld hx hb hX hbl hbA hS (i_ix hz1 (by omega) (by omega)) dL_law_992 ?_
  refine pv_i (v := xs (i + 1)) (by rw [show Int32.toNatClampNeg z1 = i + 1 by have q9 := i_cl hz1 (by omega); omega]) ?_
  refine lv_aload_n hx hb dL_law_993 rfl (lv_at hl 3 rfl) ?_
  refine lv_iload_n hx hb dL_law_994 rfl (lv_at hl 0 rfl) ?_
  refine lv_iconst (v := 2) hx hb dL_law_995 (by decide) ?_
  refine lv_iadd hx hb dL_law_996 ?_
  refine p_nm (tt_add (X := (i : Int)) (Y := 2) hni (by decide) (by omega) (by omega)) (fun z2 hz2 => ?_)
  refine va_sld hx hb hX hbl hbA hS (i_ix hz2 (by omega) (by omega)) dL_law_997 ?_
  refine pv_i (v := xs (i + 2)) (by rw [show Int32.toNatClampNeg z2 = i + 2 by have q9 := i_cl hz2 (by omega); omega]) ?_
  refine cvS (n := 2) (As := [.int (xs (i + 1)), .int (xs (i + 2))]) (rest := []) ⟨hx, hb, hml, hown, hts⟩ (fun _ h => uw_in h) (kX9_meet_0 l D C A u hIC (xs (i + 1)) (xs (i + 1)).toInt rfl (xs (i + 2)) (xs (i + 2)).toInt rfl) q_m769 q_n770 q_e771 q_i1 q_c772 hvX9_meet ⟨(Nat.le_of_ble_eq_true rfl), (Nat.le_of_ble_eq_true rfl)⟩ ⟨(Nat.le_of_ble_eq_true rfl), (Nat.le_of_ble_eq_true rfl)⟩ hK hP.left 9 0 rfl (cwc0 C A u) rfl hl.1 rfl (Nat.le_of_ble_eq_true rfl) dL_law_998 (fun r3 p4 => ?_)
  have hP := hP.flip
  have hD := hD.flip
  refine lv_pop hx hb dL_law_1001 rfl ?_
  refine lv_aload_n hx hb dL_law_1002 rfl (lv_at hl 1 rfl) ?_
  refine lv_aload_n hx hb dL_law_1003 rfl (lv_at hl 3 rfl) ?_
  refine lv_iload_n hx hb dL_law_1004 rfl (lv_at hl 0 rfl) ?_
  refine lv_iconst (v := 1) hx hb dL_law_1005 (by decide) ?_
  refine lv_iadd hx hb dL_law_1006 ?_
  refine p_nm (tt_add (X := (i : Int)) (Y := 1) hni (by decide) (by omega) (by omega)) (fun z5 hz5 => ?_)
  refine va_sld hx hb hX hbl hbA hS (i_ix hz5 (by omega) (by omega)) dL_law_1007 ?_
  refine pv_i (v := xs (i + 1)) (by rw [show Int32.toNatClampNeg z5 = i + 1 by have q9 := i_cl hz5 (by omega); omega]) ?_
  refine lv_aload_n hx hb dL_law_1008 rfl (lv_at hl 3 rfl) ?_
  refine lv_iload_n hx hb dL_law_1009 rfl (lv_at hl 0 rfl) ?_
  refine lv_iconst (v := 2) hx hb dL_law_1010 (by decide) ?_
  refine lv_iadd hx hb dL_law_1011 ?_
  refine p_nm (tt_add (X := (i : Int)) (Y := 2) hni (by decide) (by omega) (by omega)) (fun z6 hz6 => ?_)
  refine va_sld hx hb hX hbl hbA hS (i_ix hz6 (by omega) (by omega)) dL_law_1012 ?_
  refine pv_i (v := xs (i + 2)) (by rw [show Int32.toNatClampNeg z6 = i + 2 by have q9 := i_cl hz6 (by omega); omega]) ?_
  refine lcI (w := mw C B) (n := 2) (As := [.int (xs (i + 1)), .int (xs (i + 2))]) (rest := []) ⟨hx, hb, hml, hown, hts⟩ (fun _ h => uw_in h) (kX10_meet_0 l D C B v hIM (xs (i + 1)) (xs (i + 1)).toInt rfl (xs (i + 2)) (xs (i + 2)).toInt rfl H.size) q_m1639 q_n1640 q_e1641 q_i11 q_c1642 hvX10_meet ⟨(Nat.le_of_ble_eq_true rfl), (Nat.le_of_ble_eq_true rfl)⟩ ⟨(Nat.le_of_ble_eq_true rfl), (Nat.le_of_ble_eq_true rfl)⟩ hK hP hD hS hA Bl0 (fun _ _ _ => trivial) 10 0 rfl (mwc0 C B v) rfl hl.1 rfl (Nat.le_of_ble_eq_true rfl) dL_law_1013 (fun r7 u9 H locs p8 hP hD hS => ?_)
  obtain ⟨hu9, Uu9, p8⟩ := p8
  refine lv_pop hx hb dL_law_1016 rfl ?_
  refine lv_goto (tgt := 2362) hx hb dL_law_1017 (by decide) ?_
  exact kx u u9 H locs ls hIC hu9 (hRL.un rfl rfl rfl rfl rfl rfl rfl rfl (Uu9.2.1 1 rfl) (Uu9.2.1 2 rfl)) hP hD hS hl
set_option maxHeartbeats 4000000 in
set_option maxRecDepth 100000 in
theorem law_case_28 {p : Program} {l : Launch} {e : Env} {s : State} {m : MethodId} {below : List Frame} {meth : Method} {c : Code} {D : va_G} {C : Nat → ClassId} {b L i : Nat} {xs : Nat → Int32} {A B adK adV : Nat → Nat} {u v : St} {H : Heap} {locs : List Loc} {ls : Array Slot} (C0 : lw_At p s m meth c b L xs) (hLL : L ≤ 3072) (hiL : i + 6 ≤ L) (hK : va_K D vwCl (tyl C) s) (hXS : XS adK adV (fun q : Nat => s.heap.size ≤ q) s) (hIC : IC u) (hIM : IM v) (hRL : RLt u v) (hP : va_P D vwCl (cw C A u ++ mw C B v) H) (hD : va_D (fun q : Nat => s.heap.size ≤ q) (cw C A u ++ mw C B v)) (hS : va_S (fun q : Nat => s.heap.size ≤ q) s.heap H locs) (hl : lv_has ls 4 [(3, .int (nI i)), (2, .ref (B 0)), (1, .ref (A 0)), (0, .ref b)])
    (kx : ∀ (u v : St) (H : Heap) (locs : List Loc) (ls : Array Slot), IC u → IM v → RLt u v → va_P D vwCl (cw C A u ++ mw C B v) H → va_D (fun q : Nat => s.heap.size ≤ q) (cw C A u ++ mw C B v) → va_S (fun q : Nat => s.heap.size ≤ q) s.heap H locs → lv_has ls 4 [(3, .int (nI i)), (2, .ref (B 0)), (1, .ref (A 0)), (0, .ref b)] → W p l e room_1 s m #[Value.ref b] below meth c H locs 180 4779 (lw_Z below #[Value.ref b] s) (F0 m 2362 ls [])) : W p l e room_1 s m #[Value.ref b] below meth c H locs 180 4779 (lw_Z below #[Value.ref b] s) (F0 m 1020 ls []) := by
  obtain ⟨hx, hb, hr, hml, hown, hts, hX, hbl, hlocks, hgv⟩ := id C0
  have hown : s.vm.findClass RL = some m.cls := hown
  have hb : c.code = cL_law := hb
  have hA : ∀ q : Nat, s.heap.size ≤ q → (fun q : Nat => s.heap.size ≤ q) q := fun _ h => h
  have hbA : ¬ (fun q : Nat => s.heap.size ≤ q) b := Nat.not_le.mpr hbl
  have hni : (nI i).toInt = (i : Int) := nI_toInt (by omega)
  refine lv_aload_n hx hb dL_law_1020 rfl (lv_at hl 2 rfl) ?_
  refine lv_aload_n hx hb dL_law_1021 rfl (lv_at hl 3 rfl) ?_
  refine lv_iload_n hx hb dL_law_1022 rfl (lv_at hl 0 rfl) ?_
  refine lv_iconst (v := 1) hx hb dL_law_1023 (by decide) ?_
  refine lv_iadd hx hb dL_law_1024 ?_
  refine p_nm (tt_add (X := (i : Int)) (Y := 1) hni (by decide) (by omega) (by omega)) (fun z1 hz1 => ?_)
  refine va_sld hx hb hX hbl hbA hS (i_ix hz1 (by omega) (by omega)) dL_law_1025 ?_
  refine pv_i (v := xs (i + 1)) (by rw [show Int32.toNatClampNeg z1 = i + 1 by have q9 := i_cl hz1 (by omega); omega]) ?_
  refine lv_aload_n hx hb dL_law_1026 rfl (lv_at hl 3 rfl) ?_
  refine lv_iload_n hx hb dL_law_1027 rfl (lv_at hl 0 rfl) ?_
  refine lv_iconst (v := 2) hx hb dL_law_1028 (by decide) ?_
  refine lv_iadd hx hb dL_law_1029 ?_
  refine p_nm (tt_add (X := (i : Int)) (Y := 2) hni (by decide) (by omega) (by omega)) (fun z2 hz2 => ?_)
  refine va_sld hx hb hX hbl hbA hS (i_ix hz2 (by omega) (by omega)) dL_law_1030 ?_
  refine pv_i (v := xs (i + 2)) (by rw [show Int32.toNatClampNeg z2 = i + 2 by have q9 := i_cl hz2 (by omega); omega]) ?_
  refine cvS (n := 2) (As := [.int (xs (i + 1)), .int (xs (i + 2))]) (rest := []) ⟨hx, hb, hml, hown, hts⟩ (fun _ h => uw_in h) (kX9_passes_0 l D C A u hIC (xs (i + 1)) (xs (i + 1)).toInt rfl (xs (i + 2)) (xs (i + 2)).toInt rfl) q_m773 q_n774 q_e775 q_i1 q_c776 hvX9_passes ⟨(Nat.le_of_ble_eq_true rfl), (Nat.le_of_ble_eq_true rfl)⟩ ⟨(Nat.le_of_ble_eq_true rfl), (Nat.le_of_ble_eq_true rfl)⟩ hK hP.left 9 0 rfl (cwc0 C A u) rfl hl.1 rfl (Nat.le_of_ble_eq_true rfl) dL_law_1031 (fun r3 p4 => ?_)
  have hP := hP.flip
  have hD := hD.flip
  refine lv_pop hx hb dL_law_1034 rfl ?_
  refine lv_aload_n hx hb dL_law_1035 rfl (lv_at hl 1 rfl) ?_
  refine lv_aload_n hx hb dL_law_1036 rfl (lv_at hl 3 rfl) ?_
  refine lv_iload_n hx hb dL_law_1037 rfl (lv_at hl 0 rfl) ?_
  refine lv_iconst (v := 1) hx hb dL_law_1038 (by decide) ?_
  refine lv_iadd hx hb dL_law_1039 ?_
  refine p_nm (tt_add (X := (i : Int)) (Y := 1) hni (by decide) (by omega) (by omega)) (fun z5 hz5 => ?_)
  refine va_sld hx hb hX hbl hbA hS (i_ix hz5 (by omega) (by omega)) dL_law_1040 ?_
  refine pv_i (v := xs (i + 1)) (by rw [show Int32.toNatClampNeg z5 = i + 1 by have q9 := i_cl hz5 (by omega); omega]) ?_
  refine lv_aload_n hx hb dL_law_1041 rfl (lv_at hl 3 rfl) ?_
  refine lv_iload_n hx hb dL_law_1042 rfl (lv_at hl 0 rfl) ?_
  refine lv_iconst (v := 2) hx hb dL_law_1043 (by decide) ?_
  refine lv_iadd hx hb dL_law_1044 ?_
  refine p_nm (tt_add (X := (i : Int)) (Y := 2) hni (by decide) (by omega) (by omega)) (fun z6 hz6 => ?_)
  refine va_sld hx hb hX hbl hbA hS (i_ix hz6 (by omega) (by omega)) dL_law_1045 ?_
  refine pv_i (v := xs (i + 2)) (by rw [show Int32.toNatClampNeg z6 = i + 2 by have q9 := i_cl hz6 (by omega); omega]) ?_
  refine lcI (w := mw C B) (n := 2) (As := [.int (xs (i + 1)), .int (xs (i + 2))]) (rest := []) ⟨hx, hb, hml, hown, hts⟩ (fun _ h => uw_in h) (kX10_passes_0 l D C B v hIM (xs (i + 1)) (xs (i + 1)).toInt rfl (xs (i + 2)) (xs (i + 2)).toInt rfl H.size) q_m1643 q_n1644 q_e1645 q_i11 q_c1646 hvX10_passes ⟨(Nat.le_of_ble_eq_true rfl), (Nat.le_of_ble_eq_true rfl)⟩ ⟨(Nat.le_of_ble_eq_true rfl), (Nat.le_of_ble_eq_true rfl)⟩ hK hP hD hS hA Bl0 (fun _ _ _ => trivial) 10 0 rfl (mwc0 C B v) rfl hl.1 rfl (Nat.le_of_ble_eq_true rfl) dL_law_1046 (fun r7 u9 H locs p8 hP hD hS => ?_)
  obtain ⟨hu9, Uu9, p8⟩ := p8
  refine lv_pop hx hb dL_law_1049 rfl ?_
  refine lv_goto (tgt := 2362) hx hb dL_law_1050 (by decide) ?_
  exact kx u u9 H locs ls hIC hu9 (hRL.un rfl rfl rfl rfl rfl rfl rfl rfl (Uu9.2.1 1 rfl) (Uu9.2.1 2 rfl)) hP hD hS hl
set_option maxHeartbeats 4000000 in
set_option maxRecDepth 100000 in
theorem law_case_29 {p : Program} {l : Launch} {e : Env} {s : State} {m : MethodId} {below : List Frame} {meth : Method} {c : Code} {D : va_G} {C : Nat → ClassId} {b L i : Nat} {xs : Nat → Int32} {A B adK adV : Nat → Nat} {u v : St} {H : Heap} {locs : List Loc} {ls : Array Slot} (C0 : lw_At p s m meth c b L xs) (hLL : L ≤ 3072) (hiL : i + 6 ≤ L) (hK : va_K D vwCl (tyl C) s) (hXS : XS adK adV (fun q : Nat => s.heap.size ≤ q) s) (hIC : IC u) (hIM : IM v) (hRL : RLt u v) (hP : va_P D vwCl (cw C A u ++ mw C B v) H) (hD : va_D (fun q : Nat => s.heap.size ≤ q) (cw C A u ++ mw C B v)) (hS : va_S (fun q : Nat => s.heap.size ≤ q) s.heap H locs) (hl : lv_has ls 4 [(3, .int (nI i)), (2, .ref (B 0)), (1, .ref (A 0)), (0, .ref b)])
    (kx : ∀ (u v : St) (H : Heap) (locs : List Loc) (ls : Array Slot), IC u → IM v → RLt u v → va_P D vwCl (cw C A u ++ mw C B v) H → va_D (fun q : Nat => s.heap.size ≤ q) (cw C A u ++ mw C B v) → va_S (fun q : Nat => s.heap.size ≤ q) s.heap H locs → lv_has ls 4 [(3, .int (nI i)), (2, .ref (B 0)), (1, .ref (A 0)), (0, .ref b)] → W p l e room_1 s m #[Value.ref b] below meth c H locs 180 4779 (lw_Z below #[Value.ref b] s) (F0 m 2362 ls [])) : W p l e room_1 s m #[Value.ref b] below meth c H locs 180 4779 (lw_Z below #[Value.ref b] s) (F0 m 1053 ls []) := by
  obtain ⟨hx, hb, hr, hml, hown, hts, hX, hbl, hlocks, hgv⟩ := id C0
  have hown : s.vm.findClass RL = some m.cls := hown
  have hb : c.code = cL_law := hb
  have hA : ∀ q : Nat, s.heap.size ≤ q → (fun q : Nat => s.heap.size ≤ q) q := fun _ h => h
  have hbA : ¬ (fun q : Nat => s.heap.size ≤ q) b := Nat.not_le.mpr hbl
  have hni : (nI i).toInt = (i : Int) := nI_toInt (by omega)
  refine lv_aload_n hx hb dL_law_1053 rfl (lv_at hl 2 rfl) ?_
  refine lv_aload_n hx hb dL_law_1054 rfl (lv_at hl 3 rfl) ?_
  refine lv_iload_n hx hb dL_law_1055 rfl (lv_at hl 0 rfl) ?_
  refine lv_iconst (v := 1) hx hb dL_law_1056 (by decide) ?_
  refine lv_iadd hx hb dL_law_1057 ?_
  refine p_nm (tt_add (X := (i : Int)) (Y := 1) hni (by decide) (by omega) (by omega)) (fun z1 hz1 => ?_)
  refine va_sld hx hb hX hbl hbA hS (i_ix hz1 (by omega) (by omega)) dL_law_1058 ?_
  refine pv_i (v := xs (i + 1)) (by rw [show Int32.toNatClampNeg z1 = i + 1 by have q9 := i_cl hz1 (by omega); omega]) ?_
  refine lv_aload_n hx hb dL_law_1059 rfl (lv_at hl 3 rfl) ?_
  refine lv_iload_n hx hb dL_law_1060 rfl (lv_at hl 0 rfl) ?_
  refine lv_iconst (v := 2) hx hb dL_law_1061 (by decide) ?_
  refine lv_iadd hx hb dL_law_1062 ?_
  refine p_nm (tt_add (X := (i : Int)) (Y := 2) hni (by decide) (by omega) (by omega)) (fun z2 hz2 => ?_)
  refine va_sld hx hb hX hbl hbA hS (i_ix hz2 (by omega) (by omega)) dL_law_1063 ?_
  refine pv_i (v := xs (i + 2)) (by rw [show Int32.toNatClampNeg z2 = i + 2 by have q9 := i_cl hz2 (by omega); omega]) ?_
  refine cvS (n := 2) (As := [.int (xs (i + 1)), .int (xs (i + 2))]) (rest := []) ⟨hx, hb, hml, hown, hts⟩ (fun _ h => uw_in h) (kX9_slack_0 l D C A u hIC (xs (i + 1)) (xs (i + 1)).toInt rfl (xs (i + 2)) (xs (i + 2)).toInt rfl) q_m777 q_n778 q_e779 q_i1 q_c780 hvX9_slack ⟨(Nat.le_of_ble_eq_true rfl), (Nat.le_of_ble_eq_true rfl)⟩ ⟨(Nat.le_of_ble_eq_true rfl), (Nat.le_of_ble_eq_true rfl)⟩ hK hP.left 9 0 rfl (cwc0 C A u) rfl hl.1 rfl (Nat.le_of_ble_eq_true rfl) dL_law_1064 (fun r3 p4 => ?_)
  have hP := hP.flip
  have hD := hD.flip
  refine lv_pop hx hb dL_law_1067 rfl ?_
  refine lv_aload_n hx hb dL_law_1068 rfl (lv_at hl 1 rfl) ?_
  refine lv_aload_n hx hb dL_law_1069 rfl (lv_at hl 3 rfl) ?_
  refine lv_iload_n hx hb dL_law_1070 rfl (lv_at hl 0 rfl) ?_
  refine lv_iconst (v := 1) hx hb dL_law_1071 (by decide) ?_
  refine lv_iadd hx hb dL_law_1072 ?_
  refine p_nm (tt_add (X := (i : Int)) (Y := 1) hni (by decide) (by omega) (by omega)) (fun z5 hz5 => ?_)
  refine va_sld hx hb hX hbl hbA hS (i_ix hz5 (by omega) (by omega)) dL_law_1073 ?_
  refine pv_i (v := xs (i + 1)) (by rw [show Int32.toNatClampNeg z5 = i + 1 by have q9 := i_cl hz5 (by omega); omega]) ?_
  refine lv_aload_n hx hb dL_law_1074 rfl (lv_at hl 3 rfl) ?_
  refine lv_iload_n hx hb dL_law_1075 rfl (lv_at hl 0 rfl) ?_
  refine lv_iconst (v := 2) hx hb dL_law_1076 (by decide) ?_
  refine lv_iadd hx hb dL_law_1077 ?_
  refine p_nm (tt_add (X := (i : Int)) (Y := 2) hni (by decide) (by omega) (by omega)) (fun z6 hz6 => ?_)
  refine va_sld hx hb hX hbl hbA hS (i_ix hz6 (by omega) (by omega)) dL_law_1078 ?_
  refine pv_i (v := xs (i + 2)) (by rw [show Int32.toNatClampNeg z6 = i + 2 by have q9 := i_cl hz6 (by omega); omega]) ?_
  refine lcI (w := mw C B) (n := 2) (As := [.int (xs (i + 1)), .int (xs (i + 2))]) (rest := []) ⟨hx, hb, hml, hown, hts⟩ (fun _ h => uw_in h) (kX10_slack_0 l D C B v hIM (xs (i + 1)) (xs (i + 1)).toInt rfl (xs (i + 2)) (xs (i + 2)).toInt rfl H.size) q_m1647 q_n1648 q_e1649 q_i11 q_c1650 hvX10_slack ⟨(Nat.le_of_ble_eq_true rfl), (Nat.le_of_ble_eq_true rfl)⟩ ⟨(Nat.le_of_ble_eq_true rfl), (Nat.le_of_ble_eq_true rfl)⟩ hK hP hD hS hA Bl0 (fun _ _ _ => trivial) 10 0 rfl (mwc0 C B v) rfl hl.1 rfl (Nat.le_of_ble_eq_true rfl) dL_law_1079 (fun r7 u9 H locs p8 hP hD hS => ?_)
  obtain ⟨hu9, Uu9, p8⟩ := p8
  refine lv_pop hx hb dL_law_1082 rfl ?_
  refine lv_goto (tgt := 2362) hx hb dL_law_1083 (by decide) ?_
  exact kx u u9 H locs ls hIC hu9 (hRL.un rfl rfl rfl rfl rfl rfl rfl rfl (Uu9.2.1 1 rfl) (Uu9.2.1 2 rfl)) hP hD hS hl
set_option maxHeartbeats 4000000 in
set_option maxRecDepth 100000 in
theorem law_case_30 {p : Program} {l : Launch} {e : Env} {s : State} {m : MethodId} {below : List Frame} {meth : Method} {c : Code} {D : va_G} {C : Nat → ClassId} {b L i : Nat} {xs : Nat → Int32} {A B adK adV : Nat → Nat} {u v : St} {H : Heap} {locs : List Loc} {ls : Array Slot} (C0 : lw_At p s m meth c b L xs) (hLL : L ≤ 3072) (hiL : i + 6 ≤ L) (hK : va_K D vwCl (tyl C) s) (hXS : XS adK adV (fun q : Nat => s.heap.size ≤ q) s) (hIC : IC u) (hIM : IM v) (hRL : RLt u v) (hP : va_P D vwCl (cw C A u ++ mw C B v) H) (hD : va_D (fun q : Nat => s.heap.size ≤ q) (cw C A u ++ mw C B v)) (hS : va_S (fun q : Nat => s.heap.size ≤ q) s.heap H locs) (hl : lv_has ls 4 [(3, .int (nI i)), (2, .ref (B 0)), (1, .ref (A 0)), (0, .ref b)])
    (kx : ∀ (u v : St) (H : Heap) (locs : List Loc) (ls : Array Slot), IC u → IM v → RLt u v → va_P D vwCl (cw C A u ++ mw C B v) H → va_D (fun q : Nat => s.heap.size ≤ q) (cw C A u ++ mw C B v) → va_S (fun q : Nat => s.heap.size ≤ q) s.heap H locs → lv_has ls 4 [(3, .int (nI i)), (2, .ref (B 0)), (1, .ref (A 0)), (0, .ref b)] → W p l e room_1 s m #[Value.ref b] below meth c H locs 180 4779 (lw_Z below #[Value.ref b] s) (F0 m 2362 ls [])) : W p l e room_1 s m #[Value.ref b] below meth c H locs 180 4779 (lw_Z below #[Value.ref b] s) (F0 m 1086 ls []) := by
  obtain ⟨hx, hb, hr, hml, hown, hts, hX, hbl, hlocks, hgv⟩ := id C0
  have hown : s.vm.findClass RL = some m.cls := hown
  have hb : c.code = cL_law := hb
  have hA : ∀ q : Nat, s.heap.size ≤ q → (fun q : Nat => s.heap.size ≤ q) q := fun _ h => h
  have hbA : ¬ (fun q : Nat => s.heap.size ≤ q) b := Nat.not_le.mpr hbl
  have hni : (nI i).toInt = (i : Int) := nI_toInt (by omega)
  refine lv_aload_n hx hb dL_law_1086 rfl (lv_at hl 2 rfl) ?_
  refine lv_aload_n hx hb dL_law_1087 rfl (lv_at hl 3 rfl) ?_
  refine lv_iload_n hx hb dL_law_1088 rfl (lv_at hl 0 rfl) ?_
  refine lv_iconst (v := 1) hx hb dL_law_1089 (by decide) ?_
  refine lv_iadd hx hb dL_law_1090 ?_
  refine p_nm (tt_add (X := (i : Int)) (Y := 1) hni (by decide) (by omega) (by omega)) (fun z1 hz1 => ?_)
  refine va_sld hx hb hX hbl hbA hS (i_ix hz1 (by omega) (by omega)) dL_law_1091 ?_
  refine pv_i (v := xs (i + 1)) (by rw [show Int32.toNatClampNeg z1 = i + 1 by have q9 := i_cl hz1 (by omega); omega]) ?_
  refine cvS (n := 1) (As := [.int (xs (i + 1))]) (rest := []) ⟨hx, hb, hml, hown, hts⟩ (fun _ h => uw_in h) (kX9_spread_0 l D C A u hIC (xs (i + 1)) (xs (i + 1)).toInt rfl) q_m781 q_n782 q_e783 q_i1 q_c784 hvX9_spread ⟨(Nat.le_of_ble_eq_true rfl), (Nat.le_of_ble_eq_true rfl)⟩ ⟨(Nat.le_of_ble_eq_true rfl), (Nat.le_of_ble_eq_true rfl)⟩ hK hP.left 9 0 rfl (cwc0 C A u) rfl hl.1 rfl (Nat.le_of_ble_eq_true rfl) dL_law_1092 (fun r2 p3 => ?_)
  have hP := hP.flip
  have hD := hD.flip
  refine lv_pop hx hb dL_law_1095 rfl ?_
  refine lv_aload_n hx hb dL_law_1096 rfl (lv_at hl 1 rfl) ?_
  refine lv_aload_n hx hb dL_law_1097 rfl (lv_at hl 3 rfl) ?_
  refine lv_iload_n hx hb dL_law_1098 rfl (lv_at hl 0 rfl) ?_
  refine lv_iconst (v := 1) hx hb dL_law_1099 (by decide) ?_
  refine lv_iadd hx hb dL_law_1100 ?_
  refine p_nm (tt_add (X := (i : Int)) (Y := 1) hni (by decide) (by omega) (by omega)) (fun z4 hz4 => ?_)
  refine va_sld hx hb hX hbl hbA hS (i_ix hz4 (by omega) (by omega)) dL_law_1101 ?_
  refine pv_i (v := xs (i + 1)) (by rw [show Int32.toNatClampNeg z4 = i + 1 by have q9 := i_cl hz4 (by omega); omega]) ?_
  refine lcI (w := mw C B) (n := 1) (As := [.int (xs (i + 1))]) (rest := []) ⟨hx, hb, hml, hown, hts⟩ (fun _ h => uw_in h) (kX10_spread_0 l D C B v hIM (xs (i + 1)) (xs (i + 1)).toInt rfl H.size) q_m1651 q_n1652 q_e1653 q_i11 q_c1654 hvX10_spread ⟨(Nat.le_of_ble_eq_true rfl), (Nat.le_of_ble_eq_true rfl)⟩ ⟨(Nat.le_of_ble_eq_true rfl), (Nat.le_of_ble_eq_true rfl)⟩ hK hP hD hS hA Bl0 (fun _ _ _ => trivial) 10 0 rfl (mwc0 C B v) rfl hl.1 rfl (Nat.le_of_ble_eq_true rfl) dL_law_1102 (fun r5 u7 H locs p6 hP hD hS => ?_)
  obtain ⟨hu7, Uu7, p6⟩ := p6
  refine lv_pop hx hb dL_law_1105 rfl ?_
  refine lv_goto (tgt := 2362) hx hb dL_law_1106 (by decide) ?_
  exact kx u u7 H locs ls hIC hu7 (hRL.un rfl rfl rfl rfl rfl rfl rfl rfl (Uu7.2.1 1 rfl) (Uu7.2.1 2 rfl)) hP hD hS hl
set_option maxHeartbeats 4000000 in
set_option maxRecDepth 100000 in
theorem law_case_31 {p : Program} {l : Launch} {e : Env} {s : State} {m : MethodId} {below : List Frame} {meth : Method} {c : Code} {D : va_G} {C : Nat → ClassId} {b L i : Nat} {xs : Nat → Int32} {A B adK adV : Nat → Nat} {u v : St} {H : Heap} {locs : List Loc} {ls : Array Slot} (C0 : lw_At p s m meth c b L xs) (hLL : L ≤ 3072) (hiL : i + 6 ≤ L) (hK : va_K D vwCl (tyl C) s) (hXS : XS adK adV (fun q : Nat => s.heap.size ≤ q) s) (hIC : IC u) (hIM : IM v) (hRL : RLt u v) (hP : va_P D vwCl (cw C A u ++ mw C B v) H) (hD : va_D (fun q : Nat => s.heap.size ≤ q) (cw C A u ++ mw C B v)) (hS : va_S (fun q : Nat => s.heap.size ≤ q) s.heap H locs) (hl : lv_has ls 4 [(3, .int (nI i)), (2, .ref (B 0)), (1, .ref (A 0)), (0, .ref b)])
    (kx : ∀ (u v : St) (H : Heap) (locs : List Loc) (ls : Array Slot), IC u → IM v → RLt u v → va_P D vwCl (cw C A u ++ mw C B v) H → va_D (fun q : Nat => s.heap.size ≤ q) (cw C A u ++ mw C B v) → va_S (fun q : Nat => s.heap.size ≤ q) s.heap H locs → lv_has ls 4 [(3, .int (nI i)), (2, .ref (B 0)), (1, .ref (A 0)), (0, .ref b)] → W p l e room_1 s m #[Value.ref b] below meth c H locs 180 4779 (lw_Z below #[Value.ref b] s) (F0 m 2362 ls [])) : W p l e room_1 s m #[Value.ref b] below meth c H locs 180 4779 (lw_Z below #[Value.ref b] s) (F0 m 1109 ls []) := by
  obtain ⟨hx, hb, hr, hml, hown, hts, hX, hbl, hlocks, hgv⟩ := id C0
  have hown : s.vm.findClass RL = some m.cls := hown
  have hb : c.code = cL_law := hb
  have hA : ∀ q : Nat, s.heap.size ≤ q → (fun q : Nat => s.heap.size ≤ q) q := fun _ h => h
  have hbA : ¬ (fun q : Nat => s.heap.size ≤ q) b := Nat.not_le.mpr hbl
  have hni : (nI i).toInt = (i : Int) := nI_toInt (by omega)
  refine lv_aload_n hx hb dL_law_1109 rfl (lv_at hl 2 rfl) ?_
  refine cvS (n := 0) (As := []) (rest := []) ⟨hx, hb, hml, hown, hts⟩ (fun _ h => uw_in h) (kX9_steady_0 l D C A u hIC ) q_m785 q_n786 q_e787 q_i1 q_c788 hvX9_steady ⟨(Nat.le_of_ble_eq_true rfl), (Nat.le_of_ble_eq_true rfl)⟩ ⟨(Nat.le_of_ble_eq_true rfl), (Nat.le_of_ble_eq_true rfl)⟩ hK hP.left 9 0 rfl (cwc0 C A u) rfl hl.1 rfl (Nat.le_of_ble_eq_true rfl) dL_law_1110 (fun r1 p2 => ?_)
  have hP := hP.flip
  have hD := hD.flip
  refine lv_pop hx hb dL_law_1113 rfl ?_
  refine lv_aload_n hx hb dL_law_1114 rfl (lv_at hl 1 rfl) ?_
  refine lcI (w := mw C B) (n := 0) (As := []) (rest := []) ⟨hx, hb, hml, hown, hts⟩ (fun _ h => uw_in h) (kX10_steady_0 l D C B v hIM  H.size) q_m1655 q_n1656 q_e1657 q_i11 q_c1658 hvX10_steady ⟨(Nat.le_of_ble_eq_true rfl), (Nat.le_of_ble_eq_true rfl)⟩ ⟨(Nat.le_of_ble_eq_true rfl), (Nat.le_of_ble_eq_true rfl)⟩ hK hP hD hS hA Bl0 (fun _ _ _ => trivial) 10 0 rfl (mwc0 C B v) rfl hl.1 rfl (Nat.le_of_ble_eq_true rfl) dL_law_1115 (fun r3 u5 H locs p4 hP hD hS => ?_)
  obtain ⟨hu5, Uu5, p4⟩ := p4
  refine lv_pop hx hb dL_law_1118 rfl ?_
  refine lv_goto (tgt := 2362) hx hb dL_law_1119 (by decide) ?_
  exact kx u u5 H locs ls hIC hu5 (hRL.un rfl rfl rfl rfl rfl rfl rfl rfl (Uu5.2.1 1 rfl) (Uu5.2.1 2 rfl)) hP hD hS hl
set_option maxHeartbeats 4000000 in
set_option maxRecDepth 100000 in
theorem law_case_32 {p : Program} {l : Launch} {e : Env} {s : State} {m : MethodId} {below : List Frame} {meth : Method} {c : Code} {D : va_G} {C : Nat → ClassId} {b L i : Nat} {xs : Nat → Int32} {A B adK adV : Nat → Nat} {u v : St} {H : Heap} {locs : List Loc} {ls : Array Slot} (C0 : lw_At p s m meth c b L xs) (hLL : L ≤ 3072) (hiL : i + 6 ≤ L) (hK : va_K D vwCl (tyl C) s) (hXS : XS adK adV (fun q : Nat => s.heap.size ≤ q) s) (hIC : IC u) (hIM : IM v) (hRL : RLt u v) (hP : va_P D vwCl (cw C A u ++ mw C B v) H) (hD : va_D (fun q : Nat => s.heap.size ≤ q) (cw C A u ++ mw C B v)) (hS : va_S (fun q : Nat => s.heap.size ≤ q) s.heap H locs) (hl : lv_has ls 4 [(3, .int (nI i)), (2, .ref (B 0)), (1, .ref (A 0)), (0, .ref b)])
    (kx : ∀ (u v : St) (H : Heap) (locs : List Loc) (ls : Array Slot), IC u → IM v → RLt u v → va_P D vwCl (cw C A u ++ mw C B v) H → va_D (fun q : Nat => s.heap.size ≤ q) (cw C A u ++ mw C B v) → va_S (fun q : Nat => s.heap.size ≤ q) s.heap H locs → lv_has ls 4 [(3, .int (nI i)), (2, .ref (B 0)), (1, .ref (A 0)), (0, .ref b)] → W p l e room_1 s m #[Value.ref b] below meth c H locs 180 4779 (lw_Z below #[Value.ref b] s) (F0 m 2362 ls [])) : W p l e room_1 s m #[Value.ref b] below meth c H locs 180 4779 (lw_Z below #[Value.ref b] s) (F0 m 1122 ls []) := by
  obtain ⟨hx, hb, hr, hml, hown, hts, hX, hbl, hlocks, hgv⟩ := id C0
  have hown : s.vm.findClass RL = some m.cls := hown
  have hb : c.code = cL_law := hb
  have hA : ∀ q : Nat, s.heap.size ≤ q → (fun q : Nat => s.heap.size ≤ q) q := fun _ h => h
  have hbA : ¬ (fun q : Nat => s.heap.size ≤ q) b := Nat.not_le.mpr hbl
  have hni : (nI i).toInt = (i : Int) := nI_toInt (by omega)
  refine lv_aload_n hx hb dL_law_1122 rfl (lv_at hl 2 rfl) ?_
  refine lv_aload_n hx hb dL_law_1123 rfl (lv_at hl 3 rfl) ?_
  refine lv_iload_n hx hb dL_law_1124 rfl (lv_at hl 0 rfl) ?_
  refine lv_iconst (v := 1) hx hb dL_law_1125 (by decide) ?_
  refine lv_iadd hx hb dL_law_1126 ?_
  refine p_nm (tt_add (X := (i : Int)) (Y := 1) hni (by decide) (by omega) (by omega)) (fun z1 hz1 => ?_)
  refine va_sld hx hb hX hbl hbA hS (i_ix hz1 (by omega) (by omega)) dL_law_1127 ?_
  refine pv_i (v := xs (i + 1)) (by rw [show Int32.toNatClampNeg z1 = i + 1 by have q9 := i_cl hz1 (by omega); omega]) ?_
  refine lv_aload_n hx hb dL_law_1128 rfl (lv_at hl 3 rfl) ?_
  refine lv_iload_n hx hb dL_law_1129 rfl (lv_at hl 0 rfl) ?_
  refine lv_iconst (v := 2) hx hb dL_law_1130 (by decide) ?_
  refine lv_iadd hx hb dL_law_1131 ?_
  refine p_nm (tt_add (X := (i : Int)) (Y := 2) hni (by decide) (by omega) (by omega)) (fun z2 hz2 => ?_)
  refine va_sld hx hb hX hbl hbA hS (i_ix hz2 (by omega) (by omega)) dL_law_1132 ?_
  refine pv_i (v := xs (i + 2)) (by rw [show Int32.toNatClampNeg z2 = i + 2 by have q9 := i_cl hz2 (by omega); omega]) ?_
  refine cvS (n := 2) (As := [.int (xs (i + 1)), .int (xs (i + 2))]) (rest := []) ⟨hx, hb, hml, hown, hts⟩ (fun _ h => uw_in h) (kX9_mean_0 l D C A u hIC (xs (i + 1)) (xs (i + 1)).toInt rfl (xs (i + 2)) (xs (i + 2)).toInt rfl) q_m794 q_n795 q_e796 q_i1 q_c797 hvX9_mean ⟨(Nat.le_of_ble_eq_true rfl), (Nat.le_of_ble_eq_true rfl)⟩ ⟨(Nat.le_of_ble_eq_true rfl), (Nat.le_of_ble_eq_true rfl)⟩ hK hP.left 9 0 rfl (cwc0 C A u) rfl hl.1 rfl (Nat.le_of_ble_eq_true rfl) dL_law_1133 (fun r3 p4 => ?_)
  have hP := hP.flip
  have hD := hD.flip
  refine lv_pop hx hb dL_law_1136 rfl ?_
  refine lv_aload_n hx hb dL_law_1137 rfl (lv_at hl 1 rfl) ?_
  refine lv_aload_n hx hb dL_law_1138 rfl (lv_at hl 3 rfl) ?_
  refine lv_iload_n hx hb dL_law_1139 rfl (lv_at hl 0 rfl) ?_
  refine lv_iconst (v := 1) hx hb dL_law_1140 (by decide) ?_
  refine lv_iadd hx hb dL_law_1141 ?_
  refine p_nm (tt_add (X := (i : Int)) (Y := 1) hni (by decide) (by omega) (by omega)) (fun z5 hz5 => ?_)
  refine va_sld hx hb hX hbl hbA hS (i_ix hz5 (by omega) (by omega)) dL_law_1142 ?_
  refine pv_i (v := xs (i + 1)) (by rw [show Int32.toNatClampNeg z5 = i + 1 by have q9 := i_cl hz5 (by omega); omega]) ?_
  refine lv_aload_n hx hb dL_law_1143 rfl (lv_at hl 3 rfl) ?_
  refine lv_iload_n hx hb dL_law_1144 rfl (lv_at hl 0 rfl) ?_
  refine lv_iconst (v := 2) hx hb dL_law_1145 (by decide) ?_
  refine lv_iadd hx hb dL_law_1146 ?_
  refine p_nm (tt_add (X := (i : Int)) (Y := 2) hni (by decide) (by omega) (by omega)) (fun z6 hz6 => ?_)
  refine va_sld hx hb hX hbl hbA hS (i_ix hz6 (by omega) (by omega)) dL_law_1147 ?_
  refine pv_i (v := xs (i + 2)) (by rw [show Int32.toNatClampNeg z6 = i + 2 by have q9 := i_cl hz6 (by omega); omega]) ?_
  refine lcI (w := mw C B) (n := 2) (As := [.int (xs (i + 1)), .int (xs (i + 2))]) (rest := []) ⟨hx, hb, hml, hown, hts⟩ (fun _ h => uw_in h) (kX10_mean_0 l D C B v hIM (xs (i + 1)) (xs (i + 1)).toInt rfl (xs (i + 2)) (xs (i + 2)).toInt rfl H.size) q_m1660 q_n1661 q_e1662 q_i11 q_c1663 hvX10_mean ⟨(Nat.le_of_ble_eq_true rfl), (Nat.le_of_ble_eq_true rfl)⟩ ⟨(Nat.le_of_ble_eq_true rfl), (Nat.le_of_ble_eq_true rfl)⟩ hK hP hD hS hA Bl0 (fun _ _ _ => trivial) 10 0 rfl (mwc0 C B v) rfl hl.1 rfl (Nat.le_of_ble_eq_true rfl) dL_law_1148 (fun r7 u9 H locs p8 hP hD hS => ?_)
  obtain ⟨hu9, Uu9, p8⟩ := p8
  refine lv_pop hx hb dL_law_1151 rfl ?_
  refine lv_goto (tgt := 2362) hx hb dL_law_1152 (by decide) ?_
  exact kx u u9 H locs ls hIC hu9 (hRL.un rfl rfl rfl rfl rfl rfl rfl rfl (Uu9.2.1 1 rfl) (Uu9.2.1 2 rfl)) hP hD hS hl
set_option maxHeartbeats 4000000 in
set_option maxRecDepth 100000 in
theorem law_case_33 {p : Program} {l : Launch} {e : Env} {s : State} {m : MethodId} {below : List Frame} {meth : Method} {c : Code} {D : va_G} {C : Nat → ClassId} {b L i : Nat} {xs : Nat → Int32} {A B adK adV : Nat → Nat} {u v : St} {H : Heap} {locs : List Loc} {ls : Array Slot} (C0 : lw_At p s m meth c b L xs) (hLL : L ≤ 3072) (hiL : i + 6 ≤ L) (hK : va_K D vwCl (tyl C) s) (hXS : XS adK adV (fun q : Nat => s.heap.size ≤ q) s) (hIC : IC u) (hIM : IM v) (hRL : RLt u v) (hP : va_P D vwCl (cw C A u ++ mw C B v) H) (hD : va_D (fun q : Nat => s.heap.size ≤ q) (cw C A u ++ mw C B v)) (hS : va_S (fun q : Nat => s.heap.size ≤ q) s.heap H locs) (hl : lv_has ls 4 [(3, .int (nI i)), (2, .ref (B 0)), (1, .ref (A 0)), (0, .ref b)])
    (kx : ∀ (u v : St) (H : Heap) (locs : List Loc) (ls : Array Slot), IC u → IM v → RLt u v → va_P D vwCl (cw C A u ++ mw C B v) H → va_D (fun q : Nat => s.heap.size ≤ q) (cw C A u ++ mw C B v) → va_S (fun q : Nat => s.heap.size ≤ q) s.heap H locs → lv_has ls 4 [(3, .int (nI i)), (2, .ref (B 0)), (1, .ref (A 0)), (0, .ref b)] → W p l e room_1 s m #[Value.ref b] below meth c H locs 180 4779 (lw_Z below #[Value.ref b] s) (F0 m 2362 ls [])) : W p l e room_1 s m #[Value.ref b] below meth c H locs 180 4779 (lw_Z below #[Value.ref b] s) (F0 m 1155 ls []) := by
  obtain ⟨hx, hb, hr, hml, hown, hts, hX, hbl, hlocks, hgv⟩ := id C0
  have hown : s.vm.findClass RL = some m.cls := hown
  have hb : c.code = cL_law := hb
  have hA : ∀ q : Nat, s.heap.size ≤ q → (fun q : Nat => s.heap.size ≤ q) q := fun _ h => h
  have hbA : ¬ (fun q : Nat => s.heap.size ≤ q) b := Nat.not_le.mpr hbl
  have hni : (nI i).toInt = (i : Int) := nI_toInt (by omega)
  refine lv_aload_n hx hb dL_law_1155 rfl (lv_at hl 2 rfl) ?_
  refine lv_aload_n hx hb dL_law_1156 rfl (lv_at hl 3 rfl) ?_
  refine lv_iload_n hx hb dL_law_1157 rfl (lv_at hl 0 rfl) ?_
  refine lv_iconst (v := 1) hx hb dL_law_1158 (by decide) ?_
  refine lv_iadd hx hb dL_law_1159 ?_
  refine p_nm (tt_add (X := (i : Int)) (Y := 1) hni (by decide) (by omega) (by omega)) (fun z1 hz1 => ?_)
  refine va_sld hx hb hX hbl hbA hS (i_ix hz1 (by omega) (by omega)) dL_law_1160 ?_
  refine pv_i (v := xs (i + 1)) (by rw [show Int32.toNatClampNeg z1 = i + 1 by have q9 := i_cl hz1 (by omega); omega]) ?_
  refine cvS (n := 1) (As := [.int (xs (i + 1))]) (rest := []) ⟨hx, hb, hml, hown, hts⟩ (fun _ h => uw_in h) (kX9_bury_0 l D C A u hIC (xs (i + 1)) (xs (i + 1)).toInt rfl) q_m804 q_n805 q_e806 q_i1 q_c807 hvX9_bury ⟨(Nat.le_of_ble_eq_true rfl), (Nat.le_of_ble_eq_true rfl)⟩ ⟨(Nat.le_of_ble_eq_true rfl), (Nat.le_of_ble_eq_true rfl)⟩ hK hP.left 9 0 rfl (cwc0 C A u) rfl hl.1 rfl (Nat.le_of_ble_eq_true rfl) dL_law_1161 (fun r2 p3 => ?_)
  have hP := hP.flip
  have hD := hD.flip
  refine lv_pop hx hb dL_law_1164 rfl ?_
  refine lv_aload_n hx hb dL_law_1165 rfl (lv_at hl 1 rfl) ?_
  refine lv_aload_n hx hb dL_law_1166 rfl (lv_at hl 3 rfl) ?_
  refine lv_iload_n hx hb dL_law_1167 rfl (lv_at hl 0 rfl) ?_
  refine lv_iconst (v := 1) hx hb dL_law_1168 (by decide) ?_
  refine lv_iadd hx hb dL_law_1169 ?_
  refine p_nm (tt_add (X := (i : Int)) (Y := 1) hni (by decide) (by omega) (by omega)) (fun z4 hz4 => ?_)
  refine va_sld hx hb hX hbl hbA hS (i_ix hz4 (by omega) (by omega)) dL_law_1170 ?_
  refine pv_i (v := xs (i + 1)) (by rw [show Int32.toNatClampNeg z4 = i + 1 by have q9 := i_cl hz4 (by omega); omega]) ?_
  refine lcI (w := mw C B) (n := 1) (As := [.int (xs (i + 1))]) (rest := []) ⟨hx, hb, hml, hown, hts⟩ (fun _ h => uw_in h) (kX10_bury_0 l D C B v hIM (xs (i + 1)) (xs (i + 1)).toInt rfl H.size) q_m1670 q_n1671 q_e1672 q_i11 q_c1673 hvX10_bury ⟨(Nat.le_of_ble_eq_true rfl), (Nat.le_of_ble_eq_true rfl)⟩ ⟨(Nat.le_of_ble_eq_true rfl), (Nat.le_of_ble_eq_true rfl)⟩ hK hP hD hS hA Bl0 (fun _ _ _ => trivial) 10 0 rfl (mwc0 C B v) rfl hl.1 rfl (Nat.le_of_ble_eq_true rfl) dL_law_1171 (fun r5 u7 H locs p6 hP hD hS => ?_)
  obtain ⟨hu7, Uu7, p6⟩ := p6
  refine lv_pop hx hb dL_law_1174 rfl ?_
  refine lv_goto (tgt := 2362) hx hb dL_law_1175 (by decide) ?_
  exact kx u u7 H locs ls hIC hu7 (hRL.un rfl rfl rfl rfl rfl rfl rfl rfl (Uu7.2.1 1 rfl) (Uu7.2.1 2 rfl)) hP hD hS hl
set_option maxHeartbeats 4000000 in
set_option maxRecDepth 100000 in
theorem law_case_34 {p : Program} {l : Launch} {e : Env} {s : State} {m : MethodId} {below : List Frame} {meth : Method} {c : Code} {D : va_G} {C : Nat → ClassId} {b L i : Nat} {xs : Nat → Int32} {A B adK adV : Nat → Nat} {u v : St} {H : Heap} {locs : List Loc} {ls : Array Slot} (C0 : lw_At p s m meth c b L xs) (hLL : L ≤ 3072) (hiL : i + 6 ≤ L) (hK : va_K D vwCl (tyl C) s) (hXS : XS adK adV (fun q : Nat => s.heap.size ≤ q) s) (hIC : IC u) (hIM : IM v) (hRL : RLt u v) (hP : va_P D vwCl (cw C A u ++ mw C B v) H) (hD : va_D (fun q : Nat => s.heap.size ≤ q) (cw C A u ++ mw C B v)) (hS : va_S (fun q : Nat => s.heap.size ≤ q) s.heap H locs) (hl : lv_has ls 4 [(3, .int (nI i)), (2, .ref (B 0)), (1, .ref (A 0)), (0, .ref b)])
    (kx : ∀ (u v : St) (H : Heap) (locs : List Loc) (ls : Array Slot), IC u → IM v → RLt u v → va_P D vwCl (cw C A u ++ mw C B v) H → va_D (fun q : Nat => s.heap.size ≤ q) (cw C A u ++ mw C B v) → va_S (fun q : Nat => s.heap.size ≤ q) s.heap H locs → lv_has ls 4 [(3, .int (nI i)), (2, .ref (B 0)), (1, .ref (A 0)), (0, .ref b)] → W p l e room_1 s m #[Value.ref b] below meth c H locs 180 4779 (lw_Z below #[Value.ref b] s) (F0 m 2362 ls [])) : W p l e room_1 s m #[Value.ref b] below meth c H locs 180 4779 (lw_Z below #[Value.ref b] s) (F0 m 1178 ls []) := by
  obtain ⟨hx, hb, hr, hml, hown, hts, hX, hbl, hlocks, hgv⟩ := id C0
  have hown : s.vm.findClass RL = some m.cls := hown
  have hb : c.code = cL_law := hb
  have hA : ∀ q : Nat, s.heap.size ≤ q → (fun q : Nat => s.heap.size ≤ q) q := fun _ h => h
  have hbA : ¬ (fun q : Nat => s.heap.size ≤ q) b := Nat.not_le.mpr hbl
  have hni : (nI i).toInt = (i : Int) := nI_toInt (by omega)
  refine lv_aload_n hx hb dL_law_1178 rfl (lv_at hl 2 rfl) ?_
  refine lv_aload_n hx hb dL_law_1179 rfl (lv_at hl 3 rfl) ?_
  refine lv_iload_n hx hb dL_law_1180 rfl (lv_at hl 0 rfl) ?_
  refine lv_iconst (v := 1) hx hb dL_law_1181 (by decide) ?_
  refine lv_iadd hx hb dL_law_1182 ?_
  refine p_nm (tt_add (X := (i : Int)) (Y := 1) hni (by decide) (by omega) (by omega)) (fun z1 hz1 => ?_)
  refine va_sld hx hb hX hbl hbA hS (i_ix hz1 (by omega) (by omega)) dL_law_1183 ?_
  refine pv_i (v := xs (i + 1)) (by rw [show Int32.toNatClampNeg z1 = i + 1 by have q9 := i_cl hz1 (by omega); omega]) ?_
  refine cvS (n := 1) (As := [.int (xs (i + 1))]) (rest := []) ⟨hx, hb, hml, hown, hts⟩ (fun _ h => uw_in h) (kX9_buries_0 l D C A u hIC (xs (i + 1)) (xs (i + 1)).toInt rfl) q_m812 q_n813 q_e814 q_i1 q_c815 hvX9_buries ⟨(Nat.le_of_ble_eq_true rfl), (Nat.le_of_ble_eq_true rfl)⟩ ⟨(Nat.le_of_ble_eq_true rfl), (Nat.le_of_ble_eq_true rfl)⟩ hK hP.left 9 0 rfl (cwc0 C A u) rfl hl.1 rfl (Nat.le_of_ble_eq_true rfl) dL_law_1184 (fun r2 p3 => ?_)
  have hP := hP.flip
  have hD := hD.flip
  refine lv_pop hx hb dL_law_1187 rfl ?_
  refine lv_aload_n hx hb dL_law_1188 rfl (lv_at hl 1 rfl) ?_
  refine lv_aload_n hx hb dL_law_1189 rfl (lv_at hl 3 rfl) ?_
  refine lv_iload_n hx hb dL_law_1190 rfl (lv_at hl 0 rfl) ?_
  refine lv_iconst (v := 1) hx hb dL_law_1191 (by decide) ?_
  refine lv_iadd hx hb dL_law_1192 ?_
  refine p_nm (tt_add (X := (i : Int)) (Y := 1) hni (by decide) (by omega) (by omega)) (fun z4 hz4 => ?_)
  refine va_sld hx hb hX hbl hbA hS (i_ix hz4 (by omega) (by omega)) dL_law_1193 ?_
  refine pv_i (v := xs (i + 1)) (by rw [show Int32.toNatClampNeg z4 = i + 1 by have q9 := i_cl hz4 (by omega); omega]) ?_
  refine lcI (w := mw C B) (n := 1) (As := [.int (xs (i + 1))]) (rest := []) ⟨hx, hb, hml, hown, hts⟩ (fun _ h => uw_in h) (kX10_buries_0 l D C B v hIM (xs (i + 1)) (xs (i + 1)).toInt rfl H.size) q_m1682 q_n1683 q_e1684 q_i11 q_c1685 hvX10_buries ⟨(Nat.le_of_ble_eq_true rfl), (Nat.le_of_ble_eq_true rfl)⟩ ⟨(Nat.le_of_ble_eq_true rfl), (Nat.le_of_ble_eq_true rfl)⟩ hK hP hD hS hA Bl0 (fun _ _ _ => trivial) 10 0 rfl (mwc0 C B v) rfl hl.1 rfl (Nat.le_of_ble_eq_true rfl) dL_law_1194 (fun r5 u7 H locs p6 hP hD hS => ?_)
  obtain ⟨hu7, Uu7, p6⟩ := p6
  refine lv_pop hx hb dL_law_1197 rfl ?_
  refine lv_goto (tgt := 2362) hx hb dL_law_1198 (by decide) ?_
  exact kx u u7 H locs ls hIC hu7 (hRL.un rfl rfl rfl rfl rfl rfl rfl rfl (Uu7.2.1 1 rfl) (Uu7.2.1 2 rfl)) hP hD hS hl
set_option maxHeartbeats 4000000 in
set_option maxRecDepth 100000 in
theorem law_case_35 {p : Program} {l : Launch} {e : Env} {s : State} {m : MethodId} {below : List Frame} {meth : Method} {c : Code} {D : va_G} {C : Nat → ClassId} {b L i : Nat} {xs : Nat → Int32} {A B adK adV : Nat → Nat} {u v : St} {H : Heap} {locs : List Loc} {ls : Array Slot} (C0 : lw_At p s m meth c b L xs) (hLL : L ≤ 3072) (hiL : i + 6 ≤ L) (hK : va_K D vwCl (tyl C) s) (hXS : XS adK adV (fun q : Nat => s.heap.size ≤ q) s) (hIC : IC u) (hIM : IM v) (hRL : RLt u v) (hP : va_P D vwCl (cw C A u ++ mw C B v) H) (hD : va_D (fun q : Nat => s.heap.size ≤ q) (cw C A u ++ mw C B v)) (hS : va_S (fun q : Nat => s.heap.size ≤ q) s.heap H locs) (hl : lv_has ls 4 [(3, .int (nI i)), (2, .ref (B 0)), (1, .ref (A 0)), (0, .ref b)])
    (kx : ∀ (u v : St) (H : Heap) (locs : List Loc) (ls : Array Slot), IC u → IM v → RLt u v → va_P D vwCl (cw C A u ++ mw C B v) H → va_D (fun q : Nat => s.heap.size ≤ q) (cw C A u ++ mw C B v) → va_S (fun q : Nat => s.heap.size ≤ q) s.heap H locs → lv_has ls 4 [(3, .int (nI i)), (2, .ref (B 0)), (1, .ref (A 0)), (0, .ref b)] → W p l e room_1 s m #[Value.ref b] below meth c H locs 180 4779 (lw_Z below #[Value.ref b] s) (F0 m 2362 ls [])) : W p l e room_1 s m #[Value.ref b] below meth c H locs 180 4779 (lw_Z below #[Value.ref b] s) (F0 m 1201 ls []) := by
  obtain ⟨hx, hb, hr, hml, hown, hts, hX, hbl, hlocks, hgv⟩ := id C0
  have hown : s.vm.findClass RL = some m.cls := hown
  have hb : c.code = cL_law := hb
  have hA : ∀ q : Nat, s.heap.size ≤ q → (fun q : Nat => s.heap.size ≤ q) q := fun _ h => h
  have hbA : ¬ (fun q : Nat => s.heap.size ≤ q) b := Nat.not_le.mpr hbl
  have hni : (nI i).toInt = (i : Int) := nI_toInt (by omega)
  refine lv_aload_n hx hb dL_law_1201 rfl (lv_at hl 2 rfl) ?_
  refine lv_aload_n hx hb dL_law_1202 rfl (lv_at hl 3 rfl) ?_
  refine lv_iload_n hx hb dL_law_1203 rfl (lv_at hl 0 rfl) ?_
  refine lv_iconst (v := 1) hx hb dL_law_1204 (by decide) ?_
  refine lv_iadd hx hb dL_law_1205 ?_
  refine p_nm (tt_add (X := (i : Int)) (Y := 1) hni (by decide) (by omega) (by omega)) (fun z1 hz1 => ?_)
  refine va_sld hx hb hX hbl hbA hS (i_ix hz1 (by omega) (by omega)) dL_law_1206 ?_
  refine pv_i (v := xs (i + 1)) (by rw [show Int32.toNatClampNeg z1 = i + 1 by have q9 := i_cl hz1 (by omega); omega]) ?_
  refine lcI (w := cw C A) (n := 1) (As := [.int (xs (i + 1))]) (rest := []) ⟨hx, hb, hml, hown, hts⟩ (fun _ h => uw_in h) (kX9_mends_0 l D C A u hIC (xs (i + 1)) (xs (i + 1)).toInt rfl H.size) q_m816 q_n817 q_e818 q_i1 q_c819 hvX9_mends ⟨(Nat.le_of_ble_eq_true rfl), (Nat.le_of_ble_eq_true rfl)⟩ ⟨(Nat.le_of_ble_eq_true rfl), (Nat.le_of_ble_eq_true rfl)⟩ hK hP hD hS hA Bl0 (fun _ _ _ => trivial) 9 0 rfl (cwc0 C A u) rfl hl.1 rfl (Nat.le_of_ble_eq_true rfl) dL_law_1207 (fun r2 u4 H locs p3 hP hD hS => ?_)
  obtain ⟨hu4, Uu4, p3⟩ := p3
  refine lv_pop hx hb dL_law_1210 rfl ?_
  refine lv_aload_n hx hb dL_law_1211 rfl (lv_at hl 1 rfl) ?_
  refine lv_aload_n hx hb dL_law_1212 rfl (lv_at hl 3 rfl) ?_
  refine lv_iload_n hx hb dL_law_1213 rfl (lv_at hl 0 rfl) ?_
  refine lv_iconst (v := 1) hx hb dL_law_1214 (by decide) ?_
  refine lv_iadd hx hb dL_law_1215 ?_
  refine p_nm (tt_add (X := (i : Int)) (Y := 1) hni (by decide) (by omega) (by omega)) (fun z5 hz5 => ?_)
  refine va_sld hx hb hX hbl hbA hS (i_ix hz5 (by omega) (by omega)) dL_law_1216 ?_
  refine pv_i (v := xs (i + 1)) (by rw [show Int32.toNatClampNeg z5 = i + 1 by have q9 := i_cl hz5 (by omega); omega]) ?_
  refine lcI (w := mw C B) (n := 1) (As := [.int (xs (i + 1))]) (rest := []) ⟨hx, hb, hml, hown, hts⟩ (fun _ h => uw_in h) (kX10_mends_0 l D C B v hIM (xs (i + 1)) (xs (i + 1)).toInt rfl H.size) q_m1686 q_n1687 q_e1688 q_i11 q_c1689 hvX10_mends ⟨(Nat.le_of_ble_eq_true rfl), (Nat.le_of_ble_eq_true rfl)⟩ ⟨(Nat.le_of_ble_eq_true rfl), (Nat.le_of_ble_eq_true rfl)⟩ hK hP hD hS hA Bl0 (fun _ _ _ => trivial) 10 0 rfl (mwc0 C B v) rfl hl.1 rfl (Nat.le_of_ble_eq_true rfl) dL_law_1217 (fun r6 u8 H locs p7 hP hD hS => ?_)
  obtain ⟨hu8, Uu8, p7⟩ := p7
  refine lv_pop hx hb dL_law_1220 rfl ?_
  refine lv_goto (tgt := 2362) hx hb dL_law_1221 (by decide) ?_
  exact kx u4 u8 H locs ls hu4 hu8 (hRL.un (Uu4.1 50 rfl) (Uu4.1 52 rfl) (Uu4.1 54 rfl) (Uu4.1 56 rfl) (Uu4.1 51 rfl) (Uu4.1 53 rfl) (Uu4.1 55 rfl) (Uu4.1 57 rfl) (Uu8.2.1 1 rfl) (Uu8.2.1 2 rfl)) hP hD hS hl
set_option maxHeartbeats 4000000 in
set_option maxRecDepth 100000 in
theorem law_case_36 {p : Program} {l : Launch} {e : Env} {s : State} {m : MethodId} {below : List Frame} {meth : Method} {c : Code} {D : va_G} {C : Nat → ClassId} {b L i : Nat} {xs : Nat → Int32} {A B adK adV : Nat → Nat} {u v : St} {H : Heap} {locs : List Loc} {ls : Array Slot} (C0 : lw_At p s m meth c b L xs) (hLL : L ≤ 3072) (hiL : i + 6 ≤ L) (hK : va_K D vwCl (tyl C) s) (hXS : XS adK adV (fun q : Nat => s.heap.size ≤ q) s) (hIC : IC u) (hIM : IM v) (hRL : RLt u v) (hP : va_P D vwCl (cw C A u ++ mw C B v) H) (hD : va_D (fun q : Nat => s.heap.size ≤ q) (cw C A u ++ mw C B v)) (hS : va_S (fun q : Nat => s.heap.size ≤ q) s.heap H locs) (hl : lv_has ls 4 [(3, .int (nI i)), (2, .ref (B 0)), (1, .ref (A 0)), (0, .ref b)])
    (kx : ∀ (u v : St) (H : Heap) (locs : List Loc) (ls : Array Slot), IC u → IM v → RLt u v → va_P D vwCl (cw C A u ++ mw C B v) H → va_D (fun q : Nat => s.heap.size ≤ q) (cw C A u ++ mw C B v) → va_S (fun q : Nat => s.heap.size ≤ q) s.heap H locs → lv_has ls 4 [(3, .int (nI i)), (2, .ref (B 0)), (1, .ref (A 0)), (0, .ref b)] → W p l e room_1 s m #[Value.ref b] below meth c H locs 180 4779 (lw_Z below #[Value.ref b] s) (F0 m 2362 ls [])) : W p l e room_1 s m #[Value.ref b] below meth c H locs 180 4779 (lw_Z below #[Value.ref b] s) (F0 m 1224 ls []) := by
  obtain ⟨hx, hb, hr, hml, hown, hts, hX, hbl, hlocks, hgv⟩ := id C0
  have hown : s.vm.findClass RL = some m.cls := hown
  have hb : c.code = cL_law := hb
  have hA : ∀ q : Nat, s.heap.size ≤ q → (fun q : Nat => s.heap.size ≤ q) q := fun _ h => h
  have hbA : ¬ (fun q : Nat => s.heap.size ≤ q) b := Nat.not_le.mpr hbl
  have hni : (nI i).toInt = (i : Int) := nI_toInt (by omega)
  refine lv_aload_n hx hb dL_law_1224 rfl (lv_at hl 2 rfl) ?_
  refine lv_aload_n hx hb dL_law_1225 rfl (lv_at hl 3 rfl) ?_
  refine lv_iload_n hx hb dL_law_1226 rfl (lv_at hl 0 rfl) ?_
  refine lv_iconst (v := 1) hx hb dL_law_1227 (by decide) ?_
  refine lv_iadd hx hb dL_law_1228 ?_
  refine p_nm (tt_add (X := (i : Int)) (Y := 1) hni (by decide) (by omega) (by omega)) (fun z1 hz1 => ?_)
  refine va_sld hx hb hX hbl hbA hS (i_ix hz1 (by omega) (by omega)) dL_law_1229 ?_
  refine pv_i (v := xs (i + 1)) (by rw [show Int32.toNatClampNeg z1 = i + 1 by have q9 := i_cl hz1 (by omega); omega]) ?_
  refine lcI (w := cw C A) (n := 1) (As := [.int (xs (i + 1))]) (rest := []) ⟨hx, hb, hml, hown, hts⟩ (fun _ h => uw_in h) (kX9_mended_0 l D C A u hIC (xs (i + 1)) (xs (i + 1)).toInt rfl H.size) q_m867 q_n868 q_e869 q_i1 q_c870 hvX9_mended ⟨(Nat.le_of_ble_eq_true rfl), (Nat.le_of_ble_eq_true rfl)⟩ ⟨(Nat.le_of_ble_eq_true rfl), (Nat.le_of_ble_eq_true rfl)⟩ hK hP hD hS hA Bl0 (fun _ _ _ => trivial) 9 0 rfl (cwc0 C A u) rfl hl.1 rfl (Nat.le_of_ble_eq_true rfl) dL_law_1230 (fun r2 u4 H locs p3 hP hD hS => ?_)
  obtain ⟨hu4, Uu4, p3⟩ := p3
  refine lv_pop hx hb dL_law_1233 rfl ?_
  refine lv_aload_n hx hb dL_law_1234 rfl (lv_at hl 1 rfl) ?_
  refine lv_aload_n hx hb dL_law_1235 rfl (lv_at hl 3 rfl) ?_
  refine lv_iload_n hx hb dL_law_1236 rfl (lv_at hl 0 rfl) ?_
  refine lv_iconst (v := 1) hx hb dL_law_1237 (by decide) ?_
  refine lv_iadd hx hb dL_law_1238 ?_
  refine p_nm (tt_add (X := (i : Int)) (Y := 1) hni (by decide) (by omega) (by omega)) (fun z5 hz5 => ?_)
  refine va_sld hx hb hX hbl hbA hS (i_ix hz5 (by omega) (by omega)) dL_law_1239 ?_
  refine pv_i (v := xs (i + 1)) (by rw [show Int32.toNatClampNeg z5 = i + 1 by have q9 := i_cl hz5 (by omega); omega]) ?_
  refine lcI (w := mw C B) (n := 1) (As := [.int (xs (i + 1))]) (rest := []) ⟨hx, hb, hml, hown, hts⟩ (fun _ h => uw_in h) (kX10_mended_0 l D C B v hIM (xs (i + 1)) (xs (i + 1)).toInt rfl H.size) q_m1703 q_n1704 q_e1705 q_i11 q_c1706 hvX10_mended ⟨(Nat.le_of_ble_eq_true rfl), (Nat.le_of_ble_eq_true rfl)⟩ ⟨(Nat.le_of_ble_eq_true rfl), (Nat.le_of_ble_eq_true rfl)⟩ hK hP hD hS hA Bl0 (fun _ _ _ => trivial) 10 0 rfl (mwc0 C B v) rfl hl.1 rfl (Nat.le_of_ble_eq_true rfl) dL_law_1240 (fun r6 u8 H locs p7 hP hD hS => ?_)
  obtain ⟨hu8, Uu8, p7⟩ := p7
  refine lv_pop hx hb dL_law_1243 rfl ?_
  refine lv_goto (tgt := 2362) hx hb dL_law_1244 (by decide) ?_
  exact kx u4 u8 H locs ls hu4 hu8 (hRL.un (Uu4.1 50 rfl) (Uu4.1 52 rfl) (Uu4.1 54 rfl) (Uu4.1 56 rfl) (Uu4.1 51 rfl) (Uu4.1 53 rfl) (Uu4.1 55 rfl) (Uu4.1 57 rfl) (Uu8.2.1 1 rfl) (Uu8.2.1 2 rfl)) hP hD hS hl
set_option maxHeartbeats 4000000 in
set_option maxRecDepth 100000 in
theorem law_case_37 {p : Program} {l : Launch} {e : Env} {s : State} {m : MethodId} {below : List Frame} {meth : Method} {c : Code} {D : va_G} {C : Nat → ClassId} {b L i : Nat} {xs : Nat → Int32} {A B adK adV : Nat → Nat} {u v : St} {H : Heap} {locs : List Loc} {ls : Array Slot} (C0 : lw_At p s m meth c b L xs) (hLL : L ≤ 3072) (hiL : i + 6 ≤ L) (hK : va_K D vwCl (tyl C) s) (hXS : XS adK adV (fun q : Nat => s.heap.size ≤ q) s) (hIC : IC u) (hIM : IM v) (hRL : RLt u v) (hP : va_P D vwCl (cw C A u ++ mw C B v) H) (hD : va_D (fun q : Nat => s.heap.size ≤ q) (cw C A u ++ mw C B v)) (hS : va_S (fun q : Nat => s.heap.size ≤ q) s.heap H locs) (hl : lv_has ls 4 [(3, .int (nI i)), (2, .ref (B 0)), (1, .ref (A 0)), (0, .ref b)])
    (kx : ∀ (u v : St) (H : Heap) (locs : List Loc) (ls : Array Slot), IC u → IM v → RLt u v → va_P D vwCl (cw C A u ++ mw C B v) H → va_D (fun q : Nat => s.heap.size ≤ q) (cw C A u ++ mw C B v) → va_S (fun q : Nat => s.heap.size ≤ q) s.heap H locs → lv_has ls 4 [(3, .int (nI i)), (2, .ref (B 0)), (1, .ref (A 0)), (0, .ref b)] → W p l e room_1 s m #[Value.ref b] below meth c H locs 180 4779 (lw_Z below #[Value.ref b] s) (F0 m 2362 ls [])) : W p l e room_1 s m #[Value.ref b] below meth c H locs 180 4779 (lw_Z below #[Value.ref b] s) (F0 m 1247 ls []) := by
  obtain ⟨hx, hb, hr, hml, hown, hts, hX, hbl, hlocks, hgv⟩ := id C0
  have hown : s.vm.findClass RL = some m.cls := hown
  have hb : c.code = cL_law := hb
  have hA : ∀ q : Nat, s.heap.size ≤ q → (fun q : Nat => s.heap.size ≤ q) q := fun _ h => h
  have hbA : ¬ (fun q : Nat => s.heap.size ≤ q) b := Nat.not_le.mpr hbl
  have hni : (nI i).toInt = (i : Int) := nI_toInt (by omega)
  refine lv_aload_n hx hb dL_law_1247 rfl (lv_at hl 2 rfl) ?_
  refine lv_aload_n hx hb dL_law_1248 rfl (lv_at hl 3 rfl) ?_
  refine lv_iload_n hx hb dL_law_1249 rfl (lv_at hl 0 rfl) ?_
  refine lv_iconst (v := 1) hx hb dL_law_1250 (by decide) ?_
  refine lv_iadd hx hb dL_law_1251 ?_
  refine p_nm (tt_add (X := (i : Int)) (Y := 1) hni (by decide) (by omega) (by omega)) (fun z1 hz1 => ?_)
  refine va_sld hx hb hX hbl hbA hS (i_ix hz1 (by omega) (by omega)) dL_law_1252 ?_
  refine pv_i (v := xs (i + 1)) (by rw [show Int32.toNatClampNeg z1 = i + 1 by have q9 := i_cl hz1 (by omega); omega]) ?_
  refine lcI (w := cw C A) (n := 1) (As := [.int (xs (i + 1))]) (rest := []) ⟨hx, hb, hml, hown, hts⟩ (fun _ h => uw_in h) (kX9_fewest_0 l D C A u hIC (xs (i + 1)) (xs (i + 1)).toInt rfl H.size) q_m871 q_n872 q_e873 q_i1 q_c874 hvX9_fewest ⟨(Nat.le_of_ble_eq_true rfl), (Nat.le_of_ble_eq_true rfl)⟩ ⟨(Nat.le_of_ble_eq_true rfl), (Nat.le_of_ble_eq_true rfl)⟩ hK hP hD hS hA Bl0 (fun _ _ _ => trivial) 9 0 rfl (cwc0 C A u) rfl hl.1 rfl (Nat.le_of_ble_eq_true rfl) dL_law_1253 (fun r2 u4 H locs p3 hP hD hS => ?_)
  obtain ⟨hu4, Uu4, p3⟩ := p3
  refine lv_pop hx hb dL_law_1256 rfl ?_
  refine lv_aload_n hx hb dL_law_1257 rfl (lv_at hl 1 rfl) ?_
  refine lv_aload_n hx hb dL_law_1258 rfl (lv_at hl 3 rfl) ?_
  refine lv_iload_n hx hb dL_law_1259 rfl (lv_at hl 0 rfl) ?_
  refine lv_iconst (v := 1) hx hb dL_law_1260 (by decide) ?_
  refine lv_iadd hx hb dL_law_1261 ?_
  refine p_nm (tt_add (X := (i : Int)) (Y := 1) hni (by decide) (by omega) (by omega)) (fun z5 hz5 => ?_)
  refine va_sld hx hb hX hbl hbA hS (i_ix hz5 (by omega) (by omega)) dL_law_1262 ?_
  refine pv_i (v := xs (i + 1)) (by rw [show Int32.toNatClampNeg z5 = i + 1 by have q9 := i_cl hz5 (by omega); omega]) ?_
  refine lcI (w := mw C B) (n := 1) (As := [.int (xs (i + 1))]) (rest := []) ⟨hx, hb, hml, hown, hts⟩ (fun _ h => uw_in h) (kX10_fewest_0 l D C B v hIM (xs (i + 1)) (xs (i + 1)).toInt rfl H.size) q_m1707 q_n1708 q_e1709 q_i11 q_c1710 hvX10_fewest ⟨(Nat.le_of_ble_eq_true rfl), (Nat.le_of_ble_eq_true rfl)⟩ ⟨(Nat.le_of_ble_eq_true rfl), (Nat.le_of_ble_eq_true rfl)⟩ hK hP hD hS hA Bl0 (fun _ _ _ => trivial) 10 0 rfl (mwc0 C B v) rfl hl.1 rfl (Nat.le_of_ble_eq_true rfl) dL_law_1263 (fun r6 u8 H locs p7 hP hD hS => ?_)
  obtain ⟨hu8, Uu8, p7⟩ := p7
  refine lv_pop hx hb dL_law_1266 rfl ?_
  refine lv_goto (tgt := 2362) hx hb dL_law_1267 (by decide) ?_
  exact kx u4 u8 H locs ls hu4 hu8 (hRL.un (Uu4.1 50 rfl) (Uu4.1 52 rfl) (Uu4.1 54 rfl) (Uu4.1 56 rfl) (Uu4.1 51 rfl) (Uu4.1 53 rfl) (Uu4.1 55 rfl) (Uu4.1 57 rfl) (Uu8.2.1 1 rfl) (Uu8.2.1 2 rfl)) hP hD hS hl
set_option maxHeartbeats 4000000 in
set_option maxRecDepth 100000 in
theorem law_case_38 {p : Program} {l : Launch} {e : Env} {s : State} {m : MethodId} {below : List Frame} {meth : Method} {c : Code} {D : va_G} {C : Nat → ClassId} {b L i : Nat} {xs : Nat → Int32} {A B adK adV : Nat → Nat} {u v : St} {H : Heap} {locs : List Loc} {ls : Array Slot} (C0 : lw_At p s m meth c b L xs) (hLL : L ≤ 3072) (hiL : i + 6 ≤ L) (hK : va_K D vwCl (tyl C) s) (hXS : XS adK adV (fun q : Nat => s.heap.size ≤ q) s) (hIC : IC u) (hIM : IM v) (hRL : RLt u v) (hP : va_P D vwCl (cw C A u ++ mw C B v) H) (hD : va_D (fun q : Nat => s.heap.size ≤ q) (cw C A u ++ mw C B v)) (hS : va_S (fun q : Nat => s.heap.size ≤ q) s.heap H locs) (hl : lv_has ls 4 [(3, .int (nI i)), (2, .ref (B 0)), (1, .ref (A 0)), (0, .ref b)])
    (kx : ∀ (u v : St) (H : Heap) (locs : List Loc) (ls : Array Slot), IC u → IM v → RLt u v → va_P D vwCl (cw C A u ++ mw C B v) H → va_D (fun q : Nat => s.heap.size ≤ q) (cw C A u ++ mw C B v) → va_S (fun q : Nat => s.heap.size ≤ q) s.heap H locs → lv_has ls 4 [(3, .int (nI i)), (2, .ref (B 0)), (1, .ref (A 0)), (0, .ref b)] → W p l e room_1 s m #[Value.ref b] below meth c H locs 180 4779 (lw_Z below #[Value.ref b] s) (F0 m 2362 ls [])) : W p l e room_1 s m #[Value.ref b] below meth c H locs 180 4779 (lw_Z below #[Value.ref b] s) (F0 m 1270 ls []) := by
  obtain ⟨hx, hb, hr, hml, hown, hts, hX, hbl, hlocks, hgv⟩ := id C0
  have hown : s.vm.findClass RL = some m.cls := hown
  have hb : c.code = cL_law := hb
  have hA : ∀ q : Nat, s.heap.size ≤ q → (fun q : Nat => s.heap.size ≤ q) q := fun _ h => h
  have hbA : ¬ (fun q : Nat => s.heap.size ≤ q) b := Nat.not_le.mpr hbl
  have hni : (nI i).toInt = (i : Int) := nI_toInt (by omega)
  refine lv_aload_n hx hb dL_law_1270 rfl (lv_at hl 2 rfl) ?_
  refine lv_aload_n hx hb dL_law_1271 rfl (lv_at hl 3 rfl) ?_
  refine lv_iload_n hx hb dL_law_1272 rfl (lv_at hl 0 rfl) ?_
  refine lv_iconst (v := 1) hx hb dL_law_1273 (by decide) ?_
  refine lv_iadd hx hb dL_law_1274 ?_
  refine p_nm (tt_add (X := (i : Int)) (Y := 1) hni (by decide) (by omega) (by omega)) (fun z1 hz1 => ?_)
  refine va_sld hx hb hX hbl hbA hS (i_ix hz1 (by omega) (by omega)) dL_law_1275 ?_
  refine pv_i (v := xs (i + 1)) (by rw [show Int32.toNatClampNeg z1 = i + 1 by have q9 := i_cl hz1 (by omega); omega]) ?_
  refine lcI (w := cw C A) (n := 1) (As := [.int (xs (i + 1))]) (rest := []) ⟨hx, hb, hml, hown, hts⟩ (fun _ h => uw_in h) (kX9_round_0 l D C A u hIC (xs (i + 1)) (xs (i + 1)).toInt rfl H.size) q_m875 q_n876 q_e877 q_i1 q_c878 hvX9_round ⟨(Nat.le_of_ble_eq_true rfl), (Nat.le_of_ble_eq_true rfl)⟩ ⟨(Nat.le_of_ble_eq_true rfl), (Nat.le_of_ble_eq_true rfl)⟩ hK hP hD hS hA Bl0 (fun _ _ _ => trivial) 9 0 rfl (cwc0 C A u) rfl hl.1 rfl (Nat.le_of_ble_eq_true rfl) dL_law_1276 (fun r2 u4 H locs p3 hP hD hS => ?_)
  obtain ⟨hu4, Uu4, p3⟩ := p3
  refine lv_pop hx hb dL_law_1279 rfl ?_
  refine lv_aload_n hx hb dL_law_1280 rfl (lv_at hl 1 rfl) ?_
  refine lv_aload_n hx hb dL_law_1281 rfl (lv_at hl 3 rfl) ?_
  refine lv_iload_n hx hb dL_law_1282 rfl (lv_at hl 0 rfl) ?_
  refine lv_iconst (v := 1) hx hb dL_law_1283 (by decide) ?_
  refine lv_iadd hx hb dL_law_1284 ?_
  refine p_nm (tt_add (X := (i : Int)) (Y := 1) hni (by decide) (by omega) (by omega)) (fun z5 hz5 => ?_)
  refine va_sld hx hb hX hbl hbA hS (i_ix hz5 (by omega) (by omega)) dL_law_1285 ?_
  refine pv_i (v := xs (i + 1)) (by rw [show Int32.toNatClampNeg z5 = i + 1 by have q9 := i_cl hz5 (by omega); omega]) ?_
  refine lcI (w := mw C B) (n := 1) (As := [.int (xs (i + 1))]) (rest := []) ⟨hx, hb, hml, hown, hts⟩ (fun _ h => uw_in h) (kX10_round_0 l D C B v hIM (xs (i + 1)) (xs (i + 1)).toInt rfl H.size) q_m1711 q_n1712 q_e1713 q_i11 q_c1714 hvX10_round ⟨(Nat.le_of_ble_eq_true rfl), (Nat.le_of_ble_eq_true rfl)⟩ ⟨(Nat.le_of_ble_eq_true rfl), (Nat.le_of_ble_eq_true rfl)⟩ hK hP hD hS hA Bl0 (fun _ _ _ => trivial) 10 0 rfl (mwc0 C B v) rfl hl.1 rfl (Nat.le_of_ble_eq_true rfl) dL_law_1286 (fun r6 u8 H locs p7 hP hD hS => ?_)
  obtain ⟨hu8, Uu8, p7⟩ := p7
  refine lv_pop hx hb dL_law_1289 rfl ?_
  refine lv_goto (tgt := 2362) hx hb dL_law_1290 (by decide) ?_
  exact kx u4 u8 H locs ls hu4 hu8 (hRL.un (Uu4.1 50 rfl) (Uu4.1 52 rfl) (Uu4.1 54 rfl) (Uu4.1 56 rfl) (Uu4.1 51 rfl) (Uu4.1 53 rfl) (Uu4.1 55 rfl) (Uu4.1 57 rfl) (Uu8.2.1 1 rfl) (Uu8.2.1 2 rfl)) hP hD hS hl
set_option maxHeartbeats 4000000 in
set_option maxRecDepth 100000 in
theorem law_case_39 {p : Program} {l : Launch} {e : Env} {s : State} {m : MethodId} {below : List Frame} {meth : Method} {c : Code} {D : va_G} {C : Nat → ClassId} {b L i : Nat} {xs : Nat → Int32} {A B adK adV : Nat → Nat} {u v : St} {H : Heap} {locs : List Loc} {ls : Array Slot} (C0 : lw_At p s m meth c b L xs) (hLL : L ≤ 3072) (hiL : i + 6 ≤ L) (hK : va_K D vwCl (tyl C) s) (hXS : XS adK adV (fun q : Nat => s.heap.size ≤ q) s) (hIC : IC u) (hIM : IM v) (hRL : RLt u v) (hP : va_P D vwCl (cw C A u ++ mw C B v) H) (hD : va_D (fun q : Nat => s.heap.size ≤ q) (cw C A u ++ mw C B v)) (hS : va_S (fun q : Nat => s.heap.size ≤ q) s.heap H locs) (hl : lv_has ls 4 [(3, .int (nI i)), (2, .ref (B 0)), (1, .ref (A 0)), (0, .ref b)])
    (kx : ∀ (u v : St) (H : Heap) (locs : List Loc) (ls : Array Slot), IC u → IM v → RLt u v → va_P D vwCl (cw C A u ++ mw C B v) H → va_D (fun q : Nat => s.heap.size ≤ q) (cw C A u ++ mw C B v) → va_S (fun q : Nat => s.heap.size ≤ q) s.heap H locs → lv_has ls 4 [(3, .int (nI i)), (2, .ref (B 0)), (1, .ref (A 0)), (0, .ref b)] → W p l e room_1 s m #[Value.ref b] below meth c H locs 180 4779 (lw_Z below #[Value.ref b] s) (F0 m 2362 ls [])) : W p l e room_1 s m #[Value.ref b] below meth c H locs 180 4779 (lw_Z below #[Value.ref b] s) (F0 m 1293 ls []) := by
  obtain ⟨hx, hb, hr, hml, hown, hts, hX, hbl, hlocks, hgv⟩ := id C0
  have hown : s.vm.findClass RL = some m.cls := hown
  have hb : c.code = cL_law := hb
  have hA : ∀ q : Nat, s.heap.size ≤ q → (fun q : Nat => s.heap.size ≤ q) q := fun _ h => h
  have hbA : ¬ (fun q : Nat => s.heap.size ≤ q) b := Nat.not_le.mpr hbl
  have hni : (nI i).toInt = (i : Int) := nI_toInt (by omega)
  refine lv_aload_n hx hb dL_law_1293 rfl (lv_at hl 2 rfl) ?_
  refine lv_aload_n hx hb dL_law_1294 rfl (lv_at hl 3 rfl) ?_
  refine lv_iload_n hx hb dL_law_1295 rfl (lv_at hl 0 rfl) ?_
  refine lv_iconst (v := 1) hx hb dL_law_1296 (by decide) ?_
  refine lv_iadd hx hb dL_law_1297 ?_
  refine p_nm (tt_add (X := (i : Int)) (Y := 1) hni (by decide) (by omega) (by omega)) (fun z1 hz1 => ?_)
  refine va_sld hx hb hX hbl hbA hS (i_ix hz1 (by omega) (by omega)) dL_law_1298 ?_
  refine pv_i (v := xs (i + 1)) (by rw [show Int32.toNatClampNeg z1 = i + 1 by have q9 := i_cl hz1 (by omega); omega]) ?_
  refine lv_aload_n hx hb dL_law_1299 rfl (lv_at hl 3 rfl) ?_
  refine lv_iload_n hx hb dL_law_1300 rfl (lv_at hl 0 rfl) ?_
  refine lv_iconst (v := 2) hx hb dL_law_1301 (by decide) ?_
  refine lv_iadd hx hb dL_law_1302 ?_
  refine p_nm (tt_add (X := (i : Int)) (Y := 2) hni (by decide) (by omega) (by omega)) (fun z2 hz2 => ?_)
  refine va_sld hx hb hX hbl hbA hS (i_ix hz2 (by omega) (by omega)) dL_law_1303 ?_
  refine pv_i (v := xs (i + 2)) (by rw [show Int32.toNatClampNeg z2 = i + 2 by have q9 := i_cl hz2 (by omega); omega]) ?_
  refine lcI (w := cw C A) (n := 2) (As := [.int (xs (i + 1)), .int (xs (i + 2))]) (rest := []) ⟨hx, hb, hml, hown, hts⟩ (fun _ h => uw_in h) (kX9_rounds_0 l D C A u hIC (xs (i + 1)) (xs (i + 1)).toInt rfl (xs (i + 2)) (xs (i + 2)).toInt rfl H.size) q_m903 q_n904 q_e905 q_i1 q_c906 hvX9_rounds ⟨(Nat.le_of_ble_eq_true rfl), (Nat.le_of_ble_eq_true rfl)⟩ ⟨(Nat.le_of_ble_eq_true rfl), (Nat.le_of_ble_eq_true rfl)⟩ hK hP hD hS hA Bl0 (fun _ _ _ => trivial) 9 0 rfl (cwc0 C A u) rfl hl.1 rfl (Nat.le_of_ble_eq_true rfl) dL_law_1304 (fun r3 u5 H locs p4 hP hD hS => ?_)
  obtain ⟨hu5, Uu5, p4⟩ := p4
  refine lv_pop hx hb dL_law_1307 rfl ?_
  refine lv_aload_n hx hb dL_law_1308 rfl (lv_at hl 1 rfl) ?_
  refine lv_aload_n hx hb dL_law_1309 rfl (lv_at hl 3 rfl) ?_
  refine lv_iload_n hx hb dL_law_1310 rfl (lv_at hl 0 rfl) ?_
  refine lv_iconst (v := 1) hx hb dL_law_1311 (by decide) ?_
  refine lv_iadd hx hb dL_law_1312 ?_
  refine p_nm (tt_add (X := (i : Int)) (Y := 1) hni (by decide) (by omega) (by omega)) (fun z6 hz6 => ?_)
  refine va_sld hx hb hX hbl hbA hS (i_ix hz6 (by omega) (by omega)) dL_law_1313 ?_
  refine pv_i (v := xs (i + 1)) (by rw [show Int32.toNatClampNeg z6 = i + 1 by have q9 := i_cl hz6 (by omega); omega]) ?_
  refine lv_aload_n hx hb dL_law_1314 rfl (lv_at hl 3 rfl) ?_
  refine lv_iload_n hx hb dL_law_1315 rfl (lv_at hl 0 rfl) ?_
  refine lv_iconst (v := 2) hx hb dL_law_1316 (by decide) ?_
  refine lv_iadd hx hb dL_law_1317 ?_
  refine p_nm (tt_add (X := (i : Int)) (Y := 2) hni (by decide) (by omega) (by omega)) (fun z7 hz7 => ?_)
  refine va_sld hx hb hX hbl hbA hS (i_ix hz7 (by omega) (by omega)) dL_law_1318 ?_
  refine pv_i (v := xs (i + 2)) (by rw [show Int32.toNatClampNeg z7 = i + 2 by have q9 := i_cl hz7 (by omega); omega]) ?_
  refine lcI (w := mw C B) (n := 2) (As := [.int (xs (i + 1)), .int (xs (i + 2))]) (rest := []) ⟨hx, hb, hml, hown, hts⟩ (fun _ h => uw_in h) (kX10_rounds_0 l D C B v hIM (xs (i + 1)) (xs (i + 1)).toInt rfl (xs (i + 2)) (xs (i + 2)).toInt rfl H.size) q_m1727 q_n1728 q_e1729 q_i11 q_c1730 hvX10_rounds ⟨(Nat.le_of_ble_eq_true rfl), (Nat.le_of_ble_eq_true rfl)⟩ ⟨(Nat.le_of_ble_eq_true rfl), (Nat.le_of_ble_eq_true rfl)⟩ hK hP hD hS hA Bl0 (fun _ _ _ => trivial) 10 0 rfl (mwc0 C B v) rfl hl.1 rfl (Nat.le_of_ble_eq_true rfl) dL_law_1319 (fun r8 u10 H locs p9 hP hD hS => ?_)
  obtain ⟨hu10, Uu10, p9⟩ := p9
  refine lv_pop hx hb dL_law_1322 rfl ?_
  refine lv_goto (tgt := 2362) hx hb dL_law_1323 (by decide) ?_
  exact kx u5 u10 H locs ls hu5 hu10 (hRL.un (Uu5.1 50 rfl) (Uu5.1 52 rfl) (Uu5.1 54 rfl) (Uu5.1 56 rfl) (Uu5.1 51 rfl) (Uu5.1 53 rfl) (Uu5.1 55 rfl) (Uu5.1 57 rfl) (Uu10.2.1 1 rfl) (Uu10.2.1 2 rfl)) hP hD hS hl
set_option maxHeartbeats 4000000 in
set_option maxRecDepth 100000 in
theorem law_case_40 {p : Program} {l : Launch} {e : Env} {s : State} {m : MethodId} {below : List Frame} {meth : Method} {c : Code} {D : va_G} {C : Nat → ClassId} {b L i : Nat} {xs : Nat → Int32} {A B adK adV : Nat → Nat} {u v : St} {H : Heap} {locs : List Loc} {ls : Array Slot} (C0 : lw_At p s m meth c b L xs) (hLL : L ≤ 3072) (hiL : i + 6 ≤ L) (hK : va_K D vwCl (tyl C) s) (hXS : XS adK adV (fun q : Nat => s.heap.size ≤ q) s) (hIC : IC u) (hIM : IM v) (hRL : RLt u v) (hP : va_P D vwCl (cw C A u ++ mw C B v) H) (hD : va_D (fun q : Nat => s.heap.size ≤ q) (cw C A u ++ mw C B v)) (hS : va_S (fun q : Nat => s.heap.size ≤ q) s.heap H locs) (hl : lv_has ls 4 [(3, .int (nI i)), (2, .ref (B 0)), (1, .ref (A 0)), (0, .ref b)])
    (kx : ∀ (u v : St) (H : Heap) (locs : List Loc) (ls : Array Slot), IC u → IM v → RLt u v → va_P D vwCl (cw C A u ++ mw C B v) H → va_D (fun q : Nat => s.heap.size ≤ q) (cw C A u ++ mw C B v) → va_S (fun q : Nat => s.heap.size ≤ q) s.heap H locs → lv_has ls 4 [(3, .int (nI i)), (2, .ref (B 0)), (1, .ref (A 0)), (0, .ref b)] → W p l e room_1 s m #[Value.ref b] below meth c H locs 180 4779 (lw_Z below #[Value.ref b] s) (F0 m 2362 ls [])) : W p l e room_1 s m #[Value.ref b] below meth c H locs 180 4779 (lw_Z below #[Value.ref b] s) (F0 m 1326 ls []) := by
  obtain ⟨hx, hb, hr, hml, hown, hts, hX, hbl, hlocks, hgv⟩ := id C0
  have hown : s.vm.findClass RL = some m.cls := hown
  have hb : c.code = cL_law := hb
  have hA : ∀ q : Nat, s.heap.size ≤ q → (fun q : Nat => s.heap.size ≤ q) q := fun _ h => h
  have hbA : ¬ (fun q : Nat => s.heap.size ≤ q) b := Nat.not_le.mpr hbl
  have hni : (nI i).toInt = (i : Int) := nI_toInt (by omega)
  refine lv_aload_n hx hb dL_law_1326 rfl (lv_at hl 2 rfl) ?_
  refine lv_aload_n hx hb dL_law_1327 rfl (lv_at hl 3 rfl) ?_
  refine lv_iload_n hx hb dL_law_1328 rfl (lv_at hl 0 rfl) ?_
  refine lv_iconst (v := 1) hx hb dL_law_1329 (by decide) ?_
  refine lv_iadd hx hb dL_law_1330 ?_
  refine p_nm (tt_add (X := (i : Int)) (Y := 1) hni (by decide) (by omega) (by omega)) (fun z1 hz1 => ?_)
  refine va_sld hx hb hX hbl hbA hS (i_ix hz1 (by omega) (by omega)) dL_law_1331 ?_
  refine pv_i (v := xs (i + 1)) (by rw [show Int32.toNatClampNeg z1 = i + 1 by have q9 := i_cl hz1 (by omega); omega]) ?_
  refine lv_aload_n hx hb dL_law_1332 rfl (lv_at hl 3 rfl) ?_
  refine lv_iload_n hx hb dL_law_1333 rfl (lv_at hl 0 rfl) ?_
  refine lv_iconst (v := 2) hx hb dL_law_1334 (by decide) ?_
  refine lv_iadd hx hb dL_law_1335 ?_
  refine p_nm (tt_add (X := (i : Int)) (Y := 2) hni (by decide) (by omega) (by omega)) (fun z2 hz2 => ?_)
  refine va_sld hx hb hX hbl hbA hS (i_ix hz2 (by omega) (by omega)) dL_law_1336 ?_
  refine pv_i (v := xs (i + 2)) (by rw [show Int32.toNatClampNeg z2 = i + 2 by have q9 := i_cl hz2 (by omega); omega]) ?_
  refine lcI (w := cw C A) (n := 2) (As := [.int (xs (i + 1)), .int (xs (i + 2))]) (rest := []) ⟨hx, hb, hml, hown, hts⟩ (fun _ h => uw_in h) (kX9_goes_0 l D C A u hIC (xs (i + 1)) (xs (i + 1)).toInt rfl (xs (i + 2)) (xs (i + 2)).toInt rfl H.size) q_m907 q_n908 q_e909 q_i1 q_c910 hvX9_goes ⟨(Nat.le_of_ble_eq_true rfl), (Nat.le_of_ble_eq_true rfl)⟩ ⟨(Nat.le_of_ble_eq_true rfl), (Nat.le_of_ble_eq_true rfl)⟩ hK hP hD hS hA Bl0 (fun _ _ _ => trivial) 9 0 rfl (cwc0 C A u) rfl hl.1 rfl (Nat.le_of_ble_eq_true rfl) dL_law_1337 (fun r3 u5 H locs p4 hP hD hS => ?_)
  obtain ⟨hu5, Uu5, p4⟩ := p4
  refine lv_pop hx hb dL_law_1340 rfl ?_
  refine lv_aload_n hx hb dL_law_1341 rfl (lv_at hl 1 rfl) ?_
  refine lv_aload_n hx hb dL_law_1342 rfl (lv_at hl 3 rfl) ?_
  refine lv_iload_n hx hb dL_law_1343 rfl (lv_at hl 0 rfl) ?_
  refine lv_iconst (v := 1) hx hb dL_law_1344 (by decide) ?_
  refine lv_iadd hx hb dL_law_1345 ?_
  refine p_nm (tt_add (X := (i : Int)) (Y := 1) hni (by decide) (by omega) (by omega)) (fun z6 hz6 => ?_)
  refine va_sld hx hb hX hbl hbA hS (i_ix hz6 (by omega) (by omega)) dL_law_1346 ?_
  refine pv_i (v := xs (i + 1)) (by rw [show Int32.toNatClampNeg z6 = i + 1 by have q9 := i_cl hz6 (by omega); omega]) ?_
  refine lv_aload_n hx hb dL_law_1347 rfl (lv_at hl 3 rfl) ?_
  refine lv_iload_n hx hb dL_law_1348 rfl (lv_at hl 0 rfl) ?_
  refine lv_iconst (v := 2) hx hb dL_law_1349 (by decide) ?_
  refine lv_iadd hx hb dL_law_1350 ?_
  refine p_nm (tt_add (X := (i : Int)) (Y := 2) hni (by decide) (by omega) (by omega)) (fun z7 hz7 => ?_)
  refine va_sld hx hb hX hbl hbA hS (i_ix hz7 (by omega) (by omega)) dL_law_1351 ?_
  refine pv_i (v := xs (i + 2)) (by rw [show Int32.toNatClampNeg z7 = i + 2 by have q9 := i_cl hz7 (by omega); omega]) ?_
  refine lcI (w := mw C B) (n := 2) (As := [.int (xs (i + 1)), .int (xs (i + 2))]) (rest := []) ⟨hx, hb, hml, hown, hts⟩ (fun _ h => uw_in h) (kX10_goes_0 l D C B v hIM (xs (i + 1)) (xs (i + 1)).toInt rfl (xs (i + 2)) (xs (i + 2)).toInt rfl H.size) q_m1731 q_n1732 q_e1733 q_i11 q_c1734 hvX10_goes ⟨(Nat.le_of_ble_eq_true rfl), (Nat.le_of_ble_eq_true rfl)⟩ ⟨(Nat.le_of_ble_eq_true rfl), (Nat.le_of_ble_eq_true rfl)⟩ hK hP hD hS hA Bl0 (fun _ _ _ => trivial) 10 0 rfl (mwc0 C B v) rfl hl.1 rfl (Nat.le_of_ble_eq_true rfl) dL_law_1352 (fun r8 u10 H locs p9 hP hD hS => ?_)
  obtain ⟨hu10, Uu10, p9⟩ := p9
  refine lv_pop hx hb dL_law_1355 rfl ?_
  refine lv_goto (tgt := 2362) hx hb dL_law_1356 (by decide) ?_
  exact kx u5 u10 H locs ls hu5 hu10 (hRL.un (Uu5.1 50 rfl) (Uu5.1 52 rfl) (Uu5.1 54 rfl) (Uu5.1 56 rfl) (Uu5.1 51 rfl) (Uu5.1 53 rfl) (Uu5.1 55 rfl) (Uu5.1 57 rfl) (Uu10.2.1 1 rfl) (Uu10.2.1 2 rfl)) hP hD hS hl
set_option maxHeartbeats 4000000 in
set_option maxRecDepth 100000 in
theorem law_case_41 {p : Program} {l : Launch} {e : Env} {s : State} {m : MethodId} {below : List Frame} {meth : Method} {c : Code} {D : va_G} {C : Nat → ClassId} {b L i : Nat} {xs : Nat → Int32} {A B adK adV : Nat → Nat} {u v : St} {H : Heap} {locs : List Loc} {ls : Array Slot} (C0 : lw_At p s m meth c b L xs) (hLL : L ≤ 3072) (hiL : i + 6 ≤ L) (hK : va_K D vwCl (tyl C) s) (hXS : XS adK adV (fun q : Nat => s.heap.size ≤ q) s) (hIC : IC u) (hIM : IM v) (hRL : RLt u v) (hP : va_P D vwCl (cw C A u ++ mw C B v) H) (hD : va_D (fun q : Nat => s.heap.size ≤ q) (cw C A u ++ mw C B v)) (hS : va_S (fun q : Nat => s.heap.size ≤ q) s.heap H locs) (hl : lv_has ls 4 [(3, .int (nI i)), (2, .ref (B 0)), (1, .ref (A 0)), (0, .ref b)])
    (kx : ∀ (u v : St) (H : Heap) (locs : List Loc) (ls : Array Slot), IC u → IM v → RLt u v → va_P D vwCl (cw C A u ++ mw C B v) H → va_D (fun q : Nat => s.heap.size ≤ q) (cw C A u ++ mw C B v) → va_S (fun q : Nat => s.heap.size ≤ q) s.heap H locs → lv_has ls 4 [(3, .int (nI i)), (2, .ref (B 0)), (1, .ref (A 0)), (0, .ref b)] → W p l e room_1 s m #[Value.ref b] below meth c H locs 180 4779 (lw_Z below #[Value.ref b] s) (F0 m 2362 ls [])) : W p l e room_1 s m #[Value.ref b] below meth c H locs 180 4779 (lw_Z below #[Value.ref b] s) (F0 m 1359 ls []) := by
  obtain ⟨hx, hb, hr, hml, hown, hts, hX, hbl, hlocks, hgv⟩ := id C0
  have hown : s.vm.findClass RL = some m.cls := hown
  have hb : c.code = cL_law := hb
  have hA : ∀ q : Nat, s.heap.size ≤ q → (fun q : Nat => s.heap.size ≤ q) q := fun _ h => h
  have hbA : ¬ (fun q : Nat => s.heap.size ≤ q) b := Nat.not_le.mpr hbl
  have hni : (nI i).toInt = (i : Int) := nI_toInt (by omega)
  refine lv_aload_n hx hb dL_law_1359 rfl (lv_at hl 2 rfl) ?_
  refine lv_aload_n hx hb dL_law_1360 rfl (lv_at hl 3 rfl) ?_
  refine lv_iload_n hx hb dL_law_1361 rfl (lv_at hl 0 rfl) ?_
  refine lv_iconst (v := 1) hx hb dL_law_1362 (by decide) ?_
  refine lv_iadd hx hb dL_law_1363 ?_
  refine p_nm (tt_add (X := (i : Int)) (Y := 1) hni (by decide) (by omega) (by omega)) (fun z1 hz1 => ?_)
  refine va_sld hx hb hX hbl hbA hS (i_ix hz1 (by omega) (by omega)) dL_law_1364 ?_
  refine pv_i (v := xs (i + 1)) (by rw [show Int32.toNatClampNeg z1 = i + 1 by have q9 := i_cl hz1 (by omega); omega]) ?_
  refine lcI (w := cw C A) (n := 1) (As := [.int (xs (i + 1))]) (rest := []) ⟨hx, hb, hml, hown, hts⟩ (fun _ h => uw_in h) (kX9_lodge_0 l D C A u hIC (xs (i + 1)) (xs (i + 1)).toInt rfl H.size) q_m927 q_n928 q_e929 q_i1 q_c930 hvX9_lodge ⟨(Nat.le_of_ble_eq_true rfl), (Nat.le_of_ble_eq_true rfl)⟩ ⟨(Nat.le_of_ble_eq_true rfl), (Nat.le_of_ble_eq_true rfl)⟩ hK hP hD hS hA Bl0 (fun _ _ _ => trivial) 9 0 rfl (cwc0 C A u) rfl hl.1 rfl (Nat.le_of_ble_eq_true rfl) dL_law_1365 (fun r2 u4 H locs p3 hP hD hS => ?_)
  obtain ⟨hu4, Uu4, p3⟩ := p3
  refine lv_pop hx hb dL_law_1368 rfl ?_
  refine lv_aload_n hx hb dL_law_1369 rfl (lv_at hl 1 rfl) ?_
  refine lv_aload_n hx hb dL_law_1370 rfl (lv_at hl 3 rfl) ?_
  refine lv_iload_n hx hb dL_law_1371 rfl (lv_at hl 0 rfl) ?_
  refine lv_iconst (v := 1) hx hb dL_law_1372 (by decide) ?_
  refine lv_iadd hx hb dL_law_1373 ?_
  refine p_nm (tt_add (X := (i : Int)) (Y := 1) hni (by decide) (by omega) (by omega)) (fun z5 hz5 => ?_)
  refine va_sld hx hb hX hbl hbA hS (i_ix hz5 (by omega) (by omega)) dL_law_1374 ?_
  refine pv_i (v := xs (i + 1)) (by rw [show Int32.toNatClampNeg z5 = i + 1 by have q9 := i_cl hz5 (by omega); omega]) ?_
  refine lcI (w := mw C B) (n := 1) (As := [.int (xs (i + 1))]) (rest := []) ⟨hx, hb, hml, hown, hts⟩ (fun _ h => uw_in h) (kX10_lodge_0 l D C B v hIM (xs (i + 1)) (xs (i + 1)).toInt rfl H.size) q_m1735 q_n1736 q_e1737 q_i11 q_c1738 hvX10_lodge ⟨(Nat.le_of_ble_eq_true rfl), (Nat.le_of_ble_eq_true rfl)⟩ ⟨(Nat.le_of_ble_eq_true rfl), (Nat.le_of_ble_eq_true rfl)⟩ hK hP hD hS hA Bl0 (fun _ _ _ => trivial) 10 0 rfl (mwc0 C B v) rfl hl.1 rfl (Nat.le_of_ble_eq_true rfl) dL_law_1375 (fun r6 u8 H locs p7 hP hD hS => ?_)
  obtain ⟨hu8, Uu8, p7⟩ := p7
  refine lv_pop hx hb dL_law_1378 rfl ?_
  refine lv_goto (tgt := 2362) hx hb dL_law_1379 (by decide) ?_
  exact kx u4 u8 H locs ls hu4 hu8 (hRL.un (Uu4.1 50 rfl) (Uu4.1 52 rfl) (Uu4.1 54 rfl) (Uu4.1 56 rfl) (Uu4.1 51 rfl) (Uu4.1 53 rfl) (Uu4.1 55 rfl) (Uu4.1 57 rfl) (Uu8.2.1 1 rfl) (Uu8.2.1 2 rfl)) hP hD hS hl
set_option maxHeartbeats 4000000 in
set_option maxRecDepth 100000 in
theorem law_case_42 {p : Program} {l : Launch} {e : Env} {s : State} {m : MethodId} {below : List Frame} {meth : Method} {c : Code} {D : va_G} {C : Nat → ClassId} {b L i : Nat} {xs : Nat → Int32} {A B adK adV : Nat → Nat} {u v : St} {H : Heap} {locs : List Loc} {ls : Array Slot} (C0 : lw_At p s m meth c b L xs) (hLL : L ≤ 3072) (hiL : i + 6 ≤ L) (hK : va_K D vwCl (tyl C) s) (hXS : XS adK adV (fun q : Nat => s.heap.size ≤ q) s) (hIC : IC u) (hIM : IM v) (hRL : RLt u v) (hP : va_P D vwCl (cw C A u ++ mw C B v) H) (hD : va_D (fun q : Nat => s.heap.size ≤ q) (cw C A u ++ mw C B v)) (hS : va_S (fun q : Nat => s.heap.size ≤ q) s.heap H locs) (hl : lv_has ls 4 [(3, .int (nI i)), (2, .ref (B 0)), (1, .ref (A 0)), (0, .ref b)])
    (kx : ∀ (u v : St) (H : Heap) (locs : List Loc) (ls : Array Slot), IC u → IM v → RLt u v → va_P D vwCl (cw C A u ++ mw C B v) H → va_D (fun q : Nat => s.heap.size ≤ q) (cw C A u ++ mw C B v) → va_S (fun q : Nat => s.heap.size ≤ q) s.heap H locs → lv_has ls 4 [(3, .int (nI i)), (2, .ref (B 0)), (1, .ref (A 0)), (0, .ref b)] → W p l e room_1 s m #[Value.ref b] below meth c H locs 180 4779 (lw_Z below #[Value.ref b] s) (F0 m 2362 ls [])) : W p l e room_1 s m #[Value.ref b] below meth c H locs 180 4779 (lw_Z below #[Value.ref b] s) (F0 m 1382 ls []) := by
  obtain ⟨hx, hb, hr, hml, hown, hts, hX, hbl, hlocks, hgv⟩ := id C0
  have hown : s.vm.findClass RL = some m.cls := hown
  have hb : c.code = cL_law := hb
  have hA : ∀ q : Nat, s.heap.size ≤ q → (fun q : Nat => s.heap.size ≤ q) q := fun _ h => h
  have hbA : ¬ (fun q : Nat => s.heap.size ≤ q) b := Nat.not_le.mpr hbl
  have hni : (nI i).toInt = (i : Int) := nI_toInt (by omega)
  refine lv_aload_n hx hb dL_law_1382 rfl (lv_at hl 2 rfl) ?_
  refine lv_aload_n hx hb dL_law_1383 rfl (lv_at hl 3 rfl) ?_
  refine lv_iload_n hx hb dL_law_1384 rfl (lv_at hl 0 rfl) ?_
  refine lv_iconst (v := 1) hx hb dL_law_1385 (by decide) ?_
  refine lv_iadd hx hb dL_law_1386 ?_
  refine p_nm (tt_add (X := (i : Int)) (Y := 1) hni (by decide) (by omega) (by omega)) (fun z1 hz1 => ?_)
  refine va_sld hx hb hX hbl hbA hS (i_ix hz1 (by omega) (by omega)) dL_law_1387 ?_
  refine pv_i (v := xs (i + 1)) (by rw [show Int32.toNatClampNeg z1 = i + 1 by have q9 := i_cl hz1 (by omega); omega]) ?_
  refine lv_aload_n hx hb dL_law_1388 rfl (lv_at hl 3 rfl) ?_
  refine lv_iload_n hx hb dL_law_1389 rfl (lv_at hl 0 rfl) ?_
  refine lv_iconst (v := 2) hx hb dL_law_1390 (by decide) ?_
  refine lv_iadd hx hb dL_law_1391 ?_
  refine p_nm (tt_add (X := (i : Int)) (Y := 2) hni (by decide) (by omega) (by omega)) (fun z2 hz2 => ?_)
  refine va_sld hx hb hX hbl hbA hS (i_ix hz2 (by omega) (by omega)) dL_law_1392 ?_
  refine pv_i (v := xs (i + 2)) (by rw [show Int32.toNatClampNeg z2 = i + 2 by have q9 := i_cl hz2 (by omega); omega]) ?_
  refine cvS (n := 2) (As := [.int (xs (i + 1)), .int (xs (i + 2))]) (rest := []) ⟨hx, hb, hml, hown, hts⟩ (fun _ h => uw_in h) (kX9_quorum_0 l D C A u hIC (xs (i + 1)) (xs (i + 1)).toInt rfl (xs (i + 2)) (xs (i + 2)).toInt rfl) q_m931 q_n932 q_e933 q_i1 q_c934 hvX9_quorum ⟨(Nat.le_of_ble_eq_true rfl), (Nat.le_of_ble_eq_true rfl)⟩ ⟨(Nat.le_of_ble_eq_true rfl), (Nat.le_of_ble_eq_true rfl)⟩ hK hP.left 9 0 rfl (cwc0 C A u) rfl hl.1 rfl (Nat.le_of_ble_eq_true rfl) dL_law_1393 (fun r3 p4 => ?_)
  have hP := hP.flip
  have hD := hD.flip
  refine lv_pop hx hb dL_law_1396 rfl ?_
  refine lv_aload_n hx hb dL_law_1397 rfl (lv_at hl 1 rfl) ?_
  refine lv_aload_n hx hb dL_law_1398 rfl (lv_at hl 3 rfl) ?_
  refine lv_iload_n hx hb dL_law_1399 rfl (lv_at hl 0 rfl) ?_
  refine lv_iconst (v := 1) hx hb dL_law_1400 (by decide) ?_
  refine lv_iadd hx hb dL_law_1401 ?_
  refine p_nm (tt_add (X := (i : Int)) (Y := 1) hni (by decide) (by omega) (by omega)) (fun z5 hz5 => ?_)
  refine va_sld hx hb hX hbl hbA hS (i_ix hz5 (by omega) (by omega)) dL_law_1402 ?_
  refine pv_i (v := xs (i + 1)) (by rw [show Int32.toNatClampNeg z5 = i + 1 by have q9 := i_cl hz5 (by omega); omega]) ?_
  refine lv_aload_n hx hb dL_law_1403 rfl (lv_at hl 3 rfl) ?_
  refine lv_iload_n hx hb dL_law_1404 rfl (lv_at hl 0 rfl) ?_
  refine lv_iconst (v := 2) hx hb dL_law_1405 (by decide) ?_
  refine lv_iadd hx hb dL_law_1406 ?_
  refine p_nm (tt_add (X := (i : Int)) (Y := 2) hni (by decide) (by omega) (by omega)) (fun z6 hz6 => ?_)
  refine va_sld hx hb hX hbl hbA hS (i_ix hz6 (by omega) (by omega)) dL_law_1407 ?_
  refine pv_i (v := xs (i + 2)) (by rw [show Int32.toNatClampNeg z6 = i + 2 by have q9 := i_cl hz6 (by omega); omega]) ?_
  refine lcI (w := mw C B) (n := 2) (As := [.int (xs (i + 1)), .int (xs (i + 2))]) (rest := []) ⟨hx, hb, hml, hown, hts⟩ (fun _ h => uw_in h) (kX10_quorum_0 l D C B v hIM (xs (i + 1)) (xs (i + 1)).toInt rfl (xs (i + 2)) (xs (i + 2)).toInt rfl H.size) q_m1739 q_n1740 q_e1741 q_i11 q_c1742 hvX10_quorum ⟨(Nat.le_of_ble_eq_true rfl), (Nat.le_of_ble_eq_true rfl)⟩ ⟨(Nat.le_of_ble_eq_true rfl), (Nat.le_of_ble_eq_true rfl)⟩ hK hP hD hS hA Bl0 (fun _ _ _ => trivial) 10 0 rfl (mwc0 C B v) rfl hl.1 rfl (Nat.le_of_ble_eq_true rfl) dL_law_1408 (fun r7 u9 H locs p8 hP hD hS => ?_)
  obtain ⟨hu9, Uu9, p8⟩ := p8
  refine lv_pop hx hb dL_law_1411 rfl ?_
  refine lv_goto (tgt := 2362) hx hb dL_law_1412 (by decide) ?_
  exact kx u u9 H locs ls hIC hu9 (hRL.un rfl rfl rfl rfl rfl rfl rfl rfl (Uu9.2.1 1 rfl) (Uu9.2.1 2 rfl)) hP hD hS hl
set_option maxHeartbeats 4000000 in
set_option maxRecDepth 100000 in
theorem law_case_43 {p : Program} {l : Launch} {e : Env} {s : State} {m : MethodId} {below : List Frame} {meth : Method} {c : Code} {D : va_G} {C : Nat → ClassId} {b L i : Nat} {xs : Nat → Int32} {A B adK adV : Nat → Nat} {u v : St} {H : Heap} {locs : List Loc} {ls : Array Slot} (C0 : lw_At p s m meth c b L xs) (hLL : L ≤ 3072) (hiL : i + 6 ≤ L) (hK : va_K D vwCl (tyl C) s) (hXS : XS adK adV (fun q : Nat => s.heap.size ≤ q) s) (hIC : IC u) (hIM : IM v) (hRL : RLt u v) (hP : va_P D vwCl (cw C A u ++ mw C B v) H) (hD : va_D (fun q : Nat => s.heap.size ≤ q) (cw C A u ++ mw C B v)) (hS : va_S (fun q : Nat => s.heap.size ≤ q) s.heap H locs) (hl : lv_has ls 4 [(3, .int (nI i)), (2, .ref (B 0)), (1, .ref (A 0)), (0, .ref b)])
    (kx : ∀ (u v : St) (H : Heap) (locs : List Loc) (ls : Array Slot), IC u → IM v → RLt u v → va_P D vwCl (cw C A u ++ mw C B v) H → va_D (fun q : Nat => s.heap.size ≤ q) (cw C A u ++ mw C B v) → va_S (fun q : Nat => s.heap.size ≤ q) s.heap H locs → lv_has ls 4 [(3, .int (nI i)), (2, .ref (B 0)), (1, .ref (A 0)), (0, .ref b)] → W p l e room_1 s m #[Value.ref b] below meth c H locs 180 4779 (lw_Z below #[Value.ref b] s) (F0 m 2362 ls [])) : W p l e room_1 s m #[Value.ref b] below meth c H locs 180 4779 (lw_Z below #[Value.ref b] s) (F0 m 1415 ls []) := by
  obtain ⟨hx, hb, hr, hml, hown, hts, hX, hbl, hlocks, hgv⟩ := id C0
  have hown : s.vm.findClass RL = some m.cls := hown
  have hb : c.code = cL_law := hb
  have hA : ∀ q : Nat, s.heap.size ≤ q → (fun q : Nat => s.heap.size ≤ q) q := fun _ h => h
  have hbA : ¬ (fun q : Nat => s.heap.size ≤ q) b := Nat.not_le.mpr hbl
  have hni : (nI i).toInt = (i : Int) := nI_toInt (by omega)
  refine lv_aload_n hx hb dL_law_1415 rfl (lv_at hl 2 rfl) ?_
  refine lv_aload_n hx hb dL_law_1416 rfl (lv_at hl 3 rfl) ?_
  refine lv_iload_n hx hb dL_law_1417 rfl (lv_at hl 0 rfl) ?_
  refine lv_iconst (v := 1) hx hb dL_law_1418 (by decide) ?_
  refine lv_iadd hx hb dL_law_1419 ?_
  refine p_nm (tt_add (X := (i : Int)) (Y := 1) hni (by decide) (by omega) (by omega)) (fun z1 hz1 => ?_)
  refine va_sld hx hb hX hbl hbA hS (i_ix hz1 (by omega) (by omega)) dL_law_1420 ?_
  refine pv_i (v := xs (i + 1)) (by rw [show Int32.toNatClampNeg z1 = i + 1 by have q9 := i_cl hz1 (by omega); omega]) ?_
  refine cvS (n := 1) (As := [.int (xs (i + 1))]) (rest := []) ⟨hx, hb, hml, hown, hts⟩ (fun _ h => uw_in h) (kX9_law_0 l D C A u hIC (xs (i + 1)) (xs (i + 1)).toInt rfl) q_m940 q_n941 q_e942 q_i1 q_c943 hvX9_law ⟨(Nat.le_of_ble_eq_true rfl), (Nat.le_of_ble_eq_true rfl)⟩ ⟨(Nat.le_of_ble_eq_true rfl), (Nat.le_of_ble_eq_true rfl)⟩ hK hP.left 9 0 rfl (cwc0 C A u) rfl hl.1 rfl (Nat.le_of_ble_eq_true rfl) dL_law_1421 (fun r2 p3 => ?_)
  have hP := hP.flip
  have hD := hD.flip
  refine lv_pop hx hb dL_law_1424 rfl ?_
  refine lv_aload_n hx hb dL_law_1425 rfl (lv_at hl 1 rfl) ?_
  refine lv_aload_n hx hb dL_law_1426 rfl (lv_at hl 3 rfl) ?_
  refine lv_iload_n hx hb dL_law_1427 rfl (lv_at hl 0 rfl) ?_
  refine lv_iconst (v := 1) hx hb dL_law_1428 (by decide) ?_
  refine lv_iadd hx hb dL_law_1429 ?_
  refine p_nm (tt_add (X := (i : Int)) (Y := 1) hni (by decide) (by omega) (by omega)) (fun z4 hz4 => ?_)
  refine va_sld hx hb hX hbl hbA hS (i_ix hz4 (by omega) (by omega)) dL_law_1430 ?_
  refine pv_i (v := xs (i + 1)) (by rw [show Int32.toNatClampNeg z4 = i + 1 by have q9 := i_cl hz4 (by omega); omega]) ?_
  refine lcI (w := mw C B) (n := 1) (As := [.int (xs (i + 1))]) (rest := []) ⟨hx, hb, hml, hown, hts⟩ (fun _ h => uw_in h) (kX10_law_0 l D C B v hIM (xs (i + 1)) (xs (i + 1)).toInt rfl H.size) q_m1748 q_n1749 q_e1750 q_i11 q_c1751 hvX10_law ⟨(Nat.le_of_ble_eq_true rfl), (Nat.le_of_ble_eq_true rfl)⟩ ⟨(Nat.le_of_ble_eq_true rfl), (Nat.le_of_ble_eq_true rfl)⟩ hK hP hD hS hA Bl0 (fun _ _ _ => trivial) 10 0 rfl (mwc0 C B v) rfl hl.1 rfl (Nat.le_of_ble_eq_true rfl) dL_law_1431 (fun r5 u7 H locs p6 hP hD hS => ?_)
  obtain ⟨hu7, Uu7, p6⟩ := p6
  refine lv_pop hx hb dL_law_1434 rfl ?_
  refine lv_goto (tgt := 2362) hx hb dL_law_1435 (by decide) ?_
  exact kx u u7 H locs ls hIC hu7 (hRL.un rfl rfl rfl rfl rfl rfl rfl rfl (Uu7.2.1 1 rfl) (Uu7.2.1 2 rfl)) hP hD hS hl
set_option maxHeartbeats 4000000 in
set_option maxRecDepth 100000 in
theorem law_case_44 {p : Program} {l : Launch} {e : Env} {s : State} {m : MethodId} {below : List Frame} {meth : Method} {c : Code} {D : va_G} {C : Nat → ClassId} {b L i : Nat} {xs : Nat → Int32} {A B adK adV : Nat → Nat} {u v : St} {H : Heap} {locs : List Loc} {ls : Array Slot} (C0 : lw_At p s m meth c b L xs) (hLL : L ≤ 3072) (hiL : i + 6 ≤ L) (hK : va_K D vwCl (tyl C) s) (hXS : XS adK adV (fun q : Nat => s.heap.size ≤ q) s) (hIC : IC u) (hIM : IM v) (hRL : RLt u v) (hP : va_P D vwCl (cw C A u ++ mw C B v) H) (hD : va_D (fun q : Nat => s.heap.size ≤ q) (cw C A u ++ mw C B v)) (hS : va_S (fun q : Nat => s.heap.size ≤ q) s.heap H locs) (hl : lv_has ls 4 [(3, .int (nI i)), (2, .ref (B 0)), (1, .ref (A 0)), (0, .ref b)])
    (kx : ∀ (u v : St) (H : Heap) (locs : List Loc) (ls : Array Slot), IC u → IM v → RLt u v → va_P D vwCl (cw C A u ++ mw C B v) H → va_D (fun q : Nat => s.heap.size ≤ q) (cw C A u ++ mw C B v) → va_S (fun q : Nat => s.heap.size ≤ q) s.heap H locs → lv_has ls 4 [(3, .int (nI i)), (2, .ref (B 0)), (1, .ref (A 0)), (0, .ref b)] → W p l e room_1 s m #[Value.ref b] below meth c H locs 180 4779 (lw_Z below #[Value.ref b] s) (F0 m 2362 ls [])) : W p l e room_1 s m #[Value.ref b] below meth c H locs 180 4779 (lw_Z below #[Value.ref b] s) (F0 m 1438 ls []) := by
  obtain ⟨hx, hb, hr, hml, hown, hts, hX, hbl, hlocks, hgv⟩ := id C0
  have hown : s.vm.findClass RL = some m.cls := hown
  have hb : c.code = cL_law := hb
  have hA : ∀ q : Nat, s.heap.size ≤ q → (fun q : Nat => s.heap.size ≤ q) q := fun _ h => h
  have hbA : ¬ (fun q : Nat => s.heap.size ≤ q) b := Nat.not_le.mpr hbl
  have hni : (nI i).toInt = (i : Int) := nI_toInt (by omega)
  refine lv_aload_n hx hb dL_law_1438 rfl (lv_at hl 2 rfl) ?_
  refine lv_aload_n hx hb dL_law_1439 rfl (lv_at hl 3 rfl) ?_
  refine lv_iload_n hx hb dL_law_1440 rfl (lv_at hl 0 rfl) ?_
  refine lv_iconst (v := 1) hx hb dL_law_1441 (by decide) ?_
  refine lv_iadd hx hb dL_law_1442 ?_
  refine p_nm (tt_add (X := (i : Int)) (Y := 1) hni (by decide) (by omega) (by omega)) (fun z1 hz1 => ?_)
  refine va_sld hx hb hX hbl hbA hS (i_ix hz1 (by omega) (by omega)) dL_law_1443 ?_
  refine pv_i (v := xs (i + 1)) (by rw [show Int32.toNatClampNeg z1 = i + 1 by have q9 := i_cl hz1 (by omega); omega]) ?_
  refine cvS (n := 1) (As := [.int (xs (i + 1))]) (rest := []) ⟨hx, hb, hml, hown, hts⟩ (fun _ h => uw_in h) (kX9_middle_0 l D C A u hIC (xs (i + 1)) (xs (i + 1)).toInt rfl) q_m944 q_n945 q_e946 q_i1 q_c947 hvX9_middle ⟨(Nat.le_of_ble_eq_true rfl), (Nat.le_of_ble_eq_true rfl)⟩ ⟨(Nat.le_of_ble_eq_true rfl), (Nat.le_of_ble_eq_true rfl)⟩ hK hP.left 9 0 rfl (cwc0 C A u) rfl hl.1 rfl (Nat.le_of_ble_eq_true rfl) dL_law_1444 (fun r2 p3 => ?_)
  have hP := hP.flip
  have hD := hD.flip
  refine lv_pop hx hb dL_law_1447 rfl ?_
  refine lv_aload_n hx hb dL_law_1448 rfl (lv_at hl 1 rfl) ?_
  refine lv_aload_n hx hb dL_law_1449 rfl (lv_at hl 3 rfl) ?_
  refine lv_iload_n hx hb dL_law_1450 rfl (lv_at hl 0 rfl) ?_
  refine lv_iconst (v := 1) hx hb dL_law_1451 (by decide) ?_
  refine lv_iadd hx hb dL_law_1452 ?_
  refine p_nm (tt_add (X := (i : Int)) (Y := 1) hni (by decide) (by omega) (by omega)) (fun z4 hz4 => ?_)
  refine va_sld hx hb hX hbl hbA hS (i_ix hz4 (by omega) (by omega)) dL_law_1453 ?_
  refine pv_i (v := xs (i + 1)) (by rw [show Int32.toNatClampNeg z4 = i + 1 by have q9 := i_cl hz4 (by omega); omega]) ?_
  refine lcI (w := mw C B) (n := 1) (As := [.int (xs (i + 1))]) (rest := []) ⟨hx, hb, hml, hown, hts⟩ (fun _ h => uw_in h) (kX10_middle_0 l D C B v hIM (xs (i + 1)) (xs (i + 1)).toInt rfl H.size) q_m1752 q_n1753 q_e1754 q_i11 q_c1755 hvX10_middle ⟨(Nat.le_of_ble_eq_true rfl), (Nat.le_of_ble_eq_true rfl)⟩ ⟨(Nat.le_of_ble_eq_true rfl), (Nat.le_of_ble_eq_true rfl)⟩ hK hP hD hS hA Bl0 (fun _ _ _ => trivial) 10 0 rfl (mwc0 C B v) rfl hl.1 rfl (Nat.le_of_ble_eq_true rfl) dL_law_1454 (fun r5 u7 H locs p6 hP hD hS => ?_)
  obtain ⟨hu7, Uu7, p6⟩ := p6
  refine lv_pop hx hb dL_law_1457 rfl ?_
  refine lv_goto (tgt := 2362) hx hb dL_law_1458 (by decide) ?_
  exact kx u u7 H locs ls hIC hu7 (hRL.un rfl rfl rfl rfl rfl rfl rfl rfl (Uu7.2.1 1 rfl) (Uu7.2.1 2 rfl)) hP hD hS hl
set_option maxHeartbeats 4000000 in
set_option maxRecDepth 100000 in
theorem law_case_45 {p : Program} {l : Launch} {e : Env} {s : State} {m : MethodId} {below : List Frame} {meth : Method} {c : Code} {D : va_G} {C : Nat → ClassId} {b L i : Nat} {xs : Nat → Int32} {A B adK adV : Nat → Nat} {u v : St} {H : Heap} {locs : List Loc} {ls : Array Slot} (C0 : lw_At p s m meth c b L xs) (hLL : L ≤ 3072) (hiL : i + 6 ≤ L) (hK : va_K D vwCl (tyl C) s) (hXS : XS adK adV (fun q : Nat => s.heap.size ≤ q) s) (hIC : IC u) (hIM : IM v) (hRL : RLt u v) (hP : va_P D vwCl (cw C A u ++ mw C B v) H) (hD : va_D (fun q : Nat => s.heap.size ≤ q) (cw C A u ++ mw C B v)) (hS : va_S (fun q : Nat => s.heap.size ≤ q) s.heap H locs) (hl : lv_has ls 4 [(3, .int (nI i)), (2, .ref (B 0)), (1, .ref (A 0)), (0, .ref b)])
    (kx : ∀ (u v : St) (H : Heap) (locs : List Loc) (ls : Array Slot), IC u → IM v → RLt u v → va_P D vwCl (cw C A u ++ mw C B v) H → va_D (fun q : Nat => s.heap.size ≤ q) (cw C A u ++ mw C B v) → va_S (fun q : Nat => s.heap.size ≤ q) s.heap H locs → lv_has ls 4 [(3, .int (nI i)), (2, .ref (B 0)), (1, .ref (A 0)), (0, .ref b)] → W p l e room_1 s m #[Value.ref b] below meth c H locs 180 4779 (lw_Z below #[Value.ref b] s) (F0 m 2362 ls [])) : W p l e room_1 s m #[Value.ref b] below meth c H locs 180 4779 (lw_Z below #[Value.ref b] s) (F0 m 1461 ls []) := by
  obtain ⟨hx, hb, hr, hml, hown, hts, hX, hbl, hlocks, hgv⟩ := id C0
  have hown : s.vm.findClass RL = some m.cls := hown
  have hb : c.code = cL_law := hb
  have hA : ∀ q : Nat, s.heap.size ≤ q → (fun q : Nat => s.heap.size ≤ q) q := fun _ h => h
  have hbA : ¬ (fun q : Nat => s.heap.size ≤ q) b := Nat.not_le.mpr hbl
  have hni : (nI i).toInt = (i : Int) := nI_toInt (by omega)
  refine lv_aload_n hx hb dL_law_1461 rfl (lv_at hl 2 rfl) ?_
  refine lv_aload_n hx hb dL_law_1462 rfl (lv_at hl 3 rfl) ?_
  refine lv_iload_n hx hb dL_law_1463 rfl (lv_at hl 0 rfl) ?_
  refine lv_iconst (v := 1) hx hb dL_law_1464 (by decide) ?_
  refine lv_iadd hx hb dL_law_1465 ?_
  refine p_nm (tt_add (X := (i : Int)) (Y := 1) hni (by decide) (by omega) (by omega)) (fun z1 hz1 => ?_)
  refine va_sld hx hb hX hbl hbA hS (i_ix hz1 (by omega) (by omega)) dL_law_1466 ?_
  refine pv_i (v := xs (i + 1)) (by rw [show Int32.toNatClampNeg z1 = i + 1 by have q9 := i_cl hz1 (by omega); omega]) ?_
  refine lv_aload_n hx hb dL_law_1467 rfl (lv_at hl 3 rfl) ?_
  refine lv_iload_n hx hb dL_law_1468 rfl (lv_at hl 0 rfl) ?_
  refine lv_iconst (v := 2) hx hb dL_law_1469 (by decide) ?_
  refine lv_iadd hx hb dL_law_1470 ?_
  refine p_nm (tt_add (X := (i : Int)) (Y := 2) hni (by decide) (by omega) (by omega)) (fun z2 hz2 => ?_)
  refine va_sld hx hb hX hbl hbA hS (i_ix hz2 (by omega) (by omega)) dL_law_1471 ?_
  refine pv_i (v := xs (i + 2)) (by rw [show Int32.toNatClampNeg z2 = i + 2 by have q9 := i_cl hz2 (by omega); omega]) ?_
  refine lv_aload_n hx hb dL_law_1472 rfl (lv_at hl 3 rfl) ?_
  refine lv_iload_n hx hb dL_law_1473 rfl (lv_at hl 0 rfl) ?_
  refine lv_iconst (v := 3) hx hb dL_law_1474 (by decide) ?_
  refine lv_iadd hx hb dL_law_1475 ?_
  refine p_nm (tt_add (X := (i : Int)) (Y := 3) hni (by decide) (by omega) (by omega)) (fun z3 hz3 => ?_)
  refine va_sld hx hb hX hbl hbA hS (i_ix hz3 (by omega) (by omega)) dL_law_1476 ?_
  refine pv_i (v := xs (i + 3)) (by rw [show Int32.toNatClampNeg z3 = i + 3 by have q9 := i_cl hz3 (by omega); omega]) ?_
  refine lcI (w := cw C A) (n := 3) (As := [.int (xs (i + 1)), .int (xs (i + 2)), .int (xs (i + 3))]) (rest := []) ⟨hx, hb, hml, hown, hts⟩ (fun _ h => uw_in h) (kX9_rests_0 l D C A u hIC (xs (i + 1)) (xs (i + 1)).toInt rfl (xs (i + 2)) (xs (i + 2)).toInt rfl (xs (i + 3)) (xs (i + 3)).toInt rfl H.size) q_m948 q_n949 q_e950 q_i1 q_c951 hvX9_rests ⟨(Nat.le_of_ble_eq_true rfl), (Nat.le_of_ble_eq_true rfl)⟩ ⟨(Nat.le_of_ble_eq_true rfl), (Nat.le_of_ble_eq_true rfl)⟩ hK hP hD hS hA Bl0 (fun _ _ _ => trivial) 9 0 rfl (cwc0 C A u) rfl hl.1 rfl (Nat.le_of_ble_eq_true rfl) dL_law_1477 (fun r4 u6 H locs p5 hP hD hS => ?_)
  obtain ⟨hu6, Uu6, p5⟩ := p5
  refine lv_pop hx hb dL_law_1480 rfl ?_
  refine lv_aload_n hx hb dL_law_1481 rfl (lv_at hl 1 rfl) ?_
  refine lv_aload_n hx hb dL_law_1482 rfl (lv_at hl 3 rfl) ?_
  refine lv_iload_n hx hb dL_law_1483 rfl (lv_at hl 0 rfl) ?_
  refine lv_iconst (v := 1) hx hb dL_law_1484 (by decide) ?_
  refine lv_iadd hx hb dL_law_1485 ?_
  refine p_nm (tt_add (X := (i : Int)) (Y := 1) hni (by decide) (by omega) (by omega)) (fun z7 hz7 => ?_)
  refine va_sld hx hb hX hbl hbA hS (i_ix hz7 (by omega) (by omega)) dL_law_1486 ?_
  refine pv_i (v := xs (i + 1)) (by rw [show Int32.toNatClampNeg z7 = i + 1 by have q9 := i_cl hz7 (by omega); omega]) ?_
  refine lv_aload_n hx hb dL_law_1487 rfl (lv_at hl 3 rfl) ?_
  refine lv_iload_n hx hb dL_law_1488 rfl (lv_at hl 0 rfl) ?_
  refine lv_iconst (v := 2) hx hb dL_law_1489 (by decide) ?_
  refine lv_iadd hx hb dL_law_1490 ?_
  refine p_nm (tt_add (X := (i : Int)) (Y := 2) hni (by decide) (by omega) (by omega)) (fun z8 hz8 => ?_)
  refine va_sld hx hb hX hbl hbA hS (i_ix hz8 (by omega) (by omega)) dL_law_1491 ?_
  refine pv_i (v := xs (i + 2)) (by rw [show Int32.toNatClampNeg z8 = i + 2 by have q9 := i_cl hz8 (by omega); omega]) ?_
  refine lv_aload_n hx hb dL_law_1492 rfl (lv_at hl 3 rfl) ?_
  refine lv_iload_n hx hb dL_law_1493 rfl (lv_at hl 0 rfl) ?_
  refine lv_iconst (v := 3) hx hb dL_law_1494 (by decide) ?_
  refine lv_iadd hx hb dL_law_1495 ?_
  refine p_nm (tt_add (X := (i : Int)) (Y := 3) hni (by decide) (by omega) (by omega)) (fun z9 hz9 => ?_)
  refine va_sld hx hb hX hbl hbA hS (i_ix hz9 (by omega) (by omega)) dL_law_1496 ?_
  refine pv_i (v := xs (i + 3)) (by rw [show Int32.toNatClampNeg z9 = i + 3 by have q9 := i_cl hz9 (by omega); omega]) ?_
  refine lcI (w := mw C B) (n := 3) (As := [.int (xs (i + 1)), .int (xs (i + 2)), .int (xs (i + 3))]) (rest := []) ⟨hx, hb, hml, hown, hts⟩ (fun _ h => uw_in h) (kX10_rests_0 l D C B v hIM (xs (i + 1)) (xs (i + 1)).toInt rfl (xs (i + 2)) (xs (i + 2)).toInt rfl (xs (i + 3)) (xs (i + 3)).toInt rfl H.size) q_m1756 q_n1757 q_e1758 q_i11 q_c1759 hvX10_rests ⟨(Nat.le_of_ble_eq_true rfl), (Nat.le_of_ble_eq_true rfl)⟩ ⟨(Nat.le_of_ble_eq_true rfl), (Nat.le_of_ble_eq_true rfl)⟩ hK hP hD hS hA Bl0 (fun _ _ _ => trivial) 10 0 rfl (mwc0 C B v) rfl hl.1 rfl (Nat.le_of_ble_eq_true rfl) dL_law_1497 (fun r10 u12 H locs p11 hP hD hS => ?_)
  obtain ⟨hu12, Uu12, p11⟩ := p11
  refine lv_pop hx hb dL_law_1500 rfl ?_
  refine lv_goto (tgt := 2362) hx hb dL_law_1501 (by decide) ?_
  exact kx u6 u12 H locs ls hu6 hu12 (hRL.un (Uu6.1 50 rfl) (Uu6.1 52 rfl) (Uu6.1 54 rfl) (Uu6.1 56 rfl) (Uu6.1 51 rfl) (Uu6.1 53 rfl) (Uu6.1 55 rfl) (Uu6.1 57 rfl) (Uu12.2.1 1 rfl) (Uu12.2.1 2 rfl)) hP hD hS hl
set_option maxHeartbeats 4000000 in
set_option maxRecDepth 100000 in
theorem law_case_46 {p : Program} {l : Launch} {e : Env} {s : State} {m : MethodId} {below : List Frame} {meth : Method} {c : Code} {D : va_G} {C : Nat → ClassId} {b L i : Nat} {xs : Nat → Int32} {A B adK adV : Nat → Nat} {u v : St} {H : Heap} {locs : List Loc} {ls : Array Slot} (C0 : lw_At p s m meth c b L xs) (hLL : L ≤ 3072) (hiL : i + 6 ≤ L) (hK : va_K D vwCl (tyl C) s) (hXS : XS adK adV (fun q : Nat => s.heap.size ≤ q) s) (hIC : IC u) (hIM : IM v) (hRL : RLt u v) (hP : va_P D vwCl (cw C A u ++ mw C B v) H) (hD : va_D (fun q : Nat => s.heap.size ≤ q) (cw C A u ++ mw C B v)) (hS : va_S (fun q : Nat => s.heap.size ≤ q) s.heap H locs) (hl : lv_has ls 4 [(3, .int (nI i)), (2, .ref (B 0)), (1, .ref (A 0)), (0, .ref b)])
    (kx : ∀ (u v : St) (H : Heap) (locs : List Loc) (ls : Array Slot), IC u → IM v → RLt u v → va_P D vwCl (cw C A u ++ mw C B v) H → va_D (fun q : Nat => s.heap.size ≤ q) (cw C A u ++ mw C B v) → va_S (fun q : Nat => s.heap.size ≤ q) s.heap H locs → lv_has ls 4 [(3, .int (nI i)), (2, .ref (B 0)), (1, .ref (A 0)), (0, .ref b)] → W p l e room_1 s m #[Value.ref b] below meth c H locs 180 4779 (lw_Z below #[Value.ref b] s) (F0 m 2362 ls [])) : W p l e room_1 s m #[Value.ref b] below meth c H locs 180 4779 (lw_Z below #[Value.ref b] s) (F0 m 1504 ls []) := by
  obtain ⟨hx, hb, hr, hml, hown, hts, hX, hbl, hlocks, hgv⟩ := id C0
  have hown : s.vm.findClass RL = some m.cls := hown
  have hb : c.code = cL_law := hb
  have hA : ∀ q : Nat, s.heap.size ≤ q → (fun q : Nat => s.heap.size ≤ q) q := fun _ h => h
  have hbA : ¬ (fun q : Nat => s.heap.size ≤ q) b := Nat.not_le.mpr hbl
  have hni : (nI i).toInt = (i : Int) := nI_toInt (by omega)
  refine lv_aload_n hx hb dL_law_1504 rfl (lv_at hl 2 rfl) ?_
  refine lv_aload_n hx hb dL_law_1505 rfl (lv_at hl 3 rfl) ?_
  refine lv_iload_n hx hb dL_law_1506 rfl (lv_at hl 0 rfl) ?_
  refine lv_iconst (v := 1) hx hb dL_law_1507 (by decide) ?_
  refine lv_iadd hx hb dL_law_1508 ?_
  refine p_nm (tt_add (X := (i : Int)) (Y := 1) hni (by decide) (by omega) (by omega)) (fun z1 hz1 => ?_)
  refine va_sld hx hb hX hbl hbA hS (i_ix hz1 (by omega) (by omega)) dL_law_1509 ?_
  refine pv_i (v := xs (i + 1)) (by rw [show Int32.toNatClampNeg z1 = i + 1 by have q9 := i_cl hz1 (by omega); omega]) ?_
  refine lv_aload_n hx hb dL_law_1510 rfl (lv_at hl 3 rfl) ?_
  refine lv_iload_n hx hb dL_law_1511 rfl (lv_at hl 0 rfl) ?_
  refine lv_iconst (v := 2) hx hb dL_law_1512 (by decide) ?_
  refine lv_iadd hx hb dL_law_1513 ?_
  refine p_nm (tt_add (X := (i : Int)) (Y := 2) hni (by decide) (by omega) (by omega)) (fun z2 hz2 => ?_)
  refine va_sld hx hb hX hbl hbA hS (i_ix hz2 (by omega) (by omega)) dL_law_1514 ?_
  refine pv_i (v := xs (i + 2)) (by rw [show Int32.toNatClampNeg z2 = i + 2 by have q9 := i_cl hz2 (by omega); omega]) ?_
  refine lv_aload_n hx hb dL_law_1515 rfl (lv_at hl 3 rfl) ?_
  refine lv_iload_n hx hb dL_law_1516 rfl (lv_at hl 0 rfl) ?_
  refine lv_iconst (v := 3) hx hb dL_law_1517 (by decide) ?_
  refine lv_iadd hx hb dL_law_1518 ?_
  refine p_nm (tt_add (X := (i : Int)) (Y := 3) hni (by decide) (by omega) (by omega)) (fun z3 hz3 => ?_)
  refine va_sld hx hb hX hbl hbA hS (i_ix hz3 (by omega) (by omega)) dL_law_1519 ?_
  refine pv_i (v := xs (i + 3)) (by rw [show Int32.toNatClampNeg z3 = i + 3 by have q9 := i_cl hz3 (by omega); omega]) ?_
  refine lcI (w := cw C A) (n := 3) (As := [.int (xs (i + 1)), .int (xs (i + 2)), .int (xs (i + 3))]) (rest := []) ⟨hx, hb, hml, hown, hts⟩ (fun _ h => uw_in h) (kX9_rest_0 l D C A u hIC (xs (i + 1)) (xs (i + 1)).toInt rfl (xs (i + 2)) (xs (i + 2)).toInt rfl (xs (i + 3)) (xs (i + 3)).toInt rfl H.size) q_m975 q_n976 q_e977 q_i1 q_c978 hvX9_rest ⟨(Nat.le_of_ble_eq_true rfl), (Nat.le_of_ble_eq_true rfl)⟩ ⟨(Nat.le_of_ble_eq_true rfl), (Nat.le_of_ble_eq_true rfl)⟩ hK hP hD hS hA Bl0 (fun _ _ _ => trivial) 9 0 rfl (cwc0 C A u) rfl hl.1 rfl (Nat.le_of_ble_eq_true rfl) dL_law_1520 (fun r4 u6 H locs p5 hP hD hS => ?_)
  obtain ⟨hu6, Uu6, p5⟩ := p5
  refine lv_pop hx hb dL_law_1523 rfl ?_
  refine lv_aload_n hx hb dL_law_1524 rfl (lv_at hl 1 rfl) ?_
  refine lv_aload_n hx hb dL_law_1525 rfl (lv_at hl 3 rfl) ?_
  refine lv_iload_n hx hb dL_law_1526 rfl (lv_at hl 0 rfl) ?_
  refine lv_iconst (v := 1) hx hb dL_law_1527 (by decide) ?_
  refine lv_iadd hx hb dL_law_1528 ?_
  refine p_nm (tt_add (X := (i : Int)) (Y := 1) hni (by decide) (by omega) (by omega)) (fun z7 hz7 => ?_)
  refine va_sld hx hb hX hbl hbA hS (i_ix hz7 (by omega) (by omega)) dL_law_1529 ?_
  refine pv_i (v := xs (i + 1)) (by rw [show Int32.toNatClampNeg z7 = i + 1 by have q9 := i_cl hz7 (by omega); omega]) ?_
  refine lv_aload_n hx hb dL_law_1530 rfl (lv_at hl 3 rfl) ?_
  refine lv_iload_n hx hb dL_law_1531 rfl (lv_at hl 0 rfl) ?_
  refine lv_iconst (v := 2) hx hb dL_law_1532 (by decide) ?_
  refine lv_iadd hx hb dL_law_1533 ?_
  refine p_nm (tt_add (X := (i : Int)) (Y := 2) hni (by decide) (by omega) (by omega)) (fun z8 hz8 => ?_)
  refine va_sld hx hb hX hbl hbA hS (i_ix hz8 (by omega) (by omega)) dL_law_1534 ?_
  refine pv_i (v := xs (i + 2)) (by rw [show Int32.toNatClampNeg z8 = i + 2 by have q9 := i_cl hz8 (by omega); omega]) ?_
  refine lv_aload_n hx hb dL_law_1535 rfl (lv_at hl 3 rfl) ?_
  refine lv_iload_n hx hb dL_law_1536 rfl (lv_at hl 0 rfl) ?_
  refine lv_iconst (v := 3) hx hb dL_law_1537 (by decide) ?_
  refine lv_iadd hx hb dL_law_1538 ?_
  refine p_nm (tt_add (X := (i : Int)) (Y := 3) hni (by decide) (by omega) (by omega)) (fun z9 hz9 => ?_)
  refine va_sld hx hb hX hbl hbA hS (i_ix hz9 (by omega) (by omega)) dL_law_1539 ?_
  refine pv_i (v := xs (i + 3)) (by rw [show Int32.toNatClampNeg z9 = i + 3 by have q9 := i_cl hz9 (by omega); omega]) ?_
  refine lcI (w := mw C B) (n := 3) (As := [.int (xs (i + 1)), .int (xs (i + 2)), .int (xs (i + 3))]) (rest := []) ⟨hx, hb, hml, hown, hts⟩ (fun _ h => uw_in h) (kX10_rest_0 l D C B v hIM (xs (i + 1)) (xs (i + 1)).toInt rfl (xs (i + 2)) (xs (i + 2)).toInt rfl (xs (i + 3)) (xs (i + 3)).toInt rfl H.size) q_m1776 q_n1777 q_e1778 q_i11 q_c1779 hvX10_rest ⟨(Nat.le_of_ble_eq_true rfl), (Nat.le_of_ble_eq_true rfl)⟩ ⟨(Nat.le_of_ble_eq_true rfl), (Nat.le_of_ble_eq_true rfl)⟩ hK hP hD hS hA Bl0 (fun _ _ _ => trivial) 10 0 rfl (mwc0 C B v) rfl hl.1 rfl (Nat.le_of_ble_eq_true rfl) dL_law_1540 (fun r10 u12 H locs p11 hP hD hS => ?_)
  obtain ⟨hu12, Uu12, p11⟩ := p11
  refine lv_pop hx hb dL_law_1543 rfl ?_
  refine lv_goto (tgt := 2362) hx hb dL_law_1544 (by decide) ?_
  exact kx u6 u12 H locs ls hu6 hu12 (hRL.un (Uu6.1 50 rfl) (Uu6.1 52 rfl) (Uu6.1 54 rfl) (Uu6.1 56 rfl) (Uu6.1 51 rfl) (Uu6.1 53 rfl) (Uu6.1 55 rfl) (Uu6.1 57 rfl) (Uu12.2.1 1 rfl) (Uu12.2.1 2 rfl)) hP hD hS hl
set_option maxHeartbeats 4000000 in
set_option maxRecDepth 100000 in
theorem law_case_47 {p : Program} {l : Launch} {e : Env} {s : State} {m : MethodId} {below : List Frame} {meth : Method} {c : Code} {D : va_G} {C : Nat → ClassId} {b L i : Nat} {xs : Nat → Int32} {A B adK adV : Nat → Nat} {u v : St} {H : Heap} {locs : List Loc} {ls : Array Slot} (C0 : lw_At p s m meth c b L xs) (hLL : L ≤ 3072) (hiL : i + 6 ≤ L) (hK : va_K D vwCl (tyl C) s) (hXS : XS adK adV (fun q : Nat => s.heap.size ≤ q) s) (hIC : IC u) (hIM : IM v) (hRL : RLt u v) (hP : va_P D vwCl (cw C A u ++ mw C B v) H) (hD : va_D (fun q : Nat => s.heap.size ≤ q) (cw C A u ++ mw C B v)) (hS : va_S (fun q : Nat => s.heap.size ≤ q) s.heap H locs) (hl : lv_has ls 4 [(3, .int (nI i)), (2, .ref (B 0)), (1, .ref (A 0)), (0, .ref b)])
    (kx : ∀ (u v : St) (H : Heap) (locs : List Loc) (ls : Array Slot), IC u → IM v → RLt u v → va_P D vwCl (cw C A u ++ mw C B v) H → va_D (fun q : Nat => s.heap.size ≤ q) (cw C A u ++ mw C B v) → va_S (fun q : Nat => s.heap.size ≤ q) s.heap H locs → lv_has ls 4 [(3, .int (nI i)), (2, .ref (B 0)), (1, .ref (A 0)), (0, .ref b)] → W p l e room_1 s m #[Value.ref b] below meth c H locs 180 4779 (lw_Z below #[Value.ref b] s) (F0 m 2362 ls [])) : W p l e room_1 s m #[Value.ref b] below meth c H locs 180 4779 (lw_Z below #[Value.ref b] s) (F0 m 1547 ls []) := by
  obtain ⟨hx, hb, hr, hml, hown, hts, hX, hbl, hlocks, hgv⟩ := id C0
  have hown : s.vm.findClass RL = some m.cls := hown
  have hb : c.code = cL_law := hb
  have hA : ∀ q : Nat, s.heap.size ≤ q → (fun q : Nat => s.heap.size ≤ q) q := fun _ h => h
  have hbA : ¬ (fun q : Nat => s.heap.size ≤ q) b := Nat.not_le.mpr hbl
  have hni : (nI i).toInt = (i : Int) := nI_toInt (by omega)
  refine lv_aload_n hx hb dL_law_1547 rfl (lv_at hl 2 rfl) ?_
  refine lv_aload_n hx hb dL_law_1548 rfl (lv_at hl 3 rfl) ?_
  refine lv_iload_n hx hb dL_law_1549 rfl (lv_at hl 0 rfl) ?_
  refine lv_iconst (v := 1) hx hb dL_law_1550 (by decide) ?_
  refine lv_iadd hx hb dL_law_1551 ?_
  refine p_nm (tt_add (X := (i : Int)) (Y := 1) hni (by decide) (by omega) (by omega)) (fun z1 hz1 => ?_)
  refine va_sld hx hb hX hbl hbA hS (i_ix hz1 (by omega) (by omega)) dL_law_1552 ?_
  refine pv_i (v := xs (i + 1)) (by rw [show Int32.toNatClampNeg z1 = i + 1 by have q9 := i_cl hz1 (by omega); omega]) ?_
  refine lv_aload_n hx hb dL_law_1553 rfl (lv_at hl 3 rfl) ?_
  refine lv_iload_n hx hb dL_law_1554 rfl (lv_at hl 0 rfl) ?_
  refine lv_iconst (v := 2) hx hb dL_law_1555 (by decide) ?_
  refine lv_iadd hx hb dL_law_1556 ?_
  refine p_nm (tt_add (X := (i : Int)) (Y := 2) hni (by decide) (by omega) (by omega)) (fun z2 hz2 => ?_)
  refine va_sld hx hb hX hbl hbA hS (i_ix hz2 (by omega) (by omega)) dL_law_1557 ?_
  refine pv_i (v := xs (i + 2)) (by rw [show Int32.toNatClampNeg z2 = i + 2 by have q9 := i_cl hz2 (by omega); omega]) ?_
  refine lv_aload_n hx hb dL_law_1558 rfl (lv_at hl 3 rfl) ?_
  refine lv_iload_n hx hb dL_law_1559 rfl (lv_at hl 0 rfl) ?_
  refine lv_iconst (v := 3) hx hb dL_law_1560 (by decide) ?_
  refine lv_iadd hx hb dL_law_1561 ?_
  refine p_nm (tt_add (X := (i : Int)) (Y := 3) hni (by decide) (by omega) (by omega)) (fun z3 hz3 => ?_)
  refine va_sld hx hb hX hbl hbA hS (i_ix hz3 (by omega) (by omega)) dL_law_1562 ?_
  refine pv_i (v := xs (i + 3)) (by rw [show Int32.toNatClampNeg z3 = i + 3 by have q9 := i_cl hz3 (by omega); omega]) ?_
  refine lcI (w := cw C A) (n := 3) (As := [.int (xs (i + 1)), .int (xs (i + 2)), .int (xs (i + 3))]) (rest := []) ⟨hx, hb, hml, hown, hts⟩ (fun _ h => uw_in h) (kX9_race_0 l D C A u hIC (xs (i + 1)) (xs (i + 1)).toInt rfl (xs (i + 2)) (xs (i + 2)).toInt rfl (xs (i + 3)) (xs (i + 3)).toInt rfl H.size) q_m979 q_n980 q_e981 q_i1 q_c982 hvX9_race ⟨(Nat.le_of_ble_eq_true rfl), (Nat.le_of_ble_eq_true rfl)⟩ ⟨(Nat.le_of_ble_eq_true rfl), (Nat.le_of_ble_eq_true rfl)⟩ hK hP hD hS hA Bl0 (fun _ _ _ => trivial) 9 0 rfl (cwc0 C A u) rfl hl.1 rfl (Nat.le_of_ble_eq_true rfl) dL_law_1563 (fun r4 u6 H locs p5 hP hD hS => ?_)
  obtain ⟨hu6, Uu6, p5⟩ := p5
  refine lv_pop hx hb dL_law_1566 rfl ?_
  refine lv_aload_n hx hb dL_law_1567 rfl (lv_at hl 1 rfl) ?_
  refine lv_aload_n hx hb dL_law_1568 rfl (lv_at hl 3 rfl) ?_
  refine lv_iload_n hx hb dL_law_1569 rfl (lv_at hl 0 rfl) ?_
  refine lv_iconst (v := 1) hx hb dL_law_1570 (by decide) ?_
  refine lv_iadd hx hb dL_law_1571 ?_
  refine p_nm (tt_add (X := (i : Int)) (Y := 1) hni (by decide) (by omega) (by omega)) (fun z7 hz7 => ?_)
  refine va_sld hx hb hX hbl hbA hS (i_ix hz7 (by omega) (by omega)) dL_law_1572 ?_
  refine pv_i (v := xs (i + 1)) (by rw [show Int32.toNatClampNeg z7 = i + 1 by have q9 := i_cl hz7 (by omega); omega]) ?_
  refine lv_aload_n hx hb dL_law_1573 rfl (lv_at hl 3 rfl) ?_
  refine lv_iload_n hx hb dL_law_1574 rfl (lv_at hl 0 rfl) ?_
  refine lv_iconst (v := 2) hx hb dL_law_1575 (by decide) ?_
  refine lv_iadd hx hb dL_law_1576 ?_
  refine p_nm (tt_add (X := (i : Int)) (Y := 2) hni (by decide) (by omega) (by omega)) (fun z8 hz8 => ?_)
  refine va_sld hx hb hX hbl hbA hS (i_ix hz8 (by omega) (by omega)) dL_law_1577 ?_
  refine pv_i (v := xs (i + 2)) (by rw [show Int32.toNatClampNeg z8 = i + 2 by have q9 := i_cl hz8 (by omega); omega]) ?_
  refine lv_aload_n hx hb dL_law_1578 rfl (lv_at hl 3 rfl) ?_
  refine lv_iload_n hx hb dL_law_1579 rfl (lv_at hl 0 rfl) ?_
  refine lv_iconst (v := 3) hx hb dL_law_1580 (by decide) ?_
  refine lv_iadd hx hb dL_law_1581 ?_
  refine p_nm (tt_add (X := (i : Int)) (Y := 3) hni (by decide) (by omega) (by omega)) (fun z9 hz9 => ?_)
  refine va_sld hx hb hX hbl hbA hS (i_ix hz9 (by omega) (by omega)) dL_law_1582 ?_
  refine pv_i (v := xs (i + 3)) (by rw [show Int32.toNatClampNeg z9 = i + 3 by have q9 := i_cl hz9 (by omega); omega]) ?_
  refine lcI (w := mw C B) (n := 3) (As := [.int (xs (i + 1)), .int (xs (i + 2)), .int (xs (i + 3))]) (rest := []) ⟨hx, hb, hml, hown, hts⟩ (fun _ h => uw_in h) (kX10_race_0 l D C B v hIM (xs (i + 1)) (xs (i + 1)).toInt rfl (xs (i + 2)) (xs (i + 2)).toInt rfl (xs (i + 3)) (xs (i + 3)).toInt rfl H.size) q_m1780 q_n1781 q_e1782 q_i11 q_c1783 hvX10_race ⟨(Nat.le_of_ble_eq_true rfl), (Nat.le_of_ble_eq_true rfl)⟩ ⟨(Nat.le_of_ble_eq_true rfl), (Nat.le_of_ble_eq_true rfl)⟩ hK hP hD hS hA Bl0 (fun _ _ _ => trivial) 10 0 rfl (mwc0 C B v) rfl hl.1 rfl (Nat.le_of_ble_eq_true rfl) dL_law_1583 (fun r10 u12 H locs p11 hP hD hS => ?_)
  obtain ⟨hu12, Uu12, p11⟩ := p11
  refine lv_pop hx hb dL_law_1586 rfl ?_
  refine lv_goto (tgt := 2362) hx hb dL_law_1587 (by decide) ?_
  exact kx u6 u12 H locs ls hu6 hu12 (hRL.un (Uu6.1 50 rfl) (Uu6.1 52 rfl) (Uu6.1 54 rfl) (Uu6.1 56 rfl) (Uu6.1 51 rfl) (Uu6.1 53 rfl) (Uu6.1 55 rfl) (Uu6.1 57 rfl) (Uu12.2.1 1 rfl) (Uu12.2.1 2 rfl)) hP hD hS hl
