set_option maxHeartbeats 4000000 in
set_option maxRecDepth 100000 in
theorem law_case_48 {p : Program} {l : Launch} {e : Env} {s : State} {m : MethodId} {below : List Frame} {meth : Method} {c : Code} {D : va_G} {C : Nat → ClassId} {b L i : Nat} {xs : Nat → Int32} {A B adK adV : Nat → Nat} {u v : St} {H : Heap} {locs : List Loc} {ls : Array Slot} (C0 : lw_At p s m meth c b L xs) (hLL : L ≤ 3072) (hiL : i + 6 ≤ L) (hK : va_K D vwCl (tyl C) s) (hXS : XS adK adV (fun q : Nat => s.heap.size ≤ q) s) (hIC : IC u) (hIM : IM v) (hRL : RLt u v) (hP : va_P D vwCl (cw C A u ++ mw C B v) H) (hD : va_D (fun q : Nat => s.heap.size ≤ q) (cw C A u ++ mw C B v)) (hS : va_S (fun q : Nat => s.heap.size ≤ q) s.heap H locs) (hl : lv_has ls 4 [(3, .int (nI i)), (2, .ref (B 0)), (1, .ref (A 0)), (0, .ref b)])
    (kx : ∀ (u v : St) (H : Heap) (locs : List Loc) (ls : Array Slot), IC u → IM v → RLt u v → va_P D vwCl (cw C A u ++ mw C B v) H → va_D (fun q : Nat => s.heap.size ≤ q) (cw C A u ++ mw C B v) → va_S (fun q : Nat => s.heap.size ≤ q) s.heap H locs → lv_has ls 4 [(3, .int (nI i)), (2, .ref (B 0)), (1, .ref (A 0)), (0, .ref b)] → W p l e room_1 s m #[Value.ref b] below meth c H locs 180 4779 (lw_Z below #[Value.ref b] s) (F0 m 2362 ls [])) : W p l e room_1 s m #[Value.ref b] below meth c H locs 180 4779 (lw_Z below #[Value.ref b] s) (F0 m 1590 ls []) := by
  obtain ⟨hx, hb, hr, hml, hown, hts, hX, hbl, hlocks, hgv⟩ := id C0
  have hown : s.vm.findClass RL = some m.cls := hown
  have hb : c.code = cL_law := hb
  have hA : ∀ q : Nat, s.heap.size ≤ q → (fun q : Nat => s.heap.size ≤ q) q := fun _ h => h
  have hbA : ¬ (fun q : Nat => s.heap.size ≤ q) b := Nat.not_le.mpr hbl
  have hni : (nI i).toInt = (i : Int) := nI_toInt (by omega)
  refine lv_aload_n hx hb dL_law_1590 rfl (lv_at hl 2 rfl) ?_
  refine lv_aload_n hx hb dL_law_1591 rfl (lv_at hl 3 rfl) ?_
  refine lv_iload_n hx hb dL_law_1592 rfl (lv_at hl 0 rfl) ?_
  refine lv_iconst (v := 1) hx hb dL_law_1593 (by decide) ?_
  refine lv_iadd hx hb dL_law_1594 ?_
  refine p_nm (tt_add (X := (i : Int)) (Y := 1) hni (by decide) (by omega) (by omega)) (fun z1 hz1 => ?_)
  refine va_sld hx hb hX hbl hbA hS (i_ix hz1 (by omega) (by omega)) dL_law_1595 ?_
  refine pv_i (v := xs (i + 1)) (by rw [show Int32.toNatClampNeg z1 = i + 1 by have q9 := i_cl hz1 (by omega); omega]) ?_
  refine lcI (w := cw C A) (n := 1) (As := [.int (xs (i + 1))]) (rest := []) ⟨hx, hb, hml, hown, hts⟩ (fun _ h => uw_in h) (kX9_away_0 l D C A u hIC (xs (i + 1)) (xs (i + 1)).toInt rfl H.size) q_m983 q_n984 q_e985 q_i1 q_c986 hvX9_away ⟨(Nat.le_of_ble_eq_true rfl), (Nat.le_of_ble_eq_true rfl)⟩ ⟨(Nat.le_of_ble_eq_true rfl), (Nat.le_of_ble_eq_true rfl)⟩ hK hP hD hS hA Bl0 (fun _ _ _ => trivial) 9 0 rfl (cwc0 C A u) rfl hl.1 rfl (Nat.le_of_ble_eq_true rfl) dL_law_1596 (fun r2 u4 H locs p3 hP hD hS => ?_)
  obtain ⟨hu4, Uu4, p3⟩ := p3
  refine lv_pop hx hb dL_law_1599 rfl ?_
  refine lv_aload_n hx hb dL_law_1600 rfl (lv_at hl 1 rfl) ?_
  refine lv_aload_n hx hb dL_law_1601 rfl (lv_at hl 3 rfl) ?_
  refine lv_iload_n hx hb dL_law_1602 rfl (lv_at hl 0 rfl) ?_
  refine lv_iconst (v := 1) hx hb dL_law_1603 (by decide) ?_
  refine lv_iadd hx hb dL_law_1604 ?_
  refine p_nm (tt_add (X := (i : Int)) (Y := 1) hni (by decide) (by omega) (by omega)) (fun z5 hz5 => ?_)
  refine va_sld hx hb hX hbl hbA hS (i_ix hz5 (by omega) (by omega)) dL_law_1605 ?_
  refine pv_i (v := xs (i + 1)) (by rw [show Int32.toNatClampNeg z5 = i + 1 by have q9 := i_cl hz5 (by omega); omega]) ?_
  refine lcI (w := mw C B) (n := 1) (As := [.int (xs (i + 1))]) (rest := []) ⟨hx, hb, hml, hown, hts⟩ (fun _ h => uw_in h) (kX10_away_0 l D C B v hIM (xs (i + 1)) (xs (i + 1)).toInt rfl H.size) q_m1784 q_n1785 q_e1786 q_i11 q_c1787 hvX10_away ⟨(Nat.le_of_ble_eq_true rfl), (Nat.le_of_ble_eq_true rfl)⟩ ⟨(Nat.le_of_ble_eq_true rfl), (Nat.le_of_ble_eq_true rfl)⟩ hK hP hD hS hA Bl0 (fun _ _ _ => trivial) 10 0 rfl (mwc0 C B v) rfl hl.1 rfl (Nat.le_of_ble_eq_true rfl) dL_law_1606 (fun r6 u8 H locs p7 hP hD hS => ?_)
  obtain ⟨hu8, Uu8, p7⟩ := p7
  refine lv_pop hx hb dL_law_1609 rfl ?_
  refine lv_goto (tgt := 2362) hx hb dL_law_1610 (by decide) ?_
  exact kx u4 u8 H locs ls hu4 hu8 (hRL.un (Uu4.1 50 rfl) (Uu4.1 52 rfl) (Uu4.1 54 rfl) (Uu4.1 56 rfl) (Uu4.1 51 rfl) (Uu4.1 53 rfl) (Uu4.1 55 rfl) (Uu4.1 57 rfl) (Uu8.2.1 1 rfl) (Uu8.2.1 2 rfl)) hP hD hS hl
set_option maxHeartbeats 4000000 in
set_option maxRecDepth 100000 in
theorem law_case_49 {p : Program} {l : Launch} {e : Env} {s : State} {m : MethodId} {below : List Frame} {meth : Method} {c : Code} {D : va_G} {C : Nat → ClassId} {b L i : Nat} {xs : Nat → Int32} {A B adK adV : Nat → Nat} {u v : St} {H : Heap} {locs : List Loc} {ls : Array Slot} (C0 : lw_At p s m meth c b L xs) (hLL : L ≤ 3072) (hiL : i + 6 ≤ L) (hK : va_K D vwCl (tyl C) s) (hXS : XS adK adV (fun q : Nat => s.heap.size ≤ q) s) (hIC : IC u) (hIM : IM v) (hRL : RLt u v) (hP : va_P D vwCl (cw C A u ++ mw C B v) H) (hD : va_D (fun q : Nat => s.heap.size ≤ q) (cw C A u ++ mw C B v)) (hS : va_S (fun q : Nat => s.heap.size ≤ q) s.heap H locs) (hl : lv_has ls 4 [(3, .int (nI i)), (2, .ref (B 0)), (1, .ref (A 0)), (0, .ref b)])
    (kx : ∀ (u v : St) (H : Heap) (locs : List Loc) (ls : Array Slot), IC u → IM v → RLt u v → va_P D vwCl (cw C A u ++ mw C B v) H → va_D (fun q : Nat => s.heap.size ≤ q) (cw C A u ++ mw C B v) → va_S (fun q : Nat => s.heap.size ≤ q) s.heap H locs → lv_has ls 4 [(3, .int (nI i)), (2, .ref (B 0)), (1, .ref (A 0)), (0, .ref b)] → W p l e room_1 s m #[Value.ref b] below meth c H locs 180 4779 (lw_Z below #[Value.ref b] s) (F0 m 2362 ls [])) : W p l e room_1 s m #[Value.ref b] below meth c H locs 180 4779 (lw_Z below #[Value.ref b] s) (F0 m 1613 ls []) := by
  obtain ⟨hx, hb, hr, hml, hown, hts, hX, hbl, hlocks, hgv⟩ := id C0
  have hown : s.vm.findClass RL = some m.cls := hown
  have hb : c.code = cL_law := hb
  have hA : ∀ q : Nat, s.heap.size ≤ q → (fun q : Nat => s.heap.size ≤ q) q := fun _ h => h
  have hbA : ¬ (fun q : Nat => s.heap.size ≤ q) b := Nat.not_le.mpr hbl
  have hni : (nI i).toInt = (i : Int) := nI_toInt (by omega)
  refine lv_aload_n hx hb dL_law_1613 rfl (lv_at hl 2 rfl) ?_
  refine lv_aload_n hx hb dL_law_1614 rfl (lv_at hl 3 rfl) ?_
  refine lv_iload_n hx hb dL_law_1615 rfl (lv_at hl 0 rfl) ?_
  refine lv_iconst (v := 1) hx hb dL_law_1616 (by decide) ?_
  refine lv_iadd hx hb dL_law_1617 ?_
  refine p_nm (tt_add (X := (i : Int)) (Y := 1) hni (by decide) (by omega) (by omega)) (fun z1 hz1 => ?_)
  refine va_sld hx hb hX hbl hbA hS (i_ix hz1 (by omega) (by omega)) dL_law_1618 ?_
  refine pv_i (v := xs (i + 1)) (by rw [show Int32.toNatClampNeg z1 = i + 1 by have q9 := i_cl hz1 (by omega); omega]) ?_
  refine lcI (w := cw C A) (n := 1) (As := [.int (xs (i + 1))]) (rest := []) ⟨hx, hb, hml, hown, hts⟩ (fun _ h => uw_in h) (kX9_gone_0 l D C A u hIC (xs (i + 1)) (xs (i + 1)).toInt rfl H.size) q_m1015 q_n1016 q_e1017 q_i1 q_c1018 hvX9_gone ⟨(Nat.le_of_ble_eq_true rfl), (Nat.le_of_ble_eq_true rfl)⟩ ⟨(Nat.le_of_ble_eq_true rfl), (Nat.le_of_ble_eq_true rfl)⟩ hK hP hD hS hA Bl0 (fun _ _ _ => trivial) 9 0 rfl (cwc0 C A u) rfl hl.1 rfl (Nat.le_of_ble_eq_true rfl) dL_law_1619 (fun r2 u4 H locs p3 hP hD hS => ?_)
  obtain ⟨hu4, Uu4, p3⟩ := p3
  refine lv_pop hx hb dL_law_1622 rfl ?_
  refine lv_aload_n hx hb dL_law_1623 rfl (lv_at hl 1 rfl) ?_
  refine lv_aload_n hx hb dL_law_1624 rfl (lv_at hl 3 rfl) ?_
  refine lv_iload_n hx hb dL_law_1625 rfl (lv_at hl 0 rfl) ?_
  refine lv_iconst (v := 1) hx hb dL_law_1626 (by decide) ?_
  refine lv_iadd hx hb dL_law_1627 ?_
  refine p_nm (tt_add (X := (i : Int)) (Y := 1) hni (by decide) (by omega) (by omega)) (fun z5 hz5 => ?_)
  refine va_sld hx hb hX hbl hbA hS (i_ix hz5 (by omega) (by omega)) dL_law_1628 ?_
  refine pv_i (v := xs (i + 1)) (by rw [show Int32.toNatClampNeg z5 = i + 1 by have q9 := i_cl hz5 (by omega); omega]) ?_
  refine lcI (w := mw C B) (n := 1) (As := [.int (xs (i + 1))]) (rest := []) ⟨hx, hb, hml, hown, hts⟩ (fun _ h => uw_in h) (kX10_gone_0 l D C B v hIM (xs (i + 1)) (xs (i + 1)).toInt rfl H.size) q_m1800 q_n1801 q_e1802 q_i11 q_c1803 hvX10_gone ⟨(Nat.le_of_ble_eq_true rfl), (Nat.le_of_ble_eq_true rfl)⟩ ⟨(Nat.le_of_ble_eq_true rfl), (Nat.le_of_ble_eq_true rfl)⟩ hK hP hD hS hA Bl0 (fun _ _ _ => trivial) 10 0 rfl (mwc0 C B v) rfl hl.1 rfl (Nat.le_of_ble_eq_true rfl) dL_law_1629 (fun r6 u8 H locs p7 hP hD hS => ?_)
  obtain ⟨hu8, Uu8, p7⟩ := p7
  refine lv_pop hx hb dL_law_1632 rfl ?_
  refine lv_goto (tgt := 2362) hx hb dL_law_1633 (by decide) ?_
  exact kx u4 u8 H locs ls hu4 hu8 (hRL.un (Uu4.1 50 rfl) (Uu4.1 52 rfl) (Uu4.1 54 rfl) (Uu4.1 56 rfl) (Uu4.1 51 rfl) (Uu4.1 53 rfl) (Uu4.1 55 rfl) (Uu4.1 57 rfl) (Uu8.2.1 1 rfl) (Uu8.2.1 2 rfl)) hP hD hS hl
set_option maxHeartbeats 4000000 in
set_option maxRecDepth 100000 in
theorem law_case_50 {p : Program} {l : Launch} {e : Env} {s : State} {m : MethodId} {below : List Frame} {meth : Method} {c : Code} {D : va_G} {C : Nat → ClassId} {b L i : Nat} {xs : Nat → Int32} {A B adK adV : Nat → Nat} {u v : St} {H : Heap} {locs : List Loc} {ls : Array Slot} (C0 : lw_At p s m meth c b L xs) (hLL : L ≤ 3072) (hiL : i + 6 ≤ L) (hK : va_K D vwCl (tyl C) s) (hXS : XS adK adV (fun q : Nat => s.heap.size ≤ q) s) (hIC : IC u) (hIM : IM v) (hRL : RLt u v) (hP : va_P D vwCl (cw C A u ++ mw C B v) H) (hD : va_D (fun q : Nat => s.heap.size ≤ q) (cw C A u ++ mw C B v)) (hS : va_S (fun q : Nat => s.heap.size ≤ q) s.heap H locs) (hl : lv_has ls 4 [(3, .int (nI i)), (2, .ref (B 0)), (1, .ref (A 0)), (0, .ref b)])
    (kx : ∀ (u v : St) (H : Heap) (locs : List Loc) (ls : Array Slot), IC u → IM v → RLt u v → va_P D vwCl (cw C A u ++ mw C B v) H → va_D (fun q : Nat => s.heap.size ≤ q) (cw C A u ++ mw C B v) → va_S (fun q : Nat => s.heap.size ≤ q) s.heap H locs → lv_has ls 4 [(3, .int (nI i)), (2, .ref (B 0)), (1, .ref (A 0)), (0, .ref b)] → W p l e room_1 s m #[Value.ref b] below meth c H locs 180 4779 (lw_Z below #[Value.ref b] s) (F0 m 2362 ls [])) : W p l e room_1 s m #[Value.ref b] below meth c H locs 180 4779 (lw_Z below #[Value.ref b] s) (F0 m 1636 ls []) := by
  obtain ⟨hx, hb, hr, hml, hown, hts, hX, hbl, hlocks, hgv⟩ := id C0
  have hown : s.vm.findClass RL = some m.cls := hown
  have hb : c.code = cL_law := hb
  have hA : ∀ q : Nat, s.heap.size ≤ q → (fun q : Nat => s.heap.size ≤ q) q := fun _ h => h
  have hbA : ¬ (fun q : Nat => s.heap.size ≤ q) b := Nat.not_le.mpr hbl
  have hni : (nI i).toInt = (i : Int) := nI_toInt (by omega)
  refine lv_aload_n hx hb dL_law_1636 rfl (lv_at hl 2 rfl) ?_
  refine lv_aload_n hx hb dL_law_1637 rfl (lv_at hl 3 rfl) ?_
  refine lv_iload_n hx hb dL_law_1638 rfl (lv_at hl 0 rfl) ?_
  refine lv_iconst (v := 1) hx hb dL_law_1639 (by decide) ?_
  refine lv_iadd hx hb dL_law_1640 ?_
  refine p_nm (tt_add (X := (i : Int)) (Y := 1) hni (by decide) (by omega) (by omega)) (fun z1 hz1 => ?_)
  refine va_sld hx hb hX hbl hbA hS (i_ix hz1 (by omega) (by omega)) dL_law_1641 ?_
  refine pv_i (v := xs (i + 1)) (by rw [show Int32.toNatClampNeg z1 = i + 1 by have q9 := i_cl hz1 (by omega); omega]) ?_
  refine lcI (w := cw C A) (n := 1) (As := [.int (xs (i + 1))]) (rest := []) ⟨hx, hb, hml, hown, hts⟩ (fun _ h => uw_in h) (kX9_surely_0 l D C A u hIC (xs (i + 1)) (xs (i + 1)).toInt rfl H.size) q_m1019 q_n1020 q_e1021 q_i1 q_c1022 hvX9_surely ⟨(Nat.le_of_ble_eq_true rfl), (Nat.le_of_ble_eq_true rfl)⟩ ⟨(Nat.le_of_ble_eq_true rfl), (Nat.le_of_ble_eq_true rfl)⟩ hK hP hD hS hA Bl0 (fun _ _ _ => trivial) 9 0 rfl (cwc0 C A u) rfl hl.1 rfl (Nat.le_of_ble_eq_true rfl) dL_law_1642 (fun r2 u4 H locs p3 hP hD hS => ?_)
  obtain ⟨hu4, Uu4, p3⟩ := p3
  refine lv_pop hx hb dL_law_1645 rfl ?_
  refine lv_aload_n hx hb dL_law_1646 rfl (lv_at hl 1 rfl) ?_
  refine lv_aload_n hx hb dL_law_1647 rfl (lv_at hl 3 rfl) ?_
  refine lv_iload_n hx hb dL_law_1648 rfl (lv_at hl 0 rfl) ?_
  refine lv_iconst (v := 1) hx hb dL_law_1649 (by decide) ?_
  refine lv_iadd hx hb dL_law_1650 ?_
  refine p_nm (tt_add (X := (i : Int)) (Y := 1) hni (by decide) (by omega) (by omega)) (fun z5 hz5 => ?_)
  refine va_sld hx hb hX hbl hbA hS (i_ix hz5 (by omega) (by omega)) dL_law_1651 ?_
  refine pv_i (v := xs (i + 1)) (by rw [show Int32.toNatClampNeg z5 = i + 1 by have q9 := i_cl hz5 (by omega); omega]) ?_
  refine lcI (w := mw C B) (n := 1) (As := [.int (xs (i + 1))]) (rest := []) ⟨hx, hb, hml, hown, hts⟩ (fun _ h => uw_in h) (kX10_surely_0 l D C B v hIM (xs (i + 1)) (xs (i + 1)).toInt rfl H.size) q_m1804 q_n1805 q_e1806 q_i11 q_c1807 hvX10_surely ⟨(Nat.le_of_ble_eq_true rfl), (Nat.le_of_ble_eq_true rfl)⟩ ⟨(Nat.le_of_ble_eq_true rfl), (Nat.le_of_ble_eq_true rfl)⟩ hK hP hD hS hA Bl0 (fun _ _ _ => trivial) 10 0 rfl (mwc0 C B v) rfl hl.1 rfl (Nat.le_of_ble_eq_true rfl) dL_law_1652 (fun r6 u8 H locs p7 hP hD hS => ?_)
  obtain ⟨hu8, Uu8, p7⟩ := p7
  refine lv_pop hx hb dL_law_1655 rfl ?_
  refine lv_goto (tgt := 2362) hx hb dL_law_1656 (by decide) ?_
  exact kx u4 u8 H locs ls hu4 hu8 (hRL.un (Uu4.1 50 rfl) (Uu4.1 52 rfl) (Uu4.1 54 rfl) (Uu4.1 56 rfl) (Uu4.1 51 rfl) (Uu4.1 53 rfl) (Uu4.1 55 rfl) (Uu4.1 57 rfl) (Uu8.2.1 1 rfl) (Uu8.2.1 2 rfl)) hP hD hS hl
set_option maxHeartbeats 4000000 in
set_option maxRecDepth 100000 in
theorem law_case_51 {p : Program} {l : Launch} {e : Env} {s : State} {m : MethodId} {below : List Frame} {meth : Method} {c : Code} {D : va_G} {C : Nat → ClassId} {b L i : Nat} {xs : Nat → Int32} {A B adK adV : Nat → Nat} {u v : St} {H : Heap} {locs : List Loc} {ls : Array Slot} (C0 : lw_At p s m meth c b L xs) (hLL : L ≤ 3072) (hiL : i + 6 ≤ L) (hK : va_K D vwCl (tyl C) s) (hXS : XS adK adV (fun q : Nat => s.heap.size ≤ q) s) (hIC : IC u) (hIM : IM v) (hRL : RLt u v) (hP : va_P D vwCl (cw C A u ++ mw C B v) H) (hD : va_D (fun q : Nat => s.heap.size ≤ q) (cw C A u ++ mw C B v)) (hS : va_S (fun q : Nat => s.heap.size ≤ q) s.heap H locs) (hl : lv_has ls 4 [(3, .int (nI i)), (2, .ref (B 0)), (1, .ref (A 0)), (0, .ref b)])
    (kx : ∀ (u v : St) (H : Heap) (locs : List Loc) (ls : Array Slot), IC u → IM v → RLt u v → va_P D vwCl (cw C A u ++ mw C B v) H → va_D (fun q : Nat => s.heap.size ≤ q) (cw C A u ++ mw C B v) → va_S (fun q : Nat => s.heap.size ≤ q) s.heap H locs → lv_has ls 4 [(3, .int (nI i)), (2, .ref (B 0)), (1, .ref (A 0)), (0, .ref b)] → W p l e room_1 s m #[Value.ref b] below meth c H locs 180 4779 (lw_Z below #[Value.ref b] s) (F0 m 2362 ls [])) : W p l e room_1 s m #[Value.ref b] below meth c H locs 180 4779 (lw_Z below #[Value.ref b] s) (F0 m 1659 ls []) := by
  obtain ⟨hx, hb, hr, hml, hown, hts, hX, hbl, hlocks, hgv⟩ := id C0
  have hown : s.vm.findClass RL = some m.cls := hown
  have hb : c.code = cL_law := hb
  have hA : ∀ q : Nat, s.heap.size ≤ q → (fun q : Nat => s.heap.size ≤ q) q := fun _ h => h
  have hbA : ¬ (fun q : Nat => s.heap.size ≤ q) b := Nat.not_le.mpr hbl
  have hni : (nI i).toInt = (i : Int) := nI_toInt (by omega)
  refine lv_aload_n hx hb dL_law_1659 rfl (lv_at hl 2 rfl) ?_
  refine lv_aload_n hx hb dL_law_1660 rfl (lv_at hl 3 rfl) ?_
  refine lv_iload_n hx hb dL_law_1661 rfl (lv_at hl 0 rfl) ?_
  refine lv_iconst (v := 1) hx hb dL_law_1662 (by decide) ?_
  refine lv_iadd hx hb dL_law_1663 ?_
  refine p_nm (tt_add (X := (i : Int)) (Y := 1) hni (by decide) (by omega) (by omega)) (fun z1 hz1 => ?_)
  refine va_sld hx hb hX hbl hbA hS (i_ix hz1 (by omega) (by omega)) dL_law_1664 ?_
  refine pv_i (v := xs (i + 1)) (by rw [show Int32.toNatClampNeg z1 = i + 1 by have q9 := i_cl hz1 (by omega); omega]) ?_
  refine lcI (w := cw C A) (n := 1) (As := [.int (xs (i + 1))]) (rest := []) ⟨hx, hb, hml, hown, hts⟩ (fun _ h => uw_in h) (kX9_ask_0 l D C A u hIC (xs (i + 1)) (xs (i + 1)).toInt rfl H.size) q_m1023 q_n1024 q_e1025 q_i1 q_c1026 hvX9_ask ⟨(Nat.le_of_ble_eq_true rfl), (Nat.le_of_ble_eq_true rfl)⟩ ⟨(Nat.le_of_ble_eq_true rfl), (Nat.le_of_ble_eq_true rfl)⟩ hK hP hD hS hA Bl0 (fun _ _ _ => trivial) 9 0 rfl (cwc0 C A u) rfl hl.1 rfl (Nat.le_of_ble_eq_true rfl) dL_law_1665 (fun r2 u4 H locs p3 hP hD hS => ?_)
  obtain ⟨hu4, Uu4, p3⟩ := p3
  refine lv_pop hx hb dL_law_1668 rfl ?_
  refine lv_aload_n hx hb dL_law_1669 rfl (lv_at hl 1 rfl) ?_
  refine lv_aload_n hx hb dL_law_1670 rfl (lv_at hl 3 rfl) ?_
  refine lv_iload_n hx hb dL_law_1671 rfl (lv_at hl 0 rfl) ?_
  refine lv_iconst (v := 1) hx hb dL_law_1672 (by decide) ?_
  refine lv_iadd hx hb dL_law_1673 ?_
  refine p_nm (tt_add (X := (i : Int)) (Y := 1) hni (by decide) (by omega) (by omega)) (fun z5 hz5 => ?_)
  refine va_sld hx hb hX hbl hbA hS (i_ix hz5 (by omega) (by omega)) dL_law_1674 ?_
  refine pv_i (v := xs (i + 1)) (by rw [show Int32.toNatClampNeg z5 = i + 1 by have q9 := i_cl hz5 (by omega); omega]) ?_
  refine lcI (w := mw C B) (n := 1) (As := [.int (xs (i + 1))]) (rest := []) ⟨hx, hb, hml, hown, hts⟩ (fun _ h => uw_in h) (kX10_ask_0 l D C B v hIM (xs (i + 1)) (xs (i + 1)).toInt rfl H.size) q_m1808 q_n1809 q_e1810 q_i11 q_c1811 hvX10_ask ⟨(Nat.le_of_ble_eq_true rfl), (Nat.le_of_ble_eq_true rfl)⟩ ⟨(Nat.le_of_ble_eq_true rfl), (Nat.le_of_ble_eq_true rfl)⟩ hK hP hD hS hA Bl0 (fun _ _ _ => trivial) 10 0 rfl (mwc0 C B v) rfl hl.1 rfl (Nat.le_of_ble_eq_true rfl) dL_law_1675 (fun r6 u8 H locs p7 hP hD hS => ?_)
  obtain ⟨hu8, Uu8, p7⟩ := p7
  refine lv_pop hx hb dL_law_1678 rfl ?_
  refine lv_goto (tgt := 2362) hx hb dL_law_1679 (by decide) ?_
  exact kx u4 u8 H locs ls hu4 hu8 (hRL.un (Uu4.1 50 rfl) (Uu4.1 52 rfl) (Uu4.1 54 rfl) (Uu4.1 56 rfl) (Uu4.1 51 rfl) (Uu4.1 53 rfl) (Uu4.1 55 rfl) (Uu4.1 57 rfl) (Uu8.2.1 1 rfl) (Uu8.2.1 2 rfl)) hP hD hS hl
set_option maxHeartbeats 4000000 in
set_option maxRecDepth 100000 in
theorem law_case_52 {p : Program} {l : Launch} {e : Env} {s : State} {m : MethodId} {below : List Frame} {meth : Method} {c : Code} {D : va_G} {C : Nat → ClassId} {b L i : Nat} {xs : Nat → Int32} {A B adK adV : Nat → Nat} {u v : St} {H : Heap} {locs : List Loc} {ls : Array Slot} (C0 : lw_At p s m meth c b L xs) (hLL : L ≤ 3072) (hiL : i + 6 ≤ L) (hK : va_K D vwCl (tyl C) s) (hXS : XS adK adV (fun q : Nat => s.heap.size ≤ q) s) (hIC : IC u) (hIM : IM v) (hRL : RLt u v) (hP : va_P D vwCl (cw C A u ++ mw C B v) H) (hD : va_D (fun q : Nat => s.heap.size ≤ q) (cw C A u ++ mw C B v)) (hS : va_S (fun q : Nat => s.heap.size ≤ q) s.heap H locs) (hl : lv_has ls 4 [(3, .int (nI i)), (2, .ref (B 0)), (1, .ref (A 0)), (0, .ref b)])
    (kx : ∀ (u v : St) (H : Heap) (locs : List Loc) (ls : Array Slot), IC u → IM v → RLt u v → va_P D vwCl (cw C A u ++ mw C B v) H → va_D (fun q : Nat => s.heap.size ≤ q) (cw C A u ++ mw C B v) → va_S (fun q : Nat => s.heap.size ≤ q) s.heap H locs → lv_has ls 4 [(3, .int (nI i)), (2, .ref (B 0)), (1, .ref (A 0)), (0, .ref b)] → W p l e room_1 s m #[Value.ref b] below meth c H locs 180 4779 (lw_Z below #[Value.ref b] s) (F0 m 2362 ls [])) : W p l e room_1 s m #[Value.ref b] below meth c H locs 180 4779 (lw_Z below #[Value.ref b] s) (F0 m 1682 ls []) := by
  obtain ⟨hx, hb, hr, hml, hown, hts, hX, hbl, hlocks, hgv⟩ := id C0
  have hown : s.vm.findClass RL = some m.cls := hown
  have hb : c.code = cL_law := hb
  have hA : ∀ q : Nat, s.heap.size ≤ q → (fun q : Nat => s.heap.size ≤ q) q := fun _ h => h
  have hbA : ¬ (fun q : Nat => s.heap.size ≤ q) b := Nat.not_le.mpr hbl
  have hni : (nI i).toInt = (i : Int) := nI_toInt (by omega)
  refine lv_aload_n hx hb dL_law_1682 rfl (lv_at hl 2 rfl) ?_
  refine lv_aload_n hx hb dL_law_1683 rfl (lv_at hl 3 rfl) ?_
  refine lv_iload_n hx hb dL_law_1684 rfl (lv_at hl 0 rfl) ?_
  refine lv_iconst (v := 1) hx hb dL_law_1685 (by decide) ?_
  refine lv_iadd hx hb dL_law_1686 ?_
  refine p_nm (tt_add (X := (i : Int)) (Y := 1) hni (by decide) (by omega) (by omega)) (fun z1 hz1 => ?_)
  refine va_sld hx hb hX hbl hbA hS (i_ix hz1 (by omega) (by omega)) dL_law_1687 ?_
  refine pv_i (v := xs (i + 1)) (by rw [show Int32.toNatClampNeg z1 = i + 1 by have q9 := i_cl hz1 (by omega); omega]) ?_
  refine lcI (w := cw C A) (n := 1) (As := [.int (xs (i + 1))]) (rest := []) ⟨hx, hb, hml, hown, hts⟩ (fun _ h => uw_in h) (kX9_under_0 l D C A u hIC (xs (i + 1)) (xs (i + 1)).toInt rfl H.size) q_m1032 q_n1033 q_e1034 q_i1 q_c1035 hvX9_under ⟨(Nat.le_of_ble_eq_true rfl), (Nat.le_of_ble_eq_true rfl)⟩ ⟨(Nat.le_of_ble_eq_true rfl), (Nat.le_of_ble_eq_true rfl)⟩ hK hP hD hS hA Bl0 (fun _ _ _ => trivial) 9 0 rfl (cwc0 C A u) rfl hl.1 rfl (Nat.le_of_ble_eq_true rfl) dL_law_1688 (fun r2 u4 H locs p3 hP hD hS => ?_)
  obtain ⟨hu4, Uu4, p3⟩ := p3
  refine lv_pop hx hb dL_law_1691 rfl ?_
  refine lv_aload_n hx hb dL_law_1692 rfl (lv_at hl 1 rfl) ?_
  refine lv_aload_n hx hb dL_law_1693 rfl (lv_at hl 3 rfl) ?_
  refine lv_iload_n hx hb dL_law_1694 rfl (lv_at hl 0 rfl) ?_
  refine lv_iconst (v := 1) hx hb dL_law_1695 (by decide) ?_
  refine lv_iadd hx hb dL_law_1696 ?_
  refine p_nm (tt_add (X := (i : Int)) (Y := 1) hni (by decide) (by omega) (by omega)) (fun z5 hz5 => ?_)
  refine va_sld hx hb hX hbl hbA hS (i_ix hz5 (by omega) (by omega)) dL_law_1697 ?_
  refine pv_i (v := xs (i + 1)) (by rw [show Int32.toNatClampNeg z5 = i + 1 by have q9 := i_cl hz5 (by omega); omega]) ?_
  refine lcI (w := mw C B) (n := 1) (As := [.int (xs (i + 1))]) (rest := []) ⟨hx, hb, hml, hown, hts⟩ (fun _ h => uw_in h) (kX10_under_0 l D C B v hIM (xs (i + 1)) (xs (i + 1)).toInt rfl H.size) q_m1812 q_n1813 q_e1814 q_i11 q_c1815 hvX10_under ⟨(Nat.le_of_ble_eq_true rfl), (Nat.le_of_ble_eq_true rfl)⟩ ⟨(Nat.le_of_ble_eq_true rfl), (Nat.le_of_ble_eq_true rfl)⟩ hK hP hD hS hA Bl0 (fun _ _ _ => trivial) 10 0 rfl (mwc0 C B v) rfl hl.1 rfl (Nat.le_of_ble_eq_true rfl) dL_law_1698 (fun r6 u8 H locs p7 hP hD hS => ?_)
  obtain ⟨hu8, Uu8, p7⟩ := p7
  refine lv_pop hx hb dL_law_1701 rfl ?_
  refine lv_goto (tgt := 2362) hx hb dL_law_1702 (by decide) ?_
  exact kx u4 u8 H locs ls hu4 hu8 (hRL.un (Uu4.1 50 rfl) (Uu4.1 52 rfl) (Uu4.1 54 rfl) (Uu4.1 56 rfl) (Uu4.1 51 rfl) (Uu4.1 53 rfl) (Uu4.1 55 rfl) (Uu4.1 57 rfl) (Uu8.2.1 1 rfl) (Uu8.2.1 2 rfl)) hP hD hS hl
set_option maxHeartbeats 4000000 in
set_option maxRecDepth 100000 in
theorem law_case_53 {p : Program} {l : Launch} {e : Env} {s : State} {m : MethodId} {below : List Frame} {meth : Method} {c : Code} {D : va_G} {C : Nat → ClassId} {b L i : Nat} {xs : Nat → Int32} {A B adK adV : Nat → Nat} {u v : St} {H : Heap} {locs : List Loc} {ls : Array Slot} (C0 : lw_At p s m meth c b L xs) (hLL : L ≤ 3072) (hiL : i + 6 ≤ L) (hK : va_K D vwCl (tyl C) s) (hXS : XS adK adV (fun q : Nat => s.heap.size ≤ q) s) (hIC : IC u) (hIM : IM v) (hRL : RLt u v) (hP : va_P D vwCl (cw C A u ++ mw C B v) H) (hD : va_D (fun q : Nat => s.heap.size ≤ q) (cw C A u ++ mw C B v)) (hS : va_S (fun q : Nat => s.heap.size ≤ q) s.heap H locs) (hl : lv_has ls 4 [(3, .int (nI i)), (2, .ref (B 0)), (1, .ref (A 0)), (0, .ref b)])
    (kx : ∀ (u v : St) (H : Heap) (locs : List Loc) (ls : Array Slot), IC u → IM v → RLt u v → va_P D vwCl (cw C A u ++ mw C B v) H → va_D (fun q : Nat => s.heap.size ≤ q) (cw C A u ++ mw C B v) → va_S (fun q : Nat => s.heap.size ≤ q) s.heap H locs → lv_has ls 4 [(3, .int (nI i)), (2, .ref (B 0)), (1, .ref (A 0)), (0, .ref b)] → W p l e room_1 s m #[Value.ref b] below meth c H locs 180 4779 (lw_Z below #[Value.ref b] s) (F0 m 2362 ls [])) : W p l e room_1 s m #[Value.ref b] below meth c H locs 180 4779 (lw_Z below #[Value.ref b] s) (F0 m 1705 ls []) := by
  obtain ⟨hx, hb, hr, hml, hown, hts, hX, hbl, hlocks, hgv⟩ := id C0
  have hown : s.vm.findClass RL = some m.cls := hown
  have hb : c.code = cL_law := hb
  have hA : ∀ q : Nat, s.heap.size ≤ q → (fun q : Nat => s.heap.size ≤ q) q := fun _ h => h
  have hbA : ¬ (fun q : Nat => s.heap.size ≤ q) b := Nat.not_le.mpr hbl
  have hni : (nI i).toInt = (i : Int) := nI_toInt (by omega)
  refine lv_aload_n hx hb dL_law_1705 rfl (lv_at hl 2 rfl) ?_
  refine lv_aload_n hx hb dL_law_1706 rfl (lv_at hl 3 rfl) ?_
  refine lv_iload_n hx hb dL_law_1707 rfl (lv_at hl 0 rfl) ?_
  refine lv_iconst (v := 1) hx hb dL_law_1708 (by decide) ?_
  refine lv_iadd hx hb dL_law_1709 ?_
  refine p_nm (tt_add (X := (i : Int)) (Y := 1) hni (by decide) (by omega) (by omega)) (fun z1 hz1 => ?_)
  refine va_sld hx hb hX hbl hbA hS (i_ix hz1 (by omega) (by omega)) dL_law_1710 ?_
  refine pv_i (v := xs (i + 1)) (by rw [show Int32.toNatClampNeg z1 = i + 1 by have q9 := i_cl hz1 (by omega); omega]) ?_
  refine lcI (w := cw C A) (n := 1) (As := [.int (xs (i + 1))]) (rest := []) ⟨hx, hb, hml, hown, hts⟩ (fun _ h => uw_in h) (kX9_floor_0 l D C A u hIC (xs (i + 1)) (xs (i + 1)).toInt rfl H.size) q_m1048 q_n1049 q_e1050 q_i1 q_c1051 hvX9_floor ⟨(Nat.le_of_ble_eq_true rfl), (Nat.le_of_ble_eq_true rfl)⟩ ⟨(Nat.le_of_ble_eq_true rfl), (Nat.le_of_ble_eq_true rfl)⟩ hK hP hD hS hA Bl0 (fun _ _ _ => trivial) 9 0 rfl (cwc0 C A u) rfl hl.1 rfl (Nat.le_of_ble_eq_true rfl) dL_law_1711 (fun r2 u4 H locs p3 hP hD hS => ?_)
  obtain ⟨hu4, Uu4, p3⟩ := p3
  refine lv_pop hx hb dL_law_1714 rfl ?_
  refine lv_aload_n hx hb dL_law_1715 rfl (lv_at hl 1 rfl) ?_
  refine lv_aload_n hx hb dL_law_1716 rfl (lv_at hl 3 rfl) ?_
  refine lv_iload_n hx hb dL_law_1717 rfl (lv_at hl 0 rfl) ?_
  refine lv_iconst (v := 1) hx hb dL_law_1718 (by decide) ?_
  refine lv_iadd hx hb dL_law_1719 ?_
  refine p_nm (tt_add (X := (i : Int)) (Y := 1) hni (by decide) (by omega) (by omega)) (fun z5 hz5 => ?_)
  refine va_sld hx hb hX hbl hbA hS (i_ix hz5 (by omega) (by omega)) dL_law_1720 ?_
  refine pv_i (v := xs (i + 1)) (by rw [show Int32.toNatClampNeg z5 = i + 1 by have q9 := i_cl hz5 (by omega); omega]) ?_
  refine lcI (w := mw C B) (n := 1) (As := [.int (xs (i + 1))]) (rest := []) ⟨hx, hb, hml, hown, hts⟩ (fun _ h => uw_in h) (kX10_floor_0 l D C B v hIM (xs (i + 1)) (xs (i + 1)).toInt rfl H.size) q_m1820 q_n1821 q_e1822 q_i11 q_c1823 hvX10_floor ⟨(Nat.le_of_ble_eq_true rfl), (Nat.le_of_ble_eq_true rfl)⟩ ⟨(Nat.le_of_ble_eq_true rfl), (Nat.le_of_ble_eq_true rfl)⟩ hK hP hD hS hA Bl0 (fun _ _ _ => trivial) 10 0 rfl (mwc0 C B v) rfl hl.1 rfl (Nat.le_of_ble_eq_true rfl) dL_law_1721 (fun r6 u8 H locs p7 hP hD hS => ?_)
  obtain ⟨hu8, Uu8, p7⟩ := p7
  refine lv_pop hx hb dL_law_1724 rfl ?_
  refine lv_goto (tgt := 2362) hx hb dL_law_1725 (by decide) ?_
  exact kx u4 u8 H locs ls hu4 hu8 (hRL.un (Uu4.1 50 rfl) (Uu4.1 52 rfl) (Uu4.1 54 rfl) (Uu4.1 56 rfl) (Uu4.1 51 rfl) (Uu4.1 53 rfl) (Uu4.1 55 rfl) (Uu4.1 57 rfl) (Uu8.2.1 1 rfl) (Uu8.2.1 2 rfl)) hP hD hS hl
set_option maxHeartbeats 4000000 in
set_option maxRecDepth 100000 in
theorem law_case_54 {p : Program} {l : Launch} {e : Env} {s : State} {m : MethodId} {below : List Frame} {meth : Method} {c : Code} {D : va_G} {C : Nat → ClassId} {b L i : Nat} {xs : Nat → Int32} {A B adK adV : Nat → Nat} {u v : St} {H : Heap} {locs : List Loc} {ls : Array Slot} (C0 : lw_At p s m meth c b L xs) (hLL : L ≤ 3072) (hiL : i + 6 ≤ L) (hK : va_K D vwCl (tyl C) s) (hXS : XS adK adV (fun q : Nat => s.heap.size ≤ q) s) (hIC : IC u) (hIM : IM v) (hRL : RLt u v) (hP : va_P D vwCl (cw C A u ++ mw C B v) H) (hD : va_D (fun q : Nat => s.heap.size ≤ q) (cw C A u ++ mw C B v)) (hS : va_S (fun q : Nat => s.heap.size ≤ q) s.heap H locs) (hl : lv_has ls 4 [(3, .int (nI i)), (2, .ref (B 0)), (1, .ref (A 0)), (0, .ref b)])
    (kx : ∀ (u v : St) (H : Heap) (locs : List Loc) (ls : Array Slot), IC u → IM v → RLt u v → va_P D vwCl (cw C A u ++ mw C B v) H → va_D (fun q : Nat => s.heap.size ≤ q) (cw C A u ++ mw C B v) → va_S (fun q : Nat => s.heap.size ≤ q) s.heap H locs → lv_has ls 4 [(3, .int (nI i)), (2, .ref (B 0)), (1, .ref (A 0)), (0, .ref b)] → W p l e room_1 s m #[Value.ref b] below meth c H locs 180 4779 (lw_Z below #[Value.ref b] s) (F0 m 2362 ls [])) : W p l e room_1 s m #[Value.ref b] below meth c H locs 180 4779 (lw_Z below #[Value.ref b] s) (F0 m 1728 ls []) := by
  obtain ⟨hx, hb, hr, hml, hown, hts, hX, hbl, hlocks, hgv⟩ := id C0
  have hown : s.vm.findClass RL = some m.cls := hown
  have hb : c.code = cL_law := hb
  have hA : ∀ q : Nat, s.heap.size ≤ q → (fun q : Nat => s.heap.size ≤ q) q := fun _ h => h
  have hbA : ¬ (fun q : Nat => s.heap.size ≤ q) b := Nat.not_le.mpr hbl
  have hni : (nI i).toInt = (i : Int) := nI_toInt (by omega)
  refine lv_aload_n hx hb dL_law_1728 rfl (lv_at hl 2 rfl) ?_
  refine lv_aload_n hx hb dL_law_1729 rfl (lv_at hl 3 rfl) ?_
  refine lv_iload_n hx hb dL_law_1730 rfl (lv_at hl 0 rfl) ?_
  refine lv_iconst (v := 1) hx hb dL_law_1731 (by decide) ?_
  refine lv_iadd hx hb dL_law_1732 ?_
  refine p_nm (tt_add (X := (i : Int)) (Y := 1) hni (by decide) (by omega) (by omega)) (fun z1 hz1 => ?_)
  refine va_sld hx hb hX hbl hbA hS (i_ix hz1 (by omega) (by omega)) dL_law_1733 ?_
  refine pv_i (v := xs (i + 1)) (by rw [show Int32.toNatClampNeg z1 = i + 1 by have q9 := i_cl hz1 (by omega); omega]) ?_
  refine lv_aload_n hx hb dL_law_1734 rfl (lv_at hl 3 rfl) ?_
  refine lv_iload_n hx hb dL_law_1735 rfl (lv_at hl 0 rfl) ?_
  refine lv_iconst (v := 2) hx hb dL_law_1736 (by decide) ?_
  refine lv_iadd hx hb dL_law_1737 ?_
  refine p_nm (tt_add (X := (i : Int)) (Y := 2) hni (by decide) (by omega) (by omega)) (fun z2 hz2 => ?_)
  refine va_sld hx hb hX hbl hbA hS (i_ix hz2 (by omega) (by omega)) dL_law_1738 ?_
  refine pv_i (v := xs (i + 2)) (by rw [show Int32.toNatClampNeg z2 = i + 2 by have q9 := i_cl hz2 (by omega); omega]) ?_
  refine lv_aload_n hx hb dL_law_1739 rfl (lv_at hl 3 rfl) ?_
  refine lv_iload_n hx hb dL_law_1740 rfl (lv_at hl 0 rfl) ?_
  refine lv_iconst (v := 3) hx hb dL_law_1741 (by decide) ?_
  refine lv_iadd hx hb dL_law_1742 ?_
  refine p_nm (tt_add (X := (i : Int)) (Y := 3) hni (by decide) (by omega) (by omega)) (fun z3 hz3 => ?_)
  refine va_sld hx hb hX hbl hbA hS (i_ix hz3 (by omega) (by omega)) dL_law_1743 ?_
  refine pv_i (v := xs (i + 3)) (by rw [show Int32.toNatClampNeg z3 = i + 3 by have q9 := i_cl hz3 (by omega); omega]) ?_
  refine lcI (w := cw C A) (n := 3) (As := [.int (xs (i + 1)), .int (xs (i + 2)), .int (xs (i + 3))]) (rest := []) ⟨hx, hb, hml, hown, hts⟩ (fun _ h => uw_in h) (kX9_chance_0 l D C A u hIC (xs (i + 1)) (xs (i + 1)).toInt rfl (xs (i + 2)) (xs (i + 2)).toInt rfl (xs (i + 3)) (xs (i + 3)).toInt rfl H.size) q_m1052 q_n1053 q_e1054 q_i1 q_c1055 hvX9_chance ⟨(Nat.le_of_ble_eq_true rfl), (Nat.le_of_ble_eq_true rfl)⟩ ⟨(Nat.le_of_ble_eq_true rfl), (Nat.le_of_ble_eq_true rfl)⟩ hK hP hD hS hA Bl0 (fun _ _ _ => trivial) 9 0 rfl (cwc0 C A u) rfl hl.1 rfl (Nat.le_of_ble_eq_true rfl) dL_law_1744 (fun r4 u6 H locs p5 hP hD hS => ?_)
  obtain ⟨hu6, Uu6, p5⟩ := p5
  refine lv_pop hx hb dL_law_1747 rfl ?_
  refine lv_aload_n hx hb dL_law_1748 rfl (lv_at hl 1 rfl) ?_
  refine lv_aload_n hx hb dL_law_1749 rfl (lv_at hl 3 rfl) ?_
  refine lv_iload_n hx hb dL_law_1750 rfl (lv_at hl 0 rfl) ?_
  refine lv_iconst (v := 1) hx hb dL_law_1751 (by decide) ?_
  refine lv_iadd hx hb dL_law_1752 ?_
  refine p_nm (tt_add (X := (i : Int)) (Y := 1) hni (by decide) (by omega) (by omega)) (fun z7 hz7 => ?_)
  refine va_sld hx hb hX hbl hbA hS (i_ix hz7 (by omega) (by omega)) dL_law_1753 ?_
  refine pv_i (v := xs (i + 1)) (by rw [show Int32.toNatClampNeg z7 = i + 1 by have q9 := i_cl hz7 (by omega); omega]) ?_
  refine lv_aload_n hx hb dL_law_1754 rfl (lv_at hl 3 rfl) ?_
  refine lv_iload_n hx hb dL_law_1755 rfl (lv_at hl 0 rfl) ?_
  refine lv_iconst (v := 2) hx hb dL_law_1756 (by decide) ?_
  refine lv_iadd hx hb dL_law_1757 ?_
  refine p_nm (tt_add (X := (i : Int)) (Y := 2) hni (by decide) (by omega) (by omega)) (fun z8 hz8 => ?_)
  refine va_sld hx hb hX hbl hbA hS (i_ix hz8 (by omega) (by omega)) dL_law_1758 ?_
  refine pv_i (v := xs (i + 2)) (by rw [show Int32.toNatClampNeg z8 = i + 2 by have q9 := i_cl hz8 (by omega); omega]) ?_
  refine lv_aload_n hx hb dL_law_1759 rfl (lv_at hl 3 rfl) ?_
  refine lv_iload_n hx hb dL_law_1760 rfl (lv_at hl 0 rfl) ?_
  refine lv_iconst (v := 3) hx hb dL_law_1761 (by decide) ?_
  refine lv_iadd hx hb dL_law_1762 ?_
  refine p_nm (tt_add (X := (i : Int)) (Y := 3) hni (by decide) (by omega) (by omega)) (fun z9 hz9 => ?_)
  refine va_sld hx hb hX hbl hbA hS (i_ix hz9 (by omega) (by omega)) dL_law_1763 ?_
  refine pv_i (v := xs (i + 3)) (by rw [show Int32.toNatClampNeg z9 = i + 3 by have q9 := i_cl hz9 (by omega); omega]) ?_
  refine lcI (w := mw C B) (n := 3) (As := [.int (xs (i + 1)), .int (xs (i + 2)), .int (xs (i + 3))]) (rest := []) ⟨hx, hb, hml, hown, hts⟩ (fun _ h => uw_in h) (kX10_chance_0 l D C B v hIM (xs (i + 1)) (xs (i + 1)).toInt rfl (xs (i + 2)) (xs (i + 2)).toInt rfl (xs (i + 3)) (xs (i + 3)).toInt rfl H.size) q_m1824 q_n1825 q_e1826 q_i11 q_c1827 hvX10_chance ⟨(Nat.le_of_ble_eq_true rfl), (Nat.le_of_ble_eq_true rfl)⟩ ⟨(Nat.le_of_ble_eq_true rfl), (Nat.le_of_ble_eq_true rfl)⟩ hK hP hD hS hA Bl0 (fun _ _ _ => trivial) 10 0 rfl (mwc0 C B v) rfl hl.1 rfl (Nat.le_of_ble_eq_true rfl) dL_law_1764 (fun r10 u12 H locs p11 hP hD hS => ?_)
  obtain ⟨hu12, Uu12, p11⟩ := p11
  refine lv_pop hx hb dL_law_1767 rfl ?_
  refine lv_goto (tgt := 2362) hx hb dL_law_1768 (by decide) ?_
  exact kx u6 u12 H locs ls hu6 hu12 (hRL.un (Uu6.1 50 rfl) (Uu6.1 52 rfl) (Uu6.1 54 rfl) (Uu6.1 56 rfl) (Uu6.1 51 rfl) (Uu6.1 53 rfl) (Uu6.1 55 rfl) (Uu6.1 57 rfl) (Uu12.2.1 1 rfl) (Uu12.2.1 2 rfl)) hP hD hS hl
set_option maxHeartbeats 4000000 in
set_option maxRecDepth 100000 in
theorem law_case_55 {p : Program} {l : Launch} {e : Env} {s : State} {m : MethodId} {below : List Frame} {meth : Method} {c : Code} {D : va_G} {C : Nat → ClassId} {b L i : Nat} {xs : Nat → Int32} {A B adK adV : Nat → Nat} {u v : St} {H : Heap} {locs : List Loc} {ls : Array Slot} (C0 : lw_At p s m meth c b L xs) (hLL : L ≤ 3072) (hiL : i + 6 ≤ L) (hK : va_K D vwCl (tyl C) s) (hXS : XS adK adV (fun q : Nat => s.heap.size ≤ q) s) (hIC : IC u) (hIM : IM v) (hRL : RLt u v) (hP : va_P D vwCl (cw C A u ++ mw C B v) H) (hD : va_D (fun q : Nat => s.heap.size ≤ q) (cw C A u ++ mw C B v)) (hS : va_S (fun q : Nat => s.heap.size ≤ q) s.heap H locs) (hl : lv_has ls 4 [(3, .int (nI i)), (2, .ref (B 0)), (1, .ref (A 0)), (0, .ref b)])
    (kx : ∀ (u v : St) (H : Heap) (locs : List Loc) (ls : Array Slot), IC u → IM v → RLt u v → va_P D vwCl (cw C A u ++ mw C B v) H → va_D (fun q : Nat => s.heap.size ≤ q) (cw C A u ++ mw C B v) → va_S (fun q : Nat => s.heap.size ≤ q) s.heap H locs → lv_has ls 4 [(3, .int (nI i)), (2, .ref (B 0)), (1, .ref (A 0)), (0, .ref b)] → W p l e room_1 s m #[Value.ref b] below meth c H locs 180 4779 (lw_Z below #[Value.ref b] s) (F0 m 2362 ls [])) : W p l e room_1 s m #[Value.ref b] below meth c H locs 180 4779 (lw_Z below #[Value.ref b] s) (F0 m 1771 ls []) := by
  obtain ⟨hx, hb, hr, hml, hown, hts, hX, hbl, hlocks, hgv⟩ := id C0
  have hown : s.vm.findClass RL = some m.cls := hown
  have hb : c.code = cL_law := hb
  have hA : ∀ q : Nat, s.heap.size ≤ q → (fun q : Nat => s.heap.size ≤ q) q := fun _ h => h
  have hbA : ¬ (fun q : Nat => s.heap.size ≤ q) b := Nat.not_le.mpr hbl
  have hni : (nI i).toInt = (i : Int) := nI_toInt (by omega)
  refine lv_aload_n hx hb dL_law_1771 rfl (lv_at hl 2 rfl) ?_
  refine lv_aload_n hx hb dL_law_1772 rfl (lv_at hl 3 rfl) ?_
  refine lv_iload_n hx hb dL_law_1773 rfl (lv_at hl 0 rfl) ?_
  refine lv_iconst (v := 1) hx hb dL_law_1774 (by decide) ?_
  refine lv_iadd hx hb dL_law_1775 ?_
  refine p_nm (tt_add (X := (i : Int)) (Y := 1) hni (by decide) (by omega) (by omega)) (fun z1 hz1 => ?_)
  refine va_sld hx hb hX hbl hbA hS (i_ix hz1 (by omega) (by omega)) dL_law_1776 ?_
  refine pv_i (v := xs (i + 1)) (by rw [show Int32.toNatClampNeg z1 = i + 1 by have q9 := i_cl hz1 (by omega); omega]) ?_
  refine lv_aload_n hx hb dL_law_1777 rfl (lv_at hl 3 rfl) ?_
  refine lv_iload_n hx hb dL_law_1778 rfl (lv_at hl 0 rfl) ?_
  refine lv_iconst (v := 2) hx hb dL_law_1779 (by decide) ?_
  refine lv_iadd hx hb dL_law_1780 ?_
  refine p_nm (tt_add (X := (i : Int)) (Y := 2) hni (by decide) (by omega) (by omega)) (fun z2 hz2 => ?_)
  refine va_sld hx hb hX hbl hbA hS (i_ix hz2 (by omega) (by omega)) dL_law_1781 ?_
  refine pv_i (v := xs (i + 2)) (by rw [show Int32.toNatClampNeg z2 = i + 2 by have q9 := i_cl hz2 (by omega); omega]) ?_
  refine lcI (w := cw C A) (n := 2) (As := [.int (xs (i + 1)), .int (xs (i + 2))]) (rest := []) ⟨hx, hb, hml, hown, hts⟩ (fun _ h => uw_in h) (kX9_sure_0 l D C A u hIC (xs (i + 1)) (xs (i + 1)).toInt rfl (xs (i + 2)) (xs (i + 2)).toInt rfl H.size) q_m1064 q_n1065 q_e1066 q_i1 q_c1067 hvX9_sure ⟨(Nat.le_of_ble_eq_true rfl), (Nat.le_of_ble_eq_true rfl)⟩ ⟨(Nat.le_of_ble_eq_true rfl), (Nat.le_of_ble_eq_true rfl)⟩ hK hP hD hS hA Bl0 (fun _ _ _ => trivial) 9 0 rfl (cwc0 C A u) rfl hl.1 rfl (Nat.le_of_ble_eq_true rfl) dL_law_1782 (fun r3 u5 H locs p4 hP hD hS => ?_)
  obtain ⟨hu5, Uu5, p4⟩ := p4
  refine lv_pop hx hb dL_law_1785 rfl ?_
  refine lv_aload_n hx hb dL_law_1786 rfl (lv_at hl 1 rfl) ?_
  refine lv_aload_n hx hb dL_law_1787 rfl (lv_at hl 3 rfl) ?_
  refine lv_iload_n hx hb dL_law_1788 rfl (lv_at hl 0 rfl) ?_
  refine lv_iconst (v := 1) hx hb dL_law_1789 (by decide) ?_
  refine lv_iadd hx hb dL_law_1790 ?_
  refine p_nm (tt_add (X := (i : Int)) (Y := 1) hni (by decide) (by omega) (by omega)) (fun z6 hz6 => ?_)
  refine va_sld hx hb hX hbl hbA hS (i_ix hz6 (by omega) (by omega)) dL_law_1791 ?_
  refine pv_i (v := xs (i + 1)) (by rw [show Int32.toNatClampNeg z6 = i + 1 by have q9 := i_cl hz6 (by omega); omega]) ?_
  refine lv_aload_n hx hb dL_law_1792 rfl (lv_at hl 3 rfl) ?_
  refine lv_iload_n hx hb dL_law_1793 rfl (lv_at hl 0 rfl) ?_
  refine lv_iconst (v := 2) hx hb dL_law_1794 (by decide) ?_
  refine lv_iadd hx hb dL_law_1795 ?_
  refine p_nm (tt_add (X := (i : Int)) (Y := 2) hni (by decide) (by omega) (by omega)) (fun z7 hz7 => ?_)
  refine va_sld hx hb hX hbl hbA hS (i_ix hz7 (by omega) (by omega)) dL_law_1796 ?_
  refine pv_i (v := xs (i + 2)) (by rw [show Int32.toNatClampNeg z7 = i + 2 by have q9 := i_cl hz7 (by omega); omega]) ?_
  refine lcI (w := mw C B) (n := 2) (As := [.int (xs (i + 1)), .int (xs (i + 2))]) (rest := []) ⟨hx, hb, hml, hown, hts⟩ (fun _ h => uw_in h) (kX10_sure_0 l D C B v hIM (xs (i + 1)) (xs (i + 1)).toInt rfl (xs (i + 2)) (xs (i + 2)).toInt rfl H.size) q_m1832 q_n1833 q_e1834 q_i11 q_c1835 hvX10_sure ⟨(Nat.le_of_ble_eq_true rfl), (Nat.le_of_ble_eq_true rfl)⟩ ⟨(Nat.le_of_ble_eq_true rfl), (Nat.le_of_ble_eq_true rfl)⟩ hK hP hD hS hA Bl0 (fun _ _ _ => trivial) 10 0 rfl (mwc0 C B v) rfl hl.1 rfl (Nat.le_of_ble_eq_true rfl) dL_law_1797 (fun r8 u10 H locs p9 hP hD hS => ?_)
  obtain ⟨hu10, Uu10, p9⟩ := p9
  refine lv_pop hx hb dL_law_1800 rfl ?_
  refine lv_goto (tgt := 2362) hx hb dL_law_1801 (by decide) ?_
  exact kx u5 u10 H locs ls hu5 hu10 (hRL.un (Uu5.1 50 rfl) (Uu5.1 52 rfl) (Uu5.1 54 rfl) (Uu5.1 56 rfl) (Uu5.1 51 rfl) (Uu5.1 53 rfl) (Uu5.1 55 rfl) (Uu5.1 57 rfl) (Uu10.2.1 1 rfl) (Uu10.2.1 2 rfl)) hP hD hS hl
set_option maxHeartbeats 4000000 in
set_option maxRecDepth 100000 in
theorem law_case_56 {p : Program} {l : Launch} {e : Env} {s : State} {m : MethodId} {below : List Frame} {meth : Method} {c : Code} {D : va_G} {C : Nat → ClassId} {b L i : Nat} {xs : Nat → Int32} {A B adK adV : Nat → Nat} {u v : St} {H : Heap} {locs : List Loc} {ls : Array Slot} (C0 : lw_At p s m meth c b L xs) (hLL : L ≤ 3072) (hiL : i + 6 ≤ L) (hK : va_K D vwCl (tyl C) s) (hXS : XS adK adV (fun q : Nat => s.heap.size ≤ q) s) (hIC : IC u) (hIM : IM v) (hRL : RLt u v) (hP : va_P D vwCl (cw C A u ++ mw C B v) H) (hD : va_D (fun q : Nat => s.heap.size ≤ q) (cw C A u ++ mw C B v)) (hS : va_S (fun q : Nat => s.heap.size ≤ q) s.heap H locs) (hl : lv_has ls 4 [(3, .int (nI i)), (2, .ref (B 0)), (1, .ref (A 0)), (0, .ref b)])
    (kx : ∀ (u v : St) (H : Heap) (locs : List Loc) (ls : Array Slot), IC u → IM v → RLt u v → va_P D vwCl (cw C A u ++ mw C B v) H → va_D (fun q : Nat => s.heap.size ≤ q) (cw C A u ++ mw C B v) → va_S (fun q : Nat => s.heap.size ≤ q) s.heap H locs → lv_has ls 4 [(3, .int (nI i)), (2, .ref (B 0)), (1, .ref (A 0)), (0, .ref b)] → W p l e room_1 s m #[Value.ref b] below meth c H locs 180 4779 (lw_Z below #[Value.ref b] s) (F0 m 2362 ls [])) : W p l e room_1 s m #[Value.ref b] below meth c H locs 180 4779 (lw_Z below #[Value.ref b] s) (F0 m 1804 ls []) := by
  obtain ⟨hx, hb, hr, hml, hown, hts, hX, hbl, hlocks, hgv⟩ := id C0
  have hown : s.vm.findClass RL = some m.cls := hown
  have hb : c.code = cL_law := hb
  have hA : ∀ q : Nat, s.heap.size ≤ q → (fun q : Nat => s.heap.size ≤ q) q := fun _ h => h
  have hbA : ¬ (fun q : Nat => s.heap.size ≤ q) b := Nat.not_le.mpr hbl
  have hni : (nI i).toInt = (i : Int) := nI_toInt (by omega)
  refine lv_aload_n hx hb dL_law_1804 rfl (lv_at hl 2 rfl) ?_
  refine lv_aload_n hx hb dL_law_1805 rfl (lv_at hl 3 rfl) ?_
  refine lv_iload_n hx hb dL_law_1806 rfl (lv_at hl 0 rfl) ?_
  refine lv_iconst (v := 1) hx hb dL_law_1807 (by decide) ?_
  refine lv_iadd hx hb dL_law_1808 ?_
  refine p_nm (tt_add (X := (i : Int)) (Y := 1) hni (by decide) (by omega) (by omega)) (fun z1 hz1 => ?_)
  refine va_sld hx hb hX hbl hbA hS (i_ix hz1 (by omega) (by omega)) dL_law_1809 ?_
  refine pv_i (v := xs (i + 1)) (by rw [show Int32.toNatClampNeg z1 = i + 1 by have q9 := i_cl hz1 (by omega); omega]) ?_
  refine cvS (n := 1) (As := [.int (xs (i + 1))]) (rest := []) ⟨hx, hb, hml, hown, hts⟩ (fun _ h => uw_in h) (kX9_likely_0 l D C A u hIC (xs (i + 1)) (xs (i + 1)).toInt rfl) q_m1068 q_n1069 q_e1070 q_i1 q_c1071 hvX9_likely ⟨(Nat.le_of_ble_eq_true rfl), (Nat.le_of_ble_eq_true rfl)⟩ ⟨(Nat.le_of_ble_eq_true rfl), (Nat.le_of_ble_eq_true rfl)⟩ hK hP.left 9 0 rfl (cwc0 C A u) rfl hl.1 rfl (Nat.le_of_ble_eq_true rfl) dL_law_1810 (fun r2 p3 => ?_)
  have hP := hP.flip
  have hD := hD.flip
  refine lv_pop hx hb dL_law_1813 rfl ?_
  refine lv_aload_n hx hb dL_law_1814 rfl (lv_at hl 1 rfl) ?_
  refine lv_aload_n hx hb dL_law_1815 rfl (lv_at hl 3 rfl) ?_
  refine lv_iload_n hx hb dL_law_1816 rfl (lv_at hl 0 rfl) ?_
  refine lv_iconst (v := 1) hx hb dL_law_1817 (by decide) ?_
  refine lv_iadd hx hb dL_law_1818 ?_
  refine p_nm (tt_add (X := (i : Int)) (Y := 1) hni (by decide) (by omega) (by omega)) (fun z4 hz4 => ?_)
  refine va_sld hx hb hX hbl hbA hS (i_ix hz4 (by omega) (by omega)) dL_law_1819 ?_
  refine pv_i (v := xs (i + 1)) (by rw [show Int32.toNatClampNeg z4 = i + 1 by have q9 := i_cl hz4 (by omega); omega]) ?_
  refine lcI (w := mw C B) (n := 1) (As := [.int (xs (i + 1))]) (rest := []) ⟨hx, hb, hml, hown, hts⟩ (fun _ h => uw_in h) (kX10_likely_0 l D C B v hIM (xs (i + 1)) (xs (i + 1)).toInt rfl H.size) q_m1837 q_n1838 q_e1839 q_i11 q_c1840 hvX10_likely ⟨(Nat.le_of_ble_eq_true rfl), (Nat.le_of_ble_eq_true rfl)⟩ ⟨(Nat.le_of_ble_eq_true rfl), (Nat.le_of_ble_eq_true rfl)⟩ hK hP hD hS hA Bl0 (fun _ _ _ => trivial) 10 0 rfl (mwc0 C B v) rfl hl.1 rfl (Nat.le_of_ble_eq_true rfl) dL_law_1820 (fun r5 u7 H locs p6 hP hD hS => ?_)
  obtain ⟨hu7, Uu7, p6⟩ := p6
  refine lv_pop hx hb dL_law_1823 rfl ?_
  refine lv_goto (tgt := 2362) hx hb dL_law_1824 (by decide) ?_
  exact kx u u7 H locs ls hIC hu7 (hRL.un rfl rfl rfl rfl rfl rfl rfl rfl (Uu7.2.1 1 rfl) (Uu7.2.1 2 rfl)) hP hD hS hl
set_option maxHeartbeats 4000000 in
set_option maxRecDepth 100000 in
theorem law_case_57 {p : Program} {l : Launch} {e : Env} {s : State} {m : MethodId} {below : List Frame} {meth : Method} {c : Code} {D : va_G} {C : Nat → ClassId} {b L i : Nat} {xs : Nat → Int32} {A B adK adV : Nat → Nat} {u v : St} {H : Heap} {locs : List Loc} {ls : Array Slot} (C0 : lw_At p s m meth c b L xs) (hLL : L ≤ 3072) (hiL : i + 6 ≤ L) (hK : va_K D vwCl (tyl C) s) (hXS : XS adK adV (fun q : Nat => s.heap.size ≤ q) s) (hIC : IC u) (hIM : IM v) (hRL : RLt u v) (hP : va_P D vwCl (cw C A u ++ mw C B v) H) (hD : va_D (fun q : Nat => s.heap.size ≤ q) (cw C A u ++ mw C B v)) (hS : va_S (fun q : Nat => s.heap.size ≤ q) s.heap H locs) (hl : lv_has ls 4 [(3, .int (nI i)), (2, .ref (B 0)), (1, .ref (A 0)), (0, .ref b)])
    (kx : ∀ (u v : St) (H : Heap) (locs : List Loc) (ls : Array Slot), IC u → IM v → RLt u v → va_P D vwCl (cw C A u ++ mw C B v) H → va_D (fun q : Nat => s.heap.size ≤ q) (cw C A u ++ mw C B v) → va_S (fun q : Nat => s.heap.size ≤ q) s.heap H locs → lv_has ls 4 [(3, .int (nI i)), (2, .ref (B 0)), (1, .ref (A 0)), (0, .ref b)] → W p l e room_1 s m #[Value.ref b] below meth c H locs 180 4779 (lw_Z below #[Value.ref b] s) (F0 m 2362 ls [])) : W p l e room_1 s m #[Value.ref b] below meth c H locs 180 4779 (lw_Z below #[Value.ref b] s) (F0 m 1827 ls []) := by
  obtain ⟨hx, hb, hr, hml, hown, hts, hX, hbl, hlocks, hgv⟩ := id C0
  have hown : s.vm.findClass RL = some m.cls := hown
  have hb : c.code = cL_law := hb
  have hA : ∀ q : Nat, s.heap.size ≤ q → (fun q : Nat => s.heap.size ≤ q) q := fun _ h => h
  have hbA : ¬ (fun q : Nat => s.heap.size ≤ q) b := Nat.not_le.mpr hbl
  have hni : (nI i).toInt = (i : Int) := nI_toInt (by omega)
  refine lv_aload_n hx hb dL_law_1827 rfl (lv_at hl 2 rfl) ?_
  refine lv_aload_n hx hb dL_law_1828 rfl (lv_at hl 3 rfl) ?_
  refine lv_iload_n hx hb dL_law_1829 rfl (lv_at hl 0 rfl) ?_
  refine lv_iconst (v := 1) hx hb dL_law_1830 (by decide) ?_
  refine lv_iadd hx hb dL_law_1831 ?_
  refine p_nm (tt_add (X := (i : Int)) (Y := 1) hni (by decide) (by omega) (by omega)) (fun z1 hz1 => ?_)
  refine va_sld hx hb hX hbl hbA hS (i_ix hz1 (by omega) (by omega)) dL_law_1832 ?_
  refine pv_i (v := xs (i + 1)) (by rw [show Int32.toNatClampNeg z1 = i + 1 by have q9 := i_cl hz1 (by omega); omega]) ?_
  refine lv_aload_n hx hb dL_law_1833 rfl (lv_at hl 3 rfl) ?_
  refine lv_iload_n hx hb dL_law_1834 rfl (lv_at hl 0 rfl) ?_
  refine lv_iconst (v := 2) hx hb dL_law_1835 (by decide) ?_
  refine lv_iadd hx hb dL_law_1836 ?_
  refine p_nm (tt_add (X := (i : Int)) (Y := 2) hni (by decide) (by omega) (by omega)) (fun z2 hz2 => ?_)
  refine va_sld hx hb hX hbl hbA hS (i_ix hz2 (by omega) (by omega)) dL_law_1837 ?_
  refine pv_i (v := xs (i + 2)) (by rw [show Int32.toNatClampNeg z2 = i + 2 by have q9 := i_cl hz2 (by omega); omega]) ?_
  refine lcI (w := cw C A) (n := 2) (As := [.int (xs (i + 1)), .int (xs (i + 2))]) (rest := []) ⟨hx, hb, hml, hown, hts⟩ (fun _ h => uw_in h) (kX9_mend_0 l D C A u hIC (xs (i + 1)) (xs (i + 1)).toInt rfl (xs (i + 2)) (xs (i + 2)).toInt rfl H.size) q_m1072 q_n1073 q_e1074 q_i1 q_c1075 hvX9_mend ⟨(Nat.le_of_ble_eq_true rfl), (Nat.le_of_ble_eq_true rfl)⟩ ⟨(Nat.le_of_ble_eq_true rfl), (Nat.le_of_ble_eq_true rfl)⟩ hK hP hD hS hA Bl0 (fun _ _ _ => trivial) 9 0 rfl (cwc0 C A u) rfl hl.1 rfl (Nat.le_of_ble_eq_true rfl) dL_law_1838 (fun r3 u5 H locs p4 hP hD hS => ?_)
  obtain ⟨hu5, Uu5, p4⟩ := p4
  refine lv_pop hx hb dL_law_1841 rfl ?_
  refine lv_aload_n hx hb dL_law_1842 rfl (lv_at hl 1 rfl) ?_
  refine lv_aload_n hx hb dL_law_1843 rfl (lv_at hl 3 rfl) ?_
  refine lv_iload_n hx hb dL_law_1844 rfl (lv_at hl 0 rfl) ?_
  refine lv_iconst (v := 1) hx hb dL_law_1845 (by decide) ?_
  refine lv_iadd hx hb dL_law_1846 ?_
  refine p_nm (tt_add (X := (i : Int)) (Y := 1) hni (by decide) (by omega) (by omega)) (fun z6 hz6 => ?_)
  refine va_sld hx hb hX hbl hbA hS (i_ix hz6 (by omega) (by omega)) dL_law_1847 ?_
  refine pv_i (v := xs (i + 1)) (by rw [show Int32.toNatClampNeg z6 = i + 1 by have q9 := i_cl hz6 (by omega); omega]) ?_
  refine lv_aload_n hx hb dL_law_1848 rfl (lv_at hl 3 rfl) ?_
  refine lv_iload_n hx hb dL_law_1849 rfl (lv_at hl 0 rfl) ?_
  refine lv_iconst (v := 2) hx hb dL_law_1850 (by decide) ?_
  refine lv_iadd hx hb dL_law_1851 ?_
  refine p_nm (tt_add (X := (i : Int)) (Y := 2) hni (by decide) (by omega) (by omega)) (fun z7 hz7 => ?_)
  refine va_sld hx hb hX hbl hbA hS (i_ix hz7 (by omega) (by omega)) dL_law_1852 ?_
  refine pv_i (v := xs (i + 2)) (by rw [show Int32.toNatClampNeg z7 = i + 2 by have q9 := i_cl hz7 (by omega); omega]) ?_
  refine lcI (w := mw C B) (n := 2) (As := [.int (xs (i + 1)), .int (xs (i + 2))]) (rest := []) ⟨hx, hb, hml, hown, hts⟩ (fun _ h => uw_in h) (kX10_mend_0 l D C B v hIM (xs (i + 1)) (xs (i + 1)).toInt rfl (xs (i + 2)) (xs (i + 2)).toInt rfl H.size) q_m1867 q_n1868 q_e1869 q_i11 q_c1870 hvX10_mend ⟨(Nat.le_of_ble_eq_true rfl), (Nat.le_of_ble_eq_true rfl)⟩ ⟨(Nat.le_of_ble_eq_true rfl), (Nat.le_of_ble_eq_true rfl)⟩ hK hP hD hS hA Bl0 (fun _ _ _ => trivial) 10 0 rfl (mwc0 C B v) rfl hl.1 rfl (Nat.le_of_ble_eq_true rfl) dL_law_1853 (fun r8 u10 H locs p9 hP hD hS => ?_)
  obtain ⟨hu10, Uu10, p9⟩ := p9
  refine lv_pop hx hb dL_law_1856 rfl ?_
  refine lv_goto (tgt := 2362) hx hb dL_law_1857 (by decide) ?_
  exact kx u5 u10 H locs ls hu5 hu10 (hRL.un (Uu5.1 50 rfl) (Uu5.1 52 rfl) (Uu5.1 54 rfl) (Uu5.1 56 rfl) (Uu5.1 51 rfl) (Uu5.1 53 rfl) (Uu5.1 55 rfl) (Uu5.1 57 rfl) (Uu10.2.1 1 rfl) (Uu10.2.1 2 rfl)) hP hD hS hl
set_option maxHeartbeats 4000000 in
set_option maxRecDepth 100000 in
theorem law_case_58 {p : Program} {l : Launch} {e : Env} {s : State} {m : MethodId} {below : List Frame} {meth : Method} {c : Code} {D : va_G} {C : Nat → ClassId} {b L i : Nat} {xs : Nat → Int32} {A B adK adV : Nat → Nat} {u v : St} {H : Heap} {locs : List Loc} {ls : Array Slot} (C0 : lw_At p s m meth c b L xs) (hLL : L ≤ 3072) (hiL : i + 6 ≤ L) (hK : va_K D vwCl (tyl C) s) (hXS : XS adK adV (fun q : Nat => s.heap.size ≤ q) s) (hIC : IC u) (hIM : IM v) (hRL : RLt u v) (hP : va_P D vwCl (cw C A u ++ mw C B v) H) (hD : va_D (fun q : Nat => s.heap.size ≤ q) (cw C A u ++ mw C B v)) (hS : va_S (fun q : Nat => s.heap.size ≤ q) s.heap H locs) (hl : lv_has ls 4 [(3, .int (nI i)), (2, .ref (B 0)), (1, .ref (A 0)), (0, .ref b)])
    (kx : ∀ (u v : St) (H : Heap) (locs : List Loc) (ls : Array Slot), IC u → IM v → RLt u v → va_P D vwCl (cw C A u ++ mw C B v) H → va_D (fun q : Nat => s.heap.size ≤ q) (cw C A u ++ mw C B v) → va_S (fun q : Nat => s.heap.size ≤ q) s.heap H locs → lv_has ls 4 [(3, .int (nI i)), (2, .ref (B 0)), (1, .ref (A 0)), (0, .ref b)] → W p l e room_1 s m #[Value.ref b] below meth c H locs 180 4779 (lw_Z below #[Value.ref b] s) (F0 m 2362 ls [])) : W p l e room_1 s m #[Value.ref b] below meth c H locs 180 4779 (lw_Z below #[Value.ref b] s) (F0 m 1860 ls []) := by
  obtain ⟨hx, hb, hr, hml, hown, hts, hX, hbl, hlocks, hgv⟩ := id C0
  have hown : s.vm.findClass RL = some m.cls := hown
  have hb : c.code = cL_law := hb
  have hA : ∀ q : Nat, s.heap.size ≤ q → (fun q : Nat => s.heap.size ≤ q) q := fun _ h => h
  have hbA : ¬ (fun q : Nat => s.heap.size ≤ q) b := Nat.not_le.mpr hbl
  have hni : (nI i).toInt = (i : Int) := nI_toInt (by omega)
  refine lv_aload_n hx hb dL_law_1860 rfl (lv_at hl 2 rfl) ?_
  refine lv_aload_n hx hb dL_law_1861 rfl (lv_at hl 3 rfl) ?_
  refine lv_iload_n hx hb dL_law_1862 rfl (lv_at hl 0 rfl) ?_
  refine lv_iconst (v := 1) hx hb dL_law_1863 (by decide) ?_
  refine lv_iadd hx hb dL_law_1864 ?_
  refine p_nm (tt_add (X := (i : Int)) (Y := 1) hni (by decide) (by omega) (by omega)) (fun z1 hz1 => ?_)
  refine va_sld hx hb hX hbl hbA hS (i_ix hz1 (by omega) (by omega)) dL_law_1865 ?_
  refine pv_i (v := xs (i + 1)) (by rw [show Int32.toNatClampNeg z1 = i + 1 by have q9 := i_cl hz1 (by omega); omega]) ?_
  refine lv_aload_n hx hb dL_law_1866 rfl (lv_at hl 3 rfl) ?_
  refine lv_iload_n hx hb dL_law_1867 rfl (lv_at hl 0 rfl) ?_
  refine lv_iconst (v := 2) hx hb dL_law_1868 (by decide) ?_
  refine lv_iadd hx hb dL_law_1869 ?_
  refine p_nm (tt_add (X := (i : Int)) (Y := 2) hni (by decide) (by omega) (by omega)) (fun z2 hz2 => ?_)
  refine va_sld hx hb hX hbl hbA hS (i_ix hz2 (by omega) (by omega)) dL_law_1870 ?_
  refine pv_i (v := xs (i + 2)) (by rw [show Int32.toNatClampNeg z2 = i + 2 by have q9 := i_cl hz2 (by omega); omega]) ?_
  refine lcI (w := cw C A) (n := 2) (As := [.int (xs (i + 1)), .int (xs (i + 2))]) (rest := []) ⟨hx, hb, hml, hown, hts⟩ (fun _ h => uw_in h) (kX9_oil_0 l D C A u hIC (xs (i + 1)) (xs (i + 1)).toInt rfl (xs (i + 2)) (xs (i + 2)).toInt rfl H.size) q_m1088 q_n1089 q_e1090 q_i1 q_c1091 hvX9_oil ⟨(Nat.le_of_ble_eq_true rfl), (Nat.le_of_ble_eq_true rfl)⟩ ⟨(Nat.le_of_ble_eq_true rfl), (Nat.le_of_ble_eq_true rfl)⟩ hK hP hD hS hA Bl0 (fun _ _ _ => trivial) 9 0 rfl (cwc0 C A u) rfl hl.1 rfl (Nat.le_of_ble_eq_true rfl) dL_law_1871 (fun r3 u5 H locs p4 hP hD hS => ?_)
  obtain ⟨hu5, Uu5, p4⟩ := p4
  refine lv_pop hx hb dL_law_1874 rfl ?_
  refine lv_aload_n hx hb dL_law_1875 rfl (lv_at hl 1 rfl) ?_
  refine lv_aload_n hx hb dL_law_1876 rfl (lv_at hl 3 rfl) ?_
  refine lv_iload_n hx hb dL_law_1877 rfl (lv_at hl 0 rfl) ?_
  refine lv_iconst (v := 1) hx hb dL_law_1878 (by decide) ?_
  refine lv_iadd hx hb dL_law_1879 ?_
  refine p_nm (tt_add (X := (i : Int)) (Y := 1) hni (by decide) (by omega) (by omega)) (fun z6 hz6 => ?_)
  refine va_sld hx hb hX hbl hbA hS (i_ix hz6 (by omega) (by omega)) dL_law_1880 ?_
  refine pv_i (v := xs (i + 1)) (by rw [show Int32.toNatClampNeg z6 = i + 1 by have q9 := i_cl hz6 (by omega); omega]) ?_
  refine lv_aload_n hx hb dL_law_1881 rfl (lv_at hl 3 rfl) ?_
  refine lv_iload_n hx hb dL_law_1882 rfl (lv_at hl 0 rfl) ?_
  refine lv_iconst (v := 2) hx hb dL_law_1883 (by decide) ?_
  refine lv_iadd hx hb dL_law_1884 ?_
  refine p_nm (tt_add (X := (i : Int)) (Y := 2) hni (by decide) (by omega) (by omega)) (fun z7 hz7 => ?_)
  refine va_sld hx hb hX hbl hbA hS (i_ix hz7 (by omega) (by omega)) dL_law_1885 ?_
  refine pv_i (v := xs (i + 2)) (by rw [show Int32.toNatClampNeg z7 = i + 2 by have q9 := i_cl hz7 (by omega); omega]) ?_
  refine lcI (w := mw C B) (n := 2) (As := [.int (xs (i + 1)), .int (xs (i + 2))]) (rest := []) ⟨hx, hb, hml, hown, hts⟩ (fun _ h => uw_in h) (kX10_oil_0 l D C B v hIM (xs (i + 1)) (xs (i + 1)).toInt rfl (xs (i + 2)) (xs (i + 2)).toInt rfl H.size) q_m1875 q_n1876 q_e1877 q_i11 q_c1878 hvX10_oil ⟨(Nat.le_of_ble_eq_true rfl), (Nat.le_of_ble_eq_true rfl)⟩ ⟨(Nat.le_of_ble_eq_true rfl), (Nat.le_of_ble_eq_true rfl)⟩ hK hP hD hS hA Bl0 (fun _ _ _ => trivial) 10 0 rfl (mwc0 C B v) rfl hl.1 rfl (Nat.le_of_ble_eq_true rfl) dL_law_1886 (fun r8 u10 H locs p9 hP hD hS => ?_)
  obtain ⟨hu10, Uu10, p9⟩ := p9
  refine lv_pop hx hb dL_law_1889 rfl ?_
  refine lv_goto (tgt := 2362) hx hb dL_law_1890 (by decide) ?_
  exact kx u5 u10 H locs ls hu5 hu10 (hRL.un (Uu5.1 50 rfl) (Uu5.1 52 rfl) (Uu5.1 54 rfl) (Uu5.1 56 rfl) (Uu5.1 51 rfl) (Uu5.1 53 rfl) (Uu5.1 55 rfl) (Uu5.1 57 rfl) (Uu10.2.1 1 rfl) (Uu10.2.1 2 rfl)) hP hD hS hl
set_option maxHeartbeats 4000000 in
set_option maxRecDepth 100000 in
theorem law_case_59 {p : Program} {l : Launch} {e : Env} {s : State} {m : MethodId} {below : List Frame} {meth : Method} {c : Code} {D : va_G} {C : Nat → ClassId} {b L i : Nat} {xs : Nat → Int32} {A B adK adV : Nat → Nat} {u v : St} {H : Heap} {locs : List Loc} {ls : Array Slot} (C0 : lw_At p s m meth c b L xs) (hLL : L ≤ 3072) (hiL : i + 6 ≤ L) (hK : va_K D vwCl (tyl C) s) (hXS : XS adK adV (fun q : Nat => s.heap.size ≤ q) s) (hIC : IC u) (hIM : IM v) (hRL : RLt u v) (hP : va_P D vwCl (cw C A u ++ mw C B v) H) (hD : va_D (fun q : Nat => s.heap.size ≤ q) (cw C A u ++ mw C B v)) (hS : va_S (fun q : Nat => s.heap.size ≤ q) s.heap H locs) (hl : lv_has ls 4 [(3, .int (nI i)), (2, .ref (B 0)), (1, .ref (A 0)), (0, .ref b)])
    (kx : ∀ (u v : St) (H : Heap) (locs : List Loc) (ls : Array Slot), IC u → IM v → RLt u v → va_P D vwCl (cw C A u ++ mw C B v) H → va_D (fun q : Nat => s.heap.size ≤ q) (cw C A u ++ mw C B v) → va_S (fun q : Nat => s.heap.size ≤ q) s.heap H locs → lv_has ls 4 [(3, .int (nI i)), (2, .ref (B 0)), (1, .ref (A 0)), (0, .ref b)] → W p l e room_1 s m #[Value.ref b] below meth c H locs 180 4779 (lw_Z below #[Value.ref b] s) (F0 m 2362 ls [])) : W p l e room_1 s m #[Value.ref b] below meth c H locs 180 4779 (lw_Z below #[Value.ref b] s) (F0 m 1893 ls []) := by
  obtain ⟨hx, hb, hr, hml, hown, hts, hX, hbl, hlocks, hgv⟩ := id C0
  have hown : s.vm.findClass RL = some m.cls := hown
  have hb : c.code = cL_law := hb
  have hA : ∀ q : Nat, s.heap.size ≤ q → (fun q : Nat => s.heap.size ≤ q) q := fun _ h => h
  have hbA : ¬ (fun q : Nat => s.heap.size ≤ q) b := Nat.not_le.mpr hbl
  have hni : (nI i).toInt = (i : Int) := nI_toInt (by omega)
  refine lv_aload_n hx hb dL_law_1893 rfl (lv_at hl 2 rfl) ?_
  refine lv_aload_n hx hb dL_law_1894 rfl (lv_at hl 3 rfl) ?_
  refine lv_iload_n hx hb dL_law_1895 rfl (lv_at hl 0 rfl) ?_
  refine lv_iconst (v := 1) hx hb dL_law_1896 (by decide) ?_
  refine lv_iadd hx hb dL_law_1897 ?_
  refine p_nm (tt_add (X := (i : Int)) (Y := 1) hni (by decide) (by omega) (by omega)) (fun z1 hz1 => ?_)
  refine va_sld hx hb hX hbl hbA hS (i_ix hz1 (by omega) (by omega)) dL_law_1898 ?_
  refine pv_i (v := xs (i + 1)) (by rw [show Int32.toNatClampNeg z1 = i + 1 by have q9 := i_cl hz1 (by omega); omega]) ?_
  refine lv_aload_n hx hb dL_law_1899 rfl (lv_at hl 3 rfl) ?_
  refine lv_iload_n hx hb dL_law_1900 rfl (lv_at hl 0 rfl) ?_
  refine lv_iconst (v := 2) hx hb dL_law_1901 (by decide) ?_
  refine lv_iadd hx hb dL_law_1902 ?_
  refine p_nm (tt_add (X := (i : Int)) (Y := 2) hni (by decide) (by omega) (by omega)) (fun z2 hz2 => ?_)
  refine va_sld hx hb hX hbl hbA hS (i_ix hz2 (by omega) (by omega)) dL_law_1903 ?_
  refine pv_i (v := xs (i + 2)) (by rw [show Int32.toNatClampNeg z2 = i + 2 by have q9 := i_cl hz2 (by omega); omega]) ?_
  refine lcI (w := cw C A) (n := 2) (As := [.int (xs (i + 1)), .int (xs (i + 2))]) (rest := []) ⟨hx, hb, hml, hown, hts⟩ (fun _ h => uw_in h) (kX9_stop_0 l D C A u hIC (xs (i + 1)) (xs (i + 1)).toInt rfl (xs (i + 2)) (xs (i + 2)).toInt rfl H.size) q_m1092 q_n1093 q_e1094 q_i1 q_c1095 hvX9_stop ⟨(Nat.le_of_ble_eq_true rfl), (Nat.le_of_ble_eq_true rfl)⟩ ⟨(Nat.le_of_ble_eq_true rfl), (Nat.le_of_ble_eq_true rfl)⟩ hK hP hD hS hA Bl0 (fun _ _ _ => trivial) 9 0 rfl (cwc0 C A u) rfl hl.1 rfl (Nat.le_of_ble_eq_true rfl) dL_law_1904 (fun r3 u5 H locs p4 hP hD hS => ?_)
  obtain ⟨hu5, Uu5, p4⟩ := p4
  refine lv_pop hx hb dL_law_1907 rfl ?_
  refine lv_aload_n hx hb dL_law_1908 rfl (lv_at hl 1 rfl) ?_
  refine lv_aload_n hx hb dL_law_1909 rfl (lv_at hl 3 rfl) ?_
  refine lv_iload_n hx hb dL_law_1910 rfl (lv_at hl 0 rfl) ?_
  refine lv_iconst (v := 1) hx hb dL_law_1911 (by decide) ?_
  refine lv_iadd hx hb dL_law_1912 ?_
  refine p_nm (tt_add (X := (i : Int)) (Y := 1) hni (by decide) (by omega) (by omega)) (fun z6 hz6 => ?_)
  refine va_sld hx hb hX hbl hbA hS (i_ix hz6 (by omega) (by omega)) dL_law_1913 ?_
  refine pv_i (v := xs (i + 1)) (by rw [show Int32.toNatClampNeg z6 = i + 1 by have q9 := i_cl hz6 (by omega); omega]) ?_
  refine lv_aload_n hx hb dL_law_1914 rfl (lv_at hl 3 rfl) ?_
  refine lv_iload_n hx hb dL_law_1915 rfl (lv_at hl 0 rfl) ?_
  refine lv_iconst (v := 2) hx hb dL_law_1916 (by decide) ?_
  refine lv_iadd hx hb dL_law_1917 ?_
  refine p_nm (tt_add (X := (i : Int)) (Y := 2) hni (by decide) (by omega) (by omega)) (fun z7 hz7 => ?_)
  refine va_sld hx hb hX hbl hbA hS (i_ix hz7 (by omega) (by omega)) dL_law_1918 ?_
  refine pv_i (v := xs (i + 2)) (by rw [show Int32.toNatClampNeg z7 = i + 2 by have q9 := i_cl hz7 (by omega); omega]) ?_
  refine lcI (w := mw C B) (n := 2) (As := [.int (xs (i + 1)), .int (xs (i + 2))]) (rest := []) ⟨hx, hb, hml, hown, hts⟩ (fun _ h => uw_in h) (kX10_stop_0 l D C B v hIM (xs (i + 1)) (xs (i + 1)).toInt rfl (xs (i + 2)) (xs (i + 2)).toInt rfl H.size) q_m1879 q_n1880 q_e1881 q_i11 q_c1882 hvX10_stop ⟨(Nat.le_of_ble_eq_true rfl), (Nat.le_of_ble_eq_true rfl)⟩ ⟨(Nat.le_of_ble_eq_true rfl), (Nat.le_of_ble_eq_true rfl)⟩ hK hP hD hS hA Bl0 (fun _ _ _ => trivial) 10 0 rfl (mwc0 C B v) rfl hl.1 rfl (Nat.le_of_ble_eq_true rfl) dL_law_1919 (fun r8 u10 H locs p9 hP hD hS => ?_)
  obtain ⟨hu10, Uu10, p9⟩ := p9
  refine lv_pop hx hb dL_law_1922 rfl ?_
  refine lv_goto (tgt := 2362) hx hb dL_law_1923 (by decide) ?_
  exact kx u5 u10 H locs ls hu5 hu10 (hRL.un (Uu5.1 50 rfl) (Uu5.1 52 rfl) (Uu5.1 54 rfl) (Uu5.1 56 rfl) (Uu5.1 51 rfl) (Uu5.1 53 rfl) (Uu5.1 55 rfl) (Uu5.1 57 rfl) (Uu10.2.1 1 rfl) (Uu10.2.1 2 rfl)) hP hD hS hl
set_option maxHeartbeats 4000000 in
set_option maxRecDepth 100000 in
theorem law_case_60 {p : Program} {l : Launch} {e : Env} {s : State} {m : MethodId} {below : List Frame} {meth : Method} {c : Code} {D : va_G} {C : Nat → ClassId} {b L i : Nat} {xs : Nat → Int32} {A B adK adV : Nat → Nat} {u v : St} {H : Heap} {locs : List Loc} {ls : Array Slot} (C0 : lw_At p s m meth c b L xs) (hLL : L ≤ 3072) (hiL : i + 6 ≤ L) (hK : va_K D vwCl (tyl C) s) (hXS : XS adK adV (fun q : Nat => s.heap.size ≤ q) s) (hIC : IC u) (hIM : IM v) (hRL : RLt u v) (hP : va_P D vwCl (cw C A u ++ mw C B v) H) (hD : va_D (fun q : Nat => s.heap.size ≤ q) (cw C A u ++ mw C B v)) (hS : va_S (fun q : Nat => s.heap.size ≤ q) s.heap H locs) (hl : lv_has ls 4 [(3, .int (nI i)), (2, .ref (B 0)), (1, .ref (A 0)), (0, .ref b)])
    (kx : ∀ (u v : St) (H : Heap) (locs : List Loc) (ls : Array Slot), IC u → IM v → RLt u v → va_P D vwCl (cw C A u ++ mw C B v) H → va_D (fun q : Nat => s.heap.size ≤ q) (cw C A u ++ mw C B v) → va_S (fun q : Nat => s.heap.size ≤ q) s.heap H locs → lv_has ls 4 [(3, .int (nI i)), (2, .ref (B 0)), (1, .ref (A 0)), (0, .ref b)] → W p l e room_1 s m #[Value.ref b] below meth c H locs 180 4779 (lw_Z below #[Value.ref b] s) (F0 m 2362 ls [])) : W p l e room_1 s m #[Value.ref b] below meth c H locs 180 4779 (lw_Z below #[Value.ref b] s) (F0 m 1926 ls []) := by
  obtain ⟨hx, hb, hr, hml, hown, hts, hX, hbl, hlocks, hgv⟩ := id C0
  have hown : s.vm.findClass RL = some m.cls := hown
  have hb : c.code = cL_law := hb
  have hA : ∀ q : Nat, s.heap.size ≤ q → (fun q : Nat => s.heap.size ≤ q) q := fun _ h => h
  have hbA : ¬ (fun q : Nat => s.heap.size ≤ q) b := Nat.not_le.mpr hbl
  have hni : (nI i).toInt = (i : Int) := nI_toInt (by omega)
  refine lv_aload_n hx hb dL_law_1926 rfl (lv_at hl 2 rfl) ?_
  refine lv_aload_n hx hb dL_law_1927 rfl (lv_at hl 3 rfl) ?_
  refine lv_iload_n hx hb dL_law_1928 rfl (lv_at hl 0 rfl) ?_
  refine lv_iconst (v := 1) hx hb dL_law_1929 (by decide) ?_
  refine lv_iadd hx hb dL_law_1930 ?_
  refine p_nm (tt_add (X := (i : Int)) (Y := 1) hni (by decide) (by omega) (by omega)) (fun z1 hz1 => ?_)
  refine va_sld hx hb hX hbl hbA hS (i_ix hz1 (by omega) (by omega)) dL_law_1931 ?_
  refine pv_i (v := xs (i + 1)) (by rw [show Int32.toNatClampNeg z1 = i + 1 by have q9 := i_cl hz1 (by omega); omega]) ?_
  refine lv_aload_n hx hb dL_law_1932 rfl (lv_at hl 3 rfl) ?_
  refine lv_iload_n hx hb dL_law_1933 rfl (lv_at hl 0 rfl) ?_
  refine lv_iconst (v := 2) hx hb dL_law_1934 (by decide) ?_
  refine lv_iadd hx hb dL_law_1935 ?_
  refine p_nm (tt_add (X := (i : Int)) (Y := 2) hni (by decide) (by omega) (by omega)) (fun z2 hz2 => ?_)
  refine va_sld hx hb hX hbl hbA hS (i_ix hz2 (by omega) (by omega)) dL_law_1936 ?_
  refine pv_i (v := xs (i + 2)) (by rw [show Int32.toNatClampNeg z2 = i + 2 by have q9 := i_cl hz2 (by omega); omega]) ?_
  refine lv_aload_n hx hb dL_law_1937 rfl (lv_at hl 3 rfl) ?_
  refine lv_iload_n hx hb dL_law_1938 rfl (lv_at hl 0 rfl) ?_
  refine lv_iconst (v := 3) hx hb dL_law_1939 (by decide) ?_
  refine lv_iadd hx hb dL_law_1940 ?_
  refine p_nm (tt_add (X := (i : Int)) (Y := 3) hni (by decide) (by omega) (by omega)) (fun z3 hz3 => ?_)
  refine va_sld hx hb hX hbl hbA hS (i_ix hz3 (by omega) (by omega)) dL_law_1941 ?_
  refine pv_i (v := xs (i + 3)) (by rw [show Int32.toNatClampNeg z3 = i + 3 by have q9 := i_cl hz3 (by omega); omega]) ?_
  refine lcI (w := cw C A) (n := 3) (As := [.int (xs (i + 1)), .int (xs (i + 2)), .int (xs (i + 3))]) (rest := []) ⟨hx, hb, hml, hown, hts⟩ (fun _ h => uw_in h) (kX9_enter_0 l D C A u hIC (xs (i + 1)) (xs (i + 1)).toInt rfl (xs (i + 2)) (xs (i + 2)).toInt rfl (xs (i + 3)) (xs (i + 3)).toInt rfl H.size) q_m1096 q_n1097 q_e1098 q_i1 q_c1099 hvX9_enter ⟨(Nat.le_of_ble_eq_true rfl), (Nat.le_of_ble_eq_true rfl)⟩ ⟨(Nat.le_of_ble_eq_true rfl), (Nat.le_of_ble_eq_true rfl)⟩ hK hP hD hS hA Bl0 (fun _ _ _ => trivial) 9 0 rfl (cwc0 C A u) rfl hl.1 rfl (Nat.le_of_ble_eq_true rfl) dL_law_1942 (fun r4 u6 H locs p5 hP hD hS => ?_)
  obtain ⟨hu6, Uu6, p5⟩ := p5
  refine lv_pop hx hb dL_law_1945 rfl ?_
  refine lv_aload_n hx hb dL_law_1946 rfl (lv_at hl 1 rfl) ?_
  refine lv_aload_n hx hb dL_law_1947 rfl (lv_at hl 3 rfl) ?_
  refine lv_iload_n hx hb dL_law_1948 rfl (lv_at hl 0 rfl) ?_
  refine lv_iconst (v := 1) hx hb dL_law_1949 (by decide) ?_
  refine lv_iadd hx hb dL_law_1950 ?_
  refine p_nm (tt_add (X := (i : Int)) (Y := 1) hni (by decide) (by omega) (by omega)) (fun z7 hz7 => ?_)
  refine va_sld hx hb hX hbl hbA hS (i_ix hz7 (by omega) (by omega)) dL_law_1951 ?_
  refine pv_i (v := xs (i + 1)) (by rw [show Int32.toNatClampNeg z7 = i + 1 by have q9 := i_cl hz7 (by omega); omega]) ?_
  refine lv_aload_n hx hb dL_law_1952 rfl (lv_at hl 3 rfl) ?_
  refine lv_iload_n hx hb dL_law_1953 rfl (lv_at hl 0 rfl) ?_
  refine lv_iconst (v := 2) hx hb dL_law_1954 (by decide) ?_
  refine lv_iadd hx hb dL_law_1955 ?_
  refine p_nm (tt_add (X := (i : Int)) (Y := 2) hni (by decide) (by omega) (by omega)) (fun z8 hz8 => ?_)
  refine va_sld hx hb hX hbl hbA hS (i_ix hz8 (by omega) (by omega)) dL_law_1956 ?_
  refine pv_i (v := xs (i + 2)) (by rw [show Int32.toNatClampNeg z8 = i + 2 by have q9 := i_cl hz8 (by omega); omega]) ?_
  refine lv_aload_n hx hb dL_law_1957 rfl (lv_at hl 3 rfl) ?_
  refine lv_iload_n hx hb dL_law_1958 rfl (lv_at hl 0 rfl) ?_
  refine lv_iconst (v := 3) hx hb dL_law_1959 (by decide) ?_
  refine lv_iadd hx hb dL_law_1960 ?_
  refine p_nm (tt_add (X := (i : Int)) (Y := 3) hni (by decide) (by omega) (by omega)) (fun z9 hz9 => ?_)
  refine va_sld hx hb hX hbl hbA hS (i_ix hz9 (by omega) (by omega)) dL_law_1961 ?_
  refine pv_i (v := xs (i + 3)) (by rw [show Int32.toNatClampNeg z9 = i + 3 by have q9 := i_cl hz9 (by omega); omega]) ?_
  refine lcI (w := mw C B) (n := 3) (As := [.int (xs (i + 1)), .int (xs (i + 2)), .int (xs (i + 3))]) (rest := []) ⟨hx, hb, hml, hown, hts⟩ (fun _ h => uw_in h) (kX10_enter_0 l D C B v hIM (xs (i + 1)) (xs (i + 1)).toInt rfl (xs (i + 2)) (xs (i + 2)).toInt rfl (xs (i + 3)) (xs (i + 3)).toInt rfl H.size) q_m1883 q_n1884 q_e1885 q_i11 q_c1886 hvX10_enter ⟨(Nat.le_of_ble_eq_true rfl), (Nat.le_of_ble_eq_true rfl)⟩ ⟨(Nat.le_of_ble_eq_true rfl), (Nat.le_of_ble_eq_true rfl)⟩ hK hP hD hS hA Bl0 (fun _ _ _ => trivial) 10 0 rfl (mwc0 C B v) rfl hl.1 rfl (Nat.le_of_ble_eq_true rfl) dL_law_1962 (fun r10 u12 H locs p11 hP hD hS => ?_)
  obtain ⟨hu12, Uu12, p11⟩ := p11
  refine lv_pop hx hb dL_law_1965 rfl ?_
  refine lv_goto (tgt := 2362) hx hb dL_law_1966 (by decide) ?_
  exact kx u6 u12 H locs ls hu6 hu12 (hRL.un (Uu6.1 50 rfl) (Uu6.1 52 rfl) (Uu6.1 54 rfl) (Uu6.1 56 rfl) (Uu6.1 51 rfl) (Uu6.1 53 rfl) (Uu6.1 55 rfl) (Uu6.1 57 rfl) (Uu12.2.1 1 rfl) (Uu12.2.1 2 rfl)) hP hD hS hl
set_option maxHeartbeats 4000000 in
set_option maxRecDepth 100000 in
theorem law_case_61 {p : Program} {l : Launch} {e : Env} {s : State} {m : MethodId} {below : List Frame} {meth : Method} {c : Code} {D : va_G} {C : Nat → ClassId} {b L i : Nat} {xs : Nat → Int32} {A B adK adV : Nat → Nat} {u v : St} {H : Heap} {locs : List Loc} {ls : Array Slot} (C0 : lw_At p s m meth c b L xs) (hLL : L ≤ 3072) (hiL : i + 6 ≤ L) (hK : va_K D vwCl (tyl C) s) (hXS : XS adK adV (fun q : Nat => s.heap.size ≤ q) s) (hIC : IC u) (hIM : IM v) (hRL : RLt u v) (hP : va_P D vwCl (cw C A u ++ mw C B v) H) (hD : va_D (fun q : Nat => s.heap.size ≤ q) (cw C A u ++ mw C B v)) (hS : va_S (fun q : Nat => s.heap.size ≤ q) s.heap H locs) (hl : lv_has ls 4 [(3, .int (nI i)), (2, .ref (B 0)), (1, .ref (A 0)), (0, .ref b)])
    (kx : ∀ (u v : St) (H : Heap) (locs : List Loc) (ls : Array Slot), IC u → IM v → RLt u v → va_P D vwCl (cw C A u ++ mw C B v) H → va_D (fun q : Nat => s.heap.size ≤ q) (cw C A u ++ mw C B v) → va_S (fun q : Nat => s.heap.size ≤ q) s.heap H locs → lv_has ls 4 [(3, .int (nI i)), (2, .ref (B 0)), (1, .ref (A 0)), (0, .ref b)] → W p l e room_1 s m #[Value.ref b] below meth c H locs 180 4779 (lw_Z below #[Value.ref b] s) (F0 m 2362 ls [])) : W p l e room_1 s m #[Value.ref b] below meth c H locs 180 4779 (lw_Z below #[Value.ref b] s) (F0 m 1969 ls []) := by
  obtain ⟨hx, hb, hr, hml, hown, hts, hX, hbl, hlocks, hgv⟩ := id C0
  have hown : s.vm.findClass RL = some m.cls := hown
  have hb : c.code = cL_law := hb
  have hA : ∀ q : Nat, s.heap.size ≤ q → (fun q : Nat => s.heap.size ≤ q) q := fun _ h => h
  have hbA : ¬ (fun q : Nat => s.heap.size ≤ q) b := Nat.not_le.mpr hbl
  have hni : (nI i).toInt = (i : Int) := nI_toInt (by omega)
  refine lv_aload_n hx hb dL_law_1969 rfl (lv_at hl 2 rfl) ?_
  refine lcI (w := cw C A) (n := 0) (As := []) (rest := []) ⟨hx, hb, hml, hown, hts⟩ (fun _ h => uw_in h) (kX9_undo_0 l D C A u hIC  H.size) q_m1100 q_n1101 q_e1102 q_i1 q_c1103 hvX9_undo ⟨(Nat.le_of_ble_eq_true rfl), (Nat.le_of_ble_eq_true rfl)⟩ ⟨(Nat.le_of_ble_eq_true rfl), (Nat.le_of_ble_eq_true rfl)⟩ hK hP hD hS hA Bl0 (fun _ _ _ => trivial) 9 0 rfl (cwc0 C A u) rfl hl.1 rfl (Nat.le_of_ble_eq_true rfl) dL_law_1970 (fun r1 u3 H locs p2 hP hD hS => ?_)
  obtain ⟨hu3, Uu3, p2⟩ := p2
  refine lv_pop hx hb dL_law_1973 rfl ?_
  refine lv_aload_n hx hb dL_law_1974 rfl (lv_at hl 1 rfl) ?_
  refine lcI (w := mw C B) (n := 0) (As := []) (rest := []) ⟨hx, hb, hml, hown, hts⟩ (fun _ h => uw_in h) (kX10_undo_0 l D C B v hIM  H.size) q_m1887 q_n1888 q_e1889 q_i11 q_c1890 hvX10_undo ⟨(Nat.le_of_ble_eq_true rfl), (Nat.le_of_ble_eq_true rfl)⟩ ⟨(Nat.le_of_ble_eq_true rfl), (Nat.le_of_ble_eq_true rfl)⟩ hK hP hD hS hA Bl0 (fun _ _ _ => trivial) 10 0 rfl (mwc0 C B v) rfl hl.1 rfl (Nat.le_of_ble_eq_true rfl) dL_law_1975 (fun r4 u6 H locs p5 hP hD hS => ?_)
  obtain ⟨hu6, Uu6, p5⟩ := p5
  refine lv_pop hx hb dL_law_1978 rfl ?_
  refine lv_goto (tgt := 2362) hx hb dL_law_1979 (by decide) ?_
  exact kx u3 u6 H locs ls hu3 hu6 (hRL.un (Uu3.1 50 rfl) (Uu3.1 52 rfl) (Uu3.1 54 rfl) (Uu3.1 56 rfl) (Uu3.1 51 rfl) (Uu3.1 53 rfl) (Uu3.1 55 rfl) (Uu3.1 57 rfl) (Uu6.2.1 1 rfl) (Uu6.2.1 2 rfl)) hP hD hS hl
set_option maxHeartbeats 4000000 in
set_option maxRecDepth 100000 in
theorem law_case_62 {p : Program} {l : Launch} {e : Env} {s : State} {m : MethodId} {below : List Frame} {meth : Method} {c : Code} {D : va_G} {C : Nat → ClassId} {b L i : Nat} {xs : Nat → Int32} {A B adK adV : Nat → Nat} {u v : St} {H : Heap} {locs : List Loc} {ls : Array Slot} (C0 : lw_At p s m meth c b L xs) (hLL : L ≤ 3072) (hiL : i + 6 ≤ L) (hK : va_K D vwCl (tyl C) s) (hXS : XS adK adV (fun q : Nat => s.heap.size ≤ q) s) (hIC : IC u) (hIM : IM v) (hRL : RLt u v) (hP : va_P D vwCl (cw C A u ++ mw C B v) H) (hD : va_D (fun q : Nat => s.heap.size ≤ q) (cw C A u ++ mw C B v)) (hS : va_S (fun q : Nat => s.heap.size ≤ q) s.heap H locs) (hl : lv_has ls 4 [(3, .int (nI i)), (2, .ref (B 0)), (1, .ref (A 0)), (0, .ref b)])
    (kx : ∀ (u v : St) (H : Heap) (locs : List Loc) (ls : Array Slot), IC u → IM v → RLt u v → va_P D vwCl (cw C A u ++ mw C B v) H → va_D (fun q : Nat => s.heap.size ≤ q) (cw C A u ++ mw C B v) → va_S (fun q : Nat => s.heap.size ≤ q) s.heap H locs → lv_has ls 4 [(3, .int (nI i)), (2, .ref (B 0)), (1, .ref (A 0)), (0, .ref b)] → W p l e room_1 s m #[Value.ref b] below meth c H locs 180 4779 (lw_Z below #[Value.ref b] s) (F0 m 2362 ls [])) : W p l e room_1 s m #[Value.ref b] below meth c H locs 180 4779 (lw_Z below #[Value.ref b] s) (F0 m 1982 ls []) := by
  obtain ⟨hx, hb, hr, hml, hown, hts, hX, hbl, hlocks, hgv⟩ := id C0
  have hown : s.vm.findClass RL = some m.cls := hown
  have hb : c.code = cL_law := hb
  have hA : ∀ q : Nat, s.heap.size ≤ q → (fun q : Nat => s.heap.size ≤ q) q := fun _ h => h
  have hbA : ¬ (fun q : Nat => s.heap.size ≤ q) b := Nat.not_le.mpr hbl
  have hni : (nI i).toInt = (i : Int) := nI_toInt (by omega)
  refine lv_aload_n hx hb dL_law_1982 rfl (lv_at hl 2 rfl) ?_
  refine lcI (w := cw C A) (n := 0) (As := []) (rest := []) ⟨hx, hb, hml, hown, hts⟩ (fun _ h => uw_in h) (kX9_anew_0 l D C A u hIC  H.size) q_m1104 q_n1105 q_e1106 q_i1 q_c1107 hvX9_anew ⟨(Nat.le_of_ble_eq_true rfl), (Nat.le_of_ble_eq_true rfl)⟩ ⟨(Nat.le_of_ble_eq_true rfl), (Nat.le_of_ble_eq_true rfl)⟩ hK hP hD hS hA Bl0 (fun _ _ _ => trivial) 9 0 rfl (cwc0 C A u) rfl hl.1 rfl (Nat.le_of_ble_eq_true rfl) dL_law_1983 (fun r1 u3 H locs p2 hP hD hS => ?_)
  obtain ⟨hu3, Uu3, p2⟩ := p2
  refine lv_pop hx hb dL_law_1986 rfl ?_
  refine lv_aload_n hx hb dL_law_1987 rfl (lv_at hl 1 rfl) ?_
  refine lcI (w := mw C B) (n := 0) (As := []) (rest := []) ⟨hx, hb, hml, hown, hts⟩ (fun _ h => uw_in h) (kX10_anew_0 l D C B v hIM  H.size) q_m1891 q_n1892 q_e1893 q_i11 q_c1894 hvX10_anew ⟨(Nat.le_of_ble_eq_true rfl), (Nat.le_of_ble_eq_true rfl)⟩ ⟨(Nat.le_of_ble_eq_true rfl), (Nat.le_of_ble_eq_true rfl)⟩ hK hP hD hS hA Bl0 (fun _ _ _ => trivial) 10 0 rfl (mwc0 C B v) rfl hl.1 rfl (Nat.le_of_ble_eq_true rfl) dL_law_1988 (fun r4 u6 H locs p5 hP hD hS => ?_)
  obtain ⟨hu6, Uu6, p5⟩ := p5
  refine lv_pop hx hb dL_law_1991 rfl ?_
  refine lv_goto (tgt := 2362) hx hb dL_law_1992 (by decide) ?_
  exact kx u3 u6 H locs ls hu3 hu6 (hRL.un (Uu3.1 50 rfl) (Uu3.1 52 rfl) (Uu3.1 54 rfl) (Uu3.1 56 rfl) (Uu3.1 51 rfl) (Uu3.1 53 rfl) (Uu3.1 55 rfl) (Uu3.1 57 rfl) (Uu6.2.1 1 rfl) (Uu6.2.1 2 rfl)) hP hD hS hl
set_option maxHeartbeats 4000000 in
set_option maxRecDepth 100000 in
theorem law_case_63 {p : Program} {l : Launch} {e : Env} {s : State} {m : MethodId} {below : List Frame} {meth : Method} {c : Code} {D : va_G} {C : Nat → ClassId} {b L i : Nat} {xs : Nat → Int32} {A B adK adV : Nat → Nat} {u v : St} {H : Heap} {locs : List Loc} {ls : Array Slot} (C0 : lw_At p s m meth c b L xs) (hLL : L ≤ 3072) (hiL : i + 6 ≤ L) (hK : va_K D vwCl (tyl C) s) (hXS : XS adK adV (fun q : Nat => s.heap.size ≤ q) s) (hIC : IC u) (hIM : IM v) (hRL : RLt u v) (hP : va_P D vwCl (cw C A u ++ mw C B v) H) (hD : va_D (fun q : Nat => s.heap.size ≤ q) (cw C A u ++ mw C B v)) (hS : va_S (fun q : Nat => s.heap.size ≤ q) s.heap H locs) (hl : lv_has ls 4 [(3, .int (nI i)), (2, .ref (B 0)), (1, .ref (A 0)), (0, .ref b)])
    (kx : ∀ (u v : St) (H : Heap) (locs : List Loc) (ls : Array Slot), IC u → IM v → RLt u v → va_P D vwCl (cw C A u ++ mw C B v) H → va_D (fun q : Nat => s.heap.size ≤ q) (cw C A u ++ mw C B v) → va_S (fun q : Nat => s.heap.size ≤ q) s.heap H locs → lv_has ls 4 [(3, .int (nI i)), (2, .ref (B 0)), (1, .ref (A 0)), (0, .ref b)] → W p l e room_1 s m #[Value.ref b] below meth c H locs 180 4779 (lw_Z below #[Value.ref b] s) (F0 m 2362 ls [])) : W p l e room_1 s m #[Value.ref b] below meth c H locs 180 4779 (lw_Z below #[Value.ref b] s) (F0 m 1995 ls []) := by
  obtain ⟨hx, hb, hr, hml, hown, hts, hX, hbl, hlocks, hgv⟩ := id C0
  have hown : s.vm.findClass RL = some m.cls := hown
  have hb : c.code = cL_law := hb
  have hA : ∀ q : Nat, s.heap.size ≤ q → (fun q : Nat => s.heap.size ≤ q) q := fun _ h => h
  have hbA : ¬ (fun q : Nat => s.heap.size ≤ q) b := Nat.not_le.mpr hbl
  have hni : (nI i).toInt = (i : Int) := nI_toInt (by omega)
  refine lv_aload_n hx hb dL_law_1995 rfl (lv_at hl 2 rfl) ?_
  refine lv_aload_n hx hb dL_law_1996 rfl (lv_at hl 3 rfl) ?_
  refine lv_iload_n hx hb dL_law_1997 rfl (lv_at hl 0 rfl) ?_
  refine lv_iconst (v := 1) hx hb dL_law_1998 (by decide) ?_
  refine lv_iadd hx hb dL_law_1999 ?_
  refine p_nm (tt_add (X := (i : Int)) (Y := 1) hni (by decide) (by omega) (by omega)) (fun z1 hz1 => ?_)
  refine va_sld hx hb hX hbl hbA hS (i_ix hz1 (by omega) (by omega)) dL_law_2000 ?_
  refine pv_i (v := xs (i + 1)) (by rw [show Int32.toNatClampNeg z1 = i + 1 by have q9 := i_cl hz1 (by omega); omega]) ?_
  refine lv_aload_n hx hb dL_law_2001 rfl (lv_at hl 3 rfl) ?_
  refine lv_iload_n hx hb dL_law_2002 rfl (lv_at hl 0 rfl) ?_
  refine lv_iconst (v := 2) hx hb dL_law_2003 (by decide) ?_
  refine lv_iadd hx hb dL_law_2004 ?_
  refine p_nm (tt_add (X := (i : Int)) (Y := 2) hni (by decide) (by omega) (by omega)) (fun z2 hz2 => ?_)
  refine va_sld hx hb hX hbl hbA hS (i_ix hz2 (by omega) (by omega)) dL_law_2005 ?_
  refine pv_i (v := xs (i + 2)) (by rw [show Int32.toNatClampNeg z2 = i + 2 by have q9 := i_cl hz2 (by omega); omega]) ?_
  refine lcI (w := cw C A) (n := 2) (As := [.int (xs (i + 1)), .int (xs (i + 2))]) (rest := []) ⟨hx, hb, hml, hown, hts⟩ (fun _ h => uw_in h) (kX9_drawn_0 l D C A u hIC (xs (i + 1)) (xs (i + 1)).toInt rfl (xs (i + 2)) (xs (i + 2)).toInt rfl H.size) q_m1108 q_n1109 q_e1110 q_i1 q_c1111 hvX9_drawn ⟨(Nat.le_of_ble_eq_true rfl), (Nat.le_of_ble_eq_true rfl)⟩ ⟨(Nat.le_of_ble_eq_true rfl), (Nat.le_of_ble_eq_true rfl)⟩ hK hP hD hS hA Bl0 (fun _ _ _ => trivial) 9 0 rfl (cwc0 C A u) rfl hl.1 rfl (Nat.le_of_ble_eq_true rfl) dL_law_2006 (fun r3 u5 H locs p4 hP hD hS => ?_)
  obtain ⟨hu5, Uu5, p4⟩ := p4
  refine lv_pop hx hb dL_law_2009 rfl ?_
  refine lv_aload_n hx hb dL_law_2010 rfl (lv_at hl 1 rfl) ?_
  refine lv_aload_n hx hb dL_law_2011 rfl (lv_at hl 3 rfl) ?_
  refine lv_iload_n hx hb dL_law_2012 rfl (lv_at hl 0 rfl) ?_
  refine lv_iconst (v := 1) hx hb dL_law_2013 (by decide) ?_
  refine lv_iadd hx hb dL_law_2014 ?_
  refine p_nm (tt_add (X := (i : Int)) (Y := 1) hni (by decide) (by omega) (by omega)) (fun z6 hz6 => ?_)
  refine va_sld hx hb hX hbl hbA hS (i_ix hz6 (by omega) (by omega)) dL_law_2015 ?_
  refine pv_i (v := xs (i + 1)) (by rw [show Int32.toNatClampNeg z6 = i + 1 by have q9 := i_cl hz6 (by omega); omega]) ?_
  refine lv_aload_n hx hb dL_law_2016 rfl (lv_at hl 3 rfl) ?_
  refine lv_iload_n hx hb dL_law_2017 rfl (lv_at hl 0 rfl) ?_
  refine lv_iconst (v := 2) hx hb dL_law_2018 (by decide) ?_
  refine lv_iadd hx hb dL_law_2019 ?_
  refine p_nm (tt_add (X := (i : Int)) (Y := 2) hni (by decide) (by omega) (by omega)) (fun z7 hz7 => ?_)
  refine va_sld hx hb hX hbl hbA hS (i_ix hz7 (by omega) (by omega)) dL_law_2020 ?_
  refine pv_i (v := xs (i + 2)) (by rw [show Int32.toNatClampNeg z7 = i + 2 by have q9 := i_cl hz7 (by omega); omega]) ?_
  refine lcI (w := mw C B) (n := 2) (As := [.int (xs (i + 1)), .int (xs (i + 2))]) (rest := []) ⟨hx, hb, hml, hown, hts⟩ (fun _ h => uw_in h) (kX10_drawn_0 l D C B v hIM (xs (i + 1)) (xs (i + 1)).toInt rfl (xs (i + 2)) (xs (i + 2)).toInt rfl H.size) q_m1845 q_n1846 q_e1847 q_i11 q_c1848 hvX10_drawn ⟨(Nat.le_of_ble_eq_true rfl), (Nat.le_of_ble_eq_true rfl)⟩ ⟨(Nat.le_of_ble_eq_true rfl), (Nat.le_of_ble_eq_true rfl)⟩ hK hP hD hS hA Bl0 (fun _ _ _ => trivial) 10 0 rfl (mwc0 C B v) rfl hl.1 rfl (Nat.le_of_ble_eq_true rfl) dL_law_2021 (fun r8 u10 H locs p9 hP hD hS => ?_)
  obtain ⟨hu10, Uu10, p9⟩ := p9
  refine lv_pop hx hb dL_law_2024 rfl ?_
  refine lv_goto (tgt := 2362) hx hb dL_law_2025 (by decide) ?_
  exact kx u5 u10 H locs ls hu5 hu10 (hRL.un (Uu5.1 50 rfl) (Uu5.1 52 rfl) (Uu5.1 54 rfl) (Uu5.1 56 rfl) (Uu5.1 51 rfl) (Uu5.1 53 rfl) (Uu5.1 55 rfl) (Uu5.1 57 rfl) (Uu10.2.1 1 rfl) (Uu10.2.1 2 rfl)) hP hD hS hl
set_option maxHeartbeats 4000000 in
set_option maxRecDepth 100000 in
theorem law_case_64 {p : Program} {l : Launch} {e : Env} {s : State} {m : MethodId} {below : List Frame} {meth : Method} {c : Code} {D : va_G} {C : Nat → ClassId} {b L i : Nat} {xs : Nat → Int32} {A B adK adV : Nat → Nat} {u v : St} {H : Heap} {locs : List Loc} {ls : Array Slot} (C0 : lw_At p s m meth c b L xs) (hLL : L ≤ 3072) (hiL : i + 6 ≤ L) (hK : va_K D vwCl (tyl C) s) (hXS : XS adK adV (fun q : Nat => s.heap.size ≤ q) s) (hIC : IC u) (hIM : IM v) (hRL : RLt u v) (hP : va_P D vwCl (cw C A u ++ mw C B v) H) (hD : va_D (fun q : Nat => s.heap.size ≤ q) (cw C A u ++ mw C B v)) (hS : va_S (fun q : Nat => s.heap.size ≤ q) s.heap H locs) (hl : lv_has ls 4 [(3, .int (nI i)), (2, .ref (B 0)), (1, .ref (A 0)), (0, .ref b)])
    (kx : ∀ (u v : St) (H : Heap) (locs : List Loc) (ls : Array Slot), IC u → IM v → RLt u v → va_P D vwCl (cw C A u ++ mw C B v) H → va_D (fun q : Nat => s.heap.size ≤ q) (cw C A u ++ mw C B v) → va_S (fun q : Nat => s.heap.size ≤ q) s.heap H locs → lv_has ls 4 [(3, .int (nI i)), (2, .ref (B 0)), (1, .ref (A 0)), (0, .ref b)] → W p l e room_1 s m #[Value.ref b] below meth c H locs 180 4779 (lw_Z below #[Value.ref b] s) (F0 m 2362 ls [])) : W p l e room_1 s m #[Value.ref b] below meth c H locs 180 4779 (lw_Z below #[Value.ref b] s) (F0 m 2028 ls []) := by
  obtain ⟨hx, hb, hr, hml, hown, hts, hX, hbl, hlocks, hgv⟩ := id C0
  have hown : s.vm.findClass RL = some m.cls := hown
  have hb : c.code = cL_law := hb
  have hA : ∀ q : Nat, s.heap.size ≤ q → (fun q : Nat => s.heap.size ≤ q) q := fun _ h => h
  have hbA : ¬ (fun q : Nat => s.heap.size ≤ q) b := Nat.not_le.mpr hbl
  have hni : (nI i).toInt = (i : Int) := nI_toInt (by omega)
  refine lv_aload_n hx hb dL_law_2028 rfl (lv_at hl 2 rfl) ?_
  refine lv_aload_n hx hb dL_law_2029 rfl (lv_at hl 3 rfl) ?_
  refine lv_iload_n hx hb dL_law_2030 rfl (lv_at hl 0 rfl) ?_
  refine lv_iconst (v := 1) hx hb dL_law_2031 (by decide) ?_
  refine lv_iadd hx hb dL_law_2032 ?_
  refine p_nm (tt_add (X := (i : Int)) (Y := 1) hni (by decide) (by omega) (by omega)) (fun z1 hz1 => ?_)
  refine va_sld hx hb hX hbl hbA hS (i_ix hz1 (by omega) (by omega)) dL_law_2033 ?_
  refine pv_i (v := xs (i + 1)) (by rw [show Int32.toNatClampNeg z1 = i + 1 by have q9 := i_cl hz1 (by omega); omega]) ?_
  refine lv_aload_n hx hb dL_law_2034 rfl (lv_at hl 3 rfl) ?_
  refine lv_iload_n hx hb dL_law_2035 rfl (lv_at hl 0 rfl) ?_
  refine lv_iconst (v := 2) hx hb dL_law_2036 (by decide) ?_
  refine lv_iadd hx hb dL_law_2037 ?_
  refine p_nm (tt_add (X := (i : Int)) (Y := 2) hni (by decide) (by omega) (by omega)) (fun z2 hz2 => ?_)
  refine va_sld hx hb hX hbl hbA hS (i_ix hz2 (by omega) (by omega)) dL_law_2038 ?_
  refine pv_i (v := xs (i + 2)) (by rw [show Int32.toNatClampNeg z2 = i + 2 by have q9 := i_cl hz2 (by omega); omega]) ?_
  refine lv_aload_n hx hb dL_law_2039 rfl (lv_at hl 3 rfl) ?_
  refine lv_iload_n hx hb dL_law_2040 rfl (lv_at hl 0 rfl) ?_
  refine lv_iconst (v := 3) hx hb dL_law_2041 (by decide) ?_
  refine lv_iadd hx hb dL_law_2042 ?_
  refine p_nm (tt_add (X := (i : Int)) (Y := 3) hni (by decide) (by omega) (by omega)) (fun z3 hz3 => ?_)
  refine va_sld hx hb hX hbl hbA hS (i_ix hz3 (by omega) (by omega)) dL_law_2043 ?_
  refine pv_i (v := xs (i + 3)) (by rw [show Int32.toNatClampNeg z3 = i + 3 by have q9 := i_cl hz3 (by omega); omega]) ?_
  refine lv_aload_n hx hb dL_law_2044 rfl (lv_at hl 3 rfl) ?_
  refine lv_iload_n hx hb dL_law_2045 rfl (lv_at hl 0 rfl) ?_
  refine lv_iconst (v := 4) hx hb dL_law_2046 (by decide) ?_
  refine lv_iadd hx hb dL_law_2047 ?_
  refine p_nm (tt_add (X := (i : Int)) (Y := 4) hni (by decide) (by omega) (by omega)) (fun z4 hz4 => ?_)
  refine va_sld hx hb hX hbl hbA hS (i_ix hz4 (by omega) (by omega)) dL_law_2048 ?_
  refine pv_i (v := xs (i + 4)) (by rw [show Int32.toNatClampNeg z4 = i + 4 by have q9 := i_cl hz4 (by omega); omega]) ?_
  refine lcI (w := cw C A) (n := 4) (As := [.int (xs (i + 1)), .int (xs (i + 2)), .int (xs (i + 3)), .int (xs (i + 4))]) (rest := []) ⟨hx, hb, hml, hown, hts⟩ (fun _ h => uw_in h) (kX9_luck_0 l D C A u hIC (xs (i + 1)) (xs (i + 1)).toInt rfl (xs (i + 2)) (xs (i + 2)).toInt rfl (xs (i + 3)) (xs (i + 3)).toInt rfl (xs (i + 4)) (xs (i + 4)).toInt rfl H.size) q_m1130 q_n1131 q_e1132 q_i1 q_c1133 hvX9_luck ⟨(Nat.le_of_ble_eq_true rfl), (Nat.le_of_ble_eq_true rfl)⟩ ⟨(Nat.le_of_ble_eq_true rfl), (Nat.le_of_ble_eq_true rfl)⟩ hK hP hD hS hA Bl0 (fun _ _ _ => trivial) 9 0 rfl (cwc0 C A u) rfl hl.1 rfl (Nat.le_of_ble_eq_true rfl) dL_law_2049 (fun r5 u7 H locs p6 hP hD hS => ?_)
  obtain ⟨hu7, Uu7, p6⟩ := p6
  refine lv_pop hx hb dL_law_2052 rfl ?_
  refine lv_aload_n hx hb dL_law_2053 rfl (lv_at hl 1 rfl) ?_
  refine lv_aload_n hx hb dL_law_2054 rfl (lv_at hl 3 rfl) ?_
  refine lv_iload_n hx hb dL_law_2055 rfl (lv_at hl 0 rfl) ?_
  refine lv_iconst (v := 1) hx hb dL_law_2056 (by decide) ?_
  refine lv_iadd hx hb dL_law_2057 ?_
  refine p_nm (tt_add (X := (i : Int)) (Y := 1) hni (by decide) (by omega) (by omega)) (fun z8 hz8 => ?_)
  refine va_sld hx hb hX hbl hbA hS (i_ix hz8 (by omega) (by omega)) dL_law_2058 ?_
  refine pv_i (v := xs (i + 1)) (by rw [show Int32.toNatClampNeg z8 = i + 1 by have q9 := i_cl hz8 (by omega); omega]) ?_
  refine lv_aload_n hx hb dL_law_2059 rfl (lv_at hl 3 rfl) ?_
  refine lv_iload_n hx hb dL_law_2060 rfl (lv_at hl 0 rfl) ?_
  refine lv_iconst (v := 2) hx hb dL_law_2061 (by decide) ?_
  refine lv_iadd hx hb dL_law_2062 ?_
  refine p_nm (tt_add (X := (i : Int)) (Y := 2) hni (by decide) (by omega) (by omega)) (fun z9 hz9 => ?_)
  refine va_sld hx hb hX hbl hbA hS (i_ix hz9 (by omega) (by omega)) dL_law_2063 ?_
  refine pv_i (v := xs (i + 2)) (by rw [show Int32.toNatClampNeg z9 = i + 2 by have q9 := i_cl hz9 (by omega); omega]) ?_
  refine lv_aload_n hx hb dL_law_2064 rfl (lv_at hl 3 rfl) ?_
  refine lv_iload_n hx hb dL_law_2065 rfl (lv_at hl 0 rfl) ?_
  refine lv_iconst (v := 3) hx hb dL_law_2066 (by decide) ?_
  refine lv_iadd hx hb dL_law_2067 ?_
  refine p_nm (tt_add (X := (i : Int)) (Y := 3) hni (by decide) (by omega) (by omega)) (fun z10 hz10 => ?_)
  refine va_sld hx hb hX hbl hbA hS (i_ix hz10 (by omega) (by omega)) dL_law_2068 ?_
  refine pv_i (v := xs (i + 3)) (by rw [show Int32.toNatClampNeg z10 = i + 3 by have q9 := i_cl hz10 (by omega); omega]) ?_
  refine lv_aload_n hx hb dL_law_2069 rfl (lv_at hl 3 rfl) ?_
  refine lv_iload_n hx hb dL_law_2070 rfl (lv_at hl 0 rfl) ?_
  refine lv_iconst (v := 4) hx hb dL_law_2071 (by decide) ?_
  refine lv_iadd hx hb dL_law_2072 ?_
  refine p_nm (tt_add (X := (i : Int)) (Y := 4) hni (by decide) (by omega) (by omega)) (fun z11 hz11 => ?_)
  refine va_sld hx hb hX hbl hbA hS (i_ix hz11 (by omega) (by omega)) dL_law_2073 ?_
  refine pv_i (v := xs (i + 4)) (by rw [show Int32.toNatClampNeg z11 = i + 4 by have q9 := i_cl hz11 (by omega); omega]) ?_
  refine lcI (w := mw C B) (n := 4) (As := [.int (xs (i + 1)), .int (xs (i + 2)), .int (xs (i + 3)), .int (xs (i + 4))]) (rest := []) ⟨hx, hb, hml, hown, hts⟩ (fun _ h => uw_in h) (kX10_luck_0 l D C B v hIM (xs (i + 1)) (xs (i + 1)).toInt rfl (xs (i + 2)) (xs (i + 2)).toInt rfl (xs (i + 3)) (xs (i + 3)).toInt rfl (xs (i + 4)) (xs (i + 4)).toInt rfl H.size) q_m1862 q_n1863 q_e1864 q_i11 q_c1865 hvX10_luck ⟨(Nat.le_of_ble_eq_true rfl), (Nat.le_of_ble_eq_true rfl)⟩ ⟨(Nat.le_of_ble_eq_true rfl), (Nat.le_of_ble_eq_true rfl)⟩ hK hP hD hS hA Bl0 (fun _ _ _ => trivial) 10 0 rfl (mwc0 C B v) rfl hl.1 rfl (Nat.le_of_ble_eq_true rfl) dL_law_2074 (fun r12 u14 H locs p13 hP hD hS => ?_)
  obtain ⟨hu14, Uu14, p13⟩ := p13
  refine lv_pop hx hb dL_law_2077 rfl ?_
  refine lv_goto (tgt := 2362) hx hb dL_law_2078 (by decide) ?_
  exact kx u7 u14 H locs ls hu7 hu14 (hRL.un (Uu7.1 50 rfl) (Uu7.1 52 rfl) (Uu7.1 54 rfl) (Uu7.1 56 rfl) (Uu7.1 51 rfl) (Uu7.1 53 rfl) (Uu7.1 55 rfl) (Uu7.1 57 rfl) (Uu14.2.1 1 rfl) (Uu14.2.1 2 rfl)) hP hD hS hl
set_option maxHeartbeats 4000000 in
set_option maxRecDepth 100000 in
theorem law_case_65 {p : Program} {l : Launch} {e : Env} {s : State} {m : MethodId} {below : List Frame} {meth : Method} {c : Code} {D : va_G} {C : Nat → ClassId} {b L i : Nat} {xs : Nat → Int32} {A B adK adV : Nat → Nat} {u v : St} {H : Heap} {locs : List Loc} {ls : Array Slot} (C0 : lw_At p s m meth c b L xs) (hLL : L ≤ 3072) (hiL : i + 6 ≤ L) (hK : va_K D vwCl (tyl C) s) (hXS : XS adK adV (fun q : Nat => s.heap.size ≤ q) s) (hIC : IC u) (hIM : IM v) (hRL : RLt u v) (hP : va_P D vwCl (cw C A u ++ mw C B v) H) (hD : va_D (fun q : Nat => s.heap.size ≤ q) (cw C A u ++ mw C B v)) (hS : va_S (fun q : Nat => s.heap.size ≤ q) s.heap H locs) (hl : lv_has ls 4 [(3, .int (nI i)), (2, .ref (B 0)), (1, .ref (A 0)), (0, .ref b)])
    (kx : ∀ (u v : St) (H : Heap) (locs : List Loc) (ls : Array Slot), IC u → IM v → RLt u v → va_P D vwCl (cw C A u ++ mw C B v) H → va_D (fun q : Nat => s.heap.size ≤ q) (cw C A u ++ mw C B v) → va_S (fun q : Nat => s.heap.size ≤ q) s.heap H locs → lv_has ls 4 [(3, .int (nI i)), (2, .ref (B 0)), (1, .ref (A 0)), (0, .ref b)] → W p l e room_1 s m #[Value.ref b] below meth c H locs 180 4779 (lw_Z below #[Value.ref b] s) (F0 m 2362 ls [])) : W p l e room_1 s m #[Value.ref b] below meth c H locs 180 4779 (lw_Z below #[Value.ref b] s) (F0 m 2081 ls []) := by
  obtain ⟨hx, hb, hr, hml, hown, hts, hX, hbl, hlocks, hgv⟩ := id C0
  have hown : s.vm.findClass RL = some m.cls := hown
  have hb : c.code = cL_law := hb
  have hA : ∀ q : Nat, s.heap.size ≤ q → (fun q : Nat => s.heap.size ≤ q) q := fun _ h => h
  have hbA : ¬ (fun q : Nat => s.heap.size ≤ q) b := Nat.not_le.mpr hbl
  have hni : (nI i).toInt = (i : Int) := nI_toInt (by omega)
  refine lv_aload_n hx hb dL_law_2081 rfl (lv_at hl 2 rfl) ?_
  refine lv_aload_n hx hb dL_law_2082 rfl (lv_at hl 3 rfl) ?_
  refine lv_iload_n hx hb dL_law_2083 rfl (lv_at hl 0 rfl) ?_
  refine lv_iconst (v := 1) hx hb dL_law_2084 (by decide) ?_
  refine lv_iadd hx hb dL_law_2085 ?_
  refine p_nm (tt_add (X := (i : Int)) (Y := 1) hni (by decide) (by omega) (by omega)) (fun z1 hz1 => ?_)
  refine va_sld hx hb hX hbl hbA hS (i_ix hz1 (by omega) (by omega)) dL_law_2086 ?_
  refine pv_i (v := xs (i + 1)) (by rw [show Int32.toNatClampNeg z1 = i + 1 by have q9 := i_cl hz1 (by omega); omega]) ?_
  refine lv_aload_n hx hb dL_law_2087 rfl (lv_at hl 3 rfl) ?_
  refine lv_iload_n hx hb dL_law_2088 rfl (lv_at hl 0 rfl) ?_
  refine lv_iconst (v := 2) hx hb dL_law_2089 (by decide) ?_
  refine lv_iadd hx hb dL_law_2090 ?_
  refine p_nm (tt_add (X := (i : Int)) (Y := 2) hni (by decide) (by omega) (by omega)) (fun z2 hz2 => ?_)
  refine va_sld hx hb hX hbl hbA hS (i_ix hz2 (by omega) (by omega)) dL_law_2091 ?_
  refine pv_i (v := xs (i + 2)) (by rw [show Int32.toNatClampNeg z2 = i + 2 by have q9 := i_cl hz2 (by omega); omega]) ?_
  refine lcI (w := cw C A) (n := 2) (As := [.int (xs (i + 1)), .int (xs (i + 2))]) (rest := []) ⟨hx, hb, hml, hown, hts⟩ (fun _ h => uw_in h) (kX9_rate_0 l D C A u hIC (xs (i + 1)) (xs (i + 1)).toInt rfl (xs (i + 2)) (xs (i + 2)).toInt rfl H.size) q_m1138 q_n1139 q_e1140 q_i1 q_c1141 hvX9_rate ⟨(Nat.le_of_ble_eq_true rfl), (Nat.le_of_ble_eq_true rfl)⟩ ⟨(Nat.le_of_ble_eq_true rfl), (Nat.le_of_ble_eq_true rfl)⟩ hK hP hD hS hA Bl0 (fun _ _ _ => trivial) 9 0 rfl (cwc0 C A u) rfl hl.1 rfl (Nat.le_of_ble_eq_true rfl) dL_law_2092 (fun r3 u5 H locs p4 hP hD hS => ?_)
  obtain ⟨hu5, Uu5, p4⟩ := p4
  refine lv_pop hx hb dL_law_2095 rfl ?_
  refine lv_aload_n hx hb dL_law_2096 rfl (lv_at hl 1 rfl) ?_
  refine lv_aload_n hx hb dL_law_2097 rfl (lv_at hl 3 rfl) ?_
  refine lv_iload_n hx hb dL_law_2098 rfl (lv_at hl 0 rfl) ?_
  refine lv_iconst (v := 1) hx hb dL_law_2099 (by decide) ?_
  refine lv_iadd hx hb dL_law_2100 ?_
  refine p_nm (tt_add (X := (i : Int)) (Y := 1) hni (by decide) (by omega) (by omega)) (fun z6 hz6 => ?_)
  refine va_sld hx hb hX hbl hbA hS (i_ix hz6 (by omega) (by omega)) dL_law_2101 ?_
  refine pv_i (v := xs (i + 1)) (by rw [show Int32.toNatClampNeg z6 = i + 1 by have q9 := i_cl hz6 (by omega); omega]) ?_
  refine lv_aload_n hx hb dL_law_2102 rfl (lv_at hl 3 rfl) ?_
  refine lv_iload_n hx hb dL_law_2103 rfl (lv_at hl 0 rfl) ?_
  refine lv_iconst (v := 2) hx hb dL_law_2104 (by decide) ?_
  refine lv_iadd hx hb dL_law_2105 ?_
  refine p_nm (tt_add (X := (i : Int)) (Y := 2) hni (by decide) (by omega) (by omega)) (fun z7 hz7 => ?_)
  refine va_sld hx hb hX hbl hbA hS (i_ix hz7 (by omega) (by omega)) dL_law_2106 ?_
  refine pv_i (v := xs (i + 2)) (by rw [show Int32.toNatClampNeg z7 = i + 2 by have q9 := i_cl hz7 (by omega); omega]) ?_
  refine lcI (w := mw C B) (n := 2) (As := [.int (xs (i + 1)), .int (xs (i + 2))]) (rest := []) ⟨hx, hb, hml, hown, hts⟩ (fun _ h => uw_in h) (kX10_rate_0 l D C B v hIM (xs (i + 1)) (xs (i + 1)).toInt rfl (xs (i + 2)) (xs (i + 2)).toInt rfl H.size) q_m1895 q_n1896 q_e1897 q_i11 q_c1898 hvX10_rate ⟨(Nat.le_of_ble_eq_true rfl), (Nat.le_of_ble_eq_true rfl)⟩ ⟨(Nat.le_of_ble_eq_true rfl), (Nat.le_of_ble_eq_true rfl)⟩ hK hP hD hS hA Bl0 (fun _ _ _ => trivial) 10 0 rfl (mwc0 C B v) rfl hl.1 rfl (Nat.le_of_ble_eq_true rfl) dL_law_2107 (fun r8 u10 H locs p9 hP hD hS => ?_)
  obtain ⟨hu10, Uu10, p9⟩ := p9
  refine lv_pop hx hb dL_law_2110 rfl ?_
  refine lv_goto (tgt := 2362) hx hb dL_law_2111 (by decide) ?_
  exact kx u5 u10 H locs ls hu5 hu10 (hRL.un (Uu5.1 50 rfl) (Uu5.1 52 rfl) (Uu5.1 54 rfl) (Uu5.1 56 rfl) (Uu5.1 51 rfl) (Uu5.1 53 rfl) (Uu5.1 55 rfl) (Uu5.1 57 rfl) (Uu10.2.1 1 rfl) (Uu10.2.1 2 rfl)) hP hD hS hl
set_option maxHeartbeats 4000000 in
set_option maxRecDepth 100000 in
theorem law_case_66 {p : Program} {l : Launch} {e : Env} {s : State} {m : MethodId} {below : List Frame} {meth : Method} {c : Code} {D : va_G} {C : Nat → ClassId} {b L i : Nat} {xs : Nat → Int32} {A B adK adV : Nat → Nat} {u v : St} {H : Heap} {locs : List Loc} {ls : Array Slot} (C0 : lw_At p s m meth c b L xs) (hLL : L ≤ 3072) (hiL : i + 6 ≤ L) (hK : va_K D vwCl (tyl C) s) (hXS : XS adK adV (fun q : Nat => s.heap.size ≤ q) s) (hIC : IC u) (hIM : IM v) (hRL : RLt u v) (hP : va_P D vwCl (cw C A u ++ mw C B v) H) (hD : va_D (fun q : Nat => s.heap.size ≤ q) (cw C A u ++ mw C B v)) (hS : va_S (fun q : Nat => s.heap.size ≤ q) s.heap H locs) (hl : lv_has ls 4 [(3, .int (nI i)), (2, .ref (B 0)), (1, .ref (A 0)), (0, .ref b)])
    (kx : ∀ (u v : St) (H : Heap) (locs : List Loc) (ls : Array Slot), IC u → IM v → RLt u v → va_P D vwCl (cw C A u ++ mw C B v) H → va_D (fun q : Nat => s.heap.size ≤ q) (cw C A u ++ mw C B v) → va_S (fun q : Nat => s.heap.size ≤ q) s.heap H locs → lv_has ls 4 [(3, .int (nI i)), (2, .ref (B 0)), (1, .ref (A 0)), (0, .ref b)] → W p l e room_1 s m #[Value.ref b] below meth c H locs 180 4779 (lw_Z below #[Value.ref b] s) (F0 m 2362 ls [])) : W p l e room_1 s m #[Value.ref b] below meth c H locs 180 4779 (lw_Z below #[Value.ref b] s) (F0 m 2114 ls []) := by
  obtain ⟨hx, hb, hr, hml, hown, hts, hX, hbl, hlocks, hgv⟩ := id C0
  have hown : s.vm.findClass RL = some m.cls := hown
  have hb : c.code = cL_law := hb
  have hA : ∀ q : Nat, s.heap.size ≤ q → (fun q : Nat => s.heap.size ≤ q) q := fun _ h => h
  have hbA : ¬ (fun q : Nat => s.heap.size ≤ q) b := Nat.not_le.mpr hbl
  have hni : (nI i).toInt = (i : Int) := nI_toInt (by omega)
  refine lv_aload_n hx hb dL_law_2114 rfl (lv_at hl 2 rfl) ?_
  refine lv_aload_n hx hb dL_law_2115 rfl (lv_at hl 3 rfl) ?_
  refine lv_iload_n hx hb dL_law_2116 rfl (lv_at hl 0 rfl) ?_
  refine lv_iconst (v := 1) hx hb dL_law_2117 (by decide) ?_
  refine lv_iadd hx hb dL_law_2118 ?_
  refine p_nm (tt_add (X := (i : Int)) (Y := 1) hni (by decide) (by omega) (by omega)) (fun z1 hz1 => ?_)
  refine va_sld hx hb hX hbl hbA hS (i_ix hz1 (by omega) (by omega)) dL_law_2119 ?_
  refine pv_i (v := xs (i + 1)) (by rw [show Int32.toNatClampNeg z1 = i + 1 by have q9 := i_cl hz1 (by omega); omega]) ?_
  refine cvS (n := 1) (As := [.int (xs (i + 1))]) (rest := []) ⟨hx, hb, hml, hown, hts⟩ (fun _ h => uw_in h) (kX9_count_0 l D C A u hIC (xs (i + 1)) (xs (i + 1)).toInt rfl) q_m1142 q_n1143 q_e1144 q_i1 q_c1145 hvX9_count ⟨(Nat.le_of_ble_eq_true rfl), (Nat.le_of_ble_eq_true rfl)⟩ ⟨(Nat.le_of_ble_eq_true rfl), (Nat.le_of_ble_eq_true rfl)⟩ hK hP.left 9 0 rfl (cwc0 C A u) rfl hl.1 rfl (Nat.le_of_ble_eq_true rfl) dL_law_2120 (fun r2 p3 => ?_)
  have hP := hP.flip
  have hD := hD.flip
  refine lv_pop hx hb dL_law_2123 rfl ?_
  refine lv_aload_n hx hb dL_law_2124 rfl (lv_at hl 1 rfl) ?_
  refine lv_aload_n hx hb dL_law_2125 rfl (lv_at hl 3 rfl) ?_
  refine lv_iload_n hx hb dL_law_2126 rfl (lv_at hl 0 rfl) ?_
  refine lv_iconst (v := 1) hx hb dL_law_2127 (by decide) ?_
  refine lv_iadd hx hb dL_law_2128 ?_
  refine p_nm (tt_add (X := (i : Int)) (Y := 1) hni (by decide) (by omega) (by omega)) (fun z4 hz4 => ?_)
  refine va_sld hx hb hX hbl hbA hS (i_ix hz4 (by omega) (by omega)) dL_law_2129 ?_
  refine pv_i (v := xs (i + 1)) (by rw [show Int32.toNatClampNeg z4 = i + 1 by have q9 := i_cl hz4 (by omega); omega]) ?_
  refine lcI (w := mw C B) (n := 1) (As := [.int (xs (i + 1))]) (rest := []) ⟨hx, hb, hml, hown, hts⟩ (fun _ h => uw_in h) (kX10_count_0 l D C B v hIM (xs (i + 1)) (xs (i + 1)).toInt rfl H.size) q_m1900 q_n1901 q_e1902 q_i11 q_c1903 hvX10_count ⟨(Nat.le_of_ble_eq_true rfl), (Nat.le_of_ble_eq_true rfl)⟩ ⟨(Nat.le_of_ble_eq_true rfl), (Nat.le_of_ble_eq_true rfl)⟩ hK hP hD hS hA Bl0 (fun _ _ _ => trivial) 10 0 rfl (mwc0 C B v) rfl hl.1 rfl (Nat.le_of_ble_eq_true rfl) dL_law_2130 (fun r5 u7 H locs p6 hP hD hS => ?_)
  obtain ⟨hu7, Uu7, p6⟩ := p6
  refine lv_pop hx hb dL_law_2133 rfl ?_
  refine lv_goto (tgt := 2362) hx hb dL_law_2134 (by decide) ?_
  exact kx u u7 H locs ls hIC hu7 (hRL.un rfl rfl rfl rfl rfl rfl rfl rfl (Uu7.2.1 1 rfl) (Uu7.2.1 2 rfl)) hP hD hS hl
set_option maxHeartbeats 4000000 in
set_option maxRecDepth 100000 in
theorem law_case_67 {p : Program} {l : Launch} {e : Env} {s : State} {m : MethodId} {below : List Frame} {meth : Method} {c : Code} {D : va_G} {C : Nat → ClassId} {b L i : Nat} {xs : Nat → Int32} {A B adK adV : Nat → Nat} {u v : St} {H : Heap} {locs : List Loc} {ls : Array Slot} (C0 : lw_At p s m meth c b L xs) (hLL : L ≤ 3072) (hiL : i + 6 ≤ L) (hK : va_K D vwCl (tyl C) s) (hXS : XS adK adV (fun q : Nat => s.heap.size ≤ q) s) (hIC : IC u) (hIM : IM v) (hRL : RLt u v) (hP : va_P D vwCl (cw C A u ++ mw C B v) H) (hD : va_D (fun q : Nat => s.heap.size ≤ q) (cw C A u ++ mw C B v)) (hS : va_S (fun q : Nat => s.heap.size ≤ q) s.heap H locs) (hl : lv_has ls 4 [(3, .int (nI i)), (2, .ref (B 0)), (1, .ref (A 0)), (0, .ref b)])
    (kx : ∀ (u v : St) (H : Heap) (locs : List Loc) (ls : Array Slot), IC u → IM v → RLt u v → va_P D vwCl (cw C A u ++ mw C B v) H → va_D (fun q : Nat => s.heap.size ≤ q) (cw C A u ++ mw C B v) → va_S (fun q : Nat => s.heap.size ≤ q) s.heap H locs → lv_has ls 4 [(3, .int (nI i)), (2, .ref (B 0)), (1, .ref (A 0)), (0, .ref b)] → W p l e room_1 s m #[Value.ref b] below meth c H locs 180 4779 (lw_Z below #[Value.ref b] s) (F0 m 2362 ls [])) : W p l e room_1 s m #[Value.ref b] below meth c H locs 180 4779 (lw_Z below #[Value.ref b] s) (F0 m 2137 ls []) := by
  obtain ⟨hx, hb, hr, hml, hown, hts, hX, hbl, hlocks, hgv⟩ := id C0
  have hown : s.vm.findClass RL = some m.cls := hown
  have hb : c.code = cL_law := hb
  have hA : ∀ q : Nat, s.heap.size ≤ q → (fun q : Nat => s.heap.size ≤ q) q := fun _ h => h
  have hbA : ¬ (fun q : Nat => s.heap.size ≤ q) b := Nat.not_le.mpr hbl
  have hni : (nI i).toInt = (i : Int) := nI_toInt (by omega)
  refine lv_aload_n hx hb dL_law_2137 rfl (lv_at hl 2 rfl) ?_
  refine lv_aload_n hx hb dL_law_2138 rfl (lv_at hl 3 rfl) ?_
  refine lv_iload_n hx hb dL_law_2139 rfl (lv_at hl 0 rfl) ?_
  refine lv_iconst (v := 1) hx hb dL_law_2140 (by decide) ?_
  refine lv_iadd hx hb dL_law_2141 ?_
  refine p_nm (tt_add (X := (i : Int)) (Y := 1) hni (by decide) (by omega) (by omega)) (fun z1 hz1 => ?_)
  refine va_sld hx hb hX hbl hbA hS (i_ix hz1 (by omega) (by omega)) dL_law_2142 ?_
  refine pv_i (v := xs (i + 1)) (by rw [show Int32.toNatClampNeg z1 = i + 1 by have q9 := i_cl hz1 (by omega); omega]) ?_
  refine lcI (w := cw C A) (n := 1) (As := [.int (xs (i + 1))]) (rest := []) ⟨hx, hb, hml, hown, hts⟩ (fun _ h => uw_in h) (kX9_image_0 l D C A u hIC (xs (i + 1)) (xs (i + 1)).toInt rfl H.size) q_m1150 q_n1151 q_e1152 q_i1 q_c1153 hvX9_image ⟨(Nat.le_of_ble_eq_true rfl), (Nat.le_of_ble_eq_true rfl)⟩ ⟨(Nat.le_of_ble_eq_true rfl), (Nat.le_of_ble_eq_true rfl)⟩ hK hP hD hS hA Bl0 (fun _ _ _ => trivial) 9 0 rfl (cwc0 C A u) rfl hl.1 rfl (Nat.le_of_ble_eq_true rfl) dL_law_2143 (fun r2 u4 H locs p3 hP hD hS => ?_)
  obtain ⟨hu4, Uu4, p3⟩ := p3
  refine lv_pop hx hb dL_law_2146 rfl ?_
  refine lv_aload_n hx hb dL_law_2147 rfl (lv_at hl 1 rfl) ?_
  refine lv_aload_n hx hb dL_law_2148 rfl (lv_at hl 3 rfl) ?_
  refine lv_iload_n hx hb dL_law_2149 rfl (lv_at hl 0 rfl) ?_
  refine lv_iconst (v := 1) hx hb dL_law_2150 (by decide) ?_
  refine lv_iadd hx hb dL_law_2151 ?_
  refine p_nm (tt_add (X := (i : Int)) (Y := 1) hni (by decide) (by omega) (by omega)) (fun z5 hz5 => ?_)
  refine va_sld hx hb hX hbl hbA hS (i_ix hz5 (by omega) (by omega)) dL_law_2152 ?_
  refine pv_i (v := xs (i + 1)) (by rw [show Int32.toNatClampNeg z5 = i + 1 by have q9 := i_cl hz5 (by omega); omega]) ?_
  refine lcI (w := mw C B) (n := 1) (As := [.int (xs (i + 1))]) (rest := []) ⟨hx, hb, hml, hown, hts⟩ (fun _ h => uw_in h) (kX10_image_0 l D C B v hIM (xs (i + 1)) (xs (i + 1)).toInt rfl H.size) q_m1905 q_n1906 q_e1907 q_i11 q_c1908 hvX10_image ⟨(Nat.le_of_ble_eq_true rfl), (Nat.le_of_ble_eq_true rfl)⟩ ⟨(Nat.le_of_ble_eq_true rfl), (Nat.le_of_ble_eq_true rfl)⟩ hK hP hD hS hA Bl0 (fun _ _ _ => trivial) 10 0 rfl (mwc0 C B v) rfl hl.1 rfl (Nat.le_of_ble_eq_true rfl) dL_law_2153 (fun r6 u8 H locs p7 hP hD hS => ?_)
  obtain ⟨hu8, Uu8, p7⟩ := p7
  refine lv_pop hx hb dL_law_2156 rfl ?_
  refine lv_goto (tgt := 2362) hx hb dL_law_2157 (by decide) ?_
  exact kx u4 u8 H locs ls hu4 hu8 (hRL.un (Uu4.1 50 rfl) (Uu4.1 52 rfl) (Uu4.1 54 rfl) (Uu4.1 56 rfl) (Uu4.1 51 rfl) (Uu4.1 53 rfl) (Uu4.1 55 rfl) (Uu4.1 57 rfl) (Uu8.2.1 1 rfl) (Uu8.2.1 2 rfl)) hP hD hS hl
set_option maxHeartbeats 4000000 in
set_option maxRecDepth 100000 in
theorem law_case_68 {p : Program} {l : Launch} {e : Env} {s : State} {m : MethodId} {below : List Frame} {meth : Method} {c : Code} {D : va_G} {C : Nat → ClassId} {b L i : Nat} {xs : Nat → Int32} {A B adK adV : Nat → Nat} {u v : St} {H : Heap} {locs : List Loc} {ls : Array Slot} (C0 : lw_At p s m meth c b L xs) (hLL : L ≤ 3072) (hiL : i + 6 ≤ L) (hK : va_K D vwCl (tyl C) s) (hXS : XS adK adV (fun q : Nat => s.heap.size ≤ q) s) (hIC : IC u) (hIM : IM v) (hRL : RLt u v) (hP : va_P D vwCl (cw C A u ++ mw C B v) H) (hD : va_D (fun q : Nat => s.heap.size ≤ q) (cw C A u ++ mw C B v)) (hS : va_S (fun q : Nat => s.heap.size ≤ q) s.heap H locs) (hl : lv_has ls 4 [(3, .int (nI i)), (2, .ref (B 0)), (1, .ref (A 0)), (0, .ref b)])
    (kx : ∀ (u v : St) (H : Heap) (locs : List Loc) (ls : Array Slot), IC u → IM v → RLt u v → va_P D vwCl (cw C A u ++ mw C B v) H → va_D (fun q : Nat => s.heap.size ≤ q) (cw C A u ++ mw C B v) → va_S (fun q : Nat => s.heap.size ≤ q) s.heap H locs → lv_has ls 4 [(3, .int (nI i)), (2, .ref (B 0)), (1, .ref (A 0)), (0, .ref b)] → W p l e room_1 s m #[Value.ref b] below meth c H locs 180 4779 (lw_Z below #[Value.ref b] s) (F0 m 2362 ls [])) : W p l e room_1 s m #[Value.ref b] below meth c H locs 180 4779 (lw_Z below #[Value.ref b] s) (F0 m 2160 ls []) := by
  obtain ⟨hx, hb, hr, hml, hown, hts, hX, hbl, hlocks, hgv⟩ := id C0
  have hown : s.vm.findClass RL = some m.cls := hown
  have hb : c.code = cL_law := hb
  have hA : ∀ q : Nat, s.heap.size ≤ q → (fun q : Nat => s.heap.size ≤ q) q := fun _ h => h
  have hbA : ¬ (fun q : Nat => s.heap.size ≤ q) b := Nat.not_le.mpr hbl
  have hni : (nI i).toInt = (i : Int) := nI_toInt (by omega)
  refine lv_aload_n hx hb dL_law_2160 rfl (lv_at hl 2 rfl) ?_
  refine lv_aload_n hx hb dL_law_2161 rfl (lv_at hl 3 rfl) ?_
  refine lv_iload_n hx hb dL_law_2162 rfl (lv_at hl 0 rfl) ?_
  refine lv_iconst (v := 1) hx hb dL_law_2163 (by decide) ?_
  refine lv_iadd hx hb dL_law_2164 ?_
  refine p_nm (tt_add (X := (i : Int)) (Y := 1) hni (by decide) (by omega) (by omega)) (fun z1 hz1 => ?_)
  refine va_sld hx hb hX hbl hbA hS (i_ix hz1 (by omega) (by omega)) dL_law_2165 ?_
  refine pv_i (v := xs (i + 1)) (by rw [show Int32.toNatClampNeg z1 = i + 1 by have q9 := i_cl hz1 (by omega); omega]) ?_
  refine lcI (w := cw C A) (n := 1) (As := [.int (xs (i + 1))]) (rest := []) ⟨hx, hb, hml, hown, hts⟩ (fun _ h => uw_in h) (kX9_back_0 l D C A u hIC (xs (i + 1)) (xs (i + 1)).toInt rfl H.size) q_m1154 q_n1155 q_e1156 q_i1 q_c1157 hvX9_back ⟨(Nat.le_of_ble_eq_true rfl), (Nat.le_of_ble_eq_true rfl)⟩ ⟨(Nat.le_of_ble_eq_true rfl), (Nat.le_of_ble_eq_true rfl)⟩ hK hP hD hS hA Bl0 (fun _ _ _ => trivial) 9 0 rfl (cwc0 C A u) rfl hl.1 rfl (Nat.le_of_ble_eq_true rfl) dL_law_2166 (fun r2 u4 H locs p3 hP hD hS => ?_)
  obtain ⟨hu4, Uu4, p3⟩ := p3
  refine lv_pop hx hb dL_law_2169 rfl ?_
  refine lv_aload_n hx hb dL_law_2170 rfl (lv_at hl 1 rfl) ?_
  refine lv_aload_n hx hb dL_law_2171 rfl (lv_at hl 3 rfl) ?_
  refine lv_iload_n hx hb dL_law_2172 rfl (lv_at hl 0 rfl) ?_
  refine lv_iconst (v := 1) hx hb dL_law_2173 (by decide) ?_
  refine lv_iadd hx hb dL_law_2174 ?_
  refine p_nm (tt_add (X := (i : Int)) (Y := 1) hni (by decide) (by omega) (by omega)) (fun z5 hz5 => ?_)
  refine va_sld hx hb hX hbl hbA hS (i_ix hz5 (by omega) (by omega)) dL_law_2175 ?_
  refine pv_i (v := xs (i + 1)) (by rw [show Int32.toNatClampNeg z5 = i + 1 by have q9 := i_cl hz5 (by omega); omega]) ?_
  refine lcI (w := mw C B) (n := 1) (As := [.int (xs (i + 1))]) (rest := []) ⟨hx, hb, hml, hown, hts⟩ (fun _ h => uw_in h) (kX10_back_0 l D C B v hIM (xs (i + 1)) (xs (i + 1)).toInt rfl H.size) q_m1910 q_n1911 q_e1912 q_i11 q_c1913 hvX10_back ⟨(Nat.le_of_ble_eq_true rfl), (Nat.le_of_ble_eq_true rfl)⟩ ⟨(Nat.le_of_ble_eq_true rfl), (Nat.le_of_ble_eq_true rfl)⟩ hK hP hD hS hA Bl0 (fun _ _ _ => trivial) 10 0 rfl (mwc0 C B v) rfl hl.1 rfl (Nat.le_of_ble_eq_true rfl) dL_law_2176 (fun r6 u8 H locs p7 hP hD hS => ?_)
  obtain ⟨hu8, Uu8, p7⟩ := p7
  refine lv_pop hx hb dL_law_2179 rfl ?_
  refine lv_goto (tgt := 2362) hx hb dL_law_2180 (by decide) ?_
  exact kx u4 u8 H locs ls hu4 hu8 (hRL.un (Uu4.1 50 rfl) (Uu4.1 52 rfl) (Uu4.1 54 rfl) (Uu4.1 56 rfl) (Uu4.1 51 rfl) (Uu4.1 53 rfl) (Uu4.1 55 rfl) (Uu4.1 57 rfl) (Uu8.2.1 1 rfl) (Uu8.2.1 2 rfl)) hP hD hS hl
set_option maxHeartbeats 4000000 in
set_option maxRecDepth 100000 in
theorem law_case_69 {p : Program} {l : Launch} {e : Env} {s : State} {m : MethodId} {below : List Frame} {meth : Method} {c : Code} {D : va_G} {C : Nat → ClassId} {b L i : Nat} {xs : Nat → Int32} {A B adK adV : Nat → Nat} {u v : St} {H : Heap} {locs : List Loc} {ls : Array Slot} (C0 : lw_At p s m meth c b L xs) (hLL : L ≤ 3072) (hiL : i + 6 ≤ L) (hK : va_K D vwCl (tyl C) s) (hXS : XS adK adV (fun q : Nat => s.heap.size ≤ q) s) (hIC : IC u) (hIM : IM v) (hRL : RLt u v) (hP : va_P D vwCl (cw C A u ++ mw C B v) H) (hD : va_D (fun q : Nat => s.heap.size ≤ q) (cw C A u ++ mw C B v)) (hS : va_S (fun q : Nat => s.heap.size ≤ q) s.heap H locs) (hl : lv_has ls 4 [(3, .int (nI i)), (2, .ref (B 0)), (1, .ref (A 0)), (0, .ref b)])
    (kx : ∀ (u v : St) (H : Heap) (locs : List Loc) (ls : Array Slot), IC u → IM v → RLt u v → va_P D vwCl (cw C A u ++ mw C B v) H → va_D (fun q : Nat => s.heap.size ≤ q) (cw C A u ++ mw C B v) → va_S (fun q : Nat => s.heap.size ≤ q) s.heap H locs → lv_has ls 4 [(3, .int (nI i)), (2, .ref (B 0)), (1, .ref (A 0)), (0, .ref b)] → W p l e room_1 s m #[Value.ref b] below meth c H locs 180 4779 (lw_Z below #[Value.ref b] s) (F0 m 2362 ls [])) : W p l e room_1 s m #[Value.ref b] below meth c H locs 180 4779 (lw_Z below #[Value.ref b] s) (F0 m 2183 ls []) := by
  obtain ⟨hx, hb, hr, hml, hown, hts, hX, hbl, hlocks, hgv⟩ := id C0
  have hown : s.vm.findClass RL = some m.cls := hown
  have hb : c.code = cL_law := hb
  have hA : ∀ q : Nat, s.heap.size ≤ q → (fun q : Nat => s.heap.size ≤ q) q := fun _ h => h
  have hbA : ¬ (fun q : Nat => s.heap.size ≤ q) b := Nat.not_le.mpr hbl
  have hni : (nI i).toInt = (i : Int) := nI_toInt (by omega)
  refine lv_aload_n hx hb dL_law_2183 rfl (lv_at hl 2 rfl) ?_
  refine lv_aload_n hx hb dL_law_2184 rfl (lv_at hl 3 rfl) ?_
  refine lv_iload_n hx hb dL_law_2185 rfl (lv_at hl 0 rfl) ?_
  refine lv_iconst (v := 1) hx hb dL_law_2186 (by decide) ?_
  refine lv_iadd hx hb dL_law_2187 ?_
  refine p_nm (tt_add (X := (i : Int)) (Y := 1) hni (by decide) (by omega) (by omega)) (fun z1 hz1 => ?_)
  refine va_sld hx hb hX hbl hbA hS (i_ix hz1 (by omega) (by omega)) dL_law_2188 ?_
  refine pv_i (v := xs (i + 1)) (by rw [show Int32.toNatClampNeg z1 = i + 1 by have q9 := i_cl hz1 (by omega); omega]) ?_
  refine lv_aload_n hx hb dL_law_2189 rfl (lv_at hl 3 rfl) ?_
  refine lv_iload_n hx hb dL_law_2190 rfl (lv_at hl 0 rfl) ?_
  refine lv_iconst (v := 2) hx hb dL_law_2191 (by decide) ?_
  refine lv_iadd hx hb dL_law_2192 ?_
  refine p_nm (tt_add (X := (i : Int)) (Y := 2) hni (by decide) (by omega) (by omega)) (fun z2 hz2 => ?_)
  refine va_sld hx hb hX hbl hbA hS (i_ix hz2 (by omega) (by omega)) dL_law_2193 ?_
  refine pv_i (v := xs (i + 2)) (by rw [show Int32.toNatClampNeg z2 = i + 2 by have q9 := i_cl hz2 (by omega); omega]) ?_
  refine lv_aload_n hx hb dL_law_2194 rfl (lv_at hl 3 rfl) ?_
  refine lv_iload_n hx hb dL_law_2195 rfl (lv_at hl 0 rfl) ?_
  refine lv_iconst (v := 3) hx hb dL_law_2196 (by decide) ?_
  refine lv_iadd hx hb dL_law_2197 ?_
  refine p_nm (tt_add (X := (i : Int)) (Y := 3) hni (by decide) (by omega) (by omega)) (fun z3 hz3 => ?_)
  refine va_sld hx hb hX hbl hbA hS (i_ix hz3 (by omega) (by omega)) dL_law_2198 ?_
  refine pv_i (v := xs (i + 3)) (by rw [show Int32.toNatClampNeg z3 = i + 3 by have q9 := i_cl hz3 (by omega); omega]) ?_
  refine lcI (w := cw C A) (n := 3) (As := [.int (xs (i + 1)), .int (xs (i + 2)), .int (xs (i + 3))]) (rest := []) ⟨hx, hb, hml, hown, hts⟩ (fun _ h => uw_in h) (kX9_row_0 l D C A u hIC (xs (i + 1)) (xs (i + 1)).toInt rfl (xs (i + 2)) (xs (i + 2)).toInt rfl (xs (i + 3)) (xs (i + 3)).toInt rfl H.size) q_m1158 q_n1159 q_e1160 q_i1 q_c1161 hvX9_row ⟨(Nat.le_of_ble_eq_true rfl), (Nat.le_of_ble_eq_true rfl)⟩ ⟨(Nat.le_of_ble_eq_true rfl), (Nat.le_of_ble_eq_true rfl)⟩ hK hP hD hS hA Bl0 (fun _ _ _ => trivial) 9 0 rfl (cwc0 C A u) rfl hl.1 rfl (Nat.le_of_ble_eq_true rfl) dL_law_2199 (fun r4 u6 H locs p5 hP hD hS => ?_)
  obtain ⟨hu6, Uu6, p5⟩ := p5
  refine lv_pop hx hb dL_law_2202 rfl ?_
  refine lv_aload_n hx hb dL_law_2203 rfl (lv_at hl 1 rfl) ?_
  refine lv_aload_n hx hb dL_law_2204 rfl (lv_at hl 3 rfl) ?_
  refine lv_iload_n hx hb dL_law_2205 rfl (lv_at hl 0 rfl) ?_
  refine lv_iconst (v := 1) hx hb dL_law_2206 (by decide) ?_
  refine lv_iadd hx hb dL_law_2207 ?_
  refine p_nm (tt_add (X := (i : Int)) (Y := 1) hni (by decide) (by omega) (by omega)) (fun z7 hz7 => ?_)
  refine va_sld hx hb hX hbl hbA hS (i_ix hz7 (by omega) (by omega)) dL_law_2208 ?_
  refine pv_i (v := xs (i + 1)) (by rw [show Int32.toNatClampNeg z7 = i + 1 by have q9 := i_cl hz7 (by omega); omega]) ?_
  refine lv_aload_n hx hb dL_law_2209 rfl (lv_at hl 3 rfl) ?_
  refine lv_iload_n hx hb dL_law_2210 rfl (lv_at hl 0 rfl) ?_
  refine lv_iconst (v := 2) hx hb dL_law_2211 (by decide) ?_
  refine lv_iadd hx hb dL_law_2212 ?_
  refine p_nm (tt_add (X := (i : Int)) (Y := 2) hni (by decide) (by omega) (by omega)) (fun z8 hz8 => ?_)
  refine va_sld hx hb hX hbl hbA hS (i_ix hz8 (by omega) (by omega)) dL_law_2213 ?_
  refine pv_i (v := xs (i + 2)) (by rw [show Int32.toNatClampNeg z8 = i + 2 by have q9 := i_cl hz8 (by omega); omega]) ?_
  refine lv_aload_n hx hb dL_law_2214 rfl (lv_at hl 3 rfl) ?_
  refine lv_iload_n hx hb dL_law_2215 rfl (lv_at hl 0 rfl) ?_
  refine lv_iconst (v := 3) hx hb dL_law_2216 (by decide) ?_
  refine lv_iadd hx hb dL_law_2217 ?_
  refine p_nm (tt_add (X := (i : Int)) (Y := 3) hni (by decide) (by omega) (by omega)) (fun z9 hz9 => ?_)
  refine va_sld hx hb hX hbl hbA hS (i_ix hz9 (by omega) (by omega)) dL_law_2218 ?_
  refine pv_i (v := xs (i + 3)) (by rw [show Int32.toNatClampNeg z9 = i + 3 by have q9 := i_cl hz9 (by omega); omega]) ?_
  refine lcI (w := mw C B) (n := 3) (As := [.int (xs (i + 1)), .int (xs (i + 2)), .int (xs (i + 3))]) (rest := []) ⟨hx, hb, hml, hown, hts⟩ (fun _ h => uw_in h) (kX10_row_0 l D C B v hIM (xs (i + 1)) (xs (i + 1)).toInt rfl (xs (i + 2)) (xs (i + 2)).toInt rfl (xs (i + 3)) (xs (i + 3)).toInt rfl H.size) q_m1316 q_n1317 q_e1318 q_i11 q_c1319 hvX10_row ⟨(Nat.le_of_ble_eq_true rfl), (Nat.le_of_ble_eq_true rfl)⟩ ⟨(Nat.le_of_ble_eq_true rfl), (Nat.le_of_ble_eq_true rfl)⟩ hK hP hD hS hA Bl0 (fun _ _ _ => trivial) 10 0 rfl (mwc0 C B v) rfl hl.1 rfl (Nat.le_of_ble_eq_true rfl) dL_law_2219 (fun r10 u12 H locs p11 hP hD hS => ?_)
  obtain ⟨hu12, Uu12, p11⟩ := p11
  refine lv_pop hx hb dL_law_2222 rfl ?_
  refine lv_goto (tgt := 2362) hx hb dL_law_2223 (by decide) ?_
  exact kx u6 u12 H locs ls hu6 hu12 (RLt.row hRL rfl rfl rfl (row_ok p5.1) (row_ok p11.1) p5.2.1 p5.2.2.1 p5.2.2.2.1 p5.2.2.2.2 p11.2) hP hD hS hl
set_option maxHeartbeats 4000000 in
set_option maxRecDepth 100000 in
theorem law_case_70 {p : Program} {l : Launch} {e : Env} {s : State} {m : MethodId} {below : List Frame} {meth : Method} {c : Code} {D : va_G} {C : Nat → ClassId} {b L i : Nat} {xs : Nat → Int32} {A B adK adV : Nat → Nat} {u v : St} {H : Heap} {locs : List Loc} {ls : Array Slot} (C0 : lw_At p s m meth c b L xs) (hLL : L ≤ 3072) (hiL : i + 6 ≤ L) (hK : va_K D vwCl (tyl C) s) (hXS : XS adK adV (fun q : Nat => s.heap.size ≤ q) s) (hIC : IC u) (hIM : IM v) (hRL : RLt u v) (hP : va_P D vwCl (cw C A u ++ mw C B v) H) (hD : va_D (fun q : Nat => s.heap.size ≤ q) (cw C A u ++ mw C B v)) (hS : va_S (fun q : Nat => s.heap.size ≤ q) s.heap H locs) (hl : lv_has ls 4 [(3, .int (nI i)), (2, .ref (B 0)), (1, .ref (A 0)), (0, .ref b)])
    (kx : ∀ (u v : St) (H : Heap) (locs : List Loc) (ls : Array Slot), IC u → IM v → RLt u v → va_P D vwCl (cw C A u ++ mw C B v) H → va_D (fun q : Nat => s.heap.size ≤ q) (cw C A u ++ mw C B v) → va_S (fun q : Nat => s.heap.size ≤ q) s.heap H locs → lv_has ls 4 [(3, .int (nI i)), (2, .ref (B 0)), (1, .ref (A 0)), (0, .ref b)] → W p l e room_1 s m #[Value.ref b] below meth c H locs 180 4779 (lw_Z below #[Value.ref b] s) (F0 m 2362 ls [])) : W p l e room_1 s m #[Value.ref b] below meth c H locs 180 4779 (lw_Z below #[Value.ref b] s) (F0 m 2226 ls []) := by
  obtain ⟨hx, hb, hr, hml, hown, hts, hX, hbl, hlocks, hgv⟩ := id C0
  have hown : s.vm.findClass RL = some m.cls := hown
  have hb : c.code = cL_law := hb
  have hA : ∀ q : Nat, s.heap.size ≤ q → (fun q : Nat => s.heap.size ≤ q) q := fun _ h => h
  have hbA : ¬ (fun q : Nat => s.heap.size ≤ q) b := Nat.not_le.mpr hbl
  have hni : (nI i).toInt = (i : Int) := nI_toInt (by omega)
  refine lv_aload_n hx hb dL_law_2226 rfl (lv_at hl 2 rfl) ?_
  refine lv_aload_n hx hb dL_law_2227 rfl (lv_at hl 3 rfl) ?_
  refine lv_iload_n hx hb dL_law_2228 rfl (lv_at hl 0 rfl) ?_
  refine lv_iconst (v := 1) hx hb dL_law_2229 (by decide) ?_
  refine lv_iadd hx hb dL_law_2230 ?_
  refine p_nm (tt_add (X := (i : Int)) (Y := 1) hni (by decide) (by omega) (by omega)) (fun z1 hz1 => ?_)
  refine va_sld hx hb hX hbl hbA hS (i_ix hz1 (by omega) (by omega)) dL_law_2231 ?_
  refine pv_i (v := xs (i + 1)) (by rw [show Int32.toNatClampNeg z1 = i + 1 by have q9 := i_cl hz1 (by omega); omega]) ?_
  refine lv_aload_n hx hb dL_law_2232 rfl (lv_at hl 3 rfl) ?_
  refine lv_iload_n hx hb dL_law_2233 rfl (lv_at hl 0 rfl) ?_
  refine lv_iconst (v := 2) hx hb dL_law_2234 (by decide) ?_
  refine lv_iadd hx hb dL_law_2235 ?_
  refine p_nm (tt_add (X := (i : Int)) (Y := 2) hni (by decide) (by omega) (by omega)) (fun z2 hz2 => ?_)
  refine va_sld hx hb hX hbl hbA hS (i_ix hz2 (by omega) (by omega)) dL_law_2236 ?_
  refine pv_i (v := xs (i + 2)) (by rw [show Int32.toNatClampNeg z2 = i + 2 by have q9 := i_cl hz2 (by omega); omega]) ?_
  refine lv_aload_n hx hb dL_law_2237 rfl (lv_at hl 3 rfl) ?_
  refine lv_iload_n hx hb dL_law_2238 rfl (lv_at hl 0 rfl) ?_
  refine lv_iconst (v := 3) hx hb dL_law_2239 (by decide) ?_
  refine lv_iadd hx hb dL_law_2240 ?_
  refine p_nm (tt_add (X := (i : Int)) (Y := 3) hni (by decide) (by omega) (by omega)) (fun z3 hz3 => ?_)
  refine va_sld hx hb hX hbl hbA hS (i_ix hz3 (by omega) (by omega)) dL_law_2241 ?_
  refine pv_i (v := xs (i + 3)) (by rw [show Int32.toNatClampNeg z3 = i + 3 by have q9 := i_cl hz3 (by omega); omega]) ?_
  refine lv_i2l hx hb dL_law_2242 rfl ?_
  refine lv_topl (fun w4 ew4 => ?_)
  refine lv_bipush (v := 32) hx hb dL_law_2243 (by decide) ?_
  refine lv_lshl hx hb dL_law_2245 rfl ?_
  refine lv_topl (fun w5 ew5 => ?_)
  refine lv_aload_n hx hb dL_law_2246 rfl (lv_at hl 3 rfl) ?_
  refine lv_iload_n hx hb dL_law_2247 rfl (lv_at hl 0 rfl) ?_
  refine lv_iconst (v := 4) hx hb dL_law_2248 (by decide) ?_
  refine lv_iadd hx hb dL_law_2249 ?_
  refine p_nm (tt_add (X := (i : Int)) (Y := 4) hni (by decide) (by omega) (by omega)) (fun z6 hz6 => ?_)
  refine va_sld hx hb hX hbl hbA hS (i_ix hz6 (by omega) (by omega)) dL_law_2250 ?_
  refine pv_i (v := xs (i + 4)) (by rw [show Int32.toNatClampNeg z6 = i + 4 by have q9 := i_cl hz6 (by omega); omega]) ?_
  refine lv_i2l hx hb dL_law_2251 rfl ?_
  refine lv_topl (fun w7 ew7 => ?_)
  refine lv_ldc2 (v := 4294967295) hx hb hown (hts _ (uw_in q_k1914)) dL_law_2252 ?_
  refine lv_land hx hb dL_law_2255 ?_
  refine lv_topl (fun w8 ew8 => ?_)
  refine lv_lor hx hb dL_law_2256 ?_
  refine lv_topl (fun w9 ew9 => ?_)
  refine lcI (w := cw C A) (n := 3) (As := [.int (xs (i + 1)), .int (xs (i + 2)), .long w9]) (rest := []) ⟨hx, hb, hml, hown, hts⟩ (fun _ h => uw_in h) (kX9_write_0 l D C A u hIC (xs (i + 1)) (xs (i + 1)).toInt rfl (xs (i + 2)) (xs (i + 2)).toInt rfl w9 w9.toInt rfl H.size) q_m1166 q_n1167 q_e1168 q_i1 q_c1169 hvX9_write ⟨(Nat.le_of_ble_eq_true rfl), (Nat.le_of_ble_eq_true rfl)⟩ ⟨(Nat.le_of_ble_eq_true rfl), (Nat.le_of_ble_eq_true rfl)⟩ hK hP hD hS hA Bl0 (fun _ _ _ => trivial) 9 0 rfl (cwc0 C A u) rfl hl.1 rfl (Nat.le_of_ble_eq_true rfl) dL_law_2257 (fun r10 u12 H locs p11 hP hD hS => ?_)
  obtain ⟨hu12, Uu12, p11⟩ := p11
  refine lv_pop hx hb dL_law_2260 rfl ?_
  refine lv_aload_n hx hb dL_law_2261 rfl (lv_at hl 1 rfl) ?_
  refine lv_aload_n hx hb dL_law_2262 rfl (lv_at hl 3 rfl) ?_
  refine lv_iload_n hx hb dL_law_2263 rfl (lv_at hl 0 rfl) ?_
  refine lv_iconst (v := 1) hx hb dL_law_2264 (by decide) ?_
  refine lv_iadd hx hb dL_law_2265 ?_
  refine p_nm (tt_add (X := (i : Int)) (Y := 1) hni (by decide) (by omega) (by omega)) (fun z13 hz13 => ?_)
  refine va_sld hx hb hX hbl hbA hS (i_ix hz13 (by omega) (by omega)) dL_law_2266 ?_
  refine pv_i (v := xs (i + 1)) (by rw [show Int32.toNatClampNeg z13 = i + 1 by have q9 := i_cl hz13 (by omega); omega]) ?_
  refine lv_aload_n hx hb dL_law_2267 rfl (lv_at hl 3 rfl) ?_
  refine lv_iload_n hx hb dL_law_2268 rfl (lv_at hl 0 rfl) ?_
  refine lv_iconst (v := 2) hx hb dL_law_2269 (by decide) ?_
  refine lv_iadd hx hb dL_law_2270 ?_
  refine p_nm (tt_add (X := (i : Int)) (Y := 2) hni (by decide) (by omega) (by omega)) (fun z14 hz14 => ?_)
  refine va_sld hx hb hX hbl hbA hS (i_ix hz14 (by omega) (by omega)) dL_law_2271 ?_
  refine pv_i (v := xs (i + 2)) (by rw [show Int32.toNatClampNeg z14 = i + 2 by have q9 := i_cl hz14 (by omega); omega]) ?_
  refine lv_aload_n hx hb dL_law_2272 rfl (lv_at hl 3 rfl) ?_
  refine lv_iload_n hx hb dL_law_2273 rfl (lv_at hl 0 rfl) ?_
  refine lv_iconst (v := 3) hx hb dL_law_2274 (by decide) ?_
  refine lv_iadd hx hb dL_law_2275 ?_
  refine p_nm (tt_add (X := (i : Int)) (Y := 3) hni (by decide) (by omega) (by omega)) (fun z15 hz15 => ?_)
  refine va_sld hx hb hX hbl hbA hS (i_ix hz15 (by omega) (by omega)) dL_law_2276 ?_
  refine pv_i (v := xs (i + 3)) (by rw [show Int32.toNatClampNeg z15 = i + 3 by have q9 := i_cl hz15 (by omega); omega]) ?_
  refine lv_i2l hx hb dL_law_2277 rfl ?_
  refine lv_topl (fun w16 ew16 => ?_)
  refine lv_bipush (v := 32) hx hb dL_law_2278 (by decide) ?_
  refine lv_lshl hx hb dL_law_2280 rfl ?_
  refine lv_topl (fun w17 ew17 => ?_)
  refine lv_aload_n hx hb dL_law_2281 rfl (lv_at hl 3 rfl) ?_
  refine lv_iload_n hx hb dL_law_2282 rfl (lv_at hl 0 rfl) ?_
  refine lv_iconst (v := 4) hx hb dL_law_2283 (by decide) ?_
  refine lv_iadd hx hb dL_law_2284 ?_
  refine p_nm (tt_add (X := (i : Int)) (Y := 4) hni (by decide) (by omega) (by omega)) (fun z18 hz18 => ?_)
  refine va_sld hx hb hX hbl hbA hS (i_ix hz18 (by omega) (by omega)) dL_law_2285 ?_
  refine pv_i (v := xs (i + 4)) (by rw [show Int32.toNatClampNeg z18 = i + 4 by have q9 := i_cl hz18 (by omega); omega]) ?_
  refine lv_i2l hx hb dL_law_2286 rfl ?_
  refine lv_topl (fun w19 ew19 => ?_)
  refine lv_ldc2 (v := 4294967295) hx hb hown (hts _ (uw_in q_k1914)) dL_law_2287 ?_
  refine lv_land hx hb dL_law_2290 ?_
  refine lv_topl (fun w20 ew20 => ?_)
  refine lv_lor hx hb dL_law_2291 ?_
  refine lv_topl (fun w21 ew21 => ?_)
  refine lcI (w := mw C B) (n := 3) (As := [.int (xs (i + 1)), .int (xs (i + 2)), .long w21]) (rest := []) ⟨hx, hb, hml, hown, hts⟩ (fun _ h => uw_in h) (kX10_write_0 l D C B v hIM (xs (i + 1)) (xs (i + 1)).toInt rfl (xs (i + 2)) (xs (i + 2)).toInt rfl w21 w21.toInt rfl (hIM.a1 _) (hIM.a2 _) H.size) q_m1327 q_n1328 q_e1329 q_i11 q_c1330 hvX10_write ⟨(Nat.le_of_ble_eq_true rfl), (Nat.le_of_ble_eq_true rfl)⟩ ⟨(Nat.le_of_ble_eq_true rfl), (Nat.le_of_ble_eq_true rfl)⟩ hK hP hD hS hA Bl0 (fun _ _ _ => trivial) 10 0 rfl (mwc0 C B v) rfl hl.1 rfl (Nat.le_of_ble_eq_true rfl) dL_law_2292 (fun r22 u24 H locs p23 hP hD hS => ?_)
  obtain ⟨hu24, Uu24, p23⟩ := p23
  refine lv_pop hx hb dL_law_2295 rfl ?_
  refine lv_goto (tgt := 2362) hx hb dL_law_2296 (by decide) ?_
  exact kx u12 u24 H locs ls hu12 hu24 (hRL.un (Uu12.1 50 rfl) (Uu12.1 52 rfl) (Uu12.1 54 rfl) (Uu12.1 56 rfl) (Uu12.1 51 rfl) (Uu12.1 53 rfl) (Uu12.1 55 rfl) (Uu12.1 57 rfl) (Uu24.2.1 1 rfl) (Uu24.2.1 2 rfl)) hP hD hS hl
set_option maxHeartbeats 4000000 in
set_option maxRecDepth 100000 in
theorem law_case_71 {p : Program} {l : Launch} {e : Env} {s : State} {m : MethodId} {below : List Frame} {meth : Method} {c : Code} {D : va_G} {C : Nat → ClassId} {b L i : Nat} {xs : Nat → Int32} {A B adK adV : Nat → Nat} {u v : St} {H : Heap} {locs : List Loc} {ls : Array Slot} (C0 : lw_At p s m meth c b L xs) (hLL : L ≤ 3072) (hiL : i + 6 ≤ L) (hK : va_K D vwCl (tyl C) s) (hXS : XS adK adV (fun q : Nat => s.heap.size ≤ q) s) (hIC : IC u) (hIM : IM v) (hRL : RLt u v) (hP : va_P D vwCl (cw C A u ++ mw C B v) H) (hD : va_D (fun q : Nat => s.heap.size ≤ q) (cw C A u ++ mw C B v)) (hS : va_S (fun q : Nat => s.heap.size ≤ q) s.heap H locs) (hl : lv_has ls 4 [(3, .int (nI i)), (2, .ref (B 0)), (1, .ref (A 0)), (0, .ref b)])
    (kx : ∀ (u v : St) (H : Heap) (locs : List Loc) (ls : Array Slot), IC u → IM v → RLt u v → va_P D vwCl (cw C A u ++ mw C B v) H → va_D (fun q : Nat => s.heap.size ≤ q) (cw C A u ++ mw C B v) → va_S (fun q : Nat => s.heap.size ≤ q) s.heap H locs → lv_has ls 4 [(3, .int (nI i)), (2, .ref (B 0)), (1, .ref (A 0)), (0, .ref b)] → W p l e room_1 s m #[Value.ref b] below meth c H locs 180 4779 (lw_Z below #[Value.ref b] s) (F0 m 2362 ls [])) : W p l e room_1 s m #[Value.ref b] below meth c H locs 180 4779 (lw_Z below #[Value.ref b] s) (F0 m 2299 ls []) := by
  obtain ⟨hx, hb, hr, hml, hown, hts, hX, hbl, hlocks, hgv⟩ := id C0
  have hown : s.vm.findClass RL = some m.cls := hown
  have hb : c.code = cL_law := hb
  have hA : ∀ q : Nat, s.heap.size ≤ q → (fun q : Nat => s.heap.size ≤ q) q := fun _ h => h
  have hbA : ¬ (fun q : Nat => s.heap.size ≤ q) b := Nat.not_le.mpr hbl
  have hni : (nI i).toInt = (i : Int) := nI_toInt (by omega)
  refine lv_aload_n hx hb dL_law_2299 rfl (lv_at hl 2 rfl) ?_
  refine lv_aload_n hx hb dL_law_2300 rfl (lv_at hl 3 rfl) ?_
  refine lv_iload_n hx hb dL_law_2301 rfl (lv_at hl 0 rfl) ?_
  refine lv_iconst (v := 1) hx hb dL_law_2302 (by decide) ?_
  refine lv_iadd hx hb dL_law_2303 ?_
  refine p_nm (tt_add (X := (i : Int)) (Y := 1) hni (by decide) (by omega) (by omega)) (fun z1 hz1 => ?_)
  refine va_sld hx hb hX hbl hbA hS (i_ix hz1 (by omega) (by omega)) dL_law_2304 ?_
  refine pv_i (v := xs (i + 1)) (by rw [show Int32.toNatClampNeg z1 = i + 1 by have q9 := i_cl hz1 (by omega); omega]) ?_
  refine lv_aload_n hx hb dL_law_2305 rfl (lv_at hl 3 rfl) ?_
  refine lv_iload_n hx hb dL_law_2306 rfl (lv_at hl 0 rfl) ?_
  refine lv_iconst (v := 2) hx hb dL_law_2307 (by decide) ?_
  refine lv_iadd hx hb dL_law_2308 ?_
  refine p_nm (tt_add (X := (i : Int)) (Y := 2) hni (by decide) (by omega) (by omega)) (fun z2 hz2 => ?_)
  refine va_sld hx hb hX hbl hbA hS (i_ix hz2 (by omega) (by omega)) dL_law_2309 ?_
  refine pv_i (v := xs (i + 2)) (by rw [show Int32.toNatClampNeg z2 = i + 2 by have q9 := i_cl hz2 (by omega); omega]) ?_
  refine lv_aload_n hx hb dL_law_2310 rfl (lv_at hl 3 rfl) ?_
  refine lv_iload_n hx hb dL_law_2311 rfl (lv_at hl 0 rfl) ?_
  refine lv_iconst (v := 3) hx hb dL_law_2312 (by decide) ?_
  refine lv_iadd hx hb dL_law_2313 ?_
  refine p_nm (tt_add (X := (i : Int)) (Y := 3) hni (by decide) (by omega) (by omega)) (fun z3 hz3 => ?_)
  refine va_sld hx hb hX hbl hbA hS (i_ix hz3 (by omega) (by omega)) dL_law_2314 ?_
  refine pv_i (v := xs (i + 3)) (by rw [show Int32.toNatClampNeg z3 = i + 3 by have q9 := i_cl hz3 (by omega); omega]) ?_
  refine lv_aload_n hx hb dL_law_2315 rfl (lv_at hl 3 rfl) ?_
  refine lv_iload_n hx hb dL_law_2316 rfl (lv_at hl 0 rfl) ?_
  refine lv_iconst (v := 4) hx hb dL_law_2317 (by decide) ?_
  refine lv_iadd hx hb dL_law_2318 ?_
  refine p_nm (tt_add (X := (i : Int)) (Y := 4) hni (by decide) (by omega) (by omega)) (fun z4 hz4 => ?_)
  refine va_sld hx hb hX hbl hbA hS (i_ix hz4 (by omega) (by omega)) dL_law_2319 ?_
  refine pv_i (v := xs (i + 4)) (by rw [show Int32.toNatClampNeg z4 = i + 4 by have q9 := i_cl hz4 (by omega); omega]) ?_
  refine lv_aload_n hx hb dL_law_2320 rfl (lv_at hl 3 rfl) ?_
  refine lv_iload_n hx hb dL_law_2321 rfl (lv_at hl 0 rfl) ?_
  refine lv_iconst (v := 5) hx hb dL_law_2322 (by decide) ?_
  refine lv_iadd hx hb dL_law_2323 ?_
  refine p_nm (tt_add (X := (i : Int)) (Y := 5) hni (by decide) (by omega) (by omega)) (fun z5 hz5 => ?_)
  refine va_sld hx hb hX hbl hbA hS (i_ix hz5 (by omega) (by omega)) dL_law_2324 ?_
  refine pv_i (v := xs (i + 5)) (by rw [show Int32.toNatClampNeg z5 = i + 5 by have q9 := i_cl hz5 (by omega); omega]) ?_
  refine lcI (w := cw C A) (n := 5) (As := [.int (xs (i + 1)), .int (xs (i + 2)), .int (xs (i + 3)), .int (xs (i + 4)), .int (xs (i + 5))]) (rest := []) ⟨hx, hb, hml, hown, hts⟩ (fun _ h => uw_in h) (kX9_paste_0 l D C A u hIC (xs (i + 1)) (xs (i + 1)).toInt rfl (xs (i + 2)) (xs (i + 2)).toInt rfl (xs (i + 3)) (xs (i + 3)).toInt rfl (xs (i + 4)) (xs (i + 4)).toInt rfl (xs (i + 5)) (xs (i + 5)).toInt rfl H.size) q_m1173 q_n1174 q_e1175 q_i1 q_c1176 hvX9_paste ⟨(Nat.le_of_ble_eq_true rfl), (Nat.le_of_ble_eq_true rfl)⟩ ⟨(Nat.le_of_ble_eq_true rfl), (Nat.le_of_ble_eq_true rfl)⟩ hK hP hD hS hA Bl0 (fun _ _ _ => trivial) 9 0 rfl (cwc0 C A u) rfl hl.1 rfl (Nat.le_of_ble_eq_true rfl) dL_law_2325 (fun r6 u8 H locs p7 hP hD hS => ?_)
  obtain ⟨hu8, Uu8, p7⟩ := p7
  refine lv_aload_n hx hb dL_law_2328 rfl (lv_at hl 1 rfl) ?_
  refine lv_aload_n hx hb dL_law_2329 rfl (lv_at hl 3 rfl) ?_
  refine lv_iload_n hx hb dL_law_2330 rfl (lv_at hl 0 rfl) ?_
  refine lv_iconst (v := 1) hx hb dL_law_2331 (by decide) ?_
  refine lv_iadd hx hb dL_law_2332 ?_
  refine p_nm (tt_add (X := (i : Int)) (Y := 1) hni (by decide) (by omega) (by omega)) (fun z9 hz9 => ?_)
  refine va_sld hx hb hX hbl hbA hS (i_ix hz9 (by omega) (by omega)) dL_law_2333 ?_
  refine pv_i (v := xs (i + 1)) (by rw [show Int32.toNatClampNeg z9 = i + 1 by have q9 := i_cl hz9 (by omega); omega]) ?_
  refine lv_aload_n hx hb dL_law_2334 rfl (lv_at hl 3 rfl) ?_
  refine lv_iload_n hx hb dL_law_2335 rfl (lv_at hl 0 rfl) ?_
  refine lv_iconst (v := 2) hx hb dL_law_2336 (by decide) ?_
  refine lv_iadd hx hb dL_law_2337 ?_
  refine p_nm (tt_add (X := (i : Int)) (Y := 2) hni (by decide) (by omega) (by omega)) (fun z10 hz10 => ?_)
  refine va_sld hx hb hX hbl hbA hS (i_ix hz10 (by omega) (by omega)) dL_law_2338 ?_
  refine pv_i (v := xs (i + 2)) (by rw [show Int32.toNatClampNeg z10 = i + 2 by have q9 := i_cl hz10 (by omega); omega]) ?_
  refine lv_aload_n hx hb dL_law_2339 rfl (lv_at hl 3 rfl) ?_
  refine lv_iload_n hx hb dL_law_2340 rfl (lv_at hl 0 rfl) ?_
  refine lv_iconst (v := 3) hx hb dL_law_2341 (by decide) ?_
  refine lv_iadd hx hb dL_law_2342 ?_
  refine p_nm (tt_add (X := (i : Int)) (Y := 3) hni (by decide) (by omega) (by omega)) (fun z11 hz11 => ?_)
  refine va_sld hx hb hX hbl hbA hS (i_ix hz11 (by omega) (by omega)) dL_law_2343 ?_
  refine pv_i (v := xs (i + 3)) (by rw [show Int32.toNatClampNeg z11 = i + 3 by have q9 := i_cl hz11 (by omega); omega]) ?_
  refine lv_aload_n hx hb dL_law_2344 rfl (lv_at hl 3 rfl) ?_
  refine lv_iload_n hx hb dL_law_2345 rfl (lv_at hl 0 rfl) ?_
  refine lv_iconst (v := 4) hx hb dL_law_2346 (by decide) ?_
  refine lv_iadd hx hb dL_law_2347 ?_
  refine p_nm (tt_add (X := (i : Int)) (Y := 4) hni (by decide) (by omega) (by omega)) (fun z12 hz12 => ?_)
  refine va_sld hx hb hX hbl hbA hS (i_ix hz12 (by omega) (by omega)) dL_law_2348 ?_
  refine pv_i (v := xs (i + 4)) (by rw [show Int32.toNatClampNeg z12 = i + 4 by have q9 := i_cl hz12 (by omega); omega]) ?_
  refine lv_aload_n hx hb dL_law_2349 rfl (lv_at hl 3 rfl) ?_
  refine lv_iload_n hx hb dL_law_2350 rfl (lv_at hl 0 rfl) ?_
  refine lv_iconst (v := 5) hx hb dL_law_2351 (by decide) ?_
  refine lv_iadd hx hb dL_law_2352 ?_
  refine p_nm (tt_add (X := (i : Int)) (Y := 5) hni (by decide) (by omega) (by omega)) (fun z13 hz13 => ?_)
  refine va_sld hx hb hX hbl hbA hS (i_ix hz13 (by omega) (by omega)) dL_law_2353 ?_
  refine pv_i (v := xs (i + 5)) (by rw [show Int32.toNatClampNeg z13 = i + 5 by have q9 := i_cl hz13 (by omega); omega]) ?_
  refine lcI (w := mw C B) (n := 5) (As := [.int (xs (i + 1)), .int (xs (i + 2)), .int (xs (i + 3)), .int (xs (i + 4)), .int (xs (i + 5))]) (rest := [.int r6]) ⟨hx, hb, hml, hown, hts⟩ (fun _ h => uw_in h) (kX10_paste_0 l D C B v hIM (xs (i + 1)) (xs (i + 1)).toInt rfl (xs (i + 2)) (xs (i + 2)).toInt rfl (xs (i + 3)) (xs (i + 3)).toInt rfl (xs (i + 4)) (xs (i + 4)).toInt rfl (xs (i + 5)) (xs (i + 5)).toInt rfl (hIM.a1 _) (hIM.a2 _) (hIM.a1 _) (hIM.a2 _) H.size) q_m1334 q_n1335 q_e1336 q_i11 q_c1337 hvX10_paste ⟨(Nat.le_of_ble_eq_true rfl), (Nat.le_of_ble_eq_true rfl)⟩ ⟨(Nat.le_of_ble_eq_true rfl), (Nat.le_of_ble_eq_true rfl)⟩ hK hP hD hS hA Bl0 (fun _ _ _ => trivial) 10 0 rfl (mwc0 C B v) rfl hl.1 rfl (Nat.le_of_ble_eq_true rfl) dL_law_2354 (fun r14 u16 H locs p15 hP hD hS => ?_)
  obtain ⟨hu16, Uu16, p15⟩ := p15
  refine lv_icmp_eq (tgt := 2362) hx hb dL_law_2357 (by decide) (fun _ => ?_) (fun c9 => absurd (by
    rcases p7 with ⟨e1, f1⟩ | ⟨s1, w1, s2, w2, z1, z2, (⟨e1, f1⟩ | ⟨e1, f1⟩ | ⟨e1, f1⟩ | ⟨e1, f1⟩)⟩
    · rcases p15 with ⟨e2, f2⟩ | ⟨e2, f2⟩ | ⟨e2, f2⟩ | ⟨e2, f2⟩ | ⟨e2, f2⟩ <;> first | (exfalso; omega) | (rw [e1, e2]; done)
    all_goals (have y1 := hRL.at (a := xs (i + 1)) z1 rfl; have x1 : 0 ≤ (xs (i + 1)).toInt ∧ (xs (i + 1)).toInt ≤ 3 := (by rcases z1 with ⟨h, -, -⟩ | ⟨h, -, -⟩ | ⟨h, -, -⟩ | ⟨h, -, -⟩ <;> omega); have y2 := hRL.at (a := xs (i + 3)) z2 rfl; have x2 : 0 ≤ (xs (i + 3)).toInt ∧ (xs (i + 3)).toInt ≤ 3 := (by rcases z2 with ⟨h, -, -⟩ | ⟨h, -, -⟩ | ⟨h, -, -⟩ | ⟨h, -, -⟩ <;> omega))
    all_goals (clear z1 z2; rcases p15 with ⟨e2, f2⟩ | ⟨e2, f2⟩ | ⟨e2, f2⟩ | ⟨e2, f2⟩ | ⟨e2, f2⟩ <;> first | (exfalso; omega) | (rw [e1, e2]; done))) c9)
  exact kx u8 u16 H locs ls hu8 hu16 (hRL.un (Uu8.1 50 rfl) (Uu8.1 52 rfl) (Uu8.1 54 rfl) (Uu8.1 56 rfl) (Uu8.1 51 rfl) (Uu8.1 53 rfl) (Uu8.1 55 rfl) (Uu8.1 57 rfl) (Uu16.2.1 1 rfl) (Uu16.2.1 2 rfl)) hP hD hS hl
