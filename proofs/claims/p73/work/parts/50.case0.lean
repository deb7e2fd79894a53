set_option maxHeartbeats 4000000 in
set_option maxRecDepth 100000 in
theorem law_case_0 {p : Program} {l : Launch} {e : Env} {s : State} {m : MethodId} {below : List Frame} {meth : Method} {c : Code} {D : va_G} {C : Nat → ClassId} {b L i : Nat} {xs : Nat → Int32} {A B adK adV : Nat → Nat} {u v : St} {H : Heap} {locs : List Loc} {ls : Array Slot} (C0 : lw_At p s m meth c b L xs) (hLL : L ≤ 3072) (hiL : i + 6 ≤ L) (hK : va_K D vwCl (tyl C) s) (hXS : XS adK adV (fun q : Nat => s.heap.size ≤ q) s) (hIC : IC u) (hIM : IM v) (hRL : RLt u v) (hP : va_P D vwCl (cw C A u ++ mw C B v) H) (hD : va_D (fun q : Nat => s.heap.size ≤ q) (cw C A u ++ mw C B v)) (hS : va_S (fun q : Nat => s.heap.size ≤ q) s.heap H locs) (hl : lv_has ls 4 [(3, .int (nI i)), (2, .ref (B 0)), (1, .ref (A 0)), (0, .ref b)])
    (kx : ∀ (u v : St) (H : Heap) (locs : List Loc) (ls : Array Slot), IC u → IM v → RLt u v → va_P D vwCl (cw C A u ++ mw C B v) H → va_D (fun q : Nat => s.heap.size ≤ q) (cw C A u ++ mw C B v) → va_S (fun q : Nat => s.heap.size ≤ q) s.heap H locs → lv_has ls 4 [(3, .int (nI i)), (2, .ref (B 0)), (1, .ref (A 0)), (0, .ref b)] → W p l e room_1 s m #[Value.ref b] below meth c H locs 180 4779 (lw_Z below #[Value.ref b] s) (F0 m 2362 ls [])) : W p l e room_1 s m #[Value.ref b] below meth c H locs 180 4779 (lw_Z below #[Value.ref b] s) (F0 m 336 ls []) := by
  obtain ⟨hx, hb, hr, hml, hown, hts, hX, hbl, hlocks, hgv⟩ := id C0
  have hown : s.vm.findClass RL = some m.cls := hown
  have hb : c.code = cL_law := hb
  have hA : ∀ q : Nat, s.heap.size ≤ q → (fun q : Nat => s.heap.size ≤ q) q := fun _ h => h
  have hbA : ¬ (fun q : Nat => s.heap.size ≤ q) b := Nat.not_le.mpr hbl
  have hni : (nI i).toInt = (i : Int) := nI_toInt (by omega)
  refine lv_aload_n hx hb dL_law_336 rfl (lv_at hl 2 rfl) ?_
  refine lv_aload_n hx hb dL_law_337 rfl (lv_at hl 3 rfl) ?_
  refine lv_iload_n hx hb dL_law_338 rfl (lv_at hl 0 rfl) ?_
  refine lv_iconst (v := 1) hx hb dL_law_339 (by decide) ?_
  refine lv_iadd hx hb dL_law_340 ?_
  refine p_nm (tt_add (X := (i : Int)) (Y := 1) hni (by decide) (by omega) (by omega)) (fun z1 hz1 => ?_)
  refine va_sld hx hb hX hbl hbA hS (i_ix hz1 (by omega) (by omega)) dL_law_341 ?_
  refine pv_i (v := xs (i + 1)) (by rw [show Int32.toNatClampNeg z1 = i + 1 by have q9 := i_cl hz1 (by omega); omega]) ?_
  refine lv_aload_n hx hb dL_law_342 rfl (lv_at hl 3 rfl) ?_
  refine lv_iload_n hx hb dL_law_343 rfl (lv_at hl 0 rfl) ?_
  refine lv_iconst (v := 2) hx hb dL_law_344 (by decide) ?_
  refine lv_iadd hx hb dL_law_345 ?_
  refine p_nm (tt_add (X := (i : Int)) (Y := 2) hni (by decide) (by omega) (by omega)) (fun z2 hz2 => ?_)
  refine va_sld hx hb hX hbl hbA hS (i_ix hz2 (by omega) (by omega)) dL_law_346 ?_
  refine pv_i (v := xs (i + 2)) (by rw [show Int32.toNatClampNeg z2 = i + 2 by have q9 := i_cl hz2 (by omega); omega]) ?_
  refine lv_aload_n hx hb dL_law_347 rfl (lv_at hl 3 rfl) ?_
  refine lv_iload_n hx hb dL_law_348 rfl (lv_at hl 0 rfl) ?_
  refine lv_iconst (v := 3) hx hb dL_law_349 (by decide) ?_
  refine lv_iadd hx hb dL_law_350 ?_
  refine p_nm (tt_add (X := (i : Int)) (Y := 3) hni (by decide) (by omega) (by omega)) (fun z3 hz3 => ?_)
  refine va_sld hx hb hX hbl hbA hS (i_ix hz3 (by omega) (by omega)) dL_law_351 ?_
  refine pv_i (v := xs (i + 3)) (by rw [show Int32.toNatClampNeg z3 = i + 3 by have q9 := i_cl hz3 (by omega); omega]) ?_
  refine lv_aload_n hx hb dL_law_352 rfl (lv_at hl 3 rfl) ?_
  refine lv_iload_n hx hb dL_law_353 rfl (lv_at hl 0 rfl) ?_
  refine lv_iconst (v := 4) hx hb dL_law_354 (by decide) ?_
  refine lv_iadd hx hb dL_law_355 ?_
  refine p_nm (tt_add (X := (i : Int)) (Y := 4) hni (by decide) (by omega) (by omega)) (fun z4 hz4 => ?_)
  refine va_sld hx hb hX hbl hbA hS (i_ix hz4 (by omega) (by omega)) dL_law_356 ?_
  refine pv_i (v := xs (i + 4)) (by rw [show Int32.toNatClampNeg z4 = i + 4 by have q9 := i_cl hz4 (by omega); omega]) ?_
  refine lv_aload_n hx hb dL_law_357 rfl (lv_at hl 3 rfl) ?_
  refine lv_iload_n hx hb dL_law_358 rfl (lv_at hl 0 rfl) ?_
  refine lv_iconst (v := 5) hx hb dL_law_359 (by decide) ?_
  refine lv_iadd hx hb dL_law_360 ?_
  refine p_nm (tt_add (X := (i : Int)) (Y := 5) hni (by decide) (by omega) (by omega)) (fun z5 hz5 => ?_)
  refine va_sld hx hb hX hbl hbA hS (i_ix hz5 (by omega) (by omega)) dL_law_361 ?_
  refine pv_i (v := xs (i + 5)) (by rw [show Int32.toNatClampNeg z5 = i + 5 by have q9 := i_cl hz5 (by omega); omega]) ?_
  refine lcI (w := cw C A) (n := 5) (As := [.int (xs (i + 1)), .int (xs (i + 2)), .int (xs (i + 3)), .int (xs (i + 4)), .int (xs (i + 5))]) (rest := []) ⟨hx, hb, hml, hown, hts⟩ (fun _ h => uw_in h) (kX9_feed_0 l D C A u hIC (xs (i + 1)) (xs (i + 1)).toInt rfl (xs (i + 2)) (xs (i + 2)).toInt rfl (xs (i + 3)) (xs (i + 3)).toInt rfl (xs (i + 4)) (xs (i + 4)).toInt rfl (xs (i + 5)) (xs (i + 5)).toInt rfl H.size) q_m420 q_n421 q_e422 q_i1 q_c423 hvX9_feed ⟨(Nat.le_of_ble_eq_true rfl), (Nat.le_of_ble_eq_true rfl)⟩ ⟨(Nat.le_of_ble_eq_true rfl), (Nat.le_of_ble_eq_true rfl)⟩ hK hP hD hS hA Bl0 (fun _ _ _ => trivial) 9 0 rfl (cwc0 C A u) rfl hl.1 rfl (Nat.le_of_ble_eq_true rfl) dL_law_362 (fun r6 u8 H locs p7 hP hD hS => ?_)
  obtain ⟨hu8, Uu8, p7⟩ := p7
  refine lv_pop hx hb dL_law_365 rfl ?_
  refine lv_aload_n hx hb dL_law_366 rfl (lv_at hl 1 rfl) ?_
  refine lv_aload_n hx hb dL_law_367 rfl (lv_at hl 3 rfl) ?_
  refine lv_iload_n hx hb dL_law_368 rfl (lv_at hl 0 rfl) ?_
  refine lv_iconst (v := 1) hx hb dL_law_369 (by decide) ?_
  refine lv_iadd hx hb dL_law_370 ?_
  refine p_nm (tt_add (X := (i : Int)) (Y := 1) hni (by decide) (by omega) (by omega)) (fun z9 hz9 => ?_)
  refine va_sld hx hb hX hbl hbA hS (i_ix hz9 (by omega) (by omega)) dL_law_371 ?_
  refine pv_i (v := xs (i + 1)) (by rw [show Int32.toNatClampNeg z9 = i + 1 by have q9 := i_cl hz9 (by omega); omega]) ?_
  refine lv_aload_n hx hb dL_law_372 rfl (lv_at hl 3 rfl) ?_
  refine lv_iload_n hx hb dL_law_373 rfl (lv_at hl 0 rfl) ?_
  refine lv_iconst (v := 2) hx hb dL_law_374 (by decide) ?_
  refine lv_iadd hx hb dL_law_375 ?_
  refine p_nm (tt_add (X := (i : Int)) (Y := 2) hni (by decide) (by omega) (by omega)) (fun z10 hz10 => ?_)
  refine va_sld hx hb hX hbl hbA hS (i_ix hz10 (by omega) (by omega)) dL_law_376 ?_
  refine pv_i (v := xs (i + 2)) (by rw [show Int32.toNatClampNeg z10 = i + 2 by have q9 := i_cl hz10 (by omega); omega]) ?_
  refine lv_aload_n hx hb dL_law_377 rfl (lv_at hl 3 rfl) ?_
  refine lv_iload_n hx hb dL_law_378 rfl (lv_at hl 0 rfl) ?_
  refine lv_iconst (v := 3) hx hb dL_law_379 (by decide) ?_
  refine lv_iadd hx hb dL_law_380 ?_
  refine p_nm (tt_add (X := (i : Int)) (Y := 3) hni (by decide) (by omega) (by omega)) (fun z11 hz11 => ?_)
  refine va_sld hx hb hX hbl hbA hS (i_ix hz11 (by omega) (by omega)) dL_law_381 ?_
  refine pv_i (v := xs (i + 3)) (by rw [show Int32.toNatClampNeg z11 = i + 3 by have q9 := i_cl hz11 (by omega); omega]) ?_
  refine lv_aload_n hx hb dL_law_382 rfl (lv_at hl 3 rfl) ?_
  refine lv_iload_n hx hb dL_law_383 rfl (lv_at hl 0 rfl) ?_
  refine lv_iconst (v := 4) hx hb dL_law_384 (by decide) ?_
  refine lv_iadd hx hb dL_law_385 ?_
  refine p_nm (tt_add (X := (i : Int)) (Y := 4) hni (by decide) (by omega) (by omega)) (fun z12 hz12 => ?_)
  refine va_sld hx hb hX hbl hbA hS (i_ix hz12 (by omega) (by omega)) dL_law_386 ?_
  refine pv_i (v := xs (i + 4)) (by rw [show Int32.toNatClampNeg z12 = i + 4 by have q9 := i_cl hz12 (by omega); omega]) ?_
  refine lv_aload_n hx hb dL_law_387 rfl (lv_at hl 3 rfl) ?_
  refine lv_iload_n hx hb dL_law_388 rfl (lv_at hl 0 rfl) ?_
  refine lv_iconst (v := 5) hx hb dL_law_389 (by decide) ?_
  refine lv_iadd hx hb dL_law_390 ?_
  refine p_nm (tt_add (X := (i : Int)) (Y := 5) hni (by decide) (by omega) (by omega)) (fun z13 hz13 => ?_)
  refine va_sld hx hb hX hbl hbA hS (i_ix hz13 (by omega) (by omega)) dL_law_391 ?_
  refine pv_i (v := xs (i + 5)) (by rw [show Int32.toNatClampNeg z13 = i + 5 by have q9 := i_cl hz13 (by omega); omega]) ?_
  refine lcI (w := mw C B) (n := 5) (As := [.int (xs (i + 1)), .int (xs (i + 2)), .int (xs (i + 3)), .int (xs (i + 4)), .int (xs (i + 5))]) (rest := []) ⟨hx, hb, hml, hown, hts⟩ (fun _ h => uw_in h) (kX10_feed_0 l D C B v hIM (xs (i + 1)) (xs (i + 1)).toInt rfl (xs (i + 2)) (xs (i + 2)).toInt rfl (xs (i + 3)) (xs (i + 3)).toInt rfl (xs (i + 4)) (xs (i + 4)).toInt rfl (xs (i + 5)) (xs (i + 5)).toInt rfl H.size) q_m1338 q_n1339 q_e1340 q_i11 q_c1341 hvX10_feed ⟨(Nat.le_of_ble_eq_true rfl), (Nat.le_of_ble_eq_true rfl)⟩ ⟨(Nat.le_of_ble_eq_true rfl), (Nat.le_of_ble_eq_true rfl)⟩ hK hP hD hS hA Bl0 (fun _ _ _ => trivial) 10 0 rfl (mwc0 C B v) rfl hl.1 rfl (Nat.le_of_ble_eq_true rfl) dL_law_392 (fun r14 u16 H locs p15 hP hD hS => ?_)
  obtain ⟨hu16, Uu16, p15⟩ := p15
  refine lv_pop hx hb dL_law_395 rfl ?_
  refine lv_goto (tgt := 2362) hx hb dL_law_396 (by decide) ?_
  exact kx u8 u16 H locs ls hu8 hu16 (hRL.un (Uu8.1 50 rfl) (Uu8.1 52 rfl) (Uu8.1 54 rfl) (Uu8.1 56 rfl) (Uu8.1 51 rfl) (Uu8.1 53 rfl) (Uu8.1 55 rfl) (Uu8.1 57 rfl) (Uu16.2.1 1 rfl) (Uu16.2.1 2 rfl)) hP hD hS hl
set_option maxHeartbeats 4000000 in
set_option maxRecDepth 100000 in
theorem law_case_1 {p : Program} {l : Launch} {e : Env} {s : State} {m : MethodId} {below : List Frame} {meth : Method} {c : Code} {D : va_G} {C : Nat → ClassId} {b L i : Nat} {xs : Nat → Int32} {A B adK adV : Nat → Nat} {u v : St} {H : Heap} {locs : List Loc} {ls : Array Slot} (C0 : lw_At p s m meth c b L xs) (hLL : L ≤ 3072) (hiL : i + 6 ≤ L) (hK : va_K D vwCl (tyl C) s) (hXS : XS adK adV (fun q : Nat => s.heap.size ≤ q) s) (hIC : IC u) (hIM : IM v) (hRL : RLt u v) (hP : va_P D vwCl (cw C A u ++ mw C B v) H) (hD : va_D (fun q : Nat => s.heap.size ≤ q) (cw C A u ++ mw C B v)) (hS : va_S (fun q : Nat => s.heap.size ≤ q) s.heap H locs) (hl : lv_has ls 4 [(3, .int (nI i)), (2, .ref (B 0)), (1, .ref (A 0)), (0, .ref b)])
    (kx : ∀ (u v : St) (H : Heap) (locs : List Loc) (ls : Array Slot), IC u → IM v → RLt u v → va_P D vwCl (cw C A u ++ mw C B v) H → va_D (fun q : Nat => s.heap.size ≤ q) (cw C A u ++ mw C B v) → va_S (fun q : Nat => s.heap.size ≤ q) s.heap H locs → lv_has ls 4 [(3, .int (nI i)), (2, .ref (B 0)), (1, .ref (A 0)), (0, .ref b)] → W p l e room_1 s m #[Value.ref b] below meth c H locs 180 4779 (lw_Z below #[Value.ref b] s) (F0 m 2362 ls [])) : W p l e room_1 s m #[Value.ref b] below meth c H locs 180 4779 (lw_Z below #[Value.ref b] s) (F0 m 399 ls []) := by
  obtain ⟨hx, hb, hr, hml, hown, hts, hX, hbl, hlocks, hgv⟩ := id C0
  have hown : s.vm.findClass RL = some m.cls := hown
  have hb : c.code = cL_law := hb
  have hA : ∀ q : Nat, s.heap.size ≤ q → (fun q : Nat => s.heap.size ≤ q) q := fun _ h => h
  have hbA : ¬ (fun q : Nat => s.heap.size ≤ q) b := Nat.not_le.mpr hbl
  have hni : (nI i).toInt = (i : Int) := nI_toInt (by omega)
  refine lv_aload_n hx hb dL_law_399 rfl (lv_at hl 2 rfl) ?_
  refine lv_aload_n hx hb dL_law_400 rfl (lv_at hl 3 rfl) ?_
  refine lv_iload_n hx hb dL_law_401 rfl (lv_at hl 0 rfl) ?_
  refine lv_iconst (v := 1) hx hb dL_law_402 (by decide) ?_
  refine lv_iadd hx hb dL_law_403 ?_
  refine p_nm (tt_add (X := (i : Int)) (Y := 1) hni (by decide) (by omega) (by omega)) (fun z1 hz1 => ?_)
  refine va_sld hx hb hX hbl hbA hS (i_ix hz1 (by omega) (by omega)) dL_law_404 ?_
  refine pv_i (v := xs (i + 1)) (by rw [show Int32.toNatClampNeg z1 = i + 1 by have q9 := i_cl hz1 (by omega); omega]) ?_
  refine lcI (w := cw C A) (n := 1) (As := [.int (xs (i + 1))]) (rest := []) ⟨hx, hb, hml, hown, hts⟩ (fun _ h => uw_in h) (kX9_end_0 l D C A u hIC (xs (i + 1)) (xs (i + 1)).toInt rfl H.size) q_m428 q_n429 q_e430 q_i1 q_c431 hvX9_end ⟨(Nat.le_of_ble_eq_true rfl), (Nat.le_of_ble_eq_true rfl)⟩ ⟨(Nat.le_of_ble_eq_true rfl), (Nat.le_of_ble_eq_true rfl)⟩ hK hP hD hS hA Bl0 (fun _ _ _ => trivial) 9 0 rfl (cwc0 C A u) rfl hl.1 rfl (Nat.le_of_ble_eq_true rfl) dL_law_405 (fun r2 u4 H locs p3 hP hD hS => ?_)
  obtain ⟨hu4, Uu4, p3⟩ := p3
  refine lv_pop hx hb dL_law_408 rfl ?_
  refine lv_aload_n hx hb dL_law_409 rfl (lv_at hl 1 rfl) ?_
  refine lv_aload_n hx hb dL_law_410 rfl (lv_at hl 3 rfl) ?_
  refine lv_iload_n hx hb dL_law_411 rfl (lv_at hl 0 rfl) ?_
  refine lv_iconst (v := 1) hx hb dL_law_412 (by decide) ?_
  refine lv_iadd hx hb dL_law_413 ?_
  refine p_nm (tt_add (X := (i : Int)) (Y := 1) hni (by decide) (by omega) (by omega)) (fun z5 hz5 => ?_)
  refine va_sld hx hb hX hbl hbA hS (i_ix hz5 (by omega) (by omega)) dL_law_414 ?_
  refine pv_i (v := xs (i + 1)) (by rw [show Int32.toNatClampNeg z5 = i + 1 by have q9 := i_cl hz5 (by omega); omega]) ?_
  refine lcI (w := mw C B) (n := 1) (As := [.int (xs (i + 1))]) (rest := []) ⟨hx, hb, hml, hown, hts⟩ (fun _ h => uw_in h) (kX10_end_0 l D C B v hIM (xs (i + 1)) (xs (i + 1)).toInt rfl H.size) q_m1346 q_n1347 q_e1348 q_i11 q_c1349 hvX10_end ⟨(Nat.le_of_ble_eq_true rfl), (Nat.le_of_ble_eq_true rfl)⟩ ⟨(Nat.le_of_ble_eq_true rfl), (Nat.le_of_ble_eq_true rfl)⟩ hK hP hD hS hA Bl0 (fun _ _ _ => trivial) 10 0 rfl (mwc0 C B v) rfl hl.1 rfl (Nat.le_of_ble_eq_true rfl) dL_law_415 (fun r6 u8 H locs p7 hP hD hS => ?_)
  obtain ⟨hu8, Uu8, p7⟩ := p7
  refine lv_pop hx hb dL_law_418 rfl ?_
  refine lv_goto (tgt := 2362) hx hb dL_law_419 (by decide) ?_
  exact kx u4 u8 H locs ls hu4 hu8 (hRL.un (Uu4.1 50 rfl) (Uu4.1 52 rfl) (Uu4.1 54 rfl) (Uu4.1 56 rfl) (Uu4.1 51 rfl) (Uu4.1 53 rfl) (Uu4.1 55 rfl) (Uu4.1 57 rfl) (Uu8.2.1 1 rfl) (Uu8.2.1 2 rfl)) hP hD hS hl
set_option maxHeartbeats 4000000 in
set_option maxRecDepth 100000 in
theorem law_case_2 {p : Program} {l : Launch} {e : Env} {s : State} {m : MethodId} {below : List Frame} {meth : Method} {c : Code} {D : va_G} {C : Nat → ClassId} {b L i : Nat} {xs : Nat → Int32} {A B adK adV : Nat → Nat} {u v : St} {H : Heap} {locs : List Loc} {ls : Array Slot} (C0 : lw_At p s m meth c b L xs) (hLL : L ≤ 3072) (hiL : i + 6 ≤ L) (hK : va_K D vwCl (tyl C) s) (hXS : XS adK adV (fun q : Nat => s.heap.size ≤ q) s) (hIC : IC u) (hIM : IM v) (hRL : RLt u v) (hP : va_P D vwCl (cw C A u ++ mw C B v) H) (hD : va_D (fun q : Nat => s.heap.size ≤ q) (cw C A u ++ mw C B v)) (hS : va_S (fun q : Nat => s.heap.size ≤ q) s.heap H locs) (hl : lv_has ls 4 [(3, .int (nI i)), (2, .ref (B 0)), (1, .ref (A 0)), (0, .ref b)])
    (kx : ∀ (u v : St) (H : Heap) (locs : List Loc) (ls : Array Slot), IC u → IM v → RLt u v → va_P D vwCl (cw C A u ++ mw C B v) H → va_D (fun q : Nat => s.heap.size ≤ q) (cw C A u ++ mw C B v) → va_S (fun q : Nat => s.heap.size ≤ q) s.heap H locs → lv_has ls 4 [(3, .int (nI i)), (2, .ref (B 0)), (1, .ref (A 0)), (0, .ref b)] → W p l e room_1 s m #[Value.ref b] below meth c H locs 180 4779 (lw_Z below #[Value.ref b] s) (F0 m 2362 ls [])) : W p l e room_1 s m #[Value.ref b] below meth c H locs 180 4779 (lw_Z below #[Value.ref b] s) (F0 m 422 ls []) := by
  obtain ⟨hx, hb, hr, hml, hown, hts, hX, hbl, hlocks, hgv⟩ := id C0
  have hown : s.vm.findClass RL = some m.cls := hown
  have hb : c.code = cL_law := hb
  have hA : ∀ q : Nat, s.heap.size ≤ q → (fun q : Nat => s.heap.size ≤ q) q := fun _ h => h
  have hbA : ¬ (fun q : Nat => s.heap.size ≤ q) b := Nat.not_le.mpr hbl
  have hni : (nI i).toInt = (i : Int) := nI_toInt (by omega)
  refine lv_aload_n hx hb dL_law_422 rfl (lv_at hl 2 rfl) ?_
  refine lcI (w := cw C A) (n := 0) (As := []) (rest := []) ⟨hx, hb, hml, hown, hts⟩ (fun _ h => uw_in h) (kX9_town_0 l D C A u hIC  adK adV H.size) q_m432 q_n433 q_e434 q_i1 q_c435 hvX9_town ⟨(Nat.le_of_ble_eq_true rfl), (Nat.le_of_ble_eq_true rfl)⟩ ⟨(Nat.le_of_ble_eq_true rfl), (Nat.le_of_ble_eq_true rfl)⟩ hK hP hD hS hA BlS (fun U hU hW => hXS.law hD hS hA hW hU) 9 0 rfl (cwc0 C A u) rfl hl.1 rfl (Nat.le_of_ble_eq_true rfl) dL_law_423 (fun r1 u3 H locs p2 hP hD hS => ?_)
  obtain ⟨hu3, Uu3, p2⟩ := p2
  refine lv_pop hx hb dL_law_426 rfl ?_
  refine lv_aload_n hx hb dL_law_427 rfl (lv_at hl 1 rfl) ?_
  refine lcI (w := mw C B) (n := 0) (As := []) (rest := []) ⟨hx, hb, hml, hown, hts⟩ (fun _ h => uw_in h) (kX10_town_0 l D C B v hIM  H.size) q_m1354 q_n1355 q_e1356 q_i11 q_c1357 hvX10_town ⟨(Nat.le_of_ble_eq_true rfl), (Nat.le_of_ble_eq_true rfl)⟩ ⟨(Nat.le_of_ble_eq_true rfl), (Nat.le_of_ble_eq_true rfl)⟩ hK hP hD hS hA Bl0 (fun _ _ _ => trivial) 10 0 rfl (mwc0 C B v) rfl hl.1 rfl (Nat.le_of_ble_eq_true rfl) dL_law_428 (fun r4 u6 H locs p5 hP hD hS => ?_)
  obtain ⟨hu6, Uu6, p5⟩ := p5
  refine lv_pop hx hb dL_law_431 rfl ?_
  refine lv_goto (tgt := 2362) hx hb dL_law_432 (by decide) ?_
  exact kx u3 u6 H locs ls hu3 hu6 (hRL.un (Uu3.1 50 rfl) (Uu3.1 52 rfl) (Uu3.1 54 rfl) (Uu3.1 56 rfl) (Uu3.1 51 rfl) (Uu3.1 53 rfl) (Uu3.1 55 rfl) (Uu3.1 57 rfl) (Uu6.2.1 1 rfl) (Uu6.2.1 2 rfl)) hP hD hS hl
set_option maxHeartbeats 4000000 in
set_option maxRecDepth 100000 in
theorem law_case_3 {p : Program} {l : Launch} {e : Env} {s : State} {m : MethodId} {below : List Frame} {meth : Method} {c : Code} {D : va_G} {C : Nat → ClassId} {b L i : Nat} {xs : Nat → Int32} {A B adK adV : Nat → Nat} {u v : St} {H : Heap} {locs : List Loc} {ls : Array Slot} (C0 : lw_At p s m meth c b L xs) (hLL : L ≤ 3072) (hiL : i + 6 ≤ L) (hK : va_K D vwCl (tyl C) s) (hXS : XS adK adV (fun q : Nat => s.heap.size ≤ q) s) (hIC : IC u) (hIM : IM v) (hRL : RLt u v) (hP : va_P D vwCl (cw C A u ++ mw C B v) H) (hD : va_D (fun q : Nat => s.heap.size ≤ q) (cw C A u ++ mw C B v)) (hS : va_S (fun q : Nat => s.heap.size ≤ q) s.heap H locs) (hl : lv_has ls 4 [(3, .int (nI i)), (2, .ref (B 0)), (1, .ref (A 0)), (0, .ref b)])
    (kx : ∀ (u v : St) (H : Heap) (locs : List Loc) (ls : Array Slot), IC u → IM v → RLt u v → va_P D vwCl (cw C A u ++ mw C B v) H → va_D (fun q : Nat => s.heap.size ≤ q) (cw C A u ++ mw C B v) → va_S (fun q : Nat => s.heap.size ≤ q) s.heap H locs → lv_has ls 4 [(3, .int (nI i)), (2, .ref (B 0)), (1, .ref (A 0)), (0, .ref b)] → W p l e room_1 s m #[Value.ref b] below meth c H locs 180 4779 (lw_Z below #[Value.ref b] s) (F0 m 2362 ls [])) : W p l e room_1 s m #[Value.ref b] below meth c H locs 180 4779 (lw_Z below #[Value.ref b] s) (F0 m 435 ls []) := by
  obtain ⟨hx, hb, hr, hml, hown, hts, hX, hbl, hlocks, hgv⟩ := id C0
  have hown : s.vm.findClass RL = some m.cls := hown
  have hb : c.code = cL_law := hb
  have hA : ∀ q : Nat, s.heap.size ≤ q → (fun q : Nat => s.heap.size ≤ q) q := fun _ h => h
  have hbA : ¬ (fun q : Nat => s.heap.size ≤ q) b := Nat.not_le.mpr hbl
  have hni : (nI i).toInt = (i : Int) := nI_toInt (by omega)
  refine lv_aload_n hx hb dL_law_435 rfl (lv_at hl 2 rfl) ?_
  refine lv_aload_n hx hb dL_law_436 rfl (lv_at hl 3 rfl) ?_
  refine lv_iload_n hx hb dL_law_437 rfl (lv_at hl 0 rfl) ?_
  refine lv_iconst (v := 1) hx hb dL_law_438 (by decide) ?_
  refine lv_iadd hx hb dL_law_439 ?_
  refine p_nm (tt_add (X := (i : Int)) (Y := 1) hni (by decide) (by omega) (by omega)) (fun z1 hz1 => ?_)
  refine va_sld hx hb hX hbl hbA hS (i_ix hz1 (by omega) (by omega)) dL_law_440 ?_
  refine pv_i (v := xs (i + 1)) (by rw [show Int32.toNatClampNeg z1 = i + 1 by have q9 := i_cl hz1 (by omega); omega]) ?_
  refine cvS (n := 1) (As := [.int (xs (i + 1))]) (rest := []) ⟨hx, hb, hml, hown, hts⟩ (fun _ h => uw_in h) (kX9_fault_0 l D C A u hIC (xs (i + 1)) (xs (i + 1)).toInt rfl) q_m581 q_n582 q_e583 q_i1 q_c584 hvX9_fault ⟨(Nat.le_of_ble_eq_true rfl), (Nat.le_of_ble_eq_true rfl)⟩ ⟨(Nat.le_of_ble_eq_true rfl), (Nat.le_of_ble_eq_true rfl)⟩ hK hP.left 9 0 rfl (cwc0 C A u) rfl hl.1 rfl (Nat.le_of_ble_eq_true rfl) dL_law_441 (fun r2 p3 => ?_)
  have hP := hP.flip
  have hD := hD.flip
  refine lv_pop hx hb dL_law_444 rfl ?_
  refine lv_aload_n hx hb dL_law_445 rfl (lv_at hl 1 rfl) ?_
  refine lv_aload_n hx hb dL_law_446 rfl (lv_at hl 3 rfl) ?_
  refine lv_iload_n hx hb dL_law_447 rfl (lv_at hl 0 rfl) ?_
  refine lv_iconst (v := 1) hx hb dL_law_448 (by decide) ?_
  refine lv_iadd hx hb dL_law_449 ?_
  refine p_nm (tt_add (X := (i : Int)) (Y := 1) hni (by decide) (by omega) (by omega)) (fun z4 hz4 => ?_)
  refine va_sld hx hb hX hbl hbA hS (i_ix hz4 (by omega) (by omega)) dL_law_450 ?_
  refine pv_i (v := xs (i + 1)) (by rw [show Int32.toNatClampNeg z4 = i + 1 by have q9 := i_cl hz4 (by omega); omega]) ?_
  refine lcI (w := mw C B) (n := 1) (As := [.int (xs (i + 1))]) (rest := []) ⟨hx, hb, hml, hown, hts⟩ (fun _ h => uw_in h) (kX10_fault_0 l D C B v hIM (xs (i + 1)) (xs (i + 1)).toInt rfl H.size) q_m1350 q_n1351 q_e1352 q_i11 q_c1353 hvX10_fault ⟨(Nat.le_of_ble_eq_true rfl), (Nat.le_of_ble_eq_true rfl)⟩ ⟨(Nat.le_of_ble_eq_true rfl), (Nat.le_of_ble_eq_true rfl)⟩ hK hP hD hS hA Bl0 (fun _ _ _ => trivial) 10 0 rfl (mwc0 C B v) rfl hl.1 rfl (Nat.le_of_ble_eq_true rfl) dL_law_451 (fun r5 u7 H locs p6 hP hD hS => ?_)
  obtain ⟨hu7, Uu7, p6⟩ := p6
  refine lv_pop hx hb dL_law_454 rfl ?_
  refine lv_goto (tgt := 2362) hx hb dL_law_455 (by decide) ?_
  exact kx u u7 H locs ls hIC hu7 (hRL.un rfl rfl rfl rfl rfl rfl rfl rfl (Uu7.2.1 1 rfl) (Uu7.2.1 2 rfl)) hP hD hS hl
set_option maxHeartbeats 4000000 in
set_option maxRecDepth 100000 in
theorem law_case_4 {p : Program} {l : Launch} {e : Env} {s : State} {m : MethodId} {below : List Frame} {meth : Method} {c : Code} {D : va_G} {C : Nat → ClassId} {b L i : Nat} {xs : Nat → Int32} {A B adK adV : Nat → Nat} {u v : St} {H : Heap} {locs : List Loc} {ls : Array Slot} (C0 : lw_At p s m meth c b L xs) (hLL : L ≤ 3072) (hiL : i + 6 ≤ L) (hK : va_K D vwCl (tyl C) s) (hXS : XS adK adV (fun q : Nat => s.heap.size ≤ q) s) (hIC : IC u) (hIM : IM v) (hRL : RLt u v) (hP : va_P D vwCl (cw C A u ++ mw C B v) H) (hD : va_D (fun q : Nat => s.heap.size ≤ q) (cw C A u ++ mw C B v)) (hS : va_S (fun q : Nat => s.heap.size ≤ q) s.heap H locs) (hl : lv_has ls 4 [(3, .int (nI i)), (2, .ref (B 0)), (1, .ref (A 0)), (0, .ref b)])
    (kx : ∀ (u v : St) (H : Heap) (locs : List Loc) (ls : Array Slot), IC u → IM v → RLt u v → va_P D vwCl (cw C A u ++ mw C B v) H → va_D (fun q : Nat => s.heap.size ≤ q) (cw C A u ++ mw C B v) → va_S (fun q : Nat => s.heap.size ≤ q) s.heap H locs → lv_has ls 4 [(3, .int (nI i)), (2, .ref (B 0)), (1, .ref (A 0)), (0, .ref b)] → W p l e room_1 s m #[Value.ref b] below meth c H locs 180 4779 (lw_Z below #[Value.ref b] s) (F0 m 2362 ls [])) : W p l e room_1 s m #[Value.ref b] below meth c H locs 180 4779 (lw_Z below #[Value.ref b] s) (F0 m 458 ls []) := by
  obtain ⟨hx, hb, hr, hml, hown, hts, hX, hbl, hlocks, hgv⟩ := id C0
  have hown : s.vm.findClass RL = some m.cls := hown
  have hb : c.code = cL_law := hb
  have hA : ∀ q : Nat, s.heap.size ≤ q → (fun q : Nat => s.heap.size ≤ q) q := fun _ h => h
  have hbA : ¬ (fun q : Nat => s.heap.size ≤ q) b := Nat.not_le.mpr hbl
  have hni : (nI i).toInt = (i : Int) := nI_toInt (by omega)
  refine lv_aload_n hx hb dL_law_458 rfl (lv_at hl 2 rfl) ?_
  refine lv_aload_n hx hb dL_law_459 rfl (lv_at hl 3 rfl) ?_
  refine lv_iload_n hx hb dL_law_460 rfl (lv_at hl 0 rfl) ?_
  refine lv_iconst (v := 1) hx hb dL_law_461 (by decide) ?_
  refine lv_iadd hx hb dL_law_462 ?_
  refine p_nm (tt_add (X := (i : Int)) (Y := 1) hni (by decide) (by omega) (by omega)) (fun z1 hz1 => ?_)
  refine va_sld hx hb hX hbl hbA hS (i_ix hz1 (by omega) (by omega)) dL_law_463 ?_
  refine pv_i (v := xs (i + 1)) (by rw [show Int32.toNatClampNeg z1 = i + 1 by have q9 := i_cl hz1 (by omega); omega]) ?_
  refine lv_aload_n hx hb dL_law_464 rfl (lv_at hl 3 rfl) ?_
  refine lv_iload_n hx hb dL_law_465 rfl (lv_at hl 0 rfl) ?_
  refine lv_iconst (v := 2) hx hb dL_law_466 (by decide) ?_
  refine lv_iadd hx hb dL_law_467 ?_
  refine p_nm (tt_add (X := (i : Int)) (Y := 2) hni (by decide) (by omega) (by omega)) (fun z2 hz2 => ?_)
  refine va_sld hx hb hX hbl hbA hS (i_ix hz2 (by omega) (by omega)) dL_law_468 ?_
  refine pv_i (v := xs (i + 2)) (by rw [show Int32.toNatClampNeg z2 = i + 2 by have q9 := i_cl hz2 (by omega); omega]) ?_
  refine cvS (n := 2) (As := [.int (xs (i + 1)), .int (xs (i + 2))]) (rest := []) ⟨hx, hb, hml, hown, hts⟩ (fun _ h => uw_in h) (kX9_clock_0 l D C A u hIC (xs (i + 1)) (xs (i + 1)).toInt rfl (xs (i + 2)) (xs (i + 2)).toInt rfl) q_m585 q_n586 q_e587 q_i1 q_c588 hvX9_clock ⟨(Nat.le_of_ble_eq_true rfl), (Nat.le_of_ble_eq_true rfl)⟩ ⟨(Nat.le_of_ble_eq_true rfl), (Nat.le_of_ble_eq_true rfl)⟩ hK hP.left 9 0 rfl (cwc0 C A u) rfl hl.1 rfl (Nat.le_of_ble_eq_true rfl) dL_law_469 (fun r3 p4 => ?_)
  have hP := hP.flip
  have hD := hD.flip
  refine lv_pop hx hb dL_law_472 rfl ?_
  refine lv_aload_n hx hb dL_law_473 rfl (lv_at hl 1 rfl) ?_
  refine lv_aload_n hx hb dL_law_474 rfl (lv_at hl 3 rfl) ?_
  refine lv_iload_n hx hb dL_law_475 rfl (lv_at hl 0 rfl) ?_
  refine lv_iconst (v := 1) hx hb dL_law_476 (by decide) ?_
  refine lv_iadd hx hb dL_law_477 ?_
  refine p_nm (tt_add (X := (i : Int)) (Y := 1) hni (by decide) (by omega) (by omega)) (fun z5 hz5 => ?_)
  refine va_sld hx hb hX hbl hbA hS (i_ix hz5 (by omega) (by omega)) dL_law_478 ?_
  refine pv_i (v := xs (i + 1)) (by rw [show Int32.toNatClampNeg z5 = i + 1 by have q9 := i_cl hz5 (by omega); omega]) ?_
  refine lv_aload_n hx hb dL_law_479 rfl (lv_at hl 3 rfl) ?_
  refine lv_iload_n hx hb dL_law_480 rfl (lv_at hl 0 rfl) ?_
  refine lv_iconst (v := 2) hx hb dL_law_481 (by decide) ?_
  refine lv_iadd hx hb dL_law_482 ?_
  refine p_nm (tt_add (X := (i : Int)) (Y := 2) hni (by decide) (by omega) (by omega)) (fun z6 hz6 => ?_)
  refine va_sld hx hb hX hbl hbA hS (i_ix hz6 (by omega) (by omega)) dL_law_483 ?_
  refine pv_i (v := xs (i + 2)) (by rw [show Int32.toNatClampNeg z6 = i + 2 by have q9 := i_cl hz6 (by omega); omega]) ?_
  refine lcI (w := mw C B) (n := 2) (As := [.int (xs (i + 1)), .int (xs (i + 2))]) (rest := []) ⟨hx, hb, hml, hown, hts⟩ (fun _ h => uw_in h) (kX10_clock_0 l D C B v hIM (xs (i + 1)) (xs (i + 1)).toInt rfl (xs (i + 2)) (xs (i + 2)).toInt rfl H.size) q_m1456 q_n1457 q_e1458 q_i11 q_c1459 hvX10_clock ⟨(Nat.le_of_ble_eq_true rfl), (Nat.le_of_ble_eq_true rfl)⟩ ⟨(Nat.le_of_ble_eq_true rfl), (Nat.le_of_ble_eq_true rfl)⟩ hK hP hD hS hA Bl0 (fun _ _ _ => trivial) 10 0 rfl (mwc0 C B v) rfl hl.1 rfl (Nat.le_of_ble_eq_true rfl) dL_law_484 (fun r7 u9 H locs p8 hP hD hS => ?_)
  obtain ⟨hu9, Uu9, p8⟩ := p8
  refine lv_pop hx hb dL_law_487 rfl ?_
  refine lv_goto (tgt := 2362) hx hb dL_law_488 (by decide) ?_
  exact kx u u9 H locs ls hIC hu9 (hRL.un rfl rfl rfl rfl rfl rfl rfl rfl (Uu9.2.1 1 rfl) (Uu9.2.1 2 rfl)) hP hD hS hl
set_option maxHeartbeats 4000000 in
set_option maxRecDepth 100000 in
theorem law_case_5 {p : Program} {l : Launch} {e : Env} {s : State} {m : MethodId} {below : List Frame} {meth : Method} {c : Code} {D : va_G} {C : Nat → ClassId} {b L i : Nat} {xs : Nat → Int32} {A B adK adV : Nat → Nat} {u v : St} {H : Heap} {locs : List Loc} {ls : Array Slot} (C0 : lw_At p s m meth c b L xs) (hLL : L ≤ 3072) (hiL : i + 6 ≤ L) (hK : va_K D vwCl (tyl C) s) (hXS : XS adK adV (fun q : Nat => s.heap.size ≤ q) s) (hIC : IC u) (hIM : IM v) (hRL : RLt u v) (hP : va_P D vwCl (cw C A u ++ mw C B v) H) (hD : va_D (fun q : Nat => s.heap.size ≤ q) (cw C A u ++ mw C B v)) (hS : va_S (fun q : Nat => s.heap.size ≤ q) s.heap H locs) (hl : lv_has ls 4 [(3, .int (nI i)), (2, .ref (B 0)), (1, .ref (A 0)), (0, .ref b)])
    (kx : ∀ (u v : St) (H : Heap) (locs : List Loc) (ls : Array Slot), IC u → IM v → RLt u v → va_P D vwCl (cw C A u ++ mw C B v) H → va_D (fun q : Nat => s.heap.size ≤ q) (cw C A u ++ mw C B v) → va_S (fun q : Nat => s.heap.size ≤ q) s.heap H locs → lv_has ls 4 [(3, .int (nI i)), (2, .ref (B 0)), (1, .ref (A 0)), (0, .ref b)] → W p l e room_1 s m #[Value.ref b] below meth c H locs 180 4779 (lw_Z below #[Value.ref b] s) (F0 m 2362 ls [])) : W p l e room_1 s m #[Value.ref b] below meth c H locs 180 4779 (lw_Z below #[Value.ref b] s) (F0 m 491 ls []) := by
  obtain ⟨hx, hb, hr, hml, hown, hts, hX, hbl, hlocks, hgv⟩ := id C0
  have hown : s.vm.findClass RL = some m.cls := hown
  have hb : c.code = cL_law := hb
  have hA : ∀ q : Nat, s.heap.size ≤ q → (fun q : Nat => s.heap.size ≤ q) q := fun _ h => h
  have hbA : ¬ (fun q : Nat => s.heap.size ≤ q) b := Nat.not_le.mpr hbl
  have hni : (nI i).toInt = (i : Int) := nI_toInt (by omega)
  refine lv_aload_n hx hb dL_law_491 rfl (lv_at hl 2 rfl) ?_
  refine lv_aload_n hx hb dL_law_492 rfl (lv_at hl 3 rfl) ?_
  refine lv_iload_n hx hb dL_law_493 rfl (lv_at hl 0 rfl) ?_
  refine lv_iconst (v := 1) hx hb dL_law_494 (by decide) ?_
  refine lv_iadd hx hb dL_law_495 ?_
  refine p_nm (tt_add (X := (i : Int)) (Y := 1) hni (by decide) (by omega) (by omega)) (fun z1 hz1 => ?_)
  refine va_sld hx hb hX hbl hbA hS (i_ix hz1 (by omega) (by omega)) dL_law_496 ?_
  refine pv_i (v := xs (i + 1)) (by rw [show Int32.toNatClampNeg z1 = i + 1 by have q9 := i_cl hz1 (by omega); omega]) ?_
  refine lv_aload_n hx hb dL_law_497 rfl (lv_at hl 3 rfl) ?_
  refine lv_iload_n hx hb dL_law_498 rfl (lv_at hl 0 rfl) ?_
  refine lv_iconst (v := 2) hx hb dL_law_499 (by decide) ?_
  refine lv_iadd hx hb dL_law_500 ?_
  refine p_nm (tt_add (X := (i : Int)) (Y := 2) hni (by decide) (by omega) (by omega)) (fun z2 hz2 => ?_)
  refine va_sld hx hb hX hbl hbA hS (i_ix hz2 (by omega) (by omega)) dL_law_501 ?_
  refine pv_i (v := xs (i + 2)) (by rw [show Int32.toNatClampNeg z2 = i + 2 by have q9 := i_cl hz2 (by omega); omega]) ?_
  refine cvS (n := 2) (As := [.int (xs (i + 1)), .int (xs (i + 2))]) (rest := []) ⟨hx, hb, hml, hown, hts⟩ (fun _ h => uw_in h) (kX9_late_0 l D C A u hIC (xs (i + 1)) (xs (i + 1)).toInt rfl (xs (i + 2)) (xs (i + 2)).toInt rfl) q_m593 q_n594 q_e595 q_i1 q_c596 hvX9_late ⟨(Nat.le_of_ble_eq_true rfl), (Nat.le_of_ble_eq_true rfl)⟩ ⟨(Nat.le_of_ble_eq_true rfl), (Nat.le_of_ble_eq_true rfl)⟩ hK hP.left 9 0 rfl (cwc0 C A u) rfl hl.1 rfl (Nat.le_of_ble_eq_true rfl) dL_law_502 (fun r3 p4 => ?_)
  have hP := hP.flip
  have hD := hD.flip
  refine lv_pop hx hb dL_law_505 rfl ?_
  refine lv_aload_n hx hb dL_law_506 rfl (lv_at hl 1 rfl) ?_
  refine lv_aload_n hx hb dL_law_507 rfl (lv_at hl 3 rfl) ?_
  refine lv_iload_n hx hb dL_law_508 rfl (lv_at hl 0 rfl) ?_
  refine lv_iconst (v := 1) hx hb dL_law_509 (by decide) ?_
  refine lv_iadd hx hb dL_law_510 ?_
  refine p_nm (tt_add (X := (i : Int)) (Y := 1) hni (by decide) (by omega) (by omega)) (fun z5 hz5 => ?_)
  refine va_sld hx hb hX hbl hbA hS (i_ix hz5 (by omega) (by omega)) dL_law_511 ?_
  refine pv_i (v := xs (i + 1)) (by rw [show Int32.toNatClampNeg z5 = i + 1 by have q9 := i_cl hz5 (by omega); omega]) ?_
  refine lv_aload_n hx hb dL_law_512 rfl (lv_at hl 3 rfl) ?_
  refine lv_iload_n hx hb dL_law_513 rfl (lv_at hl 0 rfl) ?_
  refine lv_iconst (v := 2) hx hb dL_law_514 (by decide) ?_
  refine lv_iadd hx hb dL_law_515 ?_
  refine p_nm (tt_add (X := (i : Int)) (Y := 2) hni (by decide) (by omega) (by omega)) (fun z6 hz6 => ?_)
  refine va_sld hx hb hX hbl hbA hS (i_ix hz6 (by omega) (by omega)) dL_law_516 ?_
  refine pv_i (v := xs (i + 2)) (by rw [show Int32.toNatClampNeg z6 = i + 2 by have q9 := i_cl hz6 (by omega); omega]) ?_
  refine lcI (w := mw C B) (n := 2) (As := [.int (xs (i + 1)), .int (xs (i + 2))]) (rest := []) ⟨hx, hb, hml, hown, hts⟩ (fun _ h => uw_in h) (kX10_late_0 l D C B v hIM (xs (i + 1)) (xs (i + 1)).toInt rfl (xs (i + 2)) (xs (i + 2)).toInt rfl H.size) q_m1469 q_n1470 q_e1471 q_i11 q_c1472 hvX10_late ⟨(Nat.le_of_ble_eq_true rfl), (Nat.le_of_ble_eq_true rfl)⟩ ⟨(Nat.le_of_ble_eq_true rfl), (Nat.le_of_ble_eq_true rfl)⟩ hK hP hD hS hA Bl0 (fun _ _ _ => trivial) 10 0 rfl (mwc0 C B v) rfl hl.1 rfl (Nat.le_of_ble_eq_true rfl) dL_law_517 (fun r7 u9 H locs p8 hP hD hS => ?_)
  obtain ⟨hu9, Uu9, p8⟩ := p8
  refine lv_pop hx hb dL_law_520 rfl ?_
  refine lv_goto (tgt := 2362) hx hb dL_law_521 (by decide) ?_
  exact kx u u9 H locs ls hIC hu9 (hRL.un rfl rfl rfl rfl rfl rfl rfl rfl (Uu9.2.1 1 rfl) (Uu9.2.1 2 rfl)) hP hD hS hl
set_option maxHeartbeats 4000000 in
set_option maxRecDepth 100000 in
theorem law_case_6 {p : Program} {l : Launch} {e : Env} {s : State} {m : MethodId} {below : List Frame} {meth : Method} {c : Code} {D : va_G} {C : Nat → ClassId} {b L i : Nat} {xs : Nat → Int32} {A B adK adV : Nat → Nat} {u v : St} {H : Heap} {locs : List Loc} {ls : Array Slot} (C0 : lw_At p s m meth c b L xs) (hLL : L ≤ 3072) (hiL : i + 6 ≤ L) (hK : va_K D vwCl (tyl C) s) (hXS : XS adK adV (fun q : Nat => s.heap.size ≤ q) s) (hIC : IC u) (hIM : IM v) (hRL : RLt u v) (hP : va_P D vwCl (cw C A u ++ mw C B v) H) (hD : va_D (fun q : Nat => s.heap.size ≤ q) (cw C A u ++ mw C B v)) (hS : va_S (fun q : Nat => s.heap.size ≤ q) s.heap H locs) (hl : lv_has ls 4 [(3, .int (nI i)), (2, .ref (B 0)), (1, .ref (A 0)), (0, .ref b)])
    (kx : ∀ (u v : St) (H : Heap) (locs : List Loc) (ls : Array Slot), IC u → IM v → RLt u v → va_P D vwCl (cw C A u ++ mw C B v) H → va_D (fun q : Nat => s.heap.size ≤ q) (cw C A u ++ mw C B v) → va_S (fun q : Nat => s.heap.size ≤ q) s.heap H locs → lv_has ls 4 [(3, .int (nI i)), (2, .ref (B 0)), (1, .ref (A 0)), (0, .ref b)] → W p l e room_1 s m #[Value.ref b] below meth c H locs 180 4779 (lw_Z below #[Value.ref b] s) (F0 m 2362 ls [])) : W p l e room_1 s m #[Value.ref b] below meth c H locs 180 4779 (lw_Z below #[Value.ref b] s) (F0 m 524 ls []) := by
  obtain ⟨hx, hb, hr, hml, hown, hts, hX, hbl, hlocks, hgv⟩ := id C0
  have hown : s.vm.findClass RL = some m.cls := hown
  have hb : c.code = cL_law := hb
  have hA : ∀ q : Nat, s.heap.size ≤ q → (fun q : Nat => s.heap.size ≤ q) q := fun _ h => h
  have hbA : ¬ (fun q : Nat => s.heap.size ≤ q) b := Nat.not_le.mpr hbl
  have hni : (nI i).toInt = (i : Int) := nI_toInt (by omega)
  refine lv_aload_n hx hb dL_law_524 rfl (lv_at hl 2 rfl) ?_
  refine lv_aload_n hx hb dL_law_525 rfl (lv_at hl 3 rfl) ?_
  refine lv_iload_n hx hb dL_law_526 rfl (lv_at hl 0 rfl) ?_
  refine lv_iconst (v := 1) hx hb dL_law_527 (by decide) ?_
  refine lv_iadd hx hb dL_law_528 ?_
  refine p_nm (tt_add (X := (i : Int)) (Y := 1) hni (by decide) (by omega) (by omega)) (fun z1 hz1 => ?_)
  refine va_sld hx hb hX hbl hbA hS (i_ix hz1 (by omega) (by omega)) dL_law_529 ?_
  refine pv_i (v := xs (i + 1)) (by rw [show Int32.toNatClampNeg z1 = i + 1 by have q9 := i_cl hz1 (by omega); omega]) ?_
  refine cvS (n := 1) (As := [.int (xs (i + 1))]) (rest := []) ⟨hx, hb, hml, hown, hts⟩ (fun _ h => uw_in h) (kX9_noon_0 l D C A u hIC (xs (i + 1)) (xs (i + 1)).toInt rfl) q_m601 q_n602 q_e603 q_i1 q_c604 hvX9_noon ⟨(Nat.le_of_ble_eq_true rfl), (Nat.le_of_ble_eq_true rfl)⟩ ⟨(Nat.le_of_ble_eq_true rfl), (Nat.le_of_ble_eq_true rfl)⟩ hK hP.left 9 0 rfl (cwc0 C A u) rfl hl.1 rfl (Nat.le_of_ble_eq_true rfl) dL_law_530 (fun r2 p3 => ?_)
  have hP := hP.flip
  have hD := hD.flip
  refine lv_pop hx hb dL_law_533 rfl ?_
  refine lv_aload_n hx hb dL_law_534 rfl (lv_at hl 1 rfl) ?_
  refine lv_aload_n hx hb dL_law_535 rfl (lv_at hl 3 rfl) ?_
  refine lv_iload_n hx hb dL_law_536 rfl (lv_at hl 0 rfl) ?_
  refine lv_iconst (v := 1) hx hb dL_law_537 (by decide) ?_
  refine lv_iadd hx hb dL_law_538 ?_
  refine p_nm (tt_add (X := (i : Int)) (Y := 1) hni (by decide) (by omega) (by omega)) (fun z4 hz4 => ?_)
  refine va_sld hx hb hX hbl hbA hS (i_ix hz4 (by omega) (by omega)) dL_law_539 ?_
  refine pv_i (v := xs (i + 1)) (by rw [show Int32.toNatClampNeg z4 = i + 1 by have q9 := i_cl hz4 (by omega); omega]) ?_
  refine lcI (w := mw C B) (n := 1) (As := [.int (xs (i + 1))]) (rest := []) ⟨hx, hb, hml, hown, hts⟩ (fun _ h => uw_in h) (kX10_noon_0 l D C B v hIM (xs (i + 1)) (xs (i + 1)).toInt rfl H.size) q_m1492 q_n1493 q_e1494 q_i11 q_c1495 hvX10_noon ⟨(Nat.le_of_ble_eq_true rfl), (Nat.le_of_ble_eq_true rfl)⟩ ⟨(Nat.le_of_ble_eq_true rfl), (Nat.le_of_ble_eq_true rfl)⟩ hK hP hD hS hA Bl0 (fun _ _ _ => trivial) 10 0 rfl (mwc0 C B v) rfl hl.1 rfl (Nat.le_of_ble_eq_true rfl) dL_law_540 (fun r5 u7 H locs p6 hP hD hS => ?_)
  obtain ⟨hu7, Uu7, p6⟩ := p6
  refine lv_pop hx hb dL_law_543 rfl ?_
  refine lv_goto (tgt := 2362) hx hb dL_law_544 (by decide) ?_
  exact kx u u7 H locs ls hIC hu7 (hRL.un rfl rfl rfl rfl rfl rfl rfl rfl (Uu7.2.1 1 rfl) (Uu7.2.1 2 rfl)) hP hD hS hl
set_option maxHeartbeats 4000000 in
set_option maxRecDepth 100000 in
theorem law_case_7 {p : Program} {l : Launch} {e : Env} {s : State} {m : MethodId} {below : List Frame} {meth : Method} {c : Code} {D : va_G} {C : Nat → ClassId} {b L i : Nat} {xs : Nat → Int32} {A B adK adV : Nat → Nat} {u v : St} {H : Heap} {locs : List Loc} {ls : Array Slot} (C0 : lw_At p s m meth c b L xs) (hLL : L ≤ 3072) (hiL : i + 6 ≤ L) (hK : va_K D vwCl (tyl C) s) (hXS : XS adK adV (fun q : Nat => s.heap.size ≤ q) s) (hIC : IC u) (hIM : IM v) (hRL : RLt u v) (hP : va_P D vwCl (cw C A u ++ mw C B v) H) (hD : va_D (fun q : Nat => s.heap.size ≤ q) (cw C A u ++ mw C B v)) (hS : va_S (fun q : Nat => s.heap.size ≤ q) s.heap H locs) (hl : lv_has ls 4 [(3, .int (nI i)), (2, .ref (B 0)), (1, .ref (A 0)), (0, .ref b)])
    (kx : ∀ (u v : St) (H : Heap) (locs : List Loc) (ls : Array Slot), IC u → IM v → RLt u v → va_P D vwCl (cw C A u ++ mw C B v) H → va_D (fun q : Nat => s.heap.size ≤ q) (cw C A u ++ mw C B v) → va_S (fun q : Nat => s.heap.size ≤ q) s.heap H locs → lv_has ls 4 [(3, .int (nI i)), (2, .ref (B 0)), (1, .ref (A 0)), (0, .ref b)] → W p l e room_1 s m #[Value.ref b] below meth c H locs 180 4779 (lw_Z below #[Value.ref b] s) (F0 m 2362 ls [])) : W p l e room_1 s m #[Value.ref b] below meth c H locs 180 4779 (lw_Z below #[Value.ref b] s) (F0 m 547 ls []) := by
  obtain ⟨hx, hb, hr, hml, hown, hts, hX, hbl, hlocks, hgv⟩ := id C0
  have hown : s.vm.findClass RL = some m.cls := hown
  have hb : c.code = cL_law := hb
  have hA : ∀ q : Nat, s.heap.size ≤ q → (fun q : Nat => s.heap.size ≤ q) q := fun _ h => h
  have hbA : ¬ (fun q : Nat => s.heap.size ≤ q) b := Nat.not_le.mpr hbl
  have hni : (nI i).toInt = (i : Int) := nI_toInt (by omega)
  refine lv_aload_n hx hb dL_law_547 rfl (lv_at hl 2 rfl) ?_
  refine lv_aload_n hx hb dL_law_548 rfl (lv_at hl 3 rfl) ?_
  refine lv_iload_n hx hb dL_law_549 rfl (lv_at hl 0 rfl) ?_
  refine lv_iconst (v := 1) hx hb dL_law_550 (by decide) ?_
  refine lv_iadd hx hb dL_law_551 ?_
  refine p_nm (tt_add (X := (i : Int)) (Y := 1) hni (by decide) (by omega) (by omega)) (fun z1 hz1 => ?_)
  refine va_sld hx hb hX hbl hbA hS (i_ix hz1 (by omega) (by omega)) dL_law_552 ?_
  refine pv_i (v := xs (i + 1)) (by rw [show Int32.toNatClampNeg z1 = i + 1 by have q9 := i_cl hz1 (by omega); omega]) ?_
  refine cvS (n := 1) (As := [.int (xs (i + 1))]) (rest := []) ⟨hx, hb, hml, hown, hts⟩ (fun _ h => uw_in h) (kX9_counts_0 l D C A u hIC (xs (i + 1)) (xs (i + 1)).toInt rfl) q_m615 q_n616 q_e617 q_i1 q_c618 hvX9_counts ⟨(Nat.le_of_ble_eq_true rfl), (Nat.le_of_ble_eq_true rfl)⟩ ⟨(Nat.le_of_ble_eq_true rfl), (Nat.le_of_ble_eq_true rfl)⟩ hK hP.left 9 0 rfl (cwc0 C A u) rfl hl.1 rfl (Nat.le_of_ble_eq_true rfl) dL_law_553 (fun r2 p3 => ?_)
  have hP := hP.flip
  have hD := hD.flip
  refine lv_pop hx hb dL_law_556 rfl ?_
  refine lv_aload_n hx hb dL_law_557 rfl (lv_at hl 1 rfl) ?_
  refine lv_aload_n hx hb dL_law_558 rfl (lv_at hl 3 rfl) ?_
  refine lv_iload_n hx hb dL_law_559 rfl (lv_at hl 0 rfl) ?_
  refine lv_iconst (v := 1) hx hb dL_law_560 (by decide) ?_
  refine lv_iadd hx hb dL_law_561 ?_
  refine p_nm (tt_add (X := (i : Int)) (Y := 1) hni (by decide) (by omega) (by omega)) (fun z4 hz4 => ?_)
  refine va_sld hx hb hX hbl hbA hS (i_ix hz4 (by omega) (by omega)) dL_law_562 ?_
  refine pv_i (v := xs (i + 1)) (by rw [show Int32.toNatClampNeg z4 = i + 1 by have q9 := i_cl hz4 (by omega); omega]) ?_
  refine lcI (w := mw C B) (n := 1) (As := [.int (xs (i + 1))]) (rest := []) ⟨hx, hb, hml, hown, hts⟩ (fun _ h => uw_in h) (kX10_counts_0 l D C B v hIM (xs (i + 1)) (xs (i + 1)).toInt rfl H.size) q_m1512 q_n1513 q_e1514 q_i11 q_c1515 hvX10_counts ⟨(Nat.le_of_ble_eq_true rfl), (Nat.le_of_ble_eq_true rfl)⟩ ⟨(Nat.le_of_ble_eq_true rfl), (Nat.le_of_ble_eq_true rfl)⟩ hK hP hD hS hA Bl0 (fun _ _ _ => trivial) 10 0 rfl (mwc0 C B v) rfl hl.1 rfl (Nat.le_of_ble_eq_true rfl) dL_law_563 (fun r5 u7 H locs p6 hP hD hS => ?_)
  obtain ⟨hu7, Uu7, p6⟩ := p6
  refine lv_pop hx hb dL_law_566 rfl ?_
  refine lv_goto (tgt := 2362) hx hb dL_law_567 (by decide) ?_
  exact kx u u7 H locs ls hIC hu7 (hRL.un rfl rfl rfl rfl rfl rfl rfl rfl (Uu7.2.1 1 rfl) (Uu7.2.1 2 rfl)) hP hD hS hl
set_option maxHeartbeats 4000000 in
set_option maxRecDepth 100000 in
theorem law_case_8 {p : Program} {l : Launch} {e : Env} {s : State} {m : MethodId} {below : List Frame} {meth : Method} {c : Code} {D : va_G} {C : Nat → ClassId} {b L i : Nat} {xs : Nat → Int32} {A B adK adV : Nat → Nat} {u v : St} {H : Heap} {locs : List Loc} {ls : Array Slot} (C0 : lw_At p s m meth c b L xs) (hLL : L ≤ 3072) (hiL : i + 6 ≤ L) (hK : va_K D vwCl (tyl C) s) (hXS : XS adK adV (fun q : Nat => s.heap.size ≤ q) s) (hIC : IC u) (hIM : IM v) (hRL : RLt u v) (hP : va_P D vwCl (cw C A u ++ mw C B v) H) (hD : va_D (fun q : Nat => s.heap.size ≤ q) (cw C A u ++ mw C B v)) (hS : va_S (fun q : Nat => s.heap.size ≤ q) s.heap H locs) (hl : lv_has ls 4 [(3, .int (nI i)), (2, .ref (B 0)), (1, .ref (A 0)), (0, .ref b)])
    (kx : ∀ (u v : St) (H : Heap) (locs : List Loc) (ls : Array Slot), IC u → IM v → RLt u v → va_P D vwCl (cw C A u ++ mw C B v) H → va_D (fun q : Nat => s.heap.size ≤ q) (cw C A u ++ mw C B v) → va_S (fun q : Nat => s.heap.size ≤ q) s.heap H locs → lv_has ls 4 [(3, .int (nI i)), (2, .ref (B 0)), (1, .ref (A 0)), (0, .ref b)] → W p l e room_1 s m #[Value.ref b] below meth c H locs 180 4779 (lw_Z below #[Value.ref b] s) (F0 m 2362 ls [])) : W p l e room_1 s m #[Value.ref b] below meth c H locs 180 4779 (lw_Z below #[Value.ref b] s) (F0 m 570 ls []) := by
  obtain ⟨hx, hb, hr, hml, hown, hts, hX, hbl, hlocks, hgv⟩ := id C0
  have hown : s.vm.findClass RL = some m.cls := hown
  have hb : c.code = cL_law := hb
  have hA : ∀ q : Nat, s.heap.size ≤ q → (fun q : Nat => s.heap.size ≤ q) q := fun _ h => h
  have hbA : ¬ (fun q : Nat => s.heap.size ≤ q) b := Nat.not_le.mpr hbl
  have hni : (nI i).toInt = (i : Int) := nI_toInt (by omega)
  refine lv_aload_n hx hb dL_law_570 rfl (lv_at hl 2 rfl) ?_
  refine lv_aload_n hx hb dL_law_571 rfl (lv_at hl 3 rfl) ?_
  refine lv_iload_n hx hb dL_law_572 rfl (lv_at hl 0 rfl) ?_
  refine lv_iconst (v := 1) hx hb dL_law_573 (by decide) ?_
  refine lv_iadd hx hb dL_law_574 ?_
  refine p_nm (tt_add (X := (i : Int)) (Y := 1) hni (by decide) (by omega) (by omega)) (fun z1 hz1 => ?_)
  refine va_sld hx hb hX hbl hbA hS (i_ix hz1 (by omega) (by omega)) dL_law_575 ?_
  refine pv_i (v := xs (i + 1)) (by rw [show Int32.toNatClampNeg z1 = i + 1 by have q9 := i_cl hz1 (by omega); omega]) ?_
  refine cvS (n := 1) (As := [.int (xs (i + 1))]) (rest := []) ⟨hx, hb, hml, hown, hts⟩ (fun _ h => uw_in h) (kX9_slowest_0 l D C A u hIC (xs (i + 1)) (xs (i + 1)).toInt rfl) q_m619 q_n620 q_e621 q_i1 q_c622 hvX9_slowest ⟨(Nat.le_of_ble_eq_true rfl), (Nat.le_of_ble_eq_true rfl)⟩ ⟨(Nat.le_of_ble_eq_true rfl), (Nat.le_of_ble_eq_true rfl)⟩ hK hP.left 9 0 rfl (cwc0 C A u) rfl hl.1 rfl (Nat.le_of_ble_eq_true rfl) dL_law_576 (fun r2 p3 => ?_)
  have hP := hP.flip
  have hD := hD.flip
  refine lv_pop hx hb dL_law_579 rfl ?_
  refine lv_aload_n hx hb dL_law_580 rfl (lv_at hl 1 rfl) ?_
  refine lv_aload_n hx hb dL_law_581 rfl (lv_at hl 3 rfl) ?_
  refine lv_iload_n hx hb dL_law_582 rfl (lv_at hl 0 rfl) ?_
  refine lv_iconst (v := 1) hx hb dL_law_583 (by decide) ?_
  refine lv_iadd hx hb dL_law_584 ?_
  refine p_nm (tt_add (X := (i : Int)) (Y := 1) hni (by decide) (by omega) (by omega)) (fun z4 hz4 => ?_)
  refine va_sld hx hb hX hbl hbA hS (i_ix hz4 (by omega) (by omega)) dL_law_585 ?_
  refine pv_i (v := xs (i + 1)) (by rw [show Int32.toNatClampNeg z4 = i + 1 by have q9 := i_cl hz4 (by omega); omega]) ?_
  refine lcI (w := mw C B) (n := 1) (As := [.int (xs (i + 1))]) (rest := []) ⟨hx, hb, hml, hown, hts⟩ (fun _ h => uw_in h) (kX10_slowest_0 l D C B v hIM (xs (i + 1)) (xs (i + 1)).toInt rfl H.size) q_m1516 q_n1517 q_e1518 q_i11 q_c1519 hvX10_slowest ⟨(Nat.le_of_ble_eq_true rfl), (Nat.le_of_ble_eq_true rfl)⟩ ⟨(Nat.le_of_ble_eq_true rfl), (Nat.le_of_ble_eq_true rfl)⟩ hK hP hD hS hA Bl0 (fun _ _ _ => trivial) 10 0 rfl (mwc0 C B v) rfl hl.1 rfl (Nat.le_of_ble_eq_true rfl) dL_law_586 (fun r5 u7 H locs p6 hP hD hS => ?_)
  obtain ⟨hu7, Uu7, p6⟩ := p6
  refine lv_pop hx hb dL_law_589 rfl ?_
  refine lv_goto (tgt := 2362) hx hb dL_law_590 (by decide) ?_
  exact kx u u7 H locs ls hIC hu7 (hRL.un rfl rfl rfl rfl rfl rfl rfl rfl (Uu7.2.1 1 rfl) (Uu7.2.1 2 rfl)) hP hD hS hl
set_option maxHeartbeats 4000000 in
set_option maxRecDepth 100000 in
theorem law_case_9 {p : Program} {l : Launch} {e : Env} {s : State} {m : MethodId} {below : List Frame} {meth : Method} {c : Code} {D : va_G} {C : Nat → ClassId} {b L i : Nat} {xs : Nat → Int32} {A B adK adV : Nat → Nat} {u v : St} {H : Heap} {locs : List Loc} {ls : Array Slot} (C0 : lw_At p s m meth c b L xs) (hLL : L ≤ 3072) (hiL : i + 6 ≤ L) (hK : va_K D vwCl (tyl C) s) (hXS : XS adK adV (fun q : Nat => s.heap.size ≤ q) s) (hIC : IC u) (hIM : IM v) (hRL : RLt u v) (hP : va_P D vwCl (cw C A u ++ mw C B v) H) (hD : va_D (fun q : Nat => s.heap.size ≤ q) (cw C A u ++ mw C B v)) (hS : va_S (fun q : Nat => s.heap.size ≤ q) s.heap H locs) (hl : lv_has ls 4 [(3, .int (nI i)), (2, .ref (B 0)), (1, .ref (A 0)), (0, .ref b)])
    (kx : ∀ (u v : St) (H : Heap) (locs : List Loc) (ls : Array Slot), IC u → IM v → RLt u v → va_P D vwCl (cw C A u ++ mw C B v) H → va_D (fun q : Nat => s.heap.size ≤ q) (cw C A u ++ mw C B v) → va_S (fun q : Nat => s.heap.size ≤ q) s.heap H locs → lv_has ls 4 [(3, .int (nI i)), (2, .ref (B 0)), (1, .ref (A 0)), (0, .ref b)] → W p l e room_1 s m #[Value.ref b] below meth c H locs 180 4779 (lw_Z below #[Value.ref b] s) (F0 m 2362 ls [])) : W p l e room_1 s m #[Value.ref b] below meth c H locs 180 4779 (lw_Z below #[Value.ref b] s) (F0 m 593 ls []) := by
  obtain ⟨hx, hb, hr, hml, hown, hts, hX, hbl, hlocks, hgv⟩ := id C0
  have hown : s.vm.findClass RL = some m.cls := hown
  have hb : c.code = cL_law := hb
  have hA : ∀ q : Nat, s.heap.size ≤ q → (fun q : Nat => s.heap.size ≤ q) q := fun _ h => h
  have hbA : ¬ (fun q : Nat => s.heap.size ≤ q) b := Nat.not_le.mpr hbl
  have hni : (nI i).toInt = (i : Int) := nI_toInt (by omega)
  refine lv_aload_n hx hb dL_law_593 rfl (lv_at hl 2 rfl) ?_
  refine lv_aload_n hx hb dL_law_594 rfl (lv_at hl 3 rfl) ?_
  refine lv_iload_n hx hb dL_law_595 rfl (lv_at hl 0 rfl) ?_
  refine lv_iconst (v := 1) hx hb dL_law_596 (by decide) ?_
  refine lv_iadd hx hb dL_law_597 ?_
  refine p_nm (tt_add (X := (i : Int)) (Y := 1) hni (by decide) (by omega) (by omega)) (fun z1 hz1 => ?_)
  refine va_sld hx hb hX hbl hbA hS (i_ix hz1 (by omega) (by omega)) dL_law_598 ?_
  refine pv_i (v := xs (i + 1)) (by rw [show Int32.toNatClampNeg z1 = i + 1 by have q9 := i_cl hz1 (by omega); omega]) ?_
  refine lv_aload_n hx hb dL_law_599 rfl (lv_at hl 3 rfl) ?_
  refine lv_iload_n hx hb dL_law_600 rfl (lv_at hl 0 rfl) ?_
  refine lv_iconst (v := 2) hx hb dL_law_601 (by decide) ?_
  refine lv_iadd hx hb dL_law_602 ?_
  refine p_nm (tt_add (X := (i : Int)) (Y := 2) hni (by decide) (by omega) (by omega)) (fun z2 hz2 => ?_)
  refine va_sld hx hb hX hbl hbA hS (i_ix hz2 (by omega) (by omega)) dL_law_603 ?_
  refine pv_i (v := xs (i + 2)) (by rw [show Int32.toNatClampNeg z2 = i + 2 by have q9 := i_cl hz2 (by omega); omega]) ?_
  refine cvS (n := 2) (As := [.int (xs (i + 1)), .int (xs (i + 2))]) (rest := []) ⟨hx, hb, hml, hown, hts⟩ (fun _ h => uw_in h) (kX9_order_0 l D C A u hIC (xs (i + 1)) (xs (i + 1)).toInt rfl (xs (i + 2)) (xs (i + 2)).toInt rfl) q_m628 q_n629 q_e630 q_i1 q_c631 hvX9_order ⟨(Nat.le_of_ble_eq_true rfl), (Nat.le_of_ble_eq_true rfl)⟩ ⟨(Nat.le_of_ble_eq_true rfl), (Nat.le_of_ble_eq_true rfl)⟩ hK hP.left 9 0 rfl (cwc0 C A u) rfl hl.1 rfl (Nat.le_of_ble_eq_true rfl) dL_law_604 (fun r3 p4 => ?_)
  have hP := hP.flip
  have hD := hD.flip
  refine lv_pop hx hb dL_law_607 rfl ?_
  refine lv_aload_n hx hb dL_law_608 rfl (lv_at hl 1 rfl) ?_
  refine lv_aload_n hx hb dL_law_609 rfl (lv_at hl 3 rfl) ?_
  refine lv_iload_n hx hb dL_law_610 rfl (lv_at hl 0 rfl) ?_
  refine lv_iconst (v := 1) hx hb dL_law_611 (by decide) ?_
  refine lv_iadd hx hb dL_law_612 ?_
  refine p_nm (tt_add (X := (i : Int)) (Y := 1) hni (by decide) (by omega) (by omega)) (fun z5 hz5 => ?_)
  refine va_sld hx hb hX hbl hbA hS (i_ix hz5 (by omega) (by omega)) dL_law_613 ?_
  refine pv_i (v := xs (i + 1)) (by rw [show Int32.toNatClampNeg z5 = i + 1 by have q9 := i_cl hz5 (by omega); omega]) ?_
  refine lv_aload_n hx hb dL_law_614 rfl (lv_at hl 3 rfl) ?_
  refine lv_iload_n hx hb dL_law_615 rfl (lv_at hl 0 rfl) ?_
  refine lv_iconst (v := 2) hx hb dL_law_616 (by decide) ?_
  refine lv_iadd hx hb dL_law_617 ?_
  refine p_nm (tt_add (X := (i : Int)) (Y := 2) hni (by decide) (by omega) (by omega)) (fun z6 hz6 => ?_)
  refine va_sld hx hb hX hbl hbA hS (i_ix hz6 (by omega) (by omega)) dL_law_618 ?_
  refine pv_i (v := xs (i + 2)) (by rw [show Int32.toNatClampNeg z6 = i + 2 by have q9 := i_cl hz6 (by omega); omega]) ?_
  refine lcI (w := mw C B) (n := 2) (As := [.int (xs (i + 1)), .int (xs (i + 2))]) (rest := []) ⟨hx, hb, hml, hown, hts⟩ (fun _ h => uw_in h) (kX10_order_0 l D C B v hIM (xs (i + 1)) (xs (i + 1)).toInt rfl (xs (i + 2)) (xs (i + 2)).toInt rfl H.size) q_m1520 q_n1521 q_e1522 q_i11 q_c1523 hvX10_order ⟨(Nat.le_of_ble_eq_true rfl), (Nat.le_of_ble_eq_true rfl)⟩ ⟨(Nat.le_of_ble_eq_true rfl), (Nat.le_of_ble_eq_true rfl)⟩ hK hP hD hS hA Bl0 (fun _ _ _ => trivial) 10 0 rfl (mwc0 C B v) rfl hl.1 rfl (Nat.le_of_ble_eq_true rfl) dL_law_619 (fun r7 u9 H locs p8 hP hD hS => ?_)
  obtain ⟨hu9, Uu9, p8⟩ := p8
  refine lv_pop hx hb dL_law_622 rfl ?_
  refine lv_goto (tgt := 2362) hx hb dL_law_623 (by decide) ?_
  exact kx u u9 H locs ls hIC hu9 (hRL.un rfl rfl rfl rfl rfl rfl rfl rfl (Uu9.2.1 1 rfl) (Uu9.2.1 2 rfl)) hP hD hS hl
set_option maxHeartbeats 4000000 in
set_option maxRecDepth 100000 in
theorem law_case_10 {p : Program} {l : Launch} {e : Env} {s : State} {m : MethodId} {below : List Frame} {meth : Method} {c : Code} {D : va_G} {C : Nat → ClassId} {b L i : Nat} {xs : Nat → Int32} {A B adK adV : Nat → Nat} {u v : St} {H : Heap} {locs : List Loc} {ls : Array Slot} (C0 : lw_At p s m meth c b L xs) (hLL : L ≤ 3072) (hiL : i + 6 ≤ L) (hK : va_K D vwCl (tyl C) s) (hXS : XS adK adV (fun q : Nat => s.heap.size ≤ q) s) (hIC : IC u) (hIM : IM v) (hRL : RLt u v) (hP : va_P D vwCl (cw C A u ++ mw C B v) H) (hD : va_D (fun q : Nat => s.heap.size ≤ q) (cw C A u ++ mw C B v)) (hS : va_S (fun q : Nat => s.heap.size ≤ q) s.heap H locs) (hl : lv_has ls 4 [(3, .int (nI i)), (2, .ref (B 0)), (1, .ref (A 0)), (0, .ref b)])
    (kx : ∀ (u v : St) (H : Heap) (locs : List Loc) (ls : Array Slot), IC u → IM v → RLt u v → va_P D vwCl (cw C A u ++ mw C B v) H → va_D (fun q : Nat => s.heap.size ≤ q) (cw C A u ++ mw C B v) → va_S (fun q : Nat => s.heap.size ≤ q) s.heap H locs → lv_has ls 4 [(3, .int (nI i)), (2, .ref (B 0)), (1, .ref (A 0)), (0, .ref b)] → W p l e room_1 s m #[Value.ref b] below meth c H locs 180 4779 (lw_Z below #[Value.ref b] s) (F0 m 2362 ls [])) : W p l e room_1 s m #[Value.ref b] below meth c H locs 180 4779 (lw_Z below #[Value.ref b] s) (F0 m 626 ls []) := by
  obtain ⟨hx, hb, hr, hml, hown, hts, hX, hbl, hlocks, hgv⟩ := id C0
  have hown : s.vm.findClass RL = some m.cls := hown
  have hb : c.code = cL_law := hb
  have hA : ∀ q : Nat, s.heap.size ≤ q → (fun q : Nat => s.heap.size ≤ q) q := fun _ h => h
  have hbA : ¬ (fun q : Nat => s.heap.size ≤ q) b := Nat.not_le.mpr hbl
  have hni : (nI i).toInt = (i : Int) := nI_toInt (by omega)
  refine lv_aload_n hx hb dL_law_626 rfl (lv_at hl 2 rfl) ?_
  refine lv_aload_n hx hb dL_law_627 rfl (lv_at hl 3 rfl) ?_
  refine lv_iload_n hx hb dL_law_628 rfl (lv_at hl 0 rfl) ?_
  refine lv_iconst (v := 1) hx hb dL_law_629 (by decide) ?_
  refine lv_iadd hx hb dL_law_630 ?_
  refine p_nm (tt_add (X := (i : Int)) (Y := 1) hni (by decide) (by omega) (by omega)) (fun z1 hz1 => ?_)
  refine va_sld hx hb hX hbl hbA hS (i_ix hz1 (by omega) (by omega)) dL_law_631 ?_
  refine pv_i (v := xs (i + 1)) (by rw [show Int32.toNatClampNeg z1 = i + 1 by have q9 := i_cl hz1 (by omega); omega]) ?_
  refine lv_aload_n hx hb dL_law_632 rfl (lv_at hl 3 rfl) ?_
  refine lv_iload_n hx hb dL_law_633 rfl (lv_at hl 0 rfl) ?_
  refine lv_iconst (v := 2) hx hb dL_law_634 (by decide) ?_
  refine lv_iadd hx hb dL_law_635 ?_
  refine p_nm (tt_add (X := (i : Int)) (Y := 2) hni (by decide) (by omega) (by omega)) (fun z2 hz2 => ?_)
  refine va_sld hx hb hX hbl hbA hS (i_ix hz2 (by omega) (by omega)) dL_law_636 ?_
  refine pv_i (v := xs (i + 2)) (by rw [show Int32.toNatClampNeg z2 = i + 2 by have q9 := i_cl hz2 (by omega); omega]) ?_
  refine cvS (n := 2) (As := [.int (xs (i + 1)), .int (xs (i + 2))]) (rest := []) ⟨hx, hb, hml, hown, hts⟩ (fun _ h => uw_in h) (kX9_struck_0 l D C A u hIC (xs (i + 1)) (xs (i + 1)).toInt rfl (xs (i + 2)) (xs (i + 2)).toInt rfl) q_m647 q_n648 q_e649 q_i1 q_c650 hvX9_struck ⟨(Nat.le_of_ble_eq_true rfl), (Nat.le_of_ble_eq_true rfl)⟩ ⟨(Nat.le_of_ble_eq_true rfl), (Nat.le_of_ble_eq_true rfl)⟩ hK hP.left 9 0 rfl (cwc0 C A u) rfl hl.1 rfl (Nat.le_of_ble_eq_true rfl) dL_law_637 (fun r3 p4 => ?_)
  have hP := hP.flip
  have hD := hD.flip
  refine lv_pop hx hb dL_law_640 rfl ?_
  refine lv_aload_n hx hb dL_law_641 rfl (lv_at hl 1 rfl) ?_
  refine lv_aload_n hx hb dL_law_642 rfl (lv_at hl 3 rfl) ?_
  refine lv_iload_n hx hb dL_law_643 rfl (lv_at hl 0 rfl) ?_
  refine lv_iconst (v := 1) hx hb dL_law_644 (by decide) ?_
  refine lv_iadd hx hb dL_law_645 ?_
  refine p_nm (tt_add (X := (i : Int)) (Y := 1) hni (by decide) (by omega) (by omega)) (fun z5 hz5 => ?_)
  refine va_sld hx hb hX hbl hbA hS (i_ix hz5 (by omega) (by omega)) dL_law_646 ?_
  refine pv_i (v := xs (i + 1)) (by rw [show Int32.toNatClampNeg z5 = i + 1 by have q9 := i_cl hz5 (by omega); omega]) ?_
  refine lv_aload_n hx hb dL_law_647 rfl (lv_at hl 3 rfl) ?_
  refine lv_iload_n hx hb dL_law_648 rfl (lv_at hl 0 rfl) ?_
  refine lv_iconst (v := 2) hx hb dL_law_649 (by decide) ?_
  refine lv_iadd hx hb dL_law_650 ?_
  refine p_nm (tt_add (X := (i : Int)) (Y := 2) hni (by decide) (by omega) (by omega)) (fun z6 hz6 => ?_)
  refine va_sld hx hb hX hbl hbA hS (i_ix hz6 (by omega) (by omega)) dL_law_651 ?_
  refine pv_i (v := xs (i + 2)) (by rw [show Int32.toNatClampNeg z6 = i + 2 by have q9 := i_cl hz6 (by omega); omega]) ?_
  refine lcI (w := mw C B) (n := 2) (As := [.int (xs (i + 1)), .int (xs (i + 2))]) (rest := []) ⟨hx, hb, hml, hown, hts⟩ (fun _ h => uw_in h) (kX10_struck_0 l D C B v hIM (xs (i + 1)) (xs (i + 1)).toInt rfl (xs (i + 2)) (xs (i + 2)).toInt rfl H.size) q_m1528 q_n1529 q_e1530 q_i11 q_c1531 hvX10_struck ⟨(Nat.le_of_ble_eq_true rfl), (Nat.le_of_ble_eq_true rfl)⟩ ⟨(Nat.le_of_ble_eq_true rfl), (Nat.le_of_ble_eq_true rfl)⟩ hK hP hD hS hA Bl0 (fun _ _ _ => trivial) 10 0 rfl (mwc0 C B v) rfl hl.1 rfl (Nat.le_of_ble_eq_true rfl) dL_law_652 (fun r7 u9 H locs p8 hP hD hS => ?_)
  obtain ⟨hu9, Uu9, p8⟩ := p8
  refine lv_pop hx hb dL_law_655 rfl ?_
  refine lv_goto (tgt := 2362) hx hb dL_law_656 (by decide) ?_
  exact kx u u9 H locs ls hIC hu9 (hRL.un rfl rfl rfl rfl rfl rfl rfl rfl (Uu9.2.1 1 rfl) (Uu9.2.1 2 rfl)) hP hD hS hl
set_option maxHeartbeats 4000000 in
set_option maxRecDepth 100000 in
theorem law_case_11 {p : Program} {l : Launch} {e : Env} {s : State} {m : MethodId} {below : List Frame} {meth : Method} {c : Code} {D : va_G} {C : Nat → ClassId} {b L i : Nat} {xs : Nat → Int32} {A B adK adV : Nat → Nat} {u v : St} {H : Heap} {locs : List Loc} {ls : Array Slot} (C0 : lw_At p s m meth c b L xs) (hLL : L ≤ 3072) (hiL : i + 6 ≤ L) (hK : va_K D vwCl (tyl C) s) (hXS : XS adK adV (fun q : Nat => s.heap.size ≤ q) s) (hIC : IC u) (hIM : IM v) (hRL : RLt u v) (hP : va_P D vwCl (cw C A u ++ mw C B v) H) (hD : va_D (fun q : Nat => s.heap.size ≤ q) (cw C A u ++ mw C B v)) (hS : va_S (fun q : Nat => s.heap.size ≤ q) s.heap H locs) (hl : lv_has ls 4 [(3, .int (nI i)), (2, .ref (B 0)), (1, .ref (A 0)), (0, .ref b)])
    (kx : ∀ (u v : St) (H : Heap) (locs : List Loc) (ls : Array Slot), IC u → IM v → RLt u v → va_P D vwCl (cw C A u ++ mw C B v) H → va_D (fun q : Nat => s.heap.size ≤ q) (cw C A u ++ mw C B v) → va_S (fun q : Nat => s.heap.size ≤ q) s.heap H locs → lv_has ls 4 [(3, .int (nI i)), (2, .ref (B 0)), (1, .ref (A 0)), (0, .ref b)] → W p l e room_1 s m #[Value.ref b] below meth c H locs 180 4779 (lw_Z below #[Value.ref b] s) (F0 m 2362 ls [])) : W p l e room_1 s m #[Value.ref b] below meth c H locs 180 4779 (lw_Z below #[Value.ref b] s) (F0 m 659 ls []) := by
  obtain ⟨hx, hb, hr, hml, hown, hts, hX, hbl, hlocks, hgv⟩ := id C0
  have hown : s.vm.findClass RL = some m.cls := hown
  have hb : c.code = cL_law := hb
  have hA : ∀ q : Nat, s.heap.size ≤ q → (fun q : Nat => s.heap.size ≤ q) q := fun _ h => h
  have hbA : ¬ (fun q : Nat => s.heap.size ≤ q) b := Nat.not_le.mpr hbl
  have hni : (nI i).toInt = (i : Int) := nI_toInt (by omega)
  refine lv_aload_n hx hb dL_law_659 rfl (lv_at hl 2 rfl) ?_
  refine lv_aload_n hx hb dL_law_660 rfl (lv_at hl 3 rfl) ?_
  refine lv_iload_n hx hb dL_law_661 rfl (lv_at hl 0 rfl) ?_
  refine lv_iconst (v := 1) hx hb dL_law_662 (by decide) ?_
  refine lv_iadd hx hb dL_law_663 ?_
  refine p_nm (tt_add (X := (i : Int)) (Y := 1) hni (by decide) (by omega) (by omega)) (fun z1 hz1 => ?_)
  refine va_sld hx hb hX hbl hbA hS (i_ix hz1 (by omega) (by omega)) dL_law_664 ?_
  refine pv_i (v := xs (i + 1)) (by rw [show Int32.toNatClampNeg z1 = i + 1 by have q9 := i_cl hz1 (by omega); omega]) ?_
  refine cvS (n := 1) (As := [.int (xs (i + 1))]) (rest := []) ⟨hx, hb, hml, hown, hts⟩ (fun _ h => uw_in h) (kX9_gap_0 l D C A u hIC (xs (i + 1)) (xs (i + 1)).toInt rfl) q_m655 q_n656 q_e657 q_i1 q_c658 hvX9_gap ⟨(Nat.le_of_ble_eq_true rfl), (Nat.le_of_ble_eq_true rfl)⟩ ⟨(Nat.le_of_ble_eq_true rfl), (Nat.le_of_ble_eq_true rfl)⟩ hK hP.left 9 0 rfl (cwc0 C A u) rfl hl.1 rfl (Nat.le_of_ble_eq_true rfl) dL_law_665 (fun r2 p3 => ?_)
  have hP := hP.flip
  have hD := hD.flip
  refine lv_pop hx hb dL_law_668 rfl ?_
  refine lv_aload_n hx hb dL_law_669 rfl (lv_at hl 1 rfl) ?_
  refine lv_aload_n hx hb dL_law_670 rfl (lv_at hl 3 rfl) ?_
  refine lv_iload_n hx hb dL_law_671 rfl (lv_at hl 0 rfl) ?_
  refine lv_iconst (v := 1) hx hb dL_law_672 (by decide) ?_
  refine lv_iadd hx hb dL_law_673 ?_
  refine p_nm (tt_add (X := (i : Int)) (Y := 1) hni (by decide) (by omega) (by omega)) (fun z4 hz4 => ?_)
  refine va_sld hx hb hX hbl hbA hS (i_ix hz4 (by omega) (by omega)) dL_law_674 ?_
  refine pv_i (v := xs (i + 1)) (by rw [show Int32.toNatClampNeg z4 = i + 1 by have q9 := i_cl hz4 (by omega); omega]) ?_
  refine lcI (w := mw C B) (n := 1) (As := [.int (xs (i + 1))]) (rest := []) ⟨hx, hb, hml, hown, hts⟩ (fun _ h => uw_in h) (kX10_gap_0 l D C B v hIM (xs (i + 1)) (xs (i + 1)).toInt rfl H.size) q_m1534 q_n1535 q_e1536 q_i11 q_c1537 hvX10_gap ⟨(Nat.le_of_ble_eq_true rfl), (Nat.le_of_ble_eq_true rfl)⟩ ⟨(Nat.le_of_ble_eq_true rfl), (Nat.le_of_ble_eq_true rfl)⟩ hK hP hD hS hA Bl0 (fun _ _ _ => trivial) 10 0 rfl (mwc0 C B v) rfl hl.1 rfl (Nat.le_of_ble_eq_true rfl) dL_law_675 (fun r5 u7 H locs p6 hP hD hS => ?_)
  obtain ⟨hu7, Uu7, p6⟩ := p6
  refine lv_pop hx hb dL_law_678 rfl ?_
  refine lv_goto (tgt := 2362) hx hb dL_law_679 (by decide) ?_
  exact kx u u7 H locs ls hIC hu7 (hRL.un rfl rfl rfl rfl rfl rfl rfl rfl (Uu7.2.1 1 rfl) (Uu7.2.1 2 rfl)) hP hD hS hl
set_option maxHeartbeats 4000000 in
set_option maxRecDepth 100000 in
theorem law_case_12 {p : Program} {l : Launch} {e : Env} {s : State} {m : MethodId} {below : List Frame} {meth : Method} {c : Code} {D : va_G} {C : Nat → ClassId} {b L i : Nat} {xs : Nat → Int32} {A B adK adV : Nat → Nat} {u v : St} {H : Heap} {locs : List Loc} {ls : Array Slot} (C0 : lw_At p s m meth c b L xs) (hLL : L ≤ 3072) (hiL : i + 6 ≤ L) (hK : va_K D vwCl (tyl C) s) (hXS : XS adK adV (fun q : Nat => s.heap.size ≤ q) s) (hIC : IC u) (hIM : IM v) (hRL : RLt u v) (hP : va_P D vwCl (cw C A u ++ mw C B v) H) (hD : va_D (fun q : Nat => s.heap.size ≤ q) (cw C A u ++ mw C B v)) (hS : va_S (fun q : Nat => s.heap.size ≤ q) s.heap H locs) (hl : lv_has ls 4 [(3, .int (nI i)), (2, .ref (B 0)), (1, .ref (A 0)), (0, .ref b)])
    (kx : ∀ (u v : St) (H : Heap) (locs : List Loc) (ls : Array Slot), IC u → IM v → RLt u v → va_P D vwCl (cw C A u ++ mw C B v) H → va_D (fun q : Nat => s.heap.size ≤ q) (cw C A u ++ mw C B v) → va_S (fun q : Nat => s.heap.size ≤ q) s.heap H locs → lv_has ls 4 [(3, .int (nI i)), (2, .ref (B 0)), (1, .ref (A 0)), (0, .ref b)] → W p l e room_1 s m #[Value.ref b] below meth c H locs 180 4779 (lw_Z below #[Value.ref b] s) (F0 m 2362 ls [])) : W p l e room_1 s m #[Value.ref b] below meth c H locs 180 4779 (lw_Z below #[Value.ref b] s) (F0 m 682 ls []) := by
  obtain ⟨hx, hb, hr, hml, hown, hts, hX, hbl, hlocks, hgv⟩ := id C0
  have hown : s.vm.findClass RL = some m.cls := hown
  have hb : c.code = cL_law := hb
  have hA : ∀ q : Nat, s.heap.size ≤ q → (fun q : Nat => s.heap.size ≤ q) q := fun _ h => h
  have hbA : ¬ (fun q : Nat => s.heap.size ≤ q) b := Nat.not_le.mpr hbl
  have hni : (nI i).toInt = (i : Int) := nI_toInt (by omega)
  refine lv_aload_n hx hb dL_law_682 rfl (lv_at hl 2 rfl) ?_
  refine lv_aload_n hx hb dL_law_683 rfl (lv_at hl 3 rfl) ?_
  refine lv_iload_n hx hb dL_law_684 rfl (lv_at hl 0 rfl) ?_
  refine lv_iconst (v := 1) hx hb dL_law_685 (by decide) ?_
  refine lv_iadd hx hb dL_law_686 ?_
  refine p_nm (tt_add (X := (i : Int)) (Y := 1) hni (by decide) (by omega) (by omega)) (fun z1 hz1 => ?_)
  refine va_sld hx hb hX hbl hbA hS (i_ix hz1 (by omega) (by omega)) dL_law_687 ?_
  refine pv_i (v := xs (i + 1)) (by rw [show Int32.toNatClampNeg z1 = i + 1 by have q9 := i_cl hz1 (by omega); omega]) ?_
  refine cvS (n := 1) (As := [.int (xs (i + 1))]) (rest := []) ⟨hx, hb, hml, hown, hts⟩ (fun _ h => uw_in h) (kX9_costs_0 l D C A u hIC (xs (i + 1)) (xs (i + 1)).toInt rfl) q_m663 q_n664 q_e665 q_i1 q_c666 hvX9_costs ⟨(Nat.le_of_ble_eq_true rfl), (Nat.le_of_ble_eq_true rfl)⟩ ⟨(Nat.le_of_ble_eq_true rfl), (Nat.le_of_ble_eq_true rfl)⟩ hK hP.left 9 0 rfl (cwc0 C A u) rfl hl.1 rfl (Nat.le_of_ble_eq_true rfl) dL_law_688 (fun r2 p3 => ?_)
  have hP := hP.flip
  have hD := hD.flip
  refine lv_pop hx hb dL_law_691 rfl ?_
  refine lv_aload_n hx hb dL_law_692 rfl (lv_at hl 1 rfl) ?_
  refine lv_aload_n hx hb dL_law_693 rfl (lv_at hl 3 rfl) ?_
  refine lv_iload_n hx hb dL_law_694 rfl (lv_at hl 0 rfl) ?_
  refine lv_iconst (v := 1) hx hb dL_law_695 (by decide) ?_
  refine lv_iadd hx hb dL_law_696 ?_
  refine p_nm (tt_add (X := (i : Int)) (Y := 1) hni (by decide) (by omega) (by omega)) (fun z4 hz4 => ?_)
  refine va_sld hx hb hX hbl hbA hS (i_ix hz4 (by omega) (by omega)) dL_law_697 ?_
  refine pv_i (v := xs (i + 1)) (by rw [show Int32.toNatClampNeg z4 = i + 1 by have q9 := i_cl hz4 (by omega); omega]) ?_
  refine lcI (w := mw C B) (n := 1) (As := [.int (xs (i + 1))]) (rest := []) ⟨hx, hb, hml, hown, hts⟩ (fun _ h => uw_in h) (kX10_costs_0 l D C B v hIM (xs (i + 1)) (xs (i + 1)).toInt rfl H.size) q_m1538 q_n1539 q_e1540 q_i11 q_c1541 hvX10_costs ⟨(Nat.le_of_ble_eq_true rfl), (Nat.le_of_ble_eq_true rfl)⟩ ⟨(Nat.le_of_ble_eq_true rfl), (Nat.le_of_ble_eq_true rfl)⟩ hK hP hD hS hA Bl0 (fun _ _ _ => trivial) 10 0 rfl (mwc0 C B v) rfl hl.1 rfl (Nat.le_of_ble_eq_true rfl) dL_law_698 (fun r5 u7 H locs p6 hP hD hS => ?_)
  obtain ⟨hu7, Uu7, p6⟩ := p6
  refine lv_pop hx hb dL_law_701 rfl ?_
  refine lv_goto (tgt := 2362) hx hb dL_law_702 (by decide) ?_
  exact kx u u7 H locs ls hIC hu7 (hRL.un rfl rfl rfl rfl rfl rfl rfl rfl (Uu7.2.1 1 rfl) (Uu7.2.1 2 rfl)) hP hD hS hl
set_option maxHeartbeats 4000000 in
set_option maxRecDepth 100000 in
theorem law_case_13 {p : Program} {l : Launch} {e : Env} {s : State} {m : MethodId} {below : List Frame} {meth : Method} {c : Code} {D : va_G} {C : Nat → ClassId} {b L i : Nat} {xs : Nat → Int32} {A B adK adV : Nat → Nat} {u v : St} {H : Heap} {locs : List Loc} {ls : Array Slot} (C0 : lw_At p s m meth c b L xs) (hLL : L ≤ 3072) (hiL : i + 6 ≤ L) (hK : va_K D vwCl (tyl C) s) (hXS : XS adK adV (fun q : Nat => s.heap.size ≤ q) s) (hIC : IC u) (hIM : IM v) (hRL : RLt u v) (hP : va_P D vwCl (cw C A u ++ mw C B v) H) (hD : va_D (fun q : Nat => s.heap.size ≤ q) (cw C A u ++ mw C B v)) (hS : va_S (fun q : Nat => s.heap.size ≤ q) s.heap H locs) (hl : lv_has ls 4 [(3, .int (nI i)), (2, .ref (B 0)), (1, .ref (A 0)), (0, .ref b)])
    (kx : ∀ (u v : St) (H : Heap) (locs : List Loc) (ls : Array Slot), IC u → IM v → RLt u v → va_P D vwCl (cw C A u ++ mw C B v) H → va_D (fun q : Nat => s.heap.size ≤ q) (cw C A u ++ mw C B v) → va_S (fun q : Nat => s.heap.size ≤ q) s.heap H locs → lv_has ls 4 [(3, .int (nI i)), (2, .ref (B 0)), (1, .ref (A 0)), (0, .ref b)] → W p l e room_1 s m #[Value.ref b] below meth c H locs 180 4779 (lw_Z below #[Value.ref b] s) (F0 m 2362 ls [])) : W p l e room_1 s m #[Value.ref b] below meth c H locs 180 4779 (lw_Z below #[Value.ref b] s) (F0 m 705 ls []) := by
  obtain ⟨hx, hb, hr, hml, hown, hts, hX, hbl, hlocks, hgv⟩ := id C0
  have hown : s.vm.findClass RL = some m.cls := hown
  have hb : c.code = cL_law := hb
  have hA : ∀ q : Nat, s.heap.size ≤ q → (fun q : Nat => s.heap.size ≤ q) q := fun _ h => h
  have hbA : ¬ (fun q : Nat => s.heap.size ≤ q) b := Nat.not_le.mpr hbl
  have hni : (nI i).toInt = (i : Int) := nI_toInt (by omega)
  refine lv_aload_n hx hb dL_law_705 rfl (lv_at hl 2 rfl) ?_
  refine cvS (n := 0) (As := []) (rest := []) ⟨hx, hb, hml, hown, hts⟩ (fun _ h => uw_in h) (kX9_waits_0 l D C A u hIC ) q_m674 q_n675 q_e676 q_i1 q_c677 hvX9_waits ⟨(Nat.le_of_ble_eq_true rfl), (Nat.le_of_ble_eq_true rfl)⟩ ⟨(Nat.le_of_ble_eq_true rfl), (Nat.le_of_ble_eq_true rfl)⟩ hK hP.left 9 0 rfl (cwc0 C A u) rfl hl.1 rfl (Nat.le_of_ble_eq_true rfl) dL_law_706 (fun r1 p2 => ?_)
  have hP := hP.flip
  have hD := hD.flip
  refine lv_pop hx hb dL_law_709 rfl ?_
  refine lv_aload_n hx hb dL_law_710 rfl (lv_at hl 1 rfl) ?_
  refine lcI (w := mw C B) (n := 0) (As := []) (rest := []) ⟨hx, hb, hml, hown, hts⟩ (fun _ h => uw_in h) (kX10_waits_0 l D C B v hIM  H.size) q_m1550 q_n1551 q_e1552 q_i11 q_c1553 hvX10_waits ⟨(Nat.le_of_ble_eq_true rfl), (Nat.le_of_ble_eq_true rfl)⟩ ⟨(Nat.le_of_ble_eq_true rfl), (Nat.le_of_ble_eq_true rfl)⟩ hK hP hD hS hA Bl0 (fun _ _ _ => trivial) 10 0 rfl (mwc0 C B v) rfl hl.1 rfl (Nat.le_of_ble_eq_true rfl) dL_law_711 (fun r3 u5 H locs p4 hP hD hS => ?_)
  obtain ⟨hu5, Uu5, p4⟩ := p4
  refine lv_pop hx hb dL_law_714 rfl ?_
  refine lv_goto (tgt := 2362) hx hb dL_law_715 (by decide) ?_
  exact kx u u5 H locs ls hIC hu5 (hRL.un rfl rfl rfl rfl rfl rfl rfl rfl (Uu5.2.1 1 rfl) (Uu5.2.1 2 rfl)) hP hD hS hl
set_option maxHeartbeats 4000000 in
set_option maxRecDepth 100000 in
theorem law_case_14 {p : Program} {l : Launch} {e : Env} {s : State} {m : MethodId} {below : List Frame} {meth : Method} {c : Code} {D : va_G} {C : Nat → ClassId} {b L i : Nat} {xs : Nat → Int32} {A B adK adV : Nat → Nat} {u v : St} {H : Heap} {locs : List Loc} {ls : Array Slot} (C0 : lw_At p s m meth c b L xs) (hLL : L ≤ 3072) (hiL : i + 6 ≤ L) (hK : va_K D vwCl (tyl C) s) (hXS : XS adK adV (fun q : Nat => s.heap.size ≤ q) s) (hIC : IC u) (hIM : IM v) (hRL : RLt u v) (hP : va_P D vwCl (cw C A u ++ mw C B v) H) (hD : va_D (fun q : Nat => s.heap.size ≤ q) (cw C A u ++ mw C B v)) (hS : va_S (fun q : Nat => s.heap.size ≤ q) s.heap H locs) (hl : lv_has ls 4 [(3, .int (nI i)), (2, .ref (B 0)), (1, .ref (A 0)), (0, .ref b)])
    (kx : ∀ (u v : St) (H : Heap) (locs : List Loc) (ls : Array Slot), IC u → IM v → RLt u v → va_P D vwCl (cw C A u ++ mw C B v) H → va_D (fun q : Nat => s.heap.size ≤ q) (cw C A u ++ mw C B v) → va_S (fun q : Nat => s.heap.size ≤ q) s.heap H locs → lv_has ls 4 [(3, .int (nI i)), (2, .ref (B 0)), (1, .ref (A 0)), (0, .ref b)] → W p l e room_1 s m #[Value.ref b] below meth c H locs 180 4779 (lw_Z below #[Value.ref b] s) (F0 m 2362 ls [])) : W p l e room_1 s m #[Value.ref b] below meth c H locs 180 4779 (lw_Z below #[Value.ref b] s) (F0 m 718 ls []) := by
  obtain ⟨hx, hb, hr, hml, hown, hts, hX, hbl, hlocks, hgv⟩ := id C0
  have hown : s.vm.findClass RL = some m.cls := hown
  have hb : c.code = cL_law := hb
  have hA : ∀ q : Nat, s.heap.size ≤ q → (fun q : Nat => s.heap.size ≤ q) q := fun _ h => h
  have hbA : ¬ (fun q : Nat => s.heap.size ≤ q) b := Nat.not_le.mpr hbl
  have hni : (nI i).toInt = (i : Int) := nI_toInt (by omega)
  refine lv_aload_n hx hb dL_law_718 rfl (lv_at hl 2 rfl) ?_
  refine cvS (n := 0) (As := []) (rest := []) ⟨hx, hb, hml, hown, hts⟩ (fun _ h => uw_in h) (kX9_worst_0 l D C A u hIC ) q_m686 q_n687 q_e688 q_i1 q_c689 hvX9_worst ⟨(Nat.le_of_ble_eq_true rfl), (Nat.le_of_ble_eq_true rfl)⟩ ⟨(Nat.le_of_ble_eq_true rfl), (Nat.le_of_ble_eq_true rfl)⟩ hK hP.left 9 0 rfl (cwc0 C A u) rfl hl.1 rfl (Nat.le_of_ble_eq_true rfl) dL_law_719 (fun r1 p2 => ?_)
  have hP := hP.flip
  have hD := hD.flip
  refine lv_pop hx hb dL_law_722 rfl ?_
  refine lv_aload_n hx hb dL_law_723 rfl (lv_at hl 1 rfl) ?_
  refine lcI (w := mw C B) (n := 0) (As := []) (rest := []) ⟨hx, hb, hml, hown, hts⟩ (fun _ h => uw_in h) (kX10_worst_0 l D C B v hIM  H.size) q_m1562 q_n1563 q_e1564 q_i11 q_c1565 hvX10_worst ⟨(Nat.le_of_ble_eq_true rfl), (Nat.le_of_ble_eq_true rfl)⟩ ⟨(Nat.le_of_ble_eq_true rfl), (Nat.le_of_ble_eq_true rfl)⟩ hK hP hD hS hA Bl0 (fun _ _ _ => trivial) 10 0 rfl (mwc0 C B v) rfl hl.1 rfl (Nat.le_of_ble_eq_true rfl) dL_law_724 (fun r3 u5 H locs p4 hP hD hS => ?_)
  obtain ⟨hu5, Uu5, p4⟩ := p4
  refine lv_pop hx hb dL_law_727 rfl ?_
  refine lv_goto (tgt := 2362) hx hb dL_law_728 (by decide) ?_
  exact kx u u5 H locs ls hIC hu5 (hRL.un rfl rfl rfl rfl rfl rfl rfl rfl (Uu5.2.1 1 rfl) (Uu5.2.1 2 rfl)) hP hD hS hl
set_option maxHeartbeats 4000000 in
set_option maxRecDepth 100000 in
theorem law_case_15 {p : Program} {l : Launch} {e : Env} {s : State} {m : MethodId} {below : List Frame} {meth : Method} {c : Code} {D : va_G} {C : Nat → ClassId} {b L i : Nat} {xs : Nat → Int32} {A B adK adV : Nat → Nat} {u v : St} {H : Heap} {locs : List Loc} {ls : Array Slot} (C0 : lw_At p s m meth c b L xs) (hLL : L ≤ 3072) (hiL : i + 6 ≤ L) (hK : va_K D vwCl (tyl C) s) (hXS : XS adK adV (fun q : Nat => s.heap.size ≤ q) s) (hIC : IC u) (hIM : IM v) (hRL : RLt u v) (hP : va_P D vwCl (cw C A u ++ mw C B v) H) (hD : va_D (fun q : Nat => s.heap.size ≤ q) (cw C A u ++ mw C B v)) (hS : va_S (fun q : Nat => s.heap.size ≤ q) s.heap H locs) (hl : lv_has ls 4 [(3, .int (nI i)), (2, .ref (B 0)), (1, .ref (A 0)), (0, .ref b)])
    (kx : ∀ (u v : St) (H : Heap) (locs : List Loc) (ls : Array Slot), IC u → IM v → RLt u v → va_P D vwCl (cw C A u ++ mw C B v) H → va_D (fun q : Nat => s.heap.size ≤ q) (cw C A u ++ mw C B v) → va_S (fun q : Nat => s.heap.size ≤ q) s.heap H locs → lv_has ls 4 [(3, .int (nI i)), (2, .ref (B 0)), (1, .ref (A 0)), (0, .ref b)] → W p l e room_1 s m #[Value.ref b] below meth c H locs 180 4779 (lw_Z below #[Value.ref b] s) (F0 m 2362 ls [])) : W p l e room_1 s m #[Value.ref b] below meth c H locs 180 4779 (lw_Z below #[Value.ref b] s) (F0 m 731 ls []) := by
  obtain ⟨hx, hb, hr, hml, hown, hts, hX, hbl, hlocks, hgv⟩ := id C0
  have hown : s.vm.findClass RL = some m.cls := hown
  have hb : c.code = cL_law := hb
  have hA : ∀ q : Nat, s.heap.size ≤ q → (fun q : Nat => s.heap.size ≤ q) q := fun _ h => h
  have hbA : ¬ (fun q : Nat => s.heap.size ≤ q) b := Nat.not_le.mpr hbl
  have hni : (nI i).toInt = (i : Int) := nI_toInt (by omega)
  refine lv_aload_n hx hb dL_law_731 rfl (lv_at hl 2 rfl) ?_
  refine lv_aload_n hx hb dL_law_732 rfl (lv_at hl 3 rfl) ?_
  refine lv_iload_n hx hb dL_law_733 rfl (lv_at hl 0 rfl) ?_
  refine lv_iconst (v := 1) hx hb dL_law_734 (by decide) ?_
  refine lv_iadd hx hb dL_law_735 ?_
  refine p_nm (tt_add (X := (i : Int)) (Y := 1) hni (by decide) (by omega) (by omega)) (fun z1 hz1 => ?_)
  refine va_sld hx hb hX hbl hbA hS (i_ix hz1 (by omega) (by omega)) dL_law_736 ?_
  refine pv_i (v := xs (i + 1)) (by rw [show Int32.toNatClampNeg z1 = i + 1 by have q9 := i_cl hz1 (by omega); omega]) ?_
  refine cvS (n := 1) (As := [.int (xs (i + 1))]) (rest := []) ⟨hx, hb, hml, hown, hts⟩ (fun _ h => uw_in h) (kX9_reign_0 l D C A u hIC (xs (i + 1)) (xs (i + 1)).toInt rfl) q_m690 q_n691 q_e692 q_i1 q_c693 hvX9_reign ⟨(Nat.le_of_ble_eq_true rfl), (Nat.le_of_ble_eq_true rfl)⟩ ⟨(Nat.le_of_ble_eq_true rfl), (Nat.le_of_ble_eq_true rfl)⟩ hK hP.left 9 0 rfl (cwc0 C A u) rfl hl.1 rfl (Nat.le_of_ble_eq_true rfl) dL_law_737 (fun r2 p3 => ?_)
  have hP := hP.flip
  have hD := hD.flip
  refine lv_pop hx hb dL_law_740 rfl ?_
  refine lv_aload_n hx hb dL_law_741 rfl (lv_at hl 1 rfl) ?_
  refine lv_aload_n hx hb dL_law_742 rfl (lv_at hl 3 rfl) ?_
  refine lv_iload_n hx hb dL_law_743 rfl (lv_at hl 0 rfl) ?_
  refine lv_iconst (v := 1) hx hb dL_law_744 (by decide) ?_
  refine lv_iadd hx hb dL_law_745 ?_
  refine p_nm (tt_add (X := (i : Int)) (Y := 1) hni (by decide) (by omega) (by omega)) (fun z4 hz4 => ?_)
  refine va_sld hx hb hX hbl hbA hS (i_ix hz4 (by omega) (by omega)) dL_law_746 ?_
  refine pv_i (v := xs (i + 1)) (by rw [show Int32.toNatClampNeg z4 = i + 1 by have q9 := i_cl hz4 (by omega); omega]) ?_
  refine lcI (w := mw C B) (n := 1) (As := [.int (xs (i + 1))]) (rest := []) ⟨hx, hb, hml, hown, hts⟩ (fun _ h => uw_in h) (kX10_reign_0 l D C B v hIM (xs (i + 1)) (xs (i + 1)).toInt rfl H.size) q_m1566 q_n1567 q_e1568 q_i11 q_c1569 hvX10_reign ⟨(Nat.le_of_ble_eq_true rfl), (Nat.le_of_ble_eq_true rfl)⟩ ⟨(Nat.le_of_ble_eq_true rfl), (Nat.le_of_ble_eq_true rfl)⟩ hK hP hD hS hA Bl0 (fun _ _ _ => trivial) 10 0 rfl (mwc0 C B v) rfl hl.1 rfl (Nat.le_of_ble_eq_true rfl) dL_law_747 (fun r5 u7 H locs p6 hP hD hS => ?_)
  obtain ⟨hu7, Uu7, p6⟩ := p6
  refine lv_pop hx hb dL_law_750 rfl ?_
  refine lv_goto (tgt := 2362) hx hb dL_law_751 (by decide) ?_
  exact kx u u7 H locs ls hIC hu7 (hRL.un rfl rfl rfl rfl rfl rfl rfl rfl (Uu7.2.1 1 rfl) (Uu7.2.1 2 rfl)) hP hD hS hl
set_option maxHeartbeats 4000000 in
set_option maxRecDepth 100000 in
theorem law_case_16 {p : Program} {l : Launch} {e : Env} {s : State} {m : MethodId} {below : List Frame} {meth : Method} {c : Code} {D : va_G} {C : Nat → ClassId} {b L i : Nat} {xs : Nat → Int32} {A B adK adV : Nat → Nat} {u v : St} {H : Heap} {locs : List Loc} {ls : Array Slot} (C0 : lw_At p s m meth c b L xs) (hLL : L ≤ 3072) (hiL : i + 6 ≤ L) (hK : va_K D vwCl (tyl C) s) (hXS : XS adK adV (fun q : Nat => s.heap.size ≤ q) s) (hIC : IC u) (hIM : IM v) (hRL : RLt u v) (hP : va_P D vwCl (cw C A u ++ mw C B v) H) (hD : va_D (fun q : Nat => s.heap.size ≤ q) (cw C A u ++ mw C B v)) (hS : va_S (fun q : Nat => s.heap.size ≤ q) s.heap H locs) (hl : lv_has ls 4 [(3, .int (nI i)), (2, .ref (B 0)), (1, .ref (A 0)), (0, .ref b)])
    (kx : ∀ (u v : St) (H : Heap) (locs : List Loc) (ls : Array Slot), IC u → IM v → RLt u v → va_P D vwCl (cw C A u ++ mw C B v) H → va_D (fun q : Nat => s.heap.size ≤ q) (cw C A u ++ mw C B v) → va_S (fun q : Nat => s.heap.size ≤ q) s.heap H locs → lv_has ls 4 [(3, .int (nI i)), (2, .ref (B 0)), (1, .ref (A 0)), (0, .ref b)] → W p l e room_1 s m #[Value.ref b] below meth c H locs 180 4779 (lw_Z below #[Value.ref b] s) (F0 m 2362 ls [])) : W p l e room_1 s m #[Value.ref b] below meth c H locs 180 4779 (lw_Z below #[Value.ref b] s) (F0 m 754 ls []) := by
  obtain ⟨hx, hb, hr, hml, hown, hts, hX, hbl, hlocks, hgv⟩ := id C0
  have hown : s.vm.findClass RL = some m.cls := hown
  have hb : c.code = cL_law := hb
  have hA : ∀ q : Nat, s.heap.size ≤ q → (fun q : Nat => s.heap.size ≤ q) q := fun _ h => h
  have hbA : ¬ (fun q : Nat => s.heap.size ≤ q) b := Nat.not_le.mpr hbl
  have hni : (nI i).toInt = (i : Int) := nI_toInt (by omega)
  refine lv_aload_n hx hb dL_law_754 rfl (lv_at hl 2 rfl) ?_
  refine lv_aload_n hx hb dL_law_755 rfl (lv_at hl 3 rfl) ?_
  refine lv_iload_n hx hb dL_law_756 rfl (lv_at hl 0 rfl) ?_
  refine lv_iconst (v := 1) hx hb dL_law_757 (by decide) ?_
  refine lv_iadd hx hb dL_law_758 ?_
  refine p_nm (tt_add (X := (i : Int)) (Y := 1) hni (by decide) (by omega) (by omega)) (fun z1 hz1 => ?_)
  refine va_sld hx hb hX hbl hbA hS (i_ix hz1 (by omega) (by omega)) dL_law_759 ?_
  refine pv_i (v := xs (i + 1)) (by rw [show Int32.toNatClampNeg z1 = i + 1 by have q9 := i_cl hz1 (by omega); omega]) ?_
  refine cvS (n := 1) (As := [.int (xs (i + 1))]) (rest := []) ⟨hx, hb, hml, hown, hts⟩ (fun _ h => uw_in h) (kX9_rents_0 l D C A u hIC (xs (i + 1)) (xs (i + 1)).toInt rfl) q_m698 q_n699 q_e700 q_i1 q_c701 hvX9_rents ⟨(Nat.le_of_ble_eq_true rfl), (Nat.le_of_ble_eq_true rfl)⟩ ⟨(Nat.le_of_ble_eq_true rfl), (Nat.le_of_ble_eq_true rfl)⟩ hK hP.left 9 0 rfl (cwc0 C A u) rfl hl.1 rfl (Nat.le_of_ble_eq_true rfl) dL_law_760 (fun r2 p3 => ?_)
  have hP := hP.flip
  have hD := hD.flip
  refine lv_pop hx hb dL_law_763 rfl ?_
  refine lv_aload_n hx hb dL_law_764 rfl (lv_at hl 1 rfl) ?_
  refine lv_aload_n hx hb dL_law_765 rfl (lv_at hl 3 rfl) ?_
  refine lv_iload_n hx hb dL_law_766 rfl (lv_at hl 0 rfl) ?_
  refine lv_iconst (v := 1) hx hb dL_law_767 (by decide) ?_
  refine lv_iadd hx hb dL_law_768 ?_
  refine p_nm (tt_add (X := (i : Int)) (Y := 1) hni (by decide) (by omega) (by omega)) (fun z4 hz4 => ?_)
  refine va_sld hx hb hX hbl hbA hS (i_ix hz4 (by omega) (by omega)) dL_law_769 ?_
  refine pv_i (v := xs (i + 1)) (by rw [show Int32.toNatClampNeg z4 = i + 1 by have q9 := i_cl hz4 (by omega); omega]) ?_
  refine lcI (w := mw C B) (n := 1) (As := [.int (xs (i + 1))]) (rest := []) ⟨hx, hb, hml, hown, hts⟩ (fun _ h => uw_in h) (kX10_rents_0 l D C B v hIM (xs (i + 1)) (xs (i + 1)).toInt rfl H.size) q_m1574 q_n1575 q_e1576 q_i11 q_c1577 hvX10_rents ⟨(Nat.le_of_ble_eq_true rfl), (Nat.le_of_ble_eq_true rfl)⟩ ⟨(Nat.le_of_ble_eq_true rfl), (Nat.le_of_ble_eq_true rfl)⟩ hK hP hD hS hA Bl0 (fun _ _ _ => trivial) 10 0 rfl (mwc0 C B v) rfl hl.1 rfl (Nat.le_of_ble_eq_true rfl) dL_law_770 (fun r5 u7 H locs p6 hP hD hS => ?_)
  obtain ⟨hu7, Uu7, p6⟩ := p6
  refine lv_pop hx hb dL_law_773 rfl ?_
  refine lv_goto (tgt := 2362) hx hb dL_law_774 (by decide) ?_
  exact kx u u7 H locs ls hIC hu7 (hRL.un rfl rfl rfl rfl rfl rfl rfl rfl (Uu7.2.1 1 rfl) (Uu7.2.1 2 rfl)) hP hD hS hl
set_option maxHeartbeats 4000000 in
set_option maxRecDepth 100000 in
theorem law_case_17 {p : Program} {l : Launch} {e : Env} {s : State} {m : MethodId} {below : List Frame} {meth : Method} {c : Code} {D : va_G} {C : Nat → ClassId} {b L i : Nat} {xs : Nat → Int32} {A B adK adV : Nat → Nat} {u v : St} {H : Heap} {locs : List Loc} {ls : Array Slot} (C0 : lw_At p s m meth c b L xs) (hLL : L ≤ 3072) (hiL : i + 6 ≤ L) (hK : va_K D vwCl (tyl C) s) (hXS : XS adK adV (fun q : Nat => s.heap.size ≤ q) s) (hIC : IC u) (hIM : IM v) (hRL : RLt u v) (hP : va_P D vwCl (cw C A u ++ mw C B v) H) (hD : va_D (fun q : Nat => s.heap.size ≤ q) (cw C A u ++ mw C B v)) (hS : va_S (fun q : Nat => s.heap.size ≤ q) s.heap H locs) (hl : lv_has ls 4 [(3, .int (nI i)), (2, .ref (B 0)), (1, .ref (A 0)), (0, .ref b)])
    (kx : ∀ (u v : St) (H : Heap) (locs : List Loc) (ls : Array Slot), IC u → IM v → RLt u v → va_P D vwCl (cw C A u ++ mw C B v) H → va_D (fun q : Nat => s.heap.size ≤ q) (cw C A u ++ mw C B v) → va_S (fun q : Nat => s.heap.size ≤ q) s.heap H locs → lv_has ls 4 [(3, .int (nI i)), (2, .ref (B 0)), (1, .ref (A 0)), (0, .ref b)] → W p l e room_1 s m #[Value.ref b] below meth c H locs 180 4779 (lw_Z below #[Value.ref b] s) (F0 m 2362 ls [])) : W p l e room_1 s m #[Value.ref b] below meth c H locs 180 4779 (lw_Z below #[Value.ref b] s) (F0 m 777 ls []) := by
  obtain ⟨hx, hb, hr, hml, hown, hts, hX, hbl, hlocks, hgv⟩ := id C0
  have hown : s.vm.findClass RL = some m.cls := hown
  have hb : c.code = cL_law := hb
  have hA : ∀ q : Nat, s.heap.size ≤ q → (fun q : Nat => s.heap.size ≤ q) q := fun _ h => h
  have hbA : ¬ (fun q : Nat => s.heap.size ≤ q) b := Nat.not_le.mpr hbl
  have hni : (nI i).toInt = (i : Int) := nI_toInt (by omega)
  refine lv_aload_n hx hb dL_law_777 rfl (lv_at hl 2 rfl) ?_
  refine lv_aload_n hx hb dL_law_778 rfl (lv_at hl 3 rfl) ?_
  refine lv_iload_n hx hb dL_law_779 rfl (lv_at hl 0 rfl) ?_
  refine lv_iconst (v := 1) hx hb dL_law_780 (by decide) ?_
  refine lv_iadd hx hb dL_law_781 ?_
  refine p_nm (tt_add (X := (i : Int)) (Y := 1) hni (by decide) (by omega) (by omega)) (fun z1 hz1 => ?_)
  refine va_sld hx hb hX hbl hbA hS (i_ix hz1 (by omega) (by omega)) dL_law_782 ?_
  refine pv_i (v := xs (i + 1)) (by rw [show Int32.toNatClampNeg z1 = i + 1 by have q9 := i_cl hz1 (by omega); omega]) ?_
  refine cvS (n := 1) (As := [.int (xs (i + 1))]) (rest := []) ⟨hx, hb, hml, hown, hts⟩ (fun _ h => uw_in h) (kX9_without_0 l D C A u hIC (xs (i + 1)) (xs (i + 1)).toInt rfl) q_m712 q_n713 q_e714 q_i1 q_c715 hvX9_without ⟨(Nat.le_of_ble_eq_true rfl), (Nat.le_of_ble_eq_true rfl)⟩ ⟨(Nat.le_of_ble_eq_true rfl), (Nat.le_of_ble_eq_true rfl)⟩ hK hP.left 9 0 rfl (cwc0 C A u) rfl hl.1 rfl (Nat.le_of_ble_eq_true rfl) dL_law_783 (fun r2 p3 => ?_)
  have hP := hP.flip
  have hD := hD.flip
  refine lv_pop hx hb dL_law_786 rfl ?_
  refine lv_aload_n hx hb dL_law_787 rfl (lv_at hl 1 rfl) ?_
  refine lv_aload_n hx hb dL_law_788 rfl (lv_at hl 3 rfl) ?_
  refine lv_iload_n hx hb dL_law_789 rfl (lv_at hl 0 rfl) ?_
  refine lv_iconst (v := 1) hx hb dL_law_790 (by decide) ?_
  refine lv_iadd hx hb dL_law_791 ?_
  refine p_nm (tt_add (X := (i : Int)) (Y := 1) hni (by decide) (by omega) (by omega)) (fun z4 hz4 => ?_)
  refine va_sld hx hb hX hbl hbA hS (i_ix hz4 (by omega) (by omega)) dL_law_792 ?_
  refine pv_i (v := xs (i + 1)) (by rw [show Int32.toNatClampNeg z4 = i + 1 by have q9 := i_cl hz4 (by omega); omega]) ?_
  refine lcI (w := mw C B) (n := 1) (As := [.int (xs (i + 1))]) (rest := []) ⟨hx, hb, hml, hown, hts⟩ (fun _ h => uw_in h) (kX10_without_0 l D C B v hIM (xs (i + 1)) (xs (i + 1)).toInt rfl H.size) q_m1585 q_n1586 q_e1587 q_i11 q_c1588 hvX10_without ⟨(Nat.le_of_ble_eq_true rfl), (Nat.le_of_ble_eq_true rfl)⟩ ⟨(Nat.le_of_ble_eq_true rfl), (Nat.le_of_ble_eq_true rfl)⟩ hK hP hD hS hA Bl0 (fun _ _ _ => trivial) 10 0 rfl (mwc0 C B v) rfl hl.1 rfl (Nat.le_of_ble_eq_true rfl) dL_law_793 (fun r5 u7 H locs p6 hP hD hS => ?_)
  obtain ⟨hu7, Uu7, p6⟩ := p6
  refine lv_pop hx hb dL_law_796 rfl ?_
  refine lv_goto (tgt := 2362) hx hb dL_law_797 (by decide) ?_
  exact kx u u7 H locs ls hIC hu7 (hRL.un rfl rfl rfl rfl rfl rfl rfl rfl (Uu7.2.1 1 rfl) (Uu7.2.1 2 rfl)) hP hD hS hl
set_option maxHeartbeats 4000000 in
set_option maxRecDepth 100000 in
theorem law_case_18 {p : Program} {l : Launch} {e : Env} {s : State} {m : MethodId} {below : List Frame} {meth : Method} {c : Code} {D : va_G} {C : Nat → ClassId} {b L i : Nat} {xs : Nat → Int32} {A B adK adV : Nat → Nat} {u v : St} {H : Heap} {locs : List Loc} {ls : Array Slot} (C0 : lw_At p s m meth c b L xs) (hLL : L ≤ 3072) (hiL : i + 6 ≤ L) (hK : va_K D vwCl (tyl C) s) (hXS : XS adK adV (fun q : Nat => s.heap.size ≤ q) s) (hIC : IC u) (hIM : IM v) (hRL : RLt u v) (hP : va_P D vwCl (cw C A u ++ mw C B v) H) (hD : va_D (fun q : Nat => s.heap.size ≤ q) (cw C A u ++ mw C B v)) (hS : va_S (fun q : Nat => s.heap.size ≤ q) s.heap H locs) (hl : lv_has ls 4 [(3, .int (nI i)), (2, .ref (B 0)), (1, .ref (A 0)), (0, .ref b)])
    (kx : ∀ (u v : St) (H : Heap) (locs : List Loc) (ls : Array Slot), IC u → IM v → RLt u v → va_P D vwCl (cw C A u ++ mw C B v) H → va_D (fun q : Nat => s.heap.size ≤ q) (cw C A u ++ mw C B v) → va_S (fun q : Nat => s.heap.size ≤ q) s.heap H locs → lv_has ls 4 [(3, .int (nI i)), (2, .ref (B 0)), (1, .ref (A 0)), (0, .ref b)] → W p l e room_1 s m #[Value.ref b] below meth c H locs 180 4779 (lw_Z below #[Value.ref b] s) (F0 m 2362 ls [])) : W p l e room_1 s m #[Value.ref b] below meth c H locs 180 4779 (lw_Z below #[Value.ref b] s) (F0 m 800 ls []) := by
  obtain ⟨hx, hb, hr, hml, hown, hts, hX, hbl, hlocks, hgv⟩ := id C0
  have hown : s.vm.findClass RL = some m.cls := hown
  have hb : c.code = cL_law := hb
  have hA : ∀ q : Nat, s.heap.size ≤ q → (fun q : Nat => s.heap.size ≤ q) q := fun _ h => h
  have hbA : ¬ (fun q : Nat => s.heap.size ≤ q) b := Nat.not_le.mpr hbl
  have hni : (nI i).toInt = (i : Int) := nI_toInt (by omega)
  refine lv_aload_n hx hb dL_law_800 rfl (lv_at hl 2 rfl) ?_
  refine cvS (n := 0) (As := []) (rest := []) ⟨hx, hb, hml, hown, hts⟩ (fun _ h => uw_in h) (kX9_best_0 l D C A u hIC ) q_m716 q_n717 q_e718 q_i1 q_c719 hvX9_best ⟨(Nat.le_of_ble_eq_true rfl), (Nat.le_of_ble_eq_true rfl)⟩ ⟨(Nat.le_of_ble_eq_true rfl), (Nat.le_of_ble_eq_true rfl)⟩ hK hP.left 9 0 rfl (cwc0 C A u) rfl hl.1 rfl (Nat.le_of_ble_eq_true rfl) dL_law_801 (fun r1 p2 => ?_)
  have hP := hP.flip
  have hD := hD.flip
  refine lv_pop hx hb dL_law_804 rfl ?_
  refine lv_aload_n hx hb dL_law_805 rfl (lv_at hl 1 rfl) ?_
  refine lcI (w := mw C B) (n := 0) (As := []) (rest := []) ⟨hx, hb, hml, hown, hts⟩ (fun _ h => uw_in h) (kX10_best_0 l D C B v hIM  H.size) q_m1593 q_n1594 q_e1595 q_i11 q_c1596 hvX10_best ⟨(Nat.le_of_ble_eq_true rfl), (Nat.le_of_ble_eq_true rfl)⟩ ⟨(Nat.le_of_ble_eq_true rfl), (Nat.le_of_ble_eq_true rfl)⟩ hK hP hD hS hA Bl0 (fun _ _ _ => trivial) 10 0 rfl (mwc0 C B v) rfl hl.1 rfl (Nat.le_of_ble_eq_true rfl) dL_law_806 (fun r3 u5 H locs p4 hP hD hS => ?_)
  obtain ⟨hu5, Uu5, p4⟩ := p4
  refine lv_pop hx hb dL_law_809 rfl ?_
  refine lv_goto (tgt := 2362) hx hb dL_law_810 (by decide) ?_
  exact kx u u5 H locs ls hIC hu5 (hRL.un rfl rfl rfl rfl rfl rfl rfl rfl (Uu5.2.1 1 rfl) (Uu5.2.1 2 rfl)) hP hD hS hl
set_option maxHeartbeats 4000000 in
set_option maxRecDepth 100000 in
theorem law_case_19 {p : Program} {l : Launch} {e : Env} {s : State} {m : MethodId} {below : List Frame} {meth : Method} {c : Code} {D : va_G} {C : Nat → ClassId} {b L i : Nat} {xs : Nat → Int32} {A B adK adV : Nat → Nat} {u v : St} {H : Heap} {locs : List Loc} {ls : Array Slot} (C0 : lw_At p s m meth c b L xs) (hLL : L ≤ 3072) (hiL : i + 6 ≤ L) (hK : va_K D vwCl (tyl C) s) (hXS : XS adK adV (fun q : Nat => s.heap.size ≤ q) s) (hIC : IC u) (hIM : IM v) (hRL : RLt u v) (hP : va_P D vwCl (cw C A u ++ mw C B v) H) (hD : va_D (fun q : Nat => s.heap.size ≤ q) (cw C A u ++ mw C B v)) (hS : va_S (fun q : Nat => s.heap.size ≤ q) s.heap H locs) (hl : lv_has ls 4 [(3, .int (nI i)), (2, .ref (B 0)), (1, .ref (A 0)), (0, .ref b)])
    (kx : ∀ (u v : St) (H : Heap) (locs : List Loc) (ls : Array Slot), IC u → IM v → RLt u v → va_P D vwCl (cw C A u ++ mw C B v) H → va_D (fun q : Nat => s.heap.size ≤ q) (cw C A u ++ mw C B v) → va_S (fun q : Nat => s.heap.size ≤ q) s.heap H locs → lv_has ls 4 [(3, .int (nI i)), (2, .ref (B 0)), (1, .ref (A 0)), (0, .ref b)] → W p l e room_1 s m #[Value.ref b] below meth c H locs 180 4779 (lw_Z below #[Value.ref b] s) (F0 m 2362 ls [])) : W p l e room_1 s m #[Value.ref b] below meth c H locs 180 4779 (lw_Z below #[Value.ref b] s) (F0 m 813 ls []) := by
  obtain ⟨hx, hb, hr, hml, hown, hts, hX, hbl, hlocks, hgv⟩ := id C0
  have hown : s.vm.findClass RL = some m.cls := hown
  have hb : c.code = cL_law := hb
  have hA : ∀ q : Nat, s.heap.size ≤ q → (fun q : Nat => s.heap.size ≤ q) q := fun _ h => h
  have hbA : ¬ (fun q : Nat => s.heap.size ≤ q) b := Nat.not_le.mpr hbl
  have hni : (nI i).toInt = (i : Int) := nI_toInt (by omega)
  refine lv_aload_n hx hb dL_law_813 rfl (lv_at hl 2 rfl) ?_
  refine cvS (n := 0) (As := []) (rest := []) ⟨hx, hb, hml, hown, hts⟩ (fun _ h => uw_in h) (kX9_deals_0 l D C A u hIC ) q_m720 q_n721 q_e722 q_i1 q_c723 hvX9_deals ⟨(Nat.le_of_ble_eq_true rfl), (Nat.le_of_ble_eq_true rfl)⟩ ⟨(Nat.le_of_ble_eq_true rfl), (Nat.le_of_ble_eq_true rfl)⟩ hK hP.left 9 0 rfl (cwc0 C A u) rfl hl.1 rfl (Nat.le_of_ble_eq_true rfl) dL_law_814 (fun r1 p2 => ?_)
  have hP := hP.flip
  have hD := hD.flip
  refine lv_pop hx hb dL_law_817 rfl ?_
  refine lv_aload_n hx hb dL_law_818 rfl (lv_at hl 1 rfl) ?_
  refine lcI (w := mw C B) (n := 0) (As := []) (rest := []) ⟨hx, hb, hml, hown, hts⟩ (fun _ h => uw_in h) (kX10_deals_0 l D C B v hIM  H.size) q_m1597 q_n1598 q_e1599 q_i11 q_c1600 hvX10_deals ⟨(Nat.le_of_ble_eq_true rfl), (Nat.le_of_ble_eq_true rfl)⟩ ⟨(Nat.le_of_ble_eq_true rfl), (Nat.le_of_ble_eq_true rfl)⟩ hK hP hD hS hA Bl0 (fun _ _ _ => trivial) 10 0 rfl (mwc0 C B v) rfl hl.1 rfl (Nat.le_of_ble_eq_true rfl) dL_law_819 (fun r3 u5 H locs p4 hP hD hS => ?_)
  obtain ⟨hu5, Uu5, p4⟩ := p4
  refine lv_pop hx hb dL_law_822 rfl ?_
  refine lv_goto (tgt := 2362) hx hb dL_law_823 (by decide) ?_
  exact kx u u5 H locs ls hIC hu5 (hRL.un rfl rfl rfl rfl rfl rfl rfl rfl (Uu5.2.1 1 rfl) (Uu5.2.1 2 rfl)) hP hD hS hl
set_option maxHeartbeats 4000000 in
set_option maxRecDepth 100000 in
theorem law_case_20 {p : Program} {l : Launch} {e : Env} {s : State} {m : MethodId} {below : List Frame} {meth : Method} {c : Code} {D : va_G} {C : Nat → ClassId} {b L i : Nat} {xs : Nat → Int32} {A B adK adV : Nat → Nat} {u v : St} {H : Heap} {locs : List Loc} {ls : Array Slot} (C0 : lw_At p s m meth c b L xs) (hLL : L ≤ 3072) (hiL : i + 6 ≤ L) (hK : va_K D vwCl (tyl C) s) (hXS : XS adK adV (fun q : Nat => s.heap.size ≤ q) s) (hIC : IC u) (hIM : IM v) (hRL : RLt u v) (hP : va_P D vwCl (cw C A u ++ mw C B v) H) (hD : va_D (fun q : Nat => s.heap.size ≤ q) (cw C A u ++ mw C B v)) (hS : va_S (fun q : Nat => s.heap.size ≤ q) s.heap H locs) (hl : lv_has ls 4 [(3, .int (nI i)), (2, .ref (B 0)), (1, .ref (A 0)), (0, .ref b)])
    (kx : ∀ (u v : St) (H : Heap) (locs : List Loc) (ls : Array Slot), IC u → IM v → RLt u v → va_P D vwCl (cw C A u ++ mw C B v) H → va_D (fun q : Nat => s.heap.size ≤ q) (cw C A u ++ mw C B v) → va_S (fun q : Nat => s.heap.size ≤ q) s.heap H locs → lv_has ls 4 [(3, .int (nI i)), (2, .ref (B 0)), (1, .ref (A 0)), (0, .ref b)] → W p l e room_1 s m #[Value.ref b] below meth c H locs 180 4779 (lw_Z below #[Value.ref b] s) (F0 m 2362 ls [])) : W p l e room_1 s m #[Value.ref b] below meth c H locs 180 4779 (lw_Z below #[Value.ref b] s) (F0 m 826 ls []) := by
  obtain ⟨hx, hb, hr, hml, hown, hts, hX, hbl, hlocks, hgv⟩ := id C0
  have hown : s.vm.findClass RL = some m.cls := hown
  have hb : c.code = cL_law := hb
  have hA : ∀ q : Nat, s.heap.size ≤ q → (fun q : Nat => s.heap.size ≤ q) q := fun _ h => h
  have hbA : ¬ (fun q : Nat => s.heap.size ≤ q) b := Nat.not_le.mpr hbl
  have hni : (nI i).toInt = (i : Int) := nI_toInt (by omega)
  refine lv_aload_n hx hb dL_law_826 rfl (lv_at hl 2 rfl) ?_
  refine lv_aload_n hx hb dL_law_827 rfl (lv_at hl 3 rfl) ?_
  refine lv_iload_n hx hb dL_law_828 rfl (lv_at hl 0 rfl) ?_
  refine lv_iconst (v := 1) hx hb dL_law_829 (by decide) ?_
  refine lv_iadd hx hb dL_law_830 ?_
  refine p_nm (tt_add (X := (i : Int)) (Y := 1) hni (by decide) (by omega) (by omega)) (fun z1 hz1 => ?_)
  refine va_sld hx hb hX hbl hbA hS (i_ix hz1 (by omega) (by omega)) dL_law_831 ?_
  refine pv_i (v := xs (i + 1)) (by rw [show Int32.toNatClampNeg z1 = i + 1 by have q9 := i_cl hz1 (by omega); omega]) ?_
  refine cvS (n := 1) (As := [.int (xs (i + 1))]) (rest := []) ⟨hx, hb, hml, hown, hts⟩ (fun _ h => uw_in h) (kX9_price_0 l D C A u hIC (xs (i + 1)) (xs (i + 1)).toInt rfl) q_m728 q_n729 q_e730 q_i1 q_c731 hvX9_price ⟨(Nat.le_of_ble_eq_true rfl), (Nat.le_of_ble_eq_true rfl)⟩ ⟨(Nat.le_of_ble_eq_true rfl), (Nat.le_of_ble_eq_true rfl)⟩ hK hP.left 9 0 rfl (cwc0 C A u) rfl hl.1 rfl (Nat.le_of_ble_eq_true rfl) dL_law_832 (fun r2 p3 => ?_)
  have hP := hP.flip
  have hD := hD.flip
  refine lv_pop hx hb dL_law_835 rfl ?_
  refine lv_aload_n hx hb dL_law_836 rfl (lv_at hl 1 rfl) ?_
  refine lv_aload_n hx hb dL_law_837 rfl (lv_at hl 3 rfl) ?_
  refine lv_iload_n hx hb dL_law_838 rfl (lv_at hl 0 rfl) ?_
  refine lv_iconst (v := 1) hx hb dL_law_839 (by decide) ?_
  refine lv_iadd hx hb dL_law_840 ?_
  refine p_nm (tt_add (X := (i : Int)) (Y := 1) hni (by decide) (by omega) (by omega)) (fun z4 hz4 => ?_)
  refine va_sld hx hb hX hbl hbA hS (i_ix hz4 (by omega) (by omega)) dL_law_841 ?_
  refine pv_i (v := xs (i + 1)) (by rw [show Int32.toNatClampNeg z4 = i + 1 by have q9 := i_cl hz4 (by omega); omega]) ?_
  refine lcI (w := mw C B) (n := 1) (As := [.int (xs (i + 1))]) (rest := []) ⟨hx, hb, hml, hown, hts⟩ (fun _ h => uw_in h) (kX10_price_0 l D C B v hIM (xs (i + 1)) (xs (i + 1)).toInt rfl H.size) q_m1601 q_n1602 q_e1603 q_i11 q_c1604 hvX10_price ⟨(Nat.le_of_ble_eq_true rfl), (Nat.le_of_ble_eq_true rfl)⟩ ⟨(Nat.le_of_ble_eq_true rfl), (Nat.le_of_ble_eq_true rfl)⟩ hK hP hD hS hA Bl0 (fun _ _ _ => trivial) 10 0 rfl (mwc0 C B v) rfl hl.1 rfl (Nat.le_of_ble_eq_true rfl) dL_law_842 (fun r5 u7 H locs p6 hP hD hS => ?_)
  obtain ⟨hu7, Uu7, p6⟩ := p6
  refine lv_pop hx hb dL_law_845 rfl ?_
  refine lv_goto (tgt := 2362) hx hb dL_law_846 (by decide) ?_
  exact kx u u7 H locs ls hIC hu7 (hRL.un rfl rfl rfl rfl rfl rfl rfl rfl (Uu7.2.1 1 rfl) (Uu7.2.1 2 rfl)) hP hD hS hl
set_option maxHeartbeats 4000000 in
set_option maxRecDepth 100000 in
theorem law_case_21 {p : Program} {l : Launch} {e : Env} {s : State} {m : MethodId} {below : List Frame} {meth : Method} {c : Code} {D : va_G} {C : Nat → ClassId} {b L i : Nat} {xs : Nat → Int32} {A B adK adV : Nat → Nat} {u v : St} {H : Heap} {locs : List Loc} {ls : Array Slot} (C0 : lw_At p s m meth c b L xs) (hLL : L ≤ 3072) (hiL : i + 6 ≤ L) (hK : va_K D vwCl (tyl C) s) (hXS : XS adK adV (fun q : Nat => s.heap.size ≤ q) s) (hIC : IC u) (hIM : IM v) (hRL : RLt u v) (hP : va_P D vwCl (cw C A u ++ mw C B v) H) (hD : va_D (fun q : Nat => s.heap.size ≤ q) (cw C A u ++ mw C B v)) (hS : va_S (fun q : Nat => s.heap.size ≤ q) s.heap H locs) (hl : lv_has ls 4 [(3, .int (nI i)), (2, .ref (B 0)), (1, .ref (A 0)), (0, .ref b)])
    (kx : ∀ (u v : St) (H : Heap) (locs : List Loc) (ls : Array Slot), IC u → IM v → RLt u v → va_P D vwCl (cw C A u ++ mw C B v) H → va_D (fun q : Nat => s.heap.size ≤ q) (cw C A u ++ mw C B v) → va_S (fun q : Nat => s.heap.size ≤ q) s.heap H locs → lv_has ls 4 [(3, .int (nI i)), (2, .ref (B 0)), (1, .ref (A 0)), (0, .ref b)] → W p l e room_1 s m #[Value.ref b] below meth c H locs 180 4779 (lw_Z below #[Value.ref b] s) (F0 m 2362 ls [])) : W p l e room_1 s m #[Value.ref b] below meth c H locs 180 4779 (lw_Z below #[Value.ref b] s) (F0 m 849 ls []) := by
  obtain ⟨hx, hb, hr, hml, hown, hts, hX, hbl, hlocks, hgv⟩ := id C0
  have hown : s.vm.findClass RL = some m.cls := hown
  have hb : c.code = cL_law := hb
  have hA : ∀ q : Nat, s.heap.size ≤ q → (fun q : Nat => s.heap.size ≤ q) q := fun _ h => h
  have hbA : ¬ (fun q : Nat => s.heap.size ≤ q) b := Nat.not_le.mpr hbl
  have hni : (nI i).toInt = (i : Int) := nI_toInt (by omega)
  refine lv_aload_n hx hb dL_law_849 rfl (lv_at hl 2 rfl) ?_
  refine lv_aload_n hx hb dL_law_850 rfl (lv_at hl 3 rfl) ?_
  refine lv_iload_n hx hb dL_law_851 rfl (lv_at hl 0 rfl) ?_
  refine lv_iconst (v := 1) hx hb dL_law_852 (by decide) ?_
  refine lv_iadd hx hb dL_law_853 ?_
  refine p_nm (tt_add (X := (i : Int)) (Y := 1) hni (by decide) (by omega) (by omega)) (fun z1 hz1 => ?_)
  refine va_sld hx hb hX hbl hbA hS (i_ix hz1 (by omega) (by omega)) dL_law_854 ?_
  refine pv_i (v := xs (i + 1)) (by rw [show Int32.toNatClampNeg z1 = i + 1 by have q9 := i_cl hz1 (by omega); omega]) ?_
  refine cvS (n := 1) (As := [.int (xs (i + 1))]) (rest := []) ⟨hx, hb, hml, hown, hts⟩ (fun _ h => uw_in h) (kX9_chorus_0 l D C A u hIC (xs (i + 1)) (xs (i + 1)).toInt rfl) q_m733 q_n734 q_e735 q_i1 q_c736 hvX9_chorus ⟨(Nat.le_of_ble_eq_true rfl), (Nat.le_of_ble_eq_true rfl)⟩ ⟨(Nat.le_of_ble_eq_true rfl), (Nat.le_of_ble_eq_true rfl)⟩ hK hP.left 9 0 rfl (cwc0 C A u) rfl hl.1 rfl (Nat.le_of_ble_eq_true rfl) dL_law_855 (fun r2 p3 => ?_)
  have hP := hP.flip
  have hD := hD.flip
  refine lv_pop hx hb dL_law_858 rfl ?_
  refine lv_aload_n hx hb dL_law_859 rfl (lv_at hl 1 rfl) ?_
  refine lv_aload_n hx hb dL_law_860 rfl (lv_at hl 3 rfl) ?_
  refine lv_iload_n hx hb dL_law_861 rfl (lv_at hl 0 rfl) ?_
  refine lv_iconst (v := 1) hx hb dL_law_862 (by decide) ?_
  refine lv_iadd hx hb dL_law_863 ?_
  refine p_nm (tt_add (X := (i : Int)) (Y := 1) hni (by decide) (by omega) (by omega)) (fun z4 hz4 => ?_)
  refine va_sld hx hb hX hbl hbA hS (i_ix hz4 (by omega) (by omega)) dL_law_864 ?_
  refine pv_i (v := xs (i + 1)) (by rw [show Int32.toNatClampNeg z4 = i + 1 by have q9 := i_cl hz4 (by omega); omega]) ?_
  refine lcI (w := mw C B) (n := 1) (As := [.int (xs (i + 1))]) (rest := []) ⟨hx, hb, hml, hown, hts⟩ (fun _ h => uw_in h) (kX10_chorus_0 l D C B v hIM (xs (i + 1)) (xs (i + 1)).toInt rfl H.size) q_m1606 q_n1607 q_e1608 q_i11 q_c1609 hvX10_chorus ⟨(Nat.le_of_ble_eq_true rfl), (Nat.le_of_ble_eq_true rfl)⟩ ⟨(Nat.le_of_ble_eq_true rfl), (Nat.le_of_ble_eq_true rfl)⟩ hK hP hD hS hA Bl0 (fun _ _ _ => trivial) 10 0 rfl (mwc0 C B v) rfl hl.1 rfl (Nat.le_of_ble_eq_true rfl) dL_law_865 (fun r5 u7 H locs p6 hP hD hS => ?_)
  obtain ⟨hu7, Uu7, p6⟩ := p6
  refine lv_pop hx hb dL_law_868 rfl ?_
  refine lv_goto (tgt := 2362) hx hb dL_law_869 (by decide) ?_
  exact kx u u7 H locs ls hIC hu7 (hRL.un rfl rfl rfl rfl rfl rfl rfl rfl (Uu7.2.1 1 rfl) (Uu7.2.1 2 rfl)) hP hD hS hl
set_option maxHeartbeats 4000000 in
set_option maxRecDepth 100000 in
theorem law_case_22 {p : Program} {l : Launch} {e : Env} {s : State} {m : MethodId} {below : List Frame} {meth : Method} {c : Code} {D : va_G} {C : Nat → ClassId} {b L i : Nat} {xs : Nat → Int32} {A B adK adV : Nat → Nat} {u v : St} {H : Heap} {locs : List Loc} {ls : Array Slot} (C0 : lw_At p s m meth c b L xs) (hLL : L ≤ 3072) (hiL : i + 6 ≤ L) (hK : va_K D vwCl (tyl C) s) (hXS : XS adK adV (fun q : Nat => s.heap.size ≤ q) s) (hIC : IC u) (hIM : IM v) (hRL : RLt u v) (hP : va_P D vwCl (cw C A u ++ mw C B v) H) (hD : va_D (fun q : Nat => s.heap.size ≤ q) (cw C A u ++ mw C B v)) (hS : va_S (fun q : Nat => s.heap.size ≤ q) s.heap H locs) (hl : lv_has ls 4 [(3, .int (nI i)), (2, .ref (B 0)), (1, .ref (A 0)), (0, .ref b)])
    (kx : ∀ (u v : St) (H : Heap) (locs : List Loc) (ls : Array Slot), IC u → IM v → RLt u v → va_P D vwCl (cw C A u ++ mw C B v) H → va_D (fun q : Nat => s.heap.size ≤ q) (cw C A u ++ mw C B v) → va_S (fun q : Nat => s.heap.size ≤ q) s.heap H locs → lv_has ls 4 [(3, .int (nI i)), (2, .ref (B 0)), (1, .ref (A 0)), (0, .ref b)] → W p l e room_1 s m #[Value.ref b] below meth c H locs 180 4779 (lw_Z below #[Value.ref b] s) (F0 m 2362 ls [])) : W p l e room_1 s m #[Value.ref b] below meth c H locs 180 4779 (lw_Z below #[Value.ref b] s) (F0 m 872 ls []) := by
  obtain ⟨hx, hb, hr, hml, hown, hts, hX, hbl, hlocks, hgv⟩ := id C0
  have hown : s.vm.findClass RL = some m.cls := hown
  have hb : c.code = cL_law := hb
  have hA : ∀ q : Nat, s.heap.size ≤ q → (fun q : Nat => s.heap.size ≤ q) q := fun _ h => h
  have hbA : ¬ (fun q : Nat => s.heap.size ≤ q) b := Nat.not_le.mpr hbl
  have hni : (nI i).toInt = (i : Int) := nI_toInt (by omega)
  refine lv_aload_n hx hb dL_law_872 rfl (lv_at hl 2 rfl) ?_
  refine lv_aload_n hx hb dL_law_873 rfl (lv_at hl 3 rfl) ?_
  refine lv_iload_n hx hb dL_law_874 rfl (lv_at hl 0 rfl) ?_
  refine lv_iconst (v := 1) hx hb dL_law_875 (by decide) ?_
  refine lv_iadd hx hb dL_law_876 ?_
  refine p_nm (tt_add (X := (i : Int)) (Y := 1) hni (by decide) (by omega) (by omega)) (fun z1 hz1 => ?_)
  refine va_sld hx hb hX hbl hbA hS (i_ix hz1 (by omega) (by omega)) dL_law_877 ?_
  refine pv_i (v := xs (i + 1)) (by rw [show Int32.toNatClampNeg z1 = i + 1 by have q9 := i_cl hz1 (by omega); omega]) ?_
  refine cvS (n := 1) (As := [.int (xs (i + 1))]) (rest := []) ⟨hx, hb, hml, hown, hts⟩ (fun _ h => uw_in h) (kX9_tolls_0 l D C A u hIC (xs (i + 1)) (xs (i + 1)).toInt rfl) q_m746 q_n747 q_e748 q_i1 q_c749 hvX9_tolls ⟨(Nat.le_of_ble_eq_true rfl), (Nat.le_of_ble_eq_true rfl)⟩ ⟨(Nat.le_of_ble_eq_true rfl), (Nat.le_of_ble_eq_true rfl)⟩ hK hP.left 9 0 rfl (cwc0 C A u) rfl hl.1 rfl (Nat.le_of_ble_eq_true rfl) dL_law_878 (fun r2 p3 => ?_)
  have hP := hP.flip
  have hD := hD.flip
  refine lv_pop hx hb dL_law_881 rfl ?_
  refine lv_aload_n hx hb dL_law_882 rfl (lv_at hl 1 rfl) ?_
  refine lv_aload_n hx hb dL_law_883 rfl (lv_at hl 3 rfl) ?_
  refine lv_iload_n hx hb dL_law_884 rfl (lv_at hl 0 rfl) ?_
  refine lv_iconst (v := 1) hx hb dL_law_885 (by decide) ?_
  refine lv_iadd hx hb dL_law_886 ?_
  refine p_nm (tt_add (X := (i : Int)) (Y := 1) hni (by decide) (by omega) (by omega)) (fun z4 hz4 => ?_)
  refine va_sld hx hb hX hbl hbA hS (i_ix hz4 (by omega) (by omega)) dL_law_887 ?_
  refine pv_i (v := xs (i + 1)) (by rw [show Int32.toNatClampNeg z4 = i + 1 by have q9 := i_cl hz4 (by omega); omega]) ?_
  refine lcI (w := mw C B) (n := 1) (As := [.int (xs (i + 1))]) (rest := []) ⟨hx, hb, hml, hown, hts⟩ (fun _ h => uw_in h) (kX10_tolls_0 l D C B v hIM (xs (i + 1)) (xs (i + 1)).toInt rfl H.size) q_m1614 q_n1615 q_e1616 q_i11 q_c1617 hvX10_tolls ⟨(Nat.le_of_ble_eq_true rfl), (Nat.le_of_ble_eq_true rfl)⟩ ⟨(Nat.le_of_ble_eq_true rfl), (Nat.le_of_ble_eq_true rfl)⟩ hK hP hD hS hA Bl0 (fun _ _ _ => trivial) 10 0 rfl (mwc0 C B v) rfl hl.1 rfl (Nat.le_of_ble_eq_true rfl) dL_law_888 (fun r5 u7 H locs p6 hP hD hS => ?_)
  obtain ⟨hu7, Uu7, p6⟩ := p6
  refine lv_pop hx hb dL_law_891 rfl ?_
  refine lv_goto (tgt := 2362) hx hb dL_law_892 (by decide) ?_
  exact kx u u7 H locs ls hIC hu7 (hRL.un rfl rfl rfl rfl rfl rfl rfl rfl (Uu7.2.1 1 rfl) (Uu7.2.1 2 rfl)) hP hD hS hl
set_option maxHeartbeats 4000000 in
set_option maxRecDepth 100000 in
theorem law_case_23 {p : Program} {l : Launch} {e : Env} {s : State} {m : MethodId} {below : List Frame} {meth : Method} {c : Code} {D : va_G} {C : Nat → ClassId} {b L i : Nat} {xs : Nat → Int32} {A B adK adV : Nat → Nat} {u v : St} {H : Heap} {locs : List Loc} {ls : Array Slot} (C0 : lw_At p s m meth c b L xs) (hLL : L ≤ 3072) (hiL : i + 6 ≤ L) (hK : va_K D vwCl (tyl C) s) (hXS : XS adK adV (fun q : Nat => s.heap.size ≤ q) s) (hIC : IC u) (hIM : IM v) (hRL : RLt u v) (hP : va_P D vwCl (cw C A u ++ mw C B v) H) (hD : va_D (fun q : Nat => s.heap.size ≤ q) (cw C A u ++ mw C B v)) (hS : va_S (fun q : Nat => s.heap.size ≤ q) s.heap H locs) (hl : lv_has ls 4 [(3, .int (nI i)), (2, .ref (B 0)), (1, .ref (A 0)), (0, .ref b)])
    (kx : ∀ (u v : St) (H : Heap) (locs : List Loc) (ls : Array Slot), IC u → IM v → RLt u v → va_P D vwCl (cw C A u ++ mw C B v) H → va_D (fun q : Nat => s.heap.size ≤ q) (cw C A u ++ mw C B v) → va_S (fun q : Nat => s.heap.size ≤ q) s.heap H locs → lv_has ls 4 [(3, .int (nI i)), (2, .ref (B 0)), (1, .ref (A 0)), (0, .ref b)] → W p l e room_1 s m #[Value.ref b] below meth c H locs 180 4779 (lw_Z below #[Value.ref b] s) (F0 m 2362 ls [])) : W p l e room_1 s m #[Value.ref b] below meth c H locs 180 4779 (lw_Z below #[Value.ref b] s) (F0 m 895 ls []) := by
  obtain ⟨hx, hb, hr, hml, hown, hts, hX, hbl, hlocks, hgv⟩ := id C0
  have hown : s.vm.findClass RL = some m.cls := hown
  have hb : c.code = cL_law := hb
  have hA : ∀ q : Nat, s.heap.size ≤ q → (fun q : Nat => s.heap.size ≤ q) q := fun _ h => h
  have hbA : ¬ (fun q : Nat => s.heap.size ≤ q) b := Nat.not_le.mpr hbl
  have hni : (nI i).toInt = (i : Int) := nI_toInt (by omega)
  refine lv_aload_n hx hb dL_law_895 rfl (lv_at hl 2 rfl) ?_
  refine lv_aload_n hx hb dL_law_896 rfl (lv_at hl 3 rfl) ?_
  refine lv_iload_n hx hb dL_law_897 rfl (lv_at hl 0 rfl) ?_
  refine lv_iconst (v := 1) hx hb dL_law_898 (by decide) ?_
  refine lv_iadd hx hb dL_law_899 ?_
  refine p_nm (tt_add (X := (i : Int)) (Y := 1) hni (by decide) (by omega) (by omega)) (fun z1 hz1 => ?_)
  refine va_sld hx hb hX hbl hbA hS (i_ix hz1 (by omega) (by omega)) dL_law_900 ?_
  refine pv_i (v := xs (i + 1)) (by rw [show Int32.toNatClampNeg z1 = i + 1 by have q9 := i_cl hz1 (by omega); omega]) ?_
  refine cvS (n := 1) (As := [.int (xs (i + 1))]) (rest := []) ⟨hx, hb, hml, hown, hts⟩ (fun _ h => uw_in h) (kX9_register_0 l D C A u hIC (xs (i + 1)) (xs (i + 1)).toInt rfl) q_m750 q_n751 q_e752 q_i1 q_c753 hvX9_register ⟨(Nat.le_of_ble_eq_true rfl), (Nat.le_of_ble_eq_true rfl)⟩ ⟨(Nat.le_of_ble_eq_true rfl), (Nat.le_of_ble_eq_true rfl)⟩ hK hP.left 9 0 rfl (cwc0 C A u) rfl hl.1 rfl (Nat.le_of_ble_eq_true rfl) dL_law_901 (fun r2 p3 => ?_)
  have hP := hP.flip
  have hD := hD.flip
  refine lv_pop hx hb dL_law_904 rfl ?_
  refine lv_aload_n hx hb dL_law_905 rfl (lv_at hl 1 rfl) ?_
  refine lv_aload_n hx hb dL_law_906 rfl (lv_at hl 3 rfl) ?_
  refine lv_iload_n hx hb dL_law_907 rfl (lv_at hl 0 rfl) ?_
  refine lv_iconst (v := 1) hx hb dL_law_908 (by decide) ?_
  refine lv_iadd hx hb dL_law_909 ?_
  refine p_nm (tt_add (X := (i : Int)) (Y := 1) hni (by decide) (by omega) (by omega)) (fun z4 hz4 => ?_)
  refine va_sld hx hb hX hbl hbA hS (i_ix hz4 (by omega) (by omega)) dL_law_910 ?_
  refine pv_i (v := xs (i + 1)) (by rw [show Int32.toNatClampNeg z4 = i + 1 by have q9 := i_cl hz4 (by omega); omega]) ?_
  refine lcI (w := mw C B) (n := 1) (As := [.int (xs (i + 1))]) (rest := []) ⟨hx, hb, hml, hown, hts⟩ (fun _ h => uw_in h) (kX10_register_0 l D C B v hIM (xs (i + 1)) (xs (i + 1)).toInt rfl H.size) q_m1618 q_n1619 q_e1620 q_i11 q_c1621 hvX10_register ⟨(Nat.le_of_ble_eq_true rfl), (Nat.le_of_ble_eq_true rfl)⟩ ⟨(Nat.le_of_ble_eq_true rfl), (Nat.le_of_ble_eq_true rfl)⟩ hK hP hD hS hA Bl0 (fun _ _ _ => trivial) 10 0 rfl (mwc0 C B v) rfl hl.1 rfl (Nat.le_of_ble_eq_true rfl) dL_law_911 (fun r5 u7 H locs p6 hP hD hS => ?_)
  obtain ⟨hu7, Uu7, p6⟩ := p6
  refine lv_pop hx hb dL_law_914 rfl ?_
  refine lv_goto (tgt := 2362) hx hb dL_law_915 (by decide) ?_
  exact kx u u7 H locs ls hIC hu7 (hRL.un rfl rfl rfl rfl rfl rfl rfl rfl (Uu7.2.1 1 rfl) (Uu7.2.1 2 rfl)) hP hD hS hl
