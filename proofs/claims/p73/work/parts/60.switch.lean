set_option maxHeartbeats 4000000 in
set_option maxRecDepth 100000 in
theorem law_sw_0 {p : Program} {l : Launch} {e : Env} {s : State} {m : MethodId} {below : List Frame} {meth : Method} {c : Code} {D : va_G} {C : Nat → ClassId} {b L i : Nat} {xs : Nat → Int32} {A B adK adV : Nat → Nat} {u v : St} {H : Heap} {locs : List Loc} {ls : Array Slot} (C0 : lw_At p s m meth c b L xs) (hLL : L ≤ 3072) (hiL : i + 6 ≤ L) (hK : va_K D vwCl (tyl C) s) (hXS : XS adK adV (fun q : Nat => s.heap.size ≤ q) s) (hIC : IC u) (hIM : IM v) (hRL : RLt u v) (hP : va_P D vwCl (cw C A u ++ mw C B v) H) (hD : va_D (fun q : Nat => s.heap.size ≤ q) (cw C A u ++ mw C B v)) (hS : va_S (fun q : Nat => s.heap.size ≤ q) s.heap H locs) (hl : lv_has ls 4 [(3, .int (nI i)), (2, .ref (B 0)), (1, .ref (A 0)), (0, .ref b)])
    (kx : ∀ (u v : St) (H : Heap) (locs : List Loc) (ls : Array Slot), IC u → IM v → RLt u v → va_P D vwCl (cw C A u ++ mw C B v) H → va_D (fun q : Nat => s.heap.size ≤ q) (cw C A u ++ mw C B v) → va_S (fun q : Nat => s.heap.size ≤ q) s.heap H locs → lv_has ls 4 [(3, .int (nI i)), (2, .ref (B 0)), (1, .ref (A 0)), (0, .ref b)] → W p l e room_1 s m #[Value.ref b] below meth c H locs 180 4779 (lw_Z below #[Value.ref b] s) (F0 m 2362 ls [])) (j : Nat) (h0 : 0 ≤ j) (h1 : j < 12) : W p l e room_1 s m #[Value.ref b] below meth c H locs 180 4779 (lw_Z below #[Value.ref b] s) (F0 m 33 ls [.int (nI j)]) := by
  have hx := C0.1
  have hb : c.code = cL_law := C0.2.1
  rcases (show j = 0 ∨ j = 1 ∨ j = 2 ∨ j = 3 ∨ j = 4 ∨ j = 5 ∨ j = 6 ∨ j = 7 ∨ j = 8 ∨ j = 9 ∨ j = 10 ∨ j = 11 by omega) with rfl | rfl | rfl | rfl | rfl | rfl | rfl | rfl | rfl | rfl | rfl | rfl
  · refine lv_tableIn (off := 303) (tgt := 336) hx hb dL_law_33 (by decide) (by decide) (by decide) (by decide) ?_
    exact law_case_0 C0 hLL hiL hK hXS hIC hIM hRL hP hD hS hl kx
  · refine lv_tableIn (off := 366) (tgt := 399) hx hb dL_law_33 (by decide) (by decide) (by decide) (by decide) ?_
    exact law_case_1 C0 hLL hiL hK hXS hIC hIM hRL hP hD hS hl kx
  · refine lv_tableIn (off := 389) (tgt := 422) hx hb dL_law_33 (by decide) (by decide) (by decide) (by decide) ?_
    exact law_case_2 C0 hLL hiL hK hXS hIC hIM hRL hP hD hS hl kx
  · refine lv_tableIn (off := 402) (tgt := 435) hx hb dL_law_33 (by decide) (by decide) (by decide) (by decide) ?_
    exact law_case_3 C0 hLL hiL hK hXS hIC hIM hRL hP hD hS hl kx
  · refine lv_tableIn (off := 425) (tgt := 458) hx hb dL_law_33 (by decide) (by decide) (by decide) (by decide) ?_
    exact law_case_4 C0 hLL hiL hK hXS hIC hIM hRL hP hD hS hl kx
  · refine lv_tableIn (off := 458) (tgt := 491) hx hb dL_law_33 (by decide) (by decide) (by decide) (by decide) ?_
    exact law_case_5 C0 hLL hiL hK hXS hIC hIM hRL hP hD hS hl kx
  · refine lv_tableIn (off := 491) (tgt := 524) hx hb dL_law_33 (by decide) (by decide) (by decide) (by decide) ?_
    exact law_case_6 C0 hLL hiL hK hXS hIC hIM hRL hP hD hS hl kx
  · refine lv_tableIn (off := 514) (tgt := 547) hx hb dL_law_33 (by decide) (by decide) (by decide) (by decide) ?_
    exact law_case_7 C0 hLL hiL hK hXS hIC hIM hRL hP hD hS hl kx
  · refine lv_tableIn (off := 537) (tgt := 570) hx hb dL_law_33 (by decide) (by decide) (by decide) (by decide) ?_
    exact law_case_8 C0 hLL hiL hK hXS hIC hIM hRL hP hD hS hl kx
  · refine lv_tableIn (off := 560) (tgt := 593) hx hb dL_law_33 (by decide) (by decide) (by decide) (by decide) ?_
    exact law_case_9 C0 hLL hiL hK hXS hIC hIM hRL hP hD hS hl kx
  · refine lv_tableIn (off := 593) (tgt := 626) hx hb dL_law_33 (by decide) (by decide) (by decide) (by decide) ?_
    exact law_case_10 C0 hLL hiL hK hXS hIC hIM hRL hP hD hS hl kx
  · refine lv_tableIn (off := 626) (tgt := 659) hx hb dL_law_33 (by decide) (by decide) (by decide) (by decide) ?_
    exact law_case_11 C0 hLL hiL hK hXS hIC hIM hRL hP hD hS hl kx
set_option maxHeartbeats 4000000 in
set_option maxRecDepth 100000 in
theorem law_sw_12 {p : Program} {l : Launch} {e : Env} {s : State} {m : MethodId} {below : List Frame} {meth : Method} {c : Code} {D : va_G} {C : Nat → ClassId} {b L i : Nat} {xs : Nat → Int32} {A B adK adV : Nat → Nat} {u v : St} {H : Heap} {locs : List Loc} {ls : Array Slot} (C0 : lw_At p s m meth c b L xs) (hLL : L ≤ 3072) (hiL : i + 6 ≤ L) (hK : va_K D vwCl (tyl C) s) (hXS : XS adK adV (fun q : Nat => s.heap.size ≤ q) s) (hIC : IC u) (hIM : IM v) (hRL : RLt u v) (hP : va_P D vwCl (cw C A u ++ mw C B v) H) (hD : va_D (fun q : Nat => s.heap.size ≤ q) (cw C A u ++ mw C B v)) (hS : va_S (fun q : Nat => s.heap.size ≤ q) s.heap H locs) (hl : lv_has ls 4 [(3, .int (nI i)), (2, .ref (B 0)), (1, .ref (A 0)), (0, .ref b)])
    (kx : ∀ (u v : St) (H : Heap) (locs : List Loc) (ls : Array Slot), IC u → IM v → RLt u v → va_P D vwCl (cw C A u ++ mw C B v) H → va_D (fun q : Nat => s.heap.size ≤ q) (cw C A u ++ mw C B v) → va_S (fun q : Nat => s.heap.size ≤ q) s.heap H locs → lv_has ls 4 [(3, .int (nI i)), (2, .ref (B 0)), (1, .ref (A 0)), (0, .ref b)] → W p l e room_1 s m #[Value.ref b] below meth c H locs 180 4779 (lw_Z below #[Value.ref b] s) (F0 m 2362 ls [])) (j : Nat) (h0 : 12 ≤ j) (h1 : j < 24) : W p l e room_1 s m #[Value.ref b] below meth c H locs 180 4779 (lw_Z below #[Value.ref b] s) (F0 m 33 ls [.int (nI j)]) := by
  have hx := C0.1
  have hb : c.code = cL_law := C0.2.1
  rcases (show j = 12 ∨ j = 13 ∨ j = 14 ∨ j = 15 ∨ j = 16 ∨ j = 17 ∨ j = 18 ∨ j = 19 ∨ j = 20 ∨ j = 21 ∨ j = 22 ∨ j = 23 by omega) with rfl | rfl | rfl | rfl | rfl | rfl | rfl | rfl | rfl | rfl | rfl | rfl
  · refine lv_tableIn (off := 649) (tgt := 682) hx hb dL_law_33 (by decide) (by decide) (by decide) (by decide) ?_
    exact law_case_12 C0 hLL hiL hK hXS hIC hIM hRL hP hD hS hl kx
  · refine lv_tableIn (off := 672) (tgt := 705) hx hb dL_law_33 (by decide) (by decide) (by decide) (by decide) ?_
    exact law_case_13 C0 hLL hiL hK hXS hIC hIM hRL hP hD hS hl kx
  · refine lv_tableIn (off := 685) (tgt := 718) hx hb dL_law_33 (by decide) (by decide) (by decide) (by decide) ?_
    exact law_case_14 C0 hLL hiL hK hXS hIC hIM hRL hP hD hS hl kx
  · refine lv_tableIn (off := 698) (tgt := 731) hx hb dL_law_33 (by decide) (by decide) (by decide) (by decide) ?_
    exact law_case_15 C0 hLL hiL hK hXS hIC hIM hRL hP hD hS hl kx
  · refine lv_tableIn (off := 721) (tgt := 754) hx hb dL_law_33 (by decide) (by decide) (by decide) (by decide) ?_
    exact law_case_16 C0 hLL hiL hK hXS hIC hIM hRL hP hD hS hl kx
  · refine lv_tableIn (off := 744) (tgt := 777) hx hb dL_law_33 (by decide) (by decide) (by decide) (by decide) ?_
    exact law_case_17 C0 hLL hiL hK hXS hIC hIM hRL hP hD hS hl kx
  · refine lv_tableIn (off := 767) (tgt := 800) hx hb dL_law_33 (by decide) (by decide) (by decide) (by decide) ?_
    exact law_case_18 C0 hLL hiL hK hXS hIC hIM hRL hP hD hS hl kx
  · refine lv_tableIn (off := 780) (tgt := 813) hx hb dL_law_33 (by decide) (by decide) (by decide) (by decide) ?_
    exact law_case_19 C0 hLL hiL hK hXS hIC hIM hRL hP hD hS hl kx
  · refine lv_tableIn (off := 793) (tgt := 826) hx hb dL_law_33 (by decide) (by decide) (by decide) (by decide) ?_
    exact law_case_20 C0 hLL hiL hK hXS hIC hIM hRL hP hD hS hl kx
  · refine lv_tableIn (off := 816) (tgt := 849) hx hb dL_law_33 (by decide) (by decide) (by decide) (by decide) ?_
    exact law_case_21 C0 hLL hiL hK hXS hIC hIM hRL hP hD hS hl kx
  · refine lv_tableIn (off := 839) (tgt := 872) hx hb dL_law_33 (by decide) (by decide) (by decide) (by decide) ?_
    exact law_case_22 C0 hLL hiL hK hXS hIC hIM hRL hP hD hS hl kx
  · refine lv_tableIn (off := 862) (tgt := 895) hx hb dL_law_33 (by decide) (by decide) (by decide) (by decide) ?_
    exact law_case_23 C0 hLL hiL hK hXS hIC hIM hRL hP hD hS hl kx
set_option maxHeartbeats 4000000 in
set_option maxRecDepth 100000 in
theorem law_sw_24 {p : Program} {l : Launch} {e : Env} {s : State} {m : MethodId} {below : List Frame} {meth : Method} {c : Code} {D : va_G} {C : Nat → ClassId} {b L i : Nat} {xs : Nat → Int32} {A B adK adV : Nat → Nat} {u v : St} {H : Heap} {locs : List Loc} {ls : Array Slot} (C0 : lw_At p s m meth c b L xs) (hLL : L ≤ 3072) (hiL : i + 6 ≤ L) (hK : va_K D vwCl (tyl C) s) (hXS : XS adK adV (fun q : Nat => s.heap.size ≤ q) s) (hIC : IC u) (hIM : IM v) (hRL : RLt u v) (hP : va_P D vwCl (cw C A u ++ mw C B v) H) (hD : va_D (fun q : Nat => s.heap.size ≤ q) (cw C A u ++ mw C B v)) (hS : va_S (fun q : Nat => s.heap.size ≤ q) s.heap H locs) (hl : lv_has ls 4 [(3, .int (nI i)), (2, .ref (B 0)), (1, .ref (A 0)), (0, .ref b)])
    (kx : ∀ (u v : St) (H : Heap) (locs : List Loc) (ls : Array Slot), IC u → IM v → RLt u v → va_P D vwCl (cw C A u ++ mw C B v) H → va_D (fun q : Nat => s.heap.size ≤ q) (cw C A u ++ mw C B v) → va_S (fun q : Nat => s.heap.size ≤ q) s.heap H locs → lv_has ls 4 [(3, .int (nI i)), (2, .ref (B 0)), (1, .ref (A 0)), (0, .ref b)] → W p l e room_1 s m #[Value.ref b] below meth c H locs 180 4779 (lw_Z below #[Value.ref b] s) (F0 m 2362 ls [])) (j : Nat) (h0 : 24 ≤ j) (h1 : j < 36) : W p l e room_1 s m #[Value.ref b] below meth c H locs 180 4779 (lw_Z below #[Value.ref b] s) (F0 m 33 ls [.int (nI j)]) := by
  have hx := C0.1
  have hb : c.code = cL_law := C0.2.1
  rcases (show j = 24 ∨ j = 25 ∨ j = 26 ∨ j = 27 ∨ j = 28 ∨ j = 29 ∨ j = 30 ∨ j = 31 ∨ j = 32 ∨ j = 33 ∨ j = 34 ∨ j = 35 by omega) with rfl | rfl | rfl | rfl | rfl | rfl | rfl | rfl | rfl | rfl | rfl | rfl
  · refine lv_tableIn (off := 885) (tgt := 918) hx hb dL_law_33 (by decide) (by decide) (by decide) (by decide) ?_
    exact law_case_24 C0 hLL hiL hK hXS hIC hIM hRL hP hD hS hl kx
  · refine lv_tableIn (off := 908) (tgt := 941) hx hb dL_law_33 (by decide) (by decide) (by decide) (by decide) ?_
    exact law_case_25 C0 hLL hiL hK hXS hIC hIM hRL hP hD hS hl kx
  · refine lv_tableIn (off := 931) (tgt := 964) hx hb dL_law_33 (by decide) (by decide) (by decide) (by decide) ?_
    exact law_case_26 C0 hLL hiL hK hXS hIC hIM hRL hP hD hS hl kx
  · refine lv_tableIn (off := 954) (tgt := 987) hx hb dL_law_33 (by decide) (by decide) (by decide) (by decide) ?_
    exact law_case_27 C0 hLL hiL hK hXS hIC hIM hRL hP hD hS hl kx
  · refine lv_tableIn (off := 987) (tgt := 1020) hx hb dL_law_33 (by decide) (by decide) (by decide) (by decide) ?_
    exact law_case_28 C0 hLL hiL hK hXS hIC hIM hRL hP hD hS hl kx
  · refine lv_tableIn (off := 1020) (tgt := 1053) hx hb dL_law_33 (by decide) (by decide) (by decide) (by decide) ?_
    exact law_case_29 C0 hLL hiL hK hXS hIC hIM hRL hP hD hS hl kx
  · refine lv_tableIn (off := 1053) (tgt := 1086) hx hb dL_law_33 (by decide) (by decide) (by decide) (by decide) ?_
    exact law_case_30 C0 hLL hiL hK hXS hIC hIM hRL hP hD hS hl kx
  · refine lv_tableIn (off := 1076) (tgt := 1109) hx hb dL_law_33 (by decide) (by decide) (by decide) (by decide) ?_
    exact law_case_31 C0 hLL hiL hK hXS hIC hIM hRL hP hD hS hl kx
  · refine lv_tableIn (off := 1089) (tgt := 1122) hx hb dL_law_33 (by decide) (by decide) (by decide) (by decide) ?_
    exact law_case_32 C0 hLL hiL hK hXS hIC hIM hRL hP hD hS hl kx
  · refine lv_tableIn (off := 1122) (tgt := 1155) hx hb dL_law_33 (by decide) (by decide) (by decide) (by decide) ?_
    exact law_case_33 C0 hLL hiL hK hXS hIC hIM hRL hP hD hS hl kx
  · refine lv_tableIn (off := 1145) (tgt := 1178) hx hb dL_law_33 (by decide) (by decide) (by decide) (by decide) ?_
    exact law_case_34 C0 hLL hiL hK hXS hIC hIM hRL hP hD hS hl kx
  · refine lv_tableIn (off := 1168) (tgt := 1201) hx hb dL_law_33 (by decide) (by decide) (by decide) (by decide) ?_
    exact law_case_35 C0 hLL hiL hK hXS hIC hIM hRL hP hD hS hl kx
set_option maxHeartbeats 4000000 in
set_option maxRecDepth 100000 in
theorem law_sw_36 {p : Program} {l : Launch} {e : Env} {s : State} {m : MethodId} {below : List Frame} {meth : Method} {c : Code} {D : va_G} {C : Nat → ClassId} {b L i : Nat} {xs : Nat → Int32} {A B adK adV : Nat → Nat} {u v : St} {H : Heap} {locs : List Loc} {ls : Array Slot} (C0 : lw_At p s m meth c b L xs) (hLL : L ≤ 3072) (hiL : i + 6 ≤ L) (hK : va_K D vwCl (tyl C) s) (hXS : XS adK adV (fun q : Nat => s.heap.size ≤ q) s) (hIC : IC u) (hIM : IM v) (hRL : RLt u v) (hP : va_P D vwCl (cw C A u ++ mw C B v) H) (hD : va_D (fun q : Nat => s.heap.size ≤ q) (cw C A u ++ mw C B v)) (hS : va_S (fun q : Nat => s.heap.size ≤ q) s.heap H locs) (hl : lv_has ls 4 [(3, .int (nI i)), (2, .ref (B 0)), (1, .ref (A 0)), (0, .ref b)])
    (kx : ∀ (u v : St) (H : Heap) (locs : List Loc) (ls : Array Slot), IC u → IM v → RLt u v → va_P D vwCl (cw C A u ++ mw C B v) H → va_D (fun q : Nat => s.heap.size ≤ q) (cw C A u ++ mw C B v) → va_S (fun q : Nat => s.heap.size ≤ q) s.heap H locs → lv_has ls 4 [(3, .int (nI i)), (2, .ref (B 0)), (1, .ref (A 0)), (0, .ref b)] → W p l e room_1 s m #[Value.ref b] below meth c H locs 180 4779 (lw_Z below #[Value.ref b] s) (F0 m 2362 ls [])) (j : Nat) (h0 : 36 ≤ j) (h1 : j < 48) : W p l e room_1 s m #[Value.ref b] below meth c H locs 180 4779 (lw_Z below #[Value.ref b] s) (F0 m 33 ls [.int (nI j)]) := by
  have hx := C0.1
  have hb : c.code = cL_law := C0.2.1
  rcases (show j = 36 ∨ j = 37 ∨ j = 38 ∨ j = 39 ∨ j = 40 ∨ j = 41 ∨ j = 42 ∨ j = 43 ∨ j = 44 ∨ j = 45 ∨ j = 46 ∨ j = 47 by omega) with rfl | rfl | rfl | rfl | rfl | rfl | rfl | rfl | rfl | rfl | rfl | rfl
  · refine lv_tableIn (off := 1191) (tgt := 1224) hx hb dL_law_33 (by decide) (by decide) (by decide) (by decide) ?_
    exact law_case_36 C0 hLL hiL hK hXS hIC hIM hRL hP hD hS hl kx
  · refine lv_tableIn (off := 1214) (tgt := 1247) hx hb dL_law_33 (by decide) (by decide) (by decide) (by decide) ?_
    exact law_case_37 C0 hLL hiL hK hXS hIC hIM hRL hP hD hS hl kx
  · refine lv_tableIn (off := 1237) (tgt := 1270) hx hb dL_law_33 (by decide) (by decide) (by decide) (by decide) ?_
    exact law_case_38 C0 hLL hiL hK hXS hIC hIM hRL hP hD hS hl kx
  · refine lv_tableIn (off := 1260) (tgt := 1293) hx hb dL_law_33 (by decide) (by decide) (by decide) (by decide) ?_
    exact law_case_39 C0 hLL hiL hK hXS hIC hIM hRL hP hD hS hl kx
  · refine lv_tableIn (off := 1293) (tgt := 1326) hx hb dL_law_33 (by decide) (by decide) (by decide) (by decide) ?_
    exact law_case_40 C0 hLL hiL hK hXS hIC hIM hRL hP hD hS hl kx
  · refine lv_tableIn (off := 1326) (tgt := 1359) hx hb dL_law_33 (by decide) (by decide) (by decide) (by decide) ?_
    exact law_case_41 C0 hLL hiL hK hXS hIC hIM hRL hP hD hS hl kx
  · refine lv_tableIn (off := 1349) (tgt := 1382) hx hb dL_law_33 (by decide) (by decide) (by decide) (by decide) ?_
    exact law_case_42 C0 hLL hiL hK hXS hIC hIM hRL hP hD hS hl kx
  · refine lv_tableIn (off := 1382) (tgt := 1415) hx hb dL_law_33 (by decide) (by decide) (by decide) (by decide) ?_
    exact law_case_43 C0 hLL hiL hK hXS hIC hIM hRL hP hD hS hl kx
  · refine lv_tableIn (off := 1405) (tgt := 1438) hx hb dL_law_33 (by decide) (by decide) (by decide) (by decide) ?_
    exact law_case_44 C0 hLL hiL hK hXS hIC hIM hRL hP hD hS hl kx
  · refine lv_tableIn (off := 1428) (tgt := 1461) hx hb dL_law_33 (by decide) (by decide) (by decide) (by decide) ?_
    exact law_case_45 C0 hLL hiL hK hXS hIC hIM hRL hP hD hS hl kx
  · refine lv_tableIn (off := 1471) (tgt := 1504) hx hb dL_law_33 (by decide) (by decide) (by decide) (by decide) ?_
    exact law_case_46 C0 hLL hiL hK hXS hIC hIM hRL hP hD hS hl kx
  · refine lv_tableIn (off := 1514) (tgt := 1547) hx hb dL_law_33 (by decide) (by decide) (by decide) (by decide) ?_
    exact law_case_47 C0 hLL hiL hK hXS hIC hIM hRL hP hD hS hl kx
set_option maxHeartbeats 4000000 in
set_option maxRecDepth 100000 in
theorem law_sw_48 {p : Program} {l : Launch} {e : Env} {s : State} {m : MethodId} {below : List Frame} {meth : Method} {c : Code} {D : va_G} {C : Nat → ClassId} {b L i : Nat} {xs : Nat → Int32} {A B adK adV : Nat → Nat} {u v : St} {H : Heap} {locs : List Loc} {ls : Array Slot} (C0 : lw_At p s m meth c b L xs) (hLL : L ≤ 3072) (hiL : i + 6 ≤ L) (hK : va_K D vwCl (tyl C) s) (hXS : XS adK adV (fun q : Nat => s.heap.size ≤ q) s) (hIC : IC u) (hIM : IM v) (hRL : RLt u v) (hP : va_P D vwCl (cw C A u ++ mw C B v) H) (hD : va_D (fun q : Nat => s.heap.size ≤ q) (cw C A u ++ mw C B v)) (hS : va_S (fun q : Nat => s.heap.size ≤ q) s.heap H locs) (hl : lv_has ls 4 [(3, .int (nI i)), (2, .ref (B 0)), (1, .ref (A 0)), (0, .ref b)])
    (kx : ∀ (u v : St) (H : Heap) (locs : List Loc) (ls : Array Slot), IC u → IM v → RLt u v → va_P D vwCl (cw C A u ++ mw C B v) H → va_D (fun q : Nat => s.heap.size ≤ q) (cw C A u ++ mw C B v) → va_S (fun q : Nat => s.heap.size ≤ q) s.heap H locs → lv_has ls 4 [(3, .int (nI i)), (2, .ref (B 0)), (1, .ref (A 0)), (0, .ref b)] → W p l e room_1 s m #[Value.ref b] below meth c H locs 180 4779 (lw_Z below #[Value.ref b] s) (F0 m 2362 ls [])) (j : Nat) (h0 : 48 ≤ j) (h1 : j < 60) : W p l e room_1 s m #[Value.ref b] below meth c H locs 180 4779 (lw_Z below #[Value.ref b] s) (F0 m 33 ls [.int (nI j)]) := by
  have hx := C0.1
  have hb : c.code = cL_law := C0.2.1
  rcases (show j = 48 ∨ j = 49 ∨ j = 50 ∨ j = 51 ∨ j = 52 ∨ j = 53 ∨ j = 54 ∨ j = 55 ∨ j = 56 ∨ j = 57 ∨ j = 58 ∨ j = 59 by omega) with rfl | rfl | rfl | rfl | rfl | rfl | rfl | rfl | rfl | rfl | rfl | rfl
  · refine lv_tableIn (off := 1557) (tgt := 1590) hx hb dL_law_33 (by decide) (by decide) (by decide) (by decide) ?_
    exact law_case_48 C0 hLL hiL hK hXS hIC hIM hRL hP hD hS hl kx
  · refine lv_tableIn (off := 1580) (tgt := 1613) hx hb dL_law_33 (by decide) (by decide) (by decide) (by decide) ?_
    exact law_case_49 C0 hLL hiL hK hXS hIC hIM hRL hP hD hS hl kx
  · refine lv_tableIn (off := 1603) (tgt := 1636) hx hb dL_law_33 (by decide) (by decide) (by decide) (by decide) ?_
    exact law_case_50 C0 hLL hiL hK hXS hIC hIM hRL hP hD hS hl kx
  · refine lv_tableIn (off := 1626) (tgt := 1659) hx hb dL_law_33 (by decide) (by decide) (by decide) (by decide) ?_
    exact law_case_51 C0 hLL hiL hK hXS hIC hIM hRL hP hD hS hl kx
  · refine lv_tableIn (off := 1649) (tgt := 1682) hx hb dL_law_33 (by decide) (by decide) (by decide) (by decide) ?_
    exact law_case_52 C0 hLL hiL hK hXS hIC hIM hRL hP hD hS hl kx
  · refine lv_tableIn (off := 1672) (tgt := 1705) hx hb dL_law_33 (by decide) (by decide) (by decide) (by decide) ?_
    exact law_case_53 C0 hLL hiL hK hXS hIC hIM hRL hP hD hS hl kx
  · refine lv_tableIn (off := 1695) (tgt := 1728) hx hb dL_law_33 (by decide) (by decide) (by decide) (by decide) ?_
    exact law_case_54 C0 hLL hiL hK hXS hIC hIM hRL hP hD hS hl kx
  · refine lv_tableIn (off := 1738) (tgt := 1771) hx hb dL_law_33 (by decide) (by decide) (by decide) (by decide) ?_
    exact law_case_55 C0 hLL hiL hK hXS hIC hIM hRL hP hD hS hl kx
  · refine lv_tableIn (off := 1771) (tgt := 1804) hx hb dL_law_33 (by decide) (by decide) (by decide) (by decide) ?_
    exact law_case_56 C0 hLL hiL hK hXS hIC hIM hRL hP hD hS hl kx
  · refine lv_tableIn (off := 1794) (tgt := 1827) hx hb dL_law_33 (by decide) (by decide) (by decide) (by decide) ?_
    exact law_case_57 C0 hLL hiL hK hXS hIC hIM hRL hP hD hS hl kx
  · refine lv_tableIn (off := 1827) (tgt := 1860) hx hb dL_law_33 (by decide) (by decide) (by decide) (by decide) ?_
    exact law_case_58 C0 hLL hiL hK hXS hIC hIM hRL hP hD hS hl kx
  · refine lv_tableIn (off := 1860) (tgt := 1893) hx hb dL_law_33 (by decide) (by decide) (by decide) (by decide) ?_
    exact law_case_59 C0 hLL hiL hK hXS hIC hIM hRL hP hD hS hl kx
set_option maxHeartbeats 4000000 in
set_option maxRecDepth 100000 in
theorem law_sw_60 {p : Program} {l : Launch} {e : Env} {s : State} {m : MethodId} {below : List Frame} {meth : Method} {c : Code} {D : va_G} {C : Nat → ClassId} {b L i : Nat} {xs : Nat → Int32} {A B adK adV : Nat → Nat} {u v : St} {H : Heap} {locs : List Loc} {ls : Array Slot} (C0 : lw_At p s m meth c b L xs) (hLL : L ≤ 3072) (hiL : i + 6 ≤ L) (hK : va_K D vwCl (tyl C) s) (hXS : XS adK adV (fun q : Nat => s.heap.size ≤ q) s) (hIC : IC u) (hIM : IM v) (hRL : RLt u v) (hP : va_P D vwCl (cw C A u ++ mw C B v) H) (hD : va_D (fun q : Nat => s.heap.size ≤ q) (cw C A u ++ mw C B v)) (hS : va_S (fun q : Nat => s.heap.size ≤ q) s.heap H locs) (hl : lv_has ls 4 [(3, .int (nI i)), (2, .ref (B 0)), (1, .ref (A 0)), (0, .ref b)])
    (kx : ∀ (u v : St) (H : Heap) (locs : List Loc) (ls : Array Slot), IC u → IM v → RLt u v → va_P D vwCl (cw C A u ++ mw C B v) H → va_D (fun q : Nat => s.heap.size ≤ q) (cw C A u ++ mw C B v) → va_S (fun q : Nat => s.heap.size ≤ q) s.heap H locs → lv_has ls 4 [(3, .int (nI i)), (2, .ref (B 0)), (1, .ref (A 0)), (0, .ref b)] → W p l e room_1 s m #[Value.ref b] below meth c H locs 180 4779 (lw_Z below #[Value.ref b] s) (F0 m 2362 ls [])) (j : Nat) (h0 : 60 ≤ j) (h1 : j < 72) : W p l e room_1 s m #[Value.ref b] below meth c H locs 180 4779 (lw_Z below #[Value.ref b] s) (F0 m 33 ls [.int (nI j)]) := by
  have hx := C0.1
  have hb : c.code = cL_law := C0.2.1
  rcases (show j = 60 ∨ j = 61 ∨ j = 62 ∨ j = 63 ∨ j = 64 ∨ j = 65 ∨ j = 66 ∨ j = 67 ∨ j = 68 ∨ j = 69 ∨ j = 70 ∨ j = 71 by omega) with rfl | rfl | rfl | rfl | rfl | rfl | rfl | rfl | rfl | rfl | rfl | rfl
  · refine lv_tableIn (off := 1893) (tgt := 1926) hx hb dL_law_33 (by decide) (by decide) (by decide) (by decide) ?_
    exact law_case_60 C0 hLL hiL hK hXS hIC hIM hRL hP hD hS hl kx
  · refine lv_tableIn (off := 1936) (tgt := 1969) hx hb dL_law_33 (by decide) (by decide) (by decide) (by decide) ?_
    exact law_case_61 C0 hLL hiL hK hXS hIC hIM hRL hP hD hS hl kx
  · refine lv_tableIn (off := 1949) (tgt := 1982) hx hb dL_law_33 (by decide) (by decide) (by decide) (by decide) ?_
    exact law_case_62 C0 hLL hiL hK hXS hIC hIM hRL hP hD hS hl kx
  · refine lv_tableIn (off := 1962) (tgt := 1995) hx hb dL_law_33 (by decide) (by decide) (by decide) (by decide) ?_
    exact law_case_63 C0 hLL hiL hK hXS hIC hIM hRL hP hD hS hl kx
  · refine lv_tableIn (off := 1995) (tgt := 2028) hx hb dL_law_33 (by decide) (by decide) (by decide) (by decide) ?_
    exact law_case_64 C0 hLL hiL hK hXS hIC hIM hRL hP hD hS hl kx
  · refine lv_tableIn (off := 2048) (tgt := 2081) hx hb dL_law_33 (by decide) (by decide) (by decide) (by decide) ?_
    exact law_case_65 C0 hLL hiL hK hXS hIC hIM hRL hP hD hS hl kx
  · refine lv_tableIn (off := 2081) (tgt := 2114) hx hb dL_law_33 (by decide) (by decide) (by decide) (by decide) ?_
    exact law_case_66 C0 hLL hiL hK hXS hIC hIM hRL hP hD hS hl kx
  · refine lv_tableIn (off := 2104) (tgt := 2137) hx hb dL_law_33 (by decide) (by decide) (by decide) (by decide) ?_
    exact law_case_67 C0 hLL hiL hK hXS hIC hIM hRL hP hD hS hl kx
  · refine lv_tableIn (off := 2127) (tgt := 2160) hx hb dL_law_33 (by decide) (by decide) (by decide) (by decide) ?_
    exact law_case_68 C0 hLL hiL hK hXS hIC hIM hRL hP hD hS hl kx
  · refine lv_tableIn (off := 2150) (tgt := 2183) hx hb dL_law_33 (by decide) (by decide) (by decide) (by decide) ?_
    exact law_case_69 C0 hLL hiL hK hXS hIC hIM hRL hP hD hS hl kx
  · refine lv_tableIn (off := 2193) (tgt := 2226) hx hb dL_law_33 (by decide) (by decide) (by decide) (by decide) ?_
    exact law_case_70 C0 hLL hiL hK hXS hIC hIM hRL hP hD hS hl kx
  · refine lv_tableIn (off := 2266) (tgt := 2299) hx hb dL_law_33 (by decide) (by decide) (by decide) (by decide) ?_
    exact law_case_71 C0 hLL hiL hK hXS hIC hIM hRL hP hD hS hl kx
set_option maxHeartbeats 4000000 in
set_option maxRecDepth 100000 in
theorem law_sw {p : Program} {l : Launch} {e : Env} {s : State} {m : MethodId} {below : List Frame} {meth : Method} {c : Code} {D : va_G} {C : Nat → ClassId} {b L i : Nat} {xs : Nat → Int32} {A B adK adV : Nat → Nat} {u v : St} {H : Heap} {locs : List Loc} {ls : Array Slot} (C0 : lw_At p s m meth c b L xs) (hLL : L ≤ 3072) (hiL : i + 6 ≤ L) (hK : va_K D vwCl (tyl C) s) (hXS : XS adK adV (fun q : Nat => s.heap.size ≤ q) s) (hIC : IC u) (hIM : IM v) (hRL : RLt u v) (hP : va_P D vwCl (cw C A u ++ mw C B v) H) (hD : va_D (fun q : Nat => s.heap.size ≤ q) (cw C A u ++ mw C B v)) (hS : va_S (fun q : Nat => s.heap.size ≤ q) s.heap H locs) (hl : lv_has ls 4 [(3, .int (nI i)), (2, .ref (B 0)), (1, .ref (A 0)), (0, .ref b)])
    (kx : ∀ (u v : St) (H : Heap) (locs : List Loc) (ls : Array Slot), IC u → IM v → RLt u v → va_P D vwCl (cw C A u ++ mw C B v) H → va_D (fun q : Nat => s.heap.size ≤ q) (cw C A u ++ mw C B v) → va_S (fun q : Nat => s.heap.size ≤ q) s.heap H locs → lv_has ls 4 [(3, .int (nI i)), (2, .ref (B 0)), (1, .ref (A 0)), (0, .ref b)] → W p l e room_1 s m #[Value.ref b] below meth c H locs 180 4779 (lw_Z below #[Value.ref b] s) (F0 m 2362 ls [])) (j : Nat) (h1 : j < 128) : W p l e room_1 s m #[Value.ref b] below meth c H locs 180 4779 (lw_Z below #[Value.ref b] s) (F0 m 33 ls [.int (nI j)]) := by
  have hx := C0.1
  have hb : c.code = cL_law := C0.2.1
  by_cases h12 : j < 12
  · exact law_sw_0 C0 hLL hiL hK hXS hIC hIM hRL hP hD hS hl kx j (by omega) h12
  by_cases h24 : j < 24
  · exact law_sw_12 C0 hLL hiL hK hXS hIC hIM hRL hP hD hS hl kx j (by omega) h24
  by_cases h36 : j < 36
  · exact law_sw_24 C0 hLL hiL hK hXS hIC hIM hRL hP hD hS hl kx j (by omega) h36
  by_cases h48 : j < 48
  · exact law_sw_36 C0 hLL hiL hK hXS hIC hIM hRL hP hD hS hl kx j (by omega) h48
  by_cases h60 : j < 60
  · exact law_sw_48 C0 hLL hiL hK hXS hIC hIM hRL hP hD hS hl kx j (by omega) h60
  by_cases h72 : j < 72
  · exact law_sw_60 C0 hLL hiL hK hXS hIC hIM hRL hP hD hS hl kx j (by omega) h72
  refine lv_tableOut (tgt := 2362) hx hb dL_law_33 (Or.inr (by rw [nI_toInt (by omega)]; omega)) (by decide) ?_
  exact kx u v H locs ls hIC hIM hRL hP hD hS hl
set_option maxHeartbeats 4000000 in
set_option maxRecDepth 100000 in
theorem law_loop {p : Program} {l : Launch} {e : Env} {s : State} {m : MethodId} {below : List Frame} {meth : Method} {c : Code} {D : va_G} {C : Nat → ClassId} {b L : Nat} {xs : Nat → Int32} {A B adK adV : Nat → Nat} (C0 : lw_At p s m meth c b L xs) (hLL : L ≤ 3072) (hK : va_K D vwCl (tyl C) s) (hXS : XS adK adV (fun q : Nat => s.heap.size ≤ q) s) : ∀ (n i : Nat) (u v : St) (H : Heap) (locs : List Loc) (ls : Array Slot), i ≤ 3072 → L < i + n → IC u → IM v → RLt u v → va_P D vwCl (cw C A u ++ mw C B v) H → va_D (fun q : Nat => s.heap.size ≤ q) (cw C A u ++ mw C B v) → va_S (fun q : Nat => s.heap.size ≤ q) s.heap H locs → lv_has ls 4 [(3, .int (nI i)), (2, .ref (B 0)), (1, .ref (A 0)), (0, .ref b)] → W p l e room_1 s m #[Value.ref b] below meth c H locs 180 4779 (lw_Z below #[Value.ref b] s) (F0 m 18 ls []) := by
  obtain ⟨hx, hb, hr, hml, hown, hts, hX, hbl, hlocks, hgv⟩ := id C0
  have hbc : c.code = code := hb
  have hb : c.code = cL_law := hb
  have hbA : ¬ (fun q : Nat => s.heap.size ≤ q) b := Nat.not_le.mpr hbl
  intro n
  induction n with
  | zero =>
    intro i u v H locs ls hi hn hIC hIM hRL hP hD hS hl
    have hni : (nI i).toInt = (i : Int) := nI_toInt (by omega)
    have hnL : (Int32.ofNat L).toInt = (L : Int) := nI_toInt (by omega)
    refine lv_iload_n hx hb dL_law_18 rfl (lv_at hl 0 rfl) ?_
    refine lv_aload_n hx hb dL_law_19 rfl (lv_at hl 3 rfl) ?_
    refine va_slen hx hb hX hbl hbA hS dL_law_20 ?_
    refine lv_bipush (v := 6) hx hb dL_law_21 (by decide) ?_
    refine lv_isub hx hb dL_law_23 ?_
    refine p_nm (tt_sub (X := (L : Int)) (Y := 6) hnL (by decide) (by omega) (by omega)) (fun z hz => ?_)
    refine lv_icmp_gt (tgt := 2368) hx hb dL_law_24 (by decide) (fun c1 => ?_) (fun c1 => absurd (cNLT hz hni c1) (by omega))
    refine lv_iconst (v := 1) hx hb dL_law_2368 (by decide) ?_
    refine va_forget (fun q hq => hS.2.2 q hq) ?_
    refine W.widen (k := 600000) (n := 7302250) (Nat.le_of_ble_eq_true rfl) (Nat.le_of_ble_eq_true rfl) ?_
    exact lw_ret hx hbc hr hlocks dL_law_2369
  | succ n ih =>
    intro i u v H locs ls hi hn hIC hIM hRL hP hD hS hl
    have hni : (nI i).toInt = (i : Int) := nI_toInt (by omega)
    have hnL : (Int32.ofNat L).toInt = (L : Int) := nI_toInt (by omega)
    refine lv_iload_n hx hb dL_law_18 rfl (lv_at hl 0 rfl) ?_
    refine lv_aload_n hx hb dL_law_19 rfl (lv_at hl 3 rfl) ?_
    refine va_slen hx hb hX hbl hbA hS dL_law_20 ?_
    refine lv_bipush (v := 6) hx hb dL_law_21 (by decide) ?_
    refine lv_isub hx hb dL_law_23 ?_
    refine p_nm (tt_sub (X := (L : Int)) (Y := 6) hnL (by decide) (by omega) (by omega)) (fun z hz => ?_)
    refine lv_icmp_gt (tgt := 2368) hx hb dL_law_24 (by decide) (fun c1 => ?_) (fun c1 => ?_)
    · refine lv_iconst (v := 1) hx hb dL_law_2368 (by decide) ?_
      refine va_forget (fun q hq => hS.2.2 q hq) ?_
      refine W.widen (k := 600000) (n := 7302250) (Nat.le_of_ble_eq_true rfl) (Nat.le_of_ble_eq_true rfl) ?_
      exact lw_ret hx hbc hr hlocks dL_law_2369
    · have c1 := cNLT hz hni c1
      have hiL : i + 6 ≤ L := by omega
      refine lv_aload_n hx hb dL_law_27 rfl (lv_at hl 3 rfl) ?_
      refine lv_iload_n hx hb dL_law_28 rfl (lv_at hl 0 rfl) ?_
      refine va_sld hx hb hX hbl hbA hS (i_ix hni (by omega) (by omega)) dL_law_29 ?_
      refine lv_bipush (v := 127) hx hb dL_law_30 (by decide) ?_
      refine lv_iand hx hb dL_law_32 ?_
      obtain ⟨j, hj, hje⟩ := pk_andE (xs (Int32.toNatClampNeg (nI i))) (m := 127) 7 (by decide)
      refine pv_i hje ?_
      refine law_sw C0 hLL hiL hK hXS hIC hIM hRL hP hD hS hl (fun u v H locs ls hIC hIM hRL hP hD hS hl => ?_) j (by omega)
      refine lv_iinc (v := nI (i + 6)) (lv' := [(3, .int (nI (i + 6))), (2, .ref (B 0)), (1, .ref (A 0)), (0, .ref b)]) hx hb dL_law_2362 hl (k := 0) rfl (i_lit (X := (i : Int) + 6) (tt_add hni (by decide) (by omega) (by omega)) (by rw [nI_toInt (by omega)]; omega)) (by decide) rfl (fun ls hl => ?_)
      refine lv_goto (tgt := 18) hx hb dL_law_2365 (by decide) ?_
      exact ih (i + 6) u v H locs ls (by omega) (by omega) hIC hIM hRL hP hD hS hl
