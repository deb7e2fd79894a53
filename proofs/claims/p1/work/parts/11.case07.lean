set_option maxHeartbeats 4000000 in
set_option maxRecDepth 100000 in
theorem law_case_50 {p : Program} {l : Launch} {e : Env} {s : State} {m : MethodId} {below : List Frame} {meth : Method} {c : Code} {D : va_G} {cB cI cJ cZ cT cR : ClassId} {b : Nat} {xs : Nat → Int32} {A B : Nat → Nat} {H : Heap} {locs : List Loc} {ls : Array Slot} (C0 : lw_At p s m meth c b 6 xs) (hE : EX s) (hK : va_K D vwCl [(cB, .byte), (cI, .int), (cJ, .long), (cZ, .boolean), (cT, .object RX7), (cR, .object RX3)] s) (hP : va_P D vwCl (fwAll cB cI cJ cZ cT cR A B) H) (hD : va_D (fun q : Nat => s.heap.size ≤ q) (fwAll cB cI cJ cZ cT cR A B)) (hS : va_S (fun q : Nat => s.heap.size ≤ q) s.heap H locs) (hl : lv_has ls 4 [(3, .int 0), (2, .ref (B 0)), (1, .ref (A 0)), (0, .ref b)]) : W p l e room_1 s m #[Value.ref b] below meth c H locs 180 4779 (lw_Z below #[Value.ref b] s) (F0 m 1636 ls []) := by
  obtain ⟨hx, hb, hr, hml, hown, hts, hX, hbl, hlocks, hgv⟩ := id C0
  have hown : s.vm.findClass RL = some m.cls := hown
  have hb : c.code = cL_law := hb
  have hA : ∀ q : Nat, s.heap.size ≤ q → (fun q : Nat => s.heap.size ≤ q) q := fun _ h => h
  have hbA : ¬ (fun q : Nat => s.heap.size ≤ q) b := Nat.not_le.mpr hbl
  have hP := hP.sub (ws' := [((A 0), .inr (9, [.ref (A 1), .ref (A 3), .ref (A 12), .ref (A 21), .int 0, .ref (A 49), .ref (A 51), .ref (A 60), .ref (A 61), .ref (A 62), .ref (A 63), .ref (A 64)])), ((A 3), .inr (7, [.int 0, .int 0, .int 0, .int 0, .int 0, .int 0, .int 0, .int 0, .ref (A 4), .ref (A 5), .ref (A 6), .ref (A 7), .ref (A 8), .ref (A 9), .ref (A 10), .ref (A 11)])), ((B 0), .inr (10, [.int 0, .ref (B 1), .ref (B 2), .ref (B 3), .ref (B 4), .ref (B 5), .int 0, .int 0, .int 0, .int 0, .int 0, .long 0, .int 0, .int 0, .int 0, .int (-1), .ref (B 6), .ref (B 7), .ref (B 8), .ref (B 9), .ref (B 10), .ref (B 11), .ref (B 12), .ref (B 13), .int 0, .int 0, .ref (B 14), .ref (B 15), .int 0, .int 0, .int 0, .ref (B 16), .ref (B 17), .int 0, .int 0, .int 0, .int 0, .int 0, .ref (B 18), .int 0, .int 0, .int 0])), ((B 6), .inl (cI, 5, .inl (fun _ => 0)))]) [0, 3, 60, 66] rfl
  have hD := hD.sub (ws' := [((A 0), .inr (9, [.ref (A 1), .ref (A 3), .ref (A 12), .ref (A 21), .int 0, .ref (A 49), .ref (A 51), .ref (A 60), .ref (A 61), .ref (A 62), .ref (A 63), .ref (A 64)])), ((A 3), .inr (7, [.int 0, .int 0, .int 0, .int 0, .int 0, .int 0, .int 0, .int 0, .ref (A 4), .ref (A 5), .ref (A 6), .ref (A 7), .ref (A 8), .ref (A 9), .ref (A 10), .ref (A 11)])), ((B 0), .inr (10, [.int 0, .ref (B 1), .ref (B 2), .ref (B 3), .ref (B 4), .ref (B 5), .int 0, .int 0, .int 0, .int 0, .int 0, .long 0, .int 0, .int 0, .int 0, .int (-1), .ref (B 6), .ref (B 7), .ref (B 8), .ref (B 9), .ref (B 10), .ref (B 11), .ref (B 12), .ref (B 13), .int 0, .int 0, .ref (B 14), .ref (B 15), .int 0, .int 0, .int 0, .ref (B 16), .ref (B 17), .int 0, .int 0, .int 0, .int 0, .int 0, .ref (B 18), .int 0, .int 0, .int 0])), ((B 6), .inl (cI, 5, .inl (fun _ => 0)))]) [0, 3, 60, 66] rfl rfl
  refine lv_aload_n hx hb dL_law_1636 rfl (lv_at hl 2 rfl) ?_
  refine lv_aload_n hx hb dL_law_1637 rfl (lv_at hl 3 rfl) ?_
  refine lv_iload_n hx hb dL_law_1638 rfl (lv_at hl 0 rfl) ?_
  refine lv_iconst (v := 1) hx hb dL_law_1639 (by decide) ?_
  refine lv_iadd hx hb dL_law_1640 ?_
  refine pv_i (v := 1) (by decide) ?_
  refine va_sld hx hb hX hbl hbA hS (vp_in_iff.mpr ⟨by decide, by decide⟩) dL_law_1641 ?_
  refine lv_topi (fun p1 ep1 => ?_)
  by_cases hc1 : 0 ≤ p1 ∧ p1 ≤ 3
  · refine cvR (n := 1) (As := [.int p1]) (rest := []) ⟨hx, hb, hml, hown, hts⟩ (fun _ h => uw_in h) (kX9_surely_0 l D cB cI cJ cZ cT cR (A 0) (A 3) (A 1) (A 12) (A 21) (A 49) (A 51) (A 60) (A 61) (A 62) (A 63) (A 64) (A 4) (A 5) (A 6) (A 7) (A 8) (A 9) (A 10) (A 11) p1 hc1) q_m1019 q_n1020 q_e1021 q_i1 q_c1022 (by decide +kernel) ⟨(Nat.le_of_ble_eq_true rfl), (Nat.le_of_ble_eq_true rfl)⟩ ⟨(Nat.le_of_ble_eq_true rfl), (Nat.le_of_ble_eq_true rfl)⟩ hK (hP.sub (ws' := [((A 0), .inr (9, [.ref (A 1), .ref (A 3), .ref (A 12), .ref (A 21), .int 0, .ref (A 49), .ref (A 51), .ref (A 60), .ref (A 61), .ref (A 62), .ref (A 63), .ref (A 64)])), ((A 3), .inr (7, [.int 0, .int 0, .int 0, .int 0, .int 0, .int 0, .int 0, .int 0, .ref (A 4), .ref (A 5), .ref (A 6), .ref (A 7), .ref (A 8), .ref (A 9), .ref (A 10), .ref (A 11)]))]) [0, 1] rfl) 9 0 rfl rfl rfl hl.1 rfl (Nat.le_of_ble_eq_true rfl) dL_law_1642 ?_
    refine lv_aload_n hx hb dL_law_1645 rfl (lv_at hl 1 rfl) ?_
    refine lv_aload_n hx hb dL_law_1646 rfl (lv_at hl 3 rfl) ?_
    refine lv_iload_n hx hb dL_law_1647 rfl (lv_at hl 0 rfl) ?_
    refine lv_iconst (v := 1) hx hb dL_law_1648 (by decide) ?_
    refine lv_iadd hx hb dL_law_1649 ?_
    refine pv_i (v := 1) (by decide) ?_
    refine va_sld hx hb hX hbl hbA hS (vp_in_iff.mpr ⟨by decide, by decide⟩) dL_law_1650 ?_
    refine pv_i (v := p1) ep1.symm ?_
    refine cvM (n := 1) (As := [.int p1]) (rest := [.int (-2)]) (wr := [((A 0), .inr (9, [.ref (A 1), .ref (A 3), .ref (A 12), .ref (A 21), .int 0, .ref (A 49), .ref (A 51), .ref (A 60), .ref (A 61), .ref (A 62), .ref (A 63), .ref (A 64)])), ((A 3), .inr (7, [.int 0, .int 0, .int 0, .int 0, .int 0, .int 0, .int 0, .int 0, .ref (A 4), .ref (A 5), .ref (A 6), .ref (A 7), .ref (A 8), .ref (A 9), .ref (A 10), .ref (A 11)]))]) ⟨hx, hb, hml, hown, hts⟩ (fun _ h => uw_in h) (kX10_surely_0 l D cB cI cJ cZ cT cR (B 0) (B 6) (B 1) (B 2) (B 3) (B 4) (B 5) (B 7) (B 8) (B 9) (B 10) (B 11) (B 12) (B 13) (B 14) (B 15) (B 16) (B 17) (B 18) p1 hc1 H.size) q_m1804 q_n1805 q_e1806 q_i11 q_c1807 (by decide +kernel) ⟨(Nat.le_of_ble_eq_true rfl), (Nat.le_of_ble_eq_true rfl)⟩ ⟨(Nat.le_of_ble_eq_true rfl), (Nat.le_of_ble_eq_true rfl)⟩ hE hK hP hD hS hA [2, 3] [0, 1] rfl rfl rfl rfl (by decide) 10 0 rfl rfl rfl hl.1 rfl (Nat.le_of_ble_eq_true rfl) dL_law_1651 (fun r9 u H locs hpo hP hD hS => ?_)
    have hP : va_P D vwCl [((A 0), .inr (9, [.ref (A 1), .ref (A 3), .ref (A 12), .ref (A 21), .int 0, .ref (A 49), .ref (A 51), .ref (A 60), .ref (A 61), .ref (A 62), .ref (A 63), .ref (A 64)])), ((A 3), .inr (7, [.int 0, .int 0, .int 0, .int 0, .int 0, .int 0, .int 0, .int 0, .ref (A 4), .ref (A 5), .ref (A 6), .ref (A 7), .ref (A 8), .ref (A 9), .ref (A 10), .ref (A 11)])), ((B 0), .inr (10, [.int 0, .ref (B 1), .ref (B 2), .ref (B 3), .ref (B 4), .ref (B 5), .int 0, .int 0, .int 0, .int 0, .int 0, .long 0, .int 0, .int 0, .int 0, .int (-1), .ref (B 6), .ref (B 7), .ref (B 8), .ref (B 9), .ref (B 10), .ref (B 11), .ref (B 12), .ref (B 13), .int 0, .int 0, .ref (B 14), .ref (B 15), .int 0, .int 0, .int 0, .ref (B 16), .ref (B 17), .int 0, .int 0, .int 0, .int 0, .int 0, .ref (B 18), .int 0, .int 0, .int 0])), ((B 6), .inl (cI, 5, .inl (fun _ => 0)))] H := hP
    have hD : va_D (fun q : Nat => s.heap.size ≤ q) [((A 0), .inr (9, [.ref (A 1), .ref (A 3), .ref (A 12), .ref (A 21), .int 0, .ref (A 49), .ref (A 51), .ref (A 60), .ref (A 61), .ref (A 62), .ref (A 63), .ref (A 64)])), ((A 3), .inr (7, [.int 0, .int 0, .int 0, .int 0, .int 0, .int 0, .int 0, .int 0, .ref (A 4), .ref (A 5), .ref (A 6), .ref (A 7), .ref (A 8), .ref (A 9), .ref (A 10), .ref (A 11)])), ((B 0), .inr (10, [.int 0, .ref (B 1), .ref (B 2), .ref (B 3), .ref (B 4), .ref (B 5), .int 0, .int 0, .int 0, .int 0, .int 0, .long 0, .int 0, .int 0, .int 0, .int (-1), .ref (B 6), .ref (B 7), .ref (B 8), .ref (B 9), .ref (B 10), .ref (B 11), .ref (B 12), .ref (B 13), .int 0, .int 0, .ref (B 14), .ref (B 15), .int 0, .int 0, .int 0, .ref (B 16), .ref (B 17), .int 0, .int 0, .int 0, .int 0, .int 0, .ref (B 18), .int 0, .int 0, .int 0])), ((B 6), .inl (cI, 5, .inl (fun _ => 0)))] := hD
    refine W.cs (cells' := 180) (slots' := 4779) rfl rfl ?_
    have hpo : r9 = (-2) := hpo
    subst hpo
    refine lv_icmp_eq (tgt := 2362) hx hb dL_law_1654 (by decide) (fun _ => ?_) (fun c9 => absurd (by decide) c9)
    exact law_end C0 hS (Nat.le_of_ble_eq_true rfl) (Nat.le_of_ble_eq_true rfl) ls hl
  · refine cvR (n := 1) (As := [.int p1]) (rest := []) ⟨hx, hb, hml, hown, hts⟩ (fun _ h => uw_in h) (kX9_surely_1 l D cB cI cJ cZ cT cR (A 0) (A 1) (A 3) (A 12) (A 21) (A 49) (A 51) (A 60) (A 61) (A 62) (A 63) (A 64) p1 hc1) q_m1019 q_n1020 q_e1021 q_i1 q_c1022 (by decide +kernel) ⟨(Nat.le_of_ble_eq_true rfl), (Nat.le_of_ble_eq_true rfl)⟩ ⟨(Nat.le_of_ble_eq_true rfl), (Nat.le_of_ble_eq_true rfl)⟩ hK (hP.sub (ws' := [((A 0), .inr (9, [.ref (A 1), .ref (A 3), .ref (A 12), .ref (A 21), .int 0, .ref (A 49), .ref (A 51), .ref (A 60), .ref (A 61), .ref (A 62), .ref (A 63), .ref (A 64)]))]) [0] rfl) 9 0 rfl rfl rfl hl.1 rfl (Nat.le_of_ble_eq_true rfl) dL_law_1642 ?_
    refine lv_aload_n hx hb dL_law_1645 rfl (lv_at hl 1 rfl) ?_
    refine lv_aload_n hx hb dL_law_1646 rfl (lv_at hl 3 rfl) ?_
    refine lv_iload_n hx hb dL_law_1647 rfl (lv_at hl 0 rfl) ?_
    refine lv_iconst (v := 1) hx hb dL_law_1648 (by decide) ?_
    refine lv_iadd hx hb dL_law_1649 ?_
    refine pv_i (v := 1) (by decide) ?_
    refine va_sld hx hb hX hbl hbA hS (vp_in_iff.mpr ⟨by decide, by decide⟩) dL_law_1650 ?_
    refine pv_i (v := p1) ep1.symm ?_
    refine cvM (n := 1) (As := [.int p1]) (rest := [.int (-2)]) (wr := [((A 0), .inr (9, [.ref (A 1), .ref (A 3), .ref (A 12), .ref (A 21), .int 0, .ref (A 49), .ref (A 51), .ref (A 60), .ref (A 61), .ref (A 62), .ref (A 63), .ref (A 64)])), ((A 3), .inr (7, [.int 0, .int 0, .int 0, .int 0, .int 0, .int 0, .int 0, .int 0, .ref (A 4), .ref (A 5), .ref (A 6), .ref (A 7), .ref (A 8), .ref (A 9), .ref (A 10), .ref (A 11)])), ((B 6), .inl (cI, 5, .inl (fun _ => 0)))]) ⟨hx, hb, hml, hown, hts⟩ (fun _ h => uw_in h) (kX10_surely_1 l D cB cI cJ cZ cT cR (B 0) (B 1) (B 2) (B 3) (B 4) (B 5) (B 6) (B 7) (B 8) (B 9) (B 10) (B 11) (B 12) (B 13) (B 14) (B 15) (B 16) (B 17) (B 18) p1 hc1 H.size) q_m1804 q_n1805 q_e1806 q_i11 q_c1807 (by decide +kernel) ⟨(Nat.le_of_ble_eq_true rfl), (Nat.le_of_ble_eq_true rfl)⟩ ⟨(Nat.le_of_ble_eq_true rfl), (Nat.le_of_ble_eq_true rfl)⟩ hE hK hP hD hS hA [2] [0, 1, 3] rfl rfl rfl rfl (by decide) 10 0 rfl rfl rfl hl.1 rfl (Nat.le_of_ble_eq_true rfl) dL_law_1651 (fun r9 u H locs hpo hP hD hS => ?_)
    have hP : va_P D vwCl [((A 0), .inr (9, [.ref (A 1), .ref (A 3), .ref (A 12), .ref (A 21), .int 0, .ref (A 49), .ref (A 51), .ref (A 60), .ref (A 61), .ref (A 62), .ref (A 63), .ref (A 64)])), ((A 3), .inr (7, [.int 0, .int 0, .int 0, .int 0, .int 0, .int 0, .int 0, .int 0, .ref (A 4), .ref (A 5), .ref (A 6), .ref (A 7), .ref (A 8), .ref (A 9), .ref (A 10), .ref (A 11)])), ((B 6), .inl (cI, 5, .inl (fun _ => 0))), ((B 0), .inr (10, [.int 0, .ref (B 1), .ref (B 2), .ref (B 3), .ref (B 4), .ref (B 5), .int 0, .int 0, .int 0, .int 0, .int 0, .long 0, .int 0, .int 0, .int 0, .int (-1), .ref (B 6), .ref (B 7), .ref (B 8), .ref (B 9), .ref (B 10), .ref (B 11), .ref (B 12), .ref (B 13), .int 0, .int 0, .ref (B 14), .ref (B 15), .int 0, .int 0, .int 0, .ref (B 16), .ref (B 17), .int 0, .int 0, .int 0, .int 0, .int 0, .ref (B 18), .int 0, .int 0, .int 0]))] H := hP
    have hD : va_D (fun q : Nat => s.heap.size ≤ q) [((A 0), .inr (9, [.ref (A 1), .ref (A 3), .ref (A 12), .ref (A 21), .int 0, .ref (A 49), .ref (A 51), .ref (A 60), .ref (A 61), .ref (A 62), .ref (A 63), .ref (A 64)])), ((A 3), .inr (7, [.int 0, .int 0, .int 0, .int 0, .int 0, .int 0, .int 0, .int 0, .ref (A 4), .ref (A 5), .ref (A 6), .ref (A 7), .ref (A 8), .ref (A 9), .ref (A 10), .ref (A 11)])), ((B 6), .inl (cI, 5, .inl (fun _ => 0))), ((B 0), .inr (10, [.int 0, .ref (B 1), .ref (B 2), .ref (B 3), .ref (B 4), .ref (B 5), .int 0, .int 0, .int 0, .int 0, .int 0, .long 0, .int 0, .int 0, .int 0, .int (-1), .ref (B 6), .ref (B 7), .ref (B 8), .ref (B 9), .ref (B 10), .ref (B 11), .ref (B 12), .ref (B 13), .int 0, .int 0, .ref (B 14), .ref (B 15), .int 0, .int 0, .int 0, .ref (B 16), .ref (B 17), .int 0, .int 0, .int 0, .int 0, .int 0, .ref (B 18), .int 0, .int 0, .int 0]))] := hD
    refine W.cs (cells' := 180) (slots' := 4779) rfl rfl ?_
    have hpo : r9 = (-2) := hpo
    subst hpo
    refine lv_icmp_eq (tgt := 2362) hx hb dL_law_1654 (by decide) (fun _ => ?_) (fun c9 => absurd (by decide) c9)
    exact law_end C0 hS (Nat.le_of_ble_eq_true rfl) (Nat.le_of_ble_eq_true rfl) ls hl
set_option maxHeartbeats 4000000 in
set_option maxRecDepth 100000 in
theorem kX9_ask_0 (l : Launch) (D : va_G) (cB cI cJ cZ cT cR : ClassId) (a0 a1 a2 a3 a4 a5 a6 a7 a8 a9 a10 a11 a12 a13 a14 a15 a16 a17 a18 a19 : Nat) (x0 : Int32) (hy0 : 0 ≤ x0 ∧ x0 ≤ 3) : Met l yX9_ask (uc yX9_ask cX9_ask 3 (some .int)) (rmL 5 0 0) (va_Pc [.ref a0, .int x0] (RPre D [(cB, .byte), (cI, .int), (cJ, .long), (cZ, .boolean), (cT, .object RX7), (cR, .object RX3)] [(a0, .inr (9, [.ref a2, .ref a1, .ref a3, .ref a4, .int 0, .ref a5, .ref a6, .ref a7, .ref a8, .ref a9, .ref a10, .ref a11])), (a1, .inr (7, [.int 0, .int 0, .int 0, .int 0, .int 0, .int 0, .int 0, .int 0, .ref a12, .ref a13, .ref a14, .ref a15, .ref a16, .ref a17, .ref a18, .ref a19]))])) (QcRead (-2)) 0 0 (fun _ => False) := by
  refine pm (by decide) (Nat.le_of_ble_eq_true rfl) ?_
  intro p e s m below meth c ls hx hb hr hml hown hlk hnm hts hv hl
  have hown : s.vm.findClass RX9 = some m.cls := hown
  have hl : lv_has ls 3 [(0, .ref a0), (1, .int x0)] := hl
  obtain ⟨hP, hK⟩ := hv
  refine lv_aload_n hx hb dX9_ask_0 rfl (lv_at hl 0 rfl) ?_
  refine lv_iload_n hx hb dX9_ask_1 rfl (lv_at hl 1 rfl) ?_
  refine cvR (n := 1) (As := [.int x0]) (rest := []) ⟨hx, hb, hml, hown, hts⟩ uc_in (kX9_seekAway_0 l D cB cI cJ cZ cT cR a0 a1 a2 a3 a4 a5 a6 a7 a8 a9 a10 a11 a12 a13 a14 a15 a16 a17 a18 a19 x0 hy0) q_m987 q_n989 q_p40 q_i1 q_c990 (by decide +kernel) ⟨(Nat.le_of_ble_eq_true rfl), (Nat.le_of_ble_eq_true rfl)⟩ ⟨(Nat.le_of_ble_eq_true rfl), (Nat.le_of_ble_eq_true rfl)⟩ hK (hP.sub (ws' := [(a0, .inr (9, [.ref a2, .ref a1, .ref a3, .ref a4, .int 0, .ref a5, .ref a6, .ref a7, .ref a8, .ref a9, .ref a10, .ref a11])), (a1, .inr (7, [.int 0, .int 0, .int 0, .int 0, .int 0, .int 0, .int 0, .int 0, .ref a12, .ref a13, .ref a14, .ref a15, .ref a16, .ref a17, .ref a18, .ref a19]))]) [0, 1] rfl) 9 0 rfl rfl rfl hl.1 rfl (Nat.le_of_ble_eq_true rfl) dX9_ask_2 ?_
  refine lv_istore_n (lv' := [(2, .int (-2)), (0, .ref a0), (1, .int x0)]) hx hb dX9_ask_5 rfl hl (by decide) rfl (fun ls hl => ?_)
  refine lv_iload_n hx hb dX9_ask_6 rfl (lv_at hl 0 rfl) ?_
  refine lv_if_ne (tgt := 20) hx hb dX9_ask_7 (by decide) (fun _ => ?_) (fun c9 => absurd c9 (by decide))
  refine lv_iload_n hx hb dX9_ask_20 rfl (lv_at hl 0 rfl) ?_
  exact W.iret hx hb hr (fun t ht _ => ⟨rfl, ht⟩) (fun _ h => by cases h) dX9_ask_21
set_option maxHeartbeats 4000000 in
set_option maxRecDepth 100000 in
theorem kX10_ask_0 (l : Launch) (D : va_G) (cB cI cJ cZ cT cR : ClassId) (a0 a1 a2 a3 a4 a5 a6 a7 a8 a9 a10 a11 a12 a13 a14 a15 a16 a17 a18 : Nat) (x0 : Int32) (hy0 : 0 ≤ x0 ∧ x0 ≤ 3) (sz : Nat) : Met l yX10_ask (uc yX10_ask cX10_ask 7 (some .int)) (rmL 4 0 0) (va_Pc [.ref a0, .int x0] (MPre D [(cB, .byte), (cI, .int), (cJ, .long), (cZ, .boolean), (cT, .object RX7), (cR, .object RX3)] [(a0, .inr (10, [.int 0, .ref a2, .ref a3, .ref a4, .ref a5, .ref a6, .int 0, .int 0, .int 0, .int 0, .int 0, .long 0, .int 0, .int 0, .int 0, .int (-1), .ref a1, .ref a7, .ref a8, .ref a9, .ref a10, .ref a11, .ref a12, .ref a13, .int 0, .int 0, .ref a14, .ref a15, .int 0, .int 0, .int 0, .ref a16, .ref a17, .int 0, .int 0, .int 0, .int 0, .int 0, .ref a18, .int 0, .int 0, .int 0])), (a1, .inl (cI, 5, .inl (fun _ => 0)))] sz)) (va_Qi (fun (r : Int32) (_ : Unit) => r = (-2)) (MB D [(cB, .byte), (cI, .int), (cJ, .long), (cZ, .boolean), (cT, .object RX7), (cR, .object RX3)] [(a0, .inr (10, [.int 0, .ref a2, .ref a3, .ref a4, .ref a5, .ref a6, .int 0, .int 0, .int 0, .int 0, .int 0, .long 0, .int 0, .int 0, .int 0, .int (-1), .ref a1, .ref a7, .ref a8, .ref a9, .ref a10, .ref a11, .ref a12, .ref a13, .int 0, .int 0, .ref a14, .ref a15, .int 0, .int 0, .int 0, .ref a16, .ref a17, .int 0, .int 0, .int 0, .int 0, .int 0, .ref a18, .int 0, .int 0, .int 0])), (a1, .inl (cI, 5, .inl (fun _ => 0)))] sz (fun (u : Unit) => [(a0, .inr (10, [.int 0, .ref a2, .ref a3, .ref a4, .ref a5, .ref a6, .int 0, .int 0, .int 0, .int 0, .int 0, .long 0, .int 0, .int 0, .int 0, .int (-1), .ref a1, .ref a7, .ref a8, .ref a9, .ref a10, .ref a11, .ref a12, .ref a13, .int 0, .int 0, .ref a14, .ref a15, .int 0, .int 0, .int 0, .ref a16, .ref a17, .int 0, .int 0, .int 0, .int 0, .int 0, .ref a18, .int 0, .int 0, .int 0])), (a1, .inl (cI, 5, .inl (fun _ => 0)))])) (va_A [(a0, .inr (10, [.int 0, .ref a2, .ref a3, .ref a4, .ref a5, .ref a6, .int 0, .int 0, .int 0, .int 0, .int 0, .long 0, .int 0, .int 0, .int 0, .int (-1), .ref a1, .ref a7, .ref a8, .ref a9, .ref a10, .ref a11, .ref a12, .ref a13, .int 0, .int 0, .ref a14, .ref a15, .int 0, .int 0, .int 0, .ref a16, .ref a17, .int 0, .int 0, .int 0, .int 0, .int 0, .ref a18, .int 0, .int 0, .int 0])), (a1, .inl (cI, 5, .inl (fun _ => 0)))] sz)) 0 0 (va_A [(a0, .inr (10, [.int 0, .ref a2, .ref a3, .ref a4, .ref a5, .ref a6, .int 0, .int 0, .int 0, .int 0, .int 0, .long 0, .int 0, .int 0, .int 0, .int (-1), .ref a1, .ref a7, .ref a8, .ref a9, .ref a10, .ref a11, .ref a12, .ref a13, .int 0, .int 0, .ref a14, .ref a15, .int 0, .int 0, .int 0, .ref a16, .ref a17, .int 0, .int 0, .int 0, .int 0, .int 0, .ref a18, .int 0, .int 0, .int 0])), (a1, .inl (cI, 5, .inl (fun _ => 0)))] sz) := by
  refine pm (by decide) (Nat.le_of_ble_eq_true rfl) ?_
  intro p e s m below meth c ls hx hb hr hml hown hlk hnm hts hv hl
  have hown : s.vm.findClass RX10 = some m.cls := hown
  have hl : lv_has ls 7 [(0, .ref a0), (1, .int x0)] := hl
  obtain ⟨hsz, hP, hK, hD0, hE⟩ := hv
  subst hsz
  have hD := hD0.self (sz := s.heap.size)
  obtain ⟨AA, hAe⟩ : ∃ AA, AA = va_A [(a0, .inr (10, [.int 0, .ref a2, .ref a3, .ref a4, .ref a5, .ref a6, .int 0, .int 0, .int 0, .int 0, .int 0, .long 0, .int 0, .int 0, .int 0, .int (-1), .ref a1, .ref a7, .ref a8, .ref a9, .ref a10, .ref a11, .ref a12, .ref a13, .int 0, .int 0, .ref a14, .ref a15, .int 0, .int 0, .int 0, .ref a16, .ref a17, .int 0, .int 0, .int 0, .int 0, .int 0, .ref a18, .int 0, .int 0, .int 0])), (a1, .inl (cI, 5, .inl (fun _ => 0)))] s.heap.size := ⟨_, rfl⟩
  rw [← hAe] at hD
  have hA : ∀ q : Nat, s.heap.size ≤ q → AA q := fun q h => by rw [hAe]; exact Or.inr h
  have hS : va_S AA s.heap s.heap [] := va_S.rf
  obtain ⟨-, hAOT, hAOR, hAOI⟩ := id hE
  refine lv_aload_n hx hb dX10_ask_0 rfl (lv_at hl 0 rfl) ?_
  refine lv_iconst (v := 0) hx hb dX10_ask_1 (by decide) ?_
  refine va_put (D := D) (ci := 10) (v := .int 0) (ty := .int) (C := RX10) (T := TX10) (N := 42) hx hb hts (fun w h => uc_in w (inX10 w h)) tyX10 tyX10_ok nmX10 hown hK hP hD hS 0 rfl rfl 0 (by decide) (hts _ (uc_in _ q_f1188)) (fun _ h9 => h9) rfl (by decide +kernel) rfl rfl (Nat.le_of_ble_eq_true rfl) dX10_ask_2 (fun H locs hP hD hS => ?_)
  have hP : va_P D vwCl [(a0, .inr (10, [.int 0, .ref a2, .ref a3, .ref a4, .ref a5, .ref a6, .int 0, .int 0, .int 0, .int 0, .int 0, .long 0, .int 0, .int 0, .int 0, .int (-1), .ref a1, .ref a7, .ref a8, .ref a9, .ref a10, .ref a11, .ref a12, .ref a13, .int 0, .int 0, .ref a14, .ref a15, .int 0, .int 0, .int 0, .ref a16, .ref a17, .int 0, .int 0, .int 0, .int 0, .int 0, .ref a18, .int 0, .int 0, .int 0])), (a1, .inl (cI, 5, .inl (fun _ => 0)))] H := hP
  have hD : va_D AA [(a0, .inr (10, [.int 0, .ref a2, .ref a3, .ref a4, .ref a5, .ref a6, .int 0, .int 0, .int 0, .int 0, .int 0, .long 0, .int 0, .int 0, .int 0, .int (-1), .ref a1, .ref a7, .ref a8, .ref a9, .ref a10, .ref a11, .ref a12, .ref a13, .int 0, .int 0, .ref a14, .ref a15, .int 0, .int 0, .int 0, .ref a16, .ref a17, .int 0, .int 0, .int 0, .int 0, .int 0, .ref a18, .int 0, .int 0, .int 0])), (a1, .inl (cI, 5, .inl (fun _ => 0)))] := hD
  refine lv_aload_n hx hb dX10_ask_5 rfl (lv_at hl 0 rfl) ?_
  refine lv_iload_n hx hb dX10_ask_6 rfl (lv_at hl 1 rfl) ?_
  refine cvR (n := 1) (As := [.int x0]) (rest := []) ⟨hx, hb, hml, hown, hts⟩ uc_in (kX10_whyNot_0 l D cB cI cJ cZ cT cR a0 a1 a2 a3 a4 a5 a6 a7 a8 a9 a10 a11 a12 a13 a14 a15 a16 a17 a18 x0 hy0) q_m1788 q_n1790 q_p104 q_i11 q_c1791 (by decide +kernel) ⟨(Nat.le_of_ble_eq_true rfl), (Nat.le_of_ble_eq_true rfl)⟩ ⟨(Nat.le_of_ble_eq_true rfl), (Nat.le_of_ble_eq_true rfl)⟩ hK (hP.sub (ws' := [(a0, .inr (10, [.int 0, .ref a2, .ref a3, .ref a4, .ref a5, .ref a6, .int 0, .int 0, .int 0, .int 0, .int 0, .long 0, .int 0, .int 0, .int 0, .int (-1), .ref a1, .ref a7, .ref a8, .ref a9, .ref a10, .ref a11, .ref a12, .ref a13, .int 0, .int 0, .ref a14, .ref a15, .int 0, .int 0, .int 0, .ref a16, .ref a17, .int 0, .int 0, .int 0, .int 0, .int 0, .ref a18, .int 0, .int 0, .int 0])), (a1, .inl (cI, 5, .inl (fun _ => 0)))]) [0, 1] rfl) 10 0 rfl rfl rfl hl.1 rfl (Nat.le_of_ble_eq_true rfl) dX10_ask_7 ?_
  refine lv_istore_n (lv' := [(2, .int (-2)), (0, .ref a0), (1, .int x0)]) hx hb dX10_ask_10 rfl hl (by decide) rfl (fun ls hl => ?_)
  refine lv_iload_n hx hb dX10_ask_11 rfl (lv_at hl 0 rfl) ?_
  refine lv_if_eq (tgt := 17) hx hb dX10_ask_12 (by decide) (fun c9 => absurd c9 (by decide)) (fun _ => ?_)
  refine lv_iload_n hx hb dX10_ask_15 rfl (lv_at hl 0 rfl) ?_
  subst hAe
  have hP9 := hP.sub (ws' := [(a0, .inr (10, [.int 0, .ref a2, .ref a3, .ref a4, .ref a5, .ref a6, .int 0, .int 0, .int 0, .int 0, .int 0, .long 0, .int 0, .int 0, .int 0, .int (-1), .ref a1, .ref a7, .ref a8, .ref a9, .ref a10, .ref a11, .ref a12, .ref a13, .int 0, .int 0, .ref a14, .ref a15, .int 0, .int 0, .int 0, .ref a16, .ref a17, .int 0, .int 0, .int 0, .int 0, .int 0, .ref a18, .int 0, .int 0, .int 0])), (a1, .inl (cI, 5, .inl (fun _ => 0)))]) [0, 1] rfl
  have hD9 := hD.sub (ws' := [(a0, .inr (10, [.int 0, .ref a2, .ref a3, .ref a4, .ref a5, .ref a6, .int 0, .int 0, .int 0, .int 0, .int 0, .long 0, .int 0, .int 0, .int 0, .int (-1), .ref a1, .ref a7, .ref a8, .ref a9, .ref a10, .ref a11, .ref a12, .ref a13, .int 0, .int 0, .ref a14, .ref a15, .int 0, .int 0, .int 0, .ref a16, .ref a17, .int 0, .int 0, .int 0, .int 0, .int 0, .ref a18, .int 0, .int 0, .int 0])), (a1, .inl (cI, 5, .inl (fun _ => 0)))]) [0, 1] rfl rfl
  exact W.iret hx hb hr (fun t ht hW => ⟨⟨(-2), (), rfl, rfl, by rw [ht]; exact hP9, va_K.moved hW.alike hK, hD9⟩, hS.F ht⟩) hS.2.2 dX10_ask_16
set_option maxHeartbeats 4000000 in
set_option maxRecDepth 100000 in
theorem kX9_ask_1 (l : Launch) (D : va_G) (cB cI cJ cZ cT cR : ClassId) (a0 a1 a2 a3 a4 a5 a6 a7 a8 a9 a10 a11 : Nat) (x0 : Int32) (hy0 : ¬ (0 ≤ x0 ∧ x0 ≤ 3)) : Met l yX9_ask (uc yX9_ask cX9_ask 3 (some .int)) (rmL 5 0 0) (va_Pc [.ref a0, .int x0] (RPre D [(cB, .byte), (cI, .int), (cJ, .long), (cZ, .boolean), (cT, .object RX7), (cR, .object RX3)] [(a0, .inr (9, [.ref a1, .ref a2, .ref a3, .ref a4, .int 0, .ref a5, .ref a6, .ref a7, .ref a8, .ref a9, .ref a10, .ref a11]))])) (QcRead (-2)) 0 0 (fun _ => False) := by
  refine pm (by decide) (Nat.le_of_ble_eq_true rfl) ?_
  intro p e s m below meth c ls hx hb hr hml hown hlk hnm hts hv hl
  have hown : s.vm.findClass RX9 = some m.cls := hown
  have hl : lv_has ls 3 [(0, .ref a0), (1, .int x0)] := hl
  obtain ⟨hP, hK⟩ := hv
  refine lv_aload_n hx hb dX9_ask_0 rfl (lv_at hl 0 rfl) ?_
  refine lv_iload_n hx hb dX9_ask_1 rfl (lv_at hl 1 rfl) ?_
  refine cvR (n := 1) (As := [.int x0]) (rest := []) ⟨hx, hb, hml, hown, hts⟩ uc_in (kX9_seekAway_1 l D cB cI cJ cZ cT cR a0 a1 a2 a3 a4 a5 a6 a7 a8 a9 a10 a11 x0 hy0) q_m987 q_n989 q_p40 q_i1 q_c990 (by decide +kernel) ⟨(Nat.le_of_ble_eq_true rfl), (Nat.le_of_ble_eq_true rfl)⟩ ⟨(Nat.le_of_ble_eq_true rfl), (Nat.le_of_ble_eq_true rfl)⟩ hK (hP.sub (ws' := [(a0, .inr (9, [.ref a1, .ref a2, .ref a3, .ref a4, .int 0, .ref a5, .ref a6, .ref a7, .ref a8, .ref a9, .ref a10, .ref a11]))]) [0] rfl) 9 0 rfl rfl rfl hl.1 rfl (Nat.le_of_ble_eq_true rfl) dX9_ask_2 ?_
  refine lv_istore_n (lv' := [(2, .int (-2)), (0, .ref a0), (1, .int x0)]) hx hb dX9_ask_5 rfl hl (by decide) rfl (fun ls hl => ?_)
  refine lv_iload_n hx hb dX9_ask_6 rfl (lv_at hl 0 rfl) ?_
  refine lv_if_ne (tgt := 20) hx hb dX9_ask_7 (by decide) (fun _ => ?_) (fun c9 => absurd c9 (by decide))
  refine lv_iload_n hx hb dX9_ask_20 rfl (lv_at hl 0 rfl) ?_
  exact W.iret hx hb hr (fun t ht _ => ⟨rfl, ht⟩) (fun _ h => by cases h) dX9_ask_21
set_option maxHeartbeats 4000000 in
set_option maxRecDepth 100000 in
theorem kX10_ask_1 (l : Launch) (D : va_G) (cB cI cJ cZ cT cR : ClassId) (a0 a1 a2 a3 a4 a5 a6 a7 a8 a9 a10 a11 a12 a13 a14 a15 a16 a17 a18 : Nat) (x0 : Int32) (hy0 : ¬ (0 ≤ x0 ∧ x0 ≤ 3)) (sz : Nat) : Met l yX10_ask (uc yX10_ask cX10_ask 7 (some .int)) (rmL 4 0 0) (va_Pc [.ref a0, .int x0] (MPre D [(cB, .byte), (cI, .int), (cJ, .long), (cZ, .boolean), (cT, .object RX7), (cR, .object RX3)] [(a0, .inr (10, [.int 0, .ref a1, .ref a2, .ref a3, .ref a4, .ref a5, .int 0, .int 0, .int 0, .int 0, .int 0, .long 0, .int 0, .int 0, .int 0, .int (-1), .ref a6, .ref a7, .ref a8, .ref a9, .ref a10, .ref a11, .ref a12, .ref a13, .int 0, .int 0, .ref a14, .ref a15, .int 0, .int 0, .int 0, .ref a16, .ref a17, .int 0, .int 0, .int 0, .int 0, .int 0, .ref a18, .int 0, .int 0, .int 0]))] sz)) (va_Qi (fun (r : Int32) (_ : Unit) => r = (-2)) (MB D [(cB, .byte), (cI, .int), (cJ, .long), (cZ, .boolean), (cT, .object RX7), (cR, .object RX3)] [(a0, .inr (10, [.int 0, .ref a1, .ref a2, .ref a3, .ref a4, .ref a5, .int 0, .int 0, .int 0, .int 0, .int 0, .long 0, .int 0, .int 0, .int 0, .int (-1), .ref a6, .ref a7, .ref a8, .ref a9, .ref a10, .ref a11, .ref a12, .ref a13, .int 0, .int 0, .ref a14, .ref a15, .int 0, .int 0, .int 0, .ref a16, .ref a17, .int 0, .int 0, .int 0, .int 0, .int 0, .ref a18, .int 0, .int 0, .int 0]))] sz (fun (u : Unit) => [(a0, .inr (10, [.int 0, .ref a1, .ref a2, .ref a3, .ref a4, .ref a5, .int 0, .int 0, .int 0, .int 0, .int 0, .long 0, .int 0, .int 0, .int 0, .int (-1), .ref a6, .ref a7, .ref a8, .ref a9, .ref a10, .ref a11, .ref a12, .ref a13, .int 0, .int 0, .ref a14, .ref a15, .int 0, .int 0, .int 0, .ref a16, .ref a17, .int 0, .int 0, .int 0, .int 0, .int 0, .ref a18, .int 0, .int 0, .int 0]))])) (va_A [(a0, .inr (10, [.int 0, .ref a1, .ref a2, .ref a3, .ref a4, .ref a5, .int 0, .int 0, .int 0, .int 0, .int 0, .long 0, .int 0, .int 0, .int 0, .int (-1), .ref a6, .ref a7, .ref a8, .ref a9, .ref a10, .ref a11, .ref a12, .ref a13, .int 0, .int 0, .ref a14, .ref a15, .int 0, .int 0, .int 0, .ref a16, .ref a17, .int 0, .int 0, .int 0, .int 0, .int 0, .ref a18, .int 0, .int 0, .int 0]))] sz)) 0 0 (va_A [(a0, .inr (10, [.int 0, .ref a1, .ref a2, .ref a3, .ref a4, .ref a5, .int 0, .int 0, .int 0, .int 0, .int 0, .long 0, .int 0, .int 0, .int 0, .int (-1), .ref a6, .ref a7, .ref a8, .ref a9, .ref a10, .ref a11, .ref a12, .ref a13, .int 0, .int 0, .ref a14, .ref a15, .int 0, .int 0, .int 0, .ref a16, .ref a17, .int 0, .int 0, .int 0, .int 0, .int 0, .ref a18, .int 0, .int 0, .int 0]))] sz) := by
  refine pm (by decide) (Nat.le_of_ble_eq_true rfl) ?_
  intro p e s m below meth c ls hx hb hr hml hown hlk hnm hts hv hl
  have hown : s.vm.findClass RX10 = some m.cls := hown
  have hl : lv_has ls 7 [(0, .ref a0), (1, .int x0)] := hl
  obtain ⟨hsz, hP, hK, hD0, hE⟩ := hv
  subst hsz
  have hD := hD0.self (sz := s.heap.size)
  obtain ⟨AA, hAe⟩ : ∃ AA, AA = va_A [(a0, .inr (10, [.int 0, .ref a1, .ref a2, .ref a3, .ref a4, .ref a5, .int 0, .int 0, .int 0, .int 0, .int 0, .long 0, .int 0, .int 0, .int 0, .int (-1), .ref a6, .ref a7, .ref a8, .ref a9, .ref a10, .ref a11, .ref a12, .ref a13, .int 0, .int 0, .ref a14, .ref a15, .int 0, .int 0, .int 0, .ref a16, .ref a17, .int 0, .int 0, .int 0, .int 0, .int 0, .ref a18, .int 0, .int 0, .int 0]))] s.heap.size := ⟨_, rfl⟩
  rw [← hAe] at hD
  have hA : ∀ q : Nat, s.heap.size ≤ q → AA q := fun q h => by rw [hAe]; exact Or.inr h
  have hS : va_S AA s.heap s.heap [] := va_S.rf
  obtain ⟨-, hAOT, hAOR, hAOI⟩ := id hE
  refine lv_aload_n hx hb dX10_ask_0 rfl (lv_at hl 0 rfl) ?_
  refine lv_iconst (v := 0) hx hb dX10_ask_1 (by decide) ?_
  refine va_put (D := D) (ci := 10) (v := .int 0) (ty := .int) (C := RX10) (T := TX10) (N := 42) hx hb hts (fun w h => uc_in w (inX10 w h)) tyX10 tyX10_ok nmX10 hown hK hP hD hS 0 rfl rfl 0 (by decide) (hts _ (uc_in _ q_f1188)) (fun _ h9 => h9) rfl (by decide +kernel) rfl rfl (Nat.le_of_ble_eq_true rfl) dX10_ask_2 (fun H locs hP hD hS => ?_)
  have hP : va_P D vwCl [(a0, .inr (10, [.int 0, .ref a1, .ref a2, .ref a3, .ref a4, .ref a5, .int 0, .int 0, .int 0, .int 0, .int 0, .long 0, .int 0, .int 0, .int 0, .int (-1), .ref a6, .ref a7, .ref a8, .ref a9, .ref a10, .ref a11, .ref a12, .ref a13, .int 0, .int 0, .ref a14, .ref a15, .int 0, .int 0, .int 0, .ref a16, .ref a17, .int 0, .int 0, .int 0, .int 0, .int 0, .ref a18, .int 0, .int 0, .int 0]))] H := hP
  have hD : va_D AA [(a0, .inr (10, [.int 0, .ref a1, .ref a2, .ref a3, .ref a4, .ref a5, .int 0, .int 0, .int 0, .int 0, .int 0, .long 0, .int 0, .int 0, .int 0, .int (-1), .ref a6, .ref a7, .ref a8, .ref a9, .ref a10, .ref a11, .ref a12, .ref a13, .int 0, .int 0, .ref a14, .ref a15, .int 0, .int 0, .int 0, .ref a16, .ref a17, .int 0, .int 0, .int 0, .int 0, .int 0, .ref a18, .int 0, .int 0, .int 0]))] := hD
  refine lv_aload_n hx hb dX10_ask_5 rfl (lv_at hl 0 rfl) ?_
  refine lv_iload_n hx hb dX10_ask_6 rfl (lv_at hl 1 rfl) ?_
  refine cvR (n := 1) (As := [.int x0]) (rest := []) ⟨hx, hb, hml, hown, hts⟩ uc_in (kX10_whyNot_1 l D cB cI cJ cZ cT cR a0 a1 a2 a3 a4 a5 a6 a7 a8 a9 a10 a11 a12 a13 a14 a15 a16 a17 a18 x0 hy0) q_m1788 q_n1790 q_p104 q_i11 q_c1791 (by decide +kernel) ⟨(Nat.le_of_ble_eq_true rfl), (Nat.le_of_ble_eq_true rfl)⟩ ⟨(Nat.le_of_ble_eq_true rfl), (Nat.le_of_ble_eq_true rfl)⟩ hK (hP.sub (ws' := [(a0, .inr (10, [.int 0, .ref a1, .ref a2, .ref a3, .ref a4, .ref a5, .int 0, .int 0, .int 0, .int 0, .int 0, .long 0, .int 0, .int 0, .int 0, .int (-1), .ref a6, .ref a7, .ref a8, .ref a9, .ref a10, .ref a11, .ref a12, .ref a13, .int 0, .int 0, .ref a14, .ref a15, .int 0, .int 0, .int 0, .ref a16, .ref a17, .int 0, .int 0, .int 0, .int 0, .int 0, .ref a18, .int 0, .int 0, .int 0]))]) [0] rfl) 10 0 rfl rfl rfl hl.1 rfl (Nat.le_of_ble_eq_true rfl) dX10_ask_7 ?_
  refine lv_istore_n (lv' := [(2, .int (-2)), (0, .ref a0), (1, .int x0)]) hx hb dX10_ask_10 rfl hl (by decide) rfl (fun ls hl => ?_)
  refine lv_iload_n hx hb dX10_ask_11 rfl (lv_at hl 0 rfl) ?_
  refine lv_if_eq (tgt := 17) hx hb dX10_ask_12 (by decide) (fun c9 => absurd c9 (by decide)) (fun _ => ?_)
  refine lv_iload_n hx hb dX10_ask_15 rfl (lv_at hl 0 rfl) ?_
  subst hAe
  have hP9 := hP.sub (ws' := [(a0, .inr (10, [.int 0, .ref a1, .ref a2, .ref a3, .ref a4, .ref a5, .int 0, .int 0, .int 0, .int 0, .int 0, .long 0, .int 0, .int 0, .int 0, .int (-1), .ref a6, .ref a7, .ref a8, .ref a9, .ref a10, .ref a11, .ref a12, .ref a13, .int 0, .int 0, .ref a14, .ref a15, .int 0, .int 0, .int 0, .ref a16, .ref a17, .int 0, .int 0, .int 0, .int 0, .int 0, .ref a18, .int 0, .int 0, .int 0]))]) [0] rfl
  have hD9 := hD.sub (ws' := [(a0, .inr (10, [.int 0, .ref a1, .ref a2, .ref a3, .ref a4, .ref a5, .int 0, .int 0, .int 0, .int 0, .int 0, .long 0, .int 0, .int 0, .int 0, .int (-1), .ref a6, .ref a7, .ref a8, .ref a9, .ref a10, .ref a11, .ref a12, .ref a13, .int 0, .int 0, .ref a14, .ref a15, .int 0, .int 0, .int 0, .ref a16, .ref a17, .int 0, .int 0, .int 0, .int 0, .int 0, .ref a18, .int 0, .int 0, .int 0]))]) [0] rfl rfl
  exact W.iret hx hb hr (fun t ht hW => ⟨⟨(-2), (), rfl, rfl, by rw [ht]; exact hP9, va_K.moved hW.alike hK, hD9⟩, hS.F ht⟩) hS.2.2 dX10_ask_16
set_option maxHeartbeats 4000000 in
set_option maxRecDepth 100000 in
theorem law_case_51 {p : Program} {l : Launch} {e : Env} {s : State} {m : MethodId} {below : List Frame} {meth : Method} {c : Code} {D : va_G} {cB cI cJ cZ cT cR : ClassId} {b : Nat} {xs : Nat → Int32} {A B : Nat → Nat} {H : Heap} {locs : List Loc} {ls : Array Slot} (C0 : lw_At p s m meth c b 6 xs) (hE : EX s) (hK : va_K D vwCl [(cB, .byte), (cI, .int), (cJ, .long), (cZ, .boolean), (cT, .object RX7), (cR, .object RX3)] s) (hP : va_P D vwCl (fwAll cB cI cJ cZ cT cR A B) H) (hD : va_D (fun q : Nat => s.heap.size ≤ q) (fwAll cB cI cJ cZ cT cR A B)) (hS : va_S (fun q : Nat => s.heap.size ≤ q) s.heap H locs) (hl : lv_has ls 4 [(3, .int 0), (2, .ref (B 0)), (1, .ref (A 0)), (0, .ref b)]) : W p l e room_1 s m #[Value.ref b] below meth c H locs 180 4779 (lw_Z below #[Value.ref b] s) (F0 m 1659 ls []) := by
  obtain ⟨hx, hb, hr, hml, hown, hts, hX, hbl, hlocks, hgv⟩ := id C0
  have hown : s.vm.findClass RL = some m.cls := hown
  have hb : c.code = cL_law := hb
  have hA : ∀ q : Nat, s.heap.size ≤ q → (fun q : Nat => s.heap.size ≤ q) q := fun _ h => h
  have hbA : ¬ (fun q : Nat => s.heap.size ≤ q) b := Nat.not_le.mpr hbl
  have hP := hP.sub (ws' := [((A 0), .inr (9, [.ref (A 1), .ref (A 3), .ref (A 12), .ref (A 21), .int 0, .ref (A 49), .ref (A 51), .ref (A 60), .ref (A 61), .ref (A 62), .ref (A 63), .ref (A 64)])), ((A 3), .inr (7, [.int 0, .int 0, .int 0, .int 0, .int 0, .int 0, .int 0, .int 0, .ref (A 4), .ref (A 5), .ref (A 6), .ref (A 7), .ref (A 8), .ref (A 9), .ref (A 10), .ref (A 11)])), ((B 0), .inr (10, [.int 0, .ref (B 1), .ref (B 2), .ref (B 3), .ref (B 4), .ref (B 5), .int 0, .int 0, .int 0, .int 0, .int 0, .long 0, .int 0, .int 0, .int 0, .int (-1), .ref (B 6), .ref (B 7), .ref (B 8), .ref (B 9), .ref (B 10), .ref (B 11), .ref (B 12), .ref (B 13), .int 0, .int 0, .ref (B 14), .ref (B 15), .int 0, .int 0, .int 0, .ref (B 16), .ref (B 17), .int 0, .int 0, .int 0, .int 0, .int 0, .ref (B 18), .int 0, .int 0, .int 0])), ((B 6), .inl (cI, 5, .inl (fun _ => 0)))]) [0, 3, 60, 66] rfl
  have hD := hD.sub (ws' := [((A 0), .inr (9, [.ref (A 1), .ref (A 3), .ref (A 12), .ref (A 21), .int 0, .ref (A 49), .ref (A 51), .ref (A 60), .ref (A 61), .ref (A 62), .ref (A 63), .ref (A 64)])), ((A 3), .inr (7, [.int 0, .int 0, .int 0, .int 0, .int 0, .int 0, .int 0, .int 0, .ref (A 4), .ref (A 5), .ref (A 6), .ref (A 7), .ref (A 8), .ref (A 9), .ref (A 10), .ref (A 11)])), ((B 0), .inr (10, [.int 0, .ref (B 1), .ref (B 2), .ref (B 3), .ref (B 4), .ref (B 5), .int 0, .int 0, .int 0, .int 0, .int 0, .long 0, .int 0, .int 0, .int 0, .int (-1), .ref (B 6), .ref (B 7), .ref (B 8), .ref (B 9), .ref (B 10), .ref (B 11), .ref (B 12), .ref (B 13), .int 0, .int 0, .ref (B 14), .ref (B 15), .int 0, .int 0, .int 0, .ref (B 16), .ref (B 17), .int 0, .int 0, .int 0, .int 0, .int 0, .ref (B 18), .int 0, .int 0, .int 0])), ((B 6), .inl (cI, 5, .inl (fun _ => 0)))]) [0, 3, 60, 66] rfl rfl
  refine lv_aload_n hx hb dL_law_1659 rfl (lv_at hl 2 rfl) ?_
  refine lv_aload_n hx hb dL_law_1660 rfl (lv_at hl 3 rfl) ?_
  refine lv_iload_n hx hb dL_law_1661 rfl (lv_at hl 0 rfl) ?_
  refine lv_iconst (v := 1) hx hb dL_law_1662 (by decide) ?_
  refine lv_iadd hx hb dL_law_1663 ?_
  refine pv_i (v := 1) (by decide) ?_
  refine va_sld hx hb hX hbl hbA hS (vp_in_iff.mpr ⟨by decide, by decide⟩) dL_law_1664 ?_
  refine lv_topi (fun p1 ep1 => ?_)
  by_cases hc1 : 0 ≤ p1 ∧ p1 ≤ 3
  · refine cvR (n := 1) (As := [.int p1]) (rest := []) ⟨hx, hb, hml, hown, hts⟩ (fun _ h => uw_in h) (kX9_ask_0 l D cB cI cJ cZ cT cR (A 0) (A 3) (A 1) (A 12) (A 21) (A 49) (A 51) (A 60) (A 61) (A 62) (A 63) (A 64) (A 4) (A 5) (A 6) (A 7) (A 8) (A 9) (A 10) (A 11) p1 hc1) q_m1023 q_n1024 q_e1025 q_i1 q_c1026 (by decide +kernel) ⟨(Nat.le_of_ble_eq_true rfl), (Nat.le_of_ble_eq_true rfl)⟩ ⟨(Nat.le_of_ble_eq_true rfl), (Nat.le_of_ble_eq_true rfl)⟩ hK (hP.sub (ws' := [((A 0), .inr (9, [.ref (A 1), .ref (A 3), .ref (A 12), .ref (A 21), .int 0, .ref (A 49), .ref (A 51), .ref (A 60), .ref (A 61), .ref (A 62), .ref (A 63), .ref (A 64)])), ((A 3), .inr (7, [.int 0, .int 0, .int 0, .int 0, .int 0, .int 0, .int 0, .int 0, .ref (A 4), .ref (A 5), .ref (A 6), .ref (A 7), .ref (A 8), .ref (A 9), .ref (A 10), .ref (A 11)]))]) [0, 1] rfl) 9 0 rfl rfl rfl hl.1 rfl (Nat.le_of_ble_eq_true rfl) dL_law_1665 ?_
    refine lv_aload_n hx hb dL_law_1668 rfl (lv_at hl 1 rfl) ?_
    refine lv_aload_n hx hb dL_law_1669 rfl (lv_at hl 3 rfl) ?_
    refine lv_iload_n hx hb dL_law_1670 rfl (lv_at hl 0 rfl) ?_
    refine lv_iconst (v := 1) hx hb dL_law_1671 (by decide) ?_
    refine lv_iadd hx hb dL_law_1672 ?_
    refine pv_i (v := 1) (by decide) ?_
    refine va_sld hx hb hX hbl hbA hS (vp_in_iff.mpr ⟨by decide, by decide⟩) dL_law_1673 ?_
    refine pv_i (v := p1) ep1.symm ?_
    refine cvM (n := 1) (As := [.int p1]) (rest := [.int (-2)]) (wr := [((A 0), .inr (9, [.ref (A 1), .ref (A 3), .ref (A 12), .ref (A 21), .int 0, .ref (A 49), .ref (A 51), .ref (A 60), .ref (A 61), .ref (A 62), .ref (A 63), .ref (A 64)])), ((A 3), .inr (7, [.int 0, .int 0, .int 0, .int 0, .int 0, .int 0, .int 0, .int 0, .ref (A 4), .ref (A 5), .ref (A 6), .ref (A 7), .ref (A 8), .ref (A 9), .ref (A 10), .ref (A 11)]))]) ⟨hx, hb, hml, hown, hts⟩ (fun _ h => uw_in h) (kX10_ask_0 l D cB cI cJ cZ cT cR (B 0) (B 6) (B 1) (B 2) (B 3) (B 4) (B 5) (B 7) (B 8) (B 9) (B 10) (B 11) (B 12) (B 13) (B 14) (B 15) (B 16) (B 17) (B 18) p1 hc1 H.size) q_m1808 q_n1809 q_e1810 q_i11 q_c1811 (by decide +kernel) ⟨(Nat.le_of_ble_eq_true rfl), (Nat.le_of_ble_eq_true rfl)⟩ ⟨(Nat.le_of_ble_eq_true rfl), (Nat.le_of_ble_eq_true rfl)⟩ hE hK hP hD hS hA [2, 3] [0, 1] rfl rfl rfl rfl (by decide) 10 0 rfl rfl rfl hl.1 rfl (Nat.le_of_ble_eq_true rfl) dL_law_1674 (fun r9 u H locs hpo hP hD hS => ?_)
    have hP : va_P D vwCl [((A 0), .inr (9, [.ref (A 1), .ref (A 3), .ref (A 12), .ref (A 21), .int 0, .ref (A 49), .ref (A 51), .ref (A 60), .ref (A 61), .ref (A 62), .ref (A 63), .ref (A 64)])), ((A 3), .inr (7, [.int 0, .int 0, .int 0, .int 0, .int 0, .int 0, .int 0, .int 0, .ref (A 4), .ref (A 5), .ref (A 6), .ref (A 7), .ref (A 8), .ref (A 9), .ref (A 10), .ref (A 11)])), ((B 0), .inr (10, [.int 0, .ref (B 1), .ref (B 2), .ref (B 3), .ref (B 4), .ref (B 5), .int 0, .int 0, .int 0, .int 0, .int 0, .long 0, .int 0, .int 0, .int 0, .int (-1), .ref (B 6), .ref (B 7), .ref (B 8), .ref (B 9), .ref (B 10), .ref (B 11), .ref (B 12), .ref (B 13), .int 0, .int 0, .ref (B 14), .ref (B 15), .int 0, .int 0, .int 0, .ref (B 16), .ref (B 17), .int 0, .int 0, .int 0, .int 0, .int 0, .ref (B 18), .int 0, .int 0, .int 0])), ((B 6), .inl (cI, 5, .inl (fun _ => 0)))] H := hP
    have hD : va_D (fun q : Nat => s.heap.size ≤ q) [((A 0), .inr (9, [.ref (A 1), .ref (A 3), .ref (A 12), .ref (A 21), .int 0, .ref (A 49), .ref (A 51), .ref (A 60), .ref (A 61), .ref (A 62), .ref (A 63), .ref (A 64)])), ((A 3), .inr (7, [.int 0, .int 0, .int 0, .int 0, .int 0, .int 0, .int 0, .int 0, .ref (A 4), .ref (A 5), .ref (A 6), .ref (A 7), .ref (A 8), .ref (A 9), .ref (A 10), .ref (A 11)])), ((B 0), .inr (10, [.int 0, .ref (B 1), .ref (B 2), .ref (B 3), .ref (B 4), .ref (B 5), .int 0, .int 0, .int 0, .int 0, .int 0, .long 0, .int 0, .int 0, .int 0, .int (-1), .ref (B 6), .ref (B 7), .ref (B 8), .ref (B 9), .ref (B 10), .ref (B 11), .ref (B 12), .ref (B 13), .int 0, .int 0, .ref (B 14), .ref (B 15), .int 0, .int 0, .int 0, .ref (B 16), .ref (B 17), .int 0, .int 0, .int 0, .int 0, .int 0, .ref (B 18), .int 0, .int 0, .int 0])), ((B 6), .inl (cI, 5, .inl (fun _ => 0)))] := hD
    refine W.cs (cells' := 180) (slots' := 4779) rfl rfl ?_
    have hpo : r9 = (-2) := hpo
    subst hpo
    refine lv_icmp_eq (tgt := 2362) hx hb dL_law_1677 (by decide) (fun _ => ?_) (fun c9 => absurd (by decide) c9)
    exact law_end C0 hS (Nat.le_of_ble_eq_true rfl) (Nat.le_of_ble_eq_true rfl) ls hl
  · refine cvR (n := 1) (As := [.int p1]) (rest := []) ⟨hx, hb, hml, hown, hts⟩ (fun _ h => uw_in h) (kX9_ask_1 l D cB cI cJ cZ cT cR (A 0) (A 1) (A 3) (A 12) (A 21) (A 49) (A 51) (A 60) (A 61) (A 62) (A 63) (A 64) p1 hc1) q_m1023 q_n1024 q_e1025 q_i1 q_c1026 (by decide +kernel) ⟨(Nat.le_of_ble_eq_true rfl), (Nat.le_of_ble_eq_true rfl)⟩ ⟨(Nat.le_of_ble_eq_true rfl), (Nat.le_of_ble_eq_true rfl)⟩ hK (hP.sub (ws' := [((A 0), .inr (9, [.ref (A 1), .ref (A 3), .ref (A 12), .ref (A 21), .int 0, .ref (A 49), .ref (A 51), .ref (A 60), .ref (A 61), .ref (A 62), .ref (A 63), .ref (A 64)]))]) [0] rfl) 9 0 rfl rfl rfl hl.1 rfl (Nat.le_of_ble_eq_true rfl) dL_law_1665 ?_
    refine lv_aload_n hx hb dL_law_1668 rfl (lv_at hl 1 rfl) ?_
    refine lv_aload_n hx hb dL_law_1669 rfl (lv_at hl 3 rfl) ?_
    refine lv_iload_n hx hb dL_law_1670 rfl (lv_at hl 0 rfl) ?_
    refine lv_iconst (v := 1) hx hb dL_law_1671 (by decide) ?_
    refine lv_iadd hx hb dL_law_1672 ?_
    refine pv_i (v := 1) (by decide) ?_
    refine va_sld hx hb hX hbl hbA hS (vp_in_iff.mpr ⟨by decide, by decide⟩) dL_law_1673 ?_
    refine pv_i (v := p1) ep1.symm ?_
    refine cvM (n := 1) (As := [.int p1]) (rest := [.int (-2)]) (wr := [((A 0), .inr (9, [.ref (A 1), .ref (A 3), .ref (A 12), .ref (A 21), .int 0, .ref (A 49), .ref (A 51), .ref (A 60), .ref (A 61), .ref (A 62), .ref (A 63), .ref (A 64)])), ((A 3), .inr (7, [.int 0, .int 0, .int 0, .int 0, .int 0, .int 0, .int 0, .int 0, .ref (A 4), .ref (A 5), .ref (A 6), .ref (A 7), .ref (A 8), .ref (A 9), .ref (A 10), .ref (A 11)])), ((B 6), .inl (cI, 5, .inl (fun _ => 0)))]) ⟨hx, hb, hml, hown, hts⟩ (fun _ h => uw_in h) (kX10_ask_1 l D cB cI cJ cZ cT cR (B 0) (B 1) (B 2) (B 3) (B 4) (B 5) (B 6) (B 7) (B 8) (B 9) (B 10) (B 11) (B 12) (B 13) (B 14) (B 15) (B 16) (B 17) (B 18) p1 hc1 H.size) q_m1808 q_n1809 q_e1810 q_i11 q_c1811 (by decide +kernel) ⟨(Nat.le_of_ble_eq_true rfl), (Nat.le_of_ble_eq_true rfl)⟩ ⟨(Nat.le_of_ble_eq_true rfl), (Nat.le_of_ble_eq_true rfl)⟩ hE hK hP hD hS hA [2] [0, 1, 3] rfl rfl rfl rfl (by decide) 10 0 rfl rfl rfl hl.1 rfl (Nat.le_of_ble_eq_true rfl) dL_law_1674 (fun r9 u H locs hpo hP hD hS => ?_)
    have hP : va_P D vwCl [((A 0), .inr (9, [.ref (A 1), .ref (A 3), .ref (A 12), .ref (A 21), .int 0, .ref (A 49), .ref (A 51), .ref (A 60), .ref (A 61), .ref (A 62), .ref (A 63), .ref (A 64)])), ((A 3), .inr (7, [.int 0, .int 0, .int 0, .int 0, .int 0, .int 0, .int 0, .int 0, .ref (A 4), .ref (A 5), .ref (A 6), .ref (A 7), .ref (A 8), .ref (A 9), .ref (A 10), .ref (A 11)])), ((B 6), .inl (cI, 5, .inl (fun _ => 0))), ((B 0), .inr (10, [.int 0, .ref (B 1), .ref (B 2), .ref (B 3), .ref (B 4), .ref (B 5), .int 0, .int 0, .int 0, .int 0, .int 0, .long 0, .int 0, .int 0, .int 0, .int (-1), .ref (B 6), .ref (B 7), .ref (B 8), .ref (B 9), .ref (B 10), .ref (B 11), .ref (B 12), .ref (B 13), .int 0, .int 0, .ref (B 14), .ref (B 15), .int 0, .int 0, .int 0, .ref (B 16), .ref (B 17), .int 0, .int 0, .int 0, .int 0, .int 0, .ref (B 18), .int 0, .int 0, .int 0]))] H := hP
    have hD : va_D (fun q : Nat => s.heap.size ≤ q) [((A 0), .inr (9, [.ref (A 1), .ref (A 3), .ref (A 12), .ref (A 21), .int 0, .ref (A 49), .ref (A 51), .ref (A 60), .ref (A 61), .ref (A 62), .ref (A 63), .ref (A 64)])), ((A 3), .inr (7, [.int 0, .int 0, .int 0, .int 0, .int 0, .int 0, .int 0, .int 0, .ref (A 4), .ref (A 5), .ref (A 6), .ref (A 7), .ref (A 8), .ref (A 9), .ref (A 10), .ref (A 11)])), ((B 6), .inl (cI, 5, .inl (fun _ => 0))), ((B 0), .inr (10, [.int 0, .ref (B 1), .ref (B 2), .ref (B 3), .ref (B 4), .ref (B 5), .int 0, .int 0, .int 0, .int 0, .int 0, .long 0, .int 0, .int 0, .int 0, .int (-1), .ref (B 6), .ref (B 7), .ref (B 8), .ref (B 9), .ref (B 10), .ref (B 11), .ref (B 12), .ref (B 13), .int 0, .int 0, .ref (B 14), .ref (B 15), .int 0, .int 0, .int 0, .ref (B 16), .ref (B 17), .int 0, .int 0, .int 0, .int 0, .int 0, .ref (B 18), .int 0, .int 0, .int 0]))] := hD
    refine W.cs (cells' := 180) (slots' := 4779) rfl rfl ?_
    have hpo : r9 = (-2) := hpo
    subst hpo
    refine lv_icmp_eq (tgt := 2362) hx hb dL_law_1677 (by decide) (fun _ => ?_) (fun c9 => absurd (by decide) c9)
    exact law_end C0 hS (Nat.le_of_ble_eq_true rfl) (Nat.le_of_ble_eq_true rfl) ls hl
set_option maxHeartbeats 4000000 in
set_option maxRecDepth 100000 in
theorem kX9_seekUnder_0 (l : Launch) (D : va_G) (cB cI cJ cZ cT cR : ClassId) (a0 a1 a2 a3 a4 a5 a6 a7 a8 a9 a10 a11 a12 a13 a14 a15 a16 a17 a18 a19 : Nat) (x0 : Int32) (hy0 : 0 ≤ x0 ∧ x0 ≤ 3) : Met l yX9_seekUnder (uc yX9_seekUnder cX9_seekUnder 3 (some .int)) (rmL 4 0 0) (va_Pc [.ref a0, .int x0] (RPre D [(cB, .byte), (cI, .int), (cJ, .long), (cZ, .boolean), (cT, .object RX7), (cR, .object RX3)] [(a0, .inr (9, [.ref a2, .ref a1, .ref a3, .ref a4, .int 0, .ref a5, .ref a6, .ref a7, .ref a8, .ref a9, .ref a10, .ref a11])), (a1, .inr (7, [.int 0, .int 0, .int 0, .int 0, .int 0, .int 0, .int 0, .int 0, .ref a12, .ref a13, .ref a14, .ref a15, .ref a16, .ref a17, .ref a18, .ref a19]))])) (QcRead (-2)) 0 0 (fun _ => False) := by
  refine pm (by decide) (Nat.le_of_ble_eq_true rfl) ?_
  intro p e s m below meth c ls hx hb hr hml hown hlk hnm hts hv hl
  have hown : s.vm.findClass RX9 = some m.cls := hown
  have hl : lv_has ls 3 [(0, .ref a0), (1, .int x0)] := hl
  obtain ⟨hP, hK⟩ := hv
  refine lv_aload_n hx hb dX9_seekUnder_0 rfl (lv_at hl 0 rfl) ?_
  refine lv_iload_n hx hb dX9_seekUnder_1 rfl (lv_at hl 1 rfl) ?_
  refine cvR (n := 1) (As := [.int x0]) (rest := []) ⟨hx, hb, hml, hown, hts⟩ uc_in (kX9_hear_0 l D cB cI cJ cZ cT cR a0 a1 a2 a3 a4 a5 a6 a7 a8 a9 a10 a11 a12 a13 a14 a15 a16 a17 a18 a19 x0 hy0) q_m991 q_n993 q_p41 q_i1 q_c994 (by decide +kernel) ⟨(Nat.le_of_ble_eq_true rfl), (Nat.le_of_ble_eq_true rfl)⟩ ⟨(Nat.le_of_ble_eq_true rfl), (Nat.le_of_ble_eq_true rfl)⟩ hK (hP.sub (ws' := [(a0, .inr (9, [.ref a2, .ref a1, .ref a3, .ref a4, .int 0, .ref a5, .ref a6, .ref a7, .ref a8, .ref a9, .ref a10, .ref a11])), (a1, .inr (7, [.int 0, .int 0, .int 0, .int 0, .int 0, .int 0, .int 0, .int 0, .ref a12, .ref a13, .ref a14, .ref a15, .ref a16, .ref a17, .ref a18, .ref a19]))]) [0, 1] rfl) 9 0 rfl rfl rfl hl.1 rfl (Nat.le_of_ble_eq_true rfl) dX9_seekUnder_2 ?_
  refine lv_istore_n (lv' := [(2, .int (-2)), (0, .ref a0), (1, .int x0)]) hx hb dX9_seekUnder_5 rfl hl (by decide) rfl (fun ls hl => ?_)
  refine lv_iload_n hx hb dX9_seekUnder_6 rfl (lv_at hl 0 rfl) ?_
  refine lv_if_ne (tgt := 21) hx hb dX9_seekUnder_7 (by decide) (fun _ => ?_) (fun c9 => absurd c9 (by decide))
  refine lv_iload_n hx hb dX9_seekUnder_21 rfl (lv_at hl 0 rfl) ?_
  exact W.iret hx hb hr (fun t ht _ => ⟨rfl, ht⟩) (fun _ h => by cases h) dX9_seekUnder_22
set_option maxHeartbeats 4000000 in
set_option maxRecDepth 100000 in
theorem kX9_under_0 (l : Launch) (D : va_G) (cB cI cJ cZ cT cR : ClassId) (a0 a1 a2 a3 a4 a5 a6 a7 a8 a9 a10 a11 a12 a13 a14 a15 a16 a17 a18 a19 : Nat) (x0 : Int32) (hy0 : 0 ≤ x0 ∧ x0 ≤ 3) : Met l yX9_under (uc yX9_under cX9_under 3 (some .int)) (rmL 5 0 0) (va_Pc [.ref a0, .int x0] (RPre D [(cB, .byte), (cI, .int), (cJ, .long), (cZ, .boolean), (cT, .object RX7), (cR, .object RX3)] [(a0, .inr (9, [.ref a2, .ref a1, .ref a3, .ref a4, .int 0, .ref a5, .ref a6, .ref a7, .ref a8, .ref a9, .ref a10, .ref a11])), (a1, .inr (7, [.int 0, .int 0, .int 0, .int 0, .int 0, .int 0, .int 0, .int 0, .ref a12, .ref a13, .ref a14, .ref a15, .ref a16, .ref a17, .ref a18, .ref a19]))])) (QcRead (-2)) 0 0 (fun _ => False) := by
  refine pm (by decide) (Nat.le_of_ble_eq_true rfl) ?_
  intro p e s m below meth c ls hx hb hr hml hown hlk hnm hts hv hl
  have hown : s.vm.findClass RX9 = some m.cls := hown
  have hl : lv_has ls 3 [(0, .ref a0), (1, .int x0)] := hl
  obtain ⟨hP, hK⟩ := hv
  refine lv_aload_n hx hb dX9_under_0 rfl (lv_at hl 0 rfl) ?_
  refine lv_iload_n hx hb dX9_under_1 rfl (lv_at hl 1 rfl) ?_
  refine cvR (n := 1) (As := [.int x0]) (rest := []) ⟨hx, hb, hml, hown, hts⟩ uc_in (kX9_seekUnder_0 l D cB cI cJ cZ cT cR a0 a1 a2 a3 a4 a5 a6 a7 a8 a9 a10 a11 a12 a13 a14 a15 a16 a17 a18 a19 x0 hy0) q_m1036 q_n1038 q_p44 q_i1 q_c1039 (by decide +kernel) ⟨(Nat.le_of_ble_eq_true rfl), (Nat.le_of_ble_eq_true rfl)⟩ ⟨(Nat.le_of_ble_eq_true rfl), (Nat.le_of_ble_eq_true rfl)⟩ hK (hP.sub (ws' := [(a0, .inr (9, [.ref a2, .ref a1, .ref a3, .ref a4, .int 0, .ref a5, .ref a6, .ref a7, .ref a8, .ref a9, .ref a10, .ref a11])), (a1, .inr (7, [.int 0, .int 0, .int 0, .int 0, .int 0, .int 0, .int 0, .int 0, .ref a12, .ref a13, .ref a14, .ref a15, .ref a16, .ref a17, .ref a18, .ref a19]))]) [0, 1] rfl) 9 0 rfl rfl rfl hl.1 rfl (Nat.le_of_ble_eq_true rfl) dX9_under_2 ?_
  refine lv_istore_n (lv' := [(2, .int (-2)), (0, .ref a0), (1, .int x0)]) hx hb dX9_under_5 rfl hl (by decide) rfl (fun ls hl => ?_)
  refine lv_iload_n hx hb dX9_under_6 rfl (lv_at hl 0 rfl) ?_
  refine lv_if_ne (tgt := 20) hx hb dX9_under_7 (by decide) (fun _ => ?_) (fun c9 => absurd c9 (by decide))
  refine lv_iload_n hx hb dX9_under_20 rfl (lv_at hl 0 rfl) ?_
  exact W.iret hx hb hr (fun t ht _ => ⟨rfl, ht⟩) (fun _ h => by cases h) dX9_under_21
set_option maxHeartbeats 4000000 in
set_option maxRecDepth 100000 in
theorem kX10_under_0 (l : Launch) (D : va_G) (cB cI cJ cZ cT cR : ClassId) (a0 a1 a2 a3 a4 a5 a6 a7 a8 a9 a10 a11 a12 a13 a14 a15 a16 a17 a18 : Nat) (x0 : Int32) (hy0 : 0 ≤ x0 ∧ x0 ≤ 3) (sz : Nat) : Met l yX10_under (uc yX10_under cX10_under 6 (some .int)) (rmL 4 0 0) (va_Pc [.ref a0, .int x0] (MPre D [(cB, .byte), (cI, .int), (cJ, .long), (cZ, .boolean), (cT, .object RX7), (cR, .object RX3)] [(a0, .inr (10, [.int 0, .ref a2, .ref a3, .ref a4, .ref a5, .ref a6, .int 0, .int 0, .int 0, .int 0, .int 0, .long 0, .int 0, .int 0, .int 0, .int (-1), .ref a1, .ref a7, .ref a8, .ref a9, .ref a10, .ref a11, .ref a12, .ref a13, .int 0, .int 0, .ref a14, .ref a15, .int 0, .int 0, .int 0, .ref a16, .ref a17, .int 0, .int 0, .int 0, .int 0, .int 0, .ref a18, .int 0, .int 0, .int 0])), (a1, .inl (cI, 5, .inl (fun _ => 0)))] sz)) (va_Qi (fun (r : Int32) (_ : Unit) => r = (-2)) (MB D [(cB, .byte), (cI, .int), (cJ, .long), (cZ, .boolean), (cT, .object RX7), (cR, .object RX3)] [(a0, .inr (10, [.int 0, .ref a2, .ref a3, .ref a4, .ref a5, .ref a6, .int 0, .int 0, .int 0, .int 0, .int 0, .long 0, .int 0, .int 0, .int 0, .int (-1), .ref a1, .ref a7, .ref a8, .ref a9, .ref a10, .ref a11, .ref a12, .ref a13, .int 0, .int 0, .ref a14, .ref a15, .int 0, .int 0, .int 0, .ref a16, .ref a17, .int 0, .int 0, .int 0, .int 0, .int 0, .ref a18, .int 0, .int 0, .int 0])), (a1, .inl (cI, 5, .inl (fun _ => 0)))] sz (fun (u : Unit) => [(a0, .inr (10, [.int 0, .ref a2, .ref a3, .ref a4, .ref a5, .ref a6, .int 0, .int 0, .int 0, .int 0, .int 0, .long 0, .int 0, .int 0, .int 0, .int (-1), .ref a1, .ref a7, .ref a8, .ref a9, .ref a10, .ref a11, .ref a12, .ref a13, .int 0, .int 0, .ref a14, .ref a15, .int 0, .int 0, .int 0, .ref a16, .ref a17, .int 0, .int 0, .int 0, .int 0, .int 0, .ref a18, .int 0, .int 0, .int 0])), (a1, .inl (cI, 5, .inl (fun _ => 0)))])) (va_A [(a0, .inr (10, [.int 0, .ref a2, .ref a3, .ref a4, .ref a5, .ref a6, .int 0, .int 0, .int 0, .int 0, .int 0, .long 0, .int 0, .int 0, .int 0, .int (-1), .ref a1, .ref a7, .ref a8, .ref a9, .ref a10, .ref a11, .ref a12, .ref a13, .int 0, .int 0, .ref a14, .ref a15, .int 0, .int 0, .int 0, .ref a16, .ref a17, .int 0, .int 0, .int 0, .int 0, .int 0, .ref a18, .int 0, .int 0, .int 0])), (a1, .inl (cI, 5, .inl (fun _ => 0)))] sz)) 0 0 (va_A [(a0, .inr (10, [.int 0, .ref a2, .ref a3, .ref a4, .ref a5, .ref a6, .int 0, .int 0, .int 0, .int 0, .int 0, .long 0, .int 0, .int 0, .int 0, .int (-1), .ref a1, .ref a7, .ref a8, .ref a9, .ref a10, .ref a11, .ref a12, .ref a13, .int 0, .int 0, .ref a14, .ref a15, .int 0, .int 0, .int 0, .ref a16, .ref a17, .int 0, .int 0, .int 0, .int 0, .int 0, .ref a18, .int 0, .int 0, .int 0])), (a1, .inl (cI, 5, .inl (fun _ => 0)))] sz) := by
  refine pm (by decide) (Nat.le_of_ble_eq_true rfl) ?_
  intro p e s m below meth c ls hx hb hr hml hown hlk hnm hts hv hl
  have hown : s.vm.findClass RX10 = some m.cls := hown
  have hl : lv_has ls 6 [(0, .ref a0), (1, .int x0)] := hl
  obtain ⟨hsz, hP, hK, hD0, hE⟩ := hv
  subst hsz
  have hD := hD0.self (sz := s.heap.size)
  obtain ⟨AA, hAe⟩ : ∃ AA, AA = va_A [(a0, .inr (10, [.int 0, .ref a2, .ref a3, .ref a4, .ref a5, .ref a6, .int 0, .int 0, .int 0, .int 0, .int 0, .long 0, .int 0, .int 0, .int 0, .int (-1), .ref a1, .ref a7, .ref a8, .ref a9, .ref a10, .ref a11, .ref a12, .ref a13, .int 0, .int 0, .ref a14, .ref a15, .int 0, .int 0, .int 0, .ref a16, .ref a17, .int 0, .int 0, .int 0, .int 0, .int 0, .ref a18, .int 0, .int 0, .int 0])), (a1, .inl (cI, 5, .inl (fun _ => 0)))] s.heap.size := ⟨_, rfl⟩
  rw [← hAe] at hD
  have hA : ∀ q : Nat, s.heap.size ≤ q → AA q := fun q h => by rw [hAe]; exact Or.inr h
  have hS : va_S AA s.heap s.heap [] := va_S.rf
  obtain ⟨-, hAOT, hAOR, hAOI⟩ := id hE
  refine lv_aload_n hx hb dX10_under_0 rfl (lv_at hl 0 rfl) ?_
  refine lv_iconst (v := 0) hx hb dX10_under_1 (by decide) ?_
  refine va_put (D := D) (ci := 10) (v := .int 0) (ty := .int) (C := RX10) (T := TX10) (N := 42) hx hb hts (fun w h => uc_in w (inX10 w h)) tyX10 tyX10_ok nmX10 hown hK hP hD hS 0 rfl rfl 0 (by decide) (hts _ (uc_in _ q_f1188)) (fun _ h9 => h9) rfl (by decide +kernel) rfl rfl (Nat.le_of_ble_eq_true rfl) dX10_under_2 (fun H locs hP hD hS => ?_)
  have hP : va_P D vwCl [(a0, .inr (10, [.int 0, .ref a2, .ref a3, .ref a4, .ref a5, .ref a6, .int 0, .int 0, .int 0, .int 0, .int 0, .long 0, .int 0, .int 0, .int 0, .int (-1), .ref a1, .ref a7, .ref a8, .ref a9, .ref a10, .ref a11, .ref a12, .ref a13, .int 0, .int 0, .ref a14, .ref a15, .int 0, .int 0, .int 0, .ref a16, .ref a17, .int 0, .int 0, .int 0, .int 0, .int 0, .ref a18, .int 0, .int 0, .int 0])), (a1, .inl (cI, 5, .inl (fun _ => 0)))] H := hP
  have hD : va_D AA [(a0, .inr (10, [.int 0, .ref a2, .ref a3, .ref a4, .ref a5, .ref a6, .int 0, .int 0, .int 0, .int 0, .int 0, .long 0, .int 0, .int 0, .int 0, .int (-1), .ref a1, .ref a7, .ref a8, .ref a9, .ref a10, .ref a11, .ref a12, .ref a13, .int 0, .int 0, .ref a14, .ref a15, .int 0, .int 0, .int 0, .ref a16, .ref a17, .int 0, .int 0, .int 0, .int 0, .int 0, .ref a18, .int 0, .int 0, .int 0])), (a1, .inl (cI, 5, .inl (fun _ => 0)))] := hD
  refine lv_aload_n hx hb dX10_under_5 rfl (lv_at hl 0 rfl) ?_
  refine lv_iload_n hx hb dX10_under_6 rfl (lv_at hl 1 rfl) ?_
  refine cvR (n := 1) (As := [.int x0]) (rest := []) ⟨hx, hb, hml, hown, hts⟩ uc_in (kX10_whyNot_0 l D cB cI cJ cZ cT cR a0 a1 a2 a3 a4 a5 a6 a7 a8 a9 a10 a11 a12 a13 a14 a15 a16 a17 a18 x0 hy0) q_m1788 q_n1790 q_p104 q_i11 q_c1791 (by decide +kernel) ⟨(Nat.le_of_ble_eq_true rfl), (Nat.le_of_ble_eq_true rfl)⟩ ⟨(Nat.le_of_ble_eq_true rfl), (Nat.le_of_ble_eq_true rfl)⟩ hK (hP.sub (ws' := [(a0, .inr (10, [.int 0, .ref a2, .ref a3, .ref a4, .ref a5, .ref a6, .int 0, .int 0, .int 0, .int 0, .int 0, .long 0, .int 0, .int 0, .int 0, .int (-1), .ref a1, .ref a7, .ref a8, .ref a9, .ref a10, .ref a11, .ref a12, .ref a13, .int 0, .int 0, .ref a14, .ref a15, .int 0, .int 0, .int 0, .ref a16, .ref a17, .int 0, .int 0, .int 0, .int 0, .int 0, .ref a18, .int 0, .int 0, .int 0])), (a1, .inl (cI, 5, .inl (fun _ => 0)))]) [0, 1] rfl) 10 0 rfl rfl rfl hl.1 rfl (Nat.le_of_ble_eq_true rfl) dX10_under_7 ?_
  refine lv_istore_n (lv' := [(2, .int (-2)), (0, .ref a0), (1, .int x0)]) hx hb dX10_under_10 rfl hl (by decide) rfl (fun ls hl => ?_)
  refine lv_iload_n hx hb dX10_under_11 rfl (lv_at hl 0 rfl) ?_
  refine lv_if_eq (tgt := 17) hx hb dX10_under_12 (by decide) (fun c9 => absurd c9 (by decide)) (fun _ => ?_)
  refine lv_iload_n hx hb dX10_under_15 rfl (lv_at hl 0 rfl) ?_
  subst hAe
  have hP9 := hP.sub (ws' := [(a0, .inr (10, [.int 0, .ref a2, .ref a3, .ref a4, .ref a5, .ref a6, .int 0, .int 0, .int 0, .int 0, .int 0, .long 0, .int 0, .int 0, .int 0, .int (-1), .ref a1, .ref a7, .ref a8, .ref a9, .ref a10, .ref a11, .ref a12, .ref a13, .int 0, .int 0, .ref a14, .ref a15, .int 0, .int 0, .int 0, .ref a16, .ref a17, .int 0, .int 0, .int 0, .int 0, .int 0, .ref a18, .int 0, .int 0, .int 0])), (a1, .inl (cI, 5, .inl (fun _ => 0)))]) [0, 1] rfl
  have hD9 := hD.sub (ws' := [(a0, .inr (10, [.int 0, .ref a2, .ref a3, .ref a4, .ref a5, .ref a6, .int 0, .int 0, .int 0, .int 0, .int 0, .long 0, .int 0, .int 0, .int 0, .int (-1), .ref a1, .ref a7, .ref a8, .ref a9, .ref a10, .ref a11, .ref a12, .ref a13, .int 0, .int 0, .ref a14, .ref a15, .int 0, .int 0, .int 0, .ref a16, .ref a17, .int 0, .int 0, .int 0, .int 0, .int 0, .ref a18, .int 0, .int 0, .int 0])), (a1, .inl (cI, 5, .inl (fun _ => 0)))]) [0, 1] rfl rfl
  exact W.iret hx hb hr (fun t ht hW => ⟨⟨(-2), (), rfl, rfl, by rw [ht]; exact hP9, va_K.moved hW.alike hK, hD9⟩, hS.F ht⟩) hS.2.2 dX10_under_16
set_option maxHeartbeats 4000000 in
set_option maxRecDepth 100000 in
theorem kX9_seekUnder_1 (l : Launch) (D : va_G) (cB cI cJ cZ cT cR : ClassId) (a0 a1 a2 a3 a4 a5 a6 a7 a8 a9 a10 a11 : Nat) (x0 : Int32) (hy0 : ¬ (0 ≤ x0 ∧ x0 ≤ 3)) : Met l yX9_seekUnder (uc yX9_seekUnder cX9_seekUnder 3 (some .int)) (rmL 4 0 0) (va_Pc [.ref a0, .int x0] (RPre D [(cB, .byte), (cI, .int), (cJ, .long), (cZ, .boolean), (cT, .object RX7), (cR, .object RX3)] [(a0, .inr (9, [.ref a1, .ref a2, .ref a3, .ref a4, .int 0, .ref a5, .ref a6, .ref a7, .ref a8, .ref a9, .ref a10, .ref a11]))])) (QcRead (-2)) 0 0 (fun _ => False) := by
  refine pm (by decide) (Nat.le_of_ble_eq_true rfl) ?_
  intro p e s m below meth c ls hx hb hr hml hown hlk hnm hts hv hl
  have hown : s.vm.findClass RX9 = some m.cls := hown
  have hl : lv_has ls 3 [(0, .ref a0), (1, .int x0)] := hl
  obtain ⟨hP, hK⟩ := hv
  refine lv_aload_n hx hb dX9_seekUnder_0 rfl (lv_at hl 0 rfl) ?_
  refine lv_iload_n hx hb dX9_seekUnder_1 rfl (lv_at hl 1 rfl) ?_
  refine cvR (n := 1) (As := [.int x0]) (rest := []) ⟨hx, hb, hml, hown, hts⟩ uc_in (kX9_hear_1 l D cB cI cJ cZ cT cR a0 a1 a2 a3 a4 a5 a6 a7 a8 a9 a10 a11 x0 hy0) q_m991 q_n993 q_p41 q_i1 q_c994 (by decide +kernel) ⟨(Nat.le_of_ble_eq_true rfl), (Nat.le_of_ble_eq_true rfl)⟩ ⟨(Nat.le_of_ble_eq_true rfl), (Nat.le_of_ble_eq_true rfl)⟩ hK (hP.sub (ws' := [(a0, .inr (9, [.ref a1, .ref a2, .ref a3, .ref a4, .int 0, .ref a5, .ref a6, .ref a7, .ref a8, .ref a9, .ref a10, .ref a11]))]) [0] rfl) 9 0 rfl rfl rfl hl.1 rfl (Nat.le_of_ble_eq_true rfl) dX9_seekUnder_2 ?_
  refine lv_istore_n (lv' := [(2, .int (-2)), (0, .ref a0), (1, .int x0)]) hx hb dX9_seekUnder_5 rfl hl (by decide) rfl (fun ls hl => ?_)
  refine lv_iload_n hx hb dX9_seekUnder_6 rfl (lv_at hl 0 rfl) ?_
  refine lv_if_ne (tgt := 21) hx hb dX9_seekUnder_7 (by decide) (fun _ => ?_) (fun c9 => absurd c9 (by decide))
  refine lv_iload_n hx hb dX9_seekUnder_21 rfl (lv_at hl 0 rfl) ?_
  exact W.iret hx hb hr (fun t ht _ => ⟨rfl, ht⟩) (fun _ h => by cases h) dX9_seekUnder_22
set_option maxHeartbeats 4000000 in
set_option maxRecDepth 100000 in
theorem kX9_under_1 (l : Launch) (D : va_G) (cB cI cJ cZ cT cR : ClassId) (a0 a1 a2 a3 a4 a5 a6 a7 a8 a9 a10 a11 : Nat) (x0 : Int32) (hy0 : ¬ (0 ≤ x0 ∧ x0 ≤ 3)) : Met l yX9_under (uc yX9_under cX9_under 3 (some .int)) (rmL 5 0 0) (va_Pc [.ref a0, .int x0] (RPre D [(cB, .byte), (cI, .int), (cJ, .long), (cZ, .boolean), (cT, .object RX7), (cR, .object RX3)] [(a0, .inr (9, [.ref a1, .ref a2, .ref a3, .ref a4, .int 0, .ref a5, .ref a6, .ref a7, .ref a8, .ref a9, .ref a10, .ref a11]))])) (QcRead (-2)) 0 0 (fun _ => False) := by
  refine pm (by decide) (Nat.le_of_ble_eq_true rfl) ?_
  intro p e s m below meth c ls hx hb hr hml hown hlk hnm hts hv hl
  have hown : s.vm.findClass RX9 = some m.cls := hown
  have hl : lv_has ls 3 [(0, .ref a0), (1, .int x0)] := hl
  obtain ⟨hP, hK⟩ := hv
  refine lv_aload_n hx hb dX9_under_0 rfl (lv_at hl 0 rfl) ?_
  refine lv_iload_n hx hb dX9_under_1 rfl (lv_at hl 1 rfl) ?_
  refine cvR (n := 1) (As := [.int x0]) (rest := []) ⟨hx, hb, hml, hown, hts⟩ uc_in (kX9_seekUnder_1 l D cB cI cJ cZ cT cR a0 a1 a2 a3 a4 a5 a6 a7 a8 a9 a10 a11 x0 hy0) q_m1036 q_n1038 q_p44 q_i1 q_c1039 (by decide +kernel) ⟨(Nat.le_of_ble_eq_true rfl), (Nat.le_of_ble_eq_true rfl)⟩ ⟨(Nat.le_of_ble_eq_true rfl), (Nat.le_of_ble_eq_true rfl)⟩ hK (hP.sub (ws' := [(a0, .inr (9, [.ref a1, .ref a2, .ref a3, .ref a4, .int 0, .ref a5, .ref a6, .ref a7, .ref a8, .ref a9, .ref a10, .ref a11]))]) [0] rfl) 9 0 rfl rfl rfl hl.1 rfl (Nat.le_of_ble_eq_true rfl) dX9_under_2 ?_
  refine lv_istore_n (lv' := [(2, .int (-2)), (0, .ref a0), (1, .int x0)]) hx hb dX9_under_5 rfl hl (by decide) rfl (fun ls hl => ?_)
  refine lv_iload_n hx hb dX9_under_6 rfl (lv_at hl 0 rfl) ?_
  refine lv_if_ne (tgt := 20) hx hb dX9_under_7 (by decide) (fun _ => ?_) (fun c9 => absurd c9 (by decide))
  refine lv_iload_n hx hb dX9_under_20 rfl (lv_at hl 0 rfl) ?_
  exact W.iret hx hb hr (fun t ht _ => ⟨rfl, ht⟩) (fun _ h => by cases h) dX9_under_21
set_option maxHeartbeats 4000000 in
set_option maxRecDepth 100000 in
theorem kX10_under_1 (l : Launch) (D : va_G) (cB cI cJ cZ cT cR : ClassId) (a0 a1 a2 a3 a4 a5 a6 a7 a8 a9 a10 a11 a12 a13 a14 a15 a16 a17 a18 : Nat) (x0 : Int32) (hy0 : ¬ (0 ≤ x0 ∧ x0 ≤ 3)) (sz : Nat) : Met l yX10_under (uc yX10_under cX10_under 6 (some .int)) (rmL 4 0 0) (va_Pc [.ref a0, .int x0] (MPre D [(cB, .byte), (cI, .int), (cJ, .long), (cZ, .boolean), (cT, .object RX7), (cR, .object RX3)] [(a0, .inr (10, [.int 0, .ref a1, .ref a2, .ref a3, .ref a4, .ref a5, .int 0, .int 0, .int 0, .int 0, .int 0, .long 0, .int 0, .int 0, .int 0, .int (-1), .ref a6, .ref a7, .ref a8, .ref a9, .ref a10, .ref a11, .ref a12, .ref a13, .int 0, .int 0, .ref a14, .ref a15, .int 0, .int 0, .int 0, .ref a16, .ref a17, .int 0, .int 0, .int 0, .int 0, .int 0, .ref a18, .int 0, .int 0, .int 0]))] sz)) (va_Qi (fun (r : Int32) (_ : Unit) => r = (-2)) (MB D [(cB, .byte), (cI, .int), (cJ, .long), (cZ, .boolean), (cT, .object RX7), (cR, .object RX3)] [(a0, .inr (10, [.int 0, .ref a1, .ref a2, .ref a3, .ref a4, .ref a5, .int 0, .int 0, .int 0, .int 0, .int 0, .long 0, .int 0, .int 0, .int 0, .int (-1), .ref a6, .ref a7, .ref a8, .ref a9, .ref a10, .ref a11, .ref a12, .ref a13, .int 0, .int 0, .ref a14, .ref a15, .int 0, .int 0, .int 0, .ref a16, .ref a17, .int 0, .int 0, .int 0, .int 0, .int 0, .ref a18, .int 0, .int 0, .int 0]))] sz (fun (u : Unit) => [(a0, .inr (10, [.int 0, .ref a1, .ref a2, .ref a3, .ref a4, .ref a5, .int 0, .int 0, .int 0, .int 0, .int 0, .long 0, .int 0, .int 0, .int 0, .int (-1), .ref a6, .ref a7, .ref a8, .ref a9, .ref a10, .ref a11, .ref a12, .ref a13, .int 0, .int 0, .ref a14, .ref a15, .int 0, .int 0, .int 0, .ref a16, .ref a17, .int 0, .int 0, .int 0, .int 0, .int 0, .ref a18, .int 0, .int 0, .int 0]))])) (va_A [(a0, .inr (10, [.int 0, .ref a1, .ref a2, .ref a3, .ref a4, .ref a5, .int 0, .int 0, .int 0, .int 0, .int 0, .long 0, .int 0, .int 0, .int 0, .int (-1), .ref a6, .ref a7, .ref a8, .ref a9, .ref a10, .ref a11, .ref a12, .ref a13, .int 0, .int 0, .ref a14, .ref a15, .int 0, .int 0, .int 0, .ref a16, .ref a17, .int 0, .int 0, .int 0, .int 0, .int 0, .ref a18, .int 0, .int 0, .int 0]))] sz)) 0 0 (va_A [(a0, .inr (10, [.int 0, .ref a1, .ref a2, .ref a3, .ref a4, .ref a5, .int 0, .int 0, .int 0, .int 0, .int 0, .long 0, .int 0, .int 0, .int 0, .int (-1), .ref a6, .ref a7, .ref a8, .ref a9, .ref a10, .ref a11, .ref a12, .ref a13, .int 0, .int 0, .ref a14, .ref a15, .int 0, .int 0, .int 0, .ref a16, .ref a17, .int 0, .int 0, .int 0, .int 0, .int 0, .ref a18, .int 0, .int 0, .int 0]))] sz) := by
  refine pm (by decide) (Nat.le_of_ble_eq_true rfl) ?_
  intro p e s m below meth c ls hx hb hr hml hown hlk hnm hts hv hl
  have hown : s.vm.findClass RX10 = some m.cls := hown
  have hl : lv_has ls 6 [(0, .ref a0), (1, .int x0)] := hl
  obtain ⟨hsz, hP, hK, hD0, hE⟩ := hv
  subst hsz
  have hD := hD0.self (sz := s.heap.size)
  obtain ⟨AA, hAe⟩ : ∃ AA, AA = va_A [(a0, .inr (10, [.int 0, .ref a1, .ref a2, .ref a3, .ref a4, .ref a5, .int 0, .int 0, .int 0, .int 0, .int 0, .long 0, .int 0, .int 0, .int 0, .int (-1), .ref a6, .ref a7, .ref a8, .ref a9, .ref a10, .ref a11, .ref a12, .ref a13, .int 0, .int 0, .ref a14, .ref a15, .int 0, .int 0, .int 0, .ref a16, .ref a17, .int 0, .int 0, .int 0, .int 0, .int 0, .ref a18, .int 0, .int 0, .int 0]))] s.heap.size := ⟨_, rfl⟩
  rw [← hAe] at hD
  have hA : ∀ q : Nat, s.heap.size ≤ q → AA q := fun q h => by rw [hAe]; exact Or.inr h
  have hS : va_S AA s.heap s.heap [] := va_S.rf
  obtain ⟨-, hAOT, hAOR, hAOI⟩ := id hE
  refine lv_aload_n hx hb dX10_under_0 rfl (lv_at hl 0 rfl) ?_
  refine lv_iconst (v := 0) hx hb dX10_under_1 (by decide) ?_
  refine va_put (D := D) (ci := 10) (v := .int 0) (ty := .int) (C := RX10) (T := TX10) (N := 42) hx hb hts (fun w h => uc_in w (inX10 w h)) tyX10 tyX10_ok nmX10 hown hK hP hD hS 0 rfl rfl 0 (by decide) (hts _ (uc_in _ q_f1188)) (fun _ h9 => h9) rfl (by decide +kernel) rfl rfl (Nat.le_of_ble_eq_true rfl) dX10_under_2 (fun H locs hP hD hS => ?_)
  have hP : va_P D vwCl [(a0, .inr (10, [.int 0, .ref a1, .ref a2, .ref a3, .ref a4, .ref a5, .int 0, .int 0, .int 0, .int 0, .int 0, .long 0, .int 0, .int 0, .int 0, .int (-1), .ref a6, .ref a7, .ref a8, .ref a9, .ref a10, .ref a11, .ref a12, .ref a13, .int 0, .int 0, .ref a14, .ref a15, .int 0, .int 0, .int 0, .ref a16, .ref a17, .int 0, .int 0, .int 0, .int 0, .int 0, .ref a18, .int 0, .int 0, .int 0]))] H := hP
  have hD : va_D AA [(a0, .inr (10, [.int 0, .ref a1, .ref a2, .ref a3, .ref a4, .ref a5, .int 0, .int 0, .int 0, .int 0, .int 0, .long 0, .int 0, .int 0, .int 0, .int (-1), .ref a6, .ref a7, .ref a8, .ref a9, .ref a10, .ref a11, .ref a12, .ref a13, .int 0, .int 0, .ref a14, .ref a15, .int 0, .int 0, .int 0, .ref a16, .ref a17, .int 0, .int 0, .int 0, .int 0, .int 0, .ref a18, .int 0, .int 0, .int 0]))] := hD
  refine lv_aload_n hx hb dX10_under_5 rfl (lv_at hl 0 rfl) ?_
  refine lv_iload_n hx hb dX10_under_6 rfl (lv_at hl 1 rfl) ?_
  refine cvR (n := 1) (As := [.int x0]) (rest := []) ⟨hx, hb, hml, hown, hts⟩ uc_in (kX10_whyNot_1 l D cB cI cJ cZ cT cR a0 a1 a2 a3 a4 a5 a6 a7 a8 a9 a10 a11 a12 a13 a14 a15 a16 a17 a18 x0 hy0) q_m1788 q_n1790 q_p104 q_i11 q_c1791 (by decide +kernel) ⟨(Nat.le_of_ble_eq_true rfl), (Nat.le_of_ble_eq_true rfl)⟩ ⟨(Nat.le_of_ble_eq_true rfl), (Nat.le_of_ble_eq_true rfl)⟩ hK (hP.sub (ws' := [(a0, .inr (10, [.int 0, .ref a1, .ref a2, .ref a3, .ref a4, .ref a5, .int 0, .int 0, .int 0, .int 0, .int 0, .long 0, .int 0, .int 0, .int 0, .int (-1), .ref a6, .ref a7, .ref a8, .ref a9, .ref a10, .ref a11, .ref a12, .ref a13, .int 0, .int 0, .ref a14, .ref a15, .int 0, .int 0, .int 0, .ref a16, .ref a17, .int 0, .int 0, .int 0, .int 0, .int 0, .ref a18, .int 0, .int 0, .int 0]))]) [0] rfl) 10 0 rfl rfl rfl hl.1 rfl (Nat.le_of_ble_eq_true rfl) dX10_under_7 ?_
  refine lv_istore_n (lv' := [(2, .int (-2)), (0, .ref a0), (1, .int x0)]) hx hb dX10_under_10 rfl hl (by decide) rfl (fun ls hl => ?_)
  refine lv_iload_n hx hb dX10_under_11 rfl (lv_at hl 0 rfl) ?_
  refine lv_if_eq (tgt := 17) hx hb dX10_under_12 (by decide) (fun c9 => absurd c9 (by decide)) (fun _ => ?_)
  refine lv_iload_n hx hb dX10_under_15 rfl (lv_at hl 0 rfl) ?_
  subst hAe
  have hP9 := hP.sub (ws' := [(a0, .inr (10, [.int 0, .ref a1, .ref a2, .ref a3, .ref a4, .ref a5, .int 0, .int 0, .int 0, .int 0, .int 0, .long 0, .int 0, .int 0, .int 0, .int (-1), .ref a6, .ref a7, .ref a8, .ref a9, .ref a10, .ref a11, .ref a12, .ref a13, .int 0, .int 0, .ref a14, .ref a15, .int 0, .int 0, .int 0, .ref a16, .ref a17, .int 0, .int 0, .int 0, .int 0, .int 0, .ref a18, .int 0, .int 0, .int 0]))]) [0] rfl
  have hD9 := hD.sub (ws' := [(a0, .inr (10, [.int 0, .ref a1, .ref a2, .ref a3, .ref a4, .ref a5, .int 0, .int 0, .int 0, .int 0, .int 0, .long 0, .int 0, .int 0, .int 0, .int (-1), .ref a6, .ref a7, .ref a8, .ref a9, .ref a10, .ref a11, .ref a12, .ref a13, .int 0, .int 0, .ref a14, .ref a15, .int 0, .int 0, .int 0, .ref a16, .ref a17, .int 0, .int 0, .int 0, .int 0, .int 0, .ref a18, .int 0, .int 0, .int 0]))]) [0] rfl rfl
  exact W.iret hx hb hr (fun t ht hW => ⟨⟨(-2), (), rfl, rfl, by rw [ht]; exact hP9, va_K.moved hW.alike hK, hD9⟩, hS.F ht⟩) hS.2.2 dX10_under_16
set_option maxHeartbeats 4000000 in
set_option maxRecDepth 100000 in
theorem law_case_52 {p : Program} {l : Launch} {e : Env} {s : State} {m : MethodId} {below : List Frame} {meth : Method} {c : Code} {D : va_G} {cB cI cJ cZ cT cR : ClassId} {b : Nat} {xs : Nat → Int32} {A B : Nat → Nat} {H : Heap} {locs : List Loc} {ls : Array Slot} (C0 : lw_At p s m meth c b 6 xs) (hE : EX s) (hK : va_K D vwCl [(cB, .byte), (cI, .int), (cJ, .long), (cZ, .boolean), (cT, .object RX7), (cR, .object RX3)] s) (hP : va_P D vwCl (fwAll cB cI cJ cZ cT cR A B) H) (hD : va_D (fun q : Nat => s.heap.size ≤ q) (fwAll cB cI cJ cZ cT cR A B)) (hS : va_S (fun q : Nat => s.heap.size ≤ q) s.heap H locs) (hl : lv_has ls 4 [(3, .int 0), (2, .ref (B 0)), (1, .ref (A 0)), (0, .ref b)]) : W p l e room_1 s m #[Value.ref b] below meth c H locs 180 4779 (lw_Z below #[Value.ref b] s) (F0 m 1682 ls []) := by
  obtain ⟨hx, hb, hr, hml, hown, hts, hX, hbl, hlocks, hgv⟩ := id C0
  have hown : s.vm.findClass RL = some m.cls := hown
  have hb : c.code = cL_law := hb
  have hA : ∀ q : Nat, s.heap.size ≤ q → (fun q : Nat => s.heap.size ≤ q) q := fun _ h => h
  have hbA : ¬ (fun q : Nat => s.heap.size ≤ q) b := Nat.not_le.mpr hbl
  have hP := hP.sub (ws' := [((A 0), .inr (9, [.ref (A 1), .ref (A 3), .ref (A 12), .ref (A 21), .int 0, .ref (A 49), .ref (A 51), .ref (A 60), .ref (A 61), .ref (A 62), .ref (A 63), .ref (A 64)])), ((A 3), .inr (7, [.int 0, .int 0, .int 0, .int 0, .int 0, .int 0, .int 0, .int 0, .ref (A 4), .ref (A 5), .ref (A 6), .ref (A 7), .ref (A 8), .ref (A 9), .ref (A 10), .ref (A 11)])), ((B 0), .inr (10, [.int 0, .ref (B 1), .ref (B 2), .ref (B 3), .ref (B 4), .ref (B 5), .int 0, .int 0, .int 0, .int 0, .int 0, .long 0, .int 0, .int 0, .int 0, .int (-1), .ref (B 6), .ref (B 7), .ref (B 8), .ref (B 9), .ref (B 10), .ref (B 11), .ref (B 12), .ref (B 13), .int 0, .int 0, .ref (B 14), .ref (B 15), .int 0, .int 0, .int 0, .ref (B 16), .ref (B 17), .int 0, .int 0, .int 0, .int 0, .int 0, .ref (B 18), .int 0, .int 0, .int 0])), ((B 6), .inl (cI, 5, .inl (fun _ => 0)))]) [0, 3, 60, 66] rfl
  have hD := hD.sub (ws' := [((A 0), .inr (9, [.ref (A 1), .ref (A 3), .ref (A 12), .ref (A 21), .int 0, .ref (A 49), .ref (A 51), .ref (A 60), .ref (A 61), .ref (A 62), .ref (A 63), .ref (A 64)])), ((A 3), .inr (7, [.int 0, .int 0, .int 0, .int 0, .int 0, .int 0, .int 0, .int 0, .ref (A 4), .ref (A 5), .ref (A 6), .ref (A 7), .ref (A 8), .ref (A 9), .ref (A 10), .ref (A 11)])), ((B 0), .inr (10, [.int 0, .ref (B 1), .ref (B 2), .ref (B 3), .ref (B 4), .ref (B 5), .int 0, .int 0, .int 0, .int 0, .int 0, .long 0, .int 0, .int 0, .int 0, .int (-1), .ref (B 6), .ref (B 7), .ref (B 8), .ref (B 9), .ref (B 10), .ref (B 11), .ref (B 12), .ref (B 13), .int 0, .int 0, .ref (B 14), .ref (B 15), .int 0, .int 0, .int 0, .ref (B 16), .ref (B 17), .int 0, .int 0, .int 0, .int 0, .int 0, .ref (B 18), .int 0, .int 0, .int 0])), ((B 6), .inl (cI, 5, .inl (fun _ => 0)))]) [0, 3, 60, 66] rfl rfl
  refine lv_aload_n hx hb dL_law_1682 rfl (lv_at hl 2 rfl) ?_
  refine lv_aload_n hx hb dL_law_1683 rfl (lv_at hl 3 rfl) ?_
  refine lv_iload_n hx hb dL_law_1684 rfl (lv_at hl 0 rfl) ?_
  refine lv_iconst (v := 1) hx hb dL_law_1685 (by decide) ?_
  refine lv_iadd hx hb dL_law_1686 ?_
  refine pv_i (v := 1) (by decide) ?_
  refine va_sld hx hb hX hbl hbA hS (vp_in_iff.mpr ⟨by decide, by decide⟩) dL_law_1687 ?_
  refine lv_topi (fun p1 ep1 => ?_)
  by_cases hc1 : 0 ≤ p1 ∧ p1 ≤ 3
  · refine cvR (n := 1) (As := [.int p1]) (rest := []) ⟨hx, hb, hml, hown, hts⟩ (fun _ h => uw_in h) (kX9_under_0 l D cB cI cJ cZ cT cR (A 0) (A 3) (A 1) (A 12) (A 21) (A 49) (A 51) (A 60) (A 61) (A 62) (A 63) (A 64) (A 4) (A 5) (A 6) (A 7) (A 8) (A 9) (A 10) (A 11) p1 hc1) q_m1032 q_n1033 q_e1034 q_i1 q_c1035 (by decide +kernel) ⟨(Nat.le_of_ble_eq_true rfl), (Nat.le_of_ble_eq_true rfl)⟩ ⟨(Nat.le_of_ble_eq_true rfl), (Nat.le_of_ble_eq_true rfl)⟩ hK (hP.sub (ws' := [((A 0), .inr (9, [.ref (A 1), .ref (A 3), .ref (A 12), .ref (A 21), .int 0, .ref (A 49), .ref (A 51), .ref (A 60), .ref (A 61), .ref (A 62), .ref (A 63), .ref (A 64)])), ((A 3), .inr (7, [.int 0, .int 0, .int 0, .int 0, .int 0, .int 0, .int 0, .int 0, .ref (A 4), .ref (A 5), .ref (A 6), .ref (A 7), .ref (A 8), .ref (A 9), .ref (A 10), .ref (A 11)]))]) [0, 1] rfl) 9 0 rfl rfl rfl hl.1 rfl (Nat.le_of_ble_eq_true rfl) dL_law_1688 ?_
    refine lv_aload_n hx hb dL_law_1691 rfl (lv_at hl 1 rfl) ?_
    refine lv_aload_n hx hb dL_law_1692 rfl (lv_at hl 3 rfl) ?_
    refine lv_iload_n hx hb dL_law_1693 rfl (lv_at hl 0 rfl) ?_
    refine lv_iconst (v := 1) hx hb dL_law_1694 (by decide) ?_
    refine lv_iadd hx hb dL_law_1695 ?_
    refine pv_i (v := 1) (by decide) ?_
    refine va_sld hx hb hX hbl hbA hS (vp_in_iff.mpr ⟨by decide, by decide⟩) dL_law_1696 ?_
    refine pv_i (v := p1) ep1.symm ?_
    refine cvM (n := 1) (As := [.int p1]) (rest := [.int (-2)]) (wr := [((A 0), .inr (9, [.ref (A 1), .ref (A 3), .ref (A 12), .ref (A 21), .int 0, .ref (A 49), .ref (A 51), .ref (A 60), .ref (A 61), .ref (A 62), .ref (A 63), .ref (A 64)])), ((A 3), .inr (7, [.int 0, .int 0, .int 0, .int 0, .int 0, .int 0, .int 0, .int 0, .ref (A 4), .ref (A 5), .ref (A 6), .ref (A 7), .ref (A 8), .ref (A 9), .ref (A 10), .ref (A 11)]))]) ⟨hx, hb, hml, hown, hts⟩ (fun _ h => uw_in h) (kX10_under_0 l D cB cI cJ cZ cT cR (B 0) (B 6) (B 1) (B 2) (B 3) (B 4) (B 5) (B 7) (B 8) (B 9) (B 10) (B 11) (B 12) (B 13) (B 14) (B 15) (B 16) (B 17) (B 18) p1 hc1 H.size) q_m1812 q_n1813 q_e1814 q_i11 q_c1815 (by decide +kernel) ⟨(Nat.le_of_ble_eq_true rfl), (Nat.le_of_ble_eq_true rfl)⟩ ⟨(Nat.le_of_ble_eq_true rfl), (Nat.le_of_ble_eq_true rfl)⟩ hE hK hP hD hS hA [2, 3] [0, 1] rfl rfl rfl rfl (by decide) 10 0 rfl rfl rfl hl.1 rfl (Nat.le_of_ble_eq_true rfl) dL_law_1697 (fun r9 u H locs hpo hP hD hS => ?_)
    have hP : va_P D vwCl [((A 0), .inr (9, [.ref (A 1), .ref (A 3), .ref (A 12), .ref (A 21), .int 0, .ref (A 49), .ref (A 51), .ref (A 60), .ref (A 61), .ref (A 62), .ref (A 63), .ref (A 64)])), ((A 3), .inr (7, [.int 0, .int 0, .int 0, .int 0, .int 0, .int 0, .int 0, .int 0, .ref (A 4), .ref (A 5), .ref (A 6), .ref (A 7), .ref (A 8), .ref (A 9), .ref (A 10), .ref (A 11)])), ((B 0), .inr (10, [.int 0, .ref (B 1), .ref (B 2), .ref (B 3), .ref (B 4), .ref (B 5), .int 0, .int 0, .int 0, .int 0, .int 0, .long 0, .int 0, .int 0, .int 0, .int (-1), .ref (B 6), .ref (B 7), .ref (B 8), .ref (B 9), .ref (B 10), .ref (B 11), .ref (B 12), .ref (B 13), .int 0, .int 0, .ref (B 14), .ref (B 15), .int 0, .int 0, .int 0, .ref (B 16), .ref (B 17), .int 0, .int 0, .int 0, .int 0, .int 0, .ref (B 18), .int 0, .int 0, .int 0])), ((B 6), .inl (cI, 5, .inl (fun _ => 0)))] H := hP
    have hD : va_D (fun q : Nat => s.heap.size ≤ q) [((A 0), .inr (9, [.ref (A 1), .ref (A 3), .ref (A 12), .ref (A 21), .int 0, .ref (A 49), .ref (A 51), .ref (A 60), .ref (A 61), .ref (A 62), .ref (A 63), .ref (A 64)])), ((A 3), .inr (7, [.int 0, .int 0, .int 0, .int 0, .int 0, .int 0, .int 0, .int 0, .ref (A 4), .ref (A 5), .ref (A 6), .ref (A 7), .ref (A 8), .ref (A 9), .ref (A 10), .ref (A 11)])), ((B 0), .inr (10, [.int 0, .ref (B 1), .ref (B 2), .ref (B 3), .ref (B 4), .ref (B 5), .int 0, .int 0, .int 0, .int 0, .int 0, .long 0, .int 0, .int 0, .int 0, .int (-1), .ref (B 6), .ref (B 7), .ref (B 8), .ref (B 9), .ref (B 10), .ref (B 11), .ref (B 12), .ref (B 13), .int 0, .int 0, .ref (B 14), .ref (B 15), .int 0, .int 0, .int 0, .ref (B 16), .ref (B 17), .int 0, .int 0, .int 0, .int 0, .int 0, .ref (B 18), .int 0, .int 0, .int 0])), ((B 6), .inl (cI, 5, .inl (fun _ => 0)))] := hD
    refine W.cs (cells' := 180) (slots' := 4779) rfl rfl ?_
    have hpo : r9 = (-2) := hpo
    subst hpo
    refine lv_icmp_eq (tgt := 2362) hx hb dL_law_1700 (by decide) (fun _ => ?_) (fun c9 => absurd (by decide) c9)
    exact law_end C0 hS (Nat.le_of_ble_eq_true rfl) (Nat.le_of_ble_eq_true rfl) ls hl
  · refine cvR (n := 1) (As := [.int p1]) (rest := []) ⟨hx, hb, hml, hown, hts⟩ (fun _ h => uw_in h) (kX9_under_1 l D cB cI cJ cZ cT cR (A 0) (A 1) (A 3) (A 12) (A 21) (A 49) (A 51) (A 60) (A 61) (A 62) (A 63) (A 64) p1 hc1) q_m1032 q_n1033 q_e1034 q_i1 q_c1035 (by decide +kernel) ⟨(Nat.le_of_ble_eq_true rfl), (Nat.le_of_ble_eq_true rfl)⟩ ⟨(Nat.le_of_ble_eq_true rfl), (Nat.le_of_ble_eq_true rfl)⟩ hK (hP.sub (ws' := [((A 0), .inr (9, [.ref (A 1), .ref (A 3), .ref (A 12), .ref (A 21), .int 0, .ref (A 49), .ref (A 51), .ref (A 60), .ref (A 61), .ref (A 62), .ref (A 63), .ref (A 64)]))]) [0] rfl) 9 0 rfl rfl rfl hl.1 rfl (Nat.le_of_ble_eq_true rfl) dL_law_1688 ?_
    refine lv_aload_n hx hb dL_law_1691 rfl (lv_at hl 1 rfl) ?_
    refine lv_aload_n hx hb dL_law_1692 rfl (lv_at hl 3 rfl) ?_
    refine lv_iload_n hx hb dL_law_1693 rfl (lv_at hl 0 rfl) ?_
    refine lv_iconst (v := 1) hx hb dL_law_1694 (by decide) ?_
    refine lv_iadd hx hb dL_law_1695 ?_
    refine pv_i (v := 1) (by decide) ?_
    refine va_sld hx hb hX hbl hbA hS (vp_in_iff.mpr ⟨by decide, by decide⟩) dL_law_1696 ?_
    refine pv_i (v := p1) ep1.symm ?_
    refine cvM (n := 1) (As := [.int p1]) (rest := [.int (-2)]) (wr := [((A 0), .inr (9, [.ref (A 1), .ref (A 3), .ref (A 12), .ref (A 21), .int 0, .ref (A 49), .ref (A 51), .ref (A 60), .ref (A 61), .ref (A 62), .ref (A 63), .ref (A 64)])), ((A 3), .inr (7, [.int 0, .int 0, .int 0, .int 0, .int 0, .int 0, .int 0, .int 0, .ref (A 4), .ref (A 5), .ref (A 6), .ref (A 7), .ref (A 8), .ref (A 9), .ref (A 10), .ref (A 11)])), ((B 6), .inl (cI, 5, .inl (fun _ => 0)))]) ⟨hx, hb, hml, hown, hts⟩ (fun _ h => uw_in h) (kX10_under_1 l D cB cI cJ cZ cT cR (B 0) (B 1) (B 2) (B 3) (B 4) (B 5) (B 6) (B 7) (B 8) (B 9) (B 10) (B 11) (B 12) (B 13) (B 14) (B 15) (B 16) (B 17) (B 18) p1 hc1 H.size) q_m1812 q_n1813 q_e1814 q_i11 q_c1815 (by decide +kernel) ⟨(Nat.le_of_ble_eq_true rfl), (Nat.le_of_ble_eq_true rfl)⟩ ⟨(Nat.le_of_ble_eq_true rfl), (Nat.le_of_ble_eq_true rfl)⟩ hE hK hP hD hS hA [2] [0, 1, 3] rfl rfl rfl rfl (by decide) 10 0 rfl rfl rfl hl.1 rfl (Nat.le_of_ble_eq_true rfl) dL_law_1697 (fun r9 u H locs hpo hP hD hS => ?_)
    have hP : va_P D vwCl [((A 0), .inr (9, [.ref (A 1), .ref (A 3), .ref (A 12), .ref (A 21), .int 0, .ref (A 49), .ref (A 51), .ref (A 60), .ref (A 61), .ref (A 62), .ref (A 63), .ref (A 64)])), ((A 3), .inr (7, [.int 0, .int 0, .int 0, .int 0, .int 0, .int 0, .int 0, .int 0, .ref (A 4), .ref (A 5), .ref (A 6), .ref (A 7), .ref (A 8), .ref (A 9), .ref (A 10), .ref (A 11)])), ((B 6), .inl (cI, 5, .inl (fun _ => 0))), ((B 0), .inr (10, [.int 0, .ref (B 1), .ref (B 2), .ref (B 3), .ref (B 4), .ref (B 5), .int 0, .int 0, .int 0, .int 0, .int 0, .long 0, .int 0, .int 0, .int 0, .int (-1), .ref (B 6), .ref (B 7), .ref (B 8), .ref (B 9), .ref (B 10), .ref (B 11), .ref (B 12), .ref (B 13), .int 0, .int 0, .ref (B 14), .ref (B 15), .int 0, .int 0, .int 0, .ref (B 16), .ref (B 17), .int 0, .int 0, .int 0, .int 0, .int 0, .ref (B 18), .int 0, .int 0, .int 0]))] H := hP
    have hD : va_D (fun q : Nat => s.heap.size ≤ q) [((A 0), .inr (9, [.ref (A 1), .ref (A 3), .ref (A 12), .ref (A 21), .int 0, .ref (A 49), .ref (A 51), .ref (A 60), .ref (A 61), .ref (A 62), .ref (A 63), .ref (A 64)])), ((A 3), .inr (7, [.int 0, .int 0, .int 0, .int 0, .int 0, .int 0, .int 0, .int 0, .ref (A 4), .ref (A 5), .ref (A 6), .ref (A 7), .ref (A 8), .ref (A 9), .ref (A 10), .ref (A 11)])), ((B 6), .inl (cI, 5, .inl (fun _ => 0))), ((B 0), .inr (10, [.int 0, .ref (B 1), .ref (B 2), .ref (B 3), .ref (B 4), .ref (B 5), .int 0, .int 0, .int 0, .int 0, .int 0, .long 0, .int 0, .int 0, .int 0, .int (-1), .ref (B 6), .ref (B 7), .ref (B 8), .ref (B 9), .ref (B 10), .ref (B 11), .ref (B 12), .ref (B 13), .int 0, .int 0, .ref (B 14), .ref (B 15), .int 0, .int 0, .int 0, .ref (B 16), .ref (B 17), .int 0, .int 0, .int 0, .int 0, .int 0, .ref (B 18), .int 0, .int 0, .int 0]))] := hD
    refine W.cs (cells' := 180) (slots' := 4779) rfl rfl ?_
    have hpo : r9 = (-2) := hpo
    subst hpo
    refine lv_icmp_eq (tgt := 2362) hx hb dL_law_1700 (by decide) (fun _ => ?_) (fun c9 => absurd (by decide) c9)
    exact law_end C0 hS (Nat.le_of_ble_eq_true rfl) (Nat.le_of_ble_eq_true rfl) ls hl
set_option maxHeartbeats 4000000 in
set_option maxRecDepth 100000 in
theorem kX9_floor_0 (l : Launch) (D : va_G) (cB cI cJ cZ cT cR : ClassId) (a0 a1 a2 a3 a4 a5 a6 a7 a8 a9 a10 a11 a12 a13 a14 a15 a16 a17 a18 a19 : Nat) (x0 : Int32) (hy0 : 0 ≤ x0 ∧ x0 ≤ 3) : Met l yX9_floor (uc yX9_floor cX9_floor 3 (some .int)) (rmL 5 0 0) (va_Pc [.ref a0, .int x0] (RPre D [(cB, .byte), (cI, .int), (cJ, .long), (cZ, .boolean), (cT, .object RX7), (cR, .object RX3)] [(a0, .inr (9, [.ref a2, .ref a1, .ref a3, .ref a4, .int 0, .ref a5, .ref a6, .ref a7, .ref a8, .ref a9, .ref a10, .ref a11])), (a1, .inr (7, [.int 0, .int 0, .int 0, .int 0, .int 0, .int 0, .int 0, .int 0, .ref a12, .ref a13, .ref a14, .ref a15, .ref a16, .ref a17, .ref a18, .ref a19]))])) (QcRead (-2)) 0 0 (fun _ => False) := by
  refine pm (by decide) (Nat.le_of_ble_eq_true rfl) ?_
  intro p e s m below meth c ls hx hb hr hml hown hlk hnm hts hv hl
  have hown : s.vm.findClass RX9 = some m.cls := hown
  have hl : lv_has ls 3 [(0, .ref a0), (1, .int x0)] := hl
  obtain ⟨hP, hK⟩ := hv
  refine lv_aload_n hx hb dX9_floor_0 rfl (lv_at hl 0 rfl) ?_
  refine lv_iload_n hx hb dX9_floor_1 rfl (lv_at hl 1 rfl) ?_
  refine cvR (n := 1) (As := [.int x0]) (rest := []) ⟨hx, hb, hml, hown, hts⟩ uc_in (kX9_seekUnder_0 l D cB cI cJ cZ cT cR a0 a1 a2 a3 a4 a5 a6 a7 a8 a9 a10 a11 a12 a13 a14 a15 a16 a17 a18 a19 x0 hy0) q_m1036 q_n1038 q_p44 q_i1 q_c1039 (by decide +kernel) ⟨(Nat.le_of_ble_eq_true rfl), (Nat.le_of_ble_eq_true rfl)⟩ ⟨(Nat.le_of_ble_eq_true rfl), (Nat.le_of_ble_eq_true rfl)⟩ hK (hP.sub (ws' := [(a0, .inr (9, [.ref a2, .ref a1, .ref a3, .ref a4, .int 0, .ref a5, .ref a6, .ref a7, .ref a8, .ref a9, .ref a10, .ref a11])), (a1, .inr (7, [.int 0, .int 0, .int 0, .int 0, .int 0, .int 0, .int 0, .int 0, .ref a12, .ref a13, .ref a14, .ref a15, .ref a16, .ref a17, .ref a18, .ref a19]))]) [0, 1] rfl) 9 0 rfl rfl rfl hl.1 rfl (Nat.le_of_ble_eq_true rfl) dX9_floor_2 ?_
  refine lv_istore_n (lv' := [(2, .int (-2)), (0, .ref a0), (1, .int x0)]) hx hb dX9_floor_5 rfl hl (by decide) rfl (fun ls hl => ?_)
  refine lv_iload_n hx hb dX9_floor_6 rfl (lv_at hl 0 rfl) ?_
  refine lv_if_ne (tgt := 20) hx hb dX9_floor_7 (by decide) (fun _ => ?_) (fun c9 => absurd c9 (by decide))
  refine lv_iload_n hx hb dX9_floor_20 rfl (lv_at hl 0 rfl) ?_
  exact W.iret hx hb hr (fun t ht _ => ⟨rfl, ht⟩) (fun _ h => by cases h) dX9_floor_21
set_option maxHeartbeats 4000000 in
set_option maxRecDepth 100000 in
theorem kX10_floor_0 (l : Launch) (D : va_G) (cB cI cJ cZ cT cR : ClassId) (a0 a1 a2 a3 a4 a5 a6 a7 a8 a9 a10 a11 a12 a13 a14 a15 a16 a17 a18 : Nat) (x0 : Int32) (hy0 : 0 ≤ x0 ∧ x0 ≤ 3) (sz : Nat) : Met l yX10_floor (uc yX10_floor cX10_floor 5 (some .int)) (rmL 4 0 0) (va_Pc [.ref a0, .int x0] (MPre D [(cB, .byte), (cI, .int), (cJ, .long), (cZ, .boolean), (cT, .object RX7), (cR, .object RX3)] [(a0, .inr (10, [.int 0, .ref a2, .ref a3, .ref a4, .ref a5, .ref a6, .int 0, .int 0, .int 0, .int 0, .int 0, .long 0, .int 0, .int 0, .int 0, .int (-1), .ref a1, .ref a7, .ref a8, .ref a9, .ref a10, .ref a11, .ref a12, .ref a13, .int 0, .int 0, .ref a14, .ref a15, .int 0, .int 0, .int 0, .ref a16, .ref a17, .int 0, .int 0, .int 0, .int 0, .int 0, .ref a18, .int 0, .int 0, .int 0])), (a1, .inl (cI, 5, .inl (fun _ => 0)))] sz)) (va_Qi (fun (r : Int32) (_ : Unit) => r = (-2)) (MB D [(cB, .byte), (cI, .int), (cJ, .long), (cZ, .boolean), (cT, .object RX7), (cR, .object RX3)] [(a0, .inr (10, [.int 0, .ref a2, .ref a3, .ref a4, .ref a5, .ref a6, .int 0, .int 0, .int 0, .int 0, .int 0, .long 0, .int 0, .int 0, .int 0, .int (-1), .ref a1, .ref a7, .ref a8, .ref a9, .ref a10, .ref a11, .ref a12, .ref a13, .int 0, .int 0, .ref a14, .ref a15, .int 0, .int 0, .int 0, .ref a16, .ref a17, .int 0, .int 0, .int 0, .int 0, .int 0, .ref a18, .int 0, .int 0, .int 0])), (a1, .inl (cI, 5, .inl (fun _ => 0)))] sz (fun (u : Unit) => [(a0, .inr (10, [.int 0, .ref a2, .ref a3, .ref a4, .ref a5, .ref a6, .int 0, .int 0, .int 0, .int 0, .int 0, .long 0, .int 0, .int 0, .int 0, .int (-1), .ref a1, .ref a7, .ref a8, .ref a9, .ref a10, .ref a11, .ref a12, .ref a13, .int 0, .int 0, .ref a14, .ref a15, .int 0, .int 0, .int 0, .ref a16, .ref a17, .int 0, .int 0, .int 0, .int 0, .int 0, .ref a18, .int 0, .int 0, .int 0])), (a1, .inl (cI, 5, .inl (fun _ => 0)))])) (va_A [(a0, .inr (10, [.int 0, .ref a2, .ref a3, .ref a4, .ref a5, .ref a6, .int 0, .int 0, .int 0, .int 0, .int 0, .long 0, .int 0, .int 0, .int 0, .int (-1), .ref a1, .ref a7, .ref a8, .ref a9, .ref a10, .ref a11, .ref a12, .ref a13, .int 0, .int 0, .ref a14, .ref a15, .int 0, .int 0, .int 0, .ref a16, .ref a17, .int 0, .int 0, .int 0, .int 0, .int 0, .ref a18, .int 0, .int 0, .int 0])), (a1, .inl (cI, 5, .inl (fun _ => 0)))] sz)) 0 0 (va_A [(a0, .inr (10, [.int 0, .ref a2, .ref a3, .ref a4, .ref a5, .ref a6, .int 0, .int 0, .int 0, .int 0, .int 0, .long 0, .int 0, .int 0, .int 0, .int (-1), .ref a1, .ref a7, .ref a8, .ref a9, .ref a10, .ref a11, .ref a12, .ref a13, .int 0, .int 0, .ref a14, .ref a15, .int 0, .int 0, .int 0, .ref a16, .ref a17, .int 0, .int 0, .int 0, .int 0, .int 0, .ref a18, .int 0, .int 0, .int 0])), (a1, .inl (cI, 5, .inl (fun _ => 0)))] sz) := by
  refine pm (by decide) (Nat.le_of_ble_eq_true rfl) ?_
  intro p e s m below meth c ls hx hb hr hml hown hlk hnm hts hv hl
  have hown : s.vm.findClass RX10 = some m.cls := hown
  have hl : lv_has ls 5 [(0, .ref a0), (1, .int x0)] := hl
  obtain ⟨hsz, hP, hK, hD0, hE⟩ := hv
  subst hsz
  have hD := hD0.self (sz := s.heap.size)
  obtain ⟨AA, hAe⟩ : ∃ AA, AA = va_A [(a0, .inr (10, [.int 0, .ref a2, .ref a3, .ref a4, .ref a5, .ref a6, .int 0, .int 0, .int 0, .int 0, .int 0, .long 0, .int 0, .int 0, .int 0, .int (-1), .ref a1, .ref a7, .ref a8, .ref a9, .ref a10, .ref a11, .ref a12, .ref a13, .int 0, .int 0, .ref a14, .ref a15, .int 0, .int 0, .int 0, .ref a16, .ref a17, .int 0, .int 0, .int 0, .int 0, .int 0, .ref a18, .int 0, .int 0, .int 0])), (a1, .inl (cI, 5, .inl (fun _ => 0)))] s.heap.size := ⟨_, rfl⟩
  rw [← hAe] at hD
  have hA : ∀ q : Nat, s.heap.size ≤ q → AA q := fun q h => by rw [hAe]; exact Or.inr h
  have hS : va_S AA s.heap s.heap [] := va_S.rf
  obtain ⟨-, hAOT, hAOR, hAOI⟩ := id hE
  refine lv_aload_n hx hb dX10_floor_0 rfl (lv_at hl 0 rfl) ?_
  refine lv_iconst (v := 0) hx hb dX10_floor_1 (by decide) ?_
  refine va_put (D := D) (ci := 10) (v := .int 0) (ty := .int) (C := RX10) (T := TX10) (N := 42) hx hb hts (fun w h => uc_in w (inX10 w h)) tyX10 tyX10_ok nmX10 hown hK hP hD hS 0 rfl rfl 0 (by decide) (hts _ (uc_in _ q_f1188)) (fun _ h9 => h9) rfl (by decide +kernel) rfl rfl (Nat.le_of_ble_eq_true rfl) dX10_floor_2 (fun H locs hP hD hS => ?_)
  have hP : va_P D vwCl [(a0, .inr (10, [.int 0, .ref a2, .ref a3, .ref a4, .ref a5, .ref a6, .int 0, .int 0, .int 0, .int 0, .int 0, .long 0, .int 0, .int 0, .int 0, .int (-1), .ref a1, .ref a7, .ref a8, .ref a9, .ref a10, .ref a11, .ref a12, .ref a13, .int 0, .int 0, .ref a14, .ref a15, .int 0, .int 0, .int 0, .ref a16, .ref a17, .int 0, .int 0, .int 0, .int 0, .int 0, .ref a18, .int 0, .int 0, .int 0])), (a1, .inl (cI, 5, .inl (fun _ => 0)))] H := hP
  have hD : va_D AA [(a0, .inr (10, [.int 0, .ref a2, .ref a3, .ref a4, .ref a5, .ref a6, .int 0, .int 0, .int 0, .int 0, .int 0, .long 0, .int 0, .int 0, .int 0, .int (-1), .ref a1, .ref a7, .ref a8, .ref a9, .ref a10, .ref a11, .ref a12, .ref a13, .int 0, .int 0, .ref a14, .ref a15, .int 0, .int 0, .int 0, .ref a16, .ref a17, .int 0, .int 0, .int 0, .int 0, .int 0, .ref a18, .int 0, .int 0, .int 0])), (a1, .inl (cI, 5, .inl (fun _ => 0)))] := hD
  refine lv_aload_n hx hb dX10_floor_5 rfl (lv_at hl 0 rfl) ?_
  refine lv_iload_n hx hb dX10_floor_6 rfl (lv_at hl 1 rfl) ?_
  refine cvR (n := 1) (As := [.int x0]) (rest := []) ⟨hx, hb, hml, hown, hts⟩ uc_in (kX10_whyNot_0 l D cB cI cJ cZ cT cR a0 a1 a2 a3 a4 a5 a6 a7 a8 a9 a10 a11 a12 a13 a14 a15 a16 a17 a18 x0 hy0) q_m1788 q_n1790 q_p104 q_i11 q_c1791 (by decide +kernel) ⟨(Nat.le_of_ble_eq_true rfl), (Nat.le_of_ble_eq_true rfl)⟩ ⟨(Nat.le_of_ble_eq_true rfl), (Nat.le_of_ble_eq_true rfl)⟩ hK (hP.sub (ws' := [(a0, .inr (10, [.int 0, .ref a2, .ref a3, .ref a4, .ref a5, .ref a6, .int 0, .int 0, .int 0, .int 0, .int 0, .long 0, .int 0, .int 0, .int 0, .int (-1), .ref a1, .ref a7, .ref a8, .ref a9, .ref a10, .ref a11, .ref a12, .ref a13, .int 0, .int 0, .ref a14, .ref a15, .int 0, .int 0, .int 0, .ref a16, .ref a17, .int 0, .int 0, .int 0, .int 0, .int 0, .ref a18, .int 0, .int 0, .int 0])), (a1, .inl (cI, 5, .inl (fun _ => 0)))]) [0, 1] rfl) 10 0 rfl rfl rfl hl.1 rfl (Nat.le_of_ble_eq_true rfl) dX10_floor_7 ?_
  refine lv_istore_n (lv' := [(2, .int (-2)), (0, .ref a0), (1, .int x0)]) hx hb dX10_floor_10 rfl hl (by decide) rfl (fun ls hl => ?_)
  refine lv_iload_n hx hb dX10_floor_11 rfl (lv_at hl 0 rfl) ?_
  refine lv_if_eq (tgt := 17) hx hb dX10_floor_12 (by decide) (fun c9 => absurd c9 (by decide)) (fun _ => ?_)
  refine lv_iload_n hx hb dX10_floor_15 rfl (lv_at hl 0 rfl) ?_
  subst hAe
  have hP9 := hP.sub (ws' := [(a0, .inr (10, [.int 0, .ref a2, .ref a3, .ref a4, .ref a5, .ref a6, .int 0, .int 0, .int 0, .int 0, .int 0, .long 0, .int 0, .int 0, .int 0, .int (-1), .ref a1, .ref a7, .ref a8, .ref a9, .ref a10, .ref a11, .ref a12, .ref a13, .int 0, .int 0, .ref a14, .ref a15, .int 0, .int 0, .int 0, .ref a16, .ref a17, .int 0, .int 0, .int 0, .int 0, .int 0, .ref a18, .int 0, .int 0, .int 0])), (a1, .inl (cI, 5, .inl (fun _ => 0)))]) [0, 1] rfl
  have hD9 := hD.sub (ws' := [(a0, .inr (10, [.int 0, .ref a2, .ref a3, .ref a4, .ref a5, .ref a6, .int 0, .int 0, .int 0, .int 0, .int 0, .long 0, .int 0, .int 0, .int 0, .int (-1), .ref a1, .ref a7, .ref a8, .ref a9, .ref a10, .ref a11, .ref a12, .ref a13, .int 0, .int 0, .ref a14, .ref a15, .int 0, .int 0, .int 0, .ref a16, .ref a17, .int 0, .int 0, .int 0, .int 0, .int 0, .ref a18, .int 0, .int 0, .int 0])), (a1, .inl (cI, 5, .inl (fun _ => 0)))]) [0, 1] rfl rfl
  exact W.iret hx hb hr (fun t ht hW => ⟨⟨(-2), (), rfl, rfl, by rw [ht]; exact hP9, va_K.moved hW.alike hK, hD9⟩, hS.F ht⟩) hS.2.2 dX10_floor_16
set_option maxHeartbeats 4000000 in
set_option maxRecDepth 100000 in
theorem kX9_floor_1 (l : Launch) (D : va_G) (cB cI cJ cZ cT cR : ClassId) (a0 a1 a2 a3 a4 a5 a6 a7 a8 a9 a10 a11 : Nat) (x0 : Int32) (hy0 : ¬ (0 ≤ x0 ∧ x0 ≤ 3)) : Met l yX9_floor (uc yX9_floor cX9_floor 3 (some .int)) (rmL 5 0 0) (va_Pc [.ref a0, .int x0] (RPre D [(cB, .byte), (cI, .int), (cJ, .long), (cZ, .boolean), (cT, .object RX7), (cR, .object RX3)] [(a0, .inr (9, [.ref a1, .ref a2, .ref a3, .ref a4, .int 0, .ref a5, .ref a6, .ref a7, .ref a8, .ref a9, .ref a10, .ref a11]))])) (QcRead (-2)) 0 0 (fun _ => False) := by
  refine pm (by decide) (Nat.le_of_ble_eq_true rfl) ?_
  intro p e s m below meth c ls hx hb hr hml hown hlk hnm hts hv hl
  have hown : s.vm.findClass RX9 = some m.cls := hown
  have hl : lv_has ls 3 [(0, .ref a0), (1, .int x0)] := hl
  obtain ⟨hP, hK⟩ := hv
  refine lv_aload_n hx hb dX9_floor_0 rfl (lv_at hl 0 rfl) ?_
  refine lv_iload_n hx hb dX9_floor_1 rfl (lv_at hl 1 rfl) ?_
  refine cvR (n := 1) (As := [.int x0]) (rest := []) ⟨hx, hb, hml, hown, hts⟩ uc_in (kX9_seekUnder_1 l D cB cI cJ cZ cT cR a0 a1 a2 a3 a4 a5 a6 a7 a8 a9 a10 a11 x0 hy0) q_m1036 q_n1038 q_p44 q_i1 q_c1039 (by decide +kernel) ⟨(Nat.le_of_ble_eq_true rfl), (Nat.le_of_ble_eq_true rfl)⟩ ⟨(Nat.le_of_ble_eq_true rfl), (Nat.le_of_ble_eq_true rfl)⟩ hK (hP.sub (ws' := [(a0, .inr (9, [.ref a1, .ref a2, .ref a3, .ref a4, .int 0, .ref a5, .ref a6, .ref a7, .ref a8, .ref a9, .ref a10, .ref a11]))]) [0] rfl) 9 0 rfl rfl rfl hl.1 rfl (Nat.le_of_ble_eq_true rfl) dX9_floor_2 ?_
  refine lv_istore_n (lv' := [(2, .int (-2)), (0, .ref a0), (1, .int x0)]) hx hb dX9_floor_5 rfl hl (by decide) rfl (fun ls hl => ?_)
  refine lv_iload_n hx hb dX9_floor_6 rfl (lv_at hl 0 rfl) ?_
  refine lv_if_ne (tgt := 20) hx hb dX9_floor_7 (by decide) (fun _ => ?_) (fun c9 => absurd c9 (by decide))
  refine lv_iload_n hx hb dX9_floor_20 rfl (lv_at hl 0 rfl) ?_
  exact W.iret hx hb hr (fun t ht _ => ⟨rfl, ht⟩) (fun _ h => by cases h) dX9_floor_21
set_option maxHeartbeats 4000000 in
set_option maxRecDepth 100000 in
theorem kX10_floor_1 (l : Launch) (D : va_G) (cB cI cJ cZ cT cR : ClassId) (a0 a1 a2 a3 a4 a5 a6 a7 a8 a9 a10 a11 a12 a13 a14 a15 a16 a17 a18 : Nat) (x0 : Int32) (hy0 : ¬ (0 ≤ x0 ∧ x0 ≤ 3)) (sz : Nat) : Met l yX10_floor (uc yX10_floor cX10_floor 5 (some .int)) (rmL 4 0 0) (va_Pc [.ref a0, .int x0] (MPre D [(cB, .byte), (cI, .int), (cJ, .long), (cZ, .boolean), (cT, .object RX7), (cR, .object RX3)] [(a0, .inr (10, [.int 0, .ref a1, .ref a2, .ref a3, .ref a4, .ref a5, .int 0, .int 0, .int 0, .int 0, .int 0, .long 0, .int 0, .int 0, .int 0, .int (-1), .ref a6, .ref a7, .ref a8, .ref a9, .ref a10, .ref a11, .ref a12, .ref a13, .int 0, .int 0, .ref a14, .ref a15, .int 0, .int 0, .int 0, .ref a16, .ref a17, .int 0, .int 0, .int 0, .int 0, .int 0, .ref a18, .int 0, .int 0, .int 0]))] sz)) (va_Qi (fun (r : Int32) (_ : Unit) => r = (-2)) (MB D [(cB, .byte), (cI, .int), (cJ, .long), (cZ, .boolean), (cT, .object RX7), (cR, .object RX3)] [(a0, .inr (10, [.int 0, .ref a1, .ref a2, .ref a3, .ref a4, .ref a5, .int 0, .int 0, .int 0, .int 0, .int 0, .long 0, .int 0, .int 0, .int 0, .int (-1), .ref a6, .ref a7, .ref a8, .ref a9, .ref a10, .ref a11, .ref a12, .ref a13, .int 0, .int 0, .ref a14, .ref a15, .int 0, .int 0, .int 0, .ref a16, .ref a17, .int 0, .int 0, .int 0, .int 0, .int 0, .ref a18, .int 0, .int 0, .int 0]))] sz (fun (u : Unit) => [(a0, .inr (10, [.int 0, .ref a1, .ref a2, .ref a3, .ref a4, .ref a5, .int 0, .int 0, .int 0, .int 0, .int 0, .long 0, .int 0, .int 0, .int 0, .int (-1), .ref a6, .ref a7, .ref a8, .ref a9, .ref a10, .ref a11, .ref a12, .ref a13, .int 0, .int 0, .ref a14, .ref a15, .int 0, .int 0, .int 0, .ref a16, .ref a17, .int 0, .int 0, .int 0, .int 0, .int 0, .ref a18, .int 0, .int 0, .int 0]))])) (va_A [(a0, .inr (10, [.int 0, .ref a1, .ref a2, .ref a3, .ref a4, .ref a5, .int 0, .int 0, .int 0, .int 0, .int 0, .long 0, .int 0, .int 0, .int 0, .int (-1), .ref a6, .ref a7, .ref a8, .ref a9, .ref a10, .ref a11, .ref a12, .ref a13, .int 0, .int 0, .ref a14, .ref a15, .int 0, .int 0, .int 0, .ref a16, .ref a17, .int 0, .int 0, .int 0, .int 0, .int 0, .ref a18, .int 0, .int 0, .int 0]))] sz)) 0 0 (va_A [(a0, .inr (10, [.int 0, .ref a1, .ref a2, .ref a3, .ref a4, .ref a5, .int 0, .int 0, .int 0, .int 0, .int 0, .long 0, .int 0, .int 0, .int 0, .int (-1), .ref a6, .ref a7, .ref a8, .ref a9, .ref a10, .ref a11, .ref a12, .ref a13, .int 0, .int 0, .ref a14, .ref a15, .int 0, .int 0, .int 0, .ref a16, .ref a17, .int 0, .int 0, .int 0, .int 0, .int 0, .ref a18, .int 0, .int 0, .int 0]))] sz) := by
  refine pm (by decide) (Nat.le_of_ble_eq_true rfl) ?_
  intro p e s m below meth c ls hx hb hr hml hown hlk hnm hts hv hl
  have hown : s.vm.findClass RX10 = some m.cls := hown
  have hl : lv_has ls 5 [(0, .ref a0), (1, .int x0)] := hl
  obtain ⟨hsz, hP, hK, hD0, hE⟩ := hv
  subst hsz
  have hD := hD0.self (sz := s.heap.size)
  obtain ⟨AA, hAe⟩ : ∃ AA, AA = va_A [(a0, .inr (10, [.int 0, .ref a1, .ref a2, .ref a3, .ref a4, .ref a5, .int 0, .int 0, .int 0, .int 0, .int 0, .long 0, .int 0, .int 0, .int 0, .int (-1), .ref a6, .ref a7, .ref a8, .ref a9, .ref a10, .ref a11, .ref a12, .ref a13, .int 0, .int 0, .ref a14, .ref a15, .int 0, .int 0, .int 0, .ref a16, .ref a17, .int 0, .int 0, .int 0, .int 0, .int 0, .ref a18, .int 0, .int 0, .int 0]))] s.heap.size := ⟨_, rfl⟩
  rw [← hAe] at hD
  have hA : ∀ q : Nat, s.heap.size ≤ q → AA q := fun q h => by rw [hAe]; exact Or.inr h
  have hS : va_S AA s.heap s.heap [] := va_S.rf
  obtain ⟨-, hAOT, hAOR, hAOI⟩ := id hE
  refine lv_aload_n hx hb dX10_floor_0 rfl (lv_at hl 0 rfl) ?_
  refine lv_iconst (v := 0) hx hb dX10_floor_1 (by decide) ?_
  refine va_put (D := D) (ci := 10) (v := .int 0) (ty := .int) (C := RX10) (T := TX10) (N := 42) hx hb hts (fun w h => uc_in w (inX10 w h)) tyX10 tyX10_ok nmX10 hown hK hP hD hS 0 rfl rfl 0 (by decide) (hts _ (uc_in _ q_f1188)) (fun _ h9 => h9) rfl (by decide +kernel) rfl rfl (Nat.le_of_ble_eq_true rfl) dX10_floor_2 (fun H locs hP hD hS => ?_)
  have hP : va_P D vwCl [(a0, .inr (10, [.int 0, .ref a1, .ref a2, .ref a3, .ref a4, .ref a5, .int 0, .int 0, .int 0, .int 0, .int 0, .long 0, .int 0, .int 0, .int 0, .int (-1), .ref a6, .ref a7, .ref a8, .ref a9, .ref a10, .ref a11, .ref a12, .ref a13, .int 0, .int 0, .ref a14, .ref a15, .int 0, .int 0, .int 0, .ref a16, .ref a17, .int 0, .int 0, .int 0, .int 0, .int 0, .ref a18, .int 0, .int 0, .int 0]))] H := hP
  have hD : va_D AA [(a0, .inr (10, [.int 0, .ref a1, .ref a2, .ref a3, .ref a4, .ref a5, .int 0, .int 0, .int 0, .int 0, .int 0, .long 0, .int 0, .int 0, .int 0, .int (-1), .ref a6, .ref a7, .ref a8, .ref a9, .ref a10, .ref a11, .ref a12, .ref a13, .int 0, .int 0, .ref a14, .ref a15, .int 0, .int 0, .int 0, .ref a16, .ref a17, .int 0, .int 0, .int 0, .int 0, .int 0, .ref a18, .int 0, .int 0, .int 0]))] := hD
  refine lv_aload_n hx hb dX10_floor_5 rfl (lv_at hl 0 rfl) ?_
  refine lv_iload_n hx hb dX10_floor_6 rfl (lv_at hl 1 rfl) ?_
  refine cvR (n := 1) (As := [.int x0]) (rest := []) ⟨hx, hb, hml, hown, hts⟩ uc_in (kX10_whyNot_1 l D cB cI cJ cZ cT cR a0 a1 a2 a3 a4 a5 a6 a7 a8 a9 a10 a11 a12 a13 a14 a15 a16 a17 a18 x0 hy0) q_m1788 q_n1790 q_p104 q_i11 q_c1791 (by decide +kernel) ⟨(Nat.le_of_ble_eq_true rfl), (Nat.le_of_ble_eq_true rfl)⟩ ⟨(Nat.le_of_ble_eq_true rfl), (Nat.le_of_ble_eq_true rfl)⟩ hK (hP.sub (ws' := [(a0, .inr (10, [.int 0, .ref a1, .ref a2, .ref a3, .ref a4, .ref a5, .int 0, .int 0, .int 0, .int 0, .int 0, .long 0, .int 0, .int 0, .int 0, .int (-1), .ref a6, .ref a7, .ref a8, .ref a9, .ref a10, .ref a11, .ref a12, .ref a13, .int 0, .int 0, .ref a14, .ref a15, .int 0, .int 0, .int 0, .ref a16, .ref a17, .int 0, .int 0, .int 0, .int 0, .int 0, .ref a18, .int 0, .int 0, .int 0]))]) [0] rfl) 10 0 rfl rfl rfl hl.1 rfl (Nat.le_of_ble_eq_true rfl) dX10_floor_7 ?_
  refine lv_istore_n (lv' := [(2, .int (-2)), (0, .ref a0), (1, .int x0)]) hx hb dX10_floor_10 rfl hl (by decide) rfl (fun ls hl => ?_)
  refine lv_iload_n hx hb dX10_floor_11 rfl (lv_at hl 0 rfl) ?_
  refine lv_if_eq (tgt := 17) hx hb dX10_floor_12 (by decide) (fun c9 => absurd c9 (by decide)) (fun _ => ?_)
  refine lv_iload_n hx hb dX10_floor_15 rfl (lv_at hl 0 rfl) ?_
  subst hAe
  have hP9 := hP.sub (ws' := [(a0, .inr (10, [.int 0, .ref a1, .ref a2, .ref a3, .ref a4, .ref a5, .int 0, .int 0, .int 0, .int 0, .int 0, .long 0, .int 0, .int 0, .int 0, .int (-1), .ref a6, .ref a7, .ref a8, .ref a9, .ref a10, .ref a11, .ref a12, .ref a13, .int 0, .int 0, .ref a14, .ref a15, .int 0, .int 0, .int 0, .ref a16, .ref a17, .int 0, .int 0, .int 0, .int 0, .int 0, .ref a18, .int 0, .int 0, .int 0]))]) [0] rfl
  have hD9 := hD.sub (ws' := [(a0, .inr (10, [.int 0, .ref a1, .ref a2, .ref a3, .ref a4, .ref a5, .int 0, .int 0, .int 0, .int 0, .int 0, .long 0, .int 0, .int 0, .int 0, .int (-1), .ref a6, .ref a7, .ref a8, .ref a9, .ref a10, .ref a11, .ref a12, .ref a13, .int 0, .int 0, .ref a14, .ref a15, .int 0, .int 0, .int 0, .ref a16, .ref a17, .int 0, .int 0, .int 0, .int 0, .int 0, .ref a18, .int 0, .int 0, .int 0]))]) [0] rfl rfl
  exact W.iret hx hb hr (fun t ht hW => ⟨⟨(-2), (), rfl, rfl, by rw [ht]; exact hP9, va_K.moved hW.alike hK, hD9⟩, hS.F ht⟩) hS.2.2 dX10_floor_16
set_option maxHeartbeats 4000000 in
set_option maxRecDepth 100000 in
theorem law_case_53 {p : Program} {l : Launch} {e : Env} {s : State} {m : MethodId} {below : List Frame} {meth : Method} {c : Code} {D : va_G} {cB cI cJ cZ cT cR : ClassId} {b : Nat} {xs : Nat → Int32} {A B : Nat → Nat} {H : Heap} {locs : List Loc} {ls : Array Slot} (C0 : lw_At p s m meth c b 6 xs) (hE : EX s) (hK : va_K D vwCl [(cB, .byte), (cI, .int), (cJ, .long), (cZ, .boolean), (cT, .object RX7), (cR, .object RX3)] s) (hP : va_P D vwCl (fwAll cB cI cJ cZ cT cR A B) H) (hD : va_D (fun q : Nat => s.heap.size ≤ q) (fwAll cB cI cJ cZ cT cR A B)) (hS : va_S (fun q : Nat => s.heap.size ≤ q) s.heap H locs) (hl : lv_has ls 4 [(3, .int 0), (2, .ref (B 0)), (1, .ref (A 0)), (0, .ref b)]) : W p l e room_1 s m #[Value.ref b] below meth c H locs 180 4779 (lw_Z below #[Value.ref b] s) (F0 m 1705 ls []) := by
  obtain ⟨hx, hb, hr, hml, hown, hts, hX, hbl, hlocks, hgv⟩ := id C0
  have hown : s.vm.findClass RL = some m.cls := hown
  have hb : c.code = cL_law := hb
  have hA : ∀ q : Nat, s.heap.size ≤ q → (fun q : Nat => s.heap.size ≤ q) q := fun _ h => h
  have hbA : ¬ (fun q : Nat => s.heap.size ≤ q) b := Nat.not_le.mpr hbl
  have hP := hP.sub (ws' := [((A 0), .inr (9, [.ref (A 1), .ref (A 3), .ref (A 12), .ref (A 21), .int 0, .ref (A 49), .ref (A 51), .ref (A 60), .ref (A 61), .ref (A 62), .ref (A 63), .ref (A 64)])), ((A 3), .inr (7, [.int 0, .int 0, .int 0, .int 0, .int 0, .int 0, .int 0, .int 0, .ref (A 4), .ref (A 5), .ref (A 6), .ref (A 7), .ref (A 8), .ref (A 9), .ref (A 10), .ref (A 11)])), ((B 0), .inr (10, [.int 0, .ref (B 1), .ref (B 2), .ref (B 3), .ref (B 4), .ref (B 5), .int 0, .int 0, .int 0, .int 0, .int 0, .long 0, .int 0, .int 0, .int 0, .int (-1), .ref (B 6), .ref (B 7), .ref (B 8), .ref (B 9), .ref (B 10), .ref (B 11), .ref (B 12), .ref (B 13), .int 0, .int 0, .ref (B 14), .ref (B 15), .int 0, .int 0, .int 0, .ref (B 16), .ref (B 17), .int 0, .int 0, .int 0, .int 0, .int 0, .ref (B 18), .int 0, .int 0, .int 0])), ((B 6), .inl (cI, 5, .inl (fun _ => 0)))]) [0, 3, 60, 66] rfl
  have hD := hD.sub (ws' := [((A 0), .inr (9, [.ref (A 1), .ref (A 3), .ref (A 12), .ref (A 21), .int 0, .ref (A 49), .ref (A 51), .ref (A 60), .ref (A 61), .ref (A 62), .ref (A 63), .ref (A 64)])), ((A 3), .inr (7, [.int 0, .int 0, .int 0, .int 0, .int 0, .int 0, .int 0, .int 0, .ref (A 4), .ref (A 5), .ref (A 6), .ref (A 7), .ref (A 8), .ref (A 9), .ref (A 10), .ref (A 11)])), ((B 0), .inr (10, [.int 0, .ref (B 1), .ref (B 2), .ref (B 3), .ref (B 4), .ref (B 5), .int 0, .int 0, .int 0, .int 0, .int 0, .long 0, .int 0, .int 0, .int 0, .int (-1), .ref (B 6), .ref (B 7), .ref (B 8), .ref (B 9), .ref (B 10), .ref (B 11), .ref (B 12), .ref (B 13), .int 0, .int 0, .ref (B 14), .ref (B 15), .int 0, .int 0, .int 0, .ref (B 16), .ref (B 17), .int 0, .int 0, .int 0, .int 0, .int 0, .ref (B 18), .int 0, .int 0, .int 0])), ((B 6), .inl (cI, 5, .inl (fun _ => 0)))]) [0, 3, 60, 66] rfl rfl
  refine lv_aload_n hx hb dL_law_1705 rfl (lv_at hl 2 rfl) ?_
  refine lv_aload_n hx hb dL_law_1706 rfl (lv_at hl 3 rfl) ?_
  refine lv_iload_n hx hb dL_law_1707 rfl (lv_at hl 0 rfl) ?_
  refine lv_iconst (v := 1) hx hb dL_law_1708 (by decide) ?_
  refine lv_iadd hx hb dL_law_1709 ?_
  refine pv_i (v := 1) (by decide) ?_
  refine va_sld hx hb hX hbl hbA hS (vp_in_iff.mpr ⟨by decide, by decide⟩) dL_law_1710 ?_
  refine lv_topi (fun p1 ep1 => ?_)
  by_cases hc1 : 0 ≤ p1 ∧ p1 ≤ 3
  · refine cvR (n := 1) (As := [.int p1]) (rest := []) ⟨hx, hb, hml, hown, hts⟩ (fun _ h => uw_in h) (kX9_floor_0 l D cB cI cJ cZ cT cR (A 0) (A 3) (A 1) (A 12) (A 21) (A 49) (A 51) (A 60) (A 61) (A 62) (A 63) (A 64) (A 4) (A 5) (A 6) (A 7) (A 8) (A 9) (A 10) (A 11) p1 hc1) q_m1048 q_n1049 q_e1050 q_i1 q_c1051 (by decide +kernel) ⟨(Nat.le_of_ble_eq_true rfl), (Nat.le_of_ble_eq_true rfl)⟩ ⟨(Nat.le_of_ble_eq_true rfl), (Nat.le_of_ble_eq_true rfl)⟩ hK (hP.sub (ws' := [((A 0), .inr (9, [.ref (A 1), .ref (A 3), .ref (A 12), .ref (A 21), .int 0, .ref (A 49), .ref (A 51), .ref (A 60), .ref (A 61), .ref (A 62), .ref (A 63), .ref (A 64)])), ((A 3), .inr (7, [.int 0, .int 0, .int 0, .int 0, .int 0, .int 0, .int 0, .int 0, .ref (A 4), .ref (A 5), .ref (A 6), .ref (A 7), .ref (A 8), .ref (A 9), .ref (A 10), .ref (A 11)]))]) [0, 1] rfl) 9 0 rfl rfl rfl hl.1 rfl (Nat.le_of_ble_eq_true rfl) dL_law_1711 ?_
    refine lv_aload_n hx hb dL_law_1714 rfl (lv_at hl 1 rfl) ?_
    refine lv_aload_n hx hb dL_law_1715 rfl (lv_at hl 3 rfl) ?_
    refine lv_iload_n hx hb dL_law_1716 rfl (lv_at hl 0 rfl) ?_
    refine lv_iconst (v := 1) hx hb dL_law_1717 (by decide) ?_
    refine lv_iadd hx hb dL_law_1718 ?_
    refine pv_i (v := 1) (by decide) ?_
    refine va_sld hx hb hX hbl hbA hS (vp_in_iff.mpr ⟨by decide, by decide⟩) dL_law_1719 ?_
    refine pv_i (v := p1) ep1.symm ?_
    refine cvM (n := 1) (As := [.int p1]) (rest := [.int (-2)]) (wr := [((A 0), .inr (9, [.ref (A 1), .ref (A 3), .ref (A 12), .ref (A 21), .int 0, .ref (A 49), .ref (A 51), .ref (A 60), .ref (A 61), .ref (A 62), .ref (A 63), .ref (A 64)])), ((A 3), .inr (7, [.int 0, .int 0, .int 0, .int 0, .int 0, .int 0, .int 0, .int 0, .ref (A 4), .ref (A 5), .ref (A 6), .ref (A 7), .ref (A 8), .ref (A 9), .ref (A 10), .ref (A 11)]))]) ⟨hx, hb, hml, hown, hts⟩ (fun _ h => uw_in h) (kX10_floor_0 l D cB cI cJ cZ cT cR (B 0) (B 6) (B 1) (B 2) (B 3) (B 4) (B 5) (B 7) (B 8) (B 9) (B 10) (B 11) (B 12) (B 13) (B 14) (B 15) (B 16) (B 17) (B 18) p1 hc1 H.size) q_m1820 q_n1821 q_e1822 q_i11 q_c1823 (by decide +kernel) ⟨(Nat.le_of_ble_eq_true rfl), (Nat.le_of_ble_eq_true rfl)⟩ ⟨(Nat.le_of_ble_eq_true rfl), (Nat.le_of_ble_eq_true rfl)⟩ hE hK hP hD hS hA [2, 3] [0, 1] rfl rfl rfl rfl (by decide) 10 0 rfl rfl rfl hl.1 rfl (Nat.le_of_ble_eq_true rfl) dL_law_1720 (fun r9 u H locs hpo hP hD hS => ?_)
    have hP : va_P D vwCl [((A 0), .inr (9, [.ref (A 1), .ref (A 3), .ref (A 12), .ref (A 21), .int 0, .ref (A 49), .ref (A 51), .ref (A 60), .ref (A 61), .ref (A 62), .ref (A 63), .ref (A 64)])), ((A 3), .inr (7, [.int 0, .int 0, .int 0, .int 0, .int 0, .int 0, .int 0, .int 0, .ref (A 4), .ref (A 5), .ref (A 6), .ref (A 7), .ref (A 8), .ref (A 9), .ref (A 10), .ref (A 11)])), ((B 0), .inr (10, [.int 0, .ref (B 1), .ref (B 2), .ref (B 3), .ref (B 4), .ref (B 5), .int 0, .int 0, .int 0, .int 0, .int 0, .long 0, .int 0, .int 0, .int 0, .int (-1), .ref (B 6), .ref (B 7), .ref (B 8), .ref (B 9), .ref (B 10), .ref (B 11), .ref (B 12), .ref (B 13), .int 0, .int 0, .ref (B 14), .ref (B 15), .int 0, .int 0, .int 0, .ref (B 16), .ref (B 17), .int 0, .int 0, .int 0, .int 0, .int 0, .ref (B 18), .int 0, .int 0, .int 0])), ((B 6), .inl (cI, 5, .inl (fun _ => 0)))] H := hP
    have hD : va_D (fun q : Nat => s.heap.size ≤ q) [((A 0), .inr (9, [.ref (A 1), .ref (A 3), .ref (A 12), .ref (A 21), .int 0, .ref (A 49), .ref (A 51), .ref (A 60), .ref (A 61), .ref (A 62), .ref (A 63), .ref (A 64)])), ((A 3), .inr (7, [.int 0, .int 0, .int 0, .int 0, .int 0, .int 0, .int 0, .int 0, .ref (A 4), .ref (A 5), .ref (A 6), .ref (A 7), .ref (A 8), .ref (A 9), .ref (A 10), .ref (A 11)])), ((B 0), .inr (10, [.int 0, .ref (B 1), .ref (B 2), .ref (B 3), .ref (B 4), .ref (B 5), .int 0, .int 0, .int 0, .int 0, .int 0, .long 0, .int 0, .int 0, .int 0, .int (-1), .ref (B 6), .ref (B 7), .ref (B 8), .ref (B 9), .ref (B 10), .ref (B 11), .ref (B 12), .ref (B 13), .int 0, .int 0, .ref (B 14), .ref (B 15), .int 0, .int 0, .int 0, .ref (B 16), .ref (B 17), .int 0, .int 0, .int 0, .int 0, .int 0, .ref (B 18), .int 0, .int 0, .int 0])), ((B 6), .inl (cI, 5, .inl (fun _ => 0)))] := hD
    refine W.cs (cells' := 180) (slots' := 4779) rfl rfl ?_
    have hpo : r9 = (-2) := hpo
    subst hpo
    refine lv_icmp_eq (tgt := 2362) hx hb dL_law_1723 (by decide) (fun _ => ?_) (fun c9 => absurd (by decide) c9)
    exact law_end C0 hS (Nat.le_of_ble_eq_true rfl) (Nat.le_of_ble_eq_true rfl) ls hl
  · refine cvR (n := 1) (As := [.int p1]) (rest := []) ⟨hx, hb, hml, hown, hts⟩ (fun _ h => uw_in h) (kX9_floor_1 l D cB cI cJ cZ cT cR (A 0) (A 1) (A 3) (A 12) (A 21) (A 49) (A 51) (A 60) (A 61) (A 62) (A 63) (A 64) p1 hc1) q_m1048 q_n1049 q_e1050 q_i1 q_c1051 (by decide +kernel) ⟨(Nat.le_of_ble_eq_true rfl), (Nat.le_of_ble_eq_true rfl)⟩ ⟨(Nat.le_of_ble_eq_true rfl), (Nat.le_of_ble_eq_true rfl)⟩ hK (hP.sub (ws' := [((A 0), .inr (9, [.ref (A 1), .ref (A 3), .ref (A 12), .ref (A 21), .int 0, .ref (A 49), .ref (A 51), .ref (A 60), .ref (A 61), .ref (A 62), .ref (A 63), .ref (A 64)]))]) [0] rfl) 9 0 rfl rfl rfl hl.1 rfl (Nat.le_of_ble_eq_true rfl) dL_law_1711 ?_
    refine lv_aload_n hx hb dL_law_1714 rfl (lv_at hl 1 rfl) ?_
    refine lv_aload_n hx hb dL_law_1715 rfl (lv_at hl 3 rfl) ?_
    refine lv_iload_n hx hb dL_law_1716 rfl (lv_at hl 0 rfl) ?_
    refine lv_iconst (v := 1) hx hb dL_law_1717 (by decide) ?_
    refine lv_iadd hx hb dL_law_1718 ?_
    refine pv_i (v := 1) (by decide) ?_
    refine va_sld hx hb hX hbl hbA hS (vp_in_iff.mpr ⟨by decide, by decide⟩) dL_law_1719 ?_
    refine pv_i (v := p1) ep1.symm ?_
    refine cvM (n := 1) (As := [.int p1]) (rest := [.int (-2)]) (wr := [((A 0), .inr (9, [.ref (A 1), .ref (A 3), .ref (A 12), .ref (A 21), .int 0, .ref (A 49), .ref (A 51), .ref (A 60), .ref (A 61), .ref (A 62), .ref (A 63), .ref (A 64)])), ((A 3), .inr (7, [.int 0, .int 0, .int 0, .int 0, .int 0, .int 0, .int 0, .int 0, .ref (A 4), .ref (A 5), .ref (A 6), .ref (A 7), .ref (A 8), .ref (A 9), .ref (A 10), .ref (A 11)])), ((B 6), .inl (cI, 5, .inl (fun _ => 0)))]) ⟨hx, hb, hml, hown, hts⟩ (fun _ h => uw_in h) (kX10_floor_1 l D cB cI cJ cZ cT cR (B 0) (B 1) (B 2) (B 3) (B 4) (B 5) (B 6) (B 7) (B 8) (B 9) (B 10) (B 11) (B 12) (B 13) (B 14) (B 15) (B 16) (B 17) (B 18) p1 hc1 H.size) q_m1820 q_n1821 q_e1822 q_i11 q_c1823 (by decide +kernel) ⟨(Nat.le_of_ble_eq_true rfl), (Nat.le_of_ble_eq_true rfl)⟩ ⟨(Nat.le_of_ble_eq_true rfl), (Nat.le_of_ble_eq_true rfl)⟩ hE hK hP hD hS hA [2] [0, 1, 3] rfl rfl rfl rfl (by decide) 10 0 rfl rfl rfl hl.1 rfl (Nat.le_of_ble_eq_true rfl) dL_law_1720 (fun r9 u H locs hpo hP hD hS => ?_)
    have hP : va_P D vwCl [((A 0), .inr (9, [.ref (A 1), .ref (A 3), .ref (A 12), .ref (A 21), .int 0, .ref (A 49), .ref (A 51), .ref (A 60), .ref (A 61), .ref (A 62), .ref (A 63), .ref (A 64)])), ((A 3), .inr (7, [.int 0, .int 0, .int 0, .int 0, .int 0, .int 0, .int 0, .int 0, .ref (A 4), .ref (A 5), .ref (A 6), .ref (A 7), .ref (A 8), .ref (A 9), .ref (A 10), .ref (A 11)])), ((B 6), .inl (cI, 5, .inl (fun _ => 0))), ((B 0), .inr (10, [.int 0, .ref (B 1), .ref (B 2), .ref (B 3), .ref (B 4), .ref (B 5), .int 0, .int 0, .int 0, .int 0, .int 0, .long 0, .int 0, .int 0, .int 0, .int (-1), .ref (B 6), .ref (B 7), .ref (B 8), .ref (B 9), .ref (B 10), .ref (B 11), .ref (B 12), .ref (B 13), .int 0, .int 0, .ref (B 14), .ref (B 15), .int 0, .int 0, .int 0, .ref (B 16), .ref (B 17), .int 0, .int 0, .int 0, .int 0, .int 0, .ref (B 18), .int 0, .int 0, .int 0]))] H := hP
    have hD : va_D (fun q : Nat => s.heap.size ≤ q) [((A 0), .inr (9, [.ref (A 1), .ref (A 3), .ref (A 12), .ref (A 21), .int 0, .ref (A 49), .ref (A 51), .ref (A 60), .ref (A 61), .ref (A 62), .ref (A 63), .ref (A 64)])), ((A 3), .inr (7, [.int 0, .int 0, .int 0, .int 0, .int 0, .int 0, .int 0, .int 0, .ref (A 4), .ref (A 5), .ref (A 6), .ref (A 7), .ref (A 8), .ref (A 9), .ref (A 10), .ref (A 11)])), ((B 6), .inl (cI, 5, .inl (fun _ => 0))), ((B 0), .inr (10, [.int 0, .ref (B 1), .ref (B 2), .ref (B 3), .ref (B 4), .ref (B 5), .int 0, .int 0, .int 0, .int 0, .int 0, .long 0, .int 0, .int 0, .int 0, .int (-1), .ref (B 6), .ref (B 7), .ref (B 8), .ref (B 9), .ref (B 10), .ref (B 11), .ref (B 12), .ref (B 13), .int 0, .int 0, .ref (B 14), .ref (B 15), .int 0, .int 0, .int 0, .ref (B 16), .ref (B 17), .int 0, .int 0, .int 0, .int 0, .int 0, .ref (B 18), .int 0, .int 0, .int 0]))] := hD
    refine W.cs (cells' := 180) (slots' := 4779) rfl rfl ?_
    have hpo : r9 = (-2) := hpo
    subst hpo
    refine lv_icmp_eq (tgt := 2362) hx hb dL_law_1723 (by decide) (fun _ => ?_) (fun c9 => absurd (by decide) c9)
    exact law_end C0 hS (Nat.le_of_ble_eq_true rfl) (Nat.le_of_ble_eq_true rfl) ls hl
set_option maxHeartbeats 4000000 in
set_option maxRecDepth 100000 in
theorem kX9_chance_0 (l : Launch) (D : va_G) (cB cI cJ cZ cT cR : ClassId) (a0 a1 a2 a3 a4 a5 a6 a7 a8 a9 a10 a11 : Nat) (x0 : Int32) (x1 : Int32) (x2 : Int32) (hy0 : x0 < 0) : Met l yX9_chance (uc yX9_chance cX9_chance 4 (some .int)) (rmL 2 0 0) (va_Pc [.ref a0, .int x0, .int x1, .int x2] (RPre D [(cB, .byte), (cI, .int), (cJ, .long), (cZ, .boolean), (cT, .object RX7), (cR, .object RX3)] [(a0, .inr (9, [.ref a1, .ref a2, .ref a3, .ref a4, .int 0, .ref a5, .ref a6, .ref a7, .ref a8, .ref a9, .ref a10, .ref a11]))])) (QcRead (-2)) 0 0 (fun _ => False) := by
  refine pm (by decide) (Nat.le_of_ble_eq_true rfl) ?_
  intro p e s m below meth c ls hx hb hr hml hown hlk hnm hts hv hl
  have hown : s.vm.findClass RX9 = some m.cls := hown
  have hl : lv_has ls 4 [(0, .ref a0), (1, .int x0), (2, .int x1), (3, .int x2)] := hl
  obtain ⟨hP, hK⟩ := hv
  refine lv_aload_n hx hb dX9_chance_0 rfl (lv_at hl 0 rfl) ?_
  refine lv_iload_n hx hb dX9_chance_1 rfl (lv_at hl 1 rfl) ?_
  refine cvR (n := 1) (As := [.int x0]) (rest := []) ⟨hx, hb, hml, hown, hts⟩ uc_in (kX9_isDay_0 l D cB cI cJ cZ cT cR a0 a1 a2 a3 a4 a5 a6 a7 a8 a9 a10 a11 x0 hy0) q_m597 q_n599 q_p12 q_i1 q_c600 (by decide +kernel) ⟨(Nat.le_of_ble_eq_true rfl), (Nat.le_of_ble_eq_true rfl)⟩ ⟨(Nat.le_of_ble_eq_true rfl), (Nat.le_of_ble_eq_true rfl)⟩ hK (hP.sub (ws' := [(a0, .inr (9, [.ref a1, .ref a2, .ref a3, .ref a4, .int 0, .ref a5, .ref a6, .ref a7, .ref a8, .ref a9, .ref a10, .ref a11]))]) [0] rfl) 9 0 rfl rfl rfl hl.1 rfl (Nat.le_of_ble_eq_true rfl) dX9_chance_2 ?_
  refine lv_if_eq (tgt := 24) hx hb dX9_chance_5 (by decide) (fun _ => ?_) (fun c9 => absurd (by decide) c9)
  refine lv_bipush (v := (-2)) hx hb dX9_chance_24 (by decide) ?_
  exact W.iret hx hb hr (fun t ht _ => ⟨rfl, ht⟩) (fun _ h => by cases h) dX9_chance_26
set_option maxHeartbeats 4000000 in
set_option maxRecDepth 100000 in
theorem kX10_chance_0 (l : Launch) (D : va_G) (cB cI cJ cZ cT cR : ClassId) (a0 a1 a2 a3 a4 a5 a6 a7 a8 a9 a10 a11 a12 a13 a14 a15 a16 a17 a18 : Nat) (x0 : Int32) (x1 : Int32) (x2 : Int32) (sz : Nat) : Met l yX10_chance (uc yX10_chance cX10_chance 5 (some .int)) (rmL 3 0 0) (va_Pc [.ref a0, .int x0, .int x1, .int x2] (MPre D [(cB, .byte), (cI, .int), (cJ, .long), (cZ, .boolean), (cT, .object RX7), (cR, .object RX3)] [(a0, .inr (10, [.int 0, .ref a2, .ref a3, .ref a4, .ref a5, .ref a6, .int 0, .int 0, .int 0, .int 0, .int 0, .long 0, .int 0, .int 0, .int 0, .int (-1), .ref a7, .ref a1, .ref a8, .ref a9, .ref a10, .ref a11, .ref a12, .ref a13, .int 0, .int 0, .ref a14, .ref a15, .int 0, .int 0, .int 0, .ref a16, .ref a17, .int 0, .int 0, .int 0, .int 0, .int 0, .ref a18, .int 0, .int 0, .int 0])), (a1, .inl (cI, 30, .inl (fun _ => 0)))] sz)) (va_Qi (fun (r : Int32) (_ : Unit) => r = (-2)) (MB D [(cB, .byte), (cI, .int), (cJ, .long), (cZ, .boolean), (cT, .object RX7), (cR, .object RX3)] [(a0, .inr (10, [.int 0, .ref a2, .ref a3, .ref a4, .ref a5, .ref a6, .int 0, .int 0, .int 0, .int 0, .int 0, .long 0, .int 0, .int 0, .int 0, .int (-1), .ref a7, .ref a1, .ref a8, .ref a9, .ref a10, .ref a11, .ref a12, .ref a13, .int 0, .int 0, .ref a14, .ref a15, .int 0, .int 0, .int 0, .ref a16, .ref a17, .int 0, .int 0, .int 0, .int 0, .int 0, .ref a18, .int 0, .int 0, .int 0])), (a1, .inl (cI, 30, .inl (fun _ => 0)))] sz (fun (u : Unit) => [(a0, .inr (10, [.int 0, .ref a2, .ref a3, .ref a4, .ref a5, .ref a6, .int 0, .int 0, .int 0, .int 0, .int 0, .long 0, .int 0, .int 0, .int 0, .int (-1), .ref a7, .ref a1, .ref a8, .ref a9, .ref a10, .ref a11, .ref a12, .ref a13, .int 0, .int 0, .ref a14, .ref a15, .int 0, .int 0, .int 0, .ref a16, .ref a17, .int 0, .int 0, .int 0, .int 0, .int 0, .ref a18, .int 0, .int 0, .int 0])), (a1, .inl (cI, 30, .inl (fun _ => 0)))])) (va_A [(a0, .inr (10, [.int 0, .ref a2, .ref a3, .ref a4, .ref a5, .ref a6, .int 0, .int 0, .int 0, .int 0, .int 0, .long 0, .int 0, .int 0, .int 0, .int (-1), .ref a7, .ref a1, .ref a8, .ref a9, .ref a10, .ref a11, .ref a12, .ref a13, .int 0, .int 0, .ref a14, .ref a15, .int 0, .int 0, .int 0, .ref a16, .ref a17, .int 0, .int 0, .int 0, .int 0, .int 0, .ref a18, .int 0, .int 0, .int 0])), (a1, .inl (cI, 30, .inl (fun _ => 0)))] sz)) 0 0 (va_A [(a0, .inr (10, [.int 0, .ref a2, .ref a3, .ref a4, .ref a5, .ref a6, .int 0, .int 0, .int 0, .int 0, .int 0, .long 0, .int 0, .int 0, .int 0, .int (-1), .ref a7, .ref a1, .ref a8, .ref a9, .ref a10, .ref a11, .ref a12, .ref a13, .int 0, .int 0, .ref a14, .ref a15, .int 0, .int 0, .int 0, .ref a16, .ref a17, .int 0, .int 0, .int 0, .int 0, .int 0, .ref a18, .int 0, .int 0, .int 0])), (a1, .inl (cI, 30, .inl (fun _ => 0)))] sz) := by
  refine pm (by decide) (Nat.le_of_ble_eq_true rfl) ?_
  intro p e s m below meth c ls hx hb hr hml hown hlk hnm hts hv hl
  have hown : s.vm.findClass RX10 = some m.cls := hown
  have hl : lv_has ls 5 [(0, .ref a0), (1, .int x0), (2, .int x1), (3, .int x2)] := hl
  obtain ⟨hsz, hP, hK, hD0, hE⟩ := hv
  subst hsz
  have hD := hD0.self (sz := s.heap.size)
  obtain ⟨AA, hAe⟩ : ∃ AA, AA = va_A [(a0, .inr (10, [.int 0, .ref a2, .ref a3, .ref a4, .ref a5, .ref a6, .int 0, .int 0, .int 0, .int 0, .int 0, .long 0, .int 0, .int 0, .int 0, .int (-1), .ref a7, .ref a1, .ref a8, .ref a9, .ref a10, .ref a11, .ref a12, .ref a13, .int 0, .int 0, .ref a14, .ref a15, .int 0, .int 0, .int 0, .ref a16, .ref a17, .int 0, .int 0, .int 0, .int 0, .int 0, .ref a18, .int 0, .int 0, .int 0])), (a1, .inl (cI, 30, .inl (fun _ => 0)))] s.heap.size := ⟨_, rfl⟩
  rw [← hAe] at hD
  have hA : ∀ q : Nat, s.heap.size ≤ q → AA q := fun q h => by rw [hAe]; exact Or.inr h
  have hS : va_S AA s.heap s.heap [] := va_S.rf
  obtain ⟨-, hAOT, hAOR, hAOI⟩ := id hE
  refine lv_aload_n hx hb dX10_chance_0 rfl (lv_at hl 0 rfl) ?_
  refine lv_iconst (v := 0) hx hb dX10_chance_1 (by decide) ?_
  refine va_put (D := D) (ci := 10) (v := .int 0) (ty := .int) (C := RX10) (T := TX10) (N := 42) hx hb hts (fun w h => uc_in w (inX10 w h)) tyX10 tyX10_ok nmX10 hown hK hP hD hS 0 rfl rfl 0 (by decide) (hts _ (uc_in _ q_f1188)) (fun _ h9 => h9) rfl (by decide +kernel) rfl rfl (Nat.le_of_ble_eq_true rfl) dX10_chance_2 (fun H locs hP hD hS => ?_)
  have hP : va_P D vwCl [(a0, .inr (10, [.int 0, .ref a2, .ref a3, .ref a4, .ref a5, .ref a6, .int 0, .int 0, .int 0, .int 0, .int 0, .long 0, .int 0, .int 0, .int 0, .int (-1), .ref a7, .ref a1, .ref a8, .ref a9, .ref a10, .ref a11, .ref a12, .ref a13, .int 0, .int 0, .ref a14, .ref a15, .int 0, .int 0, .int 0, .ref a16, .ref a17, .int 0, .int 0, .int 0, .int 0, .int 0, .ref a18, .int 0, .int 0, .int 0])), (a1, .inl (cI, 30, .inl (fun _ => 0)))] H := hP
  have hD : va_D AA [(a0, .inr (10, [.int 0, .ref a2, .ref a3, .ref a4, .ref a5, .ref a6, .int 0, .int 0, .int 0, .int 0, .int 0, .long 0, .int 0, .int 0, .int 0, .int (-1), .ref a7, .ref a1, .ref a8, .ref a9, .ref a10, .ref a11, .ref a12, .ref a13, .int 0, .int 0, .ref a14, .ref a15, .int 0, .int 0, .int 0, .ref a16, .ref a17, .int 0, .int 0, .int 0, .int 0, .int 0, .ref a18, .int 0, .int 0, .int 0])), (a1, .inl (cI, 30, .inl (fun _ => 0)))] := hD
  refine lv_aload_n hx hb dX10_chance_5 rfl (lv_at hl 0 rfl) ?_
  refine lv_iload_n hx hb dX10_chance_6 rfl (lv_at hl 1 rfl) ?_
  refine lv_i2l (v := x0.toInt64) hx hb dX10_chance_7 rfl ?_
  refine cvR (n := 1) (As := [.long x0.toInt64]) (rest := []) ⟨hx, hb, hml, hown, hts⟩ uc_in (kX10_isDay_0 l D cB cI cJ cZ cT cR a0 a1 a2 a3 a4 a5 a6 a7 a8 a9 a10 a11 a12 a13 a14 a15 a16 a17 a18 x0) q_m1473 q_n1475 q_p73 q_i11 q_c1476 (by decide +kernel) ⟨(Nat.le_of_ble_eq_true rfl), (Nat.le_of_ble_eq_true rfl)⟩ ⟨(Nat.le_of_ble_eq_true rfl), (Nat.le_of_ble_eq_true rfl)⟩ hK (hP.sub (ws' := [(a0, .inr (10, [.int 0, .ref a2, .ref a3, .ref a4, .ref a5, .ref a6, .int 0, .int 0, .int 0, .int 0, .int 0, .long 0, .int 0, .int 0, .int 0, .int (-1), .ref a7, .ref a1, .ref a8, .ref a9, .ref a10, .ref a11, .ref a12, .ref a13, .int 0, .int 0, .ref a14, .ref a15, .int 0, .int 0, .int 0, .ref a16, .ref a17, .int 0, .int 0, .int 0, .int 0, .int 0, .ref a18, .int 0, .int 0, .int 0])), (a1, .inl (cI, 30, .inl (fun _ => 0)))]) [0, 1] rfl) 10 0 rfl rfl rfl hl.1 rfl (Nat.le_of_ble_eq_true rfl) dX10_chance_8 ?_
  refine lv_if_eq (tgt := 29) hx hb dX10_chance_11 (by decide) (fun _ => ?_) (fun c9 => absurd (by decide) c9)
  refine lv_bipush (v := (-2)) hx hb dX10_chance_29 (by decide) ?_
  subst hAe
  have hP9 := hP.sub (ws' := [(a0, .inr (10, [.int 0, .ref a2, .ref a3, .ref a4, .ref a5, .ref a6, .int 0, .int 0, .int 0, .int 0, .int 0, .long 0, .int 0, .int 0, .int 0, .int (-1), .ref a7, .ref a1, .ref a8, .ref a9, .ref a10, .ref a11, .ref a12, .ref a13, .int 0, .int 0, .ref a14, .ref a15, .int 0, .int 0, .int 0, .ref a16, .ref a17, .int 0, .int 0, .int 0, .int 0, .int 0, .ref a18, .int 0, .int 0, .int 0])), (a1, .inl (cI, 30, .inl (fun _ => 0)))]) [0, 1] rfl
  have hD9 := hD.sub (ws' := [(a0, .inr (10, [.int 0, .ref a2, .ref a3, .ref a4, .ref a5, .ref a6, .int 0, .int 0, .int 0, .int 0, .int 0, .long 0, .int 0, .int 0, .int 0, .int (-1), .ref a7, .ref a1, .ref a8, .ref a9, .ref a10, .ref a11, .ref a12, .ref a13, .int 0, .int 0, .ref a14, .ref a15, .int 0, .int 0, .int 0, .ref a16, .ref a17, .int 0, .int 0, .int 0, .int 0, .int 0, .ref a18, .int 0, .int 0, .int 0])), (a1, .inl (cI, 30, .inl (fun _ => 0)))]) [0, 1] rfl rfl
  exact W.iret hx hb hr (fun t ht hW => ⟨⟨(-2), (), rfl, rfl, by rw [ht]; exact hP9, va_K.moved hW.alike hK, hD9⟩, hS.F ht⟩) hS.2.2 dX10_chance_31
set_option maxHeartbeats 4000000 in
set_option maxRecDepth 100000 in
theorem kX9_chance_1 (l : Launch) (D : va_G) (cB cI cJ cZ cT cR : ClassId) (a0 a1 a2 a3 a4 a5 a6 a7 a8 a9 a10 a11 a12 a13 : Nat) (x0 : Int32) (x1 : Int32) (x2 : Int32) (hy0 : ¬ (x0 < 0)) : Met l yX9_chance (uc yX9_chance cX9_chance 4 (some .int)) (rmL 2 0 0) (va_Pc [.ref a0, .int x0, .int x1, .int x2] (RPre D [(cB, .byte), (cI, .int), (cJ, .long), (cZ, .boolean), (cT, .object RX7), (cR, .object RX3)] [(a0, .inr (9, [.ref a2, .ref a3, .ref a4, .ref a5, .int 0, .ref a1, .ref a6, .ref a7, .ref a8, .ref a9, .ref a10, .ref a11])), (a1, .inr (5, [.int 0, .int 0, .ref a12, .ref a13]))])) (QcRead (-2)) 0 0 (fun _ => False) := by
  refine pm (by decide) (Nat.le_of_ble_eq_true rfl) ?_
  intro p e s m below meth c ls hx hb hr hml hown hlk hnm hts hv hl
  have hown : s.vm.findClass RX9 = some m.cls := hown
  have hl : lv_has ls 4 [(0, .ref a0), (1, .int x0), (2, .int x1), (3, .int x2)] := hl
  obtain ⟨hP, hK⟩ := hv
  refine lv_aload_n hx hb dX9_chance_0 rfl (lv_at hl 0 rfl) ?_
  refine lv_iload_n hx hb dX9_chance_1 rfl (lv_at hl 1 rfl) ?_
  refine cvR (n := 1) (As := [.int x0]) (rest := []) ⟨hx, hb, hml, hown, hts⟩ uc_in (kX9_isDay_1 l D cB cI cJ cZ cT cR a0 a1 a2 a3 a4 a5 a6 a7 a8 a9 a10 a11 a12 a13 x0 hy0) q_m597 q_n599 q_p12 q_i1 q_c600 (by decide +kernel) ⟨(Nat.le_of_ble_eq_true rfl), (Nat.le_of_ble_eq_true rfl)⟩ ⟨(Nat.le_of_ble_eq_true rfl), (Nat.le_of_ble_eq_true rfl)⟩ hK (hP.sub (ws' := [(a0, .inr (9, [.ref a2, .ref a3, .ref a4, .ref a5, .int 0, .ref a1, .ref a6, .ref a7, .ref a8, .ref a9, .ref a10, .ref a11])), (a1, .inr (5, [.int 0, .int 0, .ref a12, .ref a13]))]) [0, 1] rfl) 9 0 rfl rfl rfl hl.1 rfl (Nat.le_of_ble_eq_true rfl) dX9_chance_2 ?_
  refine lv_if_eq (tgt := 24) hx hb dX9_chance_5 (by decide) (fun _ => ?_) (fun c9 => absurd (by decide) c9)
  refine lv_bipush (v := (-2)) hx hb dX9_chance_24 (by decide) ?_
  exact W.iret hx hb hr (fun t ht _ => ⟨rfl, ht⟩) (fun _ h => by cases h) dX9_chance_26
set_option maxHeartbeats 4000000 in
set_option maxRecDepth 100000 in
theorem law_case_54 {p : Program} {l : Launch} {e : Env} {s : State} {m : MethodId} {below : List Frame} {meth : Method} {c : Code} {D : va_G} {cB cI cJ cZ cT cR : ClassId} {b : Nat} {xs : Nat → Int32} {A B : Nat → Nat} {H : Heap} {locs : List Loc} {ls : Array Slot} (C0 : lw_At p s m meth c b 6 xs) (hE : EX s) (hK : va_K D vwCl [(cB, .byte), (cI, .int), (cJ, .long), (cZ, .boolean), (cT, .object RX7), (cR, .object RX3)] s) (hP : va_P D vwCl (fwAll cB cI cJ cZ cT cR A B) H) (hD : va_D (fun q : Nat => s.heap.size ≤ q) (fwAll cB cI cJ cZ cT cR A B)) (hS : va_S (fun q : Nat => s.heap.size ≤ q) s.heap H locs) (hl : lv_has ls 4 [(3, .int 0), (2, .ref (B 0)), (1, .ref (A 0)), (0, .ref b)]) : W p l e room_1 s m #[Value.ref b] below meth c H locs 180 4779 (lw_Z below #[Value.ref b] s) (F0 m 1728 ls []) := by
  obtain ⟨hx, hb, hr, hml, hown, hts, hX, hbl, hlocks, hgv⟩ := id C0
  have hown : s.vm.findClass RL = some m.cls := hown
  have hb : c.code = cL_law := hb
  have hA : ∀ q : Nat, s.heap.size ≤ q → (fun q : Nat => s.heap.size ≤ q) q := fun _ h => h
  have hbA : ¬ (fun q : Nat => s.heap.size ≤ q) b := Nat.not_le.mpr hbl
  have hP := hP.sub (ws' := [((A 0), .inr (9, [.ref (A 1), .ref (A 3), .ref (A 12), .ref (A 21), .int 0, .ref (A 49), .ref (A 51), .ref (A 60), .ref (A 61), .ref (A 62), .ref (A 63), .ref (A 64)])), ((A 49), .inr (5, [.int 0, .int 0, .ref (A 65), .ref (A 50)])), ((B 0), .inr (10, [.int 0, .ref (B 1), .ref (B 2), .ref (B 3), .ref (B 4), .ref (B 5), .int 0, .int 0, .int 0, .int 0, .int 0, .long 0, .int 0, .int 0, .int 0, .int (-1), .ref (B 6), .ref (B 7), .ref (B 8), .ref (B 9), .ref (B 10), .ref (B 11), .ref (B 12), .ref (B 13), .int 0, .int 0, .ref (B 14), .ref (B 15), .int 0, .int 0, .int 0, .ref (B 16), .ref (B 17), .int 0, .int 0, .int 0, .int 0, .int 0, .ref (B 18), .int 0, .int 0, .int 0])), ((B 7), .inl (cI, 30, .inl (fun _ => 0)))]) [0, 49, 60, 67] rfl
  have hD := hD.sub (ws' := [((A 0), .inr (9, [.ref (A 1), .ref (A 3), .ref (A 12), .ref (A 21), .int 0, .ref (A 49), .ref (A 51), .ref (A 60), .ref (A 61), .ref (A 62), .ref (A 63), .ref (A 64)])), ((A 49), .inr (5, [.int 0, .int 0, .ref (A 65), .ref (A 50)])), ((B 0), .inr (10, [.int 0, .ref (B 1), .ref (B 2), .ref (B 3), .ref (B 4), .ref (B 5), .int 0, .int 0, .int 0, .int 0, .int 0, .long 0, .int 0, .int 0, .int 0, .int (-1), .ref (B 6), .ref (B 7), .ref (B 8), .ref (B 9), .ref (B 10), .ref (B 11), .ref (B 12), .ref (B 13), .int 0, .int 0, .ref (B 14), .ref (B 15), .int 0, .int 0, .int 0, .ref (B 16), .ref (B 17), .int 0, .int 0, .int 0, .int 0, .int 0, .ref (B 18), .int 0, .int 0, .int 0])), ((B 7), .inl (cI, 30, .inl (fun _ => 0)))]) [0, 49, 60, 67] rfl rfl
  refine lv_aload_n hx hb dL_law_1728 rfl (lv_at hl 2 rfl) ?_
  refine lv_aload_n hx hb dL_law_1729 rfl (lv_at hl 3 rfl) ?_
  refine lv_iload_n hx hb dL_law_1730 rfl (lv_at hl 0 rfl) ?_
  refine lv_iconst (v := 1) hx hb dL_law_1731 (by decide) ?_
  refine lv_iadd hx hb dL_law_1732 ?_
  refine pv_i (v := 1) (by decide) ?_
  refine va_sld hx hb hX hbl hbA hS (vp_in_iff.mpr ⟨by decide, by decide⟩) dL_law_1733 ?_
  refine lv_topi (fun p1 ep1 => ?_)
  refine lv_aload_n hx hb dL_law_1734 rfl (lv_at hl 3 rfl) ?_
  refine lv_iload_n hx hb dL_law_1735 rfl (lv_at hl 0 rfl) ?_
  refine lv_iconst (v := 2) hx hb dL_law_1736 (by decide) ?_
  refine lv_iadd hx hb dL_law_1737 ?_
  refine pv_i (v := 2) (by decide) ?_
  refine va_sld hx hb hX hbl hbA hS (vp_in_iff.mpr ⟨by decide, by decide⟩) dL_law_1738 ?_
  refine lv_topi (fun p2 ep2 => ?_)
  refine lv_aload_n hx hb dL_law_1739 rfl (lv_at hl 3 rfl) ?_
  refine lv_iload_n hx hb dL_law_1740 rfl (lv_at hl 0 rfl) ?_
  refine lv_iconst (v := 3) hx hb dL_law_1741 (by decide) ?_
  refine lv_iadd hx hb dL_law_1742 ?_
  refine pv_i (v := 3) (by decide) ?_
  refine va_sld hx hb hX hbl hbA hS (vp_in_iff.mpr ⟨by decide, by decide⟩) dL_law_1743 ?_
  refine lv_topi (fun p3 ep3 => ?_)
  by_cases hc1 : p1 < 0
  · refine cvR (n := 3) (As := [.int p1, .int p2, .int p3]) (rest := []) ⟨hx, hb, hml, hown, hts⟩ (fun _ h => uw_in h) (kX9_chance_0 l D cB cI cJ cZ cT cR (A 0) (A 1) (A 3) (A 12) (A 21) (A 49) (A 51) (A 60) (A 61) (A 62) (A 63) (A 64) p1 p2 p3 hc1) q_m1052 q_n1053 q_e1054 q_i1 q_c1055 (by decide +kernel) ⟨(Nat.le_of_ble_eq_true rfl), (Nat.le_of_ble_eq_true rfl)⟩ ⟨(Nat.le_of_ble_eq_true rfl), (Nat.le_of_ble_eq_true rfl)⟩ hK (hP.sub (ws' := [((A 0), .inr (9, [.ref (A 1), .ref (A 3), .ref (A 12), .ref (A 21), .int 0, .ref (A 49), .ref (A 51), .ref (A 60), .ref (A 61), .ref (A 62), .ref (A 63), .ref (A 64)]))]) [0] rfl) 9 0 rfl rfl rfl hl.1 rfl (Nat.le_of_ble_eq_true rfl) dL_law_1744 ?_
    refine lv_aload_n hx hb dL_law_1747 rfl (lv_at hl 1 rfl) ?_
    refine lv_aload_n hx hb dL_law_1748 rfl (lv_at hl 3 rfl) ?_
    refine lv_iload_n hx hb dL_law_1749 rfl (lv_at hl 0 rfl) ?_
    refine lv_iconst (v := 1) hx hb dL_law_1750 (by decide) ?_
    refine lv_iadd hx hb dL_law_1751 ?_
    refine pv_i (v := 1) (by decide) ?_
    refine va_sld hx hb hX hbl hbA hS (vp_in_iff.mpr ⟨by decide, by decide⟩) dL_law_1752 ?_
    refine pv_i (v := p1) ep1.symm ?_
    refine lv_aload_n hx hb dL_law_1753 rfl (lv_at hl 3 rfl) ?_
    refine lv_iload_n hx hb dL_law_1754 rfl (lv_at hl 0 rfl) ?_
    refine lv_iconst (v := 2) hx hb dL_law_1755 (by decide) ?_
    refine lv_iadd hx hb dL_law_1756 ?_
    refine pv_i (v := 2) (by decide) ?_
    refine va_sld hx hb hX hbl hbA hS (vp_in_iff.mpr ⟨by decide, by decide⟩) dL_law_1757 ?_
    refine pv_i (v := p2) ep2.symm ?_
    refine lv_aload_n hx hb dL_law_1758 rfl (lv_at hl 3 rfl) ?_
    refine lv_iload_n hx hb dL_law_1759 rfl (lv_at hl 0 rfl) ?_
    refine lv_iconst (v := 3) hx hb dL_law_1760 (by decide) ?_
    refine lv_iadd hx hb dL_law_1761 ?_
    refine pv_i (v := 3) (by decide) ?_
    refine va_sld hx hb hX hbl hbA hS (vp_in_iff.mpr ⟨by decide, by decide⟩) dL_law_1762 ?_
    refine pv_i (v := p3) ep3.symm ?_
    refine cvM (n := 3) (As := [.int p1, .int p2, .int p3]) (rest := [.int (-2)]) (wr := [((A 0), .inr (9, [.ref (A 1), .ref (A 3), .ref (A 12), .ref (A 21), .int 0, .ref (A 49), .ref (A 51), .ref (A 60), .ref (A 61), .ref (A 62), .ref (A 63), .ref (A 64)])), ((A 49), .inr (5, [.int 0, .int 0, .ref (A 65), .ref (A 50)]))]) ⟨hx, hb, hml, hown, hts⟩ (fun _ h => uw_in h) (kX10_chance_0 l D cB cI cJ cZ cT cR (B 0) (B 7) (B 1) (B 2) (B 3) (B 4) (B 5) (B 6) (B 8) (B 9) (B 10) (B 11) (B 12) (B 13) (B 14) (B 15) (B 16) (B 17) (B 18) p1 p2 p3 H.size) q_m1824 q_n1825 q_e1826 q_i11 q_c1827 (by decide +kernel) ⟨(Nat.le_of_ble_eq_true rfl), (Nat.le_of_ble_eq_true rfl)⟩ ⟨(Nat.le_of_ble_eq_true rfl), (Nat.le_of_ble_eq_true rfl)⟩ hE hK hP hD hS hA [2, 3] [0, 1] rfl rfl rfl rfl (by decide) 10 0 rfl rfl rfl hl.1 rfl (Nat.le_of_ble_eq_true rfl) dL_law_1763 (fun r9 u H locs hpo hP hD hS => ?_)
    have hP : va_P D vwCl [((A 0), .inr (9, [.ref (A 1), .ref (A 3), .ref (A 12), .ref (A 21), .int 0, .ref (A 49), .ref (A 51), .ref (A 60), .ref (A 61), .ref (A 62), .ref (A 63), .ref (A 64)])), ((A 49), .inr (5, [.int 0, .int 0, .ref (A 65), .ref (A 50)])), ((B 0), .inr (10, [.int 0, .ref (B 1), .ref (B 2), .ref (B 3), .ref (B 4), .ref (B 5), .int 0, .int 0, .int 0, .int 0, .int 0, .long 0, .int 0, .int 0, .int 0, .int (-1), .ref (B 6), .ref (B 7), .ref (B 8), .ref (B 9), .ref (B 10), .ref (B 11), .ref (B 12), .ref (B 13), .int 0, .int 0, .ref (B 14), .ref (B 15), .int 0, .int 0, .int 0, .ref (B 16), .ref (B 17), .int 0, .int 0, .int 0, .int 0, .int 0, .ref (B 18), .int 0, .int 0, .int 0])), ((B 7), .inl (cI, 30, .inl (fun _ => 0)))] H := hP
    have hD : va_D (fun q : Nat => s.heap.size ≤ q) [((A 0), .inr (9, [.ref (A 1), .ref (A 3), .ref (A 12), .ref (A 21), .int 0, .ref (A 49), .ref (A 51), .ref (A 60), .ref (A 61), .ref (A 62), .ref (A 63), .ref (A 64)])), ((A 49), .inr (5, [.int 0, .int 0, .ref (A 65), .ref (A 50)])), ((B 0), .inr (10, [.int 0, .ref (B 1), .ref (B 2), .ref (B 3), .ref (B 4), .ref (B 5), .int 0, .int 0, .int 0, .int 0, .int 0, .long 0, .int 0, .int 0, .int 0, .int (-1), .ref (B 6), .ref (B 7), .ref (B 8), .ref (B 9), .ref (B 10), .ref (B 11), .ref (B 12), .ref (B 13), .int 0, .int 0, .ref (B 14), .ref (B 15), .int 0, .int 0, .int 0, .ref (B 16), .ref (B 17), .int 0, .int 0, .int 0, .int 0, .int 0, .ref (B 18), .int 0, .int 0, .int 0])), ((B 7), .inl (cI, 30, .inl (fun _ => 0)))] := hD
    refine W.cs (cells' := 180) (slots' := 4779) rfl rfl ?_
    have hpo : r9 = (-2) := hpo
    subst hpo
    refine lv_icmp_eq (tgt := 2362) hx hb dL_law_1766 (by decide) (fun _ => ?_) (fun c9 => absurd (by decide) c9)
    exact law_end C0 hS (Nat.le_of_ble_eq_true rfl) (Nat.le_of_ble_eq_true rfl) ls hl
  · refine cvR (n := 3) (As := [.int p1, .int p2, .int p3]) (rest := []) ⟨hx, hb, hml, hown, hts⟩ (fun _ h => uw_in h) (kX9_chance_1 l D cB cI cJ cZ cT cR (A 0) (A 49) (A 1) (A 3) (A 12) (A 21) (A 51) (A 60) (A 61) (A 62) (A 63) (A 64) (A 65) (A 50) p1 p2 p3 hc1) q_m1052 q_n1053 q_e1054 q_i1 q_c1055 (by decide +kernel) ⟨(Nat.le_of_ble_eq_true rfl), (Nat.le_of_ble_eq_true rfl)⟩ ⟨(Nat.le_of_ble_eq_true rfl), (Nat.le_of_ble_eq_true rfl)⟩ hK (hP.sub (ws' := [((A 0), .inr (9, [.ref (A 1), .ref (A 3), .ref (A 12), .ref (A 21), .int 0, .ref (A 49), .ref (A 51), .ref (A 60), .ref (A 61), .ref (A 62), .ref (A 63), .ref (A 64)])), ((A 49), .inr (5, [.int 0, .int 0, .ref (A 65), .ref (A 50)]))]) [0, 1] rfl) 9 0 rfl rfl rfl hl.1 rfl (Nat.le_of_ble_eq_true rfl) dL_law_1744 ?_
    refine lv_aload_n hx hb dL_law_1747 rfl (lv_at hl 1 rfl) ?_
    refine lv_aload_n hx hb dL_law_1748 rfl (lv_at hl 3 rfl) ?_
    refine lv_iload_n hx hb dL_law_1749 rfl (lv_at hl 0 rfl) ?_
    refine lv_iconst (v := 1) hx hb dL_law_1750 (by decide) ?_
    refine lv_iadd hx hb dL_law_1751 ?_
    refine pv_i (v := 1) (by decide) ?_
    refine va_sld hx hb hX hbl hbA hS (vp_in_iff.mpr ⟨by decide, by decide⟩) dL_law_1752 ?_
    refine pv_i (v := p1) ep1.symm ?_
    refine lv_aload_n hx hb dL_law_1753 rfl (lv_at hl 3 rfl) ?_
    refine lv_iload_n hx hb dL_law_1754 rfl (lv_at hl 0 rfl) ?_
    refine lv_iconst (v := 2) hx hb dL_law_1755 (by decide) ?_
    refine lv_iadd hx hb dL_law_1756 ?_
    refine pv_i (v := 2) (by decide) ?_
    refine va_sld hx hb hX hbl hbA hS (vp_in_iff.mpr ⟨by decide, by decide⟩) dL_law_1757 ?_
    refine pv_i (v := p2) ep2.symm ?_
    refine lv_aload_n hx hb dL_law_1758 rfl (lv_at hl 3 rfl) ?_
    refine lv_iload_n hx hb dL_law_1759 rfl (lv_at hl 0 rfl) ?_
    refine lv_iconst (v := 3) hx hb dL_law_1760 (by decide) ?_
    refine lv_iadd hx hb dL_law_1761 ?_
    refine pv_i (v := 3) (by decide) ?_
    refine va_sld hx hb hX hbl hbA hS (vp_in_iff.mpr ⟨by decide, by decide⟩) dL_law_1762 ?_
    refine pv_i (v := p3) ep3.symm ?_
    refine cvM (n := 3) (As := [.int p1, .int p2, .int p3]) (rest := [.int (-2)]) (wr := [((A 0), .inr (9, [.ref (A 1), .ref (A 3), .ref (A 12), .ref (A 21), .int 0, .ref (A 49), .ref (A 51), .ref (A 60), .ref (A 61), .ref (A 62), .ref (A 63), .ref (A 64)])), ((A 49), .inr (5, [.int 0, .int 0, .ref (A 65), .ref (A 50)]))]) ⟨hx, hb, hml, hown, hts⟩ (fun _ h => uw_in h) (kX10_chance_0 l D cB cI cJ cZ cT cR (B 0) (B 7) (B 1) (B 2) (B 3) (B 4) (B 5) (B 6) (B 8) (B 9) (B 10) (B 11) (B 12) (B 13) (B 14) (B 15) (B 16) (B 17) (B 18) p1 p2 p3 H.size) q_m1824 q_n1825 q_e1826 q_i11 q_c1827 (by decide +kernel) ⟨(Nat.le_of_ble_eq_true rfl), (Nat.le_of_ble_eq_true rfl)⟩ ⟨(Nat.le_of_ble_eq_true rfl), (Nat.le_of_ble_eq_true rfl)⟩ hE hK hP hD hS hA [2, 3] [0, 1] rfl rfl rfl rfl (by decide) 10 0 rfl rfl rfl hl.1 rfl (Nat.le_of_ble_eq_true rfl) dL_law_1763 (fun r9 u H locs hpo hP hD hS => ?_)
    have hP : va_P D vwCl [((A 0), .inr (9, [.ref (A 1), .ref (A 3), .ref (A 12), .ref (A 21), .int 0, .ref (A 49), .ref (A 51), .ref (A 60), .ref (A 61), .ref (A 62), .ref (A 63), .ref (A 64)])), ((A 49), .inr (5, [.int 0, .int 0, .ref (A 65), .ref (A 50)])), ((B 0), .inr (10, [.int 0, .ref (B 1), .ref (B 2), .ref (B 3), .ref (B 4), .ref (B 5), .int 0, .int 0, .int 0, .int 0, .int 0, .long 0, .int 0, .int 0, .int 0, .int (-1), .ref (B 6), .ref (B 7), .ref (B 8), .ref (B 9), .ref (B 10), .ref (B 11), .ref (B 12), .ref (B 13), .int 0, .int 0, .ref (B 14), .ref (B 15), .int 0, .int 0, .int 0, .ref (B 16), .ref (B 17), .int 0, .int 0, .int 0, .int 0, .int 0, .ref (B 18), .int 0, .int 0, .int 0])), ((B 7), .inl (cI, 30, .inl (fun _ => 0)))] H := hP
    have hD : va_D (fun q : Nat => s.heap.size ≤ q) [((A 0), .inr (9, [.ref (A 1), .ref (A 3), .ref (A 12), .ref (A 21), .int 0, .ref (A 49), .ref (A 51), .ref (A 60), .ref (A 61), .ref (A 62), .ref (A 63), .ref (A 64)])), ((A 49), .inr (5, [.int 0, .int 0, .ref (A 65), .ref (A 50)])), ((B 0), .inr (10, [.int 0, .ref (B 1), .ref (B 2), .ref (B 3), .ref (B 4), .ref (B 5), .int 0, .int 0, .int 0, .int 0, .int 0, .long 0, .int 0, .int 0, .int 0, .int (-1), .ref (B 6), .ref (B 7), .ref (B 8), .ref (B 9), .ref (B 10), .ref (B 11), .ref (B 12), .ref (B 13), .int 0, .int 0, .ref (B 14), .ref (B 15), .int 0, .int 0, .int 0, .ref (B 16), .ref (B 17), .int 0, .int 0, .int 0, .int 0, .int 0, .ref (B 18), .int 0, .int 0, .int 0])), ((B 7), .inl (cI, 30, .inl (fun _ => 0)))] := hD
    refine W.cs (cells' := 180) (slots' := 4779) rfl rfl ?_
    have hpo : r9 = (-2) := hpo
    subst hpo
    refine lv_icmp_eq (tgt := 2362) hx hb dL_law_1766 (by decide) (fun _ => ?_) (fun c9 => absurd (by decide) c9)
    exact law_end C0 hS (Nat.le_of_ble_eq_true rfl) (Nat.le_of_ble_eq_true rfl) ls hl
set_option maxHeartbeats 4000000 in
set_option maxRecDepth 100000 in
theorem kX9_sure_0 (l : Launch) (D : va_G) (cB cI cJ cZ cT cR : ClassId) (a0 a1 a2 a3 a4 a5 a6 a7 a8 a9 a10 a11 : Nat) (x0 : Int32) (x1 : Int32) (hy0 : x0 < 0) : Met l yX9_sure (uc yX9_sure cX9_sure 4 (some .int)) (rmL 2 0 0) (va_Pc [.ref a0, .int x0, .int x1] (RPre D [(cB, .byte), (cI, .int), (cJ, .long), (cZ, .boolean), (cT, .object RX7), (cR, .object RX3)] [(a0, .inr (9, [.ref a1, .ref a2, .ref a3, .ref a4, .int 0, .ref a5, .ref a6, .ref a7, .ref a8, .ref a9, .ref a10, .ref a11]))])) (QcRead (-2)) 0 0 (fun _ => False) := by
  refine pm (by decide) (Nat.le_of_ble_eq_true rfl) ?_
  intro p e s m below meth c ls hx hb hr hml hown hlk hnm hts hv hl
  have hown : s.vm.findClass RX9 = some m.cls := hown
  have hl : lv_has ls 4 [(0, .ref a0), (1, .int x0), (2, .int x1)] := hl
  obtain ⟨hP, hK⟩ := hv
  refine lv_aload_n hx hb dX9_sure_0 rfl (lv_at hl 0 rfl) ?_
  refine lv_iload_n hx hb dX9_sure_1 rfl (lv_at hl 1 rfl) ?_
  refine cvR (n := 1) (As := [.int x0]) (rest := []) ⟨hx, hb, hml, hown, hts⟩ uc_in (kX9_isDay_0 l D cB cI cJ cZ cT cR a0 a1 a2 a3 a4 a5 a6 a7 a8 a9 a10 a11 x0 hy0) q_m597 q_n599 q_p12 q_i1 q_c600 (by decide +kernel) ⟨(Nat.le_of_ble_eq_true rfl), (Nat.le_of_ble_eq_true rfl)⟩ ⟨(Nat.le_of_ble_eq_true rfl), (Nat.le_of_ble_eq_true rfl)⟩ hK (hP.sub (ws' := [(a0, .inr (9, [.ref a1, .ref a2, .ref a3, .ref a4, .int 0, .ref a5, .ref a6, .ref a7, .ref a8, .ref a9, .ref a10, .ref a11]))]) [0] rfl) 9 0 rfl rfl rfl hl.1 rfl (Nat.le_of_ble_eq_true rfl) dX9_sure_2 ?_
  refine lv_if_eq (tgt := 18) hx hb dX9_sure_5 (by decide) (fun _ => ?_) (fun c9 => absurd (by decide) c9)
  refine lv_bipush (v := (-2)) hx hb dX9_sure_18 (by decide) ?_
  exact W.iret hx hb hr (fun t ht _ => ⟨rfl, ht⟩) (fun _ h => by cases h) dX9_sure_20
set_option maxHeartbeats 4000000 in
set_option maxRecDepth 100000 in
theorem kX10_sure_0 (l : Launch) (D : va_G) (cB cI cJ cZ cT cR : ClassId) (a0 a1 a2 a3 a4 a5 a6 a7 a8 a9 a10 a11 a12 a13 a14 a15 a16 a17 a18 : Nat) (x0 : Int32) (x1 : Int32) (sz : Nat) : Met l yX10_sure (uc yX10_sure cX10_sure 4 (some .int)) (rmL 3 0 0) (va_Pc [.ref a0, .int x0, .int x1] (MPre D [(cB, .byte), (cI, .int), (cJ, .long), (cZ, .boolean), (cT, .object RX7), (cR, .object RX3)] [(a0, .inr (10, [.int 0, .ref a2, .ref a3, .ref a4, .ref a5, .ref a6, .int 0, .int 0, .int 0, .int 0, .int 0, .long 0, .int 0, .int 0, .int 0, .int (-1), .ref a7, .ref a1, .ref a8, .ref a9, .ref a10, .ref a11, .ref a12, .ref a13, .int 0, .int 0, .ref a14, .ref a15, .int 0, .int 0, .int 0, .ref a16, .ref a17, .int 0, .int 0, .int 0, .int 0, .int 0, .ref a18, .int 0, .int 0, .int 0])), (a1, .inl (cI, 30, .inl (fun _ => 0)))] sz)) (va_Qi (fun (r : Int32) (_ : Unit) => r = (-2)) (MB D [(cB, .byte), (cI, .int), (cJ, .long), (cZ, .boolean), (cT, .object RX7), (cR, .object RX3)] [(a0, .inr (10, [.int 0, .ref a2, .ref a3, .ref a4, .ref a5, .ref a6, .int 0, .int 0, .int 0, .int 0, .int 0, .long 0, .int 0, .int 0, .int 0, .int (-1), .ref a7, .ref a1, .ref a8, .ref a9, .ref a10, .ref a11, .ref a12, .ref a13, .int 0, .int 0, .ref a14, .ref a15, .int 0, .int 0, .int 0, .ref a16, .ref a17, .int 0, .int 0, .int 0, .int 0, .int 0, .ref a18, .int 0, .int 0, .int 0])), (a1, .inl (cI, 30, .inl (fun _ => 0)))] sz (fun (u : Unit) => [(a0, .inr (10, [.int 0, .ref a2, .ref a3, .ref a4, .ref a5, .ref a6, .int 0, .int 0, .int 0, .int 0, .int 0, .long 0, .int 0, .int 0, .int 0, .int (-1), .ref a7, .ref a1, .ref a8, .ref a9, .ref a10, .ref a11, .ref a12, .ref a13, .int 0, .int 0, .ref a14, .ref a15, .int 0, .int 0, .int 0, .ref a16, .ref a17, .int 0, .int 0, .int 0, .int 0, .int 0, .ref a18, .int 0, .int 0, .int 0])), (a1, .inl (cI, 30, .inl (fun _ => 0)))])) (va_A [(a0, .inr (10, [.int 0, .ref a2, .ref a3, .ref a4, .ref a5, .ref a6, .int 0, .int 0, .int 0, .int 0, .int 0, .long 0, .int 0, .int 0, .int 0, .int (-1), .ref a7, .ref a1, .ref a8, .ref a9, .ref a10, .ref a11, .ref a12, .ref a13, .int 0, .int 0, .ref a14, .ref a15, .int 0, .int 0, .int 0, .ref a16, .ref a17, .int 0, .int 0, .int 0, .int 0, .int 0, .ref a18, .int 0, .int 0, .int 0])), (a1, .inl (cI, 30, .inl (fun _ => 0)))] sz)) 0 0 (va_A [(a0, .inr (10, [.int 0, .ref a2, .ref a3, .ref a4, .ref a5, .ref a6, .int 0, .int 0, .int 0, .int 0, .int 0, .long 0, .int 0, .int 0, .int 0, .int (-1), .ref a7, .ref a1, .ref a8, .ref a9, .ref a10, .ref a11, .ref a12, .ref a13, .int 0, .int 0, .ref a14, .ref a15, .int 0, .int 0, .int 0, .ref a16, .ref a17, .int 0, .int 0, .int 0, .int 0, .int 0, .ref a18, .int 0, .int 0, .int 0])), (a1, .inl (cI, 30, .inl (fun _ => 0)))] sz) := by
  refine pm (by decide) (Nat.le_of_ble_eq_true rfl) ?_
  intro p e s m below meth c ls hx hb hr hml hown hlk hnm hts hv hl
  have hown : s.vm.findClass RX10 = some m.cls := hown
  have hl : lv_has ls 4 [(0, .ref a0), (1, .int x0), (2, .int x1)] := hl
  obtain ⟨hsz, hP, hK, hD0, hE⟩ := hv
  subst hsz
  have hD := hD0.self (sz := s.heap.size)
  obtain ⟨AA, hAe⟩ : ∃ AA, AA = va_A [(a0, .inr (10, [.int 0, .ref a2, .ref a3, .ref a4, .ref a5, .ref a6, .int 0, .int 0, .int 0, .int 0, .int 0, .long 0, .int 0, .int 0, .int 0, .int (-1), .ref a7, .ref a1, .ref a8, .ref a9, .ref a10, .ref a11, .ref a12, .ref a13, .int 0, .int 0, .ref a14, .ref a15, .int 0, .int 0, .int 0, .ref a16, .ref a17, .int 0, .int 0, .int 0, .int 0, .int 0, .ref a18, .int 0, .int 0, .int 0])), (a1, .inl (cI, 30, .inl (fun _ => 0)))] s.heap.size := ⟨_, rfl⟩
  rw [← hAe] at hD
  have hA : ∀ q : Nat, s.heap.size ≤ q → AA q := fun q h => by rw [hAe]; exact Or.inr h
  have hS : va_S AA s.heap s.heap [] := va_S.rf
  obtain ⟨-, hAOT, hAOR, hAOI⟩ := id hE
  refine lv_aload_n hx hb dX10_sure_0 rfl (lv_at hl 0 rfl) ?_
  refine lv_iconst (v := 0) hx hb dX10_sure_1 (by decide) ?_
  refine va_put (D := D) (ci := 10) (v := .int 0) (ty := .int) (C := RX10) (T := TX10) (N := 42) hx hb hts (fun w h => uc_in w (inX10 w h)) tyX10 tyX10_ok nmX10 hown hK hP hD hS 0 rfl rfl 0 (by decide) (hts _ (uc_in _ q_f1188)) (fun _ h9 => h9) rfl (by decide +kernel) rfl rfl (Nat.le_of_ble_eq_true rfl) dX10_sure_2 (fun H locs hP hD hS => ?_)
  have hP : va_P D vwCl [(a0, .inr (10, [.int 0, .ref a2, .ref a3, .ref a4, .ref a5, .ref a6, .int 0, .int 0, .int 0, .int 0, .int 0, .long 0, .int 0, .int 0, .int 0, .int (-1), .ref a7, .ref a1, .ref a8, .ref a9, .ref a10, .ref a11, .ref a12, .ref a13, .int 0, .int 0, .ref a14, .ref a15, .int 0, .int 0, .int 0, .ref a16, .ref a17, .int 0, .int 0, .int 0, .int 0, .int 0, .ref a18, .int 0, .int 0, .int 0])), (a1, .inl (cI, 30, .inl (fun _ => 0)))] H := hP
  have hD : va_D AA [(a0, .inr (10, [.int 0, .ref a2, .ref a3, .ref a4, .ref a5, .ref a6, .int 0, .int 0, .int 0, .int 0, .int 0, .long 0, .int 0, .int 0, .int 0, .int (-1), .ref a7, .ref a1, .ref a8, .ref a9, .ref a10, .ref a11, .ref a12, .ref a13, .int 0, .int 0, .ref a14, .ref a15, .int 0, .int 0, .int 0, .ref a16, .ref a17, .int 0, .int 0, .int 0, .int 0, .int 0, .ref a18, .int 0, .int 0, .int 0])), (a1, .inl (cI, 30, .inl (fun _ => 0)))] := hD
  refine lv_aload_n hx hb dX10_sure_5 rfl (lv_at hl 0 rfl) ?_
  refine lv_iload_n hx hb dX10_sure_6 rfl (lv_at hl 1 rfl) ?_
  refine lv_i2l (v := x0.toInt64) hx hb dX10_sure_7 rfl ?_
  refine cvR (n := 1) (As := [.long x0.toInt64]) (rest := []) ⟨hx, hb, hml, hown, hts⟩ uc_in (kX10_isDay_0 l D cB cI cJ cZ cT cR a0 a1 a2 a3 a4 a5 a6 a7 a8 a9 a10 a11 a12 a13 a14 a15 a16 a17 a18 x0) q_m1473 q_n1475 q_p73 q_i11 q_c1476 (by decide +kernel) ⟨(Nat.le_of_ble_eq_true rfl), (Nat.le_of_ble_eq_true rfl)⟩ ⟨(Nat.le_of_ble_eq_true rfl), (Nat.le_of_ble_eq_true rfl)⟩ hK (hP.sub (ws' := [(a0, .inr (10, [.int 0, .ref a2, .ref a3, .ref a4, .ref a5, .ref a6, .int 0, .int 0, .int 0, .int 0, .int 0, .long 0, .int 0, .int 0, .int 0, .int (-1), .ref a7, .ref a1, .ref a8, .ref a9, .ref a10, .ref a11, .ref a12, .ref a13, .int 0, .int 0, .ref a14, .ref a15, .int 0, .int 0, .int 0, .ref a16, .ref a17, .int 0, .int 0, .int 0, .int 0, .int 0, .ref a18, .int 0, .int 0, .int 0])), (a1, .inl (cI, 30, .inl (fun _ => 0)))]) [0, 1] rfl) 10 0 rfl rfl rfl hl.1 rfl (Nat.le_of_ble_eq_true rfl) dX10_sure_8 ?_
  refine lv_if_eq (tgt := 26) hx hb dX10_sure_11 (by decide) (fun _ => ?_) (fun c9 => absurd (by decide) c9)
  refine lv_bipush (v := (-2)) hx hb dX10_sure_26 (by decide) ?_
  subst hAe
  have hP9 := hP.sub (ws' := [(a0, .inr (10, [.int 0, .ref a2, .ref a3, .ref a4, .ref a5, .ref a6, .int 0, .int 0, .int 0, .int 0, .int 0, .long 0, .int 0, .int 0, .int 0, .int (-1), .ref a7, .ref a1, .ref a8, .ref a9, .ref a10, .ref a11, .ref a12, .ref a13, .int 0, .int 0, .ref a14, .ref a15, .int 0, .int 0, .int 0, .ref a16, .ref a17, .int 0, .int 0, .int 0, .int 0, .int 0, .ref a18, .int 0, .int 0, .int 0])), (a1, .inl (cI, 30, .inl (fun _ => 0)))]) [0, 1] rfl
  have hD9 := hD.sub (ws' := [(a0, .inr (10, [.int 0, .ref a2, .ref a3, .ref a4, .ref a5, .ref a6, .int 0, .int 0, .int 0, .int 0, .int 0, .long 0, .int 0, .int 0, .int 0, .int (-1), .ref a7, .ref a1, .ref a8, .ref a9, .ref a10, .ref a11, .ref a12, .ref a13, .int 0, .int 0, .ref a14, .ref a15, .int 0, .int 0, .int 0, .ref a16, .ref a17, .int 0, .int 0, .int 0, .int 0, .int 0, .ref a18, .int 0, .int 0, .int 0])), (a1, .inl (cI, 30, .inl (fun _ => 0)))]) [0, 1] rfl rfl
  exact W.iret hx hb hr (fun t ht hW => ⟨⟨(-2), (), rfl, rfl, by rw [ht]; exact hP9, va_K.moved hW.alike hK, hD9⟩, hS.F ht⟩) hS.2.2 dX10_sure_28
set_option maxHeartbeats 4000000 in
set_option maxRecDepth 100000 in
theorem kX9_sure_1 (l : Launch) (D : va_G) (cB cI cJ cZ cT cR : ClassId) (a0 a1 a2 a3 a4 a5 a6 a7 a8 a9 a10 a11 a12 a13 : Nat) (x0 : Int32) (x1 : Int32) (hy0 : ¬ (x0 < 0)) : Met l yX9_sure (uc yX9_sure cX9_sure 4 (some .int)) (rmL 2 0 0) (va_Pc [.ref a0, .int x0, .int x1] (RPre D [(cB, .byte), (cI, .int), (cJ, .long), (cZ, .boolean), (cT, .object RX7), (cR, .object RX3)] [(a0, .inr (9, [.ref a2, .ref a3, .ref a4, .ref a5, .int 0, .ref a1, .ref a6, .ref a7, .ref a8, .ref a9, .ref a10, .ref a11])), (a1, .inr (5, [.int 0, .int 0, .ref a12, .ref a13]))])) (QcRead (-2)) 0 0 (fun _ => False) := by
  refine pm (by decide) (Nat.le_of_ble_eq_true rfl) ?_
  intro p e s m below meth c ls hx hb hr hml hown hlk hnm hts hv hl
  have hown : s.vm.findClass RX9 = some m.cls := hown
  have hl : lv_has ls 4 [(0, .ref a0), (1, .int x0), (2, .int x1)] := hl
  obtain ⟨hP, hK⟩ := hv
  refine lv_aload_n hx hb dX9_sure_0 rfl (lv_at hl 0 rfl) ?_
  refine lv_iload_n hx hb dX9_sure_1 rfl (lv_at hl 1 rfl) ?_
  refine cvR (n := 1) (As := [.int x0]) (rest := []) ⟨hx, hb, hml, hown, hts⟩ uc_in (kX9_isDay_1 l D cB cI cJ cZ cT cR a0 a1 a2 a3 a4 a5 a6 a7 a8 a9 a10 a11 a12 a13 x0 hy0) q_m597 q_n599 q_p12 q_i1 q_c600 (by decide +kernel) ⟨(Nat.le_of_ble_eq_true rfl), (Nat.le_of_ble_eq_true rfl)⟩ ⟨(Nat.le_of_ble_eq_true rfl), (Nat.le_of_ble_eq_true rfl)⟩ hK (hP.sub (ws' := [(a0, .inr (9, [.ref a2, .ref a3, .ref a4, .ref a5, .int 0, .ref a1, .ref a6, .ref a7, .ref a8, .ref a9, .ref a10, .ref a11])), (a1, .inr (5, [.int 0, .int 0, .ref a12, .ref a13]))]) [0, 1] rfl) 9 0 rfl rfl rfl hl.1 rfl (Nat.le_of_ble_eq_true rfl) dX9_sure_2 ?_
  refine lv_if_eq (tgt := 18) hx hb dX9_sure_5 (by decide) (fun _ => ?_) (fun c9 => absurd (by decide) c9)
  refine lv_bipush (v := (-2)) hx hb dX9_sure_18 (by decide) ?_
  exact W.iret hx hb hr (fun t ht _ => ⟨rfl, ht⟩) (fun _ h => by cases h) dX9_sure_20
set_option maxHeartbeats 4000000 in
set_option maxRecDepth 100000 in
theorem law_case_55 {p : Program} {l : Launch} {e : Env} {s : State} {m : MethodId} {below : List Frame} {meth : Method} {c : Code} {D : va_G} {cB cI cJ cZ cT cR : ClassId} {b : Nat} {xs : Nat → Int32} {A B : Nat → Nat} {H : Heap} {locs : List Loc} {ls : Array Slot} (C0 : lw_At p s m meth c b 6 xs) (hE : EX s) (hK : va_K D vwCl [(cB, .byte), (cI, .int), (cJ, .long), (cZ, .boolean), (cT, .object RX7), (cR, .object RX3)] s) (hP : va_P D vwCl (fwAll cB cI cJ cZ cT cR A B) H) (hD : va_D (fun q : Nat => s.heap.size ≤ q) (fwAll cB cI cJ cZ cT cR A B)) (hS : va_S (fun q : Nat => s.heap.size ≤ q) s.heap H locs) (hl : lv_has ls 4 [(3, .int 0), (2, .ref (B 0)), (1, .ref (A 0)), (0, .ref b)]) : W p l e room_1 s m #[Value.ref b] below meth c H locs 180 4779 (lw_Z below #[Value.ref b] s) (F0 m 1771 ls []) := by
  obtain ⟨hx, hb, hr, hml, hown, hts, hX, hbl, hlocks, hgv⟩ := id C0
  have hown : s.vm.findClass RL = some m.cls := hown
  have hb : c.code = cL_law := hb
  have hA : ∀ q : Nat, s.heap.size ≤ q → (fun q : Nat => s.heap.size ≤ q) q := fun _ h => h
  have hbA : ¬ (fun q : Nat => s.heap.size ≤ q) b := Nat.not_le.mpr hbl
  have hP := hP.sub (ws' := [((A 0), .inr (9, [.ref (A 1), .ref (A 3), .ref (A 12), .ref (A 21), .int 0, .ref (A 49), .ref (A 51), .ref (A 60), .ref (A 61), .ref (A 62), .ref (A 63), .ref (A 64)])), ((A 49), .inr (5, [.int 0, .int 0, .ref (A 65), .ref (A 50)])), ((B 0), .inr (10, [.int 0, .ref (B 1), .ref (B 2), .ref (B 3), .ref (B 4), .ref (B 5), .int 0, .int 0, .int 0, .int 0, .int 0, .long 0, .int 0, .int 0, .int 0, .int (-1), .ref (B 6), .ref (B 7), .ref (B 8), .ref (B 9), .ref (B 10), .ref (B 11), .ref (B 12), .ref (B 13), .int 0, .int 0, .ref (B 14), .ref (B 15), .int 0, .int 0, .int 0, .ref (B 16), .ref (B 17), .int 0, .int 0, .int 0, .int 0, .int 0, .ref (B 18), .int 0, .int 0, .int 0])), ((B 7), .inl (cI, 30, .inl (fun _ => 0)))]) [0, 49, 60, 67] rfl
  have hD := hD.sub (ws' := [((A 0), .inr (9, [.ref (A 1), .ref (A 3), .ref (A 12), .ref (A 21), .int 0, .ref (A 49), .ref (A 51), .ref (A 60), .ref (A 61), .ref (A 62), .ref (A 63), .ref (A 64)])), ((A 49), .inr (5, [.int 0, .int 0, .ref (A 65), .ref (A 50)])), ((B 0), .inr (10, [.int 0, .ref (B 1), .ref (B 2), .ref (B 3), .ref (B 4), .ref (B 5), .int 0, .int 0, .int 0, .int 0, .int 0, .long 0, .int 0, .int 0, .int 0, .int (-1), .ref (B 6), .ref (B 7), .ref (B 8), .ref (B 9), .ref (B 10), .ref (B 11), .ref (B 12), .ref (B 13), .int 0, .int 0, .ref (B 14), .ref (B 15), .int 0, .int 0, .int 0, .ref (B 16), .ref (B 17), .int 0, .int 0, .int 0, .int 0, .int 0, .ref (B 18), .int 0, .int 0, .int 0])), ((B 7), .inl (cI, 30, .inl (fun _ => 0)))]) [0, 49, 60, 67] rfl rfl
  refine lv_aload_n hx hb dL_law_1771 rfl (lv_at hl 2 rfl) ?_
  refine lv_aload_n hx hb dL_law_1772 rfl (lv_at hl 3 rfl) ?_
  refine lv_iload_n hx hb dL_law_1773 rfl (lv_at hl 0 rfl) ?_
  refine lv_iconst (v := 1) hx hb dL_law_1774 (by decide) ?_
  refine lv_iadd hx hb dL_law_1775 ?_
  refine pv_i (v := 1) (by decide) ?_
  refine va_sld hx hb hX hbl hbA hS (vp_in_iff.mpr ⟨by decide, by decide⟩) dL_law_1776 ?_
  refine lv_topi (fun p1 ep1 => ?_)
  refine lv_aload_n hx hb dL_law_1777 rfl (lv_at hl 3 rfl) ?_
  refine lv_iload_n hx hb dL_law_1778 rfl (lv_at hl 0 rfl) ?_
  refine lv_iconst (v := 2) hx hb dL_law_1779 (by decide) ?_
  refine lv_iadd hx hb dL_law_1780 ?_
  refine pv_i (v := 2) (by decide) ?_
  refine va_sld hx hb hX hbl hbA hS (vp_in_iff.mpr ⟨by decide, by decide⟩) dL_law_1781 ?_
  refine lv_topi (fun p2 ep2 => ?_)
  by_cases hc1 : p1 < 0
  · refine cvR (n := 2) (As := [.int p1, .int p2]) (rest := []) ⟨hx, hb, hml, hown, hts⟩ (fun _ h => uw_in h) (kX9_sure_0 l D cB cI cJ cZ cT cR (A 0) (A 1) (A 3) (A 12) (A 21) (A 49) (A 51) (A 60) (A 61) (A 62) (A 63) (A 64) p1 p2 hc1) q_m1064 q_n1065 q_e1066 q_i1 q_c1067 (by decide +kernel) ⟨(Nat.le_of_ble_eq_true rfl), (Nat.le_of_ble_eq_true rfl)⟩ ⟨(Nat.le_of_ble_eq_true rfl), (Nat.le_of_ble_eq_true rfl)⟩ hK (hP.sub (ws' := [((A 0), .inr (9, [.ref (A 1), .ref (A 3), .ref (A 12), .ref (A 21), .int 0, .ref (A 49), .ref (A 51), .ref (A 60), .ref (A 61), .ref (A 62), .ref (A 63), .ref (A 64)]))]) [0] rfl) 9 0 rfl rfl rfl hl.1 rfl (Nat.le_of_ble_eq_true rfl) dL_law_1782 ?_
    refine lv_aload_n hx hb dL_law_1785 rfl (lv_at hl 1 rfl) ?_
    refine lv_aload_n hx hb dL_law_1786 rfl (lv_at hl 3 rfl) ?_
    refine lv_iload_n hx hb dL_law_1787 rfl (lv_at hl 0 rfl) ?_
    refine lv_iconst (v := 1) hx hb dL_law_1788 (by decide) ?_
    refine lv_iadd hx hb dL_law_1789 ?_
    refine pv_i (v := 1) (by decide) ?_
    refine va_sld hx hb hX hbl hbA hS (vp_in_iff.mpr ⟨by decide, by decide⟩) dL_law_1790 ?_
    refine pv_i (v := p1) ep1.symm ?_
    refine lv_aload_n hx hb dL_law_1791 rfl (lv_at hl 3 rfl) ?_
    refine lv_iload_n hx hb dL_law_1792 rfl (lv_at hl 0 rfl) ?_
    refine lv_iconst (v := 2) hx hb dL_law_1793 (by decide) ?_
    refine lv_iadd hx hb dL_law_1794 ?_
    refine pv_i (v := 2) (by decide) ?_
    refine va_sld hx hb hX hbl hbA hS (vp_in_iff.mpr ⟨by decide, by decide⟩) dL_law_1795 ?_
    refine pv_i (v := p2) ep2.symm ?_
    refine cvM (n := 2) (As := [.int p1, .int p2]) (rest := [.int (-2)]) (wr := [((A 0), .inr (9, [.ref (A 1), .ref (A 3), .ref (A 12), .ref (A 21), .int 0, .ref (A 49), .ref (A 51), .ref (A 60), .ref (A 61), .ref (A 62), .ref (A 63), .ref (A 64)])), ((A 49), .inr (5, [.int 0, .int 0, .ref (A 65), .ref (A 50)]))]) ⟨hx, hb, hml, hown, hts⟩ (fun _ h => uw_in h) (kX10_sure_0 l D cB cI cJ cZ cT cR (B 0) (B 7) (B 1) (B 2) (B 3) (B 4) (B 5) (B 6) (B 8) (B 9) (B 10) (B 11) (B 12) (B 13) (B 14) (B 15) (B 16) (B 17) (B 18) p1 p2 H.size) q_m1832 q_n1833 q_e1834 q_i11 q_c1835 (by decide +kernel) ⟨(Nat.le_of_ble_eq_true rfl), (Nat.le_of_ble_eq_true rfl)⟩ ⟨(Nat.le_of_ble_eq_true rfl), (Nat.le_of_ble_eq_true rfl)⟩ hE hK hP hD hS hA [2, 3] [0, 1] rfl rfl rfl rfl (by decide) 10 0 rfl rfl rfl hl.1 rfl (Nat.le_of_ble_eq_true rfl) dL_law_1796 (fun r9 u H locs hpo hP hD hS => ?_)
    have hP : va_P D vwCl [((A 0), .inr (9, [.ref (A 1), .ref (A 3), .ref (A 12), .ref (A 21), .int 0, .ref (A 49), .ref (A 51), .ref (A 60), .ref (A 61), .ref (A 62), .ref (A 63), .ref (A 64)])), ((A 49), .inr (5, [.int 0, .int 0, .ref (A 65), .ref (A 50)])), ((B 0), .inr (10, [.int 0, .ref (B 1), .ref (B 2), .ref (B 3), .ref (B 4), .ref (B 5), .int 0, .int 0, .int 0, .int 0, .int 0, .long 0, .int 0, .int 0, .int 0, .int (-1), .ref (B 6), .ref (B 7), .ref (B 8), .ref (B 9), .ref (B 10), .ref (B 11), .ref (B 12), .ref (B 13), .int 0, .int 0, .ref (B 14), .ref (B 15), .int 0, .int 0, .int 0, .ref (B 16), .ref (B 17), .int 0, .int 0, .int 0, .int 0, .int 0, .ref (B 18), .int 0, .int 0, .int 0])), ((B 7), .inl (cI, 30, .inl (fun _ => 0)))] H := hP
    have hD : va_D (fun q : Nat => s.heap.size ≤ q) [((A 0), .inr (9, [.ref (A 1), .ref (A 3), .ref (A 12), .ref (A 21), .int 0, .ref (A 49), .ref (A 51), .ref (A 60), .ref (A 61), .ref (A 62), .ref (A 63), .ref (A 64)])), ((A 49), .inr (5, [.int 0, .int 0, .ref (A 65), .ref (A 50)])), ((B 0), .inr (10, [.int 0, .ref (B 1), .ref (B 2), .ref (B 3), .ref (B 4), .ref (B 5), .int 0, .int 0, .int 0, .int 0, .int 0, .long 0, .int 0, .int 0, .int 0, .int (-1), .ref (B 6), .ref (B 7), .ref (B 8), .ref (B 9), .ref (B 10), .ref (B 11), .ref (B 12), .ref (B 13), .int 0, .int 0, .ref (B 14), .ref (B 15), .int 0, .int 0, .int 0, .ref (B 16), .ref (B 17), .int 0, .int 0, .int 0, .int 0, .int 0, .ref (B 18), .int 0, .int 0, .int 0])), ((B 7), .inl (cI, 30, .inl (fun _ => 0)))] := hD
    refine W.cs (cells' := 180) (slots' := 4779) rfl rfl ?_
    have hpo : r9 = (-2) := hpo
    subst hpo
    refine lv_icmp_eq (tgt := 2362) hx hb dL_law_1799 (by decide) (fun _ => ?_) (fun c9 => absurd (by decide) c9)
    exact law_end C0 hS (Nat.le_of_ble_eq_true rfl) (Nat.le_of_ble_eq_true rfl) ls hl
  · refine cvR (n := 2) (As := [.int p1, .int p2]) (rest := []) ⟨hx, hb, hml, hown, hts⟩ (fun _ h => uw_in h) (kX9_sure_1 l D cB cI cJ cZ cT cR (A 0) (A 49) (A 1) (A 3) (A 12) (A 21) (A 51) (A 60) (A 61) (A 62) (A 63) (A 64) (A 65) (A 50) p1 p2 hc1) q_m1064 q_n1065 q_e1066 q_i1 q_c1067 (by decide +kernel) ⟨(Nat.le_of_ble_eq_true rfl), (Nat.le_of_ble_eq_true rfl)⟩ ⟨(Nat.le_of_ble_eq_true rfl), (Nat.le_of_ble_eq_true rfl)⟩ hK (hP.sub (ws' := [((A 0), .inr (9, [.ref (A 1), .ref (A 3), .ref (A 12), .ref (A 21), .int 0, .ref (A 49), .ref (A 51), .ref (A 60), .ref (A 61), .ref (A 62), .ref (A 63), .ref (A 64)])), ((A 49), .inr (5, [.int 0, .int 0, .ref (A 65), .ref (A 50)]))]) [0, 1] rfl) 9 0 rfl rfl rfl hl.1 rfl (Nat.le_of_ble_eq_true rfl) dL_law_1782 ?_
    refine lv_aload_n hx hb dL_law_1785 rfl (lv_at hl 1 rfl) ?_
    refine lv_aload_n hx hb dL_law_1786 rfl (lv_at hl 3 rfl) ?_
    refine lv_iload_n hx hb dL_law_1787 rfl (lv_at hl 0 rfl) ?_
    refine lv_iconst (v := 1) hx hb dL_law_1788 (by decide) ?_
    refine lv_iadd hx hb dL_law_1789 ?_
    refine pv_i (v := 1) (by decide) ?_
    refine va_sld hx hb hX hbl hbA hS (vp_in_iff.mpr ⟨by decide, by decide⟩) dL_law_1790 ?_
    refine pv_i (v := p1) ep1.symm ?_
    refine lv_aload_n hx hb dL_law_1791 rfl (lv_at hl 3 rfl) ?_
    refine lv_iload_n hx hb dL_law_1792 rfl (lv_at hl 0 rfl) ?_
    refine lv_iconst (v := 2) hx hb dL_law_1793 (by decide) ?_
    refine lv_iadd hx hb dL_law_1794 ?_
    refine pv_i (v := 2) (by decide) ?_
    refine va_sld hx hb hX hbl hbA hS (vp_in_iff.mpr ⟨by decide, by decide⟩) dL_law_1795 ?_
    refine pv_i (v := p2) ep2.symm ?_
    refine cvM (n := 2) (As := [.int p1, .int p2]) (rest := [.int (-2)]) (wr := [((A 0), .inr (9, [.ref (A 1), .ref (A 3), .ref (A 12), .ref (A 21), .int 0, .ref (A 49), .ref (A 51), .ref (A 60), .ref (A 61), .ref (A 62), .ref (A 63), .ref (A 64)])), ((A 49), .inr (5, [.int 0, .int 0, .ref (A 65), .ref (A 50)]))]) ⟨hx, hb, hml, hown, hts⟩ (fun _ h => uw_in h) (kX10_sure_0 l D cB cI cJ cZ cT cR (B 0) (B 7) (B 1) (B 2) (B 3) (B 4) (B 5) (B 6) (B 8) (B 9) (B 10) (B 11) (B 12) (B 13) (B 14) (B 15) (B 16) (B 17) (B 18) p1 p2 H.size) q_m1832 q_n1833 q_e1834 q_i11 q_c1835 (by decide +kernel) ⟨(Nat.le_of_ble_eq_true rfl), (Nat.le_of_ble_eq_true rfl)⟩ ⟨(Nat.le_of_ble_eq_true rfl), (Nat.le_of_ble_eq_true rfl)⟩ hE hK hP hD hS hA [2, 3] [0, 1] rfl rfl rfl rfl (by decide) 10 0 rfl rfl rfl hl.1 rfl (Nat.le_of_ble_eq_true rfl) dL_law_1796 (fun r9 u H locs hpo hP hD hS => ?_)
    have hP : va_P D vwCl [((A 0), .inr (9, [.ref (A 1), .ref (A 3), .ref (A 12), .ref (A 21), .int 0, .ref (A 49), .ref (A 51), .ref (A 60), .ref (A 61), .ref (A 62), .ref (A 63), .ref (A 64)])), ((A 49), .inr (5, [.int 0, .int 0, .ref (A 65), .ref (A 50)])), ((B 0), .inr (10, [.int 0, .ref (B 1), .ref (B 2), .ref (B 3), .ref (B 4), .ref (B 5), .int 0, .int 0, .int 0, .int 0, .int 0, .long 0, .int 0, .int 0, .int 0, .int (-1), .ref (B 6), .ref (B 7), .ref (B 8), .ref (B 9), .ref (B 10), .ref (B 11), .ref (B 12), .ref (B 13), .int 0, .int 0, .ref (B 14), .ref (B 15), .int 0, .int 0, .int 0, .ref (B 16), .ref (B 17), .int 0, .int 0, .int 0, .int 0, .int 0, .ref (B 18), .int 0, .int 0, .int 0])), ((B 7), .inl (cI, 30, .inl (fun _ => 0)))] H := hP
    have hD : va_D (fun q : Nat => s.heap.size ≤ q) [((A 0), .inr (9, [.ref (A 1), .ref (A 3), .ref (A 12), .ref (A 21), .int 0, .ref (A 49), .ref (A 51), .ref (A 60), .ref (A 61), .ref (A 62), .ref (A 63), .ref (A 64)])), ((A 49), .inr (5, [.int 0, .int 0, .ref (A 65), .ref (A 50)])), ((B 0), .inr (10, [.int 0, .ref (B 1), .ref (B 2), .ref (B 3), .ref (B 4), .ref (B 5), .int 0, .int 0, .int 0, .int 0, .int 0, .long 0, .int 0, .int 0, .int 0, .int (-1), .ref (B 6), .ref (B 7), .ref (B 8), .ref (B 9), .ref (B 10), .ref (B 11), .ref (B 12), .ref (B 13), .int 0, .int 0, .ref (B 14), .ref (B 15), .int 0, .int 0, .int 0, .ref (B 16), .ref (B 17), .int 0, .int 0, .int 0, .int 0, .int 0, .ref (B 18), .int 0, .int 0, .int 0])), ((B 7), .inl (cI, 30, .inl (fun _ => 0)))] := hD
    refine W.cs (cells' := 180) (slots' := 4779) rfl rfl ?_
    have hpo : r9 = (-2) := hpo
    subst hpo
    refine lv_icmp_eq (tgt := 2362) hx hb dL_law_1799 (by decide) (fun _ => ?_) (fun c9 => absurd (by decide) c9)
    exact law_end C0 hS (Nat.le_of_ble_eq_true rfl) (Nat.le_of_ble_eq_true rfl) ls hl
set_option maxHeartbeats 4000000 in
set_option maxRecDepth 100000 in
theorem kX9_likely_0 (l : Launch) (D : va_G) (cB cI cJ cZ cT cR : ClassId) (a0 a1 a2 a3 a4 a5 a6 a7 a8 a9 a10 a11 : Nat) (x0 : Int32) (hy0 : x0 < 0) : Met l yX9_likely (uc yX9_likely cX9_likely 2 (some .int)) (rmL 2 0 0) (va_Pc [.ref a0, .int x0] (RPre D [(cB, .byte), (cI, .int), (cJ, .long), (cZ, .boolean), (cT, .object RX7), (cR, .object RX3)] [(a0, .inr (9, [.ref a1, .ref a2, .ref a3, .ref a4, .int 0, .ref a5, .ref a6, .ref a7, .ref a8, .ref a9, .ref a10, .ref a11]))])) (QcRead (-2)) 0 0 (fun _ => False) := by
  refine pm (by decide) (Nat.le_of_ble_eq_true rfl) ?_
  intro p e s m below meth c ls hx hb hr hml hown hlk hnm hts hv hl
  have hown : s.vm.findClass RX9 = some m.cls := hown
  have hl : lv_has ls 2 [(0, .ref a0), (1, .int x0)] := hl
  obtain ⟨hP, hK⟩ := hv
  refine lv_aload_n hx hb dX9_likely_0 rfl (lv_at hl 0 rfl) ?_
  refine lv_iload_n hx hb dX9_likely_1 rfl (lv_at hl 1 rfl) ?_
  refine cvR (n := 1) (As := [.int x0]) (rest := []) ⟨hx, hb, hml, hown, hts⟩ uc_in (kX9_isDay_0 l D cB cI cJ cZ cT cR a0 a1 a2 a3 a4 a5 a6 a7 a8 a9 a10 a11 x0 hy0) q_m597 q_n599 q_p12 q_i1 q_c600 (by decide +kernel) ⟨(Nat.le_of_ble_eq_true rfl), (Nat.le_of_ble_eq_true rfl)⟩ ⟨(Nat.le_of_ble_eq_true rfl), (Nat.le_of_ble_eq_true rfl)⟩ hK (hP.sub (ws' := [(a0, .inr (9, [.ref a1, .ref a2, .ref a3, .ref a4, .int 0, .ref a5, .ref a6, .ref a7, .ref a8, .ref a9, .ref a10, .ref a11]))]) [0] rfl) 9 0 rfl rfl rfl hl.1 rfl (Nat.le_of_ble_eq_true rfl) dX9_likely_2 ?_
  refine lv_if_eq (tgt := 16) hx hb dX9_likely_5 (by decide) (fun _ => ?_) (fun c9 => absurd (by decide) c9)
  refine lv_bipush (v := (-2)) hx hb dX9_likely_16 (by decide) ?_
  exact W.iret hx hb hr (fun t ht _ => ⟨rfl, ht⟩) (fun _ h => by cases h) dX9_likely_18
set_option maxHeartbeats 4000000 in
set_option maxRecDepth 100000 in
theorem kX10_likely_0 (l : Launch) (D : va_G) (cB cI cJ cZ cT cR : ClassId) (a0 a1 a2 a3 a4 a5 a6 a7 a8 a9 a10 a11 a12 a13 a14 a15 a16 a17 a18 : Nat) (x0 : Int32) (sz : Nat) : Met l yX10_likely (uc yX10_likely cX10_likely 8 (some .int)) (rmL 3 0 0) (va_Pc [.ref a0, .int x0] (MPre D [(cB, .byte), (cI, .int), (cJ, .long), (cZ, .boolean), (cT, .object RX7), (cR, .object RX3)] [(a0, .inr (10, [.int 0, .ref a2, .ref a3, .ref a4, .ref a5, .ref a6, .int 0, .int 0, .int 0, .int 0, .int 0, .long 0, .int 0, .int 0, .int 0, .int (-1), .ref a7, .ref a1, .ref a8, .ref a9, .ref a10, .ref a11, .ref a12, .ref a13, .int 0, .int 0, .ref a14, .ref a15, .int 0, .int 0, .int 0, .ref a16, .ref a17, .int 0, .int 0, .int 0, .int 0, .int 0, .ref a18, .int 0, .int 0, .int 0])), (a1, .inl (cI, 30, .inl (fun _ => 0)))] sz)) (va_Qi (fun (r : Int32) (_ : Unit) => r = (-2)) (MB D [(cB, .byte), (cI, .int), (cJ, .long), (cZ, .boolean), (cT, .object RX7), (cR, .object RX3)] [(a0, .inr (10, [.int 0, .ref a2, .ref a3, .ref a4, .ref a5, .ref a6, .int 0, .int 0, .int 0, .int 0, .int 0, .long 0, .int 0, .int 0, .int 0, .int (-1), .ref a7, .ref a1, .ref a8, .ref a9, .ref a10, .ref a11, .ref a12, .ref a13, .int 0, .int 0, .ref a14, .ref a15, .int 0, .int 0, .int 0, .ref a16, .ref a17, .int 0, .int 0, .int 0, .int 0, .int 0, .ref a18, .int 0, .int 0, .int 0])), (a1, .inl (cI, 30, .inl (fun _ => 0)))] sz (fun (u : Unit) => [(a0, .inr (10, [.int 0, .ref a2, .ref a3, .ref a4, .ref a5, .ref a6, .int 0, .int 0, .int 0, .int 0, .int 0, .long 0, .int 0, .int 0, .int 0, .int (-1), .ref a7, .ref a1, .ref a8, .ref a9, .ref a10, .ref a11, .ref a12, .ref a13, .int 0, .int 0, .ref a14, .ref a15, .int 0, .int 0, .int 0, .ref a16, .ref a17, .int 0, .int 0, .int 0, .int 0, .int 0, .ref a18, .int 0, .int 0, .int 0])), (a1, .inl (cI, 30, .inl (fun _ => 0)))])) (va_A [(a0, .inr (10, [.int 0, .ref a2, .ref a3, .ref a4, .ref a5, .ref a6, .int 0, .int 0, .int 0, .int 0, .int 0, .long 0, .int 0, .int 0, .int 0, .int (-1), .ref a7, .ref a1, .ref a8, .ref a9, .ref a10, .ref a11, .ref a12, .ref a13, .int 0, .int 0, .ref a14, .ref a15, .int 0, .int 0, .int 0, .ref a16, .ref a17, .int 0, .int 0, .int 0, .int 0, .int 0, .ref a18, .int 0, .int 0, .int 0])), (a1, .inl (cI, 30, .inl (fun _ => 0)))] sz)) 0 0 (va_A [(a0, .inr (10, [.int 0, .ref a2, .ref a3, .ref a4, .ref a5, .ref a6, .int 0, .int 0, .int 0, .int 0, .int 0, .long 0, .int 0, .int 0, .int 0, .int (-1), .ref a7, .ref a1, .ref a8, .ref a9, .ref a10, .ref a11, .ref a12, .ref a13, .int 0, .int 0, .ref a14, .ref a15, .int 0, .int 0, .int 0, .ref a16, .ref a17, .int 0, .int 0, .int 0, .int 0, .int 0, .ref a18, .int 0, .int 0, .int 0])), (a1, .inl (cI, 30, .inl (fun _ => 0)))] sz) := by
  refine pm (by decide) (Nat.le_of_ble_eq_true rfl) ?_
  intro p e s m below meth c ls hx hb hr hml hown hlk hnm hts hv hl
  have hown : s.vm.findClass RX10 = some m.cls := hown
  have hl : lv_has ls 8 [(0, .ref a0), (1, .int x0)] := hl
  obtain ⟨hsz, hP, hK, hD0, hE⟩ := hv
  subst hsz
  have hD := hD0.self (sz := s.heap.size)
  obtain ⟨AA, hAe⟩ : ∃ AA, AA = va_A [(a0, .inr (10, [.int 0, .ref a2, .ref a3, .ref a4, .ref a5, .ref a6, .int 0, .int 0, .int 0, .int 0, .int 0, .long 0, .int 0, .int 0, .int 0, .int (-1), .ref a7, .ref a1, .ref a8, .ref a9, .ref a10, .ref a11, .ref a12, .ref a13, .int 0, .int 0, .ref a14, .ref a15, .int 0, .int 0, .int 0, .ref a16, .ref a17, .int 0, .int 0, .int 0, .int 0, .int 0, .ref a18, .int 0, .int 0, .int 0])), (a1, .inl (cI, 30, .inl (fun _ => 0)))] s.heap.size := ⟨_, rfl⟩
  rw [← hAe] at hD
  have hA : ∀ q : Nat, s.heap.size ≤ q → AA q := fun q h => by rw [hAe]; exact Or.inr h
  have hS : va_S AA s.heap s.heap [] := va_S.rf
  obtain ⟨-, hAOT, hAOR, hAOI⟩ := id hE
  refine lv_aload_n hx hb dX10_likely_0 rfl (lv_at hl 0 rfl) ?_
  refine lv_iconst (v := 0) hx hb dX10_likely_1 (by decide) ?_
  refine va_put (D := D) (ci := 10) (v := .int 0) (ty := .int) (C := RX10) (T := TX10) (N := 42) hx hb hts (fun w h => uc_in w (inX10 w h)) tyX10 tyX10_ok nmX10 hown hK hP hD hS 0 rfl rfl 0 (by decide) (hts _ (uc_in _ q_f1188)) (fun _ h9 => h9) rfl (by decide +kernel) rfl rfl (Nat.le_of_ble_eq_true rfl) dX10_likely_2 (fun H locs hP hD hS => ?_)
  have hP : va_P D vwCl [(a0, .inr (10, [.int 0, .ref a2, .ref a3, .ref a4, .ref a5, .ref a6, .int 0, .int 0, .int 0, .int 0, .int 0, .long 0, .int 0, .int 0, .int 0, .int (-1), .ref a7, .ref a1, .ref a8, .ref a9, .ref a10, .ref a11, .ref a12, .ref a13, .int 0, .int 0, .ref a14, .ref a15, .int 0, .int 0, .int 0, .ref a16, .ref a17, .int 0, .int 0, .int 0, .int 0, .int 0, .ref a18, .int 0, .int 0, .int 0])), (a1, .inl (cI, 30, .inl (fun _ => 0)))] H := hP
  have hD : va_D AA [(a0, .inr (10, [.int 0, .ref a2, .ref a3, .ref a4, .ref a5, .ref a6, .int 0, .int 0, .int 0, .int 0, .int 0, .long 0, .int 0, .int 0, .int 0, .int (-1), .ref a7, .ref a1, .ref a8, .ref a9, .ref a10, .ref a11, .ref a12, .ref a13, .int 0, .int 0, .ref a14, .ref a15, .int 0, .int 0, .int 0, .ref a16, .ref a17, .int 0, .int 0, .int 0, .int 0, .int 0, .ref a18, .int 0, .int 0, .int 0])), (a1, .inl (cI, 30, .inl (fun _ => 0)))] := hD
  refine lv_aload_n hx hb dX10_likely_5 rfl (lv_at hl 0 rfl) ?_
  refine lv_iload_n hx hb dX10_likely_6 rfl (lv_at hl 1 rfl) ?_
  refine lv_i2l (v := x0.toInt64) hx hb dX10_likely_7 rfl ?_
  refine cvR (n := 1) (As := [.long x0.toInt64]) (rest := []) ⟨hx, hb, hml, hown, hts⟩ uc_in (kX10_isDay_0 l D cB cI cJ cZ cT cR a0 a1 a2 a3 a4 a5 a6 a7 a8 a9 a10 a11 a12 a13 a14 a15 a16 a17 a18 x0) q_m1473 q_n1475 q_p73 q_i11 q_c1476 (by decide +kernel) ⟨(Nat.le_of_ble_eq_true rfl), (Nat.le_of_ble_eq_true rfl)⟩ ⟨(Nat.le_of_ble_eq_true rfl), (Nat.le_of_ble_eq_true rfl)⟩ hK (hP.sub (ws' := [(a0, .inr (10, [.int 0, .ref a2, .ref a3, .ref a4, .ref a5, .ref a6, .int 0, .int 0, .int 0, .int 0, .int 0, .long 0, .int 0, .int 0, .int 0, .int (-1), .ref a7, .ref a1, .ref a8, .ref a9, .ref a10, .ref a11, .ref a12, .ref a13, .int 0, .int 0, .ref a14, .ref a15, .int 0, .int 0, .int 0, .ref a16, .ref a17, .int 0, .int 0, .int 0, .int 0, .int 0, .ref a18, .int 0, .int 0, .int 0])), (a1, .inl (cI, 30, .inl (fun _ => 0)))]) [0, 1] rfl) 10 0 rfl rfl rfl hl.1 rfl (Nat.le_of_ble_eq_true rfl) dX10_likely_8 ?_
  refine lv_if_ne (tgt := 17) hx hb dX10_likely_11 (by decide) (fun c9 => absurd (by decide) c9) (fun _ => ?_)
  refine lv_bipush (v := (-2)) hx hb dX10_likely_14 (by decide) ?_
  subst hAe
  have hP9 := hP.sub (ws' := [(a0, .inr (10, [.int 0, .ref a2, .ref a3, .ref a4, .ref a5, .ref a6, .int 0, .int 0, .int 0, .int 0, .int 0, .long 0, .int 0, .int 0, .int 0, .int (-1), .ref a7, .ref a1, .ref a8, .ref a9, .ref a10, .ref a11, .ref a12, .ref a13, .int 0, .int 0, .ref a14, .ref a15, .int 0, .int 0, .int 0, .ref a16, .ref a17, .int 0, .int 0, .int 0, .int 0, .int 0, .ref a18, .int 0, .int 0, .int 0])), (a1, .inl (cI, 30, .inl (fun _ => 0)))]) [0, 1] rfl
  have hD9 := hD.sub (ws' := [(a0, .inr (10, [.int 0, .ref a2, .ref a3, .ref a4, .ref a5, .ref a6, .int 0, .int 0, .int 0, .int 0, .int 0, .long 0, .int 0, .int 0, .int 0, .int (-1), .ref a7, .ref a1, .ref a8, .ref a9, .ref a10, .ref a11, .ref a12, .ref a13, .int 0, .int 0, .ref a14, .ref a15, .int 0, .int 0, .int 0, .ref a16, .ref a17, .int 0, .int 0, .int 0, .int 0, .int 0, .ref a18, .int 0, .int 0, .int 0])), (a1, .inl (cI, 30, .inl (fun _ => 0)))]) [0, 1] rfl rfl
  exact W.iret hx hb hr (fun t ht hW => ⟨⟨(-2), (), rfl, rfl, by rw [ht]; exact hP9, va_K.moved hW.alike hK, hD9⟩, hS.F ht⟩) hS.2.2 dX10_likely_16
set_option maxHeartbeats 4000000 in
set_option maxRecDepth 100000 in
theorem kX9_likely_1 (l : Launch) (D : va_G) (cB cI cJ cZ cT cR : ClassId) (a0 a1 a2 a3 a4 a5 a6 a7 a8 a9 a10 a11 a12 a13 : Nat) (x0 : Int32) (hy0 : ¬ (x0 < 0)) : Met l yX9_likely (uc yX9_likely cX9_likely 2 (some .int)) (rmL 2 0 0) (va_Pc [.ref a0, .int x0] (RPre D [(cB, .byte), (cI, .int), (cJ, .long), (cZ, .boolean), (cT, .object RX7), (cR, .object RX3)] [(a0, .inr (9, [.ref a2, .ref a3, .ref a4, .ref a5, .int 0, .ref a1, .ref a6, .ref a7, .ref a8, .ref a9, .ref a10, .ref a11])), (a1, .inr (5, [.int 0, .int 0, .ref a12, .ref a13]))])) (QcRead (-2)) 0 0 (fun _ => False) := by
  refine pm (by decide) (Nat.le_of_ble_eq_true rfl) ?_
  intro p e s m below meth c ls hx hb hr hml hown hlk hnm hts hv hl
  have hown : s.vm.findClass RX9 = some m.cls := hown
  have hl : lv_has ls 2 [(0, .ref a0), (1, .int x0)] := hl
  obtain ⟨hP, hK⟩ := hv
  refine lv_aload_n hx hb dX9_likely_0 rfl (lv_at hl 0 rfl) ?_
  refine lv_iload_n hx hb dX9_likely_1 rfl (lv_at hl 1 rfl) ?_
  refine cvR (n := 1) (As := [.int x0]) (rest := []) ⟨hx, hb, hml, hown, hts⟩ uc_in (kX9_isDay_1 l D cB cI cJ cZ cT cR a0 a1 a2 a3 a4 a5 a6 a7 a8 a9 a10 a11 a12 a13 x0 hy0) q_m597 q_n599 q_p12 q_i1 q_c600 (by decide +kernel) ⟨(Nat.le_of_ble_eq_true rfl), (Nat.le_of_ble_eq_true rfl)⟩ ⟨(Nat.le_of_ble_eq_true rfl), (Nat.le_of_ble_eq_true rfl)⟩ hK (hP.sub (ws' := [(a0, .inr (9, [.ref a2, .ref a3, .ref a4, .ref a5, .int 0, .ref a1, .ref a6, .ref a7, .ref a8, .ref a9, .ref a10, .ref a11])), (a1, .inr (5, [.int 0, .int 0, .ref a12, .ref a13]))]) [0, 1] rfl) 9 0 rfl rfl rfl hl.1 rfl (Nat.le_of_ble_eq_true rfl) dX9_likely_2 ?_
  refine lv_if_eq (tgt := 16) hx hb dX9_likely_5 (by decide) (fun _ => ?_) (fun c9 => absurd (by decide) c9)
  refine lv_bipush (v := (-2)) hx hb dX9_likely_16 (by decide) ?_
  exact W.iret hx hb hr (fun t ht _ => ⟨rfl, ht⟩) (fun _ h => by cases h) dX9_likely_18
set_option maxHeartbeats 4000000 in
set_option maxRecDepth 100000 in
theorem law_case_56 {p : Program} {l : Launch} {e : Env} {s : State} {m : MethodId} {below : List Frame} {meth : Method} {c : Code} {D : va_G} {cB cI cJ cZ cT cR : ClassId} {b : Nat} {xs : Nat → Int32} {A B : Nat → Nat} {H : Heap} {locs : List Loc} {ls : Array Slot} (C0 : lw_At p s m meth c b 6 xs) (hE : EX s) (hK : va_K D vwCl [(cB, .byte), (cI, .int), (cJ, .long), (cZ, .boolean), (cT, .object RX7), (cR, .object RX3)] s) (hP : va_P D vwCl (fwAll cB cI cJ cZ cT cR A B) H) (hD : va_D (fun q : Nat => s.heap.size ≤ q) (fwAll cB cI cJ cZ cT cR A B)) (hS : va_S (fun q : Nat => s.heap.size ≤ q) s.heap H locs) (hl : lv_has ls 4 [(3, .int 0), (2, .ref (B 0)), (1, .ref (A 0)), (0, .ref b)]) : W p l e room_1 s m #[Value.ref b] below meth c H locs 180 4779 (lw_Z below #[Value.ref b] s) (F0 m 1804 ls []) := by
  obtain ⟨hx, hb, hr, hml, hown, hts, hX, hbl, hlocks, hgv⟩ := id C0
  have hown : s.vm.findClass RL = some m.cls := hown
  have hb : c.code = cL_law := hb
  have hA : ∀ q : Nat, s.heap.size ≤ q → (fun q : Nat => s.heap.size ≤ q) q := fun _ h => h
  have hbA : ¬ (fun q : Nat => s.heap.size ≤ q) b := Nat.not_le.mpr hbl
  have hP := hP.sub (ws' := [((A 0), .inr (9, [.ref (A 1), .ref (A 3), .ref (A 12), .ref (A 21), .int 0, .ref (A 49), .ref (A 51), .ref (A 60), .ref (A 61), .ref (A 62), .ref (A 63), .ref (A 64)])), ((A 49), .inr (5, [.int 0, .int 0, .ref (A 65), .ref (A 50)])), ((B 0), .inr (10, [.int 0, .ref (B 1), .ref (B 2), .ref (B 3), .ref (B 4), .ref (B 5), .int 0, .int 0, .int 0, .int 0, .int 0, .long 0, .int 0, .int 0, .int 0, .int (-1), .ref (B 6), .ref (B 7), .ref (B 8), .ref (B 9), .ref (B 10), .ref (B 11), .ref (B 12), .ref (B 13), .int 0, .int 0, .ref (B 14), .ref (B 15), .int 0, .int 0, .int 0, .ref (B 16), .ref (B 17), .int 0, .int 0, .int 0, .int 0, .int 0, .ref (B 18), .int 0, .int 0, .int 0])), ((B 7), .inl (cI, 30, .inl (fun _ => 0)))]) [0, 49, 60, 67] rfl
  have hD := hD.sub (ws' := [((A 0), .inr (9, [.ref (A 1), .ref (A 3), .ref (A 12), .ref (A 21), .int 0, .ref (A 49), .ref (A 51), .ref (A 60), .ref (A 61), .ref (A 62), .ref (A 63), .ref (A 64)])), ((A 49), .inr (5, [.int 0, .int 0, .ref (A 65), .ref (A 50)])), ((B 0), .inr (10, [.int 0, .ref (B 1), .ref (B 2), .ref (B 3), .ref (B 4), .ref (B 5), .int 0, .int 0, .int 0, .int 0, .int 0, .long 0, .int 0, .int 0, .int 0, .int (-1), .ref (B 6), .ref (B 7), .ref (B 8), .ref (B 9), .ref (B 10), .ref (B 11), .ref (B 12), .ref (B 13), .int 0, .int 0, .ref (B 14), .ref (B 15), .int 0, .int 0, .int 0, .ref (B 16), .ref (B 17), .int 0, .int 0, .int 0, .int 0, .int 0, .ref (B 18), .int 0, .int 0, .int 0])), ((B 7), .inl (cI, 30, .inl (fun _ => 0)))]) [0, 49, 60, 67] rfl rfl
  refine lv_aload_n hx hb dL_law_1804 rfl (lv_at hl 2 rfl) ?_
  refine lv_aload_n hx hb dL_law_1805 rfl (lv_at hl 3 rfl) ?_
  refine lv_iload_n hx hb dL_law_1806 rfl (lv_at hl 0 rfl) ?_
  refine lv_iconst (v := 1) hx hb dL_law_1807 (by decide) ?_
  refine lv_iadd hx hb dL_law_1808 ?_
  refine pv_i (v := 1) (by decide) ?_
  refine va_sld hx hb hX hbl hbA hS (vp_in_iff.mpr ⟨by decide, by decide⟩) dL_law_1809 ?_
  refine lv_topi (fun p1 ep1 => ?_)
  by_cases hc1 : p1 < 0
  · refine cvR (n := 1) (As := [.int p1]) (rest := []) ⟨hx, hb, hml, hown, hts⟩ (fun _ h => uw_in h) (kX9_likely_0 l D cB cI cJ cZ cT cR (A 0) (A 1) (A 3) (A 12) (A 21) (A 49) (A 51) (A 60) (A 61) (A 62) (A 63) (A 64) p1 hc1) q_m1068 q_n1069 q_e1070 q_i1 q_c1071 (by decide +kernel) ⟨(Nat.le_of_ble_eq_true rfl), (Nat.le_of_ble_eq_true rfl)⟩ ⟨(Nat.le_of_ble_eq_true rfl), (Nat.le_of_ble_eq_true rfl)⟩ hK (hP.sub (ws' := [((A 0), .inr (9, [.ref (A 1), .ref (A 3), .ref (A 12), .ref (A 21), .int 0, .ref (A 49), .ref (A 51), .ref (A 60), .ref (A 61), .ref (A 62), .ref (A 63), .ref (A 64)]))]) [0] rfl) 9 0 rfl rfl rfl hl.1 rfl (Nat.le_of_ble_eq_true rfl) dL_law_1810 ?_
    refine lv_aload_n hx hb dL_law_1813 rfl (lv_at hl 1 rfl) ?_
    refine lv_aload_n hx hb dL_law_1814 rfl (lv_at hl 3 rfl) ?_
    refine lv_iload_n hx hb dL_law_1815 rfl (lv_at hl 0 rfl) ?_
    refine lv_iconst (v := 1) hx hb dL_law_1816 (by decide) ?_
    refine lv_iadd hx hb dL_law_1817 ?_
    refine pv_i (v := 1) (by decide) ?_
    refine va_sld hx hb hX hbl hbA hS (vp_in_iff.mpr ⟨by decide, by decide⟩) dL_law_1818 ?_
    refine pv_i (v := p1) ep1.symm ?_
    refine cvM (n := 1) (As := [.int p1]) (rest := [.int (-2)]) (wr := [((A 0), .inr (9, [.ref (A 1), .ref (A 3), .ref (A 12), .ref (A 21), .int 0, .ref (A 49), .ref (A 51), .ref (A 60), .ref (A 61), .ref (A 62), .ref (A 63), .ref (A 64)])), ((A 49), .inr (5, [.int 0, .int 0, .ref (A 65), .ref (A 50)]))]) ⟨hx, hb, hml, hown, hts⟩ (fun _ h => uw_in h) (kX10_likely_0 l D cB cI cJ cZ cT cR (B 0) (B 7) (B 1) (B 2) (B 3) (B 4) (B 5) (B 6) (B 8) (B 9) (B 10) (B 11) (B 12) (B 13) (B 14) (B 15) (B 16) (B 17) (B 18) p1 H.size) q_m1837 q_n1838 q_e1839 q_i11 q_c1840 (by decide +kernel) ⟨(Nat.le_of_ble_eq_true rfl), (Nat.le_of_ble_eq_true rfl)⟩ ⟨(Nat.le_of_ble_eq_true rfl), (Nat.le_of_ble_eq_true rfl)⟩ hE hK hP hD hS hA [2, 3] [0, 1] rfl rfl rfl rfl (by decide) 10 0 rfl rfl rfl hl.1 rfl (Nat.le_of_ble_eq_true rfl) dL_law_1819 (fun r9 u H locs hpo hP hD hS => ?_)
    have hP : va_P D vwCl [((A 0), .inr (9, [.ref (A 1), .ref (A 3), .ref (A 12), .ref (A 21), .int 0, .ref (A 49), .ref (A 51), .ref (A 60), .ref (A 61), .ref (A 62), .ref (A 63), .ref (A 64)])), ((A 49), .inr (5, [.int 0, .int 0, .ref (A 65), .ref (A 50)])), ((B 0), .inr (10, [.int 0, .ref (B 1), .ref (B 2), .ref (B 3), .ref (B 4), .ref (B 5), .int 0, .int 0, .int 0, .int 0, .int 0, .long 0, .int 0, .int 0, .int 0, .int (-1), .ref (B 6), .ref (B 7), .ref (B 8), .ref (B 9), .ref (B 10), .ref (B 11), .ref (B 12), .ref (B 13), .int 0, .int 0, .ref (B 14), .ref (B 15), .int 0, .int 0, .int 0, .ref (B 16), .ref (B 17), .int 0, .int 0, .int 0, .int 0, .int 0, .ref (B 18), .int 0, .int 0, .int 0])), ((B 7), .inl (cI, 30, .inl (fun _ => 0)))] H := hP
    have hD : va_D (fun q : Nat => s.heap.size ≤ q) [((A 0), .inr (9, [.ref (A 1), .ref (A 3), .ref (A 12), .ref (A 21), .int 0, .ref (A 49), .ref (A 51), .ref (A 60), .ref (A 61), .ref (A 62), .ref (A 63), .ref (A 64)])), ((A 49), .inr (5, [.int 0, .int 0, .ref (A 65), .ref (A 50)])), ((B 0), .inr (10, [.int 0, .ref (B 1), .ref (B 2), .ref (B 3), .ref (B 4), .ref (B 5), .int 0, .int 0, .int 0, .int 0, .int 0, .long 0, .int 0, .int 0, .int 0, .int (-1), .ref (B 6), .ref (B 7), .ref (B 8), .ref (B 9), .ref (B 10), .ref (B 11), .ref (B 12), .ref (B 13), .int 0, .int 0, .ref (B 14), .ref (B 15), .int 0, .int 0, .int 0, .ref (B 16), .ref (B 17), .int 0, .int 0, .int 0, .int 0, .int 0, .ref (B 18), .int 0, .int 0, .int 0])), ((B 7), .inl (cI, 30, .inl (fun _ => 0)))] := hD
    refine W.cs (cells' := 180) (slots' := 4779) rfl rfl ?_
    have hpo : r9 = (-2) := hpo
    subst hpo
    refine lv_icmp_eq (tgt := 2362) hx hb dL_law_1822 (by decide) (fun _ => ?_) (fun c9 => absurd (by decide) c9)
    exact law_end C0 hS (Nat.le_of_ble_eq_true rfl) (Nat.le_of_ble_eq_true rfl) ls hl
  · refine cvR (n := 1) (As := [.int p1]) (rest := []) ⟨hx, hb, hml, hown, hts⟩ (fun _ h => uw_in h) (kX9_likely_1 l D cB cI cJ cZ cT cR (A 0) (A 49) (A 1) (A 3) (A 12) (A 21) (A 51) (A 60) (A 61) (A 62) (A 63) (A 64) (A 65) (A 50) p1 hc1) q_m1068 q_n1069 q_e1070 q_i1 q_c1071 (by decide +kernel) ⟨(Nat.le_of_ble_eq_true rfl), (Nat.le_of_ble_eq_true rfl)⟩ ⟨(Nat.le_of_ble_eq_true rfl), (Nat.le_of_ble_eq_true rfl)⟩ hK (hP.sub (ws' := [((A 0), .inr (9, [.ref (A 1), .ref (A 3), .ref (A 12), .ref (A 21), .int 0, .ref (A 49), .ref (A 51), .ref (A 60), .ref (A 61), .ref (A 62), .ref (A 63), .ref (A 64)])), ((A 49), .inr (5, [.int 0, .int 0, .ref (A 65), .ref (A 50)]))]) [0, 1] rfl) 9 0 rfl rfl rfl hl.1 rfl (Nat.le_of_ble_eq_true rfl) dL_law_1810 ?_
    refine lv_aload_n hx hb dL_law_1813 rfl (lv_at hl 1 rfl) ?_
    refine lv_aload_n hx hb dL_law_1814 rfl (lv_at hl 3 rfl) ?_
    refine lv_iload_n hx hb dL_law_1815 rfl (lv_at hl 0 rfl) ?_
    refine lv_iconst (v := 1) hx hb dL_law_1816 (by decide) ?_
    refine lv_iadd hx hb dL_law_1817 ?_
    refine pv_i (v := 1) (by decide) ?_
    refine va_sld hx hb hX hbl hbA hS (vp_in_iff.mpr ⟨by decide, by decide⟩) dL_law_1818 ?_
    refine pv_i (v := p1) ep1.symm ?_
    refine cvM (n := 1) (As := [.int p1]) (rest := [.int (-2)]) (wr := [((A 0), .inr (9, [.ref (A 1), .ref (A 3), .ref (A 12), .ref (A 21), .int 0, .ref (A 49), .ref (A 51), .ref (A 60), .ref (A 61), .ref (A 62), .ref (A 63), .ref (A 64)])), ((A 49), .inr (5, [.int 0, .int 0, .ref (A 65), .ref (A 50)]))]) ⟨hx, hb, hml, hown, hts⟩ (fun _ h => uw_in h) (kX10_likely_0 l D cB cI cJ cZ cT cR (B 0) (B 7) (B 1) (B 2) (B 3) (B 4) (B 5) (B 6) (B 8) (B 9) (B 10) (B 11) (B 12) (B 13) (B 14) (B 15) (B 16) (B 17) (B 18) p1 H.size) q_m1837 q_n1838 q_e1839 q_i11 q_c1840 (by decide +kernel) ⟨(Nat.le_of_ble_eq_true rfl), (Nat.le_of_ble_eq_true rfl)⟩ ⟨(Nat.le_of_ble_eq_true rfl), (Nat.le_of_ble_eq_true rfl)⟩ hE hK hP hD hS hA [2, 3] [0, 1] rfl rfl rfl rfl (by decide) 10 0 rfl rfl rfl hl.1 rfl (Nat.le_of_ble_eq_true rfl) dL_law_1819 (fun r9 u H locs hpo hP hD hS => ?_)
    have hP : va_P D vwCl [((A 0), .inr (9, [.ref (A 1), .ref (A 3), .ref (A 12), .ref (A 21), .int 0, .ref (A 49), .ref (A 51), .ref (A 60), .ref (A 61), .ref (A 62), .ref (A 63), .ref (A 64)])), ((A 49), .inr (5, [.int 0, .int 0, .ref (A 65), .ref (A 50)])), ((B 0), .inr (10, [.int 0, .ref (B 1), .ref (B 2), .ref (B 3), .ref (B 4), .ref (B 5), .int 0, .int 0, .int 0, .int 0, .int 0, .long 0, .int 0, .int 0, .int 0, .int (-1), .ref (B 6), .ref (B 7), .ref (B 8), .ref (B 9), .ref (B 10), .ref (B 11), .ref (B 12), .ref (B 13), .int 0, .int 0, .ref (B 14), .ref (B 15), .int 0, .int 0, .int 0, .ref (B 16), .ref (B 17), .int 0, .int 0, .int 0, .int 0, .int 0, .ref (B 18), .int 0, .int 0, .int 0])), ((B 7), .inl (cI, 30, .inl (fun _ => 0)))] H := hP
    have hD : va_D (fun q : Nat => s.heap.size ≤ q) [((A 0), .inr (9, [.ref (A 1), .ref (A 3), .ref (A 12), .ref (A 21), .int 0, .ref (A 49), .ref (A 51), .ref (A 60), .ref (A 61), .ref (A 62), .ref (A 63), .ref (A 64)])), ((A 49), .inr (5, [.int 0, .int 0, .ref (A 65), .ref (A 50)])), ((B 0), .inr (10, [.int 0, .ref (B 1), .ref (B 2), .ref (B 3), .ref (B 4), .ref (B 5), .int 0, .int 0, .int 0, .int 0, .int 0, .long 0, .int 0, .int 0, .int 0, .int (-1), .ref (B 6), .ref (B 7), .ref (B 8), .ref (B 9), .ref (B 10), .ref (B 11), .ref (B 12), .ref (B 13), .int 0, .int 0, .ref (B 14), .ref (B 15), .int 0, .int 0, .int 0, .ref (B 16), .ref (B 17), .int 0, .int 0, .int 0, .int 0, .int 0, .ref (B 18), .int 0, .int 0, .int 0])), ((B 7), .inl (cI, 30, .inl (fun _ => 0)))] := hD
    refine W.cs (cells' := 180) (slots' := 4779) rfl rfl ?_
    have hpo : r9 = (-2) := hpo
    subst hpo
    refine lv_icmp_eq (tgt := 2362) hx hb dL_law_1822 (by decide) (fun _ => ?_) (fun c9 => absurd (by decide) c9)
    exact law_end C0 hS (Nat.le_of_ble_eq_true rfl) (Nat.le_of_ble_eq_true rfl) ls hl
set_option maxHeartbeats 4000000 in
set_option maxRecDepth 100000 in
theorem kX9_actOnLate_0 (l : Launch) (D : va_G) (cB cI cJ cZ cT cR : ClassId) (a0 a1 a2 a3 a4 a5 a6 a7 a8 a9 a10 a11 : Nat) (x0 : Int32) (x1 : Int32) (hy0 : x0 < 0) : Met l yX9_actOnLate (uc yX9_actOnLate cX9_actOnLate 5 (some .int)) (rmL 2 0 0) (va_Pc [.ref a0, .int 0, .int x0, .int x1] (RPre D [(cB, .byte), (cI, .int), (cJ, .long), (cZ, .boolean), (cT, .object RX7), (cR, .object RX3)] [(a0, .inr (9, [.ref a1, .ref a2, .ref a3, .ref a4, .int 0, .ref a5, .ref a6, .ref a7, .ref a8, .ref a9, .ref a10, .ref a11]))])) (QcRead (-1000)) 0 0 (fun _ => False) := by
  refine pm (by decide) (Nat.le_of_ble_eq_true rfl) ?_
  intro p e s m below meth c ls hx hb hr hml hown hlk hnm hts hv hl
  have hown : s.vm.findClass RX9 = some m.cls := hown
  have hl : lv_has ls 5 [(0, .ref a0), (1, .int 0), (2, .int x0), (3, .int x1)] := hl
  obtain ⟨hP, hK⟩ := hv
  refine lv_aload_n hx hb dX9_actOnLate_0 rfl (lv_at hl 0 rfl) ?_
  refine lv_iload_n hx hb dX9_actOnLate_1 rfl (lv_at hl 2 rfl) ?_
  refine cvR (n := 1) (As := [.int x0]) (rest := []) ⟨hx, hb, hml, hown, hts⟩ uc_in (kX9_isClock_0 l D cB cI cJ cZ cT cR a0 a1 a2 a3 a4 a5 a6 a7 a8 a9 a10 a11 x0 hy0) q_m589 q_n591 q_p11 q_i1 q_c592 (by decide +kernel) ⟨(Nat.le_of_ble_eq_true rfl), (Nat.le_of_ble_eq_true rfl)⟩ ⟨(Nat.le_of_ble_eq_true rfl), (Nat.le_of_ble_eq_true rfl)⟩ hK (hP.sub (ws' := [(a0, .inr (9, [.ref a1, .ref a2, .ref a3, .ref a4, .int 0, .ref a5, .ref a6, .ref a7, .ref a8, .ref a9, .ref a10, .ref a11]))]) [0] rfl) 9 0 rfl rfl rfl hl.1 rfl (Nat.le_of_ble_eq_true rfl) dX9_actOnLate_2 ?_
  refine lv_if_eq (tgt := 16) hx hb dX9_actOnLate_5 (by decide) (fun _ => ?_) (fun c9 => absurd (by decide) c9)
  refine lv_sipush (v := (-1000)) hx hb dX9_actOnLate_16 (by decide) ?_
  exact W.iret hx hb hr (fun t ht _ => ⟨rfl, ht⟩) (fun _ h => by cases h) dX9_actOnLate_19
set_option maxHeartbeats 4000000 in
set_option maxRecDepth 100000 in
theorem kX9_mend_0 (l : Launch) (D : va_G) (cB cI cJ cZ cT cR : ClassId) (a0 a1 a2 a3 a4 a5 a6 a7 a8 a9 a10 a11 : Nat) (x0 : Int32) (x1 : Int32) (hy0 : x0 < 0) : Met l yX9_mend (uc yX9_mend cX9_mend 3 (some .int)) (rmL 3 0 0) (va_Pc [.ref a0, .int x0, .int x1] (RPre D [(cB, .byte), (cI, .int), (cJ, .long), (cZ, .boolean), (cT, .object RX7), (cR, .object RX3)] [(a0, .inr (9, [.ref a1, .ref a2, .ref a3, .ref a4, .int 0, .ref a5, .ref a6, .ref a7, .ref a8, .ref a9, .ref a10, .ref a11]))])) (QcRead (-1000)) 0 0 (fun _ => False) := by
  refine pm (by decide) (Nat.le_of_ble_eq_true rfl) ?_
  intro p e s m below meth c ls hx hb hr hml hown hlk hnm hts hv hl
  have hown : s.vm.findClass RX9 = some m.cls := hown
  have hl : lv_has ls 3 [(0, .ref a0), (1, .int x0), (2, .int x1)] := hl
  obtain ⟨hP, hK⟩ := hv
  refine lv_aload_n hx hb dX9_mend_0 rfl (lv_at hl 0 rfl) ?_
  refine lv_iconst (v := 0) hx hb dX9_mend_1 (by decide) ?_
  refine lv_iload_n hx hb dX9_mend_2 rfl (lv_at hl 1 rfl) ?_
  refine lv_iload_n hx hb dX9_mend_3 rfl (lv_at hl 2 rfl) ?_
  refine cvR (n := 3) (As := [.int 0, .int x0, .int x1]) (rest := []) ⟨hx, hb, hml, hown, hts⟩ uc_in (kX9_actOnLate_0 l D cB cI cJ cZ cT cR a0 a1 a2 a3 a4 a5 a6 a7 a8 a9 a10 a11 x0 x1 hy0) q_m1076 q_n1078 q_p46 q_i1 q_c1079 (by decide +kernel) ⟨(Nat.le_of_ble_eq_true rfl), (Nat.le_of_ble_eq_true rfl)⟩ ⟨(Nat.le_of_ble_eq_true rfl), (Nat.le_of_ble_eq_true rfl)⟩ hK (hP.sub (ws' := [(a0, .inr (9, [.ref a1, .ref a2, .ref a3, .ref a4, .int 0, .ref a5, .ref a6, .ref a7, .ref a8, .ref a9, .ref a10, .ref a11]))]) [0] rfl) 9 0 rfl rfl rfl hl.1 rfl (Nat.le_of_ble_eq_true rfl) dX9_mend_4 ?_
  exact W.iret hx hb hr (fun t ht _ => ⟨rfl, ht⟩) (fun _ h => by cases h) dX9_mend_7
set_option maxHeartbeats 4000000 in
set_option maxRecDepth 100000 in
theorem kX10_mend_0 (l : Launch) (D : va_G) (cB cI cJ cZ cT cR : ClassId) (a0 a1 a2 a3 a4 a5 a6 a7 a8 a9 a10 a11 a12 a13 a14 a15 a16 a17 a18 : Nat) (x0 : Int32) (x1 : Int32) (sz : Nat) : Met l yX10_mend (uc yX10_mend cX10_mend 3 (some .int)) (rmL 3 0 0) (va_Pc [.ref a0, .int x0, .int x1] (MPre D [(cB, .byte), (cI, .int), (cJ, .long), (cZ, .boolean), (cT, .object RX7), (cR, .object RX3)] [(a0, .inr (10, [.int 0, .ref a2, .ref a3, .ref a4, .ref a5, .ref a6, .int 0, .int 0, .int 0, .int 0, .int 0, .long 0, .int 0, .int 0, .int 0, .int (-1), .ref a7, .ref a1, .ref a8, .ref a9, .ref a10, .ref a11, .ref a12, .ref a13, .int 0, .int 0, .ref a14, .ref a15, .int 0, .int 0, .int 0, .ref a16, .ref a17, .int 0, .int 0, .int 0, .int 0, .int 0, .ref a18, .int 0, .int 0, .int 0])), (a1, .inl (cI, 30, .inl (fun _ => 0)))] sz)) (va_Qi (fun (r : Int32) (_ : Unit) => r = (-1000)) (MB D [(cB, .byte), (cI, .int), (cJ, .long), (cZ, .boolean), (cT, .object RX7), (cR, .object RX3)] [(a0, .inr (10, [.int 0, .ref a2, .ref a3, .ref a4, .ref a5, .ref a6, .int 0, .int 0, .int 0, .int 0, .int 0, .long 0, .int 0, .int 0, .int 0, .int (-1), .ref a7, .ref a1, .ref a8, .ref a9, .ref a10, .ref a11, .ref a12, .ref a13, .int 0, .int 0, .ref a14, .ref a15, .int 0, .int 0, .int 0, .ref a16, .ref a17, .int 0, .int 0, .int 0, .int 0, .int 0, .ref a18, .int 0, .int 0, .int 0])), (a1, .inl (cI, 30, .inl (fun _ => 0)))] sz (fun (u : Unit) => [(a0, .inr (10, [.int 0, .ref a2, .ref a3, .ref a4, .ref a5, .ref a6, .int 0, .int 0, .int 0, .int 0, .int 0, .long 0, .int 0, .int 0, .int 0, .int (-1), .ref a7, .ref a1, .ref a8, .ref a9, .ref a10, .ref a11, .ref a12, .ref a13, .int 0, .int 0, .ref a14, .ref a15, .int 0, .int 0, .int 0, .ref a16, .ref a17, .int 0, .int 0, .int 0, .int 0, .int 0, .ref a18, .int 0, .int 0, .int 0])), (a1, .inl (cI, 30, .inl (fun _ => 0)))])) (va_A [(a0, .inr (10, [.int 0, .ref a2, .ref a3, .ref a4, .ref a5, .ref a6, .int 0, .int 0, .int 0, .int 0, .int 0, .long 0, .int 0, .int 0, .int 0, .int (-1), .ref a7, .ref a1, .ref a8, .ref a9, .ref a10, .ref a11, .ref a12, .ref a13, .int 0, .int 0, .ref a14, .ref a15, .int 0, .int 0, .int 0, .ref a16, .ref a17, .int 0, .int 0, .int 0, .int 0, .int 0, .ref a18, .int 0, .int 0, .int 0])), (a1, .inl (cI, 30, .inl (fun _ => 0)))] sz)) 0 0 (va_A [(a0, .inr (10, [.int 0, .ref a2, .ref a3, .ref a4, .ref a5, .ref a6, .int 0, .int 0, .int 0, .int 0, .int 0, .long 0, .int 0, .int 0, .int 0, .int (-1), .ref a7, .ref a1, .ref a8, .ref a9, .ref a10, .ref a11, .ref a12, .ref a13, .int 0, .int 0, .ref a14, .ref a15, .int 0, .int 0, .int 0, .ref a16, .ref a17, .int 0, .int 0, .int 0, .int 0, .int 0, .ref a18, .int 0, .int 0, .int 0])), (a1, .inl (cI, 30, .inl (fun _ => 0)))] sz) := by
  refine pm (by decide) (Nat.le_of_ble_eq_true rfl) ?_
  intro p e s m below meth c ls hx hb hr hml hown hlk hnm hts hv hl
  have hown : s.vm.findClass RX10 = some m.cls := hown
  have hl : lv_has ls 3 [(0, .ref a0), (1, .int x0), (2, .int x1)] := hl
  obtain ⟨hsz, hP, hK, hD0, hE⟩ := hv
  subst hsz
  have hD := hD0.self (sz := s.heap.size)
  obtain ⟨AA, hAe⟩ : ∃ AA, AA = va_A [(a0, .inr (10, [.int 0, .ref a2, .ref a3, .ref a4, .ref a5, .ref a6, .int 0, .int 0, .int 0, .int 0, .int 0, .long 0, .int 0, .int 0, .int 0, .int (-1), .ref a7, .ref a1, .ref a8, .ref a9, .ref a10, .ref a11, .ref a12, .ref a13, .int 0, .int 0, .ref a14, .ref a15, .int 0, .int 0, .int 0, .ref a16, .ref a17, .int 0, .int 0, .int 0, .int 0, .int 0, .ref a18, .int 0, .int 0, .int 0])), (a1, .inl (cI, 30, .inl (fun _ => 0)))] s.heap.size := ⟨_, rfl⟩
  rw [← hAe] at hD
  have hA : ∀ q : Nat, s.heap.size ≤ q → AA q := fun q h => by rw [hAe]; exact Or.inr h
  have hS : va_S AA s.heap s.heap [] := va_S.rf
  obtain ⟨-, hAOT, hAOR, hAOI⟩ := id hE
  refine lv_aload_n hx hb dX10_mend_0 rfl (lv_at hl 0 rfl) ?_
  refine lv_iconst (v := 0) hx hb dX10_mend_1 (by decide) ?_
  refine va_put (D := D) (ci := 10) (v := .int 0) (ty := .int) (C := RX10) (T := TX10) (N := 42) hx hb hts (fun w h => uc_in w (inX10 w h)) tyX10 tyX10_ok nmX10 hown hK hP hD hS 0 rfl rfl 0 (by decide) (hts _ (uc_in _ q_f1188)) (fun _ h9 => h9) rfl (by decide +kernel) rfl rfl (Nat.le_of_ble_eq_true rfl) dX10_mend_2 (fun H locs hP hD hS => ?_)
  have hP : va_P D vwCl [(a0, .inr (10, [.int 0, .ref a2, .ref a3, .ref a4, .ref a5, .ref a6, .int 0, .int 0, .int 0, .int 0, .int 0, .long 0, .int 0, .int 0, .int 0, .int (-1), .ref a7, .ref a1, .ref a8, .ref a9, .ref a10, .ref a11, .ref a12, .ref a13, .int 0, .int 0, .ref a14, .ref a15, .int 0, .int 0, .int 0, .ref a16, .ref a17, .int 0, .int 0, .int 0, .int 0, .int 0, .ref a18, .int 0, .int 0, .int 0])), (a1, .inl (cI, 30, .inl (fun _ => 0)))] H := hP
  have hD : va_D AA [(a0, .inr (10, [.int 0, .ref a2, .ref a3, .ref a4, .ref a5, .ref a6, .int 0, .int 0, .int 0, .int 0, .int 0, .long 0, .int 0, .int 0, .int 0, .int (-1), .ref a7, .ref a1, .ref a8, .ref a9, .ref a10, .ref a11, .ref a12, .ref a13, .int 0, .int 0, .ref a14, .ref a15, .int 0, .int 0, .int 0, .ref a16, .ref a17, .int 0, .int 0, .int 0, .int 0, .int 0, .ref a18, .int 0, .int 0, .int 0])), (a1, .inl (cI, 30, .inl (fun _ => 0)))] := hD
  refine lv_aload_n hx hb dX10_mend_5 rfl (lv_at hl 0 rfl) ?_
  refine lv_iload_n hx hb dX10_mend_6 rfl (lv_at hl 1 rfl) ?_
  refine lv_i2l (v := x0.toInt64) hx hb dX10_mend_7 rfl ?_
  refine cvR (n := 1) (As := [.long x0.toInt64]) (rest := []) ⟨hx, hb, hml, hown, hts⟩ uc_in (kX10_isClock_0 l D cB cI cJ cZ cT cR a0 a1 a2 a3 a4 a5 a6 a7 a8 a9 a10 a11 a12 a13 a14 a15 a16 a17 a18 x0) q_m1460 q_n1462 q_p71 q_i11 q_c1463 (by decide +kernel) ⟨(Nat.le_of_ble_eq_true rfl), (Nat.le_of_ble_eq_true rfl)⟩ ⟨(Nat.le_of_ble_eq_true rfl), (Nat.le_of_ble_eq_true rfl)⟩ hK (hP.sub (ws' := [(a0, .inr (10, [.int 0, .ref a2, .ref a3, .ref a4, .ref a5, .ref a6, .int 0, .int 0, .int 0, .int 0, .int 0, .long 0, .int 0, .int 0, .int 0, .int (-1), .ref a7, .ref a1, .ref a8, .ref a9, .ref a10, .ref a11, .ref a12, .ref a13, .int 0, .int 0, .ref a14, .ref a15, .int 0, .int 0, .int 0, .ref a16, .ref a17, .int 0, .int 0, .int 0, .int 0, .int 0, .ref a18, .int 0, .int 0, .int 0])), (a1, .inl (cI, 30, .inl (fun _ => 0)))]) [0, 1] rfl) 10 0 rfl rfl rfl hl.1 rfl (Nat.le_of_ble_eq_true rfl) dX10_mend_8 ?_
  refine lv_if_eq (tgt := 33) hx hb dX10_mend_11 (by decide) (fun _ => ?_) (fun c9 => absurd (by decide) c9)
  refine lv_sipush (v := (-1000)) hx hb dX10_mend_33 (by decide) ?_
  subst hAe
  have hP9 := hP.sub (ws' := [(a0, .inr (10, [.int 0, .ref a2, .ref a3, .ref a4, .ref a5, .ref a6, .int 0, .int 0, .int 0, .int 0, .int 0, .long 0, .int 0, .int 0, .int 0, .int (-1), .ref a7, .ref a1, .ref a8, .ref a9, .ref a10, .ref a11, .ref a12, .ref a13, .int 0, .int 0, .ref a14, .ref a15, .int 0, .int 0, .int 0, .ref a16, .ref a17, .int 0, .int 0, .int 0, .int 0, .int 0, .ref a18, .int 0, .int 0, .int 0])), (a1, .inl (cI, 30, .inl (fun _ => 0)))]) [0, 1] rfl
  have hD9 := hD.sub (ws' := [(a0, .inr (10, [.int 0, .ref a2, .ref a3, .ref a4, .ref a5, .ref a6, .int 0, .int 0, .int 0, .int 0, .int 0, .long 0, .int 0, .int 0, .int 0, .int (-1), .ref a7, .ref a1, .ref a8, .ref a9, .ref a10, .ref a11, .ref a12, .ref a13, .int 0, .int 0, .ref a14, .ref a15, .int 0, .int 0, .int 0, .ref a16, .ref a17, .int 0, .int 0, .int 0, .int 0, .int 0, .ref a18, .int 0, .int 0, .int 0])), (a1, .inl (cI, 30, .inl (fun _ => 0)))]) [0, 1] rfl rfl
  exact W.iret hx hb hr (fun t ht hW => ⟨⟨(-1000), (), rfl, rfl, by rw [ht]; exact hP9, va_K.moved hW.alike hK, hD9⟩, hS.F ht⟩) hS.2.2 dX10_mend_36
set_option maxHeartbeats 4000000 in
set_option maxRecDepth 100000 in
theorem kX9_actOnLate_1 (l : Launch) (D : va_G) (cB cI cJ cZ cT cR : ClassId) (a0 a1 a2 a3 a4 a5 a6 a7 a8 a9 a10 a11 a12 a13 : Nat) (x0 : Int32) (x1 : Int32) (hy0 : ¬ (x0 < 0)) : Met l yX9_actOnLate (uc yX9_actOnLate cX9_actOnLate 5 (some .int)) (rmL 2 0 0) (va_Pc [.ref a0, .int 0, .int x0, .int x1] (RPre D [(cB, .byte), (cI, .int), (cJ, .long), (cZ, .boolean), (cT, .object RX7), (cR, .object RX3)] [(a0, .inr (9, [.ref a2, .ref a3, .ref a4, .ref a5, .int 0, .ref a1, .ref a6, .ref a7, .ref a8, .ref a9, .ref a10, .ref a11])), (a1, .inr (5, [.int 0, .int 0, .ref a12, .ref a13]))])) (QcRead (-1000)) 0 0 (fun _ => False) := by
  refine pm (by decide) (Nat.le_of_ble_eq_true rfl) ?_
  intro p e s m below meth c ls hx hb hr hml hown hlk hnm hts hv hl
  have hown : s.vm.findClass RX9 = some m.cls := hown
  have hl : lv_has ls 5 [(0, .ref a0), (1, .int 0), (2, .int x0), (3, .int x1)] := hl
  obtain ⟨hP, hK⟩ := hv
  refine lv_aload_n hx hb dX9_actOnLate_0 rfl (lv_at hl 0 rfl) ?_
  refine lv_iload_n hx hb dX9_actOnLate_1 rfl (lv_at hl 2 rfl) ?_
  refine cvR (n := 1) (As := [.int x0]) (rest := []) ⟨hx, hb, hml, hown, hts⟩ uc_in (kX9_isClock_1 l D cB cI cJ cZ cT cR a0 a1 a2 a3 a4 a5 a6 a7 a8 a9 a10 a11 a12 a13 x0 hy0) q_m589 q_n591 q_p11 q_i1 q_c592 (by decide +kernel) ⟨(Nat.le_of_ble_eq_true rfl), (Nat.le_of_ble_eq_true rfl)⟩ ⟨(Nat.le_of_ble_eq_true rfl), (Nat.le_of_ble_eq_true rfl)⟩ hK (hP.sub (ws' := [(a0, .inr (9, [.ref a2, .ref a3, .ref a4, .ref a5, .int 0, .ref a1, .ref a6, .ref a7, .ref a8, .ref a9, .ref a10, .ref a11])), (a1, .inr (5, [.int 0, .int 0, .ref a12, .ref a13]))]) [0, 1] rfl) 9 0 rfl rfl rfl hl.1 rfl (Nat.le_of_ble_eq_true rfl) dX9_actOnLate_2 ?_
  refine lv_if_eq (tgt := 16) hx hb dX9_actOnLate_5 (by decide) (fun _ => ?_) (fun c9 => absurd (by decide) c9)
  refine lv_sipush (v := (-1000)) hx hb dX9_actOnLate_16 (by decide) ?_
  exact W.iret hx hb hr (fun t ht _ => ⟨rfl, ht⟩) (fun _ h => by cases h) dX9_actOnLate_19
set_option maxHeartbeats 4000000 in
set_option maxRecDepth 100000 in
theorem kX9_mend_1 (l : Launch) (D : va_G) (cB cI cJ cZ cT cR : ClassId) (a0 a1 a2 a3 a4 a5 a6 a7 a8 a9 a10 a11 a12 a13 : Nat) (x0 : Int32) (x1 : Int32) (hy0 : ¬ (x0 < 0)) : Met l yX9_mend (uc yX9_mend cX9_mend 3 (some .int)) (rmL 3 0 0) (va_Pc [.ref a0, .int x0, .int x1] (RPre D [(cB, .byte), (cI, .int), (cJ, .long), (cZ, .boolean), (cT, .object RX7), (cR, .object RX3)] [(a0, .inr (9, [.ref a2, .ref a3, .ref a4, .ref a5, .int 0, .ref a1, .ref a6, .ref a7, .ref a8, .ref a9, .ref a10, .ref a11])), (a1, .inr (5, [.int 0, .int 0, .ref a12, .ref a13]))])) (QcRead (-1000)) 0 0 (fun _ => False) := by
  refine pm (by decide) (Nat.le_of_ble_eq_true rfl) ?_
  intro p e s m below meth c ls hx hb hr hml hown hlk hnm hts hv hl
  have hown : s.vm.findClass RX9 = some m.cls := hown
  have hl : lv_has ls 3 [(0, .ref a0), (1, .int x0), (2, .int x1)] := hl
  obtain ⟨hP, hK⟩ := hv
  refine lv_aload_n hx hb dX9_mend_0 rfl (lv_at hl 0 rfl) ?_
  refine lv_iconst (v := 0) hx hb dX9_mend_1 (by decide) ?_
  refine lv_iload_n hx hb dX9_mend_2 rfl (lv_at hl 1 rfl) ?_
  refine lv_iload_n hx hb dX9_mend_3 rfl (lv_at hl 2 rfl) ?_
  refine cvR (n := 3) (As := [.int 0, .int x0, .int x1]) (rest := []) ⟨hx, hb, hml, hown, hts⟩ uc_in (kX9_actOnLate_1 l D cB cI cJ cZ cT cR a0 a1 a2 a3 a4 a5 a6 a7 a8 a9 a10 a11 a12 a13 x0 x1 hy0) q_m1076 q_n1078 q_p46 q_i1 q_c1079 (by decide +kernel) ⟨(Nat.le_of_ble_eq_true rfl), (Nat.le_of_ble_eq_true rfl)⟩ ⟨(Nat.le_of_ble_eq_true rfl), (Nat.le_of_ble_eq_true rfl)⟩ hK (hP.sub (ws' := [(a0, .inr (9, [.ref a2, .ref a3, .ref a4, .ref a5, .int 0, .ref a1, .ref a6, .ref a7, .ref a8, .ref a9, .ref a10, .ref a11])), (a1, .inr (5, [.int 0, .int 0, .ref a12, .ref a13]))]) [0, 1] rfl) 9 0 rfl rfl rfl hl.1 rfl (Nat.le_of_ble_eq_true rfl) dX9_mend_4 ?_
  exact W.iret hx hb hr (fun t ht _ => ⟨rfl, ht⟩) (fun _ h => by cases h) dX9_mend_7
set_option maxHeartbeats 4000000 in
set_option maxRecDepth 100000 in
theorem law_case_57 {p : Program} {l : Launch} {e : Env} {s : State} {m : MethodId} {below : List Frame} {meth : Method} {c : Code} {D : va_G} {cB cI cJ cZ cT cR : ClassId} {b : Nat} {xs : Nat → Int32} {A B : Nat → Nat} {H : Heap} {locs : List Loc} {ls : Array Slot} (C0 : lw_At p s m meth c b 6 xs) (hE : EX s) (hK : va_K D vwCl [(cB, .byte), (cI, .int), (cJ, .long), (cZ, .boolean), (cT, .object RX7), (cR, .object RX3)] s) (hP : va_P D vwCl (fwAll cB cI cJ cZ cT cR A B) H) (hD : va_D (fun q : Nat => s.heap.size ≤ q) (fwAll cB cI cJ cZ cT cR A B)) (hS : va_S (fun q : Nat => s.heap.size ≤ q) s.heap H locs) (hl : lv_has ls 4 [(3, .int 0), (2, .ref (B 0)), (1, .ref (A 0)), (0, .ref b)]) : W p l e room_1 s m #[Value.ref b] below meth c H locs 180 4779 (lw_Z below #[Value.ref b] s) (F0 m 1827 ls []) := by
  obtain ⟨hx, hb, hr, hml, hown, hts, hX, hbl, hlocks, hgv⟩ := id C0
  have hown : s.vm.findClass RL = some m.cls := hown
  have hb : c.code = cL_law := hb
  have hA : ∀ q : Nat, s.heap.size ≤ q → (fun q : Nat => s.heap.size ≤ q) q := fun _ h => h
  have hbA : ¬ (fun q : Nat => s.heap.size ≤ q) b := Nat.not_le.mpr hbl
  have hP := hP.sub (ws' := [((A 0), .inr (9, [.ref (A 1), .ref (A 3), .ref (A 12), .ref (A 21), .int 0, .ref (A 49), .ref (A 51), .ref (A 60), .ref (A 61), .ref (A 62), .ref (A 63), .ref (A 64)])), ((A 49), .inr (5, [.int 0, .int 0, .ref (A 65), .ref (A 50)])), ((B 0), .inr (10, [.int 0, .ref (B 1), .ref (B 2), .ref (B 3), .ref (B 4), .ref (B 5), .int 0, .int 0, .int 0, .int 0, .int 0, .long 0, .int 0, .int 0, .int 0, .int (-1), .ref (B 6), .ref (B 7), .ref (B 8), .ref (B 9), .ref (B 10), .ref (B 11), .ref (B 12), .ref (B 13), .int 0, .int 0, .ref (B 14), .ref (B 15), .int 0, .int 0, .int 0, .ref (B 16), .ref (B 17), .int 0, .int 0, .int 0, .int 0, .int 0, .ref (B 18), .int 0, .int 0, .int 0])), ((B 7), .inl (cI, 30, .inl (fun _ => 0)))]) [0, 49, 60, 67] rfl
  have hD := hD.sub (ws' := [((A 0), .inr (9, [.ref (A 1), .ref (A 3), .ref (A 12), .ref (A 21), .int 0, .ref (A 49), .ref (A 51), .ref (A 60), .ref (A 61), .ref (A 62), .ref (A 63), .ref (A 64)])), ((A 49), .inr (5, [.int 0, .int 0, .ref (A 65), .ref (A 50)])), ((B 0), .inr (10, [.int 0, .ref (B 1), .ref (B 2), .ref (B 3), .ref (B 4), .ref (B 5), .int 0, .int 0, .int 0, .int 0, .int 0, .long 0, .int 0, .int 0, .int 0, .int (-1), .ref (B 6), .ref (B 7), .ref (B 8), .ref (B 9), .ref (B 10), .ref (B 11), .ref (B 12), .ref (B 13), .int 0, .int 0, .ref (B 14), .ref (B 15), .int 0, .int 0, .int 0, .ref (B 16), .ref (B 17), .int 0, .int 0, .int 0, .int 0, .int 0, .ref (B 18), .int 0, .int 0, .int 0])), ((B 7), .inl (cI, 30, .inl (fun _ => 0)))]) [0, 49, 60, 67] rfl rfl
  refine lv_aload_n hx hb dL_law_1827 rfl (lv_at hl 2 rfl) ?_
  refine lv_aload_n hx hb dL_law_1828 rfl (lv_at hl 3 rfl) ?_
  refine lv_iload_n hx hb dL_law_1829 rfl (lv_at hl 0 rfl) ?_
  refine lv_iconst (v := 1) hx hb dL_law_1830 (by decide) ?_
  refine lv_iadd hx hb dL_law_1831 ?_
  refine pv_i (v := 1) (by decide) ?_
  refine va_sld hx hb hX hbl hbA hS (vp_in_iff.mpr ⟨by decide, by decide⟩) dL_law_1832 ?_
  refine lv_topi (fun p1 ep1 => ?_)
  refine lv_aload_n hx hb dL_law_1833 rfl (lv_at hl 3 rfl) ?_
  refine lv_iload_n hx hb dL_law_1834 rfl (lv_at hl 0 rfl) ?_
  refine lv_iconst (v := 2) hx hb dL_law_1835 (by decide) ?_
  refine lv_iadd hx hb dL_law_1836 ?_
  refine pv_i (v := 2) (by decide) ?_
  refine va_sld hx hb hX hbl hbA hS (vp_in_iff.mpr ⟨by decide, by decide⟩) dL_law_1837 ?_
  refine lv_topi (fun p2 ep2 => ?_)
  by_cases hc1 : p1 < 0
  · refine cvR (n := 2) (As := [.int p1, .int p2]) (rest := []) ⟨hx, hb, hml, hown, hts⟩ (fun _ h => uw_in h) (kX9_mend_0 l D cB cI cJ cZ cT cR (A 0) (A 1) (A 3) (A 12) (A 21) (A 49) (A 51) (A 60) (A 61) (A 62) (A 63) (A 64) p1 p2 hc1) q_m1072 q_n1073 q_e1074 q_i1 q_c1075 (by decide +kernel) ⟨(Nat.le_of_ble_eq_true rfl), (Nat.le_of_ble_eq_true rfl)⟩ ⟨(Nat.le_of_ble_eq_true rfl), (Nat.le_of_ble_eq_true rfl)⟩ hK (hP.sub (ws' := [((A 0), .inr (9, [.ref (A 1), .ref (A 3), .ref (A 12), .ref (A 21), .int 0, .ref (A 49), .ref (A 51), .ref (A 60), .ref (A 61), .ref (A 62), .ref (A 63), .ref (A 64)]))]) [0] rfl) 9 0 rfl rfl rfl hl.1 rfl (Nat.le_of_ble_eq_true rfl) dL_law_1838 ?_
    refine lv_aload_n hx hb dL_law_1841 rfl (lv_at hl 1 rfl) ?_
    refine lv_aload_n hx hb dL_law_1842 rfl (lv_at hl 3 rfl) ?_
    refine lv_iload_n hx hb dL_law_1843 rfl (lv_at hl 0 rfl) ?_
    refine lv_iconst (v := 1) hx hb dL_law_1844 (by decide) ?_
    refine lv_iadd hx hb dL_law_1845 ?_
    refine pv_i (v := 1) (by decide) ?_
    refine va_sld hx hb hX hbl hbA hS (vp_in_iff.mpr ⟨by decide, by decide⟩) dL_law_1846 ?_
    refine pv_i (v := p1) ep1.symm ?_
    refine lv_aload_n hx hb dL_law_1847 rfl (lv_at hl 3 rfl) ?_
    refine lv_iload_n hx hb dL_law_1848 rfl (lv_at hl 0 rfl) ?_
    refine lv_iconst (v := 2) hx hb dL_law_1849 (by decide) ?_
    refine lv_iadd hx hb dL_law_1850 ?_
    refine pv_i (v := 2) (by decide) ?_
    refine va_sld hx hb hX hbl hbA hS (vp_in_iff.mpr ⟨by decide, by decide⟩) dL_law_1851 ?_
    refine pv_i (v := p2) ep2.symm ?_
    refine cvM (n := 2) (As := [.int p1, .int p2]) (rest := [.int (-1000)]) (wr := [((A 0), .inr (9, [.ref (A 1), .ref (A 3), .ref (A 12), .ref (A 21), .int 0, .ref (A 49), .ref (A 51), .ref (A 60), .ref (A 61), .ref (A 62), .ref (A 63), .ref (A 64)])), ((A 49), .inr (5, [.int 0, .int 0, .ref (A 65), .ref (A 50)]))]) ⟨hx, hb, hml, hown, hts⟩ (fun _ h => uw_in h) (kX10_mend_0 l D cB cI cJ cZ cT cR (B 0) (B 7) (B 1) (B 2) (B 3) (B 4) (B 5) (B 6) (B 8) (B 9) (B 10) (B 11) (B 12) (B 13) (B 14) (B 15) (B 16) (B 17) (B 18) p1 p2 H.size) q_m1867 q_n1868 q_e1869 q_i11 q_c1870 (by decide +kernel) ⟨(Nat.le_of_ble_eq_true rfl), (Nat.le_of_ble_eq_true rfl)⟩ ⟨(Nat.le_of_ble_eq_true rfl), (Nat.le_of_ble_eq_true rfl)⟩ hE hK hP hD hS hA [2, 3] [0, 1] rfl rfl rfl rfl (by decide) 10 0 rfl rfl rfl hl.1 rfl (Nat.le_of_ble_eq_true rfl) dL_law_1852 (fun r9 u H locs hpo hP hD hS => ?_)
    have hP : va_P D vwCl [((A 0), .inr (9, [.ref (A 1), .ref (A 3), .ref (A 12), .ref (A 21), .int 0, .ref (A 49), .ref (A 51), .ref (A 60), .ref (A 61), .ref (A 62), .ref (A 63), .ref (A 64)])), ((A 49), .inr (5, [.int 0, .int 0, .ref (A 65), .ref (A 50)])), ((B 0), .inr (10, [.int 0, .ref (B 1), .ref (B 2), .ref (B 3), .ref (B 4), .ref (B 5), .int 0, .int 0, .int 0, .int 0, .int 0, .long 0, .int 0, .int 0, .int 0, .int (-1), .ref (B 6), .ref (B 7), .ref (B 8), .ref (B 9), .ref (B 10), .ref (B 11), .ref (B 12), .ref (B 13), .int 0, .int 0, .ref (B 14), .ref (B 15), .int 0, .int 0, .int 0, .ref (B 16), .ref (B 17), .int 0, .int 0, .int 0, .int 0, .int 0, .ref (B 18), .int 0, .int 0, .int 0])), ((B 7), .inl (cI, 30, .inl (fun _ => 0)))] H := hP
    have hD : va_D (fun q : Nat => s.heap.size ≤ q) [((A 0), .inr (9, [.ref (A 1), .ref (A 3), .ref (A 12), .ref (A 21), .int 0, .ref (A 49), .ref (A 51), .ref (A 60), .ref (A 61), .ref (A 62), .ref (A 63), .ref (A 64)])), ((A 49), .inr (5, [.int 0, .int 0, .ref (A 65), .ref (A 50)])), ((B 0), .inr (10, [.int 0, .ref (B 1), .ref (B 2), .ref (B 3), .ref (B 4), .ref (B 5), .int 0, .int 0, .int 0, .int 0, .int 0, .long 0, .int 0, .int 0, .int 0, .int (-1), .ref (B 6), .ref (B 7), .ref (B 8), .ref (B 9), .ref (B 10), .ref (B 11), .ref (B 12), .ref (B 13), .int 0, .int 0, .ref (B 14), .ref (B 15), .int 0, .int 0, .int 0, .ref (B 16), .ref (B 17), .int 0, .int 0, .int 0, .int 0, .int 0, .ref (B 18), .int 0, .int 0, .int 0])), ((B 7), .inl (cI, 30, .inl (fun _ => 0)))] := hD
    refine W.cs (cells' := 180) (slots' := 4779) rfl rfl ?_
    have hpo : r9 = (-1000) := hpo
    subst hpo
    refine lv_icmp_eq (tgt := 2362) hx hb dL_law_1855 (by decide) (fun _ => ?_) (fun c9 => absurd (by decide) c9)
    exact law_end C0 hS (Nat.le_of_ble_eq_true rfl) (Nat.le_of_ble_eq_true rfl) ls hl
  · refine cvR (n := 2) (As := [.int p1, .int p2]) (rest := []) ⟨hx, hb, hml, hown, hts⟩ (fun _ h => uw_in h) (kX9_mend_1 l D cB cI cJ cZ cT cR (A 0) (A 49) (A 1) (A 3) (A 12) (A 21) (A 51) (A 60) (A 61) (A 62) (A 63) (A 64) (A 65) (A 50) p1 p2 hc1) q_m1072 q_n1073 q_e1074 q_i1 q_c1075 (by decide +kernel) ⟨(Nat.le_of_ble_eq_true rfl), (Nat.le_of_ble_eq_true rfl)⟩ ⟨(Nat.le_of_ble_eq_true rfl), (Nat.le_of_ble_eq_true rfl)⟩ hK (hP.sub (ws' := [((A 0), .inr (9, [.ref (A 1), .ref (A 3), .ref (A 12), .ref (A 21), .int 0, .ref (A 49), .ref (A 51), .ref (A 60), .ref (A 61), .ref (A 62), .ref (A 63), .ref (A 64)])), ((A 49), .inr (5, [.int 0, .int 0, .ref (A 65), .ref (A 50)]))]) [0, 1] rfl) 9 0 rfl rfl rfl hl.1 rfl (Nat.le_of_ble_eq_true rfl) dL_law_1838 ?_
    refine lv_aload_n hx hb dL_law_1841 rfl (lv_at hl 1 rfl) ?_
    refine lv_aload_n hx hb dL_law_1842 rfl (lv_at hl 3 rfl) ?_
    refine lv_iload_n hx hb dL_law_1843 rfl (lv_at hl 0 rfl) ?_
    refine lv_iconst (v := 1) hx hb dL_law_1844 (by decide) ?_
    refine lv_iadd hx hb dL_law_1845 ?_
    refine pv_i (v := 1) (by decide) ?_
    refine va_sld hx hb hX hbl hbA hS (vp_in_iff.mpr ⟨by decide, by decide⟩) dL_law_1846 ?_
    refine pv_i (v := p1) ep1.symm ?_
    refine lv_aload_n hx hb dL_law_1847 rfl (lv_at hl 3 rfl) ?_
    refine lv_iload_n hx hb dL_law_1848 rfl (lv_at hl 0 rfl) ?_
    refine lv_iconst (v := 2) hx hb dL_law_1849 (by decide) ?_
    refine lv_iadd hx hb dL_law_1850 ?_
    refine pv_i (v := 2) (by decide) ?_
    refine va_sld hx hb hX hbl hbA hS (vp_in_iff.mpr ⟨by decide, by decide⟩) dL_law_1851 ?_
    refine pv_i (v := p2) ep2.symm ?_
    refine cvM (n := 2) (As := [.int p1, .int p2]) (rest := [.int (-1000)]) (wr := [((A 0), .inr (9, [.ref (A 1), .ref (A 3), .ref (A 12), .ref (A 21), .int 0, .ref (A 49), .ref (A 51), .ref (A 60), .ref (A 61), .ref (A 62), .ref (A 63), .ref (A 64)])), ((A 49), .inr (5, [.int 0, .int 0, .ref (A 65), .ref (A 50)]))]) ⟨hx, hb, hml, hown, hts⟩ (fun _ h => uw_in h) (kX10_mend_0 l D cB cI cJ cZ cT cR (B 0) (B 7) (B 1) (B 2) (B 3) (B 4) (B 5) (B 6) (B 8) (B 9) (B 10) (B 11) (B 12) (B 13) (B 14) (B 15) (B 16) (B 17) (B 18) p1 p2 H.size) q_m1867 q_n1868 q_e1869 q_i11 q_c1870 (by decide +kernel) ⟨(Nat.le_of_ble_eq_true rfl), (Nat.le_of_ble_eq_true rfl)⟩ ⟨(Nat.le_of_ble_eq_true rfl), (Nat.le_of_ble_eq_true rfl)⟩ hE hK hP hD hS hA [2, 3] [0, 1] rfl rfl rfl rfl (by decide) 10 0 rfl rfl rfl hl.1 rfl (Nat.le_of_ble_eq_true rfl) dL_law_1852 (fun r9 u H locs hpo hP hD hS => ?_)
    have hP : va_P D vwCl [((A 0), .inr (9, [.ref (A 1), .ref (A 3), .ref (A 12), .ref (A 21), .int 0, .ref (A 49), .ref (A 51), .ref (A 60), .ref (A 61), .ref (A 62), .ref (A 63), .ref (A 64)])), ((A 49), .inr (5, [.int 0, .int 0, .ref (A 65), .ref (A 50)])), ((B 0), .inr (10, [.int 0, .ref (B 1), .ref (B 2), .ref (B 3), .ref (B 4), .ref (B 5), .int 0, .int 0, .int 0, .int 0, .int 0, .long 0, .int 0, .int 0, .int 0, .int (-1), .ref (B 6), .ref (B 7), .ref (B 8), .ref (B 9), .ref (B 10), .ref (B 11), .ref (B 12), .ref (B 13), .int 0, .int 0, .ref (B 14), .ref (B 15), .int 0, .int 0, .int 0, .ref (B 16), .ref (B 17), .int 0, .int 0, .int 0, .int 0, .int 0, .ref (B 18), .int 0, .int 0, .int 0])), ((B 7), .inl (cI, 30, .inl (fun _ => 0)))] H := hP
    have hD : va_D (fun q : Nat => s.heap.size ≤ q) [((A 0), .inr (9, [.ref (A 1), .ref (A 3), .ref (A 12), .ref (A 21), .int 0, .ref (A 49), .ref (A 51), .ref (A 60), .ref (A 61), .ref (A 62), .ref (A 63), .ref (A 64)])), ((A 49), .inr (5, [.int 0, .int 0, .ref (A 65), .ref (A 50)])), ((B 0), .inr (10, [.int 0, .ref (B 1), .ref (B 2), .ref (B 3), .ref (B 4), .ref (B 5), .int 0, .int 0, .int 0, .int 0, .int 0, .long 0, .int 0, .int 0, .int 0, .int (-1), .ref (B 6), .ref (B 7), .ref (B 8), .ref (B 9), .ref (B 10), .ref (B 11), .ref (B 12), .ref (B 13), .int 0, .int 0, .ref (B 14), .ref (B 15), .int 0, .int 0, .int 0, .ref (B 16), .ref (B 17), .int 0, .int 0, .int 0, .int 0, .int 0, .ref (B 18), .int 0, .int 0, .int 0])), ((B 7), .inl (cI, 30, .inl (fun _ => 0)))] := hD
    refine W.cs (cells' := 180) (slots' := 4779) rfl rfl ?_
    have hpo : r9 = (-1000) := hpo
    subst hpo
    refine lv_icmp_eq (tgt := 2362) hx hb dL_law_1855 (by decide) (fun _ => ?_) (fun c9 => absurd (by decide) c9)
    exact law_end C0 hS (Nat.le_of_ble_eq_true rfl) (Nat.le_of_ble_eq_true rfl) ls hl
set_option maxHeartbeats 4000000 in
set_option maxRecDepth 100000 in
theorem kX9_actOnLate_2 (l : Launch) (D : va_G) (cB cI cJ cZ cT cR : ClassId) (a0 a1 a2 a3 a4 a5 a6 a7 a8 a9 a10 a11 : Nat) (x0 : Int32) (x1 : Int32) (hy0 : x0 < 0) : Met l yX9_actOnLate (uc yX9_actOnLate cX9_actOnLate 5 (some .int)) (rmL 2 0 0) (va_Pc [.ref a0, .int 1, .int x0, .int x1] (RPre D [(cB, .byte), (cI, .int), (cJ, .long), (cZ, .boolean), (cT, .object RX7), (cR, .object RX3)] [(a0, .inr (9, [.ref a1, .ref a2, .ref a3, .ref a4, .int 0, .ref a5, .ref a6, .ref a7, .ref a8, .ref a9, .ref a10, .ref a11]))])) (QcRead (-1000)) 0 0 (fun _ => False) := by
  refine pm (by decide) (Nat.le_of_ble_eq_true rfl) ?_
  intro p e s m below meth c ls hx hb hr hml hown hlk hnm hts hv hl
  have hown : s.vm.findClass RX9 = some m.cls := hown
  have hl : lv_has ls 5 [(0, .ref a0), (1, .int 1), (2, .int x0), (3, .int x1)] := hl
  obtain ⟨hP, hK⟩ := hv
  refine lv_aload_n hx hb dX9_actOnLate_0 rfl (lv_at hl 0 rfl) ?_
  refine lv_iload_n hx hb dX9_actOnLate_1 rfl (lv_at hl 2 rfl) ?_
  refine cvR (n := 1) (As := [.int x0]) (rest := []) ⟨hx, hb, hml, hown, hts⟩ uc_in (kX9_isClock_0 l D cB cI cJ cZ cT cR a0 a1 a2 a3 a4 a5 a6 a7 a8 a9 a10 a11 x0 hy0) q_m589 q_n591 q_p11 q_i1 q_c592 (by decide +kernel) ⟨(Nat.le_of_ble_eq_true rfl), (Nat.le_of_ble_eq_true rfl)⟩ ⟨(Nat.le_of_ble_eq_true rfl), (Nat.le_of_ble_eq_true rfl)⟩ hK (hP.sub (ws' := [(a0, .inr (9, [.ref a1, .ref a2, .ref a3, .ref a4, .int 0, .ref a5, .ref a6, .ref a7, .ref a8, .ref a9, .ref a10, .ref a11]))]) [0] rfl) 9 0 rfl rfl rfl hl.1 rfl (Nat.le_of_ble_eq_true rfl) dX9_actOnLate_2 ?_
  refine lv_if_eq (tgt := 16) hx hb dX9_actOnLate_5 (by decide) (fun _ => ?_) (fun c9 => absurd (by decide) c9)
  refine lv_sipush (v := (-1000)) hx hb dX9_actOnLate_16 (by decide) ?_
  exact W.iret hx hb hr (fun t ht _ => ⟨rfl, ht⟩) (fun _ h => by cases h) dX9_actOnLate_19
set_option maxHeartbeats 4000000 in
set_option maxRecDepth 100000 in
theorem kX9_oil_0 (l : Launch) (D : va_G) (cB cI cJ cZ cT cR : ClassId) (a0 a1 a2 a3 a4 a5 a6 a7 a8 a9 a10 a11 : Nat) (x0 : Int32) (x1 : Int32) (hy0 : x0 < 0) : Met l yX9_oil (uc yX9_oil cX9_oil 3 (some .int)) (rmL 3 0 0) (va_Pc [.ref a0, .int x0, .int x1] (RPre D [(cB, .byte), (cI, .int), (cJ, .long), (cZ, .boolean), (cT, .object RX7), (cR, .object RX3)] [(a0, .inr (9, [.ref a1, .ref a2, .ref a3, .ref a4, .int 0, .ref a5, .ref a6, .ref a7, .ref a8, .ref a9, .ref a10, .ref a11]))])) (QcRead (-1000)) 0 0 (fun _ => False) := by
  refine pm (by decide) (Nat.le_of_ble_eq_true rfl) ?_
  intro p e s m below meth c ls hx hb hr hml hown hlk hnm hts hv hl
  have hown : s.vm.findClass RX9 = some m.cls := hown
  have hl : lv_has ls 3 [(0, .ref a0), (1, .int x0), (2, .int x1)] := hl
  obtain ⟨hP, hK⟩ := hv
  refine lv_aload_n hx hb dX9_oil_0 rfl (lv_at hl 0 rfl) ?_
  refine lv_iconst (v := 1) hx hb dX9_oil_1 (by decide) ?_
  refine lv_iload_n hx hb dX9_oil_2 rfl (lv_at hl 1 rfl) ?_
  refine lv_iload_n hx hb dX9_oil_3 rfl (lv_at hl 2 rfl) ?_
  refine cvR (n := 3) (As := [.int 1, .int x0, .int x1]) (rest := []) ⟨hx, hb, hml, hown, hts⟩ uc_in (kX9_actOnLate_2 l D cB cI cJ cZ cT cR a0 a1 a2 a3 a4 a5 a6 a7 a8 a9 a10 a11 x0 x1 hy0) q_m1076 q_n1078 q_p46 q_i1 q_c1079 (by decide +kernel) ⟨(Nat.le_of_ble_eq_true rfl), (Nat.le_of_ble_eq_true rfl)⟩ ⟨(Nat.le_of_ble_eq_true rfl), (Nat.le_of_ble_eq_true rfl)⟩ hK (hP.sub (ws' := [(a0, .inr (9, [.ref a1, .ref a2, .ref a3, .ref a4, .int 0, .ref a5, .ref a6, .ref a7, .ref a8, .ref a9, .ref a10, .ref a11]))]) [0] rfl) 9 0 rfl rfl rfl hl.1 rfl (Nat.le_of_ble_eq_true rfl) dX9_oil_4 ?_
  exact W.iret hx hb hr (fun t ht _ => ⟨rfl, ht⟩) (fun _ h => by cases h) dX9_oil_7
set_option maxHeartbeats 4000000 in
set_option maxRecDepth 100000 in
theorem kX10_oil_0 (l : Launch) (D : va_G) (cB cI cJ cZ cT cR : ClassId) (a0 a1 a2 a3 a4 a5 a6 a7 a8 a9 a10 a11 a12 a13 a14 a15 a16 a17 a18 : Nat) (x0 : Int32) (x1 : Int32) (sz : Nat) : Met l yX10_oil (uc yX10_oil cX10_oil 3 (some .int)) (rmL 3 0 0) (va_Pc [.ref a0, .int x0, .int x1] (MPre D [(cB, .byte), (cI, .int), (cJ, .long), (cZ, .boolean), (cT, .object RX7), (cR, .object RX3)] [(a0, .inr (10, [.int 0, .ref a2, .ref a3, .ref a4, .ref a5, .ref a6, .int 0, .int 0, .int 0, .int 0, .int 0, .long 0, .int 0, .int 0, .int 0, .int (-1), .ref a7, .ref a1, .ref a8, .ref a9, .ref a10, .ref a11, .ref a12, .ref a13, .int 0, .int 0, .ref a14, .ref a15, .int 0, .int 0, .int 0, .ref a16, .ref a17, .int 0, .int 0, .int 0, .int 0, .int 0, .ref a18, .int 0, .int 0, .int 0])), (a1, .inl (cI, 30, .inl (fun _ => 0)))] sz)) (va_Qi (fun (r : Int32) (_ : Unit) => r = (-1000)) (MB D [(cB, .byte), (cI, .int), (cJ, .long), (cZ, .boolean), (cT, .object RX7), (cR, .object RX3)] [(a0, .inr (10, [.int 0, .ref a2, .ref a3, .ref a4, .ref a5, .ref a6, .int 0, .int 0, .int 0, .int 0, .int 0, .long 0, .int 0, .int 0, .int 0, .int (-1), .ref a7, .ref a1, .ref a8, .ref a9, .ref a10, .ref a11, .ref a12, .ref a13, .int 0, .int 0, .ref a14, .ref a15, .int 0, .int 0, .int 0, .ref a16, .ref a17, .int 0, .int 0, .int 0, .int 0, .int 0, .ref a18, .int 0, .int 0, .int 0])), (a1, .inl (cI, 30, .inl (fun _ => 0)))] sz (fun (u : Unit) => [(a0, .inr (10, [.int 0, .ref a2, .ref a3, .ref a4, .ref a5, .ref a6, .int 0, .int 0, .int 0, .int 0, .int 0, .long 0, .int 0, .int 0, .int 0, .int (-1), .ref a7, .ref a1, .ref a8, .ref a9, .ref a10, .ref a11, .ref a12, .ref a13, .int 0, .int 0, .ref a14, .ref a15, .int 0, .int 0, .int 0, .ref a16, .ref a17, .int 0, .int 0, .int 0, .int 0, .int 0, .ref a18, .int 0, .int 0, .int 0])), (a1, .inl (cI, 30, .inl (fun _ => 0)))])) (va_A [(a0, .inr (10, [.int 0, .ref a2, .ref a3, .ref a4, .ref a5, .ref a6, .int 0, .int 0, .int 0, .int 0, .int 0, .long 0, .int 0, .int 0, .int 0, .int (-1), .ref a7, .ref a1, .ref a8, .ref a9, .ref a10, .ref a11, .ref a12, .ref a13, .int 0, .int 0, .ref a14, .ref a15, .int 0, .int 0, .int 0, .ref a16, .ref a17, .int 0, .int 0, .int 0, .int 0, .int 0, .ref a18, .int 0, .int 0, .int 0])), (a1, .inl (cI, 30, .inl (fun _ => 0)))] sz)) 0 0 (va_A [(a0, .inr (10, [.int 0, .ref a2, .ref a3, .ref a4, .ref a5, .ref a6, .int 0, .int 0, .int 0, .int 0, .int 0, .long 0, .int 0, .int 0, .int 0, .int (-1), .ref a7, .ref a1, .ref a8, .ref a9, .ref a10, .ref a11, .ref a12, .ref a13, .int 0, .int 0, .ref a14, .ref a15, .int 0, .int 0, .int 0, .ref a16, .ref a17, .int 0, .int 0, .int 0, .int 0, .int 0, .ref a18, .int 0, .int 0, .int 0])), (a1, .inl (cI, 30, .inl (fun _ => 0)))] sz) := by
  refine pm (by decide) (Nat.le_of_ble_eq_true rfl) ?_
  intro p e s m below meth c ls hx hb hr hml hown hlk hnm hts hv hl
  have hown : s.vm.findClass RX10 = some m.cls := hown
  have hl : lv_has ls 3 [(0, .ref a0), (1, .int x0), (2, .int x1)] := hl
  obtain ⟨hsz, hP, hK, hD0, hE⟩ := hv
  subst hsz
  have hD := hD0.self (sz := s.heap.size)
  obtain ⟨AA, hAe⟩ : ∃ AA, AA = va_A [(a0, .inr (10, [.int 0, .ref a2, .ref a3, .ref a4, .ref a5, .ref a6, .int 0, .int 0, .int 0, .int 0, .int 0, .long 0, .int 0, .int 0, .int 0, .int (-1), .ref a7, .ref a1, .ref a8, .ref a9, .ref a10, .ref a11, .ref a12, .ref a13, .int 0, .int 0, .ref a14, .ref a15, .int 0, .int 0, .int 0, .ref a16, .ref a17, .int 0, .int 0, .int 0, .int 0, .int 0, .ref a18, .int 0, .int 0, .int 0])), (a1, .inl (cI, 30, .inl (fun _ => 0)))] s.heap.size := ⟨_, rfl⟩
  rw [← hAe] at hD
  have hA : ∀ q : Nat, s.heap.size ≤ q → AA q := fun q h => by rw [hAe]; exact Or.inr h
  have hS : va_S AA s.heap s.heap [] := va_S.rf
  obtain ⟨-, hAOT, hAOR, hAOI⟩ := id hE
  refine lv_aload_n hx hb dX10_oil_0 rfl (lv_at hl 0 rfl) ?_
  refine lv_iconst (v := 0) hx hb dX10_oil_1 (by decide) ?_
  refine va_put (D := D) (ci := 10) (v := .int 0) (ty := .int) (C := RX10) (T := TX10) (N := 42) hx hb hts (fun w h => uc_in w (inX10 w h)) tyX10 tyX10_ok nmX10 hown hK hP hD hS 0 rfl rfl 0 (by decide) (hts _ (uc_in _ q_f1188)) (fun _ h9 => h9) rfl (by decide +kernel) rfl rfl (Nat.le_of_ble_eq_true rfl) dX10_oil_2 (fun H locs hP hD hS => ?_)
  have hP : va_P D vwCl [(a0, .inr (10, [.int 0, .ref a2, .ref a3, .ref a4, .ref a5, .ref a6, .int 0, .int 0, .int 0, .int 0, .int 0, .long 0, .int 0, .int 0, .int 0, .int (-1), .ref a7, .ref a1, .ref a8, .ref a9, .ref a10, .ref a11, .ref a12, .ref a13, .int 0, .int 0, .ref a14, .ref a15, .int 0, .int 0, .int 0, .ref a16, .ref a17, .int 0, .int 0, .int 0, .int 0, .int 0, .ref a18, .int 0, .int 0, .int 0])), (a1, .inl (cI, 30, .inl (fun _ => 0)))] H := hP
  have hD : va_D AA [(a0, .inr (10, [.int 0, .ref a2, .ref a3, .ref a4, .ref a5, .ref a6, .int 0, .int 0, .int 0, .int 0, .int 0, .long 0, .int 0, .int 0, .int 0, .int (-1), .ref a7, .ref a1, .ref a8, .ref a9, .ref a10, .ref a11, .ref a12, .ref a13, .int 0, .int 0, .ref a14, .ref a15, .int 0, .int 0, .int 0, .ref a16, .ref a17, .int 0, .int 0, .int 0, .int 0, .int 0, .ref a18, .int 0, .int 0, .int 0])), (a1, .inl (cI, 30, .inl (fun _ => 0)))] := hD
  refine lv_aload_n hx hb dX10_oil_5 rfl (lv_at hl 0 rfl) ?_
  refine lv_iload_n hx hb dX10_oil_6 rfl (lv_at hl 1 rfl) ?_
  refine lv_i2l (v := x0.toInt64) hx hb dX10_oil_7 rfl ?_
  refine cvR (n := 1) (As := [.long x0.toInt64]) (rest := []) ⟨hx, hb, hml, hown, hts⟩ uc_in (kX10_isClock_0 l D cB cI cJ cZ cT cR a0 a1 a2 a3 a4 a5 a6 a7 a8 a9 a10 a11 a12 a13 a14 a15 a16 a17 a18 x0) q_m1460 q_n1462 q_p71 q_i11 q_c1463 (by decide +kernel) ⟨(Nat.le_of_ble_eq_true rfl), (Nat.le_of_ble_eq_true rfl)⟩ ⟨(Nat.le_of_ble_eq_true rfl), (Nat.le_of_ble_eq_true rfl)⟩ hK (hP.sub (ws' := [(a0, .inr (10, [.int 0, .ref a2, .ref a3, .ref a4, .ref a5, .ref a6, .int 0, .int 0, .int 0, .int 0, .int 0, .long 0, .int 0, .int 0, .int 0, .int (-1), .ref a7, .ref a1, .ref a8, .ref a9, .ref a10, .ref a11, .ref a12, .ref a13, .int 0, .int 0, .ref a14, .ref a15, .int 0, .int 0, .int 0, .ref a16, .ref a17, .int 0, .int 0, .int 0, .int 0, .int 0, .ref a18, .int 0, .int 0, .int 0])), (a1, .inl (cI, 30, .inl (fun _ => 0)))]) [0, 1] rfl) 10 0 rfl rfl rfl hl.1 rfl (Nat.le_of_ble_eq_true rfl) dX10_oil_8 ?_
  refine lv_if_eq (tgt := 33) hx hb dX10_oil_11 (by decide) (fun _ => ?_) (fun c9 => absurd (by decide) c9)
  refine lv_sipush (v := (-1000)) hx hb dX10_oil_33 (by decide) ?_
  subst hAe
  have hP9 := hP.sub (ws' := [(a0, .inr (10, [.int 0, .ref a2, .ref a3, .ref a4, .ref a5, .ref a6, .int 0, .int 0, .int 0, .int 0, .int 0, .long 0, .int 0, .int 0, .int 0, .int (-1), .ref a7, .ref a1, .ref a8, .ref a9, .ref a10, .ref a11, .ref a12, .ref a13, .int 0, .int 0, .ref a14, .ref a15, .int 0, .int 0, .int 0, .ref a16, .ref a17, .int 0, .int 0, .int 0, .int 0, .int 0, .ref a18, .int 0, .int 0, .int 0])), (a1, .inl (cI, 30, .inl (fun _ => 0)))]) [0, 1] rfl
  have hD9 := hD.sub (ws' := [(a0, .inr (10, [.int 0, .ref a2, .ref a3, .ref a4, .ref a5, .ref a6, .int 0, .int 0, .int 0, .int 0, .int 0, .long 0, .int 0, .int 0, .int 0, .int (-1), .ref a7, .ref a1, .ref a8, .ref a9, .ref a10, .ref a11, .ref a12, .ref a13, .int 0, .int 0, .ref a14, .ref a15, .int 0, .int 0, .int 0, .ref a16, .ref a17, .int 0, .int 0, .int 0, .int 0, .int 0, .ref a18, .int 0, .int 0, .int 0])), (a1, .inl (cI, 30, .inl (fun _ => 0)))]) [0, 1] rfl rfl
  exact W.iret hx hb hr (fun t ht hW => ⟨⟨(-1000), (), rfl, rfl, by rw [ht]; exact hP9, va_K.moved hW.alike hK, hD9⟩, hS.F ht⟩) hS.2.2 dX10_oil_36
set_option maxHeartbeats 4000000 in
set_option maxRecDepth 100000 in
theorem kX9_actOnLate_3 (l : Launch) (D : va_G) (cB cI cJ cZ cT cR : ClassId) (a0 a1 a2 a3 a4 a5 a6 a7 a8 a9 a10 a11 a12 a13 : Nat) (x0 : Int32) (x1 : Int32) (hy0 : ¬ (x0 < 0)) : Met l yX9_actOnLate (uc yX9_actOnLate cX9_actOnLate 5 (some .int)) (rmL 2 0 0) (va_Pc [.ref a0, .int 1, .int x0, .int x1] (RPre D [(cB, .byte), (cI, .int), (cJ, .long), (cZ, .boolean), (cT, .object RX7), (cR, .object RX3)] [(a0, .inr (9, [.ref a2, .ref a3, .ref a4, .ref a5, .int 0, .ref a1, .ref a6, .ref a7, .ref a8, .ref a9, .ref a10, .ref a11])), (a1, .inr (5, [.int 0, .int 0, .ref a12, .ref a13]))])) (QcRead (-1000)) 0 0 (fun _ => False) := by
  refine pm (by decide) (Nat.le_of_ble_eq_true rfl) ?_
  intro p e s m below meth c ls hx hb hr hml hown hlk hnm hts hv hl
  have hown : s.vm.findClass RX9 = some m.cls := hown
  have hl : lv_has ls 5 [(0, .ref a0), (1, .int 1), (2, .int x0), (3, .int x1)] := hl
  obtain ⟨hP, hK⟩ := hv
  refine lv_aload_n hx hb dX9_actOnLate_0 rfl (lv_at hl 0 rfl) ?_
  refine lv_iload_n hx hb dX9_actOnLate_1 rfl (lv_at hl 2 rfl) ?_
  refine cvR (n := 1) (As := [.int x0]) (rest := []) ⟨hx, hb, hml, hown, hts⟩ uc_in (kX9_isClock_1 l D cB cI cJ cZ cT cR a0 a1 a2 a3 a4 a5 a6 a7 a8 a9 a10 a11 a12 a13 x0 hy0) q_m589 q_n591 q_p11 q_i1 q_c592 (by decide +kernel) ⟨(Nat.le_of_ble_eq_true rfl), (Nat.le_of_ble_eq_true rfl)⟩ ⟨(Nat.le_of_ble_eq_true rfl), (Nat.le_of_ble_eq_true rfl)⟩ hK (hP.sub (ws' := [(a0, .inr (9, [.ref a2, .ref a3, .ref a4, .ref a5, .int 0, .ref a1, .ref a6, .ref a7, .ref a8, .ref a9, .ref a10, .ref a11])), (a1, .inr (5, [.int 0, .int 0, .ref a12, .ref a13]))]) [0, 1] rfl) 9 0 rfl rfl rfl hl.1 rfl (Nat.le_of_ble_eq_true rfl) dX9_actOnLate_2 ?_
  refine lv_if_eq (tgt := 16) hx hb dX9_actOnLate_5 (by decide) (fun _ => ?_) (fun c9 => absurd (by decide) c9)
  refine lv_sipush (v := (-1000)) hx hb dX9_actOnLate_16 (by decide) ?_
  exact W.iret hx hb hr (fun t ht _ => ⟨rfl, ht⟩) (fun _ h => by cases h) dX9_actOnLate_19
set_option maxHeartbeats 4000000 in
set_option maxRecDepth 100000 in
theorem kX9_oil_1 (l : Launch) (D : va_G) (cB cI cJ cZ cT cR : ClassId) (a0 a1 a2 a3 a4 a5 a6 a7 a8 a9 a10 a11 a12 a13 : Nat) (x0 : Int32) (x1 : Int32) (hy0 : ¬ (x0 < 0)) : Met l yX9_oil (uc yX9_oil cX9_oil 3 (some .int)) (rmL 3 0 0) (va_Pc [.ref a0, .int x0, .int x1] (RPre D [(cB, .byte), (cI, .int), (cJ, .long), (cZ, .boolean), (cT, .object RX7), (cR, .object RX3)] [(a0, .inr (9, [.ref a2, .ref a3, .ref a4, .ref a5, .int 0, .ref a1, .ref a6, .ref a7, .ref a8, .ref a9, .ref a10, .ref a11])), (a1, .inr (5, [.int 0, .int 0, .ref a12, .ref a13]))])) (QcRead (-1000)) 0 0 (fun _ => False) := by
  refine pm (by decide) (Nat.le_of_ble_eq_true rfl) ?_
  intro p e s m below meth c ls hx hb hr hml hown hlk hnm hts hv hl
  have hown : s.vm.findClass RX9 = some m.cls := hown
  have hl : lv_has ls 3 [(0, .ref a0), (1, .int x0), (2, .int x1)] := hl
  obtain ⟨hP, hK⟩ := hv
  refine lv_aload_n hx hb dX9_oil_0 rfl (lv_at hl 0 rfl) ?_
  refine lv_iconst (v := 1) hx hb dX9_oil_1 (by decide) ?_
  refine lv_iload_n hx hb dX9_oil_2 rfl (lv_at hl 1 rfl) ?_
  refine lv_iload_n hx hb dX9_oil_3 rfl (lv_at hl 2 rfl) ?_
  refine cvR (n := 3) (As := [.int 1, .int x0, .int x1]) (rest := []) ⟨hx, hb, hml, hown, hts⟩ uc_in (kX9_actOnLate_3 l D cB cI cJ cZ cT cR a0 a1 a2 a3 a4 a5 a6 a7 a8 a9 a10 a11 a12 a13 x0 x1 hy0) q_m1076 q_n1078 q_p46 q_i1 q_c1079 (by decide +kernel) ⟨(Nat.le_of_ble_eq_true rfl), (Nat.le_of_ble_eq_true rfl)⟩ ⟨(Nat.le_of_ble_eq_true rfl), (Nat.le_of_ble_eq_true rfl)⟩ hK (hP.sub (ws' := [(a0, .inr (9, [.ref a2, .ref a3, .ref a4, .ref a5, .int 0, .ref a1, .ref a6, .ref a7, .ref a8, .ref a9, .ref a10, .ref a11])), (a1, .inr (5, [.int 0, .int 0, .ref a12, .ref a13]))]) [0, 1] rfl) 9 0 rfl rfl rfl hl.1 rfl (Nat.le_of_ble_eq_true rfl) dX9_oil_4 ?_
  exact W.iret hx hb hr (fun t ht _ => ⟨rfl, ht⟩) (fun _ h => by cases h) dX9_oil_7
set_option maxHeartbeats 4000000 in
set_option maxRecDepth 100000 in
theorem law_case_58 {p : Program} {l : Launch} {e : Env} {s : State} {m : MethodId} {below : List Frame} {meth : Method} {c : Code} {D : va_G} {cB cI cJ cZ cT cR : ClassId} {b : Nat} {xs : Nat → Int32} {A B : Nat → Nat} {H : Heap} {locs : List Loc} {ls : Array Slot} (C0 : lw_At p s m meth c b 6 xs) (hE : EX s) (hK : va_K D vwCl [(cB, .byte), (cI, .int), (cJ, .long), (cZ, .boolean), (cT, .object RX7), (cR, .object RX3)] s) (hP : va_P D vwCl (fwAll cB cI cJ cZ cT cR A B) H) (hD : va_D (fun q : Nat => s.heap.size ≤ q) (fwAll cB cI cJ cZ cT cR A B)) (hS : va_S (fun q : Nat => s.heap.size ≤ q) s.heap H locs) (hl : lv_has ls 4 [(3, .int 0), (2, .ref (B 0)), (1, .ref (A 0)), (0, .ref b)]) : W p l e room_1 s m #[Value.ref b] below meth c H locs 180 4779 (lw_Z below #[Value.ref b] s) (F0 m 1860 ls []) := by
  obtain ⟨hx, hb, hr, hml, hown, hts, hX, hbl, hlocks, hgv⟩ := id C0
  have hown : s.vm.findClass RL = some m.cls := hown
  have hb : c.code = cL_law := hb
  have hA : ∀ q : Nat, s.heap.size ≤ q → (fun q : Nat => s.heap.size ≤ q) q := fun _ h => h
  have hbA : ¬ (fun q : Nat => s.heap.size ≤ q) b := Nat.not_le.mpr hbl
  have hP := hP.sub (ws' := [((A 0), .inr (9, [.ref (A 1), .ref (A 3), .ref (A 12), .ref (A 21), .int 0, .ref (A 49), .ref (A 51), .ref (A 60), .ref (A 61), .ref (A 62), .ref (A 63), .ref (A 64)])), ((A 49), .inr (5, [.int 0, .int 0, .ref (A 65), .ref (A 50)])), ((B 0), .inr (10, [.int 0, .ref (B 1), .ref (B 2), .ref (B 3), .ref (B 4), .ref (B 5), .int 0, .int 0, .int 0, .int 0, .int 0, .long 0, .int 0, .int 0, .int 0, .int (-1), .ref (B 6), .ref (B 7), .ref (B 8), .ref (B 9), .ref (B 10), .ref (B 11), .ref (B 12), .ref (B 13), .int 0, .int 0, .ref (B 14), .ref (B 15), .int 0, .int 0, .int 0, .ref (B 16), .ref (B 17), .int 0, .int 0, .int 0, .int 0, .int 0, .ref (B 18), .int 0, .int 0, .int 0])), ((B 7), .inl (cI, 30, .inl (fun _ => 0)))]) [0, 49, 60, 67] rfl
  have hD := hD.sub (ws' := [((A 0), .inr (9, [.ref (A 1), .ref (A 3), .ref (A 12), .ref (A 21), .int 0, .ref (A 49), .ref (A 51), .ref (A 60), .ref (A 61), .ref (A 62), .ref (A 63), .ref (A 64)])), ((A 49), .inr (5, [.int 0, .int 0, .ref (A 65), .ref (A 50)])), ((B 0), .inr (10, [.int 0, .ref (B 1), .ref (B 2), .ref (B 3), .ref (B 4), .ref (B 5), .int 0, .int 0, .int 0, .int 0, .int 0, .long 0, .int 0, .int 0, .int 0, .int (-1), .ref (B 6), .ref (B 7), .ref (B 8), .ref (B 9), .ref (B 10), .ref (B 11), .ref (B 12), .ref (B 13), .int 0, .int 0, .ref (B 14), .ref (B 15), .int 0, .int 0, .int 0, .ref (B 16), .ref (B 17), .int 0, .int 0, .int 0, .int 0, .int 0, .ref (B 18), .int 0, .int 0, .int 0])), ((B 7), .inl (cI, 30, .inl (fun _ => 0)))]) [0, 49, 60, 67] rfl rfl
  refine lv_aload_n hx hb dL_law_1860 rfl (lv_at hl 2 rfl) ?_
  refine lv_aload_n hx hb dL_law_1861 rfl (lv_at hl 3 rfl) ?_
  refine lv_iload_n hx hb dL_law_1862 rfl (lv_at hl 0 rfl) ?_
  refine lv_iconst (v := 1) hx hb dL_law_1863 (by decide) ?_
  refine lv_iadd hx hb dL_law_1864 ?_
  refine pv_i (v := 1) (by decide) ?_
  refine va_sld hx hb hX hbl hbA hS (vp_in_iff.mpr ⟨by decide, by decide⟩) dL_law_1865 ?_
  refine lv_topi (fun p1 ep1 => ?_)
  refine lv_aload_n hx hb dL_law_1866 rfl (lv_at hl 3 rfl) ?_
  refine lv_iload_n hx hb dL_law_1867 rfl (lv_at hl 0 rfl) ?_
  refine lv_iconst (v := 2) hx hb dL_law_1868 (by decide) ?_
  refine lv_iadd hx hb dL_law_1869 ?_
  refine pv_i (v := 2) (by decide) ?_
  refine va_sld hx hb hX hbl hbA hS (vp_in_iff.mpr ⟨by decide, by decide⟩) dL_law_1870 ?_
  refine lv_topi (fun p2 ep2 => ?_)
  by_cases hc1 : p1 < 0
  · refine cvR (n := 2) (As := [.int p1, .int p2]) (rest := []) ⟨hx, hb, hml, hown, hts⟩ (fun _ h => uw_in h) (kX9_oil_0 l D cB cI cJ cZ cT cR (A 0) (A 1) (A 3) (A 12) (A 21) (A 49) (A 51) (A 60) (A 61) (A 62) (A 63) (A 64) p1 p2 hc1) q_m1088 q_n1089 q_e1090 q_i1 q_c1091 (by decide +kernel) ⟨(Nat.le_of_ble_eq_true rfl), (Nat.le_of_ble_eq_true rfl)⟩ ⟨(Nat.le_of_ble_eq_true rfl), (Nat.le_of_ble_eq_true rfl)⟩ hK (hP.sub (ws' := [((A 0), .inr (9, [.ref (A 1), .ref (A 3), .ref (A 12), .ref (A 21), .int 0, .ref (A 49), .ref (A 51), .ref (A 60), .ref (A 61), .ref (A 62), .ref (A 63), .ref (A 64)]))]) [0] rfl) 9 0 rfl rfl rfl hl.1 rfl (Nat.le_of_ble_eq_true rfl) dL_law_1871 ?_
    refine lv_aload_n hx hb dL_law_1874 rfl (lv_at hl 1 rfl) ?_
    refine lv_aload_n hx hb dL_law_1875 rfl (lv_at hl 3 rfl) ?_
    refine lv_iload_n hx hb dL_law_1876 rfl (lv_at hl 0 rfl) ?_
    refine lv_iconst (v := 1) hx hb dL_law_1877 (by decide) ?_
    refine lv_iadd hx hb dL_law_1878 ?_
    refine pv_i (v := 1) (by decide) ?_
    refine va_sld hx hb hX hbl hbA hS (vp_in_iff.mpr ⟨by decide, by decide⟩) dL_law_1879 ?_
    refine pv_i (v := p1) ep1.symm ?_
    refine lv_aload_n hx hb dL_law_1880 rfl (lv_at hl 3 rfl) ?_
    refine lv_iload_n hx hb dL_law_1881 rfl (lv_at hl 0 rfl) ?_
    refine lv_iconst (v := 2) hx hb dL_law_1882 (by decide) ?_
    refine lv_iadd hx hb dL_law_1883 ?_
    refine pv_i (v := 2) (by decide) ?_
    refine va_sld hx hb hX hbl hbA hS (vp_in_iff.mpr ⟨by decide, by decide⟩) dL_law_1884 ?_
    refine pv_i (v := p2) ep2.symm ?_
    refine cvM (n := 2) (As := [.int p1, .int p2]) (rest := [.int (-1000)]) (wr := [((A 0), .inr (9, [.ref (A 1), .ref (A 3), .ref (A 12), .ref (A 21), .int 0, .ref (A 49), .ref (A 51), .ref (A 60), .ref (A 61), .ref (A 62), .ref (A 63), .ref (A 64)])), ((A 49), .inr (5, [.int 0, .int 0, .ref (A 65), .ref (A 50)]))]) ⟨hx, hb, hml, hown, hts⟩ (fun _ h => uw_in h) (kX10_oil_0 l D cB cI cJ cZ cT cR (B 0) (B 7) (B 1) (B 2) (B 3) (B 4) (B 5) (B 6) (B 8) (B 9) (B 10) (B 11) (B 12) (B 13) (B 14) (B 15) (B 16) (B 17) (B 18) p1 p2 H.size) q_m1875 q_n1876 q_e1877 q_i11 q_c1878 (by decide +kernel) ⟨(Nat.le_of_ble_eq_true rfl), (Nat.le_of_ble_eq_true rfl)⟩ ⟨(Nat.le_of_ble_eq_true rfl), (Nat.le_of_ble_eq_true rfl)⟩ hE hK hP hD hS hA [2, 3] [0, 1] rfl rfl rfl rfl (by decide) 10 0 rfl rfl rfl hl.1 rfl (Nat.le_of_ble_eq_true rfl) dL_law_1885 (fun r9 u H locs hpo hP hD hS => ?_)
    have hP : va_P D vwCl [((A 0), .inr (9, [.ref (A 1), .ref (A 3), .ref (A 12), .ref (A 21), .int 0, .ref (A 49), .ref (A 51), .ref (A 60), .ref (A 61), .ref (A 62), .ref (A 63), .ref (A 64)])), ((A 49), .inr (5, [.int 0, .int 0, .ref (A 65), .ref (A 50)])), ((B 0), .inr (10, [.int 0, .ref (B 1), .ref (B 2), .ref (B 3), .ref (B 4), .ref (B 5), .int 0, .int 0, .int 0, .int 0, .int 0, .long 0, .int 0, .int 0, .int 0, .int (-1), .ref (B 6), .ref (B 7), .ref (B 8), .ref (B 9), .ref (B 10), .ref (B 11), .ref (B 12), .ref (B 13), .int 0, .int 0, .ref (B 14), .ref (B 15), .int 0, .int 0, .int 0, .ref (B 16), .ref (B 17), .int 0, .int 0, .int 0, .int 0, .int 0, .ref (B 18), .int 0, .int 0, .int 0])), ((B 7), .inl (cI, 30, .inl (fun _ => 0)))] H := hP
    have hD : va_D (fun q : Nat => s.heap.size ≤ q) [((A 0), .inr (9, [.ref (A 1), .ref (A 3), .ref (A 12), .ref (A 21), .int 0, .ref (A 49), .ref (A 51), .ref (A 60), .ref (A 61), .ref (A 62), .ref (A 63), .ref (A 64)])), ((A 49), .inr (5, [.int 0, .int 0, .ref (A 65), .ref (A 50)])), ((B 0), .inr (10, [.int 0, .ref (B 1), .ref (B 2), .ref (B 3), .ref (B 4), .ref (B 5), .int 0, .int 0, .int 0, .int 0, .int 0, .long 0, .int 0, .int 0, .int 0, .int (-1), .ref (B 6), .ref (B 7), .ref (B 8), .ref (B 9), .ref (B 10), .ref (B 11), .ref (B 12), .ref (B 13), .int 0, .int 0, .ref (B 14), .ref (B 15), .int 0, .int 0, .int 0, .ref (B 16), .ref (B 17), .int 0, .int 0, .int 0, .int 0, .int 0, .ref (B 18), .int 0, .int 0, .int 0])), ((B 7), .inl (cI, 30, .inl (fun _ => 0)))] := hD
    refine W.cs (cells' := 180) (slots' := 4779) rfl rfl ?_
    have hpo : r9 = (-1000) := hpo
    subst hpo
    refine lv_icmp_eq (tgt := 2362) hx hb dL_law_1888 (by decide) (fun _ => ?_) (fun c9 => absurd (by decide) c9)
    exact law_end C0 hS (Nat.le_of_ble_eq_true rfl) (Nat.le_of_ble_eq_true rfl) ls hl
  · refine cvR (n := 2) (As := [.int p1, .int p2]) (rest := []) ⟨hx, hb, hml, hown, hts⟩ (fun _ h => uw_in h) (kX9_oil_1 l D cB cI cJ cZ cT cR (A 0) (A 49) (A 1) (A 3) (A 12) (A 21) (A 51) (A 60) (A 61) (A 62) (A 63) (A 64) (A 65) (A 50) p1 p2 hc1) q_m1088 q_n1089 q_e1090 q_i1 q_c1091 (by decide +kernel) ⟨(Nat.le_of_ble_eq_true rfl), (Nat.le_of_ble_eq_true rfl)⟩ ⟨(Nat.le_of_ble_eq_true rfl), (Nat.le_of_ble_eq_true rfl)⟩ hK (hP.sub (ws' := [((A 0), .inr (9, [.ref (A 1), .ref (A 3), .ref (A 12), .ref (A 21), .int 0, .ref (A 49), .ref (A 51), .ref (A 60), .ref (A 61), .ref (A 62), .ref (A 63), .ref (A 64)])), ((A 49), .inr (5, [.int 0, .int 0, .ref (A 65), .ref (A 50)]))]) [0, 1] rfl) 9 0 rfl rfl rfl hl.1 rfl (Nat.le_of_ble_eq_true rfl) dL_law_1871 ?_
    refine lv_aload_n hx hb dL_law_1874 rfl (lv_at hl 1 rfl) ?_
    refine lv_aload_n hx hb dL_law_1875 rfl (lv_at hl 3 rfl) ?_
    refine lv_iload_n hx hb dL_law_1876 rfl (lv_at hl 0 rfl) ?_
    refine lv_iconst (v := 1) hx hb dL_law_1877 (by decide) ?_
    refine lv_iadd hx hb dL_law_1878 ?_
    refine pv_i (v := 1) (by decide) ?_
    refine va_sld hx hb hX hbl hbA hS (vp_in_iff.mpr ⟨by decide, by decide⟩) dL_law_1879 ?_
    refine pv_i (v := p1) ep1.symm ?_
    refine lv_aload_n hx hb dL_law_1880 rfl (lv_at hl 3 rfl) ?_
    refine lv_iload_n hx hb dL_law_1881 rfl (lv_at hl 0 rfl) ?_
    refine lv_iconst (v := 2) hx hb dL_law_1882 (by decide) ?_
    refine lv_iadd hx hb dL_law_1883 ?_
    refine pv_i (v := 2) (by decide) ?_
    refine va_sld hx hb hX hbl hbA hS (vp_in_iff.mpr ⟨by decide, by decide⟩) dL_law_1884 ?_
    refine pv_i (v := p2) ep2.symm ?_
    refine cvM (n := 2) (As := [.int p1, .int p2]) (rest := [.int (-1000)]) (wr := [((A 0), .inr (9, [.ref (A 1), .ref (A 3), .ref (A 12), .ref (A 21), .int 0, .ref (A 49), .ref (A 51), .ref (A 60), .ref (A 61), .ref (A 62), .ref (A 63), .ref (A 64)])), ((A 49), .inr (5, [.int 0, .int 0, .ref (A 65), .ref (A 50)]))]) ⟨hx, hb, hml, hown, hts⟩ (fun _ h => uw_in h) (kX10_oil_0 l D cB cI cJ cZ cT cR (B 0) (B 7) (B 1) (B 2) (B 3) (B 4) (B 5) (B 6) (B 8) (B 9) (B 10) (B 11) (B 12) (B 13) (B 14) (B 15) (B 16) (B 17) (B 18) p1 p2 H.size) q_m1875 q_n1876 q_e1877 q_i11 q_c1878 (by decide +kernel) ⟨(Nat.le_of_ble_eq_true rfl), (Nat.le_of_ble_eq_true rfl)⟩ ⟨(Nat.le_of_ble_eq_true rfl), (Nat.le_of_ble_eq_true rfl)⟩ hE hK hP hD hS hA [2, 3] [0, 1] rfl rfl rfl rfl (by decide) 10 0 rfl rfl rfl hl.1 rfl (Nat.le_of_ble_eq_true rfl) dL_law_1885 (fun r9 u H locs hpo hP hD hS => ?_)
    have hP : va_P D vwCl [((A 0), .inr (9, [.ref (A 1), .ref (A 3), .ref (A 12), .ref (A 21), .int 0, .ref (A 49), .ref (A 51), .ref (A 60), .ref (A 61), .ref (A 62), .ref (A 63), .ref (A 64)])), ((A 49), .inr (5, [.int 0, .int 0, .ref (A 65), .ref (A 50)])), ((B 0), .inr (10, [.int 0, .ref (B 1), .ref (B 2), .ref (B 3), .ref (B 4), .ref (B 5), .int 0, .int 0, .int 0, .int 0, .int 0, .long 0, .int 0, .int 0, .int 0, .int (-1), .ref (B 6), .ref (B 7), .ref (B 8), .ref (B 9), .ref (B 10), .ref (B 11), .ref (B 12), .ref (B 13), .int 0, .int 0, .ref (B 14), .ref (B 15), .int 0, .int 0, .int 0, .ref (B 16), .ref (B 17), .int 0, .int 0, .int 0, .int 0, .int 0, .ref (B 18), .int 0, .int 0, .int 0])), ((B 7), .inl (cI, 30, .inl (fun _ => 0)))] H := hP
    have hD : va_D (fun q : Nat => s.heap.size ≤ q) [((A 0), .inr (9, [.ref (A 1), .ref (A 3), .ref (A 12), .ref (A 21), .int 0, .ref (A 49), .ref (A 51), .ref (A 60), .ref (A 61), .ref (A 62), .ref (A 63), .ref (A 64)])), ((A 49), .inr (5, [.int 0, .int 0, .ref (A 65), .ref (A 50)])), ((B 0), .inr (10, [.int 0, .ref (B 1), .ref (B 2), .ref (B 3), .ref (B 4), .ref (B 5), .int 0, .int 0, .int 0, .int 0, .int 0, .long 0, .int 0, .int 0, .int 0, .int (-1), .ref (B 6), .ref (B 7), .ref (B 8), .ref (B 9), .ref (B 10), .ref (B 11), .ref (B 12), .ref (B 13), .int 0, .int 0, .ref (B 14), .ref (B 15), .int 0, .int 0, .int 0, .ref (B 16), .ref (B 17), .int 0, .int 0, .int 0, .int 0, .int 0, .ref (B 18), .int 0, .int 0, .int 0])), ((B 7), .inl (cI, 30, .inl (fun _ => 0)))] := hD
    refine W.cs (cells' := 180) (slots' := 4779) rfl rfl ?_
    have hpo : r9 = (-1000) := hpo
    subst hpo
    refine lv_icmp_eq (tgt := 2362) hx hb dL_law_1888 (by decide) (fun _ => ?_) (fun c9 => absurd (by decide) c9)
    exact law_end C0 hS (Nat.le_of_ble_eq_true rfl) (Nat.le_of_ble_eq_true rfl) ls hl
set_option maxHeartbeats 4000000 in
set_option maxRecDepth 100000 in
theorem kX9_actOnLate_4 (l : Launch) (D : va_G) (cB cI cJ cZ cT cR : ClassId) (a0 a1 a2 a3 a4 a5 a6 a7 a8 a9 a10 a11 : Nat) (x0 : Int32) (x1 : Int32) (hy0 : x0 < 0) : Met l yX9_actOnLate (uc yX9_actOnLate cX9_actOnLate 5 (some .int)) (rmL 2 0 0) (va_Pc [.ref a0, .int 2, .int x0, .int x1] (RPre D [(cB, .byte), (cI, .int), (cJ, .long), (cZ, .boolean), (cT, .object RX7), (cR, .object RX3)] [(a0, .inr (9, [.ref a1, .ref a2, .ref a3, .ref a4, .int 0, .ref a5, .ref a6, .ref a7, .ref a8, .ref a9, .ref a10, .ref a11]))])) (QcRead (-1000)) 0 0 (fun _ => False) := by
  refine pm (by decide) (Nat.le_of_ble_eq_true rfl) ?_
  intro p e s m below meth c ls hx hb hr hml hown hlk hnm hts hv hl
  have hown : s.vm.findClass RX9 = some m.cls := hown
  have hl : lv_has ls 5 [(0, .ref a0), (1, .int 2), (2, .int x0), (3, .int x1)] := hl
  obtain ⟨hP, hK⟩ := hv
  refine lv_aload_n hx hb dX9_actOnLate_0 rfl (lv_at hl 0 rfl) ?_
  refine lv_iload_n hx hb dX9_actOnLate_1 rfl (lv_at hl 2 rfl) ?_
  refine cvR (n := 1) (As := [.int x0]) (rest := []) ⟨hx, hb, hml, hown, hts⟩ uc_in (kX9_isClock_0 l D cB cI cJ cZ cT cR a0 a1 a2 a3 a4 a5 a6 a7 a8 a9 a10 a11 x0 hy0) q_m589 q_n591 q_p11 q_i1 q_c592 (by decide +kernel) ⟨(Nat.le_of_ble_eq_true rfl), (Nat.le_of_ble_eq_true rfl)⟩ ⟨(Nat.le_of_ble_eq_true rfl), (Nat.le_of_ble_eq_true rfl)⟩ hK (hP.sub (ws' := [(a0, .inr (9, [.ref a1, .ref a2, .ref a3, .ref a4, .int 0, .ref a5, .ref a6, .ref a7, .ref a8, .ref a9, .ref a10, .ref a11]))]) [0] rfl) 9 0 rfl rfl rfl hl.1 rfl (Nat.le_of_ble_eq_true rfl) dX9_actOnLate_2 ?_
  refine lv_if_eq (tgt := 16) hx hb dX9_actOnLate_5 (by decide) (fun _ => ?_) (fun c9 => absurd (by decide) c9)
  refine lv_sipush (v := (-1000)) hx hb dX9_actOnLate_16 (by decide) ?_
  exact W.iret hx hb hr (fun t ht _ => ⟨rfl, ht⟩) (fun _ h => by cases h) dX9_actOnLate_19
set_option maxHeartbeats 4000000 in
set_option maxRecDepth 100000 in
theorem kX9_stop_0 (l : Launch) (D : va_G) (cB cI cJ cZ cT cR : ClassId) (a0 a1 a2 a3 a4 a5 a6 a7 a8 a9 a10 a11 : Nat) (x0 : Int32) (x1 : Int32) (hy0 : x0 < 0) : Met l yX9_stop (uc yX9_stop cX9_stop 3 (some .int)) (rmL 3 0 0) (va_Pc [.ref a0, .int x0, .int x1] (RPre D [(cB, .byte), (cI, .int), (cJ, .long), (cZ, .boolean), (cT, .object RX7), (cR, .object RX3)] [(a0, .inr (9, [.ref a1, .ref a2, .ref a3, .ref a4, .int 0, .ref a5, .ref a6, .ref a7, .ref a8, .ref a9, .ref a10, .ref a11]))])) (QcRead (-1000)) 0 0 (fun _ => False) := by
  refine pm (by decide) (Nat.le_of_ble_eq_true rfl) ?_
  intro p e s m below meth c ls hx hb hr hml hown hlk hnm hts hv hl
  have hown : s.vm.findClass RX9 = some m.cls := hown
  have hl : lv_has ls 3 [(0, .ref a0), (1, .int x0), (2, .int x1)] := hl
  obtain ⟨hP, hK⟩ := hv
  refine lv_aload_n hx hb dX9_stop_0 rfl (lv_at hl 0 rfl) ?_
  refine lv_iconst (v := 2) hx hb dX9_stop_1 (by decide) ?_
  refine lv_iload_n hx hb dX9_stop_2 rfl (lv_at hl 1 rfl) ?_
  refine lv_iload_n hx hb dX9_stop_3 rfl (lv_at hl 2 rfl) ?_
  refine cvR (n := 3) (As := [.int 2, .int x0, .int x1]) (rest := []) ⟨hx, hb, hml, hown, hts⟩ uc_in (kX9_actOnLate_4 l D cB cI cJ cZ cT cR a0 a1 a2 a3 a4 a5 a6 a7 a8 a9 a10 a11 x0 x1 hy0) q_m1076 q_n1078 q_p46 q_i1 q_c1079 (by decide +kernel) ⟨(Nat.le_of_ble_eq_true rfl), (Nat.le_of_ble_eq_true rfl)⟩ ⟨(Nat.le_of_ble_eq_true rfl), (Nat.le_of_ble_eq_true rfl)⟩ hK (hP.sub (ws' := [(a0, .inr (9, [.ref a1, .ref a2, .ref a3, .ref a4, .int 0, .ref a5, .ref a6, .ref a7, .ref a8, .ref a9, .ref a10, .ref a11]))]) [0] rfl) 9 0 rfl rfl rfl hl.1 rfl (Nat.le_of_ble_eq_true rfl) dX9_stop_4 ?_
  exact W.iret hx hb hr (fun t ht _ => ⟨rfl, ht⟩) (fun _ h => by cases h) dX9_stop_7
set_option maxHeartbeats 4000000 in
set_option maxRecDepth 100000 in
theorem kX10_stop_0 (l : Launch) (D : va_G) (cB cI cJ cZ cT cR : ClassId) (a0 a1 a2 a3 a4 a5 a6 a7 a8 a9 a10 a11 a12 a13 a14 a15 a16 a17 a18 : Nat) (x0 : Int32) (x1 : Int32) (sz : Nat) : Met l yX10_stop (uc yX10_stop cX10_stop 3 (some .int)) (rmL 3 0 0) (va_Pc [.ref a0, .int x0, .int x1] (MPre D [(cB, .byte), (cI, .int), (cJ, .long), (cZ, .boolean), (cT, .object RX7), (cR, .object RX3)] [(a0, .inr (10, [.int 0, .ref a2, .ref a3, .ref a4, .ref a5, .ref a6, .int 0, .int 0, .int 0, .int 0, .int 0, .long 0, .int 0, .int 0, .int 0, .int (-1), .ref a7, .ref a1, .ref a8, .ref a9, .ref a10, .ref a11, .ref a12, .ref a13, .int 0, .int 0, .ref a14, .ref a15, .int 0, .int 0, .int 0, .ref a16, .ref a17, .int 0, .int 0, .int 0, .int 0, .int 0, .ref a18, .int 0, .int 0, .int 0])), (a1, .inl (cI, 30, .inl (fun _ => 0)))] sz)) (va_Qi (fun (r : Int32) (_ : Unit) => r = (-1000)) (MB D [(cB, .byte), (cI, .int), (cJ, .long), (cZ, .boolean), (cT, .object RX7), (cR, .object RX3)] [(a0, .inr (10, [.int 0, .ref a2, .ref a3, .ref a4, .ref a5, .ref a6, .int 0, .int 0, .int 0, .int 0, .int 0, .long 0, .int 0, .int 0, .int 0, .int (-1), .ref a7, .ref a1, .ref a8, .ref a9, .ref a10, .ref a11, .ref a12, .ref a13, .int 0, .int 0, .ref a14, .ref a15, .int 0, .int 0, .int 0, .ref a16, .ref a17, .int 0, .int 0, .int 0, .int 0, .int 0, .ref a18, .int 0, .int 0, .int 0])), (a1, .inl (cI, 30, .inl (fun _ => 0)))] sz (fun (u : Unit) => [(a0, .inr (10, [.int 0, .ref a2, .ref a3, .ref a4, .ref a5, .ref a6, .int 0, .int 0, .int 0, .int 0, .int 0, .long 0, .int 0, .int 0, .int 0, .int (-1), .ref a7, .ref a1, .ref a8, .ref a9, .ref a10, .ref a11, .ref a12, .ref a13, .int 0, .int 0, .ref a14, .ref a15, .int 0, .int 0, .int 0, .ref a16, .ref a17, .int 0, .int 0, .int 0, .int 0, .int 0, .ref a18, .int 0, .int 0, .int 0])), (a1, .inl (cI, 30, .inl (fun _ => 0)))])) (va_A [(a0, .inr (10, [.int 0, .ref a2, .ref a3, .ref a4, .ref a5, .ref a6, .int 0, .int 0, .int 0, .int 0, .int 0, .long 0, .int 0, .int 0, .int 0, .int (-1), .ref a7, .ref a1, .ref a8, .ref a9, .ref a10, .ref a11, .ref a12, .ref a13, .int 0, .int 0, .ref a14, .ref a15, .int 0, .int 0, .int 0, .ref a16, .ref a17, .int 0, .int 0, .int 0, .int 0, .int 0, .ref a18, .int 0, .int 0, .int 0])), (a1, .inl (cI, 30, .inl (fun _ => 0)))] sz)) 0 0 (va_A [(a0, .inr (10, [.int 0, .ref a2, .ref a3, .ref a4, .ref a5, .ref a6, .int 0, .int 0, .int 0, .int 0, .int 0, .long 0, .int 0, .int 0, .int 0, .int (-1), .ref a7, .ref a1, .ref a8, .ref a9, .ref a10, .ref a11, .ref a12, .ref a13, .int 0, .int 0, .ref a14, .ref a15, .int 0, .int 0, .int 0, .ref a16, .ref a17, .int 0, .int 0, .int 0, .int 0, .int 0, .ref a18, .int 0, .int 0, .int 0])), (a1, .inl (cI, 30, .inl (fun _ => 0)))] sz) := by
  refine pm (by decide) (Nat.le_of_ble_eq_true rfl) ?_
  intro p e s m below meth c ls hx hb hr hml hown hlk hnm hts hv hl
  have hown : s.vm.findClass RX10 = some m.cls := hown
  have hl : lv_has ls 3 [(0, .ref a0), (1, .int x0), (2, .int x1)] := hl
  obtain ⟨hsz, hP, hK, hD0, hE⟩ := hv
  subst hsz
  have hD := hD0.self (sz := s.heap.size)
  obtain ⟨AA, hAe⟩ : ∃ AA, AA = va_A [(a0, .inr (10, [.int 0, .ref a2, .ref a3, .ref a4, .ref a5, .ref a6, .int 0, .int 0, .int 0, .int 0, .int 0, .long 0, .int 0, .int 0, .int 0, .int (-1), .ref a7, .ref a1, .ref a8, .ref a9, .ref a10, .ref a11, .ref a12, .ref a13, .int 0, .int 0, .ref a14, .ref a15, .int 0, .int 0, .int 0, .ref a16, .ref a17, .int 0, .int 0, .int 0, .int 0, .int 0, .ref a18, .int 0, .int 0, .int 0])), (a1, .inl (cI, 30, .inl (fun _ => 0)))] s.heap.size := ⟨_, rfl⟩
  rw [← hAe] at hD
  have hA : ∀ q : Nat, s.heap.size ≤ q → AA q := fun q h => by rw [hAe]; exact Or.inr h
  have hS : va_S AA s.heap s.heap [] := va_S.rf
  obtain ⟨-, hAOT, hAOR, hAOI⟩ := id hE
  refine lv_aload_n hx hb dX10_stop_0 rfl (lv_at hl 0 rfl) ?_
  refine lv_iconst (v := 0) hx hb dX10_stop_1 (by decide) ?_
  refine va_put (D := D) (ci := 10) (v := .int 0) (ty := .int) (C := RX10) (T := TX10) (N := 42) hx hb hts (fun w h => uc_in w (inX10 w h)) tyX10 tyX10_ok nmX10 hown hK hP hD hS 0 rfl rfl 0 (by decide) (hts _ (uc_in _ q_f1188)) (fun _ h9 => h9) rfl (by decide +kernel) rfl rfl (Nat.le_of_ble_eq_true rfl) dX10_stop_2 (fun H locs hP hD hS => ?_)
  have hP : va_P D vwCl [(a0, .inr (10, [.int 0, .ref a2, .ref a3, .ref a4, .ref a5, .ref a6, .int 0, .int 0, .int 0, .int 0, .int 0, .long 0, .int 0, .int 0, .int 0, .int (-1), .ref a7, .ref a1, .ref a8, .ref a9, .ref a10, .ref a11, .ref a12, .ref a13, .int 0, .int 0, .ref a14, .ref a15, .int 0, .int 0, .int 0, .ref a16, .ref a17, .int 0, .int 0, .int 0, .int 0, .int 0, .ref a18, .int 0, .int 0, .int 0])), (a1, .inl (cI, 30, .inl (fun _ => 0)))] H := hP
  have hD : va_D AA [(a0, .inr (10, [.int 0, .ref a2, .ref a3, .ref a4, .ref a5, .ref a6, .int 0, .int 0, .int 0, .int 0, .int 0, .long 0, .int 0, .int 0, .int 0, .int (-1), .ref a7, .ref a1, .ref a8, .ref a9, .ref a10, .ref a11, .ref a12, .ref a13, .int 0, .int 0, .ref a14, .ref a15, .int 0, .int 0, .int 0, .ref a16, .ref a17, .int 0, .int 0, .int 0, .int 0, .int 0, .ref a18, .int 0, .int 0, .int 0])), (a1, .inl (cI, 30, .inl (fun _ => 0)))] := hD
  refine lv_aload_n hx hb dX10_stop_5 rfl (lv_at hl 0 rfl) ?_
  refine lv_iload_n hx hb dX10_stop_6 rfl (lv_at hl 1 rfl) ?_
  refine lv_i2l (v := x0.toInt64) hx hb dX10_stop_7 rfl ?_
  refine cvR (n := 1) (As := [.long x0.toInt64]) (rest := []) ⟨hx, hb, hml, hown, hts⟩ uc_in (kX10_isClock_0 l D cB cI cJ cZ cT cR a0 a1 a2 a3 a4 a5 a6 a7 a8 a9 a10 a11 a12 a13 a14 a15 a16 a17 a18 x0) q_m1460 q_n1462 q_p71 q_i11 q_c1463 (by decide +kernel) ⟨(Nat.le_of_ble_eq_true rfl), (Nat.le_of_ble_eq_true rfl)⟩ ⟨(Nat.le_of_ble_eq_true rfl), (Nat.le_of_ble_eq_true rfl)⟩ hK (hP.sub (ws' := [(a0, .inr (10, [.int 0, .ref a2, .ref a3, .ref a4, .ref a5, .ref a6, .int 0, .int 0, .int 0, .int 0, .int 0, .long 0, .int 0, .int 0, .int 0, .int (-1), .ref a7, .ref a1, .ref a8, .ref a9, .ref a10, .ref a11, .ref a12, .ref a13, .int 0, .int 0, .ref a14, .ref a15, .int 0, .int 0, .int 0, .ref a16, .ref a17, .int 0, .int 0, .int 0, .int 0, .int 0, .ref a18, .int 0, .int 0, .int 0])), (a1, .inl (cI, 30, .inl (fun _ => 0)))]) [0, 1] rfl) 10 0 rfl rfl rfl hl.1 rfl (Nat.le_of_ble_eq_true rfl) dX10_stop_8 ?_
  refine lv_if_eq (tgt := 33) hx hb dX10_stop_11 (by decide) (fun _ => ?_) (fun c9 => absurd (by decide) c9)
  refine lv_sipush (v := (-1000)) hx hb dX10_stop_33 (by decide) ?_
  subst hAe
  have hP9 := hP.sub (ws' := [(a0, .inr (10, [.int 0, .ref a2, .ref a3, .ref a4, .ref a5, .ref a6, .int 0, .int 0, .int 0, .int 0, .int 0, .long 0, .int 0, .int 0, .int 0, .int (-1), .ref a7, .ref a1, .ref a8, .ref a9, .ref a10, .ref a11, .ref a12, .ref a13, .int 0, .int 0, .ref a14, .ref a15, .int 0, .int 0, .int 0, .ref a16, .ref a17, .int 0, .int 0, .int 0, .int 0, .int 0, .ref a18, .int 0, .int 0, .int 0])), (a1, .inl (cI, 30, .inl (fun _ => 0)))]) [0, 1] rfl
  have hD9 := hD.sub (ws' := [(a0, .inr (10, [.int 0, .ref a2, .ref a3, .ref a4, .ref a5, .ref a6, .int 0, .int 0, .int 0, .int 0, .int 0, .long 0, .int 0, .int 0, .int 0, .int (-1), .ref a7, .ref a1, .ref a8, .ref a9, .ref a10, .ref a11, .ref a12, .ref a13, .int 0, .int 0, .ref a14, .ref a15, .int 0, .int 0, .int 0, .ref a16, .ref a17, .int 0, .int 0, .int 0, .int 0, .int 0, .ref a18, .int 0, .int 0, .int 0])), (a1, .inl (cI, 30, .inl (fun _ => 0)))]) [0, 1] rfl rfl
  exact W.iret hx hb hr (fun t ht hW => ⟨⟨(-1000), (), rfl, rfl, by rw [ht]; exact hP9, va_K.moved hW.alike hK, hD9⟩, hS.F ht⟩) hS.2.2 dX10_stop_36
set_option maxHeartbeats 4000000 in
set_option maxRecDepth 100000 in
theorem kX9_actOnLate_5 (l : Launch) (D : va_G) (cB cI cJ cZ cT cR : ClassId) (a0 a1 a2 a3 a4 a5 a6 a7 a8 a9 a10 a11 a12 a13 : Nat) (x0 : Int32) (x1 : Int32) (hy0 : ¬ (x0 < 0)) : Met l yX9_actOnLate (uc yX9_actOnLate cX9_actOnLate 5 (some .int)) (rmL 2 0 0) (va_Pc [.ref a0, .int 2, .int x0, .int x1] (RPre D [(cB, .byte), (cI, .int), (cJ, .long), (cZ, .boolean), (cT, .object RX7), (cR, .object RX3)] [(a0, .inr (9, [.ref a2, .ref a3, .ref a4, .ref a5, .int 0, .ref a1, .ref a6, .ref a7, .ref a8, .ref a9, .ref a10, .ref a11])), (a1, .inr (5, [.int 0, .int 0, .ref a12, .ref a13]))])) (QcRead (-1000)) 0 0 (fun _ => False) := by
  refine pm (by decide) (Nat.le_of_ble_eq_true rfl) ?_
  intro p e s m below meth c ls hx hb hr hml hown hlk hnm hts hv hl
  have hown : s.vm.findClass RX9 = some m.cls := hown
  have hl : lv_has ls 5 [(0, .ref a0), (1, .int 2), (2, .int x0), (3, .int x1)] := hl
  obtain ⟨hP, hK⟩ := hv
  refine lv_aload_n hx hb dX9_actOnLate_0 rfl (lv_at hl 0 rfl) ?_
  refine lv_iload_n hx hb dX9_actOnLate_1 rfl (lv_at hl 2 rfl) ?_
  refine cvR (n := 1) (As := [.int x0]) (rest := []) ⟨hx, hb, hml, hown, hts⟩ uc_in (kX9_isClock_1 l D cB cI cJ cZ cT cR a0 a1 a2 a3 a4 a5 a6 a7 a8 a9 a10 a11 a12 a13 x0 hy0) q_m589 q_n591 q_p11 q_i1 q_c592 (by decide +kernel) ⟨(Nat.le_of_ble_eq_true rfl), (Nat.le_of_ble_eq_true rfl)⟩ ⟨(Nat.le_of_ble_eq_true rfl), (Nat.le_of_ble_eq_true rfl)⟩ hK (hP.sub (ws' := [(a0, .inr (9, [.ref a2, .ref a3, .ref a4, .ref a5, .int 0, .ref a1, .ref a6, .ref a7, .ref a8, .ref a9, .ref a10, .ref a11])), (a1, .inr (5, [.int 0, .int 0, .ref a12, .ref a13]))]) [0, 1] rfl) 9 0 rfl rfl rfl hl.1 rfl (Nat.le_of_ble_eq_true rfl) dX9_actOnLate_2 ?_
  refine lv_if_eq (tgt := 16) hx hb dX9_actOnLate_5 (by decide) (fun _ => ?_) (fun c9 => absurd (by decide) c9)
  refine lv_sipush (v := (-1000)) hx hb dX9_actOnLate_16 (by decide) ?_
  exact W.iret hx hb hr (fun t ht _ => ⟨rfl, ht⟩) (fun _ h => by cases h) dX9_actOnLate_19
set_option maxHeartbeats 4000000 in
set_option maxRecDepth 100000 in
theorem kX9_stop_1 (l : Launch) (D : va_G) (cB cI cJ cZ cT cR : ClassId) (a0 a1 a2 a3 a4 a5 a6 a7 a8 a9 a10 a11 a12 a13 : Nat) (x0 : Int32) (x1 : Int32) (hy0 : ¬ (x0 < 0)) : Met l yX9_stop (uc yX9_stop cX9_stop 3 (some .int)) (rmL 3 0 0) (va_Pc [.ref a0, .int x0, .int x1] (RPre D [(cB, .byte), (cI, .int), (cJ, .long), (cZ, .boolean), (cT, .object RX7), (cR, .object RX3)] [(a0, .inr (9, [.ref a2, .ref a3, .ref a4, .ref a5, .int 0, .ref a1, .ref a6, .ref a7, .ref a8, .ref a9, .ref a10, .ref a11])), (a1, .inr (5, [.int 0, .int 0, .ref a12, .ref a13]))])) (QcRead (-1000)) 0 0 (fun _ => False) := by
  refine pm (by decide) (Nat.le_of_ble_eq_true rfl) ?_
  intro p e s m below meth c ls hx hb hr hml hown hlk hnm hts hv hl
  have hown : s.vm.findClass RX9 = some m.cls := hown
  have hl : lv_has ls 3 [(0, .ref a0), (1, .int x0), (2, .int x1)] := hl
  obtain ⟨hP, hK⟩ := hv
  refine lv_aload_n hx hb dX9_stop_0 rfl (lv_at hl 0 rfl) ?_
  refine lv_iconst (v := 2) hx hb dX9_stop_1 (by decide) ?_
  refine lv_iload_n hx hb dX9_stop_2 rfl (lv_at hl 1 rfl) ?_
  refine lv_iload_n hx hb dX9_stop_3 rfl (lv_at hl 2 rfl) ?_
  refine cvR (n := 3) (As := [.int 2, .int x0, .int x1]) (rest := []) ⟨hx, hb, hml, hown, hts⟩ uc_in (kX9_actOnLate_5 l D cB cI cJ cZ cT cR a0 a1 a2 a3 a4 a5 a6 a7 a8 a9 a10 a11 a12 a13 x0 x1 hy0) q_m1076 q_n1078 q_p46 q_i1 q_c1079 (by decide +kernel) ⟨(Nat.le_of_ble_eq_true rfl), (Nat.le_of_ble_eq_true rfl)⟩ ⟨(Nat.le_of_ble_eq_true rfl), (Nat.le_of_ble_eq_true rfl)⟩ hK (hP.sub (ws' := [(a0, .inr (9, [.ref a2, .ref a3, .ref a4, .ref a5, .int 0, .ref a1, .ref a6, .ref a7, .ref a8, .ref a9, .ref a10, .ref a11])), (a1, .inr (5, [.int 0, .int 0, .ref a12, .ref a13]))]) [0, 1] rfl) 9 0 rfl rfl rfl hl.1 rfl (Nat.le_of_ble_eq_true rfl) dX9_stop_4 ?_
  exact W.iret hx hb hr (fun t ht _ => ⟨rfl, ht⟩) (fun _ h => by cases h) dX9_stop_7
