theorem IC9 : IC u9 := by
  refine ⟨?_, ?_, fun _ => by decide⟩
  · decide
  · intro q hq j
    simp only [ICa, List.mem_cons, List.not_mem_nil, or_false] at hq
    rcases hq with rfl
    exact ⟨by show (0 : Int) ≤ (0 : Int32).toInt; decide, by show (0 : Int32).toInt ≤ 6; decide⟩
theorem IM9 : IM v9 := by
  refine ⟨?_, ?_, ?_⟩
  · decide
  · intro q hq j
    simp only [IMa, List.mem_cons, List.not_mem_nil, or_false] at hq
    rcases hq with rfl | rfl
    · exact ⟨by show (-1 : Int) ≤ (-1 : Int32).toInt; decide, by show (-1 : Int32).toInt ≤ 3; decide⟩
    · exact ⟨by show (0 : Int) ≤ (0 : Int32).toInt; decide, by show (0 : Int32).toInt ≤ 60; decide⟩
  · intro j
    have h := hB0 (j % 6)
    exact ⟨by show (0 : Int) ≤ (0 : Int32).toInt; decide, by show (0 : Int32).toInt ≤ hB (j % 6); have e : (0 : Int32).toInt = 0 := (by decide); omega⟩
set_option maxHeartbeats 4000000 in
set_option maxRecDepth 100000 in
theorem whole_start {p : Program} {e : Env} {s : State} {m : MethodId} {below : List Frame} {meth : Method} {c : Code} (l : Launch) (hflags : l.flags = flags0) {b L : Nat} {xs : Nat → Int32} (hL : L ≤ 3072) (C0 : lw_At p s m meth c b L xs) : W p l e room_1 s m #[Value.ref b] below meth c s.heap [] 0 0 (lw_Z below #[Value.ref b] s) (entryFrame m ([Value.ref b] : List Value).toArray 4) := by
  obtain ⟨hx, hb, hr, hml, hown, hts, hX, hbl, hlocks, hgv⟩ := id C0
  have hown : s.vm.findClass RL = some m.cls := hown
  have hb : c.code = cL_law := hb
  have hA : ∀ q : Nat, s.heap.size ≤ q → (fun q : Nat => s.heap.size ≤ q) q := fun _ h => h
  obtain ⟨adK, adV, hXS⟩ := XS_start hts hgv
  obtain ⟨c0, iS0, hKn0⟩ := u_known (C := RX0) (T := TX0) (N := 6) (n := 6) hts (fun w h => uw_in (inX0 w h)) (hts _ (uw_in q_b267))
  obtain ⟨c1, iS1, hKn1⟩ := u_known (C := RX1) (T := TX1) (N := 15) (n := 15) hts (fun w h => uw_in (inX1 w h)) (hts _ (uw_in q_b211))
  obtain ⟨c2, iS2, hKn2⟩ := u_known (C := RX2) (T := TX2) (N := 6) (n := 6) hts (fun w h => uw_in (inX2 w h)) (hts _ (uw_in q_b295))
  obtain ⟨c3, iS3, hKn3⟩ := u_known (C := RX3) (T := TX3) (N := 3) (n := 3) hts (fun w h => uw_in (inX3 w h)) (hts _ (uw_in q_b187))
  obtain ⟨c4, iS4, hKn4⟩ := u_known (C := RX4) (T := TX4) (N := 4) (n := 4) hts (fun w h => uw_in (inX4 w h)) (hts _ (uw_in q_b362))
  obtain ⟨c5, iS5, hKn5⟩ := u_known (C := RX5) (T := TX5) (N := 4) (n := 4) hts (fun w h => uw_in (inX5 w h)) (hts _ (uw_in q_b154))
  obtain ⟨c6, iS6, hKn6⟩ := u_known (C := RX6) (T := TX6) (N := 8) (n := 8) hts (fun w h => uw_in (inX6 w h)) (hts _ (uw_in q_b28))
  obtain ⟨c7, iS7, hKn7⟩ := u_known (C := RX7) (T := TX7) (N := 16) (n := 16) hts (fun w h => uw_in (inX7 w h)) (hts _ (uw_in q_b63))
  obtain ⟨c8, iS8, hKn8⟩ := u_known (C := RX8) (T := TX8) (N := 9) (n := 9) hts (fun w h => uw_in (inX8 w h)) (hts _ (uw_in q_b323))
  obtain ⟨c9, iS9, hKn9⟩ := u_known (C := RX9) (T := TX9) (N := 12) (n := 12) hts (fun w h => uw_in (inX9 w h)) (hts _ (uw_in q_b20))
  obtain ⟨c10, iS10, hKn10⟩ := u_known (C := RX10) (T := TX10) (N := 42) (n := 42) hts (fun w h => uw_in (inX10 w h)) (hts _ (uw_in q_b1183))
  obtain ⟨D, hKc⟩ : ∃ (D : va_G), ∀ (k : Nat) (q : vw_C), vwCl[k]? = some q → u_Kn s q.1 q.2.1 q.2.2 (D.1 k) (D.2 k) := by
    refine ⟨(fun k => if k = 0 then c0 else if k = 1 then c1 else if k = 2 then c2 else if k = 3 then c3 else if k = 4 then c4 else if k = 5 then c5 else if k = 6 then c6 else if k = 7 then c7 else if k = 8 then c8 else if k = 9 then c9 else c10, fun k => if k = 0 then iS0 else if k = 1 then iS1 else if k = 2 then iS2 else if k = 3 then iS3 else if k = 4 then iS4 else if k = 5 then iS5 else if k = 6 then iS6 else if k = 7 then iS7 else if k = 8 then iS8 else if k = 9 then iS9 else iS10), ?_⟩
    intro k q hq
    match k, hq with
    | 0, hq => cases hq; exact hKn0
    | 1, hq => cases hq; exact hKn1
    | 2, hq => cases hq; exact hKn2
    | 3, hq => cases hq; exact hKn3
    | 4, hq => cases hq; exact hKn4
    | 5, hq => cases hq; exact hKn5
    | 6, hq => cases hq; exact hKn6
    | 7, hq => cases hq; exact hKn7
    | 8, hq => cases hq; exact hKn8
    | 9, hq => cases hq; exact hKn9
    | 10, hq => cases hq; exact hKn10
    | k + 11, hq => simp [vwCl] at hq
  obtain ⟨cB, kB, oB, fB, gB, jB⟩ := Cond.arrayClass_spec (hts _ (uw_in q_a61))
  obtain ⟨cI, kI, oI, fI, gI, jI⟩ := Cond.arrayClass_spec (hts _ (uw_in q_a151))
  obtain ⟨cJ, kJ, oJ, fJ, gJ, jJ⟩ := Cond.arrayClass_spec (hts _ (uw_in q_a209))
  obtain ⟨cZ, kZ, oZ, fZ, gZ, jZ⟩ := Cond.arrayClass_spec (hts _ (uw_in q_a1315))
  have hAOT : va_AO RX7 s := va_AO.of (hts (Cond.arrayOver (.object RX7)) (List.mem_of_getElem? (i := 264) (by decide +kernel)))
  obtain ⟨oT, cT, kT, aT, bT, gT, jT, fT⟩ := Cond.arrayOver_spec hAOT
  have hAOR : va_AO RX3 s := va_AO.of (hts (Cond.arrayOver (.object RX3)) (List.mem_of_getElem? (i := 298) (by decide +kernel)))
  obtain ⟨oR, cR, kR, aR, bR, gR, jR, fR⟩ := Cond.arrayOver_spec hAOR
  have hAOI : AMM s := AMM.of (args := #[Value.ref b]) (hts (Cond.arrayOver (.array .int)) (List.mem_of_getElem? (i := 272) (by decide +kernel))) (hts _ (uw_in q_a151))
  obtain ⟨cMc, cM, cM0, kM, kMc, m1, m2, m3, m4, m5, m6⟩ := id hAOI
  have hE : EX s := by
    refine ⟨fun w hw => ?_, hAOT, hAOR, hAOI⟩
    simp only [List.mem_cons, List.not_mem_nil, or_false] at hw
    rcases hw with rfl | rfl | rfl | rfl | rfl | rfl | rfl | rfl | rfl
    · exact va_Nw.of rfl (hts _ (List.mem_of_getElem? (i := 141) (by decide +kernel)))
    · exact va_Nw.of rfl (hts _ (List.mem_of_getElem? (i := 176) (by decide +kernel)))
    · exact va_Nw.of rfl (hts _ (List.mem_of_getElem? (i := 267) (by decide +kernel)))
    · exact va_Nw.of rfl (hts _ (List.mem_of_getElem? (i := 300) (by decide +kernel)))
    · exact va_Nw.of rfl (hts _ (List.mem_of_getElem? (i := 324) (by decide +kernel)))
    · exact va_Nw.of rfl (hts _ (List.mem_of_getElem? (i := 380) (by decide +kernel)))
    · exact va_Nw.of rfl (hts _ (List.mem_of_getElem? (i := 408) (by decide +kernel)))
    · exact va_Nw.of rfl (hts _ (List.mem_of_getElem? (i := 436) (by decide +kernel)))
    · exact va_Nw.of rfl (hts _ (List.mem_of_getElem? (i := 475) (by decide +kernel)))
  have hK : va_K D vwCl [(cB, .byte), (cI, .int), (cJ, .long), (cZ, .boolean), (cT, .object RX7), (cR, .object RX3), (cM, .array .int)] s := by
    refine ⟨hKc, fun k q h => ?_⟩
    match k, h with
    | 0, h => cases h; exact ⟨fun n z => ⟨fun k h => (by cases h), kB, gB, oB, jB⟩, fB⟩
    | 1, h => cases h; exact ⟨fun n z => ⟨fun k h => (by cases h), kI, gI, oI, jI⟩, fI⟩
    | 2, h => cases h; exact ⟨fun n z => ⟨fun k h => (by cases h), kJ, gJ, oJ, jJ⟩, fJ⟩
    | 3, h => cases h; exact ⟨fun n z => ⟨fun k h => (by cases h), kZ, gZ, oZ, jZ⟩, fZ⟩
    | 4, h => cases h; exact ⟨fun n z => ⟨fun k h => (by cases h), kT, gT, oT, jT⟩, kT, oT, gT, jT, aT, fT⟩
    | 5, h => cases h; exact ⟨fun n z => ⟨fun k h => (by cases h), kR, gR, oR, jR⟩, kR, oR, gR, jR, aR, fR⟩
    | 6, h => cases h; exact ⟨fun n z => ⟨fun k h => (by cases h), kM, m3, cMc, m4⟩, m2⟩
    | k + 7, h => simp at h
  obtain ⟨C, hKC⟩ : ∃ C : Nat → ClassId, va_K D vwCl (tyl C) s := ⟨fun k => if k = 0 then cB else if k = 1 then cI else if k = 2 then cJ else if k = 3 then cZ else if k = 4 then cT else if k = 5 then cR else cM, hK⟩
  have hS : va_S (fun q : Nat => s.heap.size ≤ q) s.heap s.heap [] := va_S.rf
  have hP : va_P D vwCl [] s.heap := fun k q h => by simp at h
  have hD : va_D (fun q : Nat => s.heap.size ≤ q) [] := ⟨fun i j p q h => by simp at h, fun k q h => by simp at h⟩
  have hl := lv_entry ([.ref b]) (n := 4) (Nat.le_of_ble_eq_true rfl)
  rw [lg_entry_eq]
  generalize (lg_sl ([.ref b]) ++ List.replicate (4 - (lg_sl ([.ref b])).length) Slot.unset).toArray = ls at hl ⊢
  have hl : lv_has ls 4 [(0, .ref b)] := hl
  refine va_new (ci := 9) (fs := [.null, .null, .null, .null, .int 0, .null, .null, .null, .null, .null, .null, .null]) (C := RX9) (T := TX9) (N := 12) hx hb hts (fun w h => uw_in (inX9 w h)) tyX9 tyX9_ok hown (hts _ (uw_in q_l19)) (hts _ (uw_in q_b20)) (hts _ (uw_in q_i1)) hKC hP hD hS hA rfl (dfX9) (Nat.le_of_ble_eq_true rfl) (Nat.le_of_ble_eq_true rfl) dL_law_0 (fun oX9 H hP hD hS => ?_)
  refine W.cs (cells' := 1) (slots' := 12) rfl rfl ?_
  refine lv_dup hx hb dL_law_3 rfl ?_
  refine ciU (Cn := RX9) (n := 0) (As := []) (rest := [.ref oX9]) ⟨hx, hb, hml, hown, hts⟩ (fun _ h => uw_in h) (i_X9 l D C oX9 H.size) q_m21 q_n22 q_i1 q_c23 rfl hvX9_init ⟨(Nat.le_of_ble_eq_true rfl), (Nat.le_of_ble_eq_true rfl)⟩ ⟨(Nat.le_of_ble_eq_true rfl), (Nat.le_of_ble_eq_true rfl)⟩ hE hKC hP hD hS hA rfl hl.1 rfl (Nat.le_of_ble_eq_true rfl) dL_law_4 (fun A H locs pA hP hD hS => ?_)
  refine W.cs (cells' := 161) (slots' := 2708) rfl rfl ?_
  rw [← pA]
  refine lv_astore_n (lv' := [(1, .ref (A 0)), (0, .ref b)]) hx hb dL_law_7 rfl hl (by decide) rfl (fun ls hl => ?_)
  refine va_new (ci := 10) (fs := [.int 0, .null, .null, .null, .null, .null, .int 0, .int 0, .int 0, .int 0, .int 0, .long 0, .int 0, .int 0, .int 0, .int 0, .null, .null, .null, .null, .null, .null, .null, .null, .int 0, .int 0, .null, .null, .int 0, .int 0, .int 0, .null, .null, .int 0, .int 0, .int 0, .int 0, .int 0, .null, .int 0, .int 0, .int 0]) (C := RX10) (T := TX10) (N := 42) hx hb hts (fun w h => uw_in (inX10 w h)) tyX10 tyX10_ok hown (hts _ (uw_in q_l1182)) (hts _ (uw_in q_b1183)) (hts _ (uw_in q_i11)) hKC hP hD hS hA rfl (dfX10) (Nat.le_of_ble_eq_true rfl) (Nat.le_of_ble_eq_true rfl) dL_law_8 (fun oX10 H hP hD hS => ?_)
  refine W.cs (cells' := 162) (slots' := 2750) rfl rfl ?_
  refine lv_dup hx hb dL_law_11 rfl ?_
  refine ciU (Cn := RX10) (n := 0) (As := []) (rest := [.ref oX10]) ⟨hx, hb, hml, hown, hts⟩ (fun _ h => uw_in h) (i_X10 l D C oX10 H.size) q_m1184 q_n1185 q_i11 q_c1186 rfl hvX10_init ⟨(Nat.le_of_ble_eq_true rfl), (Nat.le_of_ble_eq_true rfl)⟩ ⟨(Nat.le_of_ble_eq_true rfl), (Nat.le_of_ble_eq_true rfl)⟩ hE hKC hP hD hS hA rfl hl.1 rfl (Nat.le_of_ble_eq_true rfl) dL_law_12 (fun B H locs pB hP hD hS => ?_)
  refine W.cs (cells' := 180) (slots' := 4779) rfl rfl ?_
  rw [← pB]
  refine lv_astore_n (lv' := [(2, .ref (B 0)), (1, .ref (A 0)), (0, .ref b)]) hx hb dL_law_15 rfl hl (by decide) rfl (fun ls hl => ?_)
  refine lv_iconst (v := 0) hx hb dL_law_16 (by decide) ?_
  refine lv_istore_n (lv' := [(3, .int 0), (2, .ref (B 0)), (1, .ref (A 0)), (0, .ref b)]) hx hb dL_law_17 rfl hl (by decide) rfl (fun ls hl => ?_)
  exact law_loop C0 hL hKC hXS (L + 1) 0 u9 v9 H locs ls (by omega) (by omega) IC9 IM9 (by intro A s w hs; rcases hs with ⟨hA, hs, hw⟩ | ⟨hA, hs, hw⟩ | ⟨hA, hs, hw⟩ | ⟨hA, hs, hw⟩ <;> exact Or.inl ⟨hs.trans (by decide), by show (-1 : Int32).toInt = -1; decide⟩) hP hD hS hl
