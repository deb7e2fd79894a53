set_option maxHeartbeats 4000000 in
set_option maxRecDepth 100000 in
theorem kX10_tells_3 (l : Launch) (D : va_G) (C : Nat → ClassId) (A : Nat → Nat) (u : St) (hI : IM u) (a1 : Int32) (A1 : Int) (ha1 : a1.toInt = A1) (hl1 : 0 ≤ A1) (hm1 : A1 ≤ 5) (sz : Nat) : MetV l yX10_tells cX10_tells 3 1 [.ref (A 0), .int 4, .int a1] D (tyl C) (mw C A) X0 u sz (fun u' => IM u' ∧ Un [] [(7, 7)] [] u u' ∧ True) := by
  refine mV (by decide) (Nat.le_of_ble_eq_true rfl) ?_
  intro p e s m below meth c ls ar Q hx hb hml hown hts hK hH hX hl hret
  have hown : s.vm.findClass RX10 = some m.cls := hown
  have hl : lv_has ls 3 [(0, .ref (A 0)), (1, .int 4), (2, .int a1)] := hl
  refine lv_aload_n hx hb dX10_tells_0 rfl (lv_at hl 0 rfl) ?_
  refine va_get (ci := 10) (v := .ref (A 7)) (C := RX10) (T := TX10) (N := 42) hx hb hts (fun w h => uc_in w (inX10 w h)) hown hK hH.1 0 (mwc0 C A u) rfl 17 (by decide) (hts _ (uc_in _ q_f1205)) (fun _ h9 => h9) rfl dX10_tells_1 ?_
  refine lv_bipush (v := 24) hx hb dX10_tells_4 (by decide) ?_
  refine lv_iload_n hx hb dX10_tells_6 rfl (lv_at hl 1 rfl) ?_
  refine lv_iadd hx hb dX10_tells_7 ?_
  refine pv_i (v := 28) (by decide) ?_
  refine lv_iload_n hx hb dX10_tells_8 rfl (lv_at hl 2 rfl) ?_
  refine r_iast (j := 7) hx hb hK hH 7 1 (mwc7 C A u) rfl (i_ix (X := 28) (by decide) (by decide) (by decide)) (mwa7 C A u) dX10_tells_9 (fun u1 eu1 H locs hH => ?_)
  have hI := hI.pah eu1 ha1 (by omega) (show A1 ≤ 5 by omega)
  exact hret _ _ _ _ _ dX10_tells_10 ⟨hI, (Un.sa Un.rf rfl eu1), trivial⟩ hH
set_option maxHeartbeats 4000000 in
set_option maxRecDepth 100000 in
theorem kX10_line_0 (l : Launch) (D : va_G) (C : Nat → ClassId) (A : Nat → Nat) (u : St) (hI : IM u) (hPI : (gi u 9).toInt ≤ (gi u 7).toInt ∧ (gi u 7).toInt ≤ (gi u 6).toInt ∧ ((gi u 8).toInt = 0 ∨ (gi u 9).toInt < (gi u 7).toInt)) (sz : Nat) : MetV l yX10_line cX10_line 1 7 [.ref (A 0)] D (tyl C) (mw C A) X0 u sz (fun u' => IM u' ∧ Un [(7, 7), (8, 8), (9, 9), (10, 10), (12, 12), (13, 13)] [(7, 7), (8, 8), (9, 9)] [] u u' ∧ ((gi u' 9).toInt ≤ (gi u' 7).toInt ∧ (gi u' 7).toInt ≤ (gi u 6).toInt ∧ ((gi u' 8).toInt = 0 ∨ (gi u' 9).toInt < (gi u' 7).toInt)) ∧ (gi u 9).toInt ≤ (gi u' 9).toInt) := by
  refine mV (by decide) (Nat.le_of_ble_eq_true rfl) ?_
  intro p e s m below meth c ls ar Q hx hb hml hown hts hK hH hX hl hret
  have hown : s.vm.findClass RX10 = some m.cls := hown
  have hl : lv_has ls 1 [(0, .ref (A 0))] := hl
  refine lv_aload_n hx hb dX10_line_0 rfl (lv_at hl 0 rfl) ?_
  refine lv_aload_n hx hb dX10_line_1 rfl (lv_at hl 0 rfl) ?_
  refine lv_ldc2 (v := 1841546) hx hb hown (hts _ (uc_in _ q_k1419)) dX10_line_2 ?_
  refine cvS (n := 1) (As := [.long 1841546]) (rest := [.ref (A 0)]) ⟨hx, hb, hml, hown, hts⟩ uc_in (kX10_is_0 l D C A u hI (1841546) 1841546 (by decide)) q_m1396 q_n1398 q_p60 q_i11 q_c1399 hvX10_is ⟨(Nat.le_of_ble_eq_true rfl), (Nat.le_of_ble_eq_true rfl)⟩ ⟨(Nat.le_of_ble_eq_true rfl), (Nat.le_of_ble_eq_true rfl)⟩ hK hH.1 10 0 rfl (mwc0 C A u) rfl hl.1 rfl (Nat.le_of_ble_eq_true rfl) dX10_line_5 (fun r1 p2 => ?_)
  have p2 : 0 ≤ r1.toInt ∧ r1.toInt ≤ 1 := p2
  refine lv_iconst (v := 3) hx hb dX10_line_8 (by decide) ?_
  refine lv_bipush (v := 6) hx hb dX10_line_9 (by decide) ?_
  refine cvI (n := 3) (As := [.int r1, .int 3, .int 6]) (rest := []) ⟨hx, hb, hml, hown, hts⟩ uc_in (kX10_isRoom_0 l D C A u hI r1 r1.toInt rfl (by omega) _) q_m1420 q_n1422 q_p65 q_i11 q_c1423 hvX10_isRoom ⟨(Nat.le_of_ble_eq_true rfl), (Nat.le_of_ble_eq_true rfl)⟩ ⟨(Nat.le_of_ble_eq_true rfl), (Nat.le_of_ble_eq_true rfl)⟩ hK hH (fun q h => Or.inr h) Bl0 (fun _ _ _ => trivial) 10 0 rfl (mwc0 C A u) rfl hl.1 rfl (Nat.le_of_ble_eq_true rfl) dX10_line_11 (fun r4 u3 H locs p5 hH => ?_)
  obtain ⟨hI, hUu3, p5⟩ := p5
  obtain ⟨f6, f7, f8⟩ := p5
  rcases f8 with ⟨e9, f9⟩ | e9
  · subst e9
    have b10 := (hI.has 27).1
    refine lv_if_eq (tgt := 24) hx hb dX10_line_14 (by decide) (fun c11 => absurd c11 (by decide)) (fun c11 => ?_)
    refine lv_aload_n hx hb dX10_line_17 rfl (lv_at hl 0 rfl) ?_
    have q12 := (show (gi u3 6).toInt = ((gi u 6)).toInt from (congrArg Int32.toInt (show gi u3 6 = (gi u 6) from ((hUu3.1 6 rfl).trans rfl))).trans rfl)
    refine cvU (n := 0) (As := []) (rest := []) ⟨hx, hb, hml, hown, hts⟩ uc_in (kX10_clockLine_0 l D C A u3 hI (by omega) (by omega) _) q_m1428 q_n1430 q_p67 q_i11 q_c1431 hvX10_clockLine ⟨(Nat.le_of_ble_eq_true rfl), (Nat.le_of_ble_eq_true rfl)⟩ ⟨(Nat.le_of_ble_eq_true rfl), (Nat.le_of_ble_eq_true rfl)⟩ hK hH (fun q h => Or.inr h) Bl0 (fun _ _ _ => trivial) 10 0 rfl (mwc0 C A u3) rfl hl.1 rfl (Nat.le_of_ble_eq_true rfl) dX10_line_18 (fun u13 H locs p15 hH => ?_)
    obtain ⟨hI, hUu13, p15⟩ := p15
    obtain ⟨f16, f17⟩ := p15
    refine lv_goto (tgt := 97) hx hb dX10_line_21 (by decide) ?_
    exact hret _ _ _ _ _ dX10_line_97 ⟨hI, (Un.tr (Un.tr Un.rf hUu3 rfl rfl rfl) hUu13 rfl rfl rfl), ⟨by have q6 := (show (gi u13 6).toInt = ((gi u 6)).toInt from (congrArg Int32.toInt (show gi u13 6 = (gi u 6) from ((hUu13.1 6 rfl).trans ((hUu3.1 6 rfl).trans rfl)))).trans rfl); have q7 := (show (gi u13 7).toInt = ((gi u13 7)).toInt from (congrArg Int32.toInt (show gi u13 7 = (gi u13 7) from rfl)).trans rfl); have q8 := (show (gi u13 8).toInt = ((gi u13 8)).toInt from (congrArg Int32.toInt (show gi u13 8 = (gi u13 8) from rfl)).trans rfl); have q9 := (show (gi u13 9).toInt = ((gi u13 9)).toInt from (congrArg Int32.toInt (show gi u13 9 = (gi u13 9) from rfl)).trans rfl); have q12 := (show (gi u13 12).toInt = ((gi u13 12)).toInt from (congrArg Int32.toInt (show gi u13 12 = (gi u13 12) from rfl)).trans rfl); omega, by have q6 := (show (gi u13 6).toInt = ((gi u 6)).toInt from (congrArg Int32.toInt (show gi u13 6 = (gi u 6) from ((hUu13.1 6 rfl).trans ((hUu3.1 6 rfl).trans rfl)))).trans rfl); have q7 := (show (gi u13 7).toInt = ((gi u13 7)).toInt from (congrArg Int32.toInt (show gi u13 7 = (gi u13 7) from rfl)).trans rfl); have q8 := (show (gi u13 8).toInt = ((gi u13 8)).toInt from (congrArg Int32.toInt (show gi u13 8 = (gi u13 8) from rfl)).trans rfl); have q9 := (show (gi u13 9).toInt = ((gi u13 9)).toInt from (congrArg Int32.toInt (show gi u13 9 = (gi u13 9) from rfl)).trans rfl); have q12 := (show (gi u13 12).toInt = ((gi u13 12)).toInt from (congrArg Int32.toInt (show gi u13 12 = (gi u13 12) from rfl)).trans rfl); omega⟩⟩ hH
  · subst e9
    refine lv_if_eq (tgt := 24) hx hb dX10_line_14 (by decide) (fun c19 => ?_) (fun c19 => absurd c19 (by decide))
    refine lv_aload_n hx hb dX10_line_24 rfl (lv_at hl 0 rfl) ?_
    refine va_get (ci := 10) (v := .int (gi u3 12)) (C := RX10) (T := TX10) (N := 42) hx hb hts (fun w h => uc_in w (inX10 w h)) hown hK hH.1 0 (mwc0 C A u3) rfl 12 (by decide) (hts _ (uc_in _ q_f1200)) (fun _ h9 => h9) rfl dX10_line_25 ?_
    have j85_57 : ∀ (ls : Array Slot) (u57 : St) (H : Heap) (locs : List Loc), ((gi u57 9).toInt ≤ (gi u57 7).toInt ∧ (gi u57 7).toInt ≤ ((gi u 6)).toInt ∧ ((gi u57 8).toInt = 0 ∨ (gi u57 9).toInt < (gi u57 7).toInt)) ∧ ((gi u3 9)).toInt ≤ (gi u57 9).toInt → Un [(7, 7), (8, 8), (9, 9), (10, 10), (12, 12), (13, 13)] [(7, 7), (9, 9)] [] u3 u57 → IM u57 → Hd D (mw C A) (va_A (mw C A u) s.heap.size) s.heap u57 H locs → lv_has ls 1 [(0, .ref (A 0))] → W p l e (rmL 7 0 0) s m ar below meth c H locs 0 0 Q (F0 m 85 ls []) := by
      intro ls u57 H locs x85_0 hUu57 hI hH hl
      refine lv_aload_n hx hb dX10_line_85 rfl (lv_at hl 0 rfl) ?_
      refine va_get (ci := 10) (v := .int (gi u57 12)) (C := RX10) (T := TX10) (N := 42) hx hb hts (fun w h => uc_in w (inX10 w h)) hown hK hH.1 0 (mwc0 C A u57) rfl 12 (by decide) (hts _ (uc_in _ q_f1200)) (fun _ h9 => h9) rfl dX10_line_86 ?_
      refine lv_if_ne (tgt := 97) hx hb dX10_line_89 (by decide) (fun c59 => ?_) (fun c59 => ?_)
      · exact hret _ _ _ _ _ dX10_line_97 ⟨hI, (Un.tr (Un.tr Un.rf hUu3 rfl rfl rfl) hUu57 rfl rfl rfl), ⟨by have q6 := (show (gi u57 6).toInt = ((gi u 6)).toInt from (congrArg Int32.toInt (show gi u57 6 = (gi u 6) from ((hUu57.1 6 rfl).trans ((hUu3.1 6 rfl).trans rfl)))).trans rfl); have q7 := (show (gi u57 7).toInt = ((gi u57 7)).toInt from (congrArg Int32.toInt (show gi u57 7 = (gi u57 7) from rfl)).trans rfl); have q8 := (show (gi u57 8).toInt = ((gi u57 8)).toInt from (congrArg Int32.toInt (show gi u57 8 = (gi u57 8) from rfl)).trans rfl); have q9 := (show (gi u57 9).toInt = ((gi u57 9)).toInt from (congrArg Int32.toInt (show gi u57 9 = (gi u57 9) from rfl)).trans rfl); have q12 := (show (gi u57 12).toInt = ((gi u57 12)).toInt from (congrArg Int32.toInt (show gi u57 12 = (gi u57 12) from rfl)).trans rfl); omega, by have q6 := (show (gi u57 6).toInt = ((gi u 6)).toInt from (congrArg Int32.toInt (show gi u57 6 = (gi u 6) from ((hUu57.1 6 rfl).trans ((hUu3.1 6 rfl).trans rfl)))).trans rfl); have q7 := (show (gi u57 7).toInt = ((gi u57 7)).toInt from (congrArg Int32.toInt (show gi u57 7 = (gi u57 7) from rfl)).trans rfl); have q8 := (show (gi u57 8).toInt = ((gi u57 8)).toInt from (congrArg Int32.toInt (show gi u57 8 = (gi u57 8) from rfl)).trans rfl); have q9 := (show (gi u57 9).toInt = ((gi u57 9)).toInt from (congrArg Int32.toInt (show gi u57 9 = (gi u57 9) from rfl)).trans rfl); have q12 := (show (gi u57 12).toInt = ((gi u57 12)).toInt from (congrArg Int32.toInt (show gi u57 12 = (gi u57 12) from rfl)).trans rfl); omega⟩⟩ hH
      · have c59 := cEQ (x := (gi u57 12)) (y := 0) (X := ((gi u57 12)).toInt) (Y := 0) rfl (by decide) c59
        refine lv_aload_n hx hb dX10_line_92 rfl (lv_at hl 0 rfl) ?_
        refine lv_iconst (v := 1) hx hb dX10_line_93 (by decide) ?_
        refine cvU (n := 1) (As := [.int 1]) (rest := []) ⟨hx, hb, hml, hown, hts⟩ uc_in (kX10_fails_1 l D C A u57 hI  _) q_m1400 q_n1402 q_p61 q_i11 q_c1403 hvX10_fails ⟨(Nat.le_of_ble_eq_true rfl), (Nat.le_of_ble_eq_true rfl)⟩ ⟨(Nat.le_of_ble_eq_true rfl), (Nat.le_of_ble_eq_true rfl)⟩ hK hH (fun q h => Or.inr h) Bl0 (fun _ _ _ => trivial) 10 0 rfl (mwc0 C A u57) rfl hl.1 rfl (Nat.le_of_ble_eq_true rfl) dX10_line_94 (fun u60 H locs p62 hH => ?_)
        obtain ⟨hI, hUu60, p62⟩ := p62
        exact hret _ _ _ _ _ dX10_line_97 ⟨hI, (Un.tr (Un.tr (Un.tr Un.rf hUu3 rfl rfl rfl) hUu57 rfl rfl rfl) hUu60 rfl rfl rfl), ⟨by have q6 := (show (gi u60 6).toInt = ((gi u 6)).toInt from (congrArg Int32.toInt (show gi u60 6 = (gi u 6) from ((hUu60.1 6 rfl).trans ((hUu57.1 6 rfl).trans ((hUu3.1 6 rfl).trans rfl))))).trans rfl); have q7 := (show (gi u60 7).toInt = ((gi u57 7)).toInt from (congrArg Int32.toInt (show gi u60 7 = (gi u57 7) from ((hUu60.1 7 rfl).trans rfl))).trans rfl); have q8 := (show (gi u60 8).toInt = ((gi u57 8)).toInt from (congrArg Int32.toInt (show gi u60 8 = (gi u57 8) from ((hUu60.1 8 rfl).trans rfl))).trans rfl); have q9 := (show (gi u60 9).toInt = ((gi u57 9)).toInt from (congrArg Int32.toInt (show gi u60 9 = (gi u57 9) from ((hUu60.1 9 rfl).trans rfl))).trans rfl); have q12 := (show (gi u60 12).toInt = ((gi u60 12)).toInt from (congrArg Int32.toInt (show gi u60 12 = (gi u60 12) from rfl)).trans rfl); omega, by have q6 := (show (gi u60 6).toInt = ((gi u 6)).toInt from (congrArg Int32.toInt (show gi u60 6 = (gi u 6) from ((hUu60.1 6 rfl).trans ((hUu57.1 6 rfl).trans ((hUu3.1 6 rfl).trans rfl))))).trans rfl); have q7 := (show (gi u60 7).toInt = ((gi u57 7)).toInt from (congrArg Int32.toInt (show gi u60 7 = (gi u57 7) from ((hUu60.1 7 rfl).trans rfl))).trans rfl); have q8 := (show (gi u60 8).toInt = ((gi u57 8)).toInt from (congrArg Int32.toInt (show gi u60 8 = (gi u57 8) from ((hUu60.1 8 rfl).trans rfl))).trans rfl); have q9 := (show (gi u60 9).toInt = ((gi u57 9)).toInt from (congrArg Int32.toInt (show gi u60 9 = (gi u57 9) from ((hUu60.1 9 rfl).trans rfl))).trans rfl); have q12 := (show (gi u60 12).toInt = ((gi u60 12)).toInt from (congrArg Int32.toInt (show gi u60 12 = (gi u60 12) from rfl)).trans rfl); omega⟩⟩ hH
    refine lv_if_ne (tgt := 85) hx hb dX10_line_28 (by decide) (fun c20 => ?_) (fun c20 => ?_)
    · exact j85_57 ls u3 _ _ (by have q6 := (show (gi u3 6).toInt = ((gi u 6)).toInt from (congrArg Int32.toInt (show gi u3 6 = (gi u 6) from ((hUu3.1 6 rfl).trans rfl))).trans rfl); have q7 := (show (gi u3 7).toInt = ((gi u3 7)).toInt from (congrArg Int32.toInt (show gi u3 7 = (gi u3 7) from rfl)).trans rfl); have q8 := (show (gi u3 8).toInt = ((gi u3 8)).toInt from (congrArg Int32.toInt (show gi u3 8 = (gi u3 8) from rfl)).trans rfl); have q9 := (show (gi u3 9).toInt = ((gi u3 9)).toInt from (congrArg Int32.toInt (show gi u3 9 = (gi u3 9) from rfl)).trans rfl); have q12 := (show (gi u3 12).toInt = ((gi u3 12)).toInt from (congrArg Int32.toInt (show gi u3 12 = (gi u3 12) from rfl)).trans rfl); omega) Un.rf hI hH hl
    · have c20 := cEQ (x := (gi u3 12)) (y := 0) (X := ((gi u3 12)).toInt) (Y := 0) rfl (by decide) c20
      refine lv_aload_n hx hb dX10_line_31 rfl (lv_at hl 0 rfl) ?_
      refine lv_aload_n hx hb dX10_line_32 rfl (lv_at hl 0 rfl) ?_
      refine lv_ldc2 (v := 10983956) hx hb hown (hts _ (uc_in _ q_k1439)) dX10_line_33 ?_
      refine cvS (n := 1) (As := [.long 10983956]) (rest := [.ref (A 0)]) ⟨hx, hb, hml, hown, hts⟩ uc_in (kX10_is_0 l D C A u3 hI (10983956) 10983956 (by decide)) q_m1396 q_n1398 q_p60 q_i11 q_c1399 hvX10_is ⟨(Nat.le_of_ble_eq_true rfl), (Nat.le_of_ble_eq_true rfl)⟩ ⟨(Nat.le_of_ble_eq_true rfl), (Nat.le_of_ble_eq_true rfl)⟩ hK hH.1 10 0 rfl (mwc0 C A u3) rfl hl.1 rfl (Nat.le_of_ble_eq_true rfl) dX10_line_36 (fun r63 p64 => ?_)
      have p64 : 0 ≤ r63.toInt ∧ r63.toInt ≤ 1 := p64
      refine lv_iconst (v := 4) hx hb dX10_line_39 (by decide) ?_
      refine lv_iconst (v := 5) hx hb dX10_line_40 (by decide) ?_
      have q65 := (show (gi u3 6).toInt = ((gi u 6)).toInt from (congrArg Int32.toInt (show gi u3 6 = (gi u 6) from ((hUu3.1 6 rfl).trans rfl))).trans rfl)
      refine cvI (n := 3) (As := [.int r63, .int 4, .int 5]) (rest := []) ⟨hx, hb, hml, hown, hts⟩ uc_in (kX10_isRoom_1 l D C A u3 hI r63 r63.toInt rfl (by omega) _) q_m1420 q_n1422 q_p65 q_i11 q_c1423 hvX10_isRoom ⟨(Nat.le_of_ble_eq_true rfl), (Nat.le_of_ble_eq_true rfl)⟩ ⟨(Nat.le_of_ble_eq_true rfl), (Nat.le_of_ble_eq_true rfl)⟩ hK hH (fun q h => Or.inr h) Bl0 (fun _ _ _ => trivial) 10 0 rfl (mwc0 C A u3) rfl hl.1 rfl (Nat.le_of_ble_eq_true rfl) dX10_line_41 (fun r67 u66 H locs p68 hH => ?_)
      obtain ⟨hI, hUu66, p68⟩ := p68
      obtain ⟨f69, f70, f71⟩ := p68
      rcases f71 with ⟨e9, f72⟩ | e9
      · subst e9
        have b73 := (hI.has 28).1
        refine lv_if_eq (tgt := 85) hx hb dX10_line_44 (by decide) (fun c74 => absurd c74 (by decide)) (fun c74 => ?_)
        refine lv_aload_n hx hb dX10_line_47 rfl (lv_at hl 0 rfl) ?_
        refine va_get (ci := 10) (v := .ref (A 9)) (C := RX10) (T := TX10) (N := 42) hx hb hts (fun w h => uc_in w (inX10 w h)) hown hK hH.1 0 (mwc0 C A u66) rfl 19 (by decide) (hts _ (uc_in _ q_f1207)) (fun _ h9 => h9) rfl dX10_line_48 ?_
        refine lv_bipush (v := 20) hx hb dX10_line_51 (by decide) ?_
        refine lv_aload_n hx hb dX10_line_53 rfl (lv_at hl 0 rfl) ?_
        refine lv_iconst (v := 4) hx hb dX10_line_54 (by decide) ?_
        refine cvS (n := 1) (As := [.int 4]) (rest := [.int 20, .ref (A 9)]) ⟨hx, hb, hml, hown, hts⟩ uc_in (kX10_hasRead_1 l D C A u66 hI ) q_m1424 q_n1426 q_p66 q_i11 q_c1427 hvX10_hasRead ⟨(Nat.le_of_ble_eq_true rfl), (Nat.le_of_ble_eq_true rfl)⟩ ⟨(Nat.le_of_ble_eq_true rfl), (Nat.le_of_ble_eq_true rfl)⟩ hK hH.1 10 0 rfl (mwc0 C A u66) rfl hl.1 rfl (Nat.le_of_ble_eq_true rfl) dX10_line_55 (fun r75 p76 => ?_)
        subst p76
        refine lv_iadd hx hb dX10_line_58 ?_
        refine p_nm (tt_add (X := 20) (Y := ((ga u66 7 28)).toInt) (by decide) rfl (by omega) (by omega)) (fun z77 hz77 => ?_)
        refine lv_aload_n hx hb dX10_line_59 rfl (lv_at hl 0 rfl) ?_
        refine lv_ldc2 (v := 12249946) hx hb hown (hts _ (uc_in _ q_k1440)) dX10_line_60 ?_
        refine lv_iconst (v := 0) hx hb dX10_line_63 (by decide) ?_
        refine lv_bipush (v := 99) hx hb dX10_line_64 (by decide) ?_
        have q78 := (show (gi u66 6).toInt = ((gi u 6)).toInt from (congrArg Int32.toInt (show gi u66 6 = (gi u 6) from ((hUu66.1 6 rfl).trans ((hUu3.1 6 rfl).trans rfl)))).trans rfl)
        refine cvI (n := 3) (As := [.long 12249946, .int 0, .int 99]) (rest := [.int z77, .ref (A 9)]) ⟨hx, hb, hml, hown, hts⟩ uc_in (kX10_number__2 l D C A u66 hI (12249946) 12249946 (by decide) (by omega) _) q_m1405 q_n1407 q_p62 q_i11 q_c1408 hvX10_number_ ⟨(Nat.le_of_ble_eq_true rfl), (Nat.le_of_ble_eq_true rfl)⟩ ⟨(Nat.le_of_ble_eq_true rfl), (Nat.le_of_ble_eq_true rfl)⟩ hK hH (fun q h => Or.inr h) Bl0 (fun _ _ _ => trivial) 10 0 rfl (mwc0 C A u66) rfl hl.1 rfl (Nat.le_of_ble_eq_true rfl) dX10_line_66 (fun r80 u79 H locs p81 hH => ?_)
        obtain ⟨hI, hUu79, p81⟩ := p81
        obtain ⟨f82, f83, f84⟩ := p81
        refine r_iast (j := 9) hx hb hK hH 9 1 (mwc9 C A u79) rfl (i_ix hz77 (by omega) (by omega)) (mwa9 C A u79) dX10_line_69 (fun u85 eu85 H locs hH => ?_)
        have hI := hI.pa0 eu85 (by decide) (by decide) (by decide)
        refine lv_aload_n hx hb dX10_line_70 rfl (lv_at hl 0 rfl) ?_
        refine lv_iconst (v := 4) hx hb dX10_line_71 (by decide) ?_
        refine lv_aload_n hx hb dX10_line_72 rfl (lv_at hl 0 rfl) ?_
        refine lv_iconst (v := 4) hx hb dX10_line_73 (by decide) ?_
        refine cvS (n := 1) (As := [.int 4]) (rest := [.int 4, .ref (A 0)]) ⟨hx, hb, hml, hown, hts⟩ uc_in (kX10_hasRead_1 l D C A u85 hI ) q_m1424 q_n1426 q_p66 q_i11 q_c1427 hvX10_hasRead ⟨(Nat.le_of_ble_eq_true rfl), (Nat.le_of_ble_eq_true rfl)⟩ ⟨(Nat.le_of_ble_eq_true rfl), (Nat.le_of_ble_eq_true rfl)⟩ hK hH.1 10 0 rfl (mwc0 C A u85) rfl hl.1 rfl (Nat.le_of_ble_eq_true rfl) dX10_line_74 (fun r86 p87 => ?_)
        subst p87
        refine pv_i (v := (ga u66 7 28)) ((congrFun (ga_ne eu85 (by decide)) _).trans ((congrFun (hUu79.2.1 7 rfl) _).trans rfl)) ?_
        refine lv_iconst (v := 1) hx hb dX10_line_77 (by decide) ?_
        refine lv_iadd hx hb dX10_line_78 ?_
        refine p_nm (tt_add (X := ((ga u66 7 28)).toInt) (Y := 1) rfl (by decide) (by omega) (by omega)) (fun z88 hz88 => ?_)
        refine cvU (n := 2) (As := [.int 4, .int z88]) (rest := []) ⟨hx, hb, hml, hown, hts⟩ uc_in (kX10_tells_3 l D C A u85 hI z88 (((ga u66 7 28)).toInt + 1) hz88 (by omega) (by omega) _) q_m1362 q_n1364 q_p53 q_i11 q_c1365 hvX10_tells ⟨(Nat.le_of_ble_eq_true rfl), (Nat.le_of_ble_eq_true rfl)⟩ ⟨(Nat.le_of_ble_eq_true rfl), (Nat.le_of_ble_eq_true rfl)⟩ hK hH (fun q h => Or.inr h) Bl0 (fun _ _ _ => trivial) 10 0 rfl (mwc0 C A u85) rfl hl.1 rfl (Nat.le_of_ble_eq_true rfl) dX10_line_79 (fun u89 H locs p91 hH => ?_)
        obtain ⟨hI, hUu89, p91⟩ := p91
        refine lv_goto (tgt := 97) hx hb dX10_line_82 (by decide) ?_
        exact hret _ _ _ _ _ dX10_line_97 ⟨hI, (Un.tr (Un.sa (Un.tr (Un.tr (Un.tr Un.rf hUu3 rfl rfl rfl) hUu66 rfl rfl rfl) hUu79 rfl rfl rfl) rfl eu85) hUu89 rfl rfl rfl), ⟨by have q6 := (show (gi u89 6).toInt = ((gi u 6)).toInt from (congrArg Int32.toInt (show gi u89 6 = (gi u 6) from ((hUu89.1 6 rfl).trans ((gi_sa eu85).trans ((hUu79.1 6 rfl).trans ((hUu66.1 6 rfl).trans ((hUu3.1 6 rfl).trans rfl))))))).trans rfl); have q7 := (show (gi u89 7).toInt = ((gi u79 7)).toInt from (congrArg Int32.toInt (show gi u89 7 = (gi u79 7) from ((hUu89.1 7 rfl).trans ((gi_sa eu85).trans rfl)))).trans rfl); have q8 := (show (gi u89 8).toInt = ((gi u79 8)).toInt from (congrArg Int32.toInt (show gi u89 8 = (gi u79 8) from ((hUu89.1 8 rfl).trans ((gi_sa eu85).trans rfl)))).trans rfl); have q9 := (show (gi u89 9).toInt = ((gi u79 9)).toInt from (congrArg Int32.toInt (show gi u89 9 = (gi u79 9) from ((hUu89.1 9 rfl).trans ((gi_sa eu85).trans rfl)))).trans rfl); have q12 := (show (gi u89 12).toInt = ((gi u79 12)).toInt from (congrArg Int32.toInt (show gi u89 12 = (gi u79 12) from ((hUu89.1 12 rfl).trans ((gi_sa eu85).trans rfl)))).trans rfl); omega, by have q6 := (show (gi u89 6).toInt = ((gi u 6)).toInt from (congrArg Int32.toInt (show gi u89 6 = (gi u 6) from ((hUu89.1 6 rfl).trans ((gi_sa eu85).trans ((hUu79.1 6 rfl).trans ((hUu66.1 6 rfl).trans ((hUu3.1 6 rfl).trans rfl))))))).trans rfl); have q7 := (show (gi u89 7).toInt = ((gi u79 7)).toInt from (congrArg Int32.toInt (show gi u89 7 = (gi u79 7) from ((hUu89.1 7 rfl).trans ((gi_sa eu85).trans rfl)))).trans rfl); have q8 := (show (gi u89 8).toInt = ((gi u79 8)).toInt from (congrArg Int32.toInt (show gi u89 8 = (gi u79 8) from ((hUu89.1 8 rfl).trans ((gi_sa eu85).trans rfl)))).trans rfl); have q9 := (show (gi u89 9).toInt = ((gi u79 9)).toInt from (congrArg Int32.toInt (show gi u89 9 = (gi u79 9) from ((hUu89.1 9 rfl).trans ((gi_sa eu85).trans rfl)))).trans rfl); have q12 := (show (gi u89 12).toInt = ((gi u79 12)).toInt from (congrArg Int32.toInt (show gi u89 12 = (gi u79 12) from ((hUu89.1 12 rfl).trans ((gi_sa eu85).trans rfl)))).trans rfl); omega⟩⟩ hH
      · subst e9
        refine lv_if_eq (tgt := 85) hx hb dX10_line_44 (by decide) (fun c92 => ?_) (fun c92 => absurd c92 (by decide))
        exact j85_57 ls u66 _ _ (by have q6 := (show (gi u66 6).toInt = ((gi u 6)).toInt from (congrArg Int32.toInt (show gi u66 6 = (gi u 6) from ((hUu66.1 6 rfl).trans ((hUu3.1 6 rfl).trans rfl)))).trans rfl); have q7 := (show (gi u66 7).toInt = ((gi u66 7)).toInt from (congrArg Int32.toInt (show gi u66 7 = (gi u66 7) from rfl)).trans rfl); have q8 := (show (gi u66 8).toInt = ((gi u66 8)).toInt from (congrArg Int32.toInt (show gi u66 8 = (gi u66 8) from rfl)).trans rfl); have q9 := (show (gi u66 9).toInt = ((gi u66 9)).toInt from (congrArg Int32.toInt (show gi u66 9 = (gi u66 9) from rfl)).trans rfl); have q12 := (show (gi u66 12).toInt = ((gi u66 12)).toInt from (congrArg Int32.toInt (show gi u66 12 = (gi u66 12) from rfl)).trans rfl); omega) (Un.tr Un.rf hUu66 rfl rfl rfl) hI hH hl
set_option maxHeartbeats 4000000 in
set_option maxRecDepth 100000 in
theorem kX10_number_4 (l : Launch) (D : va_G) (C : Nat → ClassId) (A : Nat → Nat) (u : St) (hI : IM u) (hPI : (gi u 9).toInt ≤ (gi u 7).toInt ∧ (gi u 7).toInt ≤ (gi u 6).toInt ∧ ((gi u 8).toInt = 0 ∨ (gi u 9).toInt < (gi u 7).toInt)) (sz : Nat) : MetI l yX10_number cX10_number 4 (some .int) 3 [.ref (A 0), .int 1, .int 7] D (tyl C) (mw C A) X0 u sz (fun r u' => IM u' ∧ Un [(7, 7), (8, 8), (9, 9), (10, 10), (12, 12), (13, 13)] [] [] u u' ∧ (((gi u' 9).toInt ≤ (gi u' 7).toInt ∧ (gi u' 7).toInt ≤ (gi u 6).toInt ∧ ((gi u' 8).toInt = 0 ∨ (gi u' 9).toInt < (gi u' 7).toInt)) ∧ (gi u 9).toInt ≤ (gi u' 9).toInt ∧ (1 ≤ r.toInt ∧ r.toInt ≤ 7))) := by
  refine mI (by decide) (Nat.le_of_ble_eq_true rfl) ?_
  intro p e s m below meth c ls ar Q hx hb hml hown hts hK hH hX hl hret
  have hown : s.vm.findClass RX10 = some m.cls := hown
  have hl : lv_has ls 4 [(0, .ref (A 0)), (1, .int 1), (2, .int 7)] := hl
  refine lv_aload_n hx hb dX10_number_0 rfl (lv_at hl 0 rfl) ?_
  refine va_get (ci := 10) (v := .int (gi u 12)) (C := RX10) (T := TX10) (N := 42) hx hb hts (fun w h => uc_in w (inX10 w h)) hown hK hH.1 0 (mwc0 C A u) rfl 12 (by decide) (hts _ (uc_in _ q_f1200)) (fun _ h9 => h9) rfl dX10_number_1 ?_
  refine lv_if_eq (tgt := 9) hx hb dX10_number_4 (by decide) (fun c1 => ?_) (fun c1 => ?_)
  · have c1 := cEQ (x := (gi u 12)) (y := 0) (X := ((gi u 12)).toInt) (Y := 0) rfl (by decide) c1
    refine lv_aload_n hx hb dX10_number_9 rfl (lv_at hl 0 rfl) ?_
    refine va_get (ci := 10) (v := .int (gi u 8)) (C := RX10) (T := TX10) (N := 42) hx hb hts (fun w h => uc_in w (inX10 w h)) hown hK hH.1 0 (mwc0 C A u) rfl 8 (by decide) (hts _ (uc_in _ q_f1196)) (fun _ h9 => h9) rfl dX10_number_10 ?_
    refine lv_iconst (v := 2) hx hb dX10_number_13 (by decide) ?_
    refine lv_icmp_eq (tgt := 24) hx hb dX10_number_14 (by decide) (fun c2 => ?_) (fun c2 => ?_)
    · have c2 := cEQ (x := (gi u 8)) (y := 2) (X := ((gi u 8)).toInt) (Y := 2) rfl (by decide) c2
      refine lv_aload_n hx hb dX10_number_24 rfl (lv_at hl 0 rfl) ?_
      refine va_get (ci := 10) (v := .int (gi u 10)) (C := RX10) (T := TX10) (N := 42) hx hb hts (fun w h => uc_in w (inX10 w h)) hown hK hH.1 0 (mwc0 C A u) rfl 10 (by decide) (hts _ (uc_in _ q_f1198)) (fun _ h9 => h9) rfl dX10_number_25 ?_
      refine lv_i2l (v := (gi u 10).toInt64) hx hb dX10_number_28 rfl ?_
      refine lv_iload_n hx hb dX10_number_29 rfl (lv_at hl 1 rfl) ?_
      refine lv_i2l (v := 1) hx hb dX10_number_30 (by decide) ?_
      refine lv_iload_n hx hb dX10_number_31 rfl (lv_at hl 2 rfl) ?_
      refine lv_i2l (v := 7) hx hb dX10_number_32 (by decide) ?_
      refine csS (n := 3) (As := [.long ((gi u 10).toInt64), .long 1, .long 7]) (rest := []) ⟨hx, hb, hml, hown, hts⟩ uc_in (kX10_in_0 l D C A u hI ((gi u 10).toInt64) (((gi u 10)).toInt) (tt_i2l rfl) (1) 1 (by decide) (7) 7 (by decide)) q_m1324 q_s1325 q_i11 q_c1326 hvX10_in ⟨(Nat.le_of_ble_eq_true rfl), (Nat.le_of_ble_eq_true rfl)⟩ ⟨(Nat.le_of_ble_eq_true rfl), (Nat.le_of_ble_eq_true rfl)⟩ hK hH.1 rfl hl.1 rfl (Nat.le_of_ble_eq_true rfl) dX10_number_33 (fun r3 p4 => ?_)
      rcases p4 with ⟨e9, f5, f6⟩ | ⟨e9, fn7⟩
      · subst e9
        refine lv_if_ne (tgt := 46) hx hb dX10_number_36 (by decide) (fun c8 => ?_) (fun c8 => absurd c8 (by decide))
        refine lv_aload_n hx hb dX10_number_46 rfl (lv_at hl 0 rfl) ?_
        refine va_get (ci := 10) (v := .int (gi u 10)) (C := RX10) (T := TX10) (N := 42) hx hb hts (fun w h => uc_in w (inX10 w h)) hown hK hH.1 0 (mwc0 C A u) rfl 10 (by decide) (hts _ (uc_in _ q_f1198)) (fun _ h9 => h9) rfl dX10_number_47 ?_
        refine lv_istore_n (lv' := [(3, .int (gi u 10)), (0, .ref (A 0)), (1, .int 1), (2, .int 7)]) hx hb dX10_number_50 rfl hl (by decide) rfl (fun ls hl => ?_)
        refine lv_aload_n hx hb dX10_number_51 rfl (lv_at hl 1 rfl) ?_
        refine cvU (n := 0) (As := []) (rest := []) ⟨hx, hb, hml, hown, hts⟩ uc_in (kX10_next_0 l D C A u hI (by have q5 := hI.b6; omega) _) q_m1370 q_n1372 q_p55 q_i11 q_c1373 hvX10_next ⟨(Nat.le_of_ble_eq_true rfl), (Nat.le_of_ble_eq_true rfl)⟩ ⟨(Nat.le_of_ble_eq_true rfl), (Nat.le_of_ble_eq_true rfl)⟩ hK hH (fun q h => Or.inr h) Bl0 (fun _ _ _ => trivial) 10 0 rfl (mwc0 C A u) rfl hl.1 rfl (Nat.le_of_ble_eq_true rfl) dX10_number_52 (fun u9 H locs p11 hH => ?_)
        obtain ⟨hI, hUu9, p11⟩ := p11
        refine lv_iload_n hx hb dX10_number_55 rfl (lv_at hl 0 rfl) ?_
        exact hret _ _ _ _ (gi u 10) _ dX10_number_56 rfl ⟨hI, (Un.tr Un.rf hUu9 rfl rfl rfl), ⟨by have q6 := (show (gi u9 6).toInt = ((gi u 6)).toInt from (congrArg Int32.toInt (show gi u9 6 = (gi u 6) from ((hUu9.1 6 rfl).trans rfl))).trans rfl); have q7 := (show (gi u9 7).toInt = ((gi u9 7)).toInt from (congrArg Int32.toInt (show gi u9 7 = (gi u9 7) from rfl)).trans rfl); have q8 := (show (gi u9 8).toInt = ((gi u9 8)).toInt from (congrArg Int32.toInt (show gi u9 8 = (gi u9 8) from rfl)).trans rfl); have q9 := (show (gi u9 9).toInt = ((gi u9 9)).toInt from (congrArg Int32.toInt (show gi u9 9 = (gi u9 9) from rfl)).trans rfl); have q12 := (show (gi u9 12).toInt = ((gi u 12)).toInt from (congrArg Int32.toInt (show gi u9 12 = (gi u 12) from ((hUu9.1 12 rfl).trans rfl))).trans rfl); omega, by have q6 := (show (gi u9 6).toInt = ((gi u 6)).toInt from (congrArg Int32.toInt (show gi u9 6 = (gi u 6) from ((hUu9.1 6 rfl).trans rfl))).trans rfl); have q7 := (show (gi u9 7).toInt = ((gi u9 7)).toInt from (congrArg Int32.toInt (show gi u9 7 = (gi u9 7) from rfl)).trans rfl); have q8 := (show (gi u9 8).toInt = ((gi u9 8)).toInt from (congrArg Int32.toInt (show gi u9 8 = (gi u9 8) from rfl)).trans rfl); have q9 := (show (gi u9 9).toInt = ((gi u9 9)).toInt from (congrArg Int32.toInt (show gi u9 9 = (gi u9 9) from rfl)).trans rfl); have q12 := (show (gi u9 12).toInt = ((gi u 12)).toInt from (congrArg Int32.toInt (show gi u9 12 = (gi u 12) from ((hUu9.1 12 rfl).trans rfl))).trans rfl); omega, ⟨by have q9 := (show (gi u 10).toInt = ((gi u 10)).toInt from rfl); omega, by have q9 := (show (gi u 10).toInt = ((gi u 10)).toInt from rfl); omega⟩⟩⟩ hH
      · subst e9
        refine lv_if_ne (tgt := 46) hx hb dX10_number_36 (by decide) (fun c12 => absurd c12 (by decide)) (fun c12 => ?_)
        refine lv_aload_n hx hb dX10_number_39 rfl (lv_at hl 0 rfl) ?_
        refine lv_iconst (v := 2) hx hb dX10_number_40 (by decide) ?_
        refine cvU (n := 1) (As := [.int 2]) (rest := []) ⟨hx, hb, hml, hown, hts⟩ uc_in (kX10_fails_2 l D C A u hI  _) q_m1400 q_n1402 q_p61 q_i11 q_c1403 hvX10_fails ⟨(Nat.le_of_ble_eq_true rfl), (Nat.le_of_ble_eq_true rfl)⟩ ⟨(Nat.le_of_ble_eq_true rfl), (Nat.le_of_ble_eq_true rfl)⟩ hK hH (fun q h => Or.inr h) Bl0 (fun _ _ _ => trivial) 10 0 rfl (mwc0 C A u) rfl hl.1 rfl (Nat.le_of_ble_eq_true rfl) dX10_number_41 (fun u13 H locs p15 hH => ?_)
        obtain ⟨hI, hUu13, p15⟩ := p15
        refine lv_iload_n hx hb dX10_number_44 rfl (lv_at hl 1 rfl) ?_
        exact hret _ _ _ _ (1 : Int32) _ dX10_number_45 rfl ⟨hI, (Un.tr Un.rf hUu13 rfl rfl rfl), ⟨by have q6 := (show (gi u13 6).toInt = ((gi u 6)).toInt from (congrArg Int32.toInt (show gi u13 6 = (gi u 6) from ((hUu13.1 6 rfl).trans rfl))).trans rfl); have q7 := (show (gi u13 7).toInt = ((gi u 7)).toInt from (congrArg Int32.toInt (show gi u13 7 = (gi u 7) from ((hUu13.1 7 rfl).trans rfl))).trans rfl); have q8 := (show (gi u13 8).toInt = ((gi u 8)).toInt from (congrArg Int32.toInt (show gi u13 8 = (gi u 8) from ((hUu13.1 8 rfl).trans rfl))).trans rfl); have q9 := (show (gi u13 9).toInt = ((gi u 9)).toInt from (congrArg Int32.toInt (show gi u13 9 = (gi u 9) from ((hUu13.1 9 rfl).trans rfl))).trans rfl); have q12 := (show (gi u13 12).toInt = ((gi u13 12)).toInt from (congrArg Int32.toInt (show gi u13 12 = (gi u13 12) from rfl)).trans rfl); omega, by have q6 := (show (gi u13 6).toInt = ((gi u 6)).toInt from (congrArg Int32.toInt (show gi u13 6 = (gi u 6) from ((hUu13.1 6 rfl).trans rfl))).trans rfl); have q7 := (show (gi u13 7).toInt = ((gi u 7)).toInt from (congrArg Int32.toInt (show gi u13 7 = (gi u 7) from ((hUu13.1 7 rfl).trans rfl))).trans rfl); have q8 := (show (gi u13 8).toInt = ((gi u 8)).toInt from (congrArg Int32.toInt (show gi u13 8 = (gi u 8) from ((hUu13.1 8 rfl).trans rfl))).trans rfl); have q9 := (show (gi u13 9).toInt = ((gi u 9)).toInt from (congrArg Int32.toInt (show gi u13 9 = (gi u 9) from ((hUu13.1 9 rfl).trans rfl))).trans rfl); have q12 := (show (gi u13 12).toInt = ((gi u13 12)).toInt from (congrArg Int32.toInt (show gi u13 12 = (gi u13 12) from rfl)).trans rfl); omega, ⟨by decide, by decide⟩⟩⟩ hH
    · refine lv_aload_n hx hb dX10_number_17 rfl (lv_at hl 0 rfl) ?_
      refine lv_iconst (v := 1) hx hb dX10_number_18 (by decide) ?_
      refine cvU (n := 1) (As := [.int 1]) (rest := []) ⟨hx, hb, hml, hown, hts⟩ uc_in (kX10_fails_1 l D C A u hI  _) q_m1400 q_n1402 q_p61 q_i11 q_c1403 hvX10_fails ⟨(Nat.le_of_ble_eq_true rfl), (Nat.le_of_ble_eq_true rfl)⟩ ⟨(Nat.le_of_ble_eq_true rfl), (Nat.le_of_ble_eq_true rfl)⟩ hK hH (fun q h => Or.inr h) Bl0 (fun _ _ _ => trivial) 10 0 rfl (mwc0 C A u) rfl hl.1 rfl (Nat.le_of_ble_eq_true rfl) dX10_number_19 (fun u16 H locs p18 hH => ?_)
      obtain ⟨hI, hUu16, p18⟩ := p18
      refine lv_iload_n hx hb dX10_number_22 rfl (lv_at hl 1 rfl) ?_
      exact hret _ _ _ _ (1 : Int32) _ dX10_number_23 rfl ⟨hI, (Un.tr Un.rf hUu16 rfl rfl rfl), ⟨by have q6 := (show (gi u16 6).toInt = ((gi u 6)).toInt from (congrArg Int32.toInt (show gi u16 6 = (gi u 6) from ((hUu16.1 6 rfl).trans rfl))).trans rfl); have q7 := (show (gi u16 7).toInt = ((gi u 7)).toInt from (congrArg Int32.toInt (show gi u16 7 = (gi u 7) from ((hUu16.1 7 rfl).trans rfl))).trans rfl); have q8 := (show (gi u16 8).toInt = ((gi u 8)).toInt from (congrArg Int32.toInt (show gi u16 8 = (gi u 8) from ((hUu16.1 8 rfl).trans rfl))).trans rfl); have q9 := (show (gi u16 9).toInt = ((gi u 9)).toInt from (congrArg Int32.toInt (show gi u16 9 = (gi u 9) from ((hUu16.1 9 rfl).trans rfl))).trans rfl); have q12 := (show (gi u16 12).toInt = ((gi u16 12)).toInt from (congrArg Int32.toInt (show gi u16 12 = (gi u16 12) from rfl)).trans rfl); omega, by have q6 := (show (gi u16 6).toInt = ((gi u 6)).toInt from (congrArg Int32.toInt (show gi u16 6 = (gi u 6) from ((hUu16.1 6 rfl).trans rfl))).trans rfl); have q7 := (show (gi u16 7).toInt = ((gi u 7)).toInt from (congrArg Int32.toInt (show gi u16 7 = (gi u 7) from ((hUu16.1 7 rfl).trans rfl))).trans rfl); have q8 := (show (gi u16 8).toInt = ((gi u 8)).toInt from (congrArg Int32.toInt (show gi u16 8 = (gi u 8) from ((hUu16.1 8 rfl).trans rfl))).trans rfl); have q9 := (show (gi u16 9).toInt = ((gi u 9)).toInt from (congrArg Int32.toInt (show gi u16 9 = (gi u 9) from ((hUu16.1 9 rfl).trans rfl))).trans rfl); have q12 := (show (gi u16 12).toInt = ((gi u16 12)).toInt from (congrArg Int32.toInt (show gi u16 12 = (gi u16 12) from rfl)).trans rfl); omega, ⟨by decide, by decide⟩⟩⟩ hH
  · refine lv_iload_n hx hb dX10_number_7 rfl (lv_at hl 1 rfl) ?_
    exact hret _ _ _ _ (1 : Int32) _ dX10_number_8 rfl ⟨hI, Un.rf, ⟨by have q6 := (show (gi u 6).toInt = ((gi u 6)).toInt from (congrArg Int32.toInt (show gi u 6 = (gi u 6) from rfl)).trans rfl); have q7 := (show (gi u 7).toInt = ((gi u 7)).toInt from (congrArg Int32.toInt (show gi u 7 = (gi u 7) from rfl)).trans rfl); have q8 := (show (gi u 8).toInt = ((gi u 8)).toInt from (congrArg Int32.toInt (show gi u 8 = (gi u 8) from rfl)).trans rfl); have q9 := (show (gi u 9).toInt = ((gi u 9)).toInt from (congrArg Int32.toInt (show gi u 9 = (gi u 9) from rfl)).trans rfl); have q12 := (show (gi u 12).toInt = ((gi u 12)).toInt from (congrArg Int32.toInt (show gi u 12 = (gi u 12) from rfl)).trans rfl); omega, by have q6 := (show (gi u 6).toInt = ((gi u 6)).toInt from (congrArg Int32.toInt (show gi u 6 = (gi u 6) from rfl)).trans rfl); have q7 := (show (gi u 7).toInt = ((gi u 7)).toInt from (congrArg Int32.toInt (show gi u 7 = (gi u 7) from rfl)).trans rfl); have q8 := (show (gi u 8).toInt = ((gi u 8)).toInt from (congrArg Int32.toInt (show gi u 8 = (gi u 8) from rfl)).trans rfl); have q9 := (show (gi u 9).toInt = ((gi u 9)).toInt from (congrArg Int32.toInt (show gi u 9 = (gi u 9) from rfl)).trans rfl); have q12 := (show (gi u 12).toInt = ((gi u 12)).toInt from (congrArg Int32.toInt (show gi u 12 = (gi u 12) from rfl)).trans rfl); omega, ⟨by decide, by decide⟩⟩⟩ hH
set_option maxHeartbeats 4000000 in
set_option maxRecDepth 100000 in
theorem kX10_number__3 (l : Launch) (D : va_G) (C : Nat → ClassId) (A : Nat → Nat) (u : St) (hI : IM u) (a0 : Int64) (A0 : Int) (ha0 : a0.toInt = A0) (hPI : (gi u 9).toInt ≤ (gi u 7).toInt ∧ (gi u 7).toInt ≤ (gi u 6).toInt ∧ ((gi u 8).toInt = 0 ∨ (gi u 9).toInt < (gi u 7).toInt)) (sz : Nat) : MetI l yX10_number_ cX10_number_ 5 (some .int) 5 [.ref (A 0), .long a0, .int 1, .int 7] D (tyl C) (mw C A) X0 u sz (fun r u' => IM u' ∧ Un [(7, 7), (8, 8), (9, 9), (10, 10), (12, 12), (13, 13)] [] [] u u' ∧ (((gi u' 9).toInt ≤ (gi u' 7).toInt ∧ (gi u' 7).toInt ≤ (gi u 6).toInt ∧ ((gi u' 8).toInt = 0 ∨ (gi u' 9).toInt < (gi u' 7).toInt)) ∧ (gi u 9).toInt ≤ (gi u' 9).toInt ∧ (1 ≤ r.toInt ∧ r.toInt ≤ 7))) := by
  refine mI (by decide) (Nat.le_of_ble_eq_true rfl) ?_
  intro p e s m below meth c ls ar Q hx hb hml hown hts hK hH hX hl hret
  have hown : s.vm.findClass RX10 = some m.cls := hown
  have hl : lv_has ls 5 [(0, .ref (A 0)), (1, .long a0), (3, .int 1), (4, .int 7)] := hl
  refine lv_aload_n hx hb dX10_number__0 rfl (lv_at hl 0 rfl) ?_
  refine lv_lload_n hx hb dX10_number__1 rfl (lv_at hl 1 rfl) ?_
  refine cvU (n := 1) (As := [.long a0]) (rest := []) ⟨hx, hb, hml, hown, hts⟩ uc_in (kX10_asks_0 l D C A u hI a0 A0 ha0 (by omega) _) q_m1388 q_n1390 q_p58 q_i11 q_c1391 hvX10_asks ⟨(Nat.le_of_ble_eq_true rfl), (Nat.le_of_ble_eq_true rfl)⟩ ⟨(Nat.le_of_ble_eq_true rfl), (Nat.le_of_ble_eq_true rfl)⟩ hK hH (fun q h => Or.inr h) Bl0 (fun _ _ _ => trivial) 10 0 rfl (mwc0 C A u) rfl hl.1 rfl (Nat.le_of_ble_eq_true rfl) dX10_number__2 (fun u1 H locs p3 hH => ?_)
  obtain ⟨hI, hUu1, p3⟩ := p3
  obtain ⟨f4, f5⟩ := p3
  refine lv_aload_n hx hb dX10_number__5 rfl (lv_at hl 0 rfl) ?_
  refine lv_iload_n hx hb dX10_number__6 rfl (lv_at hl 2 rfl) ?_
  refine lv_iload hx hb dX10_number__7 (lv_at hl 3 rfl) ?_
  have q7 := (show (gi u1 6).toInt = ((gi u 6)).toInt from (congrArg Int32.toInt (show gi u1 6 = (gi u 6) from ((hUu1.1 6 rfl).trans rfl))).trans rfl)
  refine cvI (n := 2) (As := [.int 1, .int 7]) (rest := []) ⟨hx, hb, hml, hown, hts⟩ uc_in (kX10_number_4 l D C A u1 hI (by omega) _) q_m1409 q_n1411 q_p63 q_i11 q_c1412 hvX10_number ⟨(Nat.le_of_ble_eq_true rfl), (Nat.le_of_ble_eq_true rfl)⟩ ⟨(Nat.le_of_ble_eq_true rfl), (Nat.le_of_ble_eq_true rfl)⟩ hK hH (fun q h => Or.inr h) Bl0 (fun _ _ _ => trivial) 10 0 rfl (mwc0 C A u1) rfl hl.1 rfl (Nat.le_of_ble_eq_true rfl) dX10_number__9 (fun r9 u8 H locs p10 hH => ?_)
  obtain ⟨hI, hUu8, p10⟩ := p10
  obtain ⟨f11, f12, f13⟩ := p10
  exact hret _ _ _ _ r9 _ dX10_number__12 rfl ⟨hI, (Un.tr (Un.tr Un.rf hUu1 rfl rfl rfl) hUu8 rfl rfl rfl), ⟨by have q6 := (show (gi u8 6).toInt = ((gi u 6)).toInt from (congrArg Int32.toInt (show gi u8 6 = (gi u 6) from ((hUu8.1 6 rfl).trans ((hUu1.1 6 rfl).trans rfl)))).trans rfl); have q7 := (show (gi u8 7).toInt = ((gi u8 7)).toInt from (congrArg Int32.toInt (show gi u8 7 = (gi u8 7) from rfl)).trans rfl); have q8 := (show (gi u8 8).toInt = ((gi u8 8)).toInt from (congrArg Int32.toInt (show gi u8 8 = (gi u8 8) from rfl)).trans rfl); have q9 := (show (gi u8 9).toInt = ((gi u8 9)).toInt from (congrArg Int32.toInt (show gi u8 9 = (gi u8 9) from rfl)).trans rfl); have q12 := (show (gi u8 12).toInt = ((gi u8 12)).toInt from (congrArg Int32.toInt (show gi u8 12 = (gi u8 12) from rfl)).trans rfl); omega, by have q6 := (show (gi u8 6).toInt = ((gi u 6)).toInt from (congrArg Int32.toInt (show gi u8 6 = (gi u 6) from ((hUu8.1 6 rfl).trans ((hUu1.1 6 rfl).trans rfl)))).trans rfl); have q7 := (show (gi u8 7).toInt = ((gi u8 7)).toInt from (congrArg Int32.toInt (show gi u8 7 = (gi u8 7) from rfl)).trans rfl); have q8 := (show (gi u8 8).toInt = ((gi u8 8)).toInt from (congrArg Int32.toInt (show gi u8 8 = (gi u8 8) from rfl)).trans rfl); have q9 := (show (gi u8 9).toInt = ((gi u8 9)).toInt from (congrArg Int32.toInt (show gi u8 9 = (gi u8 9) from rfl)).trans rfl); have q12 := (show (gi u8 12).toInt = ((gi u8 12)).toInt from (congrArg Int32.toInt (show gi u8 12 = (gi u8 12) from rfl)).trans rfl); omega, ⟨by have q9 := (show r9.toInt = r9.toInt from rfl); omega, by have q9 := (show r9.toInt = r9.toInt from rfl); omega⟩⟩⟩ hH
set_option maxHeartbeats 4000000 in
set_option maxRecDepth 100000 in
theorem kX10_tells_4 (l : Launch) (D : va_G) (C : Nat → ClassId) (A : Nat → Nat) (u : St) (hI : IM u) (a1 : Int32) (A1 : Int) (ha1 : a1.toInt = A1) (hl1 : 0 ≤ A1) (hm1 : A1 ≤ 7) (sz : Nat) : MetV l yX10_tells cX10_tells 3 1 [.ref (A 0), .int 0, .int a1] D (tyl C) (mw C A) X0 u sz (fun u' => IM u' ∧ Un [] [(7, 7)] [] u u' ∧ True) := by
  refine mV (by decide) (Nat.le_of_ble_eq_true rfl) ?_
  intro p e s m below meth c ls ar Q hx hb hml hown hts hK hH hX hl hret
  have hown : s.vm.findClass RX10 = some m.cls := hown
  have hl : lv_has ls 3 [(0, .ref (A 0)), (1, .int 0), (2, .int a1)] := hl
  refine lv_aload_n hx hb dX10_tells_0 rfl (lv_at hl 0 rfl) ?_
  refine va_get (ci := 10) (v := .ref (A 7)) (C := RX10) (T := TX10) (N := 42) hx hb hts (fun w h => uc_in w (inX10 w h)) hown hK hH.1 0 (mwc0 C A u) rfl 17 (by decide) (hts _ (uc_in _ q_f1205)) (fun _ h9 => h9) rfl dX10_tells_1 ?_
  refine lv_bipush (v := 24) hx hb dX10_tells_4 (by decide) ?_
  refine lv_iload_n hx hb dX10_tells_6 rfl (lv_at hl 1 rfl) ?_
  refine lv_iadd hx hb dX10_tells_7 ?_
  refine pv_i (v := 24) (by decide) ?_
  refine lv_iload_n hx hb dX10_tells_8 rfl (lv_at hl 2 rfl) ?_
  refine r_iast (j := 7) hx hb hK hH 7 1 (mwc7 C A u) rfl (i_ix (X := 24) (by decide) (by decide) (by decide)) (mwa7 C A u) dX10_tells_9 (fun u1 eu1 H locs hH => ?_)
  have hI := hI.pah eu1 ha1 (by omega) (show A1 ≤ 7 by omega)
  exact hret _ _ _ _ _ dX10_tells_10 ⟨hI, (Un.sa Un.rf rfl eu1), trivial⟩ hH
set_option maxHeartbeats 4000000 in
set_option maxRecDepth 100000 in
theorem kX10_tells_5 (l : Launch) (D : va_G) (C : Nat → ClassId) (A : Nat → Nat) (u : St) (hI : IM u) (a1 : Int32) (A1 : Int) (ha1 : a1.toInt = A1) (hl1 : 0 ≤ A1) (hm1 : A1 ≤ 9) (sz : Nat) : MetV l yX10_tells cX10_tells 3 1 [.ref (A 0), .int 1, .int a1] D (tyl C) (mw C A) X0 u sz (fun u' => IM u' ∧ Un [] [(7, 7)] [] u u' ∧ True) := by
  refine mV (by decide) (Nat.le_of_ble_eq_true rfl) ?_
  intro p e s m below meth c ls ar Q hx hb hml hown hts hK hH hX hl hret
  have hown : s.vm.findClass RX10 = some m.cls := hown
  have hl : lv_has ls 3 [(0, .ref (A 0)), (1, .int 1), (2, .int a1)] := hl
  refine lv_aload_n hx hb dX10_tells_0 rfl (lv_at hl 0 rfl) ?_
  refine va_get (ci := 10) (v := .ref (A 7)) (C := RX10) (T := TX10) (N := 42) hx hb hts (fun w h => uc_in w (inX10 w h)) hown hK hH.1 0 (mwc0 C A u) rfl 17 (by decide) (hts _ (uc_in _ q_f1205)) (fun _ h9 => h9) rfl dX10_tells_1 ?_
  refine lv_bipush (v := 24) hx hb dX10_tells_4 (by decide) ?_
  refine lv_iload_n hx hb dX10_tells_6 rfl (lv_at hl 1 rfl) ?_
  refine lv_iadd hx hb dX10_tells_7 ?_
  refine pv_i (v := 25) (by decide) ?_
  refine lv_iload_n hx hb dX10_tells_8 rfl (lv_at hl 2 rfl) ?_
  refine r_iast (j := 7) hx hb hK hH 7 1 (mwc7 C A u) rfl (i_ix (X := 25) (by decide) (by decide) (by decide)) (mwa7 C A u) dX10_tells_9 (fun u1 eu1 H locs hH => ?_)
  have hI := hI.pah eu1 ha1 (by omega) (show A1 ≤ 9 by omega)
  exact hret _ _ _ _ _ dX10_tells_10 ⟨hI, (Un.sa Un.rf rfl eu1), trivial⟩ hH
set_option maxHeartbeats 4000000 in
set_option maxRecDepth 100000 in
theorem kX10_number_5 (l : Launch) (D : va_G) (C : Nat → ClassId) (A : Nat → Nat) (u : St) (hI : IM u) (hPI : (gi u 9).toInt ≤ (gi u 7).toInt ∧ (gi u 7).toInt ≤ (gi u 6).toInt ∧ ((gi u 8).toInt = 0 ∨ (gi u 9).toInt < (gi u 7).toInt)) (sz : Nat) : MetI l yX10_number cX10_number 4 (some .int) 3 [.ref (A 0), .int 0, .int 10] D (tyl C) (mw C A) X0 u sz (fun r u' => IM u' ∧ Un [(7, 7), (8, 8), (9, 9), (10, 10), (12, 12), (13, 13)] [] [] u u' ∧ (((gi u' 9).toInt ≤ (gi u' 7).toInt ∧ (gi u' 7).toInt ≤ (gi u 6).toInt ∧ ((gi u' 8).toInt = 0 ∨ (gi u' 9).toInt < (gi u' 7).toInt)) ∧ (gi u 9).toInt ≤ (gi u' 9).toInt ∧ (0 ≤ r.toInt ∧ r.toInt ≤ 10))) := by
  refine mI (by decide) (Nat.le_of_ble_eq_true rfl) ?_
  intro p e s m below meth c ls ar Q hx hb hml hown hts hK hH hX hl hret
  have hown : s.vm.findClass RX10 = some m.cls := hown
  have hl : lv_has ls 4 [(0, .ref (A 0)), (1, .int 0), (2, .int 10)] := hl
  refine lv_aload_n hx hb dX10_number_0 rfl (lv_at hl 0 rfl) ?_
  refine va_get (ci := 10) (v := .int (gi u 12)) (C := RX10) (T := TX10) (N := 42) hx hb hts (fun w h => uc_in w (inX10 w h)) hown hK hH.1 0 (mwc0 C A u) rfl 12 (by decide) (hts _ (uc_in _ q_f1200)) (fun _ h9 => h9) rfl dX10_number_1 ?_
  refine lv_if_eq (tgt := 9) hx hb dX10_number_4 (by decide) (fun c1 => ?_) (fun c1 => ?_)
  · have c1 := cEQ (x := (gi u 12)) (y := 0) (X := ((gi u 12)).toInt) (Y := 0) rfl (by decide) c1
    refine lv_aload_n hx hb dX10_number_9 rfl (lv_at hl 0 rfl) ?_
    refine va_get (ci := 10) (v := .int (gi u 8)) (C := RX10) (T := TX10) (N := 42) hx hb hts (fun w h => uc_in w (inX10 w h)) hown hK hH.1 0 (mwc0 C A u) rfl 8 (by decide) (hts _ (uc_in _ q_f1196)) (fun _ h9 => h9) rfl dX10_number_10 ?_
    refine lv_iconst (v := 2) hx hb dX10_number_13 (by decide) ?_
    refine lv_icmp_eq (tgt := 24) hx hb dX10_number_14 (by decide) (fun c2 => ?_) (fun c2 => ?_)
    · have c2 := cEQ (x := (gi u 8)) (y := 2) (X := ((gi u 8)).toInt) (Y := 2) rfl (by decide) c2
      refine lv_aload_n hx hb dX10_number_24 rfl (lv_at hl 0 rfl) ?_
      refine va_get (ci := 10) (v := .int (gi u 10)) (C := RX10) (T := TX10) (N := 42) hx hb hts (fun w h => uc_in w (inX10 w h)) hown hK hH.1 0 (mwc0 C A u) rfl 10 (by decide) (hts _ (uc_in _ q_f1198)) (fun _ h9 => h9) rfl dX10_number_25 ?_
      refine lv_i2l (v := (gi u 10).toInt64) hx hb dX10_number_28 rfl ?_
      refine lv_iload_n hx hb dX10_number_29 rfl (lv_at hl 1 rfl) ?_
      refine lv_i2l (v := 0) hx hb dX10_number_30 (by decide) ?_
      refine lv_iload_n hx hb dX10_number_31 rfl (lv_at hl 2 rfl) ?_
      refine lv_i2l (v := 10) hx hb dX10_number_32 (by decide) ?_
      refine csS (n := 3) (As := [.long ((gi u 10).toInt64), .long 0, .long 10]) (rest := []) ⟨hx, hb, hml, hown, hts⟩ uc_in (kX10_in_0 l D C A u hI ((gi u 10).toInt64) (((gi u 10)).toInt) (tt_i2l rfl) (0) 0 (by decide) (10) 10 (by decide)) q_m1324 q_s1325 q_i11 q_c1326 hvX10_in ⟨(Nat.le_of_ble_eq_true rfl), (Nat.le_of_ble_eq_true rfl)⟩ ⟨(Nat.le_of_ble_eq_true rfl), (Nat.le_of_ble_eq_true rfl)⟩ hK hH.1 rfl hl.1 rfl (Nat.le_of_ble_eq_true rfl) dX10_number_33 (fun r3 p4 => ?_)
      rcases p4 with ⟨e9, f5, f6⟩ | ⟨e9, fn7⟩
      · subst e9
        refine lv_if_ne (tgt := 46) hx hb dX10_number_36 (by decide) (fun c8 => ?_) (fun c8 => absurd c8 (by decide))
        refine lv_aload_n hx hb dX10_number_46 rfl (lv_at hl 0 rfl) ?_
        refine va_get (ci := 10) (v := .int (gi u 10)) (C := RX10) (T := TX10) (N := 42) hx hb hts (fun w h => uc_in w (inX10 w h)) hown hK hH.1 0 (mwc0 C A u) rfl 10 (by decide) (hts _ (uc_in _ q_f1198)) (fun _ h9 => h9) rfl dX10_number_47 ?_
        refine lv_istore_n (lv' := [(3, .int (gi u 10)), (0, .ref (A 0)), (1, .int 0), (2, .int 10)]) hx hb dX10_number_50 rfl hl (by decide) rfl (fun ls hl => ?_)
        refine lv_aload_n hx hb dX10_number_51 rfl (lv_at hl 1 rfl) ?_
        refine cvU (n := 0) (As := []) (rest := []) ⟨hx, hb, hml, hown, hts⟩ uc_in (kX10_next_0 l D C A u hI (by have q5 := hI.b6; omega) _) q_m1370 q_n1372 q_p55 q_i11 q_c1373 hvX10_next ⟨(Nat.le_of_ble_eq_true rfl), (Nat.le_of_ble_eq_true rfl)⟩ ⟨(Nat.le_of_ble_eq_true rfl), (Nat.le_of_ble_eq_true rfl)⟩ hK hH (fun q h => Or.inr h) Bl0 (fun _ _ _ => trivial) 10 0 rfl (mwc0 C A u) rfl hl.1 rfl (Nat.le_of_ble_eq_true rfl) dX10_number_52 (fun u9 H locs p11 hH => ?_)
        obtain ⟨hI, hUu9, p11⟩ := p11
        refine lv_iload_n hx hb dX10_number_55 rfl (lv_at hl 0 rfl) ?_
        exact hret _ _ _ _ (gi u 10) _ dX10_number_56 rfl ⟨hI, (Un.tr Un.rf hUu9 rfl rfl rfl), ⟨by have q6 := (show (gi u9 6).toInt = ((gi u 6)).toInt from (congrArg Int32.toInt (show gi u9 6 = (gi u 6) from ((hUu9.1 6 rfl).trans rfl))).trans rfl); have q7 := (show (gi u9 7).toInt = ((gi u9 7)).toInt from (congrArg Int32.toInt (show gi u9 7 = (gi u9 7) from rfl)).trans rfl); have q8 := (show (gi u9 8).toInt = ((gi u9 8)).toInt from (congrArg Int32.toInt (show gi u9 8 = (gi u9 8) from rfl)).trans rfl); have q9 := (show (gi u9 9).toInt = ((gi u9 9)).toInt from (congrArg Int32.toInt (show gi u9 9 = (gi u9 9) from rfl)).trans rfl); have q12 := (show (gi u9 12).toInt = ((gi u 12)).toInt from (congrArg Int32.toInt (show gi u9 12 = (gi u 12) from ((hUu9.1 12 rfl).trans rfl))).trans rfl); omega, by have q6 := (show (gi u9 6).toInt = ((gi u 6)).toInt from (congrArg Int32.toInt (show gi u9 6 = (gi u 6) from ((hUu9.1 6 rfl).trans rfl))).trans rfl); have q7 := (show (gi u9 7).toInt = ((gi u9 7)).toInt from (congrArg Int32.toInt (show gi u9 7 = (gi u9 7) from rfl)).trans rfl); have q8 := (show (gi u9 8).toInt = ((gi u9 8)).toInt from (congrArg Int32.toInt (show gi u9 8 = (gi u9 8) from rfl)).trans rfl); have q9 := (show (gi u9 9).toInt = ((gi u9 9)).toInt from (congrArg Int32.toInt (show gi u9 9 = (gi u9 9) from rfl)).trans rfl); have q12 := (show (gi u9 12).toInt = ((gi u 12)).toInt from (congrArg Int32.toInt (show gi u9 12 = (gi u 12) from ((hUu9.1 12 rfl).trans rfl))).trans rfl); omega, ⟨by have q9 := (show (gi u 10).toInt = ((gi u 10)).toInt from rfl); omega, by have q9 := (show (gi u 10).toInt = ((gi u 10)).toInt from rfl); omega⟩⟩⟩ hH
      · subst e9
        refine lv_if_ne (tgt := 46) hx hb dX10_number_36 (by decide) (fun c12 => absurd c12 (by decide)) (fun c12 => ?_)
        refine lv_aload_n hx hb dX10_number_39 rfl (lv_at hl 0 rfl) ?_
        refine lv_iconst (v := 2) hx hb dX10_number_40 (by decide) ?_
        refine cvU (n := 1) (As := [.int 2]) (rest := []) ⟨hx, hb, hml, hown, hts⟩ uc_in (kX10_fails_2 l D C A u hI  _) q_m1400 q_n1402 q_p61 q_i11 q_c1403 hvX10_fails ⟨(Nat.le_of_ble_eq_true rfl), (Nat.le_of_ble_eq_true rfl)⟩ ⟨(Nat.le_of_ble_eq_true rfl), (Nat.le_of_ble_eq_true rfl)⟩ hK hH (fun q h => Or.inr h) Bl0 (fun _ _ _ => trivial) 10 0 rfl (mwc0 C A u) rfl hl.1 rfl (Nat.le_of_ble_eq_true rfl) dX10_number_41 (fun u13 H locs p15 hH => ?_)
        obtain ⟨hI, hUu13, p15⟩ := p15
        refine lv_iload_n hx hb dX10_number_44 rfl (lv_at hl 1 rfl) ?_
        exact hret _ _ _ _ (0 : Int32) _ dX10_number_45 rfl ⟨hI, (Un.tr Un.rf hUu13 rfl rfl rfl), ⟨by have q6 := (show (gi u13 6).toInt = ((gi u 6)).toInt from (congrArg Int32.toInt (show gi u13 6 = (gi u 6) from ((hUu13.1 6 rfl).trans rfl))).trans rfl); have q7 := (show (gi u13 7).toInt = ((gi u 7)).toInt from (congrArg Int32.toInt (show gi u13 7 = (gi u 7) from ((hUu13.1 7 rfl).trans rfl))).trans rfl); have q8 := (show (gi u13 8).toInt = ((gi u 8)).toInt from (congrArg Int32.toInt (show gi u13 8 = (gi u 8) from ((hUu13.1 8 rfl).trans rfl))).trans rfl); have q9 := (show (gi u13 9).toInt = ((gi u 9)).toInt from (congrArg Int32.toInt (show gi u13 9 = (gi u 9) from ((hUu13.1 9 rfl).trans rfl))).trans rfl); have q12 := (show (gi u13 12).toInt = ((gi u13 12)).toInt from (congrArg Int32.toInt (show gi u13 12 = (gi u13 12) from rfl)).trans rfl); omega, by have q6 := (show (gi u13 6).toInt = ((gi u 6)).toInt from (congrArg Int32.toInt (show gi u13 6 = (gi u 6) from ((hUu13.1 6 rfl).trans rfl))).trans rfl); have q7 := (show (gi u13 7).toInt = ((gi u 7)).toInt from (congrArg Int32.toInt (show gi u13 7 = (gi u 7) from ((hUu13.1 7 rfl).trans rfl))).trans rfl); have q8 := (show (gi u13 8).toInt = ((gi u 8)).toInt from (congrArg Int32.toInt (show gi u13 8 = (gi u 8) from ((hUu13.1 8 rfl).trans rfl))).trans rfl); have q9 := (show (gi u13 9).toInt = ((gi u 9)).toInt from (congrArg Int32.toInt (show gi u13 9 = (gi u 9) from ((hUu13.1 9 rfl).trans rfl))).trans rfl); have q12 := (show (gi u13 12).toInt = ((gi u13 12)).toInt from (congrArg Int32.toInt (show gi u13 12 = (gi u13 12) from rfl)).trans rfl); omega, ⟨by decide, by decide⟩⟩⟩ hH
    · refine lv_aload_n hx hb dX10_number_17 rfl (lv_at hl 0 rfl) ?_
      refine lv_iconst (v := 1) hx hb dX10_number_18 (by decide) ?_
      refine cvU (n := 1) (As := [.int 1]) (rest := []) ⟨hx, hb, hml, hown, hts⟩ uc_in (kX10_fails_1 l D C A u hI  _) q_m1400 q_n1402 q_p61 q_i11 q_c1403 hvX10_fails ⟨(Nat.le_of_ble_eq_true rfl), (Nat.le_of_ble_eq_true rfl)⟩ ⟨(Nat.le_of_ble_eq_true rfl), (Nat.le_of_ble_eq_true rfl)⟩ hK hH (fun q h => Or.inr h) Bl0 (fun _ _ _ => trivial) 10 0 rfl (mwc0 C A u) rfl hl.1 rfl (Nat.le_of_ble_eq_true rfl) dX10_number_19 (fun u16 H locs p18 hH => ?_)
      obtain ⟨hI, hUu16, p18⟩ := p18
      refine lv_iload_n hx hb dX10_number_22 rfl (lv_at hl 1 rfl) ?_
      exact hret _ _ _ _ (0 : Int32) _ dX10_number_23 rfl ⟨hI, (Un.tr Un.rf hUu16 rfl rfl rfl), ⟨by have q6 := (show (gi u16 6).toInt = ((gi u 6)).toInt from (congrArg Int32.toInt (show gi u16 6 = (gi u 6) from ((hUu16.1 6 rfl).trans rfl))).trans rfl); have q7 := (show (gi u16 7).toInt = ((gi u 7)).toInt from (congrArg Int32.toInt (show gi u16 7 = (gi u 7) from ((hUu16.1 7 rfl).trans rfl))).trans rfl); have q8 := (show (gi u16 8).toInt = ((gi u 8)).toInt from (congrArg Int32.toInt (show gi u16 8 = (gi u 8) from ((hUu16.1 8 rfl).trans rfl))).trans rfl); have q9 := (show (gi u16 9).toInt = ((gi u 9)).toInt from (congrArg Int32.toInt (show gi u16 9 = (gi u 9) from ((hUu16.1 9 rfl).trans rfl))).trans rfl); have q12 := (show (gi u16 12).toInt = ((gi u16 12)).toInt from (congrArg Int32.toInt (show gi u16 12 = (gi u16 12) from rfl)).trans rfl); omega, by have q6 := (show (gi u16 6).toInt = ((gi u 6)).toInt from (congrArg Int32.toInt (show gi u16 6 = (gi u 6) from ((hUu16.1 6 rfl).trans rfl))).trans rfl); have q7 := (show (gi u16 7).toInt = ((gi u 7)).toInt from (congrArg Int32.toInt (show gi u16 7 = (gi u 7) from ((hUu16.1 7 rfl).trans rfl))).trans rfl); have q8 := (show (gi u16 8).toInt = ((gi u 8)).toInt from (congrArg Int32.toInt (show gi u16 8 = (gi u 8) from ((hUu16.1 8 rfl).trans rfl))).trans rfl); have q9 := (show (gi u16 9).toInt = ((gi u 9)).toInt from (congrArg Int32.toInt (show gi u16 9 = (gi u 9) from ((hUu16.1 9 rfl).trans rfl))).trans rfl); have q12 := (show (gi u16 12).toInt = ((gi u16 12)).toInt from (congrArg Int32.toInt (show gi u16 12 = (gi u16 12) from rfl)).trans rfl); omega, ⟨by decide, by decide⟩⟩⟩ hH
  · refine lv_iload_n hx hb dX10_number_7 rfl (lv_at hl 1 rfl) ?_
    exact hret _ _ _ _ (0 : Int32) _ dX10_number_8 rfl ⟨hI, Un.rf, ⟨by have q6 := (show (gi u 6).toInt = ((gi u 6)).toInt from (congrArg Int32.toInt (show gi u 6 = (gi u 6) from rfl)).trans rfl); have q7 := (show (gi u 7).toInt = ((gi u 7)).toInt from (congrArg Int32.toInt (show gi u 7 = (gi u 7) from rfl)).trans rfl); have q8 := (show (gi u 8).toInt = ((gi u 8)).toInt from (congrArg Int32.toInt (show gi u 8 = (gi u 8) from rfl)).trans rfl); have q9 := (show (gi u 9).toInt = ((gi u 9)).toInt from (congrArg Int32.toInt (show gi u 9 = (gi u 9) from rfl)).trans rfl); have q12 := (show (gi u 12).toInt = ((gi u 12)).toInt from (congrArg Int32.toInt (show gi u 12 = (gi u 12) from rfl)).trans rfl); omega, by have q6 := (show (gi u 6).toInt = ((gi u 6)).toInt from (congrArg Int32.toInt (show gi u 6 = (gi u 6) from rfl)).trans rfl); have q7 := (show (gi u 7).toInt = ((gi u 7)).toInt from (congrArg Int32.toInt (show gi u 7 = (gi u 7) from rfl)).trans rfl); have q8 := (show (gi u 8).toInt = ((gi u 8)).toInt from (congrArg Int32.toInt (show gi u 8 = (gi u 8) from rfl)).trans rfl); have q9 := (show (gi u 9).toInt = ((gi u 9)).toInt from (congrArg Int32.toInt (show gi u 9 = (gi u 9) from rfl)).trans rfl); have q12 := (show (gi u 12).toInt = ((gi u 12)).toInt from (congrArg Int32.toInt (show gi u 12 = (gi u 12) from rfl)).trans rfl); omega, ⟨by decide, by decide⟩⟩⟩ hH
set_option maxHeartbeats 4000000 in
set_option maxRecDepth 100000 in
theorem kX10_number__4 (l : Launch) (D : va_G) (C : Nat → ClassId) (A : Nat → Nat) (u : St) (hI : IM u) (a0 : Int64) (A0 : Int) (ha0 : a0.toInt = A0) (hPI : (gi u 9).toInt ≤ (gi u 7).toInt ∧ (gi u 7).toInt ≤ (gi u 6).toInt ∧ ((gi u 8).toInt = 0 ∨ (gi u 9).toInt < (gi u 7).toInt)) (sz : Nat) : MetI l yX10_number_ cX10_number_ 5 (some .int) 5 [.ref (A 0), .long a0, .int 0, .int 10] D (tyl C) (mw C A) X0 u sz (fun r u' => IM u' ∧ Un [(7, 7), (8, 8), (9, 9), (10, 10), (12, 12), (13, 13)] [] [] u u' ∧ (((gi u' 9).toInt ≤ (gi u' 7).toInt ∧ (gi u' 7).toInt ≤ (gi u 6).toInt ∧ ((gi u' 8).toInt = 0 ∨ (gi u' 9).toInt < (gi u' 7).toInt)) ∧ (gi u 9).toInt ≤ (gi u' 9).toInt ∧ (0 ≤ r.toInt ∧ r.toInt ≤ 10))) := by
  refine mI (by decide) (Nat.le_of_ble_eq_true rfl) ?_
  intro p e s m below meth c ls ar Q hx hb hml hown hts hK hH hX hl hret
  have hown : s.vm.findClass RX10 = some m.cls := hown
  have hl : lv_has ls 5 [(0, .ref (A 0)), (1, .long a0), (3, .int 0), (4, .int 10)] := hl
  refine lv_aload_n hx hb dX10_number__0 rfl (lv_at hl 0 rfl) ?_
  refine lv_lload_n hx hb dX10_number__1 rfl (lv_at hl 1 rfl) ?_
  refine cvU (n := 1) (As := [.long a0]) (rest := []) ⟨hx, hb, hml, hown, hts⟩ uc_in (kX10_asks_0 l D C A u hI a0 A0 ha0 (by omega) _) q_m1388 q_n1390 q_p58 q_i11 q_c1391 hvX10_asks ⟨(Nat.le_of_ble_eq_true rfl), (Nat.le_of_ble_eq_true rfl)⟩ ⟨(Nat.le_of_ble_eq_true rfl), (Nat.le_of_ble_eq_true rfl)⟩ hK hH (fun q h => Or.inr h) Bl0 (fun _ _ _ => trivial) 10 0 rfl (mwc0 C A u) rfl hl.1 rfl (Nat.le_of_ble_eq_true rfl) dX10_number__2 (fun u1 H locs p3 hH => ?_)
  obtain ⟨hI, hUu1, p3⟩ := p3
  obtain ⟨f4, f5⟩ := p3
  refine lv_aload_n hx hb dX10_number__5 rfl (lv_at hl 0 rfl) ?_
  refine lv_iload_n hx hb dX10_number__6 rfl (lv_at hl 2 rfl) ?_
  refine lv_iload hx hb dX10_number__7 (lv_at hl 3 rfl) ?_
  have q7 := (show (gi u1 6).toInt = ((gi u 6)).toInt from (congrArg Int32.toInt (show gi u1 6 = (gi u 6) from ((hUu1.1 6 rfl).trans rfl))).trans rfl)
  refine cvI (n := 2) (As := [.int 0, .int 10]) (rest := []) ⟨hx, hb, hml, hown, hts⟩ uc_in (kX10_number_5 l D C A u1 hI (by omega) _) q_m1409 q_n1411 q_p63 q_i11 q_c1412 hvX10_number ⟨(Nat.le_of_ble_eq_true rfl), (Nat.le_of_ble_eq_true rfl)⟩ ⟨(Nat.le_of_ble_eq_true rfl), (Nat.le_of_ble_eq_true rfl)⟩ hK hH (fun q h => Or.inr h) Bl0 (fun _ _ _ => trivial) 10 0 rfl (mwc0 C A u1) rfl hl.1 rfl (Nat.le_of_ble_eq_true rfl) dX10_number__9 (fun r9 u8 H locs p10 hH => ?_)
  obtain ⟨hI, hUu8, p10⟩ := p10
  obtain ⟨f11, f12, f13⟩ := p10
  exact hret _ _ _ _ r9 _ dX10_number__12 rfl ⟨hI, (Un.tr (Un.tr Un.rf hUu1 rfl rfl rfl) hUu8 rfl rfl rfl), ⟨by have q6 := (show (gi u8 6).toInt = ((gi u 6)).toInt from (congrArg Int32.toInt (show gi u8 6 = (gi u 6) from ((hUu8.1 6 rfl).trans ((hUu1.1 6 rfl).trans rfl)))).trans rfl); have q7 := (show (gi u8 7).toInt = ((gi u8 7)).toInt from (congrArg Int32.toInt (show gi u8 7 = (gi u8 7) from rfl)).trans rfl); have q8 := (show (gi u8 8).toInt = ((gi u8 8)).toInt from (congrArg Int32.toInt (show gi u8 8 = (gi u8 8) from rfl)).trans rfl); have q9 := (show (gi u8 9).toInt = ((gi u8 9)).toInt from (congrArg Int32.toInt (show gi u8 9 = (gi u8 9) from rfl)).trans rfl); have q12 := (show (gi u8 12).toInt = ((gi u8 12)).toInt from (congrArg Int32.toInt (show gi u8 12 = (gi u8 12) from rfl)).trans rfl); omega, by have q6 := (show (gi u8 6).toInt = ((gi u 6)).toInt from (congrArg Int32.toInt (show gi u8 6 = (gi u 6) from ((hUu8.1 6 rfl).trans ((hUu1.1 6 rfl).trans rfl)))).trans rfl); have q7 := (show (gi u8 7).toInt = ((gi u8 7)).toInt from (congrArg Int32.toInt (show gi u8 7 = (gi u8 7) from rfl)).trans rfl); have q8 := (show (gi u8 8).toInt = ((gi u8 8)).toInt from (congrArg Int32.toInt (show gi u8 8 = (gi u8 8) from rfl)).trans rfl); have q9 := (show (gi u8 9).toInt = ((gi u8 9)).toInt from (congrArg Int32.toInt (show gi u8 9 = (gi u8 9) from rfl)).trans rfl); have q12 := (show (gi u8 12).toInt = ((gi u8 12)).toInt from (congrArg Int32.toInt (show gi u8 12 = (gi u8 12) from rfl)).trans rfl); omega, ⟨by have q9 := (show r9.toInt = r9.toInt from rfl); omega, by have q9 := (show r9.toInt = r9.toInt from rfl); omega⟩⟩⟩ hH
set_option maxHeartbeats 4000000 in
set_option maxRecDepth 100000 in
theorem kX10_tells_6 (l : Launch) (D : va_G) (C : Nat → ClassId) (A : Nat → Nat) (u : St) (hI : IM u) (a1 : Int32) (A1 : Int) (ha1 : a1.toInt = A1) (hl1 : 0 ≤ A1) (hm1 : A1 ≤ 10) (sz : Nat) : MetV l yX10_tells cX10_tells 3 1 [.ref (A 0), .int 2, .int a1] D (tyl C) (mw C A) X0 u sz (fun u' => IM u' ∧ Un [] [(7, 7)] [] u u' ∧ True) := by
  refine mV (by decide) (Nat.le_of_ble_eq_true rfl) ?_
  intro p e s m below meth c ls ar Q hx hb hml hown hts hK hH hX hl hret
  have hown : s.vm.findClass RX10 = some m.cls := hown
  have hl : lv_has ls 3 [(0, .ref (A 0)), (1, .int 2), (2, .int a1)] := hl
  refine lv_aload_n hx hb dX10_tells_0 rfl (lv_at hl 0 rfl) ?_
  refine va_get (ci := 10) (v := .ref (A 7)) (C := RX10) (T := TX10) (N := 42) hx hb hts (fun w h => uc_in w (inX10 w h)) hown hK hH.1 0 (mwc0 C A u) rfl 17 (by decide) (hts _ (uc_in _ q_f1205)) (fun _ h9 => h9) rfl dX10_tells_1 ?_
  refine lv_bipush (v := 24) hx hb dX10_tells_4 (by decide) ?_
  refine lv_iload_n hx hb dX10_tells_6 rfl (lv_at hl 1 rfl) ?_
  refine lv_iadd hx hb dX10_tells_7 ?_
  refine pv_i (v := 26) (by decide) ?_
  refine lv_iload_n hx hb dX10_tells_8 rfl (lv_at hl 2 rfl) ?_
  refine r_iast (j := 7) hx hb hK hH 7 1 (mwc7 C A u) rfl (i_ix (X := 26) (by decide) (by decide) (by decide)) (mwa7 C A u) dX10_tells_9 (fun u1 eu1 H locs hH => ?_)
  have hI := hI.pah eu1 ha1 (by omega) (show A1 ≤ 10 by omega)
  exact hret _ _ _ _ _ dX10_tells_10 ⟨hI, (Un.sa Un.rf rfl eu1), trivial⟩ hH
set_option maxHeartbeats 4000000 in
set_option maxRecDepth 100000 in
theorem kX10_ends_0 (l : Launch) (D : va_G) (C : Nat → ClassId) (A : Nat → Nat) (u : St) (hI : IM u) (hPI : (gi u 9).toInt ≤ (gi u 7).toInt ∧ (gi u 7).toInt ≤ (gi u 6).toInt ∧ ((gi u 8).toInt = 0 ∨ (gi u 9).toInt < (gi u 7).toInt)) (sz : Nat) : MetV l yX10_ends cX10_ends 1 3 [.ref (A 0)] D (tyl C) (mw C A) X0 u sz (fun u' => IM u' ∧ Un [(7, 7), (8, 8), (9, 9), (10, 10), (12, 12), (13, 13)] [] [] u u' ∧ ((gi u' 9).toInt ≤ (gi u' 7).toInt ∧ (gi u' 7).toInt ≤ (gi u 6).toInt ∧ ((gi u' 8).toInt = 0 ∨ (gi u' 9).toInt < (gi u' 7).toInt)) ∧ (gi u 9).toInt ≤ (gi u' 9).toInt ∧ ((gi u' 12).toInt = 0 → (gi u 9).toInt < (gi u' 9).toInt)) := by
  refine mV (by decide) (Nat.le_of_ble_eq_true rfl) ?_
  intro p e s m below meth c ls ar Q hx hb hml hown hts hK hH hX hl hret
  have hown : s.vm.findClass RX10 = some m.cls := hown
  have hl : lv_has ls 1 [(0, .ref (A 0))] := hl
  refine lv_aload_n hx hb dX10_ends_0 rfl (lv_at hl 0 rfl) ?_
  refine va_get (ci := 10) (v := .int (gi u 8)) (C := RX10) (T := TX10) (N := 42) hx hb hts (fun w h => uc_in w (inX10 w h)) hown hK hH.1 0 (mwc0 C A u) rfl 8 (by decide) (hts _ (uc_in _ q_f1196)) (fun _ h9 => h9) rfl dX10_ends_1 ?_
  refine lv_iconst (v := 3) hx hb dX10_ends_4 (by decide) ?_
  refine lv_icmp_eq (tgt := 13) hx hb dX10_ends_5 (by decide) (fun c1 => ?_) (fun c1 => ?_)
  · have c1 := cEQ (x := (gi u 8)) (y := 3) (X := ((gi u 8)).toInt) (Y := 3) rfl (by decide) c1
    refine lv_aload_n hx hb dX10_ends_13 rfl (lv_at hl 0 rfl) ?_
    refine va_get (ci := 10) (v := .int (gi u 12)) (C := RX10) (T := TX10) (N := 42) hx hb hts (fun w h => uc_in w (inX10 w h)) hown hK hH.1 0 (mwc0 C A u) rfl 12 (by decide) (hts _ (uc_in _ q_f1200)) (fun _ h9 => h9) rfl dX10_ends_14 ?_
    refine lv_if_ne (tgt := 24) hx hb dX10_ends_17 (by decide) (fun c2 => ?_) (fun c2 => ?_)
    · have c2 := cNE (x := (gi u 12)) (y := 0) (X := ((gi u 12)).toInt) (Y := 0) rfl (by decide) c2
      exact hret _ _ _ _ _ dX10_ends_24 ⟨hI, Un.rf, ⟨by have q6 := (show (gi u 6).toInt = ((gi u 6)).toInt from (congrArg Int32.toInt (show gi u 6 = (gi u 6) from rfl)).trans rfl); have q7 := (show (gi u 7).toInt = ((gi u 7)).toInt from (congrArg Int32.toInt (show gi u 7 = (gi u 7) from rfl)).trans rfl); have q8 := (show (gi u 8).toInt = ((gi u 8)).toInt from (congrArg Int32.toInt (show gi u 8 = (gi u 8) from rfl)).trans rfl); have q9 := (show (gi u 9).toInt = ((gi u 9)).toInt from (congrArg Int32.toInt (show gi u 9 = (gi u 9) from rfl)).trans rfl); have q12 := (show (gi u 12).toInt = ((gi u 12)).toInt from (congrArg Int32.toInt (show gi u 12 = (gi u 12) from rfl)).trans rfl); omega, by have q6 := (show (gi u 6).toInt = ((gi u 6)).toInt from (congrArg Int32.toInt (show gi u 6 = (gi u 6) from rfl)).trans rfl); have q7 := (show (gi u 7).toInt = ((gi u 7)).toInt from (congrArg Int32.toInt (show gi u 7 = (gi u 7) from rfl)).trans rfl); have q8 := (show (gi u 8).toInt = ((gi u 8)).toInt from (congrArg Int32.toInt (show gi u 8 = (gi u 8) from rfl)).trans rfl); have q9 := (show (gi u 9).toInt = ((gi u 9)).toInt from (congrArg Int32.toInt (show gi u 9 = (gi u 9) from rfl)).trans rfl); have q12 := (show (gi u 12).toInt = ((gi u 12)).toInt from (congrArg Int32.toInt (show gi u 12 = (gi u 12) from rfl)).trans rfl); omega, (by have q6 := (show (gi u 6).toInt = ((gi u 6)).toInt from (congrArg Int32.toInt (show gi u 6 = (gi u 6) from rfl)).trans rfl); have q7 := (show (gi u 7).toInt = ((gi u 7)).toInt from (congrArg Int32.toInt (show gi u 7 = (gi u 7) from rfl)).trans rfl); have q8 := (show (gi u 8).toInt = ((gi u 8)).toInt from (congrArg Int32.toInt (show gi u 8 = (gi u 8) from rfl)).trans rfl); have q9 := (show (gi u 9).toInt = ((gi u 9)).toInt from (congrArg Int32.toInt (show gi u 9 = (gi u 9) from rfl)).trans rfl); have q12 := (show (gi u 12).toInt = ((gi u 12)).toInt from (congrArg Int32.toInt (show gi u 12 = (gi u 12) from rfl)).trans rfl); omega)⟩⟩ hH
    · have c2 := cEQ (x := (gi u 12)) (y := 0) (X := ((gi u 12)).toInt) (Y := 0) rfl (by decide) c2
      refine lv_aload_n hx hb dX10_ends_20 rfl (lv_at hl 0 rfl) ?_
      refine cvU (n := 0) (As := []) (rest := []) ⟨hx, hb, hml, hown, hts⟩ uc_in (kX10_next_0 l D C A u hI (by have q5 := hI.b6; omega) _) q_m1370 q_n1372 q_p55 q_i11 q_c1373 hvX10_next ⟨(Nat.le_of_ble_eq_true rfl), (Nat.le_of_ble_eq_true rfl)⟩ ⟨(Nat.le_of_ble_eq_true rfl), (Nat.le_of_ble_eq_true rfl)⟩ hK hH (fun q h => Or.inr h) Bl0 (fun _ _ _ => trivial) 10 0 rfl (mwc0 C A u) rfl hl.1 rfl (Nat.le_of_ble_eq_true rfl) dX10_ends_21 (fun u3 H locs p5 hH => ?_)
      obtain ⟨hI, hUu3, p5⟩ := p5
      exact hret _ _ _ _ _ dX10_ends_24 ⟨hI, (Un.tr Un.rf hUu3 rfl rfl rfl), ⟨by have q6 := (show (gi u3 6).toInt = ((gi u 6)).toInt from (congrArg Int32.toInt (show gi u3 6 = (gi u 6) from ((hUu3.1 6 rfl).trans rfl))).trans rfl); have q7 := (show (gi u3 7).toInt = ((gi u3 7)).toInt from (congrArg Int32.toInt (show gi u3 7 = (gi u3 7) from rfl)).trans rfl); have q8 := (show (gi u3 8).toInt = ((gi u3 8)).toInt from (congrArg Int32.toInt (show gi u3 8 = (gi u3 8) from rfl)).trans rfl); have q9 := (show (gi u3 9).toInt = ((gi u3 9)).toInt from (congrArg Int32.toInt (show gi u3 9 = (gi u3 9) from rfl)).trans rfl); have q12 := (show (gi u3 12).toInt = ((gi u 12)).toInt from (congrArg Int32.toInt (show gi u3 12 = (gi u 12) from ((hUu3.1 12 rfl).trans rfl))).trans rfl); omega, by have q6 := (show (gi u3 6).toInt = ((gi u 6)).toInt from (congrArg Int32.toInt (show gi u3 6 = (gi u 6) from ((hUu3.1 6 rfl).trans rfl))).trans rfl); have q7 := (show (gi u3 7).toInt = ((gi u3 7)).toInt from (congrArg Int32.toInt (show gi u3 7 = (gi u3 7) from rfl)).trans rfl); have q8 := (show (gi u3 8).toInt = ((gi u3 8)).toInt from (congrArg Int32.toInt (show gi u3 8 = (gi u3 8) from rfl)).trans rfl); have q9 := (show (gi u3 9).toInt = ((gi u3 9)).toInt from (congrArg Int32.toInt (show gi u3 9 = (gi u3 9) from rfl)).trans rfl); have q12 := (show (gi u3 12).toInt = ((gi u 12)).toInt from (congrArg Int32.toInt (show gi u3 12 = (gi u 12) from ((hUu3.1 12 rfl).trans rfl))).trans rfl); omega, (by have q6 := (show (gi u3 6).toInt = ((gi u 6)).toInt from (congrArg Int32.toInt (show gi u3 6 = (gi u 6) from ((hUu3.1 6 rfl).trans rfl))).trans rfl); have q7 := (show (gi u3 7).toInt = ((gi u3 7)).toInt from (congrArg Int32.toInt (show gi u3 7 = (gi u3 7) from rfl)).trans rfl); have q8 := (show (gi u3 8).toInt = ((gi u3 8)).toInt from (congrArg Int32.toInt (show gi u3 8 = (gi u3 8) from rfl)).trans rfl); have q9 := (show (gi u3 9).toInt = ((gi u3 9)).toInt from (congrArg Int32.toInt (show gi u3 9 = (gi u3 9) from rfl)).trans rfl); have q12 := (show (gi u3 12).toInt = ((gi u 12)).toInt from (congrArg Int32.toInt (show gi u3 12 = (gi u 12) from ((hUu3.1 12 rfl).trans rfl))).trans rfl); omega)⟩⟩ hH
  · have c1 := cNE (x := (gi u 8)) (y := 3) (X := ((gi u 8)).toInt) (Y := 3) rfl (by decide) c1
    refine lv_aload_n hx hb dX10_ends_8 rfl (lv_at hl 0 rfl) ?_
    refine lv_iconst (v := 1) hx hb dX10_ends_9 (by decide) ?_
    refine cvU (n := 1) (As := [.int 1]) (rest := []) ⟨hx, hb, hml, hown, hts⟩ uc_in (kX10_fails_1 l D C A u hI  _) q_m1400 q_n1402 q_p61 q_i11 q_c1403 hvX10_fails ⟨(Nat.le_of_ble_eq_true rfl), (Nat.le_of_ble_eq_true rfl)⟩ ⟨(Nat.le_of_ble_eq_true rfl), (Nat.le_of_ble_eq_true rfl)⟩ hK hH (fun q h => Or.inr h) Bl0 (fun _ _ _ => trivial) 10 0 rfl (mwc0 C A u) rfl hl.1 rfl (Nat.le_of_ble_eq_true rfl) dX10_ends_10 (fun u6 H locs p8 hH => ?_)
    obtain ⟨hI, hUu6, p8⟩ := p8
    refine lv_aload_n hx hb dX10_ends_13 rfl (lv_at hl 0 rfl) ?_
    refine va_get (ci := 10) (v := .int (gi u6 12)) (C := RX10) (T := TX10) (N := 42) hx hb hts (fun w h => uc_in w (inX10 w h)) hown hK hH.1 0 (mwc0 C A u6) rfl 12 (by decide) (hts _ (uc_in _ q_f1200)) (fun _ h9 => h9) rfl dX10_ends_14 ?_
    refine lv_if_ne (tgt := 24) hx hb dX10_ends_17 (by decide) (fun c9 => ?_) (fun c9 => ?_)
    · have c9 := cNE (x := (gi u6 12)) (y := 0) (X := ((gi u6 12)).toInt) (Y := 0) rfl (by decide) c9
      exact hret _ _ _ _ _ dX10_ends_24 ⟨hI, (Un.tr Un.rf hUu6 rfl rfl rfl), ⟨by have q6 := (show (gi u6 6).toInt = ((gi u 6)).toInt from (congrArg Int32.toInt (show gi u6 6 = (gi u 6) from ((hUu6.1 6 rfl).trans rfl))).trans rfl); have q7 := (show (gi u6 7).toInt = ((gi u 7)).toInt from (congrArg Int32.toInt (show gi u6 7 = (gi u 7) from ((hUu6.1 7 rfl).trans rfl))).trans rfl); have q8 := (show (gi u6 8).toInt = ((gi u 8)).toInt from (congrArg Int32.toInt (show gi u6 8 = (gi u 8) from ((hUu6.1 8 rfl).trans rfl))).trans rfl); have q9 := (show (gi u6 9).toInt = ((gi u 9)).toInt from (congrArg Int32.toInt (show gi u6 9 = (gi u 9) from ((hUu6.1 9 rfl).trans rfl))).trans rfl); have q12 := (show (gi u6 12).toInt = ((gi u6 12)).toInt from (congrArg Int32.toInt (show gi u6 12 = (gi u6 12) from rfl)).trans rfl); omega, by have q6 := (show (gi u6 6).toInt = ((gi u 6)).toInt from (congrArg Int32.toInt (show gi u6 6 = (gi u 6) from ((hUu6.1 6 rfl).trans rfl))).trans rfl); have q7 := (show (gi u6 7).toInt = ((gi u 7)).toInt from (congrArg Int32.toInt (show gi u6 7 = (gi u 7) from ((hUu6.1 7 rfl).trans rfl))).trans rfl); have q8 := (show (gi u6 8).toInt = ((gi u 8)).toInt from (congrArg Int32.toInt (show gi u6 8 = (gi u 8) from ((hUu6.1 8 rfl).trans rfl))).trans rfl); have q9 := (show (gi u6 9).toInt = ((gi u 9)).toInt from (congrArg Int32.toInt (show gi u6 9 = (gi u 9) from ((hUu6.1 9 rfl).trans rfl))).trans rfl); have q12 := (show (gi u6 12).toInt = ((gi u6 12)).toInt from (congrArg Int32.toInt (show gi u6 12 = (gi u6 12) from rfl)).trans rfl); omega, (by have q6 := (show (gi u6 6).toInt = ((gi u 6)).toInt from (congrArg Int32.toInt (show gi u6 6 = (gi u 6) from ((hUu6.1 6 rfl).trans rfl))).trans rfl); have q7 := (show (gi u6 7).toInt = ((gi u 7)).toInt from (congrArg Int32.toInt (show gi u6 7 = (gi u 7) from ((hUu6.1 7 rfl).trans rfl))).trans rfl); have q8 := (show (gi u6 8).toInt = ((gi u 8)).toInt from (congrArg Int32.toInt (show gi u6 8 = (gi u 8) from ((hUu6.1 8 rfl).trans rfl))).trans rfl); have q9 := (show (gi u6 9).toInt = ((gi u 9)).toInt from (congrArg Int32.toInt (show gi u6 9 = (gi u 9) from ((hUu6.1 9 rfl).trans rfl))).trans rfl); have q12 := (show (gi u6 12).toInt = ((gi u6 12)).toInt from (congrArg Int32.toInt (show gi u6 12 = (gi u6 12) from rfl)).trans rfl); omega)⟩⟩ hH
    · have c9 := cEQ (x := (gi u6 12)) (y := 0) (X := ((gi u6 12)).toInt) (Y := 0) rfl (by decide) c9
      refine lv_aload_n hx hb dX10_ends_20 rfl (lv_at hl 0 rfl) ?_
      have q10 := (show (gi u6 6).toInt = ((gi u 6)).toInt from (congrArg Int32.toInt (show gi u6 6 = (gi u 6) from ((hUu6.1 6 rfl).trans rfl))).trans rfl)
      have q11 := (show (gi u6 7).toInt = ((gi u 7)).toInt from (congrArg Int32.toInt (show gi u6 7 = (gi u 7) from ((hUu6.1 7 rfl).trans rfl))).trans rfl)
      have q12 := (show (gi u6 8).toInt = ((gi u 8)).toInt from (congrArg Int32.toInt (show gi u6 8 = (gi u 8) from ((hUu6.1 8 rfl).trans rfl))).trans rfl)
      have q13 := (show (gi u6 9).toInt = ((gi u 9)).toInt from (congrArg Int32.toInt (show gi u6 9 = (gi u 9) from ((hUu6.1 9 rfl).trans rfl))).trans rfl)
      refine cvU (n := 0) (As := []) (rest := []) ⟨hx, hb, hml, hown, hts⟩ uc_in (kX10_next_0 l D C A u6 hI (by have q5 := hI.b6; omega) _) q_m1370 q_n1372 q_p55 q_i11 q_c1373 hvX10_next ⟨(Nat.le_of_ble_eq_true rfl), (Nat.le_of_ble_eq_true rfl)⟩ ⟨(Nat.le_of_ble_eq_true rfl), (Nat.le_of_ble_eq_true rfl)⟩ hK hH (fun q h => Or.inr h) Bl0 (fun _ _ _ => trivial) 10 0 rfl (mwc0 C A u6) rfl hl.1 rfl (Nat.le_of_ble_eq_true rfl) dX10_ends_21 (fun u14 H locs p16 hH => ?_)
      obtain ⟨hI, hUu14, p16⟩ := p16
      exact hret _ _ _ _ _ dX10_ends_24 ⟨hI, (Un.tr (Un.tr Un.rf hUu6 rfl rfl rfl) hUu14 rfl rfl rfl), ⟨by have q6 := (show (gi u14 6).toInt = ((gi u 6)).toInt from (congrArg Int32.toInt (show gi u14 6 = (gi u 6) from ((hUu14.1 6 rfl).trans ((hUu6.1 6 rfl).trans rfl)))).trans rfl); have q7 := (show (gi u14 7).toInt = ((gi u14 7)).toInt from (congrArg Int32.toInt (show gi u14 7 = (gi u14 7) from rfl)).trans rfl); have q8 := (show (gi u14 8).toInt = ((gi u14 8)).toInt from (congrArg Int32.toInt (show gi u14 8 = (gi u14 8) from rfl)).trans rfl); have q9 := (show (gi u14 9).toInt = ((gi u14 9)).toInt from (congrArg Int32.toInt (show gi u14 9 = (gi u14 9) from rfl)).trans rfl); have q12 := (show (gi u14 12).toInt = ((gi u6 12)).toInt from (congrArg Int32.toInt (show gi u14 12 = (gi u6 12) from ((hUu14.1 12 rfl).trans rfl))).trans rfl); omega, by have q6 := (show (gi u14 6).toInt = ((gi u 6)).toInt from (congrArg Int32.toInt (show gi u14 6 = (gi u 6) from ((hUu14.1 6 rfl).trans ((hUu6.1 6 rfl).trans rfl)))).trans rfl); have q7 := (show (gi u14 7).toInt = ((gi u14 7)).toInt from (congrArg Int32.toInt (show gi u14 7 = (gi u14 7) from rfl)).trans rfl); have q8 := (show (gi u14 8).toInt = ((gi u14 8)).toInt from (congrArg Int32.toInt (show gi u14 8 = (gi u14 8) from rfl)).trans rfl); have q9 := (show (gi u14 9).toInt = ((gi u14 9)).toInt from (congrArg Int32.toInt (show gi u14 9 = (gi u14 9) from rfl)).trans rfl); have q12 := (show (gi u14 12).toInt = ((gi u6 12)).toInt from (congrArg Int32.toInt (show gi u14 12 = (gi u6 12) from ((hUu14.1 12 rfl).trans rfl))).trans rfl); omega, (by have q6 := (show (gi u14 6).toInt = ((gi u 6)).toInt from (congrArg Int32.toInt (show gi u14 6 = (gi u 6) from ((hUu14.1 6 rfl).trans ((hUu6.1 6 rfl).trans rfl)))).trans rfl); have q7 := (show (gi u14 7).toInt = ((gi u14 7)).toInt from (congrArg Int32.toInt (show gi u14 7 = (gi u14 7) from rfl)).trans rfl); have q8 := (show (gi u14 8).toInt = ((gi u14 8)).toInt from (congrArg Int32.toInt (show gi u14 8 = (gi u14 8) from rfl)).trans rfl); have q9 := (show (gi u14 9).toInt = ((gi u14 9)).toInt from (congrArg Int32.toInt (show gi u14 9 = (gi u14 9) from rfl)).trans rfl); have q12 := (show (gi u14 12).toInt = ((gi u6 12)).toInt from (congrArg Int32.toInt (show gi u14 12 = (gi u6 12) from ((hUu14.1 12 rfl).trans rfl))).trans rfl); omega)⟩⟩ hH
set_option maxHeartbeats 4000000 in
set_option maxRecDepth 100000 in
theorem kX10_town_0 (l : Launch) (D : va_G) (C : Nat → ClassId) (A : Nat → Nat) (u : St) (hI : IM u) (sz : Nat) : MetI l yX10_town cX10_town 1 (some .int) 8 [.ref (A 0)] D (tyl C) (mw C A) X0 u sz (fun r u' => IM u' ∧ Un [(0, 0), (6, 6), (7, 7), (8, 8), (9, 9), (10, 10), (12, 12), (13, 13), (14, 14), (15, 15)] [(6, 6), (7, 7), (8, 8), (9, 9), (10, 10)] [] u u' ∧ (True)) := by
  refine mI (by decide) (Nat.le_of_ble_eq_true rfl) ?_
  intro p e s m below meth c ls ar Q hx hb hml hown hts hK hH hX hl hret
  have hown : s.vm.findClass RX10 = some m.cls := hown
  have hl : lv_has ls 1 [(0, .ref (A 0))] := hl
  refine lv_aload_n hx hb dX10_town_0 rfl (lv_at hl 0 rfl) ?_
  refine lv_iconst (v := 0) hx hb dX10_town_1 (by decide) ?_
  refine r_put (j := 0) (ci := 10) (C := RX10) (T := TX10) (N := 42) hx hb hts (fun w h => uc_in w (inX10 w h)) tyX10 tyX10_ok nmX10 hown hK hH 0 (mwc0 C A u) rfl 0 (by decide) (hts _ (uc_in _ q_f1188)) (fun _ h9 => h9) rfl (by decide +kernel) (Nat.le_of_ble_eq_true rfl) (mws0 C A u _) dX10_town_2 (fun u1 eu1 H locs hH => ?_)
  have hI := hI.pi0 eu1 rfl
  refine lv_aload_n hx hb dX10_town_5 rfl (lv_at hl 0 rfl) ?_
  refine cvU (n := 0) (As := []) (rest := []) ⟨hx, hb, hml, hown, hts⟩ uc_in (kX10_clears_0 l D C A u1 hI  _) q_m1358 q_n1360 q_p52 q_i11 q_c1361 hvX10_clears ⟨(Nat.le_of_ble_eq_true rfl), (Nat.le_of_ble_eq_true rfl)⟩ ⟨(Nat.le_of_ble_eq_true rfl), (Nat.le_of_ble_eq_true rfl)⟩ hK hH (fun q h => Or.inr h) Bl0 (fun _ _ _ => trivial) 10 0 rfl (mwc0 C A u1) rfl hl.1 rfl (Nat.le_of_ble_eq_true rfl) dX10_town_6 (fun u2 H locs p4 hH => ?_)
  obtain ⟨hI, hUu2, p4⟩ := p4
  refine lv_aload_n hx hb dX10_town_9 rfl (lv_at hl 0 rfl) ?_
  refine cvU (n := 0) (As := []) (rest := []) ⟨hx, hb, hml, hown, hts⟩ uc_in (kX10_begins_0 l D C A u2 hI (by have q5 := hI.b6; omega) _) q_m1366 q_n1368 q_p54 q_i11 q_c1369 hvX10_begins ⟨(Nat.le_of_ble_eq_true rfl), (Nat.le_of_ble_eq_true rfl)⟩ ⟨(Nat.le_of_ble_eq_true rfl), (Nat.le_of_ble_eq_true rfl)⟩ hK hH (fun q h => Or.inr h) Bl0 (fun _ _ _ => trivial) 10 0 rfl (mwc0 C A u2) rfl hl.1 rfl (Nat.le_of_ble_eq_true rfl) dX10_town_10 (fun u5 H locs p7 hH => ?_)
  obtain ⟨hI, hUu5, p7⟩ := p7
  have lp13_487 : ∀ (n13 : Nat) (ls : Array Slot) (u487 : St) (H : Heap) (locs : List Loc), ((gi u487 9).toInt ≤ (gi u487 7).toInt ∧ (gi u487 7).toInt ≤ ((gi u2 6)).toInt ∧ ((gi u487 8).toInt = 0 ∨ (gi u487 9).toInt < (gi u487 7).toInt)) ∧ 0 ≤ (gi u487 9).toInt → gi u487 6 = (gi u2 6) → 1 ≤ (n13 : Int) ∧ ((gi u487 12).toInt = 0 → 801 - (gi u487 9).toInt < (n13 : Int)) → Un [(6, 6), (7, 7), (8, 8), (9, 9), (10, 10), (12, 12), (13, 13), (14, 14), (15, 15)] [(6, 6), (7, 7), (8, 8), (9, 9), (10, 10)] [] u5 u487 → IM u487 → Hd D (mw C A) (va_A (mw C A u) s.heap.size) s.heap u487 H locs → lv_has ls 1 [(0, .ref (A 0))] → W p l e (rmL 8 0 0) s m ar below meth c H locs 0 0 Q (F0 m 13 ls []) := by
    intro n13
    induction n13 with
    | zero => intro ls u487 H locs x13_0 hku487_0 hmun13 hUu487 hI hH hl; exfalso; omega
    | succ n13 ih13_487 =>
      intro ls u487 H locs x13_0 hku487_0 hmun13 hUu487 hI hH hl
      refine lv_aload_n hx hb dX10_town_13 rfl (lv_at hl 0 rfl) ?_
      refine cvS (n := 0) (As := []) (rest := []) ⟨hx, hb, hml, hown, hts⟩ uc_in (kX10_isGood_0 l D C A u487 hI ) q_m1383 q_n1385 q_p57 q_i11 q_c1386 hvX10_isGood ⟨(Nat.le_of_ble_eq_true rfl), (Nat.le_of_ble_eq_true rfl)⟩ ⟨(Nat.le_of_ble_eq_true rfl), (Nat.le_of_ble_eq_true rfl)⟩ hK hH.1 10 0 rfl (mwc0 C A u487) rfl hl.1 rfl (Nat.le_of_ble_eq_true rfl) dX10_town_14 (fun r489 p490 => ?_)
      rcases p490 with ⟨e9, f491⟩ | ⟨e9, f491⟩
      · subst e9
        refine lv_if_eq (tgt := 119) hx hb dX10_town_17 (by decide) (fun c492 => absurd c492 (by decide)) (fun c492 => ?_)
        refine lv_aload_n hx hb dX10_town_20 rfl (lv_at hl 0 rfl) ?_
        refine va_get (ci := 10) (v := .int (gi u487 8)) (C := RX10) (T := TX10) (N := 42) hx hb hts (fun w h => uc_in w (inX10 w h)) hown hK hH.1 0 (mwc0 C A u487) rfl 8 (by decide) (hts _ (uc_in _ q_f1196)) (fun _ h9 => h9) rfl dX10_town_21 ?_
        refine lv_if_eq (tgt := 119) hx hb dX10_town_24 (by decide) (fun c493 => ?_) (fun c493 => ?_)
        · have c493 := cEQ (x := (gi u487 8)) (y := 0) (X := ((gi u487 8)).toInt) (Y := 0) rfl (by decide) c493
          refine lv_aload_n hx hb dX10_town_119 rfl (lv_at hl 0 rfl) ?_
          refine cvU (n := 0) (As := []) (rest := []) ⟨hx, hb, hml, hown, hts⟩ uc_in (kX10_isOver_0 l D C A u487 hI  _) q_m1445 q_n1447 q_p69 q_i11 q_c1448 hvX10_isOver ⟨(Nat.le_of_ble_eq_true rfl), (Nat.le_of_ble_eq_true rfl)⟩ ⟨(Nat.le_of_ble_eq_true rfl), (Nat.le_of_ble_eq_true rfl)⟩ hK hH (fun q h => Or.inr h) Bl0 (fun _ _ _ => trivial) 10 0 rfl (mwc0 C A u487) rfl hl.1 rfl (Nat.le_of_ble_eq_true rfl) dX10_town_120 (fun u494 H locs p496 hH => ?_)
          obtain ⟨hI, hUu494, p496⟩ := p496
          refine lv_aload_n hx hb dX10_town_123 rfl (lv_at hl 0 rfl) ?_
          refine va_get (ci := 10) (v := .int (gi u494 12)) (C := RX10) (T := TX10) (N := 42) hx hb hts (fun w h => uc_in w (inX10 w h)) hown hK hH.1 0 (mwc0 C A u494) rfl 12 (by decide) (hts _ (uc_in _ q_f1200)) (fun _ h9 => h9) rfl dX10_town_124 ?_
          refine pv_i (v := (gi u487 12)) ((hUu494.1 12 rfl).trans rfl) ?_
          refine lv_if_eq (tgt := 133) hx hb dX10_town_127 (by decide) (fun c497 => ?_) (fun c497 => ?_)
          · have c497 := cEQ (x := (gi u487 12)) (y := 0) (X := ((gi u487 12)).toInt) (Y := 0) rfl (by decide) c497
            refine lv_aload_n hx hb dX10_town_133 rfl (lv_at hl 0 rfl) ?_
            refine lv_iconst (v := 4) hx hb dX10_town_134 (by decide) ?_
            refine lv_iconst (v := 0) hx hb dX10_town_135 (by decide) ?_
            refine cvU (n := 2) (As := [.int 4, .int 0]) (rest := []) ⟨hx, hb, hml, hown, hts⟩ uc_in (kX10_copyTown_6 l D C A u494 hI  _) q_m1449 q_n1451 q_p70 q_i11 q_c1452 hvX10_copyTown ⟨(Nat.le_of_ble_eq_true rfl), (Nat.le_of_ble_eq_true rfl)⟩ ⟨(Nat.le_of_ble_eq_true rfl), (Nat.le_of_ble_eq_true rfl)⟩ hK hH (fun q h => Or.inr h) Bl0 (fun _ _ _ => trivial) 10 0 rfl (mwc0 C A u494) rfl hl.1 rfl (Nat.le_of_ble_eq_true rfl) dX10_town_136 (fun u498 H locs p500 hH => ?_)
            obtain ⟨hI, hUu498, p500⟩ := p500
            refine lv_aload_n hx hb dX10_town_139 rfl (lv_at hl 0 rfl) ?_
            refine va_get (ci := 10) (v := .ref (A 6)) (C := RX10) (T := TX10) (N := 42) hx hb hts (fun w h => uc_in w (inX10 w h)) hown hK hH.1 0 (mwc0 C A u498) rfl 16 (by decide) (hts _ (uc_in _ q_f1204)) (fun _ h9 => h9) rfl dX10_town_140 ?_
            refine lv_iconst (v := 0) hx hb dX10_town_143 (by decide) ?_
            refine va_iald hx hb hK hH.1 6 1 (mwc6 C A u498) rfl (i_ix (X := 0) (by decide) (by decide) (by decide)) dX10_town_144 ?_
            refine p_any (fun z501 => ?_)
            exact hret _ _ _ _ z501 _ dX10_town_145 rfl ⟨hI, (Un.tr (Un.tr (Un.tr (Un.tr (Un.tr (Un.si Un.rf rfl eu1) hUu2 rfl rfl rfl) hUu5 rfl rfl rfl) hUu487 rfl rfl rfl) hUu494 rfl rfl rfl) hUu498 rfl rfl rfl), trivial⟩ hH
          · have c497 := cNE (x := (gi u487 12)) (y := 0) (X := ((gi u487 12)).toInt) (Y := 0) rfl (by decide) c497
            refine lv_bipush (v := (-4)) hx hb dX10_town_130 (by decide) ?_
            exact hret _ _ _ _ ((-4) : Int32) _ dX10_town_132 rfl ⟨hI, (Un.tr (Un.tr (Un.tr (Un.tr (Un.si Un.rf rfl eu1) hUu2 rfl rfl rfl) hUu5 rfl rfl rfl) hUu487 rfl rfl rfl) hUu494 rfl rfl rfl), trivial⟩ hH
        · have c493 := cNE (x := (gi u487 8)) (y := 0) (X := ((gi u487 8)).toInt) (Y := 0) rfl (by decide) c493
          refine lv_aload_n hx hb dX10_town_27 rfl (lv_at hl 0 rfl) ?_
          refine va_get (ci := 10) (v := .ref (A 6)) (C := RX10) (T := TX10) (N := 42) hx hb hts (fun w h => uc_in w (inX10 w h)) hown hK hH.1 0 (mwc0 C A u487) rfl 16 (by decide) (hts _ (uc_in _ q_f1204)) (fun _ h9 => h9) rfl dX10_town_28 ?_
          refine lv_iconst (v := 4) hx hb dX10_town_31 (by decide) ?_
          refine va_iald hx hb hK hH.1 6 1 (mwc6 C A u487) rfl (i_ix (X := 4) (by decide) (by decide) (by decide)) dX10_town_32 ?_
          refine p_any (fun z502 => ?_)
          have j95_576 : ∀ (ls : Array Slot) (u576 : St) (H : Heap) (locs : List Loc), ((gi u576 9).toInt ≤ (gi u576 7).toInt ∧ (gi u576 7).toInt ≤ ((gi u2 6)).toInt ∧ ((gi u576 8).toInt = 0 ∨ (gi u576 9).toInt < (gi u576 7).toInt)) ∧ ((gi u487 9)).toInt ≤ (gi u576 9).toInt → Un [(7, 7), (8, 8), (9, 9), (10, 10), (12, 12), (13, 13)] [(7, 7), (8, 8), (9, 9)] [] u487 u576 → IM u576 → Hd D (mw C A) (va_A (mw C A u) s.heap.size) s.heap u576 H locs → lv_has ls 1 [(0, .ref (A 0))] → W p l e (rmL 8 0 0) s m ar below meth c H locs 0 0 Q (F0 m 95 ls []) := by
            intro ls u576 H locs x95_0 hUu576 hI hH hl
            refine lv_aload_n hx hb dX10_town_95 rfl (lv_at hl 0 rfl) ?_
            refine cvS (n := 0) (As := []) (rest := []) ⟨hx, hb, hml, hown, hts⟩ uc_in (kX10_isGood_0 l D C A u576 hI ) q_m1383 q_n1385 q_p57 q_i11 q_c1386 hvX10_isGood ⟨(Nat.le_of_ble_eq_true rfl), (Nat.le_of_ble_eq_true rfl)⟩ ⟨(Nat.le_of_ble_eq_true rfl), (Nat.le_of_ble_eq_true rfl)⟩ hK hH.1 10 0 rfl (mwc0 C A u576) rfl hl.1 rfl (Nat.le_of_ble_eq_true rfl) dX10_town_96 (fun r578 p579 => ?_)
            rcases p579 with ⟨e9, f580⟩ | ⟨e9, f580⟩
            · subst e9
              refine lv_if_eq (tgt := 106) hx hb dX10_town_99 (by decide) (fun c581 => absurd c581 (by decide)) (fun c581 => ?_)
              refine lv_aload_n hx hb dX10_town_102 rfl (lv_at hl 0 rfl) ?_
              have q582 := (show (gi u576 6).toInt = ((gi u2 6)).toInt from (congrArg Int32.toInt (show gi u576 6 = (gi u2 6) from ((hUu576.1 6 rfl).trans hku487_0))).trans rfl)
              refine cvU (n := 0) (As := []) (rest := []) ⟨hx, hb, hml, hown, hts⟩ uc_in (kX10_ends_0 l D C A u576 hI (by omega) _) q_m1441 q_n1443 q_p68 q_i11 q_c1444 hvX10_ends ⟨(Nat.le_of_ble_eq_true rfl), (Nat.le_of_ble_eq_true rfl)⟩ ⟨(Nat.le_of_ble_eq_true rfl), (Nat.le_of_ble_eq_true rfl)⟩ hK hH (fun q h => Or.inr h) Bl0 (fun _ _ _ => trivial) 10 0 rfl (mwc0 C A u576) rfl hl.1 rfl (Nat.le_of_ble_eq_true rfl) dX10_town_103 (fun u583 H locs p585 hH => ?_)
              obtain ⟨hI, hUu583, p585⟩ := p585
              obtain ⟨f586, f587, f588⟩ := p585
              refine lv_aload_n hx hb dX10_town_106 rfl (lv_at hl 0 rfl) ?_
              refine va_get (ci := 10) (v := .ref (A 6)) (C := RX10) (T := TX10) (N := 42) hx hb hts (fun w h => uc_in w (inX10 w h)) hown hK hH.1 0 (mwc0 C A u583) rfl 16 (by decide) (hts _ (uc_in _ q_f1204)) (fun _ h9 => h9) rfl dX10_town_107 ?_
              refine lv_iconst (v := 4) hx hb dX10_town_110 (by decide) ?_
              refine lv_dup2_11 hx hb dX10_town_111 rfl rfl ?_
              refine va_iald hx hb hK hH.1 6 1 (mwc6 C A u583) rfl (i_ix (X := 4) (by decide) (by decide) (by decide)) dX10_town_112 ?_
              refine p_any (fun z589 => ?_)
              refine lv_iconst (v := 1) hx hb dX10_town_113 (by decide) ?_
              refine lv_iadd hx hb dX10_town_114 ?_
              refine p_any (fun z590 => ?_)
              refine r_iast (j := 6) hx hb hK hH 6 1 (mwc6 C A u583) rfl (i_ix (X := 4) (by decide) (by decide) (by decide)) (mwa6 C A u583) dX10_town_115 (fun u591 eu591 H locs hH => ?_)
              have hI := hI.pa0 eu591 (by decide) (by decide) (by decide)
              refine lv_goto (tgt := 13) hx hb dX10_town_116 (by decide) ?_
              exact ih13_487 ls u591 _ _ (by have q6 := (show (gi u591 6).toInt = ((gi u2 6)).toInt from (congrArg Int32.toInt (show gi u591 6 = (gi u2 6) from ((gi_sa eu591).trans ((hUu583.1 6 rfl).trans ((hUu576.1 6 rfl).trans hku487_0))))).trans rfl); have q7 := (show (gi u591 7).toInt = ((gi u583 7)).toInt from (congrArg Int32.toInt (show gi u591 7 = (gi u583 7) from ((gi_sa eu591).trans rfl))).trans rfl); have q8 := (show (gi u591 8).toInt = ((gi u583 8)).toInt from (congrArg Int32.toInt (show gi u591 8 = (gi u583 8) from ((gi_sa eu591).trans rfl))).trans rfl); have q9 := (show (gi u591 9).toInt = ((gi u583 9)).toInt from (congrArg Int32.toInt (show gi u591 9 = (gi u583 9) from ((gi_sa eu591).trans rfl))).trans rfl); have q12 := (show (gi u591 12).toInt = ((gi u583 12)).toInt from (congrArg Int32.toInt (show gi u591 12 = (gi u583 12) from ((gi_sa eu591).trans rfl))).trans rfl); omega) ((gi_sa eu591).trans ((hUu583.1 6 rfl).trans ((hUu576.1 6 rfl).trans hku487_0))) (by have q5 := hI.b6; have q6 := (show (gi u591 6).toInt = ((gi u2 6)).toInt from (congrArg Int32.toInt (show gi u591 6 = (gi u2 6) from ((gi_sa eu591).trans ((hUu583.1 6 rfl).trans ((hUu576.1 6 rfl).trans hku487_0))))).trans rfl); have q7 := (show (gi u591 7).toInt = ((gi u583 7)).toInt from (congrArg Int32.toInt (show gi u591 7 = (gi u583 7) from ((gi_sa eu591).trans rfl))).trans rfl); have q8 := (show (gi u591 8).toInt = ((gi u583 8)).toInt from (congrArg Int32.toInt (show gi u591 8 = (gi u583 8) from ((gi_sa eu591).trans rfl))).trans rfl); have q9 := (show (gi u591 9).toInt = ((gi u583 9)).toInt from (congrArg Int32.toInt (show gi u591 9 = (gi u583 9) from ((gi_sa eu591).trans rfl))).trans rfl); have q12 := (show (gi u591 12).toInt = ((gi u583 12)).toInt from (congrArg Int32.toInt (show gi u591 12 = (gi u583 12) from ((gi_sa eu591).trans rfl))).trans rfl); omega) (Un.sa (Un.tr (Un.tr hUu487 hUu576 rfl rfl rfl) hUu583 rfl rfl rfl) rfl eu591) hI hH hl
            · subst e9
              refine lv_if_eq (tgt := 106) hx hb dX10_town_99 (by decide) (fun c592 => ?_) (fun c592 => absurd c592 (by decide))
              refine lv_aload_n hx hb dX10_town_106 rfl (lv_at hl 0 rfl) ?_
              refine va_get (ci := 10) (v := .ref (A 6)) (C := RX10) (T := TX10) (N := 42) hx hb hts (fun w h => uc_in w (inX10 w h)) hown hK hH.1 0 (mwc0 C A u576) rfl 16 (by decide) (hts _ (uc_in _ q_f1204)) (fun _ h9 => h9) rfl dX10_town_107 ?_
              refine lv_iconst (v := 4) hx hb dX10_town_110 (by decide) ?_
              refine lv_dup2_11 hx hb dX10_town_111 rfl rfl ?_
              refine va_iald hx hb hK hH.1 6 1 (mwc6 C A u576) rfl (i_ix (X := 4) (by decide) (by decide) (by decide)) dX10_town_112 ?_
              refine p_any (fun z593 => ?_)
              refine lv_iconst (v := 1) hx hb dX10_town_113 (by decide) ?_
              refine lv_iadd hx hb dX10_town_114 ?_
              refine p_any (fun z594 => ?_)
              refine r_iast (j := 6) hx hb hK hH 6 1 (mwc6 C A u576) rfl (i_ix (X := 4) (by decide) (by decide) (by decide)) (mwa6 C A u576) dX10_town_115 (fun u595 eu595 H locs hH => ?_)
              have hI := hI.pa0 eu595 (by decide) (by decide) (by decide)
              refine lv_goto (tgt := 13) hx hb dX10_town_116 (by decide) ?_
              exact ih13_487 ls u595 _ _ (by have q6 := (show (gi u595 6).toInt = ((gi u2 6)).toInt from (congrArg Int32.toInt (show gi u595 6 = (gi u2 6) from ((gi_sa eu595).trans ((hUu576.1 6 rfl).trans hku487_0)))).trans rfl); have q7 := (show (gi u595 7).toInt = ((gi u576 7)).toInt from (congrArg Int32.toInt (show gi u595 7 = (gi u576 7) from ((gi_sa eu595).trans rfl))).trans rfl); have q8 := (show (gi u595 8).toInt = ((gi u576 8)).toInt from (congrArg Int32.toInt (show gi u595 8 = (gi u576 8) from ((gi_sa eu595).trans rfl))).trans rfl); have q9 := (show (gi u595 9).toInt = ((gi u576 9)).toInt from (congrArg Int32.toInt (show gi u595 9 = (gi u576 9) from ((gi_sa eu595).trans rfl))).trans rfl); have q12 := (show (gi u595 12).toInt = ((gi u576 12)).toInt from (congrArg Int32.toInt (show gi u595 12 = (gi u576 12) from ((gi_sa eu595).trans rfl))).trans rfl); omega) ((gi_sa eu595).trans ((hUu576.1 6 rfl).trans hku487_0)) (by have q5 := hI.b6; have q6 := (show (gi u595 6).toInt = ((gi u2 6)).toInt from (congrArg Int32.toInt (show gi u595 6 = (gi u2 6) from ((gi_sa eu595).trans ((hUu576.1 6 rfl).trans hku487_0)))).trans rfl); have q7 := (show (gi u595 7).toInt = ((gi u576 7)).toInt from (congrArg Int32.toInt (show gi u595 7 = (gi u576 7) from ((gi_sa eu595).trans rfl))).trans rfl); have q8 := (show (gi u595 8).toInt = ((gi u576 8)).toInt from (congrArg Int32.toInt (show gi u595 8 = (gi u576 8) from ((gi_sa eu595).trans rfl))).trans rfl); have q9 := (show (gi u595 9).toInt = ((gi u576 9)).toInt from (congrArg Int32.toInt (show gi u595 9 = (gi u576 9) from ((gi_sa eu595).trans rfl))).trans rfl); have q12 := (show (gi u595 12).toInt = ((gi u576 12)).toInt from (congrArg Int32.toInt (show gi u595 12 = (gi u576 12) from ((gi_sa eu595).trans rfl))).trans rfl); omega) (Un.sa (Un.tr hUu487 hUu576 rfl rfl rfl) rfl eu595) hI hH hl
          refine lv_if_ne (tgt := 91) hx hb dX10_town_33 (by decide) (fun c503 => ?_) (fun c503 => ?_)
          · have c503 := cNE (x := z502) (y := 0) (X := z502.toInt) (Y := 0) rfl (by decide) c503
            refine lv_aload_n hx hb dX10_town_91 rfl (lv_at hl 0 rfl) ?_
            have q596 := (show (gi u487 6).toInt = ((gi u2 6)).toInt from (congrArg Int32.toInt (show gi u487 6 = (gi u2 6) from hku487_0)).trans rfl)
            refine cvU (n := 0) (As := []) (rest := []) ⟨hx, hb, hml, hown, hts⟩ uc_in (kX10_line_0 l D C A u487 hI (by omega) _) q_m1415 q_n1417 q_p64 q_i11 q_c1418 hvX10_line ⟨(Nat.le_of_ble_eq_true rfl), (Nat.le_of_ble_eq_true rfl)⟩ ⟨(Nat.le_of_ble_eq_true rfl), (Nat.le_of_ble_eq_true rfl)⟩ hK hH (fun q h => Or.inr h) Bl0 (fun _ _ _ => trivial) 10 0 rfl (mwc0 C A u487) rfl hl.1 rfl (Nat.le_of_ble_eq_true rfl) dX10_town_92 (fun u597 H locs p599 hH => ?_)
            obtain ⟨hI, hUu597, p599⟩ := p599
            obtain ⟨f600, f601⟩ := p599
            exact j95_576 ls u597 _ _ (by have q6 := (show (gi u597 6).toInt = ((gi u2 6)).toInt from (congrArg Int32.toInt (show gi u597 6 = (gi u2 6) from ((hUu597.1 6 rfl).trans hku487_0))).trans rfl); have q7 := (show (gi u597 7).toInt = ((gi u597 7)).toInt from (congrArg Int32.toInt (show gi u597 7 = (gi u597 7) from rfl)).trans rfl); have q8 := (show (gi u597 8).toInt = ((gi u597 8)).toInt from (congrArg Int32.toInt (show gi u597 8 = (gi u597 8) from rfl)).trans rfl); have q9 := (show (gi u597 9).toInt = ((gi u597 9)).toInt from (congrArg Int32.toInt (show gi u597 9 = (gi u597 9) from rfl)).trans rfl); have q12 := (show (gi u597 12).toInt = ((gi u597 12)).toInt from (congrArg Int32.toInt (show gi u597 12 = (gi u597 12) from rfl)).trans rfl); omega) (Un.tr Un.rf hUu597 rfl rfl rfl) hI hH hl
          · have c503 := cEQ (x := z502) (y := 0) (X := z502.toInt) (Y := 0) rfl (by decide) c503
            refine lv_aload_n hx hb dX10_town_36 rfl (lv_at hl 0 rfl) ?_
            refine lv_ldc2 (v := 405230) hx hb hown (hts _ (uc_in _ q_k1387)) dX10_town_37 ?_
            have q603 := (show (gi u487 6).toInt = ((gi u2 6)).toInt from (congrArg Int32.toInt (show gi u487 6 = (gi u2 6) from hku487_0)).trans rfl)
            refine cvU (n := 1) (As := [.long 405230]) (rest := []) ⟨hx, hb, hml, hown, hts⟩ uc_in (kX10_asks_0 l D C A u487 hI (405230) 405230 (by decide) (by omega) _) q_m1388 q_n1390 q_p58 q_i11 q_c1391 hvX10_asks ⟨(Nat.le_of_ble_eq_true rfl), (Nat.le_of_ble_eq_true rfl)⟩ ⟨(Nat.le_of_ble_eq_true rfl), (Nat.le_of_ble_eq_true rfl)⟩ hK hH (fun q h => Or.inr h) Bl0 (fun _ _ _ => trivial) 10 0 rfl (mwc0 C A u487) rfl hl.1 rfl (Nat.le_of_ble_eq_true rfl) dX10_town_40 (fun u604 H locs p606 hH => ?_)
            obtain ⟨hI, hUu604, p606⟩ := p606
            obtain ⟨f607, f608⟩ := p606
            refine lv_aload_n hx hb dX10_town_43 rfl (lv_at hl 0 rfl) ?_
            refine lv_iconst (v := 0) hx hb dX10_town_44 (by decide) ?_
            refine lv_aload_n hx hb dX10_town_45 rfl (lv_at hl 0 rfl) ?_
            refine lv_ldc2 (v := 80155) hx hb hown (hts _ (uc_in _ q_k1404)) dX10_town_46 ?_
            refine lv_iconst (v := 1) hx hb dX10_town_49 (by decide) ?_
            refine lv_bipush (v := 7) hx hb dX10_town_50 (by decide) ?_
            have q610 := (show (gi u604 6).toInt = ((gi u2 6)).toInt from (congrArg Int32.toInt (show gi u604 6 = (gi u2 6) from ((hUu604.1 6 rfl).trans hku487_0))).trans rfl)
            refine cvI (n := 3) (As := [.long 80155, .int 1, .int 7]) (rest := [.int 0, .ref (A 0)]) ⟨hx, hb, hml, hown, hts⟩ uc_in (kX10_number__3 l D C A u604 hI (80155) 80155 (by decide) (by omega) _) q_m1405 q_n1407 q_p62 q_i11 q_c1408 hvX10_number_ ⟨(Nat.le_of_ble_eq_true rfl), (Nat.le_of_ble_eq_true rfl)⟩ ⟨(Nat.le_of_ble_eq_true rfl), (Nat.le_of_ble_eq_true rfl)⟩ hK hH (fun q h => Or.inr h) Bl0 (fun _ _ _ => trivial) 10 0 rfl (mwc0 C A u604) rfl hl.1 rfl (Nat.le_of_ble_eq_true rfl) dX10_town_52 (fun r612 u611 H locs p613 hH => ?_)
            obtain ⟨hI, hUu611, p613⟩ := p613
            obtain ⟨f614, f615, f616⟩ := p613
            refine cvU (n := 2) (As := [.int 0, .int r612]) (rest := []) ⟨hx, hb, hml, hown, hts⟩ uc_in (kX10_tells_4 l D C A u611 hI r612 r612.toInt rfl (by omega) (by omega) _) q_m1362 q_n1364 q_p53 q_i11 q_c1365 hvX10_tells ⟨(Nat.le_of_ble_eq_true rfl), (Nat.le_of_ble_eq_true rfl)⟩ ⟨(Nat.le_of_ble_eq_true rfl), (Nat.le_of_ble_eq_true rfl)⟩ hK hH (fun q h => Or.inr h) Bl0 (fun _ _ _ => trivial) 10 0 rfl (mwc0 C A u611) rfl hl.1 rfl (Nat.le_of_ble_eq_true rfl) dX10_town_55 (fun u617 H locs p619 hH => ?_)
            obtain ⟨hI, hUu617, p619⟩ := p619
            refine lv_aload_n hx hb dX10_town_58 rfl (lv_at hl 0 rfl) ?_
            refine lv_iconst (v := 1) hx hb dX10_town_59 (by decide) ?_
            refine lv_aload_n hx hb dX10_town_60 rfl (lv_at hl 0 rfl) ?_
            refine lv_ldc2 (v := 168755) hx hb hown (hts _ (uc_in _ q_k1413)) dX10_town_61 ?_
            refine lv_iconst (v := 0) hx hb dX10_town_64 (by decide) ?_
            refine lv_bipush (v := 9) hx hb dX10_town_65 (by decide) ?_
            have q620 := (show (gi u617 6).toInt = ((gi u2 6)).toInt from (congrArg Int32.toInt (show gi u617 6 = (gi u2 6) from ((hUu617.1 6 rfl).trans ((hUu611.1 6 rfl).trans ((hUu604.1 6 rfl).trans hku487_0))))).trans rfl)
            have q621 := (show (gi u617 7).toInt = ((gi u611 7)).toInt from (congrArg Int32.toInt (show gi u617 7 = (gi u611 7) from ((hUu617.1 7 rfl).trans rfl))).trans rfl)
            have q622 := (show (gi u617 8).toInt = ((gi u611 8)).toInt from (congrArg Int32.toInt (show gi u617 8 = (gi u611 8) from ((hUu617.1 8 rfl).trans rfl))).trans rfl)
            have q623 := (show (gi u617 9).toInt = ((gi u611 9)).toInt from (congrArg Int32.toInt (show gi u617 9 = (gi u611 9) from ((hUu617.1 9 rfl).trans rfl))).trans rfl)
            have q624 := (show (gi u617 12).toInt = ((gi u611 12)).toInt from (congrArg Int32.toInt (show gi u617 12 = (gi u611 12) from ((hUu617.1 12 rfl).trans rfl))).trans rfl)
            refine cvI (n := 3) (As := [.long 168755, .int 0, .int 9]) (rest := [.int 1, .ref (A 0)]) ⟨hx, hb, hml, hown, hts⟩ uc_in (kX10_number__0 l D C A u617 hI (168755) 168755 (by decide) (by omega) _) q_m1405 q_n1407 q_p62 q_i11 q_c1408 hvX10_number_ ⟨(Nat.le_of_ble_eq_true rfl), (Nat.le_of_ble_eq_true rfl)⟩ ⟨(Nat.le_of_ble_eq_true rfl), (Nat.le_of_ble_eq_true rfl)⟩ hK hH (fun q h => Or.inr h) Bl0 (fun _ _ _ => trivial) 10 0 rfl (mwc0 C A u617) rfl hl.1 rfl (Nat.le_of_ble_eq_true rfl) dX10_town_67 (fun r626 u625 H locs p627 hH => ?_)
            obtain ⟨hI, hUu625, p627⟩ := p627
            obtain ⟨f628, f629, f630⟩ := p627
            refine cvU (n := 2) (As := [.int 1, .int r626]) (rest := []) ⟨hx, hb, hml, hown, hts⟩ uc_in (kX10_tells_5 l D C A u625 hI r626 r626.toInt rfl (by omega) (by omega) _) q_m1362 q_n1364 q_p53 q_i11 q_c1365 hvX10_tells ⟨(Nat.le_of_ble_eq_true rfl), (Nat.le_of_ble_eq_true rfl)⟩ ⟨(Nat.le_of_ble_eq_true rfl), (Nat.le_of_ble_eq_true rfl)⟩ hK hH (fun q h => Or.inr h) Bl0 (fun _ _ _ => trivial) 10 0 rfl (mwc0 C A u625) rfl hl.1 rfl (Nat.le_of_ble_eq_true rfl) dX10_town_70 (fun u631 H locs p633 hH => ?_)
            obtain ⟨hI, hUu631, p633⟩ := p633
            refine lv_aload_n hx hb dX10_town_73 rfl (lv_at hl 0 rfl) ?_
            refine lv_iconst (v := 2) hx hb dX10_town_74 (by decide) ?_
            refine lv_aload_n hx hb dX10_town_75 rfl (lv_at hl 0 rfl) ?_
            refine lv_ldc2 (v := 298288) hx hb hown (hts _ (uc_in _ q_k1414)) dX10_town_76 ?_
            refine lv_iconst (v := 0) hx hb dX10_town_79 (by decide) ?_
            refine lv_bipush (v := 10) hx hb dX10_town_80 (by decide) ?_
            have q634 := (show (gi u631 6).toInt = ((gi u2 6)).toInt from (congrArg Int32.toInt (show gi u631 6 = (gi u2 6) from ((hUu631.1 6 rfl).trans ((hUu625.1 6 rfl).trans ((hUu617.1 6 rfl).trans ((hUu611.1 6 rfl).trans ((hUu604.1 6 rfl).trans hku487_0))))))).trans rfl)
            have q635 := (show (gi u631 7).toInt = ((gi u625 7)).toInt from (congrArg Int32.toInt (show gi u631 7 = (gi u625 7) from ((hUu631.1 7 rfl).trans rfl))).trans rfl)
            have q636 := (show (gi u631 8).toInt = ((gi u625 8)).toInt from (congrArg Int32.toInt (show gi u631 8 = (gi u625 8) from ((hUu631.1 8 rfl).trans rfl))).trans rfl)
            have q637 := (show (gi u631 9).toInt = ((gi u625 9)).toInt from (congrArg Int32.toInt (show gi u631 9 = (gi u625 9) from ((hUu631.1 9 rfl).trans rfl))).trans rfl)
            have q638 := (show (gi u631 12).toInt = ((gi u625 12)).toInt from (congrArg Int32.toInt (show gi u631 12 = (gi u625 12) from ((hUu631.1 12 rfl).trans rfl))).trans rfl)
            refine cvI (n := 3) (As := [.long 298288, .int 0, .int 10]) (rest := [.int 2, .ref (A 0)]) ⟨hx, hb, hml, hown, hts⟩ uc_in (kX10_number__4 l D C A u631 hI (298288) 298288 (by decide) (by omega) _) q_m1405 q_n1407 q_p62 q_i11 q_c1408 hvX10_number_ ⟨(Nat.le_of_ble_eq_true rfl), (Nat.le_of_ble_eq_true rfl)⟩ ⟨(Nat.le_of_ble_eq_true rfl), (Nat.le_of_ble_eq_true rfl)⟩ hK hH (fun q h => Or.inr h) Bl0 (fun _ _ _ => trivial) 10 0 rfl (mwc0 C A u631) rfl hl.1 rfl (Nat.le_of_ble_eq_true rfl) dX10_town_82 (fun r640 u639 H locs p641 hH => ?_)
            obtain ⟨hI, hUu639, p641⟩ := p641
            obtain ⟨f642, f643, f644⟩ := p641
            refine cvU (n := 2) (As := [.int 2, .int r640]) (rest := []) ⟨hx, hb, hml, hown, hts⟩ uc_in (kX10_tells_6 l D C A u639 hI r640 r640.toInt rfl (by omega) (by omega) _) q_m1362 q_n1364 q_p53 q_i11 q_c1365 hvX10_tells ⟨(Nat.le_of_ble_eq_true rfl), (Nat.le_of_ble_eq_true rfl)⟩ ⟨(Nat.le_of_ble_eq_true rfl), (Nat.le_of_ble_eq_true rfl)⟩ hK hH (fun q h => Or.inr h) Bl0 (fun _ _ _ => trivial) 10 0 rfl (mwc0 C A u639) rfl hl.1 rfl (Nat.le_of_ble_eq_true rfl) dX10_town_85 (fun u645 H locs p647 hH => ?_)
            obtain ⟨hI, hUu645, p647⟩ := p647
            refine lv_goto (tgt := 95) hx hb dX10_town_88 (by decide) ?_
            exact j95_576 ls u645 _ _ (by have q6 := (show (gi u645 6).toInt = ((gi u2 6)).toInt from (congrArg Int32.toInt (show gi u645 6 = (gi u2 6) from ((hUu645.1 6 rfl).trans ((hUu639.1 6 rfl).trans ((hUu631.1 6 rfl).trans ((hUu625.1 6 rfl).trans ((hUu617.1 6 rfl).trans ((hUu611.1 6 rfl).trans ((hUu604.1 6 rfl).trans hku487_0))))))))).trans rfl); have q7 := (show (gi u645 7).toInt = ((gi u639 7)).toInt from (congrArg Int32.toInt (show gi u645 7 = (gi u639 7) from ((hUu645.1 7 rfl).trans rfl))).trans rfl); have q8 := (show (gi u645 8).toInt = ((gi u639 8)).toInt from (congrArg Int32.toInt (show gi u645 8 = (gi u639 8) from ((hUu645.1 8 rfl).trans rfl))).trans rfl); have q9 := (show (gi u645 9).toInt = ((gi u639 9)).toInt from (congrArg Int32.toInt (show gi u645 9 = (gi u639 9) from ((hUu645.1 9 rfl).trans rfl))).trans rfl); have q12 := (show (gi u645 12).toInt = ((gi u639 12)).toInt from (congrArg Int32.toInt (show gi u645 12 = (gi u639 12) from ((hUu645.1 12 rfl).trans rfl))).trans rfl); omega) (Un.tr (Un.tr (Un.tr (Un.tr (Un.tr (Un.tr (Un.tr Un.rf hUu604 rfl rfl rfl) hUu611 rfl rfl rfl) hUu617 rfl rfl rfl) hUu625 rfl rfl rfl) hUu631 rfl rfl rfl) hUu639 rfl rfl rfl) hUu645 rfl rfl rfl) hI hH hl
      · subst e9
        refine lv_if_eq (tgt := 119) hx hb dX10_town_17 (by decide) (fun c648 => ?_) (fun c648 => absurd c648 (by decide))
        refine lv_aload_n hx hb dX10_town_119 rfl (lv_at hl 0 rfl) ?_
        refine cvU (n := 0) (As := []) (rest := []) ⟨hx, hb, hml, hown, hts⟩ uc_in (kX10_isOver_0 l D C A u487 hI  _) q_m1445 q_n1447 q_p69 q_i11 q_c1448 hvX10_isOver ⟨(Nat.le_of_ble_eq_true rfl), (Nat.le_of_ble_eq_true rfl)⟩ ⟨(Nat.le_of_ble_eq_true rfl), (Nat.le_of_ble_eq_true rfl)⟩ hK hH (fun q h => Or.inr h) Bl0 (fun _ _ _ => trivial) 10 0 rfl (mwc0 C A u487) rfl hl.1 rfl (Nat.le_of_ble_eq_true rfl) dX10_town_120 (fun u649 H locs p651 hH => ?_)
        obtain ⟨hI, hUu649, p651⟩ := p651
        refine lv_aload_n hx hb dX10_town_123 rfl (lv_at hl 0 rfl) ?_
        refine va_get (ci := 10) (v := .int (gi u649 12)) (C := RX10) (T := TX10) (N := 42) hx hb hts (fun w h => uc_in w (inX10 w h)) hown hK hH.1 0 (mwc0 C A u649) rfl 12 (by decide) (hts _ (uc_in _ q_f1200)) (fun _ h9 => h9) rfl dX10_town_124 ?_
        refine pv_i (v := (gi u487 12)) ((hUu649.1 12 rfl).trans rfl) ?_
        refine lv_if_eq (tgt := 133) hx hb dX10_town_127 (by decide) (fun c652 => ?_) (fun c652 => ?_)
        · have c652 := cEQ (x := (gi u487 12)) (y := 0) (X := ((gi u487 12)).toInt) (Y := 0) rfl (by decide) c652
          refine lv_aload_n hx hb dX10_town_133 rfl (lv_at hl 0 rfl) ?_
          refine lv_iconst (v := 4) hx hb dX10_town_134 (by decide) ?_
          refine lv_iconst (v := 0) hx hb dX10_town_135 (by decide) ?_
          refine cvU (n := 2) (As := [.int 4, .int 0]) (rest := []) ⟨hx, hb, hml, hown, hts⟩ uc_in (kX10_copyTown_6 l D C A u649 hI  _) q_m1449 q_n1451 q_p70 q_i11 q_c1452 hvX10_copyTown ⟨(Nat.le_of_ble_eq_true rfl), (Nat.le_of_ble_eq_true rfl)⟩ ⟨(Nat.le_of_ble_eq_true rfl), (Nat.le_of_ble_eq_true rfl)⟩ hK hH (fun q h => Or.inr h) Bl0 (fun _ _ _ => trivial) 10 0 rfl (mwc0 C A u649) rfl hl.1 rfl (Nat.le_of_ble_eq_true rfl) dX10_town_136 (fun u653 H locs p655 hH => ?_)
          obtain ⟨hI, hUu653, p655⟩ := p655
          refine lv_aload_n hx hb dX10_town_139 rfl (lv_at hl 0 rfl) ?_
          refine va_get (ci := 10) (v := .ref (A 6)) (C := RX10) (T := TX10) (N := 42) hx hb hts (fun w h => uc_in w (inX10 w h)) hown hK hH.1 0 (mwc0 C A u653) rfl 16 (by decide) (hts _ (uc_in _ q_f1204)) (fun _ h9 => h9) rfl dX10_town_140 ?_
          refine lv_iconst (v := 0) hx hb dX10_town_143 (by decide) ?_
          refine va_iald hx hb hK hH.1 6 1 (mwc6 C A u653) rfl (i_ix (X := 0) (by decide) (by decide) (by decide)) dX10_town_144 ?_
          refine p_any (fun z656 => ?_)
          exact hret _ _ _ _ z656 _ dX10_town_145 rfl ⟨hI, (Un.tr (Un.tr (Un.tr (Un.tr (Un.tr (Un.si Un.rf rfl eu1) hUu2 rfl rfl rfl) hUu5 rfl rfl rfl) hUu487 rfl rfl rfl) hUu649 rfl rfl rfl) hUu653 rfl rfl rfl), trivial⟩ hH
        · have c652 := cNE (x := (gi u487 12)) (y := 0) (X := ((gi u487 12)).toInt) (Y := 0) rfl (by decide) c652
          refine lv_bipush (v := (-4)) hx hb dX10_town_130 (by decide) ?_
          exact hret _ _ _ _ ((-4) : Int32) _ dX10_town_132 rfl ⟨hI, (Un.tr (Un.tr (Un.tr (Un.tr (Un.si Un.rf rfl eu1) hUu2 rfl rfl rfl) hUu5 rfl rfl rfl) hUu487 rfl rfl rfl) hUu649 rfl rfl rfl), trivial⟩ hH
  exact lp13_487 802 ls u5 _ _ (by have q6 := (show (gi u5 6).toInt = ((gi u2 6)).toInt from (congrArg Int32.toInt (show gi u5 6 = (gi u2 6) from ((hUu5.1 6 rfl).trans rfl))).trans rfl); have q7 := (show (gi u5 7).toInt = ((gi u5 7)).toInt from (congrArg Int32.toInt (show gi u5 7 = (gi u5 7) from rfl)).trans rfl); have q8 := (show (gi u5 8).toInt = ((gi u5 8)).toInt from (congrArg Int32.toInt (show gi u5 8 = (gi u5 8) from rfl)).trans rfl); have q9 := (show (gi u5 9).toInt = ((gi u5 9)).toInt from (congrArg Int32.toInt (show gi u5 9 = (gi u5 9) from rfl)).trans rfl); have q12 := (show (gi u5 12).toInt = ((gi u5 12)).toInt from (congrArg Int32.toInt (show gi u5 12 = (gi u5 12) from rfl)).trans rfl); omega) ((hUu5.1 6 rfl).trans rfl) (by have q5 := hI.b6; have q6 := (show (gi u5 6).toInt = ((gi u2 6)).toInt from (congrArg Int32.toInt (show gi u5 6 = (gi u2 6) from ((hUu5.1 6 rfl).trans rfl))).trans rfl); have q7 := (show (gi u5 7).toInt = ((gi u5 7)).toInt from (congrArg Int32.toInt (show gi u5 7 = (gi u5 7) from rfl)).trans rfl); have q8 := (show (gi u5 8).toInt = ((gi u5 8)).toInt from (congrArg Int32.toInt (show gi u5 8 = (gi u5 8) from rfl)).trans rfl); have q9 := (show (gi u5 9).toInt = ((gi u5 9)).toInt from (congrArg Int32.toInt (show gi u5 9 = (gi u5 9) from rfl)).trans rfl); have q12 := (show (gi u5 12).toInt = ((gi u5 12)).toInt from (congrArg Int32.toInt (show gi u5 12 = (gi u5 12) from rfl)).trans rfl); omega) Un.rf hI hH hl
