set_option maxHeartbeats 4000000 in
set_option maxRecDepth 100000 in
theorem kX10_number__3 (l : Launch) (D : va_G) (C : Nat → ClassId) (A : Nat → Nat) (u : St) (hI : IM u) (a0 : Int64) (A0 : Int) (ha0 : a0.toInt = A0) (hPI : (gi u 9).toInt ≤ (gi u 7).toInt ∧ (gi u 7).toInt ≤ (gi u 6).toInt ∧ ((gi u 8).toInt = 0 ∨ (gi u 9).toInt < (gi u 7).toInt)) (sz : Nat) : MetI l yX10_number_ cX10_number_ 5 (some .int) 5 [.ref (A 0), .long a0, .int 1, .int 7] D (tyl C) (mw C A) X0 u sz (fun r u' => IM u' ∧ Un [(7, 7), (8, 8), (9, 9), (10, 10), (12, 12), (13, 13)] [] [] u u' ∧ (((gi u' 9).toInt ≤ (gi u' 7).toInt ∧ (gi u' 7).toInt ≤ (gi u 6).toInt ∧ ((gi u' 8).toInt = 0 ∨ (gi u' 9).toInt < (gi u' 7).toInt)) ∧ (gi u 9).toInt ≤ (gi u' 9).toInt ∧ (1 ≤ r.toInt ∧ r.toInt ≤ 7))) := by
  refine mI (by decide) (Nat.le_of_ble_eq_true rfl) ?_
  intro p e s m below meth c ls ar Q hx hb hml hown hts hK hH hX hl hret
  have hown : s.vm.findClass RX10 = some m.cls := hown
  have hl : lv_has ls 5 [(0, .ref (A 0)), (1, .long a0), (3, .int 1), (4, .int 7)] := hl
  refine lv_aload_n hx hb dX10_number__0 rfl (lv_at hl 0 rfl) ?_
  refine lv_lload_n hx hb dX10_number__1 rfl (lv_at hl 1 rfl) ?_
  refine cvU (n := 1) (As := [.long a0]) (rest := []) ⟨hx, hb, hml, hown, hts⟩ uc_in (kX10_asks_0 l D C A u hI a0 A0 ha0 (by omega) _) q_m1388 q_n1390 q_p58 q_i11 q_c1391 hvX10_asks ⟨(Nat.le_of_ble_eq_true rfl), (Nat.le_of_ble_eq_true rfl)⟩ ⟨(Nat.le_of_ble_eq_true rfl), (Nat.le_of_ble_eq_true rfl)⟩ hK hH (fun q h => Or.inr h) Bl0 (fun _ _ _ => trivial) 10 0 rfl (mwc0 C A u) rfl hl.1 rfl (Nat.le_of_ble_eq_true rfl) dX10_number__2 (fun u1 H locs p3 hH => ?_)
  obtain ⟨hI, hUu1, p3⟩ := p3
  obtain ⟨f4, f5⟩ := p3
  refine lv_aload_n hx hb dX10_number__5 rfl (lv_at hl 0 rfl) ?_
  refine lv_iload_n hx hb dX10_number__6 rfl (lv_at hl 2 rfl) ?_
  refine lv_iload hx hb dX10_number__7 (lv_at hl 3 rfl) ?_
  have q7 := (show (gi u1 6).toInt = ((gi u 6)).toInt from (congrArg Int32.toInt (show gi u1 6 = (gi u 6) from ((hUu1.1 6 rfl).trans rfl))).trans rfl)
  refine cvI (n := 2) (As := [.int 1, .int 7]) (rest := []) ⟨hx, hb, hml, hown, hts⟩ uc_in (kX10_number_4 l D C A u1 hI (by omega) _) q_m1409 q_n1411 q_p63 q_i11 q_c1412 hvX10_number ⟨(Nat.le_of_ble_eq_true rfl), (Nat.le_of_ble_eq_true rfl)⟩ ⟨(Nat.le_of_ble_eq_true rfl), (Nat.le_of_ble_eq_true rfl)⟩ hK hH (fun q h => Or.inr h) Bl0 (fun _ _ _ => trivial) 10 0 rfl (mwc0 C A u1) rfl hl.1 rfl (Nat.le_of_ble_eq_true rfl) dX10_number__9 (fun r9 u8 H locs p10 hH => ?_)
  obtain ⟨hI, hUu8, p10⟩ := p10
  obtain ⟨f11, f12, f13⟩ := p10
  exact hret _ _ _ _ r9 _ dX10_number__12 rfl ⟨hI, (Un.tr (Un.tr Un.rf hUu1 rfl rfl rfl) hUu8 rfl rfl rfl), ⟨by have q6 := (show (gi u8 6).toInt = ((gi u 6)).toInt from (congrArg Int32.toInt (show gi u8 6 = (gi u 6) from ((hUu8.1 6 rfl).trans ((hUu1.1 6 rfl).trans rfl)))).trans rfl); have q7 := (show (gi u8 7).toInt = ((gi u8 7)).toInt from (congrArg Int32.toInt (show gi u8 7 = (gi u8 7) from rfl)).trans rfl); have q8 := (show (gi u8 8).toInt = ((gi u8 8)).toInt from (congrArg Int32.toInt (show gi u8 8 = (gi u8 8) from rfl)).trans rfl); have q9 := (show (gi u8 9).toInt = ((gi u8 9)).toInt from (congrArg Int32.toInt (show gi u8 9 = (gi u8 9) from rfl)).trans rfl); have q12 := (show (gi u8 12).toInt = ((gi u8 12)).toInt from (congrArg Int32.toInt (show gi u8 12 = (gi u8 12) from rfl)).trans rfl); omega, by have q6 := (show (gi u8 6).toInt = ((gi u 6)).toInt from (congrArg Int32.toInt (show gi u8 6 = (gi u 6) from ((hUu8.1 6 rfl).trans ((hUu1.1 6 rfl).trans rfl)))).trans rfl); have q7 := (show (gi u8 7).toInt = ((gi u8 7)).toInt from (congrArg Int32.toInt (show gi u8 7 = (gi u8 7) from rfl)).trans rfl); have q8 := (show (gi u8 8).toInt = ((gi u8 8)).toInt from (congrArg Int32.toInt (show gi u8 8 = (gi u8 8) from rfl)).trans rfl); have q9 := (show (gi u8 9).toInt = ((gi u8 9)).toInt from (congrArg Int32.toInt (show gi u8 9 = (gi u8 9) from rfl)).trans rfl); have q12 := (show (gi u8 12).toInt = ((gi u8 12)).toInt from (congrArg Int32.toInt (show gi u8 12 = (gi u8 12) from rfl)).trans rfl); omega, ⟨by have q9 := (show r9.toInt = r9.toInt from rfl); omega, by have q9 := (show r9.toInt = r9.toInt from rfl); omega⟩⟩⟩ hH
set_option maxHeartbeats 4000000 in
set_option maxRecDepth 100000 in
theorem kX10_tells_4 (l : Launch) (D : va_G) (C : Nat → ClassId) (A : Nat → Nat) (u : St) (hI : IM u) (a1 : Int32) (A1 : Int) (ha1 : a1.toInt = A1) (hl1 : 0 ≤ A1) (hm1 : A1 ≤ 7) (sz : Nat) : MetV l yX10_tells cX10_tells 3 1 [.ref (A 0), .int 0, .int a1] D (tyl C) (mw C A) X0 u sz (fun u' => IM u' ∧ Un [] [(7, 7)] [] u u' ∧ True) := by
  refine mV (by decide) (Nat.le_of_ble_eq_true rfl) ?_
  intro p e s m below meth c ls ar Q hx hb hml hown hts hK hH hX hl hret
  have hown : s.vm.findClass RX10 = some m.cls := hown
  have hl : lv_has ls 3 [(0, .ref (A 0)), (1, .int 0), (2, .int a1)] := hl
  refine lv_aload_n hx hb dX10_tells_0 rfl (lv_at hl 0 rfl) ?_
  refine va_get (ci := 10) (v := .ref (A 7)) (C := RX10) (T := TX10) (N := 42) hx hb hts (fun w h => uc_in w (inX10 w h)) hown hK hH.1 0 (mwc0 C A u) rfl 17 (by decide) (hts _ (uc_in _ q_f1205)) (fun _ h9 => h9) rfl dX10_tells_1 ?_
  refine lv_bipush (v := 24) hx hb dX10_tells_4 (by decide) ?_
  refine lv_iload_n hx hb dX10_tells_6 rfl (lv_at hl 1 rfl) ?_
  refine lv_iadd hx hb dX10_tells_7 ?_
  refine pv_i (v := 24) (by decide) ?_
  refine lv_iload_n hx hb dX10_tells_8 rfl (lv_at hl 2 rfl) ?_
  refine r_iast (j := 7) hx hb hK hH 7 1 (mwc7 C A u) rfl (i_ix (X := 24) (by decide) (by decide) (by decide)) (mwa7 C A u) dX10_tells_9 (fun u1 eu1 H locs hH => ?_)
  have hI := hI.pah eu1 ha1 (by omega) (show A1 ≤ 7 by omega)
  exact hret _ _ _ _ _ dX10_tells_10 ⟨hI, (Un.sa Un.rf rfl eu1), trivial⟩ hH
set_option maxHeartbeats 4000000 in
set_option maxRecDepth 100000 in
theorem kX10_tells_5 (l : Launch) (D : va_G) (C : Nat → ClassId) (A : Nat → Nat) (u : St) (hI : IM u) (a1 : Int32) (A1 : Int) (ha1 : a1.toInt = A1) (hl1 : 0 ≤ A1) (hm1 : A1 ≤ 9) (sz : Nat) : MetV l yX10_tells cX10_tells 3 1 [.ref (A 0), .int 1, .int a1] D (tyl C) (mw C A) X0 u sz (fun u' => IM u' ∧ Un [] [(7, 7)] [] u u' ∧ True) := by
  refine mV (by decide) (Nat.le_of_ble_eq_true rfl) ?_
  intro p e s m below meth c ls ar Q hx hb hml hown hts hK hH hX hl hret
  have hown : s.vm.findClass RX10 = some m.cls := hown
  have hl : lv_has ls 3 [(0, .ref (A 0)), (1, .int 1), (2, .int a1)] := hl
  refine lv_aload_n hx hb dX10_tells_0 rfl (lv_at hl 0 rfl) ?_
  refine va_get (ci := 10) (v := .ref (A 7)) (C := RX10) (T := TX10) (N := 42) hx hb hts (fun w h => uc_in w (inX10 w h)) hown hK hH.1 0 (mwc0 C A u) rfl 17 (by decide) (hts _ (uc_in _ q_f1205)) (fun _ h9 => h9) rfl dX10_tells_1 ?_
  refine lv_bipush (v := 24) hx hb dX10_tells_4 (by decide) ?_
  refine lv_iload_n hx hb dX10_tells_6 rfl (lv_at hl 1 rfl) ?_
  refine lv_iadd hx hb dX10_tells_7 ?_
  refine pv_i (v := 25) (by decide) ?_
  refine lv_iload_n hx hb dX10_tells_8 rfl (lv_at hl 2 rfl) ?_
  refine r_iast (j := 7) hx hb hK hH 7 1 (mwc7 C A u) rfl (i_ix (X := 25) (by decide) (by decide) (by decide)) (mwa7 C A u) dX10_tells_9 (fun u1 eu1 H locs hH => ?_)
  have hI := hI.pah eu1 ha1 (by omega) (show A1 ≤ 9 by omega)
  exact hret _ _ _ _ _ dX10_tells_10 ⟨hI, (Un.sa Un.rf rfl eu1), trivial⟩ hH
set_option maxHeartbeats 4000000 in
set_option maxRecDepth 100000 in
theorem kX10_number_5 (l : Launch) (D : va_G) (C : Nat → ClassId) (A : Nat → Nat) (u : St) (hI : IM u) (hPI : (gi u 9).toInt ≤ (gi u 7).toInt ∧ (gi u 7).toInt ≤ (gi u 6).toInt ∧ ((gi u 8).toInt = 0 ∨ (gi u 9).toInt < (gi u 7).toInt)) (sz : Nat) : MetI l yX10_number cX10_number 4 (some .int) 3 [.ref (A 0), .int 0, .int 10] D (tyl C) (mw C A) X0 u sz (fun r u' => IM u' ∧ Un [(7, 7), (8, 8), (9, 9), (10, 10), (12, 12), (13, 13)] [] [] u u' ∧ (((gi u' 9).toInt ≤ (gi u' 7).toInt ∧ (gi u' 7).toInt ≤ (gi u 6).toInt ∧ ((gi u' 8).toInt = 0 ∨ (gi u' 9).toInt < (gi u' 7).toInt)) ∧ (gi u 9).toInt ≤ (gi u' 9).toInt ∧ (0 ≤ r.toInt ∧ r.toInt ≤ 10))) := by
  refine mI (by decide) (Nat.le_of_ble_eq_true rfl) ?_
  intro p e s m below meth c ls ar Q hx hb hml hown hts hK hH hX hl hret
  have hown : s.vm.findClass RX10 = some m.cls := hown
  have hl : lv_has ls 4 [(0, .ref (A 0)), (1, .int 0), (2, .int 10)] := hl
  refine lv_aload_n hx hb dX10_number_0 rfl (lv_at hl 0 rfl) ?_
  refine va_get (ci := 10) (v := .int (gi u 12)) (C := RX10) (T := TX10) (N := 42) hx hb hts (fun w h => uc_in w (inX10 w h)) hown hK hH.1 0 (mwc0 C A u) rfl 12 (by decide) (hts _ (uc_in _ q_f1200)) (fun _ h9 => h9) rfl dX10_number_1 ?_
  refine lv_if_eq (tgt := 9) hx hb dX10_number_4 (by decide) (fun c1 => ?_) (fun c1 => ?_)
  · have c1 := cEQ (x := (gi u 12)) (y := 0) (X := ((gi u 12)).toInt) (Y := 0) rfl (by decide) c1
    refine lv_aload_n hx hb dX10_number_9 rfl (lv_at hl 0 rfl) ?_
    refine va_get (ci := 10) (v := .int (gi u 8)) (C := RX10) (T := TX10) (N := 42) hx hb hts (fun w h => uc_in w (inX10 w h)) hown hK hH.1 0 (mwc0 C A u) rfl 8 (by decide) (hts _ (uc_in _ q_f1196)) (fun _ h9 => h9) rfl dX10_number_10 ?_
    refine lv_iconst (v := 2) hx hb dX10_number_13 (by decide) ?_
    refine lv_icmp_eq (tgt := 24) hx hb dX10_number_14 (by decide) (fun c2 => ?_) (fun c2 => ?_)
    · have c2 := cEQ (x := (gi u 8)) (y := 2) (X := ((gi u 8)).toInt) (Y := 2) rfl (by decide) c2
      refine lv_aload_n hx hb dX10_number_24 rfl (lv_at hl 0 rfl) ?_
      refine va_get (ci := 10) (v := .int (gi u 10)) (C := RX10) (T := TX10) (N := 42) hx hb hts (fun w h => uc_in w (inX10 w h)) hown hK hH.1 0 (mwc0 C A u) rfl 10 (by decide) (hts _ (uc_in _ q_f1198)) (fun _ h9 => h9) rfl dX10_number_25 ?_
      refine lv_i2l (v := (gi u 10).toInt64) hx hb dX10_number_28 rfl ?_
      refine lv_iload_n hx hb dX10_number_29 rfl (lv_at hl 1 rfl) ?_
      refine lv_i2l (v := 0) hx hb dX10_number_30 (by decide) ?_
      refine lv_iload_n hx hb dX10_number_31 rfl (lv_at hl 2 rfl) ?_
      refine lv_i2l (v := 10) hx hb dX10_number_32 (by decide) ?_
      refine csS (n := 3) (As := [.long ((gi u 10).toInt64), .long 0, .long 10]) (rest := []) ⟨hx, hb, hml, hown, hts⟩ uc_in (kX10_in_0 l D C A u hI ((gi u 10).toInt64) (((gi u 10)).toInt) (tt_i2l rfl) (0) 0 (by decide) (10) 10 (by decide)) q_m1324 q_s1325 q_i11 q_c1326 hvX10_in ⟨(Nat.le_of_ble_eq_true rfl), (Nat.le_of_ble_eq_true rfl)⟩ ⟨(Nat.le_of_ble_eq_true rfl), (Nat.le_of_ble_eq_true rfl)⟩ hK hH.1 rfl hl.1 rfl (Nat.le_of_ble_eq_true rfl) dX10_number_33 (fun r3 p4 => ?_)
      rcases p4 with ⟨e9, f5, f6⟩ | e9
      · subst e9
        refine lv_if_ne (tgt := 46) hx hb dX10_number_36 (by decide) (fun c7 => ?_) (fun c7 => absurd c7 (by decide))
        refine lv_aload_n hx hb dX10_number_46 rfl (lv_at hl 0 rfl) ?_
        refine va_get (ci := 10) (v := .int (gi u 10)) (C := RX10) (T := TX10) (N := 42) hx hb hts (fun w h => uc_in w (inX10 w h)) hown hK hH.1 0 (mwc0 C A u) rfl 10 (by decide) (hts _ (uc_in _ q_f1198)) (fun _ h9 => h9) rfl dX10_number_47 ?_
        refine lv_istore_n (lv' := [(3, .int (gi u 10)), (0, .ref (A 0)), (1, .int 0), (2, .int 10)]) hx hb dX10_number_50 rfl hl (by decide) rfl (fun ls hl => ?_)
        refine lv_aload_n hx hb dX10_number_51 rfl (lv_at hl 1 rfl) ?_
        refine cvU (n := 0) (As := []) (rest := []) ⟨hx, hb, hml, hown, hts⟩ uc_in (kX10_next_0 l D C A u hI (by have q5 := hI.b6; omega) _) q_m1370 q_n1372 q_p55 q_i11 q_c1373 hvX10_next ⟨(Nat.le_of_ble_eq_true rfl), (Nat.le_of_ble_eq_true rfl)⟩ ⟨(Nat.le_of_ble_eq_true rfl), (Nat.le_of_ble_eq_true rfl)⟩ hK hH (fun q h => Or.inr h) Bl0 (fun _ _ _ => trivial) 10 0 rfl (mwc0 C A u) rfl hl.1 rfl (Nat.le_of_ble_eq_true rfl) dX10_number_52 (fun u8 H locs p10 hH => ?_)
        obtain ⟨hI, hUu8, p10⟩ := p10
        refine lv_iload_n hx hb dX10_number_55 rfl (lv_at hl 0 rfl) ?_
        exact hret _ _ _ _ (gi u 10) _ dX10_number_56 rfl ⟨hI, (Un.tr Un.rf hUu8 rfl rfl rfl), ⟨by have q6 := (show (gi u8 6).toInt = ((gi u 6)).toInt from (congrArg Int32.toInt (show gi u8 6 = (gi u 6) from ((hUu8.1 6 rfl).trans rfl))).trans rfl); have q7 := (show (gi u8 7).toInt = ((gi u8 7)).toInt from (congrArg Int32.toInt (show gi u8 7 = (gi u8 7) from rfl)).trans rfl); have q8 := (show (gi u8 8).toInt = ((gi u8 8)).toInt from (congrArg Int32.toInt (show gi u8 8 = (gi u8 8) from rfl)).trans rfl); have q9 := (show (gi u8 9).toInt = ((gi u8 9)).toInt from (congrArg Int32.toInt (show gi u8 9 = (gi u8 9) from rfl)).trans rfl); have q12 := (show (gi u8 12).toInt = ((gi u 12)).toInt from (congrArg Int32.toInt (show gi u8 12 = (gi u 12) from ((hUu8.1 12 rfl).trans rfl))).trans rfl); omega, by have q6 := (show (gi u8 6).toInt = ((gi u 6)).toInt from (congrArg Int32.toInt (show gi u8 6 = (gi u 6) from ((hUu8.1 6 rfl).trans rfl))).trans rfl); have q7 := (show (gi u8 7).toInt = ((gi u8 7)).toInt from (congrArg Int32.toInt (show gi u8 7 = (gi u8 7) from rfl)).trans rfl); have q8 := (show (gi u8 8).toInt = ((gi u8 8)).toInt from (congrArg Int32.toInt (show gi u8 8 = (gi u8 8) from rfl)).trans rfl); have q9 := (show (gi u8 9).toInt = ((gi u8 9)).toInt from (congrArg Int32.toInt (show gi u8 9 = (gi u8 9) from rfl)).trans rfl); have q12 := (show (gi u8 12).toInt = ((gi u 12)).toInt from (congrArg Int32.toInt (show gi u8 12 = (gi u 12) from ((hUu8.1 12 rfl).trans rfl))).trans rfl); omega, ⟨by have q9 := (show (gi u 10).toInt = ((gi u 10)).toInt from rfl); omega, by have q9 := (show (gi u 10).toInt = ((gi u 10)).toInt from rfl); omega⟩⟩⟩ hH
      · subst e9
        refine lv_if_ne (tgt := 46) hx hb dX10_number_36 (by decide) (fun c11 => absurd c11 (by decide)) (fun c11 => ?_)
        refine lv_aload_n hx hb dX10_number_39 rfl (lv_at hl 0 rfl) ?_
        refine lv_iconst (v := 2) hx hb dX10_number_40 (by decide) ?_
        refine cvU (n := 1) (As := [.int 2]) (rest := []) ⟨hx, hb, hml, hown, hts⟩ uc_in (kX10_fails_2 l D C A u hI  _) q_m1400 q_n1402 q_p61 q_i11 q_c1403 hvX10_fails ⟨(Nat.le_of_ble_eq_true rfl), (Nat.le_of_ble_eq_true rfl)⟩ ⟨(Nat.le_of_ble_eq_true rfl), (Nat.le_of_ble_eq_true rfl)⟩ hK hH (fun q h => Or.inr h) Bl0 (fun _ _ _ => trivial) 10 0 rfl (mwc0 C A u) rfl hl.1 rfl (Nat.le_of_ble_eq_true rfl) dX10_number_41 (fun u12 H locs p14 hH => ?_)
        obtain ⟨hI, hUu12, p14⟩ := p14
        refine lv_iload_n hx hb dX10_number_44 rfl (lv_at hl 1 rfl) ?_
        exact hret _ _ _ _ (0 : Int32) _ dX10_number_45 rfl ⟨hI, (Un.tr Un.rf hUu12 rfl rfl rfl), ⟨by have q6 := (show (gi u12 6).toInt = ((gi u 6)).toInt from (congrArg Int32.toInt (show gi u12 6 = (gi u 6) from ((hUu12.1 6 rfl).trans rfl))).trans rfl); have q7 := (show (gi u12 7).toInt = ((gi u 7)).toInt from (congrArg Int32.toInt (show gi u12 7 = (gi u 7) from ((hUu12.1 7 rfl).trans rfl))).trans rfl); have q8 := (show (gi u12 8).toInt = ((gi u 8)).toInt from (congrArg Int32.toInt (show gi u12 8 = (gi u 8) from ((hUu12.1 8 rfl).trans rfl))).trans rfl); have q9 := (show (gi u12 9).toInt = ((gi u 9)).toInt from (congrArg Int32.toInt (show gi u12 9 = (gi u 9) from ((hUu12.1 9 rfl).trans rfl))).trans rfl); have q12 := (show (gi u12 12).toInt = ((gi u12 12)).toInt from (congrArg Int32.toInt (show gi u12 12 = (gi u12 12) from rfl)).trans rfl); omega, by have q6 := (show (gi u12 6).toInt = ((gi u 6)).toInt from (congrArg Int32.toInt (show gi u12 6 = (gi u 6) from ((hUu12.1 6 rfl).trans rfl))).trans rfl); have q7 := (show (gi u12 7).toInt = ((gi u 7)).toInt from (congrArg Int32.toInt (show gi u12 7 = (gi u 7) from ((hUu12.1 7 rfl).trans rfl))).trans rfl); have q8 := (show (gi u12 8).toInt = ((gi u 8)).toInt from (congrArg Int32.toInt (show gi u12 8 = (gi u 8) from ((hUu12.1 8 rfl).trans rfl))).trans rfl); have q9 := (show (gi u12 9).toInt = ((gi u 9)).toInt from (congrArg Int32.toInt (show gi u12 9 = (gi u 9) from ((hUu12.1 9 rfl).trans rfl))).trans rfl); have q12 := (show (gi u12 12).toInt = ((gi u12 12)).toInt from (congrArg Int32.toInt (show gi u12 12 = (gi u12 12) from rfl)).trans rfl); omega, ⟨by decide, by decide⟩⟩⟩ hH
    · refine lv_aload_n hx hb dX10_number_17 rfl (lv_at hl 0 rfl) ?_
      refine lv_iconst (v := 1) hx hb dX10_number_18 (by decide) ?_
      refine cvU (n := 1) (As := [.int 1]) (rest := []) ⟨hx, hb, hml, hown, hts⟩ uc_in (kX10_fails_1 l D C A u hI  _) q_m1400 q_n1402 q_p61 q_i11 q_c1403 hvX10_fails ⟨(Nat.le_of_ble_eq_true rfl), (Nat.le_of_ble_eq_true rfl)⟩ ⟨(Nat.le_of_ble_eq_true rfl), (Nat.le_of_ble_eq_true rfl)⟩ hK hH (fun q h => Or.inr h) Bl0 (fun _ _ _ => trivial) 10 0 rfl (mwc0 C A u) rfl hl.1 rfl (Nat.le_of_ble_eq_true rfl) dX10_number_19 (fun u15 H locs p17 hH => ?_)
      obtain ⟨hI, hUu15, p17⟩ := p17
      refine lv_iload_n hx hb dX10_number_22 rfl (lv_at hl 1 rfl) ?_
      exact hret _ _ _ _ (0 : Int32) _ dX10_number_23 rfl ⟨hI, (Un.tr Un.rf hUu15 rfl rfl rfl), ⟨by have q6 := (show (gi u15 6).toInt = ((gi u 6)).toInt from (congrArg Int32.toInt (show gi u15 6 = (gi u 6) from ((hUu15.1 6 rfl).trans rfl))).trans rfl); have q7 := (show (gi u15 7).toInt = ((gi u 7)).toInt from (congrArg Int32.toInt (show gi u15 7 = (gi u 7) from ((hUu15.1 7 rfl).trans rfl))).trans rfl); have q8 := (show (gi u15 8).toInt = ((gi u 8)).toInt from (congrArg Int32.toInt (show gi u15 8 = (gi u 8) from ((hUu15.1 8 rfl).trans rfl))).trans rfl); have q9 := (show (gi u15 9).toInt = ((gi u 9)).toInt from (congrArg Int32.toInt (show gi u15 9 = (gi u 9) from ((hUu15.1 9 rfl).trans rfl))).trans rfl); have q12 := (show (gi u15 12).toInt = ((gi u15 12)).toInt from (congrArg Int32.toInt (show gi u15 12 = (gi u15 12) from rfl)).trans rfl); omega, by have q6 := (show (gi u15 6).toInt = ((gi u 6)).toInt from (congrArg Int32.toInt (show gi u15 6 = (gi u 6) from ((hUu15.1 6 rfl).trans rfl))).trans rfl); have q7 := (show (gi u15 7).toInt = ((gi u 7)).toInt from (congrArg Int32.toInt (show gi u15 7 = (gi u 7) from ((hUu15.1 7 rfl).trans rfl))).trans rfl); have q8 := (show (gi u15 8).toInt = ((gi u 8)).toInt from (congrArg Int32.toInt (show gi u15 8 = (gi u 8) from ((hUu15.1 8 rfl).trans rfl))).trans rfl); have q9 := (show (gi u15 9).toInt = ((gi u 9)).toInt from (congrArg Int32.toInt (show gi u15 9 = (gi u 9) from ((hUu15.1 9 rfl).trans rfl))).trans rfl); have q12 := (show (gi u15 12).toInt = ((gi u15 12)).toInt from (congrArg Int32.toInt (show gi u15 12 = (gi u15 12) from rfl)).trans rfl); omega, ⟨by decide, by decide⟩⟩⟩ hH
  · refine lv_iload_n hx hb dX10_number_7 rfl (lv_at hl 1 rfl) ?_
    exact hret _ _ _ _ (0 : Int32) _ dX10_number_8 rfl ⟨hI, Un.rf, ⟨by have q6 := (show (gi u 6).toInt = ((gi u 6)).toInt from (congrArg Int32.toInt (show gi u 6 = (gi u 6) from rfl)).trans rfl); have q7 := (show (gi u 7).toInt = ((gi u 7)).toInt from (congrArg Int32.toInt (show gi u 7 = (gi u 7) from rfl)).trans rfl); have q8 := (show (gi u 8).toInt = ((gi u 8)).toInt from (congrArg Int32.toInt (show gi u 8 = (gi u 8) from rfl)).trans rfl); have q9 := (show (gi u 9).toInt = ((gi u 9)).toInt from (congrArg Int32.toInt (show gi u 9 = (gi u 9) from rfl)).trans rfl); have q12 := (show (gi u 12).toInt = ((gi u 12)).toInt from (congrArg Int32.toInt (show gi u 12 = (gi u 12) from rfl)).trans rfl); omega, by have q6 := (show (gi u 6).toInt = ((gi u 6)).toInt from (congrArg Int32.toInt (show gi u 6 = (gi u 6) from rfl)).trans rfl); have q7 := (show (gi u 7).toInt = ((gi u 7)).toInt from (congrArg Int32.toInt (show gi u 7 = (gi u 7) from rfl)).trans rfl); have q8 := (show (gi u 8).toInt = ((gi u 8)).toInt from (congrArg Int32.toInt (show gi u 8 = (gi u 8) from rfl)).trans rfl); have q9 := (show (gi u 9).toInt = ((gi u 9)).toInt from (congrArg Int32.toInt (show gi u 9 = (gi u 9) from rfl)).trans rfl); have q12 := (show (gi u 12).toInt = ((gi u 12)).toInt from (congrArg Int32.toInt (show gi u 12 = (gi u 12) from rfl)).trans rfl); omega, ⟨by decide, by decide⟩⟩⟩ hH
set_option maxHeartbeats 4000000 in
set_option maxRecDepth 100000 in
theorem kX10_number__4 (l : Launch) (D : va_G) (C : Nat → ClassId) (A : Nat → Nat) (u : St) (hI : IM u) (a0 : Int64) (A0 : Int) (ha0 : a0.toInt = A0) (hPI : (gi u 9).toInt ≤ (gi u 7).toInt ∧ (gi u 7).toInt ≤ (gi u 6).toInt ∧ ((gi u 8).toInt = 0 ∨ (gi u 9).toInt < (gi u 7).toInt)) (sz : Nat) : MetI l yX10_number_ cX10_number_ 5 (some .int) 5 [.ref (A 0), .long a0, .int 0, .int 10] D (tyl C) (mw C A) X0 u sz (fun r u' => IM u' ∧ Un [(7, 7), (8, 8), (9, 9), (10, 10), (12, 12), (13, 13)] [] [] u u' ∧ (((gi u' 9).toInt ≤ (gi u' 7).toInt ∧ (gi u' 7).toInt ≤ (gi u 6).toInt ∧ ((gi u' 8).toInt = 0 ∨ (gi u' 9).toInt < (gi u' 7).toInt)) ∧ (gi u 9).toInt ≤ (gi u' 9).toInt ∧ (0 ≤ r.toInt ∧ r.toInt ≤ 10))) := by
  refine mI (by decide) (Nat.le_of_ble_eq_true rfl) ?_
  intro p e s m below meth c ls ar Q hx hb hml hown hts hK hH hX hl hret
  have hown : s.vm.findClass RX10 = some m.cls := hown
  have hl : lv_has ls 5 [(0, .ref (A 0)), (1, .long a0), (3, .int 0), (4, .int 10)] := hl
  refine lv_aload_n hx hb dX10_number__0 rfl (lv_at hl 0 rfl) ?_
  refine lv_lload_n hx hb dX10_number__1 rfl (lv_at hl 1 rfl) ?_
  refine cvU (n := 1) (As := [.long a0]) (rest := []) ⟨hx, hb, hml, hown, hts⟩ uc_in (kX10_asks_0 l D C A u hI a0 A0 ha0 (by omega) _) q_m1388 q_n1390 q_p58 q_i11 q_c1391 hvX10_asks ⟨(Nat.le_of_ble_eq_true rfl), (Nat.le_of_ble_eq_true rfl)⟩ ⟨(Nat.le_of_ble_eq_true rfl), (Nat.le_of_ble_eq_true rfl)⟩ hK hH (fun q h => Or.inr h) Bl0 (fun _ _ _ => trivial) 10 0 rfl (mwc0 C A u) rfl hl.1 rfl (Nat.le_of_ble_eq_true rfl) dX10_number__2 (fun u1 H locs p3 hH => ?_)
  obtain ⟨hI, hUu1, p3⟩ := p3
  obtain ⟨f4, f5⟩ := p3
  refine lv_aload_n hx hb dX10_number__5 rfl (lv_at hl 0 rfl) ?_
  refine lv_iload_n hx hb dX10_number__6 rfl (lv_at hl 2 rfl) ?_
  refine lv_iload hx hb dX10_number__7 (lv_at hl 3 rfl) ?_
  have q7 := (show (gi u1 6).toInt = ((gi u 6)).toInt from (congrArg Int32.toInt (show gi u1 6 = (gi u 6) from ((hUu1.1 6 rfl).trans rfl))).trans rfl)
  refine cvI (n := 2) (As := [.int 0, .int 10]) (rest := []) ⟨hx, hb, hml, hown, hts⟩ uc_in (kX10_number_5 l D C A u1 hI (by omega) _) q_m1409 q_n1411 q_p63 q_i11 q_c1412 hvX10_number ⟨(Nat.le_of_ble_eq_true rfl), (Nat.le_of_ble_eq_true rfl)⟩ ⟨(Nat.le_of_ble_eq_true rfl), (Nat.le_of_ble_eq_true rfl)⟩ hK hH (fun q h => Or.inr h) Bl0 (fun _ _ _ => trivial) 10 0 rfl (mwc0 C A u1) rfl hl.1 rfl (Nat.le_of_ble_eq_true rfl) dX10_number__9 (fun r9 u8 H locs p10 hH => ?_)
  obtain ⟨hI, hUu8, p10⟩ := p10
  obtain ⟨f11, f12, f13⟩ := p10
  exact hret _ _ _ _ r9 _ dX10_number__12 rfl ⟨hI, (Un.tr (Un.tr Un.rf hUu1 rfl rfl rfl) hUu8 rfl rfl rfl), ⟨by have q6 := (show (gi u8 6).toInt = ((gi u 6)).toInt from (congrArg Int32.toInt (show gi u8 6 = (gi u 6) from ((hUu8.1 6 rfl).trans ((hUu1.1 6 rfl).trans rfl)))).trans rfl); have q7 := (show (gi u8 7).toInt = ((gi u8 7)).toInt from (congrArg Int32.toInt (show gi u8 7 = (gi u8 7) from rfl)).trans rfl); have q8 := (show (gi u8 8).toInt = ((gi u8 8)).toInt from (congrArg Int32.toInt (show gi u8 8 = (gi u8 8) from rfl)).trans rfl); have q9 := (show (gi u8 9).toInt = ((gi u8 9)).toInt from (congrArg Int32.toInt (show gi u8 9 = (gi u8 9) from rfl)).trans rfl); have q12 := (show (gi u8 12).toInt = ((gi u8 12)).toInt from (congrArg Int32.toInt (show gi u8 12 = (gi u8 12) from rfl)).trans rfl); omega, by have q6 := (show (gi u8 6).toInt = ((gi u 6)).toInt from (congrArg Int32.toInt (show gi u8 6 = (gi u 6) from ((hUu8.1 6 rfl).trans ((hUu1.1 6 rfl).trans rfl)))).trans rfl); have q7 := (show (gi u8 7).toInt = ((gi u8 7)).toInt from (congrArg Int32.toInt (show gi u8 7 = (gi u8 7) from rfl)).trans rfl); have q8 := (show (gi u8 8).toInt = ((gi u8 8)).toInt from (congrArg Int32.toInt (show gi u8 8 = (gi u8 8) from rfl)).trans rfl); have q9 := (show (gi u8 9).toInt = ((gi u8 9)).toInt from (congrArg Int32.toInt (show gi u8 9 = (gi u8 9) from rfl)).trans rfl); have q12 := (show (gi u8 12).toInt = ((gi u8 12)).toInt from (congrArg Int32.toInt (show gi u8 12 = (gi u8 12) from rfl)).trans rfl); omega, ⟨by have q9 := (show r9.toInt = r9.toInt from rfl); omega, by have q9 := (show r9.toInt = r9.toInt from rfl); omega⟩⟩⟩ hH
set_option maxHeartbeats 4000000 in
set_option maxRecDepth 100000 in
theorem kX10_tells_6 (l : Launch) (D : va_G) (C : Nat → ClassId) (A : Nat → Nat) (u : St) (hI : IM u) (a1 : Int32) (A1 : Int) (ha1 : a1.toInt = A1) (hl1 : 0 ≤ A1) (hm1 : A1 ≤ 10) (sz : Nat) : MetV l yX10_tells cX10_tells 3 1 [.ref (A 0), .int 2, .int a1] D (tyl C) (mw C A) X0 u sz (fun u' => IM u' ∧ Un [] [(7, 7)] [] u u' ∧ True) := by
  refine mV (by decide) (Nat.le_of_ble_eq_true rfl) ?_
  intro p e s m below meth c ls ar Q hx hb hml hown hts hK hH hX hl hret
  have hown : s.vm.findClass RX10 = some m.cls := hown
  have hl : lv_has ls 3 [(0, .ref (A 0)), (1, .int 2), (2, .int a1)] := hl
  refine lv_aload_n hx hb dX10_tells_0 rfl (lv_at hl 0 rfl) ?_
  refine va_get (ci := 10) (v := .ref (A 7)) (C := RX10) (T := TX10) (N := 42) hx hb hts (fun w h => uc_in w (inX10 w h)) hown hK hH.1 0 (mwc0 C A u) rfl 17 (by decide) (hts _ (uc_in _ q_f1205)) (fun _ h9 => h9) rfl dX10_tells_1 ?_
  refine lv_bipush (v := 24) hx hb dX10_tells_4 (by decide) ?_
  refine lv_iload_n hx hb dX10_tells_6 rfl (lv_at hl 1 rfl) ?_
  refine lv_iadd hx hb dX10_tells_7 ?_
  refine pv_i (v := 26) (by decide) ?_
  refine lv_iload_n hx hb dX10_tells_8 rfl (lv_at hl 2 rfl) ?_
  refine r_iast (j := 7) hx hb hK hH 7 1 (mwc7 C A u) rfl (i_ix (X := 26) (by decide) (by decide) (by decide)) (mwa7 C A u) dX10_tells_9 (fun u1 eu1 H locs hH => ?_)
  have hI := hI.pah eu1 ha1 (by omega) (show A1 ≤ 10 by omega)
  exact hret _ _ _ _ _ dX10_tells_10 ⟨hI, (Un.sa Un.rf rfl eu1), trivial⟩ hH
set_option maxHeartbeats 4000000 in
set_option maxRecDepth 100000 in
theorem kX10_ends_0 (l : Launch) (D : va_G) (C : Nat → ClassId) (A : Nat → Nat) (u : St) (hI : IM u) (hPI : (gi u 9).toInt ≤ (gi u 7).toInt ∧ (gi u 7).toInt ≤ (gi u 6).toInt ∧ ((gi u 8).toInt = 0 ∨ (gi u 9).toInt < (gi u 7).toInt)) (sz : Nat) : MetV l yX10_ends cX10_ends 1 3 [.ref (A 0)] D (tyl C) (mw C A) X0 u sz (fun u' => IM u' ∧ Un [(7, 7), (8, 8), (9, 9), (10, 10), (12, 12), (13, 13)] [] [] u u' ∧ ((gi u' 9).toInt ≤ (gi u' 7).toInt ∧ (gi u' 7).toInt ≤ (gi u 6).toInt ∧ ((gi u' 8).toInt = 0 ∨ (gi u' 9).toInt < (gi u' 7).toInt)) ∧ (gi u 9).toInt ≤ (gi u' 9).toInt ∧ ((gi u' 12).toInt = 0 → (gi u 9).toInt < (gi u' 9).toInt)) := by
  refine mV (by decide) (Nat.le_of_ble_eq_true rfl) ?_
  intro p e s m below meth c ls ar Q hx hb hml hown hts hK hH hX hl hret
  have hown : s.vm.findClass RX10 = some m.cls := hown
  have hl : lv_has ls 1 [(0, .ref (A 0))] := hl
  refine lv_aload_n hx hb dX10_ends_0 rfl (lv_at hl 0 rfl) ?_
  refine va_get (ci := 10) (v := .int (gi u 8)) (C := RX10) (T := TX10) (N := 42) hx hb hts (fun w h => uc_in w (inX10 w h)) hown hK hH.1 0 (mwc0 C A u) rfl 8 (by decide) (hts _ (uc_in _ q_f1196)) (fun _ h9 => h9) rfl dX10_ends_1 ?_
  refine lv_iconst (v := 3) hx hb dX10_ends_4 (by decide) ?_
  refine lv_icmp_eq (tgt := 13) hx hb dX10_ends_5 (by decide) (fun c1 => ?_) (fun c1 => ?_)
  · have c1 := cEQ (x := (gi u 8)) (y := 3) (X := ((gi u 8)).toInt) (Y := 3) rfl (by decide) c1
    refine lv_aload_n hx hb dX10_ends_13 rfl (lv_at hl 0 rfl) ?_
    refine va_get (ci := 10) (v := .int (gi u 12)) (C := RX10) (T := TX10) (N := 42) hx hb hts (fun w h => uc_in w (inX10 w h)) hown hK hH.1 0 (mwc0 C A u) rfl 12 (by decide) (hts _ (uc_in _ q_f1200)) (fun _ h9 => h9) rfl dX10_ends_14 ?_
    refine lv_if_ne (tgt := 24) hx hb dX10_ends_17 (by decide) (fun c2 => ?_) (fun c2 => ?_)
    · have c2 := cNE (x := (gi u 12)) (y := 0) (X := ((gi u 12)).toInt) (Y := 0) rfl (by decide) c2
      exact hret _ _ _ _ _ dX10_ends_24 ⟨hI, Un.rf, ⟨by have q6 := (show (gi u 6).toInt = ((gi u 6)).toInt from (congrArg Int32.toInt (show gi u 6 = (gi u 6) from rfl)).trans rfl); have q7 := (show (gi u 7).toInt = ((gi u 7)).toInt from (congrArg Int32.toInt (show gi u 7 = (gi u 7) from rfl)).trans rfl); have q8 := (show (gi u 8).toInt = ((gi u 8)).toInt from (congrArg Int32.toInt (show gi u 8 = (gi u 8) from rfl)).trans rfl); have q9 := (show (gi u 9).toInt = ((gi u 9)).toInt from (congrArg Int32.toInt (show gi u 9 = (gi u 9) from rfl)).trans rfl); have q12 := (show (gi u 12).toInt = ((gi u 12)).toInt from (congrArg Int32.toInt (show gi u 12 = (gi u 12) from rfl)).trans rfl); omega, by have q6 := (show (gi u 6).toInt = ((gi u 6)).toInt from (congrArg Int32.toInt (show gi u 6 = (gi u 6) from rfl)).trans rfl); have q7 := (show (gi u 7).toInt = ((gi u 7)).toInt from (congrArg Int32.toInt (show gi u 7 = (gi u 7) from rfl)).trans rfl); have q8 := (show (gi u 8).toInt = ((gi u 8)).toInt from (congrArg Int32.toInt (show gi u 8 = (gi u 8) from rfl)).trans rfl); have q9 := (show (gi u 9).toInt = ((gi u 9)).toInt from (congrArg Int32.toInt (show gi u 9 = (gi u 9) from rfl)).trans rfl); have q12 := (show (gi u 12).toInt = ((gi u 12)).toInt from (congrArg Int32.toInt (show gi u 12 = (gi u 12) from rfl)).trans rfl); omega, (by have q6 := (show (gi u 6).toInt = ((gi u 6)).toInt from (congrArg Int32.toInt (show gi u 6 = (gi u 6) from rfl)).trans rfl); have q7 := (show (gi u 7).toInt = ((gi u 7)).toInt from (congrArg Int32.toInt (show gi u 7 = (gi u 7) from rfl)).trans rfl); have q8 := (show (gi u 8).toInt = ((gi u 8)).toInt from (congrArg Int32.toInt (show gi u 8 = (gi u 8) from rfl)).trans rfl); have q9 := (show (gi u 9).toInt = ((gi u 9)).toInt from (congrArg Int32.toInt (show gi u 9 = (gi u 9) from rfl)).trans rfl); have q12 := (show (gi u 12).toInt = ((gi u 12)).toInt from (congrArg Int32.toInt (show gi u 12 = (gi u 12) from rfl)).trans rfl); omega)⟩⟩ hH
    · have c2 := cEQ (x := (gi u 12)) (y := 0) (X := ((gi u 12)).toInt) (Y := 0) rfl (by decide) c2
      refine lv_aload_n hx hb dX10_ends_20 rfl (lv_at hl 0 rfl) ?_
      refine cvU (n := 0) (As := []) (rest := []) ⟨hx, hb, hml, hown, hts⟩ uc_in (kX10_next_0 l D C A u hI (by have q5 := hI.b6; omega) _) q_m1370 q_n1372 q_p55 q_i11 q_c1373 hvX10_next ⟨(Nat.le_of_ble_eq_true rfl), (Nat.le_of_ble_eq_true rfl)⟩ ⟨(Nat.le_of_ble_eq_true rfl), (Nat.le_of_ble_eq_true rfl)⟩ hK hH (fun q h => Or.inr h) Bl0 (fun _ _ _ => trivial) 10 0 rfl (mwc0 C A u) rfl hl.1 rfl (Nat.le_of_ble_eq_true rfl) dX10_ends_21 (fun u3 H locs p5 hH => ?_)
      obtain ⟨hI, hUu3, p5⟩ := p5
      exact hret _ _ _ _ _ dX10_ends_24 ⟨hI, (Un.tr Un.rf hUu3 rfl rfl rfl), ⟨by have q6 := (show (gi u3 6).toInt = ((gi u 6)).toInt from (congrArg Int32.toInt (show gi u3 6 = (gi u 6) from ((hUu3.1 6 rfl).trans rfl))).trans rfl); have q7 := (show (gi u3 7).toInt = ((gi u3 7)).toInt from (congrArg Int32.toInt (show gi u3 7 = (gi u3 7) from rfl)).trans rfl); have q8 := (show (gi u3 8).toInt = ((gi u3 8)).toInt from (congrArg Int32.toInt (show gi u3 8 = (gi u3 8) from rfl)).trans rfl); have q9 := (show (gi u3 9).toInt = ((gi u3 9)).toInt from (congrArg Int32.toInt (show gi u3 9 = (gi u3 9) from rfl)).trans rfl); have q12 := (show (gi u3 12).toInt = ((gi u 12)).toInt from (congrArg Int32.toInt (show gi u3 12 = (gi u 12) from ((hUu3.1 12 rfl).trans rfl))).trans rfl); omega, by have q6 := (show (gi u3 6).toInt = ((gi u 6)).toInt from (congrArg Int32.toInt (show gi u3 6 = (gi u 6) from ((hUu3.1 6 rfl).trans rfl))).trans rfl); have q7 := (show (gi u3 7).toInt = ((gi u3 7)).toInt from (congrArg Int32.toInt (show gi u3 7 = (gi u3 7) from rfl)).trans rfl); have q8 := (show (gi u3 8).toInt = ((gi u3 8)).toInt from (congrArg Int32.toInt (show gi u3 8 = (gi u3 8) from rfl)).trans rfl); have q9 := (show (gi u3 9).toInt = ((gi u3 9)).toInt from (congrArg Int32.toInt (show gi u3 9 = (gi u3 9) from rfl)).trans rfl); have q12 := (show (gi u3 12).toInt = ((gi u 12)).toInt from (congrArg Int32.toInt (show gi u3 12 = (gi u 12) from ((hUu3.1 12 rfl).trans rfl))).trans rfl); omega, (by have q6 := (show (gi u3 6).toInt = ((gi u 6)).toInt from (congrArg Int32.toInt (show gi u3 6 = (gi u 6) from ((hUu3.1 6 rfl).trans rfl))).trans rfl); have q7 := (show (gi u3 7).toInt = ((gi u3 7)).toInt from (congrArg Int32.toInt (show gi u3 7 = (gi u3 7) from rfl)).trans rfl); have q8 := (show (gi u3 8).toInt = ((gi u3 8)).toInt from (congrArg Int32.toInt (show gi u3 8 = (gi u3 8) from rfl)).trans rfl); have q9 := (show (gi u3 9).toInt = ((gi u3 9)).toInt from (congrArg Int32.toInt (show gi u3 9 = (gi u3 9) from rfl)).trans rfl); have q12 := (show (gi u3 12).toInt = ((gi u 12)).toInt from (congrArg Int32.toInt (show gi u3 12 = (gi u 12) from ((hUu3.1 12 rfl).trans rfl))).trans rfl); omega)⟩⟩ hH
  · have c1 := cNE (x := (gi u 8)) (y := 3) (X := ((gi u 8)).toInt) (Y := 3) rfl (by decide) c1
    refine lv_aload_n hx hb dX10_ends_8 rfl (lv_at hl 0 rfl) ?_
    refine lv_iconst (v := 1) hx hb dX10_ends_9 (by decide) ?_
    refine cvU (n := 1) (As := [.int 1]) (rest := []) ⟨hx, hb, hml, hown, hts⟩ uc_in (kX10_fails_1 l D C A u hI  _) q_m1400 q_n1402 q_p61 q_i11 q_c1403 hvX10_fails ⟨(Nat.le_of_ble_eq_true rfl), (Nat.le_of_ble_eq_true rfl)⟩ ⟨(Nat.le_of_ble_eq_true rfl), (Nat.le_of_ble_eq_true rfl)⟩ hK hH (fun q h => Or.inr h) Bl0 (fun _ _ _ => trivial) 10 0 rfl (mwc0 C A u) rfl hl.1 rfl (Nat.le_of_ble_eq_true rfl) dX10_ends_10 (fun u6 H locs p8 hH => ?_)
    obtain ⟨hI, hUu6, p8⟩ := p8
    refine lv_aload_n hx hb dX10_ends_13 rfl (lv_at hl 0 rfl) ?_
    refine va_get (ci := 10) (v := .int (gi u6 12)) (C := RX10) (T := TX10) (N := 42) hx hb hts (fun w h => uc_in w (inX10 w h)) hown hK hH.1 0 (mwc0 C A u6) rfl 12 (by decide) (hts _ (uc_in _ q_f1200)) (fun _ h9 => h9) rfl dX10_ends_14 ?_
    refine lv_if_ne (tgt := 24) hx hb dX10_ends_17 (by decide) (fun c9 => ?_) (fun c9 => ?_)
    · have c9 := cNE (x := (gi u6 12)) (y := 0) (X := ((gi u6 12)).toInt) (Y := 0) rfl (by decide) c9
      exact hret _ _ _ _ _ dX10_ends_24 ⟨hI, (Un.tr Un.rf hUu6 rfl rfl rfl), ⟨by have q6 := (show (gi u6 6).toInt = ((gi u 6)).toInt from (congrArg Int32.toInt (show gi u6 6 = (gi u 6) from ((hUu6.1 6 rfl).trans rfl))).trans rfl); have q7 := (show (gi u6 7).toInt = ((gi u 7)).toInt from (congrArg Int32.toInt (show gi u6 7 = (gi u 7) from ((hUu6.1 7 rfl).trans rfl))).trans rfl); have q8 := (show (gi u6 8).toInt = ((gi u 8)).toInt from (congrArg Int32.toInt (show gi u6 8 = (gi u 8) from ((hUu6.1 8 rfl).trans rfl))).trans rfl); have q9 := (show (gi u6 9).toInt = ((gi u 9)).toInt from (congrArg Int32.toInt (show gi u6 9 = (gi u 9) from ((hUu6.1 9 rfl).trans rfl))).trans rfl); have q12 := (show (gi u6 12).toInt = ((gi u6 12)).toInt from (congrArg Int32.toInt (show gi u6 12 = (gi u6 12) from rfl)).trans rfl); omega, by have q6 := (show (gi u6 6).toInt = ((gi u 6)).toInt from (congrArg Int32.toInt (show gi u6 6 = (gi u 6) from ((hUu6.1 6 rfl).trans rfl))).trans rfl); have q7 := (show (gi u6 7).toInt = ((gi u 7)).toInt from (congrArg Int32.toInt (show gi u6 7 = (gi u 7) from ((hUu6.1 7 rfl).trans rfl))).trans rfl); have q8 := (show (gi u6 8).toInt = ((gi u 8)).toInt from (congrArg Int32.toInt (show gi u6 8 = (gi u 8) from ((hUu6.1 8 rfl).trans rfl))).trans rfl); have q9 := (show (gi u6 9).toInt = ((gi u 9)).toInt from (congrArg Int32.toInt (show gi u6 9 = (gi u 9) from ((hUu6.1 9 rfl).trans rfl))).trans rfl); have q12 := (show (gi u6 12).toInt = ((gi u6 12)).toInt from (congrArg Int32.toInt (show gi u6 12 = (gi u6 12) from rfl)).trans rfl); omega, (by have q6 := (show (gi u6 6).toInt = ((gi u 6)).toInt from (congrArg Int32.toInt (show gi u6 6 = (gi u 6) from ((hUu6.1 6 rfl).trans rfl))).trans rfl); have q7 := (show (gi u6 7).toInt = ((gi u 7)).toInt from (congrArg Int32.toInt (show gi u6 7 = (gi u 7) from ((hUu6.1 7 rfl).trans rfl))).trans rfl); have q8 := (show (gi u6 8).toInt = ((gi u 8)).toInt from (congrArg Int32.toInt (show gi u6 8 = (gi u 8) from ((hUu6.1 8 rfl).trans rfl))).trans rfl); have q9 := (show (gi u6 9).toInt = ((gi u 9)).toInt from (congrArg Int32.toInt (show gi u6 9 = (gi u 9) from ((hUu6.1 9 rfl).trans rfl))).trans rfl); have q12 := (show (gi u6 12).toInt = ((gi u6 12)).toInt from (congrArg Int32.toInt (show gi u6 12 = (gi u6 12) from rfl)).trans rfl); omega)⟩⟩ hH
    · have c9 := cEQ (x := (gi u6 12)) (y := 0) (X := ((gi u6 12)).toInt) (Y := 0) rfl (by decide) c9
      refine lv_aload_n hx hb dX10_ends_20 rfl (lv_at hl 0 rfl) ?_
      have q10 := (show (gi u6 6).toInt = ((gi u 6)).toInt from (congrArg Int32.toInt (show gi u6 6 = (gi u 6) from ((hUu6.1 6 rfl).trans rfl))).trans rfl)
      have q11 := (show (gi u6 7).toInt = ((gi u 7)).toInt from (congrArg Int32.toInt (show gi u6 7 = (gi u 7) from ((hUu6.1 7 rfl).trans rfl))).trans rfl)
      have q12 := (show (gi u6 8).toInt = ((gi u 8)).toInt from (congrArg Int32.toInt (show gi u6 8 = (gi u 8) from ((hUu6.1 8 rfl).trans rfl))).trans rfl)
      have q13 := (show (gi u6 9).toInt = ((gi u 9)).toInt from (congrArg Int32.toInt (show gi u6 9 = (gi u 9) from ((hUu6.1 9 rfl).trans rfl))).trans rfl)
      refine cvU (n := 0) (As := []) (rest := []) ⟨hx, hb, hml, hown, hts⟩ uc_in (kX10_next_0 l D C A u6 hI (by have q5 := hI.b6; omega) _) q_m1370 q_n1372 q_p55 q_i11 q_c1373 hvX10_next ⟨(Nat.le_of_ble_eq_true rfl), (Nat.le_of_ble_eq_true rfl)⟩ ⟨(Nat.le_of_ble_eq_true rfl), (Nat.le_of_ble_eq_true rfl)⟩ hK hH (fun q h => Or.inr h) Bl0 (fun _ _ _ => trivial) 10 0 rfl (mwc0 C A u6) rfl hl.1 rfl (Nat.le_of_ble_eq_true rfl) dX10_ends_21 (fun u14 H locs p16 hH => ?_)
      obtain ⟨hI, hUu14, p16⟩ := p16
      exact hret _ _ _ _ _ dX10_ends_24 ⟨hI, (Un.tr (Un.tr Un.rf hUu6 rfl rfl rfl) hUu14 rfl rfl rfl), ⟨by have q6 := (show (gi u14 6).toInt = ((gi u 6)).toInt from (congrArg Int32.toInt (show gi u14 6 = (gi u 6) from ((hUu14.1 6 rfl).trans ((hUu6.1 6 rfl).trans rfl)))).trans rfl); have q7 := (show (gi u14 7).toInt = ((gi u14 7)).toInt from (congrArg Int32.toInt (show gi u14 7 = (gi u14 7) from rfl)).trans rfl); have q8 := (show (gi u14 8).toInt = ((gi u14 8)).toInt from (congrArg Int32.toInt (show gi u14 8 = (gi u14 8) from rfl)).trans rfl); have q9 := (show (gi u14 9).toInt = ((gi u14 9)).toInt from (congrArg Int32.toInt (show gi u14 9 = (gi u14 9) from rfl)).trans rfl); have q12 := (show (gi u14 12).toInt = ((gi u6 12)).toInt from (congrArg Int32.toInt (show gi u14 12 = (gi u6 12) from ((hUu14.1 12 rfl).trans rfl))).trans rfl); omega, by have q6 := (show (gi u14 6).toInt = ((gi u 6)).toInt from (congrArg Int32.toInt (show gi u14 6 = (gi u 6) from ((hUu14.1 6 rfl).trans ((hUu6.1 6 rfl).trans rfl)))).trans rfl); have q7 := (show (gi u14 7).toInt = ((gi u14 7)).toInt from (congrArg Int32.toInt (show gi u14 7 = (gi u14 7) from rfl)).trans rfl); have q8 := (show (gi u14 8).toInt = ((gi u14 8)).toInt from (congrArg Int32.toInt (show gi u14 8 = (gi u14 8) from rfl)).trans rfl); have q9 := (show (gi u14 9).toInt = ((gi u14 9)).toInt from (congrArg Int32.toInt (show gi u14 9 = (gi u14 9) from rfl)).trans rfl); have q12 := (show (gi u14 12).toInt = ((gi u6 12)).toInt from (congrArg Int32.toInt (show gi u14 12 = (gi u6 12) from ((hUu14.1 12 rfl).trans rfl))).trans rfl); omega, (by have q6 := (show (gi u14 6).toInt = ((gi u 6)).toInt from (congrArg Int32.toInt (show gi u14 6 = (gi u 6) from ((hUu14.1 6 rfl).trans ((hUu6.1 6 rfl).trans rfl)))).trans rfl); have q7 := (show (gi u14 7).toInt = ((gi u14 7)).toInt from (congrArg Int32.toInt (show gi u14 7 = (gi u14 7) from rfl)).trans rfl); have q8 := (show (gi u14 8).toInt = ((gi u14 8)).toInt from (congrArg Int32.toInt (show gi u14 8 = (gi u14 8) from rfl)).trans rfl); have q9 := (show (gi u14 9).toInt = ((gi u14 9)).toInt from (congrArg Int32.toInt (show gi u14 9 = (gi u14 9) from rfl)).trans rfl); have q12 := (show (gi u14 12).toInt = ((gi u6 12)).toInt from (congrArg Int32.toInt (show gi u14 12 = (gi u6 12) from ((hUu14.1 12 rfl).trans rfl))).trans rfl); omega)⟩⟩ hH
set_option maxHeartbeats 4000000 in
set_option maxRecDepth 100000 in
theorem kX10_town_0 (l : Launch) (D : va_G) (C : Nat → ClassId) (A : Nat → Nat) (u : St) (hI : IM u) (sz : Nat) : MetI l yX10_town cX10_town 1 (some .int) 8 [.ref (A 0)] D (tyl C) (mw C A) X0 u sz (fun r u' => IM u' ∧ Un [(0, 0), (6, 6), (7, 7), (8, 8), (9, 9), (10, 10), (12, 12), (13, 13), (14, 14), (15, 15)] [(6, 6), (7, 7), (8, 8), (9, 9), (10, 10)] [] u u' ∧ (True)) := by
  refine mI (by decide) (Nat.le_of_ble_eq_true rfl) ?_
  intro p e s m below meth c ls ar Q hx hb hml hown hts hK hH hX hl hret
  have hown : s.vm.findClass RX10 = some m.cls := hown
  have hl : lv_has ls 1 [(0, .ref (A 0))] := hl
  refine lv_aload_n hx hb dX10_town_0 rfl (lv_at hl 0 rfl) ?_
  refine lv_iconst (v := 0) hx hb dX10_town_1 (by decide) ?_
  refine r_put (j := 0) (ci := 10) (C := RX10) (T := TX10) (N := 42) hx hb hts (fun w h => uc_in w (inX10 w h)) tyX10 tyX10_ok nmX10 hown hK hH 0 (mwc0 C A u) rfl 0 (by decide) (hts _ (uc_in _ q_f1188)) (fun _ h9 => h9) rfl (by decide +kernel) (Nat.le_of_ble_eq_true rfl) (mws0 C A u _) dX10_town_2 (fun u1 eu1 H locs hH => ?_)
  have hI := hI.pi0 eu1 rfl
  refine lv_aload_n hx hb dX10_town_5 rfl (lv_at hl 0 rfl) ?_
  refine cvU (n := 0) (As := []) (rest := []) ⟨hx, hb, hml, hown, hts⟩ uc_in (kX10_clears_0 l D C A u1 hI  _) q_m1358 q_n1360 q_p52 q_i11 q_c1361 hvX10_clears ⟨(Nat.le_of_ble_eq_true rfl), (Nat.le_of_ble_eq_true rfl)⟩ ⟨(Nat.le_of_ble_eq_true rfl), (Nat.le_of_ble_eq_true rfl)⟩ hK hH (fun q h => Or.inr h) Bl0 (fun _ _ _ => trivial) 10 0 rfl (mwc0 C A u1) rfl hl.1 rfl (Nat.le_of_ble_eq_true rfl) dX10_town_6 (fun u2 H locs p4 hH => ?_)
  obtain ⟨hI, hUu2, p4⟩ := p4
  refine lv_aload_n hx hb dX10_town_9 rfl (lv_at hl 0 rfl) ?_
  refine cvU (n := 0) (As := []) (rest := []) ⟨hx, hb, hml, hown, hts⟩ uc_in (kX10_begins_0 l D C A u2 hI (by have q5 := hI.b6; omega) _) q_m1366 q_n1368 q_p54 q_i11 q_c1369 hvX10_begins ⟨(Nat.le_of_ble_eq_true rfl), (Nat.le_of_ble_eq_true rfl)⟩ ⟨(Nat.le_of_ble_eq_true rfl), (Nat.le_of_ble_eq_true rfl)⟩ hK hH (fun q h => Or.inr h) Bl0 (fun _ _ _ => trivial) 10 0 rfl (mwc0 C A u2) rfl hl.1 rfl (Nat.le_of_ble_eq_true rfl) dX10_town_10 (fun u5 H locs p7 hH => ?_)
  obtain ⟨hI, hUu5, p7⟩ := p7
  have lp13_477 : ∀ (n13 : Nat) (ls : Array Slot) (u477 : St) (H : Heap) (locs : List Loc), ((gi u477 9).toInt ≤ (gi u477 7).toInt ∧ (gi u477 7).toInt ≤ ((gi u5 6)).toInt ∧ ((gi u477 8).toInt = 0 ∨ (gi u477 9).toInt < (gi u477 7).toInt)) ∧ 0 ≤ (gi u477 9).toInt → gi u477 6 = (gi u5 6) → 1 ≤ (n13 : Int) ∧ ((gi u477 12).toInt = 0 → 801 - (gi u477 9).toInt < (n13 : Int)) → Un [(6, 6), (7, 7), (8, 8), (9, 9), (10, 10), (12, 12), (13, 13), (14, 14), (15, 15)] [(6, 6), (7, 7), (8, 8), (9, 9), (10, 10)] [] u5 u477 → IM u477 → Hd D (mw C A) (va_A (mw C A u) s.heap.size) s.heap u477 H locs → lv_has ls 1 [(0, .ref (A 0))] → W p l e (rmL 8 0 0) s m ar below meth c H locs 0 0 Q (F0 m 13 ls []) := by
    intro n13
    induction n13 with
    | zero => intro ls u477 H locs x13_0 hku477_0 hmun13 hUu477 hI hH hl; exfalso; omega
    | succ n13 ih13_477 =>
      intro ls u477 H locs x13_0 hku477_0 hmun13 hUu477 hI hH hl
      refine lv_aload_n hx hb dX10_town_13 rfl (lv_at hl 0 rfl) ?_
      refine cvS (n := 0) (As := []) (rest := []) ⟨hx, hb, hml, hown, hts⟩ uc_in (kX10_isGood_0 l D C A u477 hI ) q_m1383 q_n1385 q_p57 q_i11 q_c1386 hvX10_isGood ⟨(Nat.le_of_ble_eq_true rfl), (Nat.le_of_ble_eq_true rfl)⟩ ⟨(Nat.le_of_ble_eq_true rfl), (Nat.le_of_ble_eq_true rfl)⟩ hK hH.1 10 0 rfl (mwc0 C A u477) rfl hl.1 rfl (Nat.le_of_ble_eq_true rfl) dX10_town_14 (fun r479 p480 => ?_)
      rcases p480 with ⟨e9, f481⟩ | ⟨e9, f481⟩
      · subst e9
        refine lv_if_eq (tgt := 119) hx hb dX10_town_17 (by decide) (fun c482 => absurd c482 (by decide)) (fun c482 => ?_)
        refine lv_aload_n hx hb dX10_town_20 rfl (lv_at hl 0 rfl) ?_
        refine va_get (ci := 10) (v := .int (gi u477 8)) (C := RX10) (T := TX10) (N := 42) hx hb hts (fun w h => uc_in w (inX10 w h)) hown hK hH.1 0 (mwc0 C A u477) rfl 8 (by decide) (hts _ (uc_in _ q_f1196)) (fun _ h9 => h9) rfl dX10_town_21 ?_
        refine lv_if_eq (tgt := 119) hx hb dX10_town_24 (by decide) (fun c483 => ?_) (fun c483 => ?_)
        · have c483 := cEQ (x := (gi u477 8)) (y := 0) (X := ((gi u477 8)).toInt) (Y := 0) rfl (by decide) c483
          refine lv_aload_n hx hb dX10_town_119 rfl (lv_at hl 0 rfl) ?_
          refine cvU (n := 0) (As := []) (rest := []) ⟨hx, hb, hml, hown, hts⟩ uc_in (kX10_isOver_0 l D C A u477 hI  _) q_m1445 q_n1447 q_p69 q_i11 q_c1448 hvX10_isOver ⟨(Nat.le_of_ble_eq_true rfl), (Nat.le_of_ble_eq_true rfl)⟩ ⟨(Nat.le_of_ble_eq_true rfl), (Nat.le_of_ble_eq_true rfl)⟩ hK hH (fun q h => Or.inr h) Bl0 (fun _ _ _ => trivial) 10 0 rfl (mwc0 C A u477) rfl hl.1 rfl (Nat.le_of_ble_eq_true rfl) dX10_town_120 (fun u484 H locs p486 hH => ?_)
          obtain ⟨hI, hUu484, p486⟩ := p486
          refine lv_aload_n hx hb dX10_town_123 rfl (lv_at hl 0 rfl) ?_
          refine va_get (ci := 10) (v := .int (gi u484 12)) (C := RX10) (T := TX10) (N := 42) hx hb hts (fun w h => uc_in w (inX10 w h)) hown hK hH.1 0 (mwc0 C A u484) rfl 12 (by decide) (hts _ (uc_in _ q_f1200)) (fun _ h9 => h9) rfl dX10_town_124 ?_
          refine pv_i (v := (gi u477 12)) ((hUu484.1 12 rfl).trans rfl) ?_
          refine lv_if_eq (tgt := 133) hx hb dX10_town_127 (by decide) (fun c487 => ?_) (fun c487 => ?_)
          · have c487 := cEQ (x := (gi u477 12)) (y := 0) (X := ((gi u477 12)).toInt) (Y := 0) rfl (by decide) c487
            refine lv_aload_n hx hb dX10_town_133 rfl (lv_at hl 0 rfl) ?_
            refine lv_iconst (v := 4) hx hb dX10_town_134 (by decide) ?_
            refine lv_iconst (v := 0) hx hb dX10_town_135 (by decide) ?_
            refine cvU (n := 2) (As := [.int 4, .int 0]) (rest := []) ⟨hx, hb, hml, hown, hts⟩ uc_in (kX10_copyTown_6 l D C A u484 hI  _) q_m1449 q_n1451 q_p70 q_i11 q_c1452 hvX10_copyTown ⟨(Nat.le_of_ble_eq_true rfl), (Nat.le_of_ble_eq_true rfl)⟩ ⟨(Nat.le_of_ble_eq_true rfl), (Nat.le_of_ble_eq_true rfl)⟩ hK hH (fun q h => Or.inr h) Bl0 (fun _ _ _ => trivial) 10 0 rfl (mwc0 C A u484) rfl hl.1 rfl (Nat.le_of_ble_eq_true rfl) dX10_town_136 (fun u488 H locs p490 hH => ?_)
            obtain ⟨hI, hUu488, p490⟩ := p490
            refine lv_aload_n hx hb dX10_town_139 rfl (lv_at hl 0 rfl) ?_
            refine va_get (ci := 10) (v := .ref (A 6)) (C := RX10) (T := TX10) (N := 42) hx hb hts (fun w h => uc_in w (inX10 w h)) hown hK hH.1 0 (mwc0 C A u488) rfl 16 (by decide) (hts _ (uc_in _ q_f1204)) (fun _ h9 => h9) rfl dX10_town_140 ?_
            refine lv_iconst (v := 0) hx hb dX10_town_143 (by decide) ?_
            refine va_iald hx hb hK hH.1 6 1 (mwc6 C A u488) rfl (i_ix (X := 0) (by decide) (by decide) (by decide)) dX10_town_144 ?_
            refine p_any (fun z491 => ?_)
            exact hret _ _ _ _ z491 _ dX10_town_145 rfl ⟨hI, (Un.tr (Un.tr (Un.tr (Un.tr (Un.tr (Un.si Un.rf rfl eu1) hUu2 rfl rfl rfl) hUu5 rfl rfl rfl) hUu477 rfl rfl rfl) hUu484 rfl rfl rfl) hUu488 rfl rfl rfl), trivial⟩ hH
          · have c487 := cNE (x := (gi u477 12)) (y := 0) (X := ((gi u477 12)).toInt) (Y := 0) rfl (by decide) c487
            refine lv_bipush (v := (-4)) hx hb dX10_town_130 (by decide) ?_
            exact hret _ _ _ _ ((-4) : Int32) _ dX10_town_132 rfl ⟨hI, (Un.tr (Un.tr (Un.tr (Un.tr (Un.si Un.rf rfl eu1) hUu2 rfl rfl rfl) hUu5 rfl rfl rfl) hUu477 rfl rfl rfl) hUu484 rfl rfl rfl), trivial⟩ hH
        · have c483 := cNE (x := (gi u477 8)) (y := 0) (X := ((gi u477 8)).toInt) (Y := 0) rfl (by decide) c483
          refine lv_aload_n hx hb dX10_town_27 rfl (lv_at hl 0 rfl) ?_
          refine va_get (ci := 10) (v := .ref (A 6)) (C := RX10) (T := TX10) (N := 42) hx hb hts (fun w h => uc_in w (inX10 w h)) hown hK hH.1 0 (mwc0 C A u477) rfl 16 (by decide) (hts _ (uc_in _ q_f1204)) (fun _ h9 => h9) rfl dX10_town_28 ?_
          refine lv_iconst (v := 4) hx hb dX10_town_31 (by decide) ?_
          refine va_iald hx hb hK hH.1 6 1 (mwc6 C A u477) rfl (i_ix (X := 4) (by decide) (by decide) (by decide)) dX10_town_32 ?_
          refine p_any (fun z492 => ?_)
          have j95_566 : ∀ (ls : Array Slot) (u566 : St) (H : Heap) (locs : List Loc), ((gi u566 9).toInt ≤ (gi u566 7).toInt ∧ (gi u566 7).toInt ≤ ((gi u5 6)).toInt ∧ ((gi u566 8).toInt = 0 ∨ (gi u566 9).toInt < (gi u566 7).toInt)) ∧ ((gi u477 9)).toInt ≤ (gi u566 9).toInt → Un [(7, 7), (8, 8), (9, 9), (10, 10), (12, 12), (13, 13)] [(7, 7), (8, 8), (9, 9)] [] u477 u566 → IM u566 → Hd D (mw C A) (va_A (mw C A u) s.heap.size) s.heap u566 H locs → lv_has ls 1 [(0, .ref (A 0))] → W p l e (rmL 8 0 0) s m ar below meth c H locs 0 0 Q (F0 m 95 ls []) := by
            intro ls u566 H locs x95_0 hUu566 hI hH hl
            refine lv_aload_n hx hb dX10_town_95 rfl (lv_at hl 0 rfl) ?_
            refine cvS (n := 0) (As := []) (rest := []) ⟨hx, hb, hml, hown, hts⟩ uc_in (kX10_isGood_0 l D C A u566 hI ) q_m1383 q_n1385 q_p57 q_i11 q_c1386 hvX10_isGood ⟨(Nat.le_of_ble_eq_true rfl), (Nat.le_of_ble_eq_true rfl)⟩ ⟨(Nat.le_of_ble_eq_true rfl), (Nat.le_of_ble_eq_true rfl)⟩ hK hH.1 10 0 rfl (mwc0 C A u566) rfl hl.1 rfl (Nat.le_of_ble_eq_true rfl) dX10_town_96 (fun r568 p569 => ?_)
            rcases p569 with ⟨e9, f570⟩ | ⟨e9, f570⟩
            · subst e9
              refine lv_if_eq (tgt := 106) hx hb dX10_town_99 (by decide) (fun c571 => absurd c571 (by decide)) (fun c571 => ?_)
              refine lv_aload_n hx hb dX10_town_102 rfl (lv_at hl 0 rfl) ?_
              have q572 := (show (gi u566 6).toInt = ((gi u5 6)).toInt from (congrArg Int32.toInt (show gi u566 6 = (gi u5 6) from ((hUu566.1 6 rfl).trans hku477_0))).trans rfl)
              refine cvU (n := 0) (As := []) (rest := []) ⟨hx, hb, hml, hown, hts⟩ uc_in (kX10_ends_0 l D C A u566 hI (by omega) _) q_m1441 q_n1443 q_p68 q_i11 q_c1444 hvX10_ends ⟨(Nat.le_of_ble_eq_true rfl), (Nat.le_of_ble_eq_true rfl)⟩ ⟨(Nat.le_of_ble_eq_true rfl), (Nat.le_of_ble_eq_true rfl)⟩ hK hH (fun q h => Or.inr h) Bl0 (fun _ _ _ => trivial) 10 0 rfl (mwc0 C A u566) rfl hl.1 rfl (Nat.le_of_ble_eq_true rfl) dX10_town_103 (fun u573 H locs p575 hH => ?_)
              obtain ⟨hI, hUu573, p575⟩ := p575
              obtain ⟨f576, f577, f578⟩ := p575
              refine lv_aload_n hx hb dX10_town_106 rfl (lv_at hl 0 rfl) ?_
              refine va_get (ci := 10) (v := .ref (A 6)) (C := RX10) (T := TX10) (N := 42) hx hb hts (fun w h => uc_in w (inX10 w h)) hown hK hH.1 0 (mwc0 C A u573) rfl 16 (by decide) (hts _ (uc_in _ q_f1204)) (fun _ h9 => h9) rfl dX10_town_107 ?_
              refine lv_iconst (v := 4) hx hb dX10_town_110 (by decide) ?_
              refine lv_dup2_11 hx hb dX10_town_111 rfl rfl ?_
              refine va_iald hx hb hK hH.1 6 1 (mwc6 C A u573) rfl (i_ix (X := 4) (by decide) (by decide) (by decide)) dX10_town_112 ?_
              refine p_any (fun z579 => ?_)
              refine lv_iconst (v := 1) hx hb dX10_town_113 (by decide) ?_
              refine lv_iadd hx hb dX10_town_114 ?_
              refine p_any (fun z580 => ?_)
              refine r_iast (j := 6) hx hb hK hH 6 1 (mwc6 C A u573) rfl (i_ix (X := 4) (by decide) (by decide) (by decide)) (mwa6 C A u573) dX10_town_115 (fun u581 eu581 H locs hH => ?_)
              have hI := hI.pa0 eu581 (by decide) (by decide) (by decide)
              refine lv_goto (tgt := 13) hx hb dX10_town_116 (by decide) ?_
              exact ih13_477 ls u581 _ _ (by have q6 := (show (gi u581 6).toInt = ((gi u5 6)).toInt from (congrArg Int32.toInt (show gi u581 6 = (gi u5 6) from ((gi_sa eu581).trans ((hUu573.1 6 rfl).trans ((hUu566.1 6 rfl).trans hku477_0))))).trans rfl); have q7 := (show (gi u581 7).toInt = ((gi u573 7)).toInt from (congrArg Int32.toInt (show gi u581 7 = (gi u573 7) from ((gi_sa eu581).trans rfl))).trans rfl); have q8 := (show (gi u581 8).toInt = ((gi u573 8)).toInt from (congrArg Int32.toInt (show gi u581 8 = (gi u573 8) from ((gi_sa eu581).trans rfl))).trans rfl); have q9 := (show (gi u581 9).toInt = ((gi u573 9)).toInt from (congrArg Int32.toInt (show gi u581 9 = (gi u573 9) from ((gi_sa eu581).trans rfl))).trans rfl); have q12 := (show (gi u581 12).toInt = ((gi u573 12)).toInt from (congrArg Int32.toInt (show gi u581 12 = (gi u573 12) from ((gi_sa eu581).trans rfl))).trans rfl); omega) ((gi_sa eu581).trans ((hUu573.1 6 rfl).trans ((hUu566.1 6 rfl).trans hku477_0))) (by have q5 := hI.b6; have q6 := (show (gi u581 6).toInt = ((gi u5 6)).toInt from (congrArg Int32.toInt (show gi u581 6 = (gi u5 6) from ((gi_sa eu581).trans ((hUu573.1 6 rfl).trans ((hUu566.1 6 rfl).trans hku477_0))))).trans rfl); have q7 := (show (gi u581 7).toInt = ((gi u573 7)).toInt from (congrArg Int32.toInt (show gi u581 7 = (gi u573 7) from ((gi_sa eu581).trans rfl))).trans rfl); have q8 := (show (gi u581 8).toInt = ((gi u573 8)).toInt from (congrArg Int32.toInt (show gi u581 8 = (gi u573 8) from ((gi_sa eu581).trans rfl))).trans rfl); have q9 := (show (gi u581 9).toInt = ((gi u573 9)).toInt from (congrArg Int32.toInt (show gi u581 9 = (gi u573 9) from ((gi_sa eu581).trans rfl))).trans rfl); have q12 := (show (gi u581 12).toInt = ((gi u573 12)).toInt from (congrArg Int32.toInt (show gi u581 12 = (gi u573 12) from ((gi_sa eu581).trans rfl))).trans rfl); omega) (Un.sa (Un.tr (Un.tr hUu477 hUu566 rfl rfl rfl) hUu573 rfl rfl rfl) rfl eu581) hI hH hl
            · subst e9
              refine lv_if_eq (tgt := 106) hx hb dX10_town_99 (by decide) (fun c582 => ?_) (fun c582 => absurd c582 (by decide))
              refine lv_aload_n hx hb dX10_town_106 rfl (lv_at hl 0 rfl) ?_
              refine va_get (ci := 10) (v := .ref (A 6)) (C := RX10) (T := TX10) (N := 42) hx hb hts (fun w h => uc_in w (inX10 w h)) hown hK hH.1 0 (mwc0 C A u566) rfl 16 (by decide) (hts _ (uc_in _ q_f1204)) (fun _ h9 => h9) rfl dX10_town_107 ?_
              refine lv_iconst (v := 4) hx hb dX10_town_110 (by decide) ?_
              refine lv_dup2_11 hx hb dX10_town_111 rfl rfl ?_
              refine va_iald hx hb hK hH.1 6 1 (mwc6 C A u566) rfl (i_ix (X := 4) (by decide) (by decide) (by decide)) dX10_town_112 ?_
              refine p_any (fun z583 => ?_)
              refine lv_iconst (v := 1) hx hb dX10_town_113 (by decide) ?_
              refine lv_iadd hx hb dX10_town_114 ?_
              refine p_any (fun z584 => ?_)
              refine r_iast (j := 6) hx hb hK hH 6 1 (mwc6 C A u566) rfl (i_ix (X := 4) (by decide) (by decide) (by decide)) (mwa6 C A u566) dX10_town_115 (fun u585 eu585 H locs hH => ?_)
              have hI := hI.pa0 eu585 (by decide) (by decide) (by decide)
              refine lv_goto (tgt := 13) hx hb dX10_town_116 (by decide) ?_
              exact ih13_477 ls u585 _ _ (by have q6 := (show (gi u585 6).toInt = ((gi u5 6)).toInt from (congrArg Int32.toInt (show gi u585 6 = (gi u5 6) from ((gi_sa eu585).trans ((hUu566.1 6 rfl).trans hku477_0)))).trans rfl); have q7 := (show (gi u585 7).toInt = ((gi u566 7)).toInt from (congrArg Int32.toInt (show gi u585 7 = (gi u566 7) from ((gi_sa eu585).trans rfl))).trans rfl); have q8 := (show (gi u585 8).toInt = ((gi u566 8)).toInt from (congrArg Int32.toInt (show gi u585 8 = (gi u566 8) from ((gi_sa eu585).trans rfl))).trans rfl); have q9 := (show (gi u585 9).toInt = ((gi u566 9)).toInt from (congrArg Int32.toInt (show gi u585 9 = (gi u566 9) from ((gi_sa eu585).trans rfl))).trans rfl); have q12 := (show (gi u585 12).toInt = ((gi u566 12)).toInt from (congrArg Int32.toInt (show gi u585 12 = (gi u566 12) from ((gi_sa eu585).trans rfl))).trans rfl); omega) ((gi_sa eu585).trans ((hUu566.1 6 rfl).trans hku477_0)) (by have q5 := hI.b6; have q6 := (show (gi u585 6).toInt = ((gi u5 6)).toInt from (congrArg Int32.toInt (show gi u585 6 = (gi u5 6) from ((gi_sa eu585).trans ((hUu566.1 6 rfl).trans hku477_0)))).trans rfl); have q7 := (show (gi u585 7).toInt = ((gi u566 7)).toInt from (congrArg Int32.toInt (show gi u585 7 = (gi u566 7) from ((gi_sa eu585).trans rfl))).trans rfl); have q8 := (show (gi u585 8).toInt = ((gi u566 8)).toInt from (congrArg Int32.toInt (show gi u585 8 = (gi u566 8) from ((gi_sa eu585).trans rfl))).trans rfl); have q9 := (show (gi u585 9).toInt = ((gi u566 9)).toInt from (congrArg Int32.toInt (show gi u585 9 = (gi u566 9) from ((gi_sa eu585).trans rfl))).trans rfl); have q12 := (show (gi u585 12).toInt = ((gi u566 12)).toInt from (congrArg Int32.toInt (show gi u585 12 = (gi u566 12) from ((gi_sa eu585).trans rfl))).trans rfl); omega) (Un.sa (Un.tr hUu477 hUu566 rfl rfl rfl) rfl eu585) hI hH hl
          refine lv_if_ne (tgt := 91) hx hb dX10_town_33 (by decide) (fun c493 => ?_) (fun c493 => ?_)
          · have c493 := cNE (x := z492) (y := 0) (X := z492.toInt) (Y := 0) rfl (by decide) c493
            refine lv_aload_n hx hb dX10_town_91 rfl (lv_at hl 0 rfl) ?_
            have q586 := (show (gi u477 6).toInt = ((gi u5 6)).toInt from (congrArg Int32.toInt (show gi u477 6 = (gi u5 6) from hku477_0)).trans rfl)
            refine cvU (n := 0) (As := []) (rest := []) ⟨hx, hb, hml, hown, hts⟩ uc_in (kX10_line_0 l D C A u477 hI (by omega) _) q_m1415 q_n1417 q_p64 q_i11 q_c1418 hvX10_line ⟨(Nat.le_of_ble_eq_true rfl), (Nat.le_of_ble_eq_true rfl)⟩ ⟨(Nat.le_of_ble_eq_true rfl), (Nat.le_of_ble_eq_true rfl)⟩ hK hH (fun q h => Or.inr h) Bl0 (fun _ _ _ => trivial) 10 0 rfl (mwc0 C A u477) rfl hl.1 rfl (Nat.le_of_ble_eq_true rfl) dX10_town_92 (fun u587 H locs p589 hH => ?_)
            obtain ⟨hI, hUu587, p589⟩ := p589
            obtain ⟨f590, f591⟩ := p589
            exact j95_566 ls u587 _ _ (by have q6 := (show (gi u587 6).toInt = ((gi u5 6)).toInt from (congrArg Int32.toInt (show gi u587 6 = (gi u5 6) from ((hUu587.1 6 rfl).trans hku477_0))).trans rfl); have q7 := (show (gi u587 7).toInt = ((gi u587 7)).toInt from (congrArg Int32.toInt (show gi u587 7 = (gi u587 7) from rfl)).trans rfl); have q8 := (show (gi u587 8).toInt = ((gi u587 8)).toInt from (congrArg Int32.toInt (show gi u587 8 = (gi u587 8) from rfl)).trans rfl); have q9 := (show (gi u587 9).toInt = ((gi u587 9)).toInt from (congrArg Int32.toInt (show gi u587 9 = (gi u587 9) from rfl)).trans rfl); have q12 := (show (gi u587 12).toInt = ((gi u587 12)).toInt from (congrArg Int32.toInt (show gi u587 12 = (gi u587 12) from rfl)).trans rfl); omega) (Un.tr Un.rf hUu587 rfl rfl rfl) hI hH hl
          · have c493 := cEQ (x := z492) (y := 0) (X := z492.toInt) (Y := 0) rfl (by decide) c493
            refine lv_aload_n hx hb dX10_town_36 rfl (lv_at hl 0 rfl) ?_
            refine lv_ldc2 (v := 405230) hx hb hown (hts _ (uc_in _ q_k1387)) dX10_town_37 ?_
            have q593 := (show (gi u477 6).toInt = ((gi u5 6)).toInt from (congrArg Int32.toInt (show gi u477 6 = (gi u5 6) from hku477_0)).trans rfl)
            refine cvU (n := 1) (As := [.long 405230]) (rest := []) ⟨hx, hb, hml, hown, hts⟩ uc_in (kX10_asks_0 l D C A u477 hI (405230) 405230 (by decide) (by omega) _) q_m1388 q_n1390 q_p58 q_i11 q_c1391 hvX10_asks ⟨(Nat.le_of_ble_eq_true rfl), (Nat.le_of_ble_eq_true rfl)⟩ ⟨(Nat.le_of_ble_eq_true rfl), (Nat.le_of_ble_eq_true rfl)⟩ hK hH (fun q h => Or.inr h) Bl0 (fun _ _ _ => trivial) 10 0 rfl (mwc0 C A u477) rfl hl.1 rfl (Nat.le_of_ble_eq_true rfl) dX10_town_40 (fun u594 H locs p596 hH => ?_)
            obtain ⟨hI, hUu594, p596⟩ := p596
            obtain ⟨f597, f598⟩ := p596
            refine lv_aload_n hx hb dX10_town_43 rfl (lv_at hl 0 rfl) ?_
            refine lv_iconst (v := 0) hx hb dX10_town_44 (by decide) ?_
            refine lv_aload_n hx hb dX10_town_45 rfl (lv_at hl 0 rfl) ?_
            refine lv_ldc2 (v := 80155) hx hb hown (hts _ (uc_in _ q_k1404)) dX10_town_46 ?_
            refine lv_iconst (v := 1) hx hb dX10_town_49 (by decide) ?_
            refine lv_bipush (v := 7) hx hb dX10_town_50 (by decide) ?_
            have q600 := (show (gi u594 6).toInt = ((gi u5 6)).toInt from (congrArg Int32.toInt (show gi u594 6 = (gi u5 6) from ((hUu594.1 6 rfl).trans hku477_0))).trans rfl)
            refine cvI (n := 3) (As := [.long 80155, .int 1, .int 7]) (rest := [.int 0, .ref (A 0)]) ⟨hx, hb, hml, hown, hts⟩ uc_in (kX10_number__3 l D C A u594 hI (80155) 80155 (by decide) (by omega) _) q_m1405 q_n1407 q_p62 q_i11 q_c1408 hvX10_number_ ⟨(Nat.le_of_ble_eq_true rfl), (Nat.le_of_ble_eq_true rfl)⟩ ⟨(Nat.le_of_ble_eq_true rfl), (Nat.le_of_ble_eq_true rfl)⟩ hK hH (fun q h => Or.inr h) Bl0 (fun _ _ _ => trivial) 10 0 rfl (mwc0 C A u594) rfl hl.1 rfl (Nat.le_of_ble_eq_true rfl) dX10_town_52 (fun r602 u601 H locs p603 hH => ?_)
            obtain ⟨hI, hUu601, p603⟩ := p603
            obtain ⟨f604, f605, f606⟩ := p603
            refine cvU (n := 2) (As := [.int 0, .int r602]) (rest := []) ⟨hx, hb, hml, hown, hts⟩ uc_in (kX10_tells_4 l D C A u601 hI r602 r602.toInt rfl (by omega) (by omega) _) q_m1362 q_n1364 q_p53 q_i11 q_c1365 hvX10_tells ⟨(Nat.le_of_ble_eq_true rfl), (Nat.le_of_ble_eq_true rfl)⟩ ⟨(Nat.le_of_ble_eq_true rfl), (Nat.le_of_ble_eq_true rfl)⟩ hK hH (fun q h => Or.inr h) Bl0 (fun _ _ _ => trivial) 10 0 rfl (mwc0 C A u601) rfl hl.1 rfl (Nat.le_of_ble_eq_true rfl) dX10_town_55 (fun u607 H locs p609 hH => ?_)
            obtain ⟨hI, hUu607, p609⟩ := p609
            refine lv_aload_n hx hb dX10_town_58 rfl (lv_at hl 0 rfl) ?_
            refine lv_iconst (v := 1) hx hb dX10_town_59 (by decide) ?_
            refine lv_aload_n hx hb dX10_town_60 rfl (lv_at hl 0 rfl) ?_
            refine lv_ldc2 (v := 168755) hx hb hown (hts _ (uc_in _ q_k1413)) dX10_town_61 ?_
            refine lv_iconst (v := 0) hx hb dX10_town_64 (by decide) ?_
            refine lv_bipush (v := 9) hx hb dX10_town_65 (by decide) ?_
            have q610 := (show (gi u607 6).toInt = ((gi u5 6)).toInt from (congrArg Int32.toInt (show gi u607 6 = (gi u5 6) from ((hUu607.1 6 rfl).trans ((hUu601.1 6 rfl).trans ((hUu594.1 6 rfl).trans hku477_0))))).trans rfl)
            have q611 := (show (gi u607 7).toInt = ((gi u601 7)).toInt from (congrArg Int32.toInt (show gi u607 7 = (gi u601 7) from ((hUu607.1 7 rfl).trans rfl))).trans rfl)
            have q612 := (show (gi u607 8).toInt = ((gi u601 8)).toInt from (congrArg Int32.toInt (show gi u607 8 = (gi u601 8) from ((hUu607.1 8 rfl).trans rfl))).trans rfl)
            have q613 := (show (gi u607 9).toInt = ((gi u601 9)).toInt from (congrArg Int32.toInt (show gi u607 9 = (gi u601 9) from ((hUu607.1 9 rfl).trans rfl))).trans rfl)
            have q614 := (show (gi u607 12).toInt = ((gi u601 12)).toInt from (congrArg Int32.toInt (show gi u607 12 = (gi u601 12) from ((hUu607.1 12 rfl).trans rfl))).trans rfl)
            refine cvI (n := 3) (As := [.long 168755, .int 0, .int 9]) (rest := [.int 1, .ref (A 0)]) ⟨hx, hb, hml, hown, hts⟩ uc_in (kX10_number__0 l D C A u607 hI (168755) 168755 (by decide) (by omega) _) q_m1405 q_n1407 q_p62 q_i11 q_c1408 hvX10_number_ ⟨(Nat.le_of_ble_eq_true rfl), (Nat.le_of_ble_eq_true rfl)⟩ ⟨(Nat.le_of_ble_eq_true rfl), (Nat.le_of_ble_eq_true rfl)⟩ hK hH (fun q h => Or.inr h) Bl0 (fun _ _ _ => trivial) 10 0 rfl (mwc0 C A u607) rfl hl.1 rfl (Nat.le_of_ble_eq_true rfl) dX10_town_67 (fun r616 u615 H locs p617 hH => ?_)
            obtain ⟨hI, hUu615, p617⟩ := p617
            obtain ⟨f618, f619, f620⟩ := p617
            refine cvU (n := 2) (As := [.int 1, .int r616]) (rest := []) ⟨hx, hb, hml, hown, hts⟩ uc_in (kX10_tells_5 l D C A u615 hI r616 r616.toInt rfl (by omega) (by omega) _) q_m1362 q_n1364 q_p53 q_i11 q_c1365 hvX10_tells ⟨(Nat.le_of_ble_eq_true rfl), (Nat.le_of_ble_eq_true rfl)⟩ ⟨(Nat.le_of_ble_eq_true rfl), (Nat.le_of_ble_eq_true rfl)⟩ hK hH (fun q h => Or.inr h) Bl0 (fun _ _ _ => trivial) 10 0 rfl (mwc0 C A u615) rfl hl.1 rfl (Nat.le_of_ble_eq_true rfl) dX10_town_70 (fun u621 H locs p623 hH => ?_)
            obtain ⟨hI, hUu621, p623⟩ := p623
            refine lv_aload_n hx hb dX10_town_73 rfl (lv_at hl 0 rfl) ?_
            refine lv_iconst (v := 2) hx hb dX10_town_74 (by decide) ?_
            refine lv_aload_n hx hb dX10_town_75 rfl (lv_at hl 0 rfl) ?_
            refine lv_ldc2 (v := 298288) hx hb hown (hts _ (uc_in _ q_k1414)) dX10_town_76 ?_
            refine lv_iconst (v := 0) hx hb dX10_town_79 (by decide) ?_
            refine lv_bipush (v := 10) hx hb dX10_town_80 (by decide) ?_
            have q624 := (show (gi u621 6).toInt = ((gi u5 6)).toInt from (congrArg Int32.toInt (show gi u621 6 = (gi u5 6) from ((hUu621.1 6 rfl).trans ((hUu615.1 6 rfl).trans ((hUu607.1 6 rfl).trans ((hUu601.1 6 rfl).trans ((hUu594.1 6 rfl).trans hku477_0))))))).trans rfl)
            have q625 := (show (gi u621 7).toInt = ((gi u615 7)).toInt from (congrArg Int32.toInt (show gi u621 7 = (gi u615 7) from ((hUu621.1 7 rfl).trans rfl))).trans rfl)
            have q626 := (show (gi u621 8).toInt = ((gi u615 8)).toInt from (congrArg Int32.toInt (show gi u621 8 = (gi u615 8) from ((hUu621.1 8 rfl).trans rfl))).trans rfl)
            have q627 := (show (gi u621 9).toInt = ((gi u615 9)).toInt from (congrArg Int32.toInt (show gi u621 9 = (gi u615 9) from ((hUu621.1 9 rfl).trans rfl))).trans rfl)
            have q628 := (show (gi u621 12).toInt = ((gi u615 12)).toInt from (congrArg Int32.toInt (show gi u621 12 = (gi u615 12) from ((hUu621.1 12 rfl).trans rfl))).trans rfl)
            refine cvI (n := 3) (As := [.long 298288, .int 0, .int 10]) (rest := [.int 2, .ref (A 0)]) ⟨hx, hb, hml, hown, hts⟩ uc_in (kX10_number__4 l D C A u621 hI (298288) 298288 (by decide) (by omega) _) q_m1405 q_n1407 q_p62 q_i11 q_c1408 hvX10_number_ ⟨(Nat.le_of_ble_eq_true rfl), (Nat.le_of_ble_eq_true rfl)⟩ ⟨(Nat.le_of_ble_eq_true rfl), (Nat.le_of_ble_eq_true rfl)⟩ hK hH (fun q h => Or.inr h) Bl0 (fun _ _ _ => trivial) 10 0 rfl (mwc0 C A u621) rfl hl.1 rfl (Nat.le_of_ble_eq_true rfl) dX10_town_82 (fun r630 u629 H locs p631 hH => ?_)
            obtain ⟨hI, hUu629, p631⟩ := p631
            obtain ⟨f632, f633, f634⟩ := p631
            refine cvU (n := 2) (As := [.int 2, .int r630]) (rest := []) ⟨hx, hb, hml, hown, hts⟩ uc_in (kX10_tells_6 l D C A u629 hI r630 r630.toInt rfl (by omega) (by omega) _) q_m1362 q_n1364 q_p53 q_i11 q_c1365 hvX10_tells ⟨(Nat.le_of_ble_eq_true rfl), (Nat.le_of_ble_eq_true rfl)⟩ ⟨(Nat.le_of_ble_eq_true rfl), (Nat.le_of_ble_eq_true rfl)⟩ hK hH (fun q h => Or.inr h) Bl0 (fun _ _ _ => trivial) 10 0 rfl (mwc0 C A u629) rfl hl.1 rfl (Nat.le_of_ble_eq_true rfl) dX10_town_85 (fun u635 H locs p637 hH => ?_)
            obtain ⟨hI, hUu635, p637⟩ := p637
            refine lv_goto (tgt := 95) hx hb dX10_town_88 (by decide) ?_
            exact j95_566 ls u635 _ _ (by have q6 := (show (gi u635 6).toInt = ((gi u5 6)).toInt from (congrArg Int32.toInt (show gi u635 6 = (gi u5 6) from ((hUu635.1 6 rfl).trans ((hUu629.1 6 rfl).trans ((hUu621.1 6 rfl).trans ((hUu615.1 6 rfl).trans ((hUu607.1 6 rfl).trans ((hUu601.1 6 rfl).trans ((hUu594.1 6 rfl).trans hku477_0))))))))).trans rfl); have q7 := (show (gi u635 7).toInt = ((gi u629 7)).toInt from (congrArg Int32.toInt (show gi u635 7 = (gi u629 7) from ((hUu635.1 7 rfl).trans rfl))).trans rfl); have q8 := (show (gi u635 8).toInt = ((gi u629 8)).toInt from (congrArg Int32.toInt (show gi u635 8 = (gi u629 8) from ((hUu635.1 8 rfl).trans rfl))).trans rfl); have q9 := (show (gi u635 9).toInt = ((gi u629 9)).toInt from (congrArg Int32.toInt (show gi u635 9 = (gi u629 9) from ((hUu635.1 9 rfl).trans rfl))).trans rfl); have q12 := (show (gi u635 12).toInt = ((gi u629 12)).toInt from (congrArg Int32.toInt (show gi u635 12 = (gi u629 12) from ((hUu635.1 12 rfl).trans rfl))).trans rfl); omega) (Un.tr (Un.tr (Un.tr (Un.tr (Un.tr (Un.tr (Un.tr Un.rf hUu594 rfl rfl rfl) hUu601 rfl rfl rfl) hUu607 rfl rfl rfl) hUu615 rfl rfl rfl) hUu621 rfl rfl rfl) hUu629 rfl rfl rfl) hUu635 rfl rfl rfl) hI hH hl
      · subst e9
        refine lv_if_eq (tgt := 119) hx hb dX10_town_17 (by decide) (fun c638 => ?_) (fun c638 => absurd c638 (by decide))
        refine lv_aload_n hx hb dX10_town_119 rfl (lv_at hl 0 rfl) ?_
        refine cvU (n := 0) (As := []) (rest := []) ⟨hx, hb, hml, hown, hts⟩ uc_in (kX10_isOver_0 l D C A u477 hI  _) q_m1445 q_n1447 q_p69 q_i11 q_c1448 hvX10_isOver ⟨(Nat.le_of_ble_eq_true rfl), (Nat.le_of_ble_eq_true rfl)⟩ ⟨(Nat.le_of_ble_eq_true rfl), (Nat.le_of_ble_eq_true rfl)⟩ hK hH (fun q h => Or.inr h) Bl0 (fun _ _ _ => trivial) 10 0 rfl (mwc0 C A u477) rfl hl.1 rfl (Nat.le_of_ble_eq_true rfl) dX10_town_120 (fun u639 H locs p641 hH => ?_)
        obtain ⟨hI, hUu639, p641⟩ := p641
        refine lv_aload_n hx hb dX10_town_123 rfl (lv_at hl 0 rfl) ?_
        refine va_get (ci := 10) (v := .int (gi u639 12)) (C := RX10) (T := TX10) (N := 42) hx hb hts (fun w h => uc_in w (inX10 w h)) hown hK hH.1 0 (mwc0 C A u639) rfl 12 (by decide) (hts _ (uc_in _ q_f1200)) (fun _ h9 => h9) rfl dX10_town_124 ?_
        refine pv_i (v := (gi u477 12)) ((hUu639.1 12 rfl).trans rfl) ?_
        refine lv_if_eq (tgt := 133) hx hb dX10_town_127 (by decide) (fun c642 => ?_) (fun c642 => ?_)
        · have c642 := cEQ (x := (gi u477 12)) (y := 0) (X := ((gi u477 12)).toInt) (Y := 0) rfl (by decide) c642
          refine lv_aload_n hx hb dX10_town_133 rfl (lv_at hl 0 rfl) ?_
          refine lv_iconst (v := 4) hx hb dX10_town_134 (by decide) ?_
          refine lv_iconst (v := 0) hx hb dX10_town_135 (by decide) ?_
          refine cvU (n := 2) (As := [.int 4, .int 0]) (rest := []) ⟨hx, hb, hml, hown, hts⟩ uc_in (kX10_copyTown_6 l D C A u639 hI  _) q_m1449 q_n1451 q_p70 q_i11 q_c1452 hvX10_copyTown ⟨(Nat.le_of_ble_eq_true rfl), (Nat.le_of_ble_eq_true rfl)⟩ ⟨(Nat.le_of_ble_eq_true rfl), (Nat.le_of_ble_eq_true rfl)⟩ hK hH (fun q h => Or.inr h) Bl0 (fun _ _ _ => trivial) 10 0 rfl (mwc0 C A u639) rfl hl.1 rfl (Nat.le_of_ble_eq_true rfl) dX10_town_136 (fun u643 H locs p645 hH => ?_)
          obtain ⟨hI, hUu643, p645⟩ := p645
          refine lv_aload_n hx hb dX10_town_139 rfl (lv_at hl 0 rfl) ?_
          refine va_get (ci := 10) (v := .ref (A 6)) (C := RX10) (T := TX10) (N := 42) hx hb hts (fun w h => uc_in w (inX10 w h)) hown hK hH.1 0 (mwc0 C A u643) rfl 16 (by decide) (hts _ (uc_in _ q_f1204)) (fun _ h9 => h9) rfl dX10_town_140 ?_
          refine lv_iconst (v := 0) hx hb dX10_town_143 (by decide) ?_
          refine va_iald hx hb hK hH.1 6 1 (mwc6 C A u643) rfl (i_ix (X := 0) (by decide) (by decide) (by decide)) dX10_town_144 ?_
          refine p_any (fun z646 => ?_)
          exact hret _ _ _ _ z646 _ dX10_town_145 rfl ⟨hI, (Un.tr (Un.tr (Un.tr (Un.tr (Un.tr (Un.si Un.rf rfl eu1) hUu2 rfl rfl rfl) hUu5 rfl rfl rfl) hUu477 rfl rfl rfl) hUu639 rfl rfl rfl) hUu643 rfl rfl rfl), trivial⟩ hH
        · have c642 := cNE (x := (gi u477 12)) (y := 0) (X := ((gi u477 12)).toInt) (Y := 0) rfl (by decide) c642
          refine lv_bipush (v := (-4)) hx hb dX10_town_130 (by decide) ?_
          exact hret _ _ _ _ ((-4) : Int32) _ dX10_town_132 rfl ⟨hI, (Un.tr (Un.tr (Un.tr (Un.tr (Un.si Un.rf rfl eu1) hUu2 rfl rfl rfl) hUu5 rfl rfl rfl) hUu477 rfl rfl rfl) hUu639 rfl rfl rfl), trivial⟩ hH
  exact lp13_477 802 ls u5 _ _ (by have q6 := (show (gi u5 6).toInt = ((gi u5 6)).toInt from (congrArg Int32.toInt (show gi u5 6 = (gi u5 6) from rfl)).trans rfl); have q7 := (show (gi u5 7).toInt = ((gi u5 7)).toInt from (congrArg Int32.toInt (show gi u5 7 = (gi u5 7) from rfl)).trans rfl); have q8 := (show (gi u5 8).toInt = ((gi u5 8)).toInt from (congrArg Int32.toInt (show gi u5 8 = (gi u5 8) from rfl)).trans rfl); have q9 := (show (gi u5 9).toInt = ((gi u5 9)).toInt from (congrArg Int32.toInt (show gi u5 9 = (gi u5 9) from rfl)).trans rfl); have q12 := (show (gi u5 12).toInt = ((gi u5 12)).toInt from (congrArg Int32.toInt (show gi u5 12 = (gi u5 12) from rfl)).trans rfl); omega) rfl (by have q5 := hI.b6; have q6 := (show (gi u5 6).toInt = ((gi u5 6)).toInt from (congrArg Int32.toInt (show gi u5 6 = (gi u5 6) from rfl)).trans rfl); have q7 := (show (gi u5 7).toInt = ((gi u5 7)).toInt from (congrArg Int32.toInt (show gi u5 7 = (gi u5 7) from rfl)).trans rfl); have q8 := (show (gi u5 8).toInt = ((gi u5 8)).toInt from (congrArg Int32.toInt (show gi u5 8 = (gi u5 8) from rfl)).trans rfl); have q9 := (show (gi u5 9).toInt = ((gi u5 9)).toInt from (congrArg Int32.toInt (show gi u5 9 = (gi u5 9) from rfl)).trans rfl); have q12 := (show (gi u5 12).toInt = ((gi u5 12)).toInt from (congrArg Int32.toInt (show gi u5 12 = (gi u5 12) from rfl)).trans rfl); omega) Un.rf hI hH hl
