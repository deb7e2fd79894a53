set_option maxHeartbeats 4000000 in
set_option maxRecDepth 100000 in
theorem kX10_isTown_0 (l : Launch) (D : va_G) (C : Nat → ClassId) (A : Nat → Nat) (u : St) (hI : IM u) : Met l yX10_isTown (uc yX10_isTown cX10_isTown 1 (some .boolean)) (rmL 1 0 0) (va_Pc [.ref (A 0)] (PreR D (tyl C) (mw C A u))) (vp_Si (fun r => 0 ≤ r.toInt ∧ r.toInt ≤ 1)) 0 0 (fun _ => False) := by
  refine mS (by decide) (Nat.le_of_ble_eq_true rfl) ?_
  intro p e s m below meth c ls ar Q hx hb hml hown hts hK hP hl hret
  have hown : s.vm.findClass RX10 = some m.cls := hown
  have hl : lv_has ls 1 [(0, .ref (A 0))] := hl
  refine lv_aload_n hx hb dX10_isTown_0 rfl (lv_at hl 0 rfl) ?_
  refine va_get (ci := 10) (v := .ref (A 6)) (C := RX10) (T := TX10) (N := 42) hx hb hts (fun w h => uc_in w (inX10 w h)) hown hK hP 0 (mwc0 C A u) rfl 16 (by decide) (hts _ (uc_in _ q_f1204)) (fun _ h9 => h9) rfl dX10_isTown_1 ?_
  refine lv_iconst (v := 0) hx hb dX10_isTown_4 (by decide) ?_
  refine va_iald hx hb hK hP 6 1 (mwc6 C A u) rfl (i_ix (X := 0) (by decide) (by decide) (by decide)) dX10_isTown_5 ?_
  refine p_any (fun z1 => ?_)
  refine lv_if_le (tgt := 13) hx hb dX10_isTown_6 (by decide) (fun c2 => ?_) (fun c2 => ?_)
  · have c2 := cLE (x := z1) (y := 0) (X := z1.toInt) (Y := 0) rfl (by decide) c2
    refine lv_iconst (v := 0) hx hb dX10_isTown_13 (by decide) ?_
    exact hret _ _ (0 : Int32) dX10_isTown_14 rfl ⟨by decide, by decide⟩
  · have c2 := cNLE (x := z1) (y := 0) (X := z1.toInt) (Y := 0) rfl (by decide) c2
    refine lv_iconst (v := 1) hx hb dX10_isTown_9 (by decide) ?_
    refine lv_goto (tgt := 14) hx hb dX10_isTown_10 (by decide) ?_
    exact hret _ _ (1 : Int32) dX10_isTown_14 rfl ⟨by decide, by decide⟩
set_option maxHeartbeats 4000000 in
set_option maxRecDepth 100000 in
theorem kX10_in_0 (l : Launch) (D : va_G) (C : Nat → ClassId) (A : Nat → Nat) (u : St) (hI : IM u) (a0 : Int64) (A0 : Int) (ha0 : a0.toInt = A0) (a1 : Int64) (A1 : Int) (ha1 : a1.toInt = A1) (a2 : Int64) (A2 : Int) (ha2 : a2.toInt = A2) : Met l yX10_in (uc yX10_in cX10_in 6 (some .boolean)) (rmL 1 0 0) (va_Pc [.long a0, .long a1, .long a2] (PreR D (tyl C) (mw C A u))) (vp_Si (fun r => (r = 1 ∧ A1 ≤ A0 ∧ A0 ≤ A2) ∨ (r = 0 ∧ ¬ (A1 ≤ A0 ∧ A0 ≤ A2)))) 0 0 (fun _ => False) := by
  refine mS (by decide) (Nat.le_of_ble_eq_true rfl) ?_
  intro p e s m below meth c ls ar Q hx hb hml hown hts hK hP hl hret
  have hown : s.vm.findClass RX10 = some m.cls := hown
  have hl : lv_has ls 6 [(0, .long a0), (2, .long a1), (4, .long a2)] := hl
  refine lv_lload_n hx hb dX10_in_0 rfl (lv_at hl 0 rfl) ?_
  refine lv_lload_n hx hb dX10_in_1 rfl (lv_at hl 1 rfl) ?_
  refine W.lcmp hx hb dX10_in_2 ?_
  refine lv_if_lt (tgt := 17) hx hb dX10_in_3 (by decide) (fun c1 => ?_) (fun c1 => ?_)
  · have c1 := dLT (X := A0) (Y := A1) ha0 ha1 c1
    refine lv_iconst (v := 0) hx hb dX10_in_17 (by decide) ?_
    exact hret _ _ (0 : Int32) dX10_in_18 rfl (Or.inr ⟨rfl, by omega⟩)
  · have c1 := dNLT (X := A0) (Y := A1) ha0 ha1 c1
    refine lv_lload_n hx hb dX10_in_6 rfl (lv_at hl 0 rfl) ?_
    refine lv_lload hx hb dX10_in_7 (lv_at hl 2 rfl) ?_
    refine W.lcmp hx hb dX10_in_9 ?_
    refine lv_if_gt (tgt := 17) hx hb dX10_in_10 (by decide) (fun c2 => ?_) (fun c2 => ?_)
    · have c2 := dGT (X := A0) (Y := A2) ha0 ha2 c2
      refine lv_iconst (v := 0) hx hb dX10_in_17 (by decide) ?_
      exact hret _ _ (0 : Int32) dX10_in_18 rfl (Or.inr ⟨rfl, by omega⟩)
    · have c2 := dNGT (X := A0) (Y := A2) ha0 ha2 c2
      refine lv_iconst (v := 1) hx hb dX10_in_13 (by decide) ?_
      refine lv_goto (tgt := 18) hx hb dX10_in_14 (by decide) ?_
      exact hret _ _ (1 : Int32) dX10_in_18 rfl (Or.inl ⟨rfl, by omega, by omega⟩)
set_option maxHeartbeats 4000000 in
set_option maxRecDepth 100000 in
theorem kX10_isLong_0 (l : Launch) (D : va_G) (C : Nat → ClassId) (A : Nat → Nat) (u : St) (hI : IM u) (a0 : Int32) (A0 : Int) (ha0 : a0.toInt = A0) : Met l yX10_isLong (uc yX10_isLong cX10_isLong 2 (some .boolean)) (rmL 2 0 0) (va_Pc [.ref (A 0), .int a0] (PreR D (tyl C) (mw C A u))) (vp_Si (fun r => 0 ≤ r.toInt ∧ r.toInt ≤ 1)) 0 0 (fun _ => False) := by
  refine mS (by decide) (Nat.le_of_ble_eq_true rfl) ?_
  intro p e s m below meth c ls ar Q hx hb hml hown hts hK hP hl hret
  have hown : s.vm.findClass RX10 = some m.cls := hown
  have hl : lv_has ls 2 [(0, .ref (A 0)), (1, .int a0)] := hl
  refine lv_aload_n hx hb dX10_isLong_0 rfl (lv_at hl 0 rfl) ?_
  refine cvS (n := 0) (As := []) (rest := []) ⟨hx, hb, hml, hown, hts⟩ uc_in (kX10_isTown_0 l D C A u hI ) q_m1554 q_n1556 q_p84 q_i11 q_c1557 hvX10_isTown ⟨(Nat.le_of_ble_eq_true rfl), (Nat.le_of_ble_eq_true rfl)⟩ ⟨(Nat.le_of_ble_eq_true rfl), (Nat.le_of_ble_eq_true rfl)⟩ hK hP 10 0 rfl (mwc0 C A u) rfl hl.1 rfl (Nat.le_of_ble_eq_true rfl) dX10_isLong_1 (fun r1 p2 => ?_)
  have p2 : 0 ≤ r1.toInt ∧ r1.toInt ≤ 1 := p2
  refine lv_if_eq (tgt := 23) hx hb dX10_isLong_4 (by decide) (fun c3 => ?_) (fun c3 => ?_)
  · have c3 := cEQ (x := r1) (y := 0) (X := r1.toInt) (Y := 0) rfl (by decide) c3
    refine lv_iconst (v := 0) hx hb dX10_isLong_23 (by decide) ?_
    exact hret _ _ (0 : Int32) dX10_isLong_24 rfl ⟨by decide, by decide⟩
  · have c3 := cNE (x := r1) (y := 0) (X := r1.toInt) (Y := 0) rfl (by decide) c3
    refine lv_iload_n hx hb dX10_isLong_7 rfl (lv_at hl 1 rfl) ?_
    refine lv_i2l (v := a0.toInt64) hx hb dX10_isLong_8 rfl ?_
    refine lv_lconst (v := 0) hx hb dX10_isLong_9 (by decide) ?_
    refine lv_ldc2 (v := 600) hx hb hown (hts _ (uc_in _ q_k1634)) dX10_isLong_10 ?_
    refine csS (n := 3) (As := [.long a0.toInt64, .long 0, .long 600]) (rest := []) ⟨hx, hb, hml, hown, hts⟩ uc_in (kX10_in_0 l D C A u hI a0.toInt64 A0 (tt_i2l ha0) (0) 0 (by decide) (600) 600 (by decide)) q_m1324 q_s1325 q_i11 q_c1326 hvX10_in ⟨(Nat.le_of_ble_eq_true rfl), (Nat.le_of_ble_eq_true rfl)⟩ ⟨(Nat.le_of_ble_eq_true rfl), (Nat.le_of_ble_eq_true rfl)⟩ hK hP rfl hl.1 rfl (Nat.le_of_ble_eq_true rfl) dX10_isLong_13 (fun r4 p5 => ?_)
    rcases p5 with ⟨e9, f6, f7⟩ | ⟨e9, fn8⟩
    · subst e9
      refine lv_if_eq (tgt := 23) hx hb dX10_isLong_16 (by decide) (fun c9 => absurd c9 (by decide)) (fun c9 => ?_)
      refine lv_iconst (v := 1) hx hb dX10_isLong_19 (by decide) ?_
      refine lv_goto (tgt := 24) hx hb dX10_isLong_20 (by decide) ?_
      exact hret _ _ (1 : Int32) dX10_isLong_24 rfl ⟨by decide, by decide⟩
    · subst e9
      refine lv_if_eq (tgt := 23) hx hb dX10_isLong_16 (by decide) (fun c10 => ?_) (fun c10 => absurd c10 (by decide))
      refine lv_iconst (v := 0) hx hb dX10_isLong_23 (by decide) ?_
      exact hret _ _ (0 : Int32) dX10_isLong_24 rfl ⟨by decide, by decide⟩
set_option maxHeartbeats 4000000 in
set_option maxRecDepth 100000 in
theorem kX10_clocks_0 (l : Launch) (D : va_G) (C : Nat → ClassId) (A : Nat → Nat) (u : St) (hI : IM u) : Met l yX10_clocks (uc yX10_clocks cX10_clocks 1 (some .int)) (rmL 1 0 0) (va_Pc [.ref (A 0)] (PreR D (tyl C) (mw C A u))) (vp_Si (fun r => r = ga u 7 3)) 0 0 (fun _ => False) := by
  refine mS (by decide) (Nat.le_of_ble_eq_true rfl) ?_
  intro p e s m below meth c ls ar Q hx hb hml hown hts hK hP hl hret
  have hown : s.vm.findClass RX10 = some m.cls := hown
  have hl : lv_has ls 1 [(0, .ref (A 0))] := hl
  refine lv_aload_n hx hb dX10_clocks_0 rfl (lv_at hl 0 rfl) ?_
  refine va_get (ci := 10) (v := .ref (A 7)) (C := RX10) (T := TX10) (N := 42) hx hb hts (fun w h => uc_in w (inX10 w h)) hown hK hP 0 (mwc0 C A u) rfl 17 (by decide) (hts _ (uc_in _ q_f1205)) (fun _ h9 => h9) rfl dX10_clocks_1 ?_
  refine lv_iconst (v := 3) hx hb dX10_clocks_4 (by decide) ?_
  refine va_iald hx hb hK hP 7 1 (mwc7 C A u) rfl (i_ix (X := 3) (by decide) (by decide) (by decide)) dX10_clocks_5 ?_
  refine pv_i (v := (ga u 7 3)) rfl ?_
  have b1 : 0 ≤ ((ga u 7 3)).toInt ∧ ((ga u 7 3)).toInt ≤ 6 := hI.has 3
  exact hret _ _ (ga u 7 3) dX10_clocks_6 rfl rfl
set_option maxHeartbeats 4000000 in
set_option maxRecDepth 100000 in
theorem kX10_days_0 (l : Launch) (D : va_G) (C : Nat → ClassId) (A : Nat → Nat) (u : St) (hI : IM u) : Met l yX10_days (uc yX10_days cX10_days 1 (some .int)) (rmL 1 0 0) (va_Pc [.ref (A 0)] (PreR D (tyl C) (mw C A u))) (vp_Si (fun r => r = ga u 7 0)) 0 0 (fun _ => False) := by
  refine mS (by decide) (Nat.le_of_ble_eq_true rfl) ?_
  intro p e s m below meth c ls ar Q hx hb hml hown hts hK hP hl hret
  have hown : s.vm.findClass RX10 = some m.cls := hown
  have hl : lv_has ls 1 [(0, .ref (A 0))] := hl
  refine lv_aload_n hx hb dX10_days_0 rfl (lv_at hl 0 rfl) ?_
  refine va_get (ci := 10) (v := .ref (A 7)) (C := RX10) (T := TX10) (N := 42) hx hb hts (fun w h => uc_in w (inX10 w h)) hown hK hP 0 (mwc0 C A u) rfl 17 (by decide) (hts _ (uc_in _ q_f1205)) (fun _ h9 => h9) rfl dX10_days_1 ?_
  refine lv_iconst (v := 0) hx hb dX10_days_4 (by decide) ?_
  refine va_iald hx hb hK hP 7 1 (mwc7 C A u) rfl (i_ix (X := 0) (by decide) (by decide) (by decide)) dX10_days_5 ?_
  refine pv_i (v := (ga u 7 0)) rfl ?_
  have b1 : 0 ≤ ((ga u 7 0)).toInt ∧ ((ga u 7 0)).toInt ≤ 7 := hI.has 0
  exact hret _ _ (ga u 7 0) dX10_days_6 rfl rfl
set_option maxHeartbeats 4000000 in
set_option maxRecDepth 100000 in
theorem kX10_runs_0 (l : Launch) (D : va_G) (C : Nat → ClassId) (A : Nat → Nat) (u : St) (hI : IM u) (sz : Nat) : MetV l yX10_runs cX10_runs 9 2 [.ref (A 0)] D (tyl C) (mw C A) X0 u sz (fun u' => IM u' ∧ Un [] [(12, 12), (13, 13)] [] u u' ∧ True) := by
  refine mV (by decide) (Nat.le_of_ble_eq_true rfl) ?_
  intro p e s m below meth c ls ar Q hx hb hml hown hts hK hH hX hl hret
  have hown : s.vm.findClass RX10 = some m.cls := hown
  have hl : lv_has ls 9 [(0, .ref (A 0))] := hl
  refine lv_iconst (v := 0) hx hb dX10_runs_0 (by decide) ?_
  refine lv_istore_n (lv' := [(1, .int 0), (0, .ref (A 0))]) hx hb dX10_runs_1 rfl hl (by decide) rfl (fun ls hl => ?_)
  have lp2_124506 : ∀ (n2 : Nat) (ls : Array Slot) (y124505d : Int32) (u124506 : St) (H : Heap) (locs : List Loc), 0 ≤ y124505d.toInt → y124505d.toInt ≤ 6 → 6 - y124505d.toInt < (n2 : Int) → Un [] [(12, 12), (13, 13)] [] u u124506 → IM u124506 → Hd D (mw C A) (va_A (mw C A u) s.heap.size) s.heap u124506 H locs → lv_has ls 9 [(1, .int y124505d), (0, .ref (A 0))] → W p l e (rmL 2 0 0) s m ar below meth c H locs 0 0 Q (F0 m 2 ls []) := by
    intro n2
    induction n2 with
    | zero => intro ls y124505d u124506 H locs ly124505d my124505d hmun2 hUu124506 hI hH hl; exfalso; omega
    | succ n2 ih2_124506 =>
      intro ls y124505d u124506 H locs ly124505d my124505d hmun2 hUu124506 hI hH hl
      refine lv_iload_n hx hb dX10_runs_2 rfl (lv_at hl 0 rfl) ?_
      refine lv_aload_n hx hb dX10_runs_3 rfl (lv_at hl 1 rfl) ?_
      refine cvS (n := 0) (As := []) (rest := [.int y124505d]) ⟨hx, hb, hml, hown, hts⟩ uc_in (kX10_clocks_0 l D C A u124506 hI ) q_m1464 q_n1466 q_p72 q_i11 q_c1467 hvX10_clocks ⟨(Nat.le_of_ble_eq_true rfl), (Nat.le_of_ble_eq_true rfl)⟩ ⟨(Nat.le_of_ble_eq_true rfl), (Nat.le_of_ble_eq_true rfl)⟩ hK hH.1 10 0 rfl (mwc0 C A u124506) rfl hl.1 rfl (Nat.le_of_ble_eq_true rfl) dX10_runs_4 (fun r124508 p124509 => ?_)
      subst p124509
      have b124510 : 0 ≤ ((ga u124506 7 3)).toInt ∧ ((ga u124506 7 3)).toInt ≤ 6 := hI.has 3
      refine lv_icmp_ge (tgt := 332) hx hb dX10_runs_7 (by decide) (fun c124511 => ?_) (fun c124511 => ?_)
      · have c124511 := cLE (x := (ga u124506 7 3)) (y := y124505d) (X := ((ga u124506 7 3)).toInt) (Y := y124505d.toInt) rfl rfl c124511
        exact hret _ _ _ _ _ dX10_runs_332 ⟨hI, (Un.tr Un.rf hUu124506 rfl rfl rfl), trivial⟩ hH
      · have c124511 := cNLE (x := (ga u124506 7 3)) (y := y124505d) (X := ((ga u124506 7 3)).toInt) (Y := y124505d.toInt) rfl rfl c124511
        refine lv_aload_n hx hb dX10_runs_10 rfl (lv_at hl 1 rfl) ?_
        refine va_get (ci := 10) (v := .ref (A 8)) (C := RX10) (T := TX10) (N := 42) hx hb hts (fun w h => uc_in w (inX10 w h)) hown hK hH.1 0 (mwc0 C A u124506) rfl 18 (by decide) (hts _ (uc_in _ q_f1206)) (fun _ h9 => h9) rfl dX10_runs_11 ?_
        refine lv_iconst (v := 5) hx hb dX10_runs_14 (by decide) ?_
        refine lv_iload_n hx hb dX10_runs_15 rfl (lv_at hl 0 rfl) ?_
        refine lv_imul hx hb dX10_runs_16 ?_
        refine p_nm (tt_mul (X := 5) (Y := y124505d.toInt) (by decide) rfl (by omega) (by omega)) (fun z124512 hz124512 => ?_)
        refine lv_iconst (v := 1) hx hb dX10_runs_17 (by decide) ?_
        refine lv_iadd hx hb dX10_runs_18 ?_
        refine p_nm (tt_add (X := (5 * y124505d.toInt)) (Y := 1) hz124512 (by decide) (by omega) (by omega)) (fun z124513 hz124513 => ?_)
        refine va_iald hx hb hK hH.1 8 1 (mwc8 C A u124506) rfl (i_ix hz124513 (by omega) (by omega)) dX10_runs_19 ?_
        refine p_any (fun z124514 => ?_)
        refine lv_istore_n (lv' := [(2, .int z124514), (1, .int y124505d), (0, .ref (A 0))]) hx hb dX10_runs_20 rfl hl (by decide) rfl (fun ls hl => ?_)
        refine lv_aload_n hx hb dX10_runs_21 rfl (lv_at hl 2 rfl) ?_
        refine va_get (ci := 10) (v := .ref (A 8)) (C := RX10) (T := TX10) (N := 42) hx hb hts (fun w h => uc_in w (inX10 w h)) hown hK hH.1 0 (mwc0 C A u124506) rfl 18 (by decide) (hts _ (uc_in _ q_f1206)) (fun _ h9 => h9) rfl dX10_runs_22 ?_
        refine lv_iconst (v := 5) hx hb dX10_runs_25 (by decide) ?_
        refine lv_iload_n hx hb dX10_runs_26 rfl (lv_at hl 1 rfl) ?_
        refine lv_imul hx hb dX10_runs_27 ?_
        refine p_nm (tt_mul (X := 5) (Y := y124505d.toInt) (by decide) rfl (by omega) (by omega)) (fun z124515 hz124515 => ?_)
        refine lv_iconst (v := 2) hx hb dX10_runs_28 (by decide) ?_
        refine lv_iadd hx hb dX10_runs_29 ?_
        refine p_nm (tt_add (X := (5 * y124505d.toInt)) (Y := 2) hz124515 (by decide) (by omega) (by omega)) (fun z124516 hz124516 => ?_)
        refine va_iald hx hb hK hH.1 8 1 (mwc8 C A u124506) rfl (i_ix hz124516 (by omega) (by omega)) dX10_runs_30 ?_
        refine p_any (fun z124517 => ?_)
        refine lv_istore_n (lv' := [(3, .int z124517), (2, .int z124514), (1, .int y124505d), (0, .ref (A 0))]) hx hb dX10_runs_31 rfl hl (by decide) rfl (fun ls hl => ?_)
        refine lv_iconst (v := 1) hx hb dX10_runs_32 (by decide) ?_
        refine lv_istore (lv' := [(4, .int 1), (3, .int z124517), (2, .int z124514), (1, .int y124505d), (0, .ref (A 0))]) hx hb dX10_runs_33 hl (by decide) rfl (fun ls hl => ?_)
        refine lv_aload_n hx hb dX10_runs_35 rfl (lv_at hl 4 rfl) ?_
        refine va_get (ci := 10) (v := .ref (A 8)) (C := RX10) (T := TX10) (N := 42) hx hb hts (fun w h => uc_in w (inX10 w h)) hown hK hH.1 0 (mwc0 C A u124506) rfl 18 (by decide) (hts _ (uc_in _ q_f1206)) (fun _ h9 => h9) rfl dX10_runs_36 ?_
        refine lv_iconst (v := 5) hx hb dX10_runs_39 (by decide) ?_
        refine lv_iload_n hx hb dX10_runs_40 rfl (lv_at hl 3 rfl) ?_
        refine lv_imul hx hb dX10_runs_41 ?_
        refine p_nm (tt_mul (X := 5) (Y := y124505d.toInt) (by decide) rfl (by omega) (by omega)) (fun z124518 hz124518 => ?_)
        refine lv_iconst (v := 4) hx hb dX10_runs_42 (by decide) ?_
        refine lv_iadd hx hb dX10_runs_43 ?_
        refine p_nm (tt_add (X := (5 * y124505d.toInt)) (Y := 4) hz124518 (by decide) (by omega) (by omega)) (fun z124519 hz124519 => ?_)
        refine va_iald hx hb hK hH.1 8 1 (mwc8 C A u124506) rfl (i_ix hz124519 (by omega) (by omega)) dX10_runs_44 ?_
        refine p_any (fun z124520 => ?_)
        refine lv_iconst (v := 1) hx hb dX10_runs_45 (by decide) ?_
        have j54_145781 : ∀ (ls : Array Slot) (y124522d : Int32), 0 ≤ y124522d.toInt → y124522d.toInt ≤ 1 → lv_has ls 9 [(4, .int 1), (3, .int z124517), (2, .int z124514), (1, .int y124505d), (0, .ref (A 0))] → W p l e (rmL 2 0 0) s m ar below meth c H locs 0 0 Q (F0 m 54 ls [.int y124522d]) := by
          intro ls y124522d ly124522d my124522d hl
          refine lv_istore (lv' := [(5, .int y124522d), (4, .int 1), (3, .int z124517), (2, .int z124514), (1, .int y124505d), (0, .ref (A 0))]) hx hb dX10_runs_54 hl (by decide) rfl (fun ls hl => ?_)
          refine lv_iconst (v := 0) hx hb dX10_runs_56 (by decide) ?_
          refine lv_istore (lv' := [(6, .int 0), (5, .int y124522d), (4, .int 1), (3, .int z124517), (2, .int z124514), (1, .int y124505d), (0, .ref (A 0))]) hx hb dX10_runs_57 hl (by decide) rfl (fun ls hl => ?_)
          have lp59_164327 : ∀ (n59 : Nat) (ls : Array Slot) (y164322d : Int32) (y164323d : Int32) (y164324d : Int32) (y164325d : Int32) (y164326d : Int32) (u164327 : St) (H : Heap) (locs : List Loc), 0 ≤ y164322d.toInt → y164322d.toInt ≤ 7 → 0 ≤ y164323d.toInt → y164323d.toInt ≤ 1 → 0 ≤ y164324d.toInt → y164324d.toInt ≤ 1 → 7 - y164322d.toInt < (n59 : Int) → Un [] [(12, 12), (13, 13)] [] u124506 u164327 → IM u164327 → Hd D (mw C A) (va_A (mw C A u) s.heap.size) s.heap u164327 H locs → lv_has ls 9 [(6, .int y164322d), (5, .int y164323d), (4, .int y164324d), (3, .int y164325d), (2, .int y164326d), (1, .int y124505d), (0, .ref (A 0))] → W p l e (rmL 2 0 0) s m ar below meth c H locs 0 0 Q (F0 m 59 ls []) := by
            intro n59
            induction n59 with
            | zero => intro ls y164322d y164323d y164324d y164325d y164326d u164327 H locs ly164322d my164322d ly164323d my164323d ly164324d my164324d hmun59 hUu164327 hI hH hl; exfalso; omega
            | succ n59 ih59_164327 =>
              intro ls y164322d y164323d y164324d y164325d y164326d u164327 H locs ly164322d my164322d ly164323d my164323d ly164324d my164324d hmun59 hUu164327 hI hH hl
              refine lv_iload hx hb dX10_runs_59 (lv_at hl 0 rfl) ?_
              refine lv_aload_n hx hb dX10_runs_61 rfl (lv_at hl 6 rfl) ?_
              refine cvS (n := 0) (As := []) (rest := [.int y164322d]) ⟨hx, hb, hml, hown, hts⟩ uc_in (kX10_days_0 l D C A u164327 hI ) q_m1477 q_n1479 q_p74 q_i11 q_c1480 hvX10_days ⟨(Nat.le_of_ble_eq_true rfl), (Nat.le_of_ble_eq_true rfl)⟩ ⟨(Nat.le_of_ble_eq_true rfl), (Nat.le_of_ble_eq_true rfl)⟩ hK hH.1 10 0 rfl (mwc0 C A u164327) rfl hl.1 rfl (Nat.le_of_ble_eq_true rfl) dX10_runs_62 (fun r164329 p164330 => ?_)
              subst p164330
              have b164331 : 0 ≤ ((ga u164327 7 0)).toInt ∧ ((ga u164327 7 0)).toInt ≤ 7 := hI.has 0
              refine lv_icmp_ge (tgt := 326) hx hb dX10_runs_65 (by decide) (fun c164332 => ?_) (fun c164332 => ?_)
              · have c164332 := cLE (x := (ga u164327 7 0)) (y := y164322d) (X := ((ga u164327 7 0)).toInt) (Y := y164322d.toInt) rfl rfl c164332
                obtain ⟨z164333, ez164333⟩ : ∃ z, z = y124505d + Int32.ofInt 1 := ⟨_, rfl⟩
                have hz164333 : z164333.toInt = y124505d.toInt + 1 := by rw [ez164333]; exact tt_add rfl (by decide) (by omega) (by omega)
                refine lv_iinc (v := z164333) (lv' := [(1, .int z164333), (6, .int y164322d), (5, .int y164323d), (4, .int y164324d), (3, .int y164325d), (2, .int y164326d), (0, .ref (A 0))]) hx hb dX10_runs_326 hl (k := 5) rfl ez164333.symm (by decide) rfl (fun ls hl => ?_)
                refine lv_goto (tgt := 2) hx hb dX10_runs_329 (by decide) ?_
                exact ih2_124506 ls z164333 u164327 _ _ (by have q9 := (show z164333.toInt = (y124505d.toInt + 1) from hz164333); omega) (by have q9 := (show z164333.toInt = (y124505d.toInt + 1) from hz164333); omega) (by have q9 := (show z164333.toInt = (y124505d.toInt + 1) from hz164333); omega) (Un.tr hUu124506 hUu164327 rfl rfl rfl) hI hH (lv_sub hl [0, 6] rfl)
              · have c164332 := cNLE (x := (ga u164327 7 0)) (y := y164322d) (X := ((ga u164327 7 0)).toInt) (Y := y164322d.toInt) rfl rfl c164332
                refine lv_iload_n hx hb dX10_runs_68 rfl (lv_at hl 4 rfl) ?_
                refine lv_iload hx hb dX10_runs_69 (lv_at hl 0 rfl) ?_
                have j79_167043 : ∀ (ls : Array Slot) (y164335d : Int32), lv_has ls 9 [(6, .int y164322d), (5, .int y164323d), (4, .int y164324d), (3, .int y164325d), (1, .int y124505d), (0, .ref (A 0))] → W p l e (rmL 2 0 0) s m ar below meth c H locs 0 0 Q (F0 m 79 ls [.int y164335d, .int y164326d]) := by
                  intro ls y164335d hl
                  refine lv_iadd hx hb dX10_runs_79 ?_
                  refine p_any (fun z167045 => ?_)
                  refine lv_istore_n (lv' := [(2, .int z167045), (6, .int y164322d), (5, .int y164323d), (4, .int y164324d), (3, .int y164325d), (1, .int y124505d), (0, .ref (A 0))]) hx hb dX10_runs_80 rfl hl (by decide) rfl (fun ls hl => ?_)
                  refine lv_iconst (v := 0) hx hb dX10_runs_81 (by decide) ?_
                  refine lv_istore (lv' := [(7, .int 0), (2, .int z167045), (6, .int y164322d), (5, .int y164323d), (4, .int y164324d), (3, .int y164325d), (1, .int y124505d), (0, .ref (A 0))]) hx hb dX10_runs_82 hl (by decide) rfl (fun ls hl => ?_)
                  have lp84_169489 : ∀ (n84 : Nat) (ls : Array Slot) (y169484d : Int32) (y169485d : Int32) (y169486d : Int32) (y169487d : Int32) (y169488d : Int32) (u169489 : St) (H : Heap) (locs : List Loc), 0 ≤ y169484d.toInt → y169484d.toInt ≤ 40 → 0 ≤ y169486d.toInt → y169486d.toInt ≤ 1 → 0 ≤ y169487d.toInt → y169487d.toInt ≤ 1 → 40 - y169484d.toInt < (n84 : Int) → Un [] [(12, 12), (13, 13)] [] u164327 u169489 → IM u169489 → Hd D (mw C A) (va_A (mw C A u) s.heap.size) s.heap u169489 H locs → lv_has ls 9 [(7, .int y169484d), (2, .int y169485d), (6, .int y164322d), (5, .int y169486d), (4, .int y169487d), (3, .int y169488d), (1, .int y124505d), (0, .ref (A 0))] → W p l e (rmL 2 0 0) s m ar below meth c H locs 0 0 Q (F0 m 84 ls []) := by
                    intro n84
                    induction n84 with
                    | zero => intro ls y169484d y169485d y169486d y169487d y169488d u169489 H locs ly169484d my169484d ly169486d my169486d ly169487d my169487d hmun84 hUu169489 hI hH hl; exfalso; omega
                    | succ n84 ih84_169489 =>
                      intro ls y169484d y169485d y169486d y169487d y169488d u169489 H locs ly169484d my169484d ly169486d my169486d ly169487d my169487d hmun84 hUu169489 hI hH hl
                      refine lv_iload hx hb dX10_runs_84 (lv_at hl 0 rfl) ?_
                      refine lv_aload_n hx hb dX10_runs_86 rfl (lv_at hl 7 rfl) ?_
                      refine va_get (ci := 10) (v := .ref (A 7)) (C := RX10) (T := TX10) (N := 42) hx hb hts (fun w h => uc_in w (inX10 w h)) hown hK hH.1 0 (mwc0 C A u169489) rfl 17 (by decide) (hts _ (uc_in _ q_f1205)) (fun _ h9 => h9) rfl dX10_runs_87 ?_
                      refine lv_iconst (v := 5) hx hb dX10_runs_90 (by decide) ?_
                      refine va_iald hx hb hK hH.1 7 1 (mwc7 C A u169489) rfl (i_ix (X := 5) (by decide) (by decide) (by decide)) dX10_runs_91 ?_
                      refine pv_i (v := (ga u169489 7 5)) rfl ?_
                      have b169491 : 0 ≤ ((ga u169489 7 5)).toInt ∧ ((ga u169489 7 5)).toInt ≤ 40 := hI.has 5
                      refine lv_icmp_ge (tgt := 203) hx hb dX10_runs_92 (by decide) (fun c169492 => ?_) (fun c169492 => ?_)
                      · have c169492 := cLE (x := (ga u169489 7 5)) (y := y169484d) (X := ((ga u169489 7 5)).toInt) (Y := y169484d.toInt) rfl rfl c169492
                        refine lv_iconst (v := 0) hx hb dX10_runs_203 (by decide) ?_
                        refine lv_istore (lv' := [(7, .int 0), (2, .int y169485d), (6, .int y164322d), (5, .int y169486d), (4, .int y169487d), (3, .int y169488d), (1, .int y124505d), (0, .ref (A 0))]) hx hb dX10_runs_204 hl (by decide) rfl (fun ls hl => ?_)
                        have lp206_169698 : ∀ (n206 : Nat) (ls : Array Slot) (y169694d : Int32) (y169695d : Int32) (y169696d : Int32) (y169697d : Int32) (u169698 : St) (H : Heap) (locs : List Loc), 0 ≤ y169694d.toInt → y169694d.toInt ≤ 3 → 0 ≤ y169696d.toInt → y169696d.toInt ≤ 1 → 3 - y169694d.toInt < (n206 : Int) → Un [] [(12, 12), (13, 13)] [] u169489 u169698 → IM u169698 → Hd D (mw C A) (va_A (mw C A u) s.heap.size) s.heap u169698 H locs → lv_has ls 9 [(7, .int y169694d), (2, .int y169695d), (6, .int y164322d), (5, .int y169486d), (4, .int y169696d), (3, .int y169697d), (1, .int y124505d), (0, .ref (A 0))] → W p l e (rmL 2 0 0) s m ar below meth c H locs 0 0 Q (F0 m 206 ls []) := by
                          intro n206
                          induction n206 with
                          | zero => intro ls y169694d y169695d y169696d y169697d u169698 H locs ly169694d my169694d ly169696d my169696d hmun206 hUu169698 hI hH hl; exfalso; omega
                          | succ n206 ih206_169698 =>
                            intro ls y169694d y169695d y169696d y169697d u169698 H locs ly169694d my169694d ly169696d my169696d hmun206 hUu169698 hI hH hl
                            refine lv_iload hx hb dX10_runs_206 (lv_at hl 0 rfl) ?_
                            refine lv_aload_n hx hb dX10_runs_208 rfl (lv_at hl 7 rfl) ?_
                            refine va_get (ci := 10) (v := .int (gi u169698 25)) (C := RX10) (T := TX10) (N := 42) hx hb hts (fun w h => uc_in w (inX10 w h)) hown hK hH.1 0 (mwc0 C A u169698) rfl 25 (by decide) (hts _ (uc_in _ q_f1213)) (fun _ h9 => h9) rfl dX10_runs_209 ?_
                            have b169700 := hI.b25
                            refine lv_icmp_ge (tgt := 263) hx hb dX10_runs_212 (by decide) (fun c169701 => ?_) (fun c169701 => ?_)
                            · have c169701 := cLE (x := (gi u169698 25)) (y := y169694d) (X := ((gi u169698 25)).toInt) (Y := y169694d.toInt) rfl rfl c169701
                              refine lv_aload_n hx hb dX10_runs_263 rfl (lv_at hl 7 rfl) ?_
                              refine va_get (ci := 10) (v := .ref (A 12)) (C := RX10) (T := TX10) (N := 42) hx hb hts (fun w h => uc_in w (inX10 w h)) hown hK hH.1 0 (mwc0 C A u169698) rfl 22 (by decide) (hts _ (uc_in _ q_f1210)) (fun _ h9 => h9) rfl dX10_runs_264 ?_
                              refine lv_bipush (v := 6) hx hb dX10_runs_267 (by decide) ?_
                              refine lv_iload hx hb dX10_runs_269 (lv_at hl 2 rfl) ?_
                              refine lv_imul hx hb dX10_runs_271 ?_
                              refine p_nm (tt_mul (X := 6) (Y := y164322d.toInt) (by decide) rfl (by omega) (by omega)) (fun z169702 hz169702 => ?_)
                              refine lv_iload_n hx hb dX10_runs_272 rfl (lv_at hl 6 rfl) ?_
                              refine lv_iadd hx hb dX10_runs_273 ?_
                              refine p_nm (tt_add (X := (6 * y164322d.toInt)) (Y := y124505d.toInt) hz169702 rfl (by omega) (by omega)) (fun z169703 hz169703 => ?_)
                              refine lv_iload hx hb dX10_runs_274 (lv_at hl 4 rfl) ?_
                              have j286_169716 : ∀ (ls : Array Slot) (y169705d : Int32), lv_has ls 9 [(2, .int y169695d), (6, .int y164322d), (5, .int y169486d), (4, .int y169696d), (3, .int y169697d), (1, .int y124505d), (0, .ref (A 0))] → W p l e (rmL 2 0 0) s m ar below meth c H locs 0 0 Q (F0 m 286 ls [.int y169705d, .int z169703, .ref (A 12)]) := by
                                intro ls y169705d hl
                                refine r_iast (j := 12) hx hb hK hH 12 1 (mwc12 C A u169698) rfl (i_ix hz169703 (by omega) (by omega)) (mwa12 C A u169698) dX10_runs_286 (fun u169718 eu169718 H locs hH => ?_)
                                have hI := hI.pa0 eu169718 (by decide) (by decide) (by decide)
                                refine lv_aload_n hx hb dX10_runs_287 rfl (lv_at hl 6 rfl) ?_
                                refine va_get (ci := 10) (v := .ref (A 13)) (C := RX10) (T := TX10) (N := 42) hx hb hts (fun w h => uc_in w (inX10 w h)) hown hK hH.1 0 (mwc0 C A u169718) rfl 23 (by decide) (hts _ (uc_in _ q_f1211)) (fun _ h9 => h9) rfl dX10_runs_288 ?_
                                refine lv_bipush (v := 6) hx hb dX10_runs_291 (by decide) ?_
                                refine lv_iload hx hb dX10_runs_293 (lv_at hl 1 rfl) ?_
                                refine lv_imul hx hb dX10_runs_295 ?_
                                refine p_nm (tt_mul (X := 6) (Y := y164322d.toInt) (by decide) rfl (by omega) (by omega)) (fun z169719 hz169719 => ?_)
                                refine lv_iload_n hx hb dX10_runs_296 rfl (lv_at hl 5 rfl) ?_
                                refine lv_iadd hx hb dX10_runs_297 ?_
                                refine p_nm (tt_add (X := (6 * y164322d.toInt)) (Y := y124505d.toInt) hz169719 rfl (by omega) (by omega)) (fun z169720 hz169720 => ?_)
                                refine lv_iload hx hb dX10_runs_298 (lv_at hl 2 rfl) ?_
                                have j319_169728 : ∀ (ls : Array Slot) (y169725d : Int32), 0 ≤ y169725d.toInt → y169725d.toInt ≤ 1 → lv_has ls 9 [(2, .int y169695d), (6, .int y164322d), (5, .int y169486d), (4, .int y169696d), (3, .int y169697d), (1, .int y124505d), (0, .ref (A 0))] → W p l e (rmL 2 0 0) s m ar below meth c H locs 0 0 Q (F0 m 319 ls [.int y169725d, .int z169720, .ref (A 13)]) := by
                                  intro ls y169725d ly169725d my169725d hl
                                  refine r_zast (j := 13) hx hb hK hH 13 3 (mwc13 C A u169718) rfl (i_ix hz169720 (by omega) (by omega)) (mwa13 C A u169718) dX10_runs_319 (fun u169730 eu169730 H locs hH => ?_)
                                  have hI := hI.pa0 eu169730 (by decide) (by decide) (by decide)
                                  obtain ⟨z169731, ez169731⟩ : ∃ z, z = y164322d + Int32.ofInt 1 := ⟨_, rfl⟩
                                  have hz169731 : z169731.toInt = y164322d.toInt + 1 := by rw [ez169731]; exact tt_add rfl (by decide) (by omega) (by omega)
                                  refine lv_iinc (v := z169731) (lv' := [(6, .int z169731), (2, .int y169695d), (5, .int y169486d), (4, .int y169696d), (3, .int y169697d), (1, .int y124505d), (0, .ref (A 0))]) hx hb dX10_runs_320 hl (k := 1) rfl ez169731.symm (by decide) rfl (fun ls hl => ?_)
                                  refine lv_goto (tgt := 59) hx hb dX10_runs_323 (by decide) ?_
                                  exact ih59_164327 ls z169731 y169486d y169696d y169697d y169695d u169730 _ _ (by have q9 := (show z169731.toInt = (y164322d.toInt + 1) from hz169731); omega) (by have q9 := (show z169731.toInt = (y164322d.toInt + 1) from hz169731); omega) (by omega) (by omega) (by omega) (by omega) (by have q9 := (show z169731.toInt = (y164322d.toInt + 1) from hz169731); omega) (Un.sa (Un.sa (Un.tr (Un.tr hUu164327 hUu169489 rfl rfl rfl) hUu169698 rfl rfl rfl) rfl eu169718) rfl eu169730) hI hH (lv_sub hl [0, 2, 3, 4, 1, 5, 6] rfl)
                                have j318_169732 : ∀ (ls : Array Slot), lv_has ls 9 [(2, .int y169695d), (6, .int y164322d), (5, .int y169486d), (4, .int y169696d), (3, .int y169697d), (1, .int y124505d), (0, .ref (A 0))] → W p l e (rmL 2 0 0) s m ar below meth c H locs 0 0 Q (F0 m 318 ls [.int z169720, .ref (A 13)]) := by
                                  intro ls hl
                                  refine lv_iconst (v := 0) hx hb dX10_runs_318 (by decide) ?_
                                  exact j319_169728 ls 0 (by decide) (by decide) hl
                                refine lv_if_ne (tgt := 318) hx hb dX10_runs_300 (by decide) (fun c169721 => ?_) (fun c169721 => ?_)
                                · have c169721 := cNE (x := y169486d) (y := 0) (X := y169486d.toInt) (Y := 0) rfl (by decide) c169721
                                  exact j318_169732 ls hl
                                · have c169721 := cEQ (x := y169486d) (y := 0) (X := y169486d.toInt) (Y := 0) rfl (by decide) c169721
                                  refine lv_aload_n hx hb dX10_runs_303 rfl (lv_at hl 6 rfl) ?_
                                  refine va_get (ci := 10) (v := .int (gi u169718 24)) (C := RX10) (T := TX10) (N := 42) hx hb hts (fun w h => uc_in w (inX10 w h)) hown hK hH.1 0 (mwc0 C A u169718) rfl 24 (by decide) (hts _ (uc_in _ q_f1212)) (fun _ h9 => h9) rfl dX10_runs_304 ?_
                                  refine lv_iload_n hx hb dX10_runs_307 rfl (lv_at hl 5 rfl) ?_
                                  refine csS (n := 2) (As := [.int (gi u169718 24), .int y124505d]) (rest := [.int z169720, .ref (A 13)]) ⟨hx, hb, hml, hown, hts⟩ uc_in (kX10_isBit_0 l D C A u169718 hI (gi u169718 24) (((gi u169718 24)).toInt) rfl y124505d y124505d.toInt rfl) q_m1489 q_s1490 q_i11 q_c1491 hvX10_isBit ⟨(Nat.le_of_ble_eq_true rfl), (Nat.le_of_ble_eq_true rfl)⟩ ⟨(Nat.le_of_ble_eq_true rfl), (Nat.le_of_ble_eq_true rfl)⟩ hK hH.1 rfl hl.1 rfl (Nat.le_of_ble_eq_true rfl) dX10_runs_308 (fun r169734 p169735 => ?_)
                                  have p169735 : 0 ≤ r169734.toInt ∧ r169734.toInt ≤ 1 := by rcases p169735 with ⟨e9, -⟩ | ⟨e9, -⟩ <;> rw [e9] <;> decide
                                  refine lv_if_ne (tgt := 318) hx hb dX10_runs_311 (by decide) (fun c169736 => ?_) (fun c169736 => ?_)
                                  · have c169736 := cNE (x := r169734) (y := 0) (X := r169734.toInt) (Y := 0) rfl (by decide) c169736
                                    exact j318_169732 ls hl
                                  · have c169736 := cEQ (x := r169734) (y := 0) (X := r169734.toInt) (Y := 0) rfl (by decide) c169736
                                    refine lv_iconst (v := 1) hx hb dX10_runs_314 (by decide) ?_
                                    refine lv_goto (tgt := 319) hx hb dX10_runs_315 (by decide) ?_
                                    exact j319_169728 ls 1 (by decide) (by decide) hl
                              refine lv_if_eq (tgt := 283) hx hb dX10_runs_276 (by decide) (fun c169704 => ?_) (fun c169704 => ?_)
                              · have c169704 := cEQ (x := y169696d) (y := 0) (X := y169696d.toInt) (Y := 0) rfl (by decide) c169704
                                refine lv_sipush (v := 10000) hx hb dX10_runs_283 (by decide) ?_
                                exact j286_169716 ls 10000 (lv_sub hl [1, 2, 3, 4, 5, 6, 7] rfl)
                              · have c169704 := cNE (x := y169696d) (y := 0) (X := y169696d.toInt) (Y := 0) rfl (by decide) c169704
                                refine lv_iload_n hx hb dX10_runs_279 rfl (lv_at hl 1 rfl) ?_
                                refine lv_goto (tgt := 286) hx hb dX10_runs_280 (by decide) ?_
                                exact j286_169716 ls y169695d (lv_sub hl [1, 2, 3, 4, 5, 6, 7] rfl)
                            · have c169701 := cNLE (x := (gi u169698 25)) (y := y169694d) (X := ((gi u169698 25)).toInt) (Y := y169694d.toInt) rfl rfl c169701
                              refine lv_aload_n hx hb dX10_runs_215 rfl (lv_at hl 7 rfl) ?_
                              refine va_get (ci := 10) (v := .ref (A 15)) (C := RX10) (T := TX10) (N := 42) hx hb hts (fun w h => uc_in w (inX10 w h)) hown hK hH.1 0 (mwc0 C A u169698) rfl 27 (by decide) (hts _ (uc_in _ q_f1215)) (fun _ h9 => h9) rfl dX10_runs_216 ?_
                              refine lv_iload hx hb dX10_runs_219 (lv_at hl 0 rfl) ?_
                              refine va_iald hx hb hK hH.1 15 1 (mwc15 C A u169698) rfl (i_ix rfl (by omega) (by omega)) dX10_runs_221 ?_
                              refine p_any (fun z169737 => ?_)
                              refine lv_iload_n hx hb dX10_runs_222 rfl (lv_at hl 6 rfl) ?_
                              have j257_169748 : ∀ (ls : Array Slot) (y169744d : Int32) (y169745d : Int32) (y169746d : Int32), 0 ≤ y169745d.toInt → y169745d.toInt ≤ 1 → lv_has ls 9 [(7, .int y169694d), (2, .int y169744d), (6, .int y164322d), (5, .int y169486d), (4, .int y169745d), (3, .int y169746d), (1, .int y124505d), (0, .ref (A 0))] → W p l e (rmL 2 0 0) s m ar below meth c H locs 0 0 Q (F0 m 257 ls []) := by
                                intro ls y169744d y169745d y169746d ly169745d my169745d hl
                                obtain ⟨z169750, ez169750⟩ : ∃ z, z = y169694d + Int32.ofInt 1 := ⟨_, rfl⟩
                                have hz169750 : z169750.toInt = y169694d.toInt + 1 := by rw [ez169750]; exact tt_add rfl (by decide) (by omega) (by omega)
                                refine lv_iinc (v := z169750) (lv' := [(7, .int z169750), (2, .int y169744d), (6, .int y164322d), (5, .int y169486d), (4, .int y169745d), (3, .int y169746d), (1, .int y124505d), (0, .ref (A 0))]) hx hb dX10_runs_257 hl (k := 0) rfl ez169750.symm (by decide) rfl (fun ls hl => ?_)
                                refine lv_goto (tgt := 206) hx hb dX10_runs_260 (by decide) ?_
                                exact ih206_169698 ls z169750 y169744d y169745d y169746d u169698 _ _ (by have q9 := (show z169750.toInt = (y169694d.toInt + 1) from hz169750); omega) (by have q9 := (show z169750.toInt = (y169694d.toInt + 1) from hz169750); omega) (by omega) (by omega) (by have q9 := (show z169750.toInt = (y169694d.toInt + 1) from hz169750); omega) hUu169698 hI hH hl
                              refine lv_icmp_ne (tgt := 257) hx hb dX10_runs_223 (by decide) (fun c169738 => ?_) (fun c169738 => ?_)
                              · exact j257_169748 ls y169695d y169696d y169697d (by omega) (by omega) hl
                              · have c169738 := cEQ (x := z169737) (y := y124505d) (X := z169737.toInt) (Y := y124505d.toInt) rfl rfl c169738
                                refine lv_aload_n hx hb dX10_runs_226 rfl (lv_at hl 7 rfl) ?_
                                refine va_get (ci := 10) (v := .ref (A 14)) (C := RX10) (T := TX10) (N := 42) hx hb hts (fun w h => uc_in w (inX10 w h)) hown hK hH.1 0 (mwc0 C A u169698) rfl 26 (by decide) (hts _ (uc_in _ q_f1214)) (fun _ h9 => h9) rfl dX10_runs_227 ?_
                                refine lv_iload hx hb dX10_runs_230 (lv_at hl 0 rfl) ?_
                                refine va_iald hx hb hK hH.1 14 1 (mwc14 C A u169698) rfl (i_ix rfl (by omega) (by omega)) dX10_runs_232 ?_
                                refine p_any (fun z169751 => ?_)
                                refine lv_iload hx hb dX10_runs_233 (lv_at hl 2 rfl) ?_
                                refine lv_icmp_eq (tgt := 241) hx hb dX10_runs_235 (by decide) (fun c169752 => ?_) (fun c169752 => ?_)
                                · have c169752 := cEQ (x := z169751) (y := y164322d) (X := z169751.toInt) (Y := y164322d.toInt) rfl rfl c169752
                                  refine lv_iconst (v := 0) hx hb dX10_runs_241 (by decide) ?_
                                  refine lv_istore_n (lv' := [(2, .int 0), (7, .int y169694d), (6, .int y164322d), (5, .int y169486d), (4, .int y169696d), (3, .int y169697d), (1, .int y124505d), (0, .ref (A 0))]) hx hb dX10_runs_242 rfl hl (by decide) rfl (fun ls hl => ?_)
                                  refine lv_aload_n hx hb dX10_runs_243 rfl (lv_at hl 7 rfl) ?_
                                  refine va_get (ci := 10) (v := .ref (A 8)) (C := RX10) (T := TX10) (N := 42) hx hb hts (fun w h => uc_in w (inX10 w h)) hown hK hH.1 0 (mwc0 C A u169698) rfl 18 (by decide) (hts _ (uc_in _ q_f1206)) (fun _ h9 => h9) rfl dX10_runs_244 ?_
                                  refine lv_iconst (v := 5) hx hb dX10_runs_247 (by decide) ?_
                                  refine lv_iload_n hx hb dX10_runs_248 rfl (lv_at hl 6 rfl) ?_
                                  refine lv_imul hx hb dX10_runs_249 ?_
                                  refine p_nm (tt_mul (X := 5) (Y := y124505d.toInt) (by decide) rfl (by omega) (by omega)) (fun z169753 hz169753 => ?_)
                                  refine lv_iconst (v := 2) hx hb dX10_runs_250 (by decide) ?_
                                  refine lv_iadd hx hb dX10_runs_251 ?_
                                  refine p_nm (tt_add (X := (5 * y124505d.toInt)) (Y := 2) hz169753 (by decide) (by omega) (by omega)) (fun z169754 hz169754 => ?_)
                                  refine va_iald hx hb hK hH.1 8 1 (mwc8 C A u169698) rfl (i_ix hz169754 (by omega) (by omega)) dX10_runs_252 ?_
                                  refine p_any (fun z169755 => ?_)
                                  refine lv_istore_n (lv' := [(3, .int z169755), (2, .int 0), (7, .int y169694d), (6, .int y164322d), (5, .int y169486d), (4, .int y169696d), (1, .int y124505d), (0, .ref (A 0))]) hx hb dX10_runs_253 rfl hl (by decide) rfl (fun ls hl => ?_)
                                  refine lv_iconst (v := 1) hx hb dX10_runs_254 (by decide) ?_
                                  refine lv_istore (lv' := [(4, .int 1), (3, .int z169755), (2, .int 0), (7, .int y169694d), (6, .int y164322d), (5, .int y169486d), (1, .int y124505d), (0, .ref (A 0))]) hx hb dX10_runs_255 hl (by decide) rfl (fun ls hl => ?_)
                                  exact j257_169748 ls 0 1 z169755 (by decide) (by decide) (lv_sub hl [3, 2, 4, 5, 0, 1, 6, 7] rfl)
                                · refine lv_goto (tgt := 257) hx hb dX10_runs_238 (by decide) ?_
                                  exact j257_169748 ls y169695d y169696d y169697d (by omega) (by omega) hl
                        exact lp206_169698 4 ls 0 y169485d y169487d y169488d u169489 _ _ (by decide) (by decide) (by omega) (by omega) (by have q9 : (0 : Int32).toInt = 0 := (by decide); omega) Un.rf hI hH hl
                      · have c169492 := cNLE (x := (ga u169489 7 5)) (y := y169484d) (X := ((ga u169489 7 5)).toInt) (Y := y169484d.toInt) rfl rfl c169492
                        refine lv_aload_n hx hb dX10_runs_95 rfl (lv_at hl 7 rfl) ?_
                        refine va_get (ci := 10) (v := .ref (A 10)) (C := RX10) (T := TX10) (N := 42) hx hb hts (fun w h => uc_in w (inX10 w h)) hown hK hH.1 0 (mwc0 C A u169489) rfl 20 (by decide) (hts _ (uc_in _ q_f1208)) (fun _ h9 => h9) rfl dX10_runs_96 ?_
                        refine lv_iconst (v := 3) hx hb dX10_runs_99 (by decide) ?_
                        refine lv_iload hx hb dX10_runs_100 (lv_at hl 0 rfl) ?_
                        refine lv_imul hx hb dX10_runs_102 ?_
                        refine p_nm (tt_mul (X := 3) (Y := y169484d.toInt) (by decide) rfl (by omega) (by omega)) (fun z169756 hz169756 => ?_)
                        refine lv_iconst (v := 1) hx hb dX10_runs_103 (by decide) ?_
                        refine lv_iadd hx hb dX10_runs_104 ?_
                        refine p_nm (tt_add (X := (3 * y169484d.toInt)) (Y := 1) hz169756 (by decide) (by omega) (by omega)) (fun z169757 hz169757 => ?_)
                        refine va_iald hx hb hK hH.1 10 1 (mwc10 C A u169489) rfl (i_ix hz169757 (by omega) (by omega)) dX10_runs_105 ?_
                        refine p_any (fun z169758 => ?_)
                        refine lv_iload_n hx hb dX10_runs_106 rfl (lv_at hl 6 rfl) ?_
                        have j197_169785 : ∀ (ls : Array Slot) (y169780d : Int32) (y169781d : Int32) (y169782d : Int32) (y169783d : Int32), 0 ≤ y169781d.toInt → y169781d.toInt ≤ 1 → 0 ≤ y169782d.toInt → y169782d.toInt ≤ 1 → lv_has ls 9 [(7, .int y169484d), (2, .int y169780d), (6, .int y164322d), (5, .int y169781d), (4, .int y169782d), (3, .int y169783d), (1, .int y124505d), (0, .ref (A 0))] → W p l e (rmL 2 0 0) s m ar below meth c H locs 0 0 Q (F0 m 197 ls []) := by
                          intro ls y169780d y169781d y169782d y169783d ly169781d my169781d ly169782d my169782d hl
                          obtain ⟨z169787, ez169787⟩ : ∃ z, z = y169484d + Int32.ofInt 1 := ⟨_, rfl⟩
                          have hz169787 : z169787.toInt = y169484d.toInt + 1 := by rw [ez169787]; exact tt_add rfl (by decide) (by omega) (by omega)
                          refine lv_iinc (v := z169787) (lv' := [(7, .int z169787), (2, .int y169780d), (6, .int y164322d), (5, .int y169781d), (4, .int y169782d), (3, .int y169783d), (1, .int y124505d), (0, .ref (A 0))]) hx hb dX10_runs_197 hl (k := 0) rfl ez169787.symm (by decide) rfl (fun ls hl => ?_)
                          refine lv_goto (tgt := 84) hx hb dX10_runs_200 (by decide) ?_
                          exact ih84_169489 ls z169787 y169780d y169781d y169782d y169783d u169489 _ _ (by have q9 := (show z169787.toInt = (y169484d.toInt + 1) from hz169787); omega) (by have q9 := (show z169787.toInt = (y169484d.toInt + 1) from hz169787); omega) (by omega) (by omega) (by omega) (by omega) (by have q9 := (show z169787.toInt = (y169484d.toInt + 1) from hz169787); omega) hUu169489 hI hH hl
                        refine lv_icmp_ne (tgt := 197) hx hb dX10_runs_107 (by decide) (fun c169759 => ?_) (fun c169759 => ?_)
                        · exact j197_169785 ls y169485d y169486d y169487d y169488d (by omega) (by omega) (by omega) (by omega) hl
                        · have c169759 := cEQ (x := z169758) (y := y124505d) (X := z169758.toInt) (Y := y124505d.toInt) rfl rfl c169759
                          refine lv_aload_n hx hb dX10_runs_110 rfl (lv_at hl 7 rfl) ?_
                          refine va_get (ci := 10) (v := .ref (A 10)) (C := RX10) (T := TX10) (N := 42) hx hb hts (fun w h => uc_in w (inX10 w h)) hown hK hH.1 0 (mwc0 C A u169489) rfl 20 (by decide) (hts _ (uc_in _ q_f1208)) (fun _ h9 => h9) rfl dX10_runs_111 ?_
                          refine lv_iconst (v := 3) hx hb dX10_runs_114 (by decide) ?_
                          refine lv_iload hx hb dX10_runs_115 (lv_at hl 0 rfl) ?_
                          refine lv_imul hx hb dX10_runs_117 ?_
                          refine p_nm (tt_mul (X := 3) (Y := y169484d.toInt) (by decide) rfl (by omega) (by omega)) (fun z169788 hz169788 => ?_)
                          refine lv_iconst (v := 2) hx hb dX10_runs_118 (by decide) ?_
                          refine lv_iadd hx hb dX10_runs_119 ?_
                          refine p_nm (tt_add (X := (3 * y169484d.toInt)) (Y := 2) hz169788 (by decide) (by omega) (by omega)) (fun z169789 hz169789 => ?_)
                          refine va_iald hx hb hK hH.1 10 1 (mwc10 C A u169489) rfl (i_ix hz169789 (by omega) (by omega)) dX10_runs_120 ?_
                          refine p_any (fun z169790 => ?_)
                          refine lv_iload hx hb dX10_runs_121 (lv_at hl 2 rfl) ?_
                          refine lv_icmp_eq (tgt := 129) hx hb dX10_runs_123 (by decide) (fun c169791 => ?_) (fun c169791 => ?_)
                          · have c169791 := cEQ (x := z169790) (y := y164322d) (X := z169790.toInt) (Y := y164322d.toInt) rfl rfl c169791
                            refine lv_aload_n hx hb dX10_runs_129 rfl (lv_at hl 7 rfl) ?_
                            refine va_get (ci := 10) (v := .ref (A 10)) (C := RX10) (T := TX10) (N := 42) hx hb hts (fun w h => uc_in w (inX10 w h)) hown hK hH.1 0 (mwc0 C A u169489) rfl 20 (by decide) (hts _ (uc_in _ q_f1208)) (fun _ h9 => h9) rfl dX10_runs_130 ?_
                            refine lv_iconst (v := 3) hx hb dX10_runs_133 (by decide) ?_
                            refine lv_iload hx hb dX10_runs_134 (lv_at hl 0 rfl) ?_
                            refine lv_imul hx hb dX10_runs_136 ?_
                            refine p_nm (tt_mul (X := 3) (Y := y169484d.toInt) (by decide) rfl (by omega) (by omega)) (fun z169792 hz169792 => ?_)
                            refine va_iald hx hb hK hH.1 10 1 (mwc10 C A u169489) rfl (i_ix hz169792 (by omega) (by omega)) dX10_runs_137 ?_
                            refine p_any (fun z169793 => ?_)
                            refine lv_istore (lv' := [(8, .int z169793), (7, .int y169484d), (2, .int y169485d), (6, .int y164322d), (5, .int y169486d), (4, .int y169487d), (3, .int y169488d), (1, .int y124505d), (0, .ref (A 0))]) hx hb dX10_runs_138 hl (by decide) rfl (fun ls hl => ?_)
                            refine lv_iload hx hb dX10_runs_140 (lv_at hl 0 rfl) ?_
                            have j161_169808 : ∀ (ls : Array Slot) (y169798d : Int32) (y169799d : Int32) (y169800d : Int32), 0 ≤ y169799d.toInt → y169799d.toInt ≤ 1 → lv_has ls 9 [(8, .int z169793), (7, .int y169484d), (2, .int y169798d), (6, .int y164322d), (5, .int y169486d), (4, .int y169799d), (3, .int y169800d), (1, .int y124505d), (0, .ref (A 0))] → W p l e (rmL 2 0 0) s m ar below meth c H locs 0 0 Q (F0 m 161 ls []) := by
                              intro ls y169798d y169799d y169800d ly169799d my169799d hl
                              refine lv_iload hx hb dX10_runs_161 (lv_at hl 0 rfl) ?_
                              refine lv_iconst (v := 1) hx hb dX10_runs_163 (by decide) ?_
                              have j169_169817 : ∀ (ls : Array Slot) (y169811d : Int32), lv_has ls 9 [(8, .int z169793), (7, .int y169484d), (2, .int y169798d), (6, .int y164322d), (5, .int y169486d), (4, .int y169799d), (3, .int y169811d), (1, .int y124505d), (0, .ref (A 0))] → W p l e (rmL 2 0 0) s m ar below meth c H locs 0 0 Q (F0 m 169 ls []) := by
                                intro ls y169811d hl
                                refine lv_iload hx hb dX10_runs_169 (lv_at hl 0 rfl) ?_
                                refine lv_iconst (v := 2) hx hb dX10_runs_171 (by decide) ?_
                                have j178_169824 : ∀ (ls : Array Slot) (y169820d : Int32), 0 ≤ y169820d.toInt → y169820d.toInt ≤ 1 → lv_has ls 9 [(8, .int z169793), (7, .int y169484d), (2, .int y169798d), (6, .int y164322d), (5, .int y169486d), (4, .int y169820d), (3, .int y169811d), (1, .int y124505d), (0, .ref (A 0))] → W p l e (rmL 2 0 0) s m ar below meth c H locs 0 0 Q (F0 m 178 ls []) := by
                                  intro ls y169820d ly169820d my169820d hl
                                  refine lv_iload hx hb dX10_runs_178 (lv_at hl 0 rfl) ?_
                                  refine lv_iconst (v := 2) hx hb dX10_runs_180 (by decide) ?_
                                  refine lv_icmp_le (tgt := 197) hx hb dX10_runs_181 (by decide) (fun c169826 => ?_) (fun c169826 => ?_)
                                  · have c169826 := cLE (x := z169793) (y := 2) (X := z169793.toInt) (Y := 2) rfl (by decide) c169826
                                    exact j197_169785 ls y169798d y169486d y169820d y169811d (by omega) (by omega) (by omega) (by omega) (lv_sub hl [1, 2, 3, 4, 5, 6, 7, 8] rfl)
                                  · have c169826 := cNLE (x := z169793) (y := 2) (X := z169793.toInt) (Y := 2) rfl (by decide) c169826
                                    refine lv_iload hx hb dX10_runs_184 (lv_at hl 0 rfl) ?_
                                    refine lv_iconst (v := 3) hx hb dX10_runs_186 (by decide) ?_
                                    have j195_169829 : ∀ (ls : Array Slot) (y169828d : Int32), 0 ≤ y169828d.toInt → y169828d.toInt ≤ 1 → lv_has ls 9 [(7, .int y169484d), (2, .int y169798d), (6, .int y164322d), (4, .int y169820d), (3, .int y169811d), (1, .int y124505d), (0, .ref (A 0))] → W p l e (rmL 2 0 0) s m ar below meth c H locs 0 0 Q (F0 m 195 ls [.int y169828d]) := by
                                      intro ls y169828d ly169828d my169828d hl
                                      refine lv_istore (lv' := [(5, .int y169828d), (7, .int y169484d), (2, .int y169798d), (6, .int y164322d), (4, .int y169820d), (3, .int y169811d), (1, .int y124505d), (0, .ref (A 0))]) hx hb dX10_runs_195 hl (by decide) rfl (fun ls hl => ?_)
                                      exact j197_169785 ls y169798d y169828d y169820d y169811d (by omega) (by omega) (by omega) (by omega) (lv_sub hl [1, 2, 3, 0, 4, 5, 6, 7] rfl)
                                    refine lv_icmp_ne (tgt := 194) hx hb dX10_runs_187 (by decide) (fun c169827 => ?_) (fun c169827 => ?_)
                                    · have c169827 := cNE (x := z169793) (y := 3) (X := z169793.toInt) (Y := 3) rfl (by decide) c169827
                                      refine lv_iconst (v := 0) hx hb dX10_runs_194 (by decide) ?_
                                      exact j195_169829 ls 0 (by decide) (by decide) (lv_sub hl [1, 2, 3, 5, 6, 7, 8] rfl)
                                    · have c169827 := cEQ (x := z169793) (y := 3) (X := z169793.toInt) (Y := 3) rfl (by decide) c169827
                                      refine lv_iconst (v := 1) hx hb dX10_runs_190 (by decide) ?_
                                      refine lv_goto (tgt := 195) hx hb dX10_runs_191 (by decide) ?_
                                      exact j195_169829 ls 1 (by decide) (by decide) (lv_sub hl [1, 2, 3, 5, 6, 7, 8] rfl)
                                refine lv_icmp_ne (tgt := 178) hx hb dX10_runs_172 (by decide) (fun c169819 => ?_) (fun c169819 => ?_)
                                · exact j178_169824 ls y169799d (by omega) (by omega) hl
                                · have c169819 := cEQ (x := z169793) (y := 2) (X := z169793.toInt) (Y := 2) rfl (by decide) c169819
                                  refine lv_iconst (v := 0) hx hb dX10_runs_175 (by decide) ?_
                                  refine lv_istore (lv' := [(4, .int 0), (8, .int z169793), (7, .int y169484d), (2, .int y169798d), (6, .int y164322d), (5, .int y169486d), (3, .int y169811d), (1, .int y124505d), (0, .ref (A 0))]) hx hb dX10_runs_176 hl (by decide) rfl (fun ls hl => ?_)
                                  exact j178_169824 ls 0 (by decide) (by decide) (lv_sub hl [1, 2, 3, 4, 5, 0, 6, 7, 8] rfl)
                              refine lv_icmp_ne (tgt := 169) hx hb dX10_runs_164 (by decide) (fun c169810 => ?_) (fun c169810 => ?_)
                              · exact j169_169817 ls y169800d hl
                              · have c169810 := cEQ (x := z169793) (y := 1) (X := z169793.toInt) (Y := 1) rfl (by decide) c169810
                                refine lv_iconst (v := 0) hx hb dX10_runs_167 (by decide) ?_
                                refine lv_istore_n (lv' := [(3, .int 0), (8, .int z169793), (7, .int y169484d), (2, .int y169798d), (6, .int y164322d), (5, .int y169486d), (4, .int y169799d), (1, .int y124505d), (0, .ref (A 0))]) hx hb dX10_runs_168 rfl hl (by decide) rfl (fun ls hl => ?_)
                                exact j169_169817 ls 0 (lv_sub hl [1, 2, 3, 4, 5, 6, 0, 7, 8] rfl)
                            refine lv_if_ne (tgt := 161) hx hb dX10_runs_142 (by decide) (fun c169794 => ?_) (fun c169794 => ?_)
                            · exact j161_169808 ls y169485d y169487d y169488d (by omega) (by omega) hl
                            · have c169794 := cEQ (x := z169793) (y := 0) (X := z169793.toInt) (Y := 0) rfl (by decide) c169794
                              refine lv_iconst (v := 0) hx hb dX10_runs_145 (by decide) ?_
                              refine lv_istore_n (lv' := [(2, .int 0), (8, .int z169793), (7, .int y169484d), (6, .int y164322d), (5, .int y169486d), (4, .int y169487d), (3, .int y169488d), (1, .int y124505d), (0, .ref (A 0))]) hx hb dX10_runs_146 rfl hl (by decide) rfl (fun ls hl => ?_)
                              refine lv_aload_n hx hb dX10_runs_147 rfl (lv_at hl 8 rfl) ?_
                              refine va_get (ci := 10) (v := .ref (A 8)) (C := RX10) (T := TX10) (N := 42) hx hb hts (fun w h => uc_in w (inX10 w h)) hown hK hH.1 0 (mwc0 C A u169489) rfl 18 (by decide) (hts _ (uc_in _ q_f1206)) (fun _ h9 => h9) rfl dX10_runs_148 ?_
                              refine lv_iconst (v := 5) hx hb dX10_runs_151 (by decide) ?_
                              refine lv_iload_n hx hb dX10_runs_152 rfl (lv_at hl 7 rfl) ?_
                              refine lv_imul hx hb dX10_runs_153 ?_
                              refine p_nm (tt_mul (X := 5) (Y := y124505d.toInt) (by decide) rfl (by omega) (by omega)) (fun z169831 hz169831 => ?_)
                              refine lv_iconst (v := 2) hx hb dX10_runs_154 (by decide) ?_
                              refine lv_iadd hx hb dX10_runs_155 ?_
                              refine p_nm (tt_add (X := (5 * y124505d.toInt)) (Y := 2) hz169831 (by decide) (by omega) (by omega)) (fun z169832 hz169832 => ?_)
                              refine va_iald hx hb hK hH.1 8 1 (mwc8 C A u169489) rfl (i_ix hz169832 (by omega) (by omega)) dX10_runs_156 ?_
                              refine p_any (fun z169833 => ?_)
                              refine lv_istore_n (lv' := [(3, .int z169833), (2, .int 0), (8, .int z169793), (7, .int y169484d), (6, .int y164322d), (5, .int y169486d), (4, .int y169487d), (1, .int y124505d), (0, .ref (A 0))]) hx hb dX10_runs_157 rfl hl (by decide) rfl (fun ls hl => ?_)
                              refine lv_iconst (v := 1) hx hb dX10_runs_158 (by decide) ?_
                              refine lv_istore (lv' := [(4, .int 1), (3, .int z169833), (2, .int 0), (8, .int z169793), (7, .int y169484d), (6, .int y164322d), (5, .int y169486d), (1, .int y124505d), (0, .ref (A 0))]) hx hb dX10_runs_159 hl (by decide) rfl (fun ls hl => ?_)
                              exact j161_169808 ls 0 1 z169833 (by decide) (by decide) (lv_sub hl [3, 4, 2, 5, 6, 0, 1, 7, 8] rfl)
                          · refine lv_goto (tgt := 197) hx hb dX10_runs_126 (by decide) ?_
                            exact j197_169785 ls y169485d y169486d y169487d y169488d (by omega) (by omega) (by omega) (by omega) hl
                  exact lp84_169489 41 ls 0 z167045 y164323d y164324d y164325d u164327 _ _ (by decide) (by decide) (by omega) (by omega) (by omega) (by omega) (by have q9 : (0 : Int32).toInt = 0 := (by decide); omega) Un.rf hI hH hl
                refine lv_if_ne (tgt := 78) hx hb dX10_runs_71 (by decide) (fun c164334 => ?_) (fun c164334 => ?_)
                · have c164334 := cNE (x := y164322d) (y := 0) (X := y164322d.toInt) (Y := 0) rfl (by decide) c164334
                  refine lv_iload_n hx hb dX10_runs_78 rfl (lv_at hl 3 rfl) ?_
                  exact j79_167043 ls y164325d (lv_sub hl [0, 1, 2, 3, 5, 6] rfl)
                · have c164334 := cEQ (x := y164322d) (y := 0) (X := y164322d.toInt) (Y := 0) rfl (by decide) c164334
                  refine lv_iconst (v := 0) hx hb dX10_runs_74 (by decide) ?_
                  refine lv_goto (tgt := 79) hx hb dX10_runs_75 (by decide) ?_
                  exact j79_167043 ls 0 (lv_sub hl [0, 1, 2, 3, 5, 6] rfl)
          exact lp59_164327 8 ls 0 y124522d 1 z124517 z124514 u124506 _ _ (by decide) (by decide) (by omega) (by omega) (by decide) (by decide) (by have q9 : (0 : Int32).toInt = 0 := (by decide); omega) Un.rf hI hH hl
        refine lv_icmp_ne (tgt := 53) hx hb dX10_runs_46 (by decide) (fun c124521 => ?_) (fun c124521 => ?_)
        · refine lv_iconst (v := 0) hx hb dX10_runs_53 (by decide) ?_
          exact j54_145781 ls 0 (by decide) (by decide) hl
        · have c124521 := cEQ (x := z124520) (y := 1) (X := z124520.toInt) (Y := 1) rfl (by decide) c124521
          refine lv_iconst (v := 1) hx hb dX10_runs_49 (by decide) ?_
          refine lv_goto (tgt := 54) hx hb dX10_runs_50 (by decide) ?_
          exact j54_145781 ls 1 (by decide) (by decide) hl
  exact lp2_124506 7 ls 0 u _ _ (by decide) (by decide) (by have q9 : (0 : Int32).toInt = 0 := (by decide); omega) Un.rf hI hH hl
set_option maxHeartbeats 4000000 in
set_option maxRecDepth 100000 in
theorem kX10_lays_0 (l : Launch) (D : va_G) (C : Nat → ClassId) (A : Nat → Nat) (u : St) (hI : IM u) (sz : Nat) : MetV l yX10_lays cX10_lays 1 3 [.ref (A 0)] D (tyl C) (mw C A) X0 u sz (fun u' => IM u' ∧ Un [(24, 24), (25, 25)] [(12, 12), (13, 13)] [] u u' ∧ gi u' 25 = 0) := by
  refine mV (by decide) (Nat.le_of_ble_eq_true rfl) ?_
  intro p e s m below meth c ls ar Q hx hb hml hown hts hK hH hX hl hret
  have hown : s.vm.findClass RX10 = some m.cls := hown
  have hl : lv_has ls 1 [(0, .ref (A 0))] := hl
  refine lv_aload_n hx hb dX10_lays_0 rfl (lv_at hl 0 rfl) ?_
  refine lv_iconst (v := 0) hx hb dX10_lays_1 (by decide) ?_
  refine r_put (j := 24) (ci := 10) (C := RX10) (T := TX10) (N := 42) hx hb hts (fun w h => uc_in w (inX10 w h)) tyX10 tyX10_ok nmX10 hown hK hH 0 (mwc0 C A u) rfl 24 (by decide) (hts _ (uc_in _ q_f1212)) (fun _ h9 => h9) rfl (by decide +kernel) (Nat.le_of_ble_eq_true rfl) (mws24 C A u _) dX10_lays_2 (fun u1 eu1 H locs hH => ?_)
  have hI := hI.pi0 eu1 rfl
  refine lv_aload_n hx hb dX10_lays_5 rfl (lv_at hl 0 rfl) ?_
  refine lv_iconst (v := 0) hx hb dX10_lays_6 (by decide) ?_
  refine r_put (j := 25) (ci := 10) (C := RX10) (T := TX10) (N := 42) hx hb hts (fun w h => uc_in w (inX10 w h)) tyX10 tyX10_ok nmX10 hown hK hH 0 (mwc0 C A u1) rfl 25 (by decide) (hts _ (uc_in _ q_f1213)) (fun _ h9 => h9) rfl (by decide +kernel) (Nat.le_of_ble_eq_true rfl) (mws25 C A u1 _) dX10_lays_7 (fun u2 eu2 H locs hH => ?_)
  have hI := hI.s25 eu2 (X := 0) (by decide) (by decide) (by decide)
  refine lv_aload_n hx hb dX10_lays_10 rfl (lv_at hl 0 rfl) ?_
  refine cvU (n := 0) (As := []) (rest := []) ⟨hx, hb, hml, hown, hts⟩ uc_in (kX10_runs_0 l D C A u2 hI  _) q_m1485 q_n1487 q_p76 q_i11 q_c1488 hvX10_runs ⟨(Nat.le_of_ble_eq_true rfl), (Nat.le_of_ble_eq_true rfl)⟩ ⟨(Nat.le_of_ble_eq_true rfl), (Nat.le_of_ble_eq_true rfl)⟩ hK hH (fun q h => Or.inr h) Bl0 (fun _ _ _ => trivial) 10 0 rfl (mwc0 C A u2) rfl hl.1 rfl (Nat.le_of_ble_eq_true rfl) dX10_lays_11 (fun u3 H locs p5 hH => ?_)
  obtain ⟨hI, hUu3, p5⟩ := p5
  exact hret _ _ _ _ _ dX10_lays_14 ⟨hI, (Un.tr (Un.si (Un.si Un.rf rfl eu1) rfl eu2) hUu3 rfl rfl rfl), ((hUu3.1 25 rfl).trans (gi_si eu2))⟩ hH
set_option maxHeartbeats 4000000 in
set_option maxRecDepth 100000 in
theorem kX10_countsOf_0 (l : Launch) (D : va_G) (C : Nat → ClassId) (A : Nat → Nat) (u : St) (hI : IM u) (a0 : Int32) (A0 : Int) (ha0 : a0.toInt = A0) (hl0 : 0 ≤ A0) (hm0 : A0 ≤ 6) : Met l yX10_countsOf (uc yX10_countsOf cX10_countsOf 4 (some .int)) (rmL 2 0 0) (va_Pc [.ref (A 0), .int a0] (PreR D (tyl C) (mw C A u))) (vp_Si (fun r => 0 ≤ r.toInt ∧ r.toInt ≤ 63 ∧ CN r.toInt (ga u 7 3).toInt ∧ r = cntF u A0.toNat ((ga u 7 3).toInt).toNat)) 0 0 (fun _ => False) := by
  refine mS (by decide) (Nat.le_of_ble_eq_true rfl) ?_
  intro p e s m below meth c ls ar Q hx hb hml hown hts hK hP hl hret
  have hown : s.vm.findClass RX10 = some m.cls := hown
  have hl : lv_has ls 4 [(0, .ref (A 0)), (1, .int a0)] := hl
  refine lv_iconst (v := 0) hx hb dX10_countsOf_0 (by decide) ?_
  refine lv_istore_n (lv' := [(2, .int 0), (0, .ref (A 0)), (1, .int a0)]) hx hb dX10_countsOf_1 rfl hl (by decide) rfl (fun ls hl => ?_)
  refine lv_iconst (v := 0) hx hb dX10_countsOf_2 (by decide) ?_
  refine lv_istore_n (lv' := [(3, .int 0), (2, .int 0), (0, .ref (A 0)), (1, .int a0)]) hx hb dX10_countsOf_3 rfl hl (by decide) rfl (fun ls hl => ?_)
  have lp4_78 : ∀ (n4 : Nat) (ls : Array Slot) (y77d : Int32) (y78d : Int32), 0 ≤ y77d.toInt → y77d.toInt ≤ 6 → 0 ≤ y78d.toInt → y78d.toInt ≤ 63 → CN y78d.toInt y77d.toInt → y77d.toInt ≤ (ga u 7 3).toInt → y78d = cntF u A0.toNat (y77d.toInt).toNat → 6 - y77d.toInt < (n4 : Int) → lv_has ls 4 [(3, .int y77d), (2, .int y78d), (0, .ref (A 0)), (1, .int a0)] → W p l e (rmL 2 0 0) s m ar below meth c s.heap [] 0 0 Q (F0 m 4 ls []) := by
    intro n4
    induction n4 with
    | zero => intro ls y77d y78d ly77d my77d ly78d my78d x4_0 x4_1 x4_2 hmun4 hl; exfalso; omega
    | succ n4 ih4_78 =>
      intro ls y77d y78d ly77d my77d ly78d my78d x4_0 x4_1 x4_2 hmun4 hl
      refine lv_iload_n hx hb dX10_countsOf_4 rfl (lv_at hl 0 rfl) ?_
      refine lv_aload_n hx hb dX10_countsOf_5 rfl (lv_at hl 2 rfl) ?_
      refine cvS (n := 0) (As := []) (rest := [.int y77d]) ⟨hx, hb, hml, hown, hts⟩ uc_in (kX10_clocks_0 l D C A u hI ) q_m1464 q_n1466 q_p72 q_i11 q_c1467 hvX10_clocks ⟨(Nat.le_of_ble_eq_true rfl), (Nat.le_of_ble_eq_true rfl)⟩ ⟨(Nat.le_of_ble_eq_true rfl), (Nat.le_of_ble_eq_true rfl)⟩ hK hP 10 0 rfl (mwc0 C A u) rfl hl.1 rfl (Nat.le_of_ble_eq_true rfl) dX10_countsOf_6 (fun r80 p81 => ?_)
      subst p81
      have b82 : 0 ≤ ((ga u 7 3)).toInt ∧ ((ga u 7 3)).toInt ≤ 6 := hI.has 3
      refine lv_icmp_ge (tgt := 42) hx hb dX10_countsOf_9 (by decide) (fun c83 => ?_) (fun c83 => ?_)
      · have c83 := cLE (x := (ga u 7 3)) (y := y77d) (X := ((ga u 7 3)).toInt) (Y := y77d.toInt) rfl rfl c83
        refine lv_iload_n hx hb dX10_countsOf_42 rfl (lv_at hl 1 rfl) ?_
        exact hret _ _ y78d dX10_countsOf_43 rfl ⟨by omega, by omega, CN.mono x4_0 (by omega), (by have q8 : (ga u 7 3).toInt = y77d.toInt := (by omega); rw [q8]; exact x4_2)⟩
      · have c83 := cNLE (x := (ga u 7 3)) (y := y77d) (X := ((ga u 7 3)).toInt) (Y := y77d.toInt) rfl rfl c83
        refine lv_iload_n hx hb dX10_countsOf_12 rfl (lv_at hl 1 rfl) ?_
        refine lv_aload_n hx hb dX10_countsOf_13 rfl (lv_at hl 2 rfl) ?_
        refine va_get (ci := 10) (v := .ref (A 13)) (C := RX10) (T := TX10) (N := 42) hx hb hts (fun w h => uc_in w (inX10 w h)) hown hK hP 0 (mwc0 C A u) rfl 23 (by decide) (hts _ (uc_in _ q_f1211)) (fun _ h9 => h9) rfl dX10_countsOf_14 ?_
        refine lv_bipush (v := 6) hx hb dX10_countsOf_17 (by decide) ?_
        refine lv_iload_n hx hb dX10_countsOf_19 rfl (lv_at hl 3 rfl) ?_
        refine lv_imul hx hb dX10_countsOf_20 ?_
        refine p_nm (tt_mul (X := 6) (Y := A0) (by decide) ha0 (by omega) (by omega)) (fun z84 hz84 => ?_)
        refine lv_iload_n hx hb dX10_countsOf_21 rfl (lv_at hl 0 rfl) ?_
        refine lv_iadd hx hb dX10_countsOf_22 ?_
        refine p_nm (tt_add (X := (6 * A0)) (Y := y77d.toInt) hz84 rfl (by omega) (by omega)) (fun z85 hz85 => ?_)
        refine va_zald hx hb hK hP 13 3 (mwc13 C A u) rfl (i_ix hz85 (by omega) (by omega)) dX10_countsOf_23 ?_
        refine pv_i (v := (ga u 13 (Int32.toNatClampNeg z85))) rfl ?_
        refine lv_if_eq (tgt := 33) hx hb dX10_countsOf_24 (by decide) (fun c86 => ?_) (fun c86 => ?_)
        · have c86 := cEQ (x := (ga u 13 (Int32.toNatClampNeg z85))) (y := 0) (X := ((ga u 13 (Int32.toNatClampNeg z85))).toInt) (Y := 0) rfl (by decide) c86
          refine lv_iconst (v := 0) hx hb dX10_countsOf_33 (by decide) ?_
          refine lv_ior hx hb dX10_countsOf_34 ?_
          refine lv_topi (fun z87 ez87 => ?_)
          have gz87 := tt_or (x := y78d) (y := 0) (X := y78d.toInt) (Y := 0) rfl (by decide) 6 (by decide) (by omega) (by omega) (by omega) (by omega)
          rw [← ez87] at gz87
          refine lv_istore_n (lv' := [(2, .int z87), (3, .int y77d), (0, .ref (A 0)), (1, .int a0)]) hx hb dX10_countsOf_35 rfl hl (by decide) rfl (fun ls hl => ?_)
          obtain ⟨z88, ez88⟩ : ∃ z, z = y77d + Int32.ofInt 1 := ⟨_, rfl⟩
          have hz88 : z88.toInt = y77d.toInt + 1 := by rw [ez88]; exact tt_add rfl (by decide) (by omega) (by omega)
          refine lv_iinc (v := z88) (lv' := [(3, .int z88), (2, .int z87), (0, .ref (A 0)), (1, .int a0)]) hx hb dX10_countsOf_36 hl (k := 1) rfl ez88.symm (by decide) rfl (fun ls hl => ?_)
          refine lv_goto (tgt := 4) hx hb dX10_countsOf_39 (by decide) ?_
          exact ih4_78 ls z88 z87 (by have q9 := (show z88.toInt = (y77d.toInt + 1) from hz88); omega) (by have q9 := (show z88.toInt = (y77d.toInt + 1) from hz88); omega) (by omega) (by omega) (by have q8 := (show (z88 : Int32).toInt = (y77d.toInt + 1) from hz88); rw [q8, ez87]; exact CN.or0 rfl (by omega) x4_0) (by have q7 : 0 ≤ (ga u 7 3).toInt := (hI.has 3).1; have r3 := (show (z88 : Int32).toInt = (y77d.toInt + 1) from hz88); omega) (by have q8 := (show (z88 : Int32).toInt = (y77d.toInt + 1) from hz88); rw [q8, ez87]; exact cnt_0 x4_2 hz85 (by omega) (by omega) (by omega) (by assumption)) (by have q9 := (show z88.toInt = (y77d.toInt + 1) from hz88); omega) hl
        · have c86 := cNE (x := (ga u 13 (Int32.toNatClampNeg z85))) (y := 0) (X := ((ga u 13 (Int32.toNatClampNeg z85))).toInt) (Y := 0) rfl (by decide) c86
          refine lv_iconst (v := 1) hx hb dX10_countsOf_27 (by decide) ?_
          refine lv_iload_n hx hb dX10_countsOf_28 rfl (lv_at hl 0 rfl) ?_
          refine lv_ishl hx hb dX10_countsOf_29 ?_
          refine lv_topi (fun z89 ez89 => ?_)
          have gz89 := tt_shl1 (y := y77d) (Y := y77d.toInt) rfl (by omega) (by omega)
          rw [← ez89] at gz89
          refine lv_goto (tgt := 34) hx hb dX10_countsOf_30 (by decide) ?_
          refine lv_ior hx hb dX10_countsOf_34 ?_
          refine lv_topi (fun z90 ez90 => ?_)
          have gz90 := tt_or (x := y78d) (y := z89) (X := y78d.toInt) (Y := z89.toInt) rfl rfl 6 (by decide) (by omega) (by omega) (by omega) (by omega)
          rw [← ez90] at gz90
          refine lv_istore_n (lv' := [(2, .int z90), (3, .int y77d), (0, .ref (A 0)), (1, .int a0)]) hx hb dX10_countsOf_35 rfl hl (by decide) rfl (fun ls hl => ?_)
          obtain ⟨z91, ez91⟩ : ∃ z, z = y77d + Int32.ofInt 1 := ⟨_, rfl⟩
          have hz91 : z91.toInt = y77d.toInt + 1 := by rw [ez91]; exact tt_add rfl (by decide) (by omega) (by omega)
          refine lv_iinc (v := z91) (lv' := [(3, .int z91), (2, .int z90), (0, .ref (A 0)), (1, .int a0)]) hx hb dX10_countsOf_36 hl (k := 1) rfl ez91.symm (by decide) rfl (fun ls hl => ?_)
          refine lv_goto (tgt := 4) hx hb dX10_countsOf_39 (by decide) ?_
          exact ih4_78 ls z91 z90 (by have q9 := (show z91.toInt = (y77d.toInt + 1) from hz91); omega) (by have q9 := (show z91.toInt = (y77d.toInt + 1) from hz91); omega) (by omega) (by omega) (by have q8 := (show (z91 : Int32).toInt = (y77d.toInt + 1) from hz91); rw [q8, ez90, ez89]; exact CN.or rfl rfl (by omega) (by omega) (by omega) (by omega) x4_0) (by have q7 : 0 ≤ (ga u 7 3).toInt := (hI.has 3).1; have r3 := (show (z91 : Int32).toInt = (y77d.toInt + 1) from hz91); omega) (by have q8 := (show (z91 : Int32).toInt = (y77d.toInt + 1) from hz91); rw [q8, ez90, ez89]; exact cnt_1 x4_2 hz85 (by omega) (by omega) rfl (by omega) (by assumption)) (by have q9 := (show z91.toInt = (y77d.toInt + 1) from hz91); omega) hl
  exact lp4_78 7 ls 0 0 (by decide) (by decide) (by decide) (by decide) CN.z (by have q7 : 0 ≤ (ga u 7 3).toInt := (hI.has 3).1; have r3 := (show (0 : Int32).toInt = 0 from (by decide)); omega) (by have q8 : (0 : Int32).toInt = 0 := (by decide); rw [q8]; rfl) (by have q9 : (0 : Int32).toInt = 0 := (by decide); omega) hl
set_option maxHeartbeats 4000000 in
set_option maxRecDepth 100000 in
theorem kX10_lastOf_0 (l : Launch) (D : va_G) (C : Nat → ClassId) (A : Nat → Nat) (u : St) (hI : IM u) (a0 : Int32) (A0 : Int) (ha0 : a0.toInt = A0) (a1 : Int32) (A1 : Int) (ha1 : a1.toInt = A1) (hl0 : 0 ≤ A0) (hm0 : A0 ≤ 6) : Met l yX10_lastOf (uc yX10_lastOf cX10_lastOf 5 (some .int)) (rmL 2 0 0) (va_Pc [.ref (A 0), .int a0, .int a1] (PreR D (tyl C) (mw C A u))) (vp_Si (fun r => -1 ≤ r.toInt ∧ r.toInt ≤ 5 ∧ NB a1 r.toInt (ga u 7 3).toInt)) 0 0 (fun _ => False) := by
  refine mS (by decide) (Nat.le_of_ble_eq_true rfl) ?_
  intro p e s m below meth c ls ar Q hx hb hml hown hts hK hP hl hret
  have hown : s.vm.findClass RX10 = some m.cls := hown
  have hl : lv_has ls 5 [(0, .ref (A 0)), (1, .int a0), (2, .int a1)] := hl
  refine lv_iconst (v := (-1)) hx hb dX10_lastOf_0 (by decide) ?_
  refine lv_istore_n (lv' := [(3, .int (-1)), (0, .ref (A 0)), (1, .int a0), (2, .int a1)]) hx hb dX10_lastOf_1 rfl hl (by decide) rfl (fun ls hl => ?_)
  refine lv_iconst (v := 0) hx hb dX10_lastOf_2 (by decide) ?_
  refine lv_istore (lv' := [(4, .int 0), (3, .int (-1)), (0, .ref (A 0)), (1, .int a0), (2, .int a1)]) hx hb dX10_lastOf_3 hl (by decide) rfl (fun ls hl => ?_)
  have lp5_110 : ∀ (n5 : Nat) (ls : Array Slot) (y109d : Int32) (y110d : Int32), 0 ≤ y109d.toInt → y109d.toInt ≤ 6 → (-1) ≤ y110d.toInt → y110d.toInt ≤ 5 → NB a1 y110d.toInt y109d.toInt → 6 - y109d.toInt < (n5 : Int) → lv_has ls 5 [(4, .int y109d), (3, .int y110d), (0, .ref (A 0)), (1, .int a0), (2, .int a1)] → W p l e (rmL 2 0 0) s m ar below meth c s.heap [] 0 0 Q (F0 m 5 ls []) := by
    intro n5
    induction n5 with
    | zero => intro ls y109d y110d ly109d my109d ly110d my110d x5_0 hmun5 hl; exfalso; omega
    | succ n5 ih5_110 =>
      intro ls y109d y110d ly109d my109d ly110d my110d x5_0 hmun5 hl
      refine lv_iload hx hb dX10_lastOf_5 (lv_at hl 0 rfl) ?_
      refine lv_aload_n hx hb dX10_lastOf_7 rfl (lv_at hl 2 rfl) ?_
      refine cvS (n := 0) (As := []) (rest := [.int y109d]) ⟨hx, hb, hml, hown, hts⟩ uc_in (kX10_clocks_0 l D C A u hI ) q_m1464 q_n1466 q_p72 q_i11 q_c1467 hvX10_clocks ⟨(Nat.le_of_ble_eq_true rfl), (Nat.le_of_ble_eq_true rfl)⟩ ⟨(Nat.le_of_ble_eq_true rfl), (Nat.le_of_ble_eq_true rfl)⟩ hK hP 10 0 rfl (mwc0 C A u) rfl hl.1 rfl (Nat.le_of_ble_eq_true rfl) dX10_lastOf_8 (fun r112 p113 => ?_)
      subst p113
      have b114 : 0 ≤ ((ga u 7 3)).toInt ∧ ((ga u 7 3)).toInt ≤ 6 := hI.has 3
      refine lv_icmp_ge (tgt := 63) hx hb dX10_lastOf_11 (by decide) (fun c115 => ?_) (fun c115 => ?_)
      · have c115 := cLE (x := (ga u 7 3)) (y := y109d) (X := ((ga u 7 3)).toInt) (Y := y109d.toInt) rfl rfl c115
        refine lv_iload_n hx hb dX10_lastOf_63 rfl (lv_at hl 1 rfl) ?_
        exact hret _ _ y110d dX10_lastOf_64 rfl ⟨by omega, by omega, NB.mono x5_0 (by omega)⟩
      · have c115 := cNLE (x := (ga u 7 3)) (y := y109d) (X := ((ga u 7 3)).toInt) (Y := y109d.toInt) rfl rfl c115
        refine lv_iload_n hx hb dX10_lastOf_14 rfl (lv_at hl 4 rfl) ?_
        refine lv_iload hx hb dX10_lastOf_15 (lv_at hl 0 rfl) ?_
        refine csS (n := 2) (As := [.int a1, .int y109d]) (rest := []) ⟨hx, hb, hml, hown, hts⟩ uc_in (kX10_isBit_0 l D C A u hI a1 A1 ha1 y109d y109d.toInt rfl) q_m1489 q_s1490 q_i11 q_c1491 hvX10_isBit ⟨(Nat.le_of_ble_eq_true rfl), (Nat.le_of_ble_eq_true rfl)⟩ ⟨(Nat.le_of_ble_eq_true rfl), (Nat.le_of_ble_eq_true rfl)⟩ hK hP rfl hl.1 rfl (Nat.le_of_ble_eq_true rfl) dX10_lastOf_17 (fun r116 p117 => ?_)
        rcases p117 with ⟨e9, -⟩ | ⟨e9, f118⟩
        · subst e9
          refine lv_if_eq (tgt := 57) hx hb dX10_lastOf_20 (by decide) (fun c119 => absurd c119 (by decide)) (fun c119 => ?_)
          refine lv_iload_n hx hb dX10_lastOf_23 rfl (lv_at hl 1 rfl) ?_
          refine lv_iconst (v := (-1)) hx hb dX10_lastOf_24 (by decide) ?_
          have j54_130 : ∀ (ls : Array Slot), lv_has ls 5 [(4, .int y109d), (0, .ref (A 0)), (1, .int a0), (2, .int a1)] → W p l e (rmL 2 0 0) s m ar below meth c s.heap [] 0 0 Q (F0 m 54 ls []) := by
            intro ls hl
            refine lv_iload hx hb dX10_lastOf_54 (lv_at hl 0 rfl) ?_
            refine lv_istore_n (lv' := [(3, .int y109d), (4, .int y109d), (0, .ref (A 0)), (1, .int a0), (2, .int a1)]) hx hb dX10_lastOf_56 rfl hl (by decide) rfl (fun ls hl => ?_)
            obtain ⟨z132, ez132⟩ : ∃ z, z = y109d + Int32.ofInt 1 := ⟨_, rfl⟩
            have hz132 : z132.toInt = y109d.toInt + 1 := by rw [ez132]; exact tt_add rfl (by decide) (by omega) (by omega)
            refine lv_iinc (v := z132) (lv' := [(4, .int z132), (3, .int y109d), (0, .ref (A 0)), (1, .int a0), (2, .int a1)]) hx hb dX10_lastOf_57 hl (k := 1) rfl ez132.symm (by decide) rfl (fun ls hl => ?_)
            refine lv_goto (tgt := 5) hx hb dX10_lastOf_60 (by decide) ?_
            exact ih5_110 ls z132 y109d (by have q9 := (show z132.toInt = (y109d.toInt + 1) from hz132); omega) (by have q9 := (show z132.toInt = (y109d.toInt + 1) from hz132); omega) (by omega) (by omega) (Or.inl (by have r3 := (show (y109d : Int32).toInt = y109d.toInt from rfl); omega)) (by have q9 := (show z132.toInt = (y109d.toInt + 1) from hz132); omega) hl
          refine lv_icmp_eq (tgt := 54) hx hb dX10_lastOf_25 (by decide) (fun c120 => ?_) (fun c120 => ?_)
          · have c120 := cEQ (x := y110d) (y := (-1)) (X := y110d.toInt) (Y := (-1)) rfl (by decide) c120
            exact j54_130 ls (lv_sub hl [0, 2, 3, 4] rfl)
          · have c120 := cNE (x := y110d) (y := (-1)) (X := y110d.toInt) (Y := (-1)) rfl (by decide) c120
            refine lv_aload_n hx hb dX10_lastOf_28 rfl (lv_at hl 2 rfl) ?_
            refine va_get (ci := 10) (v := .ref (A 12)) (C := RX10) (T := TX10) (N := 42) hx hb hts (fun w h => uc_in w (inX10 w h)) hown hK hP 0 (mwc0 C A u) rfl 22 (by decide) (hts _ (uc_in _ q_f1210)) (fun _ h9 => h9) rfl dX10_lastOf_29 ?_
            refine lv_bipush (v := 6) hx hb dX10_lastOf_32 (by decide) ?_
            refine lv_iload_n hx hb dX10_lastOf_34 rfl (lv_at hl 3 rfl) ?_
            refine lv_imul hx hb dX10_lastOf_35 ?_
            refine p_nm (tt_mul (X := 6) (Y := A0) (by decide) ha0 (by omega) (by omega)) (fun z133 hz133 => ?_)
            refine lv_iload hx hb dX10_lastOf_36 (lv_at hl 0 rfl) ?_
            refine lv_iadd hx hb dX10_lastOf_38 ?_
            refine p_nm (tt_add (X := (6 * A0)) (Y := y109d.toInt) hz133 rfl (by omega) (by omega)) (fun z134 hz134 => ?_)
            refine va_iald hx hb hK hP 12 1 (mwc12 C A u) rfl (i_ix hz134 (by omega) (by omega)) dX10_lastOf_39 ?_
            refine p_any (fun z135 => ?_)
            refine lv_aload_n hx hb dX10_lastOf_40 rfl (lv_at hl 2 rfl) ?_
            refine va_get (ci := 10) (v := .ref (A 12)) (C := RX10) (T := TX10) (N := 42) hx hb hts (fun w h => uc_in w (inX10 w h)) hown hK hP 0 (mwc0 C A u) rfl 22 (by decide) (hts _ (uc_in _ q_f1210)) (fun _ h9 => h9) rfl dX10_lastOf_41 ?_
            refine lv_bipush (v := 6) hx hb dX10_lastOf_44 (by decide) ?_
            refine lv_iload_n hx hb dX10_lastOf_46 rfl (lv_at hl 3 rfl) ?_
            refine lv_imul hx hb dX10_lastOf_47 ?_
            refine p_nm (tt_mul (X := 6) (Y := A0) (by decide) ha0 (by omega) (by omega)) (fun z136 hz136 => ?_)
            refine lv_iload_n hx hb dX10_lastOf_48 rfl (lv_at hl 1 rfl) ?_
            refine lv_iadd hx hb dX10_lastOf_49 ?_
            refine p_nm (tt_add (X := (6 * A0)) (Y := y110d.toInt) hz136 rfl (by omega) (by omega)) (fun z137 hz137 => ?_)
            refine va_iald hx hb hK hP 12 1 (mwc12 C A u) rfl (i_ix hz137 (by omega) (by omega)) dX10_lastOf_50 ?_
            refine p_any (fun z138 => ?_)
            refine lv_icmp_le (tgt := 57) hx hb dX10_lastOf_51 (by decide) (fun c139 => ?_) (fun c139 => ?_)
            · have c139 := cLE (x := z135) (y := z138) (X := z135.toInt) (Y := z138.toInt) rfl rfl c139
              obtain ⟨z140, ez140⟩ : ∃ z, z = y109d + Int32.ofInt 1 := ⟨_, rfl⟩
              have hz140 : z140.toInt = y109d.toInt + 1 := by rw [ez140]; exact tt_add rfl (by decide) (by omega) (by omega)
              refine lv_iinc (v := z140) (lv' := [(4, .int z140), (3, .int y110d), (0, .ref (A 0)), (1, .int a0), (2, .int a1)]) hx hb dX10_lastOf_57 hl (k := 0) rfl ez140.symm (by decide) rfl (fun ls hl => ?_)
              refine lv_goto (tgt := 5) hx hb dX10_lastOf_60 (by decide) ?_
              exact ih5_110 ls z140 y110d (by have q9 := (show z140.toInt = (y109d.toInt + 1) from hz140); omega) (by have q9 := (show z140.toInt = (y109d.toInt + 1) from hz140); omega) (by omega) (by omega) (Or.inl (by have r3 := (show (y110d : Int32).toInt = y110d.toInt from rfl); omega)) (by have q9 := (show z140.toInt = (y109d.toInt + 1) from hz140); omega) hl
            · have c139 := cNLE (x := z135) (y := z138) (X := z135.toInt) (Y := z138.toInt) rfl rfl c139
              exact j54_130 ls (lv_sub hl [0, 2, 3, 4] rfl)
        · subst e9
          refine lv_if_eq (tgt := 57) hx hb dX10_lastOf_20 (by decide) (fun c141 => ?_) (fun c141 => absurd c141 (by decide))
          obtain ⟨z142, ez142⟩ : ∃ z, z = y109d + Int32.ofInt 1 := ⟨_, rfl⟩
          have hz142 : z142.toInt = y109d.toInt + 1 := by rw [ez142]; exact tt_add rfl (by decide) (by omega) (by omega)
          refine lv_iinc (v := z142) (lv' := [(4, .int z142), (3, .int y110d), (0, .ref (A 0)), (1, .int a0), (2, .int a1)]) hx hb dX10_lastOf_57 hl (k := 0) rfl ez142.symm (by decide) rfl (fun ls hl => ?_)
          refine lv_goto (tgt := 5) hx hb dX10_lastOf_60 (by decide) ?_
          exact ih5_110 ls z142 y110d (by have q9 := (show z142.toInt = (y109d.toInt + 1) from hz142); omega) (by have q9 := (show z142.toInt = (y109d.toInt + 1) from hz142); omega) (by omega) (by omega) (by have q8 := (show (z142 : Int32).toInt = (y109d.toInt + 1) from hz142); rw [q8]; exact NB.add x5_0 rfl (by omega) f118) (by have q9 := (show z142.toInt = (y109d.toInt + 1) from hz142); omega) hl
  exact lp5_110 7 ls 0 (-1) (by decide) (by decide) (by decide) (by decide) (Or.inr (fun k hk => absurd hk (by have r4 := (show (0 : Int32).toInt = 0 from (by decide)); omega))) (by have q9 : (0 : Int32).toInt = 0 := (by decide); omega) hl
set_option maxHeartbeats 4000000 in
set_option maxRecDepth 100000 in
theorem kX10_noonOf_0 (l : Launch) (D : va_G) (C : Nat → ClassId) (A : Nat → Nat) (u : St) (hI : IM u) (a0 : Int32) (A0 : Int) (ha0 : a0.toInt = A0) (a1 : Int32) (A1 : Int) (ha1 : a1.toInt = A1) (hl0 : 0 ≤ A0) (hm0 : A0 ≤ 6) : Met l yX10_noonOf (uc yX10_noonOf cX10_noonOf 4 (some .int)) (rmL 3 0 0) (va_Pc [.ref (A 0), .int a0, .int a1] (PreR D (tyl C) (mw C A u))) (vp_Si (fun r => True)) 0 0 (fun _ => False) := by
  refine mS (by decide) (Nat.le_of_ble_eq_true rfl) ?_
  intro p e s m below meth c ls ar Q hx hb hml hown hts hK hP hl hret
  have hown : s.vm.findClass RX10 = some m.cls := hown
  have hl : lv_has ls 4 [(0, .ref (A 0)), (1, .int a0), (2, .int a1)] := hl
  refine lv_aload_n hx hb dX10_noonOf_0 rfl (lv_at hl 0 rfl) ?_
  refine lv_iload_n hx hb dX10_noonOf_1 rfl (lv_at hl 1 rfl) ?_
  refine lv_iload_n hx hb dX10_noonOf_2 rfl (lv_at hl 2 rfl) ?_
  refine cvS (n := 2) (As := [.int a0, .int a1]) (rest := []) ⟨hx, hb, hml, hown, hts⟩ uc_in (kX10_lastOf_0 l D C A u hI a0 A0 ha0 a1 A1 ha1 (by omega) (by omega)) q_m1508 q_n1510 q_p80 q_i11 q_c1511 hvX10_lastOf ⟨(Nat.le_of_ble_eq_true rfl), (Nat.le_of_ble_eq_true rfl)⟩ ⟨(Nat.le_of_ble_eq_true rfl), (Nat.le_of_ble_eq_true rfl)⟩ hK hP 10 0 rfl (mwc0 C A u) rfl hl.1 rfl (Nat.le_of_ble_eq_true rfl) dX10_noonOf_3 (fun r1 p2 => ?_)
  have br1 : -1 ≤ r1.toInt ∧ r1.toInt ≤ 5 := ⟨p2.1, p2.2.1⟩
  refine lv_istore_n (lv' := [(3, .int r1), (0, .ref (A 0)), (1, .int a0), (2, .int a1)]) hx hb dX10_noonOf_6 rfl hl (by decide) rfl (fun ls hl => ?_)
  refine lv_iload_n hx hb dX10_noonOf_7 rfl (lv_at hl 0 rfl) ?_
  refine lv_iconst (v := (-1)) hx hb dX10_noonOf_8 (by decide) ?_
  refine lv_icmp_ne (tgt := 16) hx hb dX10_noonOf_9 (by decide) (fun c3 => ?_) (fun c3 => ?_)
  · have c3 := cNE (x := r1) (y := (-1)) (X := r1.toInt) (Y := (-1)) rfl (by decide) c3
    refine lv_aload_n hx hb dX10_noonOf_16 rfl (lv_at hl 1 rfl) ?_
    refine va_get (ci := 10) (v := .ref (A 12)) (C := RX10) (T := TX10) (N := 42) hx hb hts (fun w h => uc_in w (inX10 w h)) hown hK hP 0 (mwc0 C A u) rfl 22 (by decide) (hts _ (uc_in _ q_f1210)) (fun _ h9 => h9) rfl dX10_noonOf_17 ?_
    refine lv_bipush (v := 6) hx hb dX10_noonOf_20 (by decide) ?_
    refine lv_iload_n hx hb dX10_noonOf_22 rfl (lv_at hl 2 rfl) ?_
    refine lv_imul hx hb dX10_noonOf_23 ?_
    refine p_nm (tt_mul (X := 6) (Y := A0) (by decide) ha0 (by omega) (by omega)) (fun z4 hz4 => ?_)
    refine lv_iload_n hx hb dX10_noonOf_24 rfl (lv_at hl 0 rfl) ?_
    refine lv_iadd hx hb dX10_noonOf_25 ?_
    refine p_nm (tt_add (X := (6 * A0)) (Y := r1.toInt) hz4 rfl (by omega) (by omega)) (fun z5 hz5 => ?_)
    refine va_iald hx hb hK hP 12 1 (mwc12 C A u) rfl (i_ix hz5 (by omega) (by omega)) dX10_noonOf_26 ?_
    refine p_any (fun z6 => ?_)
    exact hret _ _ z6 dX10_noonOf_27 rfl trivial
  · have c3 := cEQ (x := r1) (y := (-1)) (X := r1.toInt) (Y := (-1)) rfl (by decide) c3
    refine lv_iconst (v := 0) hx hb dX10_noonOf_12 (by decide) ?_
    refine lv_goto (tgt := 27) hx hb dX10_noonOf_13 (by decide) ?_
    exact hret _ _ (0 : Int32) dX10_noonOf_27 rfl trivial
set_option maxHeartbeats 4000000 in
set_option maxRecDepth 100000 in
theorem kX10_noonOf__0 (l : Launch) (D : va_G) (C : Nat → ClassId) (A : Nat → Nat) (u : St) (hI : IM u) (a0 : Int32) (A0 : Int) (ha0 : a0.toInt = A0) (hl0 : 0 ≤ A0) (hm0 : A0 ≤ 6) : Met l yX10_noonOf_ (uc yX10_noonOf_ cX10_noonOf_ 2 (some .int)) (rmL 4 0 0) (va_Pc [.ref (A 0), .int a0] (PreR D (tyl C) (mw C A u))) (vp_Si (fun r => True)) 0 0 (fun _ => False) := by
  refine mS (by decide) (Nat.le_of_ble_eq_true rfl) ?_
  intro p e s m below meth c ls ar Q hx hb hml hown hts hK hP hl hret
  have hown : s.vm.findClass RX10 = some m.cls := hown
  have hl : lv_has ls 2 [(0, .ref (A 0)), (1, .int a0)] := hl
  refine lv_aload_n hx hb dX10_noonOf__0 rfl (lv_at hl 0 rfl) ?_
  refine lv_iload_n hx hb dX10_noonOf__1 rfl (lv_at hl 1 rfl) ?_
  refine lv_aload_n hx hb dX10_noonOf__2 rfl (lv_at hl 0 rfl) ?_
  refine lv_iload_n hx hb dX10_noonOf__3 rfl (lv_at hl 1 rfl) ?_
  refine cvS (n := 1) (As := [.int a0]) (rest := [.int a0, .ref (A 0)]) ⟨hx, hb, hml, hown, hts⟩ uc_in (kX10_countsOf_0 l D C A u hI a0 A0 ha0 (by omega) (by omega)) q_m1500 q_n1502 q_p78 q_i11 q_c1503 hvX10_countsOf ⟨(Nat.le_of_ble_eq_true rfl), (Nat.le_of_ble_eq_true rfl)⟩ ⟨(Nat.le_of_ble_eq_true rfl), (Nat.le_of_ble_eq_true rfl)⟩ hK hP 10 0 rfl (mwc0 C A u) rfl hl.1 rfl (Nat.le_of_ble_eq_true rfl) dX10_noonOf__4 (fun r1 p2 => ?_)
  have g3 : (ga u 7 3).toInt ≤ 6 := (hI.has 3).2
  have br1 : 0 ≤ r1.toInt ∧ r1.toInt ≤ 63 := ⟨p2.1, p2.2.1⟩
  refine cvS (n := 2) (As := [.int a0, .int r1]) (rest := []) ⟨hx, hb, hml, hown, hts⟩ uc_in (kX10_noonOf_0 l D C A u hI a0 A0 ha0 r1 r1.toInt rfl (by omega) (by omega)) q_m1504 q_n1506 q_p79 q_i11 q_c1507 hvX10_noonOf ⟨(Nat.le_of_ble_eq_true rfl), (Nat.le_of_ble_eq_true rfl)⟩ ⟨(Nat.le_of_ble_eq_true rfl), (Nat.le_of_ble_eq_true rfl)⟩ hK hP 10 0 rfl (mwc0 C A u) rfl hl.1 rfl (Nat.le_of_ble_eq_true rfl) dX10_noonOf__7 (fun r4 p5 => ?_)
  exact hret _ _ r4 dX10_noonOf__10 rfl trivial
set_option maxHeartbeats 4000000 in
set_option maxRecDepth 100000 in
theorem kX10_alarm_0 (l : Launch) (D : va_G) (C : Nat → ClassId) (A : Nat → Nat) (u : St) (hI : IM u) (a0 : Int32) (A0 : Int) (ha0 : a0.toInt = A0) (sz : Nat) : MetI l yX10_alarm cX10_alarm 3 (some .int) 5 [.ref (A 0), .int a0] D (tyl C) (mw C A) X0 u sz (fun r u' => IM u' ∧ Un [(0, 0), (24, 24), (25, 25)] [(12, 12), (13, 13)] [] u u' ∧ ((-2) ≤ r.toInt ∧ r.toInt ≤ 6)) := by
  refine mI (by decide) (Nat.le_of_ble_eq_true rfl) ?_
  intro p e s m below meth c ls ar Q hx hb hml hown hts hK hH hX hl hret
  have hown : s.vm.findClass RX10 = some m.cls := hown
  have hl : lv_has ls 3 [(0, .ref (A 0)), (1, .int a0)] := hl
  refine lv_aload_n hx hb dX10_alarm_0 rfl (lv_at hl 0 rfl) ?_
  refine lv_iconst (v := 0) hx hb dX10_alarm_1 (by decide) ?_
  refine r_put (j := 0) (ci := 10) (C := RX10) (T := TX10) (N := 42) hx hb hts (fun w h => uc_in w (inX10 w h)) tyX10 tyX10_ok nmX10 hown hK hH 0 (mwc0 C A u) rfl 0 (by decide) (hts _ (uc_in _ q_f1188)) (fun _ h9 => h9) rfl (by decide +kernel) (Nat.le_of_ble_eq_true rfl) (mws0 C A u _) dX10_alarm_2 (fun u1 eu1 H locs hH => ?_)
  have hI := hI.pi0 eu1 rfl
  refine lv_aload_n hx hb dX10_alarm_5 rfl (lv_at hl 0 rfl) ?_
  refine lv_iload_n hx hb dX10_alarm_6 rfl (lv_at hl 1 rfl) ?_
  refine cvS (n := 1) (As := [.int a0]) (rest := []) ⟨hx, hb, hml, hown, hts⟩ uc_in (kX10_isLong_0 l D C A u1 hI a0 A0 ha0) q_m1630 q_n1632 q_p90 q_i11 q_c1633 hvX10_isLong ⟨(Nat.le_of_ble_eq_true rfl), (Nat.le_of_ble_eq_true rfl)⟩ ⟨(Nat.le_of_ble_eq_true rfl), (Nat.le_of_ble_eq_true rfl)⟩ hK hH.1 10 0 rfl (mwc0 C A u1) rfl hl.1 rfl (Nat.le_of_ble_eq_true rfl) dX10_alarm_7 (fun r2 p3 => ?_)
  have p3 : 0 ≤ r2.toInt ∧ r2.toInt ≤ 1 := p3
  refine lv_if_ne (tgt := 16) hx hb dX10_alarm_10 (by decide) (fun c4 => ?_) (fun c4 => ?_)
  · have c4 := cNE (x := r2) (y := 0) (X := r2.toInt) (Y := 0) rfl (by decide) c4
    refine lv_aload_n hx hb dX10_alarm_16 rfl (lv_at hl 0 rfl) ?_
    refine cvU (n := 0) (As := []) (rest := []) ⟨hx, hb, hml, hown, hts⟩ uc_in (kX10_lays_0 l D C A u1 hI  _) q_m1481 q_n1483 q_p75 q_i11 q_c1484 hvX10_lays ⟨(Nat.le_of_ble_eq_true rfl), (Nat.le_of_ble_eq_true rfl)⟩ ⟨(Nat.le_of_ble_eq_true rfl), (Nat.le_of_ble_eq_true rfl)⟩ hK hH (fun q h => Or.inr h) Bl0 (fun _ _ _ => trivial) 10 0 rfl (mwc0 C A u1) rfl hl.1 rfl (Nat.le_of_ble_eq_true rfl) dX10_alarm_17 (fun u5 H locs p7 hH => ?_)
    obtain ⟨hI, hUu5, p7⟩ := p7
    refine lv_iconst (v := 0) hx hb dX10_alarm_20 (by decide) ?_
    refine lv_istore_n (lv' := [(2, .int 0), (0, .ref (A 0)), (1, .int a0)]) hx hb dX10_alarm_21 rfl hl (by decide) rfl (fun ls hl => ?_)
    have lp22_66 : ∀ (n22 : Nat) (ls : Array Slot) (y66d : Int32), 0 ≤ y66d.toInt → y66d.toInt ≤ 7 → 7 - y66d.toInt < (n22 : Int) → lv_has ls 3 [(2, .int y66d), (0, .ref (A 0)), (1, .int a0)] → W p l e (rmL 5 0 0) s m ar below meth c H locs 0 0 Q (F0 m 22 ls []) := by
      intro n22
      induction n22 with
      | zero => intro ls y66d ly66d my66d hmun22 hl; exfalso; omega
      | succ n22 ih22_66 =>
        intro ls y66d ly66d my66d hmun22 hl
        refine lv_iload_n hx hb dX10_alarm_22 rfl (lv_at hl 0 rfl) ?_
        refine lv_aload_n hx hb dX10_alarm_23 rfl (lv_at hl 1 rfl) ?_
        refine cvS (n := 0) (As := []) (rest := [.int y66d]) ⟨hx, hb, hml, hown, hts⟩ uc_in (kX10_days_0 l D C A u5 hI ) q_m1477 q_n1479 q_p74 q_i11 q_c1480 hvX10_days ⟨(Nat.le_of_ble_eq_true rfl), (Nat.le_of_ble_eq_true rfl)⟩ ⟨(Nat.le_of_ble_eq_true rfl), (Nat.le_of_ble_eq_true rfl)⟩ hK hH.1 10 0 rfl (mwc0 C A u5) rfl hl.1 rfl (Nat.le_of_ble_eq_true rfl) dX10_alarm_24 (fun r68 p69 => ?_)
        subst p69
        have b70 : 0 ≤ ((ga u5 7 0)).toInt ∧ ((ga u5 7 0)).toInt ≤ 7 := hI.has 0
        refine lv_icmp_ge (tgt := 47) hx hb dX10_alarm_27 (by decide) (fun c71 => ?_) (fun c71 => ?_)
        · have c71 := cLE (x := (ga u5 7 0)) (y := y66d) (X := ((ga u5 7 0)).toInt) (Y := y66d.toInt) rfl rfl c71
          refine lv_iconst (v := (-1)) hx hb dX10_alarm_47 (by decide) ?_
          exact hret _ _ _ _ ((-1) : Int32) _ dX10_alarm_48 rfl ⟨hI, (Un.tr (Un.si Un.rf rfl eu1) hUu5 rfl rfl rfl), ⟨by decide, by decide⟩⟩ hH
        · have c71 := cNLE (x := (ga u5 7 0)) (y := y66d) (X := ((ga u5 7 0)).toInt) (Y := y66d.toInt) rfl rfl c71
          refine lv_aload_n hx hb dX10_alarm_30 rfl (lv_at hl 1 rfl) ?_
          refine lv_iload_n hx hb dX10_alarm_31 rfl (lv_at hl 0 rfl) ?_
          refine cvS (n := 1) (As := [.int y66d]) (rest := []) ⟨hx, hb, hml, hown, hts⟩ uc_in (kX10_noonOf__0 l D C A u5 hI y66d y66d.toInt rfl (by omega) (by omega)) q_m1496 q_n1498 q_p77 q_i11 q_c1499 hvX10_noonOf_ ⟨(Nat.le_of_ble_eq_true rfl), (Nat.le_of_ble_eq_true rfl)⟩ ⟨(Nat.le_of_ble_eq_true rfl), (Nat.le_of_ble_eq_true rfl)⟩ hK hH.1 10 0 rfl (mwc0 C A u5) rfl hl.1 rfl (Nat.le_of_ble_eq_true rfl) dX10_alarm_32 (fun r72 p73 => ?_)
          refine lv_iload_n hx hb dX10_alarm_35 rfl (lv_at hl 2 rfl) ?_
          refine lv_icmp_le (tgt := 41) hx hb dX10_alarm_36 (by decide) (fun c74 => ?_) (fun c74 => ?_)
          · have c74 := cLE (x := r72) (y := a0) (X := r72.toInt) (Y := A0) rfl ha0 c74
            obtain ⟨z75, ez75⟩ : ∃ z, z = y66d + Int32.ofInt 1 := ⟨_, rfl⟩
            have hz75 : z75.toInt = y66d.toInt + 1 := by rw [ez75]; exact tt_add rfl (by decide) (by omega) (by omega)
            refine lv_iinc (v := z75) (lv' := [(2, .int z75), (0, .ref (A 0)), (1, .int a0)]) hx hb dX10_alarm_41 hl (k := 0) rfl ez75.symm (by decide) rfl (fun ls hl => ?_)
            refine lv_goto (tgt := 22) hx hb dX10_alarm_44 (by decide) ?_
            exact ih22_66 ls z75 (by have q9 := (show z75.toInt = (y66d.toInt + 1) from hz75); omega) (by have q9 := (show z75.toInt = (y66d.toInt + 1) from hz75); omega) (by have q9 := (show z75.toInt = (y66d.toInt + 1) from hz75); omega) hl
          · have c74 := cNLE (x := r72) (y := a0) (X := r72.toInt) (Y := A0) rfl ha0 c74
            refine lv_iload_n hx hb dX10_alarm_39 rfl (lv_at hl 0 rfl) ?_
            exact hret _ _ _ _ y66d _ dX10_alarm_40 rfl ⟨hI, (Un.tr (Un.si Un.rf rfl eu1) hUu5 rfl rfl rfl), ⟨by omega, by omega⟩⟩ hH
    exact lp22_66 8 ls 0 (by decide) (by decide) (by have q9 : (0 : Int32).toInt = 0 := (by decide); omega) hl
  · have c4 := cEQ (x := r2) (y := 0) (X := r2.toInt) (Y := 0) rfl (by decide) c4
    refine lv_bipush (v := (-2)) hx hb dX10_alarm_13 (by decide) ?_
    exact hret _ _ _ _ ((-2) : Int32) _ dX10_alarm_15 rfl ⟨hI, (Un.si Un.rf rfl eu1), ⟨by decide, by decide⟩⟩ hH
set_option maxHeartbeats 4000000 in
set_option maxRecDepth 100000 in
theorem kX10_anew_0 (l : Launch) (D : va_G) (C : Nat → ClassId) (A : Nat → Nat) (u : St) (hI : IM u) (sz : Nat) : MetI l yX10_anew cX10_anew 2 (some .int) 2 [.ref (A 0)] D (tyl C) (mw C A) X0 u sz (fun r u' => IM u' ∧ Un [(0, 0)] [(7, 7)] [] u u' ∧ ((-2) ≤ r.toInt ∧ r.toInt ≤ 40)) := by
  refine mI (by decide) (Nat.le_of_ble_eq_true rfl) ?_
  intro p e s m below meth c ls ar Q hx hb hml hown hts hK hH hX hl hret
  have hown : s.vm.findClass RX10 = some m.cls := hown
  have hl : lv_has ls 2 [(0, .ref (A 0))] := hl
  refine lv_aload_n hx hb dX10_anew_0 rfl (lv_at hl 0 rfl) ?_
  refine lv_iconst (v := 0) hx hb dX10_anew_1 (by decide) ?_
  refine r_put (j := 0) (ci := 10) (C := RX10) (T := TX10) (N := 42) hx hb hts (fun w h => uc_in w (inX10 w h)) tyX10 tyX10_ok nmX10 hown hK hH 0 (mwc0 C A u) rfl 0 (by decide) (hts _ (uc_in _ q_f1188)) (fun _ h9 => h9) rfl (by decide +kernel) (Nat.le_of_ble_eq_true rfl) (mws0 C A u _) dX10_anew_2 (fun u1 eu1 H locs hH => ?_)
  have hI := hI.pi0 eu1 rfl
  refine lv_aload_n hx hb dX10_anew_5 rfl (lv_at hl 0 rfl) ?_
  refine cvS (n := 0) (As := []) (rest := []) ⟨hx, hb, hml, hown, hts⟩ uc_in (kX10_isTown_0 l D C A u1 hI ) q_m1554 q_n1556 q_p84 q_i11 q_c1557 hvX10_isTown ⟨(Nat.le_of_ble_eq_true rfl), (Nat.le_of_ble_eq_true rfl)⟩ ⟨(Nat.le_of_ble_eq_true rfl), (Nat.le_of_ble_eq_true rfl)⟩ hK hH.1 10 0 rfl (mwc0 C A u1) rfl hl.1 rfl (Nat.le_of_ble_eq_true rfl) dX10_anew_6 (fun r2 p3 => ?_)
  have p3 : 0 ≤ r2.toInt ∧ r2.toInt ≤ 1 := p3
  refine lv_if_ne (tgt := 15) hx hb dX10_anew_9 (by decide) (fun c4 => ?_) (fun c4 => ?_)
  · have c4 := cNE (x := r2) (y := 0) (X := r2.toInt) (Y := 0) rfl (by decide) c4
    refine lv_aload_n hx hb dX10_anew_15 rfl (lv_at hl 0 rfl) ?_
    refine va_get (ci := 10) (v := .ref (A 7)) (C := RX10) (T := TX10) (N := 42) hx hb hts (fun w h => uc_in w (inX10 w h)) hown hK hH.1 0 (mwc0 C A u1) rfl 17 (by decide) (hts _ (uc_in _ q_f1205)) (fun _ h9 => h9) rfl dX10_anew_16 ?_
    refine lv_iconst (v := 5) hx hb dX10_anew_19 (by decide) ?_
    refine va_iald hx hb hK hH.1 7 1 (mwc7 C A u1) rfl (i_ix (X := 5) (by decide) (by decide) (by decide)) dX10_anew_20 ?_
    refine pv_i (v := (ga u1 7 5)) rfl ?_
    have b5 : 0 ≤ ((ga u1 7 5)).toInt ∧ ((ga u1 7 5)).toInt ≤ 40 := hI.has 5
    refine lv_istore_n (lv' := [(1, .int (ga u1 7 5)), (0, .ref (A 0))]) hx hb dX10_anew_21 rfl hl (by decide) rfl (fun ls hl => ?_)
    refine lv_aload_n hx hb dX10_anew_22 rfl (lv_at hl 1 rfl) ?_
    refine va_get (ci := 10) (v := .ref (A 7)) (C := RX10) (T := TX10) (N := 42) hx hb hts (fun w h => uc_in w (inX10 w h)) hown hK hH.1 0 (mwc0 C A u1) rfl 17 (by decide) (hts _ (uc_in _ q_f1205)) (fun _ h9 => h9) rfl dX10_anew_23 ?_
    refine lv_iconst (v := 5) hx hb dX10_anew_26 (by decide) ?_
    refine lv_iconst (v := 0) hx hb dX10_anew_27 (by decide) ?_
    refine r_iast (j := 7) hx hb hK hH 7 1 (mwc7 C A u1) rfl (i_ix (X := 5) (by decide) (by decide) (by decide)) (mwa7 C A u1) dX10_anew_28 (fun u6 eu6 H locs hH => ?_)
    have hI := hI.pah (X := 0) eu6 (by decide) (by decide) (by have q9 := hB0 (Int32.toNatClampNeg 5 % 6); omega)
    refine lv_iload_n hx hb dX10_anew_29 rfl (lv_at hl 0 rfl) ?_
    exact hret _ _ _ _ (ga u1 7 5) _ dX10_anew_30 rfl ⟨hI, (Un.sa (Un.si Un.rf rfl eu1) rfl eu6), ⟨by omega, by omega⟩⟩ hH
  · have c4 := cEQ (x := r2) (y := 0) (X := r2.toInt) (Y := 0) rfl (by decide) c4
    refine lv_bipush (v := (-2)) hx hb dX10_anew_12 (by decide) ?_
    exact hret _ _ _ _ ((-2) : Int32) _ dX10_anew_14 rfl ⟨hI, (Un.si Un.rf rfl eu1), ⟨by decide, by decide⟩⟩ hH
set_option maxHeartbeats 4000000 in
set_option maxRecDepth 100000 in
theorem kX10_isSlot_0 (l : Launch) (D : va_G) (C : Nat → ClassId) (A : Nat → Nat) (u : St) (hI : IM u) (a0 : Int32) (A0 : Int) (ha0 : a0.toInt = A0) : Met l yX10_isSlot (uc yX10_isSlot cX10_isSlot 1 (some .boolean)) (rmL 2 0 0) (va_Pc [.int a0] (PreR D (tyl C) (mw C A u))) (vp_Si (fun r => (r = 1 ∧ 0 ≤ A0 ∧ A0 ≤ 3) ∨ (r = 0 ∧ ¬ (0 ≤ A0 ∧ A0 ≤ 3)))) 0 0 (fun _ => False) := by
  refine mS (by decide) (Nat.le_of_ble_eq_true rfl) ?_
  intro p e s m below meth c ls ar Q hx hb hml hown hts hK hP hl hret
  have hown : s.vm.findClass RX10 = some m.cls := hown
  have hl : lv_has ls 1 [(0, .int a0)] := hl
  refine lv_iload_n hx hb dX10_isSlot_0 rfl (lv_at hl 0 rfl) ?_
  refine lv_i2l (v := a0.toInt64) hx hb dX10_isSlot_1 rfl ?_
  refine lv_lconst (v := 0) hx hb dX10_isSlot_2 (by decide) ?_
  refine lv_ldc2 (v := 3) hx hb hown (hts _ (uc_in _ q_k1323)) dX10_isSlot_3 ?_
  refine csS (n := 3) (As := [.long a0.toInt64, .long 0, .long 3]) (rest := []) ⟨hx, hb, hml, hown, hts⟩ uc_in (kX10_in_0 l D C A u hI a0.toInt64 A0 (tt_i2l ha0) (0) 0 (by decide) (3) 3 (by decide)) q_m1324 q_s1325 q_i11 q_c1326 hvX10_in ⟨(Nat.le_of_ble_eq_true rfl), (Nat.le_of_ble_eq_true rfl)⟩ ⟨(Nat.le_of_ble_eq_true rfl), (Nat.le_of_ble_eq_true rfl)⟩ hK hP rfl hl.1 rfl (Nat.le_of_ble_eq_true rfl) dX10_isSlot_6 (fun r1 p2 => ?_)
  rcases p2 with ⟨e9, f3, f4⟩ | ⟨e9, fn5⟩
  · subst e9
    exact hret _ _ (1 : Int32) dX10_isSlot_9 rfl (Or.inl ⟨rfl, by omega, by omega⟩)
  · subst e9
    exact hret _ _ (0 : Int32) dX10_isSlot_9 rfl (Or.inr ⟨rfl, by omega⟩)
set_option maxHeartbeats 4000000 in
set_option maxRecDepth 100000 in
theorem kX10_isDay_0 (l : Launch) (D : va_G) (C : Nat → ClassId) (A : Nat → Nat) (u : St) (hI : IM u) (a0 : Int64) (A0 : Int) (ha0 : a0.toInt = A0) : Met l yX10_isDay (uc yX10_isDay cX10_isDay 3 (some .boolean)) (rmL 2 0 0) (va_Pc [.ref (A 0), .long a0] (PreR D (tyl C) (mw C A u))) (vp_Si (fun r => (r = 1 ∧ 0 ≤ A0 ∧ A0 < (ga u 7 0).toInt) ∨ r = 0)) 0 0 (fun _ => False) := by
  refine mS (by decide) (Nat.le_of_ble_eq_true rfl) ?_
  intro p e s m below meth c ls ar Q hx hb hml hown hts hK hP hl hret
  have hown : s.vm.findClass RX10 = some m.cls := hown
  have hl : lv_has ls 3 [(0, .ref (A 0)), (1, .long a0)] := hl
  refine lv_lload_n hx hb dX10_isDay_0 rfl (lv_at hl 1 rfl) ?_
  refine lv_lconst (v := 0) hx hb dX10_isDay_1 (by decide) ?_
  refine lv_aload_n hx hb dX10_isDay_2 rfl (lv_at hl 0 rfl) ?_
  refine cvS (n := 0) (As := []) (rest := [.long 0, .long a0]) ⟨hx, hb, hml, hown, hts⟩ uc_in (kX10_days_0 l D C A u hI ) q_m1477 q_n1479 q_p74 q_i11 q_c1480 hvX10_days ⟨(Nat.le_of_ble_eq_true rfl), (Nat.le_of_ble_eq_true rfl)⟩ ⟨(Nat.le_of_ble_eq_true rfl), (Nat.le_of_ble_eq_true rfl)⟩ hK hP 10 0 rfl (mwc0 C A u) rfl hl.1 rfl (Nat.le_of_ble_eq_true rfl) dX10_isDay_3 (fun r1 p2 => ?_)
  subst p2
  have b3 : 0 ≤ ((ga u 7 0)).toInt ∧ ((ga u 7 0)).toInt ≤ 7 := hI.has 0
  refine lv_i2l (v := (ga u 7 0).toInt64) hx hb dX10_isDay_6 rfl ?_
  refine lv_lconst (v := 1) hx hb dX10_isDay_7 (by decide) ?_
  refine lv_lsub hx hb dX10_isDay_8 ?_
  refine p_nml (tt_lsub (X := ((ga u 7 0)).toInt) (Y := 1) (tt_i2l rfl) (by decide) (by omega) (by omega)) (fun z4 hz4 => ?_)
  refine csS (n := 3) (As := [.long a0, .long 0, .long z4]) (rest := []) ⟨hx, hb, hml, hown, hts⟩ uc_in (kX10_in_0 l D C A u hI a0 A0 ha0 (0) 0 (by decide) z4 (((ga u 7 0)).toInt - 1) hz4) q_m1324 q_s1325 q_i11 q_c1326 hvX10_in ⟨(Nat.le_of_ble_eq_true rfl), (Nat.le_of_ble_eq_true rfl)⟩ ⟨(Nat.le_of_ble_eq_true rfl), (Nat.le_of_ble_eq_true rfl)⟩ hK hP rfl hl.1 rfl (Nat.le_of_ble_eq_true rfl) dX10_isDay_9 (fun r5 p6 => ?_)
  rcases p6 with ⟨e9, f7, f8⟩ | ⟨e9, fn9⟩
  · subst e9
    exact hret _ _ (1 : Int32) dX10_isDay_12 rfl (Or.inl ⟨rfl, by omega, by omega⟩)
  · subst e9
    exact hret _ _ (0 : Int32) dX10_isDay_12 rfl (Or.inr rfl)
set_option maxHeartbeats 4000000 in
set_option maxRecDepth 100000 in
theorem kX10_whyNot_0 (l : Launch) (D : va_G) (C : Nat → ClassId) (A : Nat → Nat) (u : St) (hI : IM u) (a0 : Int32) (A0 : Int) (ha0 : a0.toInt = A0) : Met l yX10_whyNot (uc yX10_whyNot cX10_whyNot 3 (some .int)) (rmL 3 0 0) (va_Pc [.ref (A 0), .int a0] (PreR D (tyl C) (mw C A u))) (vp_Si (fun r => (-6 ≤ r.toInt ∧ r.toInt ≤ -1) ∨ (r = 0 ∧ 0 ≤ A0 ∧ A0 ≤ 3 ∧ RowOK u a0 A0))) 0 0 (fun _ => False) := by
  refine mS (by decide) (Nat.le_of_ble_eq_true rfl) ?_
  intro p e s m below meth c ls ar Q hx hb hml hown hts hK hP hl hret
  have hown : s.vm.findClass RX10 = some m.cls := hown
  have hl : lv_has ls 3 [(0, .ref (A 0)), (1, .int a0)] := hl
  refine lv_iload_n hx hb dX10_whyNot_0 rfl (lv_at hl 1 rfl) ?_
  refine csS (n := 1) (As := [.int a0]) (rest := []) ⟨hx, hb, hml, hown, hts⟩ uc_in (kX10_isSlot_0 l D C A u hI a0 A0 ha0) q_m1320 q_s1321 q_i11 q_c1322 hvX10_isSlot ⟨(Nat.le_of_ble_eq_true rfl), (Nat.le_of_ble_eq_true rfl)⟩ ⟨(Nat.le_of_ble_eq_true rfl), (Nat.le_of_ble_eq_true rfl)⟩ hK hP rfl hl.1 rfl (Nat.le_of_ble_eq_true rfl) dX10_whyNot_1 (fun r1 p2 => ?_)
  rcases p2 with ⟨e9, f3, f4⟩ | ⟨e9, fn5⟩
  · subst e9
    refine lv_if_eq (tgt := 14) hx hb dX10_whyNot_4 (by decide) (fun c6 => absurd c6 (by decide)) (fun c6 => ?_)
    refine lv_aload_n hx hb dX10_whyNot_7 rfl (lv_at hl 0 rfl) ?_
    refine cvS (n := 0) (As := []) (rest := []) ⟨hx, hb, hml, hown, hts⟩ uc_in (kX10_isTown_0 l D C A u hI ) q_m1554 q_n1556 q_p84 q_i11 q_c1557 hvX10_isTown ⟨(Nat.le_of_ble_eq_true rfl), (Nat.le_of_ble_eq_true rfl)⟩ ⟨(Nat.le_of_ble_eq_true rfl), (Nat.le_of_ble_eq_true rfl)⟩ hK hP 10 0 rfl (mwc0 C A u) rfl hl.1 rfl (Nat.le_of_ble_eq_true rfl) dX10_whyNot_8 (fun r7 p8 => ?_)
    have p8 : 0 ≤ r7.toInt ∧ r7.toInt ≤ 1 := p8
    refine lv_if_ne (tgt := 17) hx hb dX10_whyNot_11 (by decide) (fun c9 => ?_) (fun c9 => ?_)
    · have c9 := cNE (x := r7) (y := 0) (X := r7.toInt) (Y := 0) rfl (by decide) c9
      refine lv_aload_n hx hb dX10_whyNot_17 rfl (lv_at hl 0 rfl) ?_
      refine va_get (ci := 10) (v := .ref (A 1)) (C := RX10) (T := TX10) (N := 42) hx hb hts (fun w h => uc_in w (inX10 w h)) hown hK hP 0 (mwc0 C A u) rfl 1 (by decide) (hts _ (uc_in _ q_f1189)) (fun _ h9 => h9) rfl dX10_whyNot_18 ?_
      refine lv_iload_n hx hb dX10_whyNot_21 rfl (lv_at hl 1 rfl) ?_
      refine va_iald hx hb hK hP 1 1 (mwc1 C A u) rfl (i_ix ha0 (by omega) (by omega)) dX10_whyNot_22 ?_
      have b10 : (-1) ≤ ((ga u 1 (Int32.toNatClampNeg a0))).toInt ∧ ((ga u 1 (Int32.toNatClampNeg a0))).toInt ≤ 3 := hI.a1 _
      refine lv_iconst (v := (-1)) hx hb dX10_whyNot_23 (by decide) ?_
      refine lv_icmp_ne (tgt := 30) hx hb dX10_whyNot_24 (by decide) (fun c11 => ?_) (fun c11 => ?_)
      · have c11 := cNE (x := (ga u 1 (Int32.toNatClampNeg a0))) (y := (-1)) (X := ((ga u 1 (Int32.toNatClampNeg a0))).toInt) (Y := (-1)) rfl (by decide) c11
        refine lv_aload_n hx hb dX10_whyNot_30 rfl (lv_at hl 0 rfl) ?_
        refine va_get (ci := 10) (v := .ref (A 2)) (C := RX10) (T := TX10) (N := 42) hx hb hts (fun w h => uc_in w (inX10 w h)) hown hK hP 0 (mwc0 C A u) rfl 2 (by decide) (hts _ (uc_in _ q_f1190)) (fun _ h9 => h9) rfl dX10_whyNot_31 ?_
        refine lv_iload_n hx hb dX10_whyNot_34 rfl (lv_at hl 1 rfl) ?_
        refine va_iald hx hb hK hP 2 1 (mwc2 C A u) rfl (i_ix ha0 (by omega) (by omega)) dX10_whyNot_35 ?_
        have b12 : 0 ≤ ((ga u 2 (Int32.toNatClampNeg a0))).toInt ∧ ((ga u 2 (Int32.toNatClampNeg a0))).toInt ≤ 60 := hI.a2 _
        refine lv_iconst (v := 2) hx hb dX10_whyNot_36 (by decide) ?_
        refine lv_irem hx hb dX10_whyNot_37 (by decide) ?_
        refine p_nm (tt_rem 2 rfl (by decide) (by omega) (by decide)) (fun z13 hz13 => ?_)
        refine lv_if_eq (tgt := 44) hx hb dX10_whyNot_38 (by decide) (fun c14 => ?_) (fun c14 => ?_)
        · have c14 := cEQ (x := z13) (y := 0) (X := (((ga u 2 (Int32.toNatClampNeg a0))).toInt % 2)) (Y := 0) hz13 (by decide) c14
          refine lv_iconst (v := 0) hx hb dX10_whyNot_44 (by decide) ?_
          refine lv_istore_n (lv' := [(2, .int 0), (0, .ref (A 0)), (1, .int a0)]) hx hb dX10_whyNot_45 rfl hl (by decide) rfl (fun ls hl => ?_)
          have lp46_229 : ∀ (n46 : Nat) (ls : Array Slot) (y229d : Int32), 0 ≤ y229d.toInt → y229d.toInt ≤ 61 → y229d.toInt % 2 = 0 → RowTo u A0 y229d.toInt → 61 - y229d.toInt < (n46 : Int) → lv_has ls 3 [(2, .int y229d), (0, .ref (A 0)), (1, .int a0)] → W p l e (rmL 3 0 0) s m ar below meth c s.heap [] 0 0 Q (F0 m 46 ls []) := by
            intro n46
            induction n46 with
            | zero => intro ls y229d ly229d my229d x46_0 x46_1 hmun46 hl; exfalso; omega
            | succ n46 ih46_229 =>
              intro ls y229d ly229d my229d x46_0 x46_1 hmun46 hl
              refine lv_iload_n hx hb dX10_whyNot_46 rfl (lv_at hl 0 rfl) ?_
              refine lv_aload_n hx hb dX10_whyNot_47 rfl (lv_at hl 1 rfl) ?_
              refine va_get (ci := 10) (v := .ref (A 2)) (C := RX10) (T := TX10) (N := 42) hx hb hts (fun w h => uc_in w (inX10 w h)) hown hK hP 0 (mwc0 C A u) rfl 2 (by decide) (hts _ (uc_in _ q_f1190)) (fun _ h9 => h9) rfl dX10_whyNot_48 ?_
              refine lv_iload_n hx hb dX10_whyNot_51 rfl (lv_at hl 2 rfl) ?_
              refine va_iald hx hb hK hP 2 1 (mwc2 C A u) rfl (i_ix ha0 (by omega) (by omega)) dX10_whyNot_52 ?_
              refine pv_i (v := (ga u 2 (Int32.toNatClampNeg a0))) rfl ?_
              refine lv_icmp_ge (tgt := 108) hx hb dX10_whyNot_53 (by decide) (fun c231 => ?_) (fun c231 => ?_)
              · have c231 := cLE (x := (ga u 2 (Int32.toNatClampNeg a0))) (y := y229d) (X := ((ga u 2 (Int32.toNatClampNeg a0))).toInt) (Y := y229d.toInt) rfl rfl c231
                refine lv_iconst (v := 0) hx hb dX10_whyNot_108 (by decide) ?_
                exact hret _ _ (0 : Int32) dX10_whyNot_109 rfl (Or.inr ⟨rfl, by omega, by omega, fun j hj hl => x46_1 j hj (by omega)⟩)
              · have c231 := cNLE (x := (ga u 2 (Int32.toNatClampNeg a0))) (y := y229d) (X := ((ga u 2 (Int32.toNatClampNeg a0))).toInt) (Y := y229d.toInt) rfl rfl c231
                refine lv_aload_n hx hb dX10_whyNot_56 rfl (lv_at hl 1 rfl) ?_
                refine lv_aload_n hx hb dX10_whyNot_57 rfl (lv_at hl 1 rfl) ?_
                refine va_get (ci := 10) (v := .ref (A 3)) (C := RX10) (T := TX10) (N := 42) hx hb hts (fun w h => uc_in w (inX10 w h)) hown hK hP 0 (mwc0 C A u) rfl 3 (by decide) (hts _ (uc_in _ q_f1191)) (fun _ h9 => h9) rfl dX10_whyNot_58 ?_
                refine lv_bipush (v := 60) hx hb dX10_whyNot_61 (by decide) ?_
                refine lv_iload_n hx hb dX10_whyNot_63 rfl (lv_at hl 2 rfl) ?_
                refine lv_imul hx hb dX10_whyNot_64 ?_
                refine p_nm (tt_mul (X := 60) (Y := A0) (by decide) ha0 (by omega) (by omega)) (fun z232 hz232 => ?_)
                refine lv_iload_n hx hb dX10_whyNot_65 rfl (lv_at hl 0 rfl) ?_
                refine lv_iadd hx hb dX10_whyNot_66 ?_
                refine p_nm (tt_add (X := (60 * A0)) (Y := y229d.toInt) hz232 rfl (by omega) (by omega)) (fun z233 hz233 => ?_)
                refine va_lald hx hb hK hP 3 2 (mwc3 C A u) rfl (i_ix hz233 (by omega) (by omega)) dX10_whyNot_67 ?_
                refine cvS (n := 1) (As := [.long (gb u 3 (Int32.toNatClampNeg z233))]) (rest := []) ⟨hx, hb, hml, hown, hts⟩ uc_in (kX10_isDay_0 l D C A u hI (gb u 3 (Int32.toNatClampNeg z233)) (((gb u 3 (Int32.toNatClampNeg z233))).toInt) rfl) q_m1473 q_n1475 q_p73 q_i11 q_c1476 hvX10_isDay ⟨(Nat.le_of_ble_eq_true rfl), (Nat.le_of_ble_eq_true rfl)⟩ ⟨(Nat.le_of_ble_eq_true rfl), (Nat.le_of_ble_eq_true rfl)⟩ hK hP 10 0 rfl (mwc0 C A u) rfl hl.1 rfl (Nat.le_of_ble_eq_true rfl) dX10_whyNot_68 (fun r234 p235 => ?_)
                rcases p235 with ⟨e9, f236, f237⟩ | e9
                · subst e9
                  have b239 : 0 ≤ ((ga u 7 0)).toInt ∧ ((ga u 7 0)).toInt ≤ 7 := hI.has 0
                  refine lv_if_eq (tgt := 99) hx hb dX10_whyNot_71 (by decide) (fun c240 => absurd c240 (by decide)) (fun c240 => ?_)
                  refine lv_aload_n hx hb dX10_whyNot_74 rfl (lv_at hl 1 rfl) ?_
                  refine va_get (ci := 10) (v := .ref (A 3)) (C := RX10) (T := TX10) (N := 42) hx hb hts (fun w h => uc_in w (inX10 w h)) hown hK hP 0 (mwc0 C A u) rfl 3 (by decide) (hts _ (uc_in _ q_f1191)) (fun _ h9 => h9) rfl dX10_whyNot_75 ?_
                  refine lv_bipush (v := 60) hx hb dX10_whyNot_78 (by decide) ?_
                  refine lv_iload_n hx hb dX10_whyNot_80 rfl (lv_at hl 2 rfl) ?_
                  refine lv_imul hx hb dX10_whyNot_81 ?_
                  refine p_nm (tt_mul (X := 60) (Y := A0) (by decide) ha0 (by omega) (by omega)) (fun z241 hz241 => ?_)
                  refine lv_iload_n hx hb dX10_whyNot_82 rfl (lv_at hl 0 rfl) ?_
                  refine lv_iadd hx hb dX10_whyNot_83 ?_
                  refine p_nm (tt_add (X := (60 * A0)) (Y := y229d.toInt) hz241 rfl (by omega) (by omega)) (fun z242 hz242 => ?_)
                  refine lv_iconst (v := 1) hx hb dX10_whyNot_84 (by decide) ?_
                  refine lv_iadd hx hb dX10_whyNot_85 ?_
                  refine p_nm (tt_add (X := ((60 * A0) + y229d.toInt)) (Y := 1) hz242 (by decide) (by omega) (by omega)) (fun z243 hz243 => ?_)
                  refine va_lald hx hb hK hP 3 2 (mwc3 C A u) rfl (i_ix hz243 (by omega) (by omega)) dX10_whyNot_86 ?_
                  refine lv_ldc2 (v := (-1000)) hx hb hown (hts _ (uc_in _ q_k1532)) dX10_whyNot_87 ?_
                  refine lv_ldc2 (v := 1000) hx hb hown (hts _ (uc_in _ q_k1533)) dX10_whyNot_90 ?_
                  refine csS (n := 3) (As := [.long (gb u 3 (Int32.toNatClampNeg z243)), .long (-1000), .long 1000]) (rest := []) ⟨hx, hb, hml, hown, hts⟩ uc_in (kX10_in_0 l D C A u hI (gb u 3 (Int32.toNatClampNeg z243)) (((gb u 3 (Int32.toNatClampNeg z243))).toInt) rfl (-1000) (-1000) (by decide) (1000) 1000 (by decide)) q_m1324 q_s1325 q_i11 q_c1326 hvX10_in ⟨(Nat.le_of_ble_eq_true rfl), (Nat.le_of_ble_eq_true rfl)⟩ ⟨(Nat.le_of_ble_eq_true rfl), (Nat.le_of_ble_eq_true rfl)⟩ hK hP rfl hl.1 rfl (Nat.le_of_ble_eq_true rfl) dX10_whyNot_93 (fun r244 p245 => ?_)
                  rcases p245 with ⟨e9, f246, f247⟩ | ⟨e9, fn248⟩
                  · subst e9
                    refine lv_if_ne (tgt := 102) hx hb dX10_whyNot_96 (by decide) (fun c249 => ?_) (fun c249 => absurd c249 (by decide))
                    obtain ⟨z250, ez250⟩ : ∃ z, z = y229d + Int32.ofInt 2 := ⟨_, rfl⟩
                    have hz250 : z250.toInt = y229d.toInt + 2 := by rw [ez250]; exact tt_add rfl (by decide) (by omega) (by omega)
                    refine lv_iinc (v := z250) (lv' := [(2, .int z250), (0, .ref (A 0)), (1, .int a0)]) hx hb dX10_whyNot_102 hl (k := 0) rfl ez250.symm (by decide) rfl (fun ls hl => ?_)
                    refine lv_goto (tgt := 46) hx hb dX10_whyNot_105 (by decide) ?_
                    exact ih46_229 ls z250 (by have q9 := (show z250.toInt = (y229d.toInt + 2) from hz250); omega) (by have q9 := (show z250.toInt = (y229d.toInt + 2) from hz250); omega) (by have r2 := (show (z250 : Int32).toInt = (y229d.toInt + 2) from hz250); omega) (by have q9 := RowTo.add x46_1 hz233 (by omega) (by omega) (by omega) (by omega) (by omega) (by omega); have q8 := (show (z250 : Int32).toInt = (y229d.toInt + 2) from hz250); rw [q8]; exact q9) (by have q9 := (show z250.toInt = (y229d.toInt + 2) from hz250); omega) hl
                  · subst e9
                    refine lv_if_ne (tgt := 102) hx hb dX10_whyNot_96 (by decide) (fun c251 => absurd c251 (by decide)) (fun c251 => ?_)
                    refine lv_bipush (v := (-2)) hx hb dX10_whyNot_99 (by decide) ?_
                    exact hret _ _ ((-2) : Int32) dX10_whyNot_101 rfl (Or.inl ⟨by decide, by decide⟩)
                · subst e9
                  refine lv_if_eq (tgt := 99) hx hb dX10_whyNot_71 (by decide) (fun c252 => ?_) (fun c252 => absurd c252 (by decide))
                  refine lv_bipush (v := (-2)) hx hb dX10_whyNot_99 (by decide) ?_
                  exact hret _ _ ((-2) : Int32) dX10_whyNot_101 rfl (Or.inl ⟨by decide, by decide⟩)
          exact lp46_229 62 ls 0 (by decide) (by decide) (by have r2 := (show (0 : Int32).toInt = 0 from (by decide)); omega) (fun j _ hj => by have q9 : (0 : Int32).toInt = 0 := (by decide); omega) (by have q9 : (0 : Int32).toInt = 0 := (by decide); omega) hl
        · have c14 := cNE (x := z13) (y := 0) (X := (((ga u 2 (Int32.toNatClampNeg a0))).toInt % 2)) (Y := 0) hz13 (by decide) c14
          refine lv_bipush (v := (-2)) hx hb dX10_whyNot_41 (by decide) ?_
          exact hret _ _ ((-2) : Int32) dX10_whyNot_43 rfl (Or.inl ⟨by decide, by decide⟩)
      · have c11 := cEQ (x := (ga u 1 (Int32.toNatClampNeg a0))) (y := (-1)) (X := ((ga u 1 (Int32.toNatClampNeg a0))).toInt) (Y := (-1)) rfl (by decide) c11
        refine lv_bipush (v := (-6)) hx hb dX10_whyNot_27 (by decide) ?_
        exact hret _ _ ((-6) : Int32) dX10_whyNot_29 rfl (Or.inl ⟨by decide, by decide⟩)
    · have c9 := cEQ (x := r7) (y := 0) (X := r7.toInt) (Y := 0) rfl (by decide) c9
      refine lv_bipush (v := (-2)) hx hb dX10_whyNot_14 (by decide) ?_
      exact hret _ _ ((-2) : Int32) dX10_whyNot_16 rfl (Or.inl ⟨by decide, by decide⟩)
  · subst e9
    refine lv_if_eq (tgt := 14) hx hb dX10_whyNot_4 (by decide) (fun c253 => ?_) (fun c253 => absurd c253 (by decide))
    refine lv_bipush (v := (-2)) hx hb dX10_whyNot_14 (by decide) ?_
    exact hret _ _ ((-2) : Int32) dX10_whyNot_16 rfl (Or.inl ⟨by decide, by decide⟩)
set_option maxHeartbeats 4000000 in
set_option maxRecDepth 100000 in
theorem kX10_mayBeAway_0 (l : Launch) (D : va_G) (C : Nat → ClassId) (A : Nat → Nat) (u : St) (hI : IM u) (a0 : Int32) (A0 : Int) (ha0 : a0.toInt = A0) (hl0 : 0 ≤ A0) (hm0 : A0 ≤ 5) : Met l yX10_mayBeAway (uc yX10_mayBeAway cX10_mayBeAway 3 (some .boolean)) (rmL 2 0 0) (va_Pc [.ref (A 0), .int a0] (PreR D (tyl C) (mw C A u))) (vp_Si (fun r => 0 ≤ r.toInt ∧ r.toInt ≤ 1)) 0 0 (fun _ => False) := by
  refine mS (by decide) (Nat.le_of_ble_eq_true rfl) ?_
  intro p e s m below meth c ls ar Q hx hb hml hown hts hK hP hl hret
  have hown : s.vm.findClass RX10 = some m.cls := hown
  have hl : lv_has ls 3 [(0, .ref (A 0)), (1, .int a0)] := hl
  refine lv_iconst (v := 0) hx hb dX10_mayBeAway_0 (by decide) ?_
  refine lv_istore_n (lv' := [(2, .int 0), (0, .ref (A 0)), (1, .int a0)]) hx hb dX10_mayBeAway_1 rfl hl (by decide) rfl (fun ls hl => ?_)
  have lp2_64 : ∀ (n2 : Nat) (ls : Array Slot) (y64d : Int32), 0 ≤ y64d.toInt → y64d.toInt ≤ 7 → 7 - y64d.toInt < (n2 : Int) → lv_has ls 3 [(2, .int y64d), (0, .ref (A 0)), (1, .int a0)] → W p l e (rmL 2 0 0) s m ar below meth c s.heap [] 0 0 Q (F0 m 2 ls []) := by
    intro n2
    induction n2 with
    | zero => intro ls y64d ly64d my64d hmun2 hl; exfalso; omega
    | succ n2 ih2_64 =>
      intro ls y64d ly64d my64d hmun2 hl
      refine lv_iload_n hx hb dX10_mayBeAway_2 rfl (lv_at hl 0 rfl) ?_
      refine lv_aload_n hx hb dX10_mayBeAway_3 rfl (lv_at hl 1 rfl) ?_
      refine cvS (n := 0) (As := []) (rest := [.int y64d]) ⟨hx, hb, hml, hown, hts⟩ uc_in (kX10_days_0 l D C A u hI ) q_m1477 q_n1479 q_p74 q_i11 q_c1480 hvX10_days ⟨(Nat.le_of_ble_eq_true rfl), (Nat.le_of_ble_eq_true rfl)⟩ ⟨(Nat.le_of_ble_eq_true rfl), (Nat.le_of_ble_eq_true rfl)⟩ hK hP 10 0 rfl (mwc0 C A u) rfl hl.1 rfl (Nat.le_of_ble_eq_true rfl) dX10_mayBeAway_4 (fun r66 p67 => ?_)
      subst p67
      have b68 : 0 ≤ ((ga u 7 0)).toInt ∧ ((ga u 7 0)).toInt ≤ 7 := hI.has 0
      refine lv_icmp_ge (tgt := 32) hx hb dX10_mayBeAway_7 (by decide) (fun c69 => ?_) (fun c69 => ?_)
      · have c69 := cLE (x := (ga u 7 0)) (y := y64d) (X := ((ga u 7 0)).toInt) (Y := y64d.toInt) rfl rfl c69
        refine lv_iconst (v := 0) hx hb dX10_mayBeAway_32 (by decide) ?_
        exact hret _ _ (0 : Int32) dX10_mayBeAway_33 rfl ⟨by decide, by decide⟩
      · have c69 := cNLE (x := (ga u 7 0)) (y := y64d) (X := ((ga u 7 0)).toInt) (Y := y64d.toInt) rfl rfl c69
        refine lv_aload_n hx hb dX10_mayBeAway_10 rfl (lv_at hl 1 rfl) ?_
        refine va_get (ci := 10) (v := .ref (A 13)) (C := RX10) (T := TX10) (N := 42) hx hb hts (fun w h => uc_in w (inX10 w h)) hown hK hP 0 (mwc0 C A u) rfl 23 (by decide) (hts _ (uc_in _ q_f1211)) (fun _ h9 => h9) rfl dX10_mayBeAway_11 ?_
        refine lv_bipush (v := 6) hx hb dX10_mayBeAway_14 (by decide) ?_
        refine lv_iload_n hx hb dX10_mayBeAway_16 rfl (lv_at hl 0 rfl) ?_
        refine lv_imul hx hb dX10_mayBeAway_17 ?_
        refine p_nm (tt_mul (X := 6) (Y := y64d.toInt) (by decide) rfl (by omega) (by omega)) (fun z70 hz70 => ?_)
        refine lv_iload_n hx hb dX10_mayBeAway_18 rfl (lv_at hl 2 rfl) ?_
        refine lv_iadd hx hb dX10_mayBeAway_19 ?_
        refine p_nm (tt_add (X := (6 * y64d.toInt)) (Y := A0) hz70 ha0 (by omega) (by omega)) (fun z71 hz71 => ?_)
        refine va_zald hx hb hK hP 13 3 (mwc13 C A u) rfl (i_ix hz71 (by omega) (by omega)) dX10_mayBeAway_20 ?_
        refine p_any (fun z72 => ?_)
        refine lv_if_eq (tgt := 26) hx hb dX10_mayBeAway_21 (by decide) (fun c73 => ?_) (fun c73 => ?_)
        · have c73 := cEQ (x := z72) (y := 0) (X := z72.toInt) (Y := 0) rfl (by decide) c73
          obtain ⟨z74, ez74⟩ : ∃ z, z = y64d + Int32.ofInt 1 := ⟨_, rfl⟩
          have hz74 : z74.toInt = y64d.toInt + 1 := by rw [ez74]; exact tt_add rfl (by decide) (by omega) (by omega)
          refine lv_iinc (v := z74) (lv' := [(2, .int z74), (0, .ref (A 0)), (1, .int a0)]) hx hb dX10_mayBeAway_26 hl (k := 0) rfl ez74.symm (by decide) rfl (fun ls hl => ?_)
          refine lv_goto (tgt := 2) hx hb dX10_mayBeAway_29 (by decide) ?_
          exact ih2_64 ls z74 (by have q9 := (show z74.toInt = (y64d.toInt + 1) from hz74); omega) (by have q9 := (show z74.toInt = (y64d.toInt + 1) from hz74); omega) (by have q9 := (show z74.toInt = (y64d.toInt + 1) from hz74); omega) hl
        · refine lv_iconst (v := 1) hx hb dX10_mayBeAway_24 (by decide) ?_
          exact hret _ _ (1 : Int32) dX10_mayBeAway_25 rfl ⟨by decide, by decide⟩
  exact lp2_64 8 ls 0 (by decide) (by decide) (by have q9 : (0 : Int32).toInt = 0 := (by decide); omega) hl
set_option maxHeartbeats 4000000 in
set_option maxRecDepth 100000 in
theorem kX10_laysAway_0 (l : Launch) (D : va_G) (C : Nat → ClassId) (A : Nat → Nat) (u : St) (hI : IM u) (a0 : Int32) (A0 : Int) (ha0 : a0.toInt = A0) (hl0 : 0 ≤ A0) (hm0 : A0 ≤ 3) (hrow : RowOK u a0 A0) (sz : Nat) : MetV l yX10_laysAway cX10_laysAway 7 4 [.ref (A 0), .int a0] D (tyl C) (mw C A) X0 u sz (fun u' => IM u' ∧ Un [(24, 24), (25, 25), (39, 39), (40, 40)] [(12, 12), (13, 13), (18, 18)] [] u u' ∧ True) := by
  refine mV (by decide) (Nat.le_of_ble_eq_true rfl) ?_
  intro p e s m below meth c ls ar Q hx hb hml hown hts hK hH hX hl hret
  have hown : s.vm.findClass RX10 = some m.cls := hown
  have hl : lv_has ls 7 [(0, .ref (A 0)), (1, .int a0)] := hl
  refine lv_aload_n hx hb dX10_laysAway_0 rfl (lv_at hl 0 rfl) ?_
  refine cvU (n := 0) (As := []) (rest := []) ⟨hx, hb, hml, hown, hts⟩ uc_in (kX10_lays_0 l D C A u hI  _) q_m1481 q_n1483 q_p75 q_i11 q_c1484 hvX10_lays ⟨(Nat.le_of_ble_eq_true rfl), (Nat.le_of_ble_eq_true rfl)⟩ ⟨(Nat.le_of_ble_eq_true rfl), (Nat.le_of_ble_eq_true rfl)⟩ hK hH (fun q h => Or.inr h) Bl0 (fun _ _ _ => trivial) 10 0 rfl (mwc0 C A u) rfl hl.1 rfl (Nat.le_of_ble_eq_true rfl) dX10_laysAway_1 (fun u1 H locs p3 hH => ?_)
  obtain ⟨hI, hUu1, p3⟩ := p3
  refine lv_aload_n hx hb dX10_laysAway_4 rfl (lv_at hl 0 rfl) ?_
  refine lv_iconst (v := 0) hx hb dX10_laysAway_5 (by decide) ?_
  refine r_put (j := 39) (ci := 10) (C := RX10) (T := TX10) (N := 42) hx hb hts (fun w h => uc_in w (inX10 w h)) tyX10 tyX10_ok nmX10 hown hK hH 0 (mwc0 C A u1) rfl 39 (by decide) (hts _ (uc_in _ q_f1227)) (fun _ h9 => h9) rfl (by decide +kernel) (Nat.le_of_ble_eq_true rfl) (mws39 C A u1 _) dX10_laysAway_6 (fun u4 eu4 H locs hH => ?_)
  have hI := hI.pi0 eu4 rfl
  refine lv_aload_n hx hb dX10_laysAway_9 rfl (lv_at hl 0 rfl) ?_
  refine lv_iconst (v := (-1)) hx hb dX10_laysAway_10 (by decide) ?_
  refine r_put (j := 40) (ci := 10) (C := RX10) (T := TX10) (N := 42) hx hb hts (fun w h => uc_in w (inX10 w h)) tyX10 tyX10_ok nmX10 hown hK hH 0 (mwc0 C A u4) rfl 40 (by decide) (hts _ (uc_in _ q_f1228)) (fun _ h9 => h9) rfl (by decide +kernel) (Nat.le_of_ble_eq_true rfl) (mws40 C A u4 _) dX10_laysAway_11 (fun u5 eu5 H locs hH => ?_)
  have hI := hI.pi0 eu5 rfl
  refine lv_iconst (v := 0) hx hb dX10_laysAway_14 (by decide) ?_
  refine lv_istore_n (lv' := [(2, .int 0), (0, .ref (A 0)), (1, .int a0)]) hx hb dX10_laysAway_15 rfl hl (by decide) rfl (fun ls hl => ?_)
  have lp16_142398 : ∀ (n16 : Nat) (ls : Array Slot) (y142397d : Int32) (u142398 : St) (H : Heap) (locs : List Loc), 0 ≤ y142397d.toInt → y142397d.toInt ≤ 6 → gi u142398 39 = 0 → gi u142398 40 = (-1) → 6 - y142397d.toInt < (n16 : Int) → Un [(39, 39), (40, 40)] [(18, 18)] [] u5 u142398 → IM u142398 → Hd D (mw C A) (va_A (mw C A u) s.heap.size) s.heap u142398 H locs → lv_has ls 7 [(2, .int y142397d), (0, .ref (A 0)), (1, .int a0)] → W p l e (rmL 4 0 0) s m ar below meth c H locs 0 0 Q (F0 m 16 ls []) := by
    intro n16
    induction n16 with
    | zero => intro ls y142397d u142398 H locs ly142397d my142397d hku142398_0 hku142398_1 hmun16 hUu142398 hI hH hl; exfalso; omega
    | succ n16 ih16_142398 =>
      intro ls y142397d u142398 H locs ly142397d my142397d hku142398_0 hku142398_1 hmun16 hUu142398 hI hH hl
      refine lv_iload_n hx hb dX10_laysAway_16 rfl (lv_at hl 0 rfl) ?_
      refine lv_bipush (v := 6) hx hb dX10_laysAway_17 (by decide) ?_
      refine lv_icmp_ge (tgt := 35) hx hb dX10_laysAway_19 (by decide) (fun c142400 => ?_) (fun c142400 => ?_)
      · have c142400 := cLE (x := 6) (y := y142397d) (X := 6) (Y := y142397d.toInt) (by decide) rfl c142400
        refine lv_iconst (v := 0) hx hb dX10_laysAway_35 (by decide) ?_
        refine lv_istore_n (lv' := [(2, .int 0), (0, .ref (A 0)), (1, .int a0)]) hx hb dX10_laysAway_36 rfl hl (by decide) rfl (fun ls hl => ?_)
        refine lv_iconst (v := 0) hx hb dX10_laysAway_37 (by decide) ?_
        refine lv_istore_n (lv' := [(3, .int 0), (2, .int 0), (0, .ref (A 0)), (1, .int a0)]) hx hb dX10_laysAway_38 rfl hl (by decide) rfl (fun ls hl => ?_)
        have lp39_249315 : ∀ (n39 : Nat) (ls : Array Slot) (y249313d : Int32) (y249314d : Int32) (u249315 : St) (H : Heap) (locs : List Loc), 0 ≤ y249313d.toInt → y249313d.toInt ≤ 6 → 0 ≤ y249314d.toInt → y249314d.toInt ≤ 63 → gi u249315 39 = 0 → gi u249315 40 = (-1) → 6 - y249313d.toInt < (n39 : Int) → Un [(39, 39), (40, 40)] [(18, 18)] [] u142398 u249315 → IM u249315 → Hd D (mw C A) (va_A (mw C A u) s.heap.size) s.heap u249315 H locs → lv_has ls 7 [(3, .int y249313d), (2, .int y249314d), (0, .ref (A 0)), (1, .int a0)] → W p l e (rmL 4 0 0) s m ar below meth c H locs 0 0 Q (F0 m 39 ls []) := by
          intro n39
          induction n39 with
          | zero => intro ls y249313d y249314d u249315 H locs ly249313d my249313d ly249314d my249314d hku249315_0 hku249315_1 hmun39 hUu249315 hI hH hl; exfalso; omega
          | succ n39 ih39_249315 =>
            intro ls y249313d y249314d u249315 H locs ly249313d my249313d ly249314d my249314d hku249315_0 hku249315_1 hmun39 hUu249315 hI hH hl
            refine lv_iload_n hx hb dX10_laysAway_39 rfl (lv_at hl 0 rfl) ?_
            refine lv_aload_n hx hb dX10_laysAway_40 rfl (lv_at hl 2 rfl) ?_
            refine cvS (n := 0) (As := []) (rest := [.int y249313d]) ⟨hx, hb, hml, hown, hts⟩ uc_in (kX10_clocks_0 l D C A u249315 hI ) q_m1464 q_n1466 q_p72 q_i11 q_c1467 hvX10_clocks ⟨(Nat.le_of_ble_eq_true rfl), (Nat.le_of_ble_eq_true rfl)⟩ ⟨(Nat.le_of_ble_eq_true rfl), (Nat.le_of_ble_eq_true rfl)⟩ hK hH.1 10 0 rfl (mwc0 C A u249315) rfl hl.1 rfl (Nat.le_of_ble_eq_true rfl) dX10_laysAway_41 (fun r249317 p249318 => ?_)
            subst p249318
            have b249319 : 0 ≤ ((ga u249315 7 3)).toInt ∧ ((ga u249315 7 3)).toInt ≤ 6 := hI.has 3
            refine lv_icmp_ge (tgt := 71) hx hb dX10_laysAway_44 (by decide) (fun c249320 => ?_) (fun c249320 => ?_)
            · have c249320 := cLE (x := (ga u249315 7 3)) (y := y249313d) (X := ((ga u249315 7 3)).toInt) (Y := y249313d.toInt) rfl rfl c249320
              refine lv_iconst (v := 0) hx hb dX10_laysAway_71 (by decide) ?_
              refine lv_istore_n (lv' := [(3, .int 0), (2, .int y249314d), (0, .ref (A 0)), (1, .int a0)]) hx hb dX10_laysAway_72 rfl hl (by decide) rfl (fun ls hl => ?_)
              have lp73_283354 : ∀ (n73 : Nat) (ls : Array Slot) (y283353d : Int32) (u283354 : St) (H : Heap) (locs : List Loc), 0 ≤ y283353d.toInt → y283353d.toInt ≤ 64 → 64 - y283353d.toInt < (n73 : Int) → Un [(39, 39), (40, 40)] [(18, 18)] [] u249315 u283354 → IM u283354 → Hd D (mw C A) (va_A (mw C A u) s.heap.size) s.heap u283354 H locs → lv_has ls 7 [(3, .int y283353d), (2, .int y249314d), (0, .ref (A 0)), (1, .int a0)] → W p l e (rmL 4 0 0) s m ar below meth c H locs 0 0 Q (F0 m 73 ls []) := by
                intro n73
                induction n73 with
                | zero => intro ls y283353d u283354 H locs ly283353d my283353d hmun73 hUu283354 hI hH hl; exfalso; omega
                | succ n73 ih73_283354 =>
                  intro ls y283353d u283354 H locs ly283353d my283353d hmun73 hUu283354 hI hH hl
                  refine lv_iload_n hx hb dX10_laysAway_73 rfl (lv_at hl 0 rfl) ?_
                  refine lv_iload_n hx hb dX10_laysAway_74 rfl (lv_at hl 1 rfl) ?_
                  refine lv_icmp_gt (tgt := 265) hx hb dX10_laysAway_75 (by decide) (fun c283356 => ?_) (fun c283356 => ?_)
                  · have c283356 := cLT (x := y249314d) (y := y283353d) (X := y249314d.toInt) (Y := y283353d.toInt) rfl rfl c283356
                    exact hret _ _ _ _ _ dX10_laysAway_265 ⟨hI, (Un.tr (Un.tr (Un.tr (Un.si (Un.si (Un.tr Un.rf hUu1 rfl rfl rfl) rfl eu4) rfl eu5) hUu142398 rfl rfl rfl) hUu249315 rfl rfl rfl) hUu283354 rfl rfl rfl), trivial⟩ hH
                  · have c283356 := cNLT (x := y249314d) (y := y283353d) (X := y249314d.toInt) (Y := y283353d.toInt) rfl rfl c283356
                    refine lv_iload_n hx hb dX10_laysAway_78 rfl (lv_at hl 0 rfl) ?_
                    refine lv_iload_n hx hb dX10_laysAway_79 rfl (lv_at hl 1 rfl) ?_
                    refine lv_iconst (v := (-1)) hx hb dX10_laysAway_80 (by decide) ?_
                    refine lv_ixor hx hb dX10_laysAway_81 ?_
                    refine p_any (fun z283357 => ?_)
                    refine lv_iand hx hb dX10_laysAway_82 ?_
                    have gz283358 := tt_andL (x := y283353d) (y := z283357) (X := y283353d.toInt) rfl (by omega)
                    refine p_bd (P := fun q => 0 ≤ q ∧ q ≤ 63) ⟨by omega, by omega⟩ (fun z283359 bz283359 => ?_)
                    have bz283359 : 0 ≤ z283359.toInt ∧ z283359.toInt ≤ 63 := bz283359
                    have j259_284758 : ∀ (ls : Array Slot) (u284758 : St) (H : Heap) (locs : List Loc), Un [(39, 39), (40, 40)] [(18, 18)] [] u283354 u284758 → IM u284758 → Hd D (mw C A) (va_A (mw C A u) s.heap.size) s.heap u284758 H locs → lv_has ls 7 [(3, .int y283353d), (2, .int y249314d), (0, .ref (A 0)), (1, .int a0)] → W p l e (rmL 4 0 0) s m ar below meth c H locs 0 0 Q (F0 m 259 ls []) := by
                      intro ls u284758 H locs hUu284758 hI hH hl
                      obtain ⟨z284760, ez284760⟩ : ∃ z, z = y283353d + Int32.ofInt 1 := ⟨_, rfl⟩
                      have hz284760 : z284760.toInt = y283353d.toInt + 1 := by rw [ez284760]; exact tt_add rfl (by decide) (by omega) (by omega)
                      refine lv_iinc (v := z284760) (lv' := [(3, .int z284760), (2, .int y249314d), (0, .ref (A 0)), (1, .int a0)]) hx hb dX10_laysAway_259 hl (k := 0) rfl ez284760.symm (by decide) rfl (fun ls hl => ?_)
                      refine lv_goto (tgt := 73) hx hb dX10_laysAway_262 (by decide) ?_
                      exact ih73_283354 ls z284760 u284758 _ _ (by have q9 := (show z284760.toInt = (y283353d.toInt + 1) from hz284760); omega) (by have q9 := (show z284760.toInt = (y283353d.toInt + 1) from hz284760); omega) (by have q9 := (show z284760.toInt = (y283353d.toInt + 1) from hz284760); omega) (Un.tr hUu283354 hUu284758 rfl rfl rfl) hI hH hl
                    refine lv_if_eq (tgt := 89) hx hb dX10_laysAway_83 (by decide) (fun c283360 => ?_) (fun c283360 => ?_)
                    · have c283360 := cEQ (x := z283359) (y := 0) (X := z283359.toInt) (Y := 0) rfl (by decide) c283360
                      refine lv_iconst (v := 1) hx hb dX10_laysAway_89 (by decide) ?_
                      refine lv_istore (lv' := [(4, .int 1), (3, .int y283353d), (2, .int y249314d), (0, .ref (A 0)), (1, .int a0)]) hx hb dX10_laysAway_90 hl (by decide) rfl (fun ls hl => ?_)
                      refine lv_iconst (v := 0) hx hb dX10_laysAway_92 (by decide) ?_
                      refine lv_istore (lv' := [(5, .int 0), (4, .int 1), (3, .int y283353d), (2, .int y249314d), (0, .ref (A 0)), (1, .int a0)]) hx hb dX10_laysAway_93 hl (by decide) rfl (fun ls hl => ?_)
                      have lp95_286032 : ∀ (n95 : Nat) (ls : Array Slot) (y286030d : Int32) (y286031d : Int32) (u286032 : St) (H : Heap) (locs : List Loc), 0 ≤ y286030d.toInt → y286030d.toInt ≤ 61 → 0 ≤ y286031d.toInt → y286031d.toInt ≤ 1 → y286030d.toInt % 2 = 0 → 61 - y286030d.toInt < (n95 : Int) → Un [(39, 39), (40, 40)] [(18, 18)] [] u283354 u286032 → IM u286032 → Hd D (mw C A) (va_A (mw C A u) s.heap.size) s.heap u286032 H locs → lv_has ls 7 [(5, .int y286030d), (4, .int y286031d), (3, .int y283353d), (2, .int y249314d), (0, .ref (A 0)), (1, .int a0)] → W p l e (rmL 4 0 0) s m ar below meth c H locs 0 0 Q (F0 m 95 ls []) := by
                        intro n95
                        induction n95 with
                        | zero => intro ls y286030d y286031d u286032 H locs ly286030d my286030d ly286031d my286031d x95_0 hmun95 hUu286032 hI hH hl; exfalso; omega
                        | succ n95 ih95_286032 =>
                          intro ls y286030d y286031d u286032 H locs ly286030d my286030d ly286031d my286031d x95_0 hmun95 hUu286032 hI hH hl
                          refine lv_iload hx hb dX10_laysAway_95 (lv_at hl 0 rfl) ?_
                          refine lv_aload_n hx hb dX10_laysAway_97 rfl (lv_at hl 4 rfl) ?_
                          refine va_get (ci := 10) (v := .ref (A 2)) (C := RX10) (T := TX10) (N := 42) hx hb hts (fun w h => uc_in w (inX10 w h)) hown hK hH.1 0 (mwc0 C A u286032) rfl 2 (by decide) (hts _ (uc_in _ q_f1190)) (fun _ h9 => h9) rfl dX10_laysAway_98 ?_
                          refine lv_iload_n hx hb dX10_laysAway_101 rfl (lv_at hl 5 rfl) ?_
                          refine va_iald hx hb hK hH.1 2 1 (mwc2 C A u286032) rfl (i_ix ha0 (by omega) (by omega)) dX10_laysAway_102 ?_
                          have b286034 : 0 ≤ ((ga u286032 2 (Int32.toNatClampNeg a0))).toInt ∧ ((ga u286032 2 (Int32.toNatClampNeg a0))).toInt ≤ 60 := hI.a2 _
                          refine lv_icmp_ge (tgt := 172) hx hb dX10_laysAway_103 (by decide) (fun c286035 => ?_) (fun c286035 => ?_)
                          · have c286035 := cLE (x := (ga u286032 2 (Int32.toNatClampNeg a0))) (y := y286030d) (X := ((ga u286032 2 (Int32.toNatClampNeg a0))).toInt) (Y := y286030d.toInt) rfl rfl c286035
                            refine lv_iload hx hb dX10_laysAway_172 (lv_at hl 1 rfl) ?_
                            refine lv_if_ne (tgt := 180) hx hb dX10_laysAway_174 (by decide) (fun c286036 => ?_) (fun c286036 => ?_)
                            · have c286036 := cNE (x := y286031d) (y := 0) (X := y286031d.toInt) (Y := 0) rfl (by decide) c286036
                              refine lv_aload_n hx hb dX10_laysAway_180 rfl (lv_at hl 4 rfl) ?_
                              refine lv_dup hx hb dX10_laysAway_181 rfl ?_
                              refine va_get (ci := 10) (v := .int (gi u286032 39)) (C := RX10) (T := TX10) (N := 42) hx hb hts (fun w h => uc_in w (inX10 w h)) hown hK hH.1 0 (mwc0 C A u286032) rfl 39 (by decide) (hts _ (uc_in _ q_f1227)) (fun _ h9 => h9) rfl dX10_laysAway_182 ?_
                              refine lv_iconst (v := 1) hx hb dX10_laysAway_185 (by decide) ?_
                              refine lv_iadd hx hb dX10_laysAway_186 ?_
                              refine p_any (fun z286037 => ?_)
                              refine r_put (j := 39) (ci := 10) (C := RX10) (T := TX10) (N := 42) hx hb hts (fun w h => uc_in w (inX10 w h)) tyX10 tyX10_ok nmX10 hown hK hH 0 (mwc0 C A u286032) rfl 39 (by decide) (hts _ (uc_in _ q_f1227)) (fun _ h9 => h9) rfl (by decide +kernel) (Nat.le_of_ble_eq_true rfl) (mws39 C A u286032 _) dX10_laysAway_187 (fun u286038 eu286038 H locs hH => ?_)
                              have hI := hI.pi0 eu286038 rfl
                              refine lv_aload_n hx hb dX10_laysAway_190 rfl (lv_at hl 4 rfl) ?_
                              refine va_get (ci := 10) (v := .int (gi u286038 40)) (C := RX10) (T := TX10) (N := 42) hx hb hts (fun w h => uc_in w (inX10 w h)) hown hK hH.1 0 (mwc0 C A u286038) rfl 40 (by decide) (hts _ (uc_in _ q_f1228)) (fun _ h9 => h9) rfl dX10_laysAway_191 ?_
                              refine lv_iconst (v := (-1)) hx hb dX10_laysAway_194 (by decide) ?_
                              have j217_286138 : ∀ (ls : Array Slot) (u286138 : St) (H : Heap) (locs : List Loc), Un [(40, 40)] [] [] u286038 u286138 → IM u286138 → Hd D (mw C A) (va_A (mw C A u) s.heap.size) s.heap u286138 H locs → lv_has ls 7 [(3, .int y283353d), (2, .int y249314d), (0, .ref (A 0)), (1, .int a0)] → W p l e (rmL 4 0 0) s m ar below meth c H locs 0 0 Q (F0 m 217 ls []) := by
                                intro ls u286138 H locs hUu286138 hI hH hl
                                refine lv_iconst (v := 0) hx hb dX10_laysAway_217 (by decide) ?_
                                refine lv_istore (lv' := [(5, .int 0), (3, .int y283353d), (2, .int y249314d), (0, .ref (A 0)), (1, .int a0)]) hx hb dX10_laysAway_218 hl (by decide) rfl (fun ls hl => ?_)
                                have lp220_286219 : ∀ (n220 : Nat) (ls : Array Slot) (y286218d : Int32) (u286219 : St) (H : Heap) (locs : List Loc), 0 ≤ y286218d.toInt → y286218d.toInt ≤ 6 → 6 - y286218d.toInt < (n220 : Int) → Un [] [(18, 18)] [] u286138 u286219 → IM u286219 → Hd D (mw C A) (va_A (mw C A u) s.heap.size) s.heap u286219 H locs → lv_has ls 7 [(5, .int y286218d), (3, .int y283353d), (2, .int y249314d), (0, .ref (A 0)), (1, .int a0)] → W p l e (rmL 4 0 0) s m ar below meth c H locs 0 0 Q (F0 m 220 ls []) := by
                                  intro n220
                                  induction n220 with
                                  | zero => intro ls y286218d u286219 H locs ly286218d my286218d hmun220 hUu286219 hI hH hl; exfalso; omega
                                  | succ n220 ih220_286219 =>
                                    intro ls y286218d u286219 H locs ly286218d my286218d hmun220 hUu286219 hI hH hl
                                    refine lv_iload hx hb dX10_laysAway_220 (lv_at hl 0 rfl) ?_
                                    refine lv_aload_n hx hb dX10_laysAway_222 rfl (lv_at hl 3 rfl) ?_
                                    refine cvS (n := 0) (As := []) (rest := [.int y286218d]) ⟨hx, hb, hml, hown, hts⟩ uc_in (kX10_clocks_0 l D C A u286219 hI ) q_m1464 q_n1466 q_p72 q_i11 q_c1467 hvX10_clocks ⟨(Nat.le_of_ble_eq_true rfl), (Nat.le_of_ble_eq_true rfl)⟩ ⟨(Nat.le_of_ble_eq_true rfl), (Nat.le_of_ble_eq_true rfl)⟩ hK hH.1 10 0 rfl (mwc0 C A u286219) rfl hl.1 rfl (Nat.le_of_ble_eq_true rfl) dX10_laysAway_223 (fun r286221 p286222 => ?_)
                                    subst p286222
                                    refine pv_i (v := (ga u249315 7 3)) ((congrFun (hUu286219.2.1 7 rfl) _).trans ((congrFun (hUu286138.2.1 7 rfl) _).trans ((congrFun (ga_si eu286038) _).trans ((congrFun (hUu286032.2.1 7 rfl) _).trans ((congrFun (hUu283354.2.1 7 rfl) _).trans rfl))))) ?_
                                    refine lv_icmp_ge (tgt := 259) hx hb dX10_laysAway_226 (by decide) (fun c286223 => ?_) (fun c286223 => ?_)
                                    · have c286223 := cLE (x := (ga u249315 7 3)) (y := y286218d) (X := ((ga u249315 7 3)).toInt) (Y := y286218d.toInt) rfl rfl c286223
                                      exact j259_284758 ls u286219 _ _ (Un.tr (Un.tr (Un.si (Un.tr Un.rf hUu286032 rfl rfl rfl) rfl eu286038) hUu286138 rfl rfl rfl) hUu286219 rfl rfl rfl) hI hH (lv_sub hl [1, 2, 3, 4] rfl)
                                    · have c286223 := cNLE (x := (ga u249315 7 3)) (y := y286218d) (X := ((ga u249315 7 3)).toInt) (Y := y286218d.toInt) rfl rfl c286223
                                      refine lv_aload_n hx hb dX10_laysAway_229 rfl (lv_at hl 3 rfl) ?_
                                      refine va_get (ci := 10) (v := .ref (A 18)) (C := RX10) (T := TX10) (N := 42) hx hb hts (fun w h => uc_in w (inX10 w h)) hown hK hH.1 0 (mwc0 C A u286219) rfl 38 (by decide) (hts _ (uc_in _ q_f1226)) (fun _ h9 => h9) rfl dX10_laysAway_230 ?_
                                      refine lv_iload hx hb dX10_laysAway_233 (lv_at hl 0 rfl) ?_
                                      refine lv_dup2_11 hx hb dX10_laysAway_235 rfl rfl ?_
                                      refine va_iald hx hb hK hH.1 18 1 (mwc18 C A u286219) rfl (i_ix rfl (by omega) (by omega)) dX10_laysAway_236 ?_
                                      refine p_any (fun z286224 => ?_)
                                      refine lv_iload_n hx hb dX10_laysAway_237 rfl (lv_at hl 1 rfl) ?_
                                      refine lv_iload hx hb dX10_laysAway_238 (lv_at hl 0 rfl) ?_
                                      refine csS (n := 2) (As := [.int y283353d, .int y286218d]) (rest := [.int z286224, .int y286218d, .ref (A 18)]) ⟨hx, hb, hml, hown, hts⟩ uc_in (kX10_isBit_0 l D C A u286219 hI y283353d y283353d.toInt rfl y286218d y286218d.toInt rfl) q_m1489 q_s1490 q_i11 q_c1491 hvX10_isBit ⟨(Nat.le_of_ble_eq_true rfl), (Nat.le_of_ble_eq_true rfl)⟩ ⟨(Nat.le_of_ble_eq_true rfl), (Nat.le_of_ble_eq_true rfl)⟩ hK hH.1 rfl hl.1 rfl (Nat.le_of_ble_eq_true rfl) dX10_laysAway_240 (fun r286225 p286226 => ?_)
                                      have p286226 : 0 ≤ r286225.toInt ∧ r286225.toInt ≤ 1 := by rcases p286226 with ⟨e9, -⟩ | ⟨e9, -⟩ <;> rw [e9] <;> decide
                                      have j251_286232 : ∀ (ls : Array Slot) (y286228d : Int32), 0 ≤ y286228d.toInt → y286228d.toInt ≤ 1 → lv_has ls 7 [(5, .int y286218d), (3, .int y283353d), (2, .int y249314d), (0, .ref (A 0)), (1, .int a0)] → W p l e (rmL 4 0 0) s m ar below meth c H locs 0 0 Q (F0 m 251 ls [.int y286228d, .int z286224, .int y286218d, .ref (A 18)]) := by
                                        intro ls y286228d ly286228d my286228d hl
                                        refine lv_iadd hx hb dX10_laysAway_251 ?_
                                        refine p_any (fun z286234 => ?_)
                                        refine r_iast (j := 18) hx hb hK hH 18 1 (mwc18 C A u286219) rfl (i_ix rfl (by omega) (by omega)) (mwa18 C A u286219) dX10_laysAway_252 (fun u286235 eu286235 H locs hH => ?_)
                                        have hI := hI.pa0 eu286235 (by decide) (by decide) (by decide)
                                        obtain ⟨z286236, ez286236⟩ : ∃ z, z = y286218d + Int32.ofInt 1 := ⟨_, rfl⟩
                                        have hz286236 : z286236.toInt = y286218d.toInt + 1 := by rw [ez286236]; exact tt_add rfl (by decide) (by omega) (by omega)
                                        refine lv_iinc (v := z286236) (lv' := [(5, .int z286236), (3, .int y283353d), (2, .int y249314d), (0, .ref (A 0)), (1, .int a0)]) hx hb dX10_laysAway_253 hl (k := 0) rfl ez286236.symm (by decide) rfl (fun ls hl => ?_)
                                        refine lv_goto (tgt := 220) hx hb dX10_laysAway_256 (by decide) ?_
                                        exact ih220_286219 ls z286236 u286235 _ _ (by have q9 := (show z286236.toInt = (y286218d.toInt + 1) from hz286236); omega) (by have q9 := (show z286236.toInt = (y286218d.toInt + 1) from hz286236); omega) (by have q9 := (show z286236.toInt = (y286218d.toInt + 1) from hz286236); omega) (Un.sa hUu286219 rfl eu286235) hI hH hl
                                      refine lv_if_eq (tgt := 250) hx hb dX10_laysAway_243 (by decide) (fun c286227 => ?_) (fun c286227 => ?_)
                                      · have c286227 := cEQ (x := r286225) (y := 0) (X := r286225.toInt) (Y := 0) rfl (by decide) c286227
                                        refine lv_iconst (v := 0) hx hb dX10_laysAway_250 (by decide) ?_
                                        exact j251_286232 ls 0 (by decide) (by decide) hl
                                      · have c286227 := cNE (x := r286225) (y := 0) (X := r286225.toInt) (Y := 0) rfl (by decide) c286227
                                        refine lv_iconst (v := 1) hx hb dX10_laysAway_246 (by decide) ?_
                                        refine lv_goto (tgt := 251) hx hb dX10_laysAway_247 (by decide) ?_
                                        exact j251_286232 ls 1 (by decide) (by decide) hl
                                exact lp220_286219 7 ls 0 u286138 _ _ (by decide) (by decide) (by have q9 : (0 : Int32).toInt = 0 := (by decide); omega) Un.rf hI hH hl
                              have j212_286237 : ∀ (ls : Array Slot), lv_has ls 7 [(3, .int y283353d), (2, .int y249314d), (0, .ref (A 0)), (1, .int a0)] → W p l e (rmL 4 0 0) s m ar below meth c H locs 0 0 Q (F0 m 212 ls []) := by
                                intro ls hl
                                refine lv_aload_n hx hb dX10_laysAway_212 rfl (lv_at hl 2 rfl) ?_
                                refine lv_iload_n hx hb dX10_laysAway_213 rfl (lv_at hl 0 rfl) ?_
                                refine r_put (j := 40) (ci := 10) (C := RX10) (T := TX10) (N := 42) hx hb hts (fun w h => uc_in w (inX10 w h)) tyX10 tyX10_ok nmX10 hown hK hH 0 (mwc0 C A u286038) rfl 40 (by decide) (hts _ (uc_in _ q_f1228)) (fun _ h9 => h9) rfl (by decide +kernel) (Nat.le_of_ble_eq_true rfl) (mws40 C A u286038 _) dX10_laysAway_214 (fun u286239 eu286239 H locs hH => ?_)
                                have hI := hI.pi0 eu286239 rfl
                                exact j217_286138 ls u286239 _ _ (Un.si Un.rf rfl eu286239) hI hH hl
                              refine lv_icmp_eq (tgt := 212) hx hb dX10_laysAway_195 (by decide) (fun c286039 => ?_) (fun c286039 => ?_)
                              · have c286039 := cEQ (x := (gi u286038 40)) (y := (-1)) (X := ((gi u286038 40)).toInt) (Y := (-1)) rfl (by decide) c286039
                                exact j212_286237 ls (lv_sub hl [2, 3, 4, 5] rfl)
                              · refine lv_iload_n hx hb dX10_laysAway_198 rfl (lv_at hl 2 rfl) ?_
                                refine csS (n := 1) (As := [.int y283353d]) (rest := []) ⟨hx, hb, hml, hown, hts⟩ uc_in (kX10_sizeOf_0 l D C A u286038 hI y283353d y283353d.toInt rfl) q_m1582 q_s1583 q_i11 q_c1584 hvX10_sizeOf ⟨(Nat.le_of_ble_eq_true rfl), (Nat.le_of_ble_eq_true rfl)⟩ ⟨(Nat.le_of_ble_eq_true rfl), (Nat.le_of_ble_eq_true rfl)⟩ hK hH.1 rfl hl.1 rfl (Nat.le_of_ble_eq_true rfl) dX10_laysAway_199 (fun r286240 p286241 => ?_)
                                have p286241 := p286241 (by omega) (by omega)
                                have br286240 := pc_bd p286241
                                refine lv_aload_n hx hb dX10_laysAway_202 rfl (lv_at hl 4 rfl) ?_
                                refine va_get (ci := 10) (v := .int (gi u286038 40)) (C := RX10) (T := TX10) (N := 42) hx hb hts (fun w h => uc_in w (inX10 w h)) hown hK hH.1 0 (mwc0 C A u286038) rfl 40 (by decide) (hts _ (uc_in _ q_f1228)) (fun _ h9 => h9) rfl dX10_laysAway_203 ?_
                                refine csS (n := 1) (As := [.int (gi u286038 40)]) (rest := [.int r286240]) ⟨hx, hb, hml, hown, hts⟩ uc_in (kX10_sizeOf_0 l D C A u286038 hI (gi u286038 40) (((gi u286038 40)).toInt) rfl) q_m1582 q_s1583 q_i11 q_c1584 hvX10_sizeOf ⟨(Nat.le_of_ble_eq_true rfl), (Nat.le_of_ble_eq_true rfl)⟩ ⟨(Nat.le_of_ble_eq_true rfl), (Nat.le_of_ble_eq_true rfl)⟩ hK hH.1 rfl hl.1 rfl (Nat.le_of_ble_eq_true rfl) dX10_laysAway_206 (fun r286242 p286243 => ?_)
                                refine lv_icmp_ge (tgt := 217) hx hb dX10_laysAway_209 (by decide) (fun c286244 => ?_) (fun c286244 => ?_)
                                · have c286244 := cLE (x := r286242) (y := r286240) (X := r286242.toInt) (Y := r286240.toInt) rfl rfl c286244
                                  exact j217_286138 ls u286038 _ _ Un.rf hI hH (lv_sub hl [2, 3, 4, 5] rfl)
                                · have c286244 := cNLE (x := r286242) (y := r286240) (X := r286242.toInt) (Y := r286240.toInt) rfl rfl c286244
                                  exact j212_286237 ls (lv_sub hl [2, 3, 4, 5] rfl)
                            · have c286036 := cEQ (x := y286031d) (y := 0) (X := y286031d.toInt) (Y := 0) rfl (by decide) c286036
                              refine lv_goto (tgt := 259) hx hb dX10_laysAway_177 (by decide) ?_
                              exact j259_284758 ls u286032 _ _ (Un.tr Un.rf hUu286032 rfl rfl rfl) hI hH (lv_sub hl [2, 3, 4, 5] rfl)
                          · have c286035 := cNLE (x := (ga u286032 2 (Int32.toNatClampNeg a0))) (y := y286030d) (X := ((ga u286032 2 (Int32.toNatClampNeg a0))).toInt) (Y := y286030d.toInt) rfl rfl c286035
                            refine lv_aload_n hx hb dX10_laysAway_106 rfl (lv_at hl 4 rfl) ?_
                            refine va_get (ci := 10) (v := .ref (A 3)) (C := RX10) (T := TX10) (N := 42) hx hb hts (fun w h => uc_in w (inX10 w h)) hown hK hH.1 0 (mwc0 C A u286032) rfl 3 (by decide) (hts _ (uc_in _ q_f1191)) (fun _ h9 => h9) rfl dX10_laysAway_107 ?_
                            refine lv_bipush (v := 60) hx hb dX10_laysAway_110 (by decide) ?_
                            refine lv_iload_n hx hb dX10_laysAway_112 rfl (lv_at hl 5 rfl) ?_
                            refine lv_imul hx hb dX10_laysAway_113 ?_
                            refine p_nm (tt_mul (X := 60) (Y := A0) (by decide) ha0 (by omega) (by omega)) (fun z286245 hz286245 => ?_)
                            refine lv_iload hx hb dX10_laysAway_114 (lv_at hl 0 rfl) ?_
                            refine lv_iadd hx hb dX10_laysAway_116 ?_
                            refine p_nm (tt_add (X := (60 * A0)) (Y := y286030d.toInt) hz286245 rfl (by omega) (by omega)) (fun z286246 hz286246 => ?_)
                            refine va_lald hx hb hK hH.1 3 2 (mwc3 C A u286032) rfl (i_ix hz286246 (by omega) (by omega)) dX10_laysAway_117 ?_
                            have b286247 := RowTo.at (J := y286030d.toInt) (RowOK.un (L := [(24, 24), (25, 25), (39, 39), (40, 40)]) (M := [(12, 12), (13, 13), (18, 18)]) (N := []) hrow (Un.tr (Un.tr (Un.tr (Un.tr (Un.si (Un.si (Un.tr Un.rf hUu1 rfl rfl rfl) rfl eu4) rfl eu5) hUu142398 rfl rfl rfl) hUu249315 rfl rfl rfl) hUu283354 rfl rfl rfl) hUu286032 rfl rfl rfl) rfl rfl) hz286246 (by omega) (by omega) (by omega) (by omega) (by omega)
                            refine lv_l2i hx hb dX10_laysAway_118 rfl ?_
                            refine p_nm (tt_l2i rfl (by omega) (by omega)) (fun z286248 hz286248 => ?_)
                            refine lv_istore (lv' := [(6, .int z286248), (5, .int y286030d), (4, .int y286031d), (3, .int y283353d), (2, .int y249314d), (0, .ref (A 0)), (1, .int a0)]) hx hb dX10_laysAway_119 hl (by decide) rfl (fun ls hl => ?_)
                            refine lv_iload hx hb dX10_laysAway_121 (lv_at hl 2 rfl) ?_
                            refine lv_aload_n hx hb dX10_laysAway_123 rfl (lv_at hl 5 rfl) ?_
                            refine lv_iload hx hb dX10_laysAway_124 (lv_at hl 0 rfl) ?_
                            refine lv_aload_n hx hb dX10_laysAway_126 rfl (lv_at hl 5 rfl) ?_
                            refine lv_iload hx hb dX10_laysAway_127 (lv_at hl 0 rfl) ?_
                            refine cvS (n := 1) (As := [.int z286248]) (rest := [.int z286248, .ref (A 0), .int y286031d]) ⟨hx, hb, hml, hown, hts⟩ uc_in (kX10_countsOf_0 l D C A u286032 hI z286248 (((gb u286032 3 (Int32.toNatClampNeg z286246))).toInt) hz286248 (by omega) (by omega)) q_m1500 q_n1502 q_p78 q_i11 q_c1503 hvX10_countsOf ⟨(Nat.le_of_ble_eq_true rfl), (Nat.le_of_ble_eq_true rfl)⟩ ⟨(Nat.le_of_ble_eq_true rfl), (Nat.le_of_ble_eq_true rfl)⟩ hK hH.1 10 0 rfl (mwc0 C A u286032) rfl hl.1 rfl (Nat.le_of_ble_eq_true rfl) dX10_laysAway_129 (fun r286249 p286250 => ?_)
                            have g286251 : (ga u286032 7 3).toInt ≤ 6 := (hI.has 3).2
                            have br286249 : 0 ≤ r286249.toInt ∧ r286249.toInt ≤ 63 := ⟨p286250.1, p286250.2.1⟩
                            refine lv_iload_n hx hb dX10_laysAway_132 rfl (lv_at hl 3 rfl) ?_
                            refine lv_iconst (v := (-1)) hx hb dX10_laysAway_133 (by decide) ?_
                            refine lv_ixor hx hb dX10_laysAway_134 ?_
                            refine p_any (fun z286252 => ?_)
                            refine lv_iand hx hb dX10_laysAway_135 ?_
                            have gz286253 := tt_andL (x := r286249) (y := z286252) (X := r286249.toInt) rfl (by omega)
                            refine p_bd (P := fun q => 0 ≤ q ∧ q ≤ 63) ⟨by omega, by omega⟩ (fun z286254 bz286254 => ?_)
                            have bz286254 : 0 ≤ z286254.toInt ∧ z286254.toInt ≤ 63 := bz286254
                            refine cvS (n := 2) (As := [.int z286248, .int z286254]) (rest := [.int y286031d]) ⟨hx, hb, hml, hown, hts⟩ uc_in (kX10_noonOf_0 l D C A u286032 hI z286248 (((gb u286032 3 (Int32.toNatClampNeg z286246))).toInt) hz286248 z286254 z286254.toInt rfl (by omega) (by omega)) q_m1504 q_n1506 q_p79 q_i11 q_c1507 hvX10_noonOf ⟨(Nat.le_of_ble_eq_true rfl), (Nat.le_of_ble_eq_true rfl)⟩ ⟨(Nat.le_of_ble_eq_true rfl), (Nat.le_of_ble_eq_true rfl)⟩ hK hH.1 10 0 rfl (mwc0 C A u286032) rfl hl.1 rfl (Nat.le_of_ble_eq_true rfl) dX10_laysAway_136 (fun r286255 p286256 => ?_)
                            refine lv_i2l (v := r286255.toInt64) hx hb dX10_laysAway_139 rfl ?_
                            refine lv_aload_n hx hb dX10_laysAway_140 rfl (lv_at hl 5 rfl) ?_
                            refine va_get (ci := 10) (v := .ref (A 3)) (C := RX10) (T := TX10) (N := 42) hx hb hts (fun w h => uc_in w (inX10 w h)) hown hK hH.1 0 (mwc0 C A u286032) rfl 3 (by decide) (hts _ (uc_in _ q_f1191)) (fun _ h9 => h9) rfl dX10_laysAway_141 ?_
                            refine lv_bipush (v := 60) hx hb dX10_laysAway_144 (by decide) ?_
                            refine lv_iload_n hx hb dX10_laysAway_146 rfl (lv_at hl 6 rfl) ?_
                            refine lv_imul hx hb dX10_laysAway_147 ?_
                            refine p_nm (tt_mul (X := 60) (Y := A0) (by decide) ha0 (by omega) (by omega)) (fun z286257 hz286257 => ?_)
                            refine lv_iload hx hb dX10_laysAway_148 (lv_at hl 1 rfl) ?_
                            refine lv_iadd hx hb dX10_laysAway_150 ?_
                            refine p_nm (tt_add (X := (60 * A0)) (Y := y286030d.toInt) hz286257 rfl (by omega) (by omega)) (fun z286258 hz286258 => ?_)
                            refine lv_iconst (v := 1) hx hb dX10_laysAway_151 (by decide) ?_
                            refine lv_iadd hx hb dX10_laysAway_152 ?_
                            refine p_nm (tt_add (X := ((60 * A0) + y286030d.toInt)) (Y := 1) hz286258 (by decide) (by omega) (by omega)) (fun z286259 hz286259 => ?_)
                            refine va_lald hx hb hK hH.1 3 2 (mwc3 C A u286032) rfl (i_ix hz286259 (by omega) (by omega)) dX10_laysAway_153 ?_
                            refine W.lcmp hx hb dX10_laysAway_154 ?_
                            have j163_286265 : ∀ (ls : Array Slot) (y286261d : Int32), 0 ≤ y286261d.toInt → y286261d.toInt ≤ 1 → lv_has ls 7 [(5, .int y286030d), (3, .int y283353d), (2, .int y249314d), (0, .ref (A 0)), (1, .int a0)] → W p l e (rmL 4 0 0) s m ar below meth c H locs 0 0 Q (F0 m 163 ls [.int y286261d, .int y286031d]) := by
                              intro ls y286261d ly286261d my286261d hl
                              refine lv_iand hx hb dX10_laysAway_163 ?_
                              have gz286267 := tt_andR (x := y286031d) (y := y286261d) (Y := y286261d.toInt) rfl (by omega)
                              refine p_bd (P := fun q => 0 ≤ q ∧ q ≤ 1) ⟨by omega, by omega⟩ (fun z286268 bz286268 => ?_)
                              have bz286268 : 0 ≤ z286268.toInt ∧ z286268.toInt ≤ 1 := bz286268
                              refine lv_istore (lv' := [(4, .int z286268), (5, .int y286030d), (3, .int y283353d), (2, .int y249314d), (0, .ref (A 0)), (1, .int a0)]) hx hb dX10_laysAway_164 hl (by decide) rfl (fun ls hl => ?_)
                              obtain ⟨z286269, ez286269⟩ : ∃ z, z = y286030d + Int32.ofInt 2 := ⟨_, rfl⟩
                              have hz286269 : z286269.toInt = y286030d.toInt + 2 := by rw [ez286269]; exact tt_add rfl (by decide) (by omega) (by omega)
                              refine lv_iinc (v := z286269) (lv' := [(5, .int z286269), (4, .int z286268), (3, .int y283353d), (2, .int y249314d), (0, .ref (A 0)), (1, .int a0)]) hx hb dX10_laysAway_166 hl (k := 1) rfl ez286269.symm (by decide) rfl (fun ls hl => ?_)
                              refine lv_goto (tgt := 95) hx hb dX10_laysAway_169 (by decide) ?_
                              exact ih95_286032 ls z286269 z286268 u286032 _ _ (by have q9 := (show z286269.toInt = (y286030d.toInt + 2) from hz286269); omega) (by have q9 := (show z286269.toInt = (y286030d.toInt + 2) from hz286269); omega) (by omega) (by omega) (by have r5 := (show (z286269 : Int32).toInt = (y286030d.toInt + 2) from hz286269); omega) (by have q9 := (show z286269.toInt = (y286030d.toInt + 2) from hz286269); omega) hUu286032 hI hH hl
                            refine lv_if_ne (tgt := 162) hx hb dX10_laysAway_155 (by decide) (fun c286260 => ?_) (fun c286260 => ?_)
                            · refine lv_iconst (v := 0) hx hb dX10_laysAway_162 (by decide) ?_
                              exact j163_286265 ls 0 (by decide) (by decide) (lv_sub hl [1, 3, 4, 5, 6] rfl)
                            · refine lv_iconst (v := 1) hx hb dX10_laysAway_158 (by decide) ?_
                              refine lv_goto (tgt := 163) hx hb dX10_laysAway_159 (by decide) ?_
                              exact j163_286265 ls 1 (by decide) (by decide) (lv_sub hl [1, 3, 4, 5, 6] rfl)
                      exact lp95_286032 62 ls 0 1 u283354 _ _ (by decide) (by decide) (by decide) (by decide) (by have r5 := (show (0 : Int32).toInt = 0 from (by decide)); omega) (by have q9 : (0 : Int32).toInt = 0 := (by decide); omega) Un.rf hI hH hl
                    · have c283360 := cNE (x := z283359) (y := 0) (X := z283359.toInt) (Y := 0) rfl (by decide) c283360
                      refine lv_goto (tgt := 259) hx hb dX10_laysAway_86 (by decide) ?_
                      exact j259_284758 ls u283354 _ _ Un.rf hI hH hl
              exact lp73_283354 65 ls 0 u249315 _ _ (by decide) (by decide) (by have q9 : (0 : Int32).toInt = 0 := (by decide); omega) Un.rf hI hH hl
            · have c249320 := cNLE (x := (ga u249315 7 3)) (y := y249313d) (X := ((ga u249315 7 3)).toInt) (Y := y249313d.toInt) rfl rfl c249320
              refine lv_iload_n hx hb dX10_laysAway_47 rfl (lv_at hl 1 rfl) ?_
              refine lv_aload_n hx hb dX10_laysAway_48 rfl (lv_at hl 2 rfl) ?_
              refine lv_iload_n hx hb dX10_laysAway_49 rfl (lv_at hl 0 rfl) ?_
              refine cvS (n := 1) (As := [.int y249313d]) (rest := [.int y249314d]) ⟨hx, hb, hml, hown, hts⟩ uc_in (kX10_mayBeAway_0 l D C A u249315 hI y249313d y249313d.toInt rfl (by omega) (by omega)) q_m1796 q_n1798 q_p106 q_i11 q_c1799 hvX10_mayBeAway ⟨(Nat.le_of_ble_eq_true rfl), (Nat.le_of_ble_eq_true rfl)⟩ ⟨(Nat.le_of_ble_eq_true rfl), (Nat.le_of_ble_eq_true rfl)⟩ hK hH.1 10 0 rfl (mwc0 C A u249315) rfl hl.1 rfl (Nat.le_of_ble_eq_true rfl) dX10_laysAway_50 (fun r286270 p286271 => ?_)
              have p286271 : 0 ≤ r286270.toInt ∧ r286270.toInt ≤ 1 := p286271
              have j63_286279 : ∀ (ls : Array Slot) (y286275d : Int32), 0 ≤ y286275d.toInt → y286275d.toInt ≤ 32 → lv_has ls 7 [(3, .int y249313d), (0, .ref (A 0)), (1, .int a0)] → W p l e (rmL 4 0 0) s m ar below meth c H locs 0 0 Q (F0 m 63 ls [.int y286275d, .int y249314d]) := by
                intro ls y286275d ly286275d my286275d hl
                refine lv_ior hx hb dX10_laysAway_63 ?_
                have gz286281 := tt_or (x := y249314d) (y := y286275d) (X := y249314d.toInt) (Y := y286275d.toInt) rfl rfl 6 (by decide) (by omega) (by omega) (by omega) (by omega)
                refine p_bd (P := fun q => 0 ≤ q ∧ q ≤ 63) ⟨by omega, by omega⟩ (fun z286282 bz286282 => ?_)
                have bz286282 : 0 ≤ z286282.toInt ∧ z286282.toInt ≤ 63 := bz286282
                refine lv_istore_n (lv' := [(2, .int z286282), (3, .int y249313d), (0, .ref (A 0)), (1, .int a0)]) hx hb dX10_laysAway_64 rfl hl (by decide) rfl (fun ls hl => ?_)
                obtain ⟨z286283, ez286283⟩ : ∃ z, z = y249313d + Int32.ofInt 1 := ⟨_, rfl⟩
                have hz286283 : z286283.toInt = y249313d.toInt + 1 := by rw [ez286283]; exact tt_add rfl (by decide) (by omega) (by omega)
                refine lv_iinc (v := z286283) (lv' := [(3, .int z286283), (2, .int z286282), (0, .ref (A 0)), (1, .int a0)]) hx hb dX10_laysAway_65 hl (k := 1) rfl ez286283.symm (by decide) rfl (fun ls hl => ?_)
                refine lv_goto (tgt := 39) hx hb dX10_laysAway_68 (by decide) ?_
                exact ih39_249315 ls z286283 z286282 u249315 _ _ (by have q9 := (show z286283.toInt = (y249313d.toInt + 1) from hz286283); omega) (by have q9 := (show z286283.toInt = (y249313d.toInt + 1) from hz286283); omega) (by omega) (by omega) hku249315_0 hku249315_1 (by have q9 := (show z286283.toInt = (y249313d.toInt + 1) from hz286283); omega) hUu249315 hI hH hl
              refine lv_if_eq (tgt := 62) hx hb dX10_laysAway_53 (by decide) (fun c286272 => ?_) (fun c286272 => ?_)
              · have c286272 := cEQ (x := r286270) (y := 0) (X := r286270.toInt) (Y := 0) rfl (by decide) c286272
                refine lv_iconst (v := 0) hx hb dX10_laysAway_62 (by decide) ?_
                exact j63_286279 ls 0 (by decide) (by decide) (lv_sub hl [0, 2, 3] rfl)
              · have c286272 := cNE (x := r286270) (y := 0) (X := r286270.toInt) (Y := 0) rfl (by decide) c286272
                refine lv_iconst (v := 1) hx hb dX10_laysAway_56 (by decide) ?_
                refine lv_iload_n hx hb dX10_laysAway_57 rfl (lv_at hl 0 rfl) ?_
                refine lv_ishl hx hb dX10_laysAway_58 ?_
                have gz286284 := tt_shl1 (y := y249313d) (Y := y249313d.toInt) rfl (by omega) (by omega)
                refine p_bd (P := fun q => 1 ≤ q ∧ q ≤ 32) ⟨by omega, by omega⟩ (fun z286285 bz286285 => ?_)
                have bz286285 : 1 ≤ z286285.toInt ∧ z286285.toInt ≤ 32 := bz286285
                refine lv_goto (tgt := 63) hx hb dX10_laysAway_59 (by decide) ?_
                exact j63_286279 ls z286285 (by omega) (by omega) (lv_sub hl [0, 2, 3] rfl)
        exact lp39_249315 7 ls 0 0 u142398 _ _ (by decide) (by decide) (by decide) (by decide) hku142398_0 hku142398_1 (by have q9 : (0 : Int32).toInt = 0 := (by decide); omega) Un.rf hI hH hl
      · have c142400 := cNLE (x := 6) (y := y142397d) (X := 6) (Y := y142397d.toInt) (by decide) rfl c142400
        refine lv_aload_n hx hb dX10_laysAway_22 rfl (lv_at hl 1 rfl) ?_
        refine va_get (ci := 10) (v := .ref (A 18)) (C := RX10) (T := TX10) (N := 42) hx hb hts (fun w h => uc_in w (inX10 w h)) hown hK hH.1 0 (mwc0 C A u142398) rfl 38 (by decide) (hts _ (uc_in _ q_f1226)) (fun _ h9 => h9) rfl dX10_laysAway_23 ?_
        refine lv_iload_n hx hb dX10_laysAway_26 rfl (lv_at hl 0 rfl) ?_
        refine lv_iconst (v := 0) hx hb dX10_laysAway_27 (by decide) ?_
        refine r_iast (j := 18) hx hb hK hH 18 1 (mwc18 C A u142398) rfl (i_ix rfl (by omega) (by omega)) (mwa18 C A u142398) dX10_laysAway_28 (fun u286286 eu286286 H locs hH => ?_)
        have hI := hI.pa0 eu286286 (by decide) (by decide) (by decide)
        obtain ⟨z286287, ez286287⟩ : ∃ z, z = y142397d + Int32.ofInt 1 := ⟨_, rfl⟩
        have hz286287 : z286287.toInt = y142397d.toInt + 1 := by rw [ez286287]; exact tt_add rfl (by decide) (by omega) (by omega)
        refine lv_iinc (v := z286287) (lv' := [(2, .int z286287), (0, .ref (A 0)), (1, .int a0)]) hx hb dX10_laysAway_29 hl (k := 0) rfl ez286287.symm (by decide) rfl (fun ls hl => ?_)
        refine lv_goto (tgt := 16) hx hb dX10_laysAway_32 (by decide) ?_
        exact ih16_142398 ls z286287 u286286 _ _ (by have q9 := (show z286287.toInt = (y142397d.toInt + 1) from hz286287); omega) (by have q9 := (show z286287.toInt = (y142397d.toInt + 1) from hz286287); omega) ((gi_sa eu286286).trans hku142398_0) ((gi_sa eu286286).trans hku142398_1) (by have q9 := (show z286287.toInt = (y142397d.toInt + 1) from hz286287); omega) (Un.sa hUu142398 rfl eu286286) hI hH hl
  exact lp16_142398 7 ls 0 u5 _ _ (by decide) (by decide) ((gi_ne eu5 (by decide)).trans (gi_si eu4)) (gi_si eu5) (by have q9 : (0 : Int32).toInt = 0 := (by decide); omega) Un.rf hI hH hl
set_option maxHeartbeats 4000000 in
set_option maxRecDepth 100000 in
theorem kX10_ask_0 (l : Launch) (D : va_G) (C : Nat → ClassId) (A : Nat → Nat) (u : St) (hI : IM u) (a0 : Int32) (A0 : Int) (ha0 : a0.toInt = A0) (sz : Nat) : MetI l yX10_ask cX10_ask 7 (some .int) 5 [.ref (A 0), .int a0] D (tyl C) (mw C A) X0 u sz (fun r u' => IM u' ∧ Un [(0, 0), (24, 24), (25, 25), (39, 39), (40, 40)] [(12, 12), (13, 13), (18, 18)] [] u u' ∧ ((-6) ≤ r.toInt ∧ r.toInt ≤ 5)) := by
  refine mI (by decide) (Nat.le_of_ble_eq_true rfl) ?_
  intro p e s m below meth c ls ar Q hx hb hml hown hts hK hH hX hl hret
  have hown : s.vm.findClass RX10 = some m.cls := hown
  have hl : lv_has ls 7 [(0, .ref (A 0)), (1, .int a0)] := hl
  refine lv_aload_n hx hb dX10_ask_0 rfl (lv_at hl 0 rfl) ?_
  refine lv_iconst (v := 0) hx hb dX10_ask_1 (by decide) ?_
  refine r_put (j := 0) (ci := 10) (C := RX10) (T := TX10) (N := 42) hx hb hts (fun w h => uc_in w (inX10 w h)) tyX10 tyX10_ok nmX10 hown hK hH 0 (mwc0 C A u) rfl 0 (by decide) (hts _ (uc_in _ q_f1188)) (fun _ h9 => h9) rfl (by decide +kernel) (Nat.le_of_ble_eq_true rfl) (mws0 C A u _) dX10_ask_2 (fun u1 eu1 H locs hH => ?_)
  have hI := hI.pi0 eu1 rfl
  refine lv_aload_n hx hb dX10_ask_5 rfl (lv_at hl 0 rfl) ?_
  refine lv_iload_n hx hb dX10_ask_6 rfl (lv_at hl 1 rfl) ?_
  refine cvS (n := 1) (As := [.int a0]) (rest := []) ⟨hx, hb, hml, hown, hts⟩ uc_in (kX10_whyNot_0 l D C A u1 hI a0 A0 ha0) q_m1788 q_n1790 q_p104 q_i11 q_c1791 hvX10_whyNot ⟨(Nat.le_of_ble_eq_true rfl), (Nat.le_of_ble_eq_true rfl)⟩ ⟨(Nat.le_of_ble_eq_true rfl), (Nat.le_of_ble_eq_true rfl)⟩ hK hH.1 10 0 rfl (mwc0 C A u1) rfl hl.1 rfl (Nat.le_of_ble_eq_true rfl) dX10_ask_7 (fun r2 p3 => ?_)
  rcases p3 with p3 | ⟨e9, f4, f5, f6⟩
  · have p3 := p3
    refine lv_istore_n (lv' := [(2, .int r2), (0, .ref (A 0)), (1, .int a0)]) hx hb dX10_ask_10 rfl hl (by decide) rfl (fun ls hl => ?_)
    refine lv_iload_n hx hb dX10_ask_11 rfl (lv_at hl 0 rfl) ?_
    refine lv_if_eq (tgt := 17) hx hb dX10_ask_12 (by decide) (fun c7 => absurd (cEQ (x := r2) (y := 0) (X := r2.toInt) (Y := 0) rfl (by decide) c7) (by omega)) (fun c7 => ?_)
    refine lv_iload_n hx hb dX10_ask_15 rfl (lv_at hl 0 rfl) ?_
    exact hret _ _ _ _ r2 _ dX10_ask_16 rfl ⟨hI, (Un.si Un.rf rfl eu1), ⟨by omega, by omega⟩⟩ hH
  · subst e9
    refine lv_istore_n (lv' := [(2, .int 0), (0, .ref (A 0)), (1, .int a0)]) hx hb dX10_ask_10 rfl hl (by decide) rfl (fun ls hl => ?_)
    refine lv_iload_n hx hb dX10_ask_11 rfl (lv_at hl 0 rfl) ?_
    refine lv_if_eq (tgt := 17) hx hb dX10_ask_12 (by decide) (fun c8 => ?_) (fun c8 => absurd c8 (by decide))
    refine lv_aload_n hx hb dX10_ask_17 rfl (lv_at hl 1 rfl) ?_
    refine lv_iload_n hx hb dX10_ask_18 rfl (lv_at hl 2 rfl) ?_
    refine cvU (n := 1) (As := [.int a0]) (rest := []) ⟨hx, hb, hml, hown, hts⟩ uc_in (kX10_laysAway_0 l D C A u1 hI a0 A0 ha0 (by omega) (by omega) f6 _) q_m1792 q_n1794 q_p105 q_i11 q_c1795 hvX10_laysAway ⟨(Nat.le_of_ble_eq_true rfl), (Nat.le_of_ble_eq_true rfl)⟩ ⟨(Nat.le_of_ble_eq_true rfl), (Nat.le_of_ble_eq_true rfl)⟩ hK hH (fun q h => Or.inr h) Bl0 (fun _ _ _ => trivial) 10 0 rfl (mwc0 C A u1) rfl hl.1 rfl (Nat.le_of_ble_eq_true rfl) dX10_ask_19 (fun u9 H locs p11 hH => ?_)
    obtain ⟨hI, hUu9, p11⟩ := p11
    refine lv_iconst (v := (-1)) hx hb dX10_ask_22 (by decide) ?_
    refine lv_istore_n (lv' := [(3, .int (-1)), (2, .int 0), (0, .ref (A 0)), (1, .int a0)]) hx hb dX10_ask_23 rfl hl (by decide) rfl (fun ls hl => ?_)
    refine lv_aload_n hx hb dX10_ask_24 rfl (lv_at hl 2 rfl) ?_
    refine va_get (ci := 10) (v := .int (gi u9 39)) (C := RX10) (T := TX10) (N := 42) hx hb hts (fun w h => uc_in w (inX10 w h)) hown hK hH.1 0 (mwc0 C A u9) rfl 39 (by decide) (hts _ (uc_in _ q_f1227)) (fun _ h9 => h9) rfl dX10_ask_25 ?_
    refine lv_istore (lv' := [(4, .int (gi u9 39)), (3, .int (-1)), (2, .int 0), (0, .ref (A 0)), (1, .int a0)]) hx hb dX10_ask_28 hl (by decide) rfl (fun ls hl => ?_)
    refine lv_iconst (v := 0) hx hb dX10_ask_30 (by decide) ?_
    refine lv_istore (lv' := [(5, .int 0), (4, .int (gi u9 39)), (3, .int (-1)), (2, .int 0), (0, .ref (A 0)), (1, .int a0)]) hx hb dX10_ask_31 hl (by decide) rfl (fun ls hl => ?_)
    have lp33_120 : ∀ (n33 : Nat) (ls : Array Slot) (y118d : Int32) (y119d : Int32) (y120d : Int32), 0 ≤ y118d.toInt → y118d.toInt ≤ 6 → (-1) ≤ y120d.toInt → y120d.toInt ≤ 5 → 6 - y118d.toInt < (n33 : Int) → lv_has ls 7 [(5, .int y118d), (4, .int y119d), (3, .int y120d), (0, .ref (A 0))] → W p l e (rmL 5 0 0) s m ar below meth c H locs 0 0 Q (F0 m 33 ls []) := by
      intro n33
      induction n33 with
      | zero => intro ls y118d y119d y120d ly118d my118d ly120d my120d hmun33 hl; exfalso; omega
      | succ n33 ih33_120 =>
        intro ls y118d y119d y120d ly118d my118d ly120d my120d hmun33 hl
        refine lv_iload hx hb dX10_ask_33 (lv_at hl 0 rfl) ?_
        refine lv_aload_n hx hb dX10_ask_35 rfl (lv_at hl 3 rfl) ?_
        refine cvS (n := 0) (As := []) (rest := [.int y118d]) ⟨hx, hb, hml, hown, hts⟩ uc_in (kX10_clocks_0 l D C A u9 hI ) q_m1464 q_n1466 q_p72 q_i11 q_c1467 hvX10_clocks ⟨(Nat.le_of_ble_eq_true rfl), (Nat.le_of_ble_eq_true rfl)⟩ ⟨(Nat.le_of_ble_eq_true rfl), (Nat.le_of_ble_eq_true rfl)⟩ hK hH.1 10 0 rfl (mwc0 C A u9) rfl hl.1 rfl (Nat.le_of_ble_eq_true rfl) dX10_ask_36 (fun r122 p123 => ?_)
        subst p123
        have b124 : 0 ≤ ((ga u9 7 3)).toInt ∧ ((ga u9 7 3)).toInt ≤ 6 := hI.has 3
        refine lv_icmp_ge (tgt := 111) hx hb dX10_ask_39 (by decide) (fun c125 => ?_) (fun c125 => ?_)
        · have c125 := cLE (x := (ga u9 7 3)) (y := y118d) (X := ((ga u9 7 3)).toInt) (Y := y118d.toInt) rfl rfl c125
          refine lv_iload_n hx hb dX10_ask_111 rfl (lv_at hl 2 rfl) ?_
          exact hret _ _ _ _ y120d _ dX10_ask_112 rfl ⟨hI, (Un.tr (Un.si Un.rf rfl eu1) hUu9 rfl rfl rfl), ⟨by omega, by omega⟩⟩ hH
        · have c125 := cNLE (x := (ga u9 7 3)) (y := y118d) (X := ((ga u9 7 3)).toInt) (Y := y118d.toInt) rfl rfl c125
          refine lv_aload_n hx hb dX10_ask_42 rfl (lv_at hl 3 rfl) ?_
          refine va_get (ci := 10) (v := .ref (A 18)) (C := RX10) (T := TX10) (N := 42) hx hb hts (fun w h => uc_in w (inX10 w h)) hown hK hH.1 0 (mwc0 C A u9) rfl 38 (by decide) (hts _ (uc_in _ q_f1226)) (fun _ h9 => h9) rfl dX10_ask_43 ?_
          refine lv_iload hx hb dX10_ask_46 (lv_at hl 0 rfl) ?_
          refine va_iald hx hb hK hH.1 18 1 (mwc18 C A u9) rfl (i_ix rfl (by omega) (by omega)) dX10_ask_48 ?_
          refine p_any (fun z126 => ?_)
          refine lv_aload_n hx hb dX10_ask_49 rfl (lv_at hl 3 rfl) ?_
          refine va_get (ci := 10) (v := .int (gi u9 39)) (C := RX10) (T := TX10) (N := 42) hx hb hts (fun w h => uc_in w (inX10 w h)) hown hK hH.1 0 (mwc0 C A u9) rfl 39 (by decide) (hts _ (uc_in _ q_f1227)) (fun _ h9 => h9) rfl dX10_ask_50 ?_
          refine lv_aload_n hx hb dX10_ask_53 rfl (lv_at hl 3 rfl) ?_
          refine va_get (ci := 10) (v := .ref (A 18)) (C := RX10) (T := TX10) (N := 42) hx hb hts (fun w h => uc_in w (inX10 w h)) hown hK hH.1 0 (mwc0 C A u9) rfl 38 (by decide) (hts _ (uc_in _ q_f1226)) (fun _ h9 => h9) rfl dX10_ask_54 ?_
          refine lv_iload hx hb dX10_ask_57 (lv_at hl 0 rfl) ?_
          refine va_iald hx hb hK hH.1 18 1 (mwc18 C A u9) rfl (i_ix rfl (by omega) (by omega)) dX10_ask_59 ?_
          refine p_any (fun z127 => ?_)
          refine lv_isub hx hb dX10_ask_60 ?_
          refine p_any (fun z128 => ?_)
          have j86_138 : ∀ (ls : Array Slot) (y133d : Int32), lv_has ls 7 [(5, .int y118d), (4, .int y119d), (3, .int y120d), (0, .ref (A 0))] → W p l e (rmL 5 0 0) s m ar below meth c H locs 0 0 Q (F0 m 86 ls [.int y133d]) := by
            intro ls y133d hl
            refine lv_istore (lv' := [(6, .int y133d), (5, .int y118d), (4, .int y119d), (3, .int y120d), (0, .ref (A 0))]) hx hb dX10_ask_86 hl (by decide) rfl (fun ls hl => ?_)
            refine lv_iload hx hb dX10_ask_88 (lv_at hl 0 rfl) ?_
            refine lv_iload hx hb dX10_ask_90 (lv_at hl 2 rfl) ?_
            have j105_144 : ∀ (ls : Array Slot) (y141d : Int32) (y142d : Int32), (-1) ≤ y142d.toInt → y142d.toInt ≤ 5 → lv_has ls 7 [(4, .int y141d), (3, .int y142d), (5, .int y118d), (0, .ref (A 0))] → W p l e (rmL 5 0 0) s m ar below meth c H locs 0 0 Q (F0 m 105 ls []) := by
              intro ls y141d y142d ly142d my142d hl
              obtain ⟨z146, ez146⟩ : ∃ z, z = y118d + Int32.ofInt 1 := ⟨_, rfl⟩
              have hz146 : z146.toInt = y118d.toInt + 1 := by rw [ez146]; exact tt_add rfl (by decide) (by omega) (by omega)
              refine lv_iinc (v := z146) (lv' := [(5, .int z146), (4, .int y141d), (3, .int y142d), (0, .ref (A 0))]) hx hb dX10_ask_105 hl (k := 2) rfl ez146.symm (by decide) rfl (fun ls hl => ?_)
              refine lv_goto (tgt := 33) hx hb dX10_ask_108 (by decide) ?_
              exact ih33_120 ls z146 y141d y142d (by have q9 := (show z146.toInt = (y118d.toInt + 1) from hz146); omega) (by have q9 := (show z146.toInt = (y118d.toInt + 1) from hz146); omega) (by omega) (by omega) (by have q9 := (show z146.toInt = (y118d.toInt + 1) from hz146); omega) hl
            refine lv_icmp_lt (tgt := 98) hx hb dX10_ask_92 (by decide) (fun c140 => ?_) (fun c140 => ?_)
            · have c140 := cLT (x := y133d) (y := y119d) (X := y133d.toInt) (Y := y119d.toInt) rfl rfl c140
              refine lv_iload hx hb dX10_ask_98 (lv_at hl 1 rfl) ?_
              refine lv_istore_n (lv' := [(3, .int y118d), (6, .int y133d), (5, .int y118d), (4, .int y119d), (0, .ref (A 0))]) hx hb dX10_ask_100 rfl hl (by decide) rfl (fun ls hl => ?_)
              refine lv_iload hx hb dX10_ask_101 (lv_at hl 1 rfl) ?_
              refine lv_istore (lv' := [(4, .int y133d), (3, .int y118d), (6, .int y133d), (5, .int y118d), (0, .ref (A 0))]) hx hb dX10_ask_103 hl (by decide) rfl (fun ls hl => ?_)
              exact j105_144 ls y133d y118d (by omega) (by omega) (lv_sub hl [0, 1, 3, 4] rfl)
            · have c140 := cNLT (x := y133d) (y := y119d) (X := y133d.toInt) (Y := y119d.toInt) rfl rfl c140
              refine lv_goto (tgt := 105) hx hb dX10_ask_95 (by decide) ?_
              exact j105_144 ls y119d y120d (by omega) (by omega) (lv_sub hl [2, 3, 1, 4] rfl)
          refine lv_icmp_le (tgt := 74) hx hb dX10_ask_61 (by decide) (fun c129 => ?_) (fun c129 => ?_)
          · have c129 := cLE (x := z126) (y := z128) (X := z126.toInt) (Y := z128.toInt) rfl rfl c129
            refine lv_aload_n hx hb dX10_ask_74 rfl (lv_at hl 3 rfl) ?_
            refine va_get (ci := 10) (v := .int (gi u9 39)) (C := RX10) (T := TX10) (N := 42) hx hb hts (fun w h => uc_in w (inX10 w h)) hown hK hH.1 0 (mwc0 C A u9) rfl 39 (by decide) (hts _ (uc_in _ q_f1227)) (fun _ h9 => h9) rfl dX10_ask_75 ?_
            refine lv_aload_n hx hb dX10_ask_78 rfl (lv_at hl 3 rfl) ?_
            refine va_get (ci := 10) (v := .ref (A 18)) (C := RX10) (T := TX10) (N := 42) hx hb hts (fun w h => uc_in w (inX10 w h)) hown hK hH.1 0 (mwc0 C A u9) rfl 38 (by decide) (hts _ (uc_in _ q_f1226)) (fun _ h9 => h9) rfl dX10_ask_79 ?_
            refine lv_iload hx hb dX10_ask_82 (lv_at hl 0 rfl) ?_
            refine va_iald hx hb hK hH.1 18 1 (mwc18 C A u9) rfl (i_ix rfl (by omega) (by omega)) dX10_ask_84 ?_
            refine p_any (fun z147 => ?_)
            refine lv_isub hx hb dX10_ask_85 ?_
            refine p_any (fun z148 => ?_)
            exact j86_138 ls z148 hl
          · have c129 := cNLE (x := z126) (y := z128) (X := z126.toInt) (Y := z128.toInt) rfl rfl c129
            refine lv_aload_n hx hb dX10_ask_64 rfl (lv_at hl 3 rfl) ?_
            refine va_get (ci := 10) (v := .ref (A 18)) (C := RX10) (T := TX10) (N := 42) hx hb hts (fun w h => uc_in w (inX10 w h)) hown hK hH.1 0 (mwc0 C A u9) rfl 38 (by decide) (hts _ (uc_in _ q_f1226)) (fun _ h9 => h9) rfl dX10_ask_65 ?_
            refine lv_iload hx hb dX10_ask_68 (lv_at hl 0 rfl) ?_
            refine va_iald hx hb hK hH.1 18 1 (mwc18 C A u9) rfl (i_ix rfl (by omega) (by omega)) dX10_ask_70 ?_
            refine p_any (fun z149 => ?_)
            refine lv_goto (tgt := 86) hx hb dX10_ask_71 (by decide) ?_
            exact j86_138 ls z149 hl
    exact lp33_120 7 ls 0 (gi u9 39) (-1) (by decide) (by decide) (by decide) (by decide) (by have q9 : (0 : Int32).toInt = 0 := (by decide); omega) (lv_sub hl [0, 1, 2, 4] rfl)
set_option maxHeartbeats 4000000 in
set_option maxRecDepth 100000 in
theorem kX10_away_0 (l : Launch) (D : va_G) (C : Nat → ClassId) (A : Nat → Nat) (u : St) (hI : IM u) (a0 : Int32) (A0 : Int) (ha0 : a0.toInt = A0) (sz : Nat) : MetI l yX10_away cX10_away 3 (some .int) 5 [.ref (A 0), .int a0] D (tyl C) (mw C A) X0 u sz (fun r u' => IM u' ∧ Un [(0, 0), (24, 24), (25, 25), (39, 39), (40, 40)] [(12, 12), (13, 13), (18, 18)] [] u u' ∧ (True)) := by
  refine mI (by decide) (Nat.le_of_ble_eq_true rfl) ?_
  intro p e s m below meth c ls ar Q hx hb hml hown hts hK hH hX hl hret
  have hown : s.vm.findClass RX10 = some m.cls := hown
  have hl : lv_has ls 3 [(0, .ref (A 0)), (1, .int a0)] := hl
  refine lv_aload_n hx hb dX10_away_0 rfl (lv_at hl 0 rfl) ?_
  refine lv_iconst (v := 0) hx hb dX10_away_1 (by decide) ?_
  refine r_put (j := 0) (ci := 10) (C := RX10) (T := TX10) (N := 42) hx hb hts (fun w h => uc_in w (inX10 w h)) tyX10 tyX10_ok nmX10 hown hK hH 0 (mwc0 C A u) rfl 0 (by decide) (hts _ (uc_in _ q_f1188)) (fun _ h9 => h9) rfl (by decide +kernel) (Nat.le_of_ble_eq_true rfl) (mws0 C A u _) dX10_away_2 (fun u1 eu1 H locs hH => ?_)
  have hI := hI.pi0 eu1 rfl
  refine lv_aload_n hx hb dX10_away_5 rfl (lv_at hl 0 rfl) ?_
  refine lv_iload_n hx hb dX10_away_6 rfl (lv_at hl 1 rfl) ?_
  refine cvS (n := 1) (As := [.int a0]) (rest := []) ⟨hx, hb, hml, hown, hts⟩ uc_in (kX10_whyNot_0 l D C A u1 hI a0 A0 ha0) q_m1788 q_n1790 q_p104 q_i11 q_c1791 hvX10_whyNot ⟨(Nat.le_of_ble_eq_true rfl), (Nat.le_of_ble_eq_true rfl)⟩ ⟨(Nat.le_of_ble_eq_true rfl), (Nat.le_of_ble_eq_true rfl)⟩ hK hH.1 10 0 rfl (mwc0 C A u1) rfl hl.1 rfl (Nat.le_of_ble_eq_true rfl) dX10_away_7 (fun r2 p3 => ?_)
  rcases p3 with p3 | ⟨e9, f4, f5, f6⟩
  · have p3 := p3
    refine lv_istore_n (lv' := [(2, .int r2), (0, .ref (A 0)), (1, .int a0)]) hx hb dX10_away_10 rfl hl (by decide) rfl (fun ls hl => ?_)
    refine lv_iload_n hx hb dX10_away_11 rfl (lv_at hl 0 rfl) ?_
    refine lv_if_eq (tgt := 17) hx hb dX10_away_12 (by decide) (fun c7 => absurd (cEQ (x := r2) (y := 0) (X := r2.toInt) (Y := 0) rfl (by decide) c7) (by omega)) (fun c7 => ?_)
    refine lv_iload_n hx hb dX10_away_15 rfl (lv_at hl 0 rfl) ?_
    exact hret _ _ _ _ r2 _ dX10_away_16 rfl ⟨hI, (Un.si Un.rf rfl eu1), trivial⟩ hH
  · subst e9
    refine lv_istore_n (lv' := [(2, .int 0), (0, .ref (A 0)), (1, .int a0)]) hx hb dX10_away_10 rfl hl (by decide) rfl (fun ls hl => ?_)
    refine lv_iload_n hx hb dX10_away_11 rfl (lv_at hl 0 rfl) ?_
    refine lv_if_eq (tgt := 17) hx hb dX10_away_12 (by decide) (fun c8 => ?_) (fun c8 => absurd c8 (by decide))
    refine lv_aload_n hx hb dX10_away_17 rfl (lv_at hl 1 rfl) ?_
    refine lv_iload_n hx hb dX10_away_18 rfl (lv_at hl 2 rfl) ?_
    refine cvU (n := 1) (As := [.int a0]) (rest := []) ⟨hx, hb, hml, hown, hts⟩ uc_in (kX10_laysAway_0 l D C A u1 hI a0 A0 ha0 (by omega) (by omega) f6 _) q_m1792 q_n1794 q_p105 q_i11 q_c1795 hvX10_laysAway ⟨(Nat.le_of_ble_eq_true rfl), (Nat.le_of_ble_eq_true rfl)⟩ ⟨(Nat.le_of_ble_eq_true rfl), (Nat.le_of_ble_eq_true rfl)⟩ hK hH (fun q h => Or.inr h) Bl0 (fun _ _ _ => trivial) 10 0 rfl (mwc0 C A u1) rfl hl.1 rfl (Nat.le_of_ble_eq_true rfl) dX10_away_19 (fun u9 H locs p11 hH => ?_)
    obtain ⟨hI, hUu9, p11⟩ := p11
    refine lv_aload_n hx hb dX10_away_22 rfl (lv_at hl 1 rfl) ?_
    refine va_get (ci := 10) (v := .int (gi u9 39)) (C := RX10) (T := TX10) (N := 42) hx hb hts (fun w h => uc_in w (inX10 w h)) hown hK hH.1 0 (mwc0 C A u9) rfl 39 (by decide) (hts _ (uc_in _ q_f1227)) (fun _ h9 => h9) rfl dX10_away_23 ?_
    exact hret _ _ _ _ (gi u9 39) _ dX10_away_26 rfl ⟨hI, (Un.tr (Un.si Un.rf rfl eu1) hUu9 rfl rfl rfl), trivial⟩ hH
set_option maxHeartbeats 4000000 in
set_option maxRecDepth 100000 in
theorem kX10_copyRow_0 (l : Launch) (D : va_G) (C : Nat → ClassId) (A : Nat → Nat) (u : St) (hI : IM u) (sz : Nat) : MetV l yX10_copyRow cX10_copyRow 5 1 [.ref (A 6), .int 1, .int 1, .int 0] D (tyl C) (mw C A) X0 u sz (fun u' => IM u' ∧ Un [] [(6, 6)] [] u u' ∧ True) := by
  refine mV (by decide) (Nat.le_of_ble_eq_true rfl) ?_
  intro p e s m below meth c ls ar Q hx hb hml hown hts hK hH hX hl hret
  have hown : s.vm.findClass RX10 = some m.cls := hown
  have hl : lv_has ls 5 [(0, .ref (A 6)), (1, .int 1), (2, .int 1), (3, .int 0)] := hl
  refine lv_iconst (v := 0) hx hb dX10_copyRow_0 (by decide) ?_
  refine lv_istore (lv' := [(4, .int 0), (0, .ref (A 6)), (1, .int 1), (2, .int 1), (3, .int 0)]) hx hb dX10_copyRow_1 hl (by decide) rfl (fun ls hl => ?_)
  have lp3_19 : ∀ (n3 : Nat) (ls : Array Slot) (y18d : Int32) (u19 : St) (H : Heap) (locs : List Loc), 0 ≤ y18d.toInt → y18d.toInt ≤ 1 → 1 - y18d.toInt < (n3 : Int) → Un [] [(6, 6)] [] u u19 → IM u19 → Hd D (mw C A) (va_A (mw C A u) s.heap.size) s.heap u19 H locs → lv_has ls 5 [(4, .int y18d), (0, .ref (A 6)), (1, .int 1), (2, .int 1), (3, .int 0)] → W p l e (rmL 1 0 0) s m ar below meth c H locs 0 0 Q (F0 m 3 ls []) := by
    intro n3
    induction n3 with
    | zero => intro ls y18d u19 H locs ly18d my18d hmun3 hUu19 hI hH hl; exfalso; omega
    | succ n3 ih3_19 =>
      intro ls y18d u19 H locs ly18d my18d hmun3 hUu19 hI hH hl
      refine lv_iload hx hb dX10_copyRow_3 (lv_at hl 0 rfl) ?_
      refine lv_iload_n hx hb dX10_copyRow_5 rfl (lv_at hl 2 rfl) ?_
      refine lv_icmp_ge (tgt := 31) hx hb dX10_copyRow_6 (by decide) (fun c21 => ?_) (fun c21 => ?_)
      · have c21 := cLE (x := 1) (y := y18d) (X := 1) (Y := y18d.toInt) (by decide) rfl c21
        exact hret _ _ _ _ _ dX10_copyRow_31 ⟨hI, (Un.tr Un.rf hUu19 rfl rfl rfl), trivial⟩ hH
      · have c21 := cNLE (x := 1) (y := y18d) (X := 1) (Y := y18d.toInt) (by decide) rfl c21
        refine lv_aload_n hx hb dX10_copyRow_9 rfl (lv_at hl 1 rfl) ?_
        refine lv_iload_n hx hb dX10_copyRow_10 rfl (lv_at hl 2 rfl) ?_
        refine lv_iload_n hx hb dX10_copyRow_11 rfl (lv_at hl 4 rfl) ?_
        refine lv_imul hx hb dX10_copyRow_12 ?_
        refine pv_i (v := 0) (by decide) ?_
        refine lv_iload hx hb dX10_copyRow_13 (lv_at hl 0 rfl) ?_
        refine lv_iadd hx hb dX10_copyRow_15 ?_
        refine p_nm (tt_add (X := 0) (Y := y18d.toInt) (by decide) rfl (by omega) (by omega)) (fun z22 hz22 => ?_)
        refine lv_aload_n hx hb dX10_copyRow_16 rfl (lv_at hl 1 rfl) ?_
        refine lv_iload_n hx hb dX10_copyRow_17 rfl (lv_at hl 2 rfl) ?_
        refine lv_iload_n hx hb dX10_copyRow_18 rfl (lv_at hl 3 rfl) ?_
        refine lv_imul hx hb dX10_copyRow_19 ?_
        refine pv_i (v := 1) (by decide) ?_
        refine lv_iload hx hb dX10_copyRow_20 (lv_at hl 0 rfl) ?_
        refine lv_iadd hx hb dX10_copyRow_22 ?_
        refine p_nm (tt_add (X := 1) (Y := y18d.toInt) (by decide) rfl (by omega) (by omega)) (fun z23 hz23 => ?_)
        refine va_iald hx hb hK hH.1 6 1 (mwc6 C A u19) rfl (i_ix hz23 (by omega) (by omega)) dX10_copyRow_23 ?_
        refine p_any (fun z24 => ?_)
        refine r_iast (j := 6) hx hb hK hH 6 1 (mwc6 C A u19) rfl (i_ix hz22 (by omega) (by omega)) (mwa6 C A u19) dX10_copyRow_24 (fun u25 eu25 H locs hH => ?_)
        have hI := hI.pa0 eu25 (by decide) (by decide) (by decide)
        obtain ⟨z26, ez26⟩ : ∃ z, z = y18d + Int32.ofInt 1 := ⟨_, rfl⟩
        have hz26 : z26.toInt = y18d.toInt + 1 := by rw [ez26]; exact tt_add rfl (by decide) (by omega) (by omega)
        refine lv_iinc (v := z26) (lv' := [(4, .int z26), (0, .ref (A 6)), (1, .int 1), (2, .int 1), (3, .int 0)]) hx hb dX10_copyRow_25 hl (k := 0) rfl ez26.symm (by decide) rfl (fun ls hl => ?_)
        refine lv_goto (tgt := 3) hx hb dX10_copyRow_28 (by decide) ?_
        exact ih3_19 ls z26 u25 _ _ (by have q9 := (show z26.toInt = (y18d.toInt + 1) from hz26); omega) (by have q9 := (show z26.toInt = (y18d.toInt + 1) from hz26); omega) (by have q9 := (show z26.toInt = (y18d.toInt + 1) from hz26); omega) (Un.sa hUu19 rfl eu25) hI hH hl
  exact lp3_19 2 ls 0 u _ _ (by decide) (by decide) (by have q9 : (0 : Int32).toInt = 0 := (by decide); omega) Un.rf hI hH hl
set_option maxHeartbeats 4000000 in
set_option maxRecDepth 100000 in
theorem kX10_copyRow_1 (l : Launch) (D : va_G) (C : Nat → ClassId) (A : Nat → Nat) (u : St) (hI : IM u) (sz : Nat) : MetV l yX10_copyRow cX10_copyRow 5 1 [.ref (A 7), .int 6, .int 1, .int 0] D (tyl C) (mw C A) X0 u sz (fun u' => IM u' ∧ Un [] [(7, 7)] [] u u' ∧ True) := by
  refine mV (by decide) (Nat.le_of_ble_eq_true rfl) ?_
  intro p e s m below meth c ls ar Q hx hb hml hown hts hK hH hX hl hret
  have hown : s.vm.findClass RX10 = some m.cls := hown
  have hl : lv_has ls 5 [(0, .ref (A 7)), (1, .int 6), (2, .int 1), (3, .int 0)] := hl
  refine lv_iconst (v := 0) hx hb dX10_copyRow_0 (by decide) ?_
  refine lv_istore (lv' := [(4, .int 0), (0, .ref (A 7)), (1, .int 6), (2, .int 1), (3, .int 0)]) hx hb dX10_copyRow_1 hl (by decide) rfl (fun ls hl => ?_)
  have lp3_46 : ∀ (n3 : Nat) (ls : Array Slot) (y45d : Int32) (u46 : St) (H : Heap) (locs : List Loc), 0 ≤ y45d.toInt → y45d.toInt ≤ 6 → 6 - y45d.toInt < (n3 : Int) → Un [] [(7, 7)] [] u u46 → IM u46 → Hd D (mw C A) (va_A (mw C A u) s.heap.size) s.heap u46 H locs → lv_has ls 5 [(4, .int y45d), (0, .ref (A 7)), (1, .int 6), (2, .int 1), (3, .int 0)] → W p l e (rmL 1 0 0) s m ar below meth c H locs 0 0 Q (F0 m 3 ls []) := by
    intro n3
    induction n3 with
    | zero => intro ls y45d u46 H locs ly45d my45d hmun3 hUu46 hI hH hl; exfalso; omega
    | succ n3 ih3_46 =>
      intro ls y45d u46 H locs ly45d my45d hmun3 hUu46 hI hH hl
      refine lv_iload hx hb dX10_copyRow_3 (lv_at hl 0 rfl) ?_
      refine lv_iload_n hx hb dX10_copyRow_5 rfl (lv_at hl 2 rfl) ?_
      refine lv_icmp_ge (tgt := 31) hx hb dX10_copyRow_6 (by decide) (fun c48 => ?_) (fun c48 => ?_)
      · have c48 := cLE (x := 6) (y := y45d) (X := 6) (Y := y45d.toInt) (by decide) rfl c48
        exact hret _ _ _ _ _ dX10_copyRow_31 ⟨hI, (Un.tr Un.rf hUu46 rfl rfl rfl), trivial⟩ hH
      · have c48 := cNLE (x := 6) (y := y45d) (X := 6) (Y := y45d.toInt) (by decide) rfl c48
        refine lv_aload_n hx hb dX10_copyRow_9 rfl (lv_at hl 1 rfl) ?_
        refine lv_iload_n hx hb dX10_copyRow_10 rfl (lv_at hl 2 rfl) ?_
        refine lv_iload_n hx hb dX10_copyRow_11 rfl (lv_at hl 4 rfl) ?_
        refine lv_imul hx hb dX10_copyRow_12 ?_
        refine pv_i (v := 0) (by decide) ?_
        refine lv_iload hx hb dX10_copyRow_13 (lv_at hl 0 rfl) ?_
        refine lv_iadd hx hb dX10_copyRow_15 ?_
        refine p_nm (tt_add (X := 0) (Y := y45d.toInt) (by decide) rfl (by omega) (by omega)) (fun z49 hz49 => ?_)
        refine lv_aload_n hx hb dX10_copyRow_16 rfl (lv_at hl 1 rfl) ?_
        refine lv_iload_n hx hb dX10_copyRow_17 rfl (lv_at hl 2 rfl) ?_
        refine lv_iload_n hx hb dX10_copyRow_18 rfl (lv_at hl 3 rfl) ?_
        refine lv_imul hx hb dX10_copyRow_19 ?_
        refine pv_i (v := 6) (by decide) ?_
        refine lv_iload hx hb dX10_copyRow_20 (lv_at hl 0 rfl) ?_
        refine lv_iadd hx hb dX10_copyRow_22 ?_
        refine p_nm (tt_add (X := 6) (Y := y45d.toInt) (by decide) rfl (by omega) (by omega)) (fun z50 hz50 => ?_)
        refine va_iald hx hb hK hH.1 7 1 (mwc7 C A u46) rfl (i_ix hz50 (by omega) (by omega)) dX10_copyRow_23 ?_
        refine p_bd (P := fun q => 0 ≤ q ∧ q ≤ hB (Int32.toNatClampNeg z50 % 6)) (hI.has _) (fun z51 bz51 => ?_)
        have bz51 : 0 ≤ z51.toInt ∧ z51.toInt ≤ hB (Int32.toNatClampNeg z50 % 6) := bz51
        refine r_iast (j := 7) hx hb hK hH 7 1 (mwc7 C A u46) rfl (i_ix hz49 (by omega) (by omega)) (mwa7 C A u46) dX10_copyRow_24 (fun u52 eu52 H locs hH => ?_)
        have hI := hI.pah eu52 rfl (by omega) (by have q1 := i_cl (x := z49) (X := (0 + y45d.toInt)) hz49 (by omega); have q2 := i_cl (x := z50) (X := (6 + y45d.toInt)) hz50 (by omega); have q3 : Int32.toNatClampNeg z49 % 6 = Int32.toNatClampNeg z50 % 6 := (by omega); rw [q3]; exact bz51.2)
        obtain ⟨z53, ez53⟩ : ∃ z, z = y45d + Int32.ofInt 1 := ⟨_, rfl⟩
        have hz53 : z53.toInt = y45d.toInt + 1 := by rw [ez53]; exact tt_add rfl (by decide) (by omega) (by omega)
        refine lv_iinc (v := z53) (lv' := [(4, .int z53), (0, .ref (A 7)), (1, .int 6), (2, .int 1), (3, .int 0)]) hx hb dX10_copyRow_25 hl (k := 0) rfl ez53.symm (by decide) rfl (fun ls hl => ?_)
        refine lv_goto (tgt := 3) hx hb dX10_copyRow_28 (by decide) ?_
        exact ih3_46 ls z53 u52 _ _ (by have q9 := (show z53.toInt = (y45d.toInt + 1) from hz53); omega) (by have q9 := (show z53.toInt = (y45d.toInt + 1) from hz53); omega) (by have q9 := (show z53.toInt = (y45d.toInt + 1) from hz53); omega) (Un.sa hUu46 rfl eu52) hI hH hl
  exact lp3_46 7 ls 0 u _ _ (by decide) (by decide) (by have q9 : (0 : Int32).toInt = 0 := (by decide); omega) Un.rf hI hH hl
set_option maxHeartbeats 4000000 in
set_option maxRecDepth 100000 in
theorem kX10_copyRow_2 (l : Launch) (D : va_G) (C : Nat → ClassId) (A : Nat → Nat) (u : St) (hI : IM u) (sz : Nat) : MetV l yX10_copyRow cX10_copyRow 5 1 [.ref (A 8), .int 30, .int 1, .int 0] D (tyl C) (mw C A) X0 u sz (fun u' => IM u' ∧ Un [] [(8, 8)] [] u u' ∧ True) := by
  refine mV (by decide) (Nat.le_of_ble_eq_true rfl) ?_
  intro p e s m below meth c ls ar Q hx hb hml hown hts hK hH hX hl hret
  have hown : s.vm.findClass RX10 = some m.cls := hown
  have hl : lv_has ls 5 [(0, .ref (A 8)), (1, .int 30), (2, .int 1), (3, .int 0)] := hl
  refine lv_iconst (v := 0) hx hb dX10_copyRow_0 (by decide) ?_
  refine lv_istore (lv' := [(4, .int 0), (0, .ref (A 8)), (1, .int 30), (2, .int 1), (3, .int 0)]) hx hb dX10_copyRow_1 hl (by decide) rfl (fun ls hl => ?_)
  have lp3_64 : ∀ (n3 : Nat) (ls : Array Slot) (y63d : Int32) (u64 : St) (H : Heap) (locs : List Loc), 0 ≤ y63d.toInt → y63d.toInt ≤ 30 → 30 - y63d.toInt < (n3 : Int) → Un [] [(8, 8)] [] u u64 → IM u64 → Hd D (mw C A) (va_A (mw C A u) s.heap.size) s.heap u64 H locs → lv_has ls 5 [(4, .int y63d), (0, .ref (A 8)), (1, .int 30), (2, .int 1), (3, .int 0)] → W p l e (rmL 1 0 0) s m ar below meth c H locs 0 0 Q (F0 m 3 ls []) := by
    intro n3
    induction n3 with
    | zero => intro ls y63d u64 H locs ly63d my63d hmun3 hUu64 hI hH hl; exfalso; omega
    | succ n3 ih3_64 =>
      intro ls y63d u64 H locs ly63d my63d hmun3 hUu64 hI hH hl
      refine lv_iload hx hb dX10_copyRow_3 (lv_at hl 0 rfl) ?_
      refine lv_iload_n hx hb dX10_copyRow_5 rfl (lv_at hl 2 rfl) ?_
      refine lv_icmp_ge (tgt := 31) hx hb dX10_copyRow_6 (by decide) (fun c66 => ?_) (fun c66 => ?_)
      · have c66 := cLE (x := 30) (y := y63d) (X := 30) (Y := y63d.toInt) (by decide) rfl c66
        exact hret _ _ _ _ _ dX10_copyRow_31 ⟨hI, (Un.tr Un.rf hUu64 rfl rfl rfl), trivial⟩ hH
      · have c66 := cNLE (x := 30) (y := y63d) (X := 30) (Y := y63d.toInt) (by decide) rfl c66
        refine lv_aload_n hx hb dX10_copyRow_9 rfl (lv_at hl 1 rfl) ?_
        refine lv_iload_n hx hb dX10_copyRow_10 rfl (lv_at hl 2 rfl) ?_
        refine lv_iload_n hx hb dX10_copyRow_11 rfl (lv_at hl 4 rfl) ?_
        refine lv_imul hx hb dX10_copyRow_12 ?_
        refine pv_i (v := 0) (by decide) ?_
        refine lv_iload hx hb dX10_copyRow_13 (lv_at hl 0 rfl) ?_
        refine lv_iadd hx hb dX10_copyRow_15 ?_
        refine p_nm (tt_add (X := 0) (Y := y63d.toInt) (by decide) rfl (by omega) (by omega)) (fun z67 hz67 => ?_)
        refine lv_aload_n hx hb dX10_copyRow_16 rfl (lv_at hl 1 rfl) ?_
        refine lv_iload_n hx hb dX10_copyRow_17 rfl (lv_at hl 2 rfl) ?_
        refine lv_iload_n hx hb dX10_copyRow_18 rfl (lv_at hl 3 rfl) ?_
        refine lv_imul hx hb dX10_copyRow_19 ?_
        refine pv_i (v := 30) (by decide) ?_
        refine lv_iload hx hb dX10_copyRow_20 (lv_at hl 0 rfl) ?_
        refine lv_iadd hx hb dX10_copyRow_22 ?_
        refine p_nm (tt_add (X := 30) (Y := y63d.toInt) (by decide) rfl (by omega) (by omega)) (fun z68 hz68 => ?_)
        refine va_iald hx hb hK hH.1 8 1 (mwc8 C A u64) rfl (i_ix hz68 (by omega) (by omega)) dX10_copyRow_23 ?_
        refine p_any (fun z69 => ?_)
        refine r_iast (j := 8) hx hb hK hH 8 1 (mwc8 C A u64) rfl (i_ix hz67 (by omega) (by omega)) (mwa8 C A u64) dX10_copyRow_24 (fun u70 eu70 H locs hH => ?_)
        have hI := hI.pa0 eu70 (by decide) (by decide) (by decide)
        obtain ⟨z71, ez71⟩ : ∃ z, z = y63d + Int32.ofInt 1 := ⟨_, rfl⟩
        have hz71 : z71.toInt = y63d.toInt + 1 := by rw [ez71]; exact tt_add rfl (by decide) (by omega) (by omega)
        refine lv_iinc (v := z71) (lv' := [(4, .int z71), (0, .ref (A 8)), (1, .int 30), (2, .int 1), (3, .int 0)]) hx hb dX10_copyRow_25 hl (k := 0) rfl ez71.symm (by decide) rfl (fun ls hl => ?_)
        refine lv_goto (tgt := 3) hx hb dX10_copyRow_28 (by decide) ?_
        exact ih3_64 ls z71 u70 _ _ (by have q9 := (show z71.toInt = (y63d.toInt + 1) from hz71); omega) (by have q9 := (show z71.toInt = (y63d.toInt + 1) from hz71); omega) (by have q9 := (show z71.toInt = (y63d.toInt + 1) from hz71); omega) (Un.sa hUu64 rfl eu70) hI hH hl
  exact lp3_64 31 ls 0 u _ _ (by decide) (by decide) (by have q9 : (0 : Int32).toInt = 0 := (by decide); omega) Un.rf hI hH hl
set_option maxHeartbeats 4000000 in
set_option maxRecDepth 100000 in
theorem kX10_copyRow_3 (l : Launch) (D : va_G) (C : Nat → ClassId) (A : Nat → Nat) (u : St) (hI : IM u) (sz : Nat) : MetV l yX10_copyRow cX10_copyRow 5 1 [.ref (A 9), .int 5, .int 1, .int 0] D (tyl C) (mw C A) X0 u sz (fun u' => IM u' ∧ Un [] [(9, 9)] [] u u' ∧ True) := by
  refine mV (by decide) (Nat.le_of_ble_eq_true rfl) ?_
  intro p e s m below meth c ls ar Q hx hb hml hown hts hK hH hX hl hret
  have hown : s.vm.findClass RX10 = some m.cls := hown
  have hl : lv_has ls 5 [(0, .ref (A 9)), (1, .int 5), (2, .int 1), (3, .int 0)] := hl
  refine lv_iconst (v := 0) hx hb dX10_copyRow_0 (by decide) ?_
  refine lv_istore (lv' := [(4, .int 0), (0, .ref (A 9)), (1, .int 5), (2, .int 1), (3, .int 0)]) hx hb dX10_copyRow_1 hl (by decide) rfl (fun ls hl => ?_)
  have lp3_37 : ∀ (n3 : Nat) (ls : Array Slot) (y36d : Int32) (u37 : St) (H : Heap) (locs : List Loc), 0 ≤ y36d.toInt → y36d.toInt ≤ 5 → 5 - y36d.toInt < (n3 : Int) → Un [] [(9, 9)] [] u u37 → IM u37 → Hd D (mw C A) (va_A (mw C A u) s.heap.size) s.heap u37 H locs → lv_has ls 5 [(4, .int y36d), (0, .ref (A 9)), (1, .int 5), (2, .int 1), (3, .int 0)] → W p l e (rmL 1 0 0) s m ar below meth c H locs 0 0 Q (F0 m 3 ls []) := by
    intro n3
    induction n3 with
    | zero => intro ls y36d u37 H locs ly36d my36d hmun3 hUu37 hI hH hl; exfalso; omega
    | succ n3 ih3_37 =>
      intro ls y36d u37 H locs ly36d my36d hmun3 hUu37 hI hH hl
      refine lv_iload hx hb dX10_copyRow_3 (lv_at hl 0 rfl) ?_
      refine lv_iload_n hx hb dX10_copyRow_5 rfl (lv_at hl 2 rfl) ?_
      refine lv_icmp_ge (tgt := 31) hx hb dX10_copyRow_6 (by decide) (fun c39 => ?_) (fun c39 => ?_)
      · have c39 := cLE (x := 5) (y := y36d) (X := 5) (Y := y36d.toInt) (by decide) rfl c39
        exact hret _ _ _ _ _ dX10_copyRow_31 ⟨hI, (Un.tr Un.rf hUu37 rfl rfl rfl), trivial⟩ hH
      · have c39 := cNLE (x := 5) (y := y36d) (X := 5) (Y := y36d.toInt) (by decide) rfl c39
        refine lv_aload_n hx hb dX10_copyRow_9 rfl (lv_at hl 1 rfl) ?_
        refine lv_iload_n hx hb dX10_copyRow_10 rfl (lv_at hl 2 rfl) ?_
        refine lv_iload_n hx hb dX10_copyRow_11 rfl (lv_at hl 4 rfl) ?_
        refine lv_imul hx hb dX10_copyRow_12 ?_
        refine pv_i (v := 0) (by decide) ?_
        refine lv_iload hx hb dX10_copyRow_13 (lv_at hl 0 rfl) ?_
        refine lv_iadd hx hb dX10_copyRow_15 ?_
        refine p_nm (tt_add (X := 0) (Y := y36d.toInt) (by decide) rfl (by omega) (by omega)) (fun z40 hz40 => ?_)
        refine lv_aload_n hx hb dX10_copyRow_16 rfl (lv_at hl 1 rfl) ?_
        refine lv_iload_n hx hb dX10_copyRow_17 rfl (lv_at hl 2 rfl) ?_
        refine lv_iload_n hx hb dX10_copyRow_18 rfl (lv_at hl 3 rfl) ?_
        refine lv_imul hx hb dX10_copyRow_19 ?_
        refine pv_i (v := 5) (by decide) ?_
        refine lv_iload hx hb dX10_copyRow_20 (lv_at hl 0 rfl) ?_
        refine lv_iadd hx hb dX10_copyRow_22 ?_
        refine p_nm (tt_add (X := 5) (Y := y36d.toInt) (by decide) rfl (by omega) (by omega)) (fun z41 hz41 => ?_)
        refine va_iald hx hb hK hH.1 9 1 (mwc9 C A u37) rfl (i_ix hz41 (by omega) (by omega)) dX10_copyRow_23 ?_
        refine p_any (fun z42 => ?_)
        refine r_iast (j := 9) hx hb hK hH 9 1 (mwc9 C A u37) rfl (i_ix hz40 (by omega) (by omega)) (mwa9 C A u37) dX10_copyRow_24 (fun u43 eu43 H locs hH => ?_)
        have hI := hI.pa0 eu43 (by decide) (by decide) (by decide)
        obtain ⟨z44, ez44⟩ : ∃ z, z = y36d + Int32.ofInt 1 := ⟨_, rfl⟩
        have hz44 : z44.toInt = y36d.toInt + 1 := by rw [ez44]; exact tt_add rfl (by decide) (by omega) (by omega)
        refine lv_iinc (v := z44) (lv' := [(4, .int z44), (0, .ref (A 9)), (1, .int 5), (2, .int 1), (3, .int 0)]) hx hb dX10_copyRow_25 hl (k := 0) rfl ez44.symm (by decide) rfl (fun ls hl => ?_)
        refine lv_goto (tgt := 3) hx hb dX10_copyRow_28 (by decide) ?_
        exact ih3_37 ls z44 u43 _ _ (by have q9 := (show z44.toInt = (y36d.toInt + 1) from hz44); omega) (by have q9 := (show z44.toInt = (y36d.toInt + 1) from hz44); omega) (by have q9 := (show z44.toInt = (y36d.toInt + 1) from hz44); omega) (Un.sa hUu37 rfl eu43) hI hH hl
  exact lp3_37 6 ls 0 u _ _ (by decide) (by decide) (by have q9 : (0 : Int32).toInt = 0 := (by decide); omega) Un.rf hI hH hl
set_option maxHeartbeats 4000000 in
set_option maxRecDepth 100000 in
theorem kX10_copyRow_4 (l : Launch) (D : va_G) (C : Nat → ClassId) (A : Nat → Nat) (u : St) (hI : IM u) (sz : Nat) : MetV l yX10_copyRow cX10_copyRow 5 1 [.ref (A 10), .int 120, .int 1, .int 0] D (tyl C) (mw C A) X0 u sz (fun u' => IM u' ∧ Un [] [(10, 10)] [] u u' ∧ True) := by
  refine mV (by decide) (Nat.le_of_ble_eq_true rfl) ?_
  intro p e s m below meth c ls ar Q hx hb hml hown hts hK hH hX hl hret
  have hown : s.vm.findClass RX10 = some m.cls := hown
  have hl : lv_has ls 5 [(0, .ref (A 10)), (1, .int 120), (2, .int 1), (3, .int 0)] := hl
  refine lv_iconst (v := 0) hx hb dX10_copyRow_0 (by decide) ?_
  refine lv_istore (lv' := [(4, .int 0), (0, .ref (A 10)), (1, .int 120), (2, .int 1), (3, .int 0)]) hx hb dX10_copyRow_1 hl (by decide) rfl (fun ls hl => ?_)
  have lp3_109 : ∀ (n3 : Nat) (ls : Array Slot) (y108d : Int32) (u109 : St) (H : Heap) (locs : List Loc), 0 ≤ y108d.toInt → y108d.toInt ≤ 120 → 120 - y108d.toInt < (n3 : Int) → Un [] [(10, 10)] [] u u109 → IM u109 → Hd D (mw C A) (va_A (mw C A u) s.heap.size) s.heap u109 H locs → lv_has ls 5 [(4, .int y108d), (0, .ref (A 10)), (1, .int 120), (2, .int 1), (3, .int 0)] → W p l e (rmL 1 0 0) s m ar below meth c H locs 0 0 Q (F0 m 3 ls []) := by
    intro n3
    induction n3 with
    | zero => intro ls y108d u109 H locs ly108d my108d hmun3 hUu109 hI hH hl; exfalso; omega
    | succ n3 ih3_109 =>
      intro ls y108d u109 H locs ly108d my108d hmun3 hUu109 hI hH hl
      refine lv_iload hx hb dX10_copyRow_3 (lv_at hl 0 rfl) ?_
      refine lv_iload_n hx hb dX10_copyRow_5 rfl (lv_at hl 2 rfl) ?_
      refine lv_icmp_ge (tgt := 31) hx hb dX10_copyRow_6 (by decide) (fun c111 => ?_) (fun c111 => ?_)
      · have c111 := cLE (x := 120) (y := y108d) (X := 120) (Y := y108d.toInt) (by decide) rfl c111
        exact hret _ _ _ _ _ dX10_copyRow_31 ⟨hI, (Un.tr Un.rf hUu109 rfl rfl rfl), trivial⟩ hH
      · have c111 := cNLE (x := 120) (y := y108d) (X := 120) (Y := y108d.toInt) (by decide) rfl c111
        refine lv_aload_n hx hb dX10_copyRow_9 rfl (lv_at hl 1 rfl) ?_
        refine lv_iload_n hx hb dX10_copyRow_10 rfl (lv_at hl 2 rfl) ?_
        refine lv_iload_n hx hb dX10_copyRow_11 rfl (lv_at hl 4 rfl) ?_
        refine lv_imul hx hb dX10_copyRow_12 ?_
        refine pv_i (v := 0) (by decide) ?_
        refine lv_iload hx hb dX10_copyRow_13 (lv_at hl 0 rfl) ?_
        refine lv_iadd hx hb dX10_copyRow_15 ?_
        refine p_nm (tt_add (X := 0) (Y := y108d.toInt) (by decide) rfl (by omega) (by omega)) (fun z112 hz112 => ?_)
        refine lv_aload_n hx hb dX10_copyRow_16 rfl (lv_at hl 1 rfl) ?_
        refine lv_iload_n hx hb dX10_copyRow_17 rfl (lv_at hl 2 rfl) ?_
        refine lv_iload_n hx hb dX10_copyRow_18 rfl (lv_at hl 3 rfl) ?_
        refine lv_imul hx hb dX10_copyRow_19 ?_
        refine pv_i (v := 120) (by decide) ?_
        refine lv_iload hx hb dX10_copyRow_20 (lv_at hl 0 rfl) ?_
        refine lv_iadd hx hb dX10_copyRow_22 ?_
        refine p_nm (tt_add (X := 120) (Y := y108d.toInt) (by decide) rfl (by omega) (by omega)) (fun z113 hz113 => ?_)
        refine va_iald hx hb hK hH.1 10 1 (mwc10 C A u109) rfl (i_ix hz113 (by omega) (by omega)) dX10_copyRow_23 ?_
        refine p_any (fun z114 => ?_)
        refine r_iast (j := 10) hx hb hK hH 10 1 (mwc10 C A u109) rfl (i_ix hz112 (by omega) (by omega)) (mwa10 C A u109) dX10_copyRow_24 (fun u115 eu115 H locs hH => ?_)
        have hI := hI.pa0 eu115 (by decide) (by decide) (by decide)
        obtain ⟨z116, ez116⟩ : ∃ z, z = y108d + Int32.ofInt 1 := ⟨_, rfl⟩
        have hz116 : z116.toInt = y108d.toInt + 1 := by rw [ez116]; exact tt_add rfl (by decide) (by omega) (by omega)
        refine lv_iinc (v := z116) (lv' := [(4, .int z116), (0, .ref (A 10)), (1, .int 120), (2, .int 1), (3, .int 0)]) hx hb dX10_copyRow_25 hl (k := 0) rfl ez116.symm (by decide) rfl (fun ls hl => ?_)
        refine lv_goto (tgt := 3) hx hb dX10_copyRow_28 (by decide) ?_
        exact ih3_109 ls z116 u115 _ _ (by have q9 := (show z116.toInt = (y108d.toInt + 1) from hz116); omega) (by have q9 := (show z116.toInt = (y108d.toInt + 1) from hz116); omega) (by have q9 := (show z116.toInt = (y108d.toInt + 1) from hz116); omega) (Un.sa hUu109 rfl eu115) hI hH hl
  exact lp3_109 121 ls 0 u _ _ (by decide) (by decide) (by have q9 : (0 : Int32).toInt = 0 := (by decide); omega) Un.rf hI hH hl
set_option maxHeartbeats 4000000 in
set_option maxRecDepth 100000 in
theorem kX10_copyTown_0 (l : Launch) (D : va_G) (C : Nat → ClassId) (A : Nat → Nat) (u : St) (hI : IM u) (sz : Nat) : MetV l yX10_copyTown cX10_copyTown 3 2 [.ref (A 0), .int 1, .int 0] D (tyl C) (mw C A) X0 u sz (fun u' => IM u' ∧ Un [] [(6, 6), (7, 7), (8, 8), (9, 9), (10, 10)] [] u u' ∧ True) := by
  refine mV (by decide) (Nat.le_of_ble_eq_true rfl) ?_
  intro p e s m below meth c ls ar Q hx hb hml hown hts hK hH hX hl hret
  have hown : s.vm.findClass RX10 = some m.cls := hown
  have hl : lv_has ls 3 [(0, .ref (A 0)), (1, .int 1), (2, .int 0)] := hl
  refine lv_aload_n hx hb dX10_copyTown_0 rfl (lv_at hl 0 rfl) ?_
  refine va_get (ci := 10) (v := .ref (A 6)) (C := RX10) (T := TX10) (N := 42) hx hb hts (fun w h => uc_in w (inX10 w h)) hown hK hH.1 0 (mwc0 C A u) rfl 16 (by decide) (hts _ (uc_in _ q_f1204)) (fun _ h9 => h9) rfl dX10_copyTown_1 ?_
  refine lv_iconst (v := 1) hx hb dX10_copyTown_4 (by decide) ?_
  refine lv_iload_n hx hb dX10_copyTown_5 rfl (lv_at hl 1 rfl) ?_
  refine lv_iload_n hx hb dX10_copyTown_6 rfl (lv_at hl 2 rfl) ?_
  refine csU (n := 4) (As := [.ref (A 6), .int 1, .int 1, .int 0]) (rest := []) ⟨hx, hb, hml, hown, hts⟩ uc_in (kX10_copyRow_0 l D C A u hI  _) q_m1453 q_s1454 q_i11 q_c1455 hvX10_copyRow ⟨(Nat.le_of_ble_eq_true rfl), (Nat.le_of_ble_eq_true rfl)⟩ ⟨(Nat.le_of_ble_eq_true rfl), (Nat.le_of_ble_eq_true rfl)⟩ hK hH (fun q h => Or.inr h) Bl0 (fun _ _ _ => trivial) rfl hl.1 rfl (Nat.le_of_ble_eq_true rfl) dX10_copyTown_7 (fun u1 H locs p3 hH => ?_)
  obtain ⟨hI, hUu1, p3⟩ := p3
  refine lv_aload_n hx hb dX10_copyTown_10 rfl (lv_at hl 0 rfl) ?_
  refine va_get (ci := 10) (v := .ref (A 7)) (C := RX10) (T := TX10) (N := 42) hx hb hts (fun w h => uc_in w (inX10 w h)) hown hK hH.1 0 (mwc0 C A u1) rfl 17 (by decide) (hts _ (uc_in _ q_f1205)) (fun _ h9 => h9) rfl dX10_copyTown_11 ?_
  refine lv_bipush (v := 6) hx hb dX10_copyTown_14 (by decide) ?_
  refine lv_iload_n hx hb dX10_copyTown_16 rfl (lv_at hl 1 rfl) ?_
  refine lv_iload_n hx hb dX10_copyTown_17 rfl (lv_at hl 2 rfl) ?_
  refine csU (n := 4) (As := [.ref (A 7), .int 6, .int 1, .int 0]) (rest := []) ⟨hx, hb, hml, hown, hts⟩ uc_in (kX10_copyRow_1 l D C A u1 hI  _) q_m1453 q_s1454 q_i11 q_c1455 hvX10_copyRow ⟨(Nat.le_of_ble_eq_true rfl), (Nat.le_of_ble_eq_true rfl)⟩ ⟨(Nat.le_of_ble_eq_true rfl), (Nat.le_of_ble_eq_true rfl)⟩ hK hH (fun q h => Or.inr h) Bl0 (fun _ _ _ => trivial) rfl hl.1 rfl (Nat.le_of_ble_eq_true rfl) dX10_copyTown_18 (fun u4 H locs p6 hH => ?_)
  obtain ⟨hI, hUu4, p6⟩ := p6
  refine lv_aload_n hx hb dX10_copyTown_21 rfl (lv_at hl 0 rfl) ?_
  refine va_get (ci := 10) (v := .ref (A 8)) (C := RX10) (T := TX10) (N := 42) hx hb hts (fun w h => uc_in w (inX10 w h)) hown hK hH.1 0 (mwc0 C A u4) rfl 18 (by decide) (hts _ (uc_in _ q_f1206)) (fun _ h9 => h9) rfl dX10_copyTown_22 ?_
  refine lv_bipush (v := 30) hx hb dX10_copyTown_25 (by decide) ?_
  refine lv_iload_n hx hb dX10_copyTown_27 rfl (lv_at hl 1 rfl) ?_
  refine lv_iload_n hx hb dX10_copyTown_28 rfl (lv_at hl 2 rfl) ?_
  refine csU (n := 4) (As := [.ref (A 8), .int 30, .int 1, .int 0]) (rest := []) ⟨hx, hb, hml, hown, hts⟩ uc_in (kX10_copyRow_2 l D C A u4 hI  _) q_m1453 q_s1454 q_i11 q_c1455 hvX10_copyRow ⟨(Nat.le_of_ble_eq_true rfl), (Nat.le_of_ble_eq_true rfl)⟩ ⟨(Nat.le_of_ble_eq_true rfl), (Nat.le_of_ble_eq_true rfl)⟩ hK hH (fun q h => Or.inr h) Bl0 (fun _ _ _ => trivial) rfl hl.1 rfl (Nat.le_of_ble_eq_true rfl) dX10_copyTown_29 (fun u7 H locs p9 hH => ?_)
  obtain ⟨hI, hUu7, p9⟩ := p9
  refine lv_aload_n hx hb dX10_copyTown_32 rfl (lv_at hl 0 rfl) ?_
  refine va_get (ci := 10) (v := .ref (A 9)) (C := RX10) (T := TX10) (N := 42) hx hb hts (fun w h => uc_in w (inX10 w h)) hown hK hH.1 0 (mwc0 C A u7) rfl 19 (by decide) (hts _ (uc_in _ q_f1207)) (fun _ h9 => h9) rfl dX10_copyTown_33 ?_
  refine lv_iconst (v := 5) hx hb dX10_copyTown_36 (by decide) ?_
  refine lv_iload_n hx hb dX10_copyTown_37 rfl (lv_at hl 1 rfl) ?_
  refine lv_iload_n hx hb dX10_copyTown_38 rfl (lv_at hl 2 rfl) ?_
  refine csU (n := 4) (As := [.ref (A 9), .int 5, .int 1, .int 0]) (rest := []) ⟨hx, hb, hml, hown, hts⟩ uc_in (kX10_copyRow_3 l D C A u7 hI  _) q_m1453 q_s1454 q_i11 q_c1455 hvX10_copyRow ⟨(Nat.le_of_ble_eq_true rfl), (Nat.le_of_ble_eq_true rfl)⟩ ⟨(Nat.le_of_ble_eq_true rfl), (Nat.le_of_ble_eq_true rfl)⟩ hK hH (fun q h => Or.inr h) Bl0 (fun _ _ _ => trivial) rfl hl.1 rfl (Nat.le_of_ble_eq_true rfl) dX10_copyTown_39 (fun u10 H locs p12 hH => ?_)
  obtain ⟨hI, hUu10, p12⟩ := p12
  refine lv_aload_n hx hb dX10_copyTown_42 rfl (lv_at hl 0 rfl) ?_
  refine va_get (ci := 10) (v := .ref (A 10)) (C := RX10) (T := TX10) (N := 42) hx hb hts (fun w h => uc_in w (inX10 w h)) hown hK hH.1 0 (mwc0 C A u10) rfl 20 (by decide) (hts _ (uc_in _ q_f1208)) (fun _ h9 => h9) rfl dX10_copyTown_43 ?_
  refine lv_bipush (v := 120) hx hb dX10_copyTown_46 (by decide) ?_
  refine lv_iload_n hx hb dX10_copyTown_48 rfl (lv_at hl 1 rfl) ?_
  refine lv_iload_n hx hb dX10_copyTown_49 rfl (lv_at hl 2 rfl) ?_
  refine csU (n := 4) (As := [.ref (A 10), .int 120, .int 1, .int 0]) (rest := []) ⟨hx, hb, hml, hown, hts⟩ uc_in (kX10_copyRow_4 l D C A u10 hI  _) q_m1453 q_s1454 q_i11 q_c1455 hvX10_copyRow ⟨(Nat.le_of_ble_eq_true rfl), (Nat.le_of_ble_eq_true rfl)⟩ ⟨(Nat.le_of_ble_eq_true rfl), (Nat.le_of_ble_eq_true rfl)⟩ hK hH (fun q h => Or.inr h) Bl0 (fun _ _ _ => trivial) rfl hl.1 rfl (Nat.le_of_ble_eq_true rfl) dX10_copyTown_50 (fun u13 H locs p15 hH => ?_)
  obtain ⟨hI, hUu13, p15⟩ := p15
  exact hret _ _ _ _ _ dX10_copyTown_53 ⟨hI, (Un.tr (Un.tr (Un.tr (Un.tr (Un.tr Un.rf hUu1 rfl rfl rfl) hUu4 rfl rfl rfl) hUu7 rfl rfl rfl) hUu10 rfl rfl rfl) hUu13 rfl rfl rfl), trivial⟩ hH
set_option maxHeartbeats 4000000 in
set_option maxRecDepth 100000 in
theorem kX10_copyRow_5 (l : Launch) (D : va_G) (C : Nat → ClassId) (A : Nat → Nat) (u : St) (hI : IM u) (sz : Nat) : MetV l yX10_copyRow cX10_copyRow 5 1 [.ref (A 6), .int 1, .int 2, .int 0] D (tyl C) (mw C A) X0 u sz (fun u' => IM u' ∧ Un [] [(6, 6)] [] u u' ∧ True) := by
  refine mV (by decide) (Nat.le_of_ble_eq_true rfl) ?_
  intro p e s m below meth c ls ar Q hx hb hml hown hts hK hH hX hl hret
  have hown : s.vm.findClass RX10 = some m.cls := hown
  have hl : lv_has ls 5 [(0, .ref (A 6)), (1, .int 1), (2, .int 2), (3, .int 0)] := hl
  refine lv_iconst (v := 0) hx hb dX10_copyRow_0 (by decide) ?_
  refine lv_istore (lv' := [(4, .int 0), (0, .ref (A 6)), (1, .int 1), (2, .int 2), (3, .int 0)]) hx hb dX10_copyRow_1 hl (by decide) rfl (fun ls hl => ?_)
  have lp3_19 : ∀ (n3 : Nat) (ls : Array Slot) (y18d : Int32) (u19 : St) (H : Heap) (locs : List Loc), 0 ≤ y18d.toInt → y18d.toInt ≤ 1 → 1 - y18d.toInt < (n3 : Int) → Un [] [(6, 6)] [] u u19 → IM u19 → Hd D (mw C A) (va_A (mw C A u) s.heap.size) s.heap u19 H locs → lv_has ls 5 [(4, .int y18d), (0, .ref (A 6)), (1, .int 1), (2, .int 2), (3, .int 0)] → W p l e (rmL 1 0 0) s m ar below meth c H locs 0 0 Q (F0 m 3 ls []) := by
    intro n3
    induction n3 with
    | zero => intro ls y18d u19 H locs ly18d my18d hmun3 hUu19 hI hH hl; exfalso; omega
    | succ n3 ih3_19 =>
      intro ls y18d u19 H locs ly18d my18d hmun3 hUu19 hI hH hl
      refine lv_iload hx hb dX10_copyRow_3 (lv_at hl 0 rfl) ?_
      refine lv_iload_n hx hb dX10_copyRow_5 rfl (lv_at hl 2 rfl) ?_
      refine lv_icmp_ge (tgt := 31) hx hb dX10_copyRow_6 (by decide) (fun c21 => ?_) (fun c21 => ?_)
      · have c21 := cLE (x := 1) (y := y18d) (X := 1) (Y := y18d.toInt) (by decide) rfl c21
        exact hret _ _ _ _ _ dX10_copyRow_31 ⟨hI, (Un.tr Un.rf hUu19 rfl rfl rfl), trivial⟩ hH
      · have c21 := cNLE (x := 1) (y := y18d) (X := 1) (Y := y18d.toInt) (by decide) rfl c21
        refine lv_aload_n hx hb dX10_copyRow_9 rfl (lv_at hl 1 rfl) ?_
        refine lv_iload_n hx hb dX10_copyRow_10 rfl (lv_at hl 2 rfl) ?_
        refine lv_iload_n hx hb dX10_copyRow_11 rfl (lv_at hl 4 rfl) ?_
        refine lv_imul hx hb dX10_copyRow_12 ?_
        refine pv_i (v := 0) (by decide) ?_
        refine lv_iload hx hb dX10_copyRow_13 (lv_at hl 0 rfl) ?_
        refine lv_iadd hx hb dX10_copyRow_15 ?_
        refine p_nm (tt_add (X := 0) (Y := y18d.toInt) (by decide) rfl (by omega) (by omega)) (fun z22 hz22 => ?_)
        refine lv_aload_n hx hb dX10_copyRow_16 rfl (lv_at hl 1 rfl) ?_
        refine lv_iload_n hx hb dX10_copyRow_17 rfl (lv_at hl 2 rfl) ?_
        refine lv_iload_n hx hb dX10_copyRow_18 rfl (lv_at hl 3 rfl) ?_
        refine lv_imul hx hb dX10_copyRow_19 ?_
        refine pv_i (v := 2) (by decide) ?_
        refine lv_iload hx hb dX10_copyRow_20 (lv_at hl 0 rfl) ?_
        refine lv_iadd hx hb dX10_copyRow_22 ?_
        refine p_nm (tt_add (X := 2) (Y := y18d.toInt) (by decide) rfl (by omega) (by omega)) (fun z23 hz23 => ?_)
        refine va_iald hx hb hK hH.1 6 1 (mwc6 C A u19) rfl (i_ix hz23 (by omega) (by omega)) dX10_copyRow_23 ?_
        refine p_any (fun z24 => ?_)
        refine r_iast (j := 6) hx hb hK hH 6 1 (mwc6 C A u19) rfl (i_ix hz22 (by omega) (by omega)) (mwa6 C A u19) dX10_copyRow_24 (fun u25 eu25 H locs hH => ?_)
        have hI := hI.pa0 eu25 (by decide) (by decide) (by decide)
        obtain ⟨z26, ez26⟩ : ∃ z, z = y18d + Int32.ofInt 1 := ⟨_, rfl⟩
        have hz26 : z26.toInt = y18d.toInt + 1 := by rw [ez26]; exact tt_add rfl (by decide) (by omega) (by omega)
        refine lv_iinc (v := z26) (lv' := [(4, .int z26), (0, .ref (A 6)), (1, .int 1), (2, .int 2), (3, .int 0)]) hx hb dX10_copyRow_25 hl (k := 0) rfl ez26.symm (by decide) rfl (fun ls hl => ?_)
        refine lv_goto (tgt := 3) hx hb dX10_copyRow_28 (by decide) ?_
        exact ih3_19 ls z26 u25 _ _ (by have q9 := (show z26.toInt = (y18d.toInt + 1) from hz26); omega) (by have q9 := (show z26.toInt = (y18d.toInt + 1) from hz26); omega) (by have q9 := (show z26.toInt = (y18d.toInt + 1) from hz26); omega) (Un.sa hUu19 rfl eu25) hI hH hl
  exact lp3_19 2 ls 0 u _ _ (by decide) (by decide) (by have q9 : (0 : Int32).toInt = 0 := (by decide); omega) Un.rf hI hH hl
set_option maxHeartbeats 4000000 in
set_option maxRecDepth 100000 in
theorem kX10_copyRow_6 (l : Launch) (D : va_G) (C : Nat → ClassId) (A : Nat → Nat) (u : St) (hI : IM u) (sz : Nat) : MetV l yX10_copyRow cX10_copyRow 5 1 [.ref (A 7), .int 6, .int 2, .int 0] D (tyl C) (mw C A) X0 u sz (fun u' => IM u' ∧ Un [] [(7, 7)] [] u u' ∧ True) := by
  refine mV (by decide) (Nat.le_of_ble_eq_true rfl) ?_
  intro p e s m below meth c ls ar Q hx hb hml hown hts hK hH hX hl hret
  have hown : s.vm.findClass RX10 = some m.cls := hown
  have hl : lv_has ls 5 [(0, .ref (A 7)), (1, .int 6), (2, .int 2), (3, .int 0)] := hl
  refine lv_iconst (v := 0) hx hb dX10_copyRow_0 (by decide) ?_
  refine lv_istore (lv' := [(4, .int 0), (0, .ref (A 7)), (1, .int 6), (2, .int 2), (3, .int 0)]) hx hb dX10_copyRow_1 hl (by decide) rfl (fun ls hl => ?_)
  have lp3_46 : ∀ (n3 : Nat) (ls : Array Slot) (y45d : Int32) (u46 : St) (H : Heap) (locs : List Loc), 0 ≤ y45d.toInt → y45d.toInt ≤ 6 → 6 - y45d.toInt < (n3 : Int) → Un [] [(7, 7)] [] u u46 → IM u46 → Hd D (mw C A) (va_A (mw C A u) s.heap.size) s.heap u46 H locs → lv_has ls 5 [(4, .int y45d), (0, .ref (A 7)), (1, .int 6), (2, .int 2), (3, .int 0)] → W p l e (rmL 1 0 0) s m ar below meth c H locs 0 0 Q (F0 m 3 ls []) := by
    intro n3
    induction n3 with
    | zero => intro ls y45d u46 H locs ly45d my45d hmun3 hUu46 hI hH hl; exfalso; omega
    | succ n3 ih3_46 =>
      intro ls y45d u46 H locs ly45d my45d hmun3 hUu46 hI hH hl
      refine lv_iload hx hb dX10_copyRow_3 (lv_at hl 0 rfl) ?_
      refine lv_iload_n hx hb dX10_copyRow_5 rfl (lv_at hl 2 rfl) ?_
      refine lv_icmp_ge (tgt := 31) hx hb dX10_copyRow_6 (by decide) (fun c48 => ?_) (fun c48 => ?_)
      · have c48 := cLE (x := 6) (y := y45d) (X := 6) (Y := y45d.toInt) (by decide) rfl c48
        exact hret _ _ _ _ _ dX10_copyRow_31 ⟨hI, (Un.tr Un.rf hUu46 rfl rfl rfl), trivial⟩ hH
      · have c48 := cNLE (x := 6) (y := y45d) (X := 6) (Y := y45d.toInt) (by decide) rfl c48
        refine lv_aload_n hx hb dX10_copyRow_9 rfl (lv_at hl 1 rfl) ?_
        refine lv_iload_n hx hb dX10_copyRow_10 rfl (lv_at hl 2 rfl) ?_
        refine lv_iload_n hx hb dX10_copyRow_11 rfl (lv_at hl 4 rfl) ?_
        refine lv_imul hx hb dX10_copyRow_12 ?_
        refine pv_i (v := 0) (by decide) ?_
        refine lv_iload hx hb dX10_copyRow_13 (lv_at hl 0 rfl) ?_
        refine lv_iadd hx hb dX10_copyRow_15 ?_
        refine p_nm (tt_add (X := 0) (Y := y45d.toInt) (by decide) rfl (by omega) (by omega)) (fun z49 hz49 => ?_)
        refine lv_aload_n hx hb dX10_copyRow_16 rfl (lv_at hl 1 rfl) ?_
        refine lv_iload_n hx hb dX10_copyRow_17 rfl (lv_at hl 2 rfl) ?_
        refine lv_iload_n hx hb dX10_copyRow_18 rfl (lv_at hl 3 rfl) ?_
        refine lv_imul hx hb dX10_copyRow_19 ?_
        refine pv_i (v := 12) (by decide) ?_
        refine lv_iload hx hb dX10_copyRow_20 (lv_at hl 0 rfl) ?_
        refine lv_iadd hx hb dX10_copyRow_22 ?_
        refine p_nm (tt_add (X := 12) (Y := y45d.toInt) (by decide) rfl (by omega) (by omega)) (fun z50 hz50 => ?_)
        refine va_iald hx hb hK hH.1 7 1 (mwc7 C A u46) rfl (i_ix hz50 (by omega) (by omega)) dX10_copyRow_23 ?_
        refine p_bd (P := fun q => 0 ≤ q ∧ q ≤ hB (Int32.toNatClampNeg z50 % 6)) (hI.has _) (fun z51 bz51 => ?_)
        have bz51 : 0 ≤ z51.toInt ∧ z51.toInt ≤ hB (Int32.toNatClampNeg z50 % 6) := bz51
        refine r_iast (j := 7) hx hb hK hH 7 1 (mwc7 C A u46) rfl (i_ix hz49 (by omega) (by omega)) (mwa7 C A u46) dX10_copyRow_24 (fun u52 eu52 H locs hH => ?_)
        have hI := hI.pah eu52 rfl (by omega) (by have q1 := i_cl (x := z49) (X := (0 + y45d.toInt)) hz49 (by omega); have q2 := i_cl (x := z50) (X := (12 + y45d.toInt)) hz50 (by omega); have q3 : Int32.toNatClampNeg z49 % 6 = Int32.toNatClampNeg z50 % 6 := (by omega); rw [q3]; exact bz51.2)
        obtain ⟨z53, ez53⟩ : ∃ z, z = y45d + Int32.ofInt 1 := ⟨_, rfl⟩
        have hz53 : z53.toInt = y45d.toInt + 1 := by rw [ez53]; exact tt_add rfl (by decide) (by omega) (by omega)
        refine lv_iinc (v := z53) (lv' := [(4, .int z53), (0, .ref (A 7)), (1, .int 6), (2, .int 2), (3, .int 0)]) hx hb dX10_copyRow_25 hl (k := 0) rfl ez53.symm (by decide) rfl (fun ls hl => ?_)
        refine lv_goto (tgt := 3) hx hb dX10_copyRow_28 (by decide) ?_
        exact ih3_46 ls z53 u52 _ _ (by have q9 := (show z53.toInt = (y45d.toInt + 1) from hz53); omega) (by have q9 := (show z53.toInt = (y45d.toInt + 1) from hz53); omega) (by have q9 := (show z53.toInt = (y45d.toInt + 1) from hz53); omega) (Un.sa hUu46 rfl eu52) hI hH hl
  exact lp3_46 7 ls 0 u _ _ (by decide) (by decide) (by have q9 : (0 : Int32).toInt = 0 := (by decide); omega) Un.rf hI hH hl
set_option maxHeartbeats 4000000 in
set_option maxRecDepth 100000 in
theorem kX10_copyRow_7 (l : Launch) (D : va_G) (C : Nat → ClassId) (A : Nat → Nat) (u : St) (hI : IM u) (sz : Nat) : MetV l yX10_copyRow cX10_copyRow 5 1 [.ref (A 8), .int 30, .int 2, .int 0] D (tyl C) (mw C A) X0 u sz (fun u' => IM u' ∧ Un [] [(8, 8)] [] u u' ∧ True) := by
  refine mV (by decide) (Nat.le_of_ble_eq_true rfl) ?_
  intro p e s m below meth c ls ar Q hx hb hml hown hts hK hH hX hl hret
  have hown : s.vm.findClass RX10 = some m.cls := hown
  have hl : lv_has ls 5 [(0, .ref (A 8)), (1, .int 30), (2, .int 2), (3, .int 0)] := hl
  refine lv_iconst (v := 0) hx hb dX10_copyRow_0 (by decide) ?_
  refine lv_istore (lv' := [(4, .int 0), (0, .ref (A 8)), (1, .int 30), (2, .int 2), (3, .int 0)]) hx hb dX10_copyRow_1 hl (by decide) rfl (fun ls hl => ?_)
  have lp3_64 : ∀ (n3 : Nat) (ls : Array Slot) (y63d : Int32) (u64 : St) (H : Heap) (locs : List Loc), 0 ≤ y63d.toInt → y63d.toInt ≤ 30 → 30 - y63d.toInt < (n3 : Int) → Un [] [(8, 8)] [] u u64 → IM u64 → Hd D (mw C A) (va_A (mw C A u) s.heap.size) s.heap u64 H locs → lv_has ls 5 [(4, .int y63d), (0, .ref (A 8)), (1, .int 30), (2, .int 2), (3, .int 0)] → W p l e (rmL 1 0 0) s m ar below meth c H locs 0 0 Q (F0 m 3 ls []) := by
    intro n3
    induction n3 with
    | zero => intro ls y63d u64 H locs ly63d my63d hmun3 hUu64 hI hH hl; exfalso; omega
    | succ n3 ih3_64 =>
      intro ls y63d u64 H locs ly63d my63d hmun3 hUu64 hI hH hl
      refine lv_iload hx hb dX10_copyRow_3 (lv_at hl 0 rfl) ?_
      refine lv_iload_n hx hb dX10_copyRow_5 rfl (lv_at hl 2 rfl) ?_
      refine lv_icmp_ge (tgt := 31) hx hb dX10_copyRow_6 (by decide) (fun c66 => ?_) (fun c66 => ?_)
      · have c66 := cLE (x := 30) (y := y63d) (X := 30) (Y := y63d.toInt) (by decide) rfl c66
        exact hret _ _ _ _ _ dX10_copyRow_31 ⟨hI, (Un.tr Un.rf hUu64 rfl rfl rfl), trivial⟩ hH
      · have c66 := cNLE (x := 30) (y := y63d) (X := 30) (Y := y63d.toInt) (by decide) rfl c66
        refine lv_aload_n hx hb dX10_copyRow_9 rfl (lv_at hl 1 rfl) ?_
        refine lv_iload_n hx hb dX10_copyRow_10 rfl (lv_at hl 2 rfl) ?_
        refine lv_iload_n hx hb dX10_copyRow_11 rfl (lv_at hl 4 rfl) ?_
        refine lv_imul hx hb dX10_copyRow_12 ?_
        refine pv_i (v := 0) (by decide) ?_
        refine lv_iload hx hb dX10_copyRow_13 (lv_at hl 0 rfl) ?_
        refine lv_iadd hx hb dX10_copyRow_15 ?_
        refine p_nm (tt_add (X := 0) (Y := y63d.toInt) (by decide) rfl (by omega) (by omega)) (fun z67 hz67 => ?_)
        refine lv_aload_n hx hb dX10_copyRow_16 rfl (lv_at hl 1 rfl) ?_
        refine lv_iload_n hx hb dX10_copyRow_17 rfl (lv_at hl 2 rfl) ?_
        refine lv_iload_n hx hb dX10_copyRow_18 rfl (lv_at hl 3 rfl) ?_
        refine lv_imul hx hb dX10_copyRow_19 ?_
        refine pv_i (v := 60) (by decide) ?_
        refine lv_iload hx hb dX10_copyRow_20 (lv_at hl 0 rfl) ?_
        refine lv_iadd hx hb dX10_copyRow_22 ?_
        refine p_nm (tt_add (X := 60) (Y := y63d.toInt) (by decide) rfl (by omega) (by omega)) (fun z68 hz68 => ?_)
        refine va_iald hx hb hK hH.1 8 1 (mwc8 C A u64) rfl (i_ix hz68 (by omega) (by omega)) dX10_copyRow_23 ?_
        refine p_any (fun z69 => ?_)
        refine r_iast (j := 8) hx hb hK hH 8 1 (mwc8 C A u64) rfl (i_ix hz67 (by omega) (by omega)) (mwa8 C A u64) dX10_copyRow_24 (fun u70 eu70 H locs hH => ?_)
        have hI := hI.pa0 eu70 (by decide) (by decide) (by decide)
        obtain ⟨z71, ez71⟩ : ∃ z, z = y63d + Int32.ofInt 1 := ⟨_, rfl⟩
        have hz71 : z71.toInt = y63d.toInt + 1 := by rw [ez71]; exact tt_add rfl (by decide) (by omega) (by omega)
        refine lv_iinc (v := z71) (lv' := [(4, .int z71), (0, .ref (A 8)), (1, .int 30), (2, .int 2), (3, .int 0)]) hx hb dX10_copyRow_25 hl (k := 0) rfl ez71.symm (by decide) rfl (fun ls hl => ?_)
        refine lv_goto (tgt := 3) hx hb dX10_copyRow_28 (by decide) ?_
        exact ih3_64 ls z71 u70 _ _ (by have q9 := (show z71.toInt = (y63d.toInt + 1) from hz71); omega) (by have q9 := (show z71.toInt = (y63d.toInt + 1) from hz71); omega) (by have q9 := (show z71.toInt = (y63d.toInt + 1) from hz71); omega) (Un.sa hUu64 rfl eu70) hI hH hl
  exact lp3_64 31 ls 0 u _ _ (by decide) (by decide) (by have q9 : (0 : Int32).toInt = 0 := (by decide); omega) Un.rf hI hH hl
set_option maxHeartbeats 4000000 in
set_option maxRecDepth 100000 in
theorem kX10_copyRow_8 (l : Launch) (D : va_G) (C : Nat → ClassId) (A : Nat → Nat) (u : St) (hI : IM u) (sz : Nat) : MetV l yX10_copyRow cX10_copyRow 5 1 [.ref (A 9), .int 5, .int 2, .int 0] D (tyl C) (mw C A) X0 u sz (fun u' => IM u' ∧ Un [] [(9, 9)] [] u u' ∧ True) := by
  refine mV (by decide) (Nat.le_of_ble_eq_true rfl) ?_
  intro p e s m below meth c ls ar Q hx hb hml hown hts hK hH hX hl hret
  have hown : s.vm.findClass RX10 = some m.cls := hown
  have hl : lv_has ls 5 [(0, .ref (A 9)), (1, .int 5), (2, .int 2), (3, .int 0)] := hl
  refine lv_iconst (v := 0) hx hb dX10_copyRow_0 (by decide) ?_
  refine lv_istore (lv' := [(4, .int 0), (0, .ref (A 9)), (1, .int 5), (2, .int 2), (3, .int 0)]) hx hb dX10_copyRow_1 hl (by decide) rfl (fun ls hl => ?_)
  have lp3_37 : ∀ (n3 : Nat) (ls : Array Slot) (y36d : Int32) (u37 : St) (H : Heap) (locs : List Loc), 0 ≤ y36d.toInt → y36d.toInt ≤ 5 → 5 - y36d.toInt < (n3 : Int) → Un [] [(9, 9)] [] u u37 → IM u37 → Hd D (mw C A) (va_A (mw C A u) s.heap.size) s.heap u37 H locs → lv_has ls 5 [(4, .int y36d), (0, .ref (A 9)), (1, .int 5), (2, .int 2), (3, .int 0)] → W p l e (rmL 1 0 0) s m ar below meth c H locs 0 0 Q (F0 m 3 ls []) := by
    intro n3
    induction n3 with
    | zero => intro ls y36d u37 H locs ly36d my36d hmun3 hUu37 hI hH hl; exfalso; omega
    | succ n3 ih3_37 =>
      intro ls y36d u37 H locs ly36d my36d hmun3 hUu37 hI hH hl
      refine lv_iload hx hb dX10_copyRow_3 (lv_at hl 0 rfl) ?_
      refine lv_iload_n hx hb dX10_copyRow_5 rfl (lv_at hl 2 rfl) ?_
      refine lv_icmp_ge (tgt := 31) hx hb dX10_copyRow_6 (by decide) (fun c39 => ?_) (fun c39 => ?_)
      · have c39 := cLE (x := 5) (y := y36d) (X := 5) (Y := y36d.toInt) (by decide) rfl c39
        exact hret _ _ _ _ _ dX10_copyRow_31 ⟨hI, (Un.tr Un.rf hUu37 rfl rfl rfl), trivial⟩ hH
      · have c39 := cNLE (x := 5) (y := y36d) (X := 5) (Y := y36d.toInt) (by decide) rfl c39
        refine lv_aload_n hx hb dX10_copyRow_9 rfl (lv_at hl 1 rfl) ?_
        refine lv_iload_n hx hb dX10_copyRow_10 rfl (lv_at hl 2 rfl) ?_
        refine lv_iload_n hx hb dX10_copyRow_11 rfl (lv_at hl 4 rfl) ?_
        refine lv_imul hx hb dX10_copyRow_12 ?_
        refine pv_i (v := 0) (by decide) ?_
        refine lv_iload hx hb dX10_copyRow_13 (lv_at hl 0 rfl) ?_
        refine lv_iadd hx hb dX10_copyRow_15 ?_
        refine p_nm (tt_add (X := 0) (Y := y36d.toInt) (by decide) rfl (by omega) (by omega)) (fun z40 hz40 => ?_)
        refine lv_aload_n hx hb dX10_copyRow_16 rfl (lv_at hl 1 rfl) ?_
        refine lv_iload_n hx hb dX10_copyRow_17 rfl (lv_at hl 2 rfl) ?_
        refine lv_iload_n hx hb dX10_copyRow_18 rfl (lv_at hl 3 rfl) ?_
        refine lv_imul hx hb dX10_copyRow_19 ?_
        refine pv_i (v := 10) (by decide) ?_
        refine lv_iload hx hb dX10_copyRow_20 (lv_at hl 0 rfl) ?_
        refine lv_iadd hx hb dX10_copyRow_22 ?_
        refine p_nm (tt_add (X := 10) (Y := y36d.toInt) (by decide) rfl (by omega) (by omega)) (fun z41 hz41 => ?_)
        refine va_iald hx hb hK hH.1 9 1 (mwc9 C A u37) rfl (i_ix hz41 (by omega) (by omega)) dX10_copyRow_23 ?_
        refine p_any (fun z42 => ?_)
        refine r_iast (j := 9) hx hb hK hH 9 1 (mwc9 C A u37) rfl (i_ix hz40 (by omega) (by omega)) (mwa9 C A u37) dX10_copyRow_24 (fun u43 eu43 H locs hH => ?_)
        have hI := hI.pa0 eu43 (by decide) (by decide) (by decide)
        obtain ⟨z44, ez44⟩ : ∃ z, z = y36d + Int32.ofInt 1 := ⟨_, rfl⟩
        have hz44 : z44.toInt = y36d.toInt + 1 := by rw [ez44]; exact tt_add rfl (by decide) (by omega) (by omega)
        refine lv_iinc (v := z44) (lv' := [(4, .int z44), (0, .ref (A 9)), (1, .int 5), (2, .int 2), (3, .int 0)]) hx hb dX10_copyRow_25 hl (k := 0) rfl ez44.symm (by decide) rfl (fun ls hl => ?_)
        refine lv_goto (tgt := 3) hx hb dX10_copyRow_28 (by decide) ?_
        exact ih3_37 ls z44 u43 _ _ (by have q9 := (show z44.toInt = (y36d.toInt + 1) from hz44); omega) (by have q9 := (show z44.toInt = (y36d.toInt + 1) from hz44); omega) (by have q9 := (show z44.toInt = (y36d.toInt + 1) from hz44); omega) (Un.sa hUu37 rfl eu43) hI hH hl
  exact lp3_37 6 ls 0 u _ _ (by decide) (by decide) (by have q9 : (0 : Int32).toInt = 0 := (by decide); omega) Un.rf hI hH hl
set_option maxHeartbeats 4000000 in
set_option maxRecDepth 100000 in
theorem kX10_copyRow_9 (l : Launch) (D : va_G) (C : Nat → ClassId) (A : Nat → Nat) (u : St) (hI : IM u) (sz : Nat) : MetV l yX10_copyRow cX10_copyRow 5 1 [.ref (A 10), .int 120, .int 2, .int 0] D (tyl C) (mw C A) X0 u sz (fun u' => IM u' ∧ Un [] [(10, 10)] [] u u' ∧ True) := by
  refine mV (by decide) (Nat.le_of_ble_eq_true rfl) ?_
  intro p e s m below meth c ls ar Q hx hb hml hown hts hK hH hX hl hret
  have hown : s.vm.findClass RX10 = some m.cls := hown
  have hl : lv_has ls 5 [(0, .ref (A 10)), (1, .int 120), (2, .int 2), (3, .int 0)] := hl
  refine lv_iconst (v := 0) hx hb dX10_copyRow_0 (by decide) ?_
  refine lv_istore (lv' := [(4, .int 0), (0, .ref (A 10)), (1, .int 120), (2, .int 2), (3, .int 0)]) hx hb dX10_copyRow_1 hl (by decide) rfl (fun ls hl => ?_)
  have lp3_109 : ∀ (n3 : Nat) (ls : Array Slot) (y108d : Int32) (u109 : St) (H : Heap) (locs : List Loc), 0 ≤ y108d.toInt → y108d.toInt ≤ 120 → 120 - y108d.toInt < (n3 : Int) → Un [] [(10, 10)] [] u u109 → IM u109 → Hd D (mw C A) (va_A (mw C A u) s.heap.size) s.heap u109 H locs → lv_has ls 5 [(4, .int y108d), (0, .ref (A 10)), (1, .int 120), (2, .int 2), (3, .int 0)] → W p l e (rmL 1 0 0) s m ar below meth c H locs 0 0 Q (F0 m 3 ls []) := by
    intro n3
    induction n3 with
    | zero => intro ls y108d u109 H locs ly108d my108d hmun3 hUu109 hI hH hl; exfalso; omega
    | succ n3 ih3_109 =>
      intro ls y108d u109 H locs ly108d my108d hmun3 hUu109 hI hH hl
      refine lv_iload hx hb dX10_copyRow_3 (lv_at hl 0 rfl) ?_
      refine lv_iload_n hx hb dX10_copyRow_5 rfl (lv_at hl 2 rfl) ?_
      refine lv_icmp_ge (tgt := 31) hx hb dX10_copyRow_6 (by decide) (fun c111 => ?_) (fun c111 => ?_)
      · have c111 := cLE (x := 120) (y := y108d) (X := 120) (Y := y108d.toInt) (by decide) rfl c111
        exact hret _ _ _ _ _ dX10_copyRow_31 ⟨hI, (Un.tr Un.rf hUu109 rfl rfl rfl), trivial⟩ hH
      · have c111 := cNLE (x := 120) (y := y108d) (X := 120) (Y := y108d.toInt) (by decide) rfl c111
        refine lv_aload_n hx hb dX10_copyRow_9 rfl (lv_at hl 1 rfl) ?_
        refine lv_iload_n hx hb dX10_copyRow_10 rfl (lv_at hl 2 rfl) ?_
        refine lv_iload_n hx hb dX10_copyRow_11 rfl (lv_at hl 4 rfl) ?_
        refine lv_imul hx hb dX10_copyRow_12 ?_
        refine pv_i (v := 0) (by decide) ?_
        refine lv_iload hx hb dX10_copyRow_13 (lv_at hl 0 rfl) ?_
        refine lv_iadd hx hb dX10_copyRow_15 ?_
        refine p_nm (tt_add (X := 0) (Y := y108d.toInt) (by decide) rfl (by omega) (by omega)) (fun z112 hz112 => ?_)
        refine lv_aload_n hx hb dX10_copyRow_16 rfl (lv_at hl 1 rfl) ?_
        refine lv_iload_n hx hb dX10_copyRow_17 rfl (lv_at hl 2 rfl) ?_
        refine lv_iload_n hx hb dX10_copyRow_18 rfl (lv_at hl 3 rfl) ?_
        refine lv_imul hx hb dX10_copyRow_19 ?_
        refine pv_i (v := 240) (by decide) ?_
        refine lv_iload hx hb dX10_copyRow_20 (lv_at hl 0 rfl) ?_
        refine lv_iadd hx hb dX10_copyRow_22 ?_
        refine p_nm (tt_add (X := 240) (Y := y108d.toInt) (by decide) rfl (by omega) (by omega)) (fun z113 hz113 => ?_)
        refine va_iald hx hb hK hH.1 10 1 (mwc10 C A u109) rfl (i_ix hz113 (by omega) (by omega)) dX10_copyRow_23 ?_
        refine p_any (fun z114 => ?_)
        refine r_iast (j := 10) hx hb hK hH 10 1 (mwc10 C A u109) rfl (i_ix hz112 (by omega) (by omega)) (mwa10 C A u109) dX10_copyRow_24 (fun u115 eu115 H locs hH => ?_)
        have hI := hI.pa0 eu115 (by decide) (by decide) (by decide)
        obtain ⟨z116, ez116⟩ : ∃ z, z = y108d + Int32.ofInt 1 := ⟨_, rfl⟩
        have hz116 : z116.toInt = y108d.toInt + 1 := by rw [ez116]; exact tt_add rfl (by decide) (by omega) (by omega)
        refine lv_iinc (v := z116) (lv' := [(4, .int z116), (0, .ref (A 10)), (1, .int 120), (2, .int 2), (3, .int 0)]) hx hb dX10_copyRow_25 hl (k := 0) rfl ez116.symm (by decide) rfl (fun ls hl => ?_)
        refine lv_goto (tgt := 3) hx hb dX10_copyRow_28 (by decide) ?_
        exact ih3_109 ls z116 u115 _ _ (by have q9 := (show z116.toInt = (y108d.toInt + 1) from hz116); omega) (by have q9 := (show z116.toInt = (y108d.toInt + 1) from hz116); omega) (by have q9 := (show z116.toInt = (y108d.toInt + 1) from hz116); omega) (Un.sa hUu109 rfl eu115) hI hH hl
  exact lp3_109 121 ls 0 u _ _ (by decide) (by decide) (by have q9 : (0 : Int32).toInt = 0 := (by decide); omega) Un.rf hI hH hl
set_option maxHeartbeats 4000000 in
set_option maxRecDepth 100000 in
theorem kX10_copyTown_1 (l : Launch) (D : va_G) (C : Nat → ClassId) (A : Nat → Nat) (u : St) (hI : IM u) (sz : Nat) : MetV l yX10_copyTown cX10_copyTown 3 2 [.ref (A 0), .int 2, .int 0] D (tyl C) (mw C A) X0 u sz (fun u' => IM u' ∧ Un [] [(6, 6), (7, 7), (8, 8), (9, 9), (10, 10)] [] u u' ∧ True) := by
  refine mV (by decide) (Nat.le_of_ble_eq_true rfl) ?_
  intro p e s m below meth c ls ar Q hx hb hml hown hts hK hH hX hl hret
  have hown : s.vm.findClass RX10 = some m.cls := hown
  have hl : lv_has ls 3 [(0, .ref (A 0)), (1, .int 2), (2, .int 0)] := hl
  refine lv_aload_n hx hb dX10_copyTown_0 rfl (lv_at hl 0 rfl) ?_
  refine va_get (ci := 10) (v := .ref (A 6)) (C := RX10) (T := TX10) (N := 42) hx hb hts (fun w h => uc_in w (inX10 w h)) hown hK hH.1 0 (mwc0 C A u) rfl 16 (by decide) (hts _ (uc_in _ q_f1204)) (fun _ h9 => h9) rfl dX10_copyTown_1 ?_
  refine lv_iconst (v := 1) hx hb dX10_copyTown_4 (by decide) ?_
  refine lv_iload_n hx hb dX10_copyTown_5 rfl (lv_at hl 1 rfl) ?_
  refine lv_iload_n hx hb dX10_copyTown_6 rfl (lv_at hl 2 rfl) ?_
  refine csU (n := 4) (As := [.ref (A 6), .int 1, .int 2, .int 0]) (rest := []) ⟨hx, hb, hml, hown, hts⟩ uc_in (kX10_copyRow_5 l D C A u hI  _) q_m1453 q_s1454 q_i11 q_c1455 hvX10_copyRow ⟨(Nat.le_of_ble_eq_true rfl), (Nat.le_of_ble_eq_true rfl)⟩ ⟨(Nat.le_of_ble_eq_true rfl), (Nat.le_of_ble_eq_true rfl)⟩ hK hH (fun q h => Or.inr h) Bl0 (fun _ _ _ => trivial) rfl hl.1 rfl (Nat.le_of_ble_eq_true rfl) dX10_copyTown_7 (fun u1 H locs p3 hH => ?_)
  obtain ⟨hI, hUu1, p3⟩ := p3
  refine lv_aload_n hx hb dX10_copyTown_10 rfl (lv_at hl 0 rfl) ?_
  refine va_get (ci := 10) (v := .ref (A 7)) (C := RX10) (T := TX10) (N := 42) hx hb hts (fun w h => uc_in w (inX10 w h)) hown hK hH.1 0 (mwc0 C A u1) rfl 17 (by decide) (hts _ (uc_in _ q_f1205)) (fun _ h9 => h9) rfl dX10_copyTown_11 ?_
  refine lv_bipush (v := 6) hx hb dX10_copyTown_14 (by decide) ?_
  refine lv_iload_n hx hb dX10_copyTown_16 rfl (lv_at hl 1 rfl) ?_
  refine lv_iload_n hx hb dX10_copyTown_17 rfl (lv_at hl 2 rfl) ?_
  refine csU (n := 4) (As := [.ref (A 7), .int 6, .int 2, .int 0]) (rest := []) ⟨hx, hb, hml, hown, hts⟩ uc_in (kX10_copyRow_6 l D C A u1 hI  _) q_m1453 q_s1454 q_i11 q_c1455 hvX10_copyRow ⟨(Nat.le_of_ble_eq_true rfl), (Nat.le_of_ble_eq_true rfl)⟩ ⟨(Nat.le_of_ble_eq_true rfl), (Nat.le_of_ble_eq_true rfl)⟩ hK hH (fun q h => Or.inr h) Bl0 (fun _ _ _ => trivial) rfl hl.1 rfl (Nat.le_of_ble_eq_true rfl) dX10_copyTown_18 (fun u4 H locs p6 hH => ?_)
  obtain ⟨hI, hUu4, p6⟩ := p6
  refine lv_aload_n hx hb dX10_copyTown_21 rfl (lv_at hl 0 rfl) ?_
  refine va_get (ci := 10) (v := .ref (A 8)) (C := RX10) (T := TX10) (N := 42) hx hb hts (fun w h => uc_in w (inX10 w h)) hown hK hH.1 0 (mwc0 C A u4) rfl 18 (by decide) (hts _ (uc_in _ q_f1206)) (fun _ h9 => h9) rfl dX10_copyTown_22 ?_
  refine lv_bipush (v := 30) hx hb dX10_copyTown_25 (by decide) ?_
  refine lv_iload_n hx hb dX10_copyTown_27 rfl (lv_at hl 1 rfl) ?_
  refine lv_iload_n hx hb dX10_copyTown_28 rfl (lv_at hl 2 rfl) ?_
  refine csU (n := 4) (As := [.ref (A 8), .int 30, .int 2, .int 0]) (rest := []) ⟨hx, hb, hml, hown, hts⟩ uc_in (kX10_copyRow_7 l D C A u4 hI  _) q_m1453 q_s1454 q_i11 q_c1455 hvX10_copyRow ⟨(Nat.le_of_ble_eq_true rfl), (Nat.le_of_ble_eq_true rfl)⟩ ⟨(Nat.le_of_ble_eq_true rfl), (Nat.le_of_ble_eq_true rfl)⟩ hK hH (fun q h => Or.inr h) Bl0 (fun _ _ _ => trivial) rfl hl.1 rfl (Nat.le_of_ble_eq_true rfl) dX10_copyTown_29 (fun u7 H locs p9 hH => ?_)
  obtain ⟨hI, hUu7, p9⟩ := p9
  refine lv_aload_n hx hb dX10_copyTown_32 rfl (lv_at hl 0 rfl) ?_
  refine va_get (ci := 10) (v := .ref (A 9)) (C := RX10) (T := TX10) (N := 42) hx hb hts (fun w h => uc_in w (inX10 w h)) hown hK hH.1 0 (mwc0 C A u7) rfl 19 (by decide) (hts _ (uc_in _ q_f1207)) (fun _ h9 => h9) rfl dX10_copyTown_33 ?_
  refine lv_iconst (v := 5) hx hb dX10_copyTown_36 (by decide) ?_
  refine lv_iload_n hx hb dX10_copyTown_37 rfl (lv_at hl 1 rfl) ?_
  refine lv_iload_n hx hb dX10_copyTown_38 rfl (lv_at hl 2 rfl) ?_
  refine csU (n := 4) (As := [.ref (A 9), .int 5, .int 2, .int 0]) (rest := []) ⟨hx, hb, hml, hown, hts⟩ uc_in (kX10_copyRow_8 l D C A u7 hI  _) q_m1453 q_s1454 q_i11 q_c1455 hvX10_copyRow ⟨(Nat.le_of_ble_eq_true rfl), (Nat.le_of_ble_eq_true rfl)⟩ ⟨(Nat.le_of_ble_eq_true rfl), (Nat.le_of_ble_eq_true rfl)⟩ hK hH (fun q h => Or.inr h) Bl0 (fun _ _ _ => trivial) rfl hl.1 rfl (Nat.le_of_ble_eq_true rfl) dX10_copyTown_39 (fun u10 H locs p12 hH => ?_)
  obtain ⟨hI, hUu10, p12⟩ := p12
  refine lv_aload_n hx hb dX10_copyTown_42 rfl (lv_at hl 0 rfl) ?_
  refine va_get (ci := 10) (v := .ref (A 10)) (C := RX10) (T := TX10) (N := 42) hx hb hts (fun w h => uc_in w (inX10 w h)) hown hK hH.1 0 (mwc0 C A u10) rfl 20 (by decide) (hts _ (uc_in _ q_f1208)) (fun _ h9 => h9) rfl dX10_copyTown_43 ?_
  refine lv_bipush (v := 120) hx hb dX10_copyTown_46 (by decide) ?_
  refine lv_iload_n hx hb dX10_copyTown_48 rfl (lv_at hl 1 rfl) ?_
  refine lv_iload_n hx hb dX10_copyTown_49 rfl (lv_at hl 2 rfl) ?_
  refine csU (n := 4) (As := [.ref (A 10), .int 120, .int 2, .int 0]) (rest := []) ⟨hx, hb, hml, hown, hts⟩ uc_in (kX10_copyRow_9 l D C A u10 hI  _) q_m1453 q_s1454 q_i11 q_c1455 hvX10_copyRow ⟨(Nat.le_of_ble_eq_true rfl), (Nat.le_of_ble_eq_true rfl)⟩ ⟨(Nat.le_of_ble_eq_true rfl), (Nat.le_of_ble_eq_true rfl)⟩ hK hH (fun q h => Or.inr h) Bl0 (fun _ _ _ => trivial) rfl hl.1 rfl (Nat.le_of_ble_eq_true rfl) dX10_copyTown_50 (fun u13 H locs p15 hH => ?_)
  obtain ⟨hI, hUu13, p15⟩ := p15
  exact hret _ _ _ _ _ dX10_copyTown_53 ⟨hI, (Un.tr (Un.tr (Un.tr (Un.tr (Un.tr Un.rf hUu1 rfl rfl rfl) hUu4 rfl rfl rfl) hUu7 rfl rfl rfl) hUu10 rfl rfl rfl) hUu13 rfl rfl rfl), trivial⟩ hH
set_option maxHeartbeats 4000000 in
set_option maxRecDepth 100000 in
theorem kX10_copyRow_10 (l : Launch) (D : va_G) (C : Nat → ClassId) (A : Nat → Nat) (u : St) (hI : IM u) (sz : Nat) : MetV l yX10_copyRow cX10_copyRow 5 1 [.ref (A 6), .int 1, .int 3, .int 0] D (tyl C) (mw C A) X0 u sz (fun u' => IM u' ∧ Un [] [(6, 6)] [] u u' ∧ True) := by
  refine mV (by decide) (Nat.le_of_ble_eq_true rfl) ?_
  intro p e s m below meth c ls ar Q hx hb hml hown hts hK hH hX hl hret
  have hown : s.vm.findClass RX10 = some m.cls := hown
  have hl : lv_has ls 5 [(0, .ref (A 6)), (1, .int 1), (2, .int 3), (3, .int 0)] := hl
  refine lv_iconst (v := 0) hx hb dX10_copyRow_0 (by decide) ?_
  refine lv_istore (lv' := [(4, .int 0), (0, .ref (A 6)), (1, .int 1), (2, .int 3), (3, .int 0)]) hx hb dX10_copyRow_1 hl (by decide) rfl (fun ls hl => ?_)
  have lp3_19 : ∀ (n3 : Nat) (ls : Array Slot) (y18d : Int32) (u19 : St) (H : Heap) (locs : List Loc), 0 ≤ y18d.toInt → y18d.toInt ≤ 1 → 1 - y18d.toInt < (n3 : Int) → Un [] [(6, 6)] [] u u19 → IM u19 → Hd D (mw C A) (va_A (mw C A u) s.heap.size) s.heap u19 H locs → lv_has ls 5 [(4, .int y18d), (0, .ref (A 6)), (1, .int 1), (2, .int 3), (3, .int 0)] → W p l e (rmL 1 0 0) s m ar below meth c H locs 0 0 Q (F0 m 3 ls []) := by
    intro n3
    induction n3 with
    | zero => intro ls y18d u19 H locs ly18d my18d hmun3 hUu19 hI hH hl; exfalso; omega
    | succ n3 ih3_19 =>
      intro ls y18d u19 H locs ly18d my18d hmun3 hUu19 hI hH hl
      refine lv_iload hx hb dX10_copyRow_3 (lv_at hl 0 rfl) ?_
      refine lv_iload_n hx hb dX10_copyRow_5 rfl (lv_at hl 2 rfl) ?_
      refine lv_icmp_ge (tgt := 31) hx hb dX10_copyRow_6 (by decide) (fun c21 => ?_) (fun c21 => ?_)
      · have c21 := cLE (x := 1) (y := y18d) (X := 1) (Y := y18d.toInt) (by decide) rfl c21
        exact hret _ _ _ _ _ dX10_copyRow_31 ⟨hI, (Un.tr Un.rf hUu19 rfl rfl rfl), trivial⟩ hH
      · have c21 := cNLE (x := 1) (y := y18d) (X := 1) (Y := y18d.toInt) (by decide) rfl c21
        refine lv_aload_n hx hb dX10_copyRow_9 rfl (lv_at hl 1 rfl) ?_
        refine lv_iload_n hx hb dX10_copyRow_10 rfl (lv_at hl 2 rfl) ?_
        refine lv_iload_n hx hb dX10_copyRow_11 rfl (lv_at hl 4 rfl) ?_
        refine lv_imul hx hb dX10_copyRow_12 ?_
        refine pv_i (v := 0) (by decide) ?_
        refine lv_iload hx hb dX10_copyRow_13 (lv_at hl 0 rfl) ?_
        refine lv_iadd hx hb dX10_copyRow_15 ?_
        refine p_nm (tt_add (X := 0) (Y := y18d.toInt) (by decide) rfl (by omega) (by omega)) (fun z22 hz22 => ?_)
        refine lv_aload_n hx hb dX10_copyRow_16 rfl (lv_at hl 1 rfl) ?_
        refine lv_iload_n hx hb dX10_copyRow_17 rfl (lv_at hl 2 rfl) ?_
        refine lv_iload_n hx hb dX10_copyRow_18 rfl (lv_at hl 3 rfl) ?_
        refine lv_imul hx hb dX10_copyRow_19 ?_
        refine pv_i (v := 3) (by decide) ?_
        refine lv_iload hx hb dX10_copyRow_20 (lv_at hl 0 rfl) ?_
        refine lv_iadd hx hb dX10_copyRow_22 ?_
        refine p_nm (tt_add (X := 3) (Y := y18d.toInt) (by decide) rfl (by omega) (by omega)) (fun z23 hz23 => ?_)
        refine va_iald hx hb hK hH.1 6 1 (mwc6 C A u19) rfl (i_ix hz23 (by omega) (by omega)) dX10_copyRow_23 ?_
        refine p_any (fun z24 => ?_)
        refine r_iast (j := 6) hx hb hK hH 6 1 (mwc6 C A u19) rfl (i_ix hz22 (by omega) (by omega)) (mwa6 C A u19) dX10_copyRow_24 (fun u25 eu25 H locs hH => ?_)
        have hI := hI.pa0 eu25 (by decide) (by decide) (by decide)
        obtain ⟨z26, ez26⟩ : ∃ z, z = y18d + Int32.ofInt 1 := ⟨_, rfl⟩
        have hz26 : z26.toInt = y18d.toInt + 1 := by rw [ez26]; exact tt_add rfl (by decide) (by omega) (by omega)
        refine lv_iinc (v := z26) (lv' := [(4, .int z26), (0, .ref (A 6)), (1, .int 1), (2, .int 3), (3, .int 0)]) hx hb dX10_copyRow_25 hl (k := 0) rfl ez26.symm (by decide) rfl (fun ls hl => ?_)
        refine lv_goto (tgt := 3) hx hb dX10_copyRow_28 (by decide) ?_
        exact ih3_19 ls z26 u25 _ _ (by have q9 := (show z26.toInt = (y18d.toInt + 1) from hz26); omega) (by have q9 := (show z26.toInt = (y18d.toInt + 1) from hz26); omega) (by have q9 := (show z26.toInt = (y18d.toInt + 1) from hz26); omega) (Un.sa hUu19 rfl eu25) hI hH hl
  exact lp3_19 2 ls 0 u _ _ (by decide) (by decide) (by have q9 : (0 : Int32).toInt = 0 := (by decide); omega) Un.rf hI hH hl
set_option maxHeartbeats 4000000 in
set_option maxRecDepth 100000 in
theorem kX10_copyRow_11 (l : Launch) (D : va_G) (C : Nat → ClassId) (A : Nat → Nat) (u : St) (hI : IM u) (sz : Nat) : MetV l yX10_copyRow cX10_copyRow 5 1 [.ref (A 7), .int 6, .int 3, .int 0] D (tyl C) (mw C A) X0 u sz (fun u' => IM u' ∧ Un [] [(7, 7)] [] u u' ∧ True) := by
  refine mV (by decide) (Nat.le_of_ble_eq_true rfl) ?_
  intro p e s m below meth c ls ar Q hx hb hml hown hts hK hH hX hl hret
  have hown : s.vm.findClass RX10 = some m.cls := hown
  have hl : lv_has ls 5 [(0, .ref (A 7)), (1, .int 6), (2, .int 3), (3, .int 0)] := hl
  refine lv_iconst (v := 0) hx hb dX10_copyRow_0 (by decide) ?_
  refine lv_istore (lv' := [(4, .int 0), (0, .ref (A 7)), (1, .int 6), (2, .int 3), (3, .int 0)]) hx hb dX10_copyRow_1 hl (by decide) rfl (fun ls hl => ?_)
  have lp3_46 : ∀ (n3 : Nat) (ls : Array Slot) (y45d : Int32) (u46 : St) (H : Heap) (locs : List Loc), 0 ≤ y45d.toInt → y45d.toInt ≤ 6 → 6 - y45d.toInt < (n3 : Int) → Un [] [(7, 7)] [] u u46 → IM u46 → Hd D (mw C A) (va_A (mw C A u) s.heap.size) s.heap u46 H locs → lv_has ls 5 [(4, .int y45d), (0, .ref (A 7)), (1, .int 6), (2, .int 3), (3, .int 0)] → W p l e (rmL 1 0 0) s m ar below meth c H locs 0 0 Q (F0 m 3 ls []) := by
    intro n3
    induction n3 with
    | zero => intro ls y45d u46 H locs ly45d my45d hmun3 hUu46 hI hH hl; exfalso; omega
    | succ n3 ih3_46 =>
      intro ls y45d u46 H locs ly45d my45d hmun3 hUu46 hI hH hl
      refine lv_iload hx hb dX10_copyRow_3 (lv_at hl 0 rfl) ?_
      refine lv_iload_n hx hb dX10_copyRow_5 rfl (lv_at hl 2 rfl) ?_
      refine lv_icmp_ge (tgt := 31) hx hb dX10_copyRow_6 (by decide) (fun c48 => ?_) (fun c48 => ?_)
      · have c48 := cLE (x := 6) (y := y45d) (X := 6) (Y := y45d.toInt) (by decide) rfl c48
        exact hret _ _ _ _ _ dX10_copyRow_31 ⟨hI, (Un.tr Un.rf hUu46 rfl rfl rfl), trivial⟩ hH
      · have c48 := cNLE (x := 6) (y := y45d) (X := 6) (Y := y45d.toInt) (by decide) rfl c48
        refine lv_aload_n hx hb dX10_copyRow_9 rfl (lv_at hl 1 rfl) ?_
        refine lv_iload_n hx hb dX10_copyRow_10 rfl (lv_at hl 2 rfl) ?_
        refine lv_iload_n hx hb dX10_copyRow_11 rfl (lv_at hl 4 rfl) ?_
        refine lv_imul hx hb dX10_copyRow_12 ?_
        refine pv_i (v := 0) (by decide) ?_
        refine lv_iload hx hb dX10_copyRow_13 (lv_at hl 0 rfl) ?_
        refine lv_iadd hx hb dX10_copyRow_15 ?_
        refine p_nm (tt_add (X := 0) (Y := y45d.toInt) (by decide) rfl (by omega) (by omega)) (fun z49 hz49 => ?_)
        refine lv_aload_n hx hb dX10_copyRow_16 rfl (lv_at hl 1 rfl) ?_
        refine lv_iload_n hx hb dX10_copyRow_17 rfl (lv_at hl 2 rfl) ?_
        refine lv_iload_n hx hb dX10_copyRow_18 rfl (lv_at hl 3 rfl) ?_
        refine lv_imul hx hb dX10_copyRow_19 ?_
        refine pv_i (v := 18) (by decide) ?_
        refine lv_iload hx hb dX10_copyRow_20 (lv_at hl 0 rfl) ?_
        refine lv_iadd hx hb dX10_copyRow_22 ?_
        refine p_nm (tt_add (X := 18) (Y := y45d.toInt) (by decide) rfl (by omega) (by omega)) (fun z50 hz50 => ?_)
        refine va_iald hx hb hK hH.1 7 1 (mwc7 C A u46) rfl (i_ix hz50 (by omega) (by omega)) dX10_copyRow_23 ?_
        refine p_bd (P := fun q => 0 ≤ q ∧ q ≤ hB (Int32.toNatClampNeg z50 % 6)) (hI.has _) (fun z51 bz51 => ?_)
        have bz51 : 0 ≤ z51.toInt ∧ z51.toInt ≤ hB (Int32.toNatClampNeg z50 % 6) := bz51
        refine r_iast (j := 7) hx hb hK hH 7 1 (mwc7 C A u46) rfl (i_ix hz49 (by omega) (by omega)) (mwa7 C A u46) dX10_copyRow_24 (fun u52 eu52 H locs hH => ?_)
        have hI := hI.pah eu52 rfl (by omega) (by have q1 := i_cl (x := z49) (X := (0 + y45d.toInt)) hz49 (by omega); have q2 := i_cl (x := z50) (X := (18 + y45d.toInt)) hz50 (by omega); have q3 : Int32.toNatClampNeg z49 % 6 = Int32.toNatClampNeg z50 % 6 := (by omega); rw [q3]; exact bz51.2)
        obtain ⟨z53, ez53⟩ : ∃ z, z = y45d + Int32.ofInt 1 := ⟨_, rfl⟩
        have hz53 : z53.toInt = y45d.toInt + 1 := by rw [ez53]; exact tt_add rfl (by decide) (by omega) (by omega)
        refine lv_iinc (v := z53) (lv' := [(4, .int z53), (0, .ref (A 7)), (1, .int 6), (2, .int 3), (3, .int 0)]) hx hb dX10_copyRow_25 hl (k := 0) rfl ez53.symm (by decide) rfl (fun ls hl => ?_)
        refine lv_goto (tgt := 3) hx hb dX10_copyRow_28 (by decide) ?_
        exact ih3_46 ls z53 u52 _ _ (by have q9 := (show z53.toInt = (y45d.toInt + 1) from hz53); omega) (by have q9 := (show z53.toInt = (y45d.toInt + 1) from hz53); omega) (by have q9 := (show z53.toInt = (y45d.toInt + 1) from hz53); omega) (Un.sa hUu46 rfl eu52) hI hH hl
  exact lp3_46 7 ls 0 u _ _ (by decide) (by decide) (by have q9 : (0 : Int32).toInt = 0 := (by decide); omega) Un.rf hI hH hl
set_option maxHeartbeats 4000000 in
set_option maxRecDepth 100000 in
theorem kX10_copyRow_12 (l : Launch) (D : va_G) (C : Nat → ClassId) (A : Nat → Nat) (u : St) (hI : IM u) (sz : Nat) : MetV l yX10_copyRow cX10_copyRow 5 1 [.ref (A 8), .int 30, .int 3, .int 0] D (tyl C) (mw C A) X0 u sz (fun u' => IM u' ∧ Un [] [(8, 8)] [] u u' ∧ True) := by
  refine mV (by decide) (Nat.le_of_ble_eq_true rfl) ?_
  intro p e s m below meth c ls ar Q hx hb hml hown hts hK hH hX hl hret
  have hown : s.vm.findClass RX10 = some m.cls := hown
  have hl : lv_has ls 5 [(0, .ref (A 8)), (1, .int 30), (2, .int 3), (3, .int 0)] := hl
  refine lv_iconst (v := 0) hx hb dX10_copyRow_0 (by decide) ?_
  refine lv_istore (lv' := [(4, .int 0), (0, .ref (A 8)), (1, .int 30), (2, .int 3), (3, .int 0)]) hx hb dX10_copyRow_1 hl (by decide) rfl (fun ls hl => ?_)
  have lp3_64 : ∀ (n3 : Nat) (ls : Array Slot) (y63d : Int32) (u64 : St) (H : Heap) (locs : List Loc), 0 ≤ y63d.toInt → y63d.toInt ≤ 30 → 30 - y63d.toInt < (n3 : Int) → Un [] [(8, 8)] [] u u64 → IM u64 → Hd D (mw C A) (va_A (mw C A u) s.heap.size) s.heap u64 H locs → lv_has ls 5 [(4, .int y63d), (0, .ref (A 8)), (1, .int 30), (2, .int 3), (3, .int 0)] → W p l e (rmL 1 0 0) s m ar below meth c H locs 0 0 Q (F0 m 3 ls []) := by
    intro n3
    induction n3 with
    | zero => intro ls y63d u64 H locs ly63d my63d hmun3 hUu64 hI hH hl; exfalso; omega
    | succ n3 ih3_64 =>
      intro ls y63d u64 H locs ly63d my63d hmun3 hUu64 hI hH hl
      refine lv_iload hx hb dX10_copyRow_3 (lv_at hl 0 rfl) ?_
      refine lv_iload_n hx hb dX10_copyRow_5 rfl (lv_at hl 2 rfl) ?_
      refine lv_icmp_ge (tgt := 31) hx hb dX10_copyRow_6 (by decide) (fun c66 => ?_) (fun c66 => ?_)
      · have c66 := cLE (x := 30) (y := y63d) (X := 30) (Y := y63d.toInt) (by decide) rfl c66
        exact hret _ _ _ _ _ dX10_copyRow_31 ⟨hI, (Un.tr Un.rf hUu64 rfl rfl rfl), trivial⟩ hH
      · have c66 := cNLE (x := 30) (y := y63d) (X := 30) (Y := y63d.toInt) (by decide) rfl c66
        refine lv_aload_n hx hb dX10_copyRow_9 rfl (lv_at hl 1 rfl) ?_
        refine lv_iload_n hx hb dX10_copyRow_10 rfl (lv_at hl 2 rfl) ?_
        refine lv_iload_n hx hb dX10_copyRow_11 rfl (lv_at hl 4 rfl) ?_
        refine lv_imul hx hb dX10_copyRow_12 ?_
        refine pv_i (v := 0) (by decide) ?_
        refine lv_iload hx hb dX10_copyRow_13 (lv_at hl 0 rfl) ?_
        refine lv_iadd hx hb dX10_copyRow_15 ?_
        refine p_nm (tt_add (X := 0) (Y := y63d.toInt) (by decide) rfl (by omega) (by omega)) (fun z67 hz67 => ?_)
        refine lv_aload_n hx hb dX10_copyRow_16 rfl (lv_at hl 1 rfl) ?_
        refine lv_iload_n hx hb dX10_copyRow_17 rfl (lv_at hl 2 rfl) ?_
        refine lv_iload_n hx hb dX10_copyRow_18 rfl (lv_at hl 3 rfl) ?_
        refine lv_imul hx hb dX10_copyRow_19 ?_
        refine pv_i (v := 90) (by decide) ?_
        refine lv_iload hx hb dX10_copyRow_20 (lv_at hl 0 rfl) ?_
        refine lv_iadd hx hb dX10_copyRow_22 ?_
        refine p_nm (tt_add (X := 90) (Y := y63d.toInt) (by decide) rfl (by omega) (by omega)) (fun z68 hz68 => ?_)
        refine va_iald hx hb hK hH.1 8 1 (mwc8 C A u64) rfl (i_ix hz68 (by omega) (by omega)) dX10_copyRow_23 ?_
        refine p_any (fun z69 => ?_)
        refine r_iast (j := 8) hx hb hK hH 8 1 (mwc8 C A u64) rfl (i_ix hz67 (by omega) (by omega)) (mwa8 C A u64) dX10_copyRow_24 (fun u70 eu70 H locs hH => ?_)
        have hI := hI.pa0 eu70 (by decide) (by decide) (by decide)
        obtain ⟨z71, ez71⟩ : ∃ z, z = y63d + Int32.ofInt 1 := ⟨_, rfl⟩
        have hz71 : z71.toInt = y63d.toInt + 1 := by rw [ez71]; exact tt_add rfl (by decide) (by omega) (by omega)
        refine lv_iinc (v := z71) (lv' := [(4, .int z71), (0, .ref (A 8)), (1, .int 30), (2, .int 3), (3, .int 0)]) hx hb dX10_copyRow_25 hl (k := 0) rfl ez71.symm (by decide) rfl (fun ls hl => ?_)
        refine lv_goto (tgt := 3) hx hb dX10_copyRow_28 (by decide) ?_
        exact ih3_64 ls z71 u70 _ _ (by have q9 := (show z71.toInt = (y63d.toInt + 1) from hz71); omega) (by have q9 := (show z71.toInt = (y63d.toInt + 1) from hz71); omega) (by have q9 := (show z71.toInt = (y63d.toInt + 1) from hz71); omega) (Un.sa hUu64 rfl eu70) hI hH hl
  exact lp3_64 31 ls 0 u _ _ (by decide) (by decide) (by have q9 : (0 : Int32).toInt = 0 := (by decide); omega) Un.rf hI hH hl
set_option maxHeartbeats 4000000 in
set_option maxRecDepth 100000 in
theorem kX10_copyRow_13 (l : Launch) (D : va_G) (C : Nat → ClassId) (A : Nat → Nat) (u : St) (hI : IM u) (sz : Nat) : MetV l yX10_copyRow cX10_copyRow 5 1 [.ref (A 9), .int 5, .int 3, .int 0] D (tyl C) (mw C A) X0 u sz (fun u' => IM u' ∧ Un [] [(9, 9)] [] u u' ∧ True) := by
  refine mV (by decide) (Nat.le_of_ble_eq_true rfl) ?_
  intro p e s m below meth c ls ar Q hx hb hml hown hts hK hH hX hl hret
  have hown : s.vm.findClass RX10 = some m.cls := hown
  have hl : lv_has ls 5 [(0, .ref (A 9)), (1, .int 5), (2, .int 3), (3, .int 0)] := hl
  refine lv_iconst (v := 0) hx hb dX10_copyRow_0 (by decide) ?_
  refine lv_istore (lv' := [(4, .int 0), (0, .ref (A 9)), (1, .int 5), (2, .int 3), (3, .int 0)]) hx hb dX10_copyRow_1 hl (by decide) rfl (fun ls hl => ?_)
  have lp3_37 : ∀ (n3 : Nat) (ls : Array Slot) (y36d : Int32) (u37 : St) (H : Heap) (locs : List Loc), 0 ≤ y36d.toInt → y36d.toInt ≤ 5 → 5 - y36d.toInt < (n3 : Int) → Un [] [(9, 9)] [] u u37 → IM u37 → Hd D (mw C A) (va_A (mw C A u) s.heap.size) s.heap u37 H locs → lv_has ls 5 [(4, .int y36d), (0, .ref (A 9)), (1, .int 5), (2, .int 3), (3, .int 0)] → W p l e (rmL 1 0 0) s m ar below meth c H locs 0 0 Q (F0 m 3 ls []) := by
    intro n3
    induction n3 with
    | zero => intro ls y36d u37 H locs ly36d my36d hmun3 hUu37 hI hH hl; exfalso; omega
    | succ n3 ih3_37 =>
      intro ls y36d u37 H locs ly36d my36d hmun3 hUu37 hI hH hl
      refine lv_iload hx hb dX10_copyRow_3 (lv_at hl 0 rfl) ?_
      refine lv_iload_n hx hb dX10_copyRow_5 rfl (lv_at hl 2 rfl) ?_
      refine lv_icmp_ge (tgt := 31) hx hb dX10_copyRow_6 (by decide) (fun c39 => ?_) (fun c39 => ?_)
      · have c39 := cLE (x := 5) (y := y36d) (X := 5) (Y := y36d.toInt) (by decide) rfl c39
        exact hret _ _ _ _ _ dX10_copyRow_31 ⟨hI, (Un.tr Un.rf hUu37 rfl rfl rfl), trivial⟩ hH
      · have c39 := cNLE (x := 5) (y := y36d) (X := 5) (Y := y36d.toInt) (by decide) rfl c39
        refine lv_aload_n hx hb dX10_copyRow_9 rfl (lv_at hl 1 rfl) ?_
        refine lv_iload_n hx hb dX10_copyRow_10 rfl (lv_at hl 2 rfl) ?_
        refine lv_iload_n hx hb dX10_copyRow_11 rfl (lv_at hl 4 rfl) ?_
        refine lv_imul hx hb dX10_copyRow_12 ?_
        refine pv_i (v := 0) (by decide) ?_
        refine lv_iload hx hb dX10_copyRow_13 (lv_at hl 0 rfl) ?_
        refine lv_iadd hx hb dX10_copyRow_15 ?_
        refine p_nm (tt_add (X := 0) (Y := y36d.toInt) (by decide) rfl (by omega) (by omega)) (fun z40 hz40 => ?_)
        refine lv_aload_n hx hb dX10_copyRow_16 rfl (lv_at hl 1 rfl) ?_
        refine lv_iload_n hx hb dX10_copyRow_17 rfl (lv_at hl 2 rfl) ?_
        refine lv_iload_n hx hb dX10_copyRow_18 rfl (lv_at hl 3 rfl) ?_
        refine lv_imul hx hb dX10_copyRow_19 ?_
        refine pv_i (v := 15) (by decide) ?_
        refine lv_iload hx hb dX10_copyRow_20 (lv_at hl 0 rfl) ?_
        refine lv_iadd hx hb dX10_copyRow_22 ?_
        refine p_nm (tt_add (X := 15) (Y := y36d.toInt) (by decide) rfl (by omega) (by omega)) (fun z41 hz41 => ?_)
        refine va_iald hx hb hK hH.1 9 1 (mwc9 C A u37) rfl (i_ix hz41 (by omega) (by omega)) dX10_copyRow_23 ?_
        refine p_any (fun z42 => ?_)
        refine r_iast (j := 9) hx hb hK hH 9 1 (mwc9 C A u37) rfl (i_ix hz40 (by omega) (by omega)) (mwa9 C A u37) dX10_copyRow_24 (fun u43 eu43 H locs hH => ?_)
        have hI := hI.pa0 eu43 (by decide) (by decide) (by decide)
        obtain ⟨z44, ez44⟩ : ∃ z, z = y36d + Int32.ofInt 1 := ⟨_, rfl⟩
        have hz44 : z44.toInt = y36d.toInt + 1 := by rw [ez44]; exact tt_add rfl (by decide) (by omega) (by omega)
        refine lv_iinc (v := z44) (lv' := [(4, .int z44), (0, .ref (A 9)), (1, .int 5), (2, .int 3), (3, .int 0)]) hx hb dX10_copyRow_25 hl (k := 0) rfl ez44.symm (by decide) rfl (fun ls hl => ?_)
        refine lv_goto (tgt := 3) hx hb dX10_copyRow_28 (by decide) ?_
        exact ih3_37 ls z44 u43 _ _ (by have q9 := (show z44.toInt = (y36d.toInt + 1) from hz44); omega) (by have q9 := (show z44.toInt = (y36d.toInt + 1) from hz44); omega) (by have q9 := (show z44.toInt = (y36d.toInt + 1) from hz44); omega) (Un.sa hUu37 rfl eu43) hI hH hl
  exact lp3_37 6 ls 0 u _ _ (by decide) (by decide) (by have q9 : (0 : Int32).toInt = 0 := (by decide); omega) Un.rf hI hH hl
set_option maxHeartbeats 4000000 in
set_option maxRecDepth 100000 in
theorem kX10_copyRow_14 (l : Launch) (D : va_G) (C : Nat → ClassId) (A : Nat → Nat) (u : St) (hI : IM u) (sz : Nat) : MetV l yX10_copyRow cX10_copyRow 5 1 [.ref (A 10), .int 120, .int 3, .int 0] D (tyl C) (mw C A) X0 u sz (fun u' => IM u' ∧ Un [] [(10, 10)] [] u u' ∧ True) := by
  refine mV (by decide) (Nat.le_of_ble_eq_true rfl) ?_
  intro p e s m below meth c ls ar Q hx hb hml hown hts hK hH hX hl hret
  have hown : s.vm.findClass RX10 = some m.cls := hown
  have hl : lv_has ls 5 [(0, .ref (A 10)), (1, .int 120), (2, .int 3), (3, .int 0)] := hl
  refine lv_iconst (v := 0) hx hb dX10_copyRow_0 (by decide) ?_
  refine lv_istore (lv' := [(4, .int 0), (0, .ref (A 10)), (1, .int 120), (2, .int 3), (3, .int 0)]) hx hb dX10_copyRow_1 hl (by decide) rfl (fun ls hl => ?_)
  have lp3_109 : ∀ (n3 : Nat) (ls : Array Slot) (y108d : Int32) (u109 : St) (H : Heap) (locs : List Loc), 0 ≤ y108d.toInt → y108d.toInt ≤ 120 → 120 - y108d.toInt < (n3 : Int) → Un [] [(10, 10)] [] u u109 → IM u109 → Hd D (mw C A) (va_A (mw C A u) s.heap.size) s.heap u109 H locs → lv_has ls 5 [(4, .int y108d), (0, .ref (A 10)), (1, .int 120), (2, .int 3), (3, .int 0)] → W p l e (rmL 1 0 0) s m ar below meth c H locs 0 0 Q (F0 m 3 ls []) := by
    intro n3
    induction n3 with
    | zero => intro ls y108d u109 H locs ly108d my108d hmun3 hUu109 hI hH hl; exfalso; omega
    | succ n3 ih3_109 =>
      intro ls y108d u109 H locs ly108d my108d hmun3 hUu109 hI hH hl
      refine lv_iload hx hb dX10_copyRow_3 (lv_at hl 0 rfl) ?_
      refine lv_iload_n hx hb dX10_copyRow_5 rfl (lv_at hl 2 rfl) ?_
      refine lv_icmp_ge (tgt := 31) hx hb dX10_copyRow_6 (by decide) (fun c111 => ?_) (fun c111 => ?_)
      · have c111 := cLE (x := 120) (y := y108d) (X := 120) (Y := y108d.toInt) (by decide) rfl c111
        exact hret _ _ _ _ _ dX10_copyRow_31 ⟨hI, (Un.tr Un.rf hUu109 rfl rfl rfl), trivial⟩ hH
      · have c111 := cNLE (x := 120) (y := y108d) (X := 120) (Y := y108d.toInt) (by decide) rfl c111
        refine lv_aload_n hx hb dX10_copyRow_9 rfl (lv_at hl 1 rfl) ?_
        refine lv_iload_n hx hb dX10_copyRow_10 rfl (lv_at hl 2 rfl) ?_
        refine lv_iload_n hx hb dX10_copyRow_11 rfl (lv_at hl 4 rfl) ?_
        refine lv_imul hx hb dX10_copyRow_12 ?_
        refine pv_i (v := 0) (by decide) ?_
        refine lv_iload hx hb dX10_copyRow_13 (lv_at hl 0 rfl) ?_
        refine lv_iadd hx hb dX10_copyRow_15 ?_
        refine p_nm (tt_add (X := 0) (Y := y108d.toInt) (by decide) rfl (by omega) (by omega)) (fun z112 hz112 => ?_)
        refine lv_aload_n hx hb dX10_copyRow_16 rfl (lv_at hl 1 rfl) ?_
        refine lv_iload_n hx hb dX10_copyRow_17 rfl (lv_at hl 2 rfl) ?_
        refine lv_iload_n hx hb dX10_copyRow_18 rfl (lv_at hl 3 rfl) ?_
        refine lv_imul hx hb dX10_copyRow_19 ?_
        refine pv_i (v := 360) (by decide) ?_
        refine lv_iload hx hb dX10_copyRow_20 (lv_at hl 0 rfl) ?_
        refine lv_iadd hx hb dX10_copyRow_22 ?_
        refine p_nm (tt_add (X := 360) (Y := y108d.toInt) (by decide) rfl (by omega) (by omega)) (fun z113 hz113 => ?_)
        refine va_iald hx hb hK hH.1 10 1 (mwc10 C A u109) rfl (i_ix hz113 (by omega) (by omega)) dX10_copyRow_23 ?_
        refine p_any (fun z114 => ?_)
        refine r_iast (j := 10) hx hb hK hH 10 1 (mwc10 C A u109) rfl (i_ix hz112 (by omega) (by omega)) (mwa10 C A u109) dX10_copyRow_24 (fun u115 eu115 H locs hH => ?_)
        have hI := hI.pa0 eu115 (by decide) (by decide) (by decide)
        obtain ⟨z116, ez116⟩ : ∃ z, z = y108d + Int32.ofInt 1 := ⟨_, rfl⟩
        have hz116 : z116.toInt = y108d.toInt + 1 := by rw [ez116]; exact tt_add rfl (by decide) (by omega) (by omega)
        refine lv_iinc (v := z116) (lv' := [(4, .int z116), (0, .ref (A 10)), (1, .int 120), (2, .int 3), (3, .int 0)]) hx hb dX10_copyRow_25 hl (k := 0) rfl ez116.symm (by decide) rfl (fun ls hl => ?_)
        refine lv_goto (tgt := 3) hx hb dX10_copyRow_28 (by decide) ?_
        exact ih3_109 ls z116 u115 _ _ (by have q9 := (show z116.toInt = (y108d.toInt + 1) from hz116); omega) (by have q9 := (show z116.toInt = (y108d.toInt + 1) from hz116); omega) (by have q9 := (show z116.toInt = (y108d.toInt + 1) from hz116); omega) (Un.sa hUu109 rfl eu115) hI hH hl
  exact lp3_109 121 ls 0 u _ _ (by decide) (by decide) (by have q9 : (0 : Int32).toInt = 0 := (by decide); omega) Un.rf hI hH hl
set_option maxHeartbeats 4000000 in
set_option maxRecDepth 100000 in
theorem kX10_copyTown_2 (l : Launch) (D : va_G) (C : Nat → ClassId) (A : Nat → Nat) (u : St) (hI : IM u) (sz : Nat) : MetV l yX10_copyTown cX10_copyTown 3 2 [.ref (A 0), .int 3, .int 0] D (tyl C) (mw C A) X0 u sz (fun u' => IM u' ∧ Un [] [(6, 6), (7, 7), (8, 8), (9, 9), (10, 10)] [] u u' ∧ True) := by
  refine mV (by decide) (Nat.le_of_ble_eq_true rfl) ?_
  intro p e s m below meth c ls ar Q hx hb hml hown hts hK hH hX hl hret
  have hown : s.vm.findClass RX10 = some m.cls := hown
  have hl : lv_has ls 3 [(0, .ref (A 0)), (1, .int 3), (2, .int 0)] := hl
  refine lv_aload_n hx hb dX10_copyTown_0 rfl (lv_at hl 0 rfl) ?_
  refine va_get (ci := 10) (v := .ref (A 6)) (C := RX10) (T := TX10) (N := 42) hx hb hts (fun w h => uc_in w (inX10 w h)) hown hK hH.1 0 (mwc0 C A u) rfl 16 (by decide) (hts _ (uc_in _ q_f1204)) (fun _ h9 => h9) rfl dX10_copyTown_1 ?_
  refine lv_iconst (v := 1) hx hb dX10_copyTown_4 (by decide) ?_
  refine lv_iload_n hx hb dX10_copyTown_5 rfl (lv_at hl 1 rfl) ?_
  refine lv_iload_n hx hb dX10_copyTown_6 rfl (lv_at hl 2 rfl) ?_
  refine csU (n := 4) (As := [.ref (A 6), .int 1, .int 3, .int 0]) (rest := []) ⟨hx, hb, hml, hown, hts⟩ uc_in (kX10_copyRow_10 l D C A u hI  _) q_m1453 q_s1454 q_i11 q_c1455 hvX10_copyRow ⟨(Nat.le_of_ble_eq_true rfl), (Nat.le_of_ble_eq_true rfl)⟩ ⟨(Nat.le_of_ble_eq_true rfl), (Nat.le_of_ble_eq_true rfl)⟩ hK hH (fun q h => Or.inr h) Bl0 (fun _ _ _ => trivial) rfl hl.1 rfl (Nat.le_of_ble_eq_true rfl) dX10_copyTown_7 (fun u1 H locs p3 hH => ?_)
  obtain ⟨hI, hUu1, p3⟩ := p3
  refine lv_aload_n hx hb dX10_copyTown_10 rfl (lv_at hl 0 rfl) ?_
  refine va_get (ci := 10) (v := .ref (A 7)) (C := RX10) (T := TX10) (N := 42) hx hb hts (fun w h => uc_in w (inX10 w h)) hown hK hH.1 0 (mwc0 C A u1) rfl 17 (by decide) (hts _ (uc_in _ q_f1205)) (fun _ h9 => h9) rfl dX10_copyTown_11 ?_
  refine lv_bipush (v := 6) hx hb dX10_copyTown_14 (by decide) ?_
  refine lv_iload_n hx hb dX10_copyTown_16 rfl (lv_at hl 1 rfl) ?_
  refine lv_iload_n hx hb dX10_copyTown_17 rfl (lv_at hl 2 rfl) ?_
  refine csU (n := 4) (As := [.ref (A 7), .int 6, .int 3, .int 0]) (rest := []) ⟨hx, hb, hml, hown, hts⟩ uc_in (kX10_copyRow_11 l D C A u1 hI  _) q_m1453 q_s1454 q_i11 q_c1455 hvX10_copyRow ⟨(Nat.le_of_ble_eq_true rfl), (Nat.le_of_ble_eq_true rfl)⟩ ⟨(Nat.le_of_ble_eq_true rfl), (Nat.le_of_ble_eq_true rfl)⟩ hK hH (fun q h => Or.inr h) Bl0 (fun _ _ _ => trivial) rfl hl.1 rfl (Nat.le_of_ble_eq_true rfl) dX10_copyTown_18 (fun u4 H locs p6 hH => ?_)
  obtain ⟨hI, hUu4, p6⟩ := p6
  refine lv_aload_n hx hb dX10_copyTown_21 rfl (lv_at hl 0 rfl) ?_
  refine va_get (ci := 10) (v := .ref (A 8)) (C := RX10) (T := TX10) (N := 42) hx hb hts (fun w h => uc_in w (inX10 w h)) hown hK hH.1 0 (mwc0 C A u4) rfl 18 (by decide) (hts _ (uc_in _ q_f1206)) (fun _ h9 => h9) rfl dX10_copyTown_22 ?_
  refine lv_bipush (v := 30) hx hb dX10_copyTown_25 (by decide) ?_
  refine lv_iload_n hx hb dX10_copyTown_27 rfl (lv_at hl 1 rfl) ?_
  refine lv_iload_n hx hb dX10_copyTown_28 rfl (lv_at hl 2 rfl) ?_
  refine csU (n := 4) (As := [.ref (A 8), .int 30, .int 3, .int 0]) (rest := []) ⟨hx, hb, hml, hown, hts⟩ uc_in (kX10_copyRow_12 l D C A u4 hI  _) q_m1453 q_s1454 q_i11 q_c1455 hvX10_copyRow ⟨(Nat.le_of_ble_eq_true rfl), (Nat.le_of_ble_eq_true rfl)⟩ ⟨(Nat.le_of_ble_eq_true rfl), (Nat.le_of_ble_eq_true rfl)⟩ hK hH (fun q h => Or.inr h) Bl0 (fun _ _ _ => trivial) rfl hl.1 rfl (Nat.le_of_ble_eq_true rfl) dX10_copyTown_29 (fun u7 H locs p9 hH => ?_)
  obtain ⟨hI, hUu7, p9⟩ := p9
  refine lv_aload_n hx hb dX10_copyTown_32 rfl (lv_at hl 0 rfl) ?_
  refine va_get (ci := 10) (v := .ref (A 9)) (C := RX10) (T := TX10) (N := 42) hx hb hts (fun w h => uc_in w (inX10 w h)) hown hK hH.1 0 (mwc0 C A u7) rfl 19 (by decide) (hts _ (uc_in _ q_f1207)) (fun _ h9 => h9) rfl dX10_copyTown_33 ?_
  refine lv_iconst (v := 5) hx hb dX10_copyTown_36 (by decide) ?_
  refine lv_iload_n hx hb dX10_copyTown_37 rfl (lv_at hl 1 rfl) ?_
  refine lv_iload_n hx hb dX10_copyTown_38 rfl (lv_at hl 2 rfl) ?_
  refine csU (n := 4) (As := [.ref (A 9), .int 5, .int 3, .int 0]) (rest := []) ⟨hx, hb, hml, hown, hts⟩ uc_in (kX10_copyRow_13 l D C A u7 hI  _) q_m1453 q_s1454 q_i11 q_c1455 hvX10_copyRow ⟨(Nat.le_of_ble_eq_true rfl), (Nat.le_of_ble_eq_true rfl)⟩ ⟨(Nat.le_of_ble_eq_true rfl), (Nat.le_of_ble_eq_true rfl)⟩ hK hH (fun q h => Or.inr h) Bl0 (fun _ _ _ => trivial) rfl hl.1 rfl (Nat.le_of_ble_eq_true rfl) dX10_copyTown_39 (fun u10 H locs p12 hH => ?_)
  obtain ⟨hI, hUu10, p12⟩ := p12
  refine lv_aload_n hx hb dX10_copyTown_42 rfl (lv_at hl 0 rfl) ?_
  refine va_get (ci := 10) (v := .ref (A 10)) (C := RX10) (T := TX10) (N := 42) hx hb hts (fun w h => uc_in w (inX10 w h)) hown hK hH.1 0 (mwc0 C A u10) rfl 20 (by decide) (hts _ (uc_in _ q_f1208)) (fun _ h9 => h9) rfl dX10_copyTown_43 ?_
  refine lv_bipush (v := 120) hx hb dX10_copyTown_46 (by decide) ?_
  refine lv_iload_n hx hb dX10_copyTown_48 rfl (lv_at hl 1 rfl) ?_
  refine lv_iload_n hx hb dX10_copyTown_49 rfl (lv_at hl 2 rfl) ?_
  refine csU (n := 4) (As := [.ref (A 10), .int 120, .int 3, .int 0]) (rest := []) ⟨hx, hb, hml, hown, hts⟩ uc_in (kX10_copyRow_14 l D C A u10 hI  _) q_m1453 q_s1454 q_i11 q_c1455 hvX10_copyRow ⟨(Nat.le_of_ble_eq_true rfl), (Nat.le_of_ble_eq_true rfl)⟩ ⟨(Nat.le_of_ble_eq_true rfl), (Nat.le_of_ble_eq_true rfl)⟩ hK hH (fun q h => Or.inr h) Bl0 (fun _ _ _ => trivial) rfl hl.1 rfl (Nat.le_of_ble_eq_true rfl) dX10_copyTown_50 (fun u13 H locs p15 hH => ?_)
  obtain ⟨hI, hUu13, p15⟩ := p15
  exact hret _ _ _ _ _ dX10_copyTown_53 ⟨hI, (Un.tr (Un.tr (Un.tr (Un.tr (Un.tr Un.rf hUu1 rfl rfl rfl) hUu4 rfl rfl rfl) hUu7 rfl rfl rfl) hUu10 rfl rfl rfl) hUu13 rfl rfl rfl), trivial⟩ hH
set_option maxHeartbeats 4000000 in
set_option maxRecDepth 100000 in
theorem kX10_back_0 (l : Launch) (D : va_G) (C : Nat → ClassId) (A : Nat → Nat) (u : St) (hI : IM u) (a0 : Int32) (A0 : Int) (ha0 : a0.toInt = A0) (sz : Nat) : MetI l yX10_back cX10_back 2 (some .int) 3 [.ref (A 0), .int a0] D (tyl C) (mw C A) X0 u sz (fun r u' => IM u' ∧ Un [(0, 0)] [(6, 6), (7, 7), (8, 8), (9, 9), (10, 10)] [] u u' ∧ ((-6) ≤ r.toInt ∧ r.toInt ≤ 0)) := by
  refine mI (by decide) (Nat.le_of_ble_eq_true rfl) ?_
  intro p e s m below meth c ls ar Q hx hb hml hown hts hK hH hX hl hret
  have hown : s.vm.findClass RX10 = some m.cls := hown
  have hl : lv_has ls 2 [(0, .ref (A 0)), (1, .int a0)] := hl
  refine lv_aload_n hx hb dX10_back_0 rfl (lv_at hl 0 rfl) ?_
  refine lv_iconst (v := 0) hx hb dX10_back_1 (by decide) ?_
  refine r_put (j := 0) (ci := 10) (C := RX10) (T := TX10) (N := 42) hx hb hts (fun w h => uc_in w (inX10 w h)) tyX10 tyX10_ok nmX10 hown hK hH 0 (mwc0 C A u) rfl 0 (by decide) (hts _ (uc_in _ q_f1188)) (fun _ h9 => h9) rfl (by decide +kernel) (Nat.le_of_ble_eq_true rfl) (mws0 C A u _) dX10_back_2 (fun u1 eu1 H locs hH => ?_)
  have hI := hI.pi0 eu1 rfl
  refine lv_iload_n hx hb dX10_back_5 rfl (lv_at hl 1 rfl) ?_
  refine lv_i2l (v := a0.toInt64) hx hb dX10_back_6 rfl ?_
  refine lv_lconst (v := 0) hx hb dX10_back_7 (by decide) ?_
  refine lv_ldc2 (v := 2) hx hb hown (hts _ (uc_in _ q_k1909)) dX10_back_8 ?_
  refine csS (n := 3) (As := [.long a0.toInt64, .long 0, .long 2]) (rest := []) ⟨hx, hb, hml, hown, hts⟩ uc_in (kX10_in_0 l D C A u1 hI a0.toInt64 A0 (tt_i2l ha0) (0) 0 (by decide) (2) 2 (by decide)) q_m1324 q_s1325 q_i11 q_c1326 hvX10_in ⟨(Nat.le_of_ble_eq_true rfl), (Nat.le_of_ble_eq_true rfl)⟩ ⟨(Nat.le_of_ble_eq_true rfl), (Nat.le_of_ble_eq_true rfl)⟩ hK hH.1 rfl hl.1 rfl (Nat.le_of_ble_eq_true rfl) dX10_back_11 (fun r2 p3 => ?_)
  rcases p3 with ⟨e9, f4, f5⟩ | ⟨e9, fn6⟩
  · subst e9
    refine lv_if_ne (tgt := 20) hx hb dX10_back_14 (by decide) (fun c7 => ?_) (fun c7 => absurd c7 (by decide))
    refine lv_aload_n hx hb dX10_back_20 rfl (lv_at hl 0 rfl) ?_
    refine va_get (ci := 10) (v := .ref (A 11)) (C := RX10) (T := TX10) (N := 42) hx hb hts (fun w h => uc_in w (inX10 w h)) hown hK hH.1 0 (mwc0 C A u1) rfl 21 (by decide) (hts _ (uc_in _ q_f1209)) (fun _ h9 => h9) rfl dX10_back_21 ?_
    refine lv_iload_n hx hb dX10_back_24 rfl (lv_at hl 1 rfl) ?_
    refine va_zald hx hb hK hH.1 11 3 (mwc11 C A u1) rfl (i_ix ha0 (by omega) (by omega)) dX10_back_25 ?_
    refine p_any (fun z8 => ?_)
    refine lv_if_ne (tgt := 32) hx hb dX10_back_26 (by decide) (fun c9 => ?_) (fun c9 => ?_)
    · refine lv_aload_n hx hb dX10_back_32 rfl (lv_at hl 0 rfl) ?_
      refine lv_iconst (v := 1) hx hb dX10_back_33 (by decide) ?_
      refine lv_iload_n hx hb dX10_back_34 rfl (lv_at hl 1 rfl) ?_
      refine lv_iadd hx hb dX10_back_35 ?_
      refine p_nm (tt_add (X := 1) (Y := A0) (by decide) ha0 (by omega) (by omega)) (fun z10 hz10 => ?_)
      refine lv_iconst (v := 0) hx hb dX10_back_36 (by decide) ?_
      rcases (show (1 + A0) = 1 ∨ (1 + A0) = 2 ∨ (1 + A0) = 3 by omega) with e9 | e9 | e9
      · have e8 : z10 = 1 := i_lit hz10 (by rw [e9]; decide)
        subst e8
        have q8 : (1 : Int32).toInt = 1 := by decide
        refine cvU (n := 2) (As := [.int 1, .int 0]) (rest := []) ⟨hx, hb, hml, hown, hts⟩ uc_in (kX10_copyTown_0 l D C A u1 hI  _) q_m1449 q_n1451 q_p70 q_i11 q_c1452 hvX10_copyTown ⟨(Nat.le_of_ble_eq_true rfl), (Nat.le_of_ble_eq_true rfl)⟩ ⟨(Nat.le_of_ble_eq_true rfl), (Nat.le_of_ble_eq_true rfl)⟩ hK hH (fun q h => Or.inr h) Bl0 (fun _ _ _ => trivial) 10 0 rfl (mwc0 C A u1) rfl hl.1 rfl (Nat.le_of_ble_eq_true rfl) dX10_back_37 (fun u11 H locs p13 hH => ?_)
        obtain ⟨hI, hUu11, p13⟩ := p13
        refine lv_iconst (v := 0) hx hb dX10_back_40 (by decide) ?_
        exact hret _ _ _ _ (0 : Int32) _ dX10_back_41 rfl ⟨hI, (Un.tr (Un.si Un.rf rfl eu1) hUu11 rfl rfl rfl), ⟨by decide, by decide⟩⟩ hH
      · have e8 : z10 = 2 := i_lit hz10 (by rw [e9]; decide)
        subst e8
        have q8 : (2 : Int32).toInt = 2 := by decide
        refine cvU (n := 2) (As := [.int 2, .int 0]) (rest := []) ⟨hx, hb, hml, hown, hts⟩ uc_in (kX10_copyTown_1 l D C A u1 hI  _) q_m1449 q_n1451 q_p70 q_i11 q_c1452 hvX10_copyTown ⟨(Nat.le_of_ble_eq_true rfl), (Nat.le_of_ble_eq_true rfl)⟩ ⟨(Nat.le_of_ble_eq_true rfl), (Nat.le_of_ble_eq_true rfl)⟩ hK hH (fun q h => Or.inr h) Bl0 (fun _ _ _ => trivial) 10 0 rfl (mwc0 C A u1) rfl hl.1 rfl (Nat.le_of_ble_eq_true rfl) dX10_back_37 (fun u14 H locs p16 hH => ?_)
        obtain ⟨hI, hUu14, p16⟩ := p16
        refine lv_iconst (v := 0) hx hb dX10_back_40 (by decide) ?_
        exact hret _ _ _ _ (0 : Int32) _ dX10_back_41 rfl ⟨hI, (Un.tr (Un.si Un.rf rfl eu1) hUu14 rfl rfl rfl), ⟨by decide, by decide⟩⟩ hH
      · have e8 : z10 = 3 := i_lit hz10 (by rw [e9]; decide)
        subst e8
        have q8 : (3 : Int32).toInt = 3 := by decide
        refine cvU (n := 2) (As := [.int 3, .int 0]) (rest := []) ⟨hx, hb, hml, hown, hts⟩ uc_in (kX10_copyTown_2 l D C A u1 hI  _) q_m1449 q_n1451 q_p70 q_i11 q_c1452 hvX10_copyTown ⟨(Nat.le_of_ble_eq_true rfl), (Nat.le_of_ble_eq_true rfl)⟩ ⟨(Nat.le_of_ble_eq_true rfl), (Nat.le_of_ble_eq_true rfl)⟩ hK hH (fun q h => Or.inr h) Bl0 (fun _ _ _ => trivial) 10 0 rfl (mwc0 C A u1) rfl hl.1 rfl (Nat.le_of_ble_eq_true rfl) dX10_back_37 (fun u17 H locs p19 hH => ?_)
        obtain ⟨hI, hUu17, p19⟩ := p19
        refine lv_iconst (v := 0) hx hb dX10_back_40 (by decide) ?_
        exact hret _ _ _ _ (0 : Int32) _ dX10_back_41 rfl ⟨hI, (Un.tr (Un.si Un.rf rfl eu1) hUu17 rfl rfl rfl), ⟨by decide, by decide⟩⟩ hH
    · have c9 := cEQ (x := z8) (y := 0) (X := z8.toInt) (Y := 0) rfl (by decide) c9
      refine lv_bipush (v := (-6)) hx hb dX10_back_29 (by decide) ?_
      exact hret _ _ _ _ ((-6) : Int32) _ dX10_back_31 rfl ⟨hI, (Un.si Un.rf rfl eu1), ⟨by decide, by decide⟩⟩ hH
  · subst e9
    refine lv_if_ne (tgt := 20) hx hb dX10_back_14 (by decide) (fun c20 => absurd c20 (by decide)) (fun c20 => ?_)
    refine lv_bipush (v := (-2)) hx hb dX10_back_17 (by decide) ?_
    exact hret _ _ _ _ ((-2) : Int32) _ dX10_back_19 rfl ⟨hI, (Un.si Un.rf rfl eu1), ⟨by decide, by decide⟩⟩ hH
set_option maxHeartbeats 4000000 in
set_option maxRecDepth 100000 in
theorem kX10_tradesWait_0 (l : Launch) (D : va_G) (C : Nat → ClassId) (A : Nat → Nat) (u : St) (hI : IM u) : Met l yX10_tradesWait (uc yX10_tradesWait cX10_tradesWait 3 (some .int)) (rmL 1 0 0) (va_Pc [.ref (A 0)] (PreR D (tyl C) (mw C A u))) (vp_Si (fun r => True)) 0 0 (fun _ => False) := by
  refine mS (by decide) (Nat.le_of_ble_eq_true rfl) ?_
  intro p e s m below meth c ls ar Q hx hb hml hown hts hK hP hl hret
  have hown : s.vm.findClass RX10 = some m.cls := hown
  have hl : lv_has ls 3 [(0, .ref (A 0))] := hl
  refine lv_iconst (v := 0) hx hb dX10_tradesWait_0 (by decide) ?_
  refine lv_istore_n (lv' := [(1, .int 0), (0, .ref (A 0))]) hx hb dX10_tradesWait_1 rfl hl (by decide) rfl (fun ls hl => ?_)
  refine lv_iconst (v := 0) hx hb dX10_tradesWait_2 (by decide) ?_
  refine lv_istore_n (lv' := [(2, .int 0), (1, .int 0), (0, .ref (A 0))]) hx hb dX10_tradesWait_3 rfl hl (by decide) rfl (fun ls hl => ?_)
  have lp4_36 : ∀ (n4 : Nat) (ls : Array Slot) (y35d : Int32) (y36d : Int32), 0 ≤ y35d.toInt → y35d.toInt ≤ 5 → 5 - y35d.toInt < (n4 : Int) → lv_has ls 3 [(2, .int y35d), (1, .int y36d), (0, .ref (A 0))] → W p l e (rmL 1 0 0) s m ar below meth c s.heap [] 0 0 Q (F0 m 4 ls []) := by
    intro n4
    induction n4 with
    | zero => intro ls y35d y36d ly35d my35d hmun4 hl; exfalso; omega
    | succ n4 ih4_36 =>
      intro ls y35d y36d ly35d my35d hmun4 hl
      refine lv_iload_n hx hb dX10_tradesWait_4 rfl (lv_at hl 0 rfl) ?_
      refine lv_aload_n hx hb dX10_tradesWait_5 rfl (lv_at hl 2 rfl) ?_
      refine va_get (ci := 10) (v := .ref (A 7)) (C := RX10) (T := TX10) (N := 42) hx hb hts (fun w h => uc_in w (inX10 w h)) hown hK hP 0 (mwc0 C A u) rfl 17 (by decide) (hts _ (uc_in _ q_f1205)) (fun _ h9 => h9) rfl dX10_tradesWait_6 ?_
      refine lv_iconst (v := 4) hx hb dX10_tradesWait_9 (by decide) ?_
      refine va_iald hx hb hK hP 7 1 (mwc7 C A u) rfl (i_ix (X := 4) (by decide) (by decide) (by decide)) dX10_tradesWait_10 ?_
      refine pv_i (v := (ga u 7 4)) rfl ?_
      have b38 : 0 ≤ ((ga u 7 4)).toInt ∧ ((ga u 7 4)).toInt ≤ 5 := hI.has 4
      refine lv_icmp_ge (tgt := 29) hx hb dX10_tradesWait_11 (by decide) (fun c39 => ?_) (fun c39 => ?_)
      · have c39 := cLE (x := (ga u 7 4)) (y := y35d) (X := ((ga u 7 4)).toInt) (Y := y35d.toInt) rfl rfl c39
        refine lv_iload_n hx hb dX10_tradesWait_29 rfl (lv_at hl 1 rfl) ?_
        exact hret _ _ y36d dX10_tradesWait_30 rfl trivial
      · have c39 := cNLE (x := (ga u 7 4)) (y := y35d) (X := ((ga u 7 4)).toInt) (Y := y35d.toInt) rfl rfl c39
        refine lv_iload_n hx hb dX10_tradesWait_14 rfl (lv_at hl 1 rfl) ?_
        refine lv_aload_n hx hb dX10_tradesWait_15 rfl (lv_at hl 2 rfl) ?_
        refine va_get (ci := 10) (v := .ref (A 9)) (C := RX10) (T := TX10) (N := 42) hx hb hts (fun w h => uc_in w (inX10 w h)) hown hK hP 0 (mwc0 C A u) rfl 19 (by decide) (hts _ (uc_in _ q_f1207)) (fun _ h9 => h9) rfl dX10_tradesWait_16 ?_
        refine lv_iload_n hx hb dX10_tradesWait_19 rfl (lv_at hl 0 rfl) ?_
        refine va_iald hx hb hK hP 9 1 (mwc9 C A u) rfl (i_ix rfl (by omega) (by omega)) dX10_tradesWait_20 ?_
        refine p_any (fun z40 => ?_)
        refine lv_iadd hx hb dX10_tradesWait_21 ?_
        refine p_any (fun z41 => ?_)
        refine lv_istore_n (lv' := [(1, .int z41), (2, .int y35d), (0, .ref (A 0))]) hx hb dX10_tradesWait_22 rfl hl (by decide) rfl (fun ls hl => ?_)
        obtain ⟨z42, ez42⟩ : ∃ z, z = y35d + Int32.ofInt 1 := ⟨_, rfl⟩
        have hz42 : z42.toInt = y35d.toInt + 1 := by rw [ez42]; exact tt_add rfl (by decide) (by omega) (by omega)
        refine lv_iinc (v := z42) (lv' := [(2, .int z42), (1, .int z41), (0, .ref (A 0))]) hx hb dX10_tradesWait_23 hl (k := 1) rfl ez42.symm (by decide) rfl (fun ls hl => ?_)
        refine lv_goto (tgt := 4) hx hb dX10_tradesWait_26 (by decide) ?_
        exact ih4_36 ls z42 z41 (by have q9 := (show z42.toInt = (y35d.toInt + 1) from hz42); omega) (by have q9 := (show z42.toInt = (y35d.toInt + 1) from hz42); omega) (by have q9 := (show z42.toInt = (y35d.toInt + 1) from hz42); omega) hl
  exact lp4_36 6 ls 0 0 (by decide) (by decide) (by have q9 : (0 : Int32).toInt = 0 := (by decide); omega) hl
set_option maxHeartbeats 4000000 in
set_option maxRecDepth 100000 in
theorem kX10_waitOf_0 (l : Launch) (D : va_G) (C : Nat → ClassId) (A : Nat → Nat) (u : St) (hI : IM u) (a0 : Int32) (A0 : Int) (ha0 : a0.toInt = A0) (hl0 : 0 ≤ A0) (hm0 : A0 ≤ 6) : Met l yX10_waitOf (uc yX10_waitOf cX10_waitOf 3 (some .int)) (rmL 5 0 0) (va_Pc [.ref (A 0), .int a0] (PreR D (tyl C) (mw C A u))) (vp_Si (fun r => True)) 0 0 (fun _ => False) := by
  refine mS (by decide) (Nat.le_of_ble_eq_true rfl) ?_
  intro p e s m below meth c ls ar Q hx hb hml hown hts hK hP hl hret
  have hown : s.vm.findClass RX10 = some m.cls := hown
  have hl : lv_has ls 3 [(0, .ref (A 0)), (1, .int a0)] := hl
  refine lv_aload_n hx hb dX10_waitOf_0 rfl (lv_at hl 0 rfl) ?_
  refine lv_iload_n hx hb dX10_waitOf_1 rfl (lv_at hl 1 rfl) ?_
  refine cvS (n := 1) (As := [.int a0]) (rest := []) ⟨hx, hb, hml, hown, hts⟩ uc_in (kX10_noonOf__0 l D C A u hI a0 A0 ha0 (by omega) (by omega)) q_m1496 q_n1498 q_p77 q_i11 q_c1499 hvX10_noonOf_ ⟨(Nat.le_of_ble_eq_true rfl), (Nat.le_of_ble_eq_true rfl)⟩ ⟨(Nat.le_of_ble_eq_true rfl), (Nat.le_of_ble_eq_true rfl)⟩ hK hP 10 0 rfl (mwc0 C A u) rfl hl.1 rfl (Nat.le_of_ble_eq_true rfl) dX10_waitOf_2 (fun r1 p2 => ?_)
  refine lv_istore_n (lv' := [(2, .int r1), (0, .ref (A 0)), (1, .int a0)]) hx hb dX10_waitOf_5 rfl hl (by decide) rfl (fun ls hl => ?_)
  refine lv_iload_n hx hb dX10_waitOf_6 rfl (lv_at hl 0 rfl) ?_
  refine lv_sipush (v := 10000) hx hb dX10_waitOf_7 (by decide) ?_
  refine lv_icmp_ne (tgt := 19) hx hb dX10_waitOf_10 (by decide) (fun c3 => ?_) (fun c3 => ?_)
  · refine lv_iload_n hx hb dX10_waitOf_19 rfl (lv_at hl 0 rfl) ?_
    refine lv_if_ge (tgt := 27) hx hb dX10_waitOf_20 (by decide) (fun c4 => ?_) (fun c4 => ?_)
    · have c4 := cLE (x := 0) (y := r1) (X := 0) (Y := r1.toInt) (by decide) rfl c4
      refine lv_iload_n hx hb dX10_waitOf_27 rfl (lv_at hl 0 rfl) ?_
      refine lv_aload_n hx hb dX10_waitOf_28 rfl (lv_at hl 1 rfl) ?_
      refine cvS (n := 0) (As := []) (rest := [.int r1]) ⟨hx, hb, hml, hown, hts⟩ uc_in (kX10_tradesWait_0 l D C A u hI ) q_m1546 q_n1548 q_p83 q_i11 q_c1549 hvX10_tradesWait ⟨(Nat.le_of_ble_eq_true rfl), (Nat.le_of_ble_eq_true rfl)⟩ ⟨(Nat.le_of_ble_eq_true rfl), (Nat.le_of_ble_eq_true rfl)⟩ hK hP 10 0 rfl (mwc0 C A u) rfl hl.1 rfl (Nat.le_of_ble_eq_true rfl) dX10_waitOf_29 (fun r5 p6 => ?_)
      refine lv_imul hx hb dX10_waitOf_32 ?_
      refine p_any (fun z7 => ?_)
      exact hret _ _ z7 dX10_waitOf_33 rfl trivial
    · have c4 := cNLE (x := 0) (y := r1) (X := 0) (Y := r1.toInt) (by decide) rfl c4
      refine lv_iconst (v := 0) hx hb dX10_waitOf_23 (by decide) ?_
      refine lv_goto (tgt := 28) hx hb dX10_waitOf_24 (by decide) ?_
      refine lv_aload_n hx hb dX10_waitOf_28 rfl (lv_at hl 1 rfl) ?_
      refine cvS (n := 0) (As := []) (rest := [.int 0]) ⟨hx, hb, hml, hown, hts⟩ uc_in (kX10_tradesWait_0 l D C A u hI ) q_m1546 q_n1548 q_p83 q_i11 q_c1549 hvX10_tradesWait ⟨(Nat.le_of_ble_eq_true rfl), (Nat.le_of_ble_eq_true rfl)⟩ ⟨(Nat.le_of_ble_eq_true rfl), (Nat.le_of_ble_eq_true rfl)⟩ hK hP 10 0 rfl (mwc0 C A u) rfl hl.1 rfl (Nat.le_of_ble_eq_true rfl) dX10_waitOf_29 (fun r8 p9 => ?_)
      refine lv_imul hx hb dX10_waitOf_32 ?_
      have b10 := i_rng (x := r8) (X := r8.toInt) rfl
      refine p_nm (tt_mul (X := 0) (Y := r8.toInt) (by decide) rfl (by omega) (by omega)) (fun z11 hz11 => ?_)
      exact hret _ _ z11 dX10_waitOf_33 rfl trivial
  · have c3 := cEQ (x := r1) (y := 10000) (X := r1.toInt) (Y := 10000) rfl (by decide) c3
    refine lv_sipush (v := 600) hx hb dX10_waitOf_13 (by decide) ?_
    refine lv_goto (tgt := 28) hx hb dX10_waitOf_16 (by decide) ?_
    refine lv_aload_n hx hb dX10_waitOf_28 rfl (lv_at hl 1 rfl) ?_
    refine cvS (n := 0) (As := []) (rest := [.int 600]) ⟨hx, hb, hml, hown, hts⟩ uc_in (kX10_tradesWait_0 l D C A u hI ) q_m1546 q_n1548 q_p83 q_i11 q_c1549 hvX10_tradesWait ⟨(Nat.le_of_ble_eq_true rfl), (Nat.le_of_ble_eq_true rfl)⟩ ⟨(Nat.le_of_ble_eq_true rfl), (Nat.le_of_ble_eq_true rfl)⟩ hK hP 10 0 rfl (mwc0 C A u) rfl hl.1 rfl (Nat.le_of_ble_eq_true rfl) dX10_waitOf_29 (fun r12 p13 => ?_)
    refine lv_imul hx hb dX10_waitOf_32 ?_
    refine p_any (fun z14 => ?_)
    exact hret _ _ z14 dX10_waitOf_33 rfl trivial
set_option maxHeartbeats 4000000 in
set_option maxRecDepth 100000 in
theorem kX10_waitAll_0 (l : Launch) (D : va_G) (C : Nat → ClassId) (A : Nat → Nat) (u : St) (hI : IM u) : Met l yX10_waitAll (uc yX10_waitAll cX10_waitAll 3 (some .int)) (rmL 6 0 0) (va_Pc [.ref (A 0)] (PreR D (tyl C) (mw C A u))) (vp_Si (fun r => True)) 0 0 (fun _ => False) := by
  refine mS (by decide) (Nat.le_of_ble_eq_true rfl) ?_
  intro p e s m below meth c ls ar Q hx hb hml hown hts hK hP hl hret
  have hown : s.vm.findClass RX10 = some m.cls := hown
  have hl : lv_has ls 3 [(0, .ref (A 0))] := hl
  refine lv_iconst (v := 0) hx hb dX10_waitAll_0 (by decide) ?_
  refine lv_istore_n (lv' := [(1, .int 0), (0, .ref (A 0))]) hx hb dX10_waitAll_1 rfl hl (by decide) rfl (fun ls hl => ?_)
  refine lv_iconst (v := 0) hx hb dX10_waitAll_2 (by decide) ?_
  refine lv_istore_n (lv' := [(2, .int 0), (1, .int 0), (0, .ref (A 0))]) hx hb dX10_waitAll_3 rfl hl (by decide) rfl (fun ls hl => ?_)
  have lp4_72 : ∀ (n4 : Nat) (ls : Array Slot) (y71d : Int32) (y72d : Int32), 0 ≤ y71d.toInt → y71d.toInt ≤ 7 → 7 - y71d.toInt < (n4 : Int) → lv_has ls 3 [(2, .int y71d), (1, .int y72d), (0, .ref (A 0))] → W p l e (rmL 6 0 0) s m ar below meth c s.heap [] 0 0 Q (F0 m 4 ls []) := by
    intro n4
    induction n4 with
    | zero => intro ls y71d y72d ly71d my71d hmun4 hl; exfalso; omega
    | succ n4 ih4_72 =>
      intro ls y71d y72d ly71d my71d hmun4 hl
      refine lv_iload_n hx hb dX10_waitAll_4 rfl (lv_at hl 0 rfl) ?_
      refine lv_aload_n hx hb dX10_waitAll_5 rfl (lv_at hl 2 rfl) ?_
      refine cvS (n := 0) (As := []) (rest := [.int y71d]) ⟨hx, hb, hml, hown, hts⟩ uc_in (kX10_days_0 l D C A u hI ) q_m1477 q_n1479 q_p74 q_i11 q_c1480 hvX10_days ⟨(Nat.le_of_ble_eq_true rfl), (Nat.le_of_ble_eq_true rfl)⟩ ⟨(Nat.le_of_ble_eq_true rfl), (Nat.le_of_ble_eq_true rfl)⟩ hK hP 10 0 rfl (mwc0 C A u) rfl hl.1 rfl (Nat.le_of_ble_eq_true rfl) dX10_waitAll_6 (fun r74 p75 => ?_)
      subst p75
      have b76 : 0 ≤ ((ga u 7 0)).toInt ∧ ((ga u 7 0)).toInt ≤ 7 := hI.has 0
      refine lv_icmp_ge (tgt := 26) hx hb dX10_waitAll_9 (by decide) (fun c77 => ?_) (fun c77 => ?_)
      · have c77 := cLE (x := (ga u 7 0)) (y := y71d) (X := ((ga u 7 0)).toInt) (Y := y71d.toInt) rfl rfl c77
        refine lv_iload_n hx hb dX10_waitAll_26 rfl (lv_at hl 1 rfl) ?_
        exact hret _ _ y72d dX10_waitAll_27 rfl trivial
      · have c77 := cNLE (x := (ga u 7 0)) (y := y71d) (X := ((ga u 7 0)).toInt) (Y := y71d.toInt) rfl rfl c77
        refine lv_iload_n hx hb dX10_waitAll_12 rfl (lv_at hl 1 rfl) ?_
        refine lv_aload_n hx hb dX10_waitAll_13 rfl (lv_at hl 2 rfl) ?_
        refine lv_iload_n hx hb dX10_waitAll_14 rfl (lv_at hl 0 rfl) ?_
        refine cvS (n := 1) (As := [.int y71d]) (rest := [.int y72d]) ⟨hx, hb, hml, hown, hts⟩ uc_in (kX10_waitOf_0 l D C A u hI y71d y71d.toInt rfl (by omega) (by omega)) q_m1542 q_n1544 q_p82 q_i11 q_c1545 hvX10_waitOf ⟨(Nat.le_of_ble_eq_true rfl), (Nat.le_of_ble_eq_true rfl)⟩ ⟨(Nat.le_of_ble_eq_true rfl), (Nat.le_of_ble_eq_true rfl)⟩ hK hP 10 0 rfl (mwc0 C A u) rfl hl.1 rfl (Nat.le_of_ble_eq_true rfl) dX10_waitAll_15 (fun r78 p79 => ?_)
        refine lv_iadd hx hb dX10_waitAll_18 ?_
        refine p_any (fun z80 => ?_)
        refine lv_istore_n (lv' := [(1, .int z80), (2, .int y71d), (0, .ref (A 0))]) hx hb dX10_waitAll_19 rfl hl (by decide) rfl (fun ls hl => ?_)
        obtain ⟨z81, ez81⟩ : ∃ z, z = y71d + Int32.ofInt 1 := ⟨_, rfl⟩
        have hz81 : z81.toInt = y71d.toInt + 1 := by rw [ez81]; exact tt_add rfl (by decide) (by omega) (by omega)
        refine lv_iinc (v := z81) (lv' := [(2, .int z81), (1, .int z80), (0, .ref (A 0))]) hx hb dX10_waitAll_20 hl (k := 1) rfl ez81.symm (by decide) rfl (fun ls hl => ?_)
        refine lv_goto (tgt := 4) hx hb dX10_waitAll_23 (by decide) ?_
        exact ih4_72 ls z81 z80 (by have q9 := (show z81.toInt = (y71d.toInt + 1) from hz81); omega) (by have q9 := (show z81.toInt = (y71d.toInt + 1) from hz81); omega) (by have q9 := (show z81.toInt = (y71d.toInt + 1) from hz81); omega) hl
  exact lp4_72 8 ls 0 0 (by decide) (by decide) (by have q9 : (0 : Int32).toInt = 0 := (by decide); omega) hl
set_option maxHeartbeats 4000000 in
set_option maxRecDepth 100000 in
theorem kX10_waitWithout_0 (l : Launch) (D : va_G) (C : Nat → ClassId) (A : Nat → Nat) (u : St) (hI : IM u) (a0 : Int32) (A0 : Int) (ha0 : a0.toInt = A0) (sz : Nat) : MetI l yX10_waitWithout cX10_waitWithout 3 (some .int) 7 [.ref (A 0), .int a0] D (tyl C) (mw C A) X0 u sz (fun r u' => IM u' ∧ Un [(24, 24)] [(12, 12), (13, 13)] [] u u' ∧ (True)) := by
  refine mI (by decide) (Nat.le_of_ble_eq_true rfl) ?_
  intro p e s m below meth c ls ar Q hx hb hml hown hts hK hH hX hl hret
  have hown : s.vm.findClass RX10 = some m.cls := hown
  have hl : lv_has ls 3 [(0, .ref (A 0)), (1, .int a0)] := hl
  refine lv_aload_n hx hb dX10_waitWithout_0 rfl (lv_at hl 0 rfl) ?_
  refine lv_iload_n hx hb dX10_waitWithout_1 rfl (lv_at hl 1 rfl) ?_
  refine r_put (j := 24) (ci := 10) (C := RX10) (T := TX10) (N := 42) hx hb hts (fun w h => uc_in w (inX10 w h)) tyX10 tyX10_ok nmX10 hown hK hH 0 (mwc0 C A u) rfl 24 (by decide) (hts _ (uc_in _ q_f1212)) (fun _ h9 => h9) rfl (by decide +kernel) (Nat.le_of_ble_eq_true rfl) (mws24 C A u _) dX10_waitWithout_2 (fun u1 eu1 H locs hH => ?_)
  have hI := hI.pi0 eu1 rfl
  refine lv_aload_n hx hb dX10_waitWithout_5 rfl (lv_at hl 0 rfl) ?_
  refine cvU (n := 0) (As := []) (rest := []) ⟨hx, hb, hml, hown, hts⟩ uc_in (kX10_runs_0 l D C A u1 hI  _) q_m1485 q_n1487 q_p76 q_i11 q_c1488 hvX10_runs ⟨(Nat.le_of_ble_eq_true rfl), (Nat.le_of_ble_eq_true rfl)⟩ ⟨(Nat.le_of_ble_eq_true rfl), (Nat.le_of_ble_eq_true rfl)⟩ hK hH (fun q h => Or.inr h) Bl0 (fun _ _ _ => trivial) 10 0 rfl (mwc0 C A u1) rfl hl.1 rfl (Nat.le_of_ble_eq_true rfl) dX10_waitWithout_6 (fun u2 H locs p4 hH => ?_)
  obtain ⟨hI, hUu2, p4⟩ := p4
  refine lv_aload_n hx hb dX10_waitWithout_9 rfl (lv_at hl 0 rfl) ?_
  refine cvS (n := 0) (As := []) (rest := []) ⟨hx, hb, hml, hown, hts⟩ uc_in (kX10_waitAll_0 l D C A u2 hI ) q_m1558 q_n1560 q_p85 q_i11 q_c1561 hvX10_waitAll ⟨(Nat.le_of_ble_eq_true rfl), (Nat.le_of_ble_eq_true rfl)⟩ ⟨(Nat.le_of_ble_eq_true rfl), (Nat.le_of_ble_eq_true rfl)⟩ hK hH.1 10 0 rfl (mwc0 C A u2) rfl hl.1 rfl (Nat.le_of_ble_eq_true rfl) dX10_waitWithout_10 (fun r5 p6 => ?_)
  refine lv_istore_n (lv' := [(2, .int r5), (0, .ref (A 0)), (1, .int a0)]) hx hb dX10_waitWithout_13 rfl hl (by decide) rfl (fun ls hl => ?_)
  refine lv_aload_n hx hb dX10_waitWithout_14 rfl (lv_at hl 1 rfl) ?_
  refine lv_iconst (v := 0) hx hb dX10_waitWithout_15 (by decide) ?_
  refine r_put (j := 24) (ci := 10) (C := RX10) (T := TX10) (N := 42) hx hb hts (fun w h => uc_in w (inX10 w h)) tyX10 tyX10_ok nmX10 hown hK hH 0 (mwc0 C A u2) rfl 24 (by decide) (hts _ (uc_in _ q_f1212)) (fun _ h9 => h9) rfl (by decide +kernel) (Nat.le_of_ble_eq_true rfl) (mws24 C A u2 _) dX10_waitWithout_16 (fun u7 eu7 H locs hH => ?_)
  have hI := hI.pi0 eu7 rfl
  refine lv_iload_n hx hb dX10_waitWithout_19 rfl (lv_at hl 0 rfl) ?_
  exact hret _ _ _ _ r5 _ dX10_waitWithout_20 rfl ⟨hI, (Un.si (Un.tr (Un.si Un.rf rfl eu1) hUu2 rfl rfl rfl) rfl eu7), trivial⟩ hH
set_option maxHeartbeats 4000000 in
set_option maxRecDepth 100000 in
theorem kX10_best_0 (l : Launch) (D : va_G) (C : Nat → ClassId) (A : Nat → Nat) (u : St) (hI : IM u) (sz : Nat) : MetI l yX10_best cX10_best 5 (some .int) 8 [.ref (A 0)] D (tyl C) (mw C A) X0 u sz (fun r u' => IM u' ∧ Un [(0, 0), (24, 24), (25, 25)] [(12, 12), (13, 13)] [] u u' ∧ ((-2) ≤ r.toInt ∧ r.toInt ≤ 5)) := by
  refine mI (by decide) (Nat.le_of_ble_eq_true rfl) ?_
  intro p e s m below meth c ls ar Q hx hb hml hown hts hK hH hX hl hret
  have hown : s.vm.findClass RX10 = some m.cls := hown
  have hl : lv_has ls 5 [(0, .ref (A 0))] := hl
  refine lv_aload_n hx hb dX10_best_0 rfl (lv_at hl 0 rfl) ?_
  refine lv_iconst (v := 0) hx hb dX10_best_1 (by decide) ?_
  refine r_put (j := 0) (ci := 10) (C := RX10) (T := TX10) (N := 42) hx hb hts (fun w h => uc_in w (inX10 w h)) tyX10 tyX10_ok nmX10 hown hK hH 0 (mwc0 C A u) rfl 0 (by decide) (hts _ (uc_in _ q_f1188)) (fun _ h9 => h9) rfl (by decide +kernel) (Nat.le_of_ble_eq_true rfl) (mws0 C A u _) dX10_best_2 (fun u1 eu1 H locs hH => ?_)
  have hI := hI.pi0 eu1 rfl
  refine lv_aload_n hx hb dX10_best_5 rfl (lv_at hl 0 rfl) ?_
  refine cvS (n := 0) (As := []) (rest := []) ⟨hx, hb, hml, hown, hts⟩ uc_in (kX10_isTown_0 l D C A u1 hI ) q_m1554 q_n1556 q_p84 q_i11 q_c1557 hvX10_isTown ⟨(Nat.le_of_ble_eq_true rfl), (Nat.le_of_ble_eq_true rfl)⟩ ⟨(Nat.le_of_ble_eq_true rfl), (Nat.le_of_ble_eq_true rfl)⟩ hK hH.1 10 0 rfl (mwc0 C A u1) rfl hl.1 rfl (Nat.le_of_ble_eq_true rfl) dX10_best_6 (fun r2 p3 => ?_)
  have p3 : 0 ≤ r2.toInt ∧ r2.toInt ≤ 1 := p3
  refine lv_if_ne (tgt := 15) hx hb dX10_best_9 (by decide) (fun c4 => ?_) (fun c4 => ?_)
  · have c4 := cNE (x := r2) (y := 0) (X := r2.toInt) (Y := 0) rfl (by decide) c4
    refine lv_aload_n hx hb dX10_best_15 rfl (lv_at hl 0 rfl) ?_
    refine cvU (n := 0) (As := []) (rest := []) ⟨hx, hb, hml, hown, hts⟩ uc_in (kX10_lays_0 l D C A u1 hI  _) q_m1481 q_n1483 q_p75 q_i11 q_c1484 hvX10_lays ⟨(Nat.le_of_ble_eq_true rfl), (Nat.le_of_ble_eq_true rfl)⟩ ⟨(Nat.le_of_ble_eq_true rfl), (Nat.le_of_ble_eq_true rfl)⟩ hK hH (fun q h => Or.inr h) Bl0 (fun _ _ _ => trivial) 10 0 rfl (mwc0 C A u1) rfl hl.1 rfl (Nat.le_of_ble_eq_true rfl) dX10_best_16 (fun u5 H locs p7 hH => ?_)
    obtain ⟨hI, hUu5, p7⟩ := p7
    refine lv_iconst (v := (-1)) hx hb dX10_best_19 (by decide) ?_
    refine lv_istore_n (lv' := [(1, .int (-1)), (0, .ref (A 0))]) hx hb dX10_best_20 rfl hl (by decide) rfl (fun ls hl => ?_)
    refine lv_aload_n hx hb dX10_best_21 rfl (lv_at hl 1 rfl) ?_
    refine cvS (n := 0) (As := []) (rest := []) ⟨hx, hb, hml, hown, hts⟩ uc_in (kX10_waitAll_0 l D C A u5 hI ) q_m1558 q_n1560 q_p85 q_i11 q_c1561 hvX10_waitAll ⟨(Nat.le_of_ble_eq_true rfl), (Nat.le_of_ble_eq_true rfl)⟩ ⟨(Nat.le_of_ble_eq_true rfl), (Nat.le_of_ble_eq_true rfl)⟩ hK hH.1 10 0 rfl (mwc0 C A u5) rfl hl.1 rfl (Nat.le_of_ble_eq_true rfl) dX10_best_22 (fun r8 p9 => ?_)
    refine lv_istore_n (lv' := [(2, .int r8), (1, .int (-1)), (0, .ref (A 0))]) hx hb dX10_best_25 rfl hl (by decide) rfl (fun ls hl => ?_)
    refine lv_iconst (v := 0) hx hb dX10_best_26 (by decide) ?_
    refine lv_istore_n (lv' := [(3, .int 0), (2, .int r8), (1, .int (-1)), (0, .ref (A 0))]) hx hb dX10_best_27 rfl hl (by decide) rfl (fun ls hl => ?_)
    have lp28_117 : ∀ (n28 : Nat) (ls : Array Slot) (y114d : Int32) (y115d : Int32) (y116d : Int32) (u117 : St) (H : Heap) (locs : List Loc), 0 ≤ y114d.toInt → y114d.toInt ≤ 6 → (-1) ≤ y116d.toInt → y116d.toInt ≤ 5 → 6 - y114d.toInt < (n28 : Int) → Un [(24, 24)] [(12, 12), (13, 13)] [] u5 u117 → IM u117 → Hd D (mw C A) (va_A (mw C A u) s.heap.size) s.heap u117 H locs → lv_has ls 5 [(3, .int y114d), (2, .int y115d), (1, .int y116d), (0, .ref (A 0))] → W p l e (rmL 8 0 0) s m ar below meth c H locs 0 0 Q (F0 m 28 ls []) := by
      intro n28
      induction n28 with
      | zero => intro ls y114d y115d y116d u117 H locs ly114d my114d ly116d my116d hmun28 hUu117 hI hH hl; exfalso; omega
      | succ n28 ih28_117 =>
        intro ls y114d y115d y116d u117 H locs ly114d my114d ly116d my116d hmun28 hUu117 hI hH hl
        refine lv_iload_n hx hb dX10_best_28 rfl (lv_at hl 0 rfl) ?_
        refine lv_aload_n hx hb dX10_best_29 rfl (lv_at hl 3 rfl) ?_
        refine cvS (n := 0) (As := []) (rest := [.int y114d]) ⟨hx, hb, hml, hown, hts⟩ uc_in (kX10_clocks_0 l D C A u117 hI ) q_m1464 q_n1466 q_p72 q_i11 q_c1467 hvX10_clocks ⟨(Nat.le_of_ble_eq_true rfl), (Nat.le_of_ble_eq_true rfl)⟩ ⟨(Nat.le_of_ble_eq_true rfl), (Nat.le_of_ble_eq_true rfl)⟩ hK hH.1 10 0 rfl (mwc0 C A u117) rfl hl.1 rfl (Nat.le_of_ble_eq_true rfl) dX10_best_30 (fun r119 p120 => ?_)
        subst p120
        have b121 : 0 ≤ ((ga u117 7 3)).toInt ∧ ((ga u117 7 3)).toInt ≤ 6 := hI.has 3
        refine lv_icmp_ge (tgt := 65) hx hb dX10_best_33 (by decide) (fun c122 => ?_) (fun c122 => ?_)
        · have c122 := cLE (x := (ga u117 7 3)) (y := y114d) (X := ((ga u117 7 3)).toInt) (Y := y114d.toInt) rfl rfl c122
          refine lv_iload_n hx hb dX10_best_65 rfl (lv_at hl 2 rfl) ?_
          exact hret _ _ _ _ y116d _ dX10_best_66 rfl ⟨hI, (Un.tr (Un.tr (Un.si Un.rf rfl eu1) hUu5 rfl rfl rfl) hUu117 rfl rfl rfl), ⟨by omega, by omega⟩⟩ hH
        · have c122 := cNLE (x := (ga u117 7 3)) (y := y114d) (X := ((ga u117 7 3)).toInt) (Y := y114d.toInt) rfl rfl c122
          refine lv_aload_n hx hb dX10_best_36 rfl (lv_at hl 3 rfl) ?_
          refine lv_iconst (v := 1) hx hb dX10_best_37 (by decide) ?_
          refine lv_iload_n hx hb dX10_best_38 rfl (lv_at hl 0 rfl) ?_
          refine lv_ishl hx hb dX10_best_39 ?_
          have gz123 := tt_shl1 (y := y114d) (Y := y114d.toInt) rfl (by omega) (by omega)
          refine p_bd (P := fun q => 1 ≤ q ∧ q ≤ 32) ⟨by omega, by omega⟩ (fun z124 bz124 => ?_)
          have bz124 : 1 ≤ z124.toInt ∧ z124.toInt ≤ 32 := bz124
          refine cvI (n := 1) (As := [.int z124]) (rest := []) ⟨hx, hb, hml, hown, hts⟩ uc_in (kX10_waitWithout_0 l D C A u117 hI z124 z124.toInt rfl _) q_m1589 q_n1591 q_p88 q_i11 q_c1592 hvX10_waitWithout ⟨(Nat.le_of_ble_eq_true rfl), (Nat.le_of_ble_eq_true rfl)⟩ ⟨(Nat.le_of_ble_eq_true rfl), (Nat.le_of_ble_eq_true rfl)⟩ hK hH (fun q h => Or.inr h) Bl0 (fun _ _ _ => trivial) 10 0 rfl (mwc0 C A u117) rfl hl.1 rfl (Nat.le_of_ble_eq_true rfl) dX10_best_40 (fun r126 u125 H locs p127 hH => ?_)
          obtain ⟨hI, hUu125, p127⟩ := p127
          refine lv_istore (lv' := [(4, .int r126), (3, .int y114d), (2, .int y115d), (1, .int y116d), (0, .ref (A 0))]) hx hb dX10_best_43 hl (by decide) rfl (fun ls hl => ?_)
          refine lv_iload hx hb dX10_best_45 (lv_at hl 0 rfl) ?_
          refine lv_iload_n hx hb dX10_best_47 rfl (lv_at hl 2 rfl) ?_
          have j59_132 : ∀ (ls : Array Slot) (y129d : Int32) (y130d : Int32), (-1) ≤ y130d.toInt → y130d.toInt ≤ 5 → lv_has ls 5 [(2, .int y129d), (1, .int y130d), (3, .int y114d), (0, .ref (A 0))] → W p l e (rmL 8 0 0) s m ar below meth c H locs 0 0 Q (F0 m 59 ls []) := by
            intro ls y129d y130d ly130d my130d hl
            obtain ⟨z134, ez134⟩ : ∃ z, z = y114d + Int32.ofInt 1 := ⟨_, rfl⟩
            have hz134 : z134.toInt = y114d.toInt + 1 := by rw [ez134]; exact tt_add rfl (by decide) (by omega) (by omega)
            refine lv_iinc (v := z134) (lv' := [(3, .int z134), (2, .int y129d), (1, .int y130d), (0, .ref (A 0))]) hx hb dX10_best_59 hl (k := 2) rfl ez134.symm (by decide) rfl (fun ls hl => ?_)
            refine lv_goto (tgt := 28) hx hb dX10_best_62 (by decide) ?_
            exact ih28_117 ls z134 y129d y130d u125 _ _ (by have q9 := (show z134.toInt = (y114d.toInt + 1) from hz134); omega) (by have q9 := (show z134.toInt = (y114d.toInt + 1) from hz134); omega) (by omega) (by omega) (by have q9 := (show z134.toInt = (y114d.toInt + 1) from hz134); omega) (Un.tr hUu117 hUu125 rfl rfl rfl) hI hH hl
          refine lv_icmp_lt (tgt := 54) hx hb dX10_best_48 (by decide) (fun c128 => ?_) (fun c128 => ?_)
          · have c128 := cLT (x := r126) (y := y115d) (X := r126.toInt) (Y := y115d.toInt) rfl rfl c128
            refine lv_iload_n hx hb dX10_best_54 rfl (lv_at hl 1 rfl) ?_
            refine lv_istore_n (lv' := [(1, .int y114d), (4, .int r126), (3, .int y114d), (2, .int y115d), (0, .ref (A 0))]) hx hb dX10_best_55 rfl hl (by decide) rfl (fun ls hl => ?_)
            refine lv_iload hx hb dX10_best_56 (lv_at hl 1 rfl) ?_
            refine lv_istore_n (lv' := [(2, .int r126), (1, .int y114d), (4, .int r126), (3, .int y114d), (0, .ref (A 0))]) hx hb dX10_best_58 rfl hl (by decide) rfl (fun ls hl => ?_)
            exact j59_132 ls r126 y114d (by omega) (by omega) (lv_sub hl [0, 1, 3, 4] rfl)
          · have c128 := cNLT (x := r126) (y := y115d) (X := r126.toInt) (Y := y115d.toInt) rfl rfl c128
            refine lv_goto (tgt := 59) hx hb dX10_best_51 (by decide) ?_
            exact j59_132 ls y115d y116d (by omega) (by omega) (lv_sub hl [2, 3, 1, 4] rfl)
    exact lp28_117 7 ls 0 r8 (-1) u5 _ _ (by decide) (by decide) (by decide) (by decide) (by have q9 : (0 : Int32).toInt = 0 := (by decide); omega) Un.rf hI hH hl
  · have c4 := cEQ (x := r2) (y := 0) (X := r2.toInt) (Y := 0) rfl (by decide) c4
    refine lv_bipush (v := (-2)) hx hb dX10_best_12 (by decide) ?_
    exact hret _ _ _ _ ((-2) : Int32) _ dX10_best_14 rfl ⟨hI, (Un.si Un.rf rfl eu1), ⟨by decide, by decide⟩⟩ hH
set_option maxHeartbeats 4000000 in
set_option maxRecDepth 100000 in
theorem kX10_isBy_0 (l : Launch) (D : va_G) (C : Nat → ClassId) (A : Nat → Nat) (u : St) (hI : IM u) (a0 : Int32) (A0 : Int) (ha0 : a0.toInt = A0) : Met l yX10_isBy (uc yX10_isBy cX10_isBy 3 (some .boolean)) (rmL 5 0 0) (va_Pc [.ref (A 0), .int a0] (PreR D (tyl C) (mw C A u))) (vp_Si (fun r => 0 ≤ r.toInt ∧ r.toInt ≤ 1)) 0 0 (fun _ => False) := by
  refine mS (by decide) (Nat.le_of_ble_eq_true rfl) ?_
  intro p e s m below meth c ls ar Q hx hb hml hown hts hK hP hl hret
  have hown : s.vm.findClass RX10 = some m.cls := hown
  have hl : lv_has ls 3 [(0, .ref (A 0)), (1, .int a0)] := hl
  refine lv_iconst (v := 0) hx hb dX10_isBy_0 (by decide) ?_
  refine lv_istore_n (lv' := [(2, .int 0), (0, .ref (A 0)), (1, .int a0)]) hx hb dX10_isBy_1 rfl hl (by decide) rfl (fun ls hl => ?_)
  have lp2_59 : ∀ (n2 : Nat) (ls : Array Slot) (y59d : Int32), 0 ≤ y59d.toInt → y59d.toInt ≤ 7 → 7 - y59d.toInt < (n2 : Int) → lv_has ls 3 [(2, .int y59d), (0, .ref (A 0)), (1, .int a0)] → W p l e (rmL 5 0 0) s m ar below meth c s.heap [] 0 0 Q (F0 m 2 ls []) := by
    intro n2
    induction n2 with
    | zero => intro ls y59d ly59d my59d hmun2 hl; exfalso; omega
    | succ n2 ih2_59 =>
      intro ls y59d ly59d my59d hmun2 hl
      refine lv_iload_n hx hb dX10_isBy_2 rfl (lv_at hl 0 rfl) ?_
      refine lv_aload_n hx hb dX10_isBy_3 rfl (lv_at hl 1 rfl) ?_
      refine cvS (n := 0) (As := []) (rest := [.int y59d]) ⟨hx, hb, hml, hown, hts⟩ uc_in (kX10_days_0 l D C A u hI ) q_m1477 q_n1479 q_p74 q_i11 q_c1480 hvX10_days ⟨(Nat.le_of_ble_eq_true rfl), (Nat.le_of_ble_eq_true rfl)⟩ ⟨(Nat.le_of_ble_eq_true rfl), (Nat.le_of_ble_eq_true rfl)⟩ hK hP 10 0 rfl (mwc0 C A u) rfl hl.1 rfl (Nat.le_of_ble_eq_true rfl) dX10_isBy_4 (fun r61 p62 => ?_)
      subst p62
      have b63 : 0 ≤ ((ga u 7 0)).toInt ∧ ((ga u 7 0)).toInt ≤ 7 := hI.has 0
      refine lv_icmp_ge (tgt := 27) hx hb dX10_isBy_7 (by decide) (fun c64 => ?_) (fun c64 => ?_)
      · have c64 := cLE (x := (ga u 7 0)) (y := y59d) (X := ((ga u 7 0)).toInt) (Y := y59d.toInt) rfl rfl c64
        refine lv_iconst (v := 1) hx hb dX10_isBy_27 (by decide) ?_
        exact hret _ _ (1 : Int32) dX10_isBy_28 rfl ⟨by decide, by decide⟩
      · have c64 := cNLE (x := (ga u 7 0)) (y := y59d) (X := ((ga u 7 0)).toInt) (Y := y59d.toInt) rfl rfl c64
        refine lv_aload_n hx hb dX10_isBy_10 rfl (lv_at hl 1 rfl) ?_
        refine lv_iload_n hx hb dX10_isBy_11 rfl (lv_at hl 0 rfl) ?_
        refine cvS (n := 1) (As := [.int y59d]) (rest := []) ⟨hx, hb, hml, hown, hts⟩ uc_in (kX10_noonOf__0 l D C A u hI y59d y59d.toInt rfl (by omega) (by omega)) q_m1496 q_n1498 q_p77 q_i11 q_c1499 hvX10_noonOf_ ⟨(Nat.le_of_ble_eq_true rfl), (Nat.le_of_ble_eq_true rfl)⟩ ⟨(Nat.le_of_ble_eq_true rfl), (Nat.le_of_ble_eq_true rfl)⟩ hK hP 10 0 rfl (mwc0 C A u) rfl hl.1 rfl (Nat.le_of_ble_eq_true rfl) dX10_isBy_12 (fun r65 p66 => ?_)
        refine lv_iload_n hx hb dX10_isBy_15 rfl (lv_at hl 2 rfl) ?_
        refine lv_icmp_le (tgt := 21) hx hb dX10_isBy_16 (by decide) (fun c67 => ?_) (fun c67 => ?_)
        · have c67 := cLE (x := r65) (y := a0) (X := r65.toInt) (Y := A0) rfl ha0 c67
          obtain ⟨z68, ez68⟩ : ∃ z, z = y59d + Int32.ofInt 1 := ⟨_, rfl⟩
          have hz68 : z68.toInt = y59d.toInt + 1 := by rw [ez68]; exact tt_add rfl (by decide) (by omega) (by omega)
          refine lv_iinc (v := z68) (lv' := [(2, .int z68), (0, .ref (A 0)), (1, .int a0)]) hx hb dX10_isBy_21 hl (k := 0) rfl ez68.symm (by decide) rfl (fun ls hl => ?_)
          refine lv_goto (tgt := 2) hx hb dX10_isBy_24 (by decide) ?_
          exact ih2_59 ls z68 (by have q9 := (show z68.toInt = (y59d.toInt + 1) from hz68); omega) (by have q9 := (show z68.toInt = (y59d.toInt + 1) from hz68); omega) (by have q9 := (show z68.toInt = (y59d.toInt + 1) from hz68); omega) hl
        · have c67 := cNLE (x := r65) (y := a0) (X := r65.toInt) (Y := A0) rfl ha0 c67
          refine lv_iconst (v := 0) hx hb dX10_isBy_19 (by decide) ?_
          exact hret _ _ (0 : Int32) dX10_isBy_20 rfl ⟨by decide, by decide⟩
  exact lp2_59 8 ls 0 (by decide) (by decide) (by have q9 : (0 : Int32).toInt = 0 := (by decide); omega) hl
set_option maxHeartbeats 4000000 in
set_option maxRecDepth 100000 in
theorem kX10_buriesOf_0 (l : Launch) (D : va_G) (C : Nat → ClassId) (A : Nat → Nat) (u : St) (hI : IM u) (a0 : Int32) (A0 : Int) (ha0 : a0.toInt = A0) (sz : Nat) : MetI l yX10_buriesOf cX10_buriesOf 4 (some .int) 6 [.ref (A 0), .int a0] D (tyl C) (mw C A) X0 u sz (fun r u' => IM u' ∧ Un [(24, 24), (25, 25)] [(12, 12), (13, 13)] [] u u' ∧ ((-1) ≤ r.toInt ∧ r.toInt ≤ 63)) := by
  refine mI (by decide) (Nat.le_of_ble_eq_true rfl) ?_
  intro p e s m below meth c ls ar Q hx hb hml hown hts hK hH hX hl hret
  have hown : s.vm.findClass RX10 = some m.cls := hown
  have hl : lv_has ls 4 [(0, .ref (A 0)), (1, .int a0)] := hl
  refine lv_aload_n hx hb dX10_buriesOf_0 rfl (lv_at hl 0 rfl) ?_
  refine cvU (n := 0) (As := []) (rest := []) ⟨hx, hb, hml, hown, hts⟩ uc_in (kX10_lays_0 l D C A u hI  _) q_m1481 q_n1483 q_p75 q_i11 q_c1484 hvX10_lays ⟨(Nat.le_of_ble_eq_true rfl), (Nat.le_of_ble_eq_true rfl)⟩ ⟨(Nat.le_of_ble_eq_true rfl), (Nat.le_of_ble_eq_true rfl)⟩ hK hH (fun q h => Or.inr h) Bl0 (fun _ _ _ => trivial) 10 0 rfl (mwc0 C A u) rfl hl.1 rfl (Nat.le_of_ble_eq_true rfl) dX10_buriesOf_1 (fun u1 H locs p3 hH => ?_)
  obtain ⟨hI, hUu1, p3⟩ := p3
  refine lv_iconst (v := (-1)) hx hb dX10_buriesOf_4 (by decide) ?_
  refine lv_istore_n (lv' := [(2, .int (-1)), (0, .ref (A 0)), (1, .int a0)]) hx hb dX10_buriesOf_5 rfl hl (by decide) rfl (fun ls hl => ?_)
  refine lv_iconst (v := 0) hx hb dX10_buriesOf_6 (by decide) ?_
  refine lv_istore_n (lv' := [(3, .int 0), (2, .int (-1)), (0, .ref (A 0)), (1, .int a0)]) hx hb dX10_buriesOf_7 rfl hl (by decide) rfl (fun ls hl => ?_)
  have lp8_334 : ∀ (n8 : Nat) (ls : Array Slot) (y332d : Int32) (y333d : Int32) (u334 : St) (H : Heap) (locs : List Loc), 0 ≤ y332d.toInt → y332d.toInt ≤ 64 → (-1) ≤ y333d.toInt → y333d.toInt ≤ 63 → 64 - y332d.toInt < (n8 : Int) → Un [(24, 24)] [(12, 12), (13, 13)] [] u1 u334 → IM u334 → Hd D (mw C A) (va_A (mw C A u) s.heap.size) s.heap u334 H locs → lv_has ls 4 [(3, .int y332d), (2, .int y333d), (0, .ref (A 0)), (1, .int a0)] → W p l e (rmL 6 0 0) s m ar below meth c H locs 0 0 Q (F0 m 8 ls []) := by
    intro n8
    induction n8 with
    | zero => intro ls y332d y333d u334 H locs ly332d my332d ly333d my333d hmun8 hUu334 hI hH hl; exfalso; omega
    | succ n8 ih8_334 =>
      intro ls y332d y333d u334 H locs ly332d my332d ly333d my333d hmun8 hUu334 hI hH hl
      refine lv_iload_n hx hb dX10_buriesOf_8 rfl (lv_at hl 0 rfl) ?_
      refine lv_iconst (v := 1) hx hb dX10_buriesOf_9 (by decide) ?_
      refine lv_aload_n hx hb dX10_buriesOf_10 rfl (lv_at hl 2 rfl) ?_
      refine cvS (n := 0) (As := []) (rest := [.int 1, .int y332d]) ⟨hx, hb, hml, hown, hts⟩ uc_in (kX10_clocks_0 l D C A u334 hI ) q_m1464 q_n1466 q_p72 q_i11 q_c1467 hvX10_clocks ⟨(Nat.le_of_ble_eq_true rfl), (Nat.le_of_ble_eq_true rfl)⟩ ⟨(Nat.le_of_ble_eq_true rfl), (Nat.le_of_ble_eq_true rfl)⟩ hK hH.1 10 0 rfl (mwc0 C A u334) rfl hl.1 rfl (Nat.le_of_ble_eq_true rfl) dX10_buriesOf_11 (fun r336 p337 => ?_)
      subst p337
      have b338 : 0 ≤ ((ga u334 7 3)).toInt ∧ ((ga u334 7 3)).toInt ≤ 6 := hI.has 3
      refine lv_ishl hx hb dX10_buriesOf_14 ?_
      have gz339 := tt_shl1 (y := (ga u334 7 3)) (Y := ((ga u334 7 3)).toInt) rfl (by omega) (by omega)
      refine p_bd (P := fun q => 1 ≤ q ∧ q ≤ 64) ⟨by omega, by omega⟩ (fun z340 bz340 => ?_)
      have bz340 : 1 ≤ z340.toInt ∧ z340.toInt ≤ 64 := bz340
      refine lv_icmp_ge (tgt := 62) hx hb dX10_buriesOf_15 (by decide) (fun c341 => ?_) (fun c341 => ?_)
      · have c341 := cLE (x := z340) (y := y332d) (X := z340.toInt) (Y := y332d.toInt) rfl rfl c341
        refine lv_iload_n hx hb dX10_buriesOf_62 rfl (lv_at hl 1 rfl) ?_
        exact hret _ _ _ _ y333d _ dX10_buriesOf_63 rfl ⟨hI, (Un.tr (Un.tr Un.rf hUu1 rfl rfl rfl) hUu334 rfl rfl rfl), ⟨by omega, by omega⟩⟩ hH
      · have c341 := cNLE (x := z340) (y := y332d) (X := z340.toInt) (Y := y332d.toInt) rfl rfl c341
        refine lv_iload_n hx hb dX10_buriesOf_18 rfl (lv_at hl 1 rfl) ?_
        refine lv_iconst (v := (-1)) hx hb dX10_buriesOf_19 (by decide) ?_
        have j56_359 : ∀ (ls : Array Slot) (y355d : Int32) (u359 : St) (H : Heap) (locs : List Loc), (-1) ≤ y355d.toInt → y355d.toInt ≤ 63 → Un [(24, 24)] [(12, 12), (13, 13)] [] u334 u359 → IM u359 → Hd D (mw C A) (va_A (mw C A u) s.heap.size) s.heap u359 H locs → lv_has ls 4 [(3, .int y332d), (2, .int y355d), (0, .ref (A 0)), (1, .int a0)] → W p l e (rmL 6 0 0) s m ar below meth c H locs 0 0 Q (F0 m 56 ls []) := by
          intro ls y355d u359 H locs ly355d my355d hUu359 hI hH hl
          obtain ⟨z361, ez361⟩ : ∃ z, z = y332d + Int32.ofInt 1 := ⟨_, rfl⟩
          have hz361 : z361.toInt = y332d.toInt + 1 := by rw [ez361]; exact tt_add rfl (by decide) (by omega) (by omega)
          refine lv_iinc (v := z361) (lv' := [(3, .int z361), (2, .int y355d), (0, .ref (A 0)), (1, .int a0)]) hx hb dX10_buriesOf_56 hl (k := 0) rfl ez361.symm (by decide) rfl (fun ls hl => ?_)
          refine lv_goto (tgt := 8) hx hb dX10_buriesOf_59 (by decide) ?_
          exact ih8_334 ls z361 y355d u359 _ _ (by have q9 := (show z361.toInt = (y332d.toInt + 1) from hz361); omega) (by have q9 := (show z361.toInt = (y332d.toInt + 1) from hz361); omega) (by omega) (by omega) (by have q9 := (show z361.toInt = (y332d.toInt + 1) from hz361); omega) (Un.tr hUu334 hUu359 rfl rfl rfl) hI hH hl
        have j37_362 : ∀ (ls : Array Slot), lv_has ls 4 [(3, .int y332d), (2, .int y333d), (0, .ref (A 0)), (1, .int a0)] → W p l e (rmL 6 0 0) s m ar below meth c H locs 0 0 Q (F0 m 37 ls []) := by
          intro ls hl
          refine lv_aload_n hx hb dX10_buriesOf_37 rfl (lv_at hl 2 rfl) ?_
          refine lv_iload_n hx hb dX10_buriesOf_38 rfl (lv_at hl 0 rfl) ?_
          refine r_put (j := 24) (ci := 10) (C := RX10) (T := TX10) (N := 42) hx hb hts (fun w h => uc_in w (inX10 w h)) tyX10 tyX10_ok nmX10 hown hK hH 0 (mwc0 C A u334) rfl 24 (by decide) (hts _ (uc_in _ q_f1212)) (fun _ h9 => h9) rfl (by decide +kernel) (Nat.le_of_ble_eq_true rfl) (mws24 C A u334 _) dX10_buriesOf_39 (fun u364 eu364 H locs hH => ?_)
          have hI := hI.pi0 eu364 rfl
          refine lv_aload_n hx hb dX10_buriesOf_42 rfl (lv_at hl 2 rfl) ?_
          refine cvU (n := 0) (As := []) (rest := []) ⟨hx, hb, hml, hown, hts⟩ uc_in (kX10_runs_0 l D C A u364 hI  _) q_m1485 q_n1487 q_p76 q_i11 q_c1488 hvX10_runs ⟨(Nat.le_of_ble_eq_true rfl), (Nat.le_of_ble_eq_true rfl)⟩ ⟨(Nat.le_of_ble_eq_true rfl), (Nat.le_of_ble_eq_true rfl)⟩ hK hH (fun q h => Or.inr h) Bl0 (fun _ _ _ => trivial) 10 0 rfl (mwc0 C A u364) rfl hl.1 rfl (Nat.le_of_ble_eq_true rfl) dX10_buriesOf_43 (fun u365 H locs p367 hH => ?_)
          obtain ⟨hI, hUu365, p367⟩ := p367
          refine lv_aload_n hx hb dX10_buriesOf_46 rfl (lv_at hl 2 rfl) ?_
          refine lv_iload_n hx hb dX10_buriesOf_47 rfl (lv_at hl 3 rfl) ?_
          refine cvS (n := 1) (As := [.int a0]) (rest := []) ⟨hx, hb, hml, hown, hts⟩ uc_in (kX10_isBy_0 l D C A u365 hI a0 A0 ha0) q_m1678 q_n1680 q_p92 q_i11 q_c1681 hvX10_isBy ⟨(Nat.le_of_ble_eq_true rfl), (Nat.le_of_ble_eq_true rfl)⟩ ⟨(Nat.le_of_ble_eq_true rfl), (Nat.le_of_ble_eq_true rfl)⟩ hK hH.1 10 0 rfl (mwc0 C A u365) rfl hl.1 rfl (Nat.le_of_ble_eq_true rfl) dX10_buriesOf_48 (fun r368 p369 => ?_)
          have p369 : 0 ≤ r368.toInt ∧ r368.toInt ≤ 1 := p369
          refine lv_if_eq (tgt := 56) hx hb dX10_buriesOf_51 (by decide) (fun c370 => ?_) (fun c370 => ?_)
          · have c370 := cEQ (x := r368) (y := 0) (X := r368.toInt) (Y := 0) rfl (by decide) c370
            exact j56_359 ls y333d u365 _ _ (by omega) (by omega) (Un.tr (Un.si Un.rf rfl eu364) hUu365 rfl rfl rfl) hI hH hl
          · have c370 := cNE (x := r368) (y := 0) (X := r368.toInt) (Y := 0) rfl (by decide) c370
            refine lv_iload_n hx hb dX10_buriesOf_54 rfl (lv_at hl 0 rfl) ?_
            refine lv_istore_n (lv' := [(2, .int y332d), (3, .int y332d), (0, .ref (A 0)), (1, .int a0)]) hx hb dX10_buriesOf_55 rfl hl (by decide) rfl (fun ls hl => ?_)
            exact j56_359 ls y332d u365 _ _ (by omega) (by omega) (Un.tr (Un.si Un.rf rfl eu364) hUu365 rfl rfl rfl) hI hH (lv_sub hl [1, 0, 2, 3] rfl)
        refine lv_icmp_eq (tgt := 37) hx hb dX10_buriesOf_20 (by decide) (fun c342 => ?_) (fun c342 => ?_)
        · have c342 := cEQ (x := y333d) (y := (-1)) (X := y333d.toInt) (Y := (-1)) rfl (by decide) c342
          exact j37_362 ls hl
        · have c342 := cNE (x := y333d) (y := (-1)) (X := y333d.toInt) (Y := (-1)) rfl (by decide) c342
          refine lv_iload_n hx hb dX10_buriesOf_23 rfl (lv_at hl 0 rfl) ?_
          refine csS (n := 1) (As := [.int y332d]) (rest := []) ⟨hx, hb, hml, hown, hts⟩ uc_in (kX10_sizeOf_0 l D C A u334 hI y332d y332d.toInt rfl) q_m1582 q_s1583 q_i11 q_c1584 hvX10_sizeOf ⟨(Nat.le_of_ble_eq_true rfl), (Nat.le_of_ble_eq_true rfl)⟩ ⟨(Nat.le_of_ble_eq_true rfl), (Nat.le_of_ble_eq_true rfl)⟩ hK hH.1 rfl hl.1 rfl (Nat.le_of_ble_eq_true rfl) dX10_buriesOf_24 (fun r371 p372 => ?_)
          have p372 := p372 (by omega) (by omega)
          have br371 := pc_bd p372
          refine lv_iload_n hx hb dX10_buriesOf_27 rfl (lv_at hl 1 rfl) ?_
          refine csS (n := 1) (As := [.int y333d]) (rest := [.int r371]) ⟨hx, hb, hml, hown, hts⟩ uc_in (kX10_sizeOf_0 l D C A u334 hI y333d y333d.toInt rfl) q_m1582 q_s1583 q_i11 q_c1584 hvX10_sizeOf ⟨(Nat.le_of_ble_eq_true rfl), (Nat.le_of_ble_eq_true rfl)⟩ ⟨(Nat.le_of_ble_eq_true rfl), (Nat.le_of_ble_eq_true rfl)⟩ hK hH.1 rfl hl.1 rfl (Nat.le_of_ble_eq_true rfl) dX10_buriesOf_28 (fun r373 p374 => ?_)
          have p374 := p374 (by omega) (by omega)
          have br373 := pc_bd p374
          refine lv_icmp_lt (tgt := 37) hx hb dX10_buriesOf_31 (by decide) (fun c375 => ?_) (fun c375 => ?_)
          · have c375 := cLT (x := r371) (y := r373) (X := r371.toInt) (Y := r373.toInt) rfl rfl c375
            exact j37_362 ls hl
          · have c375 := cNLT (x := r371) (y := r373) (X := r371.toInt) (Y := r373.toInt) rfl rfl c375
            refine lv_goto (tgt := 56) hx hb dX10_buriesOf_34 (by decide) ?_
            exact j56_359 ls y333d u334 _ _ (by omega) (by omega) Un.rf hI hH hl
  exact lp8_334 65 ls 0 (-1) u1 _ _ (by decide) (by decide) (by decide) (by decide) (by have q9 : (0 : Int32).toInt = 0 := (by decide); omega) Un.rf hI hH hl
set_option maxHeartbeats 4000000 in
set_option maxRecDepth 100000 in
theorem kX10_buries_0 (l : Launch) (D : va_G) (C : Nat → ClassId) (A : Nat → Nat) (u : St) (hI : IM u) (a0 : Int32) (A0 : Int) (ha0 : a0.toInt = A0) (sz : Nat) : MetI l yX10_buries cX10_buries 2 (some .int) 7 [.ref (A 0), .int a0] D (tyl C) (mw C A) X0 u sz (fun r u' => IM u' ∧ Un [(0, 0), (24, 24), (25, 25)] [(12, 12), (13, 13)] [] u u' ∧ ((-2) ≤ r.toInt ∧ r.toInt ≤ 63)) := by
  refine mI (by decide) (Nat.le_of_ble_eq_true rfl) ?_
  intro p e s m below meth c ls ar Q hx hb hml hown hts hK hH hX hl hret
  have hown : s.vm.findClass RX10 = some m.cls := hown
  have hl : lv_has ls 2 [(0, .ref (A 0)), (1, .int a0)] := hl
  refine lv_aload_n hx hb dX10_buries_0 rfl (lv_at hl 0 rfl) ?_
  refine lv_iconst (v := 0) hx hb dX10_buries_1 (by decide) ?_
  refine r_put (j := 0) (ci := 10) (C := RX10) (T := TX10) (N := 42) hx hb hts (fun w h => uc_in w (inX10 w h)) tyX10 tyX10_ok nmX10 hown hK hH 0 (mwc0 C A u) rfl 0 (by decide) (hts _ (uc_in _ q_f1188)) (fun _ h9 => h9) rfl (by decide +kernel) (Nat.le_of_ble_eq_true rfl) (mws0 C A u _) dX10_buries_2 (fun u1 eu1 H locs hH => ?_)
  have hI := hI.pi0 eu1 rfl
  refine lv_aload_n hx hb dX10_buries_5 rfl (lv_at hl 0 rfl) ?_
  refine lv_iload_n hx hb dX10_buries_6 rfl (lv_at hl 1 rfl) ?_
  refine cvS (n := 1) (As := [.int a0]) (rest := []) ⟨hx, hb, hml, hown, hts⟩ uc_in (kX10_isLong_0 l D C A u1 hI a0 A0 ha0) q_m1630 q_n1632 q_p90 q_i11 q_c1633 hvX10_isLong ⟨(Nat.le_of_ble_eq_true rfl), (Nat.le_of_ble_eq_true rfl)⟩ ⟨(Nat.le_of_ble_eq_true rfl), (Nat.le_of_ble_eq_true rfl)⟩ hK hH.1 10 0 rfl (mwc0 C A u1) rfl hl.1 rfl (Nat.le_of_ble_eq_true rfl) dX10_buries_7 (fun r2 p3 => ?_)
  have p3 : 0 ≤ r2.toInt ∧ r2.toInt ≤ 1 := p3
  refine lv_if_eq (tgt := 21) hx hb dX10_buries_10 (by decide) (fun c4 => ?_) (fun c4 => ?_)
  · have c4 := cEQ (x := r2) (y := 0) (X := r2.toInt) (Y := 0) rfl (by decide) c4
    refine lv_bipush (v := (-2)) hx hb dX10_buries_21 (by decide) ?_
    exact hret _ _ _ _ ((-2) : Int32) _ dX10_buries_23 rfl ⟨hI, (Un.si Un.rf rfl eu1), ⟨by decide, by decide⟩⟩ hH
  · have c4 := cNE (x := r2) (y := 0) (X := r2.toInt) (Y := 0) rfl (by decide) c4
    refine lv_aload_n hx hb dX10_buries_13 rfl (lv_at hl 0 rfl) ?_
    refine lv_iload_n hx hb dX10_buries_14 rfl (lv_at hl 1 rfl) ?_
    refine cvI (n := 1) (As := [.int a0]) (rest := []) ⟨hx, hb, hml, hown, hts⟩ uc_in (kX10_buriesOf_0 l D C A u1 hI a0 A0 ha0 _) q_m1674 q_n1676 q_p91 q_i11 q_c1677 hvX10_buriesOf ⟨(Nat.le_of_ble_eq_true rfl), (Nat.le_of_ble_eq_true rfl)⟩ ⟨(Nat.le_of_ble_eq_true rfl), (Nat.le_of_ble_eq_true rfl)⟩ hK hH (fun q h => Or.inr h) Bl0 (fun _ _ _ => trivial) 10 0 rfl (mwc0 C A u1) rfl hl.1 rfl (Nat.le_of_ble_eq_true rfl) dX10_buries_15 (fun r6 u5 H locs p7 hH => ?_)
    obtain ⟨hI, hUu5, p7⟩ := p7
    have p7 : (-1) ≤ r6.toInt ∧ r6.toInt ≤ 63 := p7
    refine lv_goto (tgt := 23) hx hb dX10_buries_18 (by decide) ?_
    exact hret _ _ _ _ r6 _ dX10_buries_23 rfl ⟨hI, (Un.tr (Un.si Un.rf rfl eu1) hUu5 rfl rfl rfl), ⟨by omega, by omega⟩⟩ hH
set_option maxHeartbeats 4000000 in
set_option maxRecDepth 100000 in
theorem kX10_bury_0 (l : Launch) (D : va_G) (C : Nat → ClassId) (A : Nat → Nat) (u : St) (hI : IM u) (a0 : Int32) (A0 : Int) (ha0 : a0.toInt = A0) (sz : Nat) : MetI l yX10_bury cX10_bury 2 (some .int) 7 [.ref (A 0), .int a0] D (tyl C) (mw C A) X0 u sz (fun r u' => IM u' ∧ Un [(0, 0), (24, 24), (25, 25)] [(12, 12), (13, 13)] [] u u' ∧ (True)) := by
  refine mI (by decide) (Nat.le_of_ble_eq_true rfl) ?_
  intro p e s m below meth c ls ar Q hx hb hml hown hts hK hH hX hl hret
  have hown : s.vm.findClass RX10 = some m.cls := hown
  have hl : lv_has ls 2 [(0, .ref (A 0)), (1, .int a0)] := hl
  refine lv_aload_n hx hb dX10_bury_0 rfl (lv_at hl 0 rfl) ?_
  refine lv_iconst (v := 0) hx hb dX10_bury_1 (by decide) ?_
  refine r_put (j := 0) (ci := 10) (C := RX10) (T := TX10) (N := 42) hx hb hts (fun w h => uc_in w (inX10 w h)) tyX10 tyX10_ok nmX10 hown hK hH 0 (mwc0 C A u) rfl 0 (by decide) (hts _ (uc_in _ q_f1188)) (fun _ h9 => h9) rfl (by decide +kernel) (Nat.le_of_ble_eq_true rfl) (mws0 C A u _) dX10_bury_2 (fun u1 eu1 H locs hH => ?_)
  have hI := hI.pi0 eu1 rfl
  refine lv_aload_n hx hb dX10_bury_5 rfl (lv_at hl 0 rfl) ?_
  refine lv_iload_n hx hb dX10_bury_6 rfl (lv_at hl 1 rfl) ?_
  refine cvS (n := 1) (As := [.int a0]) (rest := []) ⟨hx, hb, hml, hown, hts⟩ uc_in (kX10_isLong_0 l D C A u1 hI a0 A0 ha0) q_m1630 q_n1632 q_p90 q_i11 q_c1633 hvX10_isLong ⟨(Nat.le_of_ble_eq_true rfl), (Nat.le_of_ble_eq_true rfl)⟩ ⟨(Nat.le_of_ble_eq_true rfl), (Nat.le_of_ble_eq_true rfl)⟩ hK hH.1 10 0 rfl (mwc0 C A u1) rfl hl.1 rfl (Nat.le_of_ble_eq_true rfl) dX10_bury_7 (fun r2 p3 => ?_)
  have p3 : 0 ≤ r2.toInt ∧ r2.toInt ≤ 1 := p3
  refine lv_if_eq (tgt := 24) hx hb dX10_bury_10 (by decide) (fun c4 => ?_) (fun c4 => ?_)
  · have c4 := cEQ (x := r2) (y := 0) (X := r2.toInt) (Y := 0) rfl (by decide) c4
    refine lv_bipush (v := (-2)) hx hb dX10_bury_24 (by decide) ?_
    exact hret _ _ _ _ ((-2) : Int32) _ dX10_bury_26 rfl ⟨hI, (Un.si Un.rf rfl eu1), trivial⟩ hH
  · have c4 := cNE (x := r2) (y := 0) (X := r2.toInt) (Y := 0) rfl (by decide) c4
    refine lv_aload_n hx hb dX10_bury_13 rfl (lv_at hl 0 rfl) ?_
    refine lv_iload_n hx hb dX10_bury_14 rfl (lv_at hl 1 rfl) ?_
    refine cvI (n := 1) (As := [.int a0]) (rest := []) ⟨hx, hb, hml, hown, hts⟩ uc_in (kX10_buriesOf_0 l D C A u1 hI a0 A0 ha0 _) q_m1674 q_n1676 q_p91 q_i11 q_c1677 hvX10_buriesOf ⟨(Nat.le_of_ble_eq_true rfl), (Nat.le_of_ble_eq_true rfl)⟩ ⟨(Nat.le_of_ble_eq_true rfl), (Nat.le_of_ble_eq_true rfl)⟩ hK hH (fun q h => Or.inr h) Bl0 (fun _ _ _ => trivial) 10 0 rfl (mwc0 C A u1) rfl hl.1 rfl (Nat.le_of_ble_eq_true rfl) dX10_bury_15 (fun r6 u5 H locs p7 hH => ?_)
    obtain ⟨hI, hUu5, p7⟩ := p7
    have p7 : (-1) ≤ r6.toInt ∧ r6.toInt ≤ 63 := p7
    refine csS (n := 1) (As := [.int r6]) (rest := []) ⟨hx, hb, hml, hown, hts⟩ uc_in (kX10_sizeOf_0 l D C A u5 hI r6 r6.toInt rfl) q_m1582 q_s1583 q_i11 q_c1584 hvX10_sizeOf ⟨(Nat.le_of_ble_eq_true rfl), (Nat.le_of_ble_eq_true rfl)⟩ ⟨(Nat.le_of_ble_eq_true rfl), (Nat.le_of_ble_eq_true rfl)⟩ hK hH.1 rfl hl.1 rfl (Nat.le_of_ble_eq_true rfl) dX10_bury_18 (fun r8 p9 => ?_)
    refine lv_goto (tgt := 26) hx hb dX10_bury_21 (by decide) ?_
    exact hret _ _ _ _ r8 _ dX10_bury_26 rfl ⟨hI, (Un.tr (Un.si Un.rf rfl eu1) hUu5 rfl rfl rfl), trivial⟩ hH
set_option maxHeartbeats 4000000 in
set_option maxRecDepth 100000 in
theorem kX10_isHalf_0 (l : Launch) (D : va_G) (C : Nat → ClassId) (A : Nat → Nat) (u : St) (hI : IM u) (a0 : Int32) (A0 : Int) (ha0 : a0.toInt = A0) : Met l yX10_isHalf (uc yX10_isHalf cX10_isHalf 1 (some .boolean)) (rmL 2 0 0) (va_Pc [.int a0] (PreR D (tyl C) (mw C A u))) (vp_Si (fun r => (r = 1 ∧ 0 ≤ A0 ∧ A0 ≤ 1) ∨ r = 0)) 0 0 (fun _ => False) := by
  refine mS (by decide) (Nat.le_of_ble_eq_true rfl) ?_
  intro p e s m below meth c ls ar Q hx hb hml hown hts hK hP hl hret
  have hown : s.vm.findClass RX10 = some m.cls := hown
  have hl : lv_has ls 1 [(0, .int a0)] := hl
  refine lv_iload_n hx hb dX10_isHalf_0 rfl (lv_at hl 0 rfl) ?_
  refine lv_i2l (v := a0.toInt64) hx hb dX10_isHalf_1 rfl ?_
  refine lv_lconst (v := 0) hx hb dX10_isHalf_2 (by decide) ?_
  refine lv_lconst (v := 1) hx hb dX10_isHalf_3 (by decide) ?_
  refine csS (n := 3) (As := [.long a0.toInt64, .long 0, .long 1]) (rest := []) ⟨hx, hb, hml, hown, hts⟩ uc_in (kX10_in_0 l D C A u hI a0.toInt64 A0 (tt_i2l ha0) (0) 0 (by decide) (1) 1 (by decide)) q_m1324 q_s1325 q_i11 q_c1326 hvX10_in ⟨(Nat.le_of_ble_eq_true rfl), (Nat.le_of_ble_eq_true rfl)⟩ ⟨(Nat.le_of_ble_eq_true rfl), (Nat.le_of_ble_eq_true rfl)⟩ hK hP rfl hl.1 rfl (Nat.le_of_ble_eq_true rfl) dX10_isHalf_4 (fun r1 p2 => ?_)
  rcases p2 with ⟨e9, f3, f4⟩ | ⟨e9, fn5⟩
  · subst e9
    exact hret _ _ (1 : Int32) dX10_isHalf_7 rfl (Or.inl ⟨rfl, by omega, by omega⟩)
  · subst e9
    exact hret _ _ (0 : Int32) dX10_isHalf_7 rfl (Or.inr rfl)
set_option maxHeartbeats 4000000 in
set_option maxRecDepth 100000 in
theorem kX10_chanceOf_0 (l : Launch) (D : va_G) (C : Nat → ClassId) (A : Nat → Nat) (u : St) (hI : IM u) (a0 : Int32) (A0 : Int) (ha0 : a0.toInt = A0) (a1 : Int32) (A1 : Int) (ha1 : a1.toInt = A1) (hl0 : 0 ≤ A0) (hm0 : A0 ≤ 6) (sz : Nat) : MetI l yX10_chanceOf cX10_chanceOf 6 (some .int) 2 [.ref (A 0), .int a0, .int a1] D (tyl C) (mw C A) X0 u sz (fun r u' => IM u' ∧ Un [(41, 41)] [] [] u u' ∧ (1 ≤ (gi u' 41).toInt)) := by
  refine mI (by decide) (Nat.le_of_ble_eq_true rfl) ?_
  intro p e s m below meth c ls ar Q hx hb hml hown hts hK hH hX hl hret
  have hown : s.vm.findClass RX10 = some m.cls := hown
  have hl : lv_has ls 6 [(0, .ref (A 0)), (1, .int a0), (2, .int a1)] := hl
  refine lv_iconst (v := 1) hx hb dX10_chanceOf_0 (by decide) ?_
  refine lv_istore_n (lv' := [(3, .int 1), (0, .ref (A 0)), (1, .int a0), (2, .int a1)]) hx hb dX10_chanceOf_1 rfl hl (by decide) rfl (fun ls hl => ?_)
  refine lv_aload_n hx hb dX10_chanceOf_2 rfl (lv_at hl 1 rfl) ?_
  refine lv_iconst (v := 1) hx hb dX10_chanceOf_3 (by decide) ?_
  refine r_put (j := 41) (ci := 10) (C := RX10) (T := TX10) (N := 42) hx hb hts (fun w h => uc_in w (inX10 w h)) tyX10 tyX10_ok nmX10 hown hK hH 0 (mwc0 C A u) rfl 41 (by decide) (hts _ (uc_in _ q_f1229)) (fun _ h9 => h9) rfl (by decide +kernel) (Nat.le_of_ble_eq_true rfl) (mws41 C A u _) dX10_chanceOf_4 (fun u1 eu1 H locs hH => ?_)
  have hI := hI.s41 eu1 (X := 1) (by decide) (by decide) (by decide)
  refine lv_iconst (v := 0) hx hb dX10_chanceOf_7 (by decide) ?_
  refine lv_istore (lv' := [(4, .int 0), (3, .int 1), (0, .ref (A 0)), (1, .int a0), (2, .int a1)]) hx hb dX10_chanceOf_8 hl (by decide) rfl (fun ls hl => ?_)
  have lp10_319 : ∀ (n10 : Nat) (ls : Array Slot) (y317d : Int32) (y318d : Int32) (u319 : St) (H : Heap) (locs : List Loc), 0 ≤ y317d.toInt → y317d.toInt ≤ 6 → 1 ≤ (gi u319 41).toInt ∧ (y317d.toInt ≤ 0 → (gi u319 41).toInt ≤ 1) ∧ (y317d.toInt ≤ 1 → (gi u319 41).toInt ≤ 10) ∧ (y317d.toInt ≤ 2 → (gi u319 41).toInt ≤ 100) ∧ (y317d.toInt ≤ 3 → (gi u319 41).toInt ≤ 1000) ∧ (y317d.toInt ≤ 4 → (gi u319 41).toInt ≤ 10000) ∧ (y317d.toInt ≤ 5 → (gi u319 41).toInt ≤ 100000) ∧ (y317d.toInt ≤ 6 → (gi u319 41).toInt ≤ 1000000) → 6 - y317d.toInt < (n10 : Int) → Un [(41, 41)] [] [] u1 u319 → IM u319 → Hd D (mw C A) (va_A (mw C A u) s.heap.size) s.heap u319 H locs → lv_has ls 6 [(4, .int y317d), (3, .int y318d), (0, .ref (A 0)), (1, .int a0), (2, .int a1)] → W p l e (rmL 2 0 0) s m ar below meth c H locs 0 0 Q (F0 m 10 ls []) := by
    intro n10
    induction n10 with
    | zero => intro ls y317d y318d u319 H locs ly317d my317d x10_0 hmun10 hUu319 hI hH hl; exfalso; omega
    | succ n10 ih10_319 =>
      intro ls y317d y318d u319 H locs ly317d my317d x10_0 hmun10 hUu319 hI hH hl
      refine lv_iload hx hb dX10_chanceOf_10 (lv_at hl 0 rfl) ?_
      refine lv_aload_n hx hb dX10_chanceOf_12 rfl (lv_at hl 2 rfl) ?_
      refine cvS (n := 0) (As := []) (rest := [.int y317d]) ⟨hx, hb, hml, hown, hts⟩ uc_in (kX10_clocks_0 l D C A u319 hI ) q_m1464 q_n1466 q_p72 q_i11 q_c1467 hvX10_clocks ⟨(Nat.le_of_ble_eq_true rfl), (Nat.le_of_ble_eq_true rfl)⟩ ⟨(Nat.le_of_ble_eq_true rfl), (Nat.le_of_ble_eq_true rfl)⟩ hK hH.1 10 0 rfl (mwc0 C A u319) rfl hl.1 rfl (Nat.le_of_ble_eq_true rfl) dX10_chanceOf_13 (fun r321 p322 => ?_)
      subst p322
      have b323 : 0 ≤ ((ga u319 7 3)).toInt ∧ ((ga u319 7 3)).toInt ≤ 6 := hI.has 3
      refine lv_icmp_ge (tgt := 123) hx hb dX10_chanceOf_16 (by decide) (fun c324 => ?_) (fun c324 => ?_)
      · have c324 := cLE (x := (ga u319 7 3)) (y := y317d) (X := ((ga u319 7 3)).toInt) (Y := y317d.toInt) rfl rfl c324
        refine lv_iload_n hx hb dX10_chanceOf_123 rfl (lv_at hl 1 rfl) ?_
        exact hret _ _ _ _ y318d _ dX10_chanceOf_124 rfl ⟨hI, (Un.tr (Un.si Un.rf rfl eu1) hUu319 rfl rfl rfl), (by omega)⟩ hH
      · have c324 := cNLE (x := (ga u319 7 3)) (y := y317d) (X := ((ga u319 7 3)).toInt) (Y := y317d.toInt) rfl rfl c324
        refine lv_aload_n hx hb dX10_chanceOf_19 rfl (lv_at hl 2 rfl) ?_
        refine va_get (ci := 10) (v := .ref (A 13)) (C := RX10) (T := TX10) (N := 42) hx hb hts (fun w h => uc_in w (inX10 w h)) hown hK hH.1 0 (mwc0 C A u319) rfl 23 (by decide) (hts _ (uc_in _ q_f1211)) (fun _ h9 => h9) rfl dX10_chanceOf_20 ?_
        refine lv_bipush (v := 6) hx hb dX10_chanceOf_23 (by decide) ?_
        refine lv_iload_n hx hb dX10_chanceOf_25 rfl (lv_at hl 3 rfl) ?_
        refine lv_imul hx hb dX10_chanceOf_26 ?_
        refine p_nm (tt_mul (X := 6) (Y := A0) (by decide) ha0 (by omega) (by omega)) (fun z325 hz325 => ?_)
        refine lv_iload hx hb dX10_chanceOf_27 (lv_at hl 0 rfl) ?_
        refine lv_iadd hx hb dX10_chanceOf_29 ?_
        refine p_nm (tt_add (X := (6 * A0)) (Y := y317d.toInt) hz325 rfl (by omega) (by omega)) (fun z326 hz326 => ?_)
        refine va_zald hx hb hK hH.1 13 3 (mwc13 C A u319) rfl (i_ix hz326 (by omega) (by omega)) dX10_chanceOf_30 ?_
        refine p_any (fun z327 => ?_)
        refine lv_if_ne (tgt := 37) hx hb dX10_chanceOf_31 (by decide) (fun c328 => ?_) (fun c328 => ?_)
        · refine lv_aload_n hx hb dX10_chanceOf_37 rfl (lv_at hl 2 rfl) ?_
          refine va_get (ci := 10) (v := .ref (A 12)) (C := RX10) (T := TX10) (N := 42) hx hb hts (fun w h => uc_in w (inX10 w h)) hown hK hH.1 0 (mwc0 C A u319) rfl 22 (by decide) (hts _ (uc_in _ q_f1210)) (fun _ h9 => h9) rfl dX10_chanceOf_38 ?_
          refine lv_bipush (v := 6) hx hb dX10_chanceOf_41 (by decide) ?_
          refine lv_iload_n hx hb dX10_chanceOf_43 rfl (lv_at hl 3 rfl) ?_
          refine lv_imul hx hb dX10_chanceOf_44 ?_
          refine p_nm (tt_mul (X := 6) (Y := A0) (by decide) ha0 (by omega) (by omega)) (fun z329 hz329 => ?_)
          refine lv_iload hx hb dX10_chanceOf_45 (lv_at hl 0 rfl) ?_
          refine lv_iadd hx hb dX10_chanceOf_47 ?_
          refine p_nm (tt_add (X := (6 * A0)) (Y := y317d.toInt) hz329 rfl (by omega) (by omega)) (fun z330 hz330 => ?_)
          refine va_iald hx hb hK hH.1 12 1 (mwc12 C A u319) rfl (i_ix hz330 (by omega) (by omega)) dX10_chanceOf_48 ?_
          refine p_any (fun z331 => ?_)
          refine lv_istore (lv' := [(5, .int z331), (4, .int y317d), (3, .int y318d), (0, .ref (A 0)), (1, .int a0), (2, .int a1)]) hx hb dX10_chanceOf_49 hl (by decide) rfl (fun ls hl => ?_)
          refine lv_iload hx hb dX10_chanceOf_51 (lv_at hl 0 rfl) ?_
          refine lv_sipush (v := 10000) hx hb dX10_chanceOf_53 (by decide) ?_
          refine lv_icmp_ne (tgt := 64) hx hb dX10_chanceOf_56 (by decide) (fun c332 => ?_) (fun c332 => ?_)
          · refine lv_aload_n hx hb dX10_chanceOf_64 rfl (lv_at hl 3 rfl) ?_
            refine lv_dup hx hb dX10_chanceOf_65 rfl ?_
            refine va_get (ci := 10) (v := .int (gi u319 41)) (C := RX10) (T := TX10) (N := 42) hx hb hts (fun w h => uc_in w (inX10 w h)) hown hK hH.1 0 (mwc0 C A u319) rfl 41 (by decide) (hts _ (uc_in _ q_f1229)) (fun _ h9 => h9) rfl dX10_chanceOf_66 ?_
            have b333 := hI.b41
            refine lv_bipush (v := 10) hx hb dX10_chanceOf_69 (by decide) ?_
            refine lv_imul hx hb dX10_chanceOf_71 ?_
            refine p_nm (tt_mul (X := ((gi u319 41)).toInt) (Y := 10) rfl (by decide) (by omega) (by omega)) (fun z334 hz334 => ?_)
            refine r_put (j := 41) (ci := 10) (C := RX10) (T := TX10) (N := 42) hx hb hts (fun w h => uc_in w (inX10 w h)) tyX10 tyX10_ok nmX10 hown hK hH 0 (mwc0 C A u319) rfl 41 (by decide) (hts _ (uc_in _ q_f1229)) (fun _ h9 => h9) rfl (by decide +kernel) (Nat.le_of_ble_eq_true rfl) (mws41 C A u319 _) dX10_chanceOf_72 (fun u335 eu335 H locs hH => ?_)
            have hI := hI.s41 eu335 hz334 (by omega) (by omega)
            refine lv_iload_n hx hb dX10_chanceOf_75 rfl (lv_at hl 2 rfl) ?_
            refine lv_iload hx hb dX10_chanceOf_76 (lv_at hl 0 rfl) ?_
            refine lv_iload_n hx hb dX10_chanceOf_78 rfl (lv_at hl 5 rfl) ?_
            have j95_347 : ∀ (ls : Array Slot) (y339d : Int32), 0 ≤ y339d.toInt → y339d.toInt ≤ 10 → lv_has ls 6 [(5, .int z331), (4, .int y317d), (0, .ref (A 0)), (1, .int a0), (2, .int a1)] → W p l e (rmL 2 0 0) s m ar below meth c H locs 0 0 Q (F0 m 95 ls [.int y339d, .int y318d]) := by
              intro ls y339d ly339d my339d hl
              refine lv_iload hx hb dX10_chanceOf_95 (lv_at hl 0 rfl) ?_
              refine lv_bipush (v := 30) hx hb dX10_chanceOf_97 (by decide) ?_
              refine lv_iadd hx hb dX10_chanceOf_99 ?_
              refine p_any (fun z349 => ?_)
              refine lv_iload_n hx hb dX10_chanceOf_100 rfl (lv_at hl 4 rfl) ?_
              have j114_356 : ∀ (ls : Array Slot) (y352d : Int32), 0 ≤ y352d.toInt → y352d.toInt ≤ 10 → lv_has ls 6 [(4, .int y317d), (0, .ref (A 0)), (1, .int a0), (2, .int a1)] → W p l e (rmL 2 0 0) s m ar below meth c H locs 0 0 Q (F0 m 114 ls [.int y352d, .int y339d, .int y318d]) := by
                intro ls y352d ly352d my352d hl
                refine lv_iadd hx hb dX10_chanceOf_114 ?_
                refine p_nm (tt_add (X := y339d.toInt) (Y := y352d.toInt) rfl rfl (by omega) (by omega)) (fun z358 hz358 => ?_)
                refine lv_imul hx hb dX10_chanceOf_115 ?_
                refine p_any (fun z359 => ?_)
                refine lv_istore_n (lv' := [(3, .int z359), (4, .int y317d), (0, .ref (A 0)), (1, .int a0), (2, .int a1)]) hx hb dX10_chanceOf_116 rfl hl (by decide) rfl (fun ls hl => ?_)
                obtain ⟨z360, ez360⟩ : ∃ z, z = y317d + Int32.ofInt 1 := ⟨_, rfl⟩
                have hz360 : z360.toInt = y317d.toInt + 1 := by rw [ez360]; exact tt_add rfl (by decide) (by omega) (by omega)
                refine lv_iinc (v := z360) (lv' := [(4, .int z360), (3, .int z359), (0, .ref (A 0)), (1, .int a0), (2, .int a1)]) hx hb dX10_chanceOf_117 hl (k := 1) rfl ez360.symm (by decide) rfl (fun ls hl => ?_)
                refine lv_goto (tgt := 10) hx hb dX10_chanceOf_120 (by decide) ?_
                exact ih10_319 ls z360 z359 u335 _ _ (by have q9 := (show z360.toInt = (y317d.toInt + 1) from hz360); omega) (by have q9 := (show z360.toInt = (y317d.toInt + 1) from hz360); omega) (by have q41 := (show (gi u335 41).toInt = (((gi u319 41)).toInt * 10) from (congrArg Int32.toInt (show gi u335 41 = z334 from (gi_si eu335))).trans hz334); have r4 := (show (z360 : Int32).toInt = (y317d.toInt + 1) from hz360); omega) (by have q9 := (show z360.toInt = (y317d.toInt + 1) from hz360); omega) (Un.si hUu319 rfl eu335) hI hH hl
              refine lv_icmp_gt (tgt := 113) hx hb dX10_chanceOf_101 (by decide) (fun c350 => ?_) (fun c350 => ?_)
              · have c350 := cLT (x := a1) (y := z349) (X := A1) (Y := z349.toInt) ha1 rfl c350
                refine lv_iconst (v := 0) hx hb dX10_chanceOf_113 (by decide) ?_
                exact j114_356 ls 0 (by decide) (by decide) (lv_sub hl [1, 2, 3, 4] rfl)
              · have c350 := cNLT (x := a1) (y := z349) (X := A1) (Y := z349.toInt) ha1 rfl c350
                refine lv_aload_n hx hb dX10_chanceOf_104 rfl (lv_at hl 2 rfl) ?_
                refine va_get (ci := 10) (v := .ref (A 7)) (C := RX10) (T := TX10) (N := 42) hx hb hts (fun w h => uc_in w (inX10 w h)) hown hK hH.1 0 (mwc0 C A u335) rfl 17 (by decide) (hts _ (uc_in _ q_f1205)) (fun _ h9 => h9) rfl dX10_chanceOf_105 ?_
                refine lv_iconst (v := 2) hx hb dX10_chanceOf_108 (by decide) ?_
                refine va_iald hx hb hK hH.1 7 1 (mwc7 C A u335) rfl (i_ix (X := 2) (by decide) (by decide) (by decide)) dX10_chanceOf_109 ?_
                refine pv_i (v := (ga u335 7 2)) rfl ?_
                have b361 : 0 ≤ ((ga u335 7 2)).toInt ∧ ((ga u335 7 2)).toInt ≤ 10 := hI.has 2
                refine lv_goto (tgt := 114) hx hb dX10_chanceOf_110 (by decide) ?_
                exact j114_356 ls (ga u335 7 2) (by omega) (by omega) (lv_sub hl [1, 2, 3, 4] rfl)
            refine lv_icmp_gt (tgt := 94) hx hb dX10_chanceOf_79 (by decide) (fun c336 => ?_) (fun c336 => ?_)
            · have c336 := cLT (x := a1) (y := z331) (X := A1) (Y := z331.toInt) ha1 rfl c336
              refine lv_iconst (v := 0) hx hb dX10_chanceOf_94 (by decide) ?_
              exact j95_347 ls 0 (by decide) (by decide) (lv_sub hl [0, 1, 3, 4, 5] rfl)
            · have c336 := cNLT (x := a1) (y := z331) (X := A1) (Y := z331.toInt) ha1 rfl c336
              refine lv_bipush (v := 10) hx hb dX10_chanceOf_82 (by decide) ?_
              refine lv_aload_n hx hb dX10_chanceOf_84 rfl (lv_at hl 3 rfl) ?_
              refine va_get (ci := 10) (v := .ref (A 7)) (C := RX10) (T := TX10) (N := 42) hx hb hts (fun w h => uc_in w (inX10 w h)) hown hK hH.1 0 (mwc0 C A u335) rfl 17 (by decide) (hts _ (uc_in _ q_f1205)) (fun _ h9 => h9) rfl dX10_chanceOf_85 ?_
              refine lv_iconst (v := 2) hx hb dX10_chanceOf_88 (by decide) ?_
              refine va_iald hx hb hK hH.1 7 1 (mwc7 C A u335) rfl (i_ix (X := 2) (by decide) (by decide) (by decide)) dX10_chanceOf_89 ?_
              refine pv_i (v := (ga u335 7 2)) rfl ?_
              have b362 : 0 ≤ ((ga u335 7 2)).toInt ∧ ((ga u335 7 2)).toInt ≤ 10 := hI.has 2
              refine lv_isub hx hb dX10_chanceOf_90 ?_
              refine p_nm (tt_sub (X := 10) (Y := ((ga u335 7 2)).toInt) (by decide) rfl (by omega) (by omega)) (fun z363 hz363 => ?_)
              refine lv_goto (tgt := 95) hx hb dX10_chanceOf_91 (by decide) ?_
              exact j95_347 ls z363 (by have q9 := (show z363.toInt = (10 - ((ga u335 7 2)).toInt) from hz363); omega) (by have q9 := (show z363.toInt = (10 - ((ga u335 7 2)).toInt) from hz363); omega) (lv_sub hl [0, 1, 3, 4, 5] rfl)
          · have c332 := cEQ (x := z331) (y := 10000) (X := z331.toInt) (Y := 10000) rfl (by decide) c332
            refine lv_iconst (v := 0) hx hb dX10_chanceOf_59 (by decide) ?_
            refine lv_istore_n (lv' := [(3, .int 0), (5, .int z331), (4, .int y317d), (0, .ref (A 0)), (1, .int a0), (2, .int a1)]) hx hb dX10_chanceOf_60 rfl hl (by decide) rfl (fun ls hl => ?_)
            refine lv_goto (tgt := 117) hx hb dX10_chanceOf_61 (by decide) ?_
            obtain ⟨z364, ez364⟩ : ∃ z, z = y317d + Int32.ofInt 1 := ⟨_, rfl⟩
            have hz364 : z364.toInt = y317d.toInt + 1 := by rw [ez364]; exact tt_add rfl (by decide) (by omega) (by omega)
            refine lv_iinc (v := z364) (lv' := [(4, .int z364), (3, .int 0), (5, .int z331), (0, .ref (A 0)), (1, .int a0), (2, .int a1)]) hx hb dX10_chanceOf_117 hl (k := 2) rfl ez364.symm (by decide) rfl (fun ls hl => ?_)
            refine lv_goto (tgt := 10) hx hb dX10_chanceOf_120 (by decide) ?_
            exact ih10_319 ls z364 0 u319 _ _ (by have q9 := (show z364.toInt = (y317d.toInt + 1) from hz364); omega) (by have q9 := (show z364.toInt = (y317d.toInt + 1) from hz364); omega) (by have r4 := (show (z364 : Int32).toInt = (y317d.toInt + 1) from hz364); omega) (by have q9 := (show z364.toInt = (y317d.toInt + 1) from hz364); omega) hUu319 hI hH (lv_sub hl [0, 1, 3, 4, 5] rfl)
        · have c328 := cEQ (x := z327) (y := 0) (X := z327.toInt) (Y := 0) rfl (by decide) c328
          refine lv_goto (tgt := 117) hx hb dX10_chanceOf_34 (by decide) ?_
          obtain ⟨z365, ez365⟩ : ∃ z, z = y317d + Int32.ofInt 1 := ⟨_, rfl⟩
          have hz365 : z365.toInt = y317d.toInt + 1 := by rw [ez365]; exact tt_add rfl (by decide) (by omega) (by omega)
          refine lv_iinc (v := z365) (lv' := [(4, .int z365), (3, .int y318d), (0, .ref (A 0)), (1, .int a0), (2, .int a1)]) hx hb dX10_chanceOf_117 hl (k := 0) rfl ez365.symm (by decide) rfl (fun ls hl => ?_)
          refine lv_goto (tgt := 10) hx hb dX10_chanceOf_120 (by decide) ?_
          exact ih10_319 ls z365 y318d u319 _ _ (by have q9 := (show z365.toInt = (y317d.toInt + 1) from hz365); omega) (by have q9 := (show z365.toInt = (y317d.toInt + 1) from hz365); omega) (by have r4 := (show (z365 : Int32).toInt = (y317d.toInt + 1) from hz365); omega) (by have q9 := (show z365.toInt = (y317d.toInt + 1) from hz365); omega) hUu319 hI hH hl
  exact lp10_319 7 ls 0 1 u1 _ _ (by decide) (by decide) (by have q41 := (show (gi u1 41).toInt = 1 from (congrArg Int32.toInt (show gi u1 41 = 1 from (gi_si eu1))).trans (by decide)); have r4 := (show (0 : Int32).toInt = 0 from (by decide)); omega) (by have q9 : (0 : Int32).toInt = 0 := (by decide); omega) Un.rf hI hH hl
set_option maxHeartbeats 4000000 in
set_option maxRecDepth 100000 in
theorem kX10_chance_0 (l : Launch) (D : va_G) (C : Nat → ClassId) (A : Nat → Nat) (u : St) (hI : IM u) (a0 : Int32) (A0 : Int) (ha0 : a0.toInt = A0) (a1 : Int32) (A1 : Int) (ha1 : a1.toInt = A1) (a2 : Int32) (A2 : Int) (ha2 : a2.toInt = A2) (sz : Nat) : MetI l yX10_chance cX10_chance 5 (some .int) 66 [.ref (A 0), .int a0, .int a1, .int a2] D (tyl C) (mw C A) X0 u sz (fun r u' => IM u' ∧ Un [(0, 0), (24, 24), (25, 25), (41, 41)] [(12, 12), (13, 13)] [] u u' ∧ (True)) := by
  refine mI (by decide) (Nat.le_of_ble_eq_true rfl) ?_
  intro p e s m below meth c ls ar Q hx hb hml hown hts hK hH hX hl hret
  have hown : s.vm.findClass RX10 = some m.cls := hown
  have hl : lv_has ls 5 [(0, .ref (A 0)), (1, .int a0), (2, .int a1), (3, .int a2)] := hl
  refine lv_aload_n hx hb dX10_chance_0 rfl (lv_at hl 0 rfl) ?_
  refine lv_iconst (v := 0) hx hb dX10_chance_1 (by decide) ?_
  refine r_put (j := 0) (ci := 10) (C := RX10) (T := TX10) (N := 42) hx hb hts (fun w h => uc_in w (inX10 w h)) tyX10 tyX10_ok nmX10 hown hK hH 0 (mwc0 C A u) rfl 0 (by decide) (hts _ (uc_in _ q_f1188)) (fun _ h9 => h9) rfl (by decide +kernel) (Nat.le_of_ble_eq_true rfl) (mws0 C A u _) dX10_chance_2 (fun u1 eu1 H locs hH => ?_)
  have hI := hI.pi0 eu1 rfl
  refine lv_aload_n hx hb dX10_chance_5 rfl (lv_at hl 0 rfl) ?_
  refine lv_iload_n hx hb dX10_chance_6 rfl (lv_at hl 1 rfl) ?_
  refine lv_i2l (v := a0.toInt64) hx hb dX10_chance_7 rfl ?_
  refine cvS (n := 1) (As := [.long a0.toInt64]) (rest := []) ⟨hx, hb, hml, hown, hts⟩ uc_in (kX10_isDay_0 l D C A u1 hI a0.toInt64 A0 (tt_i2l ha0)) q_m1473 q_n1475 q_p73 q_i11 q_c1476 hvX10_isDay ⟨(Nat.le_of_ble_eq_true rfl), (Nat.le_of_ble_eq_true rfl)⟩ ⟨(Nat.le_of_ble_eq_true rfl), (Nat.le_of_ble_eq_true rfl)⟩ hK hH.1 10 0 rfl (mwc0 C A u1) rfl hl.1 rfl (Nat.le_of_ble_eq_true rfl) dX10_chance_8 (fun r2 p3 => ?_)
  rcases p3 with ⟨e9, f4, f5⟩ | e9
  · subst e9
    have b7 : 0 ≤ ((ga u1 7 0)).toInt ∧ ((ga u1 7 0)).toInt ≤ 7 := hI.has 0
    refine lv_if_eq (tgt := 29) hx hb dX10_chance_11 (by decide) (fun c8 => absurd c8 (by decide)) (fun c8 => ?_)
    refine lv_aload_n hx hb dX10_chance_14 rfl (lv_at hl 0 rfl) ?_
    refine lv_iload_n hx hb dX10_chance_15 rfl (lv_at hl 2 rfl) ?_
    refine cvS (n := 1) (As := [.int a1]) (rest := []) ⟨hx, hb, hml, hown, hts⟩ uc_in (kX10_isLong_0 l D C A u1 hI a1 A1 ha1) q_m1630 q_n1632 q_p90 q_i11 q_c1633 hvX10_isLong ⟨(Nat.le_of_ble_eq_true rfl), (Nat.le_of_ble_eq_true rfl)⟩ ⟨(Nat.le_of_ble_eq_true rfl), (Nat.le_of_ble_eq_true rfl)⟩ hK hH.1 10 0 rfl (mwc0 C A u1) rfl hl.1 rfl (Nat.le_of_ble_eq_true rfl) dX10_chance_16 (fun r9 p10 => ?_)
    have p10 : 0 ≤ r9.toInt ∧ r9.toInt ≤ 1 := p10
    refine lv_if_eq (tgt := 29) hx hb dX10_chance_19 (by decide) (fun c11 => ?_) (fun c11 => ?_)
    · have c11 := cEQ (x := r9) (y := 0) (X := r9.toInt) (Y := 0) rfl (by decide) c11
      refine lv_bipush (v := (-2)) hx hb dX10_chance_29 (by decide) ?_
      exact hret _ _ _ _ ((-2) : Int32) _ dX10_chance_31 rfl ⟨hI, (Un.si Un.rf rfl eu1), trivial⟩ hH
    · have c11 := cNE (x := r9) (y := 0) (X := r9.toInt) (Y := 0) rfl (by decide) c11
      refine lv_iload_n hx hb dX10_chance_22 rfl (lv_at hl 3 rfl) ?_
      refine csS (n := 1) (As := [.int a2]) (rest := []) ⟨hx, hb, hml, hown, hts⟩ uc_in (kX10_isHalf_0 l D C A u1 hI a2 A2 ha2) q_m1664 q_s1665 q_i11 q_c1666 hvX10_isHalf ⟨(Nat.le_of_ble_eq_true rfl), (Nat.le_of_ble_eq_true rfl)⟩ ⟨(Nat.le_of_ble_eq_true rfl), (Nat.le_of_ble_eq_true rfl)⟩ hK hH.1 rfl hl.1 rfl (Nat.le_of_ble_eq_true rfl) dX10_chance_23 (fun r12 p13 => ?_)
      rcases p13 with ⟨e9, f14, f15⟩ | e9
      · subst e9
        refine lv_if_ne (tgt := 32) hx hb dX10_chance_26 (by decide) (fun c16 => ?_) (fun c16 => absurd c16 (by decide))
        refine lv_aload_n hx hb dX10_chance_32 rfl (lv_at hl 0 rfl) ?_
        refine cvU (n := 0) (As := []) (rest := []) ⟨hx, hb, hml, hown, hts⟩ uc_in (kX10_lays_0 l D C A u1 hI  _) q_m1481 q_n1483 q_p75 q_i11 q_c1484 hvX10_lays ⟨(Nat.le_of_ble_eq_true rfl), (Nat.le_of_ble_eq_true rfl)⟩ ⟨(Nat.le_of_ble_eq_true rfl), (Nat.le_of_ble_eq_true rfl)⟩ hK hH (fun q h => Or.inr h) Bl0 (fun _ _ _ => trivial) 10 0 rfl (mwc0 C A u1) rfl hl.1 rfl (Nat.le_of_ble_eq_true rfl) dX10_chance_33 (fun u17 H locs p19 hH => ?_)
        obtain ⟨hI, hUu17, p19⟩ := p19
        refine lv_aload_n hx hb dX10_chance_36 rfl (lv_at hl 0 rfl) ?_
        refine lv_iload_n hx hb dX10_chance_37 rfl (lv_at hl 1 rfl) ?_
        refine lv_iload_n hx hb dX10_chance_38 rfl (lv_at hl 2 rfl) ?_
        refine cvI (n := 2) (As := [.int a0, .int a1]) (rest := []) ⟨hx, hb, hml, hown, hts⟩ uc_in (kX10_chanceOf_0 l D C A u17 hI a0 A0 ha0 a1 A1 ha1 (by omega) (by omega) _) q_m1828 q_n1830 q_p108 q_i11 q_c1831 hvX10_chanceOf ⟨(Nat.le_of_ble_eq_true rfl), (Nat.le_of_ble_eq_true rfl)⟩ ⟨(Nat.le_of_ble_eq_true rfl), (Nat.le_of_ble_eq_true rfl)⟩ hK hH (fun q h => Or.inr h) Bl0 (fun _ _ _ => trivial) 10 0 rfl (mwc0 C A u17) rfl hl.1 rfl (Nat.le_of_ble_eq_true rfl) dX10_chance_39 (fun r21 u20 H locs p22 hH => ?_)
        obtain ⟨hI, hUu20, p22⟩ := p22
        refine lv_istore (lv' := [(4, .int r21), (0, .ref (A 0)), (1, .int a0), (2, .int a1), (3, .int a2)]) hx hb dX10_chance_42 hl (by decide) rfl (fun ls hl => ?_)
        refine lv_iload_n hx hb dX10_chance_44 rfl (lv_at hl 4 rfl) ?_
        have j57_30 : ∀ (ls : Array Slot) (y25d : Int32), lv_has ls 5 [(4, .int r21), (0, .ref (A 0))] → W p l e (rmL 66 0 0) s m ar below meth c H locs 0 0 Q (F0 m 57 ls [.int y25d]) := by
          intro ls y25d hl
          refine lv_iload hx hb dX10_chance_57 (lv_at hl 0 rfl) ?_
          refine lv_aload_n hx hb dX10_chance_59 rfl (lv_at hl 1 rfl) ?_
          refine va_get (ci := 10) (v := .int (gi u20 41)) (C := RX10) (T := TX10) (N := 42) hx hb hts (fun w h => uc_in w (inX10 w h)) hown hK hH.1 0 (mwc0 C A u20) rfl 41 (by decide) (hts _ (uc_in _ q_f1229)) (fun _ h9 => h9) rfl dX10_chance_60 ?_
          have b32 := hI.b41
          refine csS (n := 2) (As := [.int r21, .int (gi u20 41)]) (rest := [.int y25d]) ⟨hx, hb, hml, hown, hts⟩ uc_in (kX10_common_0 l D C A u20 hI r21 r21.toInt rfl (gi u20 41) (((gi u20 41)).toInt) rfl (by omega)) q_m1667 q_s1668 q_i11 q_c1669 hvX10_common ⟨(Nat.le_of_ble_eq_true rfl), (Nat.le_of_ble_eq_true rfl)⟩ ⟨(Nat.le_of_ble_eq_true rfl), (Nat.le_of_ble_eq_true rfl)⟩ hK hH.1 rfl hl.1 rfl (Nat.le_of_ble_eq_true rfl) dX10_chance_63 (fun r33 p34 => ?_)
          have p34 := cNE (x := r33) (y := 0) (X := r33.toInt) (Y := 0) rfl (by decide) p34
          refine lv_idiv hx hb dX10_chance_66 (i_ne rfl (by omega)) ?_
          refine p_any (fun z35 => ?_)
          exact hret _ _ _ _ z35 _ dX10_chance_67 rfl ⟨hI, (Un.tr (Un.tr (Un.si Un.rf rfl eu1) hUu17 rfl rfl rfl) hUu20 rfl rfl rfl), trivial⟩ hH
        refine lv_if_ne (tgt := 53) hx hb dX10_chance_45 (by decide) (fun c23 => ?_) (fun c23 => ?_)
        · have c23 := cNE (x := a2) (y := 0) (X := A2) (Y := 0) ha2 (by decide) c23
          refine lv_aload_n hx hb dX10_chance_53 rfl (lv_at hl 1 rfl) ?_
          refine va_get (ci := 10) (v := .int (gi u20 41)) (C := RX10) (T := TX10) (N := 42) hx hb hts (fun w h => uc_in w (inX10 w h)) hown hK hH.1 0 (mwc0 C A u20) rfl 41 (by decide) (hts _ (uc_in _ q_f1229)) (fun _ h9 => h9) rfl dX10_chance_54 ?_
          have b36 := hI.b41
          exact j57_30 ls (gi u20 41) (lv_sub hl [0, 1] rfl)
        · have c23 := cEQ (x := a2) (y := 0) (X := A2) (Y := 0) ha2 (by decide) c23
          refine lv_iload hx hb dX10_chance_48 (lv_at hl 0 rfl) ?_
          refine lv_goto (tgt := 57) hx hb dX10_chance_50 (by decide) ?_
          exact j57_30 ls r21 (lv_sub hl [0, 1] rfl)
      · subst e9
        refine lv_if_ne (tgt := 32) hx hb dX10_chance_26 (by decide) (fun c37 => absurd c37 (by decide)) (fun c37 => ?_)
        refine lv_bipush (v := (-2)) hx hb dX10_chance_29 (by decide) ?_
        exact hret _ _ _ _ ((-2) : Int32) _ dX10_chance_31 rfl ⟨hI, (Un.si Un.rf rfl eu1), trivial⟩ hH
  · subst e9
    refine lv_if_eq (tgt := 29) hx hb dX10_chance_11 (by decide) (fun c38 => ?_) (fun c38 => absurd c38 (by decide))
    refine lv_bipush (v := (-2)) hx hb dX10_chance_29 (by decide) ?_
    exact hret _ _ _ _ ((-2) : Int32) _ dX10_chance_31 rfl ⟨hI, (Un.si Un.rf rfl eu1), trivial⟩ hH
set_option maxHeartbeats 4000000 in
set_option maxRecDepth 100000 in
theorem kX10_isTogether_0 (l : Launch) (D : va_G) (C : Nat → ClassId) (A : Nat → Nat) (u : St) (hI : IM u) (a0 : Int32) (A0 : Int) (ha0 : a0.toInt = A0) (a1 : Int32) (A1 : Int) (ha1 : a1.toInt = A1) (a2 : Int32) (A2 : Int) (ha2 : a2.toInt = A2) (hl0 : 0 ≤ A0) (hm0 : A0 ≤ 6) (hl1 : 0 ≤ A1) (hm1 : A1 ≤ 5) (hl2 : 0 ≤ A2) (hm2 : A2 ≤ 5) : Met l yX10_isTogether (uc yX10_isTogether cX10_isTogether 4 (some .boolean)) (rmL 1 0 0) (va_Pc [.ref (A 0), .int a0, .int a1, .int a2] (PreR D (tyl C) (mw C A u))) (vp_Si (fun r => 0 ≤ r.toInt ∧ r.toInt ≤ 1)) 0 0 (fun _ => False) := by
  refine mS (by decide) (Nat.le_of_ble_eq_true rfl) ?_
  intro p e s m below meth c ls ar Q hx hb hml hown hts hK hP hl hret
  have hown : s.vm.findClass RX10 = some m.cls := hown
  have hl : lv_has ls 4 [(0, .ref (A 0)), (1, .int a0), (2, .int a1), (3, .int a2)] := hl
  refine lv_aload_n hx hb dX10_isTogether_0 rfl (lv_at hl 0 rfl) ?_
  refine va_get (ci := 10) (v := .ref (A 13)) (C := RX10) (T := TX10) (N := 42) hx hb hts (fun w h => uc_in w (inX10 w h)) hown hK hP 0 (mwc0 C A u) rfl 23 (by decide) (hts _ (uc_in _ q_f1211)) (fun _ h9 => h9) rfl dX10_isTogether_1 ?_
  refine lv_bipush (v := 6) hx hb dX10_isTogether_4 (by decide) ?_
  refine lv_iload_n hx hb dX10_isTogether_6 rfl (lv_at hl 1 rfl) ?_
  refine lv_imul hx hb dX10_isTogether_7 ?_
  refine p_nm (tt_mul (X := 6) (Y := A0) (by decide) ha0 (by omega) (by omega)) (fun z1 hz1 => ?_)
  refine lv_iload_n hx hb dX10_isTogether_8 rfl (lv_at hl 3 rfl) ?_
  refine lv_iadd hx hb dX10_isTogether_9 ?_
  refine p_nm (tt_add (X := (6 * A0)) (Y := A2) hz1 ha2 (by omega) (by omega)) (fun z2 hz2 => ?_)
  refine va_zald hx hb hK hP 13 3 (mwc13 C A u) rfl (i_ix hz2 (by omega) (by omega)) dX10_isTogether_10 ?_
  refine p_any (fun z3 => ?_)
  refine lv_if_eq (tgt := 43) hx hb dX10_isTogether_11 (by decide) (fun c4 => ?_) (fun c4 => ?_)
  · have c4 := cEQ (x := z3) (y := 0) (X := z3.toInt) (Y := 0) rfl (by decide) c4
    refine lv_iconst (v := 0) hx hb dX10_isTogether_43 (by decide) ?_
    exact hret _ _ (0 : Int32) dX10_isTogether_44 rfl ⟨by decide, by decide⟩
  · refine lv_aload_n hx hb dX10_isTogether_14 rfl (lv_at hl 0 rfl) ?_
    refine va_get (ci := 10) (v := .ref (A 12)) (C := RX10) (T := TX10) (N := 42) hx hb hts (fun w h => uc_in w (inX10 w h)) hown hK hP 0 (mwc0 C A u) rfl 22 (by decide) (hts _ (uc_in _ q_f1210)) (fun _ h9 => h9) rfl dX10_isTogether_15 ?_
    refine lv_bipush (v := 6) hx hb dX10_isTogether_18 (by decide) ?_
    refine lv_iload_n hx hb dX10_isTogether_20 rfl (lv_at hl 1 rfl) ?_
    refine lv_imul hx hb dX10_isTogether_21 ?_
    refine p_nm (tt_mul (X := 6) (Y := A0) (by decide) ha0 (by omega) (by omega)) (fun z5 hz5 => ?_)
    refine lv_iload_n hx hb dX10_isTogether_22 rfl (lv_at hl 3 rfl) ?_
    refine lv_iadd hx hb dX10_isTogether_23 ?_
    refine p_nm (tt_add (X := (6 * A0)) (Y := A2) hz5 ha2 (by omega) (by omega)) (fun z6 hz6 => ?_)
    refine va_iald hx hb hK hP 12 1 (mwc12 C A u) rfl (i_ix hz6 (by omega) (by omega)) dX10_isTogether_24 ?_
    refine p_any (fun z7 => ?_)
    refine lv_aload_n hx hb dX10_isTogether_25 rfl (lv_at hl 0 rfl) ?_
    refine va_get (ci := 10) (v := .ref (A 12)) (C := RX10) (T := TX10) (N := 42) hx hb hts (fun w h => uc_in w (inX10 w h)) hown hK hP 0 (mwc0 C A u) rfl 22 (by decide) (hts _ (uc_in _ q_f1210)) (fun _ h9 => h9) rfl dX10_isTogether_26 ?_
    refine lv_bipush (v := 6) hx hb dX10_isTogether_29 (by decide) ?_
    refine lv_iload_n hx hb dX10_isTogether_31 rfl (lv_at hl 1 rfl) ?_
    refine lv_imul hx hb dX10_isTogether_32 ?_
    refine p_nm (tt_mul (X := 6) (Y := A0) (by decide) ha0 (by omega) (by omega)) (fun z8 hz8 => ?_)
    refine lv_iload_n hx hb dX10_isTogether_33 rfl (lv_at hl 2 rfl) ?_
    refine lv_iadd hx hb dX10_isTogether_34 ?_
    refine p_nm (tt_add (X := (6 * A0)) (Y := A1) hz8 ha1 (by omega) (by omega)) (fun z9 hz9 => ?_)
    refine va_iald hx hb hK hP 12 1 (mwc12 C A u) rfl (i_ix hz9 (by omega) (by omega)) dX10_isTogether_35 ?_
    refine p_any (fun z10 => ?_)
    refine lv_icmp_ne (tgt := 43) hx hb dX10_isTogether_36 (by decide) (fun c11 => ?_) (fun c11 => ?_)
    · refine lv_iconst (v := 0) hx hb dX10_isTogether_43 (by decide) ?_
      exact hret _ _ (0 : Int32) dX10_isTogether_44 rfl ⟨by decide, by decide⟩
    · have c11 := cEQ (x := z7) (y := z10) (X := z7.toInt) (Y := z10.toInt) rfl rfl c11
      refine lv_iconst (v := 1) hx hb dX10_isTogether_39 (by decide) ?_
      refine lv_goto (tgt := 44) hx hb dX10_isTogether_40 (by decide) ?_
      exact hret _ _ (1 : Int32) dX10_isTogether_44 rfl ⟨by decide, by decide⟩
set_option maxHeartbeats 4000000 in
set_option maxRecDepth 100000 in
theorem kX10_chorus_0 (l : Launch) (D : va_G) (C : Nat → ClassId) (A : Nat → Nat) (u : St) (hI : IM u) (a0 : Int32) (A0 : Int) (ha0 : a0.toInt = A0) (sz : Nat) : MetI l yX10_chorus cX10_chorus 6 (some .int) 4 [.ref (A 0), .int a0] D (tyl C) (mw C A) X0 u sz (fun r u' => IM u' ∧ Un [(0, 0), (24, 24), (25, 25)] [(12, 12), (13, 13)] [] u u' ∧ (True)) := by
  refine mI (by decide) (Nat.le_of_ble_eq_true rfl) ?_
  intro p e s m below meth c ls ar Q hx hb hml hown hts hK hH hX hl hret
  have hown : s.vm.findClass RX10 = some m.cls := hown
  have hl : lv_has ls 6 [(0, .ref (A 0)), (1, .int a0)] := hl
  refine lv_aload_n hx hb dX10_chorus_0 rfl (lv_at hl 0 rfl) ?_
  refine lv_iconst (v := 0) hx hb dX10_chorus_1 (by decide) ?_
  refine r_put (j := 0) (ci := 10) (C := RX10) (T := TX10) (N := 42) hx hb hts (fun w h => uc_in w (inX10 w h)) tyX10 tyX10_ok nmX10 hown hK hH 0 (mwc0 C A u) rfl 0 (by decide) (hts _ (uc_in _ q_f1188)) (fun _ h9 => h9) rfl (by decide +kernel) (Nat.le_of_ble_eq_true rfl) (mws0 C A u _) dX10_chorus_2 (fun u1 eu1 H locs hH => ?_)
  have hI := hI.pi0 eu1 rfl
  refine lv_aload_n hx hb dX10_chorus_5 rfl (lv_at hl 0 rfl) ?_
  refine lv_iload_n hx hb dX10_chorus_6 rfl (lv_at hl 1 rfl) ?_
  refine lv_i2l (v := a0.toInt64) hx hb dX10_chorus_7 rfl ?_
  refine cvS (n := 1) (As := [.long a0.toInt64]) (rest := []) ⟨hx, hb, hml, hown, hts⟩ uc_in (kX10_isDay_0 l D C A u1 hI a0.toInt64 A0 (tt_i2l ha0)) q_m1473 q_n1475 q_p73 q_i11 q_c1476 hvX10_isDay ⟨(Nat.le_of_ble_eq_true rfl), (Nat.le_of_ble_eq_true rfl)⟩ ⟨(Nat.le_of_ble_eq_true rfl), (Nat.le_of_ble_eq_true rfl)⟩ hK hH.1 10 0 rfl (mwc0 C A u1) rfl hl.1 rfl (Nat.le_of_ble_eq_true rfl) dX10_chorus_8 (fun r2 p3 => ?_)
  rcases p3 with ⟨e9, f4, f5⟩ | e9
  · subst e9
    have b7 : 0 ≤ ((ga u1 7 0)).toInt ∧ ((ga u1 7 0)).toInt ≤ 7 := hI.has 0
    refine lv_if_ne (tgt := 17) hx hb dX10_chorus_11 (by decide) (fun c8 => ?_) (fun c8 => absurd c8 (by decide))
    refine lv_aload_n hx hb dX10_chorus_17 rfl (lv_at hl 0 rfl) ?_
    refine cvU (n := 0) (As := []) (rest := []) ⟨hx, hb, hml, hown, hts⟩ uc_in (kX10_lays_0 l D C A u1 hI  _) q_m1481 q_n1483 q_p75 q_i11 q_c1484 hvX10_lays ⟨(Nat.le_of_ble_eq_true rfl), (Nat.le_of_ble_eq_true rfl)⟩ ⟨(Nat.le_of_ble_eq_true rfl), (Nat.le_of_ble_eq_true rfl)⟩ hK hH (fun q h => Or.inr h) Bl0 (fun _ _ _ => trivial) 10 0 rfl (mwc0 C A u1) rfl hl.1 rfl (Nat.le_of_ble_eq_true rfl) dX10_chorus_18 (fun u9 H locs p11 hH => ?_)
    obtain ⟨hI, hUu9, p11⟩ := p11
    refine lv_iconst (v := 0) hx hb dX10_chorus_21 (by decide) ?_
    refine lv_istore_n (lv' := [(2, .int 0), (0, .ref (A 0)), (1, .int a0)]) hx hb dX10_chorus_22 rfl hl (by decide) rfl (fun ls hl => ?_)
    refine lv_iconst (v := 0) hx hb dX10_chorus_23 (by decide) ?_
    refine lv_istore_n (lv' := [(3, .int 0), (2, .int 0), (0, .ref (A 0)), (1, .int a0)]) hx hb dX10_chorus_24 rfl hl (by decide) rfl (fun ls hl => ?_)
    have lp25_1115 : ∀ (n25 : Nat) (ls : Array Slot) (y1114d : Int32) (y1115d : Int32), 0 ≤ y1114d.toInt → y1114d.toInt ≤ 6 → 0 ≤ y1115d.toInt → 6 - y1114d.toInt < (n25 : Int) → lv_has ls 6 [(3, .int y1114d), (2, .int y1115d), (0, .ref (A 0)), (1, .int a0)] → W p l e (rmL 4 0 0) s m ar below meth c H locs 0 0 Q (F0 m 25 ls []) := by
      intro n25
      induction n25 with
      | zero => intro ls y1114d y1115d ly1114d my1114d ly1115d hmun25 hl; exfalso; omega
      | succ n25 ih25_1115 =>
        intro ls y1114d y1115d ly1114d my1114d ly1115d hmun25 hl
        refine lv_iload_n hx hb dX10_chorus_25 rfl (lv_at hl 0 rfl) ?_
        refine lv_aload_n hx hb dX10_chorus_26 rfl (lv_at hl 2 rfl) ?_
        refine cvS (n := 0) (As := []) (rest := [.int y1114d]) ⟨hx, hb, hml, hown, hts⟩ uc_in (kX10_clocks_0 l D C A u9 hI ) q_m1464 q_n1466 q_p72 q_i11 q_c1467 hvX10_clocks ⟨(Nat.le_of_ble_eq_true rfl), (Nat.le_of_ble_eq_true rfl)⟩ ⟨(Nat.le_of_ble_eq_true rfl), (Nat.le_of_ble_eq_true rfl)⟩ hK hH.1 10 0 rfl (mwc0 C A u9) rfl hl.1 rfl (Nat.le_of_ble_eq_true rfl) dX10_chorus_27 (fun r1117 p1118 => ?_)
        subst p1118
        have b1119 : 0 ≤ ((ga u9 7 3)).toInt ∧ ((ga u9 7 3)).toInt ≤ 6 := hI.has 3
        refine lv_icmp_ge (tgt := 128) hx hb dX10_chorus_30 (by decide) (fun c1120 => ?_) (fun c1120 => ?_)
        · have c1120 := cLE (x := (ga u9 7 3)) (y := y1114d) (X := ((ga u9 7 3)).toInt) (Y := y1114d.toInt) rfl rfl c1120
          refine lv_iload_n hx hb dX10_chorus_128 rfl (lv_at hl 1 rfl) ?_
          exact hret _ _ _ _ y1115d _ dX10_chorus_129 rfl ⟨hI, (Un.tr (Un.si Un.rf rfl eu1) hUu9 rfl rfl rfl), trivial⟩ hH
        · have c1120 := cNLE (x := (ga u9 7 3)) (y := y1114d) (X := ((ga u9 7 3)).toInt) (Y := y1114d.toInt) rfl rfl c1120
          refine lv_aload_n hx hb dX10_chorus_33 rfl (lv_at hl 2 rfl) ?_
          refine va_get (ci := 10) (v := .ref (A 13)) (C := RX10) (T := TX10) (N := 42) hx hb hts (fun w h => uc_in w (inX10 w h)) hown hK hH.1 0 (mwc0 C A u9) rfl 23 (by decide) (hts _ (uc_in _ q_f1211)) (fun _ h9 => h9) rfl dX10_chorus_34 ?_
          refine lv_bipush (v := 6) hx hb dX10_chorus_37 (by decide) ?_
          refine lv_iload_n hx hb dX10_chorus_39 rfl (lv_at hl 3 rfl) ?_
          refine lv_imul hx hb dX10_chorus_40 ?_
          refine p_nm (tt_mul (X := 6) (Y := A0) (by decide) ha0 (by omega) (by omega)) (fun z1121 hz1121 => ?_)
          refine lv_iload_n hx hb dX10_chorus_41 rfl (lv_at hl 0 rfl) ?_
          refine lv_iadd hx hb dX10_chorus_42 ?_
          refine p_nm (tt_add (X := (6 * A0)) (Y := y1114d.toInt) hz1121 rfl (by omega) (by omega)) (fun z1122 hz1122 => ?_)
          refine va_zald hx hb hK hH.1 13 3 (mwc13 C A u9) rfl (i_ix hz1122 (by omega) (by omega)) dX10_chorus_43 ?_
          refine p_any (fun z1123 => ?_)
          have j122_1334 : ∀ (ls : Array Slot) (y1332d : Int32), 0 ≤ y1332d.toInt → lv_has ls 6 [(3, .int y1114d), (2, .int y1332d), (0, .ref (A 0)), (1, .int a0)] → W p l e (rmL 4 0 0) s m ar below meth c H locs 0 0 Q (F0 m 122 ls []) := by
            intro ls y1332d ly1332d hl
            obtain ⟨z1336, ez1336⟩ : ∃ z, z = y1114d + Int32.ofInt 1 := ⟨_, rfl⟩
            have hz1336 : z1336.toInt = y1114d.toInt + 1 := by rw [ez1336]; exact tt_add rfl (by decide) (by omega) (by omega)
            refine lv_iinc (v := z1336) (lv' := [(3, .int z1336), (2, .int y1332d), (0, .ref (A 0)), (1, .int a0)]) hx hb dX10_chorus_122 hl (k := 0) rfl ez1336.symm (by decide) rfl (fun ls hl => ?_)
            refine lv_goto (tgt := 25) hx hb dX10_chorus_125 (by decide) ?_
            exact ih25_1115 ls z1336 y1332d (by have q9 := (show z1336.toInt = (y1114d.toInt + 1) from hz1336); omega) (by have q9 := (show z1336.toInt = (y1114d.toInt + 1) from hz1336); omega) (by omega) (by have q9 := (show z1336.toInt = (y1114d.toInt + 1) from hz1336); omega) hl
          refine lv_if_eq (tgt := 122) hx hb dX10_chorus_44 (by decide) (fun c1124 => ?_) (fun c1124 => ?_)
          · have c1124 := cEQ (x := z1123) (y := 0) (X := z1123.toInt) (Y := 0) rfl (by decide) c1124
            exact j122_1334 ls y1115d (by omega) hl
          · refine lv_aload_n hx hb dX10_chorus_47 rfl (lv_at hl 2 rfl) ?_
            refine va_get (ci := 10) (v := .ref (A 12)) (C := RX10) (T := TX10) (N := 42) hx hb hts (fun w h => uc_in w (inX10 w h)) hown hK hH.1 0 (mwc0 C A u9) rfl 22 (by decide) (hts _ (uc_in _ q_f1210)) (fun _ h9 => h9) rfl dX10_chorus_48 ?_
            refine lv_bipush (v := 6) hx hb dX10_chorus_51 (by decide) ?_
            refine lv_iload_n hx hb dX10_chorus_53 rfl (lv_at hl 3 rfl) ?_
            refine lv_imul hx hb dX10_chorus_54 ?_
            refine p_nm (tt_mul (X := 6) (Y := A0) (by decide) ha0 (by omega) (by omega)) (fun z1337 hz1337 => ?_)
            refine lv_iload_n hx hb dX10_chorus_55 rfl (lv_at hl 0 rfl) ?_
            refine lv_iadd hx hb dX10_chorus_56 ?_
            refine p_nm (tt_add (X := (6 * A0)) (Y := y1114d.toInt) hz1337 rfl (by omega) (by omega)) (fun z1338 hz1338 => ?_)
            refine va_iald hx hb hK hH.1 12 1 (mwc12 C A u9) rfl (i_ix hz1338 (by omega) (by omega)) dX10_chorus_57 ?_
            refine p_any (fun z1339 => ?_)
            refine lv_sipush (v := 10000) hx hb dX10_chorus_58 (by decide) ?_
            refine lv_icmp_ne (tgt := 67) hx hb dX10_chorus_61 (by decide) (fun c1340 => ?_) (fun c1340 => ?_)
            · refine lv_iconst (v := 0) hx hb dX10_chorus_67 (by decide) ?_
              refine lv_istore (lv' := [(4, .int 0), (3, .int y1114d), (2, .int y1115d), (0, .ref (A 0)), (1, .int a0)]) hx hb dX10_chorus_68 hl (by decide) rfl (fun ls hl => ?_)
              refine lv_iconst (v := 0) hx hb dX10_chorus_70 (by decide) ?_
              refine lv_istore (lv' := [(5, .int 0), (4, .int 0), (3, .int y1114d), (2, .int y1115d), (0, .ref (A 0)), (1, .int a0)]) hx hb dX10_chorus_71 hl (by decide) rfl (fun ls hl => ?_)
              have lp73_1532 : ∀ (n73 : Nat) (ls : Array Slot) (y1531d : Int32) (y1532d : Int32), 0 ≤ y1531d.toInt → y1531d.toInt ≤ 6 → 6 - y1531d.toInt < (n73 : Int) → lv_has ls 6 [(5, .int y1531d), (4, .int y1532d), (3, .int y1114d), (2, .int y1115d), (0, .ref (A 0)), (1, .int a0)] → W p l e (rmL 4 0 0) s m ar below meth c H locs 0 0 Q (F0 m 73 ls []) := by
                intro n73
                induction n73 with
                | zero => intro ls y1531d y1532d ly1531d my1531d hmun73 hl; exfalso; omega
                | succ n73 ih73_1532 =>
                  intro ls y1531d y1532d ly1531d my1531d hmun73 hl
                  refine lv_iload hx hb dX10_chorus_73 (lv_at hl 0 rfl) ?_
                  refine lv_aload_n hx hb dX10_chorus_75 rfl (lv_at hl 4 rfl) ?_
                  refine cvS (n := 0) (As := []) (rest := [.int y1531d]) ⟨hx, hb, hml, hown, hts⟩ uc_in (kX10_clocks_0 l D C A u9 hI ) q_m1464 q_n1466 q_p72 q_i11 q_c1467 hvX10_clocks ⟨(Nat.le_of_ble_eq_true rfl), (Nat.le_of_ble_eq_true rfl)⟩ ⟨(Nat.le_of_ble_eq_true rfl), (Nat.le_of_ble_eq_true rfl)⟩ hK hH.1 10 0 rfl (mwc0 C A u9) rfl hl.1 rfl (Nat.le_of_ble_eq_true rfl) dX10_chorus_76 (fun r1534 p1535 => ?_)
                  subst p1535
                  refine lv_icmp_ge (tgt := 109) hx hb dX10_chorus_79 (by decide) (fun c1536 => ?_) (fun c1536 => ?_)
                  · have c1536 := cLE (x := (ga u9 7 3)) (y := y1531d) (X := ((ga u9 7 3)).toInt) (Y := y1531d.toInt) rfl rfl c1536
                    refine lv_iload hx hb dX10_chorus_109 (lv_at hl 1 rfl) ?_
                    refine lv_iload_n hx hb dX10_chorus_111 rfl (lv_at hl 3 rfl) ?_
                    have j121_1539 : ∀ (ls : Array Slot) (y1538d : Int32), 0 ≤ y1538d.toInt → lv_has ls 6 [(3, .int y1114d), (0, .ref (A 0)), (1, .int a0)] → W p l e (rmL 4 0 0) s m ar below meth c H locs 0 0 Q (F0 m 121 ls [.int y1538d]) := by
                      intro ls y1538d ly1538d hl
                      refine lv_istore_n (lv' := [(2, .int y1538d), (3, .int y1114d), (0, .ref (A 0)), (1, .int a0)]) hx hb dX10_chorus_121 rfl hl (by decide) rfl (fun ls hl => ?_)
                      exact j122_1334 ls y1538d (by omega) (lv_sub hl [1, 0, 2, 3] rfl)
                    refine lv_icmp_le (tgt := 120) hx hb dX10_chorus_112 (by decide) (fun c1537 => ?_) (fun c1537 => ?_)
                    · have c1537 := cLE (x := y1532d) (y := y1115d) (X := y1532d.toInt) (Y := y1115d.toInt) rfl rfl c1537
                      refine lv_iload_n hx hb dX10_chorus_120 rfl (lv_at hl 3 rfl) ?_
                      exact j121_1539 ls y1115d (by omega) (lv_sub hl [2, 4, 5] rfl)
                    · have c1537 := cNLE (x := y1532d) (y := y1115d) (X := y1532d.toInt) (Y := y1115d.toInt) rfl rfl c1537
                      refine lv_iload hx hb dX10_chorus_115 (lv_at hl 1 rfl) ?_
                      refine lv_goto (tgt := 121) hx hb dX10_chorus_117 (by decide) ?_
                      exact j121_1539 ls y1532d (by omega) (lv_sub hl [2, 4, 5] rfl)
                  · have c1536 := cNLE (x := (ga u9 7 3)) (y := y1531d) (X := ((ga u9 7 3)).toInt) (Y := y1531d.toInt) rfl rfl c1536
                    refine lv_iload hx hb dX10_chorus_82 (lv_at hl 1 rfl) ?_
                    refine lv_aload_n hx hb dX10_chorus_84 rfl (lv_at hl 4 rfl) ?_
                    refine lv_iload_n hx hb dX10_chorus_85 rfl (lv_at hl 5 rfl) ?_
                    refine lv_iload_n hx hb dX10_chorus_86 rfl (lv_at hl 2 rfl) ?_
                    refine lv_iload hx hb dX10_chorus_87 (lv_at hl 0 rfl) ?_
                    refine cvS (n := 3) (As := [.int a0, .int y1114d, .int y1531d]) (rest := [.int y1532d]) ⟨hx, hb, hml, hown, hts⟩ uc_in (kX10_isTogether_0 l D C A u9 hI a0 A0 ha0 y1114d y1114d.toInt rfl y1531d y1531d.toInt rfl (by omega) (by omega) (by omega) (by omega) (by omega) (by omega)) q_m1610 q_n1612 q_p89 q_i11 q_c1613 hvX10_isTogether ⟨(Nat.le_of_ble_eq_true rfl), (Nat.le_of_ble_eq_true rfl)⟩ ⟨(Nat.le_of_ble_eq_true rfl), (Nat.le_of_ble_eq_true rfl)⟩ hK hH.1 10 0 rfl (mwc0 C A u9) rfl hl.1 rfl (Nat.le_of_ble_eq_true rfl) dX10_chorus_89 (fun r1541 p1542 => ?_)
                    have p1542 : 0 ≤ r1541.toInt ∧ r1541.toInt ≤ 1 := p1542
                    have j100_1547 : ∀ (ls : Array Slot) (y1544d : Int32), 0 ≤ y1544d.toInt → y1544d.toInt ≤ 1 → lv_has ls 6 [(5, .int y1531d), (3, .int y1114d), (2, .int y1115d), (0, .ref (A 0)), (1, .int a0)] → W p l e (rmL 4 0 0) s m ar below meth c H locs 0 0 Q (F0 m 100 ls [.int y1544d, .int y1532d]) := by
                      intro ls y1544d ly1544d my1544d hl
                      refine lv_iadd hx hb dX10_chorus_100 ?_
                      refine p_any (fun z1549 => ?_)
                      refine lv_istore (lv' := [(4, .int z1549), (5, .int y1531d), (3, .int y1114d), (2, .int y1115d), (0, .ref (A 0)), (1, .int a0)]) hx hb dX10_chorus_101 hl (by decide) rfl (fun ls hl => ?_)
                      obtain ⟨z1550, ez1550⟩ : ∃ z, z = y1531d + Int32.ofInt 1 := ⟨_, rfl⟩
                      have hz1550 : z1550.toInt = y1531d.toInt + 1 := by rw [ez1550]; exact tt_add rfl (by decide) (by omega) (by omega)
                      refine lv_iinc (v := z1550) (lv' := [(5, .int z1550), (4, .int z1549), (3, .int y1114d), (2, .int y1115d), (0, .ref (A 0)), (1, .int a0)]) hx hb dX10_chorus_103 hl (k := 1) rfl ez1550.symm (by decide) rfl (fun ls hl => ?_)
                      refine lv_goto (tgt := 73) hx hb dX10_chorus_106 (by decide) ?_
                      exact ih73_1532 ls z1550 z1549 (by have q9 := (show z1550.toInt = (y1531d.toInt + 1) from hz1550); omega) (by have q9 := (show z1550.toInt = (y1531d.toInt + 1) from hz1550); omega) (by have q9 := (show z1550.toInt = (y1531d.toInt + 1) from hz1550); omega) hl
                    refine lv_if_eq (tgt := 99) hx hb dX10_chorus_92 (by decide) (fun c1543 => ?_) (fun c1543 => ?_)
                    · have c1543 := cEQ (x := r1541) (y := 0) (X := r1541.toInt) (Y := 0) rfl (by decide) c1543
                      refine lv_iconst (v := 0) hx hb dX10_chorus_99 (by decide) ?_
                      exact j100_1547 ls 0 (by decide) (by decide) (lv_sub hl [0, 2, 3, 4, 5] rfl)
                    · have c1543 := cNE (x := r1541) (y := 0) (X := r1541.toInt) (Y := 0) rfl (by decide) c1543
                      refine lv_iconst (v := 1) hx hb dX10_chorus_95 (by decide) ?_
                      refine lv_goto (tgt := 100) hx hb dX10_chorus_96 (by decide) ?_
                      exact j100_1547 ls 1 (by decide) (by decide) (lv_sub hl [0, 2, 3, 4, 5] rfl)
              exact lp73_1532 7 ls 0 0 (by decide) (by decide) (by have q9 : (0 : Int32).toInt = 0 := (by decide); omega) hl
            · have c1340 := cEQ (x := z1339) (y := 10000) (X := z1339.toInt) (Y := 10000) rfl (by decide) c1340
              refine lv_goto (tgt := 122) hx hb dX10_chorus_64 (by decide) ?_
              exact j122_1334 ls y1115d (by omega) hl
    exact lp25_1115 7 ls 0 0 (by decide) (by decide) (by decide) (by have q9 : (0 : Int32).toInt = 0 := (by decide); omega) hl
  · subst e9
    refine lv_if_ne (tgt := 17) hx hb dX10_chorus_11 (by decide) (fun c1551 => absurd c1551 (by decide)) (fun c1551 => ?_)
    refine lv_bipush (v := (-2)) hx hb dX10_chorus_14 (by decide) ?_
    exact hret _ _ _ _ ((-2) : Int32) _ dX10_chorus_16 rfl ⟨hI, (Un.si Un.rf rfl eu1), trivial⟩ hH
set_option maxHeartbeats 4000000 in
set_option maxRecDepth 100000 in
theorem kX10_isClock_0 (l : Launch) (D : va_G) (C : Nat → ClassId) (A : Nat → Nat) (u : St) (hI : IM u) (a0 : Int64) (A0 : Int) (ha0 : a0.toInt = A0) : Met l yX10_isClock (uc yX10_isClock cX10_isClock 3 (some .boolean)) (rmL 2 0 0) (va_Pc [.ref (A 0), .long a0] (PreR D (tyl C) (mw C A u))) (vp_Si (fun r => (r = 1 ∧ 0 ≤ A0 ∧ A0 < (ga u 7 3).toInt) ∨ r = 0)) 0 0 (fun _ => False) := by
  refine mS (by decide) (Nat.le_of_ble_eq_true rfl) ?_
  intro p e s m below meth c ls ar Q hx hb hml hown hts hK hP hl hret
  have hown : s.vm.findClass RX10 = some m.cls := hown
  have hl : lv_has ls 3 [(0, .ref (A 0)), (1, .long a0)] := hl
  refine lv_lload_n hx hb dX10_isClock_0 rfl (lv_at hl 1 rfl) ?_
  refine lv_lconst (v := 0) hx hb dX10_isClock_1 (by decide) ?_
  refine lv_aload_n hx hb dX10_isClock_2 rfl (lv_at hl 0 rfl) ?_
  refine cvS (n := 0) (As := []) (rest := [.long 0, .long a0]) ⟨hx, hb, hml, hown, hts⟩ uc_in (kX10_clocks_0 l D C A u hI ) q_m1464 q_n1466 q_p72 q_i11 q_c1467 hvX10_clocks ⟨(Nat.le_of_ble_eq_true rfl), (Nat.le_of_ble_eq_true rfl)⟩ ⟨(Nat.le_of_ble_eq_true rfl), (Nat.le_of_ble_eq_true rfl)⟩ hK hP 10 0 rfl (mwc0 C A u) rfl hl.1 rfl (Nat.le_of_ble_eq_true rfl) dX10_isClock_3 (fun r1 p2 => ?_)
  subst p2
  have b3 : 0 ≤ ((ga u 7 3)).toInt ∧ ((ga u 7 3)).toInt ≤ 6 := hI.has 3
  refine lv_i2l (v := (ga u 7 3).toInt64) hx hb dX10_isClock_6 rfl ?_
  refine lv_lconst (v := 1) hx hb dX10_isClock_7 (by decide) ?_
  refine lv_lsub hx hb dX10_isClock_8 ?_
  refine p_nml (tt_lsub (X := ((ga u 7 3)).toInt) (Y := 1) (tt_i2l rfl) (by decide) (by omega) (by omega)) (fun z4 hz4 => ?_)
  refine csS (n := 3) (As := [.long a0, .long 0, .long z4]) (rest := []) ⟨hx, hb, hml, hown, hts⟩ uc_in (kX10_in_0 l D C A u hI a0 A0 ha0 (0) 0 (by decide) z4 (((ga u 7 3)).toInt - 1) hz4) q_m1324 q_s1325 q_i11 q_c1326 hvX10_in ⟨(Nat.le_of_ble_eq_true rfl), (Nat.le_of_ble_eq_true rfl)⟩ ⟨(Nat.le_of_ble_eq_true rfl), (Nat.le_of_ble_eq_true rfl)⟩ hK hP rfl hl.1 rfl (Nat.le_of_ble_eq_true rfl) dX10_isClock_9 (fun r5 p6 => ?_)
  rcases p6 with ⟨e9, f7, f8⟩ | ⟨e9, fn9⟩
  · subst e9
    exact hret _ _ (1 : Int32) dX10_isClock_12 rfl (Or.inl ⟨rfl, by omega, by omega⟩)
  · subst e9
    exact hret _ _ (0 : Int32) dX10_isClock_12 rfl (Or.inr rfl)
set_option maxHeartbeats 4000000 in
set_option maxRecDepth 100000 in
theorem kX10_clock_0 (l : Launch) (D : va_G) (C : Nat → ClassId) (A : Nat → Nat) (u : St) (hI : IM u) (a0 : Int32) (A0 : Int) (ha0 : a0.toInt = A0) (a1 : Int32) (A1 : Int) (ha1 : a1.toInt = A1) (sz : Nat) : MetI l yX10_clock cX10_clock 3 (some .int) 3 [.ref (A 0), .int a0, .int a1] D (tyl C) (mw C A) X0 u sz (fun r u' => IM u' ∧ Un [(0, 0)] [] [] u u' ∧ (True)) := by
  refine mI (by decide) (Nat.le_of_ble_eq_true rfl) ?_
  intro p e s m below meth c ls ar Q hx hb hml hown hts hK hH hX hl hret
  have hown : s.vm.findClass RX10 = some m.cls := hown
  have hl : lv_has ls 3 [(0, .ref (A 0)), (1, .int a0), (2, .int a1)] := hl
  refine lv_aload_n hx hb dX10_clock_0 rfl (lv_at hl 0 rfl) ?_
  refine lv_iconst (v := 0) hx hb dX10_clock_1 (by decide) ?_
  refine r_put (j := 0) (ci := 10) (C := RX10) (T := TX10) (N := 42) hx hb hts (fun w h => uc_in w (inX10 w h)) tyX10 tyX10_ok nmX10 hown hK hH 0 (mwc0 C A u) rfl 0 (by decide) (hts _ (uc_in _ q_f1188)) (fun _ h9 => h9) rfl (by decide +kernel) (Nat.le_of_ble_eq_true rfl) (mws0 C A u _) dX10_clock_2 (fun u1 eu1 H locs hH => ?_)
  have hI := hI.pi0 eu1 rfl
  refine lv_aload_n hx hb dX10_clock_5 rfl (lv_at hl 0 rfl) ?_
  refine lv_iload_n hx hb dX10_clock_6 rfl (lv_at hl 1 rfl) ?_
  refine lv_i2l (v := a0.toInt64) hx hb dX10_clock_7 rfl ?_
  refine cvS (n := 1) (As := [.long a0.toInt64]) (rest := []) ⟨hx, hb, hml, hown, hts⟩ uc_in (kX10_isClock_0 l D C A u1 hI a0.toInt64 A0 (tt_i2l ha0)) q_m1460 q_n1462 q_p71 q_i11 q_c1463 hvX10_isClock ⟨(Nat.le_of_ble_eq_true rfl), (Nat.le_of_ble_eq_true rfl)⟩ ⟨(Nat.le_of_ble_eq_true rfl), (Nat.le_of_ble_eq_true rfl)⟩ hK hH.1 10 0 rfl (mwc0 C A u1) rfl hl.1 rfl (Nat.le_of_ble_eq_true rfl) dX10_clock_8 (fun r2 p3 => ?_)
  rcases p3 with ⟨e9, f4, f5⟩ | e9
  · subst e9
    have b7 : 0 ≤ ((ga u1 7 3)).toInt ∧ ((ga u1 7 3)).toInt ≤ 6 := hI.has 3
    refine lv_if_eq (tgt := 39) hx hb dX10_clock_11 (by decide) (fun c8 => absurd c8 (by decide)) (fun c8 => ?_)
    refine lv_iload_n hx hb dX10_clock_14 rfl (lv_at hl 2 rfl) ?_
    refine lv_i2l (v := a1.toInt64) hx hb dX10_clock_15 rfl ?_
    refine lv_lconst (v := 0) hx hb dX10_clock_16 (by decide) ?_
    refine lv_ldc2 (v := 4) hx hb hown (hts _ (uc_in _ q_k1468)) dX10_clock_17 ?_
    refine csS (n := 3) (As := [.long a1.toInt64, .long 0, .long 4]) (rest := []) ⟨hx, hb, hml, hown, hts⟩ uc_in (kX10_in_0 l D C A u1 hI a1.toInt64 A1 (tt_i2l ha1) (0) 0 (by decide) (4) 4 (by decide)) q_m1324 q_s1325 q_i11 q_c1326 hvX10_in ⟨(Nat.le_of_ble_eq_true rfl), (Nat.le_of_ble_eq_true rfl)⟩ ⟨(Nat.le_of_ble_eq_true rfl), (Nat.le_of_ble_eq_true rfl)⟩ hK hH.1 rfl hl.1 rfl (Nat.le_of_ble_eq_true rfl) dX10_clock_20 (fun r9 p10 => ?_)
    rcases p10 with ⟨e9, f11, f12⟩ | ⟨e9, fn13⟩
    · subst e9
      refine lv_if_eq (tgt := 39) hx hb dX10_clock_23 (by decide) (fun c14 => absurd c14 (by decide)) (fun c14 => ?_)
      refine lv_aload_n hx hb dX10_clock_26 rfl (lv_at hl 0 rfl) ?_
      refine va_get (ci := 10) (v := .ref (A 8)) (C := RX10) (T := TX10) (N := 42) hx hb hts (fun w h => uc_in w (inX10 w h)) hown hK hH.1 0 (mwc0 C A u1) rfl 18 (by decide) (hts _ (uc_in _ q_f1206)) (fun _ h9 => h9) rfl dX10_clock_27 ?_
      refine lv_iconst (v := 5) hx hb dX10_clock_30 (by decide) ?_
      refine lv_iload_n hx hb dX10_clock_31 rfl (lv_at hl 1 rfl) ?_
      refine lv_imul hx hb dX10_clock_32 ?_
      refine p_nm (tt_mul (X := 5) (Y := A0) (by decide) ha0 (by omega) (by omega)) (fun z15 hz15 => ?_)
      refine lv_iload_n hx hb dX10_clock_33 rfl (lv_at hl 2 rfl) ?_
      refine lv_iadd hx hb dX10_clock_34 ?_
      refine p_nm (tt_add (X := (5 * A0)) (Y := A1) hz15 ha1 (by omega) (by omega)) (fun z16 hz16 => ?_)
      refine va_iald hx hb hK hH.1 8 1 (mwc8 C A u1) rfl (i_ix hz16 (by omega) (by omega)) dX10_clock_35 ?_
      refine p_any (fun z17 => ?_)
      refine lv_goto (tgt := 42) hx hb dX10_clock_36 (by decide) ?_
      exact hret _ _ _ _ z17 _ dX10_clock_42 rfl ⟨hI, (Un.si Un.rf rfl eu1), trivial⟩ hH
    · subst e9
      refine lv_if_eq (tgt := 39) hx hb dX10_clock_23 (by decide) (fun c18 => ?_) (fun c18 => absurd c18 (by decide))
      refine lv_sipush (v := (-1000)) hx hb dX10_clock_39 (by decide) ?_
      exact hret _ _ _ _ ((-1000) : Int32) _ dX10_clock_42 rfl ⟨hI, (Un.si Un.rf rfl eu1), trivial⟩ hH
  · subst e9
    refine lv_if_eq (tgt := 39) hx hb dX10_clock_11 (by decide) (fun c19 => ?_) (fun c19 => absurd c19 (by decide))
    refine lv_sipush (v := (-1000)) hx hb dX10_clock_39 (by decide) ?_
    exact hret _ _ _ _ ((-1000) : Int32) _ dX10_clock_42 rfl ⟨hI, (Un.si Un.rf rfl eu1), trivial⟩ hH
set_option maxHeartbeats 4000000 in
set_option maxRecDepth 100000 in
theorem kX10_costs_0 (l : Launch) (D : va_G) (C : Nat → ClassId) (A : Nat → Nat) (u : St) (hI : IM u) (a0 : Int32) (A0 : Int) (ha0 : a0.toInt = A0) (sz : Nat) : MetI l yX10_costs cX10_costs 2 (some .int) 6 [.ref (A 0), .int a0] D (tyl C) (mw C A) X0 u sz (fun r u' => IM u' ∧ Un [(0, 0), (24, 24), (25, 25)] [(12, 12), (13, 13)] [] u u' ∧ (True)) := by
  refine mI (by decide) (Nat.le_of_ble_eq_true rfl) ?_
  intro p e s m below meth c ls ar Q hx hb hml hown hts hK hH hX hl hret
  have hown : s.vm.findClass RX10 = some m.cls := hown
  have hl : lv_has ls 2 [(0, .ref (A 0)), (1, .int a0)] := hl
  refine lv_aload_n hx hb dX10_costs_0 rfl (lv_at hl 0 rfl) ?_
  refine lv_iconst (v := 0) hx hb dX10_costs_1 (by decide) ?_
  refine r_put (j := 0) (ci := 10) (C := RX10) (T := TX10) (N := 42) hx hb hts (fun w h => uc_in w (inX10 w h)) tyX10 tyX10_ok nmX10 hown hK hH 0 (mwc0 C A u) rfl 0 (by decide) (hts _ (uc_in _ q_f1188)) (fun _ h9 => h9) rfl (by decide +kernel) (Nat.le_of_ble_eq_true rfl) (mws0 C A u _) dX10_costs_2 (fun u1 eu1 H locs hH => ?_)
  have hI := hI.pi0 eu1 rfl
  refine lv_aload_n hx hb dX10_costs_5 rfl (lv_at hl 0 rfl) ?_
  refine lv_iload_n hx hb dX10_costs_6 rfl (lv_at hl 1 rfl) ?_
  refine lv_i2l (v := a0.toInt64) hx hb dX10_costs_7 rfl ?_
  refine cvS (n := 1) (As := [.long a0.toInt64]) (rest := []) ⟨hx, hb, hml, hown, hts⟩ uc_in (kX10_isDay_0 l D C A u1 hI a0.toInt64 A0 (tt_i2l ha0)) q_m1473 q_n1475 q_p73 q_i11 q_c1476 hvX10_isDay ⟨(Nat.le_of_ble_eq_true rfl), (Nat.le_of_ble_eq_true rfl)⟩ ⟨(Nat.le_of_ble_eq_true rfl), (Nat.le_of_ble_eq_true rfl)⟩ hK hH.1 10 0 rfl (mwc0 C A u1) rfl hl.1 rfl (Nat.le_of_ble_eq_true rfl) dX10_costs_8 (fun r2 p3 => ?_)
  rcases p3 with ⟨e9, f4, f5⟩ | e9
  · subst e9
    have b7 : 0 ≤ ((ga u1 7 0)).toInt ∧ ((ga u1 7 0)).toInt ≤ 7 := hI.has 0
    refine lv_if_ne (tgt := 17) hx hb dX10_costs_11 (by decide) (fun c8 => ?_) (fun c8 => absurd c8 (by decide))
    refine lv_aload_n hx hb dX10_costs_17 rfl (lv_at hl 0 rfl) ?_
    refine cvU (n := 0) (As := []) (rest := []) ⟨hx, hb, hml, hown, hts⟩ uc_in (kX10_lays_0 l D C A u1 hI  _) q_m1481 q_n1483 q_p75 q_i11 q_c1484 hvX10_lays ⟨(Nat.le_of_ble_eq_true rfl), (Nat.le_of_ble_eq_true rfl)⟩ ⟨(Nat.le_of_ble_eq_true rfl), (Nat.le_of_ble_eq_true rfl)⟩ hK hH (fun q h => Or.inr h) Bl0 (fun _ _ _ => trivial) 10 0 rfl (mwc0 C A u1) rfl hl.1 rfl (Nat.le_of_ble_eq_true rfl) dX10_costs_18 (fun u9 H locs p11 hH => ?_)
    obtain ⟨hI, hUu9, p11⟩ := p11
    refine lv_aload_n hx hb dX10_costs_21 rfl (lv_at hl 0 rfl) ?_
    refine lv_iload_n hx hb dX10_costs_22 rfl (lv_at hl 1 rfl) ?_
    refine cvS (n := 1) (As := [.int a0]) (rest := []) ⟨hx, hb, hml, hown, hts⟩ uc_in (kX10_waitOf_0 l D C A u9 hI a0 A0 ha0 (by omega) (by omega)) q_m1542 q_n1544 q_p82 q_i11 q_c1545 hvX10_waitOf ⟨(Nat.le_of_ble_eq_true rfl), (Nat.le_of_ble_eq_true rfl)⟩ ⟨(Nat.le_of_ble_eq_true rfl), (Nat.le_of_ble_eq_true rfl)⟩ hK hH.1 10 0 rfl (mwc0 C A u9) rfl hl.1 rfl (Nat.le_of_ble_eq_true rfl) dX10_costs_23 (fun r12 p13 => ?_)
    exact hret _ _ _ _ r12 _ dX10_costs_26 rfl ⟨hI, (Un.tr (Un.si Un.rf rfl eu1) hUu9 rfl rfl rfl), trivial⟩ hH
  · subst e9
    refine lv_if_ne (tgt := 17) hx hb dX10_costs_11 (by decide) (fun c14 => absurd c14 (by decide)) (fun c14 => ?_)
    refine lv_bipush (v := (-2)) hx hb dX10_costs_14 (by decide) ?_
    exact hret _ _ _ _ ((-2) : Int32) _ dX10_costs_16 rfl ⟨hI, (Un.si Un.rf rfl eu1), trivial⟩ hH
set_option maxHeartbeats 4000000 in
set_option maxRecDepth 100000 in
theorem kX10_count_0 (l : Launch) (D : va_G) (C : Nat → ClassId) (A : Nat → Nat) (u : St) (hI : IM u) (a0 : Int32) (A0 : Int) (ha0 : a0.toInt = A0) (sz : Nat) : MetI l yX10_count cX10_count 4 (some .int) 2 [.ref (A 0), .int a0] D (tyl C) (mw C A) X0 u sz (fun r u' => IM u' ∧ Un [(0, 0)] [] [] u u' ∧ (True)) := by
  refine mI (by decide) (Nat.le_of_ble_eq_true rfl) ?_
  intro p e s m below meth c ls ar Q hx hb hml hown hts hK hH hX hl hret
  have hown : s.vm.findClass RX10 = some m.cls := hown
  have hl : lv_has ls 4 [(0, .ref (A 0)), (1, .int a0)] := hl
  refine lv_aload_n hx hb dX10_count_0 rfl (lv_at hl 0 rfl) ?_
  refine lv_iconst (v := 0) hx hb dX10_count_1 (by decide) ?_
  refine r_put (j := 0) (ci := 10) (C := RX10) (T := TX10) (N := 42) hx hb hts (fun w h => uc_in w (inX10 w h)) tyX10 tyX10_ok nmX10 hown hK hH 0 (mwc0 C A u) rfl 0 (by decide) (hts _ (uc_in _ q_f1188)) (fun _ h9 => h9) rfl (by decide +kernel) (Nat.le_of_ble_eq_true rfl) (mws0 C A u _) dX10_count_2 (fun u1 eu1 H locs hH => ?_)
  have hI := hI.pi0 eu1 rfl
  refine lv_iload_n hx hb dX10_count_5 rfl (lv_at hl 1 rfl) ?_
  refine lv_i2l (v := a0.toInt64) hx hb dX10_count_6 rfl ?_
  refine lv_lconst (v := 0) hx hb dX10_count_7 (by decide) ?_
  refine lv_ldc2 (v := 5) hx hb hown (hts _ (uc_in _ q_k1904)) dX10_count_8 ?_
  refine csS (n := 3) (As := [.long a0.toInt64, .long 0, .long 5]) (rest := []) ⟨hx, hb, hml, hown, hts⟩ uc_in (kX10_in_0 l D C A u1 hI a0.toInt64 A0 (tt_i2l ha0) (0) 0 (by decide) (5) 5 (by decide)) q_m1324 q_s1325 q_i11 q_c1326 hvX10_in ⟨(Nat.le_of_ble_eq_true rfl), (Nat.le_of_ble_eq_true rfl)⟩ ⟨(Nat.le_of_ble_eq_true rfl), (Nat.le_of_ble_eq_true rfl)⟩ hK hH.1 rfl hl.1 rfl (Nat.le_of_ble_eq_true rfl) dX10_count_11 (fun r2 p3 => ?_)
  rcases p3 with ⟨e9, f4, f5⟩ | ⟨e9, fn6⟩
  · subst e9
    refine lv_if_eq (tgt := 24) hx hb dX10_count_14 (by decide) (fun c7 => absurd c7 (by decide)) (fun c7 => ?_)
    refine lv_aload_n hx hb dX10_count_17 rfl (lv_at hl 0 rfl) ?_
    refine va_get (ci := 10) (v := .ref (A 7)) (C := RX10) (T := TX10) (N := 42) hx hb hts (fun w h => uc_in w (inX10 w h)) hown hK hH.1 0 (mwc0 C A u1) rfl 17 (by decide) (hts _ (uc_in _ q_f1205)) (fun _ h9 => h9) rfl dX10_count_18 ?_
    refine lv_iload_n hx hb dX10_count_21 rfl (lv_at hl 1 rfl) ?_
    refine va_iald hx hb hK hH.1 7 1 (mwc7 C A u1) rfl (i_ix ha0 (by omega) (by omega)) dX10_count_22 ?_
    refine p_bd (P := fun q => 0 ≤ q ∧ q ≤ hB (Int32.toNatClampNeg a0 % 6)) (hI.has _) (fun z8 bz8 => ?_)
    have bz8 : 0 ≤ z8.toInt ∧ z8.toInt ≤ hB (Int32.toNatClampNeg a0 % 6) := bz8
    exact hret _ _ _ _ z8 _ dX10_count_23 rfl ⟨hI, (Un.si Un.rf rfl eu1), trivial⟩ hH
  · subst e9
    refine lv_if_eq (tgt := 24) hx hb dX10_count_14 (by decide) (fun c9 => ?_) (fun c9 => absurd c9 (by decide))
    refine lv_iconst (v := 0) hx hb dX10_count_24 (by decide) ?_
    refine lv_istore_n (lv' := [(2, .int 0), (0, .ref (A 0)), (1, .int a0)]) hx hb dX10_count_25 rfl hl (by decide) rfl (fun ls hl => ?_)
    refine lv_iload_n hx hb dX10_count_26 rfl (lv_at hl 2 rfl) ?_
    by_cases c10 : 6 ≤ A0 ∧ A0 ≤ 8
    · rcases (show A0 = 6 ∨ A0 = 7 ∨ A0 = 8 by omega) with e9 | e9 | e9
      · have e8 : a0 = 6 := i_lit ha0 (by rw [e9]; decide)
        subst e8
        have q8 : (6 : Int32).toInt = 6 := by decide
        refine lv_tableIn (off := 25) (tgt := 52) hx hb dX10_count_27 (by decide) (by decide) (by decide) (by decide) ?_
        refine lv_aload_n hx hb dX10_count_52 rfl (lv_at hl 1 rfl) ?_
        refine va_get (ci := 10) (v := .ref (A 6)) (C := RX10) (T := TX10) (N := 42) hx hb hts (fun w h => uc_in w (inX10 w h)) hown hK hH.1 0 (mwc0 C A u1) rfl 16 (by decide) (hts _ (uc_in _ q_f1204)) (fun _ h9 => h9) rfl dX10_count_53 ?_
        refine lv_iconst (v := 0) hx hb dX10_count_56 (by decide) ?_
        refine va_iald hx hb hK hH.1 6 1 (mwc6 C A u1) rfl (i_ix (X := 0) (by decide) (by decide) (by decide)) dX10_count_57 ?_
        refine p_any (fun z11 => ?_)
        exact hret _ _ _ _ z11 _ dX10_count_58 rfl ⟨hI, (Un.si Un.rf rfl eu1), trivial⟩ hH
      · have e8 : a0 = 7 := i_lit ha0 (by rw [e9]; decide)
        subst e8
        have q8 : (7 : Int32).toInt = 7 := by decide
        refine lv_tableIn (off := 32) (tgt := 59) hx hb dX10_count_27 (by decide) (by decide) (by decide) (by decide) ?_
        refine lv_aload_n hx hb dX10_count_59 rfl (lv_at hl 1 rfl) ?_
        refine va_get (ci := 10) (v := .int (gi u1 6)) (C := RX10) (T := TX10) (N := 42) hx hb hts (fun w h => uc_in w (inX10 w h)) hown hK hH.1 0 (mwc0 C A u1) rfl 6 (by decide) (hts _ (uc_in _ q_f1194)) (fun _ h9 => h9) rfl dX10_count_60 ?_
        have b12 := hI.b6
        exact hret _ _ _ _ (gi u1 6) _ dX10_count_63 rfl ⟨hI, (Un.si Un.rf rfl eu1), trivial⟩ hH
      · have e8 : a0 = 8 := i_lit ha0 (by rw [e9]; decide)
        subst e8
        have q8 : (8 : Int32).toInt = 8 := by decide
        refine lv_tableIn (off := 37) (tgt := 64) hx hb dX10_count_27 (by decide) (by decide) (by decide) (by decide) ?_
        refine lv_iconst (v := 0) hx hb dX10_count_64 (by decide) ?_
        refine lv_istore_n (lv' := [(3, .int 0), (2, .int 0), (0, .ref (A 0)), (1, .int 8)]) hx hb dX10_count_65 rfl hl (by decide) rfl (fun ls hl => ?_)
        have lp66_151 : ∀ (n66 : Nat) (ls : Array Slot) (y150d : Int32) (y151d : Int32), 0 ≤ y150d.toInt → y150d.toInt ≤ 4 → 4 - y150d.toInt < (n66 : Int) → lv_has ls 4 [(3, .int y150d), (2, .int y151d), (0, .ref (A 0))] → W p l e (rmL 2 0 0) s m ar below meth c H locs 0 0 Q (F0 m 66 ls []) := by
          intro n66
          induction n66 with
          | zero => intro ls y150d y151d ly150d my150d hmun66 hl; exfalso; omega
          | succ n66 ih66_151 =>
            intro ls y150d y151d ly150d my150d hmun66 hl
            refine lv_iload_n hx hb dX10_count_66 rfl (lv_at hl 0 rfl) ?_
            refine lv_iconst (v := 4) hx hb dX10_count_67 (by decide) ?_
            refine lv_icmp_ge (tgt := 95) hx hb dX10_count_68 (by decide) (fun c153 => ?_) (fun c153 => ?_)
            · have c153 := cLE (x := 4) (y := y150d) (X := 4) (Y := y150d.toInt) (by decide) rfl c153
              refine lv_iload_n hx hb dX10_count_95 rfl (lv_at hl 1 rfl) ?_
              exact hret _ _ _ _ y151d _ dX10_count_96 rfl ⟨hI, (Un.si Un.rf rfl eu1), trivial⟩ hH
            · have c153 := cNLE (x := 4) (y := y150d) (X := 4) (Y := y150d.toInt) (by decide) rfl c153
              refine lv_iload_n hx hb dX10_count_71 rfl (lv_at hl 1 rfl) ?_
              refine lv_aload_n hx hb dX10_count_72 rfl (lv_at hl 2 rfl) ?_
              refine va_get (ci := 10) (v := .ref (A 1)) (C := RX10) (T := TX10) (N := 42) hx hb hts (fun w h => uc_in w (inX10 w h)) hown hK hH.1 0 (mwc0 C A u1) rfl 1 (by decide) (hts _ (uc_in _ q_f1189)) (fun _ h9 => h9) rfl dX10_count_73 ?_
              refine lv_iload_n hx hb dX10_count_76 rfl (lv_at hl 0 rfl) ?_
              refine va_iald hx hb hK hH.1 1 1 (mwc1 C A u1) rfl (i_ix rfl (by omega) (by omega)) dX10_count_77 ?_
              have b154 : (-1) ≤ ((ga u1 1 (Int32.toNatClampNeg y150d))).toInt ∧ ((ga u1 1 (Int32.toNatClampNeg y150d))).toInt ≤ 3 := hI.a1 _
              refine lv_iconst (v := (-1)) hx hb dX10_count_78 (by decide) ?_
              have j87_159 : ∀ (ls : Array Slot) (y156d : Int32), 0 ≤ y156d.toInt → y156d.toInt ≤ 1 → lv_has ls 4 [(3, .int y150d), (0, .ref (A 0))] → W p l e (rmL 2 0 0) s m ar below meth c H locs 0 0 Q (F0 m 87 ls [.int y156d, .int y151d]) := by
                intro ls y156d ly156d my156d hl
                refine lv_iadd hx hb dX10_count_87 ?_
                refine p_any (fun z161 => ?_)
                refine lv_istore_n (lv' := [(2, .int z161), (3, .int y150d), (0, .ref (A 0))]) hx hb dX10_count_88 rfl hl (by decide) rfl (fun ls hl => ?_)
                obtain ⟨z162, ez162⟩ : ∃ z, z = y150d + Int32.ofInt 1 := ⟨_, rfl⟩
                have hz162 : z162.toInt = y150d.toInt + 1 := by rw [ez162]; exact tt_add rfl (by decide) (by omega) (by omega)
                refine lv_iinc (v := z162) (lv' := [(3, .int z162), (2, .int z161), (0, .ref (A 0))]) hx hb dX10_count_89 hl (k := 1) rfl ez162.symm (by decide) rfl (fun ls hl => ?_)
                refine lv_goto (tgt := 66) hx hb dX10_count_92 (by decide) ?_
                exact ih66_151 ls z162 z161 (by have q9 := (show z162.toInt = (y150d.toInt + 1) from hz162); omega) (by have q9 := (show z162.toInt = (y150d.toInt + 1) from hz162); omega) (by have q9 := (show z162.toInt = (y150d.toInt + 1) from hz162); omega) hl
              refine lv_icmp_ne (tgt := 86) hx hb dX10_count_79 (by decide) (fun c155 => ?_) (fun c155 => ?_)
              · have c155 := cNE (x := (ga u1 1 (Int32.toNatClampNeg y150d))) (y := (-1)) (X := ((ga u1 1 (Int32.toNatClampNeg y150d))).toInt) (Y := (-1)) rfl (by decide) c155
                refine lv_iconst (v := 1) hx hb dX10_count_86 (by decide) ?_
                exact j87_159 ls 1 (by decide) (by decide) (lv_sub hl [0, 2] rfl)
              · have c155 := cEQ (x := (ga u1 1 (Int32.toNatClampNeg y150d))) (y := (-1)) (X := ((ga u1 1 (Int32.toNatClampNeg y150d))).toInt) (Y := (-1)) rfl (by decide) c155
                refine lv_iconst (v := 0) hx hb dX10_count_82 (by decide) ?_
                refine lv_goto (tgt := 87) hx hb dX10_count_83 (by decide) ?_
                exact j87_159 ls 0 (by decide) (by decide) (lv_sub hl [0, 2] rfl)
        exact lp66_151 5 ls 0 0 (by decide) (by decide) (by have q9 : (0 : Int32).toInt = 0 := (by decide); omega) (lv_sub hl [0, 1, 2] rfl)
    · refine lv_tableOut (tgt := 97) hx hb dX10_count_27 (by have q9 := (show a0.toInt = A0 from ha0); omega) (by decide) ?_
      refine lv_iconst (v := (-1)) hx hb dX10_count_97 (by decide) ?_
      exact hret _ _ _ _ ((-1) : Int32) _ dX10_count_98 rfl ⟨hI, (Un.si Un.rf rfl eu1), trivial⟩ hH
set_option maxHeartbeats 4000000 in
set_option maxRecDepth 100000 in
theorem kX10_counts_0 (l : Launch) (D : va_G) (C : Nat → ClassId) (A : Nat → Nat) (u : St) (hI : IM u) (a0 : Int32) (A0 : Int) (ha0 : a0.toInt = A0) (sz : Nat) : MetI l yX10_counts cX10_counts 2 (some .int) 4 [.ref (A 0), .int a0] D (tyl C) (mw C A) X0 u sz (fun r u' => IM u' ∧ Un [(0, 0), (24, 24), (25, 25)] [(12, 12), (13, 13)] [] u u' ∧ ((-2) ≤ r.toInt ∧ r.toInt ≤ 63)) := by
  refine mI (by decide) (Nat.le_of_ble_eq_true rfl) ?_
  intro p e s m below meth c ls ar Q hx hb hml hown hts hK hH hX hl hret
  have hown : s.vm.findClass RX10 = some m.cls := hown
  have hl : lv_has ls 2 [(0, .ref (A 0)), (1, .int a0)] := hl
  refine lv_aload_n hx hb dX10_counts_0 rfl (lv_at hl 0 rfl) ?_
  refine lv_iconst (v := 0) hx hb dX10_counts_1 (by decide) ?_
  refine r_put (j := 0) (ci := 10) (C := RX10) (T := TX10) (N := 42) hx hb hts (fun w h => uc_in w (inX10 w h)) tyX10 tyX10_ok nmX10 hown hK hH 0 (mwc0 C A u) rfl 0 (by decide) (hts _ (uc_in _ q_f1188)) (fun _ h9 => h9) rfl (by decide +kernel) (Nat.le_of_ble_eq_true rfl) (mws0 C A u _) dX10_counts_2 (fun u1 eu1 H locs hH => ?_)
  have hI := hI.pi0 eu1 rfl
  refine lv_aload_n hx hb dX10_counts_5 rfl (lv_at hl 0 rfl) ?_
  refine lv_iload_n hx hb dX10_counts_6 rfl (lv_at hl 1 rfl) ?_
  refine lv_i2l (v := a0.toInt64) hx hb dX10_counts_7 rfl ?_
  refine cvS (n := 1) (As := [.long a0.toInt64]) (rest := []) ⟨hx, hb, hml, hown, hts⟩ uc_in (kX10_isDay_0 l D C A u1 hI a0.toInt64 A0 (tt_i2l ha0)) q_m1473 q_n1475 q_p73 q_i11 q_c1476 hvX10_isDay ⟨(Nat.le_of_ble_eq_true rfl), (Nat.le_of_ble_eq_true rfl)⟩ ⟨(Nat.le_of_ble_eq_true rfl), (Nat.le_of_ble_eq_true rfl)⟩ hK hH.1 10 0 rfl (mwc0 C A u1) rfl hl.1 rfl (Nat.le_of_ble_eq_true rfl) dX10_counts_8 (fun r2 p3 => ?_)
  rcases p3 with ⟨e9, f4, f5⟩ | e9
  · subst e9
    have b7 : 0 ≤ ((ga u1 7 0)).toInt ∧ ((ga u1 7 0)).toInt ≤ 7 := hI.has 0
    refine lv_if_ne (tgt := 17) hx hb dX10_counts_11 (by decide) (fun c8 => ?_) (fun c8 => absurd c8 (by decide))
    refine lv_aload_n hx hb dX10_counts_17 rfl (lv_at hl 0 rfl) ?_
    refine cvU (n := 0) (As := []) (rest := []) ⟨hx, hb, hml, hown, hts⟩ uc_in (kX10_lays_0 l D C A u1 hI  _) q_m1481 q_n1483 q_p75 q_i11 q_c1484 hvX10_lays ⟨(Nat.le_of_ble_eq_true rfl), (Nat.le_of_ble_eq_true rfl)⟩ ⟨(Nat.le_of_ble_eq_true rfl), (Nat.le_of_ble_eq_true rfl)⟩ hK hH (fun q h => Or.inr h) Bl0 (fun _ _ _ => trivial) 10 0 rfl (mwc0 C A u1) rfl hl.1 rfl (Nat.le_of_ble_eq_true rfl) dX10_counts_18 (fun u9 H locs p11 hH => ?_)
    obtain ⟨hI, hUu9, p11⟩ := p11
    refine lv_aload_n hx hb dX10_counts_21 rfl (lv_at hl 0 rfl) ?_
    refine lv_iload_n hx hb dX10_counts_22 rfl (lv_at hl 1 rfl) ?_
    refine cvS (n := 1) (As := [.int a0]) (rest := []) ⟨hx, hb, hml, hown, hts⟩ uc_in (kX10_countsOf_0 l D C A u9 hI a0 A0 ha0 (by omega) (by omega)) q_m1500 q_n1502 q_p78 q_i11 q_c1503 hvX10_countsOf ⟨(Nat.le_of_ble_eq_true rfl), (Nat.le_of_ble_eq_true rfl)⟩ ⟨(Nat.le_of_ble_eq_true rfl), (Nat.le_of_ble_eq_true rfl)⟩ hK hH.1 10 0 rfl (mwc0 C A u9) rfl hl.1 rfl (Nat.le_of_ble_eq_true rfl) dX10_counts_23 (fun r12 p13 => ?_)
    have g14 : (ga u9 7 3).toInt ≤ 6 := (hI.has 3).2
    have br12 : 0 ≤ r12.toInt ∧ r12.toInt ≤ 63 := ⟨p13.1, p13.2.1⟩
    exact hret _ _ _ _ r12 _ dX10_counts_26 rfl ⟨hI, (Un.tr (Un.si Un.rf rfl eu1) hUu9 rfl rfl rfl), ⟨by omega, by omega⟩⟩ hH
  · subst e9
    refine lv_if_ne (tgt := 17) hx hb dX10_counts_11 (by decide) (fun c15 => absurd c15 (by decide)) (fun c15 => ?_)
    refine lv_bipush (v := (-2)) hx hb dX10_counts_14 (by decide) ?_
    exact hret _ _ _ _ ((-2) : Int32) _ dX10_counts_16 rfl ⟨hI, (Un.si Un.rf rfl eu1), ⟨by decide, by decide⟩⟩ hH
set_option maxHeartbeats 4000000 in
set_option maxRecDepth 100000 in
theorem kX10_reignOf_0 (l : Launch) (D : va_G) (C : Nat → ClassId) (A : Nat → Nat) (u : St) (hI : IM u) (a0 : Int32) (A0 : Int) (ha0 : a0.toInt = A0) : Met l yX10_reignOf (uc yX10_reignOf cX10_reignOf 4 (some .int)) (rmL 3 0 0) (va_Pc [.ref (A 0), .int a0] (PreR D (tyl C) (mw C A u))) (vp_Si (fun r => True)) 0 0 (fun _ => False) := by
  refine mS (by decide) (Nat.le_of_ble_eq_true rfl) ?_
  intro p e s m below meth c ls ar Q hx hb hml hown hts hK hP hl hret
  have hown : s.vm.findClass RX10 = some m.cls := hown
  have hl : lv_has ls 4 [(0, .ref (A 0)), (1, .int a0)] := hl
  refine lv_iconst (v := 0) hx hb dX10_reignOf_0 (by decide) ?_
  refine lv_istore_n (lv' := [(2, .int 0), (0, .ref (A 0)), (1, .int a0)]) hx hb dX10_reignOf_1 rfl hl (by decide) rfl (fun ls hl => ?_)
  refine lv_iconst (v := 0) hx hb dX10_reignOf_2 (by decide) ?_
  refine lv_istore_n (lv' := [(3, .int 0), (2, .int 0), (0, .ref (A 0)), (1, .int a0)]) hx hb dX10_reignOf_3 rfl hl (by decide) rfl (fun ls hl => ?_)
  have lp4_155 : ∀ (n4 : Nat) (ls : Array Slot) (y154d : Int32) (y155d : Int32), 0 ≤ y154d.toInt → y154d.toInt ≤ 7 → 7 - y154d.toInt < (n4 : Int) → lv_has ls 4 [(3, .int y154d), (2, .int y155d), (0, .ref (A 0)), (1, .int a0)] → W p l e (rmL 3 0 0) s m ar below meth c s.heap [] 0 0 Q (F0 m 4 ls []) := by
    intro n4
    induction n4 with
    | zero => intro ls y154d y155d ly154d my154d hmun4 hl; exfalso; omega
    | succ n4 ih4_155 =>
      intro ls y154d y155d ly154d my154d hmun4 hl
      refine lv_iload_n hx hb dX10_reignOf_4 rfl (lv_at hl 0 rfl) ?_
      refine lv_aload_n hx hb dX10_reignOf_5 rfl (lv_at hl 2 rfl) ?_
      refine cvS (n := 0) (As := []) (rest := [.int y154d]) ⟨hx, hb, hml, hown, hts⟩ uc_in (kX10_days_0 l D C A u hI ) q_m1477 q_n1479 q_p74 q_i11 q_c1480 hvX10_days ⟨(Nat.le_of_ble_eq_true rfl), (Nat.le_of_ble_eq_true rfl)⟩ ⟨(Nat.le_of_ble_eq_true rfl), (Nat.le_of_ble_eq_true rfl)⟩ hK hP 10 0 rfl (mwc0 C A u) rfl hl.1 rfl (Nat.le_of_ble_eq_true rfl) dX10_reignOf_6 (fun r157 p158 => ?_)
      subst p158
      have b159 : 0 ≤ ((ga u 7 0)).toInt ∧ ((ga u 7 0)).toInt ≤ 7 := hI.has 0
      refine lv_icmp_ge (tgt := 42) hx hb dX10_reignOf_9 (by decide) (fun c160 => ?_) (fun c160 => ?_)
      · have c160 := cLE (x := (ga u 7 0)) (y := y154d) (X := ((ga u 7 0)).toInt) (Y := y154d.toInt) rfl rfl c160
        refine lv_iload_n hx hb dX10_reignOf_42 rfl (lv_at hl 1 rfl) ?_
        exact hret _ _ y155d dX10_reignOf_43 rfl trivial
      · have c160 := cNLE (x := (ga u 7 0)) (y := y154d) (X := ((ga u 7 0)).toInt) (Y := y154d.toInt) rfl rfl c160
        refine lv_iload_n hx hb dX10_reignOf_12 rfl (lv_at hl 1 rfl) ?_
        refine lv_aload_n hx hb dX10_reignOf_13 rfl (lv_at hl 2 rfl) ?_
        refine lv_iload_n hx hb dX10_reignOf_14 rfl (lv_at hl 0 rfl) ?_
        refine lv_aload_n hx hb dX10_reignOf_15 rfl (lv_at hl 2 rfl) ?_
        refine lv_iload_n hx hb dX10_reignOf_16 rfl (lv_at hl 0 rfl) ?_
        refine cvS (n := 1) (As := [.int y154d]) (rest := [.int y154d, .ref (A 0), .int y155d]) ⟨hx, hb, hml, hown, hts⟩ uc_in (kX10_countsOf_0 l D C A u hI y154d y154d.toInt rfl (by omega) (by omega)) q_m1500 q_n1502 q_p78 q_i11 q_c1503 hvX10_countsOf ⟨(Nat.le_of_ble_eq_true rfl), (Nat.le_of_ble_eq_true rfl)⟩ ⟨(Nat.le_of_ble_eq_true rfl), (Nat.le_of_ble_eq_true rfl)⟩ hK hP 10 0 rfl (mwc0 C A u) rfl hl.1 rfl (Nat.le_of_ble_eq_true rfl) dX10_reignOf_17 (fun r161 p162 => ?_)
        have g163 : (ga u 7 3).toInt ≤ 6 := (hI.has 3).2
        have br161 : 0 ≤ r161.toInt ∧ r161.toInt ≤ 63 := ⟨p162.1, p162.2.1⟩
        refine cvS (n := 2) (As := [.int y154d, .int r161]) (rest := [.int y155d]) ⟨hx, hb, hml, hown, hts⟩ uc_in (kX10_lastOf_0 l D C A u hI y154d y154d.toInt rfl r161 r161.toInt rfl (by omega) (by omega)) q_m1508 q_n1510 q_p80 q_i11 q_c1511 hvX10_lastOf ⟨(Nat.le_of_ble_eq_true rfl), (Nat.le_of_ble_eq_true rfl)⟩ ⟨(Nat.le_of_ble_eq_true rfl), (Nat.le_of_ble_eq_true rfl)⟩ hK hP 10 0 rfl (mwc0 C A u) rfl hl.1 rfl (Nat.le_of_ble_eq_true rfl) dX10_reignOf_20 (fun r164 p165 => ?_)
        have br164 : -1 ≤ r164.toInt ∧ r164.toInt ≤ 5 := ⟨p165.1, p165.2.1⟩
        refine lv_iload_n hx hb dX10_reignOf_23 rfl (lv_at hl 3 rfl) ?_
        have j34_172 : ∀ (ls : Array Slot) (y169d : Int32), 0 ≤ y169d.toInt → y169d.toInt ≤ 64 → lv_has ls 4 [(3, .int y154d), (0, .ref (A 0)), (1, .int a0)] → W p l e (rmL 3 0 0) s m ar below meth c s.heap [] 0 0 Q (F0 m 34 ls [.int y169d, .int y155d]) := by
          intro ls y169d ly169d my169d hl
          refine lv_ior hx hb dX10_reignOf_34 ?_
          refine p_any (fun z174 => ?_)
          refine lv_istore_n (lv' := [(2, .int z174), (3, .int y154d), (0, .ref (A 0)), (1, .int a0)]) hx hb dX10_reignOf_35 rfl hl (by decide) rfl (fun ls hl => ?_)
          obtain ⟨z175, ez175⟩ : ∃ z, z = y154d + Int32.ofInt 1 := ⟨_, rfl⟩
          have hz175 : z175.toInt = y154d.toInt + 1 := by rw [ez175]; exact tt_add rfl (by decide) (by omega) (by omega)
          refine lv_iinc (v := z175) (lv' := [(3, .int z175), (2, .int z174), (0, .ref (A 0)), (1, .int a0)]) hx hb dX10_reignOf_36 hl (k := 1) rfl ez175.symm (by decide) rfl (fun ls hl => ?_)
          refine lv_goto (tgt := 4) hx hb dX10_reignOf_39 (by decide) ?_
          exact ih4_155 ls z175 z174 (by have q9 := (show z175.toInt = (y154d.toInt + 1) from hz175); omega) (by have q9 := (show z175.toInt = (y154d.toInt + 1) from hz175); omega) (by have q9 := (show z175.toInt = (y154d.toInt + 1) from hz175); omega) hl
        refine lv_icmp_ne (tgt := 33) hx hb dX10_reignOf_24 (by decide) (fun c166 => ?_) (fun c166 => ?_)
        · refine lv_iconst (v := 0) hx hb dX10_reignOf_33 (by decide) ?_
          exact j34_172 ls 0 (by decide) (by decide) (lv_sub hl [0, 2, 3] rfl)
        · have c166 := cEQ (x := r164) (y := a0) (X := r164.toInt) (Y := A0) rfl ha0 c166
          refine lv_iconst (v := 1) hx hb dX10_reignOf_27 (by decide) ?_
          refine lv_iload_n hx hb dX10_reignOf_28 rfl (lv_at hl 0 rfl) ?_
          refine lv_ishl hx hb dX10_reignOf_29 ?_
          have gz176 := tt_shl1 (y := y154d) (Y := y154d.toInt) rfl (by omega) (by omega)
          refine p_bd (P := fun q => 1 ≤ q ∧ q ≤ 64) ⟨by omega, by omega⟩ (fun z177 bz177 => ?_)
          have bz177 : 1 ≤ z177.toInt ∧ z177.toInt ≤ 64 := bz177
          refine lv_goto (tgt := 34) hx hb dX10_reignOf_30 (by decide) ?_
          exact j34_172 ls z177 (by omega) (by omega) (lv_sub hl [0, 2, 3] rfl)
  exact lp4_155 8 ls 0 0 (by decide) (by decide) (by have q9 : (0 : Int32).toInt = 0 := (by decide); omega) hl
set_option maxHeartbeats 4000000 in
set_option maxRecDepth 100000 in
theorem kX10_rentsOf_0 (l : Launch) (D : va_G) (C : Nat → ClassId) (A : Nat → Nat) (u : St) (hI : IM u) (a0 : Int32) (A0 : Int) (ha0 : a0.toInt = A0) (hl0 : 0 ≤ A0) (hm0 : A0 ≤ 5) : Met l yX10_rentsOf (uc yX10_rentsOf cX10_rentsOf 2 (some .int)) (rmL 4 0 0) (va_Pc [.ref (A 0), .int a0] (PreR D (tyl C) (mw C A u))) (vp_Si (fun r => True)) 0 0 (fun _ => False) := by
  refine mS (by decide) (Nat.le_of_ble_eq_true rfl) ?_
  intro p e s m below meth c ls ar Q hx hb hml hown hts hK hP hl hret
  have hown : s.vm.findClass RX10 = some m.cls := hown
  have hl : lv_has ls 2 [(0, .ref (A 0)), (1, .int a0)] := hl
  refine lv_aload_n hx hb dX10_rentsOf_0 rfl (lv_at hl 0 rfl) ?_
  refine va_get (ci := 10) (v := .ref (A 8)) (C := RX10) (T := TX10) (N := 42) hx hb hts (fun w h => uc_in w (inX10 w h)) hown hK hP 0 (mwc0 C A u) rfl 18 (by decide) (hts _ (uc_in _ q_f1206)) (fun _ h9 => h9) rfl dX10_rentsOf_1 ?_
  refine lv_iconst (v := 5) hx hb dX10_rentsOf_4 (by decide) ?_
  refine lv_iload_n hx hb dX10_rentsOf_5 rfl (lv_at hl 1 rfl) ?_
  refine lv_imul hx hb dX10_rentsOf_6 ?_
  refine p_nm (tt_mul (X := 5) (Y := A0) (by decide) ha0 (by omega) (by omega)) (fun z1 hz1 => ?_)
  refine lv_iconst (v := 3) hx hb dX10_rentsOf_7 (by decide) ?_
  refine lv_iadd hx hb dX10_rentsOf_8 ?_
  refine p_nm (tt_add (X := (5 * A0)) (Y := 3) hz1 (by decide) (by omega) (by omega)) (fun z2 hz2 => ?_)
  refine va_iald hx hb hK hP 8 1 (mwc8 C A u) rfl (i_ix hz2 (by omega) (by omega)) dX10_rentsOf_9 ?_
  refine p_any (fun z3 => ?_)
  refine lv_aload_n hx hb dX10_rentsOf_10 rfl (lv_at hl 0 rfl) ?_
  refine lv_iload_n hx hb dX10_rentsOf_11 rfl (lv_at hl 1 rfl) ?_
  refine cvS (n := 1) (As := [.int a0]) (rest := [.int z3]) ⟨hx, hb, hml, hown, hts⟩ uc_in (kX10_reignOf_0 l D C A u hI a0 A0 ha0) q_m1570 q_n1572 q_p86 q_i11 q_c1573 hvX10_reignOf ⟨(Nat.le_of_ble_eq_true rfl), (Nat.le_of_ble_eq_true rfl)⟩ ⟨(Nat.le_of_ble_eq_true rfl), (Nat.le_of_ble_eq_true rfl)⟩ hK hP 10 0 rfl (mwc0 C A u) rfl hl.1 rfl (Nat.le_of_ble_eq_true rfl) dX10_rentsOf_12 (fun r4 p5 => ?_)
  refine csS (n := 1) (As := [.int r4]) (rest := [.int z3]) ⟨hx, hb, hml, hown, hts⟩ uc_in (kX10_sizeOf_0 l D C A u hI r4 r4.toInt rfl) q_m1582 q_s1583 q_i11 q_c1584 hvX10_sizeOf ⟨(Nat.le_of_ble_eq_true rfl), (Nat.le_of_ble_eq_true rfl)⟩ ⟨(Nat.le_of_ble_eq_true rfl), (Nat.le_of_ble_eq_true rfl)⟩ hK hP rfl hl.1 rfl (Nat.le_of_ble_eq_true rfl) dX10_rentsOf_15 (fun r6 p7 => ?_)
  refine lv_imul hx hb dX10_rentsOf_18 ?_
  refine p_any (fun z8 => ?_)
  exact hret _ _ z8 dX10_rentsOf_19 rfl trivial
set_option maxHeartbeats 4000000 in
set_option maxRecDepth 100000 in
theorem kX10_deals_0 (l : Launch) (D : va_G) (C : Nat → ClassId) (A : Nat → Nat) (u : St) (hI : IM u) (sz : Nat) : MetI l yX10_deals cX10_deals 5 (some .int) 8 [.ref (A 0)] D (tyl C) (mw C A) X0 u sz (fun r u' => IM u' ∧ Un [(0, 0), (24, 24), (25, 25)] [(12, 12), (13, 13)] [] u u' ∧ ((-2) ≤ r.toInt ∧ r.toInt ≤ 63)) := by
  refine mI (by decide) (Nat.le_of_ble_eq_true rfl) ?_
  intro p e s m below meth c ls ar Q hx hb hml hown hts hK hH hX hl hret
  have hown : s.vm.findClass RX10 = some m.cls := hown
  have hl : lv_has ls 5 [(0, .ref (A 0))] := hl
  refine lv_aload_n hx hb dX10_deals_0 rfl (lv_at hl 0 rfl) ?_
  refine lv_iconst (v := 0) hx hb dX10_deals_1 (by decide) ?_
  refine r_put (j := 0) (ci := 10) (C := RX10) (T := TX10) (N := 42) hx hb hts (fun w h => uc_in w (inX10 w h)) tyX10 tyX10_ok nmX10 hown hK hH 0 (mwc0 C A u) rfl 0 (by decide) (hts _ (uc_in _ q_f1188)) (fun _ h9 => h9) rfl (by decide +kernel) (Nat.le_of_ble_eq_true rfl) (mws0 C A u _) dX10_deals_2 (fun u1 eu1 H locs hH => ?_)
  have hI := hI.pi0 eu1 rfl
  refine lv_aload_n hx hb dX10_deals_5 rfl (lv_at hl 0 rfl) ?_
  refine cvS (n := 0) (As := []) (rest := []) ⟨hx, hb, hml, hown, hts⟩ uc_in (kX10_isTown_0 l D C A u1 hI ) q_m1554 q_n1556 q_p84 q_i11 q_c1557 hvX10_isTown ⟨(Nat.le_of_ble_eq_true rfl), (Nat.le_of_ble_eq_true rfl)⟩ ⟨(Nat.le_of_ble_eq_true rfl), (Nat.le_of_ble_eq_true rfl)⟩ hK hH.1 10 0 rfl (mwc0 C A u1) rfl hl.1 rfl (Nat.le_of_ble_eq_true rfl) dX10_deals_6 (fun r2 p3 => ?_)
  have p3 : 0 ≤ r2.toInt ∧ r2.toInt ≤ 1 := p3
  refine lv_if_ne (tgt := 15) hx hb dX10_deals_9 (by decide) (fun c4 => ?_) (fun c4 => ?_)
  · have c4 := cNE (x := r2) (y := 0) (X := r2.toInt) (Y := 0) rfl (by decide) c4
    refine lv_iconst (v := 0) hx hb dX10_deals_15 (by decide) ?_
    refine lv_istore_n (lv' := [(1, .int 0), (0, .ref (A 0))]) hx hb dX10_deals_16 rfl hl (by decide) rfl (fun ls hl => ?_)
    refine lv_iconst (v := 0) hx hb dX10_deals_17 (by decide) ?_
    refine lv_istore_n (lv' := [(2, .int 0), (1, .int 0), (0, .ref (A 0))]) hx hb dX10_deals_18 rfl hl (by decide) rfl (fun ls hl => ?_)
    have lp19_164 : ∀ (n19 : Nat) (ls : Array Slot) (y162d : Int32) (y163d : Int32) (u164 : St) (H : Heap) (locs : List Loc), 0 ≤ y162d.toInt → y162d.toInt ≤ 6 → 0 ≤ y163d.toInt → y163d.toInt ≤ 63 → 6 - y162d.toInt < (n19 : Int) → Un [(24, 24), (25, 25)] [(12, 12), (13, 13)] [] u1 u164 → IM u164 → Hd D (mw C A) (va_A (mw C A u) s.heap.size) s.heap u164 H locs → lv_has ls 5 [(2, .int y162d), (1, .int y163d), (0, .ref (A 0))] → W p l e (rmL 8 0 0) s m ar below meth c H locs 0 0 Q (F0 m 19 ls []) := by
      intro n19
      induction n19 with
      | zero => intro ls y162d y163d u164 H locs ly162d my162d ly163d my163d hmun19 hUu164 hI hH hl; exfalso; omega
      | succ n19 ih19_164 =>
        intro ls y162d y163d u164 H locs ly162d my162d ly163d my163d hmun19 hUu164 hI hH hl
        refine lv_iload_n hx hb dX10_deals_19 rfl (lv_at hl 0 rfl) ?_
        refine lv_aload_n hx hb dX10_deals_20 rfl (lv_at hl 2 rfl) ?_
        refine cvS (n := 0) (As := []) (rest := [.int y162d]) ⟨hx, hb, hml, hown, hts⟩ uc_in (kX10_clocks_0 l D C A u164 hI ) q_m1464 q_n1466 q_p72 q_i11 q_c1467 hvX10_clocks ⟨(Nat.le_of_ble_eq_true rfl), (Nat.le_of_ble_eq_true rfl)⟩ ⟨(Nat.le_of_ble_eq_true rfl), (Nat.le_of_ble_eq_true rfl)⟩ hK hH.1 10 0 rfl (mwc0 C A u164) rfl hl.1 rfl (Nat.le_of_ble_eq_true rfl) dX10_deals_21 (fun r166 p167 => ?_)
        subst p167
        have b168 : 0 ≤ ((ga u164 7 3)).toInt ∧ ((ga u164 7 3)).toInt ≤ 6 := hI.has 3
        refine lv_icmp_ge (tgt := 73) hx hb dX10_deals_24 (by decide) (fun c169 => ?_) (fun c169 => ?_)
        · have c169 := cLE (x := (ga u164 7 3)) (y := y162d) (X := ((ga u164 7 3)).toInt) (Y := y162d.toInt) rfl rfl c169
          refine lv_iload_n hx hb dX10_deals_73 rfl (lv_at hl 1 rfl) ?_
          exact hret _ _ _ _ y163d _ dX10_deals_74 rfl ⟨hI, (Un.tr (Un.si Un.rf rfl eu1) hUu164 rfl rfl rfl), ⟨by omega, by omega⟩⟩ hH
        · have c169 := cNLE (x := (ga u164 7 3)) (y := y162d) (X := ((ga u164 7 3)).toInt) (Y := y162d.toInt) rfl rfl c169
          refine lv_aload_n hx hb dX10_deals_27 rfl (lv_at hl 2 rfl) ?_
          refine cvU (n := 0) (As := []) (rest := []) ⟨hx, hb, hml, hown, hts⟩ uc_in (kX10_lays_0 l D C A u164 hI  _) q_m1481 q_n1483 q_p75 q_i11 q_c1484 hvX10_lays ⟨(Nat.le_of_ble_eq_true rfl), (Nat.le_of_ble_eq_true rfl)⟩ ⟨(Nat.le_of_ble_eq_true rfl), (Nat.le_of_ble_eq_true rfl)⟩ hK hH (fun q h => Or.inr h) Bl0 (fun _ _ _ => trivial) 10 0 rfl (mwc0 C A u164) rfl hl.1 rfl (Nat.le_of_ble_eq_true rfl) dX10_deals_28 (fun u170 H locs p172 hH => ?_)
          obtain ⟨hI, hUu170, p172⟩ := p172
          refine lv_aload_n hx hb dX10_deals_31 rfl (lv_at hl 2 rfl) ?_
          refine cvS (n := 0) (As := []) (rest := []) ⟨hx, hb, hml, hown, hts⟩ uc_in (kX10_waitAll_0 l D C A u170 hI ) q_m1558 q_n1560 q_p85 q_i11 q_c1561 hvX10_waitAll ⟨(Nat.le_of_ble_eq_true rfl), (Nat.le_of_ble_eq_true rfl)⟩ ⟨(Nat.le_of_ble_eq_true rfl), (Nat.le_of_ble_eq_true rfl)⟩ hK hH.1 10 0 rfl (mwc0 C A u170) rfl hl.1 rfl (Nat.le_of_ble_eq_true rfl) dX10_deals_32 (fun r173 p174 => ?_)
          refine lv_istore_n (lv' := [(3, .int r173), (2, .int y162d), (1, .int y163d), (0, .ref (A 0))]) hx hb dX10_deals_35 rfl hl (by decide) rfl (fun ls hl => ?_)
          refine lv_aload_n hx hb dX10_deals_36 rfl (lv_at hl 3 rfl) ?_
          refine lv_iload_n hx hb dX10_deals_37 rfl (lv_at hl 1 rfl) ?_
          refine cvS (n := 1) (As := [.int y162d]) (rest := []) ⟨hx, hb, hml, hown, hts⟩ uc_in (kX10_rentsOf_0 l D C A u170 hI y162d y162d.toInt rfl (by omega) (by omega)) q_m1578 q_n1580 q_p87 q_i11 q_c1581 hvX10_rentsOf ⟨(Nat.le_of_ble_eq_true rfl), (Nat.le_of_ble_eq_true rfl)⟩ ⟨(Nat.le_of_ble_eq_true rfl), (Nat.le_of_ble_eq_true rfl)⟩ hK hH.1 10 0 rfl (mwc0 C A u170) rfl hl.1 rfl (Nat.le_of_ble_eq_true rfl) dX10_deals_38 (fun r175 p176 => ?_)
          refine lv_istore (lv' := [(4, .int r175), (3, .int r173), (2, .int y162d), (1, .int y163d), (0, .ref (A 0))]) hx hb dX10_deals_41 hl (by decide) rfl (fun ls hl => ?_)
          refine lv_iload_n hx hb dX10_deals_43 rfl (lv_at hl 3 rfl) ?_
          refine lv_iload_n hx hb dX10_deals_44 rfl (lv_at hl 1 rfl) ?_
          refine lv_aload_n hx hb dX10_deals_45 rfl (lv_at hl 4 rfl) ?_
          refine lv_iconst (v := 1) hx hb dX10_deals_46 (by decide) ?_
          refine lv_iload_n hx hb dX10_deals_47 rfl (lv_at hl 2 rfl) ?_
          refine lv_ishl hx hb dX10_deals_48 ?_
          have gz177 := tt_shl1 (y := y162d) (Y := y162d.toInt) rfl (by omega) (by omega)
          refine p_bd (P := fun q => 1 ≤ q ∧ q ≤ 32) ⟨by omega, by omega⟩ (fun z178 bz178 => ?_)
          have bz178 : 1 ≤ z178.toInt ∧ z178.toInt ≤ 32 := bz178
          refine cvI (n := 1) (As := [.int z178]) (rest := [.int r173, .int y163d]) ⟨hx, hb, hml, hown, hts⟩ uc_in (kX10_waitWithout_0 l D C A u170 hI z178 z178.toInt rfl _) q_m1589 q_n1591 q_p88 q_i11 q_c1592 hvX10_waitWithout ⟨(Nat.le_of_ble_eq_true rfl), (Nat.le_of_ble_eq_true rfl)⟩ ⟨(Nat.le_of_ble_eq_true rfl), (Nat.le_of_ble_eq_true rfl)⟩ hK hH (fun q h => Or.inr h) Bl0 (fun _ _ _ => trivial) 10 0 rfl (mwc0 C A u170) rfl hl.1 rfl (Nat.le_of_ble_eq_true rfl) dX10_deals_49 (fun r180 u179 H locs p181 hH => ?_)
          obtain ⟨hI, hUu179, p181⟩ := p181
          refine lv_isub hx hb dX10_deals_52 ?_
          refine p_any (fun z182 => ?_)
          refine lv_iload hx hb dX10_deals_53 (lv_at hl 0 rfl) ?_
          have j65_190 : ∀ (ls : Array Slot) (y186d : Int32), 0 ≤ y186d.toInt → y186d.toInt ≤ 32 → lv_has ls 5 [(2, .int y162d), (0, .ref (A 0))] → W p l e (rmL 8 0 0) s m ar below meth c H locs 0 0 Q (F0 m 65 ls [.int y186d, .int y163d]) := by
            intro ls y186d ly186d my186d hl
            refine lv_ior hx hb dX10_deals_65 ?_
            have gz192 := tt_or (x := y163d) (y := y186d) (X := y163d.toInt) (Y := y186d.toInt) rfl rfl 6 (by decide) (by omega) (by omega) (by omega) (by omega)
            refine p_bd (P := fun q => 0 ≤ q ∧ q ≤ 63) ⟨by omega, by omega⟩ (fun z193 bz193 => ?_)
            have bz193 : 0 ≤ z193.toInt ∧ z193.toInt ≤ 63 := bz193
            refine lv_istore_n (lv' := [(1, .int z193), (2, .int y162d), (0, .ref (A 0))]) hx hb dX10_deals_66 rfl hl (by decide) rfl (fun ls hl => ?_)
            obtain ⟨z194, ez194⟩ : ∃ z, z = y162d + Int32.ofInt 1 := ⟨_, rfl⟩
            have hz194 : z194.toInt = y162d.toInt + 1 := by rw [ez194]; exact tt_add rfl (by decide) (by omega) (by omega)
            refine lv_iinc (v := z194) (lv' := [(2, .int z194), (1, .int z193), (0, .ref (A 0))]) hx hb dX10_deals_67 hl (k := 1) rfl ez194.symm (by decide) rfl (fun ls hl => ?_)
            refine lv_goto (tgt := 19) hx hb dX10_deals_70 (by decide) ?_
            exact ih19_164 ls z194 z193 u179 _ _ (by have q9 := (show z194.toInt = (y162d.toInt + 1) from hz194); omega) (by have q9 := (show z194.toInt = (y162d.toInt + 1) from hz194); omega) (by omega) (by omega) (by have q9 := (show z194.toInt = (y162d.toInt + 1) from hz194); omega) (Un.tr (Un.tr hUu164 hUu170 rfl rfl rfl) hUu179 rfl rfl rfl) hI hH hl
          refine lv_icmp_le (tgt := 64) hx hb dX10_deals_55 (by decide) (fun c183 => ?_) (fun c183 => ?_)
          · have c183 := cLE (x := z182) (y := r175) (X := z182.toInt) (Y := r175.toInt) rfl rfl c183
            refine lv_iconst (v := 0) hx hb dX10_deals_64 (by decide) ?_
            exact j65_190 ls 0 (by decide) (by decide) (lv_sub hl [2, 4] rfl)
          · have c183 := cNLE (x := z182) (y := r175) (X := z182.toInt) (Y := r175.toInt) rfl rfl c183
            refine lv_iconst (v := 1) hx hb dX10_deals_58 (by decide) ?_
            refine lv_iload_n hx hb dX10_deals_59 rfl (lv_at hl 2 rfl) ?_
            refine lv_ishl hx hb dX10_deals_60 ?_
            have gz195 := tt_shl1 (y := y162d) (Y := y162d.toInt) rfl (by omega) (by omega)
            refine p_bd (P := fun q => 1 ≤ q ∧ q ≤ 32) ⟨by omega, by omega⟩ (fun z196 bz196 => ?_)
            have bz196 : 1 ≤ z196.toInt ∧ z196.toInt ≤ 32 := bz196
            refine lv_goto (tgt := 65) hx hb dX10_deals_61 (by decide) ?_
            exact j65_190 ls z196 (by omega) (by omega) (lv_sub hl [2, 4] rfl)
    exact lp19_164 7 ls 0 0 u1 _ _ (by decide) (by decide) (by decide) (by decide) (by have q9 : (0 : Int32).toInt = 0 := (by decide); omega) Un.rf hI hH hl
  · have c4 := cEQ (x := r2) (y := 0) (X := r2.toInt) (Y := 0) rfl (by decide) c4
    refine lv_bipush (v := (-2)) hx hb dX10_deals_12 (by decide) ?_
    exact hret _ _ _ _ ((-2) : Int32) _ dX10_deals_14 rfl ⟨hI, (Un.si Un.rf rfl eu1), ⟨by decide, by decide⟩⟩ hH
