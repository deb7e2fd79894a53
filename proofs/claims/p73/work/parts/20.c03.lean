set_option maxHeartbeats 4000000 in
set_option maxRecDepth 100000 in
theorem kX9_price_0 (l : Launch) (D : va_G) (C : Nat → ClassId) (A : Nat → Nat) (u : St) (hI : IC u) (a0 : Int32) (A0 : Int) (ha0 : a0.toInt = A0) : Met l yX9_price (uc yX9_price cX9_price 2 (some .int)) (rmL 6 0 0) (va_Pc [.ref (A 0), .int a0] (PreR D (tyl C) (cw C A u))) (vp_Si (fun r => True)) 0 0 (fun _ => False) := by
  refine mS (by decide) (Nat.le_of_ble_eq_true rfl) ?_
  intro p e s m below meth c ls ar Q hx hb hml hown hts hK hP hl hret
  have hown : s.vm.findClass RX9 = some m.cls := hown
  have hl : lv_has ls 2 [(0, .ref (A 0)), (1, .int a0)] := hl
  refine lv_aload_n hx hb dX9_price_0 rfl (lv_at hl 0 rfl) ?_
  refine lv_iload_n hx hb dX9_price_1 rfl (lv_at hl 1 rfl) ?_
  refine cvS (n := 1) (As := [.int a0]) (rest := []) ⟨hx, hb, hml, hown, hts⟩ uc_in (kX9_isClock_0 l D C A u hI a0 A0 ha0) q_m589 q_n591 q_p11 q_i1 q_c592 hvX9_isClock ⟨(Nat.le_of_ble_eq_true rfl), (Nat.le_of_ble_eq_true rfl)⟩ ⟨(Nat.le_of_ble_eq_true rfl), (Nat.le_of_ble_eq_true rfl)⟩ hK hP 9 0 rfl (cwc0 C A u) rfl hl.1 rfl (Nat.le_of_ble_eq_true rfl) dX9_price_2 (fun r1 p2 => ?_)
  rcases p2 with ⟨e9, f3, f4⟩ | e9
  · subst e9
    have b6 := hI.b49
    refine lv_if_eq (tgt := 16) hx hb dX9_price_5 (by decide) (fun c7 => absurd c7 (by decide)) (fun c7 => ?_)
    refine lv_aload_n hx hb dX9_price_8 rfl (lv_at hl 0 rfl) ?_
    refine lv_iload_n hx hb dX9_price_9 rfl (lv_at hl 1 rfl) ?_
    refine cvS (n := 1) (As := [.int a0]) (rest := []) ⟨hx, hb, hml, hown, hts⟩ uc_in (kX9_priceOf_0 l D C A u hI a0 A0 ha0 (by omega) (by omega)) q_m724 q_n726 q_p22 q_i1 q_c727 hvX9_priceOf ⟨(Nat.le_of_ble_eq_true rfl), (Nat.le_of_ble_eq_true rfl)⟩ ⟨(Nat.le_of_ble_eq_true rfl), (Nat.le_of_ble_eq_true rfl)⟩ hK hP 9 0 rfl (cwc0 C A u) rfl hl.1 rfl (Nat.le_of_ble_eq_true rfl) dX9_price_10 (fun r8 p9 => ?_)
    refine lv_goto (tgt := 18) hx hb dX9_price_13 (by decide) ?_
    exact hret _ _ r8 dX9_price_18 rfl trivial
  · subst e9
    refine lv_if_eq (tgt := 16) hx hb dX9_price_5 (by decide) (fun c10 => ?_) (fun c10 => absurd c10 (by decide))
    refine lv_ldc (v := (-1000000)) hx hb hown (hts _ (uc_in _ q_k732)) dX9_price_16 ?_
    exact hret _ _ ((-1000000) : Int32) dX9_price_18 rfl trivial
set_option maxHeartbeats 4000000 in
set_option maxRecDepth 100000 in
theorem kX9_quorum_0 (l : Launch) (D : va_G) (C : Nat → ClassId) (A : Nat → Nat) (u : St) (hI : IC u) (a0 : Int32) (A0 : Int) (ha0 : a0.toInt = A0) (a1 : Int32) (A1 : Int) (ha1 : a1.toInt = A1) : Met l yX9_quorum (uc yX9_quorum cX9_quorum 3 (some .int)) (rmL 6 0 0) (va_Pc [.ref (A 0), .int a0, .int a1] (PreR D (tyl C) (cw C A u))) (vp_Si (fun r => True)) 0 0 (fun _ => False) := by
  refine mS (by decide) (Nat.le_of_ble_eq_true rfl) ?_
  intro p e s m below meth c ls ar Q hx hb hml hown hts hK hP hl hret
  have hown : s.vm.findClass RX9 = some m.cls := hown
  have hl : lv_has ls 3 [(0, .ref (A 0)), (1, .int a0), (2, .int a1)] := hl
  refine lv_aload_n hx hb dX9_quorum_0 rfl (lv_at hl 0 rfl) ?_
  refine lv_iload_n hx hb dX9_quorum_1 rfl (lv_at hl 1 rfl) ?_
  refine cvS (n := 1) (As := [.int a0]) (rest := []) ⟨hx, hb, hml, hown, hts⟩ uc_in (kX9_isDay_0 l D C A u hI a0 A0 ha0) q_m597 q_n599 q_p12 q_i1 q_c600 hvX9_isDay ⟨(Nat.le_of_ble_eq_true rfl), (Nat.le_of_ble_eq_true rfl)⟩ ⟨(Nat.le_of_ble_eq_true rfl), (Nat.le_of_ble_eq_true rfl)⟩ hK hP 9 0 rfl (cwc0 C A u) rfl hl.1 rfl (Nat.le_of_ble_eq_true rfl) dX9_quorum_2 (fun r1 p2 => ?_)
  rcases p2 with ⟨e9, f3, f4⟩ | e9
  · subst e9
    have b6 := hI.b48
    refine lv_if_eq (tgt := 32) hx hb dX9_quorum_5 (by decide) (fun c7 => absurd c7 (by decide)) (fun c7 => ?_)
    refine lv_iload_n hx hb dX9_quorum_8 rfl (lv_at hl 2 rfl) ?_
    refine lv_iconst (v := 1) hx hb dX9_quorum_9 (by decide) ?_
    refine lv_bipush (v := 6) hx hb dX9_quorum_10 (by decide) ?_
    refine csS (n := 3) (As := [.int a1, .int 1, .int 6]) (rest := []) ⟨hx, hb, hml, hown, hts⟩ uc_in (kX9_isWithin_0 l D C A u hI a1 A1 ha1 (1) 1 (by decide) (6) 6 (by decide)) q_m651 q_s652 q_i1 q_c653 hvX9_isWithin ⟨(Nat.le_of_ble_eq_true rfl), (Nat.le_of_ble_eq_true rfl)⟩ ⟨(Nat.le_of_ble_eq_true rfl), (Nat.le_of_ble_eq_true rfl)⟩ hK hP rfl hl.1 rfl (Nat.le_of_ble_eq_true rfl) dX9_quorum_12 (fun r8 p9 => ?_)
    rcases p9 with ⟨e9, f10, f11⟩ | ⟨e9, fn12⟩
    · subst e9
      refine lv_if_eq (tgt := 32) hx hb dX9_quorum_15 (by decide) (fun c13 => absurd c13 (by decide)) (fun c13 => ?_)
      refine lv_aload_n hx hb dX9_quorum_18 rfl (lv_at hl 0 rfl) ?_
      refine va_get (ci := 9) (v := .ref (A 7)) (C := RX9) (T := TX9) (N := 12) hx hb hts (fun w h => uc_in w (inX9 w h)) hown hK hP 0 (cwc0 C A u) rfl 5 (by decide) (hts _ (uc_in _ q_f388)) (fun _ h9 => h9) rfl dX9_quorum_19 ?_
      refine lv_iload_n hx hb dX9_quorum_22 rfl (lv_at hl 1 rfl) ?_
      refine lv_iload_n hx hb dX9_quorum_23 rfl (lv_at hl 2 rfl) ?_
      refine lv_iconst (v := 1) hx hb dX9_quorum_24 (by decide) ?_
      refine lv_isub hx hb dX9_quorum_25 ?_
      refine p_nm (tt_sub (X := A1) (Y := 1) ha1 (by decide) (by omega) (by omega)) (fun z14 hz14 => ?_)
      refine cvS (n := 2) (As := [.int a0, .int z14]) (rest := []) ⟨hx, hb, hml, hown, hts⟩ uc_in (kX5_lateOfRank_0 l D C A u hI a0 A0 ha0 z14 (A1 - 1) hz14 (by omega) (by omega)) q_m935 q_n936 q_e937 q_i4 q_c938 hvX5_lateOfRank ⟨(Nat.le_of_ble_eq_true rfl), (Nat.le_of_ble_eq_true rfl)⟩ ⟨(Nat.le_of_ble_eq_true rfl), (Nat.le_of_ble_eq_true rfl)⟩ hK hP 5 7 rfl (cwc7 C A u) rfl hl.1 rfl (Nat.le_of_ble_eq_true rfl) dX9_quorum_26 (fun r15 p16 => ?_)
      refine lv_goto (tgt := 34) hx hb dX9_quorum_29 (by decide) ?_
      exact hret _ _ r15 dX9_quorum_34 rfl trivial
    · subst e9
      refine lv_if_eq (tgt := 32) hx hb dX9_quorum_15 (by decide) (fun c17 => ?_) (fun c17 => absurd c17 (by decide))
      refine lv_bipush (v := (-2)) hx hb dX9_quorum_32 (by decide) ?_
      exact hret _ _ ((-2) : Int32) dX9_quorum_34 rfl trivial
  · subst e9
    refine lv_if_eq (tgt := 32) hx hb dX9_quorum_5 (by decide) (fun c18 => ?_) (fun c18 => absurd c18 (by decide))
    refine lv_bipush (v := (-2)) hx hb dX9_quorum_32 (by decide) ?_
    exact hret _ _ ((-2) : Int32) dX9_quorum_34 rfl trivial
set_option maxHeartbeats 4000000 in
set_option maxRecDepth 100000 in
theorem kX2_gain_0 (l : Launch) (D : va_G) (C : Nat → ClassId) (A : Nat → Nat) (u : St) (hI : IC u) (a1 : Int32) (A1 : Int) (ha1 : a1.toInt = A1) (a2 : Int32) (A2 : Int) (ha2 : a2.toInt = A2) (a3 : Int32) (A3 : Int) (ha3 : a3.toInt = A3) (hl1 : 0 ≤ A1) (hm1 : A1 ≤ 5) : Met l yX2_gain (uc yX2_gain cX2_gain 5 (some .int)) (rmL 1 0 0) (va_Pc [.ref (A 2), .int a1, .int a2, .int a3] (PreR D (tyl C) (cw C A u))) (vp_Si (fun r => True)) 0 0 (fun _ => False) := by
  refine mS (by decide) (Nat.le_of_ble_eq_true rfl) ?_
  intro p e s m below meth c ls ar Q hx hb hml hown hts hK hP hl hret
  have hown : s.vm.findClass RX2 = some m.cls := hown
  have hl : lv_has ls 5 [(0, .ref (A 2)), (1, .int a1), (2, .int a2), (3, .int a3)] := hl
  refine lv_iload_n hx hb dX2_gain_0 rfl (lv_at hl 3 rfl) ?_
  refine lv_iload_n hx hb dX2_gain_1 rfl (lv_at hl 1 rfl) ?_
  have j15_6 : ∀ (ls : Array Slot) (y3d : Int32), lv_has ls 5 [(2, .int a2)] → W p l e (rmL 1 0 0) s m ar below meth c s.heap [] 0 0 Q (F0 m 15 ls [.int y3d]) := by
    intro ls y3d hl
    refine lv_istore (lv' := [(4, .int y3d), (2, .int a2)]) hx hb dX2_gain_15 hl (by decide) rfl (fun ls hl => ?_)
    refine lv_iload hx hb dX2_gain_17 (lv_at hl 0 rfl) ?_
    refine lv_bipush (v := 10) hx hb dX2_gain_19 (by decide) ?_
    refine lv_iload_n hx hb dX2_gain_21 rfl (lv_at hl 1 rfl) ?_
    refine lv_imul hx hb dX2_gain_22 ?_
    refine p_any (fun z8 => ?_)
    refine lv_isub hx hb dX2_gain_23 ?_
    refine p_any (fun z9 => ?_)
    exact hret _ _ z9 dX2_gain_24 rfl trivial
  refine lv_icmp_ne (tgt := 14) hx hb dX2_gain_2 (by decide) (fun c1 => ?_) (fun c1 => ?_)
  · refine lv_iconst (v := 0) hx hb dX2_gain_14 (by decide) ?_
    exact j15_6 ls 0 (lv_sub hl [2] rfl)
  · have c1 := cEQ (x := a3) (y := a1) (X := A3) (Y := A1) ha3 ha1 c1
    refine lv_aload_n hx hb dX2_gain_5 rfl (lv_at hl 0 rfl) ?_
    refine va_get (ci := 7) (v := .ref (A 55)) (C := RX7) (T := TX7) (N := 16) hx hb hts (fun w h => uc_in w (inX7 w h)) hown hK hP 2 (cwc2 C A u) rfl 11 (by decide) (hts _ (uc_in _ q_f108)) (fun _ h9 => h9) rfl dX2_gain_6 ?_
    refine lv_iload_n hx hb dX2_gain_9 rfl (lv_at hl 1 rfl) ?_
    refine va_iald hx hb hK hP 55 1 (cwc55 C A u) rfl (i_ix ha1 (by omega) (by omega)) dX2_gain_10 ?_
    refine p_any (fun z10 => ?_)
    refine lv_goto (tgt := 15) hx hb dX2_gain_11 (by decide) ?_
    exact j15_6 ls z10 (lv_sub hl [2] rfl)
set_option maxHeartbeats 4000000 in
set_option maxRecDepth 100000 in
theorem kX2_isBest_0 (l : Launch) (D : va_G) (C : Nat → ClassId) (A : Nat → Nat) (u : St) (hI : IC u) (a1 : Int32) (A1 : Int) (ha1 : a1.toInt = A1) (a2 : Int32) (A2 : Int) (ha2 : a2.toInt = A2) (a3 : Int32) (A3 : Int) (ha3 : a3.toInt = A3) (hl1 : 0 ≤ A1) (hm1 : A1 ≤ 5) (hl2 : 0 ≤ A2) (hm2 : A2 ≤ 5) (hl3 : 0 ≤ A3) (hm3 : A3 ≤ 5) : Met l yX2_isBest (uc yX2_isBest cX2_isBest 9 (some .boolean)) (rmL 2 0 0) (va_Pc [.ref (A 14), .ref (A 2), .int a1, .int a2, .int a3, .int 6, .int 1] (PreR D (tyl C) (cw C A u))) (vp_Si (fun r => 0 ≤ r.toInt ∧ r.toInt ≤ 1)) 0 0 (fun _ => False) := by
  refine mS (by decide) (Nat.le_of_ble_eq_true rfl) ?_
  intro p e s m below meth c ls ar Q hx hb hml hown hts hK hP hl hret
  have hown : s.vm.findClass RX2 = some m.cls := hown
  have hl : lv_has ls 9 [(0, .ref (A 14)), (1, .ref (A 2)), (2, .int a1), (3, .int a2), (4, .int a3), (5, .int 6), (6, .int 1)] := hl
  refine lv_aload_n hx hb dX2_isBest_0 rfl (lv_at hl 1 rfl) ?_
  refine lv_iload_n hx hb dX2_isBest_1 rfl (lv_at hl 2 rfl) ?_
  refine lv_iload_n hx hb dX2_isBest_2 rfl (lv_at hl 3 rfl) ?_
  refine lv_aload_n hx hb dX2_isBest_3 rfl (lv_at hl 0 rfl) ?_
  refine va_get (ci := 2) (v := .ref (A 48)) (C := RX2) (T := TX2) (N := 6) hx hb hts (fun w h => uc_in w (inX2 w h)) hown hK hP 14 (cwc14 C A u) rfl 4 (by decide) (hts _ (uc_in _ q_f307)) (fun _ h9 => h9) rfl dX2_isBest_4 ?_
  refine lv_iload_n hx hb dX2_isBest_7 rfl (lv_at hl 3 rfl) ?_
  refine lv_iload hx hb dX2_isBest_8 (lv_at hl 5 rfl) ?_
  refine lv_imul hx hb dX2_isBest_10 ?_
  refine p_nm (tt_mul (X := A2) (Y := 6) ha2 (by decide) (by omega) (by omega)) (fun z1 hz1 => ?_)
  refine lv_iload hx hb dX2_isBest_11 (lv_at hl 4 rfl) ?_
  refine lv_iload hx hb dX2_isBest_13 (lv_at hl 6 rfl) ?_
  refine lv_imul hx hb dX2_isBest_15 ?_
  refine p_nm (tt_mul (X := A3) (Y := 1) ha3 (by decide) (by omega) (by omega)) (fun z2 hz2 => ?_)
  refine lv_iadd hx hb dX2_isBest_16 ?_
  refine p_nm (tt_add (X := (A2 * 6)) (Y := (A3 * 1)) hz1 hz2 (by omega) (by omega)) (fun z3 hz3 => ?_)
  refine va_iald hx hb hK hP 48 1 (cwc48 C A u) rfl (i_ix hz3 (by omega) (by omega)) dX2_isBest_17 ?_
  refine p_any (fun z4 => ?_)
  refine csS (n := 4) (As := [.ref (A 2), .int a1, .int a2, .int z4]) (rest := []) ⟨hx, hb, hml, hown, hts⟩ uc_in (kX2_gain_0 l D C A u hI a1 A1 ha1 a2 A2 ha2 z4 z4.toInt rfl (by omega) (by omega)) q_m967 q_s968 q_i8 q_c969 hvX2_gain ⟨(Nat.le_of_ble_eq_true rfl), (Nat.le_of_ble_eq_true rfl)⟩ ⟨(Nat.le_of_ble_eq_true rfl), (Nat.le_of_ble_eq_true rfl)⟩ hK hP rfl hl.1 rfl (Nat.le_of_ble_eq_true rfl) dX2_isBest_18 (fun r5 p6 => ?_)
  refine lv_istore (lv' := [(7, .int r5), (0, .ref (A 14)), (1, .ref (A 2)), (2, .int a1), (3, .int a2), (4, .int a3), (5, .int 6), (6, .int 1)]) hx hb dX2_isBest_21 hl (by decide) rfl (fun ls hl => ?_)
  refine lv_iconst (v := 0) hx hb dX2_isBest_23 (by decide) ?_
  refine lv_istore (lv' := [(8, .int 0), (7, .int r5), (0, .ref (A 14)), (1, .ref (A 2)), (2, .int a1), (3, .int a2), (4, .int a3), (5, .int 6), (6, .int 1)]) hx hb dX2_isBest_24 hl (by decide) rfl (fun ls hl => ?_)
  have lp26_59 : ∀ (n26 : Nat) (ls : Array Slot) (y59d : Int32), 0 ≤ y59d.toInt → y59d.toInt ≤ 6 → 6 - y59d.toInt < (n26 : Int) → lv_has ls 9 [(8, .int y59d), (7, .int r5), (0, .ref (A 14)), (1, .ref (A 2)), (2, .int a1), (4, .int a3), (5, .int 6), (6, .int 1)] → W p l e (rmL 2 0 0) s m ar below meth c s.heap [] 0 0 Q (F0 m 26 ls []) := by
    intro n26
    induction n26 with
    | zero => intro ls y59d ly59d my59d hmun26 hl; exfalso; omega
    | succ n26 ih26_59 =>
      intro ls y59d ly59d my59d hmun26 hl
      refine lv_iload hx hb dX2_isBest_26 (lv_at hl 0 rfl) ?_
      refine lv_bipush (v := 6) hx hb dX2_isBest_28 (by decide) ?_
      refine lv_icmp_ge (tgt := 69) hx hb dX2_isBest_30 (by decide) (fun c61 => ?_) (fun c61 => ?_)
      · have c61 := cLE (x := 6) (y := y59d) (X := 6) (Y := y59d.toInt) (by decide) rfl c61
        refine lv_iconst (v := 1) hx hb dX2_isBest_69 (by decide) ?_
        exact hret _ _ (1 : Int32) dX2_isBest_70 rfl ⟨by decide, by decide⟩
      · have c61 := cNLE (x := 6) (y := y59d) (X := 6) (Y := y59d.toInt) (by decide) rfl c61
        refine lv_aload_n hx hb dX2_isBest_33 rfl (lv_at hl 3 rfl) ?_
        refine lv_iload_n hx hb dX2_isBest_34 rfl (lv_at hl 4 rfl) ?_
        refine lv_iload hx hb dX2_isBest_35 (lv_at hl 0 rfl) ?_
        refine lv_aload_n hx hb dX2_isBest_37 rfl (lv_at hl 2 rfl) ?_
        refine va_get (ci := 2) (v := .ref (A 48)) (C := RX2) (T := TX2) (N := 6) hx hb hts (fun w h => uc_in w (inX2 w h)) hown hK hP 14 (cwc14 C A u) rfl 4 (by decide) (hts _ (uc_in _ q_f307)) (fun _ h9 => h9) rfl dX2_isBest_38 ?_
        refine lv_iload hx hb dX2_isBest_41 (lv_at hl 0 rfl) ?_
        refine lv_iload hx hb dX2_isBest_43 (lv_at hl 6 rfl) ?_
        refine lv_imul hx hb dX2_isBest_45 ?_
        refine p_nm (tt_mul (X := y59d.toInt) (Y := 6) rfl (by decide) (by omega) (by omega)) (fun z62 hz62 => ?_)
        refine lv_iload hx hb dX2_isBest_46 (lv_at hl 5 rfl) ?_
        refine lv_iload hx hb dX2_isBest_48 (lv_at hl 7 rfl) ?_
        refine lv_imul hx hb dX2_isBest_50 ?_
        refine p_nm (tt_mul (X := A3) (Y := 1) ha3 (by decide) (by omega) (by omega)) (fun z63 hz63 => ?_)
        refine lv_iadd hx hb dX2_isBest_51 ?_
        refine p_nm (tt_add (X := (y59d.toInt * 6)) (Y := (A3 * 1)) hz62 hz63 (by omega) (by omega)) (fun z64 hz64 => ?_)
        refine va_iald hx hb hK hP 48 1 (cwc48 C A u) rfl (i_ix hz64 (by omega) (by omega)) dX2_isBest_52 ?_
        refine p_any (fun z65 => ?_)
        refine csS (n := 4) (As := [.ref (A 2), .int a1, .int y59d, .int z65]) (rest := []) ⟨hx, hb, hml, hown, hts⟩ uc_in (kX2_gain_0 l D C A u hI a1 A1 ha1 y59d y59d.toInt rfl z65 z65.toInt rfl (by omega) (by omega)) q_m967 q_s968 q_i8 q_c969 hvX2_gain ⟨(Nat.le_of_ble_eq_true rfl), (Nat.le_of_ble_eq_true rfl)⟩ ⟨(Nat.le_of_ble_eq_true rfl), (Nat.le_of_ble_eq_true rfl)⟩ hK hP rfl hl.1 rfl (Nat.le_of_ble_eq_true rfl) dX2_isBest_53 (fun r66 p67 => ?_)
        refine lv_iload hx hb dX2_isBest_56 (lv_at hl 1 rfl) ?_
        refine lv_icmp_le (tgt := 63) hx hb dX2_isBest_58 (by decide) (fun c68 => ?_) (fun c68 => ?_)
        · have c68 := cLE (x := r66) (y := r5) (X := r66.toInt) (Y := r5.toInt) rfl rfl c68
          obtain ⟨z69, ez69⟩ : ∃ z, z = y59d + Int32.ofInt 1 := ⟨_, rfl⟩
          have hz69 : z69.toInt = y59d.toInt + 1 := by rw [ez69]; exact tt_add rfl (by decide) (by omega) (by omega)
          refine lv_iinc (v := z69) (lv' := [(8, .int z69), (7, .int r5), (0, .ref (A 14)), (1, .ref (A 2)), (2, .int a1), (4, .int a3), (5, .int 6), (6, .int 1)]) hx hb dX2_isBest_63 hl (k := 0) rfl ez69.symm (by decide) rfl (fun ls hl => ?_)
          refine lv_goto (tgt := 26) hx hb dX2_isBest_66 (by decide) ?_
          exact ih26_59 ls z69 (by have q9 := (show z69.toInt = (y59d.toInt + 1) from hz69); omega) (by have q9 := (show z69.toInt = (y59d.toInt + 1) from hz69); omega) (by have q9 := (show z69.toInt = (y59d.toInt + 1) from hz69); omega) hl
        · have c68 := cNLE (x := r66) (y := r5) (X := r66.toInt) (Y := r5.toInt) rfl rfl c68
          refine lv_iconst (v := 0) hx hb dX2_isBest_61 (by decide) ?_
          exact hret _ _ (0 : Int32) dX2_isBest_62 rfl ⟨by decide, by decide⟩
  exact lp26_59 7 ls 0 (by decide) (by decide) (by have q9 : (0 : Int32).toInt = 0 := (by decide); omega) (lv_sub hl [0, 1, 2, 3, 4, 6, 7, 8] rfl)
set_option maxHeartbeats 4000000 in
set_option maxRecDepth 100000 in
theorem kX2_isBest_1 (l : Launch) (D : va_G) (C : Nat → ClassId) (A : Nat → Nat) (u : St) (hI : IC u) (a1 : Int32) (A1 : Int) (ha1 : a1.toInt = A1) (a2 : Int32) (A2 : Int) (ha2 : a2.toInt = A2) (a3 : Int32) (A3 : Int) (ha3 : a3.toInt = A3) (hl1 : 0 ≤ A1) (hm1 : A1 ≤ 5) (hl2 : 0 ≤ A2) (hm2 : A2 ≤ 5) (hl3 : 0 ≤ A3) (hm3 : A3 ≤ 5) : Met l yX2_isBest (uc yX2_isBest cX2_isBest 9 (some .boolean)) (rmL 2 0 0) (va_Pc [.ref (A 14), .ref (A 2), .int a1, .int a2, .int a3, .int 1, .int 6] (PreR D (tyl C) (cw C A u))) (vp_Si (fun r => 0 ≤ r.toInt ∧ r.toInt ≤ 1)) 0 0 (fun _ => False) := by
  refine mS (by decide) (Nat.le_of_ble_eq_true rfl) ?_
  intro p e s m below meth c ls ar Q hx hb hml hown hts hK hP hl hret
  have hown : s.vm.findClass RX2 = some m.cls := hown
  have hl : lv_has ls 9 [(0, .ref (A 14)), (1, .ref (A 2)), (2, .int a1), (3, .int a2), (4, .int a3), (5, .int 1), (6, .int 6)] := hl
  refine lv_aload_n hx hb dX2_isBest_0 rfl (lv_at hl 1 rfl) ?_
  refine lv_iload_n hx hb dX2_isBest_1 rfl (lv_at hl 2 rfl) ?_
  refine lv_iload_n hx hb dX2_isBest_2 rfl (lv_at hl 3 rfl) ?_
  refine lv_aload_n hx hb dX2_isBest_3 rfl (lv_at hl 0 rfl) ?_
  refine va_get (ci := 2) (v := .ref (A 48)) (C := RX2) (T := TX2) (N := 6) hx hb hts (fun w h => uc_in w (inX2 w h)) hown hK hP 14 (cwc14 C A u) rfl 4 (by decide) (hts _ (uc_in _ q_f307)) (fun _ h9 => h9) rfl dX2_isBest_4 ?_
  refine lv_iload_n hx hb dX2_isBest_7 rfl (lv_at hl 3 rfl) ?_
  refine lv_iload hx hb dX2_isBest_8 (lv_at hl 5 rfl) ?_
  refine lv_imul hx hb dX2_isBest_10 ?_
  refine p_nm (tt_mul (X := A2) (Y := 1) ha2 (by decide) (by omega) (by omega)) (fun z1 hz1 => ?_)
  refine lv_iload hx hb dX2_isBest_11 (lv_at hl 4 rfl) ?_
  refine lv_iload hx hb dX2_isBest_13 (lv_at hl 6 rfl) ?_
  refine lv_imul hx hb dX2_isBest_15 ?_
  refine p_nm (tt_mul (X := A3) (Y := 6) ha3 (by decide) (by omega) (by omega)) (fun z2 hz2 => ?_)
  refine lv_iadd hx hb dX2_isBest_16 ?_
  refine p_nm (tt_add (X := (A2 * 1)) (Y := (A3 * 6)) hz1 hz2 (by omega) (by omega)) (fun z3 hz3 => ?_)
  refine va_iald hx hb hK hP 48 1 (cwc48 C A u) rfl (i_ix hz3 (by omega) (by omega)) dX2_isBest_17 ?_
  refine p_any (fun z4 => ?_)
  refine csS (n := 4) (As := [.ref (A 2), .int a1, .int a2, .int z4]) (rest := []) ⟨hx, hb, hml, hown, hts⟩ uc_in (kX2_gain_0 l D C A u hI a1 A1 ha1 a2 A2 ha2 z4 z4.toInt rfl (by omega) (by omega)) q_m967 q_s968 q_i8 q_c969 hvX2_gain ⟨(Nat.le_of_ble_eq_true rfl), (Nat.le_of_ble_eq_true rfl)⟩ ⟨(Nat.le_of_ble_eq_true rfl), (Nat.le_of_ble_eq_true rfl)⟩ hK hP rfl hl.1 rfl (Nat.le_of_ble_eq_true rfl) dX2_isBest_18 (fun r5 p6 => ?_)
  refine lv_istore (lv' := [(7, .int r5), (0, .ref (A 14)), (1, .ref (A 2)), (2, .int a1), (3, .int a2), (4, .int a3), (5, .int 1), (6, .int 6)]) hx hb dX2_isBest_21 hl (by decide) rfl (fun ls hl => ?_)
  refine lv_iconst (v := 0) hx hb dX2_isBest_23 (by decide) ?_
  refine lv_istore (lv' := [(8, .int 0), (7, .int r5), (0, .ref (A 14)), (1, .ref (A 2)), (2, .int a1), (3, .int a2), (4, .int a3), (5, .int 1), (6, .int 6)]) hx hb dX2_isBest_24 hl (by decide) rfl (fun ls hl => ?_)
  have lp26_59 : ∀ (n26 : Nat) (ls : Array Slot) (y59d : Int32), 0 ≤ y59d.toInt → y59d.toInt ≤ 6 → 6 - y59d.toInt < (n26 : Int) → lv_has ls 9 [(8, .int y59d), (7, .int r5), (0, .ref (A 14)), (1, .ref (A 2)), (2, .int a1), (4, .int a3), (5, .int 1), (6, .int 6)] → W p l e (rmL 2 0 0) s m ar below meth c s.heap [] 0 0 Q (F0 m 26 ls []) := by
    intro n26
    induction n26 with
    | zero => intro ls y59d ly59d my59d hmun26 hl; exfalso; omega
    | succ n26 ih26_59 =>
      intro ls y59d ly59d my59d hmun26 hl
      refine lv_iload hx hb dX2_isBest_26 (lv_at hl 0 rfl) ?_
      refine lv_bipush (v := 6) hx hb dX2_isBest_28 (by decide) ?_
      refine lv_icmp_ge (tgt := 69) hx hb dX2_isBest_30 (by decide) (fun c61 => ?_) (fun c61 => ?_)
      · have c61 := cLE (x := 6) (y := y59d) (X := 6) (Y := y59d.toInt) (by decide) rfl c61
        refine lv_iconst (v := 1) hx hb dX2_isBest_69 (by decide) ?_
        exact hret _ _ (1 : Int32) dX2_isBest_70 rfl ⟨by decide, by decide⟩
      · have c61 := cNLE (x := 6) (y := y59d) (X := 6) (Y := y59d.toInt) (by decide) rfl c61
        refine lv_aload_n hx hb dX2_isBest_33 rfl (lv_at hl 3 rfl) ?_
        refine lv_iload_n hx hb dX2_isBest_34 rfl (lv_at hl 4 rfl) ?_
        refine lv_iload hx hb dX2_isBest_35 (lv_at hl 0 rfl) ?_
        refine lv_aload_n hx hb dX2_isBest_37 rfl (lv_at hl 2 rfl) ?_
        refine va_get (ci := 2) (v := .ref (A 48)) (C := RX2) (T := TX2) (N := 6) hx hb hts (fun w h => uc_in w (inX2 w h)) hown hK hP 14 (cwc14 C A u) rfl 4 (by decide) (hts _ (uc_in _ q_f307)) (fun _ h9 => h9) rfl dX2_isBest_38 ?_
        refine lv_iload hx hb dX2_isBest_41 (lv_at hl 0 rfl) ?_
        refine lv_iload hx hb dX2_isBest_43 (lv_at hl 6 rfl) ?_
        refine lv_imul hx hb dX2_isBest_45 ?_
        refine p_nm (tt_mul (X := y59d.toInt) (Y := 1) rfl (by decide) (by omega) (by omega)) (fun z62 hz62 => ?_)
        refine lv_iload hx hb dX2_isBest_46 (lv_at hl 5 rfl) ?_
        refine lv_iload hx hb dX2_isBest_48 (lv_at hl 7 rfl) ?_
        refine lv_imul hx hb dX2_isBest_50 ?_
        refine p_nm (tt_mul (X := A3) (Y := 6) ha3 (by decide) (by omega) (by omega)) (fun z63 hz63 => ?_)
        refine lv_iadd hx hb dX2_isBest_51 ?_
        refine p_nm (tt_add (X := (y59d.toInt * 1)) (Y := (A3 * 6)) hz62 hz63 (by omega) (by omega)) (fun z64 hz64 => ?_)
        refine va_iald hx hb hK hP 48 1 (cwc48 C A u) rfl (i_ix hz64 (by omega) (by omega)) dX2_isBest_52 ?_
        refine p_any (fun z65 => ?_)
        refine csS (n := 4) (As := [.ref (A 2), .int a1, .int y59d, .int z65]) (rest := []) ⟨hx, hb, hml, hown, hts⟩ uc_in (kX2_gain_0 l D C A u hI a1 A1 ha1 y59d y59d.toInt rfl z65 z65.toInt rfl (by omega) (by omega)) q_m967 q_s968 q_i8 q_c969 hvX2_gain ⟨(Nat.le_of_ble_eq_true rfl), (Nat.le_of_ble_eq_true rfl)⟩ ⟨(Nat.le_of_ble_eq_true rfl), (Nat.le_of_ble_eq_true rfl)⟩ hK hP rfl hl.1 rfl (Nat.le_of_ble_eq_true rfl) dX2_isBest_53 (fun r66 p67 => ?_)
        refine lv_iload hx hb dX2_isBest_56 (lv_at hl 1 rfl) ?_
        refine lv_icmp_le (tgt := 63) hx hb dX2_isBest_58 (by decide) (fun c68 => ?_) (fun c68 => ?_)
        · have c68 := cLE (x := r66) (y := r5) (X := r66.toInt) (Y := r5.toInt) rfl rfl c68
          obtain ⟨z69, ez69⟩ : ∃ z, z = y59d + Int32.ofInt 1 := ⟨_, rfl⟩
          have hz69 : z69.toInt = y59d.toInt + 1 := by rw [ez69]; exact tt_add rfl (by decide) (by omega) (by omega)
          refine lv_iinc (v := z69) (lv' := [(8, .int z69), (7, .int r5), (0, .ref (A 14)), (1, .ref (A 2)), (2, .int a1), (4, .int a3), (5, .int 1), (6, .int 6)]) hx hb dX2_isBest_63 hl (k := 0) rfl ez69.symm (by decide) rfl (fun ls hl => ?_)
          refine lv_goto (tgt := 26) hx hb dX2_isBest_66 (by decide) ?_
          exact ih26_59 ls z69 (by have q9 := (show z69.toInt = (y59d.toInt + 1) from hz69); omega) (by have q9 := (show z69.toInt = (y59d.toInt + 1) from hz69); omega) (by have q9 := (show z69.toInt = (y59d.toInt + 1) from hz69); omega) hl
        · have c68 := cNLE (x := r66) (y := r5) (X := r66.toInt) (Y := r5.toInt) rfl rfl c68
          refine lv_iconst (v := 0) hx hb dX2_isBest_61 (by decide) ?_
          exact hret _ _ (0 : Int32) dX2_isBest_62 rfl ⟨by decide, by decide⟩
  exact lp26_59 7 ls 0 (by decide) (by decide) (by have q9 : (0 : Int32).toInt = 0 := (by decide); omega) (lv_sub hl [0, 1, 2, 3, 4, 6, 7, 8] rfl)
set_option maxHeartbeats 4000000 in
set_option maxRecDepth 100000 in
theorem kX2_note_0 (l : Launch) (D : va_G) (C : Nat → ClassId) (A : Nat → Nat) (u : St) (hI : IC u) (a0 : Int32) (A0 : Int) (ha0 : a0.toInt = A0) (a1 : Int32) (A1 : Int) (ha1 : a1.toInt = A1) (hl0 : 0 ≤ A0) (hm0 : A0 ≤ 35) (sz : Nat) : MetV l yX2_note cX2_note 3 2 [.ref (A 14), .int a0, .int a1] D (tyl C) (cw C A) X0 u sz (fun u' => IC u' ∧ Un [(68, 68), (69, 69), (70, 70)] [] [] u u' ∧ True) := by
  refine mV (by decide) (Nat.le_of_ble_eq_true rfl) ?_
  intro p e s m below meth c ls ar Q hx hb hml hown hts hK hH hX hl hret
  have hown : s.vm.findClass RX2 = some m.cls := hown
  have hl : lv_has ls 3 [(0, .ref (A 14)), (1, .int a0), (2, .int a1)] := hl
  refine lv_aload_n hx hb dX2_note_0 rfl (lv_at hl 0 rfl) ?_
  refine va_get (ci := 2) (v := .int (gi u 68)) (C := RX2) (T := TX2) (N := 6) hx hb hts (fun w h => uc_in w (inX2 w h)) hown hK hH.1 14 (cwc14 C A u) rfl 0 (by decide) (hts _ (uc_in _ q_f300)) (fun _ h9 => h9) rfl dX2_note_1 ?_
  have j22_12 : ∀ (ls : Array Slot) (u12 : St) (H : Heap) (locs : List Loc), Un [(69, 69), (70, 70)] [] [] u u12 → IC u12 → Hd D (cw C A) (va_A (cw C A u) s.heap.size) s.heap u12 H locs → lv_has ls 3 [(0, .ref (A 14)), (1, .int a0)] → W p l e (rmL 2 0 0) s m ar below meth c H locs 0 0 Q (F0 m 22 ls []) := by
    intro ls u12 H locs hUu12 hI hH hl
    refine lv_aload_n hx hb dX2_note_22 rfl (lv_at hl 0 rfl) ?_
    refine lv_aload_n hx hb dX2_note_23 rfl (lv_at hl 0 rfl) ?_
    refine va_get (ci := 2) (v := .int (gi u12 70)) (C := RX2) (T := TX2) (N := 6) hx hb hts (fun w h => uc_in w (inX2 w h)) hown hK hH.1 14 (cwc14 C A u12) rfl 2 (by decide) (hts _ (uc_in _ q_f304)) (fun _ h9 => h9) rfl dX2_note_24 ?_
    refine lv_aload_n hx hb dX2_note_27 rfl (lv_at hl 0 rfl) ?_
    refine va_get (ci := 2) (v := .ref (A 49)) (C := RX2) (T := TX2) (N := 6) hx hb hts (fun w h => uc_in w (inX2 w h)) hown hK hH.1 14 (cwc14 C A u12) rfl 5 (by decide) (hts _ (uc_in _ q_f308)) (fun _ h9 => h9) rfl dX2_note_28 ?_
    refine lv_iload_n hx hb dX2_note_31 rfl (lv_at hl 1 rfl) ?_
    refine va_iald hx hb hK hH.1 49 1 (cwc49 C A u12) rfl (i_ix ha0 (by omega) (by omega)) dX2_note_32 ?_
    refine p_any (fun z14 => ?_)
    refine va_mmax hx hb (by rw [hml]; exact hl.1.symm) hown (hts _ (uc_in _ q_m974)) (hts _ (uc_in _ q_s571)) (hts _ (uc_in _ q_i12)) (hts _ (uc_in _ q_c572)) (Nat.le_of_ble_eq_true rfl) (Nat.le_of_ble_eq_true rfl) (Nat.le_of_ble_eq_true rfl) (Nat.le_of_ble_eq_true rfl) dX2_note_33 ?_
    refine p_any (fun z15 => ?_)
    refine r_put (j := 70) (ci := 2) (C := RX2) (T := TX2) (N := 6) hx hb hts (fun w h => uc_in w (inX2 w h)) tyX2 tyX2_ok nmX2 hown hK hH 14 (cwc14 C A u12) rfl 2 (by decide) (hts _ (uc_in _ q_f304)) (fun _ h9 => h9) rfl (by decide +kernel) (Nat.le_of_ble_eq_true rfl) (cws70 C A u12 _) dX2_note_36 (fun u16 eu16 H locs hH => ?_)
    have hI := hI.pi0 eu16 rfl (by decide) (by decide)
    refine lv_aload_n hx hb dX2_note_39 rfl (lv_at hl 0 rfl) ?_
    refine lv_dup hx hb dX2_note_40 rfl ?_
    refine va_get (ci := 2) (v := .int (gi u16 68)) (C := RX2) (T := TX2) (N := 6) hx hb hts (fun w h => uc_in w (inX2 w h)) hown hK hH.1 14 (cwc14 C A u16) rfl 0 (by decide) (hts _ (uc_in _ q_f300)) (fun _ h9 => h9) rfl dX2_note_41 ?_
    refine pv_i (v := (gi u 68)) ((gi_ne eu16 (by decide)).trans ((hUu12.1 68 rfl).trans rfl)) ?_
    refine lv_iconst (v := 1) hx hb dX2_note_44 (by decide) ?_
    refine lv_iadd hx hb dX2_note_45 ?_
    refine p_any (fun z17 => ?_)
    refine r_put (j := 68) (ci := 2) (C := RX2) (T := TX2) (N := 6) hx hb hts (fun w h => uc_in w (inX2 w h)) tyX2 tyX2_ok nmX2 hown hK hH 14 (cwc14 C A u16) rfl 0 (by decide) (hts _ (uc_in _ q_f300)) (fun _ h9 => h9) rfl (by decide +kernel) (Nat.le_of_ble_eq_true rfl) (cws68 C A u16 _) dX2_note_46 (fun u18 eu18 H locs hH => ?_)
    have hI := hI.pi0 eu18 rfl (by decide) (by decide)
    exact hret _ _ _ _ _ dX2_note_49 ⟨hI, (Un.si (Un.si (Un.tr Un.rf hUu12 rfl rfl rfl) rfl eu16) rfl eu18), trivial⟩ hH
  refine lv_if_ne (tgt := 22) hx hb dX2_note_4 (by decide) (fun c1 => ?_) (fun c1 => ?_)
  · exact j22_12 ls u _ _ Un.rf hI hH (lv_sub hl [0, 1] rfl)
  · have c1 := cEQ (x := (gi u 68)) (y := 0) (X := ((gi u 68)).toInt) (Y := 0) rfl (by decide) c1
    refine lv_aload_n hx hb dX2_note_7 rfl (lv_at hl 0 rfl) ?_
    refine lv_iload_n hx hb dX2_note_8 rfl (lv_at hl 2 rfl) ?_
    refine r_put (j := 69) (ci := 2) (C := RX2) (T := TX2) (N := 6) hx hb hts (fun w h => uc_in w (inX2 w h)) tyX2 tyX2_ok nmX2 hown hK hH 14 (cwc14 C A u) rfl 1 (by decide) (hts _ (uc_in _ q_f302)) (fun _ h9 => h9) rfl (by decide +kernel) (Nat.le_of_ble_eq_true rfl) (cws69 C A u _) dX2_note_9 (fun u19 eu19 H locs hH => ?_)
    have hI := hI.pi0 eu19 rfl (by decide) (by decide)
    refine lv_aload_n hx hb dX2_note_12 rfl (lv_at hl 0 rfl) ?_
    refine lv_aload_n hx hb dX2_note_13 rfl (lv_at hl 0 rfl) ?_
    refine va_get (ci := 2) (v := .ref (A 49)) (C := RX2) (T := TX2) (N := 6) hx hb hts (fun w h => uc_in w (inX2 w h)) hown hK hH.1 14 (cwc14 C A u19) rfl 5 (by decide) (hts _ (uc_in _ q_f308)) (fun _ h9 => h9) rfl dX2_note_14 ?_
    refine lv_iload_n hx hb dX2_note_17 rfl (lv_at hl 1 rfl) ?_
    refine va_iald hx hb hK hH.1 49 1 (cwc49 C A u19) rfl (i_ix ha0 (by omega) (by omega)) dX2_note_18 ?_
    refine p_any (fun z20 => ?_)
    refine r_put (j := 70) (ci := 2) (C := RX2) (T := TX2) (N := 6) hx hb hts (fun w h => uc_in w (inX2 w h)) tyX2 tyX2_ok nmX2 hown hK hH 14 (cwc14 C A u19) rfl 2 (by decide) (hts _ (uc_in _ q_f304)) (fun _ h9 => h9) rfl (by decide +kernel) (Nat.le_of_ble_eq_true rfl) (cws70 C A u19 _) dX2_note_19 (fun u21 eu21 H locs hH => ?_)
    have hI := hI.pi0 eu21 rfl (by decide) (by decide)
    exact j22_12 ls u21 _ _ (Un.si (Un.si Un.rf rfl eu19) rfl eu21) hI hH (lv_sub hl [0, 1] rfl)
set_option maxHeartbeats 4000000 in
set_option maxRecDepth 100000 in
theorem kX2_run_0 (l : Launch) (D : va_G) (C : Nat → ClassId) (A : Nat → Nat) (u : St) (hI : IC u) (q1 : Nat) (hq1 : q1 < 109) (a2 : Int32) (A2 : Int) (ha2 : a2.toInt = A2) (a3 : Int32) (A3 : Int) (ha3 : a3.toInt = A3) (a4 : Int32) (A4 : Int) (ha4 : a4.toInt = A4) (hl3 : 0 ≤ A3) (hm3 : A3 ≤ 5) (hl4 : 0 ≤ A4) (hm4 : A4 ≤ 5) (sz : Nat) : MetV l yX2_run cX2_run 9 3 [.ref (A 14), .ref (A 2), .ref (A (52 + q1)), .int a2, .int a3, .int a4] D (tyl C) (cw C A) X0 u sz (fun u' => IC u' ∧ Un [(68, 68), (69, 69), (70, 70)] [(48, 48), (49, 49), (81, 81)] [] u u' ∧ True) := by
  refine mV (by decide) (Nat.le_of_ble_eq_true rfl) ?_
  intro p e s m below meth c ls ar Q hx hb hml hown hts hK hH hX hl hret
  have hown : s.vm.findClass RX2 = some m.cls := hown
  have hl : lv_has ls 9 [(0, .ref (A 14)), (1, .ref (A 2)), (2, .ref (A (52 + q1))), (3, .int a2), (4, .int a3), (5, .int a4)] := hl
  refine lv_aload_n hx hb dX2_run_0 rfl (lv_at hl 2 rfl) ?_
  refine lv_iconst (v := 0) hx hb dX2_run_1 (by decide) ?_
  refine lv_aload_n hx hb dX2_run_2 rfl (lv_at hl 0 rfl) ?_
  refine va_get (ci := 2) (v := .ref (A 81)) (C := RX2) (T := TX2) (N := 6) hx hb hts (fun w h => uc_in w (inX2 w h)) hown hK hH.1 14 (cwc14 C A u) rfl 3 (by decide) (hts _ (uc_in _ q_f306)) (fun _ h9 => h9) rfl dX2_run_3 ?_
  refine lv_iconst (v := 0) hx hb dX2_run_6 (by decide) ?_
  refine lv_bipush (v := 6) hx hb dX2_run_7 (by decide) ?_
  refine r_copyi (j0 := (52 + q1)) (j1 := 81) (S' := 0) (P' := 0) (N' := 6) hx hb (by rw [hml]; exact hl.1.symm) hown (hts _ (uc_in _ q_m960)) (hts _ (uc_in _ q_t562)) (hts _ (uc_in _ q_s561)) (hts _ (uc_in _ q_i17)) hK hH (52 + q1) 81 1 (cwp C A u q1 hq1) (cwc81 C A u) rfl (by decide) (by decide) (by decide) (by decide) (by decide) (by decide) (by decide) (by decide) (cwa81 C A u) (Nat.le_of_ble_eq_true rfl) (Nat.le_of_ble_eq_true rfl) dX2_run_9 (fun u1 eu1 H locs hH => ?_)
  have hI := hI.pa0 eu1 (by decide)
  refine lv_iconst (v := 0) hx hb dX2_run_12 (by decide) ?_
  refine lv_istore (lv' := [(6, .int 0), (0, .ref (A 14)), (1, .ref (A 2)), (2, .ref (A (52 + q1))), (3, .int a2), (4, .int a3), (5, .int a4)]) hx hb dX2_run_13 hl (by decide) rfl (fun ls hl => ?_)
  have lp15_878 : ∀ (n15 : Nat) (ls : Array Slot) (y877d : Int32) (u878 : St) (H : Heap) (locs : List Loc), 0 ≤ y877d.toInt → y877d.toInt ≤ 36 → 36 - y877d.toInt < (n15 : Int) → Un [(68, 68), (69, 69), (70, 70)] [(48, 48), (49, 49), (81, 81)] [] u1 u878 → IC u878 → Hd D (cw C A) (va_A (cw C A u) s.heap.size) s.heap u878 H locs → lv_has ls 9 [(6, .int y877d), (0, .ref (A 14)), (1, .ref (A 2)), (2, .ref (A (52 + q1))), (3, .int a2), (4, .int a3), (5, .int a4)] → W p l e (rmL 3 0 0) s m ar below meth c H locs 0 0 Q (F0 m 15 ls []) := by
    intro n15
    induction n15 with
    | zero => intro ls y877d u878 H locs ly877d my877d hmun15 hUu878 hI hH hl; exfalso; omega
    | succ n15 ih15_878 =>
      intro ls y877d u878 H locs ly877d my877d hmun15 hUu878 hI hH hl
      refine lv_iload hx hb dX2_run_15 (lv_at hl 0 rfl) ?_
      refine lv_bipush (v := 36) hx hb dX2_run_17 (by decide) ?_
      refine lv_icmp_ge (tgt := 92) hx hb dX2_run_19 (by decide) (fun c880 => ?_) (fun c880 => ?_)
      · have c880 := cLE (x := 36) (y := y877d) (X := 36) (Y := y877d.toInt) (by decide) rfl c880
        refine lv_aload_n hx hb dX2_run_92 rfl (lv_at hl 1 rfl) ?_
        refine lv_iconst (v := 0) hx hb dX2_run_93 (by decide) ?_
        refine r_put (j := 68) (ci := 2) (C := RX2) (T := TX2) (N := 6) hx hb hts (fun w h => uc_in w (inX2 w h)) tyX2 tyX2_ok nmX2 hown hK hH 14 (cwc14 C A u878) rfl 0 (by decide) (hts _ (uc_in _ q_f300)) (fun _ h9 => h9) rfl (by decide +kernel) (Nat.le_of_ble_eq_true rfl) (cws68 C A u878 _) dX2_run_94 (fun u881 eu881 H locs hH => ?_)
        have hI := hI.pi0 eu881 rfl (by decide) (by decide)
        refine lv_aload_n hx hb dX2_run_97 rfl (lv_at hl 1 rfl) ?_
        refine lv_iconst (v := (-1)) hx hb dX2_run_98 (by decide) ?_
        refine r_put (j := 69) (ci := 2) (C := RX2) (T := TX2) (N := 6) hx hb hts (fun w h => uc_in w (inX2 w h)) tyX2 tyX2_ok nmX2 hown hK hH 14 (cwc14 C A u881) rfl 1 (by decide) (hts _ (uc_in _ q_f302)) (fun _ h9 => h9) rfl (by decide +kernel) (Nat.le_of_ble_eq_true rfl) (cws69 C A u881 _) dX2_run_99 (fun u882 eu882 H locs hH => ?_)
        have hI := hI.pi0 eu882 rfl (by decide) (by decide)
        refine lv_aload_n hx hb dX2_run_102 rfl (lv_at hl 1 rfl) ?_
        refine lv_sipush (v := 10000) hx hb dX2_run_103 (by decide) ?_
        refine r_put (j := 70) (ci := 2) (C := RX2) (T := TX2) (N := 6) hx hb hts (fun w h => uc_in w (inX2 w h)) tyX2 tyX2_ok nmX2 hown hK hH 14 (cwc14 C A u882) rfl 2 (by decide) (hts _ (uc_in _ q_f304)) (fun _ h9 => h9) rfl (by decide +kernel) (Nat.le_of_ble_eq_true rfl) (cws70 C A u882 _) dX2_run_106 (fun u883 eu883 H locs hH => ?_)
        have hI := hI.pi0 eu883 rfl (by decide) (by decide)
        refine lv_iconst (v := 0) hx hb dX2_run_109 (by decide) ?_
        refine lv_istore (lv' := [(6, .int 0), (0, .ref (A 14)), (1, .ref (A 2)), (2, .ref (A (52 + q1))), (3, .int a2), (4, .int a3), (5, .int a4)]) hx hb dX2_run_110 hl (by decide) rfl (fun ls hl => ?_)
        have lp112_1209 : ∀ (n112 : Nat) (ls : Array Slot) (y1208d : Int32) (u1209 : St) (H : Heap) (locs : List Loc), 0 ≤ y1208d.toInt → y1208d.toInt ≤ 36 → 36 - y1208d.toInt < (n112 : Int) → Un [(68, 68), (69, 69), (70, 70)] [] [] u883 u1209 → IC u1209 → Hd D (cw C A) (va_A (cw C A u) s.heap.size) s.heap u1209 H locs → lv_has ls 9 [(6, .int y1208d), (0, .ref (A 14)), (1, .ref (A 2)), (4, .int a3), (5, .int a4)] → W p l e (rmL 3 0 0) s m ar below meth c H locs 0 0 Q (F0 m 112 ls []) := by
          intro n112
          induction n112 with
          | zero => intro ls y1208d u1209 H locs ly1208d my1208d hmun112 hUu1209 hI hH hl; exfalso; omega
          | succ n112 ih112_1209 =>
            intro ls y1208d u1209 H locs ly1208d my1208d hmun112 hUu1209 hI hH hl
            refine lv_iload hx hb dX2_run_112 (lv_at hl 0 rfl) ?_
            refine lv_bipush (v := 36) hx hb dX2_run_114 (by decide) ?_
            refine lv_icmp_ge (tgt := 187) hx hb dX2_run_116 (by decide) (fun c1211 => ?_) (fun c1211 => ?_)
            · have c1211 := cLE (x := 36) (y := y1208d) (X := 36) (Y := y1208d.toInt) (by decide) rfl c1211
              exact hret _ _ _ _ _ dX2_run_187 ⟨hI, (Un.tr (Un.si (Un.si (Un.si (Un.tr (Un.sa Un.rf rfl eu1) hUu878 rfl rfl rfl) rfl eu881) rfl eu882) rfl eu883) hUu1209 rfl rfl rfl), trivial⟩ hH
            · have c1211 := cNLE (x := 36) (y := y1208d) (X := 36) (Y := y1208d.toInt) (by decide) rfl c1211
              refine lv_iload hx hb dX2_run_119 (lv_at hl 0 rfl) ?_
              refine lv_bipush (v := 6) hx hb dX2_run_121 (by decide) ?_
              refine lv_idiv hx hb dX2_run_123 (by decide) ?_
              refine p_nm (tt_div 6 rfl (by decide) (by omega) (by decide)) (fun z1212 hz1212 => ?_)
              refine lv_istore (lv' := [(7, .int z1212), (6, .int y1208d), (0, .ref (A 14)), (1, .ref (A 2)), (4, .int a3), (5, .int a4)]) hx hb dX2_run_124 hl (by decide) rfl (fun ls hl => ?_)
              refine lv_iload hx hb dX2_run_126 (lv_at hl 1 rfl) ?_
              refine lv_bipush (v := 6) hx hb dX2_run_128 (by decide) ?_
              refine lv_irem hx hb dX2_run_130 (by decide) ?_
              refine p_nm (tt_rem 6 rfl (by decide) (by omega) (by decide)) (fun z1213 hz1213 => ?_)
              refine lv_istore (lv' := [(8, .int z1213), (7, .int z1212), (6, .int y1208d), (0, .ref (A 14)), (1, .ref (A 2)), (4, .int a3), (5, .int a4)]) hx hb dX2_run_131 hl (by decide) rfl (fun ls hl => ?_)
              refine lv_aload_n hx hb dX2_run_133 rfl (lv_at hl 3 rfl) ?_
              refine lv_aload_n hx hb dX2_run_134 rfl (lv_at hl 4 rfl) ?_
              refine lv_iload hx hb dX2_run_135 (lv_at hl 5 rfl) ?_
              refine lv_iload hx hb dX2_run_137 (lv_at hl 1 rfl) ?_
              refine lv_iload hx hb dX2_run_139 (lv_at hl 0 rfl) ?_
              refine lv_bipush (v := 6) hx hb dX2_run_141 (by decide) ?_
              refine lv_iconst (v := 1) hx hb dX2_run_143 (by decide) ?_
              refine cvS (n := 6) (As := [.ref (A 2), .int a3, .int z1212, .int z1213, .int 6, .int 1]) (rest := []) ⟨hx, hb, hml, hown, hts⟩ uc_in (kX2_isBest_0 l D C A u1209 hI a3 A3 ha3 z1212 (y1208d.toInt / 6) hz1212 z1213 (y1208d.toInt % 6) hz1213 (by omega) (by omega) (by omega) (by omega) (by omega) (by omega)) q_m963 q_n965 q_p38 q_i8 q_c966 hvX2_isBest ⟨(Nat.le_of_ble_eq_true rfl), (Nat.le_of_ble_eq_true rfl)⟩ ⟨(Nat.le_of_ble_eq_true rfl), (Nat.le_of_ble_eq_true rfl)⟩ hK hH.1 2 14 rfl (cwc14 C A u1209) rfl hl.1 rfl (Nat.le_of_ble_eq_true rfl) dX2_run_144 (fun r1214 p1215 => ?_)
              have p1215 : 0 ≤ r1214.toInt ∧ r1214.toInt ≤ 1 := p1215
              have j181_1228 : ∀ (ls : Array Slot) (u1228 : St) (H : Heap) (locs : List Loc), Un [(68, 68), (69, 69), (70, 70)] [] [] u1209 u1228 → IC u1228 → Hd D (cw C A) (va_A (cw C A u) s.heap.size) s.heap u1228 H locs → lv_has ls 9 [(6, .int y1208d), (0, .ref (A 14)), (1, .ref (A 2)), (4, .int a3), (5, .int a4)] → W p l e (rmL 3 0 0) s m ar below meth c H locs 0 0 Q (F0 m 181 ls []) := by
                intro ls u1228 H locs hUu1228 hI hH hl
                obtain ⟨z1230, ez1230⟩ : ∃ z, z = y1208d + Int32.ofInt 1 := ⟨_, rfl⟩
                have hz1230 : z1230.toInt = y1208d.toInt + 1 := by rw [ez1230]; exact tt_add rfl (by decide) (by omega) (by omega)
                refine lv_iinc (v := z1230) (lv' := [(6, .int z1230), (0, .ref (A 14)), (1, .ref (A 2)), (4, .int a3), (5, .int a4)]) hx hb dX2_run_181 hl (k := 0) rfl ez1230.symm (by decide) rfl (fun ls hl => ?_)
                refine lv_goto (tgt := 112) hx hb dX2_run_184 (by decide) ?_
                exact ih112_1209 ls z1230 u1228 _ _ (by have q9 := (show z1230.toInt = (y1208d.toInt + 1) from hz1230); omega) (by have q9 := (show z1230.toInt = (y1208d.toInt + 1) from hz1230); omega) (by have q9 := (show z1230.toInt = (y1208d.toInt + 1) from hz1230); omega) (Un.tr hUu1209 hUu1228 rfl rfl rfl) hI hH hl
              refine lv_if_eq (tgt := 181) hx hb dX2_run_147 (by decide) (fun c1216 => ?_) (fun c1216 => ?_)
              · have c1216 := cEQ (x := r1214) (y := 0) (X := r1214.toInt) (Y := 0) rfl (by decide) c1216
                exact j181_1228 ls u1209 _ _ Un.rf hI hH (lv_sub hl [2, 3, 4, 5, 6] rfl)
              · have c1216 := cNE (x := r1214) (y := 0) (X := r1214.toInt) (Y := 0) rfl (by decide) c1216
                refine lv_aload_n hx hb dX2_run_150 rfl (lv_at hl 3 rfl) ?_
                refine lv_aload_n hx hb dX2_run_151 rfl (lv_at hl 4 rfl) ?_
                refine lv_iload hx hb dX2_run_152 (lv_at hl 6 rfl) ?_
                refine lv_iload hx hb dX2_run_154 (lv_at hl 0 rfl) ?_
                refine lv_iload hx hb dX2_run_156 (lv_at hl 1 rfl) ?_
                refine lv_iconst (v := 1) hx hb dX2_run_158 (by decide) ?_
                refine lv_bipush (v := 6) hx hb dX2_run_159 (by decide) ?_
                refine cvS (n := 6) (As := [.ref (A 2), .int a4, .int z1213, .int z1212, .int 1, .int 6]) (rest := []) ⟨hx, hb, hml, hown, hts⟩ uc_in (kX2_isBest_1 l D C A u1209 hI a4 A4 ha4 z1213 (y1208d.toInt % 6) hz1213 z1212 (y1208d.toInt / 6) hz1212 (by omega) (by omega) (by omega) (by omega) (by omega) (by omega)) q_m963 q_n965 q_p38 q_i8 q_c966 hvX2_isBest ⟨(Nat.le_of_ble_eq_true rfl), (Nat.le_of_ble_eq_true rfl)⟩ ⟨(Nat.le_of_ble_eq_true rfl), (Nat.le_of_ble_eq_true rfl)⟩ hK hH.1 2 14 rfl (cwc14 C A u1209) rfl hl.1 rfl (Nat.le_of_ble_eq_true rfl) dX2_run_161 (fun r1231 p1232 => ?_)
                have p1232 : 0 ≤ r1231.toInt ∧ r1231.toInt ≤ 1 := p1232
                refine lv_if_eq (tgt := 181) hx hb dX2_run_164 (by decide) (fun c1233 => ?_) (fun c1233 => ?_)
                · have c1233 := cEQ (x := r1231) (y := 0) (X := r1231.toInt) (Y := 0) rfl (by decide) c1233
                  exact j181_1228 ls u1209 _ _ Un.rf hI hH (lv_sub hl [2, 3, 4, 5, 6] rfl)
                · have c1233 := cNE (x := r1231) (y := 0) (X := r1231.toInt) (Y := 0) rfl (by decide) c1233
                  refine lv_aload_n hx hb dX2_run_167 rfl (lv_at hl 3 rfl) ?_
                  refine lv_iload hx hb dX2_run_168 (lv_at hl 2 rfl) ?_
                  refine lv_bipush (v := 10) hx hb dX2_run_170 (by decide) ?_
                  refine lv_iload hx hb dX2_run_172 (lv_at hl 1 rfl) ?_
                  refine lv_imul hx hb dX2_run_174 ?_
                  refine p_nm (tt_mul (X := 10) (Y := (y1208d.toInt / 6)) (by decide) hz1212 (by omega) (by omega)) (fun z1234 hz1234 => ?_)
                  refine lv_iload hx hb dX2_run_175 (lv_at hl 0 rfl) ?_
                  refine lv_iadd hx hb dX2_run_177 ?_
                  refine p_nm (tt_add (X := (10 * (y1208d.toInt / 6))) (Y := (y1208d.toInt % 6)) hz1234 hz1213 (by omega) (by omega)) (fun z1235 hz1235 => ?_)
                  refine cvU (n := 2) (As := [.int y1208d, .int z1235]) (rest := []) ⟨hx, hb, hml, hown, hts⟩ uc_in (kX2_note_0 l D C A u1209 hI y1208d y1208d.toInt rfl z1235 ((10 * (y1208d.toInt / 6)) + (y1208d.toInt % 6)) hz1235 (by omega) (by omega) _) q_m970 q_n972 q_p39 q_i8 q_c973 hvX2_note ⟨(Nat.le_of_ble_eq_true rfl), (Nat.le_of_ble_eq_true rfl)⟩ ⟨(Nat.le_of_ble_eq_true rfl), (Nat.le_of_ble_eq_true rfl)⟩ hK hH (fun q h => Or.inr h) Bl0 (fun _ _ _ => trivial) 2 14 rfl (cwc14 C A u1209) rfl hl.1 rfl (Nat.le_of_ble_eq_true rfl) dX2_run_178 (fun u1236 H locs p1238 hH => ?_)
                  obtain ⟨hI, hUu1236, p1238⟩ := p1238
                  exact j181_1228 ls u1236 _ _ (Un.tr Un.rf hUu1236 rfl rfl rfl) hI hH (lv_sub hl [2, 3, 4, 5, 6] rfl)
        exact lp112_1209 37 ls 0 u883 _ _ (by decide) (by decide) (by have q9 : (0 : Int32).toInt = 0 := (by decide); omega) Un.rf hI hH (lv_sub hl [0, 1, 2, 5, 6] rfl)
      · have c880 := cNLE (x := 36) (y := y877d) (X := 36) (Y := y877d.toInt) (by decide) rfl c880
        refine lv_aload_n hx hb dX2_run_22 rfl (lv_at hl 1 rfl) ?_
        refine va_get (ci := 2) (v := .ref (A 81)) (C := RX2) (T := TX2) (N := 6) hx hb hts (fun w h => uc_in w (inX2 w h)) hown hK hH.1 14 (cwc14 C A u878) rfl 3 (by decide) (hts _ (uc_in _ q_f306)) (fun _ h9 => h9) rfl dX2_run_23 ?_
        refine lv_iload hx hb dX2_run_26 (lv_at hl 5 rfl) ?_
        refine lv_aload_n hx hb dX2_run_28 rfl (lv_at hl 3 rfl) ?_
        refine lv_iload hx hb dX2_run_29 (lv_at hl 5 rfl) ?_
        refine va_iald hx hb hK hH.1 (52 + q1) 1 (cwp C A u878 q1 hq1) rfl (i_ix ha3 (by omega) (by omega)) dX2_run_31 ?_
        refine p_any (fun z1239 => ?_)
        refine lv_iload hx hb dX2_run_32 (lv_at hl 0 rfl) ?_
        refine lv_bipush (v := 6) hx hb dX2_run_34 (by decide) ?_
        refine lv_idiv hx hb dX2_run_36 (by decide) ?_
        refine p_nm (tt_div 6 rfl (by decide) (by omega) (by decide)) (fun z1240 hz1240 => ?_)
        refine lv_iadd hx hb dX2_run_37 ?_
        refine p_any (fun z1241 => ?_)
        refine r_iast (j := 81) hx hb hK hH 81 1 (cwc81 C A u878) rfl (i_ix ha3 (by omega) (by omega)) (cwa81 C A u878) dX2_run_38 (fun u1242 eu1242 H locs hH => ?_)
        have hI := hI.pa0 eu1242 (by decide)
        refine lv_aload_n hx hb dX2_run_39 rfl (lv_at hl 1 rfl) ?_
        refine va_get (ci := 2) (v := .ref (A 81)) (C := RX2) (T := TX2) (N := 6) hx hb hts (fun w h => uc_in w (inX2 w h)) hown hK hH.1 14 (cwc14 C A u1242) rfl 3 (by decide) (hts _ (uc_in _ q_f306)) (fun _ h9 => h9) rfl dX2_run_40 ?_
        refine lv_iload hx hb dX2_run_43 (lv_at hl 6 rfl) ?_
        refine lv_aload_n hx hb dX2_run_45 rfl (lv_at hl 3 rfl) ?_
        refine lv_iload hx hb dX2_run_46 (lv_at hl 6 rfl) ?_
        refine va_iald hx hb hK hH.1 (52 + q1) 1 (cwp C A u1242 q1 hq1) rfl (i_ix ha4 (by omega) (by omega)) dX2_run_48 ?_
        refine p_any (fun z1243 => ?_)
        refine lv_iload hx hb dX2_run_49 (lv_at hl 0 rfl) ?_
        refine lv_bipush (v := 6) hx hb dX2_run_51 (by decide) ?_
        refine lv_irem hx hb dX2_run_53 (by decide) ?_
        refine p_nm (tt_rem 6 rfl (by decide) (by omega) (by decide)) (fun z1244 hz1244 => ?_)
        refine lv_iadd hx hb dX2_run_54 ?_
        refine p_any (fun z1245 => ?_)
        refine r_iast (j := 81) hx hb hK hH 81 1 (cwc81 C A u1242) rfl (i_ix ha4 (by omega) (by omega)) (cwa81 C A u1242) dX2_run_55 (fun u1246 eu1246 H locs hH => ?_)
        have hI := hI.pa0 eu1246 (by decide)
        refine lv_aload_n hx hb dX2_run_56 rfl (lv_at hl 1 rfl) ?_
        refine va_get (ci := 2) (v := .ref (A 48)) (C := RX2) (T := TX2) (N := 6) hx hb hts (fun w h => uc_in w (inX2 w h)) hown hK hH.1 14 (cwc14 C A u1246) rfl 4 (by decide) (hts _ (uc_in _ q_f307)) (fun _ h9 => h9) rfl dX2_run_57 ?_
        refine lv_iload hx hb dX2_run_60 (lv_at hl 0 rfl) ?_
        refine lv_aload_n hx hb dX2_run_62 rfl (lv_at hl 1 rfl) ?_
        refine va_get (ci := 2) (v := .ref (A 81)) (C := RX2) (T := TX2) (N := 6) hx hb hts (fun w h => uc_in w (inX2 w h)) hown hK hH.1 14 (cwc14 C A u1246) rfl 3 (by decide) (hts _ (uc_in _ q_f306)) (fun _ h9 => h9) rfl dX2_run_63 ?_
        refine lv_iload_n hx hb dX2_run_66 rfl (lv_at hl 4 rfl) ?_
        refine csS (n := 2) (As := [.ref (A 81), .int a2]) (rest := [.int y877d, .ref (A 48)]) ⟨hx, hb, hml, hown, hts⟩ uc_in (kX5_lastOf_0 l D C A u1246 hI 29 (by decide) a2 A2 ha2) q_m961 q_s613 q_i4 q_c614 hvX5_lastOf ⟨(Nat.le_of_ble_eq_true rfl), (Nat.le_of_ble_eq_true rfl)⟩ ⟨(Nat.le_of_ble_eq_true rfl), (Nat.le_of_ble_eq_true rfl)⟩ hK hH.1 rfl hl.1 rfl (Nat.le_of_ble_eq_true rfl) dX2_run_67 (fun r1247 p1248 => ?_)
        have p1248 : (-1) ≤ r1247.toInt ∧ r1247.toInt ≤ 5 := p1248
        refine r_iast (j := 48) hx hb hK hH 48 1 (cwc48 C A u1246) rfl (i_ix rfl (by omega) (by omega)) (cwa48 C A u1246) dX2_run_70 (fun u1249 eu1249 H locs hH => ?_)
        have hI := hI.pa0 eu1249 (by decide)
        refine lv_aload_n hx hb dX2_run_71 rfl (lv_at hl 1 rfl) ?_
        refine va_get (ci := 2) (v := .ref (A 49)) (C := RX2) (T := TX2) (N := 6) hx hb hts (fun w h => uc_in w (inX2 w h)) hown hK hH.1 14 (cwc14 C A u1249) rfl 5 (by decide) (hts _ (uc_in _ q_f308)) (fun _ h9 => h9) rfl dX2_run_72 ?_
        refine lv_iload hx hb dX2_run_75 (lv_at hl 0 rfl) ?_
        refine lv_aload_n hx hb dX2_run_77 rfl (lv_at hl 1 rfl) ?_
        refine va_get (ci := 2) (v := .ref (A 81)) (C := RX2) (T := TX2) (N := 6) hx hb hts (fun w h => uc_in w (inX2 w h)) hown hK hH.1 14 (cwc14 C A u1249) rfl 3 (by decide) (hts _ (uc_in _ q_f306)) (fun _ h9 => h9) rfl dX2_run_78 ?_
        refine lv_iload_n hx hb dX2_run_81 rfl (lv_at hl 4 rfl) ?_
        refine csS (n := 2) (As := [.ref (A 81), .int a2]) (rest := [.int y877d, .ref (A 49)]) ⟨hx, hb, hml, hown, hts⟩ uc_in (kX5_noonOf_0 l D C A u1249 hI 29 (by decide) a2 A2 ha2) q_m962 q_s610 q_i4 q_c611 hvX5_noonOf ⟨(Nat.le_of_ble_eq_true rfl), (Nat.le_of_ble_eq_true rfl)⟩ ⟨(Nat.le_of_ble_eq_true rfl), (Nat.le_of_ble_eq_true rfl)⟩ hK hH.1 rfl hl.1 rfl (Nat.le_of_ble_eq_true rfl) dX2_run_82 (fun r1250 p1251 => ?_)
        refine r_iast (j := 49) hx hb hK hH 49 1 (cwc49 C A u1249) rfl (i_ix rfl (by omega) (by omega)) (cwa49 C A u1249) dX2_run_85 (fun u1252 eu1252 H locs hH => ?_)
        have hI := hI.pa0 eu1252 (by decide)
        obtain ⟨z1253, ez1253⟩ : ∃ z, z = y877d + Int32.ofInt 1 := ⟨_, rfl⟩
        have hz1253 : z1253.toInt = y877d.toInt + 1 := by rw [ez1253]; exact tt_add rfl (by decide) (by omega) (by omega)
        refine lv_iinc (v := z1253) (lv' := [(6, .int z1253), (0, .ref (A 14)), (1, .ref (A 2)), (2, .ref (A (52 + q1))), (3, .int a2), (4, .int a3), (5, .int a4)]) hx hb dX2_run_86 hl (k := 0) rfl ez1253.symm (by decide) rfl (fun ls hl => ?_)
        refine lv_goto (tgt := 15) hx hb dX2_run_89 (by decide) ?_
        exact ih15_878 ls z1253 u1252 _ _ (by have q9 := (show z1253.toInt = (y877d.toInt + 1) from hz1253); omega) (by have q9 := (show z1253.toInt = (y877d.toInt + 1) from hz1253); omega) (by have q9 := (show z1253.toInt = (y877d.toInt + 1) from hz1253); omega) (Un.sa (Un.sa (Un.sa (Un.sa hUu878 rfl eu1242) rfl eu1246) rfl eu1249) rfl eu1252) hI hH hl
  exact lp15_878 37 ls 0 u1 _ _ (by decide) (by decide) (by have q9 : (0 : Int32).toInt = 0 := (by decide); omega) Un.rf hI hH hl
set_option maxHeartbeats 4000000 in
set_option maxRecDepth 100000 in
theorem kX9_hasRace_0 (l : Launch) (D : va_G) (C : Nat → ClassId) (A : Nat → Nat) (u : St) (hI : IC u) (a0 : Int32) (A0 : Int) (ha0 : a0.toInt = A0) (a1 : Int32) (A1 : Int) (ha1 : a1.toInt = A1) (a2 : Int32) (A2 : Int) (ha2 : a2.toInt = A2) (sz : Nat) : MetI l yX9_hasRace cX9_hasRace 4 (some .boolean) 4 [.ref (A 0), .int a0, .int a1, .int a2] D (tyl C) (cw C A) X0 u sz (fun r u' => IC u' ∧ Un [(68, 68), (69, 69), (70, 70)] [(48, 48), (49, 49), (81, 81)] [] u u' ∧ (0 ≤ r.toInt ∧ r.toInt ≤ 1)) := by
  refine mI (by decide) (Nat.le_of_ble_eq_true rfl) ?_
  intro p e s m below meth c ls ar Q hx hb hml hown hts hK hH hX hl hret
  have hown : s.vm.findClass RX9 = some m.cls := hown
  have hl : lv_has ls 4 [(0, .ref (A 0)), (1, .int a0), (2, .int a1), (3, .int a2)] := hl
  refine lv_aload_n hx hb dX9_hasRace_0 rfl (lv_at hl 0 rfl) ?_
  refine lv_iload_n hx hb dX9_hasRace_1 rfl (lv_at hl 1 rfl) ?_
  refine cvS (n := 1) (As := [.int a0]) (rest := []) ⟨hx, hb, hml, hown, hts⟩ uc_in (kX9_isClock_0 l D C A u hI a0 A0 ha0) q_m589 q_n591 q_p11 q_i1 q_c592 hvX9_isClock ⟨(Nat.le_of_ble_eq_true rfl), (Nat.le_of_ble_eq_true rfl)⟩ ⟨(Nat.le_of_ble_eq_true rfl), (Nat.le_of_ble_eq_true rfl)⟩ hK hH.1 9 0 rfl (cwc0 C A u) rfl hl.1 rfl (Nat.le_of_ble_eq_true rfl) dX9_hasRace_2 (fun r1 p2 => ?_)
  rcases p2 with ⟨e9, f3, f4⟩ | e9
  · subst e9
    have b6 := hI.b49
    refine lv_if_eq (tgt := 29) hx hb dX9_hasRace_5 (by decide) (fun c7 => absurd c7 (by decide)) (fun c7 => ?_)
    refine lv_aload_n hx hb dX9_hasRace_8 rfl (lv_at hl 0 rfl) ?_
    refine lv_iload_n hx hb dX9_hasRace_9 rfl (lv_at hl 2 rfl) ?_
    refine cvS (n := 1) (As := [.int a1]) (rest := []) ⟨hx, hb, hml, hown, hts⟩ uc_in (kX9_isClock_0 l D C A u hI a1 A1 ha1) q_m589 q_n591 q_p11 q_i1 q_c592 hvX9_isClock ⟨(Nat.le_of_ble_eq_true rfl), (Nat.le_of_ble_eq_true rfl)⟩ ⟨(Nat.le_of_ble_eq_true rfl), (Nat.le_of_ble_eq_true rfl)⟩ hK hH.1 9 0 rfl (cwc0 C A u) rfl hl.1 rfl (Nat.le_of_ble_eq_true rfl) dX9_hasRace_10 (fun r8 p9 => ?_)
    rcases p9 with ⟨e9, f10, f11⟩ | e9
    · subst e9
      refine lv_if_eq (tgt := 29) hx hb dX9_hasRace_13 (by decide) (fun c12 => absurd c12 (by decide)) (fun c12 => ?_)
      refine lv_iload_n hx hb dX9_hasRace_16 rfl (lv_at hl 1 rfl) ?_
      refine lv_iload_n hx hb dX9_hasRace_17 rfl (lv_at hl 2 rfl) ?_
      refine lv_icmp_eq (tgt := 29) hx hb dX9_hasRace_18 (by decide) (fun c13 => ?_) (fun c13 => ?_)
      · have c13 := cEQ (x := a0) (y := a1) (X := A0) (Y := A1) ha0 ha1 c13
        refine lv_iconst (v := 0) hx hb dX9_hasRace_29 (by decide) ?_
        exact hret _ _ _ _ (0 : Int32) _ dX9_hasRace_30 rfl ⟨hI, Un.rf, ⟨by decide, by decide⟩⟩ hH
      · refine lv_aload_n hx hb dX9_hasRace_21 rfl (lv_at hl 0 rfl) ?_
        refine lv_iload_n hx hb dX9_hasRace_22 rfl (lv_at hl 3 rfl) ?_
        refine cvS (n := 1) (As := [.int a2]) (rest := []) ⟨hx, hb, hml, hown, hts⟩ uc_in (kX9_isDay_0 l D C A u hI a2 A2 ha2) q_m597 q_n599 q_p12 q_i1 q_c600 hvX9_isDay ⟨(Nat.le_of_ble_eq_true rfl), (Nat.le_of_ble_eq_true rfl)⟩ ⟨(Nat.le_of_ble_eq_true rfl), (Nat.le_of_ble_eq_true rfl)⟩ hK hH.1 9 0 rfl (cwc0 C A u) rfl hl.1 rfl (Nat.le_of_ble_eq_true rfl) dX9_hasRace_23 (fun r14 p15 => ?_)
        rcases p15 with ⟨e9, f16, f17⟩ | e9
        · subst e9
          have b19 := hI.b48
          refine lv_if_ne (tgt := 31) hx hb dX9_hasRace_26 (by decide) (fun c20 => ?_) (fun c20 => absurd c20 (by decide))
          refine lv_aload_n hx hb dX9_hasRace_31 rfl (lv_at hl 0 rfl) ?_
          refine va_get (ci := 9) (v := .ref (A 7)) (C := RX9) (T := TX9) (N := 12) hx hb hts (fun w h => uc_in w (inX9 w h)) hown hK hH.1 0 (cwc0 C A u) rfl 5 (by decide) (hts _ (uc_in _ q_f388)) (fun _ h9 => h9) rfl dX9_hasRace_32 ?_
          refine lv_iload_n hx hb dX9_hasRace_35 rfl (lv_at hl 1 rfl) ?_
          refine lv_iload_n hx hb dX9_hasRace_36 rfl (lv_at hl 3 rfl) ?_
          refine cvS (n := 2) (As := [.int a0, .int a2]) (rest := []) ⟨hx, hb, hml, hown, hts⟩ uc_in (kX5_strikes_0 l D C A u hI a0 A0 ha0 a2 A2 ha2 (by omega) (by omega) (by omega) (by omega)) q_m737 q_n738 q_e739 q_i4 q_c740 hvX5_strikes ⟨(Nat.le_of_ble_eq_true rfl), (Nat.le_of_ble_eq_true rfl)⟩ ⟨(Nat.le_of_ble_eq_true rfl), (Nat.le_of_ble_eq_true rfl)⟩ hK hH.1 5 7 rfl (cwc7 C A u) rfl hl.1 rfl (Nat.le_of_ble_eq_true rfl) dX9_hasRace_37 (fun r21 p22 => ?_)
          have p22 : 0 ≤ r21.toInt ∧ r21.toInt ≤ 1 := p22
          refine lv_if_eq (tgt := 55) hx hb dX9_hasRace_40 (by decide) (fun c23 => ?_) (fun c23 => ?_)
          · have c23 := cEQ (x := r21) (y := 0) (X := r21.toInt) (Y := 0) rfl (by decide) c23
            refine lv_iconst (v := 0) hx hb dX9_hasRace_55 (by decide) ?_
            exact hret _ _ _ _ (0 : Int32) _ dX9_hasRace_56 rfl ⟨hI, Un.rf, ⟨by decide, by decide⟩⟩ hH
          · have c23 := cNE (x := r21) (y := 0) (X := r21.toInt) (Y := 0) rfl (by decide) c23
            refine lv_aload_n hx hb dX9_hasRace_43 rfl (lv_at hl 0 rfl) ?_
            refine va_get (ci := 9) (v := .ref (A 7)) (C := RX9) (T := TX9) (N := 12) hx hb hts (fun w h => uc_in w (inX9 w h)) hown hK hH.1 0 (cwc0 C A u) rfl 5 (by decide) (hts _ (uc_in _ q_f388)) (fun _ h9 => h9) rfl dX9_hasRace_44 ?_
            refine lv_iload_n hx hb dX9_hasRace_47 rfl (lv_at hl 2 rfl) ?_
            refine lv_iload_n hx hb dX9_hasRace_48 rfl (lv_at hl 3 rfl) ?_
            refine cvS (n := 2) (As := [.int a1, .int a2]) (rest := []) ⟨hx, hb, hml, hown, hts⟩ uc_in (kX5_strikes_0 l D C A u hI a1 A1 ha1 a2 A2 ha2 (by omega) (by omega) (by omega) (by omega)) q_m737 q_n738 q_e739 q_i4 q_c740 hvX5_strikes ⟨(Nat.le_of_ble_eq_true rfl), (Nat.le_of_ble_eq_true rfl)⟩ ⟨(Nat.le_of_ble_eq_true rfl), (Nat.le_of_ble_eq_true rfl)⟩ hK hH.1 5 7 rfl (cwc7 C A u) rfl hl.1 rfl (Nat.le_of_ble_eq_true rfl) dX9_hasRace_49 (fun r24 p25 => ?_)
            have p25 : 0 ≤ r24.toInt ∧ r24.toInt ≤ 1 := p25
            refine lv_if_ne (tgt := 57) hx hb dX9_hasRace_52 (by decide) (fun c26 => ?_) (fun c26 => ?_)
            · have c26 := cNE (x := r24) (y := 0) (X := r24.toInt) (Y := 0) rfl (by decide) c26
              refine lv_aload_n hx hb dX9_hasRace_57 rfl (lv_at hl 0 rfl) ?_
              refine va_get (ci := 9) (v := .ref (A 14)) (C := RX9) (T := TX9) (N := 12) hx hb hts (fun w h => uc_in w (inX9 w h)) hown hK hH.1 0 (cwc0 C A u) rfl 9 (by decide) (hts _ (uc_in _ q_f392)) (fun _ h9 => h9) rfl dX9_hasRace_58 ?_
              refine lv_aload_n hx hb dX9_hasRace_61 rfl (lv_at hl 0 rfl) ?_
              refine va_get (ci := 9) (v := .ref (A 2)) (C := RX9) (T := TX9) (N := 12) hx hb hts (fun w h => uc_in w (inX9 w h)) hown hK hH.1 0 (cwc0 C A u) rfl 1 (by decide) (hts _ (uc_in _ q_f384)) (fun _ h9 => h9) rfl dX9_hasRace_62 ?_
              refine lv_aload_n hx hb dX9_hasRace_65 rfl (lv_at hl 0 rfl) ?_
              refine va_get (ci := 9) (v := .ref (A 7)) (C := RX9) (T := TX9) (N := 12) hx hb hts (fun w h => uc_in w (inX9 w h)) hown hK hH.1 0 (cwc0 C A u) rfl 5 (by decide) (hts _ (uc_in _ q_f388)) (fun _ h9 => h9) rfl dX9_hasRace_66 ?_
              refine va_get (ci := 5) (v := .ref (A 19)) (C := RX5) (T := TX5) (N := 4) hx hb hts (fun w h => uc_in w (inX5 w h)) hown hK hH.1 7 (cwc7 C A u) rfl 2 (by decide) (hts _ (uc_in _ q_f171)) (fun _ h9 => h9) rfl dX9_hasRace_69 ?_
              refine lv_iload_n hx hb dX9_hasRace_72 rfl (lv_at hl 3 rfl) ?_
              refine r_aald hx hb hK hH.1 19 6 rfl (cwc19 C A u) rfl (i_ix ha2 (by omega) (by omega)) dX9_hasRace_73 ?_
              obtain ⟨k27, hk27, ek27⟩ : ∃ k : Nat, (k : Int) = 32 + A2 ∧ k = 32 + Int32.toNatClampNeg a2 := ⟨_, by have q9 := i_cl (x := a2) (X := A2) ha2 (by omega); omega, rfl⟩
              refine pv_v (v := .ref (A (52 + k27))) (by rw [ek27]; rfl) ?_
              refine lv_aload_n hx hb dX9_hasRace_74 rfl (lv_at hl 0 rfl) ?_
              refine va_get (ci := 9) (v := .ref (A 7)) (C := RX9) (T := TX9) (N := 12) hx hb hts (fun w h => uc_in w (inX9 w h)) hown hK hH.1 0 (cwc0 C A u) rfl 5 (by decide) (hts _ (uc_in _ q_f388)) (fun _ h9 => h9) rfl dX9_hasRace_75 ?_
              refine va_get (ci := 5) (v := .ref (A 38)) (C := RX5) (T := TX5) (N := 4) hx hb hts (fun w h => uc_in w (inX5 w h)) hown hK hH.1 7 (cwc7 C A u) rfl 3 (by decide) (hts _ (uc_in _ q_f175)) (fun _ h9 => h9) rfl dX9_hasRace_78 ?_
              refine lv_iload_n hx hb dX9_hasRace_81 rfl (lv_at hl 3 rfl) ?_
              refine va_iald hx hb hK hH.1 38 1 (cwc38 C A u) rfl (i_ix ha2 (by omega) (by omega)) dX9_hasRace_82 ?_
              refine p_any (fun z28 => ?_)
              refine lv_iload_n hx hb dX9_hasRace_83 rfl (lv_at hl 1 rfl) ?_
              refine lv_iload_n hx hb dX9_hasRace_84 rfl (lv_at hl 2 rfl) ?_
              refine cvU (n := 5) (As := [.ref (A 2), .ref (A (52 + k27)), .int z28, .int a0, .int a1]) (rest := []) ⟨hx, hb, hml, hown, hts⟩ uc_in (kX2_run_0 l D C A u hI k27 (by omega) z28 z28.toInt rfl a0 A0 ha0 a1 A1 ha1 (by omega) (by omega) (by omega) (by omega) _) q_m956 q_n957 q_e958 q_i8 q_c959 hvX2_run ⟨(Nat.le_of_ble_eq_true rfl), (Nat.le_of_ble_eq_true rfl)⟩ ⟨(Nat.le_of_ble_eq_true rfl), (Nat.le_of_ble_eq_true rfl)⟩ hK hH (fun q h => Or.inr h) Bl0 (fun _ _ _ => trivial) 2 14 rfl (cwc14 C A u) rfl hl.1 rfl (Nat.le_of_ble_eq_true rfl) dX9_hasRace_85 (fun u29 H locs p31 hH => ?_)
              obtain ⟨hI, hUu29, p31⟩ := p31
              refine lv_iconst (v := 1) hx hb dX9_hasRace_88 (by decide) ?_
              exact hret _ _ _ _ (1 : Int32) _ dX9_hasRace_89 rfl ⟨hI, (Un.tr Un.rf hUu29 rfl rfl rfl), ⟨by decide, by decide⟩⟩ hH
            · have c26 := cEQ (x := r24) (y := 0) (X := r24.toInt) (Y := 0) rfl (by decide) c26
              refine lv_iconst (v := 0) hx hb dX9_hasRace_55 (by decide) ?_
              exact hret _ _ _ _ (0 : Int32) _ dX9_hasRace_56 rfl ⟨hI, Un.rf, ⟨by decide, by decide⟩⟩ hH
        · subst e9
          refine lv_if_ne (tgt := 31) hx hb dX9_hasRace_26 (by decide) (fun c32 => absurd c32 (by decide)) (fun c32 => ?_)
          refine lv_iconst (v := 0) hx hb dX9_hasRace_29 (by decide) ?_
          exact hret _ _ _ _ (0 : Int32) _ dX9_hasRace_30 rfl ⟨hI, Un.rf, ⟨by decide, by decide⟩⟩ hH
    · subst e9
      refine lv_if_eq (tgt := 29) hx hb dX9_hasRace_13 (by decide) (fun c33 => ?_) (fun c33 => absurd c33 (by decide))
      refine lv_iconst (v := 0) hx hb dX9_hasRace_29 (by decide) ?_
      exact hret _ _ _ _ (0 : Int32) _ dX9_hasRace_30 rfl ⟨hI, Un.rf, ⟨by decide, by decide⟩⟩ hH
  · subst e9
    refine lv_if_eq (tgt := 29) hx hb dX9_hasRace_5 (by decide) (fun c34 => ?_) (fun c34 => absurd c34 (by decide))
    refine lv_iconst (v := 0) hx hb dX9_hasRace_29 (by decide) ?_
    exact hret _ _ _ _ (0 : Int32) _ dX9_hasRace_30 rfl ⟨hI, Un.rf, ⟨by decide, by decide⟩⟩ hH
set_option maxHeartbeats 4000000 in
set_option maxRecDepth 100000 in
theorem kX9_race_0 (l : Launch) (D : va_G) (C : Nat → ClassId) (A : Nat → Nat) (u : St) (hI : IC u) (a0 : Int32) (A0 : Int) (ha0 : a0.toInt = A0) (a1 : Int32) (A1 : Int) (ha1 : a1.toInt = A1) (a2 : Int32) (A2 : Int) (ha2 : a2.toInt = A2) (sz : Nat) : MetI l yX9_race cX9_race 4 (some .int) 5 [.ref (A 0), .int a0, .int a1, .int a2] D (tyl C) (cw C A) X0 u sz (fun r u' => IC u' ∧ Un [(68, 68), (69, 69), (70, 70)] [(48, 48), (49, 49), (81, 81)] [] u u' ∧ (True)) := by
  refine mI (by decide) (Nat.le_of_ble_eq_true rfl) ?_
  intro p e s m below meth c ls ar Q hx hb hml hown hts hK hH hX hl hret
  have hown : s.vm.findClass RX9 = some m.cls := hown
  have hl : lv_has ls 4 [(0, .ref (A 0)), (1, .int a0), (2, .int a1), (3, .int a2)] := hl
  refine lv_aload_n hx hb dX9_race_0 rfl (lv_at hl 0 rfl) ?_
  refine lv_iload_n hx hb dX9_race_1 rfl (lv_at hl 1 rfl) ?_
  refine lv_iload_n hx hb dX9_race_2 rfl (lv_at hl 2 rfl) ?_
  refine lv_iload_n hx hb dX9_race_3 rfl (lv_at hl 3 rfl) ?_
  refine cvI (n := 3) (As := [.int a0, .int a1, .int a2]) (rest := []) ⟨hx, hb, hml, hown, hts⟩ uc_in (kX9_hasRace_0 l D C A u hI a0 A0 ha0 a1 A1 ha1 a2 A2 ha2 _) q_m952 q_n954 q_p37 q_i1 q_c955 hvX9_hasRace ⟨(Nat.le_of_ble_eq_true rfl), (Nat.le_of_ble_eq_true rfl)⟩ ⟨(Nat.le_of_ble_eq_true rfl), (Nat.le_of_ble_eq_true rfl)⟩ hK hH (fun q h => Or.inr h) Bl0 (fun _ _ _ => trivial) 9 0 rfl (cwc0 C A u) rfl hl.1 rfl (Nat.le_of_ble_eq_true rfl) dX9_race_4 (fun r2 u1 H locs p3 hH => ?_)
  obtain ⟨hI, hUu1, p3⟩ := p3
  have p3 : 0 ≤ r2.toInt ∧ r2.toInt ≤ 1 := p3
  refine lv_if_eq (tgt := 20) hx hb dX9_race_7 (by decide) (fun c4 => ?_) (fun c4 => ?_)
  · have c4 := cEQ (x := r2) (y := 0) (X := r2.toInt) (Y := 0) rfl (by decide) c4
    refine lv_bipush (v := (-2)) hx hb dX9_race_20 (by decide) ?_
    exact hret _ _ _ _ ((-2) : Int32) _ dX9_race_22 rfl ⟨hI, (Un.tr Un.rf hUu1 rfl rfl rfl), trivial⟩ hH
  · have c4 := cNE (x := r2) (y := 0) (X := r2.toInt) (Y := 0) rfl (by decide) c4
    refine lv_aload_n hx hb dX9_race_10 rfl (lv_at hl 0 rfl) ?_
    refine va_get (ci := 9) (v := .ref (A 14)) (C := RX9) (T := TX9) (N := 12) hx hb hts (fun w h => uc_in w (inX9 w h)) hown hK hH.1 0 (cwc0 C A u1) rfl 9 (by decide) (hts _ (uc_in _ q_f392)) (fun _ h9 => h9) rfl dX9_race_11 ?_
    refine va_get (ci := 2) (v := .int (gi u1 70)) (C := RX2) (T := TX2) (N := 6) hx hb hts (fun w h => uc_in w (inX2 w h)) hown hK hH.1 14 (cwc14 C A u1) rfl 2 (by decide) (hts _ (uc_in _ q_f305)) (fun _ h9 => h9) rfl dX9_race_14 ?_
    refine lv_goto (tgt := 22) hx hb dX9_race_17 (by decide) ?_
    exact hret _ _ _ _ (gi u1 70) _ dX9_race_22 rfl ⟨hI, (Un.tr Un.rf hUu1 rfl rfl rfl), trivial⟩ hH
set_option maxHeartbeats 4000000 in
set_option maxRecDepth 100000 in
theorem kX9_rate_0 (l : Launch) (D : va_G) (C : Nat → ClassId) (A : Nat → Nat) (u : St) (hI : IC u) (a0 : Int32) (A0 : Int) (ha0 : a0.toInt = A0) (a1 : Int32) (A1 : Int) (ha1 : a1.toInt = A1) (sz : Nat) : MetI l yX9_rate cX9_rate 4 (some .int) 2 [.ref (A 0), .int a0, .int a1] D (tyl C) (cw C A) X0 u sz (fun r u' => IC u' ∧ Un [] [(55, 55)] [] u u' ∧ (True)) := by
  refine mI (by decide) (Nat.le_of_ble_eq_true rfl) ?_
  intro p e s m below meth c ls ar Q hx hb hml hown hts hK hH hX hl hret
  have hown : s.vm.findClass RX9 = some m.cls := hown
  have hl : lv_has ls 4 [(0, .ref (A 0)), (1, .int a0), (2, .int a1)] := hl
  refine lv_aload_n hx hb dX9_rate_0 rfl (lv_at hl 0 rfl) ?_
  refine lv_iload_n hx hb dX9_rate_1 rfl (lv_at hl 1 rfl) ?_
  refine cvS (n := 1) (As := [.int a0]) (rest := []) ⟨hx, hb, hml, hown, hts⟩ uc_in (kX9_isClock_0 l D C A u hI a0 A0 ha0) q_m589 q_n591 q_p11 q_i1 q_c592 hvX9_isClock ⟨(Nat.le_of_ble_eq_true rfl), (Nat.le_of_ble_eq_true rfl)⟩ ⟨(Nat.le_of_ble_eq_true rfl), (Nat.le_of_ble_eq_true rfl)⟩ hK hH.1 9 0 rfl (cwc0 C A u) rfl hl.1 rfl (Nat.le_of_ble_eq_true rfl) dX9_rate_2 (fun r1 p2 => ?_)
  rcases p2 with ⟨e9, f3, f4⟩ | e9
  · subst e9
    have b6 := hI.b49
    refine lv_if_eq (tgt := 19) hx hb dX9_rate_5 (by decide) (fun c7 => absurd c7 (by decide)) (fun c7 => ?_)
    refine lv_iload_n hx hb dX9_rate_8 rfl (lv_at hl 2 rfl) ?_
    refine lv_iconst (v := 0) hx hb dX9_rate_9 (by decide) ?_
    refine lv_sipush (v := 999) hx hb dX9_rate_10 (by decide) ?_
    refine csS (n := 3) (As := [.int a1, .int 0, .int 999]) (rest := []) ⟨hx, hb, hml, hown, hts⟩ uc_in (kX9_isWithin_0 l D C A u hI a1 A1 ha1 (0) 0 (by decide) (999) 999 (by decide)) q_m651 q_s652 q_i1 q_c653 hvX9_isWithin ⟨(Nat.le_of_ble_eq_true rfl), (Nat.le_of_ble_eq_true rfl)⟩ ⟨(Nat.le_of_ble_eq_true rfl), (Nat.le_of_ble_eq_true rfl)⟩ hK hH.1 rfl hl.1 rfl (Nat.le_of_ble_eq_true rfl) dX9_rate_13 (fun r8 p9 => ?_)
    rcases p9 with ⟨e9, f10, f11⟩ | ⟨e9, fn12⟩
    · subst e9
      refine lv_if_ne (tgt := 22) hx hb dX9_rate_16 (by decide) (fun c13 => ?_) (fun c13 => absurd c13 (by decide))
      refine lv_aload_n hx hb dX9_rate_22 rfl (lv_at hl 0 rfl) ?_
      refine va_get (ci := 9) (v := .ref (A 2)) (C := RX9) (T := TX9) (N := 12) hx hb hts (fun w h => uc_in w (inX9 w h)) hown hK hH.1 0 (cwc0 C A u) rfl 1 (by decide) (hts _ (uc_in _ q_f384)) (fun _ h9 => h9) rfl dX9_rate_23 ?_
      refine va_get (ci := 7) (v := .int (gi u 15)) (C := RX7) (T := TX7) (N := 16) hx hb hts (fun w h => uc_in w (inX7 w h)) hown hK hH.1 2 (cwc2 C A u) rfl 7 (by decide) (hts _ (uc_in _ q_f94)) (fun _ h9 => h9) rfl dX9_rate_26 ?_
      have b14 := hI.b15
      refine lv_if_le (tgt := 35) hx hb dX9_rate_29 (by decide) (fun c15 => ?_) (fun c15 => ?_)
      · have c15 := cLE (x := (gi u 15)) (y := 0) (X := ((gi u 15)).toInt) (Y := 0) rfl (by decide) c15
        refine lv_aload_n hx hb dX9_rate_35 rfl (lv_at hl 0 rfl) ?_
        refine va_get (ci := 9) (v := .ref (A 2)) (C := RX9) (T := TX9) (N := 12) hx hb hts (fun w h => uc_in w (inX9 w h)) hown hK hH.1 0 (cwc0 C A u) rfl 1 (by decide) (hts _ (uc_in _ q_f384)) (fun _ h9 => h9) rfl dX9_rate_36 ?_
        refine va_get (ci := 7) (v := .ref (A 55)) (C := RX7) (T := TX7) (N := 16) hx hb hts (fun w h => uc_in w (inX7 w h)) hown hK hH.1 2 (cwc2 C A u) rfl 11 (by decide) (hts _ (uc_in _ q_f109)) (fun _ h9 => h9) rfl dX9_rate_39 ?_
        refine lv_iload_n hx hb dX9_rate_42 rfl (lv_at hl 1 rfl) ?_
        refine va_iald hx hb hK hH.1 55 1 (cwc55 C A u) rfl (i_ix ha0 (by omega) (by omega)) dX9_rate_43 ?_
        refine p_any (fun z16 => ?_)
        refine lv_istore_n (lv' := [(3, .int z16), (0, .ref (A 0)), (1, .int a0), (2, .int a1)]) hx hb dX9_rate_44 rfl hl (by decide) rfl (fun ls hl => ?_)
        refine lv_aload_n hx hb dX9_rate_45 rfl (lv_at hl 1 rfl) ?_
        refine va_get (ci := 9) (v := .ref (A 2)) (C := RX9) (T := TX9) (N := 12) hx hb hts (fun w h => uc_in w (inX9 w h)) hown hK hH.1 0 (cwc0 C A u) rfl 1 (by decide) (hts _ (uc_in _ q_f384)) (fun _ h9 => h9) rfl dX9_rate_46 ?_
        refine va_get (ci := 7) (v := .ref (A 55)) (C := RX7) (T := TX7) (N := 16) hx hb hts (fun w h => uc_in w (inX7 w h)) hown hK hH.1 2 (cwc2 C A u) rfl 11 (by decide) (hts _ (uc_in _ q_f109)) (fun _ h9 => h9) rfl dX9_rate_49 ?_
        refine lv_iload_n hx hb dX9_rate_52 rfl (lv_at hl 2 rfl) ?_
        refine lv_iload_n hx hb dX9_rate_53 rfl (lv_at hl 3 rfl) ?_
        refine r_iast (j := 55) hx hb hK hH 55 1 (cwc55 C A u) rfl (i_ix ha0 (by omega) (by omega)) (cwa55 C A u) dX9_rate_54 (fun u17 eu17 H locs hH => ?_)
        have hI := hI.pa0 eu17 (by decide)
        refine lv_iload_n hx hb dX9_rate_55 rfl (lv_at hl 0 rfl) ?_
        exact hret _ _ _ _ z16 _ dX9_rate_56 rfl ⟨hI, (Un.sa Un.rf rfl eu17), trivial⟩ hH
      · have c15 := cNLE (x := (gi u 15)) (y := 0) (X := ((gi u 15)).toInt) (Y := 0) rfl (by decide) c15
        refine lv_bipush (v := (-5)) hx hb dX9_rate_32 (by decide) ?_
        exact hret _ _ _ _ ((-5) : Int32) _ dX9_rate_34 rfl ⟨hI, Un.rf, trivial⟩ hH
    · subst e9
      refine lv_if_ne (tgt := 22) hx hb dX9_rate_16 (by decide) (fun c18 => absurd c18 (by decide)) (fun c18 => ?_)
      refine lv_bipush (v := (-2)) hx hb dX9_rate_19 (by decide) ?_
      exact hret _ _ _ _ ((-2) : Int32) _ dX9_rate_21 rfl ⟨hI, Un.rf, trivial⟩ hH
  · subst e9
    refine lv_if_eq (tgt := 19) hx hb dX9_rate_5 (by decide) (fun c19 => ?_) (fun c19 => absurd c19 (by decide))
    refine lv_bipush (v := (-2)) hx hb dX9_rate_19 (by decide) ?_
    exact hret _ _ _ _ ((-2) : Int32) _ dX9_rate_21 rfl ⟨hI, Un.rf, trivial⟩ hH
set_option maxHeartbeats 4000000 in
set_option maxRecDepth 100000 in
theorem kX9_register_0 (l : Launch) (D : va_G) (C : Nat → ClassId) (A : Nat → Nat) (u : St) (hI : IC u) (a0 : Int32) (A0 : Int) (ha0 : a0.toInt = A0) : Met l yX9_register (uc yX9_register cX9_register 2 (some .int)) (rmL 2 0 0) (va_Pc [.ref (A 0), .int a0] (PreR D (tyl C) (cw C A u))) (vp_Si (fun r => (-2) ≤ r.toInt ∧ r.toInt ≤ 63)) 0 0 (fun _ => False) := by
  refine mS (by decide) (Nat.le_of_ble_eq_true rfl) ?_
  intro p e s m below meth c ls ar Q hx hb hml hown hts hK hP hl hret
  have hown : s.vm.findClass RX9 = some m.cls := hown
  have hl : lv_has ls 2 [(0, .ref (A 0)), (1, .int a0)] := hl
  refine lv_aload_n hx hb dX9_register_0 rfl (lv_at hl 0 rfl) ?_
  refine lv_iload_n hx hb dX9_register_1 rfl (lv_at hl 1 rfl) ?_
  refine cvS (n := 1) (As := [.int a0]) (rest := []) ⟨hx, hb, hml, hown, hts⟩ uc_in (kX9_isDay_0 l D C A u hI a0 A0 ha0) q_m597 q_n599 q_p12 q_i1 q_c600 hvX9_isDay ⟨(Nat.le_of_ble_eq_true rfl), (Nat.le_of_ble_eq_true rfl)⟩ ⟨(Nat.le_of_ble_eq_true rfl), (Nat.le_of_ble_eq_true rfl)⟩ hK hP 9 0 rfl (cwc0 C A u) rfl hl.1 rfl (Nat.le_of_ble_eq_true rfl) dX9_register_2 (fun r1 p2 => ?_)
  rcases p2 with ⟨e9, f3, f4⟩ | e9
  · subst e9
    have b6 := hI.b48
    refine lv_if_eq (tgt := 34) hx hb dX9_register_5 (by decide) (fun c7 => absurd c7 (by decide)) (fun c7 => ?_)
    refine lv_iconst (v := 1) hx hb dX9_register_8 (by decide) ?_
    refine lv_aload_n hx hb dX9_register_9 rfl (lv_at hl 0 rfl) ?_
    refine va_get (ci := 9) (v := .ref (A 7)) (C := RX9) (T := TX9) (N := 12) hx hb hts (fun w h => uc_in w (inX9 w h)) hown hK hP 0 (cwc0 C A u) rfl 5 (by decide) (hts _ (uc_in _ q_f388)) (fun _ h9 => h9) rfl dX9_register_10 ?_
    refine va_get (ci := 5) (v := .int (gi u 49)) (C := RX5) (T := TX5) (N := 4) hx hb hts (fun w h => uc_in w (inX5 w h)) hown hK hP 7 (cwc7 C A u) rfl 1 (by decide) (hts _ (uc_in _ q_f167)) (fun _ h9 => h9) rfl dX9_register_13 ?_
    have b8 := hI.b49
    refine lv_ishl hx hb dX9_register_16 ?_
    have gz9 := tt_shl1 (y := (gi u 49)) (Y := ((gi u 49)).toInt) rfl (by omega) (by omega)
    refine p_bd (P := fun q => 1 ≤ q ∧ q ≤ 64) ⟨by omega, by omega⟩ (fun z10 bz10 => ?_)
    have bz10 : 1 ≤ z10.toInt ∧ z10.toInt ≤ 64 := bz10
    refine lv_iconst (v := 1) hx hb dX9_register_17 (by decide) ?_
    refine lv_isub hx hb dX9_register_18 ?_
    refine p_nm (tt_sub (X := z10.toInt) (Y := 1) rfl (by decide) (by omega) (by omega)) (fun z11 hz11 => ?_)
    refine lv_aload_n hx hb dX9_register_19 rfl (lv_at hl 0 rfl) ?_
    refine va_get (ci := 9) (v := .ref (A 7)) (C := RX9) (T := TX9) (N := 12) hx hb hts (fun w h => uc_in w (inX9 w h)) hown hK hP 0 (cwc0 C A u) rfl 5 (by decide) (hts _ (uc_in _ q_f388)) (fun _ h9 => h9) rfl dX9_register_20 ?_
    refine va_get (ci := 5) (v := .ref (A 38)) (C := RX5) (T := TX5) (N := 4) hx hb hts (fun w h => uc_in w (inX5 w h)) hown hK hP 7 (cwc7 C A u) rfl 3 (by decide) (hts _ (uc_in _ q_f175)) (fun _ h9 => h9) rfl dX9_register_23 ?_
    refine lv_iload_n hx hb dX9_register_26 rfl (lv_at hl 1 rfl) ?_
    refine va_iald hx hb hK hP 38 1 (cwc38 C A u) rfl (i_ix ha0 (by omega) (by omega)) dX9_register_27 ?_
    refine p_any (fun z12 => ?_)
    refine lv_iconst (v := (-1)) hx hb dX9_register_28 (by decide) ?_
    refine lv_ixor hx hb dX9_register_29 ?_
    refine p_any (fun z13 => ?_)
    refine lv_iand hx hb dX9_register_30 ?_
    have gz14 := tt_andL (x := z11) (y := z13) (X := (z10.toInt - 1)) hz11 (by omega)
    refine p_bd (P := fun q => 0 ≤ q ∧ q ≤ 63) ⟨by omega, by omega⟩ (fun z15 bz15 => ?_)
    have bz15 : 0 ≤ z15.toInt ∧ z15.toInt ≤ 63 := bz15
    refine lv_goto (tgt := 36) hx hb dX9_register_31 (by decide) ?_
    exact hret _ _ z15 dX9_register_36 rfl ⟨by omega, by omega⟩
  · subst e9
    refine lv_if_eq (tgt := 34) hx hb dX9_register_5 (by decide) (fun c16 => ?_) (fun c16 => absurd c16 (by decide))
    refine lv_bipush (v := (-2)) hx hb dX9_register_34 (by decide) ?_
    exact hret _ _ ((-2) : Int32) dX9_register_36 rfl ⟨by decide, by decide⟩
set_option maxHeartbeats 4000000 in
set_option maxRecDepth 100000 in
theorem kX9_reign_0 (l : Launch) (D : va_G) (C : Nat → ClassId) (A : Nat → Nat) (u : St) (hI : IC u) (a0 : Int32) (A0 : Int) (ha0 : a0.toInt = A0) : Met l yX9_reign (uc yX9_reign cX9_reign 2 (some .int)) (rmL 4 0 0) (va_Pc [.ref (A 0), .int a0] (PreR D (tyl C) (cw C A u))) (vp_Si (fun r => True)) 0 0 (fun _ => False) := by
  refine mS (by decide) (Nat.le_of_ble_eq_true rfl) ?_
  intro p e s m below meth c ls ar Q hx hb hml hown hts hK hP hl hret
  have hown : s.vm.findClass RX9 = some m.cls := hown
  have hl : lv_has ls 2 [(0, .ref (A 0)), (1, .int a0)] := hl
  refine lv_aload_n hx hb dX9_reign_0 rfl (lv_at hl 0 rfl) ?_
  refine lv_iload_n hx hb dX9_reign_1 rfl (lv_at hl 1 rfl) ?_
  refine cvS (n := 1) (As := [.int a0]) (rest := []) ⟨hx, hb, hml, hown, hts⟩ uc_in (kX9_isClock_0 l D C A u hI a0 A0 ha0) q_m589 q_n591 q_p11 q_i1 q_c592 hvX9_isClock ⟨(Nat.le_of_ble_eq_true rfl), (Nat.le_of_ble_eq_true rfl)⟩ ⟨(Nat.le_of_ble_eq_true rfl), (Nat.le_of_ble_eq_true rfl)⟩ hK hP 9 0 rfl (cwc0 C A u) rfl hl.1 rfl (Nat.le_of_ble_eq_true rfl) dX9_reign_2 (fun r1 p2 => ?_)
  rcases p2 with ⟨e9, f3, f4⟩ | e9
  · subst e9
    have b6 := hI.b49
    refine lv_if_eq (tgt := 16) hx hb dX9_reign_5 (by decide) (fun c7 => absurd c7 (by decide)) (fun c7 => ?_)
    refine lv_aload_n hx hb dX9_reign_8 rfl (lv_at hl 0 rfl) ?_
    refine lv_iload_n hx hb dX9_reign_9 rfl (lv_at hl 1 rfl) ?_
    refine cvS (n := 1) (As := [.int a0]) (rest := []) ⟨hx, hb, hml, hown, hts⟩ uc_in (kX9_reignOf_0 l D C A u hI a0 A0 ha0) q_m694 q_n696 q_p20 q_i1 q_c697 hvX9_reignOf ⟨(Nat.le_of_ble_eq_true rfl), (Nat.le_of_ble_eq_true rfl)⟩ ⟨(Nat.le_of_ble_eq_true rfl), (Nat.le_of_ble_eq_true rfl)⟩ hK hP 9 0 rfl (cwc0 C A u) rfl hl.1 rfl (Nat.le_of_ble_eq_true rfl) dX9_reign_10 (fun r8 p9 => ?_)
    refine lv_goto (tgt := 18) hx hb dX9_reign_13 (by decide) ?_
    exact hret _ _ r8 dX9_reign_18 rfl trivial
  · subst e9
    refine lv_if_eq (tgt := 16) hx hb dX9_reign_5 (by decide) (fun c10 => ?_) (fun c10 => absurd c10 (by decide))
    refine lv_bipush (v := (-2)) hx hb dX9_reign_16 (by decide) ?_
    exact hret _ _ ((-2) : Int32) dX9_reign_18 rfl trivial
set_option maxHeartbeats 4000000 in
set_option maxRecDepth 100000 in
theorem kX9_rents_0 (l : Launch) (D : va_G) (C : Nat → ClassId) (A : Nat → Nat) (u : St) (hI : IC u) (a0 : Int32) (A0 : Int) (ha0 : a0.toInt = A0) : Met l yX9_rents (uc yX9_rents cX9_rents 2 (some .int)) (rmL 5 0 0) (va_Pc [.ref (A 0), .int a0] (PreR D (tyl C) (cw C A u))) (vp_Si (fun r => True)) 0 0 (fun _ => False) := by
  refine mS (by decide) (Nat.le_of_ble_eq_true rfl) ?_
  intro p e s m below meth c ls ar Q hx hb hml hown hts hK hP hl hret
  have hown : s.vm.findClass RX9 = some m.cls := hown
  have hl : lv_has ls 2 [(0, .ref (A 0)), (1, .int a0)] := hl
  refine lv_aload_n hx hb dX9_rents_0 rfl (lv_at hl 0 rfl) ?_
  refine lv_iload_n hx hb dX9_rents_1 rfl (lv_at hl 1 rfl) ?_
  refine cvS (n := 1) (As := [.int a0]) (rest := []) ⟨hx, hb, hml, hown, hts⟩ uc_in (kX9_isClock_0 l D C A u hI a0 A0 ha0) q_m589 q_n591 q_p11 q_i1 q_c592 hvX9_isClock ⟨(Nat.le_of_ble_eq_true rfl), (Nat.le_of_ble_eq_true rfl)⟩ ⟨(Nat.le_of_ble_eq_true rfl), (Nat.le_of_ble_eq_true rfl)⟩ hK hP 9 0 rfl (cwc0 C A u) rfl hl.1 rfl (Nat.le_of_ble_eq_true rfl) dX9_rents_2 (fun r1 p2 => ?_)
  rcases p2 with ⟨e9, f3, f4⟩ | e9
  · subst e9
    have b6 := hI.b49
    refine lv_if_eq (tgt := 16) hx hb dX9_rents_5 (by decide) (fun c7 => absurd c7 (by decide)) (fun c7 => ?_)
    refine lv_aload_n hx hb dX9_rents_8 rfl (lv_at hl 0 rfl) ?_
    refine lv_iload_n hx hb dX9_rents_9 rfl (lv_at hl 1 rfl) ?_
    refine cvS (n := 1) (As := [.int a0]) (rest := []) ⟨hx, hb, hml, hown, hts⟩ uc_in (kX9_rentsOf_0 l D C A u hI a0 A0 ha0 (by omega) (by omega)) q_m702 q_n704 q_p21 q_i1 q_c705 hvX9_rentsOf ⟨(Nat.le_of_ble_eq_true rfl), (Nat.le_of_ble_eq_true rfl)⟩ ⟨(Nat.le_of_ble_eq_true rfl), (Nat.le_of_ble_eq_true rfl)⟩ hK hP 9 0 rfl (cwc0 C A u) rfl hl.1 rfl (Nat.le_of_ble_eq_true rfl) dX9_rents_10 (fun r8 p9 => ?_)
    refine lv_goto (tgt := 18) hx hb dX9_rents_13 (by decide) ?_
    exact hret _ _ r8 dX9_rents_18 rfl trivial
  · subst e9
    refine lv_if_eq (tgt := 16) hx hb dX9_rents_5 (by decide) (fun c10 => ?_) (fun c10 => absurd c10 (by decide))
    refine lv_bipush (v := (-2)) hx hb dX9_rents_16 (by decide) ?_
    exact hret _ _ ((-2) : Int32) dX9_rents_18 rfl trivial
set_option maxHeartbeats 4000000 in
set_option maxRecDepth 100000 in
theorem kX9_rest_0 (l : Launch) (D : va_G) (C : Nat → ClassId) (A : Nat → Nat) (u : St) (hI : IC u) (a0 : Int32) (A0 : Int) (ha0 : a0.toInt = A0) (a1 : Int32) (A1 : Int) (ha1 : a1.toInt = A1) (a2 : Int32) (A2 : Int) (ha2 : a2.toInt = A2) (sz : Nat) : MetI l yX9_rest cX9_rest 4 (some .int) 5 [.ref (A 0), .int a0, .int a1, .int a2] D (tyl C) (cw C A) X0 u sz (fun r u' => IC u' ∧ Un [(68, 68), (69, 69), (70, 70)] [(48, 48), (49, 49), (81, 81)] [] u u' ∧ (True)) := by
  refine mI (by decide) (Nat.le_of_ble_eq_true rfl) ?_
  intro p e s m below meth c ls ar Q hx hb hml hown hts hK hH hX hl hret
  have hown : s.vm.findClass RX9 = some m.cls := hown
  have hl : lv_has ls 4 [(0, .ref (A 0)), (1, .int a0), (2, .int a1), (3, .int a2)] := hl
  refine lv_aload_n hx hb dX9_rest_0 rfl (lv_at hl 0 rfl) ?_
  refine lv_iload_n hx hb dX9_rest_1 rfl (lv_at hl 1 rfl) ?_
  refine lv_iload_n hx hb dX9_rest_2 rfl (lv_at hl 2 rfl) ?_
  refine lv_iload_n hx hb dX9_rest_3 rfl (lv_at hl 3 rfl) ?_
  refine cvI (n := 3) (As := [.int a0, .int a1, .int a2]) (rest := []) ⟨hx, hb, hml, hown, hts⟩ uc_in (kX9_hasRace_0 l D C A u hI a0 A0 ha0 a1 A1 ha1 a2 A2 ha2 _) q_m952 q_n954 q_p37 q_i1 q_c955 hvX9_hasRace ⟨(Nat.le_of_ble_eq_true rfl), (Nat.le_of_ble_eq_true rfl)⟩ ⟨(Nat.le_of_ble_eq_true rfl), (Nat.le_of_ble_eq_true rfl)⟩ hK hH (fun q h => Or.inr h) Bl0 (fun _ _ _ => trivial) 9 0 rfl (cwc0 C A u) rfl hl.1 rfl (Nat.le_of_ble_eq_true rfl) dX9_rest_4 (fun r2 u1 H locs p3 hH => ?_)
  obtain ⟨hI, hUu1, p3⟩ := p3
  have p3 : 0 ≤ r2.toInt ∧ r2.toInt ≤ 1 := p3
  refine lv_if_eq (tgt := 20) hx hb dX9_rest_7 (by decide) (fun c4 => ?_) (fun c4 => ?_)
  · have c4 := cEQ (x := r2) (y := 0) (X := r2.toInt) (Y := 0) rfl (by decide) c4
    refine lv_bipush (v := (-2)) hx hb dX9_rest_20 (by decide) ?_
    exact hret _ _ _ _ ((-2) : Int32) _ dX9_rest_22 rfl ⟨hI, (Un.tr Un.rf hUu1 rfl rfl rfl), trivial⟩ hH
  · have c4 := cNE (x := r2) (y := 0) (X := r2.toInt) (Y := 0) rfl (by decide) c4
    refine lv_aload_n hx hb dX9_rest_10 rfl (lv_at hl 0 rfl) ?_
    refine va_get (ci := 9) (v := .ref (A 14)) (C := RX9) (T := TX9) (N := 12) hx hb hts (fun w h => uc_in w (inX9 w h)) hown hK hH.1 0 (cwc0 C A u1) rfl 9 (by decide) (hts _ (uc_in _ q_f392)) (fun _ h9 => h9) rfl dX9_rest_11 ?_
    refine va_get (ci := 2) (v := .int (gi u1 69)) (C := RX2) (T := TX2) (N := 6) hx hb hts (fun w h => uc_in w (inX2 w h)) hown hK hH.1 14 (cwc14 C A u1) rfl 1 (by decide) (hts _ (uc_in _ q_f303)) (fun _ h9 => h9) rfl dX9_rest_14 ?_
    refine lv_goto (tgt := 22) hx hb dX9_rest_17 (by decide) ?_
    exact hret _ _ _ _ (gi u1 69) _ dX9_rest_22 rfl ⟨hI, (Un.tr Un.rf hUu1 rfl rfl rfl), trivial⟩ hH
set_option maxHeartbeats 4000000 in
set_option maxRecDepth 100000 in
theorem kX9_rests_0 (l : Launch) (D : va_G) (C : Nat → ClassId) (A : Nat → Nat) (u : St) (hI : IC u) (a0 : Int32) (A0 : Int) (ha0 : a0.toInt = A0) (a1 : Int32) (A1 : Int) (ha1 : a1.toInt = A1) (a2 : Int32) (A2 : Int) (ha2 : a2.toInt = A2) (sz : Nat) : MetI l yX9_rests cX9_rests 4 (some .int) 5 [.ref (A 0), .int a0, .int a1, .int a2] D (tyl C) (cw C A) X0 u sz (fun r u' => IC u' ∧ Un [(68, 68), (69, 69), (70, 70)] [(48, 48), (49, 49), (81, 81)] [] u u' ∧ (True)) := by
  refine mI (by decide) (Nat.le_of_ble_eq_true rfl) ?_
  intro p e s m below meth c ls ar Q hx hb hml hown hts hK hH hX hl hret
  have hown : s.vm.findClass RX9 = some m.cls := hown
  have hl : lv_has ls 4 [(0, .ref (A 0)), (1, .int a0), (2, .int a1), (3, .int a2)] := hl
  refine lv_aload_n hx hb dX9_rests_0 rfl (lv_at hl 0 rfl) ?_
  refine lv_iload_n hx hb dX9_rests_1 rfl (lv_at hl 1 rfl) ?_
  refine lv_iload_n hx hb dX9_rests_2 rfl (lv_at hl 2 rfl) ?_
  refine lv_iload_n hx hb dX9_rests_3 rfl (lv_at hl 3 rfl) ?_
  refine cvI (n := 3) (As := [.int a0, .int a1, .int a2]) (rest := []) ⟨hx, hb, hml, hown, hts⟩ uc_in (kX9_hasRace_0 l D C A u hI a0 A0 ha0 a1 A1 ha1 a2 A2 ha2 _) q_m952 q_n954 q_p37 q_i1 q_c955 hvX9_hasRace ⟨(Nat.le_of_ble_eq_true rfl), (Nat.le_of_ble_eq_true rfl)⟩ ⟨(Nat.le_of_ble_eq_true rfl), (Nat.le_of_ble_eq_true rfl)⟩ hK hH (fun q h => Or.inr h) Bl0 (fun _ _ _ => trivial) 9 0 rfl (cwc0 C A u) rfl hl.1 rfl (Nat.le_of_ble_eq_true rfl) dX9_rests_4 (fun r2 u1 H locs p3 hH => ?_)
  obtain ⟨hI, hUu1, p3⟩ := p3
  have p3 : 0 ≤ r2.toInt ∧ r2.toInt ≤ 1 := p3
  refine lv_if_eq (tgt := 20) hx hb dX9_rests_7 (by decide) (fun c4 => ?_) (fun c4 => ?_)
  · have c4 := cEQ (x := r2) (y := 0) (X := r2.toInt) (Y := 0) rfl (by decide) c4
    refine lv_bipush (v := (-2)) hx hb dX9_rests_20 (by decide) ?_
    exact hret _ _ _ _ ((-2) : Int32) _ dX9_rests_22 rfl ⟨hI, (Un.tr Un.rf hUu1 rfl rfl rfl), trivial⟩ hH
  · have c4 := cNE (x := r2) (y := 0) (X := r2.toInt) (Y := 0) rfl (by decide) c4
    refine lv_aload_n hx hb dX9_rests_10 rfl (lv_at hl 0 rfl) ?_
    refine va_get (ci := 9) (v := .ref (A 14)) (C := RX9) (T := TX9) (N := 12) hx hb hts (fun w h => uc_in w (inX9 w h)) hown hK hH.1 0 (cwc0 C A u1) rfl 9 (by decide) (hts _ (uc_in _ q_f392)) (fun _ h9 => h9) rfl dX9_rests_11 ?_
    refine va_get (ci := 2) (v := .int (gi u1 68)) (C := RX2) (T := TX2) (N := 6) hx hb hts (fun w h => uc_in w (inX2 w h)) hown hK hH.1 14 (cwc14 C A u1) rfl 0 (by decide) (hts _ (uc_in _ q_f301)) (fun _ h9 => h9) rfl dX9_rests_14 ?_
    refine lv_goto (tgt := 22) hx hb dX9_rests_17 (by decide) ?_
    exact hret _ _ _ _ (gi u1 68) _ dX9_rests_22 rfl ⟨hI, (Un.tr Un.rf hUu1 rfl rfl rfl), trivial⟩ hH
set_option maxHeartbeats 4000000 in
set_option maxRecDepth 100000 in
theorem kX9_round_0 (l : Launch) (D : va_G) (C : Nat → ClassId) (A : Nat → Nat) (u : St) (hI : IC u) (a0 : Int32) (A0 : Int) (ha0 : a0.toInt = A0) (sz : Nat) : MetI l yX9_round cX9_round 2 (some .int) 11 [.ref (A 0), .int a0] D (tyl C) (cw C A) X0 u sz (fun r u' => IC u' ∧ Un [(66, 66), (67, 67)] [(77, 77), (78, 78), (79, 79), (80, 80)] [] u u' ∧ (True)) := by
  refine mI (by decide) (Nat.le_of_ble_eq_true rfl) ?_
  intro p e s m below meth c ls ar Q hx hb hml hown hts hK hH hX hl hret
  have hown : s.vm.findClass RX9 = some m.cls := hown
  have hl : lv_has ls 2 [(0, .ref (A 0)), (1, .int a0)] := hl
  refine lv_aload_n hx hb dX9_round_0 rfl (lv_at hl 0 rfl) ?_
  refine lv_iload_n hx hb dX9_round_1 rfl (lv_at hl 1 rfl) ?_
  refine cvS (n := 1) (As := [.int a0]) (rest := []) ⟨hx, hb, hml, hown, hts⟩ uc_in (kX9_isDay_0 l D C A u hI a0 A0 ha0) q_m597 q_n599 q_p12 q_i1 q_c600 hvX9_isDay ⟨(Nat.le_of_ble_eq_true rfl), (Nat.le_of_ble_eq_true rfl)⟩ ⟨(Nat.le_of_ble_eq_true rfl), (Nat.le_of_ble_eq_true rfl)⟩ hK hH.1 9 0 rfl (cwc0 C A u) rfl hl.1 rfl (Nat.le_of_ble_eq_true rfl) dX9_round_2 (fun r1 p2 => ?_)
  rcases p2 with ⟨e9, f3, f4⟩ | e9
  · subst e9
    have b6 := hI.b48
    refine lv_if_ne (tgt := 11) hx hb dX9_round_5 (by decide) (fun c7 => ?_) (fun c7 => absurd c7 (by decide))
    refine lv_aload_n hx hb dX9_round_11 rfl (lv_at hl 0 rfl) ?_
    refine va_get (ci := 9) (v := .ref (A 13)) (C := RX9) (T := TX9) (N := 12) hx hb hts (fun w h => uc_in w (inX9 w h)) hown hK hH.1 0 (cwc0 C A u) rfl 8 (by decide) (hts _ (uc_in _ q_f391)) (fun _ h9 => h9) rfl dX9_round_12 ?_
    refine lv_aload_n hx hb dX9_round_15 rfl (lv_at hl 0 rfl) ?_
    refine va_get (ci := 9) (v := .ref (A 2)) (C := RX9) (T := TX9) (N := 12) hx hb hts (fun w h => uc_in w (inX9 w h)) hown hK hH.1 0 (cwc0 C A u) rfl 1 (by decide) (hts _ (uc_in _ q_f384)) (fun _ h9 => h9) rfl dX9_round_16 ?_
    refine lv_aload_n hx hb dX9_round_19 rfl (lv_at hl 0 rfl) ?_
    refine va_get (ci := 9) (v := .ref (A 7)) (C := RX9) (T := TX9) (N := 12) hx hb hts (fun w h => uc_in w (inX9 w h)) hown hK hH.1 0 (cwc0 C A u) rfl 5 (by decide) (hts _ (uc_in _ q_f388)) (fun _ h9 => h9) rfl dX9_round_20 ?_
    refine va_get (ci := 5) (v := .ref (A 19)) (C := RX5) (T := TX5) (N := 4) hx hb hts (fun w h => uc_in w (inX5 w h)) hown hK hH.1 7 (cwc7 C A u) rfl 2 (by decide) (hts _ (uc_in _ q_f171)) (fun _ h9 => h9) rfl dX9_round_23 ?_
    refine lv_iload_n hx hb dX9_round_26 rfl (lv_at hl 1 rfl) ?_
    refine r_aald hx hb hK hH.1 19 6 rfl (cwc19 C A u) rfl (i_ix ha0 (by omega) (by omega)) dX9_round_27 ?_
    obtain ⟨k8, hk8, ek8⟩ : ∃ k : Nat, (k : Int) = 32 + A0 ∧ k = 32 + Int32.toNatClampNeg a0 := ⟨_, by have q9 := i_cl (x := a0) (X := A0) ha0 (by omega); omega, rfl⟩
    refine pv_v (v := .ref (A (52 + k8))) (by rw [ek8]; rfl) ?_
    refine cvU (n := 2) (As := [.ref (A 2), .ref (A (52 + k8))]) (rest := []) ⟨hx, hb, hml, hown, hts⟩ uc_in (kX0_begin_0 l D C A u hI k8 (by omega) _) q_m879 q_n880 q_e881 q_i7 q_c882 hvX0_begin ⟨(Nat.le_of_ble_eq_true rfl), (Nat.le_of_ble_eq_true rfl)⟩ ⟨(Nat.le_of_ble_eq_true rfl), (Nat.le_of_ble_eq_true rfl)⟩ hK hH (fun q h => Or.inr h) Bl0 (fun _ _ _ => trivial) 0 13 rfl (cwc13 C A u) rfl hl.1 rfl (Nat.le_of_ble_eq_true rfl) dX9_round_28 (fun u9 H locs p11 hH => ?_)
    obtain ⟨hI, hUu9, p11⟩ := p11
    refine lv_aload_n hx hb dX9_round_31 rfl (lv_at hl 0 rfl) ?_
    refine va_get (ci := 9) (v := .ref (A 13)) (C := RX9) (T := TX9) (N := 12) hx hb hts (fun w h => uc_in w (inX9 w h)) hown hK hH.1 0 (cwc0 C A u9) rfl 8 (by decide) (hts _ (uc_in _ q_f391)) (fun _ h9 => h9) rfl dX9_round_32 ?_
    refine lv_aload_n hx hb dX9_round_35 rfl (lv_at hl 0 rfl) ?_
    refine va_get (ci := 9) (v := .ref (A 2)) (C := RX9) (T := TX9) (N := 12) hx hb hts (fun w h => uc_in w (inX9 w h)) hown hK hH.1 0 (cwc0 C A u9) rfl 1 (by decide) (hts _ (uc_in _ q_f384)) (fun _ h9 => h9) rfl dX9_round_36 ?_
    refine va_get (ci := 7) (v := .int (gi u9 10)) (C := RX7) (T := TX7) (N := 16) hx hb hts (fun w h => uc_in w (inX7 w h)) hown hK hH.1 2 (cwc2 C A u9) rfl 2 (by decide) (hts _ (uc_in _ q_f77)) (fun _ h9 => h9) rfl dX9_round_39 ?_
    refine lv_aload_n hx hb dX9_round_42 rfl (lv_at hl 0 rfl) ?_
    refine va_get (ci := 9) (v := .ref (A 7)) (C := RX9) (T := TX9) (N := 12) hx hb hts (fun w h => uc_in w (inX9 w h)) hown hK hH.1 0 (cwc0 C A u9) rfl 5 (by decide) (hts _ (uc_in _ q_f388)) (fun _ h9 => h9) rfl dX9_round_43 ?_
    refine va_get (ci := 5) (v := .ref (A 38)) (C := RX5) (T := TX5) (N := 4) hx hb hts (fun w h => uc_in w (inX5 w h)) hown hK hH.1 7 (cwc7 C A u9) rfl 3 (by decide) (hts _ (uc_in _ q_f175)) (fun _ h9 => h9) rfl dX9_round_46 ?_
    refine lv_iload_n hx hb dX9_round_49 rfl (lv_at hl 1 rfl) ?_
    refine va_iald hx hb hK hH.1 38 1 (cwc38 C A u9) rfl (i_ix ha0 (by omega) (by omega)) dX9_round_50 ?_
    refine p_any (fun z12 => ?_)
    refine cvU (n := 2) (As := [.int (gi u9 10), .int z12]) (rest := []) ⟨hx, hb, hml, hown, hts⟩ uc_in (kX0_search_0 l D C A u9 hI (gi u9 10) (((gi u9 10)).toInt) rfl z12 z12.toInt rfl _) q_m884 q_n885 q_e886 q_i7 q_c887 hvX0_search ⟨(Nat.le_of_ble_eq_true rfl), (Nat.le_of_ble_eq_true rfl)⟩ ⟨(Nat.le_of_ble_eq_true rfl), (Nat.le_of_ble_eq_true rfl)⟩ hK hH (fun q h => Or.inr h) Bl0 (fun _ _ _ => trivial) 0 13 rfl (cwc13 C A u9) rfl hl.1 rfl (Nat.le_of_ble_eq_true rfl) dX9_round_51 (fun u13 H locs p15 hH => ?_)
    obtain ⟨hI, hUu13, p15⟩ := p15
    refine lv_aload_n hx hb dX9_round_54 rfl (lv_at hl 0 rfl) ?_
    refine va_get (ci := 9) (v := .ref (A 13)) (C := RX9) (T := TX9) (N := 12) hx hb hts (fun w h => uc_in w (inX9 w h)) hown hK hH.1 0 (cwc0 C A u13) rfl 8 (by decide) (hts _ (uc_in _ q_f391)) (fun _ h9 => h9) rfl dX9_round_55 ?_
    refine va_get (ci := 0) (v := .int (gi u13 66)) (C := RX0) (T := TX0) (N := 6) hx hb hts (fun w h => uc_in w (inX0 w h)) hown hK hH.1 13 (cwc13 C A u13) rfl 0 (by decide) (hts _ (uc_in _ q_f273)) (fun _ h9 => h9) rfl dX9_round_58 ?_
    exact hret _ _ _ _ (gi u13 66) _ dX9_round_61 rfl ⟨hI, (Un.tr (Un.tr Un.rf hUu9 rfl rfl rfl) hUu13 rfl rfl rfl), trivial⟩ hH
  · subst e9
    refine lv_if_ne (tgt := 11) hx hb dX9_round_5 (by decide) (fun c16 => absurd c16 (by decide)) (fun c16 => ?_)
    refine lv_bipush (v := (-2)) hx hb dX9_round_8 (by decide) ?_
    exact hret _ _ _ _ ((-2) : Int32) _ dX9_round_10 rfl ⟨hI, Un.rf, trivial⟩ hH
set_option maxHeartbeats 4000000 in
set_option maxRecDepth 100000 in
theorem kX9_rounds_0 (l : Launch) (D : va_G) (C : Nat → ClassId) (A : Nat → Nat) (u : St) (hI : IC u) (a0 : Int32) (A0 : Int) (ha0 : a0.toInt = A0) (a1 : Int32) (A1 : Int) (ha1 : a1.toInt = A1) (sz : Nat) : MetI l yX9_rounds cX9_rounds 3 (some .int) 11 [.ref (A 0), .int a0, .int a1] D (tyl C) (cw C A) X0 u sz (fun r u' => IC u' ∧ Un [(66, 66), (67, 67)] [(77, 77), (78, 78), (79, 79), (80, 80)] [] u u' ∧ (True)) := by
  refine mI (by decide) (Nat.le_of_ble_eq_true rfl) ?_
  intro p e s m below meth c ls ar Q hx hb hml hown hts hK hH hX hl hret
  have hown : s.vm.findClass RX9 = some m.cls := hown
  have hl : lv_has ls 3 [(0, .ref (A 0)), (1, .int a0), (2, .int a1)] := hl
  refine lv_aload_n hx hb dX9_rounds_0 rfl (lv_at hl 0 rfl) ?_
  refine lv_iload_n hx hb dX9_rounds_1 rfl (lv_at hl 1 rfl) ?_
  refine cvS (n := 1) (As := [.int a0]) (rest := []) ⟨hx, hb, hml, hown, hts⟩ uc_in (kX9_isDay_0 l D C A u hI a0 A0 ha0) q_m597 q_n599 q_p12 q_i1 q_c600 hvX9_isDay ⟨(Nat.le_of_ble_eq_true rfl), (Nat.le_of_ble_eq_true rfl)⟩ ⟨(Nat.le_of_ble_eq_true rfl), (Nat.le_of_ble_eq_true rfl)⟩ hK hH.1 9 0 rfl (cwc0 C A u) rfl hl.1 rfl (Nat.le_of_ble_eq_true rfl) dX9_rounds_2 (fun r1 p2 => ?_)
  rcases p2 with ⟨e9, f3, f4⟩ | e9
  · subst e9
    have b6 := hI.b48
    refine lv_if_ne (tgt := 11) hx hb dX9_rounds_5 (by decide) (fun c7 => ?_) (fun c7 => absurd c7 (by decide))
    refine lv_aload_n hx hb dX9_rounds_11 rfl (lv_at hl 0 rfl) ?_
    refine va_get (ci := 9) (v := .ref (A 13)) (C := RX9) (T := TX9) (N := 12) hx hb hts (fun w h => uc_in w (inX9 w h)) hown hK hH.1 0 (cwc0 C A u) rfl 8 (by decide) (hts _ (uc_in _ q_f391)) (fun _ h9 => h9) rfl dX9_rounds_12 ?_
    refine lv_aload_n hx hb dX9_rounds_15 rfl (lv_at hl 0 rfl) ?_
    refine va_get (ci := 9) (v := .ref (A 2)) (C := RX9) (T := TX9) (N := 12) hx hb hts (fun w h => uc_in w (inX9 w h)) hown hK hH.1 0 (cwc0 C A u) rfl 1 (by decide) (hts _ (uc_in _ q_f384)) (fun _ h9 => h9) rfl dX9_rounds_16 ?_
    refine lv_aload_n hx hb dX9_rounds_19 rfl (lv_at hl 0 rfl) ?_
    refine va_get (ci := 9) (v := .ref (A 7)) (C := RX9) (T := TX9) (N := 12) hx hb hts (fun w h => uc_in w (inX9 w h)) hown hK hH.1 0 (cwc0 C A u) rfl 5 (by decide) (hts _ (uc_in _ q_f388)) (fun _ h9 => h9) rfl dX9_rounds_20 ?_
    refine va_get (ci := 5) (v := .ref (A 19)) (C := RX5) (T := TX5) (N := 4) hx hb hts (fun w h => uc_in w (inX5 w h)) hown hK hH.1 7 (cwc7 C A u) rfl 2 (by decide) (hts _ (uc_in _ q_f171)) (fun _ h9 => h9) rfl dX9_rounds_23 ?_
    refine lv_iload_n hx hb dX9_rounds_26 rfl (lv_at hl 1 rfl) ?_
    refine r_aald hx hb hK hH.1 19 6 rfl (cwc19 C A u) rfl (i_ix ha0 (by omega) (by omega)) dX9_rounds_27 ?_
    obtain ⟨k8, hk8, ek8⟩ : ∃ k : Nat, (k : Int) = 32 + A0 ∧ k = 32 + Int32.toNatClampNeg a0 := ⟨_, by have q9 := i_cl (x := a0) (X := A0) ha0 (by omega); omega, rfl⟩
    refine pv_v (v := .ref (A (52 + k8))) (by rw [ek8]; rfl) ?_
    refine cvU (n := 2) (As := [.ref (A 2), .ref (A (52 + k8))]) (rest := []) ⟨hx, hb, hml, hown, hts⟩ uc_in (kX0_begin_0 l D C A u hI k8 (by omega) _) q_m879 q_n880 q_e881 q_i7 q_c882 hvX0_begin ⟨(Nat.le_of_ble_eq_true rfl), (Nat.le_of_ble_eq_true rfl)⟩ ⟨(Nat.le_of_ble_eq_true rfl), (Nat.le_of_ble_eq_true rfl)⟩ hK hH (fun q h => Or.inr h) Bl0 (fun _ _ _ => trivial) 0 13 rfl (cwc13 C A u) rfl hl.1 rfl (Nat.le_of_ble_eq_true rfl) dX9_rounds_28 (fun u9 H locs p11 hH => ?_)
    obtain ⟨hI, hUu9, p11⟩ := p11
    refine lv_aload_n hx hb dX9_rounds_31 rfl (lv_at hl 0 rfl) ?_
    refine va_get (ci := 9) (v := .ref (A 13)) (C := RX9) (T := TX9) (N := 12) hx hb hts (fun w h => uc_in w (inX9 w h)) hown hK hH.1 0 (cwc0 C A u9) rfl 8 (by decide) (hts _ (uc_in _ q_f391)) (fun _ h9 => h9) rfl dX9_rounds_32 ?_
    refine lv_aload_n hx hb dX9_rounds_35 rfl (lv_at hl 0 rfl) ?_
    refine va_get (ci := 9) (v := .ref (A 2)) (C := RX9) (T := TX9) (N := 12) hx hb hts (fun w h => uc_in w (inX9 w h)) hown hK hH.1 0 (cwc0 C A u9) rfl 1 (by decide) (hts _ (uc_in _ q_f384)) (fun _ h9 => h9) rfl dX9_rounds_36 ?_
    refine va_get (ci := 7) (v := .int (gi u9 10)) (C := RX7) (T := TX7) (N := 16) hx hb hts (fun w h => uc_in w (inX7 w h)) hown hK hH.1 2 (cwc2 C A u9) rfl 2 (by decide) (hts _ (uc_in _ q_f77)) (fun _ h9 => h9) rfl dX9_rounds_39 ?_
    refine lv_aload_n hx hb dX9_rounds_42 rfl (lv_at hl 0 rfl) ?_
    refine va_get (ci := 9) (v := .ref (A 7)) (C := RX9) (T := TX9) (N := 12) hx hb hts (fun w h => uc_in w (inX9 w h)) hown hK hH.1 0 (cwc0 C A u9) rfl 5 (by decide) (hts _ (uc_in _ q_f388)) (fun _ h9 => h9) rfl dX9_rounds_43 ?_
    refine va_get (ci := 5) (v := .ref (A 38)) (C := RX5) (T := TX5) (N := 4) hx hb hts (fun w h => uc_in w (inX5 w h)) hown hK hH.1 7 (cwc7 C A u9) rfl 3 (by decide) (hts _ (uc_in _ q_f175)) (fun _ h9 => h9) rfl dX9_rounds_46 ?_
    refine lv_iload_n hx hb dX9_rounds_49 rfl (lv_at hl 1 rfl) ?_
    refine va_iald hx hb hK hH.1 38 1 (cwc38 C A u9) rfl (i_ix ha0 (by omega) (by omega)) dX9_rounds_50 ?_
    refine p_any (fun z12 => ?_)
    refine cvU (n := 2) (As := [.int (gi u9 10), .int z12]) (rest := []) ⟨hx, hb, hml, hown, hts⟩ uc_in (kX0_search_0 l D C A u9 hI (gi u9 10) (((gi u9 10)).toInt) rfl z12 z12.toInt rfl _) q_m884 q_n885 q_e886 q_i7 q_c887 hvX0_search ⟨(Nat.le_of_ble_eq_true rfl), (Nat.le_of_ble_eq_true rfl)⟩ ⟨(Nat.le_of_ble_eq_true rfl), (Nat.le_of_ble_eq_true rfl)⟩ hK hH (fun q h => Or.inr h) Bl0 (fun _ _ _ => trivial) 0 13 rfl (cwc13 C A u9) rfl hl.1 rfl (Nat.le_of_ble_eq_true rfl) dX9_rounds_51 (fun u13 H locs p15 hH => ?_)
    obtain ⟨hI, hUu13, p15⟩ := p15
    refine lv_iload_n hx hb dX9_rounds_54 rfl (lv_at hl 2 rfl) ?_
    refine lv_if_lt (tgt := 81) hx hb dX9_rounds_55 (by decide) (fun c16 => ?_) (fun c16 => ?_)
    · have c16 := cLT (x := a1) (y := 0) (X := A1) (Y := 0) ha1 (by decide) c16
      refine lv_iconst (v := (-1)) hx hb dX9_rounds_81 (by decide) ?_
      exact hret _ _ _ _ ((-1) : Int32) _ dX9_rounds_82 rfl ⟨hI, (Un.tr (Un.tr Un.rf hUu9 rfl rfl rfl) hUu13 rfl rfl rfl), trivial⟩ hH
    · have c16 := cNLT (x := a1) (y := 0) (X := A1) (Y := 0) ha1 (by decide) c16
      refine lv_iload_n hx hb dX9_rounds_58 rfl (lv_at hl 2 rfl) ?_
      refine lv_aload_n hx hb dX9_rounds_59 rfl (lv_at hl 0 rfl) ?_
      refine va_get (ci := 9) (v := .ref (A 13)) (C := RX9) (T := TX9) (N := 12) hx hb hts (fun w h => uc_in w (inX9 w h)) hown hK hH.1 0 (cwc0 C A u13) rfl 8 (by decide) (hts _ (uc_in _ q_f391)) (fun _ h9 => h9) rfl dX9_rounds_60 ?_
      refine va_get (ci := 0) (v := .int (gi u13 67)) (C := RX0) (T := TX0) (N := 6) hx hb hts (fun w h => uc_in w (inX0 w h)) hown hK hH.1 13 (cwc13 C A u13) rfl 1 (by decide) (hts _ (uc_in _ q_f275)) (fun _ h9 => h9) rfl dX9_rounds_63 ?_
      have b17 := hI.b67
      refine lv_icmp_ge (tgt := 81) hx hb dX9_rounds_66 (by decide) (fun c18 => ?_) (fun c18 => ?_)
      · have c18 := cLE (x := (gi u13 67)) (y := a1) (X := ((gi u13 67)).toInt) (Y := A1) rfl ha1 c18
        refine lv_iconst (v := (-1)) hx hb dX9_rounds_81 (by decide) ?_
        exact hret _ _ _ _ ((-1) : Int32) _ dX9_rounds_82 rfl ⟨hI, (Un.tr (Un.tr Un.rf hUu9 rfl rfl rfl) hUu13 rfl rfl rfl), trivial⟩ hH
      · have c18 := cNLE (x := (gi u13 67)) (y := a1) (X := ((gi u13 67)).toInt) (Y := A1) rfl ha1 c18
        refine lv_aload_n hx hb dX9_rounds_69 rfl (lv_at hl 0 rfl) ?_
        refine va_get (ci := 9) (v := .ref (A 13)) (C := RX9) (T := TX9) (N := 12) hx hb hts (fun w h => uc_in w (inX9 w h)) hown hK hH.1 0 (cwc0 C A u13) rfl 8 (by decide) (hts _ (uc_in _ q_f391)) (fun _ h9 => h9) rfl dX9_rounds_70 ?_
        refine va_get (ci := 0) (v := .ref (A 77)) (C := RX0) (T := TX0) (N := 6) hx hb hts (fun w h => uc_in w (inX0 w h)) hown hK hH.1 13 (cwc13 C A u13) rfl 2 (by decide) (hts _ (uc_in _ q_f277)) (fun _ h9 => h9) rfl dX9_rounds_73 ?_
        refine lv_iload_n hx hb dX9_rounds_76 rfl (lv_at hl 2 rfl) ?_
        refine va_iald hx hb hK hH.1 77 1 (cwc77 C A u13) rfl (i_ix ha1 (by omega) (by omega)) dX9_rounds_77 ?_
        refine p_any (fun z19 => ?_)
        refine lv_goto (tgt := 82) hx hb dX9_rounds_78 (by decide) ?_
        exact hret _ _ _ _ z19 _ dX9_rounds_82 rfl ⟨hI, (Un.tr (Un.tr Un.rf hUu9 rfl rfl rfl) hUu13 rfl rfl rfl), trivial⟩ hH
  · subst e9
    refine lv_if_ne (tgt := 11) hx hb dX9_rounds_5 (by decide) (fun c20 => absurd c20 (by decide)) (fun c20 => ?_)
    refine lv_bipush (v := (-2)) hx hb dX9_rounds_8 (by decide) ?_
    exact hret _ _ _ _ ((-2) : Int32) _ dX9_rounds_10 rfl ⟨hI, Un.rf, trivial⟩ hH
set_option maxHeartbeats 4000000 in
set_option maxRecDepth 100000 in
theorem kX3_begin_0 (l : Launch) (D : va_G) (C : Nat → ClassId) (A : Nat → Nat) (u : St) (hI : IC u) (a0 : Int32) (A0 : Int) (ha0 : a0.toInt = A0) (a1 : Int32) (A1 : Int) (ha1 : a1.toInt = A1) (hl1 : 0 ≤ A1) (hm1 : A1 ≤ 60) (sz : Nat) : MetV l yX3_begin cX3_begin 4 1 [.ref (A 8), .int a0, .int a1] D (tyl C) (cw C A) X0 u sz (fun u' => IC u' ∧ Un [(50, 50), (51, 51)] [] [(39, 39)] u u' ∧ gi u' 50 = a1 ∧ gi u' 51 = a0) := by
  refine mV (by decide) (Nat.le_of_ble_eq_true rfl) ?_
  intro p e s m below meth c ls ar Q hx hb hml hown hts hK hH hX hl hret
  have hown : s.vm.findClass RX3 = some m.cls := hown
  have hl : lv_has ls 4 [(0, .ref (A 8)), (1, .int a0), (2, .int a1)] := hl
  refine lv_aload_n hx hb dX3_begin_0 rfl (lv_at hl 0 rfl) ?_
  refine lv_iload_n hx hb dX3_begin_1 rfl (lv_at hl 1 rfl) ?_
  refine r_put (j := 51) (ci := 3) (C := RX3) (T := TX3) (N := 3) hx hb hts (fun w h => uc_in w (inX3 w h)) tyX3 tyX3_ok nmX3 hown hK hH 8 (cwc8 C A u) rfl 1 (by decide) (hts _ (uc_in _ q_f196)) (fun _ h9 => h9) rfl (by decide +kernel) (Nat.le_of_ble_eq_true rfl) (cws51 C A u _) dX3_begin_2 (fun u1 eu1 H locs hH => ?_)
  have hI := hI.pi0 eu1 rfl (by decide) (by decide)
  refine lv_aload_n hx hb dX3_begin_5 rfl (lv_at hl 0 rfl) ?_
  refine lv_iload_n hx hb dX3_begin_6 rfl (lv_at hl 2 rfl) ?_
  refine r_put (j := 50) (ci := 3) (C := RX3) (T := TX3) (N := 3) hx hb hts (fun w h => uc_in w (inX3 w h)) tyX3 tyX3_ok nmX3 hown hK hH 8 (cwc8 C A u1) rfl 0 (by decide) (hts _ (uc_in _ q_f192)) (fun _ h9 => h9) rfl (by decide +kernel) (Nat.le_of_ble_eq_true rfl) (cws50 C A u1 _) dX3_begin_7 (fun u2 eu2 H locs hH => ?_)
  have hI := hI.s50 eu2 ha1 (by omega) (by omega)
  refine lv_iconst (v := 0) hx hb dX3_begin_10 (by decide) ?_
  refine lv_istore_n (lv' := [(3, .int 0), (0, .ref (A 8)), (1, .int a0), (2, .int a1)]) hx hb dX3_begin_11 rfl hl (by decide) rfl (fun ls hl => ?_)
  have lp12_58 : ∀ (n12 : Nat) (ls : Array Slot) (y57d : Int32) (u58 : St) (H : Heap) (locs : List Loc), 0 ≤ y57d.toInt → y57d.toInt ≤ 60 → 60 - y57d.toInt < (n12 : Int) → Un [] [] [(39, 39)] u2 u58 → IC u58 → Hd D (cw C A) (va_A (cw C A u) s.heap.size) s.heap u58 H locs → lv_has ls 4 [(3, .int y57d), (0, .ref (A 8))] → W p l e (rmL 1 0 0) s m ar below meth c H locs 0 0 Q (F0 m 12 ls []) := by
    intro n12
    induction n12 with
    | zero => intro ls y57d u58 H locs ly57d my57d hmun12 hUu58 hI hH hl; exfalso; omega
    | succ n12 ih12_58 =>
      intro ls y57d u58 H locs ly57d my57d hmun12 hUu58 hI hH hl
      refine lv_iload_n hx hb dX3_begin_12 rfl (lv_at hl 0 rfl) ?_
      refine lv_bipush (v := 60) hx hb dX3_begin_13 (by decide) ?_
      refine lv_icmp_ge (tgt := 31) hx hb dX3_begin_15 (by decide) (fun c60 => ?_) (fun c60 => ?_)
      · have c60 := cLE (x := 60) (y := y57d) (X := 60) (Y := y57d.toInt) (by decide) rfl c60
        exact hret _ _ _ _ _ dX3_begin_31 ⟨hI, (Un.tr (Un.si (Un.si Un.rf rfl eu1) rfl eu2) hUu58 rfl rfl rfl), ⟨((hUu58.1 50 rfl).trans (gi_si eu2)), ((hUu58.1 51 rfl).trans ((gi_ne eu2 (by decide)).trans (gi_si eu1)))⟩⟩ hH
      · have c60 := cNLE (x := 60) (y := y57d) (X := 60) (Y := y57d.toInt) (by decide) rfl c60
        refine lv_aload_n hx hb dX3_begin_18 rfl (lv_at hl 1 rfl) ?_
        refine va_get (ci := 3) (v := .ref (A 39)) (C := RX3) (T := TX3) (N := 3) hx hb hts (fun w h => uc_in w (inX3 w h)) hown hK hH.1 8 (cwc8 C A u58) rfl 2 (by decide) (hts _ (uc_in _ q_f198)) (fun _ h9 => h9) rfl dX3_begin_19 ?_
        refine lv_iload_n hx hb dX3_begin_22 rfl (lv_at hl 0 rfl) ?_
        refine lv_lconst (v := 0) hx hb dX3_begin_23 (by decide) ?_
        refine r_last (j := 39) hx hb hK hH 39 2 (cwc39 C A u58) rfl (i_ix rfl (by omega) (by omega)) (cwb39 C A u58) dX3_begin_24 (fun u61 eu61 H locs hH => ?_)
        have hI := hI.pb_ eu61
        obtain ⟨z62, ez62⟩ : ∃ z, z = y57d + Int32.ofInt 1 := ⟨_, rfl⟩
        have hz62 : z62.toInt = y57d.toInt + 1 := by rw [ez62]; exact tt_add rfl (by decide) (by omega) (by omega)
        refine lv_iinc (v := z62) (lv' := [(3, .int z62), (0, .ref (A 8))]) hx hb dX3_begin_25 hl (k := 0) rfl ez62.symm (by decide) rfl (fun ls hl => ?_)
        refine lv_goto (tgt := 12) hx hb dX3_begin_28 (by decide) ?_
        exact ih12_58 ls z62 u61 _ _ (by have q9 := (show z62.toInt = (y57d.toInt + 1) from hz62); omega) (by have q9 := (show z62.toInt = (y57d.toInt + 1) from hz62); omega) (by have q9 := (show z62.toInt = (y57d.toInt + 1) from hz62); omega) (Un.sb hUu58 rfl eu61) hI hH hl
  exact lp12_58 61 ls 0 u2 _ _ (by decide) (by decide) (by have q9 : (0 : Int32).toInt = 0 := (by decide); omega) Un.rf hI hH (lv_sub hl [0, 1] rfl)
set_option maxHeartbeats 4000000 in
set_option maxRecDepth 100000 in
theorem kX3_begin_1 (l : Launch) (D : va_G) (C : Nat → ClassId) (A : Nat → Nat) (u : St) (hI : IC u) (a0 : Int32) (A0 : Int) (ha0 : a0.toInt = A0) (a1 : Int32) (A1 : Int) (ha1 : a1.toInt = A1) (hl1 : 0 ≤ A1) (hm1 : A1 ≤ 60) (sz : Nat) : MetV l yX3_begin cX3_begin 4 1 [.ref (A 9), .int a0, .int a1] D (tyl C) (cw C A) X0 u sz (fun u' => IC u' ∧ Un [(52, 52), (53, 53)] [] [(40, 40)] u u' ∧ gi u' 52 = a1 ∧ gi u' 53 = a0) := by
  refine mV (by decide) (Nat.le_of_ble_eq_true rfl) ?_
  intro p e s m below meth c ls ar Q hx hb hml hown hts hK hH hX hl hret
  have hown : s.vm.findClass RX3 = some m.cls := hown
  have hl : lv_has ls 4 [(0, .ref (A 9)), (1, .int a0), (2, .int a1)] := hl
  refine lv_aload_n hx hb dX3_begin_0 rfl (lv_at hl 0 rfl) ?_
  refine lv_iload_n hx hb dX3_begin_1 rfl (lv_at hl 1 rfl) ?_
  refine r_put (j := 53) (ci := 3) (C := RX3) (T := TX3) (N := 3) hx hb hts (fun w h => uc_in w (inX3 w h)) tyX3 tyX3_ok nmX3 hown hK hH 9 (cwc9 C A u) rfl 1 (by decide) (hts _ (uc_in _ q_f196)) (fun _ h9 => h9) rfl (by decide +kernel) (Nat.le_of_ble_eq_true rfl) (cws53 C A u _) dX3_begin_2 (fun u1 eu1 H locs hH => ?_)
  have hI := hI.pi0 eu1 rfl (by decide) (by decide)
  refine lv_aload_n hx hb dX3_begin_5 rfl (lv_at hl 0 rfl) ?_
  refine lv_iload_n hx hb dX3_begin_6 rfl (lv_at hl 2 rfl) ?_
  refine r_put (j := 52) (ci := 3) (C := RX3) (T := TX3) (N := 3) hx hb hts (fun w h => uc_in w (inX3 w h)) tyX3 tyX3_ok nmX3 hown hK hH 9 (cwc9 C A u1) rfl 0 (by decide) (hts _ (uc_in _ q_f192)) (fun _ h9 => h9) rfl (by decide +kernel) (Nat.le_of_ble_eq_true rfl) (cws52 C A u1 _) dX3_begin_7 (fun u2 eu2 H locs hH => ?_)
  have hI := hI.s52 eu2 ha1 (by omega) (by omega)
  refine lv_iconst (v := 0) hx hb dX3_begin_10 (by decide) ?_
  refine lv_istore_n (lv' := [(3, .int 0), (0, .ref (A 9)), (1, .int a0), (2, .int a1)]) hx hb dX3_begin_11 rfl hl (by decide) rfl (fun ls hl => ?_)
  have lp12_58 : ∀ (n12 : Nat) (ls : Array Slot) (y57d : Int32) (u58 : St) (H : Heap) (locs : List Loc), 0 ≤ y57d.toInt → y57d.toInt ≤ 60 → 60 - y57d.toInt < (n12 : Int) → Un [] [] [(40, 40)] u2 u58 → IC u58 → Hd D (cw C A) (va_A (cw C A u) s.heap.size) s.heap u58 H locs → lv_has ls 4 [(3, .int y57d), (0, .ref (A 9))] → W p l e (rmL 1 0 0) s m ar below meth c H locs 0 0 Q (F0 m 12 ls []) := by
    intro n12
    induction n12 with
    | zero => intro ls y57d u58 H locs ly57d my57d hmun12 hUu58 hI hH hl; exfalso; omega
    | succ n12 ih12_58 =>
      intro ls y57d u58 H locs ly57d my57d hmun12 hUu58 hI hH hl
      refine lv_iload_n hx hb dX3_begin_12 rfl (lv_at hl 0 rfl) ?_
      refine lv_bipush (v := 60) hx hb dX3_begin_13 (by decide) ?_
      refine lv_icmp_ge (tgt := 31) hx hb dX3_begin_15 (by decide) (fun c60 => ?_) (fun c60 => ?_)
      · have c60 := cLE (x := 60) (y := y57d) (X := 60) (Y := y57d.toInt) (by decide) rfl c60
        exact hret _ _ _ _ _ dX3_begin_31 ⟨hI, (Un.tr (Un.si (Un.si Un.rf rfl eu1) rfl eu2) hUu58 rfl rfl rfl), ⟨((hUu58.1 52 rfl).trans (gi_si eu2)), ((hUu58.1 53 rfl).trans ((gi_ne eu2 (by decide)).trans (gi_si eu1)))⟩⟩ hH
      · have c60 := cNLE (x := 60) (y := y57d) (X := 60) (Y := y57d.toInt) (by decide) rfl c60
        refine lv_aload_n hx hb dX3_begin_18 rfl (lv_at hl 1 rfl) ?_
        refine va_get (ci := 3) (v := .ref (A 40)) (C := RX3) (T := TX3) (N := 3) hx hb hts (fun w h => uc_in w (inX3 w h)) hown hK hH.1 9 (cwc9 C A u58) rfl 2 (by decide) (hts _ (uc_in _ q_f198)) (fun _ h9 => h9) rfl dX3_begin_19 ?_
        refine lv_iload_n hx hb dX3_begin_22 rfl (lv_at hl 0 rfl) ?_
        refine lv_lconst (v := 0) hx hb dX3_begin_23 (by decide) ?_
        refine r_last (j := 40) hx hb hK hH 40 2 (cwc40 C A u58) rfl (i_ix rfl (by omega) (by omega)) (cwb40 C A u58) dX3_begin_24 (fun u61 eu61 H locs hH => ?_)
        have hI := hI.pb_ eu61
        obtain ⟨z62, ez62⟩ : ∃ z, z = y57d + Int32.ofInt 1 := ⟨_, rfl⟩
        have hz62 : z62.toInt = y57d.toInt + 1 := by rw [ez62]; exact tt_add rfl (by decide) (by omega) (by omega)
        refine lv_iinc (v := z62) (lv' := [(3, .int z62), (0, .ref (A 9))]) hx hb dX3_begin_25 hl (k := 0) rfl ez62.symm (by decide) rfl (fun ls hl => ?_)
        refine lv_goto (tgt := 12) hx hb dX3_begin_28 (by decide) ?_
        exact ih12_58 ls z62 u61 _ _ (by have q9 := (show z62.toInt = (y57d.toInt + 1) from hz62); omega) (by have q9 := (show z62.toInt = (y57d.toInt + 1) from hz62); omega) (by have q9 := (show z62.toInt = (y57d.toInt + 1) from hz62); omega) (Un.sb hUu58 rfl eu61) hI hH hl
  exact lp12_58 61 ls 0 u2 _ _ (by decide) (by decide) (by have q9 : (0 : Int32).toInt = 0 := (by decide); omega) Un.rf hI hH (lv_sub hl [0, 1] rfl)
set_option maxHeartbeats 4000000 in
set_option maxRecDepth 100000 in
theorem kX3_begin_2 (l : Launch) (D : va_G) (C : Nat → ClassId) (A : Nat → Nat) (u : St) (hI : IC u) (a0 : Int32) (A0 : Int) (ha0 : a0.toInt = A0) (a1 : Int32) (A1 : Int) (ha1 : a1.toInt = A1) (hl1 : 0 ≤ A1) (hm1 : A1 ≤ 60) (sz : Nat) : MetV l yX3_begin cX3_begin 4 1 [.ref (A 10), .int a0, .int a1] D (tyl C) (cw C A) X0 u sz (fun u' => IC u' ∧ Un [(54, 54), (55, 55)] [] [(41, 41)] u u' ∧ gi u' 54 = a1 ∧ gi u' 55 = a0) := by
  refine mV (by decide) (Nat.le_of_ble_eq_true rfl) ?_
  intro p e s m below meth c ls ar Q hx hb hml hown hts hK hH hX hl hret
  have hown : s.vm.findClass RX3 = some m.cls := hown
  have hl : lv_has ls 4 [(0, .ref (A 10)), (1, .int a0), (2, .int a1)] := hl
  refine lv_aload_n hx hb dX3_begin_0 rfl (lv_at hl 0 rfl) ?_
  refine lv_iload_n hx hb dX3_begin_1 rfl (lv_at hl 1 rfl) ?_
  refine r_put (j := 55) (ci := 3) (C := RX3) (T := TX3) (N := 3) hx hb hts (fun w h => uc_in w (inX3 w h)) tyX3 tyX3_ok nmX3 hown hK hH 10 (cwc10 C A u) rfl 1 (by decide) (hts _ (uc_in _ q_f196)) (fun _ h9 => h9) rfl (by decide +kernel) (Nat.le_of_ble_eq_true rfl) (cws55 C A u _) dX3_begin_2 (fun u1 eu1 H locs hH => ?_)
  have hI := hI.pi0 eu1 rfl (by decide) (by decide)
  refine lv_aload_n hx hb dX3_begin_5 rfl (lv_at hl 0 rfl) ?_
  refine lv_iload_n hx hb dX3_begin_6 rfl (lv_at hl 2 rfl) ?_
  refine r_put (j := 54) (ci := 3) (C := RX3) (T := TX3) (N := 3) hx hb hts (fun w h => uc_in w (inX3 w h)) tyX3 tyX3_ok nmX3 hown hK hH 10 (cwc10 C A u1) rfl 0 (by decide) (hts _ (uc_in _ q_f192)) (fun _ h9 => h9) rfl (by decide +kernel) (Nat.le_of_ble_eq_true rfl) (cws54 C A u1 _) dX3_begin_7 (fun u2 eu2 H locs hH => ?_)
  have hI := hI.s54 eu2 ha1 (by omega) (by omega)
  refine lv_iconst (v := 0) hx hb dX3_begin_10 (by decide) ?_
  refine lv_istore_n (lv' := [(3, .int 0), (0, .ref (A 10)), (1, .int a0), (2, .int a1)]) hx hb dX3_begin_11 rfl hl (by decide) rfl (fun ls hl => ?_)
  have lp12_58 : ∀ (n12 : Nat) (ls : Array Slot) (y57d : Int32) (u58 : St) (H : Heap) (locs : List Loc), 0 ≤ y57d.toInt → y57d.toInt ≤ 60 → 60 - y57d.toInt < (n12 : Int) → Un [] [] [(41, 41)] u2 u58 → IC u58 → Hd D (cw C A) (va_A (cw C A u) s.heap.size) s.heap u58 H locs → lv_has ls 4 [(3, .int y57d), (0, .ref (A 10))] → W p l e (rmL 1 0 0) s m ar below meth c H locs 0 0 Q (F0 m 12 ls []) := by
    intro n12
    induction n12 with
    | zero => intro ls y57d u58 H locs ly57d my57d hmun12 hUu58 hI hH hl; exfalso; omega
    | succ n12 ih12_58 =>
      intro ls y57d u58 H locs ly57d my57d hmun12 hUu58 hI hH hl
      refine lv_iload_n hx hb dX3_begin_12 rfl (lv_at hl 0 rfl) ?_
      refine lv_bipush (v := 60) hx hb dX3_begin_13 (by decide) ?_
      refine lv_icmp_ge (tgt := 31) hx hb dX3_begin_15 (by decide) (fun c60 => ?_) (fun c60 => ?_)
      · have c60 := cLE (x := 60) (y := y57d) (X := 60) (Y := y57d.toInt) (by decide) rfl c60
        exact hret _ _ _ _ _ dX3_begin_31 ⟨hI, (Un.tr (Un.si (Un.si Un.rf rfl eu1) rfl eu2) hUu58 rfl rfl rfl), ⟨((hUu58.1 54 rfl).trans (gi_si eu2)), ((hUu58.1 55 rfl).trans ((gi_ne eu2 (by decide)).trans (gi_si eu1)))⟩⟩ hH
      · have c60 := cNLE (x := 60) (y := y57d) (X := 60) (Y := y57d.toInt) (by decide) rfl c60
        refine lv_aload_n hx hb dX3_begin_18 rfl (lv_at hl 1 rfl) ?_
        refine va_get (ci := 3) (v := .ref (A 41)) (C := RX3) (T := TX3) (N := 3) hx hb hts (fun w h => uc_in w (inX3 w h)) hown hK hH.1 10 (cwc10 C A u58) rfl 2 (by decide) (hts _ (uc_in _ q_f198)) (fun _ h9 => h9) rfl dX3_begin_19 ?_
        refine lv_iload_n hx hb dX3_begin_22 rfl (lv_at hl 0 rfl) ?_
        refine lv_lconst (v := 0) hx hb dX3_begin_23 (by decide) ?_
        refine r_last (j := 41) hx hb hK hH 41 2 (cwc41 C A u58) rfl (i_ix rfl (by omega) (by omega)) (cwb41 C A u58) dX3_begin_24 (fun u61 eu61 H locs hH => ?_)
        have hI := hI.pb_ eu61
        obtain ⟨z62, ez62⟩ : ∃ z, z = y57d + Int32.ofInt 1 := ⟨_, rfl⟩
        have hz62 : z62.toInt = y57d.toInt + 1 := by rw [ez62]; exact tt_add rfl (by decide) (by omega) (by omega)
        refine lv_iinc (v := z62) (lv' := [(3, .int z62), (0, .ref (A 10))]) hx hb dX3_begin_25 hl (k := 0) rfl ez62.symm (by decide) rfl (fun ls hl => ?_)
        refine lv_goto (tgt := 12) hx hb dX3_begin_28 (by decide) ?_
        exact ih12_58 ls z62 u61 _ _ (by have q9 := (show z62.toInt = (y57d.toInt + 1) from hz62); omega) (by have q9 := (show z62.toInt = (y57d.toInt + 1) from hz62); omega) (by have q9 := (show z62.toInt = (y57d.toInt + 1) from hz62); omega) (Un.sb hUu58 rfl eu61) hI hH hl
  exact lp12_58 61 ls 0 u2 _ _ (by decide) (by decide) (by have q9 : (0 : Int32).toInt = 0 := (by decide); omega) Un.rf hI hH (lv_sub hl [0, 1] rfl)
set_option maxHeartbeats 4000000 in
set_option maxRecDepth 100000 in
theorem kX3_begin_3 (l : Launch) (D : va_G) (C : Nat → ClassId) (A : Nat → Nat) (u : St) (hI : IC u) (a0 : Int32) (A0 : Int) (ha0 : a0.toInt = A0) (a1 : Int32) (A1 : Int) (ha1 : a1.toInt = A1) (hl1 : 0 ≤ A1) (hm1 : A1 ≤ 60) (sz : Nat) : MetV l yX3_begin cX3_begin 4 1 [.ref (A 11), .int a0, .int a1] D (tyl C) (cw C A) X0 u sz (fun u' => IC u' ∧ Un [(56, 56), (57, 57)] [] [(42, 42)] u u' ∧ gi u' 56 = a1 ∧ gi u' 57 = a0) := by
  refine mV (by decide) (Nat.le_of_ble_eq_true rfl) ?_
  intro p e s m below meth c ls ar Q hx hb hml hown hts hK hH hX hl hret
  have hown : s.vm.findClass RX3 = some m.cls := hown
  have hl : lv_has ls 4 [(0, .ref (A 11)), (1, .int a0), (2, .int a1)] := hl
  refine lv_aload_n hx hb dX3_begin_0 rfl (lv_at hl 0 rfl) ?_
  refine lv_iload_n hx hb dX3_begin_1 rfl (lv_at hl 1 rfl) ?_
  refine r_put (j := 57) (ci := 3) (C := RX3) (T := TX3) (N := 3) hx hb hts (fun w h => uc_in w (inX3 w h)) tyX3 tyX3_ok nmX3 hown hK hH 11 (cwc11 C A u) rfl 1 (by decide) (hts _ (uc_in _ q_f196)) (fun _ h9 => h9) rfl (by decide +kernel) (Nat.le_of_ble_eq_true rfl) (cws57 C A u _) dX3_begin_2 (fun u1 eu1 H locs hH => ?_)
  have hI := hI.pi0 eu1 rfl (by decide) (by decide)
  refine lv_aload_n hx hb dX3_begin_5 rfl (lv_at hl 0 rfl) ?_
  refine lv_iload_n hx hb dX3_begin_6 rfl (lv_at hl 2 rfl) ?_
  refine r_put (j := 56) (ci := 3) (C := RX3) (T := TX3) (N := 3) hx hb hts (fun w h => uc_in w (inX3 w h)) tyX3 tyX3_ok nmX3 hown hK hH 11 (cwc11 C A u1) rfl 0 (by decide) (hts _ (uc_in _ q_f192)) (fun _ h9 => h9) rfl (by decide +kernel) (Nat.le_of_ble_eq_true rfl) (cws56 C A u1 _) dX3_begin_7 (fun u2 eu2 H locs hH => ?_)
  have hI := hI.s56 eu2 ha1 (by omega) (by omega)
  refine lv_iconst (v := 0) hx hb dX3_begin_10 (by decide) ?_
  refine lv_istore_n (lv' := [(3, .int 0), (0, .ref (A 11)), (1, .int a0), (2, .int a1)]) hx hb dX3_begin_11 rfl hl (by decide) rfl (fun ls hl => ?_)
  have lp12_58 : ∀ (n12 : Nat) (ls : Array Slot) (y57d : Int32) (u58 : St) (H : Heap) (locs : List Loc), 0 ≤ y57d.toInt → y57d.toInt ≤ 60 → 60 - y57d.toInt < (n12 : Int) → Un [] [] [(42, 42)] u2 u58 → IC u58 → Hd D (cw C A) (va_A (cw C A u) s.heap.size) s.heap u58 H locs → lv_has ls 4 [(3, .int y57d), (0, .ref (A 11))] → W p l e (rmL 1 0 0) s m ar below meth c H locs 0 0 Q (F0 m 12 ls []) := by
    intro n12
    induction n12 with
    | zero => intro ls y57d u58 H locs ly57d my57d hmun12 hUu58 hI hH hl; exfalso; omega
    | succ n12 ih12_58 =>
      intro ls y57d u58 H locs ly57d my57d hmun12 hUu58 hI hH hl
      refine lv_iload_n hx hb dX3_begin_12 rfl (lv_at hl 0 rfl) ?_
      refine lv_bipush (v := 60) hx hb dX3_begin_13 (by decide) ?_
      refine lv_icmp_ge (tgt := 31) hx hb dX3_begin_15 (by decide) (fun c60 => ?_) (fun c60 => ?_)
      · have c60 := cLE (x := 60) (y := y57d) (X := 60) (Y := y57d.toInt) (by decide) rfl c60
        exact hret _ _ _ _ _ dX3_begin_31 ⟨hI, (Un.tr (Un.si (Un.si Un.rf rfl eu1) rfl eu2) hUu58 rfl rfl rfl), ⟨((hUu58.1 56 rfl).trans (gi_si eu2)), ((hUu58.1 57 rfl).trans ((gi_ne eu2 (by decide)).trans (gi_si eu1)))⟩⟩ hH
      · have c60 := cNLE (x := 60) (y := y57d) (X := 60) (Y := y57d.toInt) (by decide) rfl c60
        refine lv_aload_n hx hb dX3_begin_18 rfl (lv_at hl 1 rfl) ?_
        refine va_get (ci := 3) (v := .ref (A 42)) (C := RX3) (T := TX3) (N := 3) hx hb hts (fun w h => uc_in w (inX3 w h)) hown hK hH.1 11 (cwc11 C A u58) rfl 2 (by decide) (hts _ (uc_in _ q_f198)) (fun _ h9 => h9) rfl dX3_begin_19 ?_
        refine lv_iload_n hx hb dX3_begin_22 rfl (lv_at hl 0 rfl) ?_
        refine lv_lconst (v := 0) hx hb dX3_begin_23 (by decide) ?_
        refine r_last (j := 42) hx hb hK hH 42 2 (cwc42 C A u58) rfl (i_ix rfl (by omega) (by omega)) (cwb42 C A u58) dX3_begin_24 (fun u61 eu61 H locs hH => ?_)
        have hI := hI.pb_ eu61
        obtain ⟨z62, ez62⟩ : ∃ z, z = y57d + Int32.ofInt 1 := ⟨_, rfl⟩
        have hz62 : z62.toInt = y57d.toInt + 1 := by rw [ez62]; exact tt_add rfl (by decide) (by omega) (by omega)
        refine lv_iinc (v := z62) (lv' := [(3, .int z62), (0, .ref (A 11))]) hx hb dX3_begin_25 hl (k := 0) rfl ez62.symm (by decide) rfl (fun ls hl => ?_)
        refine lv_goto (tgt := 12) hx hb dX3_begin_28 (by decide) ?_
        exact ih12_58 ls z62 u61 _ _ (by have q9 := (show z62.toInt = (y57d.toInt + 1) from hz62); omega) (by have q9 := (show z62.toInt = (y57d.toInt + 1) from hz62); omega) (by have q9 := (show z62.toInt = (y57d.toInt + 1) from hz62); omega) (Un.sb hUu58 rfl eu61) hI hH hl
  exact lp12_58 61 ls 0 u2 _ _ (by decide) (by decide) (by have q9 : (0 : Int32).toInt = 0 := (by decide); omega) Un.rf hI hH (lv_sub hl [0, 1] rfl)
set_option maxHeartbeats 4000000 in
set_option maxRecDepth 100000 in
theorem kX9_row_0 (l : Launch) (D : va_G) (C : Nat → ClassId) (A : Nat → Nat) (u : St) (hI : IC u) (a0 : Int32) (A0 : Int) (ha0 : a0.toInt = A0) (a1 : Int32) (A1 : Int) (ha1 : a1.toInt = A1) (a2 : Int32) (A2 : Int) (ha2 : a2.toInt = A2) (sz : Nat) : MetI l yX9_row cX9_row 4 (some .int) 3 [.ref (A 0), .int a0, .int a1, .int a2] D (tyl C) (cw C A) X0 u sz (fun r u' => IC u' ∧ Un [(50, 50), (51, 51), (52, 52), (53, 53), (54, 54), (55, 55), (56, 56), (57, 57)] [] [(39, 39), (40, 40), (41, 41), (42, 42)] u u' ∧ (((r = 0 ∧ ((0 ≤ A0 ∧ A0 ≤ 3) ∧ (0 ≤ A1 ∧ A1 ≤ 3) ∧ 0 ≤ A2 ∧ A2 ≤ 60)) ∨ (r = (-3) ∧ ((0 ≤ A0 ∧ A0 ≤ 3) ∧ (0 ≤ A1 ∧ A1 ≤ 3) ∧ A2 < 0)) ∨ (r = (-2) ∧ (¬ (0 ≤ A0 ∧ A0 ≤ 3) ∨ ¬ (0 ≤ A1 ∧ A1 ≤ 3) ∨ 60 < A2))) ∧ ((r = 0 ∧ A0 = 0 ∧ gi u' 50 = a2 ∧ gi u' 51 = a1) ∨ ((r ≠ 0 ∨ A0 ≠ 0) ∧ gi u' 50 = gi u 50 ∧ gi u' 51 = gi u 51)) ∧ ((r = 0 ∧ A0 = 1 ∧ gi u' 52 = a2 ∧ gi u' 53 = a1) ∨ ((r ≠ 0 ∨ A0 ≠ 1) ∧ gi u' 52 = gi u 52 ∧ gi u' 53 = gi u 53)) ∧ ((r = 0 ∧ A0 = 2 ∧ gi u' 54 = a2 ∧ gi u' 55 = a1) ∨ ((r ≠ 0 ∨ A0 ≠ 2) ∧ gi u' 54 = gi u 54 ∧ gi u' 55 = gi u 55)) ∧ ((r = 0 ∧ A0 = 3 ∧ gi u' 56 = a2 ∧ gi u' 57 = a1) ∨ ((r ≠ 0 ∨ A0 ≠ 3) ∧ gi u' 56 = gi u 56 ∧ gi u' 57 = gi u 57)))) := by
  refine mI (by decide) (Nat.le_of_ble_eq_true rfl) ?_
  intro p e s m below meth c ls ar Q hx hb hml hown hts hK hH hX hl hret
  have hown : s.vm.findClass RX9 = some m.cls := hown
  have hl : lv_has ls 4 [(0, .ref (A 0)), (1, .int a0), (2, .int a1), (3, .int a2)] := hl
  refine lv_iload_n hx hb dX9_row_0 rfl (lv_at hl 1 rfl) ?_
  refine csS (n := 1) (As := [.int a0]) (rest := []) ⟨hx, hb, hml, hown, hts⟩ uc_in (kX9_isSlot_0 l D C A u hI a0 A0 ha0) q_m911 q_s912 q_i1 q_c913 hvX9_isSlot ⟨(Nat.le_of_ble_eq_true rfl), (Nat.le_of_ble_eq_true rfl)⟩ ⟨(Nat.le_of_ble_eq_true rfl), (Nat.le_of_ble_eq_true rfl)⟩ hK hH.1 rfl hl.1 rfl (Nat.le_of_ble_eq_true rfl) dX9_row_1 (fun r1 p2 => ?_)
  rcases p2 with ⟨e9, f3, f4⟩ | ⟨e9, fn5⟩
  · subst e9
    refine lv_if_eq (tgt := 22) hx hb dX9_row_4 (by decide) (fun c6 => absurd c6 (by decide)) (fun c6 => ?_)
    refine lv_iload_n hx hb dX9_row_7 rfl (lv_at hl 2 rfl) ?_
    refine lv_iconst (v := 0) hx hb dX9_row_8 (by decide) ?_
    refine lv_iconst (v := 3) hx hb dX9_row_9 (by decide) ?_
    refine csS (n := 3) (As := [.int a1, .int 0, .int 3]) (rest := []) ⟨hx, hb, hml, hown, hts⟩ uc_in (kX9_isWithin_0 l D C A u hI a1 A1 ha1 (0) 0 (by decide) (3) 3 (by decide)) q_m651 q_s652 q_i1 q_c653 hvX9_isWithin ⟨(Nat.le_of_ble_eq_true rfl), (Nat.le_of_ble_eq_true rfl)⟩ ⟨(Nat.le_of_ble_eq_true rfl), (Nat.le_of_ble_eq_true rfl)⟩ hK hH.1 rfl hl.1 rfl (Nat.le_of_ble_eq_true rfl) dX9_row_10 (fun r7 p8 => ?_)
    rcases p8 with ⟨e9, f9, f10⟩ | ⟨e9, fn11⟩
    · subst e9
      refine lv_if_eq (tgt := 22) hx hb dX9_row_13 (by decide) (fun c12 => absurd c12 (by decide)) (fun c12 => ?_)
      refine lv_iload_n hx hb dX9_row_16 rfl (lv_at hl 3 rfl) ?_
      refine lv_bipush (v := 60) hx hb dX9_row_17 (by decide) ?_
      refine lv_icmp_le (tgt := 25) hx hb dX9_row_19 (by decide) (fun c13 => ?_) (fun c13 => ?_)
      · have c13 := cLE (x := a2) (y := 60) (X := A2) (Y := 60) ha2 (by decide) c13
        refine lv_iload_n hx hb dX9_row_25 rfl (lv_at hl 3 rfl) ?_
        refine lv_if_ge (tgt := 32) hx hb dX9_row_26 (by decide) (fun c14 => ?_) (fun c14 => ?_)
        · have c14 := cLE (x := 0) (y := a2) (X := 0) (Y := A2) (by decide) ha2 c14
          refine lv_aload_n hx hb dX9_row_32 rfl (lv_at hl 0 rfl) ?_
          refine va_get (ci := 9) (v := .ref (A 18)) (C := RX9) (T := TX9) (N := 12) hx hb hts (fun w h => uc_in w (inX9 w h)) hown hK hH.1 0 (cwc0 C A u) rfl 6 (by decide) (hts _ (uc_in _ q_f389)) (fun _ h9 => h9) rfl dX9_row_33 ?_
          refine lv_iload_n hx hb dX9_row_36 rfl (lv_at hl 1 rfl) ?_
          rcases (show A0 = 0 ∨ A0 = 1 ∨ A0 = 2 ∨ A0 = 3 by omega) with e9 | e9 | e9 | e9
          · have e8 : a0 = 0 := i_lit ha0 (by rw [e9]; decide)
            subst e8
            have q8 : (0 : Int32).toInt = 0 := by decide
            refine r_aald hx hb hK hH.1 18 5 rfl (cwc18 C A u) rfl (i_ix (X := 0) (by decide) (by decide) (by decide)) dX9_row_37 ?_
            refine pv_v (v := .ref (A 8)) rfl ?_
            refine lv_iload_n hx hb dX9_row_38 rfl (lv_at hl 2 rfl) ?_
            refine lv_iload_n hx hb dX9_row_39 rfl (lv_at hl 3 rfl) ?_
            refine cvU (n := 2) (As := [.int a1, .int a2]) (rest := []) ⟨hx, hb, hml, hown, hts⟩ uc_in (kX3_begin_0 l D C A u hI a1 A1 ha1 a2 A2 ha2 (by omega) (by omega) _) q_m1162 q_n1163 q_e1164 q_i5 q_c1165 hvX3_begin ⟨(Nat.le_of_ble_eq_true rfl), (Nat.le_of_ble_eq_true rfl)⟩ ⟨(Nat.le_of_ble_eq_true rfl), (Nat.le_of_ble_eq_true rfl)⟩ hK hH (fun q h => Or.inr h) Bl0 (fun _ _ _ => trivial) 3 8 rfl (cwc8 C A u) rfl hl.1 rfl (Nat.le_of_ble_eq_true rfl) dX9_row_40 (fun u15 H locs p17 hH => ?_)
            obtain ⟨hI, hUu15, p17⟩ := p17
            obtain ⟨f18, f19⟩ := p17
            refine lv_iconst (v := 0) hx hb dX9_row_43 (by decide) ?_
            exact hret _ _ _ _ (0 : Int32) _ dX9_row_44 rfl ⟨hI, (Un.tr Un.rf hUu15 rfl rfl rfl), ⟨(Or.inl (⟨rfl, by omega⟩)), (Or.inl ⟨rfl, by omega, f18, f19⟩), (Or.inr ⟨Or.inr (by omega), ((hUu15.1 52 rfl).trans rfl), ((hUu15.1 53 rfl).trans rfl)⟩), (Or.inr ⟨Or.inr (by omega), ((hUu15.1 54 rfl).trans rfl), ((hUu15.1 55 rfl).trans rfl)⟩), (Or.inr ⟨Or.inr (by omega), ((hUu15.1 56 rfl).trans rfl), ((hUu15.1 57 rfl).trans rfl)⟩)⟩⟩ hH
          · have e8 : a0 = 1 := i_lit ha0 (by rw [e9]; decide)
            subst e8
            have q8 : (1 : Int32).toInt = 1 := by decide
            refine r_aald hx hb hK hH.1 18 5 rfl (cwc18 C A u) rfl (i_ix (X := 1) (by decide) (by decide) (by decide)) dX9_row_37 ?_
            refine pv_v (v := .ref (A 9)) rfl ?_
            refine lv_iload_n hx hb dX9_row_38 rfl (lv_at hl 2 rfl) ?_
            refine lv_iload_n hx hb dX9_row_39 rfl (lv_at hl 3 rfl) ?_
            refine cvU (n := 2) (As := [.int a1, .int a2]) (rest := []) ⟨hx, hb, hml, hown, hts⟩ uc_in (kX3_begin_1 l D C A u hI a1 A1 ha1 a2 A2 ha2 (by omega) (by omega) _) q_m1162 q_n1163 q_e1164 q_i5 q_c1165 hvX3_begin ⟨(Nat.le_of_ble_eq_true rfl), (Nat.le_of_ble_eq_true rfl)⟩ ⟨(Nat.le_of_ble_eq_true rfl), (Nat.le_of_ble_eq_true rfl)⟩ hK hH (fun q h => Or.inr h) Bl0 (fun _ _ _ => trivial) 3 9 rfl (cwc9 C A u) rfl hl.1 rfl (Nat.le_of_ble_eq_true rfl) dX9_row_40 (fun u20 H locs p22 hH => ?_)
            obtain ⟨hI, hUu20, p22⟩ := p22
            obtain ⟨f23, f24⟩ := p22
            refine lv_iconst (v := 0) hx hb dX9_row_43 (by decide) ?_
            exact hret _ _ _ _ (0 : Int32) _ dX9_row_44 rfl ⟨hI, (Un.tr Un.rf hUu20 rfl rfl rfl), ⟨(Or.inl (⟨rfl, by omega⟩)), (Or.inr ⟨Or.inr (by omega), ((hUu20.1 50 rfl).trans rfl), ((hUu20.1 51 rfl).trans rfl)⟩), (Or.inl ⟨rfl, by omega, f23, f24⟩), (Or.inr ⟨Or.inr (by omega), ((hUu20.1 54 rfl).trans rfl), ((hUu20.1 55 rfl).trans rfl)⟩), (Or.inr ⟨Or.inr (by omega), ((hUu20.1 56 rfl).trans rfl), ((hUu20.1 57 rfl).trans rfl)⟩)⟩⟩ hH
          · have e8 : a0 = 2 := i_lit ha0 (by rw [e9]; decide)
            subst e8
            have q8 : (2 : Int32).toInt = 2 := by decide
            refine r_aald hx hb hK hH.1 18 5 rfl (cwc18 C A u) rfl (i_ix (X := 2) (by decide) (by decide) (by decide)) dX9_row_37 ?_
            refine pv_v (v := .ref (A 10)) rfl ?_
            refine lv_iload_n hx hb dX9_row_38 rfl (lv_at hl 2 rfl) ?_
            refine lv_iload_n hx hb dX9_row_39 rfl (lv_at hl 3 rfl) ?_
            refine cvU (n := 2) (As := [.int a1, .int a2]) (rest := []) ⟨hx, hb, hml, hown, hts⟩ uc_in (kX3_begin_2 l D C A u hI a1 A1 ha1 a2 A2 ha2 (by omega) (by omega) _) q_m1162 q_n1163 q_e1164 q_i5 q_c1165 hvX3_begin ⟨(Nat.le_of_ble_eq_true rfl), (Nat.le_of_ble_eq_true rfl)⟩ ⟨(Nat.le_of_ble_eq_true rfl), (Nat.le_of_ble_eq_true rfl)⟩ hK hH (fun q h => Or.inr h) Bl0 (fun _ _ _ => trivial) 3 10 rfl (cwc10 C A u) rfl hl.1 rfl (Nat.le_of_ble_eq_true rfl) dX9_row_40 (fun u25 H locs p27 hH => ?_)
            obtain ⟨hI, hUu25, p27⟩ := p27
            obtain ⟨f28, f29⟩ := p27
            refine lv_iconst (v := 0) hx hb dX9_row_43 (by decide) ?_
            exact hret _ _ _ _ (0 : Int32) _ dX9_row_44 rfl ⟨hI, (Un.tr Un.rf hUu25 rfl rfl rfl), ⟨(Or.inl (⟨rfl, by omega⟩)), (Or.inr ⟨Or.inr (by omega), ((hUu25.1 50 rfl).trans rfl), ((hUu25.1 51 rfl).trans rfl)⟩), (Or.inr ⟨Or.inr (by omega), ((hUu25.1 52 rfl).trans rfl), ((hUu25.1 53 rfl).trans rfl)⟩), (Or.inl ⟨rfl, by omega, f28, f29⟩), (Or.inr ⟨Or.inr (by omega), ((hUu25.1 56 rfl).trans rfl), ((hUu25.1 57 rfl).trans rfl)⟩)⟩⟩ hH
          · have e8 : a0 = 3 := i_lit ha0 (by rw [e9]; decide)
            subst e8
            have q8 : (3 : Int32).toInt = 3 := by decide
            refine r_aald hx hb hK hH.1 18 5 rfl (cwc18 C A u) rfl (i_ix (X := 3) (by decide) (by decide) (by decide)) dX9_row_37 ?_
            refine pv_v (v := .ref (A 11)) rfl ?_
            refine lv_iload_n hx hb dX9_row_38 rfl (lv_at hl 2 rfl) ?_
            refine lv_iload_n hx hb dX9_row_39 rfl (lv_at hl 3 rfl) ?_
            refine cvU (n := 2) (As := [.int a1, .int a2]) (rest := []) ⟨hx, hb, hml, hown, hts⟩ uc_in (kX3_begin_3 l D C A u hI a1 A1 ha1 a2 A2 ha2 (by omega) (by omega) _) q_m1162 q_n1163 q_e1164 q_i5 q_c1165 hvX3_begin ⟨(Nat.le_of_ble_eq_true rfl), (Nat.le_of_ble_eq_true rfl)⟩ ⟨(Nat.le_of_ble_eq_true rfl), (Nat.le_of_ble_eq_true rfl)⟩ hK hH (fun q h => Or.inr h) Bl0 (fun _ _ _ => trivial) 3 11 rfl (cwc11 C A u) rfl hl.1 rfl (Nat.le_of_ble_eq_true rfl) dX9_row_40 (fun u30 H locs p32 hH => ?_)
            obtain ⟨hI, hUu30, p32⟩ := p32
            obtain ⟨f33, f34⟩ := p32
            refine lv_iconst (v := 0) hx hb dX9_row_43 (by decide) ?_
            exact hret _ _ _ _ (0 : Int32) _ dX9_row_44 rfl ⟨hI, (Un.tr Un.rf hUu30 rfl rfl rfl), ⟨(Or.inl (⟨rfl, by omega⟩)), (Or.inr ⟨Or.inr (by omega), ((hUu30.1 50 rfl).trans rfl), ((hUu30.1 51 rfl).trans rfl)⟩), (Or.inr ⟨Or.inr (by omega), ((hUu30.1 52 rfl).trans rfl), ((hUu30.1 53 rfl).trans rfl)⟩), (Or.inr ⟨Or.inr (by omega), ((hUu30.1 54 rfl).trans rfl), ((hUu30.1 55 rfl).trans rfl)⟩), (Or.inl ⟨rfl, by omega, f33, f34⟩)⟩⟩ hH
        · have c14 := cNLE (x := 0) (y := a2) (X := 0) (Y := A2) (by decide) ha2 c14
          refine lv_bipush (v := (-3)) hx hb dX9_row_29 (by decide) ?_
          exact hret _ _ _ _ ((-3) : Int32) _ dX9_row_31 rfl ⟨hI, Un.rf, ⟨(Or.inr (Or.inl (⟨rfl, by omega⟩))), (Or.inr ⟨Or.inl (by decide), rfl, rfl⟩), (Or.inr ⟨Or.inl (by decide), rfl, rfl⟩), (Or.inr ⟨Or.inl (by decide), rfl, rfl⟩), (Or.inr ⟨Or.inl (by decide), rfl, rfl⟩)⟩⟩ hH
      · have c13 := cNLE (x := a2) (y := 60) (X := A2) (Y := 60) ha2 (by decide) c13
        refine lv_bipush (v := (-2)) hx hb dX9_row_22 (by decide) ?_
        exact hret _ _ _ _ ((-2) : Int32) _ dX9_row_24 rfl ⟨hI, Un.rf, ⟨(Or.inr (Or.inr (⟨rfl, by omega⟩))), (Or.inr ⟨Or.inl (by decide), rfl, rfl⟩), (Or.inr ⟨Or.inl (by decide), rfl, rfl⟩), (Or.inr ⟨Or.inl (by decide), rfl, rfl⟩), (Or.inr ⟨Or.inl (by decide), rfl, rfl⟩)⟩⟩ hH
    · subst e9
      refine lv_if_eq (tgt := 22) hx hb dX9_row_13 (by decide) (fun c35 => ?_) (fun c35 => absurd c35 (by decide))
      refine lv_bipush (v := (-2)) hx hb dX9_row_22 (by decide) ?_
      exact hret _ _ _ _ ((-2) : Int32) _ dX9_row_24 rfl ⟨hI, Un.rf, ⟨(Or.inr (Or.inr (⟨rfl, by omega⟩))), (Or.inr ⟨Or.inl (by decide), rfl, rfl⟩), (Or.inr ⟨Or.inl (by decide), rfl, rfl⟩), (Or.inr ⟨Or.inl (by decide), rfl, rfl⟩), (Or.inr ⟨Or.inl (by decide), rfl, rfl⟩)⟩⟩ hH
  · subst e9
    refine lv_if_eq (tgt := 22) hx hb dX9_row_4 (by decide) (fun c36 => ?_) (fun c36 => absurd c36 (by decide))
    refine lv_bipush (v := (-2)) hx hb dX9_row_22 (by decide) ?_
    exact hret _ _ _ _ ((-2) : Int32) _ dX9_row_24 rfl ⟨hI, Un.rf, ⟨(Or.inr (Or.inr (⟨rfl, by omega⟩))), (Or.inr ⟨Or.inl (by decide), rfl, rfl⟩), (Or.inr ⟨Or.inl (by decide), rfl, rfl⟩), (Or.inr ⟨Or.inl (by decide), rfl, rfl⟩), (Or.inr ⟨Or.inl (by decide), rfl, rfl⟩)⟩⟩ hH
set_option maxHeartbeats 4000000 in
set_option maxRecDepth 100000 in
theorem kX9_slack_0 (l : Launch) (D : va_G) (C : Nat → ClassId) (A : Nat → Nat) (u : St) (hI : IC u) (a0 : Int32) (A0 : Int) (ha0 : a0.toInt = A0) (a1 : Int32) (A1 : Int) (ha1 : a1.toInt = A1) : Met l yX9_slack (uc yX9_slack cX9_slack 4 (some .int)) (rmL 4 0 0) (va_Pc [.ref (A 0), .int a0, .int a1] (PreR D (tyl C) (cw C A u))) (vp_Si (fun r => True)) 0 0 (fun _ => False) := by
  refine mS (by decide) (Nat.le_of_ble_eq_true rfl) ?_
  intro p e s m below meth c ls ar Q hx hb hml hown hts hK hP hl hret
  have hown : s.vm.findClass RX9 = some m.cls := hown
  have hl : lv_has ls 4 [(0, .ref (A 0)), (1, .int a0), (2, .int a1)] := hl
  refine lv_aload_n hx hb dX9_slack_0 rfl (lv_at hl 0 rfl) ?_
  refine lv_iload_n hx hb dX9_slack_1 rfl (lv_at hl 1 rfl) ?_
  refine cvS (n := 1) (As := [.int a0]) (rest := []) ⟨hx, hb, hml, hown, hts⟩ uc_in (kX9_isClock_0 l D C A u hI a0 A0 ha0) q_m589 q_n591 q_p11 q_i1 q_c592 hvX9_isClock ⟨(Nat.le_of_ble_eq_true rfl), (Nat.le_of_ble_eq_true rfl)⟩ ⟨(Nat.le_of_ble_eq_true rfl), (Nat.le_of_ble_eq_true rfl)⟩ hK hP 9 0 rfl (cwc0 C A u) rfl hl.1 rfl (Nat.le_of_ble_eq_true rfl) dX9_slack_2 (fun r1 p2 => ?_)
  rcases p2 with ⟨e9, f3, f4⟩ | e9
  · subst e9
    have b6 := hI.b49
    refine lv_if_eq (tgt := 16) hx hb dX9_slack_5 (by decide) (fun c7 => absurd c7 (by decide)) (fun c7 => ?_)
    refine lv_aload_n hx hb dX9_slack_8 rfl (lv_at hl 0 rfl) ?_
    refine lv_iload_n hx hb dX9_slack_9 rfl (lv_at hl 2 rfl) ?_
    refine cvS (n := 1) (As := [.int a1]) (rest := []) ⟨hx, hb, hml, hown, hts⟩ uc_in (kX9_isDay_0 l D C A u hI a1 A1 ha1) q_m597 q_n599 q_p12 q_i1 q_c600 hvX9_isDay ⟨(Nat.le_of_ble_eq_true rfl), (Nat.le_of_ble_eq_true rfl)⟩ ⟨(Nat.le_of_ble_eq_true rfl), (Nat.le_of_ble_eq_true rfl)⟩ hK hP 9 0 rfl (cwc0 C A u) rfl hl.1 rfl (Nat.le_of_ble_eq_true rfl) dX9_slack_10 (fun r8 p9 => ?_)
    rcases p9 with ⟨e9, f10, f11⟩ | e9
    · subst e9
      have b13 := hI.b48
      refine lv_if_ne (tgt := 19) hx hb dX9_slack_13 (by decide) (fun c14 => ?_) (fun c14 => absurd c14 (by decide))
      refine lv_aload_n hx hb dX9_slack_19 rfl (lv_at hl 0 rfl) ?_
      refine lv_iload_n hx hb dX9_slack_20 rfl (lv_at hl 2 rfl) ?_
      refine cvS (n := 1) (As := [.int a1]) (rest := []) ⟨hx, hb, hml, hown, hts⟩ uc_in (kX9_noonOn_0 l D C A u hI a1 A1 ha1 (by omega) (by omega)) q_m605 q_n607 q_p13 q_i1 q_c608 hvX9_noonOn ⟨(Nat.le_of_ble_eq_true rfl), (Nat.le_of_ble_eq_true rfl)⟩ ⟨(Nat.le_of_ble_eq_true rfl), (Nat.le_of_ble_eq_true rfl)⟩ hK hP 9 0 rfl (cwc0 C A u) rfl hl.1 rfl (Nat.le_of_ble_eq_true rfl) dX9_slack_21 (fun r15 p16 => ?_)
      refine lv_istore_n (lv' := [(3, .int r15), (0, .ref (A 0)), (1, .int a0), (2, .int a1)]) hx hb dX9_slack_24 rfl hl (by decide) rfl (fun ls hl => ?_)
      refine lv_iload_n hx hb dX9_slack_25 rfl (lv_at hl 0 rfl) ?_
      refine lv_sipush (v := 10000) hx hb dX9_slack_26 (by decide) ?_
      refine lv_icmp_ne (tgt := 38) hx hb dX9_slack_29 (by decide) (fun c17 => ?_) (fun c17 => ?_)
      · refine lv_iconst (v := 0) hx hb dX9_slack_38 (by decide) ?_
        refine lv_iload_n hx hb dX9_slack_39 rfl (lv_at hl 0 rfl) ?_
        refine lv_aload_n hx hb dX9_slack_40 rfl (lv_at hl 1 rfl) ?_
        refine va_get (ci := 9) (v := .ref (A 7)) (C := RX9) (T := TX9) (N := 12) hx hb hts (fun w h => uc_in w (inX9 w h)) hown hK hP 0 (cwc0 C A u) rfl 5 (by decide) (hts _ (uc_in _ q_f388)) (fun _ h9 => h9) rfl dX9_slack_41 ?_
        refine va_get (ci := 5) (v := .ref (A 19)) (C := RX5) (T := TX5) (N := 4) hx hb hts (fun w h => uc_in w (inX5 w h)) hown hK hP 7 (cwc7 C A u) rfl 2 (by decide) (hts _ (uc_in _ q_f171)) (fun _ h9 => h9) rfl dX9_slack_44 ?_
        refine lv_iload_n hx hb dX9_slack_47 rfl (lv_at hl 3 rfl) ?_
        refine r_aald hx hb hK hP 19 6 rfl (cwc19 C A u) rfl (i_ix ha1 (by omega) (by omega)) dX9_slack_48 ?_
        obtain ⟨k18, hk18, ek18⟩ : ∃ k : Nat, (k : Int) = 32 + A1 ∧ k = 32 + Int32.toNatClampNeg a1 := ⟨_, by have q9 := i_cl (x := a1) (X := A1) ha1 (by omega); omega, rfl⟩
        refine pv_v (v := .ref (A (52 + k18))) (by rw [ek18]; rfl) ?_
        refine lv_iload_n hx hb dX9_slack_49 rfl (lv_at hl 2 rfl) ?_
        refine va_iald hx hb hK hP (52 + k18) 1 (cwp C A u k18 (by omega)) rfl (i_ix ha0 (by omega) (by omega)) dX9_slack_50 ?_
        refine p_any (fun z19 => ?_)
        refine lv_isub hx hb dX9_slack_51 ?_
        refine p_any (fun z20 => ?_)
        refine va_mmax hx hb (by rw [hml]; exact hl.1.symm) hown (hts _ (uc_in _ q_m745)) (hts _ (uc_in _ q_s571)) (hts _ (uc_in _ q_i12)) (hts _ (uc_in _ q_c572)) (Nat.le_of_ble_eq_true rfl) (Nat.le_of_ble_eq_true rfl) (Nat.le_of_ble_eq_true rfl) (Nat.le_of_ble_eq_true rfl) dX9_slack_52 ?_
        refine p_bd (P := fun q => 0 ≤ q ∧ True) (by rcases tt_max (x := 0) (y := z20) with q9 | q9 <;> rw [q9.1] <;> refine ⟨?_, ?_⟩ <;> first | trivial | (have q7 := (show (0 : Int32).toInt = 0 from (by decide)); have q8 := (show z20.toInt = z20.toInt from rfl); omega)) (fun z21 bz21 => ?_)
        have bz21 : 0 ≤ z21.toInt ∧ True := bz21
        exact hret _ _ z21 dX9_slack_55 rfl trivial
      · have c17 := cEQ (x := r15) (y := 10000) (X := r15.toInt) (Y := 10000) rfl (by decide) c17
        refine lv_sipush (v := 10000) hx hb dX9_slack_32 (by decide) ?_
        refine lv_goto (tgt := 55) hx hb dX9_slack_35 (by decide) ?_
        exact hret _ _ (10000 : Int32) dX9_slack_55 rfl trivial
    · subst e9
      refine lv_if_ne (tgt := 19) hx hb dX9_slack_13 (by decide) (fun c22 => absurd c22 (by decide)) (fun c22 => ?_)
      refine lv_bipush (v := (-2)) hx hb dX9_slack_16 (by decide) ?_
      exact hret _ _ ((-2) : Int32) dX9_slack_18 rfl trivial
  · subst e9
    refine lv_if_eq (tgt := 16) hx hb dX9_slack_5 (by decide) (fun c23 => ?_) (fun c23 => absurd c23 (by decide))
    refine lv_bipush (v := (-2)) hx hb dX9_slack_16 (by decide) ?_
    exact hret _ _ ((-2) : Int32) dX9_slack_18 rfl trivial
set_option maxHeartbeats 4000000 in
set_option maxRecDepth 100000 in
theorem kX9_slowest_0 (l : Launch) (D : va_G) (C : Nat → ClassId) (A : Nat → Nat) (u : St) (hI : IC u) (a0 : Int32) (A0 : Int) (ha0 : a0.toInt = A0) : Met l yX9_slowest (uc yX9_slowest cX9_slowest 2 (some .int)) (rmL 3 0 0) (va_Pc [.ref (A 0), .int a0] (PreR D (tyl C) (cw C A u))) (vp_Si (fun r => (-2) ≤ r.toInt ∧ r.toInt ≤ 5)) 0 0 (fun _ => False) := by
  refine mS (by decide) (Nat.le_of_ble_eq_true rfl) ?_
  intro p e s m below meth c ls ar Q hx hb hml hown hts hK hP hl hret
  have hown : s.vm.findClass RX9 = some m.cls := hown
  have hl : lv_has ls 2 [(0, .ref (A 0)), (1, .int a0)] := hl
  refine lv_aload_n hx hb dX9_slowest_0 rfl (lv_at hl 0 rfl) ?_
  refine lv_iload_n hx hb dX9_slowest_1 rfl (lv_at hl 1 rfl) ?_
  refine cvS (n := 1) (As := [.int a0]) (rest := []) ⟨hx, hb, hml, hown, hts⟩ uc_in (kX9_isDay_0 l D C A u hI a0 A0 ha0) q_m597 q_n599 q_p12 q_i1 q_c600 hvX9_isDay ⟨(Nat.le_of_ble_eq_true rfl), (Nat.le_of_ble_eq_true rfl)⟩ ⟨(Nat.le_of_ble_eq_true rfl), (Nat.le_of_ble_eq_true rfl)⟩ hK hP 9 0 rfl (cwc0 C A u) rfl hl.1 rfl (Nat.le_of_ble_eq_true rfl) dX9_slowest_2 (fun r1 p2 => ?_)
  rcases p2 with ⟨e9, f3, f4⟩ | e9
  · subst e9
    have b6 := hI.b48
    refine lv_if_eq (tgt := 16) hx hb dX9_slowest_5 (by decide) (fun c7 => absurd c7 (by decide)) (fun c7 => ?_)
    refine lv_aload_n hx hb dX9_slowest_8 rfl (lv_at hl 0 rfl) ?_
    refine lv_iload_n hx hb dX9_slowest_9 rfl (lv_at hl 1 rfl) ?_
    refine cvS (n := 1) (As := [.int a0]) (rest := []) ⟨hx, hb, hml, hown, hts⟩ uc_in (kX9_slowestOn_0 l D C A u hI a0 A0 ha0 (by omega) (by omega)) q_m623 q_n625 q_p14 q_i1 q_c626 hvX9_slowestOn ⟨(Nat.le_of_ble_eq_true rfl), (Nat.le_of_ble_eq_true rfl)⟩ ⟨(Nat.le_of_ble_eq_true rfl), (Nat.le_of_ble_eq_true rfl)⟩ hK hP 9 0 rfl (cwc0 C A u) rfl hl.1 rfl (Nat.le_of_ble_eq_true rfl) dX9_slowest_10 (fun r8 p9 => ?_)
    have p9 : (-1) ≤ r8.toInt ∧ r8.toInt ≤ 5 := p9
    refine lv_goto (tgt := 18) hx hb dX9_slowest_13 (by decide) ?_
    exact hret _ _ r8 dX9_slowest_18 rfl ⟨by omega, by omega⟩
  · subst e9
    refine lv_if_eq (tgt := 16) hx hb dX9_slowest_5 (by decide) (fun c10 => ?_) (fun c10 => absurd c10 (by decide))
    refine lv_bipush (v := (-2)) hx hb dX9_slowest_16 (by decide) ?_
    exact hret _ _ ((-2) : Int32) dX9_slowest_18 rfl ⟨by decide, by decide⟩
set_option maxHeartbeats 4000000 in
set_option maxRecDepth 100000 in
theorem kX9_spread_0 (l : Launch) (D : va_G) (C : Nat → ClassId) (A : Nat → Nat) (u : St) (hI : IC u) (a0 : Int32) (A0 : Int) (ha0 : a0.toInt = A0) : Met l yX9_spread (uc yX9_spread cX9_spread 4 (some .int)) (rmL 5 0 0) (va_Pc [.ref (A 0), .int a0] (PreR D (tyl C) (cw C A u))) (vp_Si (fun r => True)) 0 0 (fun _ => False) := by
  refine mS (by decide) (Nat.le_of_ble_eq_true rfl) ?_
  intro p e s m below meth c ls ar Q hx hb hml hown hts hK hP hl hret
  have hown : s.vm.findClass RX9 = some m.cls := hown
  have hl : lv_has ls 4 [(0, .ref (A 0)), (1, .int a0)] := hl
  refine lv_aload_n hx hb dX9_spread_0 rfl (lv_at hl 0 rfl) ?_
  refine lv_iload_n hx hb dX9_spread_1 rfl (lv_at hl 1 rfl) ?_
  refine cvS (n := 1) (As := [.int a0]) (rest := []) ⟨hx, hb, hml, hown, hts⟩ uc_in (kX9_isDay_0 l D C A u hI a0 A0 ha0) q_m597 q_n599 q_p12 q_i1 q_c600 hvX9_isDay ⟨(Nat.le_of_ble_eq_true rfl), (Nat.le_of_ble_eq_true rfl)⟩ ⟨(Nat.le_of_ble_eq_true rfl), (Nat.le_of_ble_eq_true rfl)⟩ hK hP 9 0 rfl (cwc0 C A u) rfl hl.1 rfl (Nat.le_of_ble_eq_true rfl) dX9_spread_2 (fun r1 p2 => ?_)
  rcases p2 with ⟨e9, f3, f4⟩ | e9
  · subst e9
    have b6 := hI.b48
    refine lv_if_ne (tgt := 11) hx hb dX9_spread_5 (by decide) (fun c7 => ?_) (fun c7 => absurd c7 (by decide))
    refine lv_aload_n hx hb dX9_spread_11 rfl (lv_at hl 0 rfl) ?_
    refine va_get (ci := 9) (v := .ref (A 7)) (C := RX9) (T := TX9) (N := 12) hx hb hts (fun w h => uc_in w (inX9 w h)) hown hK hP 0 (cwc0 C A u) rfl 5 (by decide) (hts _ (uc_in _ q_f388)) (fun _ h9 => h9) rfl dX9_spread_12 ?_
    refine lv_iload_n hx hb dX9_spread_15 rfl (lv_at hl 1 rfl) ?_
    refine lv_iconst (v := 0) hx hb dX9_spread_16 (by decide) ?_
    refine cvS (n := 2) (As := [.int a0, .int 0]) (rest := []) ⟨hx, hb, hml, hown, hts⟩ uc_in (kX5_ranked_0 l D C A u hI a0 A0 ha0 (0) 0 (by decide) (by omega) (by omega)) q_m632 q_n633 q_e634 q_i4 q_c635 hvX5_ranked ⟨(Nat.le_of_ble_eq_true rfl), (Nat.le_of_ble_eq_true rfl)⟩ ⟨(Nat.le_of_ble_eq_true rfl), (Nat.le_of_ble_eq_true rfl)⟩ hK hP 5 7 rfl (cwc7 C A u) rfl hl.1 rfl (Nat.le_of_ble_eq_true rfl) dX9_spread_17 (fun r8 p9 => ?_)
    have p9 : (-1) ≤ r8.toInt ∧ r8.toInt ≤ 5 := p9
    refine lv_istore_n (lv' := [(2, .int r8), (0, .ref (A 0)), (1, .int a0)]) hx hb dX9_spread_20 rfl hl (by decide) rfl (fun ls hl => ?_)
    refine lv_iload_n hx hb dX9_spread_21 rfl (lv_at hl 0 rfl) ?_
    refine lv_iconst (v := (-1)) hx hb dX9_spread_22 (by decide) ?_
    refine lv_icmp_ne (tgt := 28) hx hb dX9_spread_23 (by decide) (fun c10 => ?_) (fun c10 => ?_)
    · have c10 := cNE (x := r8) (y := (-1)) (X := r8.toInt) (Y := (-1)) rfl (by decide) c10
      refine lv_aload_n hx hb dX9_spread_28 rfl (lv_at hl 1 rfl) ?_
      refine lv_iload_n hx hb dX9_spread_29 rfl (lv_at hl 2 rfl) ?_
      refine cvS (n := 1) (As := [.int a0]) (rest := []) ⟨hx, hb, hml, hown, hts⟩ uc_in (kX9_noonOn_0 l D C A u hI a0 A0 ha0 (by omega) (by omega)) q_m605 q_n607 q_p13 q_i1 q_c608 hvX9_noonOn ⟨(Nat.le_of_ble_eq_true rfl), (Nat.le_of_ble_eq_true rfl)⟩ ⟨(Nat.le_of_ble_eq_true rfl), (Nat.le_of_ble_eq_true rfl)⟩ hK hP 9 0 rfl (cwc0 C A u) rfl hl.1 rfl (Nat.le_of_ble_eq_true rfl) dX9_spread_30 (fun r11 p12 => ?_)
      refine lv_istore_n (lv' := [(3, .int r11), (2, .int r8), (0, .ref (A 0)), (1, .int a0)]) hx hb dX9_spread_33 rfl hl (by decide) rfl (fun ls hl => ?_)
      refine lv_iload_n hx hb dX9_spread_34 rfl (lv_at hl 0 rfl) ?_
      refine lv_sipush (v := 10000) hx hb dX9_spread_35 (by decide) ?_
      refine lv_icmp_ne (tgt := 47) hx hb dX9_spread_38 (by decide) (fun c13 => ?_) (fun c13 => ?_)
      · refine lv_iload_n hx hb dX9_spread_47 rfl (lv_at hl 0 rfl) ?_
        refine lv_aload_n hx hb dX9_spread_48 rfl (lv_at hl 2 rfl) ?_
        refine va_get (ci := 9) (v := .ref (A 7)) (C := RX9) (T := TX9) (N := 12) hx hb hts (fun w h => uc_in w (inX9 w h)) hown hK hP 0 (cwc0 C A u) rfl 5 (by decide) (hts _ (uc_in _ q_f388)) (fun _ h9 => h9) rfl dX9_spread_49 ?_
        refine va_get (ci := 5) (v := .ref (A 19)) (C := RX5) (T := TX5) (N := 4) hx hb hts (fun w h => uc_in w (inX5 w h)) hown hK hP 7 (cwc7 C A u) rfl 2 (by decide) (hts _ (uc_in _ q_f171)) (fun _ h9 => h9) rfl dX9_spread_52 ?_
        refine lv_iload_n hx hb dX9_spread_55 rfl (lv_at hl 3 rfl) ?_
        refine r_aald hx hb hK hP 19 6 rfl (cwc19 C A u) rfl (i_ix ha0 (by omega) (by omega)) dX9_spread_56 ?_
        obtain ⟨k14, hk14, ek14⟩ : ∃ k : Nat, (k : Int) = 32 + A0 ∧ k = 32 + Int32.toNatClampNeg a0 := ⟨_, by have q9 := i_cl (x := a0) (X := A0) ha0 (by omega); omega, rfl⟩
        refine pv_v (v := .ref (A (52 + k14))) (by rw [ek14]; rfl) ?_
        refine lv_iload_n hx hb dX9_spread_57 rfl (lv_at hl 1 rfl) ?_
        refine va_iald hx hb hK hP (52 + k14) 1 (cwp C A u k14 (by omega)) rfl (i_ix rfl (by omega) (by omega)) dX9_spread_58 ?_
        refine p_any (fun z15 => ?_)
        refine lv_isub hx hb dX9_spread_59 ?_
        refine p_any (fun z16 => ?_)
        exact hret _ _ z16 dX9_spread_60 rfl trivial
      · have c13 := cEQ (x := r11) (y := 10000) (X := r11.toInt) (Y := 10000) rfl (by decide) c13
        refine lv_sipush (v := 10000) hx hb dX9_spread_41 (by decide) ?_
        refine lv_goto (tgt := 60) hx hb dX9_spread_44 (by decide) ?_
        exact hret _ _ (10000 : Int32) dX9_spread_60 rfl trivial
    · have c10 := cEQ (x := r8) (y := (-1)) (X := r8.toInt) (Y := (-1)) rfl (by decide) c10
      refine lv_iconst (v := 0) hx hb dX9_spread_26 (by decide) ?_
      exact hret _ _ (0 : Int32) dX9_spread_27 rfl trivial
  · subst e9
    refine lv_if_ne (tgt := 11) hx hb dX9_spread_5 (by decide) (fun c17 => absurd c17 (by decide)) (fun c17 => ?_)
    refine lv_bipush (v := (-2)) hx hb dX9_spread_8 (by decide) ?_
    exact hret _ _ ((-2) : Int32) dX9_spread_10 rfl trivial
set_option maxHeartbeats 4000000 in
set_option maxRecDepth 100000 in
theorem kX9_swing_0 (l : Launch) (D : va_G) (C : Nat → ClassId) (A : Nat → Nat) (u : St) (hI : IC u) (a0 : Int32) (A0 : Int) (ha0 : a0.toInt = A0) (hl0 : 0 ≤ A0) (hm0 : A0 ≤ 5) : Met l yX9_swing (uc yX9_swing cX9_swing 5 (some .int)) (rmL 2 0 0) (va_Pc [.ref (A 0), .int a0] (PreR D (tyl C) (cw C A u))) (vp_Si (fun r => True)) 0 0 (fun _ => False) := by
  refine mS (by decide) (Nat.le_of_ble_eq_true rfl) ?_
  intro p e s m below meth c ls ar Q hx hb hml hown hts hK hP hl hret
  have hown : s.vm.findClass RX9 = some m.cls := hown
  have hl : lv_has ls 5 [(0, .ref (A 0)), (1, .int a0)] := hl
  refine lv_aload_n hx hb dX9_swing_0 rfl (lv_at hl 0 rfl) ?_
  refine va_get (ci := 9) (v := .ref (A 7)) (C := RX9) (T := TX9) (N := 12) hx hb hts (fun w h => uc_in w (inX9 w h)) hown hK hP 0 (cwc0 C A u) rfl 5 (by decide) (hts _ (uc_in _ q_f388)) (fun _ h9 => h9) rfl dX9_swing_1 ?_
  refine va_get (ci := 5) (v := .ref (A 19)) (C := RX5) (T := TX5) (N := 4) hx hb hts (fun w h => uc_in w (inX5 w h)) hown hK hP 7 (cwc7 C A u) rfl 2 (by decide) (hts _ (uc_in _ q_f171)) (fun _ h9 => h9) rfl dX9_swing_4 ?_
  refine lv_iconst (v := 0) hx hb dX9_swing_7 (by decide) ?_
  refine r_aald hx hb hK hP 19 6 rfl (cwc19 C A u) rfl (i_ix (X := 0) (by decide) (by decide) (by decide)) dX9_swing_8 ?_
  refine pv_v (v := .ref (A (52 + 32))) rfl ?_
  refine lv_iload_n hx hb dX9_swing_9 rfl (lv_at hl 1 rfl) ?_
  refine va_iald hx hb hK hP (52 + 32) 1 (cwp C A u 32 (by decide)) rfl (i_ix ha0 (by omega) (by omega)) dX9_swing_10 ?_
  refine p_any (fun z1 => ?_)
  refine lv_istore_n (lv' := [(2, .int z1), (0, .ref (A 0)), (1, .int a0)]) hx hb dX9_swing_11 rfl hl (by decide) rfl (fun ls hl => ?_)
  refine lv_iload_n hx hb dX9_swing_12 rfl (lv_at hl 0 rfl) ?_
  refine lv_istore_n (lv' := [(3, .int z1), (2, .int z1), (0, .ref (A 0)), (1, .int a0)]) hx hb dX9_swing_13 rfl hl (by decide) rfl (fun ls hl => ?_)
  refine lv_iconst (v := 1) hx hb dX9_swing_14 (by decide) ?_
  refine lv_istore (lv' := [(4, .int 1), (3, .int z1), (2, .int z1), (0, .ref (A 0)), (1, .int a0)]) hx hb dX9_swing_15 hl (by decide) rfl (fun ls hl => ?_)
  have lp17_94 : ∀ (n17 : Nat) (ls : Array Slot) (y92d : Int32) (y93d : Int32) (y94d : Int32), 1 ≤ y92d.toInt → y92d.toInt ≤ 7 → 7 - y92d.toInt < (n17 : Int) → lv_has ls 5 [(4, .int y92d), (3, .int y93d), (2, .int y94d), (0, .ref (A 0)), (1, .int a0)] → W p l e (rmL 2 0 0) s m ar below meth c s.heap [] 0 0 Q (F0 m 17 ls []) := by
    intro n17
    induction n17 with
    | zero => intro ls y92d y93d y94d ly92d my92d hmun17 hl; exfalso; omega
    | succ n17 ih17_94 =>
      intro ls y92d y93d y94d ly92d my92d hmun17 hl
      refine lv_iload hx hb dX9_swing_17 (lv_at hl 0 rfl) ?_
      refine lv_aload_n hx hb dX9_swing_19 rfl (lv_at hl 3 rfl) ?_
      refine va_get (ci := 9) (v := .ref (A 7)) (C := RX9) (T := TX9) (N := 12) hx hb hts (fun w h => uc_in w (inX9 w h)) hown hK hP 0 (cwc0 C A u) rfl 5 (by decide) (hts _ (uc_in _ q_f388)) (fun _ h9 => h9) rfl dX9_swing_20 ?_
      refine va_get (ci := 5) (v := .int (gi u 48)) (C := RX5) (T := TX5) (N := 4) hx hb hts (fun w h => uc_in w (inX5 w h)) hown hK hP 7 (cwc7 C A u) rfl 0 (by decide) (hts _ (uc_in _ q_f164)) (fun _ h9 => h9) rfl dX9_swing_23 ?_
      have b96 := hI.b48
      refine lv_icmp_ge (tgt := 69) hx hb dX9_swing_26 (by decide) (fun c97 => ?_) (fun c97 => ?_)
      · have c97 := cLE (x := (gi u 48)) (y := y92d) (X := ((gi u 48)).toInt) (Y := y92d.toInt) rfl rfl c97
        refine lv_iload_n hx hb dX9_swing_69 rfl (lv_at hl 1 rfl) ?_
        refine lv_iload_n hx hb dX9_swing_70 rfl (lv_at hl 2 rfl) ?_
        refine lv_isub hx hb dX9_swing_71 ?_
        refine p_any (fun z98 => ?_)
        exact hret _ _ z98 dX9_swing_72 rfl trivial
      · have c97 := cNLE (x := (gi u 48)) (y := y92d) (X := ((gi u 48)).toInt) (Y := y92d.toInt) rfl rfl c97
        refine lv_iload_n hx hb dX9_swing_29 rfl (lv_at hl 2 rfl) ?_
        refine lv_aload_n hx hb dX9_swing_30 rfl (lv_at hl 3 rfl) ?_
        refine va_get (ci := 9) (v := .ref (A 7)) (C := RX9) (T := TX9) (N := 12) hx hb hts (fun w h => uc_in w (inX9 w h)) hown hK hP 0 (cwc0 C A u) rfl 5 (by decide) (hts _ (uc_in _ q_f388)) (fun _ h9 => h9) rfl dX9_swing_31 ?_
        refine va_get (ci := 5) (v := .ref (A 19)) (C := RX5) (T := TX5) (N := 4) hx hb hts (fun w h => uc_in w (inX5 w h)) hown hK hP 7 (cwc7 C A u) rfl 2 (by decide) (hts _ (uc_in _ q_f171)) (fun _ h9 => h9) rfl dX9_swing_34 ?_
        refine lv_iload hx hb dX9_swing_37 (lv_at hl 0 rfl) ?_
        refine r_aald hx hb hK hP 19 6 rfl (cwc19 C A u) rfl (i_ix rfl (by omega) (by omega)) dX9_swing_39 ?_
        obtain ⟨k99, hk99, ek99⟩ : ∃ k : Nat, (k : Int) = 32 + y92d.toInt ∧ k = 32 + Int32.toNatClampNeg y92d := ⟨_, by have q9 := i_cl (x := y92d) (X := y92d.toInt) rfl (by omega); omega, rfl⟩
        refine pv_v (v := .ref (A (52 + k99))) (by rw [ek99]; rfl) ?_
        refine lv_iload_n hx hb dX9_swing_40 rfl (lv_at hl 4 rfl) ?_
        refine va_iald hx hb hK hP (52 + k99) 1 (cwp C A u k99 (by omega)) rfl (i_ix ha0 (by omega) (by omega)) dX9_swing_41 ?_
        refine p_any (fun z100 => ?_)
        refine va_mmin hx hb (by rw [hml]; exact hl.1.symm) hown (hts _ (uc_in _ q_m793)) (hts _ (uc_in _ q_s456)) (hts _ (uc_in _ q_i12)) (hts _ (uc_in _ q_c457)) (Nat.le_of_ble_eq_true rfl) (Nat.le_of_ble_eq_true rfl) (Nat.le_of_ble_eq_true rfl) (Nat.le_of_ble_eq_true rfl) dX9_swing_42 ?_
        refine p_any (fun z101 => ?_)
        refine lv_istore_n (lv' := [(2, .int z101), (4, .int y92d), (3, .int y93d), (0, .ref (A 0)), (1, .int a0)]) hx hb dX9_swing_45 rfl hl (by decide) rfl (fun ls hl => ?_)
        refine lv_iload_n hx hb dX9_swing_46 rfl (lv_at hl 2 rfl) ?_
        refine lv_aload_n hx hb dX9_swing_47 rfl (lv_at hl 3 rfl) ?_
        refine va_get (ci := 9) (v := .ref (A 7)) (C := RX9) (T := TX9) (N := 12) hx hb hts (fun w h => uc_in w (inX9 w h)) hown hK hP 0 (cwc0 C A u) rfl 5 (by decide) (hts _ (uc_in _ q_f388)) (fun _ h9 => h9) rfl dX9_swing_48 ?_
        refine va_get (ci := 5) (v := .ref (A 19)) (C := RX5) (T := TX5) (N := 4) hx hb hts (fun w h => uc_in w (inX5 w h)) hown hK hP 7 (cwc7 C A u) rfl 2 (by decide) (hts _ (uc_in _ q_f171)) (fun _ h9 => h9) rfl dX9_swing_51 ?_
        refine lv_iload hx hb dX9_swing_54 (lv_at hl 1 rfl) ?_
        refine r_aald hx hb hK hP 19 6 rfl (cwc19 C A u) rfl (i_ix rfl (by omega) (by omega)) dX9_swing_56 ?_
        obtain ⟨k102, hk102, ek102⟩ : ∃ k : Nat, (k : Int) = 32 + y92d.toInt ∧ k = 32 + Int32.toNatClampNeg y92d := ⟨_, by have q9 := i_cl (x := y92d) (X := y92d.toInt) rfl (by omega); omega, rfl⟩
        refine pv_v (v := .ref (A (52 + k102))) (by rw [ek102]; rfl) ?_
        refine lv_iload_n hx hb dX9_swing_57 rfl (lv_at hl 4 rfl) ?_
        refine va_iald hx hb hK hP (52 + k102) 1 (cwp C A u k102 (by omega)) rfl (i_ix ha0 (by omega) (by omega)) dX9_swing_58 ?_
        refine p_any (fun z103 => ?_)
        refine va_mmax hx hb (by rw [hml]; exact hl.1.symm) hown (hts _ (uc_in _ q_m745)) (hts _ (uc_in _ q_s571)) (hts _ (uc_in _ q_i12)) (hts _ (uc_in _ q_c572)) (Nat.le_of_ble_eq_true rfl) (Nat.le_of_ble_eq_true rfl) (Nat.le_of_ble_eq_true rfl) (Nat.le_of_ble_eq_true rfl) dX9_swing_59 ?_
        refine p_any (fun z104 => ?_)
        refine lv_istore_n (lv' := [(3, .int z104), (2, .int z101), (4, .int y92d), (0, .ref (A 0)), (1, .int a0)]) hx hb dX9_swing_62 rfl hl (by decide) rfl (fun ls hl => ?_)
        obtain ⟨z105, ez105⟩ : ∃ z, z = y92d + Int32.ofInt 1 := ⟨_, rfl⟩
        have hz105 : z105.toInt = y92d.toInt + 1 := by rw [ez105]; exact tt_add rfl (by decide) (by omega) (by omega)
        refine lv_iinc (v := z105) (lv' := [(4, .int z105), (3, .int z104), (2, .int z101), (0, .ref (A 0)), (1, .int a0)]) hx hb dX9_swing_63 hl (k := 2) rfl ez105.symm (by decide) rfl (fun ls hl => ?_)
        refine lv_goto (tgt := 17) hx hb dX9_swing_66 (by decide) ?_
        exact ih17_94 ls z105 z104 z101 (by have q9 := (show z105.toInt = (y92d.toInt + 1) from hz105); omega) (by have q9 := (show z105.toInt = (y92d.toInt + 1) from hz105); omega) (by have q9 := (show z105.toInt = (y92d.toInt + 1) from hz105); omega) hl
  exact lp17_94 7 ls 1 z1 z1 (by decide) (by decide) (by have q9 : (1 : Int32).toInt = 1 := (by decide); omega) hl
set_option maxHeartbeats 4000000 in
set_option maxRecDepth 100000 in
theorem kX9_steady_0 (l : Launch) (D : va_G) (C : Nat → ClassId) (A : Nat → Nat) (u : St) (hI : IC u) : Met l yX9_steady (uc yX9_steady cX9_steady 5 (some .int)) (rmL 3 0 0) (va_Pc [.ref (A 0)] (PreR D (tyl C) (cw C A u))) (vp_Si (fun r => (-2) ≤ r.toInt ∧ r.toInt ≤ 5)) 0 0 (fun _ => False) := by
  refine mS (by decide) (Nat.le_of_ble_eq_true rfl) ?_
  intro p e s m below meth c ls ar Q hx hb hml hown hts hK hP hl hret
  have hown : s.vm.findClass RX9 = some m.cls := hown
  have hl : lv_has ls 5 [(0, .ref (A 0))] := hl
  refine lv_aload_n hx hb dX9_steady_0 rfl (lv_at hl 0 rfl) ?_
  refine cvS (n := 0) (As := []) (rest := []) ⟨hx, hb, hml, hown, hts⟩ uc_in (kX9_hasTown_0 l D C A u hI ) q_m678 q_n680 q_p18 q_i1 q_c681 hvX9_hasTown ⟨(Nat.le_of_ble_eq_true rfl), (Nat.le_of_ble_eq_true rfl)⟩ ⟨(Nat.le_of_ble_eq_true rfl), (Nat.le_of_ble_eq_true rfl)⟩ hK hP 9 0 rfl (cwc0 C A u) rfl hl.1 rfl (Nat.le_of_ble_eq_true rfl) dX9_steady_1 (fun r1 p2 => ?_)
  have p2 : 0 ≤ r1.toInt ∧ r1.toInt ≤ 1 := p2
  refine lv_if_ne (tgt := 10) hx hb dX9_steady_4 (by decide) (fun c3 => ?_) (fun c3 => ?_)
  · have c3 := cNE (x := r1) (y := 0) (X := r1.toInt) (Y := 0) rfl (by decide) c3
    refine lv_iconst (v := (-1)) hx hb dX9_steady_10 (by decide) ?_
    refine lv_istore_n (lv' := [(1, .int (-1)), (0, .ref (A 0))]) hx hb dX9_steady_11 rfl hl (by decide) rfl (fun ls hl => ?_)
    refine lv_iconst (v := 0) hx hb dX9_steady_12 (by decide) ?_
    refine lv_istore_n (lv' := [(2, .int 0), (1, .int (-1)), (0, .ref (A 0))]) hx hb dX9_steady_13 rfl hl (by decide) rfl (fun ls hl => ?_)
    refine lv_iconst (v := 0) hx hb dX9_steady_14 (by decide) ?_
    refine lv_istore_n (lv' := [(3, .int 0), (2, .int 0), (1, .int (-1)), (0, .ref (A 0))]) hx hb dX9_steady_15 rfl hl (by decide) rfl (fun ls hl => ?_)
    have lp16_74 : ∀ (n16 : Nat) (ls : Array Slot) (y72d : Int32) (y73d : Int32) (y74d : Int32), 0 ≤ y72d.toInt → y72d.toInt ≤ 6 → (-1) ≤ y74d.toInt → y74d.toInt ≤ 5 → 6 - y72d.toInt < (n16 : Int) → lv_has ls 5 [(3, .int y72d), (2, .int y73d), (1, .int y74d), (0, .ref (A 0))] → W p l e (rmL 3 0 0) s m ar below meth c s.heap [] 0 0 Q (F0 m 16 ls []) := by
      intro n16
      induction n16 with
      | zero => intro ls y72d y73d y74d ly72d my72d ly74d my74d hmun16 hl; exfalso; omega
      | succ n16 ih16_74 =>
        intro ls y72d y73d y74d ly72d my72d ly74d my74d hmun16 hl
        refine lv_iload_n hx hb dX9_steady_16 rfl (lv_at hl 0 rfl) ?_
        refine lv_aload_n hx hb dX9_steady_17 rfl (lv_at hl 3 rfl) ?_
        refine va_get (ci := 9) (v := .ref (A 7)) (C := RX9) (T := TX9) (N := 12) hx hb hts (fun w h => uc_in w (inX9 w h)) hown hK hP 0 (cwc0 C A u) rfl 5 (by decide) (hts _ (uc_in _ q_f388)) (fun _ h9 => h9) rfl dX9_steady_18 ?_
        refine va_get (ci := 5) (v := .int (gi u 49)) (C := RX5) (T := TX5) (N := 4) hx hb hts (fun w h => uc_in w (inX5 w h)) hown hK hP 7 (cwc7 C A u) rfl 1 (by decide) (hts _ (uc_in _ q_f167)) (fun _ h9 => h9) rfl dX9_steady_21 ?_
        have b76 := hI.b49
        refine lv_icmp_ge (tgt := 56) hx hb dX9_steady_24 (by decide) (fun c77 => ?_) (fun c77 => ?_)
        · have c77 := cLE (x := (gi u 49)) (y := y72d) (X := ((gi u 49)).toInt) (Y := y72d.toInt) rfl rfl c77
          refine lv_iload_n hx hb dX9_steady_56 rfl (lv_at hl 2 rfl) ?_
          exact hret _ _ y74d dX9_steady_57 rfl ⟨by omega, by omega⟩
        · have c77 := cNLE (x := (gi u 49)) (y := y72d) (X := ((gi u 49)).toInt) (Y := y72d.toInt) rfl rfl c77
          refine lv_aload_n hx hb dX9_steady_27 rfl (lv_at hl 3 rfl) ?_
          refine lv_iload_n hx hb dX9_steady_28 rfl (lv_at hl 0 rfl) ?_
          refine cvS (n := 1) (As := [.int y72d]) (rest := []) ⟨hx, hb, hml, hown, hts⟩ uc_in (kX9_swing_0 l D C A u hI y72d y72d.toInt rfl (by omega) (by omega)) q_m789 q_n791 q_p23 q_i1 q_c792 hvX9_swing ⟨(Nat.le_of_ble_eq_true rfl), (Nat.le_of_ble_eq_true rfl)⟩ ⟨(Nat.le_of_ble_eq_true rfl), (Nat.le_of_ble_eq_true rfl)⟩ hK hP 9 0 rfl (cwc0 C A u) rfl hl.1 rfl (Nat.le_of_ble_eq_true rfl) dX9_steady_29 (fun r78 p79 => ?_)
          refine lv_istore (lv' := [(4, .int r78), (3, .int y72d), (2, .int y73d), (1, .int y74d), (0, .ref (A 0))]) hx hb dX9_steady_32 hl (by decide) rfl (fun ls hl => ?_)
          refine lv_iload_n hx hb dX9_steady_34 rfl (lv_at hl 3 rfl) ?_
          refine lv_iconst (v := (-1)) hx hb dX9_steady_35 (by decide) ?_
          have j50_85 : ∀ (ls : Array Slot) (y82d : Int32) (y83d : Int32), 0 ≤ y83d.toInt → y83d.toInt ≤ 5 → lv_has ls 5 [(3, .int y72d), (2, .int y82d), (1, .int y83d), (0, .ref (A 0))] → W p l e (rmL 3 0 0) s m ar below meth c s.heap [] 0 0 Q (F0 m 50 ls []) := by
            intro ls y82d y83d ly83d my83d hl
            obtain ⟨z87, ez87⟩ : ∃ z, z = y72d + Int32.ofInt 1 := ⟨_, rfl⟩
            have hz87 : z87.toInt = y72d.toInt + 1 := by rw [ez87]; exact tt_add rfl (by decide) (by omega) (by omega)
            refine lv_iinc (v := z87) (lv' := [(3, .int z87), (2, .int y82d), (1, .int y83d), (0, .ref (A 0))]) hx hb dX9_steady_50 hl (k := 0) rfl ez87.symm (by decide) rfl (fun ls hl => ?_)
            refine lv_goto (tgt := 16) hx hb dX9_steady_53 (by decide) ?_
            exact ih16_74 ls z87 y82d y83d (by have q9 := (show z87.toInt = (y72d.toInt + 1) from hz87); omega) (by have q9 := (show z87.toInt = (y72d.toInt + 1) from hz87); omega) (by omega) (by omega) (by have q9 := (show z87.toInt = (y72d.toInt + 1) from hz87); omega) hl
          have j45_88 : ∀ (ls : Array Slot), lv_has ls 5 [(4, .int r78), (3, .int y72d), (0, .ref (A 0))] → W p l e (rmL 3 0 0) s m ar below meth c s.heap [] 0 0 Q (F0 m 45 ls []) := by
            intro ls hl
            refine lv_iload hx hb dX9_steady_45 (lv_at hl 0 rfl) ?_
            refine lv_istore_n (lv' := [(2, .int r78), (4, .int r78), (3, .int y72d), (0, .ref (A 0))]) hx hb dX9_steady_47 rfl hl (by decide) rfl (fun ls hl => ?_)
            refine lv_iload_n hx hb dX9_steady_48 rfl (lv_at hl 2 rfl) ?_
            refine lv_istore_n (lv' := [(1, .int y72d), (2, .int r78), (4, .int r78), (3, .int y72d), (0, .ref (A 0))]) hx hb dX9_steady_49 rfl hl (by decide) rfl (fun ls hl => ?_)
            exact j50_85 ls r78 y72d (by omega) (by omega) (lv_sub hl [3, 1, 0, 4] rfl)
          refine lv_icmp_eq (tgt := 45) hx hb dX9_steady_36 (by decide) (fun c80 => ?_) (fun c80 => ?_)
          · have c80 := cEQ (x := y74d) (y := (-1)) (X := y74d.toInt) (Y := (-1)) rfl (by decide) c80
            exact j45_88 ls (lv_sub hl [0, 1, 4] rfl)
          · have c80 := cNE (x := y74d) (y := (-1)) (X := y74d.toInt) (Y := (-1)) rfl (by decide) c80
            refine lv_iload hx hb dX9_steady_39 (lv_at hl 0 rfl) ?_
            refine lv_iload_n hx hb dX9_steady_41 rfl (lv_at hl 2 rfl) ?_
            refine lv_icmp_ge (tgt := 50) hx hb dX9_steady_42 (by decide) (fun c90 => ?_) (fun c90 => ?_)
            · have c90 := cLE (x := y73d) (y := r78) (X := y73d.toInt) (Y := r78.toInt) rfl rfl c90
              exact j50_85 ls y73d y74d (by omega) (by omega) (lv_sub hl [1, 2, 3, 4] rfl)
            · have c90 := cNLE (x := y73d) (y := r78) (X := y73d.toInt) (Y := r78.toInt) rfl rfl c90
              exact j45_88 ls (lv_sub hl [0, 1, 4] rfl)
    exact lp16_74 7 ls 0 0 (-1) (by decide) (by decide) (by decide) (by decide) (by have q9 : (0 : Int32).toInt = 0 := (by decide); omega) hl
  · have c3 := cEQ (x := r1) (y := 0) (X := r1.toInt) (Y := 0) rfl (by decide) c3
    refine lv_bipush (v := (-2)) hx hb dX9_steady_7 (by decide) ?_
    exact hret _ _ ((-2) : Int32) dX9_steady_9 rfl ⟨by decide, by decide⟩
set_option maxHeartbeats 4000000 in
set_option maxRecDepth 100000 in
theorem kX9_stop_0 (l : Launch) (D : va_G) (C : Nat → ClassId) (A : Nat → Nat) (u : St) (hI : IC u) (a0 : Int32) (A0 : Int) (ha0 : a0.toInt = A0) (a1 : Int32) (A1 : Int) (ha1 : a1.toInt = A1) (sz : Nat) : MetI l yX9_stop cX9_stop 3 (some .int) 6 [.ref (A 0), .int a0, .int a1] D (tyl C) (cw C A) X0 u sz (fun r u' => IC u' ∧ Un [(15, 15), (48, 48), (49, 49)] [(23, 23), (24, 24), (25, 25), (38, 38), (84, 90)] [] u u' ∧ (True)) := by
  refine mI (by decide) (Nat.le_of_ble_eq_true rfl) ?_
  intro p e s m below meth c ls ar Q hx hb hml hown hts hK hH hX hl hret
  have hown : s.vm.findClass RX9 = some m.cls := hown
  have hl : lv_has ls 3 [(0, .ref (A 0)), (1, .int a0), (2, .int a1)] := hl
  refine lv_aload_n hx hb dX9_stop_0 rfl (lv_at hl 0 rfl) ?_
  refine lv_iconst (v := 2) hx hb dX9_stop_1 (by decide) ?_
  refine lv_iload_n hx hb dX9_stop_2 rfl (lv_at hl 1 rfl) ?_
  refine lv_iload_n hx hb dX9_stop_3 rfl (lv_at hl 2 rfl) ?_
  refine cvI (n := 3) (As := [.int 2, .int a0, .int a1]) (rest := []) ⟨hx, hb, hml, hown, hts⟩ uc_in (kX9_actOnLate_0 l D C A u hI (2) 2 (by decide) a0 A0 ha0 a1 A1 ha1 _) q_m1076 q_n1078 q_p46 q_i1 q_c1079 hvX9_actOnLate ⟨(Nat.le_of_ble_eq_true rfl), (Nat.le_of_ble_eq_true rfl)⟩ ⟨(Nat.le_of_ble_eq_true rfl), (Nat.le_of_ble_eq_true rfl)⟩ hK hH (fun q h => Or.inr h) Bl0 (fun _ _ _ => trivial) 9 0 rfl (cwc0 C A u) rfl hl.1 rfl (Nat.le_of_ble_eq_true rfl) dX9_stop_4 (fun r2 u1 H locs p3 hH => ?_)
  obtain ⟨hI, hUu1, p3⟩ := p3
  exact hret _ _ _ _ r2 _ dX9_stop_7 rfl ⟨hI, (Un.tr Un.rf hUu1 rfl rfl rfl), trivial⟩ hH
set_option maxHeartbeats 4000000 in
set_option maxRecDepth 100000 in
theorem kX9_struck_0 (l : Launch) (D : va_G) (C : Nat → ClassId) (A : Nat → Nat) (u : St) (hI : IC u) (a0 : Int32) (A0 : Int) (ha0 : a0.toInt = A0) (a1 : Int32) (A1 : Int) (ha1 : a1.toInt = A1) : Met l yX9_struck (uc yX9_struck cX9_struck 5 (some .int)) (rmL 3 0 0) (va_Pc [.ref (A 0), .int a0, .int a1] (PreR D (tyl C) (cw C A u))) (vp_Si (fun r => (-2) ≤ r.toInt ∧ r.toInt ≤ 63)) 0 0 (fun _ => False) := by
  refine mS (by decide) (Nat.le_of_ble_eq_true rfl) ?_
  intro p e s m below meth c ls ar Q hx hb hml hown hts hK hP hl hret
  have hown : s.vm.findClass RX9 = some m.cls := hown
  have hl : lv_has ls 5 [(0, .ref (A 0)), (1, .int a0), (2, .int a1)] := hl
  refine lv_aload_n hx hb dX9_struck_0 rfl (lv_at hl 0 rfl) ?_
  refine lv_iload_n hx hb dX9_struck_1 rfl (lv_at hl 1 rfl) ?_
  refine cvS (n := 1) (As := [.int a0]) (rest := []) ⟨hx, hb, hml, hown, hts⟩ uc_in (kX9_isDay_0 l D C A u hI a0 A0 ha0) q_m597 q_n599 q_p12 q_i1 q_c600 hvX9_isDay ⟨(Nat.le_of_ble_eq_true rfl), (Nat.le_of_ble_eq_true rfl)⟩ ⟨(Nat.le_of_ble_eq_true rfl), (Nat.le_of_ble_eq_true rfl)⟩ hK hP 9 0 rfl (cwc0 C A u) rfl hl.1 rfl (Nat.le_of_ble_eq_true rfl) dX9_struck_2 (fun r1 p2 => ?_)
  rcases p2 with ⟨e9, f3, f4⟩ | e9
  · subst e9
    have b6 := hI.b48
    refine lv_if_eq (tgt := 21) hx hb dX9_struck_5 (by decide) (fun c7 => absurd c7 (by decide)) (fun c7 => ?_)
    refine lv_iload_n hx hb dX9_struck_8 rfl (lv_at hl 2 rfl) ?_
    refine lv_sipush (v := (-1000)) hx hb dX9_struck_9 (by decide) ?_
    refine lv_sipush (v := 1000) hx hb dX9_struck_12 (by decide) ?_
    refine csS (n := 3) (As := [.int a1, .int (-1000), .int 1000]) (rest := []) ⟨hx, hb, hml, hown, hts⟩ uc_in (kX9_isWithin_0 l D C A u hI a1 A1 ha1 (-1000) (-1000) (by decide) (1000) 1000 (by decide)) q_m651 q_s652 q_i1 q_c653 hvX9_isWithin ⟨(Nat.le_of_ble_eq_true rfl), (Nat.le_of_ble_eq_true rfl)⟩ ⟨(Nat.le_of_ble_eq_true rfl), (Nat.le_of_ble_eq_true rfl)⟩ hK hP rfl hl.1 rfl (Nat.le_of_ble_eq_true rfl) dX9_struck_15 (fun r8 p9 => ?_)
    rcases p9 with ⟨e9, f10, f11⟩ | ⟨e9, fn12⟩
    · subst e9
      refine lv_if_ne (tgt := 24) hx hb dX9_struck_18 (by decide) (fun c13 => ?_) (fun c13 => absurd c13 (by decide))
      refine lv_iconst (v := 0) hx hb dX9_struck_24 (by decide) ?_
      refine lv_istore_n (lv' := [(3, .int 0), (0, .ref (A 0)), (1, .int a0), (2, .int a1)]) hx hb dX9_struck_25 rfl hl (by decide) rfl (fun ls hl => ?_)
      refine lv_iconst (v := 0) hx hb dX9_struck_26 (by decide) ?_
      refine lv_istore (lv' := [(4, .int 0), (3, .int 0), (0, .ref (A 0)), (1, .int a0), (2, .int a1)]) hx hb dX9_struck_27 hl (by decide) rfl (fun ls hl => ?_)
      have lp29_93 : ∀ (n29 : Nat) (ls : Array Slot) (y92d : Int32) (y93d : Int32), 0 ≤ y92d.toInt → y92d.toInt ≤ 6 → 0 ≤ y93d.toInt → y93d.toInt ≤ 63 → 6 - y92d.toInt < (n29 : Int) → lv_has ls 5 [(4, .int y92d), (3, .int y93d), (0, .ref (A 0)), (1, .int a0), (2, .int a1)] → W p l e (rmL 3 0 0) s m ar below meth c s.heap [] 0 0 Q (F0 m 29 ls []) := by
        intro n29
        induction n29 with
        | zero => intro ls y92d y93d ly92d my92d ly93d my93d hmun29 hl; exfalso; omega
        | succ n29 ih29_93 =>
          intro ls y92d y93d ly92d my92d ly93d my93d hmun29 hl
          refine lv_iload hx hb dX9_struck_29 (lv_at hl 0 rfl) ?_
          refine lv_bipush (v := 6) hx hb dX9_struck_31 (by decide) ?_
          refine lv_icmp_ge (tgt := 78) hx hb dX9_struck_33 (by decide) (fun c95 => ?_) (fun c95 => ?_)
          · have c95 := cLE (x := 6) (y := y92d) (X := 6) (Y := y92d.toInt) (by decide) rfl c95
            refine lv_iload_n hx hb dX9_struck_78 rfl (lv_at hl 1 rfl) ?_
            exact hret _ _ y93d dX9_struck_79 rfl ⟨by omega, by omega⟩
          · have c95 := cNLE (x := 6) (y := y92d) (X := 6) (Y := y92d.toInt) (by decide) rfl c95
            refine lv_aload_n hx hb dX9_struck_36 rfl (lv_at hl 2 rfl) ?_
            refine va_get (ci := 9) (v := .ref (A 7)) (C := RX9) (T := TX9) (N := 12) hx hb hts (fun w h => uc_in w (inX9 w h)) hown hK hP 0 (cwc0 C A u) rfl 5 (by decide) (hts _ (uc_in _ q_f388)) (fun _ h9 => h9) rfl dX9_struck_37 ?_
            refine lv_iload hx hb dX9_struck_40 (lv_at hl 0 rfl) ?_
            refine lv_iload_n hx hb dX9_struck_42 rfl (lv_at hl 3 rfl) ?_
            refine cvS (n := 2) (As := [.int y92d, .int a0]) (rest := []) ⟨hx, hb, hml, hown, hts⟩ uc_in (kX5_isAlive_0 l D C A u hI y92d y92d.toInt rfl a0 A0 ha0 (by omega) (by omega)) q_m654 q_n637 q_e638 q_i4 q_c639 hvX5_isAlive ⟨(Nat.le_of_ble_eq_true rfl), (Nat.le_of_ble_eq_true rfl)⟩ ⟨(Nat.le_of_ble_eq_true rfl), (Nat.le_of_ble_eq_true rfl)⟩ hK hP 5 7 rfl (cwc7 C A u) rfl hl.1 rfl (Nat.le_of_ble_eq_true rfl) dX9_struck_43 (fun r96 p97 => ?_)
            have p97 : 0 ≤ r96.toInt ∧ r96.toInt ≤ 1 := p97
            have j72_108 : ∀ (ls : Array Slot) (y106d : Int32), 0 ≤ y106d.toInt → y106d.toInt ≤ 63 → lv_has ls 5 [(4, .int y92d), (3, .int y106d), (0, .ref (A 0)), (1, .int a0), (2, .int a1)] → W p l e (rmL 3 0 0) s m ar below meth c s.heap [] 0 0 Q (F0 m 72 ls []) := by
              intro ls y106d ly106d my106d hl
              obtain ⟨z110, ez110⟩ : ∃ z, z = y92d + Int32.ofInt 1 := ⟨_, rfl⟩
              have hz110 : z110.toInt = y92d.toInt + 1 := by rw [ez110]; exact tt_add rfl (by decide) (by omega) (by omega)
              refine lv_iinc (v := z110) (lv' := [(4, .int z110), (3, .int y106d), (0, .ref (A 0)), (1, .int a0), (2, .int a1)]) hx hb dX9_struck_72 hl (k := 0) rfl ez110.symm (by decide) rfl (fun ls hl => ?_)
              refine lv_goto (tgt := 29) hx hb dX9_struck_75 (by decide) ?_
              exact ih29_93 ls z110 y106d (by have q9 := (show z110.toInt = (y92d.toInt + 1) from hz110); omega) (by have q9 := (show z110.toInt = (y92d.toInt + 1) from hz110); omega) (by omega) (by omega) (by have q9 := (show z110.toInt = (y92d.toInt + 1) from hz110); omega) hl
            refine lv_if_eq (tgt := 72) hx hb dX9_struck_46 (by decide) (fun c98 => ?_) (fun c98 => ?_)
            · have c98 := cEQ (x := r96) (y := 0) (X := r96.toInt) (Y := 0) rfl (by decide) c98
              exact j72_108 ls y93d (by omega) (by omega) hl
            · have c98 := cNE (x := r96) (y := 0) (X := r96.toInt) (Y := 0) rfl (by decide) c98
              refine lv_aload_n hx hb dX9_struck_49 rfl (lv_at hl 2 rfl) ?_
              refine va_get (ci := 9) (v := .ref (A 7)) (C := RX9) (T := TX9) (N := 12) hx hb hts (fun w h => uc_in w (inX9 w h)) hown hK hP 0 (cwc0 C A u) rfl 5 (by decide) (hts _ (uc_in _ q_f388)) (fun _ h9 => h9) rfl dX9_struck_50 ?_
              refine va_get (ci := 5) (v := .ref (A 19)) (C := RX5) (T := TX5) (N := 4) hx hb hts (fun w h => uc_in w (inX5 w h)) hown hK hP 7 (cwc7 C A u) rfl 2 (by decide) (hts _ (uc_in _ q_f171)) (fun _ h9 => h9) rfl dX9_struck_53 ?_
              refine lv_iload_n hx hb dX9_struck_56 rfl (lv_at hl 3 rfl) ?_
              refine r_aald hx hb hK hP 19 6 rfl (cwc19 C A u) rfl (i_ix ha0 (by omega) (by omega)) dX9_struck_57 ?_
              obtain ⟨k111, hk111, ek111⟩ : ∃ k : Nat, (k : Int) = 32 + A0 ∧ k = 32 + Int32.toNatClampNeg a0 := ⟨_, by have q9 := i_cl (x := a0) (X := A0) ha0 (by omega); omega, rfl⟩
              refine pv_v (v := .ref (A (52 + k111))) (by rw [ek111]; rfl) ?_
              refine lv_iload hx hb dX9_struck_58 (lv_at hl 0 rfl) ?_
              refine va_iald hx hb hK hP (52 + k111) 1 (cwp C A u k111 (by omega)) rfl (i_ix rfl (by omega) (by omega)) dX9_struck_60 ?_
              refine p_any (fun z112 => ?_)
              refine lv_iload_n hx hb dX9_struck_61 rfl (lv_at hl 4 rfl) ?_
              refine lv_icmp_gt (tgt := 72) hx hb dX9_struck_62 (by decide) (fun c113 => ?_) (fun c113 => ?_)
              · have c113 := cLT (x := a1) (y := z112) (X := A1) (Y := z112.toInt) ha1 rfl c113
                exact j72_108 ls y93d (by omega) (by omega) hl
              · have c113 := cNLT (x := a1) (y := z112) (X := A1) (Y := z112.toInt) ha1 rfl c113
                refine lv_iload_n hx hb dX9_struck_65 rfl (lv_at hl 1 rfl) ?_
                refine lv_iconst (v := 1) hx hb dX9_struck_66 (by decide) ?_
                refine lv_iload hx hb dX9_struck_67 (lv_at hl 0 rfl) ?_
                refine lv_ishl hx hb dX9_struck_69 ?_
                have gz114 := tt_shl1 (y := y92d) (Y := y92d.toInt) rfl (by omega) (by omega)
                refine p_bd (P := fun q => 1 ≤ q ∧ q ≤ 32) ⟨by omega, by omega⟩ (fun z115 bz115 => ?_)
                have bz115 : 1 ≤ z115.toInt ∧ z115.toInt ≤ 32 := bz115
                refine lv_ior hx hb dX9_struck_70 ?_
                have gz116 := tt_or (x := y93d) (y := z115) (X := y93d.toInt) (Y := z115.toInt) rfl rfl 6 (by decide) (by omega) (by omega) (by omega) (by omega)
                refine p_bd (P := fun q => 0 ≤ q ∧ q ≤ 63) ⟨by omega, by omega⟩ (fun z117 bz117 => ?_)
                have bz117 : 0 ≤ z117.toInt ∧ z117.toInt ≤ 63 := bz117
                refine lv_istore_n (lv' := [(3, .int z117), (4, .int y92d), (0, .ref (A 0)), (1, .int a0), (2, .int a1)]) hx hb dX9_struck_71 rfl hl (by decide) rfl (fun ls hl => ?_)
                exact j72_108 ls z117 (by omega) (by omega) (lv_sub hl [1, 0, 2, 3, 4] rfl)
      exact lp29_93 7 ls 0 0 (by decide) (by decide) (by decide) (by decide) (by have q9 : (0 : Int32).toInt = 0 := (by decide); omega) hl
    · subst e9
      refine lv_if_ne (tgt := 24) hx hb dX9_struck_18 (by decide) (fun c118 => absurd c118 (by decide)) (fun c118 => ?_)
      refine lv_bipush (v := (-2)) hx hb dX9_struck_21 (by decide) ?_
      exact hret _ _ ((-2) : Int32) dX9_struck_23 rfl ⟨by decide, by decide⟩
  · subst e9
    refine lv_if_eq (tgt := 21) hx hb dX9_struck_5 (by decide) (fun c119 => ?_) (fun c119 => absurd c119 (by decide))
    refine lv_bipush (v := (-2)) hx hb dX9_struck_21 (by decide) ?_
    exact hret _ _ ((-2) : Int32) dX9_struck_23 rfl ⟨by decide, by decide⟩
set_option maxHeartbeats 4000000 in
set_option maxRecDepth 100000 in
theorem kX9_sure_0 (l : Launch) (D : va_G) (C : Nat → ClassId) (A : Nat → Nat) (u : St) (hI : IC u) (a0 : Int32) (A0 : Int) (ha0 : a0.toInt = A0) (a1 : Int32) (A1 : Int) (ha1 : a1.toInt = A1) (sz : Nat) : MetI l yX9_sure cX9_sure 4 (some .int) 3 [.ref (A 0), .int a0, .int a1] D (tyl C) (cw C A) X0 u sz (fun r u' => IC u' ∧ Un [(77, 77), (78, 78)] [] [] u u' ∧ ((-2) ≤ r.toInt ∧ r.toInt ≤ 600)) := by
  refine mI (by decide) (Nat.le_of_ble_eq_true rfl) ?_
  intro p e s m below meth c ls ar Q hx hb hml hown hts hK hH hX hl hret
  have hown : s.vm.findClass RX9 = some m.cls := hown
  have hl : lv_has ls 4 [(0, .ref (A 0)), (1, .int a0), (2, .int a1)] := hl
  refine lv_aload_n hx hb dX9_sure_0 rfl (lv_at hl 0 rfl) ?_
  refine lv_iload_n hx hb dX9_sure_1 rfl (lv_at hl 1 rfl) ?_
  refine cvS (n := 1) (As := [.int a0]) (rest := []) ⟨hx, hb, hml, hown, hts⟩ uc_in (kX9_isDay_0 l D C A u hI a0 A0 ha0) q_m597 q_n599 q_p12 q_i1 q_c600 hvX9_isDay ⟨(Nat.le_of_ble_eq_true rfl), (Nat.le_of_ble_eq_true rfl)⟩ ⟨(Nat.le_of_ble_eq_true rfl), (Nat.le_of_ble_eq_true rfl)⟩ hK hH.1 9 0 rfl (cwc0 C A u) rfl hl.1 rfl (Nat.le_of_ble_eq_true rfl) dX9_sure_2 (fun r1 p2 => ?_)
  rcases p2 with ⟨e9, f3, f4⟩ | e9
  · subst e9
    have b6 := hI.b48
    refine lv_if_eq (tgt := 18) hx hb dX9_sure_5 (by decide) (fun c7 => absurd c7 (by decide)) (fun c7 => ?_)
    refine lv_iload_n hx hb dX9_sure_8 rfl (lv_at hl 2 rfl) ?_
    refine lv_iconst (v := 0) hx hb dX9_sure_9 (by decide) ?_
    refine lv_bipush (v := 100) hx hb dX9_sure_10 (by decide) ?_
    refine csS (n := 3) (As := [.int a1, .int 0, .int 100]) (rest := []) ⟨hx, hb, hml, hown, hts⟩ uc_in (kX9_isWithin_0 l D C A u hI a1 A1 ha1 (0) 0 (by decide) (100) 100 (by decide)) q_m651 q_s652 q_i1 q_c653 hvX9_isWithin ⟨(Nat.le_of_ble_eq_true rfl), (Nat.le_of_ble_eq_true rfl)⟩ ⟨(Nat.le_of_ble_eq_true rfl), (Nat.le_of_ble_eq_true rfl)⟩ hK hH.1 rfl hl.1 rfl (Nat.le_of_ble_eq_true rfl) dX9_sure_12 (fun r8 p9 => ?_)
    rcases p9 with ⟨e9, f10, f11⟩ | ⟨e9, fn12⟩
    · subst e9
      refine lv_if_ne (tgt := 21) hx hb dX9_sure_15 (by decide) (fun c13 => ?_) (fun c13 => absurd c13 (by decide))
      refine lv_iconst (v := 0) hx hb dX9_sure_21 (by decide) ?_
      refine lv_istore_n (lv' := [(3, .int 0), (0, .ref (A 0)), (1, .int a0), (2, .int a1)]) hx hb dX9_sure_22 rfl hl (by decide) rfl (fun ls hl => ?_)
      have lp23_178 : ∀ (n23 : Nat) (ls : Array Slot) (y177d : Int32) (u178 : St) (H : Heap) (locs : List Loc), 0 ≤ y177d.toInt → y177d.toInt ≤ 601 → 601 - y177d.toInt < (n23 : Int) → Un [(77, 77), (78, 78)] [] [] u u178 → IC u178 → Hd D (cw C A) (va_A (cw C A u) s.heap.size) s.heap u178 H locs → lv_has ls 4 [(3, .int y177d), (0, .ref (A 0)), (1, .int a0), (2, .int a1)] → W p l e (rmL 3 0 0) s m ar below meth c H locs 0 0 Q (F0 m 23 ls []) := by
        intro n23
        induction n23 with
        | zero => intro ls y177d u178 H locs ly177d my177d hmun23 hUu178 hI hH hl; exfalso; omega
        | succ n23 ih23_178 =>
          intro ls y177d u178 H locs ly177d my177d hmun23 hUu178 hI hH hl
          refine lv_iload_n hx hb dX9_sure_23 rfl (lv_at hl 0 rfl) ?_
          refine lv_sipush (v := 600) hx hb dX9_sure_24 (by decide) ?_
          refine lv_icmp_gt (tgt := 93) hx hb dX9_sure_27 (by decide) (fun c180 => ?_) (fun c180 => ?_)
          · have c180 := cLT (x := 600) (y := y177d) (X := 600) (Y := y177d.toInt) (by decide) rfl c180
            refine lv_iconst (v := (-1)) hx hb dX9_sure_93 (by decide) ?_
            exact hret _ _ _ _ ((-1) : Int32) _ dX9_sure_94 rfl ⟨hI, (Un.tr Un.rf hUu178 rfl rfl rfl), ⟨by decide, by decide⟩⟩ hH
          · have c180 := cNLT (x := 600) (y := y177d) (X := 600) (Y := y177d.toInt) (by decide) rfl c180
            refine lv_aload_n hx hb dX9_sure_30 rfl (lv_at hl 1 rfl) ?_
            refine va_get (ci := 9) (v := .ref (A 16)) (C := RX9) (T := TX9) (N := 12) hx hb hts (fun w h => uc_in w (inX9 w h)) hown hK hH.1 0 (cwc0 C A u178) rfl 11 (by decide) (hts _ (uc_in _ q_f394)) (fun _ h9 => h9) rfl dX9_sure_31 ?_
            refine lv_aload_n hx hb dX9_sure_34 rfl (lv_at hl 1 rfl) ?_
            refine va_get (ci := 9) (v := .ref (A 7)) (C := RX9) (T := TX9) (N := 12) hx hb hts (fun w h => uc_in w (inX9 w h)) hown hK hH.1 0 (cwc0 C A u178) rfl 5 (by decide) (hts _ (uc_in _ q_f388)) (fun _ h9 => h9) rfl dX9_sure_35 ?_
            refine va_get (ci := 5) (v := .ref (A 19)) (C := RX5) (T := TX5) (N := 4) hx hb hts (fun w h => uc_in w (inX5 w h)) hown hK hH.1 7 (cwc7 C A u178) rfl 2 (by decide) (hts _ (uc_in _ q_f171)) (fun _ h9 => h9) rfl dX9_sure_38 ?_
            refine lv_iload_n hx hb dX9_sure_41 rfl (lv_at hl 2 rfl) ?_
            refine r_aald hx hb hK hH.1 19 6 rfl (cwc19 C A u178) rfl (i_ix ha0 (by omega) (by omega)) dX9_sure_42 ?_
            obtain ⟨k181, hk181, ek181⟩ : ∃ k : Nat, (k : Int) = 32 + A0 ∧ k = 32 + Int32.toNatClampNeg a0 := ⟨_, by have q9 := i_cl (x := a0) (X := A0) ha0 (by omega); omega, rfl⟩
            refine pv_v (v := .ref (A (52 + k181))) (by rw [ek181]; rfl) ?_
            refine lv_aload_n hx hb dX9_sure_43 rfl (lv_at hl 1 rfl) ?_
            refine va_get (ci := 9) (v := .ref (A 7)) (C := RX9) (T := TX9) (N := 12) hx hb hts (fun w h => uc_in w (inX9 w h)) hown hK hH.1 0 (cwc0 C A u178) rfl 5 (by decide) (hts _ (uc_in _ q_f388)) (fun _ h9 => h9) rfl dX9_sure_44 ?_
            refine va_get (ci := 5) (v := .ref (A 38)) (C := RX5) (T := TX5) (N := 4) hx hb hts (fun w h => uc_in w (inX5 w h)) hown hK hH.1 7 (cwc7 C A u178) rfl 3 (by decide) (hts _ (uc_in _ q_f175)) (fun _ h9 => h9) rfl dX9_sure_47 ?_
            refine lv_iload_n hx hb dX9_sure_50 rfl (lv_at hl 2 rfl) ?_
            refine va_iald hx hb hK hH.1 38 1 (cwc38 C A u178) rfl (i_ix ha0 (by omega) (by omega)) dX9_sure_51 ?_
            refine p_any (fun z182 => ?_)
            refine lv_aload_n hx hb dX9_sure_52 rfl (lv_at hl 1 rfl) ?_
            refine va_get (ci := 9) (v := .ref (A 2)) (C := RX9) (T := TX9) (N := 12) hx hb hts (fun w h => uc_in w (inX9 w h)) hown hK hH.1 0 (cwc0 C A u178) rfl 1 (by decide) (hts _ (uc_in _ q_f384)) (fun _ h9 => h9) rfl dX9_sure_53 ?_
            refine va_get (ci := 7) (v := .int (gi u178 11)) (C := RX7) (T := TX7) (N := 16) hx hb hts (fun w h => uc_in w (inX7 w h)) hown hK hH.1 2 (cwc2 C A u178) rfl 3 (by decide) (hts _ (uc_in _ q_f80)) (fun _ h9 => h9) rfl dX9_sure_56 ?_
            refine lv_iload_n hx hb dX9_sure_59 rfl (lv_at hl 0 rfl) ?_
            refine cvU (n := 4) (As := [.ref (A (52 + k181)), .int z182, .int (gi u178 11), .int y177d]) (rest := []) ⟨hx, hb, hml, hown, hts⟩ uc_in (kX4_weigh_0 l D C A u178 hI k181 (by omega) z182 z182.toInt rfl (gi u178 11) (((gi u178 11)).toInt) rfl y177d y177d.toInt rfl _) q_m1056 q_n1057 q_e1058 q_i10 q_c1059 hvX4_weigh ⟨(Nat.le_of_ble_eq_true rfl), (Nat.le_of_ble_eq_true rfl)⟩ ⟨(Nat.le_of_ble_eq_true rfl), (Nat.le_of_ble_eq_true rfl)⟩ hK hH (fun q h => Or.inr h) Bl0 (fun _ _ _ => trivial) 4 16 rfl (cwc16 C A u178) rfl hl.1 rfl (Nat.le_of_ble_eq_true rfl) dX9_sure_60 (fun u183 H locs p185 hH => ?_)
            obtain ⟨hI, hUu183, p185⟩ := p185
            refine lv_bipush (v := 100) hx hb dX9_sure_63 (by decide) ?_
            refine lv_aload_n hx hb dX9_sure_65 rfl (lv_at hl 1 rfl) ?_
            refine va_get (ci := 9) (v := .ref (A 16)) (C := RX9) (T := TX9) (N := 12) hx hb hts (fun w h => uc_in w (inX9 w h)) hown hK hH.1 0 (cwc0 C A u183) rfl 11 (by decide) (hts _ (uc_in _ q_f394)) (fun _ h9 => h9) rfl dX9_sure_66 ?_
            refine va_get (ci := 4) (v := .int (gi u183 77)) (C := RX4) (T := TX4) (N := 4) hx hb hts (fun w h => uc_in w (inX4 w h)) hown hK hH.1 16 (cwc16 C A u183) rfl 0 (by decide) (hts _ (uc_in _ q_f368)) (fun _ h9 => h9) rfl dX9_sure_69 ?_
            refine lv_imul hx hb dX9_sure_72 ?_
            refine p_any (fun z186 => ?_)
            refine lv_iload_n hx hb dX9_sure_73 rfl (lv_at hl 3 rfl) ?_
            refine lv_aload_n hx hb dX9_sure_74 rfl (lv_at hl 1 rfl) ?_
            refine va_get (ci := 9) (v := .ref (A 16)) (C := RX9) (T := TX9) (N := 12) hx hb hts (fun w h => uc_in w (inX9 w h)) hown hK hH.1 0 (cwc0 C A u183) rfl 11 (by decide) (hts _ (uc_in _ q_f394)) (fun _ h9 => h9) rfl dX9_sure_75 ?_
            refine va_get (ci := 4) (v := .int (gi u183 78)) (C := RX4) (T := TX4) (N := 4) hx hb hts (fun w h => uc_in w (inX4 w h)) hown hK hH.1 16 (cwc16 C A u183) rfl 1 (by decide) (hts _ (uc_in _ q_f370)) (fun _ h9 => h9) rfl dX9_sure_78 ?_
            refine lv_imul hx hb dX9_sure_81 ?_
            refine p_any (fun z187 => ?_)
            refine lv_icmp_lt (tgt := 87) hx hb dX9_sure_82 (by decide) (fun c188 => ?_) (fun c188 => ?_)
            · have c188 := cLT (x := z186) (y := z187) (X := z186.toInt) (Y := z187.toInt) rfl rfl c188
              obtain ⟨z189, ez189⟩ : ∃ z, z = y177d + Int32.ofInt 1 := ⟨_, rfl⟩
              have hz189 : z189.toInt = y177d.toInt + 1 := by rw [ez189]; exact tt_add rfl (by decide) (by omega) (by omega)
              refine lv_iinc (v := z189) (lv' := [(3, .int z189), (0, .ref (A 0)), (1, .int a0), (2, .int a1)]) hx hb dX9_sure_87 hl (k := 0) rfl ez189.symm (by decide) rfl (fun ls hl => ?_)
              refine lv_goto (tgt := 23) hx hb dX9_sure_90 (by decide) ?_
              exact ih23_178 ls z189 u183 _ _ (by have q9 := (show z189.toInt = (y177d.toInt + 1) from hz189); omega) (by have q9 := (show z189.toInt = (y177d.toInt + 1) from hz189); omega) (by have q9 := (show z189.toInt = (y177d.toInt + 1) from hz189); omega) (Un.tr hUu178 hUu183 rfl rfl rfl) hI hH hl
            · have c188 := cNLT (x := z186) (y := z187) (X := z186.toInt) (Y := z187.toInt) rfl rfl c188
              refine lv_iload_n hx hb dX9_sure_85 rfl (lv_at hl 0 rfl) ?_
              exact hret _ _ _ _ y177d _ dX9_sure_86 rfl ⟨hI, (Un.tr (Un.tr Un.rf hUu178 rfl rfl rfl) hUu183 rfl rfl rfl), ⟨by omega, by omega⟩⟩ hH
      exact lp23_178 602 ls 0 u _ _ (by decide) (by decide) (by have q9 : (0 : Int32).toInt = 0 := (by decide); omega) Un.rf hI hH hl
    · subst e9
      refine lv_if_ne (tgt := 21) hx hb dX9_sure_15 (by decide) (fun c190 => absurd c190 (by decide)) (fun c190 => ?_)
      refine lv_bipush (v := (-2)) hx hb dX9_sure_18 (by decide) ?_
      exact hret _ _ _ _ ((-2) : Int32) _ dX9_sure_20 rfl ⟨hI, Un.rf, ⟨by decide, by decide⟩⟩ hH
  · subst e9
    refine lv_if_eq (tgt := 18) hx hb dX9_sure_5 (by decide) (fun c191 => ?_) (fun c191 => absurd c191 (by decide))
    refine lv_bipush (v := (-2)) hx hb dX9_sure_18 (by decide) ?_
    exact hret _ _ _ _ ((-2) : Int32) _ dX9_sure_20 rfl ⟨hI, Un.rf, ⟨by decide, by decide⟩⟩ hH
set_option maxHeartbeats 4000000 in
set_option maxRecDepth 100000 in
theorem kX9_surely_0 (l : Launch) (D : va_G) (C : Nat → ClassId) (A : Nat → Nat) (u : St) (hI : IC u) (a0 : Int32) (A0 : Int) (ha0 : a0.toInt = A0) (sz : Nat) : MetI l yX9_surely cX9_surely 3 (some .int) 6 [.ref (A 0), .int a0] D (tyl C) (cw C A) X0 u sz (fun r u' => IC u' ∧ Un [(71, 71), (72, 72), (73, 73), (76, 76)] [(50, 50), (51, 51), (82, 82)] [] u u' ∧ (True)) := by
  refine mI (by decide) (Nat.le_of_ble_eq_true rfl) ?_
  intro p e s m below meth c ls ar Q hx hb hml hown hts hK hH hX hl hret
  have hown : s.vm.findClass RX9 = some m.cls := hown
  have hl : lv_has ls 3 [(0, .ref (A 0)), (1, .int a0)] := hl
  refine lv_aload_n hx hb dX9_surely_0 rfl (lv_at hl 0 rfl) ?_
  refine lv_iload_n hx hb dX9_surely_1 rfl (lv_at hl 1 rfl) ?_
  refine cvI (n := 1) (As := [.int a0]) (rest := []) ⟨hx, hb, hml, hown, hts⟩ uc_in (kX9_seekAway_0 l D C A u hI a0 A0 ha0 _) q_m987 q_n989 q_p40 q_i1 q_c990 hvX9_seekAway ⟨(Nat.le_of_ble_eq_true rfl), (Nat.le_of_ble_eq_true rfl)⟩ ⟨(Nat.le_of_ble_eq_true rfl), (Nat.le_of_ble_eq_true rfl)⟩ hK hH (fun q h => Or.inr h) Bl0 (fun _ _ _ => trivial) 9 0 rfl (cwc0 C A u) rfl hl.1 rfl (Nat.le_of_ble_eq_true rfl) dX9_surely_2 (fun r2 u1 H locs p3 hH => ?_)
  obtain ⟨hI, hUu1, p3⟩ := p3
  have p3 : (-6) ≤ r2.toInt ∧ r2.toInt ≤ 0 := p3
  refine lv_istore_n (lv' := [(2, .int r2), (0, .ref (A 0)), (1, .int a0)]) hx hb dX9_surely_5 rfl hl (by decide) rfl (fun ls hl => ?_)
  refine lv_iload_n hx hb dX9_surely_6 rfl (lv_at hl 0 rfl) ?_
  refine lv_if_ne (tgt := 20) hx hb dX9_surely_7 (by decide) (fun c4 => ?_) (fun c4 => ?_)
  · have c4 := cNE (x := r2) (y := 0) (X := r2.toInt) (Y := 0) rfl (by decide) c4
    refine lv_iload_n hx hb dX9_surely_20 rfl (lv_at hl 0 rfl) ?_
    exact hret _ _ _ _ r2 _ dX9_surely_21 rfl ⟨hI, (Un.tr Un.rf hUu1 rfl rfl rfl), trivial⟩ hH
  · have c4 := cEQ (x := r2) (y := 0) (X := r2.toInt) (Y := 0) rfl (by decide) c4
    refine lv_aload_n hx hb dX9_surely_10 rfl (lv_at hl 1 rfl) ?_
    refine va_get (ci := 9) (v := .ref (A 15)) (C := RX9) (T := TX9) (N := 12) hx hb hts (fun w h => uc_in w (inX9 w h)) hown hK hH.1 0 (cwc0 C A u1) rfl 10 (by decide) (hts _ (uc_in _ q_f393)) (fun _ h9 => h9) rfl dX9_surely_11 ?_
    refine va_get (ci := 8) (v := .int (gi u1 73)) (C := RX8) (T := TX8) (N := 9) hx hb hts (fun w h => uc_in w (inX8 w h)) hown hK hH.1 15 (cwc15 C A u1) rfl 2 (by decide) (hts _ (uc_in _ q_f333)) (fun _ h9 => h9) rfl dX9_surely_14 ?_
    refine lv_goto (tgt := 21) hx hb dX9_surely_17 (by decide) ?_
    exact hret _ _ _ _ (gi u1 73) _ dX9_surely_21 rfl ⟨hI, (Un.tr Un.rf hUu1 rfl rfl rfl), trivial⟩ hH
set_option maxHeartbeats 4000000 in
set_option maxRecDepth 100000 in
theorem kX9_tolls_0 (l : Launch) (D : va_G) (C : Nat → ClassId) (A : Nat → Nat) (u : St) (hI : IC u) (a0 : Int32) (A0 : Int) (ha0 : a0.toInt = A0) : Met l yX9_tolls (uc yX9_tolls cX9_tolls 5 (some .int)) (rmL 4 0 0) (va_Pc [.ref (A 0), .int a0] (PreR D (tyl C) (cw C A u))) (vp_Si (fun r => True)) 0 0 (fun _ => False) := by
  refine mS (by decide) (Nat.le_of_ble_eq_true rfl) ?_
  intro p e s m below meth c ls ar Q hx hb hml hown hts hK hP hl hret
  have hown : s.vm.findClass RX9 = some m.cls := hown
  have hl : lv_has ls 5 [(0, .ref (A 0)), (1, .int a0)] := hl
  refine lv_aload_n hx hb dX9_tolls_0 rfl (lv_at hl 0 rfl) ?_
  refine lv_iload_n hx hb dX9_tolls_1 rfl (lv_at hl 1 rfl) ?_
  refine cvS (n := 1) (As := [.int a0]) (rest := []) ⟨hx, hb, hml, hown, hts⟩ uc_in (kX9_isDay_0 l D C A u hI a0 A0 ha0) q_m597 q_n599 q_p12 q_i1 q_c600 hvX9_isDay ⟨(Nat.le_of_ble_eq_true rfl), (Nat.le_of_ble_eq_true rfl)⟩ ⟨(Nat.le_of_ble_eq_true rfl), (Nat.le_of_ble_eq_true rfl)⟩ hK hP 9 0 rfl (cwc0 C A u) rfl hl.1 rfl (Nat.le_of_ble_eq_true rfl) dX9_tolls_2 (fun r1 p2 => ?_)
  rcases p2 with ⟨e9, f3, f4⟩ | e9
  · subst e9
    have b6 := hI.b48
    refine lv_if_ne (tgt := 11) hx hb dX9_tolls_5 (by decide) (fun c7 => ?_) (fun c7 => absurd c7 (by decide))
    refine lv_iconst (v := 0) hx hb dX9_tolls_11 (by decide) ?_
    refine lv_istore_n (lv' := [(2, .int 0), (0, .ref (A 0)), (1, .int a0)]) hx hb dX9_tolls_12 rfl hl (by decide) rfl (fun ls hl => ?_)
    refine lv_iconst (v := 0) hx hb dX9_tolls_13 (by decide) ?_
    refine lv_istore_n (lv' := [(3, .int 0), (2, .int 0), (0, .ref (A 0)), (1, .int a0)]) hx hb dX9_tolls_14 rfl hl (by decide) rfl (fun ls hl => ?_)
    have lp15_248 : ∀ (n15 : Nat) (ls : Array Slot) (y247d : Int32) (y248d : Int32), 0 ≤ y247d.toInt → y247d.toInt ≤ 6 → 6 - y247d.toInt < (n15 : Int) → lv_has ls 5 [(3, .int y247d), (2, .int y248d), (0, .ref (A 0)), (1, .int a0)] → W p l e (rmL 4 0 0) s m ar below meth c s.heap [] 0 0 Q (F0 m 15 ls []) := by
      intro n15
      induction n15 with
      | zero => intro ls y247d y248d ly247d my247d hmun15 hl; exfalso; omega
      | succ n15 ih15_248 =>
        intro ls y247d y248d ly247d my247d hmun15 hl
        refine lv_iload_n hx hb dX9_tolls_15 rfl (lv_at hl 0 rfl) ?_
        refine lv_bipush (v := 6) hx hb dX9_tolls_16 (by decide) ?_
        refine lv_icmp_ge (tgt := 64) hx hb dX9_tolls_18 (by decide) (fun c250 => ?_) (fun c250 => ?_)
        · have c250 := cLE (x := 6) (y := y247d) (X := 6) (Y := y247d.toInt) (by decide) rfl c250
          refine lv_iload_n hx hb dX9_tolls_64 rfl (lv_at hl 1 rfl) ?_
          exact hret _ _ y248d dX9_tolls_65 rfl trivial
        · have c250 := cNLE (x := 6) (y := y247d) (X := 6) (Y := y247d.toInt) (by decide) rfl c250
          refine lv_iconst (v := 1) hx hb dX9_tolls_21 (by decide) ?_
          refine lv_iload_n hx hb dX9_tolls_22 rfl (lv_at hl 0 rfl) ?_
          refine lv_ishl hx hb dX9_tolls_23 ?_
          have gz251 := tt_shl1 (y := y247d) (Y := y247d.toInt) rfl (by omega) (by omega)
          refine p_bd (P := fun q => 1 ≤ q ∧ q ≤ 32) ⟨by omega, by omega⟩ (fun z252 bz252 => ?_)
          have bz252 : 1 ≤ z252.toInt ∧ z252.toInt ≤ 32 := bz252
          refine lv_iconst (v := 1) hx hb dX9_tolls_24 (by decide) ?_
          refine lv_isub hx hb dX9_tolls_25 ?_
          refine p_nm (tt_sub (X := z252.toInt) (Y := 1) rfl (by decide) (by omega) (by omega)) (fun z253 hz253 => ?_)
          refine lv_istore (lv' := [(4, .int z253), (3, .int y247d), (2, .int y248d), (0, .ref (A 0)), (1, .int a0)]) hx hb dX9_tolls_26 hl (by decide) rfl (fun ls hl => ?_)
          refine lv_aload_n hx hb dX9_tolls_28 rfl (lv_at hl 3 rfl) ?_
          refine va_get (ci := 9) (v := .ref (A 7)) (C := RX9) (T := TX9) (N := 12) hx hb hts (fun w h => uc_in w (inX9 w h)) hown hK hP 0 (cwc0 C A u) rfl 5 (by decide) (hts _ (uc_in _ q_f388)) (fun _ h9 => h9) rfl dX9_tolls_29 ?_
          refine lv_iload_n hx hb dX9_tolls_32 rfl (lv_at hl 1 rfl) ?_
          refine lv_iload_n hx hb dX9_tolls_33 rfl (lv_at hl 4 rfl) ?_
          refine cvS (n := 2) (As := [.int y247d, .int a0]) (rest := []) ⟨hx, hb, hml, hown, hts⟩ uc_in (kX5_strikes_0 l D C A u hI y247d y247d.toInt rfl a0 A0 ha0 (by omega) (by omega) (by omega) (by omega)) q_m737 q_n738 q_e739 q_i4 q_c740 hvX5_strikes ⟨(Nat.le_of_ble_eq_true rfl), (Nat.le_of_ble_eq_true rfl)⟩ ⟨(Nat.le_of_ble_eq_true rfl), (Nat.le_of_ble_eq_true rfl)⟩ hK hP 5 7 rfl (cwc7 C A u) rfl hl.1 rfl (Nat.le_of_ble_eq_true rfl) dX9_tolls_34 (fun r254 p255 => ?_)
          have p255 : 0 ≤ r254.toInt ∧ r254.toInt ≤ 1 := p255
          have j58_265 : ∀ (ls : Array Slot) (y263d : Int32), lv_has ls 5 [(3, .int y247d), (2, .int y263d), (0, .ref (A 0)), (1, .int a0)] → W p l e (rmL 4 0 0) s m ar below meth c s.heap [] 0 0 Q (F0 m 58 ls []) := by
            intro ls y263d hl
            obtain ⟨z267, ez267⟩ : ∃ z, z = y247d + Int32.ofInt 1 := ⟨_, rfl⟩
            have hz267 : z267.toInt = y247d.toInt + 1 := by rw [ez267]; exact tt_add rfl (by decide) (by omega) (by omega)
            refine lv_iinc (v := z267) (lv' := [(3, .int z267), (2, .int y263d), (0, .ref (A 0)), (1, .int a0)]) hx hb dX9_tolls_58 hl (k := 0) rfl ez267.symm (by decide) rfl (fun ls hl => ?_)
            refine lv_goto (tgt := 15) hx hb dX9_tolls_61 (by decide) ?_
            exact ih15_248 ls z267 y263d (by have q9 := (show z267.toInt = (y247d.toInt + 1) from hz267); omega) (by have q9 := (show z267.toInt = (y247d.toInt + 1) from hz267); omega) (by have q9 := (show z267.toInt = (y247d.toInt + 1) from hz267); omega) hl
          refine lv_if_eq (tgt := 58) hx hb dX9_tolls_37 (by decide) (fun c256 => ?_) (fun c256 => ?_)
          · have c256 := cEQ (x := r254) (y := 0) (X := r254.toInt) (Y := 0) rfl (by decide) c256
            exact j58_265 ls y248d (lv_sub hl [1, 2, 3, 4] rfl)
          · have c256 := cNE (x := r254) (y := 0) (X := r254.toInt) (Y := 0) rfl (by decide) c256
            refine lv_aload_n hx hb dX9_tolls_40 rfl (lv_at hl 3 rfl) ?_
            refine va_get (ci := 9) (v := .ref (A 7)) (C := RX9) (T := TX9) (N := 12) hx hb hts (fun w h => uc_in w (inX9 w h)) hown hK hP 0 (cwc0 C A u) rfl 5 (by decide) (hts _ (uc_in _ q_f388)) (fun _ h9 => h9) rfl dX9_tolls_41 ?_
            refine lv_iload_n hx hb dX9_tolls_44 rfl (lv_at hl 1 rfl) ?_
            refine lv_iload_n hx hb dX9_tolls_45 rfl (lv_at hl 4 rfl) ?_
            refine cvS (n := 2) (As := [.int y247d, .int a0]) (rest := []) ⟨hx, hb, hml, hown, hts⟩ uc_in (kX5_together_0 l D C A u hI y247d y247d.toInt rfl a0 A0 ha0 (by omega) (by omega) (by omega) (by omega)) q_m741 q_n742 q_e743 q_i4 q_c744 hvX5_together ⟨(Nat.le_of_ble_eq_true rfl), (Nat.le_of_ble_eq_true rfl)⟩ ⟨(Nat.le_of_ble_eq_true rfl), (Nat.le_of_ble_eq_true rfl)⟩ hK hP 5 7 rfl (cwc7 C A u) rfl hl.1 rfl (Nat.le_of_ble_eq_true rfl) dX9_tolls_46 (fun r268 p269 => ?_)
            have p269 : 0 ≤ r268.toInt ∧ r268.toInt ≤ 63 := p269
            refine lv_iload hx hb dX9_tolls_49 (lv_at hl 0 rfl) ?_
            refine lv_iand hx hb dX9_tolls_51 ?_
            have gz270 := tt_andR (x := r268) (y := z253) (Y := (z252.toInt - 1)) hz253 (by omega)
            refine p_bd (P := fun q => 0 ≤ q ∧ q ≤ 31) ⟨by omega, by omega⟩ (fun z271 bz271 => ?_)
            have bz271 : 0 ≤ z271.toInt ∧ z271.toInt ≤ 31 := bz271
            refine lv_if_ne (tgt := 58) hx hb dX9_tolls_52 (by decide) (fun c272 => ?_) (fun c272 => ?_)
            · have c272 := cNE (x := z271) (y := 0) (X := z271.toInt) (Y := 0) rfl (by decide) c272
              exact j58_265 ls y248d (lv_sub hl [1, 2, 3, 4] rfl)
            · have c272 := cEQ (x := z271) (y := 0) (X := z271.toInt) (Y := 0) rfl (by decide) c272
              obtain ⟨z273, ez273⟩ : ∃ z, z = y248d + Int32.ofInt 1 := ⟨_, rfl⟩
              refine lv_iinc (v := z273) (lv' := [(2, .int z273), (4, .int z253), (3, .int y247d), (0, .ref (A 0)), (1, .int a0)]) hx hb dX9_tolls_55 hl (k := 2) rfl ez273.symm (by decide) rfl (fun ls hl => ?_)
              exact j58_265 ls z273 (lv_sub hl [2, 0, 3, 4] rfl)
    exact lp15_248 7 ls 0 0 (by decide) (by decide) (by have q9 : (0 : Int32).toInt = 0 := (by decide); omega) hl
  · subst e9
    refine lv_if_ne (tgt := 11) hx hb dX9_tolls_5 (by decide) (fun c274 => absurd c274 (by decide)) (fun c274 => ?_)
    refine lv_bipush (v := (-2)) hx hb dX9_tolls_8 (by decide) ?_
    exact hret _ _ ((-2) : Int32) dX9_tolls_10 rfl trivial
set_option maxHeartbeats 4000000 in
set_option maxRecDepth 100000 in
theorem kX9_under_0 (l : Launch) (D : va_G) (C : Nat → ClassId) (A : Nat → Nat) (u : St) (hI : IC u) (a0 : Int32) (A0 : Int) (ha0 : a0.toInt = A0) (sz : Nat) : MetI l yX9_under cX9_under 3 (some .int) 6 [.ref (A 0), .int a0] D (tyl C) (cw C A) X0 u sz (fun r u' => IC u' ∧ Un [(74, 74), (75, 75), (76, 76)] [(50, 50), (51, 51)] [] u u' ∧ (True)) := by
  refine mI (by decide) (Nat.le_of_ble_eq_true rfl) ?_
  intro p e s m below meth c ls ar Q hx hb hml hown hts hK hH hX hl hret
  have hown : s.vm.findClass RX9 = some m.cls := hown
  have hl : lv_has ls 3 [(0, .ref (A 0)), (1, .int a0)] := hl
  refine lv_aload_n hx hb dX9_under_0 rfl (lv_at hl 0 rfl) ?_
  refine lv_iload_n hx hb dX9_under_1 rfl (lv_at hl 1 rfl) ?_
  refine cvI (n := 1) (As := [.int a0]) (rest := []) ⟨hx, hb, hml, hown, hts⟩ uc_in (kX9_seekUnder_0 l D C A u hI a0 A0 ha0 _) q_m1036 q_n1038 q_p44 q_i1 q_c1039 hvX9_seekUnder ⟨(Nat.le_of_ble_eq_true rfl), (Nat.le_of_ble_eq_true rfl)⟩ ⟨(Nat.le_of_ble_eq_true rfl), (Nat.le_of_ble_eq_true rfl)⟩ hK hH (fun q h => Or.inr h) Bl0 (fun _ _ _ => trivial) 9 0 rfl (cwc0 C A u) rfl hl.1 rfl (Nat.le_of_ble_eq_true rfl) dX9_under_2 (fun r2 u1 H locs p3 hH => ?_)
  obtain ⟨hI, hUu1, p3⟩ := p3
  have p3 : (-6) ≤ r2.toInt ∧ r2.toInt ≤ 0 := p3
  refine lv_istore_n (lv' := [(2, .int r2), (0, .ref (A 0)), (1, .int a0)]) hx hb dX9_under_5 rfl hl (by decide) rfl (fun ls hl => ?_)
  refine lv_iload_n hx hb dX9_under_6 rfl (lv_at hl 0 rfl) ?_
  refine lv_if_ne (tgt := 20) hx hb dX9_under_7 (by decide) (fun c4 => ?_) (fun c4 => ?_)
  · have c4 := cNE (x := r2) (y := 0) (X := r2.toInt) (Y := 0) rfl (by decide) c4
    refine lv_iload_n hx hb dX9_under_20 rfl (lv_at hl 0 rfl) ?_
    exact hret _ _ _ _ r2 _ dX9_under_21 rfl ⟨hI, (Un.tr Un.rf hUu1 rfl rfl rfl), trivial⟩ hH
  · have c4 := cEQ (x := r2) (y := 0) (X := r2.toInt) (Y := 0) rfl (by decide) c4
    refine lv_aload_n hx hb dX9_under_10 rfl (lv_at hl 1 rfl) ?_
    refine va_get (ci := 9) (v := .ref (A 15)) (C := RX9) (T := TX9) (N := 12) hx hb hts (fun w h => uc_in w (inX9 w h)) hown hK hH.1 0 (cwc0 C A u1) rfl 10 (by decide) (hts _ (uc_in _ q_f393)) (fun _ h9 => h9) rfl dX9_under_11 ?_
    refine va_get (ci := 8) (v := .int (gi u1 74)) (C := RX8) (T := TX8) (N := 9) hx hb hts (fun w h => uc_in w (inX8 w h)) hown hK hH.1 15 (cwc15 C A u1) rfl 3 (by decide) (hts _ (uc_in _ q_f335)) (fun _ h9 => h9) rfl dX9_under_14 ?_
    refine lv_goto (tgt := 21) hx hb dX9_under_17 (by decide) ?_
    exact hret _ _ _ _ (gi u1 74) _ dX9_under_21 rfl ⟨hI, (Un.tr Un.rf hUu1 rfl rfl rfl), trivial⟩ hH
set_option maxHeartbeats 4000000 in
set_option maxRecDepth 100000 in
theorem kX9_undo_0 (l : Launch) (D : va_G) (C : Nat → ClassId) (A : Nat → Nat) (u : St) (hI : IC u) (sz : Nat) : MetI l yX9_undo cX9_undo 1 (some .int) 4 [.ref (A 0)] D (tyl C) (cw C A) X0 u sz (fun r u' => IC u' ∧ Un [(15, 15), (48, 48), (49, 49)] [(38, 38), (84, 90)] [] u u' ∧ ((-5) ≤ r.toInt ∧ r.toInt ≤ 39)) := by
  refine mI (by decide) (Nat.le_of_ble_eq_true rfl) ?_
  intro p e s m below meth c ls ar Q hx hb hml hown hts hK hH hX hl hret
  have hown : s.vm.findClass RX9 = some m.cls := hown
  have hl : lv_has ls 1 [(0, .ref (A 0))] := hl
  refine lv_aload_n hx hb dX9_undo_0 rfl (lv_at hl 0 rfl) ?_
  refine cvS (n := 0) (As := []) (rest := []) ⟨hx, hb, hml, hown, hts⟩ uc_in (kX9_hasTown_0 l D C A u hI ) q_m678 q_n680 q_p18 q_i1 q_c681 hvX9_hasTown ⟨(Nat.le_of_ble_eq_true rfl), (Nat.le_of_ble_eq_true rfl)⟩ ⟨(Nat.le_of_ble_eq_true rfl), (Nat.le_of_ble_eq_true rfl)⟩ hK hH.1 9 0 rfl (cwc0 C A u) rfl hl.1 rfl (Nat.le_of_ble_eq_true rfl) dX9_undo_1 (fun r1 p2 => ?_)
  have p2 : 0 ≤ r1.toInt ∧ r1.toInt ≤ 1 := p2
  refine lv_if_ne (tgt := 10) hx hb dX9_undo_4 (by decide) (fun c3 => ?_) (fun c3 => ?_)
  · have c3 := cNE (x := r1) (y := 0) (X := r1.toInt) (Y := 0) rfl (by decide) c3
    refine lv_aload_n hx hb dX9_undo_10 rfl (lv_at hl 0 rfl) ?_
    refine va_get (ci := 9) (v := .ref (A 2)) (C := RX9) (T := TX9) (N := 12) hx hb hts (fun w h => uc_in w (inX9 w h)) hown hK hH.1 0 (cwc0 C A u) rfl 1 (by decide) (hts _ (uc_in _ q_f384)) (fun _ h9 => h9) rfl dX9_undo_11 ?_
    refine va_get (ci := 7) (v := .int (gi u 15)) (C := RX7) (T := TX7) (N := 16) hx hb hts (fun w h => uc_in w (inX7 w h)) hown hK hH.1 2 (cwc2 C A u) rfl 7 (by decide) (hts _ (uc_in _ q_f94)) (fun _ h9 => h9) rfl dX9_undo_14 ?_
    have b4 := hI.b15
    refine lv_if_ne (tgt := 23) hx hb dX9_undo_17 (by decide) (fun c5 => ?_) (fun c5 => ?_)
    · have c5 := cNE (x := (gi u 15)) (y := 0) (X := ((gi u 15)).toInt) (Y := 0) rfl (by decide) c5
      refine lv_aload_n hx hb dX9_undo_23 rfl (lv_at hl 0 rfl) ?_
      refine va_get (ci := 9) (v := .ref (A 2)) (C := RX9) (T := TX9) (N := 12) hx hb hts (fun w h => uc_in w (inX9 w h)) hown hK hH.1 0 (cwc0 C A u) rfl 1 (by decide) (hts _ (uc_in _ q_f384)) (fun _ h9 => h9) rfl dX9_undo_24 ?_
      refine lv_dup hx hb dX9_undo_27 rfl ?_
      refine va_get (ci := 7) (v := .int (gi u 15)) (C := RX7) (T := TX7) (N := 16) hx hb hts (fun w h => uc_in w (inX7 w h)) hown hK hH.1 2 (cwc2 C A u) rfl 7 (by decide) (hts _ (uc_in _ q_f94)) (fun _ h9 => h9) rfl dX9_undo_28 ?_
      refine lv_iconst (v := 1) hx hb dX9_undo_31 (by decide) ?_
      refine lv_isub hx hb dX9_undo_32 ?_
      refine p_nm (tt_sub (X := ((gi u 15)).toInt) (Y := 1) rfl (by decide) (by omega) (by omega)) (fun z6 hz6 => ?_)
      refine r_put (j := 15) (ci := 7) (C := RX7) (T := TX7) (N := 16) hx hb hts (fun w h => uc_in w (inX7 w h)) tyX7 tyX7_ok nmX7 hown hK hH 2 (cwc2 C A u) rfl 7 (by decide) (hts _ (uc_in _ q_f94)) (fun _ h9 => h9) rfl (by decide +kernel) (Nat.le_of_ble_eq_true rfl) (cws15 C A u _) dX9_undo_33 (fun u7 eu7 H locs hH => ?_)
      have hI := hI.s15 eu7 hz6 (by omega) (by omega)
      refine lv_aload_n hx hb dX9_undo_36 rfl (lv_at hl 0 rfl) ?_
      refine va_get (ci := 9) (v := .ref (A 7)) (C := RX9) (T := TX9) (N := 12) hx hb hts (fun w h => uc_in w (inX9 w h)) hown hK hH.1 0 (cwc0 C A u7) rfl 5 (by decide) (hts _ (uc_in _ q_f388)) (fun _ h9 => h9) rfl dX9_undo_37 ?_
      refine lv_aload_n hx hb dX9_undo_40 rfl (lv_at hl 0 rfl) ?_
      refine va_get (ci := 9) (v := .ref (A 2)) (C := RX9) (T := TX9) (N := 12) hx hb hts (fun w h => uc_in w (inX9 w h)) hown hK hH.1 0 (cwc0 C A u7) rfl 1 (by decide) (hts _ (uc_in _ q_f384)) (fun _ h9 => h9) rfl dX9_undo_41 ?_
      refine cvU (n := 1) (As := [.ref (A 2)]) (rest := []) ⟨hx, hb, hml, hown, hts⟩ uc_in (kX5_settle_0 l D C A u7 hI  _) q_m563 q_n564 q_e565 q_i4 q_c566 hvX5_settle ⟨(Nat.le_of_ble_eq_true rfl), (Nat.le_of_ble_eq_true rfl)⟩ ⟨(Nat.le_of_ble_eq_true rfl), (Nat.le_of_ble_eq_true rfl)⟩ hK hH (fun q h => Or.inr h) Bl0 (fun _ _ _ => trivial) 5 7 rfl (cwc7 C A u7) rfl hl.1 rfl (Nat.le_of_ble_eq_true rfl) dX9_undo_44 (fun u8 H locs p10 hH => ?_)
      obtain ⟨hI, hUu8, p10⟩ := p10
      refine lv_aload_n hx hb dX9_undo_47 rfl (lv_at hl 0 rfl) ?_
      refine va_get (ci := 9) (v := .ref (A 2)) (C := RX9) (T := TX9) (N := 12) hx hb hts (fun w h => uc_in w (inX9 w h)) hown hK hH.1 0 (cwc0 C A u8) rfl 1 (by decide) (hts _ (uc_in _ q_f384)) (fun _ h9 => h9) rfl dX9_undo_48 ?_
      refine va_get (ci := 7) (v := .int (gi u8 15)) (C := RX7) (T := TX7) (N := 16) hx hb hts (fun w h => uc_in w (inX7 w h)) hown hK hH.1 2 (cwc2 C A u8) rfl 7 (by decide) (hts _ (uc_in _ q_f94)) (fun _ h9 => h9) rfl dX9_undo_51 ?_
      refine pv_i (v := z6) ((hUu8.1 15 rfl).trans (gi_si eu7)) ?_
      exact hret _ _ _ _ z6 _ dX9_undo_54 rfl ⟨hI, (Un.tr (Un.si Un.rf rfl eu7) hUu8 rfl rfl rfl), ⟨by have q9 := (show z6.toInt = (((gi u 15)).toInt - 1) from hz6); omega, by have q9 := (show z6.toInt = (((gi u 15)).toInt - 1) from hz6); omega⟩⟩ hH
    · have c5 := cEQ (x := (gi u 15)) (y := 0) (X := ((gi u 15)).toInt) (Y := 0) rfl (by decide) c5
      refine lv_bipush (v := (-5)) hx hb dX9_undo_20 (by decide) ?_
      exact hret _ _ _ _ ((-5) : Int32) _ dX9_undo_22 rfl ⟨hI, Un.rf, ⟨by decide, by decide⟩⟩ hH
  · have c3 := cEQ (x := r1) (y := 0) (X := r1.toInt) (Y := 0) rfl (by decide) c3
    refine lv_bipush (v := (-2)) hx hb dX9_undo_7 (by decide) ?_
    exact hret _ _ _ _ ((-2) : Int32) _ dX9_undo_9 rfl ⟨hI, Un.rf, ⟨by decide, by decide⟩⟩ hH
set_option maxHeartbeats 4000000 in
set_option maxRecDepth 100000 in
theorem kX9_waits_0 (l : Launch) (D : va_G) (C : Nat → ClassId) (A : Nat → Nat) (u : St) (hI : IC u) : Met l yX9_waits (uc yX9_waits cX9_waits 1 (some .int)) (rmL 5 0 0) (va_Pc [.ref (A 0)] (PreR D (tyl C) (cw C A u))) (vp_Si (fun r => True)) 0 0 (fun _ => False) := by
  refine mS (by decide) (Nat.le_of_ble_eq_true rfl) ?_
  intro p e s m below meth c ls ar Q hx hb hml hown hts hK hP hl hret
  have hown : s.vm.findClass RX9 = some m.cls := hown
  have hl : lv_has ls 1 [(0, .ref (A 0))] := hl
  refine lv_aload_n hx hb dX9_waits_0 rfl (lv_at hl 0 rfl) ?_
  refine cvS (n := 0) (As := []) (rest := []) ⟨hx, hb, hml, hown, hts⟩ uc_in (kX9_hasTown_0 l D C A u hI ) q_m678 q_n680 q_p18 q_i1 q_c681 hvX9_hasTown ⟨(Nat.le_of_ble_eq_true rfl), (Nat.le_of_ble_eq_true rfl)⟩ ⟨(Nat.le_of_ble_eq_true rfl), (Nat.le_of_ble_eq_true rfl)⟩ hK hP 9 0 rfl (cwc0 C A u) rfl hl.1 rfl (Nat.le_of_ble_eq_true rfl) dX9_waits_1 (fun r1 p2 => ?_)
  have p2 : 0 ≤ r1.toInt ∧ r1.toInt ≤ 1 := p2
  refine lv_if_eq (tgt := 15) hx hb dX9_waits_4 (by decide) (fun c3 => ?_) (fun c3 => ?_)
  · have c3 := cEQ (x := r1) (y := 0) (X := r1.toInt) (Y := 0) rfl (by decide) c3
    refine lv_bipush (v := (-2)) hx hb dX9_waits_15 (by decide) ?_
    exact hret _ _ ((-2) : Int32) dX9_waits_17 rfl trivial
  · have c3 := cNE (x := r1) (y := 0) (X := r1.toInt) (Y := 0) rfl (by decide) c3
    refine lv_aload_n hx hb dX9_waits_7 rfl (lv_at hl 0 rfl) ?_
    refine lv_iconst (v := 0) hx hb dX9_waits_8 (by decide) ?_
    refine cvS (n := 1) (As := [.int 0]) (rest := []) ⟨hx, hb, hml, hown, hts⟩ uc_in (kX9_waitWithout_0 l D C A u hI (0) 0 (by decide)) q_m682 q_n684 q_p19 q_i1 q_c685 hvX9_waitWithout ⟨(Nat.le_of_ble_eq_true rfl), (Nat.le_of_ble_eq_true rfl)⟩ ⟨(Nat.le_of_ble_eq_true rfl), (Nat.le_of_ble_eq_true rfl)⟩ hK hP 9 0 rfl (cwc0 C A u) rfl hl.1 rfl (Nat.le_of_ble_eq_true rfl) dX9_waits_9 (fun r4 p5 => ?_)
    refine lv_goto (tgt := 17) hx hb dX9_waits_12 (by decide) ?_
    exact hret _ _ r4 dX9_waits_17 rfl trivial
set_option maxHeartbeats 4000000 in
set_option maxRecDepth 100000 in
theorem kX9_watch_0 (l : Launch) (D : va_G) (C : Nat → ClassId) (A : Nat → Nat) (u : St) (hI : IC u) (a0 : Int32) (A0 : Int) (ha0 : a0.toInt = A0) : Met l yX9_watch (uc yX9_watch cX9_watch 4 (some .int)) (rmL 4 0 0) (va_Pc [.ref (A 0), .int a0] (PreR D (tyl C) (cw C A u))) (vp_Si (fun r => True)) 0 0 (fun _ => False) := by
  refine mS (by decide) (Nat.le_of_ble_eq_true rfl) ?_
  intro p e s m below meth c ls ar Q hx hb hml hown hts hK hP hl hret
  have hown : s.vm.findClass RX9 = some m.cls := hown
  have hl : lv_has ls 4 [(0, .ref (A 0)), (1, .int a0)] := hl
  refine lv_iload_n hx hb dX9_watch_0 rfl (lv_at hl 1 rfl) ?_
  refine csS (n := 1) (As := [.int a0]) (rest := []) ⟨hx, hb, hml, hown, hts⟩ uc_in (kX9_isMinute_0 l D C A u hI a0 A0 ha0) q_m762 q_s763 q_i1 q_c764 hvX9_isMinute ⟨(Nat.le_of_ble_eq_true rfl), (Nat.le_of_ble_eq_true rfl)⟩ ⟨(Nat.le_of_ble_eq_true rfl), (Nat.le_of_ble_eq_true rfl)⟩ hK hP rfl hl.1 rfl (Nat.le_of_ble_eq_true rfl) dX9_watch_1 (fun r1 p2 => ?_)
  rcases p2 with ⟨e9, f3, f4⟩ | e9
  · subst e9
    refine lv_if_eq (tgt := 14) hx hb dX9_watch_4 (by decide) (fun c5 => absurd c5 (by decide)) (fun c5 => ?_)
    refine lv_aload_n hx hb dX9_watch_7 rfl (lv_at hl 0 rfl) ?_
    refine cvS (n := 0) (As := []) (rest := []) ⟨hx, hb, hml, hown, hts⟩ uc_in (kX9_hasTown_0 l D C A u hI ) q_m678 q_n680 q_p18 q_i1 q_c681 hvX9_hasTown ⟨(Nat.le_of_ble_eq_true rfl), (Nat.le_of_ble_eq_true rfl)⟩ ⟨(Nat.le_of_ble_eq_true rfl), (Nat.le_of_ble_eq_true rfl)⟩ hK hP 9 0 rfl (cwc0 C A u) rfl hl.1 rfl (Nat.le_of_ble_eq_true rfl) dX9_watch_8 (fun r6 p7 => ?_)
    have p7 : 0 ≤ r6.toInt ∧ r6.toInt ≤ 1 := p7
    refine lv_if_ne (tgt := 17) hx hb dX9_watch_11 (by decide) (fun c8 => ?_) (fun c8 => ?_)
    · have c8 := cNE (x := r6) (y := 0) (X := r6.toInt) (Y := 0) rfl (by decide) c8
      refine lv_iconst (v := 0) hx hb dX9_watch_17 (by decide) ?_
      refine lv_istore_n (lv' := [(2, .int 0), (0, .ref (A 0)), (1, .int a0)]) hx hb dX9_watch_18 rfl hl (by decide) rfl (fun ls hl => ?_)
      refine lv_iconst (v := 0) hx hb dX9_watch_19 (by decide) ?_
      refine lv_istore_n (lv' := [(3, .int 0), (2, .int 0), (0, .ref (A 0)), (1, .int a0)]) hx hb dX9_watch_20 rfl hl (by decide) rfl (fun ls hl => ?_)
      have lp21_121 : ∀ (n21 : Nat) (ls : Array Slot) (y120d : Int32) (y121d : Int32), 0 ≤ y120d.toInt → y120d.toInt ≤ 7 → 7 - y120d.toInt < (n21 : Int) → lv_has ls 4 [(3, .int y120d), (2, .int y121d), (0, .ref (A 0)), (1, .int a0)] → W p l e (rmL 4 0 0) s m ar below meth c s.heap [] 0 0 Q (F0 m 21 ls []) := by
        intro n21
        induction n21 with
        | zero => intro ls y120d y121d ly120d my120d hmun21 hl; exfalso; omega
        | succ n21 ih21_121 =>
          intro ls y120d y121d ly120d my120d hmun21 hl
          refine lv_iload_n hx hb dX9_watch_21 rfl (lv_at hl 0 rfl) ?_
          refine lv_aload_n hx hb dX9_watch_22 rfl (lv_at hl 2 rfl) ?_
          refine va_get (ci := 9) (v := .ref (A 7)) (C := RX9) (T := TX9) (N := 12) hx hb hts (fun w h => uc_in w (inX9 w h)) hown hK hP 0 (cwc0 C A u) rfl 5 (by decide) (hts _ (uc_in _ q_f388)) (fun _ h9 => h9) rfl dX9_watch_23 ?_
          refine va_get (ci := 5) (v := .int (gi u 48)) (C := RX5) (T := TX5) (N := 4) hx hb hts (fun w h => uc_in w (inX5 w h)) hown hK hP 7 (cwc7 C A u) rfl 0 (by decide) (hts _ (uc_in _ q_f164)) (fun _ h9 => h9) rfl dX9_watch_26 ?_
          have b123 := hI.b48
          refine lv_icmp_ge (tgt := 53) hx hb dX9_watch_29 (by decide) (fun c124 => ?_) (fun c124 => ?_)
          · have c124 := cLE (x := (gi u 48)) (y := y120d) (X := ((gi u 48)).toInt) (Y := y120d.toInt) rfl rfl c124
            refine lv_iload_n hx hb dX9_watch_53 rfl (lv_at hl 1 rfl) ?_
            exact hret _ _ y121d dX9_watch_54 rfl trivial
          · have c124 := cNLE (x := (gi u 48)) (y := y120d) (X := ((gi u 48)).toInt) (Y := y120d.toInt) rfl rfl c124
            refine lv_aload_n hx hb dX9_watch_32 rfl (lv_at hl 2 rfl) ?_
            refine lv_iload_n hx hb dX9_watch_33 rfl (lv_at hl 0 rfl) ?_
            refine cvS (n := 1) (As := [.int y120d]) (rest := []) ⟨hx, hb, hml, hown, hts⟩ uc_in (kX9_noonOn_0 l D C A u hI y120d y120d.toInt rfl (by omega) (by omega)) q_m605 q_n607 q_p13 q_i1 q_c608 hvX9_noonOn ⟨(Nat.le_of_ble_eq_true rfl), (Nat.le_of_ble_eq_true rfl)⟩ ⟨(Nat.le_of_ble_eq_true rfl), (Nat.le_of_ble_eq_true rfl)⟩ hK hP 9 0 rfl (cwc0 C A u) rfl hl.1 rfl (Nat.le_of_ble_eq_true rfl) dX9_watch_34 (fun r125 p126 => ?_)
            refine lv_iload_n hx hb dX9_watch_37 rfl (lv_at hl 3 rfl) ?_
            have j47_133 : ∀ (ls : Array Slot) (y131d : Int32), lv_has ls 4 [(3, .int y120d), (2, .int y131d), (0, .ref (A 0)), (1, .int a0)] → W p l e (rmL 4 0 0) s m ar below meth c s.heap [] 0 0 Q (F0 m 47 ls []) := by
              intro ls y131d hl
              obtain ⟨z135, ez135⟩ : ∃ z, z = y120d + Int32.ofInt 1 := ⟨_, rfl⟩
              have hz135 : z135.toInt = y120d.toInt + 1 := by rw [ez135]; exact tt_add rfl (by decide) (by omega) (by omega)
              refine lv_iinc (v := z135) (lv' := [(3, .int z135), (2, .int y131d), (0, .ref (A 0)), (1, .int a0)]) hx hb dX9_watch_47 hl (k := 0) rfl ez135.symm (by decide) rfl (fun ls hl => ?_)
              refine lv_goto (tgt := 21) hx hb dX9_watch_50 (by decide) ?_
              exact ih21_121 ls z135 y131d (by have q9 := (show z135.toInt = (y120d.toInt + 1) from hz135); omega) (by have q9 := (show z135.toInt = (y120d.toInt + 1) from hz135); omega) (by have q9 := (show z135.toInt = (y120d.toInt + 1) from hz135); omega) hl
            refine lv_icmp_gt (tgt := 47) hx hb dX9_watch_38 (by decide) (fun c127 => ?_) (fun c127 => ?_)
            · have c127 := cLT (x := a0) (y := r125) (X := A0) (Y := r125.toInt) ha0 rfl c127
              exact j47_133 ls y121d hl
            · have c127 := cNLT (x := a0) (y := r125) (X := A0) (Y := r125.toInt) ha0 rfl c127
              refine lv_iload_n hx hb dX9_watch_41 rfl (lv_at hl 1 rfl) ?_
              refine lv_iconst (v := 1) hx hb dX9_watch_42 (by decide) ?_
              refine lv_iload_n hx hb dX9_watch_43 rfl (lv_at hl 0 rfl) ?_
              refine lv_ishl hx hb dX9_watch_44 ?_
              have gz136 := tt_shl1 (y := y120d) (Y := y120d.toInt) rfl (by omega) (by omega)
              refine p_bd (P := fun q => 1 ≤ q ∧ q ≤ 64) ⟨by omega, by omega⟩ (fun z137 bz137 => ?_)
              have bz137 : 1 ≤ z137.toInt ∧ z137.toInt ≤ 64 := bz137
              refine lv_ior hx hb dX9_watch_45 ?_
              refine p_any (fun z138 => ?_)
              refine lv_istore_n (lv' := [(2, .int z138), (3, .int y120d), (0, .ref (A 0)), (1, .int a0)]) hx hb dX9_watch_46 rfl hl (by decide) rfl (fun ls hl => ?_)
              exact j47_133 ls z138 (lv_sub hl [1, 0, 2, 3] rfl)
      exact lp21_121 8 ls 0 0 (by decide) (by decide) (by have q9 : (0 : Int32).toInt = 0 := (by decide); omega) hl
    · have c8 := cEQ (x := r6) (y := 0) (X := r6.toInt) (Y := 0) rfl (by decide) c8
      refine lv_bipush (v := (-2)) hx hb dX9_watch_14 (by decide) ?_
      exact hret _ _ ((-2) : Int32) dX9_watch_16 rfl trivial
  · subst e9
    refine lv_if_eq (tgt := 14) hx hb dX9_watch_4 (by decide) (fun c139 => ?_) (fun c139 => absurd c139 (by decide))
    refine lv_bipush (v := (-2)) hx hb dX9_watch_14 (by decide) ?_
    exact hret _ _ ((-2) : Int32) dX9_watch_16 rfl trivial
set_option maxHeartbeats 4000000 in
set_option maxRecDepth 100000 in
theorem kX9_without_0 (l : Launch) (D : va_G) (C : Nat → ClassId) (A : Nat → Nat) (u : St) (hI : IC u) (a0 : Int32) (A0 : Int) (ha0 : a0.toInt = A0) : Met l yX9_without (uc yX9_without cX9_without 2 (some .int)) (rmL 5 0 0) (va_Pc [.ref (A 0), .int a0] (PreR D (tyl C) (cw C A u))) (vp_Si (fun r => True)) 0 0 (fun _ => False) := by
  refine mS (by decide) (Nat.le_of_ble_eq_true rfl) ?_
  intro p e s m below meth c ls ar Q hx hb hml hown hts hK hP hl hret
  have hown : s.vm.findClass RX9 = some m.cls := hown
  have hl : lv_has ls 2 [(0, .ref (A 0)), (1, .int a0)] := hl
  refine lv_aload_n hx hb dX9_without_0 rfl (lv_at hl 0 rfl) ?_
  refine lv_iload_n hx hb dX9_without_1 rfl (lv_at hl 1 rfl) ?_
  refine cvS (n := 1) (As := [.int a0]) (rest := []) ⟨hx, hb, hml, hown, hts⟩ uc_in (kX9_isClock_0 l D C A u hI a0 A0 ha0) q_m589 q_n591 q_p11 q_i1 q_c592 hvX9_isClock ⟨(Nat.le_of_ble_eq_true rfl), (Nat.le_of_ble_eq_true rfl)⟩ ⟨(Nat.le_of_ble_eq_true rfl), (Nat.le_of_ble_eq_true rfl)⟩ hK hP 9 0 rfl (cwc0 C A u) rfl hl.1 rfl (Nat.le_of_ble_eq_true rfl) dX9_without_2 (fun r1 p2 => ?_)
  rcases p2 with ⟨e9, f3, f4⟩ | e9
  · subst e9
    have b6 := hI.b49
    refine lv_if_eq (tgt := 18) hx hb dX9_without_5 (by decide) (fun c7 => absurd c7 (by decide)) (fun c7 => ?_)
    refine lv_aload_n hx hb dX9_without_8 rfl (lv_at hl 0 rfl) ?_
    refine lv_iconst (v := 1) hx hb dX9_without_9 (by decide) ?_
    refine lv_iload_n hx hb dX9_without_10 rfl (lv_at hl 1 rfl) ?_
    refine lv_ishl hx hb dX9_without_11 ?_
    have gz8 := tt_shl1 (y := a0) (Y := A0) ha0 (by omega) (by omega)
    refine p_bd (P := fun q => 1 ≤ q ∧ q ≤ 32) ⟨by omega, by omega⟩ (fun z9 bz9 => ?_)
    have bz9 : 1 ≤ z9.toInt ∧ z9.toInt ≤ 32 := bz9
    refine cvS (n := 1) (As := [.int z9]) (rest := []) ⟨hx, hb, hml, hown, hts⟩ uc_in (kX9_waitWithout_0 l D C A u hI z9 z9.toInt rfl) q_m682 q_n684 q_p19 q_i1 q_c685 hvX9_waitWithout ⟨(Nat.le_of_ble_eq_true rfl), (Nat.le_of_ble_eq_true rfl)⟩ ⟨(Nat.le_of_ble_eq_true rfl), (Nat.le_of_ble_eq_true rfl)⟩ hK hP 9 0 rfl (cwc0 C A u) rfl hl.1 rfl (Nat.le_of_ble_eq_true rfl) dX9_without_12 (fun r10 p11 => ?_)
    refine lv_goto (tgt := 20) hx hb dX9_without_15 (by decide) ?_
    exact hret _ _ r10 dX9_without_20 rfl trivial
  · subst e9
    refine lv_if_eq (tgt := 18) hx hb dX9_without_5 (by decide) (fun c12 => ?_) (fun c12 => absurd c12 (by decide))
    refine lv_bipush (v := (-2)) hx hb dX9_without_18 (by decide) ?_
    exact hret _ _ ((-2) : Int32) dX9_without_20 rfl trivial
set_option maxHeartbeats 4000000 in
set_option maxRecDepth 100000 in
theorem kX9_worst_0 (l : Launch) (D : va_G) (C : Nat → ClassId) (A : Nat → Nat) (u : St) (hI : IC u) : Met l yX9_worst (uc yX9_worst cX9_worst 5 (some .int)) (rmL 4 0 0) (va_Pc [.ref (A 0)] (PreR D (tyl C) (cw C A u))) (vp_Si (fun r => (-2) ≤ r.toInt ∧ r.toInt ≤ 6)) 0 0 (fun _ => False) := by
  refine mS (by decide) (Nat.le_of_ble_eq_true rfl) ?_
  intro p e s m below meth c ls ar Q hx hb hml hown hts hK hP hl hret
  have hown : s.vm.findClass RX9 = some m.cls := hown
  have hl : lv_has ls 5 [(0, .ref (A 0))] := hl
  refine lv_aload_n hx hb dX9_worst_0 rfl (lv_at hl 0 rfl) ?_
  refine cvS (n := 0) (As := []) (rest := []) ⟨hx, hb, hml, hown, hts⟩ uc_in (kX9_hasTown_0 l D C A u hI ) q_m678 q_n680 q_p18 q_i1 q_c681 hvX9_hasTown ⟨(Nat.le_of_ble_eq_true rfl), (Nat.le_of_ble_eq_true rfl)⟩ ⟨(Nat.le_of_ble_eq_true rfl), (Nat.le_of_ble_eq_true rfl)⟩ hK hP 9 0 rfl (cwc0 C A u) rfl hl.1 rfl (Nat.le_of_ble_eq_true rfl) dX9_worst_1 (fun r1 p2 => ?_)
  have p2 : 0 ≤ r1.toInt ∧ r1.toInt ≤ 1 := p2
  refine lv_if_ne (tgt := 10) hx hb dX9_worst_4 (by decide) (fun c3 => ?_) (fun c3 => ?_)
  · have c3 := cNE (x := r1) (y := 0) (X := r1.toInt) (Y := 0) rfl (by decide) c3
    refine lv_iconst (v := (-1)) hx hb dX9_worst_10 (by decide) ?_
    refine lv_istore_n (lv' := [(1, .int (-1)), (0, .ref (A 0))]) hx hb dX9_worst_11 rfl hl (by decide) rfl (fun ls hl => ?_)
    refine lv_iconst (v := 0) hx hb dX9_worst_12 (by decide) ?_
    refine lv_istore_n (lv' := [(2, .int 0), (1, .int (-1)), (0, .ref (A 0))]) hx hb dX9_worst_13 rfl hl (by decide) rfl (fun ls hl => ?_)
    refine lv_iconst (v := 0) hx hb dX9_worst_14 (by decide) ?_
    refine lv_istore_n (lv' := [(3, .int 0), (2, .int 0), (1, .int (-1)), (0, .ref (A 0))]) hx hb dX9_worst_15 rfl hl (by decide) rfl (fun ls hl => ?_)
    have lp16_92 : ∀ (n16 : Nat) (ls : Array Slot) (y90d : Int32) (y91d : Int32) (y92d : Int32), 0 ≤ y90d.toInt → y90d.toInt ≤ 7 → 0 ≤ y91d.toInt → (-1) ≤ y92d.toInt → y92d.toInt ≤ 6 → 7 - y90d.toInt < (n16 : Int) → lv_has ls 5 [(3, .int y90d), (2, .int y91d), (1, .int y92d), (0, .ref (A 0))] → W p l e (rmL 4 0 0) s m ar below meth c s.heap [] 0 0 Q (F0 m 16 ls []) := by
      intro n16
      induction n16 with
      | zero => intro ls y90d y91d y92d ly90d my90d ly91d ly92d my92d hmun16 hl; exfalso; omega
      | succ n16 ih16_92 =>
        intro ls y90d y91d y92d ly90d my90d ly91d ly92d my92d hmun16 hl
        refine lv_iload_n hx hb dX9_worst_16 rfl (lv_at hl 0 rfl) ?_
        refine lv_aload_n hx hb dX9_worst_17 rfl (lv_at hl 3 rfl) ?_
        refine va_get (ci := 9) (v := .ref (A 7)) (C := RX9) (T := TX9) (N := 12) hx hb hts (fun w h => uc_in w (inX9 w h)) hown hK hP 0 (cwc0 C A u) rfl 5 (by decide) (hts _ (uc_in _ q_f388)) (fun _ h9 => h9) rfl dX9_worst_18 ?_
        refine va_get (ci := 5) (v := .int (gi u 48)) (C := RX5) (T := TX5) (N := 4) hx hb hts (fun w h => uc_in w (inX5 w h)) hown hK hP 7 (cwc7 C A u) rfl 0 (by decide) (hts _ (uc_in _ q_f164)) (fun _ h9 => h9) rfl dX9_worst_21 ?_
        have b94 := hI.b48
        refine lv_icmp_ge (tgt := 60) hx hb dX9_worst_24 (by decide) (fun c95 => ?_) (fun c95 => ?_)
        · have c95 := cLE (x := (gi u 48)) (y := y90d) (X := ((gi u 48)).toInt) (Y := y90d.toInt) rfl rfl c95
          refine lv_iload_n hx hb dX9_worst_60 rfl (lv_at hl 2 rfl) ?_
          exact hret _ _ y92d dX9_worst_61 rfl ⟨by omega, by omega⟩
        · have c95 := cNLE (x := (gi u 48)) (y := y90d) (X := ((gi u 48)).toInt) (Y := y90d.toInt) rfl rfl c95
          refine lv_aload_n hx hb dX9_worst_27 rfl (lv_at hl 3 rfl) ?_
          refine lv_iload_n hx hb dX9_worst_28 rfl (lv_at hl 0 rfl) ?_
          refine lv_aload_n hx hb dX9_worst_29 rfl (lv_at hl 3 rfl) ?_
          refine va_get (ci := 9) (v := .ref (A 7)) (C := RX9) (T := TX9) (N := 12) hx hb hts (fun w h => uc_in w (inX9 w h)) hown hK hP 0 (cwc0 C A u) rfl 5 (by decide) (hts _ (uc_in _ q_f388)) (fun _ h9 => h9) rfl dX9_worst_30 ?_
          refine va_get (ci := 5) (v := .ref (A 38)) (C := RX5) (T := TX5) (N := 4) hx hb hts (fun w h => uc_in w (inX5 w h)) hown hK hP 7 (cwc7 C A u) rfl 3 (by decide) (hts _ (uc_in _ q_f175)) (fun _ h9 => h9) rfl dX9_worst_33 ?_
          refine lv_iload_n hx hb dX9_worst_36 rfl (lv_at hl 0 rfl) ?_
          refine va_iald hx hb hK hP 38 1 (cwc38 C A u) rfl (i_ix rfl (by omega) (by omega)) dX9_worst_37 ?_
          refine p_any (fun z96 => ?_)
          refine cvS (n := 2) (As := [.int y90d, .int z96]) (rest := []) ⟨hx, hb, hml, hown, hts⟩ uc_in (kX9_waitOn_0 l D C A u hI y90d y90d.toInt rfl z96 z96.toInt rfl (by omega) (by omega)) q_m667 q_n669 q_p17 q_i1 q_c670 hvX9_waitOn ⟨(Nat.le_of_ble_eq_true rfl), (Nat.le_of_ble_eq_true rfl)⟩ ⟨(Nat.le_of_ble_eq_true rfl), (Nat.le_of_ble_eq_true rfl)⟩ hK hP 9 0 rfl (cwc0 C A u) rfl hl.1 rfl (Nat.le_of_ble_eq_true rfl) dX9_worst_38 (fun r97 p98 => ?_)
          refine lv_istore (lv' := [(4, .int r97), (3, .int y90d), (2, .int y91d), (1, .int y92d), (0, .ref (A 0))]) hx hb dX9_worst_41 hl (by decide) rfl (fun ls hl => ?_)
          refine lv_iload hx hb dX9_worst_43 (lv_at hl 0 rfl) ?_
          refine lv_iload_n hx hb dX9_worst_45 rfl (lv_at hl 2 rfl) ?_
          have j54_103 : ∀ (ls : Array Slot) (y100d : Int32) (y101d : Int32), 0 ≤ y100d.toInt → (-1) ≤ y101d.toInt → y101d.toInt ≤ 6 → lv_has ls 5 [(3, .int y90d), (2, .int y100d), (1, .int y101d), (0, .ref (A 0))] → W p l e (rmL 4 0 0) s m ar below meth c s.heap [] 0 0 Q (F0 m 54 ls []) := by
            intro ls y100d y101d ly100d ly101d my101d hl
            obtain ⟨z105, ez105⟩ : ∃ z, z = y90d + Int32.ofInt 1 := ⟨_, rfl⟩
            have hz105 : z105.toInt = y90d.toInt + 1 := by rw [ez105]; exact tt_add rfl (by decide) (by omega) (by omega)
            refine lv_iinc (v := z105) (lv' := [(3, .int z105), (2, .int y100d), (1, .int y101d), (0, .ref (A 0))]) hx hb dX9_worst_54 hl (k := 0) rfl ez105.symm (by decide) rfl (fun ls hl => ?_)
            refine lv_goto (tgt := 16) hx hb dX9_worst_57 (by decide) ?_
            exact ih16_92 ls z105 y100d y101d (by have q9 := (show z105.toInt = (y90d.toInt + 1) from hz105); omega) (by have q9 := (show z105.toInt = (y90d.toInt + 1) from hz105); omega) (by omega) (by omega) (by omega) (by have q9 := (show z105.toInt = (y90d.toInt + 1) from hz105); omega) hl
          refine lv_icmp_le (tgt := 54) hx hb dX9_worst_46 (by decide) (fun c99 => ?_) (fun c99 => ?_)
          · have c99 := cLE (x := r97) (y := y91d) (X := r97.toInt) (Y := y91d.toInt) rfl rfl c99
            exact j54_103 ls y91d y92d (by omega) (by omega) (by omega) (lv_sub hl [1, 2, 3, 4] rfl)
          · have c99 := cNLE (x := r97) (y := y91d) (X := r97.toInt) (Y := y91d.toInt) rfl rfl c99
            refine lv_iload hx hb dX9_worst_49 (lv_at hl 0 rfl) ?_
            refine lv_istore_n (lv' := [(2, .int r97), (4, .int r97), (3, .int y90d), (1, .int y92d), (0, .ref (A 0))]) hx hb dX9_worst_51 rfl hl (by decide) rfl (fun ls hl => ?_)
            refine lv_iload_n hx hb dX9_worst_52 rfl (lv_at hl 2 rfl) ?_
            refine lv_istore_n (lv' := [(1, .int y90d), (2, .int r97), (4, .int r97), (3, .int y90d), (0, .ref (A 0))]) hx hb dX9_worst_53 rfl hl (by decide) rfl (fun ls hl => ?_)
            exact j54_103 ls r97 y90d (by omega) (by omega) (by omega) (lv_sub hl [3, 1, 0, 4] rfl)
    exact lp16_92 8 ls 0 0 (-1) (by decide) (by decide) (by decide) (by decide) (by decide) (by have q9 : (0 : Int32).toInt = 0 := (by decide); omega) hl
  · have c3 := cEQ (x := r1) (y := 0) (X := r1.toInt) (Y := 0) rfl (by decide) c3
    refine lv_bipush (v := (-2)) hx hb dX9_worst_7 (by decide) ?_
    exact hret _ _ ((-2) : Int32) dX9_worst_9 rfl ⟨by decide, by decide⟩
set_option maxHeartbeats 4000000 in
set_option maxRecDepth 100000 in
theorem kX3_cut_0 (l : Launch) (D : va_G) (C : Nat → ClassId) (A : Nat → Nat) (u : St) (hI : IC u) (a0 : Int64) (A0 : Int) (ha0 : a0.toInt = A0) (a1 : Int32) (A1 : Int) (ha1 : a1.toInt = A1) : Met l yX3_cut (uc yX3_cut cX3_cut 3 (some .long)) (rmL 1 0 0) (va_Pc [.long a0, .int a1] (PreR D (tyl C) (cw C A u))) (vp_Sl (fun _ => True)) 0 0 (fun _ => False) := by
  refine mSl (by decide) (Nat.le_of_ble_eq_true rfl) ?_
  intro p e s m below meth c ls ar Q hx hb hml hown hts hK hP hl hret
  have hown : s.vm.findClass RX3 = some m.cls := hown
  have hl : lv_has ls 3 [(0, .long a0), (2, .int a1)] := hl
  refine lv_iload_n hx hb dX3_cut_0 rfl (lv_at hl 1 rfl) ?_
  by_cases c1 : 0 ≤ A1 ∧ A1 ≤ 2
  · rcases (show A1 = 0 ∨ A1 = 1 ∨ A1 = 2 by omega) with e9 | e9 | e9
    · have e8 : a1 = 0 := i_lit ha1 (by rw [e9]; decide)
      subst e8
      have q8 : (0 : Int32).toInt = 0 := by decide
      refine lv_tableIn (off := 27) (tgt := 28) hx hb dX3_cut_1 (by decide) (by decide) (by decide) (by decide) ?_
      refine lv_lload_n hx hb dX3_cut_28 rfl (lv_at hl 0 rfl) ?_
      refine lv_l2i hx hb dX3_cut_29 rfl ?_
      refine p_any (fun z2 => ?_)
      refine lv_i2b hx hb dX3_cut_30 rfl ?_
      refine p_any (fun z3 => ?_)
      refine lv_i2l (v := z3.toInt64) hx hb dX3_cut_31 rfl ?_
      exact hret _ _ _ dX3_cut_32 trivial
    · have e8 : a1 = 1 := i_lit ha1 (by rw [e9]; decide)
      subst e8
      have q8 : (1 : Int32).toInt = 1 := by decide
      refine lv_tableIn (off := 32) (tgt := 33) hx hb dX3_cut_1 (by decide) (by decide) (by decide) (by decide) ?_
      refine lv_lload_n hx hb dX3_cut_33 rfl (lv_at hl 0 rfl) ?_
      refine lv_l2i hx hb dX3_cut_34 rfl ?_
      refine p_any (fun z4 => ?_)
      refine lv_i2s hx hb dX3_cut_35 rfl ?_
      refine p_any (fun z5 => ?_)
      refine lv_i2l (v := z5.toInt64) hx hb dX3_cut_36 rfl ?_
      exact hret _ _ _ dX3_cut_37 trivial
    · have e8 : a1 = 2 := i_lit ha1 (by rw [e9]; decide)
      subst e8
      have q8 : (2 : Int32).toInt = 2 := by decide
      refine lv_tableIn (off := 37) (tgt := 38) hx hb dX3_cut_1 (by decide) (by decide) (by decide) (by decide) ?_
      refine lv_lload_n hx hb dX3_cut_38 rfl (lv_at hl 0 rfl) ?_
      refine lv_l2i hx hb dX3_cut_39 rfl ?_
      refine p_any (fun z6 => ?_)
      refine lv_i2l (v := z6.toInt64) hx hb dX3_cut_40 rfl ?_
      exact hret _ _ _ dX3_cut_41 trivial
  · refine lv_tableOut (tgt := 42) hx hb dX3_cut_1 (by have q9 := (show a1.toInt = A1 from ha1); omega) (by decide) ?_
    refine lv_lload_n hx hb dX3_cut_42 rfl (lv_at hl 0 rfl) ?_
    exact hret _ _ _ dX3_cut_43 trivial
set_option maxHeartbeats 4000000 in
set_option maxRecDepth 100000 in
theorem kX9_write_0 (l : Launch) (D : va_G) (C : Nat → ClassId) (A : Nat → Nat) (u : St) (hI : IC u) (a0 : Int32) (A0 : Int) (ha0 : a0.toInt = A0) (a1 : Int32) (A1 : Int) (ha1 : a1.toInt = A1) (a2 : Int64) (A2 : Int) (ha2 : a2.toInt = A2) (sz : Nat) : MetI l yX9_write cX9_write 6 (some .int) 3 [.ref (A 0), .int a0, .int a1, .long a2] D (tyl C) (cw C A) X0 u sz (fun r u' => IC u' ∧ Un [] [] [(39, 39), (40, 40), (41, 41), (42, 42)] u u' ∧ ((r = -2 ∧ ¬ (0 ≤ A0 ∧ A0 ≤ 3)) ∨ ∃ s w : Int, SzC u A0 s w ∧ ((r = -6 ∧ s < 0) ∨ (r = -7 ∧ 0 ≤ s ∧ ¬ (0 ≤ A1 ∧ A1 < s)) ∨ (r = 0 ∧ 0 ≤ A1 ∧ A1 < s)))) := by
  refine mI (by decide) (Nat.le_of_ble_eq_true rfl) ?_
  intro p e s m below meth c ls ar Q hx hb hml hown hts hK hH hX hl hret
  have hown : s.vm.findClass RX9 = some m.cls := hown
  have hl : lv_has ls 6 [(0, .ref (A 0)), (1, .int a0), (2, .int a1), (3, .long a2)] := hl
  refine lv_iload_n hx hb dX9_write_0 rfl (lv_at hl 1 rfl) ?_
  refine csS (n := 1) (As := [.int a0]) (rest := []) ⟨hx, hb, hml, hown, hts⟩ uc_in (kX9_isSlot_0 l D C A u hI a0 A0 ha0) q_m911 q_s912 q_i1 q_c913 hvX9_isSlot ⟨(Nat.le_of_ble_eq_true rfl), (Nat.le_of_ble_eq_true rfl)⟩ ⟨(Nat.le_of_ble_eq_true rfl), (Nat.le_of_ble_eq_true rfl)⟩ hK hH.1 rfl hl.1 rfl (Nat.le_of_ble_eq_true rfl) dX9_write_1 (fun r1 p2 => ?_)
  rcases p2 with ⟨e9, f3, f4⟩ | ⟨e9, fn5⟩
  · subst e9
    refine lv_if_ne (tgt := 10) hx hb dX9_write_4 (by decide) (fun c6 => ?_) (fun c6 => absurd c6 (by decide))
    refine lv_aload_n hx hb dX9_write_10 rfl (lv_at hl 0 rfl) ?_
    refine va_get (ci := 9) (v := .ref (A 18)) (C := RX9) (T := TX9) (N := 12) hx hb hts (fun w h => uc_in w (inX9 w h)) hown hK hH.1 0 (cwc0 C A u) rfl 6 (by decide) (hts _ (uc_in _ q_f389)) (fun _ h9 => h9) rfl dX9_write_11 ?_
    refine lv_iload_n hx hb dX9_write_14 rfl (lv_at hl 1 rfl) ?_
    rcases (show A0 = 0 ∨ A0 = 1 ∨ A0 = 2 ∨ A0 = 3 by omega) with e9 | e9 | e9 | e9
    · have e8 : a0 = 0 := i_lit ha0 (by rw [e9]; decide)
      subst e8
      have q8 : (0 : Int32).toInt = 0 := by decide
      refine r_aald hx hb hK hH.1 18 5 rfl (cwc18 C A u) rfl (i_ix (X := 0) (by decide) (by decide) (by decide)) dX9_write_15 ?_
      refine pv_v (v := .ref (A 8)) rfl ?_
      refine lv_astore (lv' := [(5, .ref (A 8)), (0, .ref (A 0)), (1, .int 0), (2, .int a1), (3, .long a2)]) hx hb dX9_write_16 hl (by decide) rfl (fun ls hl => ?_)
      refine lv_aload hx hb dX9_write_18 (lv_at hl 0 rfl) ?_
      refine cvS (n := 0) (As := []) (rest := []) ⟨hx, hb, hml, hown, hts⟩ uc_in (kX3_isThere_0 l D C A u hI ) q_m914 q_n915 q_e916 q_i5 q_c917 hvX3_isThere ⟨(Nat.le_of_ble_eq_true rfl), (Nat.le_of_ble_eq_true rfl)⟩ ⟨(Nat.le_of_ble_eq_true rfl), (Nat.le_of_ble_eq_true rfl)⟩ hK hH.1 3 8 rfl (cwc8 C A u) rfl hl.1 rfl (Nat.le_of_ble_eq_true rfl) dX9_write_20 (fun r7 p8 => ?_)
      rcases p8 with ⟨e9, f9⟩ | ⟨e9, fn11⟩
      · subst e9
        have b12 := hI.b50
        refine lv_if_ne (tgt := 29) hx hb dX9_write_23 (by decide) (fun c13 => ?_) (fun c13 => absurd c13 (by decide))
        refine lv_iload_n hx hb dX9_write_29 rfl (lv_at hl 3 rfl) ?_
        refine lv_if_lt (tgt := 42) hx hb dX9_write_30 (by decide) (fun c14 => ?_) (fun c14 => ?_)
        · have c14 := cLT (x := a1) (y := 0) (X := A1) (Y := 0) ha1 (by decide) c14
          refine lv_bipush (v := (-7)) hx hb dX9_write_42 (by decide) ?_
          exact hret _ _ _ _ ((-7) : Int32) _ dX9_write_44 rfl ⟨hI, Un.rf, (Or.inr ⟨_, _, (Or.inl (⟨by omega, rfl, rfl⟩)), (Or.inr (Or.inl (⟨rfl, by omega, by omega⟩)))⟩)⟩ hH
        · have c14 := cNLT (x := a1) (y := 0) (X := A1) (Y := 0) ha1 (by decide) c14
          refine lv_iload_n hx hb dX9_write_33 rfl (lv_at hl 3 rfl) ?_
          refine lv_aload hx hb dX9_write_34 (lv_at hl 0 rfl) ?_
          refine va_get (ci := 3) (v := .int (gi u 50)) (C := RX3) (T := TX3) (N := 3) hx hb hts (fun w h => uc_in w (inX3 w h)) hown hK hH.1 8 (cwc8 C A u) rfl 0 (by decide) (hts _ (uc_in _ q_f195)) (fun _ h9 => h9) rfl dX9_write_36 ?_
          refine lv_icmp_lt (tgt := 45) hx hb dX9_write_39 (by decide) (fun c15 => ?_) (fun c15 => ?_)
          · have c15 := cLT (x := a1) (y := (gi u 50)) (X := A1) (Y := ((gi u 50)).toInt) ha1 rfl c15
            refine lv_aload hx hb dX9_write_45 (lv_at hl 0 rfl) ?_
            refine va_get (ci := 3) (v := .ref (A 39)) (C := RX3) (T := TX3) (N := 3) hx hb hts (fun w h => uc_in w (inX3 w h)) hown hK hH.1 8 (cwc8 C A u) rfl 2 (by decide) (hts _ (uc_in _ q_f201)) (fun _ h9 => h9) rfl dX9_write_47 ?_
            refine lv_iload_n hx hb dX9_write_50 rfl (lv_at hl 3 rfl) ?_
            refine lv_lload_n hx hb dX9_write_51 rfl (lv_at hl 4 rfl) ?_
            refine lv_aload hx hb dX9_write_52 (lv_at hl 0 rfl) ?_
            refine va_get (ci := 3) (v := .int (gi u 51)) (C := RX3) (T := TX3) (N := 3) hx hb hts (fun w h => uc_in w (inX3 w h)) hown hK hH.1 8 (cwc8 C A u) rfl 1 (by decide) (hts _ (uc_in _ q_f197)) (fun _ h9 => h9) rfl dX9_write_54 ?_
            refine csSl (n := 2) (As := [.long a2, .int (gi u 51)]) (rest := [.int a1, .ref (A 39)]) ⟨hx, hb, hml, hown, hts⟩ uc_in (kX3_cut_0 l D C A u hI a2 A2 ha2 (gi u 51) (((gi u 51)).toInt) rfl) q_m1170 q_s1171 q_i5 q_c1172 hvX3_cut ⟨(Nat.le_of_ble_eq_true rfl), (Nat.le_of_ble_eq_true rfl)⟩ ⟨(Nat.le_of_ble_eq_true rfl), (Nat.le_of_ble_eq_true rfl)⟩ hK hH.1 rfl hl.1 rfl (Nat.le_of_ble_eq_true rfl) dX9_write_57 (fun r16 p17 => ?_)
            refine r_last (j := 39) hx hb hK hH 39 2 (cwc39 C A u) rfl (i_ix ha1 (by omega) (by omega)) (cwb39 C A u) dX9_write_60 (fun u18 eu18 H locs hH => ?_)
            have hI := hI.pb_ eu18
            refine lv_iconst (v := 0) hx hb dX9_write_61 (by decide) ?_
            exact hret _ _ _ _ (0 : Int32) _ dX9_write_62 rfl ⟨hI, (Un.sb Un.rf rfl eu18), (Or.inr ⟨_, _, (Or.inl (⟨by omega, rfl, rfl⟩)), (Or.inr (Or.inr (⟨rfl, by omega, by omega⟩)))⟩)⟩ hH
          · have c15 := cNLT (x := a1) (y := (gi u 50)) (X := A1) (Y := ((gi u 50)).toInt) ha1 rfl c15
            refine lv_bipush (v := (-7)) hx hb dX9_write_42 (by decide) ?_
            exact hret _ _ _ _ ((-7) : Int32) _ dX9_write_44 rfl ⟨hI, Un.rf, (Or.inr ⟨_, _, (Or.inl (⟨by omega, rfl, rfl⟩)), (Or.inr (Or.inl (⟨rfl, by omega, by omega⟩)))⟩)⟩ hH
      · subst e9
        refine lv_if_ne (tgt := 29) hx hb dX9_write_23 (by decide) (fun c19 => absurd c19 (by decide)) (fun c19 => ?_)
        refine lv_bipush (v := (-6)) hx hb dX9_write_26 (by decide) ?_
        exact hret _ _ _ _ ((-6) : Int32) _ dX9_write_28 rfl ⟨hI, Un.rf, (Or.inr ⟨_, _, (Or.inl (⟨by omega, rfl, rfl⟩)), (Or.inl (⟨rfl, by omega⟩))⟩)⟩ hH
    · have e8 : a0 = 1 := i_lit ha0 (by rw [e9]; decide)
      subst e8
      have q8 : (1 : Int32).toInt = 1 := by decide
      refine r_aald hx hb hK hH.1 18 5 rfl (cwc18 C A u) rfl (i_ix (X := 1) (by decide) (by decide) (by decide)) dX9_write_15 ?_
      refine pv_v (v := .ref (A 9)) rfl ?_
      refine lv_astore (lv' := [(5, .ref (A 9)), (0, .ref (A 0)), (1, .int 1), (2, .int a1), (3, .long a2)]) hx hb dX9_write_16 hl (by decide) rfl (fun ls hl => ?_)
      refine lv_aload hx hb dX9_write_18 (lv_at hl 0 rfl) ?_
      refine cvS (n := 0) (As := []) (rest := []) ⟨hx, hb, hml, hown, hts⟩ uc_in (kX3_isThere_1 l D C A u hI ) q_m914 q_n915 q_e916 q_i5 q_c917 hvX3_isThere ⟨(Nat.le_of_ble_eq_true rfl), (Nat.le_of_ble_eq_true rfl)⟩ ⟨(Nat.le_of_ble_eq_true rfl), (Nat.le_of_ble_eq_true rfl)⟩ hK hH.1 3 9 rfl (cwc9 C A u) rfl hl.1 rfl (Nat.le_of_ble_eq_true rfl) dX9_write_20 (fun r20 p21 => ?_)
      rcases p21 with ⟨e9, f22⟩ | ⟨e9, fn24⟩
      · subst e9
        have b25 := hI.b52
        refine lv_if_ne (tgt := 29) hx hb dX9_write_23 (by decide) (fun c26 => ?_) (fun c26 => absurd c26 (by decide))
        refine lv_iload_n hx hb dX9_write_29 rfl (lv_at hl 3 rfl) ?_
        refine lv_if_lt (tgt := 42) hx hb dX9_write_30 (by decide) (fun c27 => ?_) (fun c27 => ?_)
        · have c27 := cLT (x := a1) (y := 0) (X := A1) (Y := 0) ha1 (by decide) c27
          refine lv_bipush (v := (-7)) hx hb dX9_write_42 (by decide) ?_
          exact hret _ _ _ _ ((-7) : Int32) _ dX9_write_44 rfl ⟨hI, Un.rf, (Or.inr ⟨_, _, (Or.inr (Or.inl (⟨by omega, rfl, rfl⟩))), (Or.inr (Or.inl (⟨rfl, by omega, by omega⟩)))⟩)⟩ hH
        · have c27 := cNLT (x := a1) (y := 0) (X := A1) (Y := 0) ha1 (by decide) c27
          refine lv_iload_n hx hb dX9_write_33 rfl (lv_at hl 3 rfl) ?_
          refine lv_aload hx hb dX9_write_34 (lv_at hl 0 rfl) ?_
          refine va_get (ci := 3) (v := .int (gi u 52)) (C := RX3) (T := TX3) (N := 3) hx hb hts (fun w h => uc_in w (inX3 w h)) hown hK hH.1 9 (cwc9 C A u) rfl 0 (by decide) (hts _ (uc_in _ q_f195)) (fun _ h9 => h9) rfl dX9_write_36 ?_
          refine lv_icmp_lt (tgt := 45) hx hb dX9_write_39 (by decide) (fun c28 => ?_) (fun c28 => ?_)
          · have c28 := cLT (x := a1) (y := (gi u 52)) (X := A1) (Y := ((gi u 52)).toInt) ha1 rfl c28
            refine lv_aload hx hb dX9_write_45 (lv_at hl 0 rfl) ?_
            refine va_get (ci := 3) (v := .ref (A 40)) (C := RX3) (T := TX3) (N := 3) hx hb hts (fun w h => uc_in w (inX3 w h)) hown hK hH.1 9 (cwc9 C A u) rfl 2 (by decide) (hts _ (uc_in _ q_f201)) (fun _ h9 => h9) rfl dX9_write_47 ?_
            refine lv_iload_n hx hb dX9_write_50 rfl (lv_at hl 3 rfl) ?_
            refine lv_lload_n hx hb dX9_write_51 rfl (lv_at hl 4 rfl) ?_
            refine lv_aload hx hb dX9_write_52 (lv_at hl 0 rfl) ?_
            refine va_get (ci := 3) (v := .int (gi u 53)) (C := RX3) (T := TX3) (N := 3) hx hb hts (fun w h => uc_in w (inX3 w h)) hown hK hH.1 9 (cwc9 C A u) rfl 1 (by decide) (hts _ (uc_in _ q_f197)) (fun _ h9 => h9) rfl dX9_write_54 ?_
            refine csSl (n := 2) (As := [.long a2, .int (gi u 53)]) (rest := [.int a1, .ref (A 40)]) ⟨hx, hb, hml, hown, hts⟩ uc_in (kX3_cut_0 l D C A u hI a2 A2 ha2 (gi u 53) (((gi u 53)).toInt) rfl) q_m1170 q_s1171 q_i5 q_c1172 hvX3_cut ⟨(Nat.le_of_ble_eq_true rfl), (Nat.le_of_ble_eq_true rfl)⟩ ⟨(Nat.le_of_ble_eq_true rfl), (Nat.le_of_ble_eq_true rfl)⟩ hK hH.1 rfl hl.1 rfl (Nat.le_of_ble_eq_true rfl) dX9_write_57 (fun r29 p30 => ?_)
            refine r_last (j := 40) hx hb hK hH 40 2 (cwc40 C A u) rfl (i_ix ha1 (by omega) (by omega)) (cwb40 C A u) dX9_write_60 (fun u31 eu31 H locs hH => ?_)
            have hI := hI.pb_ eu31
            refine lv_iconst (v := 0) hx hb dX9_write_61 (by decide) ?_
            exact hret _ _ _ _ (0 : Int32) _ dX9_write_62 rfl ⟨hI, (Un.sb Un.rf rfl eu31), (Or.inr ⟨_, _, (Or.inr (Or.inl (⟨by omega, rfl, rfl⟩))), (Or.inr (Or.inr (⟨rfl, by omega, by omega⟩)))⟩)⟩ hH
          · have c28 := cNLT (x := a1) (y := (gi u 52)) (X := A1) (Y := ((gi u 52)).toInt) ha1 rfl c28
            refine lv_bipush (v := (-7)) hx hb dX9_write_42 (by decide) ?_
            exact hret _ _ _ _ ((-7) : Int32) _ dX9_write_44 rfl ⟨hI, Un.rf, (Or.inr ⟨_, _, (Or.inr (Or.inl (⟨by omega, rfl, rfl⟩))), (Or.inr (Or.inl (⟨rfl, by omega, by omega⟩)))⟩)⟩ hH
      · subst e9
        refine lv_if_ne (tgt := 29) hx hb dX9_write_23 (by decide) (fun c32 => absurd c32 (by decide)) (fun c32 => ?_)
        refine lv_bipush (v := (-6)) hx hb dX9_write_26 (by decide) ?_
        exact hret _ _ _ _ ((-6) : Int32) _ dX9_write_28 rfl ⟨hI, Un.rf, (Or.inr ⟨_, _, (Or.inr (Or.inl (⟨by omega, rfl, rfl⟩))), (Or.inl (⟨rfl, by omega⟩))⟩)⟩ hH
    · have e8 : a0 = 2 := i_lit ha0 (by rw [e9]; decide)
      subst e8
      have q8 : (2 : Int32).toInt = 2 := by decide
      refine r_aald hx hb hK hH.1 18 5 rfl (cwc18 C A u) rfl (i_ix (X := 2) (by decide) (by decide) (by decide)) dX9_write_15 ?_
      refine pv_v (v := .ref (A 10)) rfl ?_
      refine lv_astore (lv' := [(5, .ref (A 10)), (0, .ref (A 0)), (1, .int 2), (2, .int a1), (3, .long a2)]) hx hb dX9_write_16 hl (by decide) rfl (fun ls hl => ?_)
      refine lv_aload hx hb dX9_write_18 (lv_at hl 0 rfl) ?_
      refine cvS (n := 0) (As := []) (rest := []) ⟨hx, hb, hml, hown, hts⟩ uc_in (kX3_isThere_2 l D C A u hI ) q_m914 q_n915 q_e916 q_i5 q_c917 hvX3_isThere ⟨(Nat.le_of_ble_eq_true rfl), (Nat.le_of_ble_eq_true rfl)⟩ ⟨(Nat.le_of_ble_eq_true rfl), (Nat.le_of_ble_eq_true rfl)⟩ hK hH.1 3 10 rfl (cwc10 C A u) rfl hl.1 rfl (Nat.le_of_ble_eq_true rfl) dX9_write_20 (fun r33 p34 => ?_)
      rcases p34 with ⟨e9, f35⟩ | ⟨e9, fn37⟩
      · subst e9
        have b38 := hI.b54
        refine lv_if_ne (tgt := 29) hx hb dX9_write_23 (by decide) (fun c39 => ?_) (fun c39 => absurd c39 (by decide))
        refine lv_iload_n hx hb dX9_write_29 rfl (lv_at hl 3 rfl) ?_
        refine lv_if_lt (tgt := 42) hx hb dX9_write_30 (by decide) (fun c40 => ?_) (fun c40 => ?_)
        · have c40 := cLT (x := a1) (y := 0) (X := A1) (Y := 0) ha1 (by decide) c40
          refine lv_bipush (v := (-7)) hx hb dX9_write_42 (by decide) ?_
          exact hret _ _ _ _ ((-7) : Int32) _ dX9_write_44 rfl ⟨hI, Un.rf, (Or.inr ⟨_, _, (Or.inr (Or.inr (Or.inl (⟨by omega, rfl, rfl⟩)))), (Or.inr (Or.inl (⟨rfl, by omega, by omega⟩)))⟩)⟩ hH
        · have c40 := cNLT (x := a1) (y := 0) (X := A1) (Y := 0) ha1 (by decide) c40
          refine lv_iload_n hx hb dX9_write_33 rfl (lv_at hl 3 rfl) ?_
          refine lv_aload hx hb dX9_write_34 (lv_at hl 0 rfl) ?_
          refine va_get (ci := 3) (v := .int (gi u 54)) (C := RX3) (T := TX3) (N := 3) hx hb hts (fun w h => uc_in w (inX3 w h)) hown hK hH.1 10 (cwc10 C A u) rfl 0 (by decide) (hts _ (uc_in _ q_f195)) (fun _ h9 => h9) rfl dX9_write_36 ?_
          refine lv_icmp_lt (tgt := 45) hx hb dX9_write_39 (by decide) (fun c41 => ?_) (fun c41 => ?_)
          · have c41 := cLT (x := a1) (y := (gi u 54)) (X := A1) (Y := ((gi u 54)).toInt) ha1 rfl c41
            refine lv_aload hx hb dX9_write_45 (lv_at hl 0 rfl) ?_
            refine va_get (ci := 3) (v := .ref (A 41)) (C := RX3) (T := TX3) (N := 3) hx hb hts (fun w h => uc_in w (inX3 w h)) hown hK hH.1 10 (cwc10 C A u) rfl 2 (by decide) (hts _ (uc_in _ q_f201)) (fun _ h9 => h9) rfl dX9_write_47 ?_
            refine lv_iload_n hx hb dX9_write_50 rfl (lv_at hl 3 rfl) ?_
            refine lv_lload_n hx hb dX9_write_51 rfl (lv_at hl 4 rfl) ?_
            refine lv_aload hx hb dX9_write_52 (lv_at hl 0 rfl) ?_
            refine va_get (ci := 3) (v := .int (gi u 55)) (C := RX3) (T := TX3) (N := 3) hx hb hts (fun w h => uc_in w (inX3 w h)) hown hK hH.1 10 (cwc10 C A u) rfl 1 (by decide) (hts _ (uc_in _ q_f197)) (fun _ h9 => h9) rfl dX9_write_54 ?_
            refine csSl (n := 2) (As := [.long a2, .int (gi u 55)]) (rest := [.int a1, .ref (A 41)]) ⟨hx, hb, hml, hown, hts⟩ uc_in (kX3_cut_0 l D C A u hI a2 A2 ha2 (gi u 55) (((gi u 55)).toInt) rfl) q_m1170 q_s1171 q_i5 q_c1172 hvX3_cut ⟨(Nat.le_of_ble_eq_true rfl), (Nat.le_of_ble_eq_true rfl)⟩ ⟨(Nat.le_of_ble_eq_true rfl), (Nat.le_of_ble_eq_true rfl)⟩ hK hH.1 rfl hl.1 rfl (Nat.le_of_ble_eq_true rfl) dX9_write_57 (fun r42 p43 => ?_)
            refine r_last (j := 41) hx hb hK hH 41 2 (cwc41 C A u) rfl (i_ix ha1 (by omega) (by omega)) (cwb41 C A u) dX9_write_60 (fun u44 eu44 H locs hH => ?_)
            have hI := hI.pb_ eu44
            refine lv_iconst (v := 0) hx hb dX9_write_61 (by decide) ?_
            exact hret _ _ _ _ (0 : Int32) _ dX9_write_62 rfl ⟨hI, (Un.sb Un.rf rfl eu44), (Or.inr ⟨_, _, (Or.inr (Or.inr (Or.inl (⟨by omega, rfl, rfl⟩)))), (Or.inr (Or.inr (⟨rfl, by omega, by omega⟩)))⟩)⟩ hH
          · have c41 := cNLT (x := a1) (y := (gi u 54)) (X := A1) (Y := ((gi u 54)).toInt) ha1 rfl c41
            refine lv_bipush (v := (-7)) hx hb dX9_write_42 (by decide) ?_
            exact hret _ _ _ _ ((-7) : Int32) _ dX9_write_44 rfl ⟨hI, Un.rf, (Or.inr ⟨_, _, (Or.inr (Or.inr (Or.inl (⟨by omega, rfl, rfl⟩)))), (Or.inr (Or.inl (⟨rfl, by omega, by omega⟩)))⟩)⟩ hH
      · subst e9
        refine lv_if_ne (tgt := 29) hx hb dX9_write_23 (by decide) (fun c45 => absurd c45 (by decide)) (fun c45 => ?_)
        refine lv_bipush (v := (-6)) hx hb dX9_write_26 (by decide) ?_
        exact hret _ _ _ _ ((-6) : Int32) _ dX9_write_28 rfl ⟨hI, Un.rf, (Or.inr ⟨_, _, (Or.inr (Or.inr (Or.inl (⟨by omega, rfl, rfl⟩)))), (Or.inl (⟨rfl, by omega⟩))⟩)⟩ hH
    · have e8 : a0 = 3 := i_lit ha0 (by rw [e9]; decide)
      subst e8
      have q8 : (3 : Int32).toInt = 3 := by decide
      refine r_aald hx hb hK hH.1 18 5 rfl (cwc18 C A u) rfl (i_ix (X := 3) (by decide) (by decide) (by decide)) dX9_write_15 ?_
      refine pv_v (v := .ref (A 11)) rfl ?_
      refine lv_astore (lv' := [(5, .ref (A 11)), (0, .ref (A 0)), (1, .int 3), (2, .int a1), (3, .long a2)]) hx hb dX9_write_16 hl (by decide) rfl (fun ls hl => ?_)
      refine lv_aload hx hb dX9_write_18 (lv_at hl 0 rfl) ?_
      refine cvS (n := 0) (As := []) (rest := []) ⟨hx, hb, hml, hown, hts⟩ uc_in (kX3_isThere_3 l D C A u hI ) q_m914 q_n915 q_e916 q_i5 q_c917 hvX3_isThere ⟨(Nat.le_of_ble_eq_true rfl), (Nat.le_of_ble_eq_true rfl)⟩ ⟨(Nat.le_of_ble_eq_true rfl), (Nat.le_of_ble_eq_true rfl)⟩ hK hH.1 3 11 rfl (cwc11 C A u) rfl hl.1 rfl (Nat.le_of_ble_eq_true rfl) dX9_write_20 (fun r46 p47 => ?_)
      rcases p47 with ⟨e9, f48⟩ | ⟨e9, fn50⟩
      · subst e9
        have b51 := hI.b56
        refine lv_if_ne (tgt := 29) hx hb dX9_write_23 (by decide) (fun c52 => ?_) (fun c52 => absurd c52 (by decide))
        refine lv_iload_n hx hb dX9_write_29 rfl (lv_at hl 3 rfl) ?_
        refine lv_if_lt (tgt := 42) hx hb dX9_write_30 (by decide) (fun c53 => ?_) (fun c53 => ?_)
        · have c53 := cLT (x := a1) (y := 0) (X := A1) (Y := 0) ha1 (by decide) c53
          refine lv_bipush (v := (-7)) hx hb dX9_write_42 (by decide) ?_
          exact hret _ _ _ _ ((-7) : Int32) _ dX9_write_44 rfl ⟨hI, Un.rf, (Or.inr ⟨_, _, (Or.inr (Or.inr (Or.inr (⟨by omega, rfl, rfl⟩)))), (Or.inr (Or.inl (⟨rfl, by omega, by omega⟩)))⟩)⟩ hH
        · have c53 := cNLT (x := a1) (y := 0) (X := A1) (Y := 0) ha1 (by decide) c53
          refine lv_iload_n hx hb dX9_write_33 rfl (lv_at hl 3 rfl) ?_
          refine lv_aload hx hb dX9_write_34 (lv_at hl 0 rfl) ?_
          refine va_get (ci := 3) (v := .int (gi u 56)) (C := RX3) (T := TX3) (N := 3) hx hb hts (fun w h => uc_in w (inX3 w h)) hown hK hH.1 11 (cwc11 C A u) rfl 0 (by decide) (hts _ (uc_in _ q_f195)) (fun _ h9 => h9) rfl dX9_write_36 ?_
          refine lv_icmp_lt (tgt := 45) hx hb dX9_write_39 (by decide) (fun c54 => ?_) (fun c54 => ?_)
          · have c54 := cLT (x := a1) (y := (gi u 56)) (X := A1) (Y := ((gi u 56)).toInt) ha1 rfl c54
            refine lv_aload hx hb dX9_write_45 (lv_at hl 0 rfl) ?_
            refine va_get (ci := 3) (v := .ref (A 42)) (C := RX3) (T := TX3) (N := 3) hx hb hts (fun w h => uc_in w (inX3 w h)) hown hK hH.1 11 (cwc11 C A u) rfl 2 (by decide) (hts _ (uc_in _ q_f201)) (fun _ h9 => h9) rfl dX9_write_47 ?_
            refine lv_iload_n hx hb dX9_write_50 rfl (lv_at hl 3 rfl) ?_
            refine lv_lload_n hx hb dX9_write_51 rfl (lv_at hl 4 rfl) ?_
            refine lv_aload hx hb dX9_write_52 (lv_at hl 0 rfl) ?_
            refine va_get (ci := 3) (v := .int (gi u 57)) (C := RX3) (T := TX3) (N := 3) hx hb hts (fun w h => uc_in w (inX3 w h)) hown hK hH.1 11 (cwc11 C A u) rfl 1 (by decide) (hts _ (uc_in _ q_f197)) (fun _ h9 => h9) rfl dX9_write_54 ?_
            refine csSl (n := 2) (As := [.long a2, .int (gi u 57)]) (rest := [.int a1, .ref (A 42)]) ⟨hx, hb, hml, hown, hts⟩ uc_in (kX3_cut_0 l D C A u hI a2 A2 ha2 (gi u 57) (((gi u 57)).toInt) rfl) q_m1170 q_s1171 q_i5 q_c1172 hvX3_cut ⟨(Nat.le_of_ble_eq_true rfl), (Nat.le_of_ble_eq_true rfl)⟩ ⟨(Nat.le_of_ble_eq_true rfl), (Nat.le_of_ble_eq_true rfl)⟩ hK hH.1 rfl hl.1 rfl (Nat.le_of_ble_eq_true rfl) dX9_write_57 (fun r55 p56 => ?_)
            refine r_last (j := 42) hx hb hK hH 42 2 (cwc42 C A u) rfl (i_ix ha1 (by omega) (by omega)) (cwb42 C A u) dX9_write_60 (fun u57 eu57 H locs hH => ?_)
            have hI := hI.pb_ eu57
            refine lv_iconst (v := 0) hx hb dX9_write_61 (by decide) ?_
            exact hret _ _ _ _ (0 : Int32) _ dX9_write_62 rfl ⟨hI, (Un.sb Un.rf rfl eu57), (Or.inr ⟨_, _, (Or.inr (Or.inr (Or.inr (⟨by omega, rfl, rfl⟩)))), (Or.inr (Or.inr (⟨rfl, by omega, by omega⟩)))⟩)⟩ hH
          · have c54 := cNLT (x := a1) (y := (gi u 56)) (X := A1) (Y := ((gi u 56)).toInt) ha1 rfl c54
            refine lv_bipush (v := (-7)) hx hb dX9_write_42 (by decide) ?_
            exact hret _ _ _ _ ((-7) : Int32) _ dX9_write_44 rfl ⟨hI, Un.rf, (Or.inr ⟨_, _, (Or.inr (Or.inr (Or.inr (⟨by omega, rfl, rfl⟩)))), (Or.inr (Or.inl (⟨rfl, by omega, by omega⟩)))⟩)⟩ hH
      · subst e9
        refine lv_if_ne (tgt := 29) hx hb dX9_write_23 (by decide) (fun c58 => absurd c58 (by decide)) (fun c58 => ?_)
        refine lv_bipush (v := (-6)) hx hb dX9_write_26 (by decide) ?_
        exact hret _ _ _ _ ((-6) : Int32) _ dX9_write_28 rfl ⟨hI, Un.rf, (Or.inr ⟨_, _, (Or.inr (Or.inr (Or.inr (⟨by omega, rfl, rfl⟩)))), (Or.inl (⟨rfl, by omega⟩))⟩)⟩ hH
  · subst e9
    refine lv_if_ne (tgt := 10) hx hb dX9_write_4 (by decide) (fun c59 => absurd c59 (by decide)) (fun c59 => ?_)
    refine lv_bipush (v := (-2)) hx hb dX9_write_7 (by decide) ?_
    exact hret _ _ _ _ ((-2) : Int32) _ dX9_write_9 rfl ⟨hI, Un.rf, (Or.inl (⟨rfl, by omega⟩))⟩ hH
set_option maxHeartbeats 4000000 in
set_option maxRecDepth 100000 in
theorem kX7_clear_0 (l : Launch) (D : va_G) (C : Nat → ClassId) (A : Nat → Nat) (u : St) (hI : IC u) (sz : Nat) : MetV l yX7_clear cX7_clear 1 1 [.ref (A 3)] D (tyl C) (cw C A) X0 u sz (fun u' => IC u' ∧ Un [(16, 16), (17, 17), (18, 18), (19, 19), (20, 20), (21, 21), (22, 22), (23, 23)] [] [] u u' ∧ gi u' 17 = 0) := by
  refine mV (by decide) (Nat.le_of_ble_eq_true rfl) ?_
  intro p e s m below meth c ls ar Q hx hb hml hown hts hK hH hX hl hret
  have hown : s.vm.findClass RX7 = some m.cls := hown
  have hl : lv_has ls 1 [(0, .ref (A 3))] := hl
  refine lv_aload_n hx hb dX7_clear_0 rfl (lv_at hl 0 rfl) ?_
  refine lv_iconst (v := 0) hx hb dX7_clear_1 (by decide) ?_
  refine r_put (j := 16) (ci := 7) (C := RX7) (T := TX7) (N := 16) hx hb hts (fun w h => uc_in w (inX7 w h)) tyX7 tyX7_ok nmX7 hown hK hH 3 (cwc3 C A u) rfl 0 (by decide) (hts _ (uc_in _ q_f68)) (fun _ h9 => h9) rfl (by decide +kernel) (Nat.le_of_ble_eq_true rfl) (cws16 C A u _) dX7_clear_2 (fun u1 eu1 H locs hH => ?_)
  have hI := hI.pi0 eu1 rfl (by decide) (by decide)
  refine lv_aload_n hx hb dX7_clear_5 rfl (lv_at hl 0 rfl) ?_
  refine lv_iconst (v := 0) hx hb dX7_clear_6 (by decide) ?_
  refine r_put (j := 17) (ci := 7) (C := RX7) (T := TX7) (N := 16) hx hb hts (fun w h => uc_in w (inX7 w h)) tyX7 tyX7_ok nmX7 hown hK hH 3 (cwc3 C A u1) rfl 1 (by decide) (hts _ (uc_in _ q_f72)) (fun _ h9 => h9) rfl (by decide +kernel) (Nat.le_of_ble_eq_true rfl) (cws17 C A u1 _) dX7_clear_7 (fun u2 eu2 H locs hH => ?_)
  have hI := hI.ddays eu2 (fun _ => by decide)
  refine lv_aload_n hx hb dX7_clear_10 rfl (lv_at hl 0 rfl) ?_
  refine lv_iconst (v := 0) hx hb dX7_clear_11 (by decide) ?_
  refine r_put (j := 18) (ci := 7) (C := RX7) (T := TX7) (N := 16) hx hb hts (fun w h => uc_in w (inX7 w h)) tyX7 tyX7_ok nmX7 hown hK hH 3 (cwc3 C A u2) rfl 2 (by decide) (hts _ (uc_in _ q_f75)) (fun _ h9 => h9) rfl (by decide +kernel) (Nat.le_of_ble_eq_true rfl) (cws18 C A u2 _) dX7_clear_12 (fun u3 eu3 H locs hH => ?_)
  have hI := hI.pi0 eu3 rfl (by decide) (by decide)
  refine lv_aload_n hx hb dX7_clear_15 rfl (lv_at hl 0 rfl) ?_
  refine lv_iconst (v := 0) hx hb dX7_clear_16 (by decide) ?_
  refine r_put (j := 19) (ci := 7) (C := RX7) (T := TX7) (N := 16) hx hb hts (fun w h => uc_in w (inX7 w h)) tyX7 tyX7_ok nmX7 hown hK hH 3 (cwc3 C A u3) rfl 3 (by decide) (hts _ (uc_in _ q_f78)) (fun _ h9 => h9) rfl (by decide +kernel) (Nat.le_of_ble_eq_true rfl) (cws19 C A u3 _) dX7_clear_17 (fun u4 eu4 H locs hH => ?_)
  have hI := hI.pi0 eu4 rfl (by decide) (by decide)
  refine lv_aload_n hx hb dX7_clear_20 rfl (lv_at hl 0 rfl) ?_
  refine lv_iconst (v := 0) hx hb dX7_clear_21 (by decide) ?_
  refine r_put (j := 20) (ci := 7) (C := RX7) (T := TX7) (N := 16) hx hb hts (fun w h => uc_in w (inX7 w h)) tyX7 tyX7_ok nmX7 hown hK hH 3 (cwc3 C A u4) rfl 4 (by decide) (hts _ (uc_in _ q_f82)) (fun _ h9 => h9) rfl (by decide +kernel) (Nat.le_of_ble_eq_true rfl) (cws20 C A u4 _) dX7_clear_22 (fun u5 eu5 H locs hH => ?_)
  have hI := hI.s20 eu5 (X := 0) (by decide) (by decide) (by decide)
  refine lv_aload_n hx hb dX7_clear_25 rfl (lv_at hl 0 rfl) ?_
  refine lv_iconst (v := 0) hx hb dX7_clear_26 (by decide) ?_
  refine r_put (j := 21) (ci := 7) (C := RX7) (T := TX7) (N := 16) hx hb hts (fun w h => uc_in w (inX7 w h)) tyX7 tyX7_ok nmX7 hown hK hH 3 (cwc3 C A u5) rfl 5 (by decide) (hts _ (uc_in _ q_f85)) (fun _ h9 => h9) rfl (by decide +kernel) (Nat.le_of_ble_eq_true rfl) (cws21 C A u5 _) dX7_clear_27 (fun u6 eu6 H locs hH => ?_)
  have hI := hI.pi0 eu6 rfl (by decide) (by decide)
  refine lv_aload_n hx hb dX7_clear_30 rfl (lv_at hl 0 rfl) ?_
  refine lv_iconst (v := 0) hx hb dX7_clear_31 (by decide) ?_
  refine r_put (j := 22) (ci := 7) (C := RX7) (T := TX7) (N := 16) hx hb hts (fun w h => uc_in w (inX7 w h)) tyX7 tyX7_ok nmX7 hown hK hH 3 (cwc3 C A u6) rfl 6 (by decide) (hts _ (uc_in _ q_f88)) (fun _ h9 => h9) rfl (by decide +kernel) (Nat.le_of_ble_eq_true rfl) (cws22 C A u6 _) dX7_clear_32 (fun u7 eu7 H locs hH => ?_)
  have hI := hI.pi0 eu7 rfl (by decide) (by decide)
  refine lv_aload_n hx hb dX7_clear_35 rfl (lv_at hl 0 rfl) ?_
  refine lv_iconst (v := 0) hx hb dX7_clear_36 (by decide) ?_
  refine r_put (j := 23) (ci := 7) (C := RX7) (T := TX7) (N := 16) hx hb hts (fun w h => uc_in w (inX7 w h)) tyX7 tyX7_ok nmX7 hown hK hH 3 (cwc3 C A u7) rfl 7 (by decide) (hts _ (uc_in _ q_f92)) (fun _ h9 => h9) rfl (by decide +kernel) (Nat.le_of_ble_eq_true rfl) (cws23 C A u7 _) dX7_clear_37 (fun u8 eu8 H locs hH => ?_)
  have hI := hI.s23 eu8 (X := 0) (by decide) (by decide) (by decide)
  exact hret _ _ _ _ _ dX7_clear_40 ⟨hI, (Un.si (Un.si (Un.si (Un.si (Un.si (Un.si (Un.si (Un.si Un.rf rfl eu1) rfl eu2) rfl eu3) rfl eu4) rfl eu5) rfl eu6) rfl eu7) rfl eu8), ((gi_ne eu8 (by decide)).trans ((gi_ne eu7 (by decide)).trans ((gi_ne eu6 (by decide)).trans ((gi_ne eu5 (by decide)).trans ((gi_ne eu4 (by decide)).trans ((gi_ne eu3 (by decide)).trans (gi_si eu2)))))))⟩ hH
set_option maxHeartbeats 4000000 in
set_option maxRecDepth 100000 in
theorem kX6_isLetter_0 (l : Launch) (D : va_G) (C : Nat → ClassId) (A : Nat → Nat) (u : St) (hI : IC u) (a0 : Int32) (A0 : Int) (ha0 : a0.toInt = A0) : Met l yX6_isLetter (uc yX6_isLetter cX6_isLetter 1 (some .boolean)) (rmL 1 0 0) (va_Pc [.int a0] (PreR D (tyl C) (cw C A u))) (vp_Si (fun r => 0 ≤ r.toInt ∧ r.toInt ≤ 1)) 0 0 (fun _ => False) := by
  refine mS (by decide) (Nat.le_of_ble_eq_true rfl) ?_
  intro p e s m below meth c ls ar Q hx hb hml hown hts hK hP hl hret
  have hown : s.vm.findClass RX6 = some m.cls := hown
  have hl : lv_has ls 1 [(0, .int a0)] := hl
  refine lv_iload_n hx hb dX6_isLetter_0 rfl (lv_at hl 0 rfl) ?_
  refine lv_bipush (v := 97) hx hb dX6_isLetter_1 (by decide) ?_
  refine lv_icmp_lt (tgt := 16) hx hb dX6_isLetter_3 (by decide) (fun c1 => ?_) (fun c1 => ?_)
  · have c1 := cLT (x := a0) (y := 97) (X := A0) (Y := 97) ha0 (by decide) c1
    refine lv_iconst (v := 0) hx hb dX6_isLetter_16 (by decide) ?_
    exact hret _ _ (0 : Int32) dX6_isLetter_17 rfl ⟨by decide, by decide⟩
  · have c1 := cNLT (x := a0) (y := 97) (X := A0) (Y := 97) ha0 (by decide) c1
    refine lv_iload_n hx hb dX6_isLetter_6 rfl (lv_at hl 0 rfl) ?_
    refine lv_bipush (v := 122) hx hb dX6_isLetter_7 (by decide) ?_
    refine lv_icmp_gt (tgt := 16) hx hb dX6_isLetter_9 (by decide) (fun c2 => ?_) (fun c2 => ?_)
    · have c2 := cLT (x := 122) (y := a0) (X := 122) (Y := A0) (by decide) ha0 c2
      refine lv_iconst (v := 0) hx hb dX6_isLetter_16 (by decide) ?_
      exact hret _ _ (0 : Int32) dX6_isLetter_17 rfl ⟨by decide, by decide⟩
    · have c2 := cNLT (x := 122) (y := a0) (X := 122) (Y := A0) (by decide) ha0 c2
      refine lv_iconst (v := 1) hx hb dX6_isLetter_12 (by decide) ?_
      refine lv_goto (tgt := 17) hx hb dX6_isLetter_13 (by decide) ?_
      exact hret _ _ (1 : Int32) dX6_isLetter_17 rfl ⟨by decide, by decide⟩
set_option maxHeartbeats 4000000 in
set_option maxRecDepth 100000 in
theorem kX6_isDigit_0 (l : Launch) (D : va_G) (C : Nat → ClassId) (A : Nat → Nat) (u : St) (hI : IC u) (a0 : Int32) (A0 : Int) (ha0 : a0.toInt = A0) : Met l yX6_isDigit (uc yX6_isDigit cX6_isDigit 1 (some .boolean)) (rmL 1 0 0) (va_Pc [.int a0] (PreR D (tyl C) (cw C A u))) (vp_Si (fun r => 0 ≤ r.toInt ∧ r.toInt ≤ 1)) 0 0 (fun _ => False) := by
  refine mS (by decide) (Nat.le_of_ble_eq_true rfl) ?_
  intro p e s m below meth c ls ar Q hx hb hml hown hts hK hP hl hret
  have hown : s.vm.findClass RX6 = some m.cls := hown
  have hl : lv_has ls 1 [(0, .int a0)] := hl
  refine lv_iload_n hx hb dX6_isDigit_0 rfl (lv_at hl 0 rfl) ?_
  refine lv_bipush (v := 48) hx hb dX6_isDigit_1 (by decide) ?_
  refine lv_icmp_lt (tgt := 16) hx hb dX6_isDigit_3 (by decide) (fun c1 => ?_) (fun c1 => ?_)
  · have c1 := cLT (x := a0) (y := 48) (X := A0) (Y := 48) ha0 (by decide) c1
    refine lv_iconst (v := 0) hx hb dX6_isDigit_16 (by decide) ?_
    exact hret _ _ (0 : Int32) dX6_isDigit_17 rfl ⟨by decide, by decide⟩
  · have c1 := cNLT (x := a0) (y := 48) (X := A0) (Y := 48) ha0 (by decide) c1
    refine lv_iload_n hx hb dX6_isDigit_6 rfl (lv_at hl 0 rfl) ?_
    refine lv_bipush (v := 57) hx hb dX6_isDigit_7 (by decide) ?_
    refine lv_icmp_gt (tgt := 16) hx hb dX6_isDigit_9 (by decide) (fun c2 => ?_) (fun c2 => ?_)
    · have c2 := cLT (x := 57) (y := a0) (X := 57) (Y := A0) (by decide) ha0 c2
      refine lv_iconst (v := 0) hx hb dX6_isDigit_16 (by decide) ?_
      exact hret _ _ (0 : Int32) dX6_isDigit_17 rfl ⟨by decide, by decide⟩
    · have c2 := cNLT (x := 57) (y := a0) (X := 57) (Y := A0) (by decide) ha0 c2
      refine lv_iconst (v := 1) hx hb dX6_isDigit_12 (by decide) ?_
      refine lv_goto (tgt := 17) hx hb dX6_isDigit_13 (by decide) ?_
      exact hret _ _ (1 : Int32) dX6_isDigit_17 rfl ⟨by decide, by decide⟩
set_option maxHeartbeats 4000000 in
set_option maxRecDepth 100000 in
theorem kX6_step_0 (l : Launch) (D : va_G) (C : Nat → ClassId) (A : Nat → Nat) (u : St) (hI : IC u) (sz : Nat) : MetV l yX6_step cX6_step 1 2 [.ref (A 1)] D (tyl C) (cw C A) X0 u sz (fun u' => IC u' ∧ Un [(4, 4), (5, 5), (6, 6), (7, 7)] [] [] u u' ∧ True) := by
  refine mV (by decide) (Nat.le_of_ble_eq_true rfl) ?_
  intro p e s m below meth c ls ar Q hx hb hml hown hts hK hH hX hl hret
  have hown : s.vm.findClass RX6 = some m.cls := hown
  have hl : lv_has ls 1 [(0, .ref (A 1))] := hl
  have lp0_492 : ∀ (n0 : Nat) (ls : Array Slot) (u492 : St) (H : Heap) (locs : List Loc), 800 - (gi u492 5).toInt < (n0 : Int) → Un [(4, 4), (5, 5), (6, 6), (7, 7)] [] [] u u492 → IC u492 → Hd D (cw C A) (va_A (cw C A u) s.heap.size) s.heap u492 H locs → lv_has ls 1 [(0, .ref (A 1))] → W p l e (rmL 2 0 0) s m ar below meth c H locs 0 0 Q (F0 m 0 ls []) := by
    intro n0
    induction n0 with
    | zero => intro ls u492 H locs hmun0 hUu492 hI hH hl; exfalso; have q9 := hI.b5; omega
    | succ n0 ih0_492 =>
      intro ls u492 H locs hmun0 hUu492 hI hH hl
      refine lv_aload_n hx hb dX6_step_0 rfl (lv_at hl 0 rfl) ?_
      refine va_get (ci := 6) (v := .int (gi u492 5)) (C := RX6) (T := TX6) (N := 8) hx hb hts (fun w h => uc_in w (inX6 w h)) hown hK hH.1 1 (cwc1 C A u492) rfl 5 (by decide) (hts _ (uc_in _ q_f41)) (fun _ h9 => h9) rfl dX6_step_1 ?_
      have b494 := hI.b5
      refine lv_aload_n hx hb dX6_step_4 rfl (lv_at hl 0 rfl) ?_
      refine va_get (ci := 6) (v := .int (gi u492 1)) (C := RX6) (T := TX6) (N := 8) hx hb hts (fun w h => uc_in w (inX6 w h)) hown hK hH.1 1 (cwc1 C A u492) rfl 1 (by decide) (hts _ (uc_in _ q_f35)) (fun _ h9 => h9) rfl dX6_step_5 ?_
      have b495 := hI.b1
      have j52_657 : ∀ (ls : Array Slot), lv_has ls 1 [(0, .ref (A 1))] → W p l e (rmL 2 0 0) s m ar below meth c H locs 0 0 Q (F0 m 52 ls []) := by
        intro ls hl
        refine lv_aload_n hx hb dX6_step_52 rfl (lv_at hl 0 rfl) ?_
        refine lv_aload_n hx hb dX6_step_53 rfl (lv_at hl 0 rfl) ?_
        refine va_get (ci := 6) (v := .int (gi u492 5)) (C := RX6) (T := TX6) (N := 8) hx hb hts (fun w h => uc_in w (inX6 w h)) hown hK hH.1 1 (cwc1 C A u492) rfl 5 (by decide) (hts _ (uc_in _ q_f41)) (fun _ h9 => h9) rfl dX6_step_54 ?_
        refine r_put (j := 4) (ci := 6) (C := RX6) (T := TX6) (N := 8) hx hb hts (fun w h => uc_in w (inX6 w h)) tyX6 tyX6_ok nmX6 hown hK hH 1 (cwc1 C A u492) rfl 4 (by decide) (hts _ (uc_in _ q_f40)) (fun _ h9 => h9) rfl (by decide +kernel) (Nat.le_of_ble_eq_true rfl) (cws4 C A u492 _) dX6_step_57 (fun u659 eu659 H locs hH => ?_)
        have hI := hI.s4 eu659 rfl (by omega) (by omega)
        refine lv_aload_n hx hb dX6_step_60 rfl (lv_at hl 0 rfl) ?_
        refine va_get (ci := 6) (v := .int (gi u659 5)) (C := RX6) (T := TX6) (N := 8) hx hb hts (fun w h => uc_in w (inX6 w h)) hown hK hH.1 1 (cwc1 C A u659) rfl 5 (by decide) (hts _ (uc_in _ q_f41)) (fun _ h9 => h9) rfl dX6_step_61 ?_
        refine pv_i (v := (gi u492 5)) ((gi_ne eu659 (by decide)).trans rfl) ?_
        refine lv_aload_n hx hb dX6_step_64 rfl (lv_at hl 0 rfl) ?_
        refine va_get (ci := 6) (v := .int (gi u659 1)) (C := RX6) (T := TX6) (N := 8) hx hb hts (fun w h => uc_in w (inX6 w h)) hown hK hH.1 1 (cwc1 C A u659) rfl 1 (by decide) (hts _ (uc_in _ q_f35)) (fun _ h9 => h9) rfl dX6_step_65 ?_
        refine pv_i (v := (gi u492 1)) ((gi_ne eu659 (by decide)).trans rfl) ?_
        refine lv_icmp_lt (tgt := 79) hx hb dX6_step_68 (by decide) (fun c660 => ?_) (fun c660 => ?_)
        · have c660 := cLT (x := (gi u492 5)) (y := (gi u492 1)) (X := ((gi u492 5)).toInt) (Y := ((gi u492 1)).toInt) rfl rfl c660
          refine lv_aload_n hx hb dX6_step_79 rfl (lv_at hl 0 rfl) ?_
          refine va_get (ci := 6) (v := .ref (A 22)) (C := RX6) (T := TX6) (N := 8) hx hb hts (fun w h => uc_in w (inX6 w h)) hown hK hH.1 1 (cwc1 C A u659) rfl 0 (by decide) (hts _ (uc_in _ q_f33)) (fun _ h9 => h9) rfl dX6_step_80 ?_
          refine lv_aload_n hx hb dX6_step_83 rfl (lv_at hl 0 rfl) ?_
          refine va_get (ci := 6) (v := .int (gi u659 5)) (C := RX6) (T := TX6) (N := 8) hx hb hts (fun w h => uc_in w (inX6 w h)) hown hK hH.1 1 (cwc1 C A u659) rfl 5 (by decide) (hts _ (uc_in _ q_f41)) (fun _ h9 => h9) rfl dX6_step_84 ?_
          refine pv_i (v := (gi u492 5)) ((gi_ne eu659 (by decide)).trans rfl) ?_
          refine va_bald hx hb hK hH.1 22 0 (cwc22 C A u659) rfl (i_ix rfl (by omega) (by omega)) dX6_step_87 ?_
          refine p_any (fun z661 => ?_)
          refine csS (n := 1) (As := [.int z661]) (rest := []) ⟨hx, hb, hml, hown, hts⟩ uc_in (kX6_isLetter_0 l D C A u659 hI z661 z661.toInt rfl) q_m448 q_s449 q_i2 q_c450 hvX6_isLetter ⟨(Nat.le_of_ble_eq_true rfl), (Nat.le_of_ble_eq_true rfl)⟩ ⟨(Nat.le_of_ble_eq_true rfl), (Nat.le_of_ble_eq_true rfl)⟩ hK hH.1 rfl hl.1 rfl (Nat.le_of_ble_eq_true rfl) dX6_step_88 (fun r662 p663 => ?_)
          have p663 : 0 ≤ r662.toInt ∧ r662.toInt ≤ 1 := p663
          refine lv_if_eq (tgt := 138) hx hb dX6_step_91 (by decide) (fun c664 => ?_) (fun c664 => ?_)
          · have c664 := cEQ (x := r662) (y := 0) (X := r662.toInt) (Y := 0) rfl (by decide) c664
            refine lv_aload_n hx hb dX6_step_138 rfl (lv_at hl 0 rfl) ?_
            refine va_get (ci := 6) (v := .ref (A 22)) (C := RX6) (T := TX6) (N := 8) hx hb hts (fun w h => uc_in w (inX6 w h)) hown hK hH.1 1 (cwc1 C A u659) rfl 0 (by decide) (hts _ (uc_in _ q_f33)) (fun _ h9 => h9) rfl dX6_step_139 ?_
            refine lv_aload_n hx hb dX6_step_142 rfl (lv_at hl 0 rfl) ?_
            refine va_get (ci := 6) (v := .int (gi u659 5)) (C := RX6) (T := TX6) (N := 8) hx hb hts (fun w h => uc_in w (inX6 w h)) hown hK hH.1 1 (cwc1 C A u659) rfl 5 (by decide) (hts _ (uc_in _ q_f41)) (fun _ h9 => h9) rfl dX6_step_143 ?_
            refine pv_i (v := (gi u492 5)) ((gi_ne eu659 (by decide)).trans rfl) ?_
            refine va_bald hx hb hK hH.1 22 0 (cwc22 C A u659) rfl (i_ix rfl (by omega) (by omega)) dX6_step_146 ?_
            refine p_any (fun z665 => ?_)
            refine csS (n := 1) (As := [.int z665]) (rest := []) ⟨hx, hb, hml, hown, hts⟩ uc_in (kX6_isDigit_0 l D C A u659 hI z665 z665.toInt rfl) q_m451 q_s452 q_i2 q_c453 hvX6_isDigit ⟨(Nat.le_of_ble_eq_true rfl), (Nat.le_of_ble_eq_true rfl)⟩ ⟨(Nat.le_of_ble_eq_true rfl), (Nat.le_of_ble_eq_true rfl)⟩ hK hH.1 rfl hl.1 rfl (Nat.le_of_ble_eq_true rfl) dX6_step_147 (fun r666 p667 => ?_)
            have p667 : 0 ≤ r666.toInt ∧ r666.toInt ≤ 1 := p667
            refine lv_if_eq (tgt := 231) hx hb dX6_step_150 (by decide) (fun c668 => ?_) (fun c668 => ?_)
            · have c668 := cEQ (x := r666) (y := 0) (X := r666.toInt) (Y := 0) rfl (by decide) c668
              refine lv_aload_n hx hb dX6_step_231 rfl (lv_at hl 0 rfl) ?_
              refine lv_aload_n hx hb dX6_step_232 rfl (lv_at hl 0 rfl) ?_
              refine va_get (ci := 6) (v := .ref (A 22)) (C := RX6) (T := TX6) (N := 8) hx hb hts (fun w h => uc_in w (inX6 w h)) hown hK hH.1 1 (cwc1 C A u659) rfl 0 (by decide) (hts _ (uc_in _ q_f33)) (fun _ h9 => h9) rfl dX6_step_233 ?_
              refine lv_aload_n hx hb dX6_step_236 rfl (lv_at hl 0 rfl) ?_
              refine va_get (ci := 6) (v := .int (gi u659 5)) (C := RX6) (T := TX6) (N := 8) hx hb hts (fun w h => uc_in w (inX6 w h)) hown hK hH.1 1 (cwc1 C A u659) rfl 5 (by decide) (hts _ (uc_in _ q_f41)) (fun _ h9 => h9) rfl dX6_step_237 ?_
              refine pv_i (v := (gi u492 5)) ((gi_ne eu659 (by decide)).trans rfl) ?_
              refine va_bald hx hb hK hH.1 22 0 (cwc22 C A u659) rfl (i_ix rfl (by omega) (by omega)) dX6_step_240 ?_
              refine p_any (fun z669 => ?_)
              refine lv_bipush (v := 59) hx hb dX6_step_241 (by decide) ?_
              have j251_675 : ∀ (ls : Array Slot) (y671d : Int32), 1 ≤ y671d.toInt → y671d.toInt ≤ 4 → lv_has ls 1 [(0, .ref (A 1))] → W p l e (rmL 2 0 0) s m ar below meth c H locs 0 0 Q (F0 m 251 ls [.int y671d, .ref (A 1)]) := by
                intro ls y671d ly671d my671d hl
                refine r_put (j := 6) (ci := 6) (C := RX6) (T := TX6) (N := 8) hx hb hts (fun w h => uc_in w (inX6 w h)) tyX6 tyX6_ok nmX6 hown hK hH 1 (cwc1 C A u659) rfl 6 (by decide) (hts _ (uc_in _ q_f42)) (fun _ h9 => h9) rfl (by decide +kernel) (Nat.le_of_ble_eq_true rfl) (cws6 C A u659 _) dX6_step_251 (fun u677 eu677 H locs hH => ?_)
                have hI := hI.pi0 eu677 rfl (by decide) (by decide)
                refine lv_aload_n hx hb dX6_step_254 rfl (lv_at hl 0 rfl) ?_
                refine lv_dup hx hb dX6_step_255 rfl ?_
                refine va_get (ci := 6) (v := .int (gi u677 5)) (C := RX6) (T := TX6) (N := 8) hx hb hts (fun w h => uc_in w (inX6 w h)) hown hK hH.1 1 (cwc1 C A u677) rfl 5 (by decide) (hts _ (uc_in _ q_f41)) (fun _ h9 => h9) rfl dX6_step_256 ?_
                refine pv_i (v := (gi u492 5)) ((gi_ne eu677 (by decide)).trans ((gi_ne eu659 (by decide)).trans rfl)) ?_
                refine lv_iconst (v := 1) hx hb dX6_step_259 (by decide) ?_
                refine lv_iadd hx hb dX6_step_260 ?_
                refine p_nm (tt_add (X := ((gi u492 5)).toInt) (Y := 1) rfl (by decide) (by omega) (by omega)) (fun z678 hz678 => ?_)
                refine r_put (j := 5) (ci := 6) (C := RX6) (T := TX6) (N := 8) hx hb hts (fun w h => uc_in w (inX6 w h)) tyX6 tyX6_ok nmX6 hown hK hH 1 (cwc1 C A u677) rfl 5 (by decide) (hts _ (uc_in _ q_f41)) (fun _ h9 => h9) rfl (by decide +kernel) (Nat.le_of_ble_eq_true rfl) (cws5 C A u677 _) dX6_step_261 (fun u679 eu679 H locs hH => ?_)
                have hI := hI.s5 eu679 hz678 (by omega) (by omega)
                exact hret _ _ _ _ _ dX6_step_264 ⟨hI, (Un.si (Un.si (Un.si (Un.tr Un.rf hUu492 rfl rfl rfl) rfl eu659) rfl eu677) rfl eu679), trivial⟩ hH
              refine lv_icmp_ne (tgt := 250) hx hb dX6_step_243 (by decide) (fun c670 => ?_) (fun c670 => ?_)
              · refine lv_iconst (v := 4) hx hb dX6_step_250 (by decide) ?_
                exact j251_675 ls 4 (by decide) (by decide) hl
              · have c670 := cEQ (x := z669) (y := 59) (X := z669.toInt) (Y := 59) rfl (by decide) c670
                refine lv_iconst (v := 1) hx hb dX6_step_246 (by decide) ?_
                refine lv_goto (tgt := 251) hx hb dX6_step_247 (by decide) ?_
                exact j251_675 ls 1 (by decide) (by decide) hl
            · have c668 := cNE (x := r666) (y := 0) (X := r666.toInt) (Y := 0) rfl (by decide) c668
              refine lv_aload_n hx hb dX6_step_153 rfl (lv_at hl 0 rfl) ?_
              refine lv_iconst (v := 3) hx hb dX6_step_154 (by decide) ?_
              refine r_put (j := 6) (ci := 6) (C := RX6) (T := TX6) (N := 8) hx hb hts (fun w h => uc_in w (inX6 w h)) tyX6 tyX6_ok nmX6 hown hK hH 1 (cwc1 C A u659) rfl 6 (by decide) (hts _ (uc_in _ q_f42)) (fun _ h9 => h9) rfl (by decide +kernel) (Nat.le_of_ble_eq_true rfl) (cws6 C A u659 _) dX6_step_155 (fun u680 eu680 H locs hH => ?_)
              have hI := hI.pi0 eu680 rfl (by decide) (by decide)
              refine lv_aload_n hx hb dX6_step_158 rfl (lv_at hl 0 rfl) ?_
              refine lv_iconst (v := 0) hx hb dX6_step_159 (by decide) ?_
              refine r_put (j := 7) (ci := 6) (C := RX6) (T := TX6) (N := 8) hx hb hts (fun w h => uc_in w (inX6 w h)) tyX6 tyX6_ok nmX6 hown hK hH 1 (cwc1 C A u680) rfl 7 (by decide) (hts _ (uc_in _ q_f43)) (fun _ h9 => h9) rfl (by decide +kernel) (Nat.le_of_ble_eq_true rfl) (cws7 C A u680 _) dX6_step_160 (fun u681 eu681 H locs hH => ?_)
              have hI := hI.pi0 eu681 rfl (by decide) (by decide)
              have lp163_753 : ∀ (n163 : Nat) (ls : Array Slot) (u753 : St) (H : Heap) (locs : List Loc), 800 - (gi u753 5).toInt < (n163 : Int) → Un [(5, 5), (7, 7)] [] [] u681 u753 → IC u753 → Hd D (cw C A) (va_A (cw C A u) s.heap.size) s.heap u753 H locs → lv_has ls 1 [(0, .ref (A 1))] → W p l e (rmL 2 0 0) s m ar below meth c H locs 0 0 Q (F0 m 163 ls []) := by
                intro n163
                induction n163 with
                | zero => intro ls u753 H locs hmun163 hUu753 hI hH hl; exfalso; have q9 := hI.b5; omega
                | succ n163 ih163_753 =>
                  intro ls u753 H locs hmun163 hUu753 hI hH hl
                  refine lv_aload_n hx hb dX6_step_163 rfl (lv_at hl 0 rfl) ?_
                  refine va_get (ci := 6) (v := .int (gi u753 5)) (C := RX6) (T := TX6) (N := 8) hx hb hts (fun w h => uc_in w (inX6 w h)) hown hK hH.1 1 (cwc1 C A u753) rfl 5 (by decide) (hts _ (uc_in _ q_f41)) (fun _ h9 => h9) rfl dX6_step_164 ?_
                  have b755 := hI.b5
                  refine lv_aload_n hx hb dX6_step_167 rfl (lv_at hl 0 rfl) ?_
                  refine va_get (ci := 6) (v := .int (gi u753 1)) (C := RX6) (T := TX6) (N := 8) hx hb hts (fun w h => uc_in w (inX6 w h)) hown hK hH.1 1 (cwc1 C A u753) rfl 1 (by decide) (hts _ (uc_in _ q_f35)) (fun _ h9 => h9) rfl dX6_step_168 ?_
                  refine pv_i (v := (gi u492 1)) ((hUu753.1 1 rfl).trans ((gi_ne eu681 (by decide)).trans ((gi_ne eu680 (by decide)).trans ((gi_ne eu659 (by decide)).trans rfl)))) ?_
                  refine lv_icmp_ge (tgt := 264) hx hb dX6_step_171 (by decide) (fun c756 => ?_) (fun c756 => ?_)
                  · have c756 := cLE (x := (gi u492 1)) (y := (gi u753 5)) (X := ((gi u492 1)).toInt) (Y := ((gi u753 5)).toInt) rfl rfl c756
                    exact hret _ _ _ _ _ dX6_step_264 ⟨hI, (Un.tr (Un.si (Un.si (Un.si (Un.tr Un.rf hUu492 rfl rfl rfl) rfl eu659) rfl eu680) rfl eu681) hUu753 rfl rfl rfl), trivial⟩ hH
                  · have c756 := cNLE (x := (gi u492 1)) (y := (gi u753 5)) (X := ((gi u492 1)).toInt) (Y := ((gi u753 5)).toInt) rfl rfl c756
                    refine lv_aload_n hx hb dX6_step_174 rfl (lv_at hl 0 rfl) ?_
                    refine va_get (ci := 6) (v := .ref (A 22)) (C := RX6) (T := TX6) (N := 8) hx hb hts (fun w h => uc_in w (inX6 w h)) hown hK hH.1 1 (cwc1 C A u753) rfl 0 (by decide) (hts _ (uc_in _ q_f33)) (fun _ h9 => h9) rfl dX6_step_175 ?_
                    refine lv_aload_n hx hb dX6_step_178 rfl (lv_at hl 0 rfl) ?_
                    refine va_get (ci := 6) (v := .int (gi u753 5)) (C := RX6) (T := TX6) (N := 8) hx hb hts (fun w h => uc_in w (inX6 w h)) hown hK hH.1 1 (cwc1 C A u753) rfl 5 (by decide) (hts _ (uc_in _ q_f41)) (fun _ h9 => h9) rfl dX6_step_179 ?_
                    refine va_bald hx hb hK hH.1 22 0 (cwc22 C A u753) rfl (i_ix rfl (by omega) (by omega)) dX6_step_182 ?_
                    refine p_any (fun z757 => ?_)
                    refine csS (n := 1) (As := [.int z757]) (rest := []) ⟨hx, hb, hml, hown, hts⟩ uc_in (kX6_isDigit_0 l D C A u753 hI z757 z757.toInt rfl) q_m451 q_s452 q_i2 q_c453 hvX6_isDigit ⟨(Nat.le_of_ble_eq_true rfl), (Nat.le_of_ble_eq_true rfl)⟩ ⟨(Nat.le_of_ble_eq_true rfl), (Nat.le_of_ble_eq_true rfl)⟩ hK hH.1 rfl hl.1 rfl (Nat.le_of_ble_eq_true rfl) dX6_step_183 (fun r758 p759 => ?_)
                    have p759 : 0 ≤ r758.toInt ∧ r758.toInt ≤ 1 := p759
                    refine lv_if_eq (tgt := 264) hx hb dX6_step_186 (by decide) (fun c760 => ?_) (fun c760 => ?_)
                    · have c760 := cEQ (x := r758) (y := 0) (X := r758.toInt) (Y := 0) rfl (by decide) c760
                      exact hret _ _ _ _ _ dX6_step_264 ⟨hI, (Un.tr (Un.si (Un.si (Un.si (Un.tr Un.rf hUu492 rfl rfl rfl) rfl eu659) rfl eu680) rfl eu681) hUu753 rfl rfl rfl), trivial⟩ hH
                    · have c760 := cNE (x := r758) (y := 0) (X := r758.toInt) (Y := 0) rfl (by decide) c760
                      refine lv_aload_n hx hb dX6_step_189 rfl (lv_at hl 0 rfl) ?_
                      refine lv_ldc (v := 100000) hx hb hown (hts _ (uc_in _ q_k454)) dX6_step_190 ?_
                      refine lv_bipush (v := 10) hx hb dX6_step_192 (by decide) ?_
                      refine lv_aload_n hx hb dX6_step_194 rfl (lv_at hl 0 rfl) ?_
                      refine va_get (ci := 6) (v := .int (gi u753 7)) (C := RX6) (T := TX6) (N := 8) hx hb hts (fun w h => uc_in w (inX6 w h)) hown hK hH.1 1 (cwc1 C A u753) rfl 7 (by decide) (hts _ (uc_in _ q_f43)) (fun _ h9 => h9) rfl dX6_step_195 ?_
                      refine lv_imul hx hb dX6_step_198 ?_
                      refine p_any (fun z761 => ?_)
                      refine lv_aload_n hx hb dX6_step_199 rfl (lv_at hl 0 rfl) ?_
                      refine va_get (ci := 6) (v := .ref (A 22)) (C := RX6) (T := TX6) (N := 8) hx hb hts (fun w h => uc_in w (inX6 w h)) hown hK hH.1 1 (cwc1 C A u753) rfl 0 (by decide) (hts _ (uc_in _ q_f33)) (fun _ h9 => h9) rfl dX6_step_200 ?_
                      refine lv_aload_n hx hb dX6_step_203 rfl (lv_at hl 0 rfl) ?_
                      refine va_get (ci := 6) (v := .int (gi u753 5)) (C := RX6) (T := TX6) (N := 8) hx hb hts (fun w h => uc_in w (inX6 w h)) hown hK hH.1 1 (cwc1 C A u753) rfl 5 (by decide) (hts _ (uc_in _ q_f41)) (fun _ h9 => h9) rfl dX6_step_204 ?_
                      refine va_bald hx hb hK hH.1 22 0 (cwc22 C A u753) rfl (i_ix rfl (by omega) (by omega)) dX6_step_207 ?_
                      refine p_any (fun z762 => ?_)
                      refine lv_iadd hx hb dX6_step_208 ?_
                      refine p_any (fun z763 => ?_)
                      refine lv_bipush (v := 48) hx hb dX6_step_209 (by decide) ?_
                      refine lv_isub hx hb dX6_step_211 ?_
                      refine p_any (fun z764 => ?_)
                      refine va_mmin hx hb (by rw [hml]; exact hl.1.symm) hown (hts _ (uc_in _ q_m455)) (hts _ (uc_in _ q_s456)) (hts _ (uc_in _ q_i12)) (hts _ (uc_in _ q_c457)) (Nat.le_of_ble_eq_true rfl) (Nat.le_of_ble_eq_true rfl) (Nat.le_of_ble_eq_true rfl) (Nat.le_of_ble_eq_true rfl) dX6_step_212 ?_
                      refine p_bd (P := fun q => True ∧ q ≤ 100000) (by rcases tt_min (x := 100000) (y := z764) with q9 | q9 <;> rw [q9.1] <;> refine ⟨?_, ?_⟩ <;> first | trivial | (have q7 := (show (100000 : Int32).toInt = 100000 from (by decide)); have q8 := (show z764.toInt = z764.toInt from rfl); omega)) (fun z765 bz765 => ?_)
                      have bz765 : True ∧ z765.toInt ≤ 100000 := bz765
                      refine r_put (j := 7) (ci := 6) (C := RX6) (T := TX6) (N := 8) hx hb hts (fun w h => uc_in w (inX6 w h)) tyX6 tyX6_ok nmX6 hown hK hH 1 (cwc1 C A u753) rfl 7 (by decide) (hts _ (uc_in _ q_f43)) (fun _ h9 => h9) rfl (by decide +kernel) (Nat.le_of_ble_eq_true rfl) (cws7 C A u753 _) dX6_step_215 (fun u766 eu766 H locs hH => ?_)
                      have hI := hI.pi0 eu766 rfl (by decide) (by decide)
                      refine lv_aload_n hx hb dX6_step_218 rfl (lv_at hl 0 rfl) ?_
                      refine lv_dup hx hb dX6_step_219 rfl ?_
                      refine va_get (ci := 6) (v := .int (gi u766 5)) (C := RX6) (T := TX6) (N := 8) hx hb hts (fun w h => uc_in w (inX6 w h)) hown hK hH.1 1 (cwc1 C A u766) rfl 5 (by decide) (hts _ (uc_in _ q_f41)) (fun _ h9 => h9) rfl dX6_step_220 ?_
                      refine pv_i (v := (gi u753 5)) ((gi_ne eu766 (by decide)).trans rfl) ?_
                      refine lv_iconst (v := 1) hx hb dX6_step_223 (by decide) ?_
                      refine lv_iadd hx hb dX6_step_224 ?_
                      refine p_nm (tt_add (X := ((gi u753 5)).toInt) (Y := 1) rfl (by decide) (by omega) (by omega)) (fun z767 hz767 => ?_)
                      refine r_put (j := 5) (ci := 6) (C := RX6) (T := TX6) (N := 8) hx hb hts (fun w h => uc_in w (inX6 w h)) tyX6 tyX6_ok nmX6 hown hK hH 1 (cwc1 C A u766) rfl 5 (by decide) (hts _ (uc_in _ q_f41)) (fun _ h9 => h9) rfl (by decide +kernel) (Nat.le_of_ble_eq_true rfl) (cws5 C A u766 _) dX6_step_225 (fun u768 eu768 H locs hH => ?_)
                      have hI := hI.s5 eu768 hz767 (by omega) (by omega)
                      refine lv_goto (tgt := 163) hx hb dX6_step_228 (by decide) ?_
                      exact ih163_753 ls u768 _ _ (by have q8 := hI.b5; have q9 : (gi u768 5).toInt = (((gi u753 5)).toInt + 1) := (congrArg Int32.toInt (gi_si eu768)).trans hz767; omega) (Un.si (Un.si hUu753 rfl eu766) rfl eu768) hI hH hl
              exact lp163_753 801 ls u681 _ _ (by have q8 := hI.b5; have q9 : (gi u681 5).toInt = ((gi u492 5)).toInt := (congrArg Int32.toInt ((gi_ne eu681 (by decide)).trans ((gi_ne eu680 (by decide)).trans ((gi_ne eu659 (by decide)).trans rfl)))).trans rfl; omega) Un.rf hI hH hl
          · have c664 := cNE (x := r662) (y := 0) (X := r662.toInt) (Y := 0) rfl (by decide) c664
            refine lv_aload_n hx hb dX6_step_94 rfl (lv_at hl 0 rfl) ?_
            refine lv_iconst (v := 2) hx hb dX6_step_95 (by decide) ?_
            refine r_put (j := 6) (ci := 6) (C := RX6) (T := TX6) (N := 8) hx hb hts (fun w h => uc_in w (inX6 w h)) tyX6 tyX6_ok nmX6 hown hK hH 1 (cwc1 C A u659) rfl 6 (by decide) (hts _ (uc_in _ q_f42)) (fun _ h9 => h9) rfl (by decide +kernel) (Nat.le_of_ble_eq_true rfl) (cws6 C A u659 _) dX6_step_96 (fun u769 eu769 H locs hH => ?_)
            have hI := hI.pi0 eu769 rfl (by decide) (by decide)
            have lp99_811 : ∀ (n99 : Nat) (ls : Array Slot) (u811 : St) (H : Heap) (locs : List Loc), 800 - (gi u811 5).toInt < (n99 : Int) → Un [(5, 5)] [] [] u769 u811 → IC u811 → Hd D (cw C A) (va_A (cw C A u) s.heap.size) s.heap u811 H locs → lv_has ls 1 [(0, .ref (A 1))] → W p l e (rmL 2 0 0) s m ar below meth c H locs 0 0 Q (F0 m 99 ls []) := by
              intro n99
              induction n99 with
              | zero => intro ls u811 H locs hmun99 hUu811 hI hH hl; exfalso; have q9 := hI.b5; omega
              | succ n99 ih99_811 =>
                intro ls u811 H locs hmun99 hUu811 hI hH hl
                refine lv_aload_n hx hb dX6_step_99 rfl (lv_at hl 0 rfl) ?_
                refine va_get (ci := 6) (v := .int (gi u811 5)) (C := RX6) (T := TX6) (N := 8) hx hb hts (fun w h => uc_in w (inX6 w h)) hown hK hH.1 1 (cwc1 C A u811) rfl 5 (by decide) (hts _ (uc_in _ q_f41)) (fun _ h9 => h9) rfl dX6_step_100 ?_
                have b813 := hI.b5
                refine lv_aload_n hx hb dX6_step_103 rfl (lv_at hl 0 rfl) ?_
                refine va_get (ci := 6) (v := .int (gi u811 1)) (C := RX6) (T := TX6) (N := 8) hx hb hts (fun w h => uc_in w (inX6 w h)) hown hK hH.1 1 (cwc1 C A u811) rfl 1 (by decide) (hts _ (uc_in _ q_f35)) (fun _ h9 => h9) rfl dX6_step_104 ?_
                refine pv_i (v := (gi u492 1)) ((hUu811.1 1 rfl).trans ((gi_ne eu769 (by decide)).trans ((gi_ne eu659 (by decide)).trans rfl))) ?_
                refine lv_icmp_ge (tgt := 264) hx hb dX6_step_107 (by decide) (fun c814 => ?_) (fun c814 => ?_)
                · have c814 := cLE (x := (gi u492 1)) (y := (gi u811 5)) (X := ((gi u492 1)).toInt) (Y := ((gi u811 5)).toInt) rfl rfl c814
                  exact hret _ _ _ _ _ dX6_step_264 ⟨hI, (Un.tr (Un.si (Un.si (Un.tr Un.rf hUu492 rfl rfl rfl) rfl eu659) rfl eu769) hUu811 rfl rfl rfl), trivial⟩ hH
                · have c814 := cNLE (x := (gi u492 1)) (y := (gi u811 5)) (X := ((gi u492 1)).toInt) (Y := ((gi u811 5)).toInt) rfl rfl c814
                  refine lv_aload_n hx hb dX6_step_110 rfl (lv_at hl 0 rfl) ?_
                  refine va_get (ci := 6) (v := .ref (A 22)) (C := RX6) (T := TX6) (N := 8) hx hb hts (fun w h => uc_in w (inX6 w h)) hown hK hH.1 1 (cwc1 C A u811) rfl 0 (by decide) (hts _ (uc_in _ q_f33)) (fun _ h9 => h9) rfl dX6_step_111 ?_
                  refine lv_aload_n hx hb dX6_step_114 rfl (lv_at hl 0 rfl) ?_
                  refine va_get (ci := 6) (v := .int (gi u811 5)) (C := RX6) (T := TX6) (N := 8) hx hb hts (fun w h => uc_in w (inX6 w h)) hown hK hH.1 1 (cwc1 C A u811) rfl 5 (by decide) (hts _ (uc_in _ q_f41)) (fun _ h9 => h9) rfl dX6_step_115 ?_
                  refine va_bald hx hb hK hH.1 22 0 (cwc22 C A u811) rfl (i_ix rfl (by omega) (by omega)) dX6_step_118 ?_
                  refine p_any (fun z815 => ?_)
                  refine csS (n := 1) (As := [.int z815]) (rest := []) ⟨hx, hb, hml, hown, hts⟩ uc_in (kX6_isLetter_0 l D C A u811 hI z815 z815.toInt rfl) q_m448 q_s449 q_i2 q_c450 hvX6_isLetter ⟨(Nat.le_of_ble_eq_true rfl), (Nat.le_of_ble_eq_true rfl)⟩ ⟨(Nat.le_of_ble_eq_true rfl), (Nat.le_of_ble_eq_true rfl)⟩ hK hH.1 rfl hl.1 rfl (Nat.le_of_ble_eq_true rfl) dX6_step_119 (fun r816 p817 => ?_)
                  have p817 : 0 ≤ r816.toInt ∧ r816.toInt ≤ 1 := p817
                  refine lv_if_eq (tgt := 264) hx hb dX6_step_122 (by decide) (fun c818 => ?_) (fun c818 => ?_)
                  · have c818 := cEQ (x := r816) (y := 0) (X := r816.toInt) (Y := 0) rfl (by decide) c818
                    exact hret _ _ _ _ _ dX6_step_264 ⟨hI, (Un.tr (Un.si (Un.si (Un.tr Un.rf hUu492 rfl rfl rfl) rfl eu659) rfl eu769) hUu811 rfl rfl rfl), trivial⟩ hH
                  · have c818 := cNE (x := r816) (y := 0) (X := r816.toInt) (Y := 0) rfl (by decide) c818
                    refine lv_aload_n hx hb dX6_step_125 rfl (lv_at hl 0 rfl) ?_
                    refine lv_dup hx hb dX6_step_126 rfl ?_
                    refine va_get (ci := 6) (v := .int (gi u811 5)) (C := RX6) (T := TX6) (N := 8) hx hb hts (fun w h => uc_in w (inX6 w h)) hown hK hH.1 1 (cwc1 C A u811) rfl 5 (by decide) (hts _ (uc_in _ q_f41)) (fun _ h9 => h9) rfl dX6_step_127 ?_
                    refine lv_iconst (v := 1) hx hb dX6_step_130 (by decide) ?_
                    refine lv_iadd hx hb dX6_step_131 ?_
                    refine p_nm (tt_add (X := ((gi u811 5)).toInt) (Y := 1) rfl (by decide) (by omega) (by omega)) (fun z819 hz819 => ?_)
                    refine r_put (j := 5) (ci := 6) (C := RX6) (T := TX6) (N := 8) hx hb hts (fun w h => uc_in w (inX6 w h)) tyX6 tyX6_ok nmX6 hown hK hH 1 (cwc1 C A u811) rfl 5 (by decide) (hts _ (uc_in _ q_f41)) (fun _ h9 => h9) rfl (by decide +kernel) (Nat.le_of_ble_eq_true rfl) (cws5 C A u811 _) dX6_step_132 (fun u820 eu820 H locs hH => ?_)
                    have hI := hI.s5 eu820 hz819 (by omega) (by omega)
                    refine lv_goto (tgt := 99) hx hb dX6_step_135 (by decide) ?_
                    exact ih99_811 ls u820 _ _ (by have q8 := hI.b5; have q9 : (gi u820 5).toInt = (((gi u811 5)).toInt + 1) := (congrArg Int32.toInt (gi_si eu820)).trans hz819; omega) (Un.si hUu811 rfl eu820) hI hH hl
            exact lp99_811 801 ls u769 _ _ (by have q8 := hI.b5; have q9 : (gi u769 5).toInt = ((gi u492 5)).toInt := (congrArg Int32.toInt ((gi_ne eu769 (by decide)).trans ((gi_ne eu659 (by decide)).trans rfl))).trans rfl; omega) Un.rf hI hH hl
        · have c660 := cNLT (x := (gi u492 5)) (y := (gi u492 1)) (X := ((gi u492 5)).toInt) (Y := ((gi u492 1)).toInt) rfl rfl c660
          refine lv_aload_n hx hb dX6_step_71 rfl (lv_at hl 0 rfl) ?_
          refine lv_iconst (v := 0) hx hb dX6_step_72 (by decide) ?_
          refine r_put (j := 6) (ci := 6) (C := RX6) (T := TX6) (N := 8) hx hb hts (fun w h => uc_in w (inX6 w h)) tyX6 tyX6_ok nmX6 hown hK hH 1 (cwc1 C A u659) rfl 6 (by decide) (hts _ (uc_in _ q_f42)) (fun _ h9 => h9) rfl (by decide +kernel) (Nat.le_of_ble_eq_true rfl) (cws6 C A u659 _) dX6_step_73 (fun u821 eu821 H locs hH => ?_)
          have hI := hI.pi0 eu821 rfl (by decide) (by decide)
          refine lv_goto (tgt := 264) hx hb dX6_step_76 (by decide) ?_
          exact hret _ _ _ _ _ dX6_step_264 ⟨hI, (Un.si (Un.si (Un.tr Un.rf hUu492 rfl rfl rfl) rfl eu659) rfl eu821), trivial⟩ hH
      refine lv_icmp_ge (tgt := 52) hx hb dX6_step_8 (by decide) (fun c496 => ?_) (fun c496 => ?_)
      · have c496 := cLE (x := (gi u492 1)) (y := (gi u492 5)) (X := ((gi u492 1)).toInt) (Y := ((gi u492 5)).toInt) rfl rfl c496
        exact j52_657 ls hl
      · have c496 := cNLE (x := (gi u492 1)) (y := (gi u492 5)) (X := ((gi u492 1)).toInt) (Y := ((gi u492 5)).toInt) rfl rfl c496
        refine lv_aload_n hx hb dX6_step_11 rfl (lv_at hl 0 rfl) ?_
        refine va_get (ci := 6) (v := .ref (A 22)) (C := RX6) (T := TX6) (N := 8) hx hb hts (fun w h => uc_in w (inX6 w h)) hown hK hH.1 1 (cwc1 C A u492) rfl 0 (by decide) (hts _ (uc_in _ q_f33)) (fun _ h9 => h9) rfl dX6_step_12 ?_
        refine lv_aload_n hx hb dX6_step_15 rfl (lv_at hl 0 rfl) ?_
        refine va_get (ci := 6) (v := .int (gi u492 5)) (C := RX6) (T := TX6) (N := 8) hx hb hts (fun w h => uc_in w (inX6 w h)) hown hK hH.1 1 (cwc1 C A u492) rfl 5 (by decide) (hts _ (uc_in _ q_f41)) (fun _ h9 => h9) rfl dX6_step_16 ?_
        refine va_bald hx hb hK hH.1 22 0 (cwc22 C A u492) rfl (i_ix rfl (by omega) (by omega)) dX6_step_19 ?_
        refine p_any (fun z822 => ?_)
        refine lv_bipush (v := 32) hx hb dX6_step_20 (by decide) ?_
        have j39_828 : ∀ (ls : Array Slot), lv_has ls 1 [(0, .ref (A 1))] → W p l e (rmL 2 0 0) s m ar below meth c H locs 0 0 Q (F0 m 39 ls []) := by
          intro ls hl
          refine lv_aload_n hx hb dX6_step_39 rfl (lv_at hl 0 rfl) ?_
          refine lv_dup hx hb dX6_step_40 rfl ?_
          refine va_get (ci := 6) (v := .int (gi u492 5)) (C := RX6) (T := TX6) (N := 8) hx hb hts (fun w h => uc_in w (inX6 w h)) hown hK hH.1 1 (cwc1 C A u492) rfl 5 (by decide) (hts _ (uc_in _ q_f41)) (fun _ h9 => h9) rfl dX6_step_41 ?_
          refine lv_iconst (v := 1) hx hb dX6_step_44 (by decide) ?_
          refine lv_iadd hx hb dX6_step_45 ?_
          refine p_nm (tt_add (X := ((gi u492 5)).toInt) (Y := 1) rfl (by decide) (by omega) (by omega)) (fun z830 hz830 => ?_)
          refine r_put (j := 5) (ci := 6) (C := RX6) (T := TX6) (N := 8) hx hb hts (fun w h => uc_in w (inX6 w h)) tyX6 tyX6_ok nmX6 hown hK hH 1 (cwc1 C A u492) rfl 5 (by decide) (hts _ (uc_in _ q_f41)) (fun _ h9 => h9) rfl (by decide +kernel) (Nat.le_of_ble_eq_true rfl) (cws5 C A u492 _) dX6_step_46 (fun u831 eu831 H locs hH => ?_)
          have hI := hI.s5 eu831 hz830 (by omega) (by omega)
          refine lv_goto (tgt := 0) hx hb dX6_step_49 (by decide) ?_
          exact ih0_492 ls u831 _ _ (by have q8 := hI.b5; have q9 : (gi u831 5).toInt = (((gi u492 5)).toInt + 1) := (congrArg Int32.toInt (gi_si eu831)).trans hz830; omega) (Un.si hUu492 rfl eu831) hI hH hl
        refine lv_icmp_eq (tgt := 39) hx hb dX6_step_22 (by decide) (fun c823 => ?_) (fun c823 => ?_)
        · have c823 := cEQ (x := z822) (y := 32) (X := z822.toInt) (Y := 32) rfl (by decide) c823
          exact j39_828 ls hl
        · refine lv_aload_n hx hb dX6_step_25 rfl (lv_at hl 0 rfl) ?_
          refine va_get (ci := 6) (v := .ref (A 22)) (C := RX6) (T := TX6) (N := 8) hx hb hts (fun w h => uc_in w (inX6 w h)) hown hK hH.1 1 (cwc1 C A u492) rfl 0 (by decide) (hts _ (uc_in _ q_f33)) (fun _ h9 => h9) rfl dX6_step_26 ?_
          refine lv_aload_n hx hb dX6_step_29 rfl (lv_at hl 0 rfl) ?_
          refine va_get (ci := 6) (v := .int (gi u492 5)) (C := RX6) (T := TX6) (N := 8) hx hb hts (fun w h => uc_in w (inX6 w h)) hown hK hH.1 1 (cwc1 C A u492) rfl 5 (by decide) (hts _ (uc_in _ q_f41)) (fun _ h9 => h9) rfl dX6_step_30 ?_
          refine va_bald hx hb hK hH.1 22 0 (cwc22 C A u492) rfl (i_ix rfl (by omega) (by omega)) dX6_step_33 ?_
          refine p_any (fun z832 => ?_)
          refine lv_bipush (v := 10) hx hb dX6_step_34 (by decide) ?_
          refine lv_icmp_ne (tgt := 52) hx hb dX6_step_36 (by decide) (fun c833 => ?_) (fun c833 => ?_)
          · exact j52_657 ls hl
          · have c833 := cEQ (x := z832) (y := 10) (X := z832.toInt) (Y := 10) rfl (by decide) c833
            exact j39_828 ls hl
  exact lp0_492 801 ls u _ _ (by have q8 := hI.b5; omega) Un.rf hI hH hl
set_option maxHeartbeats 4000000 in
set_option maxRecDepth 100000 in
theorem kX6_isWord_0 (l : Launch) (D : va_G) (C : Nat → ClassId) (A : Nat → Nat) (u : St) (hI : IC u) (adK adV : Nat → Nat) (sz : Nat) : MetI l yX6_isWord cX6_isWord 3 (some .boolean) 5 [.ref (A 1), .ref (adK 4)] D (tyl C) (cw C A) (XS adK adV) u sz (fun r u' => IC u' ∧ Un [] [] [] u u' ∧ (0 ≤ r.toInt ∧ r.toInt ≤ 1)) := by
  refine mI (by decide) (Nat.le_of_ble_eq_true rfl) ?_
  intro p e s m below meth c ls ar Q hx hb hml hown hts hK hH hX hl hret
  have hown : s.vm.findClass RX6 = some m.cls := hown
  have hl : lv_has ls 3 [(0, .ref (A 1)), (1, .ref (adK 4))] := hl
  refine lv_aload_n hx hb dX6_isWord_0 rfl (lv_at hl 0 rfl) ?_
  refine va_get (ci := 6) (v := .int (gi u 6)) (C := RX6) (T := TX6) (N := 8) hx hb hts (fun w h => uc_in w (inX6 w h)) hown hK hH.1 1 (cwc1 C A u) rfl 6 (by decide) (hts _ (uc_in _ q_f42)) (fun _ h9 => h9) rfl dX6_isWord_1 ?_
  refine lv_iconst (v := 2) hx hb dX6_isWord_4 (by decide) ?_
  refine lv_icmp_ne (tgt := 24) hx hb dX6_isWord_5 (by decide) (fun c1 => ?_) (fun c1 => ?_)
  · refine lv_iconst (v := 0) hx hb dX6_isWord_24 (by decide) ?_
    exact hret _ _ _ _ (0 : Int32) _ dX6_isWord_25 rfl ⟨hI, Un.rf, ⟨by decide, by decide⟩⟩ hH
  · have c1 := cEQ (x := (gi u 6)) (y := 2) (X := ((gi u 6)).toInt) (Y := 2) rfl (by decide) c1
    refine lv_aload_n hx hb dX6_isWord_8 rfl (lv_at hl 0 rfl) ?_
    refine va_get (ci := 6) (v := .int (gi u 5)) (C := RX6) (T := TX6) (N := 8) hx hb hts (fun w h => uc_in w (inX6 w h)) hown hK hH.1 1 (cwc1 C A u) rfl 5 (by decide) (hts _ (uc_in _ q_f41)) (fun _ h9 => h9) rfl dX6_isWord_9 ?_
    have b2 := hI.b5
    refine lv_aload_n hx hb dX6_isWord_12 rfl (lv_at hl 0 rfl) ?_
    refine va_get (ci := 6) (v := .int (gi u 4)) (C := RX6) (T := TX6) (N := 8) hx hb hts (fun w h => uc_in w (inX6 w h)) hown hK hH.1 1 (cwc1 C A u) rfl 4 (by decide) (hts _ (uc_in _ q_f40)) (fun _ h9 => h9) rfl dX6_isWord_13 ?_
    have b3 := hI.b4
    refine lv_isub hx hb dX6_isWord_16 ?_
    refine p_nm (tt_sub (X := ((gi u 5)).toInt) (Y := ((gi u 4)).toInt) rfl rfl (by omega) (by omega)) (fun z4 hz4 => ?_)
    refine lv_aload_n hx hb dX6_isWord_17 rfl (lv_at hl 1 rfl) ?_
    refine cvT (n := 0) (As := []) (rest := [.int z4]) ⟨hx, hb, hml, hown, hts⟩ uc_in (kT_length l adK adV 4 (by decide)) blT q_m475 q_n476 q_e477 q_i13 q_c478 hvJ0_length_8abf5 ⟨(Nat.le_of_ble_eq_true rfl), (Nat.le_of_ble_eq_true rfl)⟩ ⟨(Nat.le_of_ble_eq_true rfl), (Nat.le_of_ble_eq_true rfl)⟩ (vk_recv hX.1 (show 4 < 14 by decide) hH.2.2) (fun U hU hW => hX.now hH hW hU) rfl hl.1 rfl (Nat.le_of_ble_eq_true rfl) dX6_isWord_18 (fun r5 p6 => ?_)
    have p6 : r5 = 5 := p6.trans (by decide)
    subst p6
    refine lv_icmp_eq (tgt := 26) hx hb dX6_isWord_21 (by decide) (fun c7 => ?_) (fun c7 => ?_)
    · have c7 := cEQ (x := z4) (y := 5) (X := (((gi u 5)).toInt - ((gi u 4)).toInt)) (Y := 5) hz4 (by decide) c7
      refine lv_iconst (v := 0) hx hb dX6_isWord_26 (by decide) ?_
      refine lv_istore_n (lv' := [(2, .int 0), (0, .ref (A 1)), (1, .ref (adK 4))]) hx hb dX6_isWord_27 rfl hl (by decide) rfl (fun ls hl => ?_)
      have lp28_46 : ∀ (n28 : Nat) (ls : Array Slot) (y46d : Int32), 0 ≤ y46d.toInt → y46d.toInt ≤ 5 → 5 - y46d.toInt < (n28 : Int) → lv_has ls 3 [(2, .int y46d), (0, .ref (A 1)), (1, .ref (adK 4))] → W p l e (rmL 5 0 0) s m ar below meth c s.heap [] 0 0 Q (F0 m 28 ls []) := by
        intro n28
        induction n28 with
        | zero => intro ls y46d ly46d my46d hmun28 hl; exfalso; omega
        | succ n28 ih28_46 =>
          intro ls y46d ly46d my46d hmun28 hl
          refine lv_iload_n hx hb dX6_isWord_28 rfl (lv_at hl 0 rfl) ?_
          refine lv_aload_n hx hb dX6_isWord_29 rfl (lv_at hl 2 rfl) ?_
          refine cvT (n := 0) (As := []) (rest := [.int y46d]) ⟨hx, hb, hml, hown, hts⟩ uc_in (kT_length l adK adV 4 (by decide)) blT q_m475 q_n476 q_e477 q_i13 q_c478 hvJ0_length_8abf5 ⟨(Nat.le_of_ble_eq_true rfl), (Nat.le_of_ble_eq_true rfl)⟩ ⟨(Nat.le_of_ble_eq_true rfl), (Nat.le_of_ble_eq_true rfl)⟩ (vk_recv hX.1 (show 4 < 14 by decide) hH.2.2) (fun U hU hW => hX.now hH hW hU) rfl hl.1 rfl (Nat.le_of_ble_eq_true rfl) dX6_isWord_30 (fun r48 p49 => ?_)
          have p49 : r48 = 5 := p49.trans (by decide)
          subst p49
          refine lv_icmp_ge (tgt := 63) hx hb dX6_isWord_33 (by decide) (fun c50 => ?_) (fun c50 => ?_)
          · have c50 := cLE (x := 5) (y := y46d) (X := 5) (Y := y46d.toInt) (by decide) rfl c50
            refine lv_iconst (v := 1) hx hb dX6_isWord_63 (by decide) ?_
            exact hret _ _ _ _ (1 : Int32) _ dX6_isWord_64 rfl ⟨hI, Un.rf, ⟨by decide, by decide⟩⟩ hH
          · have c50 := cNLE (x := 5) (y := y46d) (X := 5) (Y := y46d.toInt) (by decide) rfl c50
            refine lv_aload_n hx hb dX6_isWord_36 rfl (lv_at hl 1 rfl) ?_
            refine va_get (ci := 6) (v := .ref (A 22)) (C := RX6) (T := TX6) (N := 8) hx hb hts (fun w h => uc_in w (inX6 w h)) hown hK hH.1 1 (cwc1 C A u) rfl 0 (by decide) (hts _ (uc_in _ q_f33)) (fun _ h9 => h9) rfl dX6_isWord_37 ?_
            refine lv_aload_n hx hb dX6_isWord_40 rfl (lv_at hl 1 rfl) ?_
            refine va_get (ci := 6) (v := .int (gi u 4)) (C := RX6) (T := TX6) (N := 8) hx hb hts (fun w h => uc_in w (inX6 w h)) hown hK hH.1 1 (cwc1 C A u) rfl 4 (by decide) (hts _ (uc_in _ q_f40)) (fun _ h9 => h9) rfl dX6_isWord_41 ?_
            refine lv_iload_n hx hb dX6_isWord_44 rfl (lv_at hl 0 rfl) ?_
            refine lv_iadd hx hb dX6_isWord_45 ?_
            refine p_nm (tt_add (X := ((gi u 4)).toInt) (Y := y46d.toInt) rfl rfl (by omega) (by omega)) (fun z51 hz51 => ?_)
            refine va_bald hx hb hK hH.1 22 0 (cwc22 C A u) rfl (i_ix hz51 (by omega) (by omega)) dX6_isWord_46 ?_
            refine p_any (fun z52 => ?_)
            refine lv_aload_n hx hb dX6_isWord_47 rfl (lv_at hl 2 rfl) ?_
            refine lv_iload_n hx hb dX6_isWord_48 rfl (lv_at hl 0 rfl) ?_
            refine cvT (n := 1) (As := [.int y46d]) (rest := [.int z52]) ⟨hx, hb, hml, hown, hts⟩ uc_in (kT_charAt l adK adV 4 (by decide) y46d (show vp_in y46d 5 from i_ix rfl (by omega) (by omega))) blT q_m485 q_n486 q_e487 q_i13 q_c488 hvJ0_charAt_5068e ⟨(Nat.le_of_ble_eq_true rfl), (Nat.le_of_ble_eq_true rfl)⟩ ⟨(Nat.le_of_ble_eq_true rfl), (Nat.le_of_ble_eq_true rfl)⟩ (vk_recv hX.1 (show 4 < 14 by decide) hH.2.2) (fun U hU hW => hX.now hH hW hU) rfl hl.1 rfl (Nat.le_of_ble_eq_true rfl) dX6_isWord_49 (fun r53 _ => ?_)
            refine lv_icmp_eq (tgt := 57) hx hb dX6_isWord_52 (by decide) (fun c54 => ?_) (fun c54 => ?_)
            · have c54 := cEQ (x := z52) (y := r53) (X := z52.toInt) (Y := r53.toInt) rfl rfl c54
              obtain ⟨z55, ez55⟩ : ∃ z, z = y46d + Int32.ofInt 1 := ⟨_, rfl⟩
              have hz55 : z55.toInt = y46d.toInt + 1 := by rw [ez55]; exact tt_add rfl (by decide) (by omega) (by omega)
              refine lv_iinc (v := z55) (lv' := [(2, .int z55), (0, .ref (A 1)), (1, .ref (adK 4))]) hx hb dX6_isWord_57 hl (k := 0) rfl ez55.symm (by decide) rfl (fun ls hl => ?_)
              refine lv_goto (tgt := 28) hx hb dX6_isWord_60 (by decide) ?_
              exact ih28_46 ls z55 (by have q9 := (show z55.toInt = (y46d.toInt + 1) from hz55); omega) (by have q9 := (show z55.toInt = (y46d.toInt + 1) from hz55); omega) (by have q9 := (show z55.toInt = (y46d.toInt + 1) from hz55); omega) hl
            · refine lv_iconst (v := 0) hx hb dX6_isWord_55 (by decide) ?_
              exact hret _ _ _ _ (0 : Int32) _ dX6_isWord_56 rfl ⟨hI, Un.rf, ⟨by decide, by decide⟩⟩ hH
      exact lp28_46 6 ls 0 (by decide) (by decide) (by have q9 : (0 : Int32).toInt = 0 := (by decide); omega) hl
    · refine lv_iconst (v := 0) hx hb dX6_isWord_24 (by decide) ?_
      exact hret _ _ _ _ (0 : Int32) _ dX6_isWord_25 rfl ⟨hI, Un.rf, ⟨by decide, by decide⟩⟩ hH
set_option maxHeartbeats 4000000 in
set_option maxRecDepth 100000 in
theorem kX6_isWord_1 (l : Launch) (D : va_G) (C : Nat → ClassId) (A : Nat → Nat) (u : St) (hI : IC u) (adK adV : Nat → Nat) (sz : Nat) : MetI l yX6_isWord cX6_isWord 3 (some .boolean) 5 [.ref (A 1), .ref (adK 12)] D (tyl C) (cw C A) (XS adK adV) u sz (fun r u' => IC u' ∧ Un [] [] [] u u' ∧ (0 ≤ r.toInt ∧ r.toInt ≤ 1)) := by
  refine mI (by decide) (Nat.le_of_ble_eq_true rfl) ?_
  intro p e s m below meth c ls ar Q hx hb hml hown hts hK hH hX hl hret
  have hown : s.vm.findClass RX6 = some m.cls := hown
  have hl : lv_has ls 3 [(0, .ref (A 1)), (1, .ref (adK 12))] := hl
  refine lv_aload_n hx hb dX6_isWord_0 rfl (lv_at hl 0 rfl) ?_
  refine va_get (ci := 6) (v := .int (gi u 6)) (C := RX6) (T := TX6) (N := 8) hx hb hts (fun w h => uc_in w (inX6 w h)) hown hK hH.1 1 (cwc1 C A u) rfl 6 (by decide) (hts _ (uc_in _ q_f42)) (fun _ h9 => h9) rfl dX6_isWord_1 ?_
  refine lv_iconst (v := 2) hx hb dX6_isWord_4 (by decide) ?_
  refine lv_icmp_ne (tgt := 24) hx hb dX6_isWord_5 (by decide) (fun c1 => ?_) (fun c1 => ?_)
  · refine lv_iconst (v := 0) hx hb dX6_isWord_24 (by decide) ?_
    exact hret _ _ _ _ (0 : Int32) _ dX6_isWord_25 rfl ⟨hI, Un.rf, ⟨by decide, by decide⟩⟩ hH
  · have c1 := cEQ (x := (gi u 6)) (y := 2) (X := ((gi u 6)).toInt) (Y := 2) rfl (by decide) c1
    refine lv_aload_n hx hb dX6_isWord_8 rfl (lv_at hl 0 rfl) ?_
    refine va_get (ci := 6) (v := .int (gi u 5)) (C := RX6) (T := TX6) (N := 8) hx hb hts (fun w h => uc_in w (inX6 w h)) hown hK hH.1 1 (cwc1 C A u) rfl 5 (by decide) (hts _ (uc_in _ q_f41)) (fun _ h9 => h9) rfl dX6_isWord_9 ?_
    have b2 := hI.b5
    refine lv_aload_n hx hb dX6_isWord_12 rfl (lv_at hl 0 rfl) ?_
    refine va_get (ci := 6) (v := .int (gi u 4)) (C := RX6) (T := TX6) (N := 8) hx hb hts (fun w h => uc_in w (inX6 w h)) hown hK hH.1 1 (cwc1 C A u) rfl 4 (by decide) (hts _ (uc_in _ q_f40)) (fun _ h9 => h9) rfl dX6_isWord_13 ?_
    have b3 := hI.b4
    refine lv_isub hx hb dX6_isWord_16 ?_
    refine p_nm (tt_sub (X := ((gi u 5)).toInt) (Y := ((gi u 4)).toInt) rfl rfl (by omega) (by omega)) (fun z4 hz4 => ?_)
    refine lv_aload_n hx hb dX6_isWord_17 rfl (lv_at hl 1 rfl) ?_
    refine cvT (n := 0) (As := []) (rest := [.int z4]) ⟨hx, hb, hml, hown, hts⟩ uc_in (kT_length l adK adV 12 (by decide)) blT q_m475 q_n476 q_e477 q_i13 q_c478 hvJ0_length_8abf5 ⟨(Nat.le_of_ble_eq_true rfl), (Nat.le_of_ble_eq_true rfl)⟩ ⟨(Nat.le_of_ble_eq_true rfl), (Nat.le_of_ble_eq_true rfl)⟩ (vk_recv hX.1 (show 12 < 14 by decide) hH.2.2) (fun U hU hW => hX.now hH hW hU) rfl hl.1 rfl (Nat.le_of_ble_eq_true rfl) dX6_isWord_18 (fun r5 p6 => ?_)
    have p6 : r5 = 5 := p6.trans (by decide)
    subst p6
    refine lv_icmp_eq (tgt := 26) hx hb dX6_isWord_21 (by decide) (fun c7 => ?_) (fun c7 => ?_)
    · have c7 := cEQ (x := z4) (y := 5) (X := (((gi u 5)).toInt - ((gi u 4)).toInt)) (Y := 5) hz4 (by decide) c7
      refine lv_iconst (v := 0) hx hb dX6_isWord_26 (by decide) ?_
      refine lv_istore_n (lv' := [(2, .int 0), (0, .ref (A 1)), (1, .ref (adK 12))]) hx hb dX6_isWord_27 rfl hl (by decide) rfl (fun ls hl => ?_)
      have lp28_46 : ∀ (n28 : Nat) (ls : Array Slot) (y46d : Int32), 0 ≤ y46d.toInt → y46d.toInt ≤ 5 → 5 - y46d.toInt < (n28 : Int) → lv_has ls 3 [(2, .int y46d), (0, .ref (A 1)), (1, .ref (adK 12))] → W p l e (rmL 5 0 0) s m ar below meth c s.heap [] 0 0 Q (F0 m 28 ls []) := by
        intro n28
        induction n28 with
        | zero => intro ls y46d ly46d my46d hmun28 hl; exfalso; omega
        | succ n28 ih28_46 =>
          intro ls y46d ly46d my46d hmun28 hl
          refine lv_iload_n hx hb dX6_isWord_28 rfl (lv_at hl 0 rfl) ?_
          refine lv_aload_n hx hb dX6_isWord_29 rfl (lv_at hl 2 rfl) ?_
          refine cvT (n := 0) (As := []) (rest := [.int y46d]) ⟨hx, hb, hml, hown, hts⟩ uc_in (kT_length l adK adV 12 (by decide)) blT q_m475 q_n476 q_e477 q_i13 q_c478 hvJ0_length_8abf5 ⟨(Nat.le_of_ble_eq_true rfl), (Nat.le_of_ble_eq_true rfl)⟩ ⟨(Nat.le_of_ble_eq_true rfl), (Nat.le_of_ble_eq_true rfl)⟩ (vk_recv hX.1 (show 12 < 14 by decide) hH.2.2) (fun U hU hW => hX.now hH hW hU) rfl hl.1 rfl (Nat.le_of_ble_eq_true rfl) dX6_isWord_30 (fun r48 p49 => ?_)
          have p49 : r48 = 5 := p49.trans (by decide)
          subst p49
          refine lv_icmp_ge (tgt := 63) hx hb dX6_isWord_33 (by decide) (fun c50 => ?_) (fun c50 => ?_)
          · have c50 := cLE (x := 5) (y := y46d) (X := 5) (Y := y46d.toInt) (by decide) rfl c50
            refine lv_iconst (v := 1) hx hb dX6_isWord_63 (by decide) ?_
            exact hret _ _ _ _ (1 : Int32) _ dX6_isWord_64 rfl ⟨hI, Un.rf, ⟨by decide, by decide⟩⟩ hH
          · have c50 := cNLE (x := 5) (y := y46d) (X := 5) (Y := y46d.toInt) (by decide) rfl c50
            refine lv_aload_n hx hb dX6_isWord_36 rfl (lv_at hl 1 rfl) ?_
            refine va_get (ci := 6) (v := .ref (A 22)) (C := RX6) (T := TX6) (N := 8) hx hb hts (fun w h => uc_in w (inX6 w h)) hown hK hH.1 1 (cwc1 C A u) rfl 0 (by decide) (hts _ (uc_in _ q_f33)) (fun _ h9 => h9) rfl dX6_isWord_37 ?_
            refine lv_aload_n hx hb dX6_isWord_40 rfl (lv_at hl 1 rfl) ?_
            refine va_get (ci := 6) (v := .int (gi u 4)) (C := RX6) (T := TX6) (N := 8) hx hb hts (fun w h => uc_in w (inX6 w h)) hown hK hH.1 1 (cwc1 C A u) rfl 4 (by decide) (hts _ (uc_in _ q_f40)) (fun _ h9 => h9) rfl dX6_isWord_41 ?_
            refine lv_iload_n hx hb dX6_isWord_44 rfl (lv_at hl 0 rfl) ?_
            refine lv_iadd hx hb dX6_isWord_45 ?_
            refine p_nm (tt_add (X := ((gi u 4)).toInt) (Y := y46d.toInt) rfl rfl (by omega) (by omega)) (fun z51 hz51 => ?_)
            refine va_bald hx hb hK hH.1 22 0 (cwc22 C A u) rfl (i_ix hz51 (by omega) (by omega)) dX6_isWord_46 ?_
            refine p_any (fun z52 => ?_)
            refine lv_aload_n hx hb dX6_isWord_47 rfl (lv_at hl 2 rfl) ?_
            refine lv_iload_n hx hb dX6_isWord_48 rfl (lv_at hl 0 rfl) ?_
            refine cvT (n := 1) (As := [.int y46d]) (rest := [.int z52]) ⟨hx, hb, hml, hown, hts⟩ uc_in (kT_charAt l adK adV 12 (by decide) y46d (show vp_in y46d 5 from i_ix rfl (by omega) (by omega))) blT q_m485 q_n486 q_e487 q_i13 q_c488 hvJ0_charAt_5068e ⟨(Nat.le_of_ble_eq_true rfl), (Nat.le_of_ble_eq_true rfl)⟩ ⟨(Nat.le_of_ble_eq_true rfl), (Nat.le_of_ble_eq_true rfl)⟩ (vk_recv hX.1 (show 12 < 14 by decide) hH.2.2) (fun U hU hW => hX.now hH hW hU) rfl hl.1 rfl (Nat.le_of_ble_eq_true rfl) dX6_isWord_49 (fun r53 _ => ?_)
            refine lv_icmp_eq (tgt := 57) hx hb dX6_isWord_52 (by decide) (fun c54 => ?_) (fun c54 => ?_)
            · have c54 := cEQ (x := z52) (y := r53) (X := z52.toInt) (Y := r53.toInt) rfl rfl c54
              obtain ⟨z55, ez55⟩ : ∃ z, z = y46d + Int32.ofInt 1 := ⟨_, rfl⟩
              have hz55 : z55.toInt = y46d.toInt + 1 := by rw [ez55]; exact tt_add rfl (by decide) (by omega) (by omega)
              refine lv_iinc (v := z55) (lv' := [(2, .int z55), (0, .ref (A 1)), (1, .ref (adK 12))]) hx hb dX6_isWord_57 hl (k := 0) rfl ez55.symm (by decide) rfl (fun ls hl => ?_)
              refine lv_goto (tgt := 28) hx hb dX6_isWord_60 (by decide) ?_
              exact ih28_46 ls z55 (by have q9 := (show z55.toInt = (y46d.toInt + 1) from hz55); omega) (by have q9 := (show z55.toInt = (y46d.toInt + 1) from hz55); omega) (by have q9 := (show z55.toInt = (y46d.toInt + 1) from hz55); omega) hl
            · refine lv_iconst (v := 0) hx hb dX6_isWord_55 (by decide) ?_
              exact hret _ _ _ _ (0 : Int32) _ dX6_isWord_56 rfl ⟨hI, Un.rf, ⟨by decide, by decide⟩⟩ hH
      exact lp28_46 6 ls 0 (by decide) (by decide) (by have q9 : (0 : Int32).toInt = 0 := (by decide); omega) hl
    · refine lv_iconst (v := 0) hx hb dX6_isWord_24 (by decide) ?_
      exact hret _ _ _ _ (0 : Int32) _ dX6_isWord_25 rfl ⟨hI, Un.rf, ⟨by decide, by decide⟩⟩ hH
set_option maxHeartbeats 4000000 in
set_option maxRecDepth 100000 in
theorem kX6_blame_0 (l : Launch) (D : va_G) (C : Nat → ClassId) (A : Nat → Nat) (u : St) (hI : IC u) (sz : Nat) : MetV l yX6_blame cX6_blame 2 1 [.ref (A 1), .int 1] D (tyl C) (cw C A) X0 u sz (fun u' => IC u' ∧ Un [(2, 2), (3, 3)] [] [] u u' ∧ (gi u' 2).toInt ≠ 0) := by
  refine mV (by decide) (Nat.le_of_ble_eq_true rfl) ?_
  intro p e s m below meth c ls ar Q hx hb hml hown hts hK hH hX hl hret
  have hown : s.vm.findClass RX6 = some m.cls := hown
  have hl : lv_has ls 2 [(0, .ref (A 1)), (1, .int 1)] := hl
  refine lv_aload_n hx hb dX6_blame_0 rfl (lv_at hl 0 rfl) ?_
  refine va_get (ci := 6) (v := .int (gi u 2)) (C := RX6) (T := TX6) (N := 8) hx hb hts (fun w h => uc_in w (inX6 w h)) hown hK hH.1 1 (cwc1 C A u) rfl 2 (by decide) (hts _ (uc_in _ q_f36)) (fun _ h9 => h9) rfl dX6_blame_1 ?_
  refine lv_if_ne (tgt := 20) hx hb dX6_blame_4 (by decide) (fun c1 => ?_) (fun c1 => ?_)
  · have c1 := cNE (x := (gi u 2)) (y := 0) (X := ((gi u 2)).toInt) (Y := 0) rfl (by decide) c1
    exact hret _ _ _ _ _ dX6_blame_20 ⟨hI, Un.rf, (by have q2 := (show (gi u 2).toInt = ((gi u 2)).toInt from (congrArg Int32.toInt (show gi u 2 = (gi u 2) from rfl)).trans rfl); omega)⟩ hH
  · have c1 := cEQ (x := (gi u 2)) (y := 0) (X := ((gi u 2)).toInt) (Y := 0) rfl (by decide) c1
    refine lv_aload_n hx hb dX6_blame_7 rfl (lv_at hl 0 rfl) ?_
    refine lv_iload_n hx hb dX6_blame_8 rfl (lv_at hl 1 rfl) ?_
    refine r_put (j := 2) (ci := 6) (C := RX6) (T := TX6) (N := 8) hx hb hts (fun w h => uc_in w (inX6 w h)) tyX6 tyX6_ok nmX6 hown hK hH 1 (cwc1 C A u) rfl 2 (by decide) (hts _ (uc_in _ q_f36)) (fun _ h9 => h9) rfl (by decide +kernel) (Nat.le_of_ble_eq_true rfl) (cws2 C A u _) dX6_blame_9 (fun u2 eu2 H locs hH => ?_)
    have hI := hI.fault eu2 (fun h => absurd h (by decide))
    refine lv_aload_n hx hb dX6_blame_12 rfl (lv_at hl 0 rfl) ?_
    refine lv_aload_n hx hb dX6_blame_13 rfl (lv_at hl 0 rfl) ?_
    refine va_get (ci := 6) (v := .int (gi u2 4)) (C := RX6) (T := TX6) (N := 8) hx hb hts (fun w h => uc_in w (inX6 w h)) hown hK hH.1 1 (cwc1 C A u2) rfl 4 (by decide) (hts _ (uc_in _ q_f40)) (fun _ h9 => h9) rfl dX6_blame_14 ?_
    have b3 := hI.b4
    refine r_put (j := 3) (ci := 6) (C := RX6) (T := TX6) (N := 8) hx hb hts (fun w h => uc_in w (inX6 w h)) tyX6 tyX6_ok nmX6 hown hK hH 1 (cwc1 C A u2) rfl 3 (by decide) (hts _ (uc_in _ q_f38)) (fun _ h9 => h9) rfl (by decide +kernel) (Nat.le_of_ble_eq_true rfl) (cws3 C A u2 _) dX6_blame_17 (fun u4 eu4 H locs hH => ?_)
    have hI := hI.pi0 eu4 rfl (by decide) (by decide)
    exact hret _ _ _ _ _ dX6_blame_20 ⟨hI, (Un.si (Un.si Un.rf rfl eu2) rfl eu4), (by have q2 := (show (gi u4 2).toInt = 1 from (congrArg Int32.toInt (show gi u4 2 = 1 from ((gi_ne eu4 (by decide)).trans (gi_si eu2)))).trans (by decide)); omega)⟩ hH
set_option maxHeartbeats 4000000 in
set_option maxRecDepth 100000 in
theorem kX6_expect_0 (l : Launch) (D : va_G) (C : Nat → ClassId) (A : Nat → Nat) (u : St) (hI : IC u) (adK adV : Nat → Nat) (sz : Nat) : MetV l yX6_expect cX6_expect 2 6 [.ref (A 1), .ref (adK 12)] D (tyl C) (cw C A) (XS adK adV) u sz (fun u' => IC u' ∧ Un [(2, 2), (3, 3), (4, 4), (5, 5), (6, 6), (7, 7)] [] [] u u' ∧ True) := by
  refine mV (by decide) (Nat.le_of_ble_eq_true rfl) ?_
  intro p e s m below meth c ls ar Q hx hb hml hown hts hK hH hX hl hret
  have hown : s.vm.findClass RX6 = some m.cls := hown
  have hl : lv_has ls 2 [(0, .ref (A 1)), (1, .ref (adK 12))] := hl
  refine lv_aload_n hx hb dX6_expect_0 rfl (lv_at hl 0 rfl) ?_
  refine lv_aload_n hx hb dX6_expect_1 rfl (lv_at hl 1 rfl) ?_
  refine cvI (n := 1) (As := [.ref (adK 12)]) (rest := []) ⟨hx, hb, hml, hown, hts⟩ uc_in (kX6_isWord_1 l D C A u hI  adK adV _) q_m471 q_n473 q_p4 q_i2 q_c474 hvX6_isWord ⟨(Nat.le_of_ble_eq_true rfl), (Nat.le_of_ble_eq_true rfl)⟩ ⟨(Nat.le_of_ble_eq_true rfl), (Nat.le_of_ble_eq_true rfl)⟩ hK hH (fun q h => Or.inr h) BlS (fun U hU hW => hX.at hH hW hU) 6 1 rfl (cwc1 C A u) rfl hl.1 rfl (Nat.le_of_ble_eq_true rfl) dX6_expect_2 (fun r2 u1 H locs p3 hH => ?_)
  obtain ⟨hI, hUu1, p3⟩ := p3
  have p3 : 0 ≤ r2.toInt ∧ r2.toInt ≤ 1 := p3
  refine lv_if_ne (tgt := 13) hx hb dX6_expect_5 (by decide) (fun c4 => ?_) (fun c4 => ?_)
  · have c4 := cNE (x := r2) (y := 0) (X := r2.toInt) (Y := 0) rfl (by decide) c4
    refine lv_aload_n hx hb dX6_expect_13 rfl (lv_at hl 0 rfl) ?_
    refine cvU (n := 0) (As := []) (rest := []) ⟨hx, hb, hml, hown, hts⟩ uc_in (kX6_step_0 l D C A u1 hI  _) q_m444 q_n446 q_p0 q_i2 q_c447 hvX6_step ⟨(Nat.le_of_ble_eq_true rfl), (Nat.le_of_ble_eq_true rfl)⟩ ⟨(Nat.le_of_ble_eq_true rfl), (Nat.le_of_ble_eq_true rfl)⟩ hK hH (fun q h => Or.inr h) Bl0 (fun _ _ _ => trivial) 6 1 rfl (cwc1 C A u1) rfl hl.1 rfl (Nat.le_of_ble_eq_true rfl) dX6_expect_14 (fun u5 H locs p7 hH => ?_)
    obtain ⟨hI, hUu5, p7⟩ := p7
    exact hret _ _ _ _ _ dX6_expect_17 ⟨hI, (Un.tr (Un.tr Un.rf hUu1 rfl rfl rfl) hUu5 rfl rfl rfl), trivial⟩ hH
  · have c4 := cEQ (x := r2) (y := 0) (X := r2.toInt) (Y := 0) rfl (by decide) c4
    refine lv_aload_n hx hb dX6_expect_8 rfl (lv_at hl 0 rfl) ?_
    refine lv_iconst (v := 1) hx hb dX6_expect_9 (by decide) ?_
    refine cvU (n := 1) (As := [.int 1]) (rest := []) ⟨hx, hb, hml, hown, hts⟩ uc_in (kX6_blame_0 l D C A u1 hI  _) q_m523 q_n525 q_p5 q_i2 q_c526 hvX6_blame ⟨(Nat.le_of_ble_eq_true rfl), (Nat.le_of_ble_eq_true rfl)⟩ ⟨(Nat.le_of_ble_eq_true rfl), (Nat.le_of_ble_eq_true rfl)⟩ hK hH (fun q h => Or.inr h) Bl0 (fun _ _ _ => trivial) 6 1 rfl (cwc1 C A u1) rfl hl.1 rfl (Nat.le_of_ble_eq_true rfl) dX6_expect_10 (fun u8 H locs p10 hH => ?_)
    obtain ⟨hI, hUu8, p10⟩ := p10
    refine lv_aload_n hx hb dX6_expect_13 rfl (lv_at hl 0 rfl) ?_
    refine cvU (n := 0) (As := []) (rest := []) ⟨hx, hb, hml, hown, hts⟩ uc_in (kX6_step_0 l D C A u8 hI  _) q_m444 q_n446 q_p0 q_i2 q_c447 hvX6_step ⟨(Nat.le_of_ble_eq_true rfl), (Nat.le_of_ble_eq_true rfl)⟩ ⟨(Nat.le_of_ble_eq_true rfl), (Nat.le_of_ble_eq_true rfl)⟩ hK hH (fun q h => Or.inr h) Bl0 (fun _ _ _ => trivial) 6 1 rfl (cwc1 C A u8) rfl hl.1 rfl (Nat.le_of_ble_eq_true rfl) dX6_expect_14 (fun u11 H locs p13 hH => ?_)
    obtain ⟨hI, hUu11, p13⟩ := p13
    exact hret _ _ _ _ _ dX6_expect_17 ⟨hI, (Un.tr (Un.tr (Un.tr Un.rf hUu1 rfl rfl rfl) hUu8 rfl rfl rfl) hUu11 rfl rfl rfl), trivial⟩ hH
set_option maxHeartbeats 4000000 in
set_option maxRecDepth 100000 in
theorem kX6_isWord_2 (l : Launch) (D : va_G) (C : Nat → ClassId) (A : Nat → Nat) (u : St) (hI : IC u) (adK adV : Nat → Nat) (sz : Nat) : MetI l yX6_isWord cX6_isWord 3 (some .boolean) 5 [.ref (A 1), .ref (adK 13)] D (tyl C) (cw C A) (XS adK adV) u sz (fun r u' => IC u' ∧ Un [] [] [] u u' ∧ (0 ≤ r.toInt ∧ r.toInt ≤ 1)) := by
  refine mI (by decide) (Nat.le_of_ble_eq_true rfl) ?_
  intro p e s m below meth c ls ar Q hx hb hml hown hts hK hH hX hl hret
  have hown : s.vm.findClass RX6 = some m.cls := hown
  have hl : lv_has ls 3 [(0, .ref (A 1)), (1, .ref (adK 13))] := hl
  refine lv_aload_n hx hb dX6_isWord_0 rfl (lv_at hl 0 rfl) ?_
  refine va_get (ci := 6) (v := .int (gi u 6)) (C := RX6) (T := TX6) (N := 8) hx hb hts (fun w h => uc_in w (inX6 w h)) hown hK hH.1 1 (cwc1 C A u) rfl 6 (by decide) (hts _ (uc_in _ q_f42)) (fun _ h9 => h9) rfl dX6_isWord_1 ?_
  refine lv_iconst (v := 2) hx hb dX6_isWord_4 (by decide) ?_
  refine lv_icmp_ne (tgt := 24) hx hb dX6_isWord_5 (by decide) (fun c1 => ?_) (fun c1 => ?_)
  · refine lv_iconst (v := 0) hx hb dX6_isWord_24 (by decide) ?_
    exact hret _ _ _ _ (0 : Int32) _ dX6_isWord_25 rfl ⟨hI, Un.rf, ⟨by decide, by decide⟩⟩ hH
  · have c1 := cEQ (x := (gi u 6)) (y := 2) (X := ((gi u 6)).toInt) (Y := 2) rfl (by decide) c1
    refine lv_aload_n hx hb dX6_isWord_8 rfl (lv_at hl 0 rfl) ?_
    refine va_get (ci := 6) (v := .int (gi u 5)) (C := RX6) (T := TX6) (N := 8) hx hb hts (fun w h => uc_in w (inX6 w h)) hown hK hH.1 1 (cwc1 C A u) rfl 5 (by decide) (hts _ (uc_in _ q_f41)) (fun _ h9 => h9) rfl dX6_isWord_9 ?_
    have b2 := hI.b5
    refine lv_aload_n hx hb dX6_isWord_12 rfl (lv_at hl 0 rfl) ?_
    refine va_get (ci := 6) (v := .int (gi u 4)) (C := RX6) (T := TX6) (N := 8) hx hb hts (fun w h => uc_in w (inX6 w h)) hown hK hH.1 1 (cwc1 C A u) rfl 4 (by decide) (hts _ (uc_in _ q_f40)) (fun _ h9 => h9) rfl dX6_isWord_13 ?_
    have b3 := hI.b4
    refine lv_isub hx hb dX6_isWord_16 ?_
    refine p_nm (tt_sub (X := ((gi u 5)).toInt) (Y := ((gi u 4)).toInt) rfl rfl (by omega) (by omega)) (fun z4 hz4 => ?_)
    refine lv_aload_n hx hb dX6_isWord_17 rfl (lv_at hl 1 rfl) ?_
    refine cvT (n := 0) (As := []) (rest := [.int z4]) ⟨hx, hb, hml, hown, hts⟩ uc_in (kT_length l adK adV 13 (by decide)) blT q_m475 q_n476 q_e477 q_i13 q_c478 hvJ0_length_8abf5 ⟨(Nat.le_of_ble_eq_true rfl), (Nat.le_of_ble_eq_true rfl)⟩ ⟨(Nat.le_of_ble_eq_true rfl), (Nat.le_of_ble_eq_true rfl)⟩ (vk_recv hX.1 (show 13 < 14 by decide) hH.2.2) (fun U hU hW => hX.now hH hW hU) rfl hl.1 rfl (Nat.le_of_ble_eq_true rfl) dX6_isWord_18 (fun r5 p6 => ?_)
    have p6 : r5 = 5 := p6.trans (by decide)
    subst p6
    refine lv_icmp_eq (tgt := 26) hx hb dX6_isWord_21 (by decide) (fun c7 => ?_) (fun c7 => ?_)
    · have c7 := cEQ (x := z4) (y := 5) (X := (((gi u 5)).toInt - ((gi u 4)).toInt)) (Y := 5) hz4 (by decide) c7
      refine lv_iconst (v := 0) hx hb dX6_isWord_26 (by decide) ?_
      refine lv_istore_n (lv' := [(2, .int 0), (0, .ref (A 1)), (1, .ref (adK 13))]) hx hb dX6_isWord_27 rfl hl (by decide) rfl (fun ls hl => ?_)
      have lp28_46 : ∀ (n28 : Nat) (ls : Array Slot) (y46d : Int32), 0 ≤ y46d.toInt → y46d.toInt ≤ 5 → 5 - y46d.toInt < (n28 : Int) → lv_has ls 3 [(2, .int y46d), (0, .ref (A 1)), (1, .ref (adK 13))] → W p l e (rmL 5 0 0) s m ar below meth c s.heap [] 0 0 Q (F0 m 28 ls []) := by
        intro n28
        induction n28 with
        | zero => intro ls y46d ly46d my46d hmun28 hl; exfalso; omega
        | succ n28 ih28_46 =>
          intro ls y46d ly46d my46d hmun28 hl
          refine lv_iload_n hx hb dX6_isWord_28 rfl (lv_at hl 0 rfl) ?_
          refine lv_aload_n hx hb dX6_isWord_29 rfl (lv_at hl 2 rfl) ?_
          refine cvT (n := 0) (As := []) (rest := [.int y46d]) ⟨hx, hb, hml, hown, hts⟩ uc_in (kT_length l adK adV 13 (by decide)) blT q_m475 q_n476 q_e477 q_i13 q_c478 hvJ0_length_8abf5 ⟨(Nat.le_of_ble_eq_true rfl), (Nat.le_of_ble_eq_true rfl)⟩ ⟨(Nat.le_of_ble_eq_true rfl), (Nat.le_of_ble_eq_true rfl)⟩ (vk_recv hX.1 (show 13 < 14 by decide) hH.2.2) (fun U hU hW => hX.now hH hW hU) rfl hl.1 rfl (Nat.le_of_ble_eq_true rfl) dX6_isWord_30 (fun r48 p49 => ?_)
          have p49 : r48 = 5 := p49.trans (by decide)
          subst p49
          refine lv_icmp_ge (tgt := 63) hx hb dX6_isWord_33 (by decide) (fun c50 => ?_) (fun c50 => ?_)
          · have c50 := cLE (x := 5) (y := y46d) (X := 5) (Y := y46d.toInt) (by decide) rfl c50
            refine lv_iconst (v := 1) hx hb dX6_isWord_63 (by decide) ?_
            exact hret _ _ _ _ (1 : Int32) _ dX6_isWord_64 rfl ⟨hI, Un.rf, ⟨by decide, by decide⟩⟩ hH
          · have c50 := cNLE (x := 5) (y := y46d) (X := 5) (Y := y46d.toInt) (by decide) rfl c50
            refine lv_aload_n hx hb dX6_isWord_36 rfl (lv_at hl 1 rfl) ?_
            refine va_get (ci := 6) (v := .ref (A 22)) (C := RX6) (T := TX6) (N := 8) hx hb hts (fun w h => uc_in w (inX6 w h)) hown hK hH.1 1 (cwc1 C A u) rfl 0 (by decide) (hts _ (uc_in _ q_f33)) (fun _ h9 => h9) rfl dX6_isWord_37 ?_
            refine lv_aload_n hx hb dX6_isWord_40 rfl (lv_at hl 1 rfl) ?_
            refine va_get (ci := 6) (v := .int (gi u 4)) (C := RX6) (T := TX6) (N := 8) hx hb hts (fun w h => uc_in w (inX6 w h)) hown hK hH.1 1 (cwc1 C A u) rfl 4 (by decide) (hts _ (uc_in _ q_f40)) (fun _ h9 => h9) rfl dX6_isWord_41 ?_
            refine lv_iload_n hx hb dX6_isWord_44 rfl (lv_at hl 0 rfl) ?_
            refine lv_iadd hx hb dX6_isWord_45 ?_
            refine p_nm (tt_add (X := ((gi u 4)).toInt) (Y := y46d.toInt) rfl rfl (by omega) (by omega)) (fun z51 hz51 => ?_)
            refine va_bald hx hb hK hH.1 22 0 (cwc22 C A u) rfl (i_ix hz51 (by omega) (by omega)) dX6_isWord_46 ?_
            refine p_any (fun z52 => ?_)
            refine lv_aload_n hx hb dX6_isWord_47 rfl (lv_at hl 2 rfl) ?_
            refine lv_iload_n hx hb dX6_isWord_48 rfl (lv_at hl 0 rfl) ?_
            refine cvT (n := 1) (As := [.int y46d]) (rest := [.int z52]) ⟨hx, hb, hml, hown, hts⟩ uc_in (kT_charAt l adK adV 13 (by decide) y46d (show vp_in y46d 5 from i_ix rfl (by omega) (by omega))) blT q_m485 q_n486 q_e487 q_i13 q_c488 hvJ0_charAt_5068e ⟨(Nat.le_of_ble_eq_true rfl), (Nat.le_of_ble_eq_true rfl)⟩ ⟨(Nat.le_of_ble_eq_true rfl), (Nat.le_of_ble_eq_true rfl)⟩ (vk_recv hX.1 (show 13 < 14 by decide) hH.2.2) (fun U hU hW => hX.now hH hW hU) rfl hl.1 rfl (Nat.le_of_ble_eq_true rfl) dX6_isWord_49 (fun r53 _ => ?_)
            refine lv_icmp_eq (tgt := 57) hx hb dX6_isWord_52 (by decide) (fun c54 => ?_) (fun c54 => ?_)
            · have c54 := cEQ (x := z52) (y := r53) (X := z52.toInt) (Y := r53.toInt) rfl rfl c54
              obtain ⟨z55, ez55⟩ : ∃ z, z = y46d + Int32.ofInt 1 := ⟨_, rfl⟩
              have hz55 : z55.toInt = y46d.toInt + 1 := by rw [ez55]; exact tt_add rfl (by decide) (by omega) (by omega)
              refine lv_iinc (v := z55) (lv' := [(2, .int z55), (0, .ref (A 1)), (1, .ref (adK 13))]) hx hb dX6_isWord_57 hl (k := 0) rfl ez55.symm (by decide) rfl (fun ls hl => ?_)
              refine lv_goto (tgt := 28) hx hb dX6_isWord_60 (by decide) ?_
              exact ih28_46 ls z55 (by have q9 := (show z55.toInt = (y46d.toInt + 1) from hz55); omega) (by have q9 := (show z55.toInt = (y46d.toInt + 1) from hz55); omega) (by have q9 := (show z55.toInt = (y46d.toInt + 1) from hz55); omega) hl
            · refine lv_iconst (v := 0) hx hb dX6_isWord_55 (by decide) ?_
              exact hret _ _ _ _ (0 : Int32) _ dX6_isWord_56 rfl ⟨hI, Un.rf, ⟨by decide, by decide⟩⟩ hH
      exact lp28_46 6 ls 0 (by decide) (by decide) (by have q9 : (0 : Int32).toInt = 0 := (by decide); omega) hl
    · refine lv_iconst (v := 0) hx hb dX6_isWord_24 (by decide) ?_
      exact hret _ _ _ _ (0 : Int32) _ dX6_isWord_25 rfl ⟨hI, Un.rf, ⟨by decide, by decide⟩⟩ hH
set_option maxHeartbeats 4000000 in
set_option maxRecDepth 100000 in
theorem kX6_expect_1 (l : Launch) (D : va_G) (C : Nat → ClassId) (A : Nat → Nat) (u : St) (hI : IC u) (adK adV : Nat → Nat) (sz : Nat) : MetV l yX6_expect cX6_expect 2 6 [.ref (A 1), .ref (adK 13)] D (tyl C) (cw C A) (XS adK adV) u sz (fun u' => IC u' ∧ Un [(2, 2), (3, 3), (4, 4), (5, 5), (6, 6), (7, 7)] [] [] u u' ∧ True) := by
  refine mV (by decide) (Nat.le_of_ble_eq_true rfl) ?_
  intro p e s m below meth c ls ar Q hx hb hml hown hts hK hH hX hl hret
  have hown : s.vm.findClass RX6 = some m.cls := hown
  have hl : lv_has ls 2 [(0, .ref (A 1)), (1, .ref (adK 13))] := hl
  refine lv_aload_n hx hb dX6_expect_0 rfl (lv_at hl 0 rfl) ?_
  refine lv_aload_n hx hb dX6_expect_1 rfl (lv_at hl 1 rfl) ?_
  refine cvI (n := 1) (As := [.ref (adK 13)]) (rest := []) ⟨hx, hb, hml, hown, hts⟩ uc_in (kX6_isWord_2 l D C A u hI  adK adV _) q_m471 q_n473 q_p4 q_i2 q_c474 hvX6_isWord ⟨(Nat.le_of_ble_eq_true rfl), (Nat.le_of_ble_eq_true rfl)⟩ ⟨(Nat.le_of_ble_eq_true rfl), (Nat.le_of_ble_eq_true rfl)⟩ hK hH (fun q h => Or.inr h) BlS (fun U hU hW => hX.at hH hW hU) 6 1 rfl (cwc1 C A u) rfl hl.1 rfl (Nat.le_of_ble_eq_true rfl) dX6_expect_2 (fun r2 u1 H locs p3 hH => ?_)
  obtain ⟨hI, hUu1, p3⟩ := p3
  have p3 : 0 ≤ r2.toInt ∧ r2.toInt ≤ 1 := p3
  refine lv_if_ne (tgt := 13) hx hb dX6_expect_5 (by decide) (fun c4 => ?_) (fun c4 => ?_)
  · have c4 := cNE (x := r2) (y := 0) (X := r2.toInt) (Y := 0) rfl (by decide) c4
    refine lv_aload_n hx hb dX6_expect_13 rfl (lv_at hl 0 rfl) ?_
    refine cvU (n := 0) (As := []) (rest := []) ⟨hx, hb, hml, hown, hts⟩ uc_in (kX6_step_0 l D C A u1 hI  _) q_m444 q_n446 q_p0 q_i2 q_c447 hvX6_step ⟨(Nat.le_of_ble_eq_true rfl), (Nat.le_of_ble_eq_true rfl)⟩ ⟨(Nat.le_of_ble_eq_true rfl), (Nat.le_of_ble_eq_true rfl)⟩ hK hH (fun q h => Or.inr h) Bl0 (fun _ _ _ => trivial) 6 1 rfl (cwc1 C A u1) rfl hl.1 rfl (Nat.le_of_ble_eq_true rfl) dX6_expect_14 (fun u5 H locs p7 hH => ?_)
    obtain ⟨hI, hUu5, p7⟩ := p7
    exact hret _ _ _ _ _ dX6_expect_17 ⟨hI, (Un.tr (Un.tr Un.rf hUu1 rfl rfl rfl) hUu5 rfl rfl rfl), trivial⟩ hH
  · have c4 := cEQ (x := r2) (y := 0) (X := r2.toInt) (Y := 0) rfl (by decide) c4
    refine lv_aload_n hx hb dX6_expect_8 rfl (lv_at hl 0 rfl) ?_
    refine lv_iconst (v := 1) hx hb dX6_expect_9 (by decide) ?_
    refine cvU (n := 1) (As := [.int 1]) (rest := []) ⟨hx, hb, hml, hown, hts⟩ uc_in (kX6_blame_0 l D C A u1 hI  _) q_m523 q_n525 q_p5 q_i2 q_c526 hvX6_blame ⟨(Nat.le_of_ble_eq_true rfl), (Nat.le_of_ble_eq_true rfl)⟩ ⟨(Nat.le_of_ble_eq_true rfl), (Nat.le_of_ble_eq_true rfl)⟩ hK hH (fun q h => Or.inr h) Bl0 (fun _ _ _ => trivial) 6 1 rfl (cwc1 C A u1) rfl hl.1 rfl (Nat.le_of_ble_eq_true rfl) dX6_expect_10 (fun u8 H locs p10 hH => ?_)
    obtain ⟨hI, hUu8, p10⟩ := p10
    refine lv_aload_n hx hb dX6_expect_13 rfl (lv_at hl 0 rfl) ?_
    refine cvU (n := 0) (As := []) (rest := []) ⟨hx, hb, hml, hown, hts⟩ uc_in (kX6_step_0 l D C A u8 hI  _) q_m444 q_n446 q_p0 q_i2 q_c447 hvX6_step ⟨(Nat.le_of_ble_eq_true rfl), (Nat.le_of_ble_eq_true rfl)⟩ ⟨(Nat.le_of_ble_eq_true rfl), (Nat.le_of_ble_eq_true rfl)⟩ hK hH (fun q h => Or.inr h) Bl0 (fun _ _ _ => trivial) 6 1 rfl (cwc1 C A u8) rfl hl.1 rfl (Nat.le_of_ble_eq_true rfl) dX6_expect_14 (fun u11 H locs p13 hH => ?_)
    obtain ⟨hI, hUu11, p13⟩ := p13
    exact hret _ _ _ _ _ dX6_expect_17 ⟨hI, (Un.tr (Un.tr (Un.tr Un.rf hUu1 rfl rfl rfl) hUu8 rfl rfl rfl) hUu11 rfl rfl rfl), trivial⟩ hH
set_option maxHeartbeats 4000000 in
set_option maxRecDepth 100000 in
theorem kX6_blame_1 (l : Launch) (D : va_G) (C : Nat → ClassId) (A : Nat → Nat) (u : St) (hI : IC u) (sz : Nat) : MetV l yX6_blame cX6_blame 2 1 [.ref (A 1), .int 2] D (tyl C) (cw C A) X0 u sz (fun u' => IC u' ∧ Un [(2, 2), (3, 3)] [] [] u u' ∧ (gi u' 2).toInt ≠ 0) := by
  refine mV (by decide) (Nat.le_of_ble_eq_true rfl) ?_
  intro p e s m below meth c ls ar Q hx hb hml hown hts hK hH hX hl hret
  have hown : s.vm.findClass RX6 = some m.cls := hown
  have hl : lv_has ls 2 [(0, .ref (A 1)), (1, .int 2)] := hl
  refine lv_aload_n hx hb dX6_blame_0 rfl (lv_at hl 0 rfl) ?_
  refine va_get (ci := 6) (v := .int (gi u 2)) (C := RX6) (T := TX6) (N := 8) hx hb hts (fun w h => uc_in w (inX6 w h)) hown hK hH.1 1 (cwc1 C A u) rfl 2 (by decide) (hts _ (uc_in _ q_f36)) (fun _ h9 => h9) rfl dX6_blame_1 ?_
  refine lv_if_ne (tgt := 20) hx hb dX6_blame_4 (by decide) (fun c1 => ?_) (fun c1 => ?_)
  · have c1 := cNE (x := (gi u 2)) (y := 0) (X := ((gi u 2)).toInt) (Y := 0) rfl (by decide) c1
    exact hret _ _ _ _ _ dX6_blame_20 ⟨hI, Un.rf, (by have q2 := (show (gi u 2).toInt = ((gi u 2)).toInt from (congrArg Int32.toInt (show gi u 2 = (gi u 2) from rfl)).trans rfl); omega)⟩ hH
  · have c1 := cEQ (x := (gi u 2)) (y := 0) (X := ((gi u 2)).toInt) (Y := 0) rfl (by decide) c1
    refine lv_aload_n hx hb dX6_blame_7 rfl (lv_at hl 0 rfl) ?_
    refine lv_iload_n hx hb dX6_blame_8 rfl (lv_at hl 1 rfl) ?_
    refine r_put (j := 2) (ci := 6) (C := RX6) (T := TX6) (N := 8) hx hb hts (fun w h => uc_in w (inX6 w h)) tyX6 tyX6_ok nmX6 hown hK hH 1 (cwc1 C A u) rfl 2 (by decide) (hts _ (uc_in _ q_f36)) (fun _ h9 => h9) rfl (by decide +kernel) (Nat.le_of_ble_eq_true rfl) (cws2 C A u _) dX6_blame_9 (fun u2 eu2 H locs hH => ?_)
    have hI := hI.fault eu2 (fun h => absurd h (by decide))
    refine lv_aload_n hx hb dX6_blame_12 rfl (lv_at hl 0 rfl) ?_
    refine lv_aload_n hx hb dX6_blame_13 rfl (lv_at hl 0 rfl) ?_
    refine va_get (ci := 6) (v := .int (gi u2 4)) (C := RX6) (T := TX6) (N := 8) hx hb hts (fun w h => uc_in w (inX6 w h)) hown hK hH.1 1 (cwc1 C A u2) rfl 4 (by decide) (hts _ (uc_in _ q_f40)) (fun _ h9 => h9) rfl dX6_blame_14 ?_
    have b3 := hI.b4
    refine r_put (j := 3) (ci := 6) (C := RX6) (T := TX6) (N := 8) hx hb hts (fun w h => uc_in w (inX6 w h)) tyX6 tyX6_ok nmX6 hown hK hH 1 (cwc1 C A u2) rfl 3 (by decide) (hts _ (uc_in _ q_f38)) (fun _ h9 => h9) rfl (by decide +kernel) (Nat.le_of_ble_eq_true rfl) (cws3 C A u2 _) dX6_blame_17 (fun u4 eu4 H locs hH => ?_)
    have hI := hI.pi0 eu4 rfl (by decide) (by decide)
    exact hret _ _ _ _ _ dX6_blame_20 ⟨hI, (Un.si (Un.si Un.rf rfl eu2) rfl eu4), (by have q2 := (show (gi u4 2).toInt = 2 from (congrArg Int32.toInt (show gi u4 2 = 2 from ((gi_ne eu4 (by decide)).trans (gi_si eu2)))).trans (by decide)); omega)⟩ hH
set_option maxHeartbeats 4000000 in
set_option maxRecDepth 100000 in
theorem kX6_numeral_0 (l : Launch) (D : va_G) (C : Nat → ClassId) (A : Nat → Nat) (u : St) (hI : IC u) (a0 : Int32) (A0 : Int) (ha0 : a0.toInt = A0) (a1 : Int32) (A1 : Int) (ha1 : a1.toInt = A1) (sz : Nat) : MetI l yX6_numeral cX6_numeral 4 (some .int) 3 [.ref (A 1), .int a0, .int a1] D (tyl C) (cw C A) X0 u sz (fun r u' => IC u' ∧ Un [(2, 2), (3, 3), (4, 4), (5, 5), (6, 6), (7, 7)] [] [] u u' ∧ (gi u' 2 = 0 → A0 ≤ r.toInt ∧ r.toInt ≤ A1)) := by
  refine mI (by decide) (Nat.le_of_ble_eq_true rfl) ?_
  intro p e s m below meth c ls ar Q hx hb hml hown hts hK hH hX hl hret
  have hown : s.vm.findClass RX6 = some m.cls := hown
  have hl : lv_has ls 4 [(0, .ref (A 1)), (1, .int a0), (2, .int a1)] := hl
  refine lv_aload_n hx hb dX6_numeral_0 rfl (lv_at hl 0 rfl) ?_
  refine va_get (ci := 6) (v := .int (gi u 6)) (C := RX6) (T := TX6) (N := 8) hx hb hts (fun w h => uc_in w (inX6 w h)) hown hK hH.1 1 (cwc1 C A u) rfl 6 (by decide) (hts _ (uc_in _ q_f42)) (fun _ h9 => h9) rfl dX6_numeral_1 ?_
  refine lv_iconst (v := 3) hx hb dX6_numeral_4 (by decide) ?_
  refine lv_icmp_eq (tgt := 16) hx hb dX6_numeral_5 (by decide) (fun c1 => ?_) (fun c1 => ?_)
  · have c1 := cEQ (x := (gi u 6)) (y := 3) (X := ((gi u 6)).toInt) (Y := 3) rfl (by decide) c1
    refine lv_aload_n hx hb dX6_numeral_16 rfl (lv_at hl 0 rfl) ?_
    refine va_get (ci := 6) (v := .int (gi u 7)) (C := RX6) (T := TX6) (N := 8) hx hb hts (fun w h => uc_in w (inX6 w h)) hown hK hH.1 1 (cwc1 C A u) rfl 7 (by decide) (hts _ (uc_in _ q_f43)) (fun _ h9 => h9) rfl dX6_numeral_17 ?_
    refine lv_iload_n hx hb dX6_numeral_20 rfl (lv_at hl 1 rfl) ?_
    refine lv_icmp_lt (tgt := 32) hx hb dX6_numeral_21 (by decide) (fun c2 => ?_) (fun c2 => ?_)
    · have c2 := cLT (x := (gi u 7)) (y := a0) (X := ((gi u 7)).toInt) (Y := A0) rfl ha0 c2
      refine lv_aload_n hx hb dX6_numeral_32 rfl (lv_at hl 0 rfl) ?_
      refine lv_iconst (v := 2) hx hb dX6_numeral_33 (by decide) ?_
      refine cvU (n := 1) (As := [.int 2]) (rest := []) ⟨hx, hb, hml, hown, hts⟩ uc_in (kX6_blame_1 l D C A u hI  _) q_m523 q_n525 q_p5 q_i2 q_c526 hvX6_blame ⟨(Nat.le_of_ble_eq_true rfl), (Nat.le_of_ble_eq_true rfl)⟩ ⟨(Nat.le_of_ble_eq_true rfl), (Nat.le_of_ble_eq_true rfl)⟩ hK hH (fun q h => Or.inr h) Bl0 (fun _ _ _ => trivial) 6 1 rfl (cwc1 C A u) rfl hl.1 rfl (Nat.le_of_ble_eq_true rfl) dX6_numeral_34 (fun u3 H locs p5 hH => ?_)
      obtain ⟨hI, hUu3, p5⟩ := p5
      refine lv_aload_n hx hb dX6_numeral_37 rfl (lv_at hl 0 rfl) ?_
      refine va_get (ci := 6) (v := .int (gi u3 7)) (C := RX6) (T := TX6) (N := 8) hx hb hts (fun w h => uc_in w (inX6 w h)) hown hK hH.1 1 (cwc1 C A u3) rfl 7 (by decide) (hts _ (uc_in _ q_f43)) (fun _ h9 => h9) rfl dX6_numeral_38 ?_
      refine pv_i (v := (gi u 7)) ((hUu3.1 7 rfl).trans rfl) ?_
      refine lv_istore_n (lv' := [(3, .int (gi u 7)), (0, .ref (A 1)), (1, .int a0), (2, .int a1)]) hx hb dX6_numeral_41 rfl hl (by decide) rfl (fun ls hl => ?_)
      refine lv_aload_n hx hb dX6_numeral_42 rfl (lv_at hl 1 rfl) ?_
      refine cvU (n := 0) (As := []) (rest := []) ⟨hx, hb, hml, hown, hts⟩ uc_in (kX6_step_0 l D C A u3 hI  _) q_m444 q_n446 q_p0 q_i2 q_c447 hvX6_step ⟨(Nat.le_of_ble_eq_true rfl), (Nat.le_of_ble_eq_true rfl)⟩ ⟨(Nat.le_of_ble_eq_true rfl), (Nat.le_of_ble_eq_true rfl)⟩ hK hH (fun q h => Or.inr h) Bl0 (fun _ _ _ => trivial) 6 1 rfl (cwc1 C A u3) rfl hl.1 rfl (Nat.le_of_ble_eq_true rfl) dX6_numeral_43 (fun u6 H locs p8 hH => ?_)
      obtain ⟨hI, hUu6, p8⟩ := p8
      refine lv_iload_n hx hb dX6_numeral_46 rfl (lv_at hl 0 rfl) ?_
      exact hret _ _ _ _ (gi u 7) _ dX6_numeral_47 rfl ⟨hI, (Un.tr (Un.tr Un.rf hUu3 rfl rfl rfl) hUu6 rfl rfl rfl), (fun h => by have q7 : (0 : Int32).toInt = 0 := (by decide); have q8 := congrArg Int32.toInt h; have q2 := (show (gi u6 2).toInt = ((gi u3 2)).toInt from (congrArg Int32.toInt (show gi u6 2 = (gi u3 2) from ((hUu6.1 2 rfl).trans rfl))).trans rfl); omega)⟩ hH
    · have c2 := cNLT (x := (gi u 7)) (y := a0) (X := ((gi u 7)).toInt) (Y := A0) rfl ha0 c2
      refine lv_aload_n hx hb dX6_numeral_24 rfl (lv_at hl 0 rfl) ?_
      refine va_get (ci := 6) (v := .int (gi u 7)) (C := RX6) (T := TX6) (N := 8) hx hb hts (fun w h => uc_in w (inX6 w h)) hown hK hH.1 1 (cwc1 C A u) rfl 7 (by decide) (hts _ (uc_in _ q_f43)) (fun _ h9 => h9) rfl dX6_numeral_25 ?_
      refine lv_iload_n hx hb dX6_numeral_28 rfl (lv_at hl 2 rfl) ?_
      refine lv_icmp_le (tgt := 37) hx hb dX6_numeral_29 (by decide) (fun c9 => ?_) (fun c9 => ?_)
      · have c9 := cLE (x := (gi u 7)) (y := a1) (X := ((gi u 7)).toInt) (Y := A1) rfl ha1 c9
        refine lv_aload_n hx hb dX6_numeral_37 rfl (lv_at hl 0 rfl) ?_
        refine va_get (ci := 6) (v := .int (gi u 7)) (C := RX6) (T := TX6) (N := 8) hx hb hts (fun w h => uc_in w (inX6 w h)) hown hK hH.1 1 (cwc1 C A u) rfl 7 (by decide) (hts _ (uc_in _ q_f43)) (fun _ h9 => h9) rfl dX6_numeral_38 ?_
        refine lv_istore_n (lv' := [(3, .int (gi u 7)), (0, .ref (A 1)), (1, .int a0), (2, .int a1)]) hx hb dX6_numeral_41 rfl hl (by decide) rfl (fun ls hl => ?_)
        refine lv_aload_n hx hb dX6_numeral_42 rfl (lv_at hl 1 rfl) ?_
        refine cvU (n := 0) (As := []) (rest := []) ⟨hx, hb, hml, hown, hts⟩ uc_in (kX6_step_0 l D C A u hI  _) q_m444 q_n446 q_p0 q_i2 q_c447 hvX6_step ⟨(Nat.le_of_ble_eq_true rfl), (Nat.le_of_ble_eq_true rfl)⟩ ⟨(Nat.le_of_ble_eq_true rfl), (Nat.le_of_ble_eq_true rfl)⟩ hK hH (fun q h => Or.inr h) Bl0 (fun _ _ _ => trivial) 6 1 rfl (cwc1 C A u) rfl hl.1 rfl (Nat.le_of_ble_eq_true rfl) dX6_numeral_43 (fun u10 H locs p12 hH => ?_)
        obtain ⟨hI, hUu10, p12⟩ := p12
        refine lv_iload_n hx hb dX6_numeral_46 rfl (lv_at hl 0 rfl) ?_
        exact hret _ _ _ _ (gi u 7) _ dX6_numeral_47 rfl ⟨hI, (Un.tr Un.rf hUu10 rfl rfl rfl), (fun h => by have q7 : (0 : Int32).toInt = 0 := (by decide); have q8 := congrArg Int32.toInt h; omega)⟩ hH
      · have c9 := cNLE (x := (gi u 7)) (y := a1) (X := ((gi u 7)).toInt) (Y := A1) rfl ha1 c9
        refine lv_aload_n hx hb dX6_numeral_32 rfl (lv_at hl 0 rfl) ?_
        refine lv_iconst (v := 2) hx hb dX6_numeral_33 (by decide) ?_
        refine cvU (n := 1) (As := [.int 2]) (rest := []) ⟨hx, hb, hml, hown, hts⟩ uc_in (kX6_blame_1 l D C A u hI  _) q_m523 q_n525 q_p5 q_i2 q_c526 hvX6_blame ⟨(Nat.le_of_ble_eq_true rfl), (Nat.le_of_ble_eq_true rfl)⟩ ⟨(Nat.le_of_ble_eq_true rfl), (Nat.le_of_ble_eq_true rfl)⟩ hK hH (fun q h => Or.inr h) Bl0 (fun _ _ _ => trivial) 6 1 rfl (cwc1 C A u) rfl hl.1 rfl (Nat.le_of_ble_eq_true rfl) dX6_numeral_34 (fun u13 H locs p15 hH => ?_)
        obtain ⟨hI, hUu13, p15⟩ := p15
        refine lv_aload_n hx hb dX6_numeral_37 rfl (lv_at hl 0 rfl) ?_
        refine va_get (ci := 6) (v := .int (gi u13 7)) (C := RX6) (T := TX6) (N := 8) hx hb hts (fun w h => uc_in w (inX6 w h)) hown hK hH.1 1 (cwc1 C A u13) rfl 7 (by decide) (hts _ (uc_in _ q_f43)) (fun _ h9 => h9) rfl dX6_numeral_38 ?_
        refine pv_i (v := (gi u 7)) ((hUu13.1 7 rfl).trans rfl) ?_
        refine lv_istore_n (lv' := [(3, .int (gi u 7)), (0, .ref (A 1)), (1, .int a0), (2, .int a1)]) hx hb dX6_numeral_41 rfl hl (by decide) rfl (fun ls hl => ?_)
        refine lv_aload_n hx hb dX6_numeral_42 rfl (lv_at hl 1 rfl) ?_
        refine cvU (n := 0) (As := []) (rest := []) ⟨hx, hb, hml, hown, hts⟩ uc_in (kX6_step_0 l D C A u13 hI  _) q_m444 q_n446 q_p0 q_i2 q_c447 hvX6_step ⟨(Nat.le_of_ble_eq_true rfl), (Nat.le_of_ble_eq_true rfl)⟩ ⟨(Nat.le_of_ble_eq_true rfl), (Nat.le_of_ble_eq_true rfl)⟩ hK hH (fun q h => Or.inr h) Bl0 (fun _ _ _ => trivial) 6 1 rfl (cwc1 C A u13) rfl hl.1 rfl (Nat.le_of_ble_eq_true rfl) dX6_numeral_43 (fun u16 H locs p18 hH => ?_)
        obtain ⟨hI, hUu16, p18⟩ := p18
        refine lv_iload_n hx hb dX6_numeral_46 rfl (lv_at hl 0 rfl) ?_
        exact hret _ _ _ _ (gi u 7) _ dX6_numeral_47 rfl ⟨hI, (Un.tr (Un.tr Un.rf hUu13 rfl rfl rfl) hUu16 rfl rfl rfl), (fun h => by have q7 : (0 : Int32).toInt = 0 := (by decide); have q8 := congrArg Int32.toInt h; have q2 := (show (gi u16 2).toInt = ((gi u13 2)).toInt from (congrArg Int32.toInt (show gi u16 2 = (gi u13 2) from ((hUu16.1 2 rfl).trans rfl))).trans rfl); omega)⟩ hH
  · refine lv_aload_n hx hb dX6_numeral_8 rfl (lv_at hl 0 rfl) ?_
    refine lv_iconst (v := 1) hx hb dX6_numeral_9 (by decide) ?_
    refine cvU (n := 1) (As := [.int 1]) (rest := []) ⟨hx, hb, hml, hown, hts⟩ uc_in (kX6_blame_0 l D C A u hI  _) q_m523 q_n525 q_p5 q_i2 q_c526 hvX6_blame ⟨(Nat.le_of_ble_eq_true rfl), (Nat.le_of_ble_eq_true rfl)⟩ ⟨(Nat.le_of_ble_eq_true rfl), (Nat.le_of_ble_eq_true rfl)⟩ hK hH (fun q h => Or.inr h) Bl0 (fun _ _ _ => trivial) 6 1 rfl (cwc1 C A u) rfl hl.1 rfl (Nat.le_of_ble_eq_true rfl) dX6_numeral_10 (fun u19 H locs p21 hH => ?_)
    obtain ⟨hI, hUu19, p21⟩ := p21
    refine lv_goto (tgt := 37) hx hb dX6_numeral_13 (by decide) ?_
    refine lv_aload_n hx hb dX6_numeral_37 rfl (lv_at hl 0 rfl) ?_
    refine va_get (ci := 6) (v := .int (gi u19 7)) (C := RX6) (T := TX6) (N := 8) hx hb hts (fun w h => uc_in w (inX6 w h)) hown hK hH.1 1 (cwc1 C A u19) rfl 7 (by decide) (hts _ (uc_in _ q_f43)) (fun _ h9 => h9) rfl dX6_numeral_38 ?_
    refine lv_istore_n (lv' := [(3, .int (gi u19 7)), (0, .ref (A 1)), (1, .int a0), (2, .int a1)]) hx hb dX6_numeral_41 rfl hl (by decide) rfl (fun ls hl => ?_)
    refine lv_aload_n hx hb dX6_numeral_42 rfl (lv_at hl 1 rfl) ?_
    refine cvU (n := 0) (As := []) (rest := []) ⟨hx, hb, hml, hown, hts⟩ uc_in (kX6_step_0 l D C A u19 hI  _) q_m444 q_n446 q_p0 q_i2 q_c447 hvX6_step ⟨(Nat.le_of_ble_eq_true rfl), (Nat.le_of_ble_eq_true rfl)⟩ ⟨(Nat.le_of_ble_eq_true rfl), (Nat.le_of_ble_eq_true rfl)⟩ hK hH (fun q h => Or.inr h) Bl0 (fun _ _ _ => trivial) 6 1 rfl (cwc1 C A u19) rfl hl.1 rfl (Nat.le_of_ble_eq_true rfl) dX6_numeral_43 (fun u22 H locs p24 hH => ?_)
    obtain ⟨hI, hUu22, p24⟩ := p24
    refine lv_iload_n hx hb dX6_numeral_46 rfl (lv_at hl 0 rfl) ?_
    exact hret _ _ _ _ (gi u19 7) _ dX6_numeral_47 rfl ⟨hI, (Un.tr (Un.tr Un.rf hUu19 rfl rfl rfl) hUu22 rfl rfl rfl), (fun h => by have q7 : (0 : Int32).toInt = 0 := (by decide); have q8 := congrArg Int32.toInt h; have q2 := (show (gi u22 2).toInt = ((gi u19 2)).toInt from (congrArg Int32.toInt (show gi u22 2 = (gi u19 2) from ((hUu22.1 2 rfl).trans rfl))).trans rfl); omega)⟩ hH
set_option maxHeartbeats 4000000 in
set_option maxRecDepth 100000 in
theorem kX6_blame_2 (l : Launch) (D : va_G) (C : Nat → ClassId) (A : Nat → Nat) (u : St) (hI : IC u) (sz : Nat) : MetV l yX6_blame cX6_blame 2 1 [.ref (A 1), .int 3] D (tyl C) (cw C A) X0 u sz (fun u' => IC u' ∧ Un [(2, 2), (3, 3)] [] [] u u' ∧ (gi u' 2).toInt ≠ 0) := by
  refine mV (by decide) (Nat.le_of_ble_eq_true rfl) ?_
  intro p e s m below meth c ls ar Q hx hb hml hown hts hK hH hX hl hret
  have hown : s.vm.findClass RX6 = some m.cls := hown
  have hl : lv_has ls 2 [(0, .ref (A 1)), (1, .int 3)] := hl
  refine lv_aload_n hx hb dX6_blame_0 rfl (lv_at hl 0 rfl) ?_
  refine va_get (ci := 6) (v := .int (gi u 2)) (C := RX6) (T := TX6) (N := 8) hx hb hts (fun w h => uc_in w (inX6 w h)) hown hK hH.1 1 (cwc1 C A u) rfl 2 (by decide) (hts _ (uc_in _ q_f36)) (fun _ h9 => h9) rfl dX6_blame_1 ?_
  refine lv_if_ne (tgt := 20) hx hb dX6_blame_4 (by decide) (fun c1 => ?_) (fun c1 => ?_)
  · have c1 := cNE (x := (gi u 2)) (y := 0) (X := ((gi u 2)).toInt) (Y := 0) rfl (by decide) c1
    exact hret _ _ _ _ _ dX6_blame_20 ⟨hI, Un.rf, (by have q2 := (show (gi u 2).toInt = ((gi u 2)).toInt from (congrArg Int32.toInt (show gi u 2 = (gi u 2) from rfl)).trans rfl); omega)⟩ hH
  · have c1 := cEQ (x := (gi u 2)) (y := 0) (X := ((gi u 2)).toInt) (Y := 0) rfl (by decide) c1
    refine lv_aload_n hx hb dX6_blame_7 rfl (lv_at hl 0 rfl) ?_
    refine lv_iload_n hx hb dX6_blame_8 rfl (lv_at hl 1 rfl) ?_
    refine r_put (j := 2) (ci := 6) (C := RX6) (T := TX6) (N := 8) hx hb hts (fun w h => uc_in w (inX6 w h)) tyX6 tyX6_ok nmX6 hown hK hH 1 (cwc1 C A u) rfl 2 (by decide) (hts _ (uc_in _ q_f36)) (fun _ h9 => h9) rfl (by decide +kernel) (Nat.le_of_ble_eq_true rfl) (cws2 C A u _) dX6_blame_9 (fun u2 eu2 H locs hH => ?_)
    have hI := hI.fault eu2 (fun h => absurd h (by decide))
    refine lv_aload_n hx hb dX6_blame_12 rfl (lv_at hl 0 rfl) ?_
    refine lv_aload_n hx hb dX6_blame_13 rfl (lv_at hl 0 rfl) ?_
    refine va_get (ci := 6) (v := .int (gi u2 4)) (C := RX6) (T := TX6) (N := 8) hx hb hts (fun w h => uc_in w (inX6 w h)) hown hK hH.1 1 (cwc1 C A u2) rfl 4 (by decide) (hts _ (uc_in _ q_f40)) (fun _ h9 => h9) rfl dX6_blame_14 ?_
    have b3 := hI.b4
    refine r_put (j := 3) (ci := 6) (C := RX6) (T := TX6) (N := 8) hx hb hts (fun w h => uc_in w (inX6 w h)) tyX6 tyX6_ok nmX6 hown hK hH 1 (cwc1 C A u2) rfl 3 (by decide) (hts _ (uc_in _ q_f38)) (fun _ h9 => h9) rfl (by decide +kernel) (Nat.le_of_ble_eq_true rfl) (cws3 C A u2 _) dX6_blame_17 (fun u4 eu4 H locs hH => ?_)
    have hI := hI.pi0 eu4 rfl (by decide) (by decide)
    exact hret _ _ _ _ _ dX6_blame_20 ⟨hI, (Un.si (Un.si Un.rf rfl eu2) rfl eu4), (by have q2 := (show (gi u4 2).toInt = 3 from (congrArg Int32.toInt (show gi u4 2 = 3 from ((gi_ne eu4 (by decide)).trans (gi_si eu2)))).trans (by decide)); omega)⟩ hH
set_option maxHeartbeats 4000000 in
set_option maxRecDepth 100000 in
theorem kX6_readTrade_0 (l : Launch) (D : va_G) (C : Nat → ClassId) (A : Nat → Nat) (u : St) (hI : IC u) (adK adV : Nat → Nat) (sz : Nat) : MetV l yX6_readTrade cX6_readTrade 2 7 [.ref (A 1), .ref (A 3)] D (tyl C) (cw C A) (XS adK adV) u sz (fun u' => IC u' ∧ Un [(2, 2), (3, 3), (4, 4), (5, 5), (6, 6), (7, 7), (21, 21), (22, 22)] [] [] u u' ∧ True) := by
  refine mV (by decide) (Nat.le_of_ble_eq_true rfl) ?_
  intro p e s m below meth c ls ar Q hx hb hml hown hts hK hH hX hl hret
  have hown : s.vm.findClass RX6 = some m.cls := hown
  have hl : lv_has ls 2 [(0, .ref (A 1)), (1, .ref (A 3))] := hl
  refine lv_aload_n hx hb dX6_readTrade_0 rfl (lv_at hl 1 rfl) ?_
  refine va_get (ci := 7) (v := .int (gi u 21)) (C := RX7) (T := TX7) (N := 16) hx hb hts (fun w h => uc_in w (inX7 w h)) hown hK hH.1 3 (cwc3 C A u) rfl 5 (by decide) (hts _ (uc_in _ q_f86)) (fun _ h9 => h9) rfl dX6_readTrade_1 ?_
  refine lv_iconst (v := 5) hx hb dX6_readTrade_4 (by decide) ?_
  refine lv_icmp_lt (tgt := 14) hx hb dX6_readTrade_5 (by decide) (fun c1 => ?_) (fun c1 => ?_)
  · have c1 := cLT (x := (gi u 21)) (y := 5) (X := ((gi u 21)).toInt) (Y := 5) rfl (by decide) c1
    refine lv_aload_n hx hb dX6_readTrade_14 rfl (lv_at hl 0 rfl) ?_
    refine va_ldcS hx hb hown (show vk_R RX6 58 "trade" (adK 12) s from hX.2.1 12 (by decide)) dX6_readTrade_15 ?_
    refine cvU (n := 1) (As := [.ref (adK 12)]) (rest := []) ⟨hx, hb, hml, hown, hts⟩ uc_in (kX6_expect_0 l D C A u hI  adK adV _) q_m467 q_n469 q_p3 q_i2 q_c470 hvX6_expect ⟨(Nat.le_of_ble_eq_true rfl), (Nat.le_of_ble_eq_true rfl)⟩ ⟨(Nat.le_of_ble_eq_true rfl), (Nat.le_of_ble_eq_true rfl)⟩ hK hH (fun q h => Or.inr h) BlS (fun U hU hW => hX.at hH hW hU) 6 1 rfl (cwc1 C A u) rfl hl.1 rfl (Nat.le_of_ble_eq_true rfl) dX6_readTrade_17 (fun u2 H locs p4 hH => ?_)
    obtain ⟨hI, hUu2, p4⟩ := p4
    refine lv_aload_n hx hb dX6_readTrade_20 rfl (lv_at hl 0 rfl) ?_
    refine va_ldcS hx hb hown (show vk_R RX6 125 "waits" (adK 13) s from hX.2.1 13 (by decide)) dX6_readTrade_21 ?_
    refine cvU (n := 1) (As := [.ref (adK 13)]) (rest := []) ⟨hx, hb, hml, hown, hts⟩ uc_in (kX6_expect_1 l D C A u2 hI  adK adV _) q_m467 q_n469 q_p3 q_i2 q_c470 hvX6_expect ⟨(Nat.le_of_ble_eq_true rfl), (Nat.le_of_ble_eq_true rfl)⟩ ⟨(Nat.le_of_ble_eq_true rfl), (Nat.le_of_ble_eq_true rfl)⟩ hK hH (fun q h => Or.inr h) BlS (fun U hU hW => hX.at hH hW hU) 6 1 rfl (cwc1 C A u2) rfl hl.1 rfl (Nat.le_of_ble_eq_true rfl) dX6_readTrade_23 (fun u5 H locs p7 hH => ?_)
    obtain ⟨hI, hUu5, p7⟩ := p7
    refine lv_aload_n hx hb dX6_readTrade_26 rfl (lv_at hl 1 rfl) ?_
    refine lv_dup hx hb dX6_readTrade_27 rfl ?_
    refine va_get (ci := 7) (v := .int (gi u5 22)) (C := RX7) (T := TX7) (N := 16) hx hb hts (fun w h => uc_in w (inX7 w h)) hown hK hH.1 3 (cwc3 C A u5) rfl 6 (by decide) (hts _ (uc_in _ q_f90)) (fun _ h9 => h9) rfl dX6_readTrade_28 ?_
    refine lv_aload_n hx hb dX6_readTrade_31 rfl (lv_at hl 0 rfl) ?_
    refine lv_iconst (v := 0) hx hb dX6_readTrade_32 (by decide) ?_
    refine lv_bipush (v := 99) hx hb dX6_readTrade_33 (by decide) ?_
    refine cvI (n := 2) (As := [.int 0, .int 99]) (rest := [.int (gi u5 22), .ref (A 3)]) ⟨hx, hb, hml, hown, hts⟩ uc_in (kX6_numeral_0 l D C A u5 hI (0) 0 (by decide) (99) 99 (by decide) _) q_m528 q_n530 q_p6 q_i2 q_c531 hvX6_numeral ⟨(Nat.le_of_ble_eq_true rfl), (Nat.le_of_ble_eq_true rfl)⟩ ⟨(Nat.le_of_ble_eq_true rfl), (Nat.le_of_ble_eq_true rfl)⟩ hK hH (fun q h => Or.inr h) Bl0 (fun _ _ _ => trivial) 6 1 rfl (cwc1 C A u5) rfl hl.1 rfl (Nat.le_of_ble_eq_true rfl) dX6_readTrade_35 (fun r9 u8 H locs p10 hH => ?_)
    obtain ⟨hI, hUu8, p10⟩ := p10
    refine lv_iadd hx hb dX6_readTrade_38 ?_
    refine p_any (fun z11 => ?_)
    refine r_put (j := 22) (ci := 7) (C := RX7) (T := TX7) (N := 16) hx hb hts (fun w h => uc_in w (inX7 w h)) tyX7 tyX7_ok nmX7 hown hK hH 3 (cwc3 C A u8) rfl 6 (by decide) (hts _ (uc_in _ q_f90)) (fun _ h9 => h9) rfl (by decide +kernel) (Nat.le_of_ble_eq_true rfl) (cws22 C A u8 _) dX6_readTrade_39 (fun u12 eu12 H locs hH => ?_)
    have hI := hI.pi0 eu12 rfl (by decide) (by decide)
    refine lv_aload_n hx hb dX6_readTrade_42 rfl (lv_at hl 1 rfl) ?_
    refine lv_dup hx hb dX6_readTrade_43 rfl ?_
    refine va_get (ci := 7) (v := .int (gi u12 21)) (C := RX7) (T := TX7) (N := 16) hx hb hts (fun w h => uc_in w (inX7 w h)) hown hK hH.1 3 (cwc3 C A u12) rfl 5 (by decide) (hts _ (uc_in _ q_f86)) (fun _ h9 => h9) rfl dX6_readTrade_44 ?_
    refine pv_i (v := (gi u 21)) ((gi_ne eu12 (by decide)).trans ((hUu8.1 21 rfl).trans ((hUu5.1 21 rfl).trans ((hUu2.1 21 rfl).trans rfl)))) ?_
    refine lv_iconst (v := 1) hx hb dX6_readTrade_47 (by decide) ?_
    refine lv_iadd hx hb dX6_readTrade_48 ?_
    have b13 := i_rng (x := (gi u 21)) (X := ((gi u 21)).toInt) rfl
    refine p_nm (tt_add (X := ((gi u 21)).toInt) (Y := 1) rfl (by decide) (by omega) (by omega)) (fun z14 hz14 => ?_)
    refine r_put (j := 21) (ci := 7) (C := RX7) (T := TX7) (N := 16) hx hb hts (fun w h => uc_in w (inX7 w h)) tyX7 tyX7_ok nmX7 hown hK hH 3 (cwc3 C A u12) rfl 5 (by decide) (hts _ (uc_in _ q_f86)) (fun _ h9 => h9) rfl (by decide +kernel) (Nat.le_of_ble_eq_true rfl) (cws21 C A u12 _) dX6_readTrade_49 (fun u15 eu15 H locs hH => ?_)
    have hI := hI.pi0 eu15 rfl (by decide) (by decide)
    exact hret _ _ _ _ _ dX6_readTrade_52 ⟨hI, (Un.si (Un.si (Un.tr (Un.tr (Un.tr Un.rf hUu2 rfl rfl rfl) hUu5 rfl rfl rfl) hUu8 rfl rfl rfl) rfl eu12) rfl eu15), trivial⟩ hH
  · have c1 := cNLT (x := (gi u 21)) (y := 5) (X := ((gi u 21)).toInt) (Y := 5) rfl (by decide) c1
    refine lv_aload_n hx hb dX6_readTrade_8 rfl (lv_at hl 0 rfl) ?_
    refine lv_iconst (v := 3) hx hb dX6_readTrade_9 (by decide) ?_
    refine cvU (n := 1) (As := [.int 3]) (rest := []) ⟨hx, hb, hml, hown, hts⟩ uc_in (kX6_blame_2 l D C A u hI  _) q_m523 q_n525 q_p5 q_i2 q_c526 hvX6_blame ⟨(Nat.le_of_ble_eq_true rfl), (Nat.le_of_ble_eq_true rfl)⟩ ⟨(Nat.le_of_ble_eq_true rfl), (Nat.le_of_ble_eq_true rfl)⟩ hK hH (fun q h => Or.inr h) Bl0 (fun _ _ _ => trivial) 6 1 rfl (cwc1 C A u) rfl hl.1 rfl (Nat.le_of_ble_eq_true rfl) dX6_readTrade_10 (fun u16 H locs p18 hH => ?_)
    obtain ⟨hI, hUu16, p18⟩ := p18
    exact hret _ _ _ _ _ dX6_readTrade_13 ⟨hI, (Un.tr Un.rf hUu16 rfl rfl rfl), trivial⟩ hH
set_option maxHeartbeats 4000000 in
set_option maxRecDepth 100000 in
theorem kX6_expect_2 (l : Launch) (D : va_G) (C : Nat → ClassId) (A : Nat → Nat) (u : St) (hI : IC u) (adK adV : Nat → Nat) (sz : Nat) : MetV l yX6_expect cX6_expect 2 6 [.ref (A 1), .ref (adK 4)] D (tyl C) (cw C A) (XS adK adV) u sz (fun u' => IC u' ∧ Un [(2, 2), (3, 3), (4, 4), (5, 5), (6, 6), (7, 7)] [] [] u u' ∧ True) := by
  refine mV (by decide) (Nat.le_of_ble_eq_true rfl) ?_
  intro p e s m below meth c ls ar Q hx hb hml hown hts hK hH hX hl hret
  have hown : s.vm.findClass RX6 = some m.cls := hown
  have hl : lv_has ls 2 [(0, .ref (A 1)), (1, .ref (adK 4))] := hl
  refine lv_aload_n hx hb dX6_expect_0 rfl (lv_at hl 0 rfl) ?_
  refine lv_aload_n hx hb dX6_expect_1 rfl (lv_at hl 1 rfl) ?_
  refine cvI (n := 1) (As := [.ref (adK 4)]) (rest := []) ⟨hx, hb, hml, hown, hts⟩ uc_in (kX6_isWord_0 l D C A u hI  adK adV _) q_m471 q_n473 q_p4 q_i2 q_c474 hvX6_isWord ⟨(Nat.le_of_ble_eq_true rfl), (Nat.le_of_ble_eq_true rfl)⟩ ⟨(Nat.le_of_ble_eq_true rfl), (Nat.le_of_ble_eq_true rfl)⟩ hK hH (fun q h => Or.inr h) BlS (fun U hU hW => hX.at hH hW hU) 6 1 rfl (cwc1 C A u) rfl hl.1 rfl (Nat.le_of_ble_eq_true rfl) dX6_expect_2 (fun r2 u1 H locs p3 hH => ?_)
  obtain ⟨hI, hUu1, p3⟩ := p3
  have p3 : 0 ≤ r2.toInt ∧ r2.toInt ≤ 1 := p3
  refine lv_if_ne (tgt := 13) hx hb dX6_expect_5 (by decide) (fun c4 => ?_) (fun c4 => ?_)
  · have c4 := cNE (x := r2) (y := 0) (X := r2.toInt) (Y := 0) rfl (by decide) c4
    refine lv_aload_n hx hb dX6_expect_13 rfl (lv_at hl 0 rfl) ?_
    refine cvU (n := 0) (As := []) (rest := []) ⟨hx, hb, hml, hown, hts⟩ uc_in (kX6_step_0 l D C A u1 hI  _) q_m444 q_n446 q_p0 q_i2 q_c447 hvX6_step ⟨(Nat.le_of_ble_eq_true rfl), (Nat.le_of_ble_eq_true rfl)⟩ ⟨(Nat.le_of_ble_eq_true rfl), (Nat.le_of_ble_eq_true rfl)⟩ hK hH (fun q h => Or.inr h) Bl0 (fun _ _ _ => trivial) 6 1 rfl (cwc1 C A u1) rfl hl.1 rfl (Nat.le_of_ble_eq_true rfl) dX6_expect_14 (fun u5 H locs p7 hH => ?_)
    obtain ⟨hI, hUu5, p7⟩ := p7
    exact hret _ _ _ _ _ dX6_expect_17 ⟨hI, (Un.tr (Un.tr Un.rf hUu1 rfl rfl rfl) hUu5 rfl rfl rfl), trivial⟩ hH
  · have c4 := cEQ (x := r2) (y := 0) (X := r2.toInt) (Y := 0) rfl (by decide) c4
    refine lv_aload_n hx hb dX6_expect_8 rfl (lv_at hl 0 rfl) ?_
    refine lv_iconst (v := 1) hx hb dX6_expect_9 (by decide) ?_
    refine cvU (n := 1) (As := [.int 1]) (rest := []) ⟨hx, hb, hml, hown, hts⟩ uc_in (kX6_blame_0 l D C A u1 hI  _) q_m523 q_n525 q_p5 q_i2 q_c526 hvX6_blame ⟨(Nat.le_of_ble_eq_true rfl), (Nat.le_of_ble_eq_true rfl)⟩ ⟨(Nat.le_of_ble_eq_true rfl), (Nat.le_of_ble_eq_true rfl)⟩ hK hH (fun q h => Or.inr h) Bl0 (fun _ _ _ => trivial) 6 1 rfl (cwc1 C A u1) rfl hl.1 rfl (Nat.le_of_ble_eq_true rfl) dX6_expect_10 (fun u8 H locs p10 hH => ?_)
    obtain ⟨hI, hUu8, p10⟩ := p10
    refine lv_aload_n hx hb dX6_expect_13 rfl (lv_at hl 0 rfl) ?_
    refine cvU (n := 0) (As := []) (rest := []) ⟨hx, hb, hml, hown, hts⟩ uc_in (kX6_step_0 l D C A u8 hI  _) q_m444 q_n446 q_p0 q_i2 q_c447 hvX6_step ⟨(Nat.le_of_ble_eq_true rfl), (Nat.le_of_ble_eq_true rfl)⟩ ⟨(Nat.le_of_ble_eq_true rfl), (Nat.le_of_ble_eq_true rfl)⟩ hK hH (fun q h => Or.inr h) Bl0 (fun _ _ _ => trivial) 6 1 rfl (cwc1 C A u8) rfl hl.1 rfl (Nat.le_of_ble_eq_true rfl) dX6_expect_14 (fun u11 H locs p13 hH => ?_)
    obtain ⟨hI, hUu11, p13⟩ := p13
    exact hret _ _ _ _ _ dX6_expect_17 ⟨hI, (Un.tr (Un.tr (Un.tr Un.rf hUu1 rfl rfl rfl) hUu8 rfl rfl rfl) hUu11 rfl rfl rfl), trivial⟩ hH
set_option maxHeartbeats 4000000 in
set_option maxRecDepth 100000 in
theorem kX6_isWord_3 (l : Launch) (D : va_G) (C : Nat → ClassId) (A : Nat → Nat) (u : St) (hI : IC u) (adK adV : Nat → Nat) (sz : Nat) : MetI l yX6_isWord cX6_isWord 3 (some .boolean) 5 [.ref (A 1), .ref (adK 5)] D (tyl C) (cw C A) (XS adK adV) u sz (fun r u' => IC u' ∧ Un [] [] [] u u' ∧ (0 ≤ r.toInt ∧ r.toInt ≤ 1)) := by
  refine mI (by decide) (Nat.le_of_ble_eq_true rfl) ?_
  intro p e s m below meth c ls ar Q hx hb hml hown hts hK hH hX hl hret
  have hown : s.vm.findClass RX6 = some m.cls := hown
  have hl : lv_has ls 3 [(0, .ref (A 1)), (1, .ref (adK 5))] := hl
  refine lv_aload_n hx hb dX6_isWord_0 rfl (lv_at hl 0 rfl) ?_
  refine va_get (ci := 6) (v := .int (gi u 6)) (C := RX6) (T := TX6) (N := 8) hx hb hts (fun w h => uc_in w (inX6 w h)) hown hK hH.1 1 (cwc1 C A u) rfl 6 (by decide) (hts _ (uc_in _ q_f42)) (fun _ h9 => h9) rfl dX6_isWord_1 ?_
  refine lv_iconst (v := 2) hx hb dX6_isWord_4 (by decide) ?_
  refine lv_icmp_ne (tgt := 24) hx hb dX6_isWord_5 (by decide) (fun c1 => ?_) (fun c1 => ?_)
  · refine lv_iconst (v := 0) hx hb dX6_isWord_24 (by decide) ?_
    exact hret _ _ _ _ (0 : Int32) _ dX6_isWord_25 rfl ⟨hI, Un.rf, ⟨by decide, by decide⟩⟩ hH
  · have c1 := cEQ (x := (gi u 6)) (y := 2) (X := ((gi u 6)).toInt) (Y := 2) rfl (by decide) c1
    refine lv_aload_n hx hb dX6_isWord_8 rfl (lv_at hl 0 rfl) ?_
    refine va_get (ci := 6) (v := .int (gi u 5)) (C := RX6) (T := TX6) (N := 8) hx hb hts (fun w h => uc_in w (inX6 w h)) hown hK hH.1 1 (cwc1 C A u) rfl 5 (by decide) (hts _ (uc_in _ q_f41)) (fun _ h9 => h9) rfl dX6_isWord_9 ?_
    have b2 := hI.b5
    refine lv_aload_n hx hb dX6_isWord_12 rfl (lv_at hl 0 rfl) ?_
    refine va_get (ci := 6) (v := .int (gi u 4)) (C := RX6) (T := TX6) (N := 8) hx hb hts (fun w h => uc_in w (inX6 w h)) hown hK hH.1 1 (cwc1 C A u) rfl 4 (by decide) (hts _ (uc_in _ q_f40)) (fun _ h9 => h9) rfl dX6_isWord_13 ?_
    have b3 := hI.b4
    refine lv_isub hx hb dX6_isWord_16 ?_
    refine p_nm (tt_sub (X := ((gi u 5)).toInt) (Y := ((gi u 4)).toInt) rfl rfl (by omega) (by omega)) (fun z4 hz4 => ?_)
    refine lv_aload_n hx hb dX6_isWord_17 rfl (lv_at hl 1 rfl) ?_
    refine cvT (n := 0) (As := []) (rest := [.int z4]) ⟨hx, hb, hml, hown, hts⟩ uc_in (kT_length l adK adV 5 (by decide)) blT q_m475 q_n476 q_e477 q_i13 q_c478 hvJ0_length_8abf5 ⟨(Nat.le_of_ble_eq_true rfl), (Nat.le_of_ble_eq_true rfl)⟩ ⟨(Nat.le_of_ble_eq_true rfl), (Nat.le_of_ble_eq_true rfl)⟩ (vk_recv hX.1 (show 5 < 14 by decide) hH.2.2) (fun U hU hW => hX.now hH hW hU) rfl hl.1 rfl (Nat.le_of_ble_eq_true rfl) dX6_isWord_18 (fun r5 p6 => ?_)
    have p6 : r5 = 2 := p6.trans (by decide)
    subst p6
    refine lv_icmp_eq (tgt := 26) hx hb dX6_isWord_21 (by decide) (fun c7 => ?_) (fun c7 => ?_)
    · have c7 := cEQ (x := z4) (y := 2) (X := (((gi u 5)).toInt - ((gi u 4)).toInt)) (Y := 2) hz4 (by decide) c7
      refine lv_iconst (v := 0) hx hb dX6_isWord_26 (by decide) ?_
      refine lv_istore_n (lv' := [(2, .int 0), (0, .ref (A 1)), (1, .ref (adK 5))]) hx hb dX6_isWord_27 rfl hl (by decide) rfl (fun ls hl => ?_)
      have lp28_36 : ∀ (n28 : Nat) (ls : Array Slot) (y36d : Int32), 0 ≤ y36d.toInt → y36d.toInt ≤ 2 → 2 - y36d.toInt < (n28 : Int) → lv_has ls 3 [(2, .int y36d), (0, .ref (A 1)), (1, .ref (adK 5))] → W p l e (rmL 5 0 0) s m ar below meth c s.heap [] 0 0 Q (F0 m 28 ls []) := by
        intro n28
        induction n28 with
        | zero => intro ls y36d ly36d my36d hmun28 hl; exfalso; omega
        | succ n28 ih28_36 =>
          intro ls y36d ly36d my36d hmun28 hl
          refine lv_iload_n hx hb dX6_isWord_28 rfl (lv_at hl 0 rfl) ?_
          refine lv_aload_n hx hb dX6_isWord_29 rfl (lv_at hl 2 rfl) ?_
          refine cvT (n := 0) (As := []) (rest := [.int y36d]) ⟨hx, hb, hml, hown, hts⟩ uc_in (kT_length l adK adV 5 (by decide)) blT q_m475 q_n476 q_e477 q_i13 q_c478 hvJ0_length_8abf5 ⟨(Nat.le_of_ble_eq_true rfl), (Nat.le_of_ble_eq_true rfl)⟩ ⟨(Nat.le_of_ble_eq_true rfl), (Nat.le_of_ble_eq_true rfl)⟩ (vk_recv hX.1 (show 5 < 14 by decide) hH.2.2) (fun U hU hW => hX.now hH hW hU) rfl hl.1 rfl (Nat.le_of_ble_eq_true rfl) dX6_isWord_30 (fun r38 p39 => ?_)
          have p39 : r38 = 2 := p39.trans (by decide)
          subst p39
          refine lv_icmp_ge (tgt := 63) hx hb dX6_isWord_33 (by decide) (fun c40 => ?_) (fun c40 => ?_)
          · have c40 := cLE (x := 2) (y := y36d) (X := 2) (Y := y36d.toInt) (by decide) rfl c40
            refine lv_iconst (v := 1) hx hb dX6_isWord_63 (by decide) ?_
            exact hret _ _ _ _ (1 : Int32) _ dX6_isWord_64 rfl ⟨hI, Un.rf, ⟨by decide, by decide⟩⟩ hH
          · have c40 := cNLE (x := 2) (y := y36d) (X := 2) (Y := y36d.toInt) (by decide) rfl c40
            refine lv_aload_n hx hb dX6_isWord_36 rfl (lv_at hl 1 rfl) ?_
            refine va_get (ci := 6) (v := .ref (A 22)) (C := RX6) (T := TX6) (N := 8) hx hb hts (fun w h => uc_in w (inX6 w h)) hown hK hH.1 1 (cwc1 C A u) rfl 0 (by decide) (hts _ (uc_in _ q_f33)) (fun _ h9 => h9) rfl dX6_isWord_37 ?_
            refine lv_aload_n hx hb dX6_isWord_40 rfl (lv_at hl 1 rfl) ?_
            refine va_get (ci := 6) (v := .int (gi u 4)) (C := RX6) (T := TX6) (N := 8) hx hb hts (fun w h => uc_in w (inX6 w h)) hown hK hH.1 1 (cwc1 C A u) rfl 4 (by decide) (hts _ (uc_in _ q_f40)) (fun _ h9 => h9) rfl dX6_isWord_41 ?_
            refine lv_iload_n hx hb dX6_isWord_44 rfl (lv_at hl 0 rfl) ?_
            refine lv_iadd hx hb dX6_isWord_45 ?_
            refine p_nm (tt_add (X := ((gi u 4)).toInt) (Y := y36d.toInt) rfl rfl (by omega) (by omega)) (fun z41 hz41 => ?_)
            refine va_bald hx hb hK hH.1 22 0 (cwc22 C A u) rfl (i_ix hz41 (by omega) (by omega)) dX6_isWord_46 ?_
            refine p_any (fun z42 => ?_)
            refine lv_aload_n hx hb dX6_isWord_47 rfl (lv_at hl 2 rfl) ?_
            refine lv_iload_n hx hb dX6_isWord_48 rfl (lv_at hl 0 rfl) ?_
            refine cvT (n := 1) (As := [.int y36d]) (rest := [.int z42]) ⟨hx, hb, hml, hown, hts⟩ uc_in (kT_charAt l adK adV 5 (by decide) y36d (show vp_in y36d 2 from i_ix rfl (by omega) (by omega))) blT q_m485 q_n486 q_e487 q_i13 q_c488 hvJ0_charAt_5068e ⟨(Nat.le_of_ble_eq_true rfl), (Nat.le_of_ble_eq_true rfl)⟩ ⟨(Nat.le_of_ble_eq_true rfl), (Nat.le_of_ble_eq_true rfl)⟩ (vk_recv hX.1 (show 5 < 14 by decide) hH.2.2) (fun U hU hW => hX.now hH hW hU) rfl hl.1 rfl (Nat.le_of_ble_eq_true rfl) dX6_isWord_49 (fun r43 _ => ?_)
            refine lv_icmp_eq (tgt := 57) hx hb dX6_isWord_52 (by decide) (fun c44 => ?_) (fun c44 => ?_)
            · have c44 := cEQ (x := z42) (y := r43) (X := z42.toInt) (Y := r43.toInt) rfl rfl c44
              obtain ⟨z45, ez45⟩ : ∃ z, z = y36d + Int32.ofInt 1 := ⟨_, rfl⟩
              have hz45 : z45.toInt = y36d.toInt + 1 := by rw [ez45]; exact tt_add rfl (by decide) (by omega) (by omega)
              refine lv_iinc (v := z45) (lv' := [(2, .int z45), (0, .ref (A 1)), (1, .ref (adK 5))]) hx hb dX6_isWord_57 hl (k := 0) rfl ez45.symm (by decide) rfl (fun ls hl => ?_)
              refine lv_goto (tgt := 28) hx hb dX6_isWord_60 (by decide) ?_
              exact ih28_36 ls z45 (by have q9 := (show z45.toInt = (y36d.toInt + 1) from hz45); omega) (by have q9 := (show z45.toInt = (y36d.toInt + 1) from hz45); omega) (by have q9 := (show z45.toInt = (y36d.toInt + 1) from hz45); omega) hl
            · refine lv_iconst (v := 0) hx hb dX6_isWord_55 (by decide) ?_
              exact hret _ _ _ _ (0 : Int32) _ dX6_isWord_56 rfl ⟨hI, Un.rf, ⟨by decide, by decide⟩⟩ hH
      exact lp28_36 3 ls 0 (by decide) (by decide) (by have q9 : (0 : Int32).toInt = 0 := (by decide); omega) hl
    · refine lv_iconst (v := 0) hx hb dX6_isWord_24 (by decide) ?_
      exact hret _ _ _ _ (0 : Int32) _ dX6_isWord_25 rfl ⟨hI, Un.rf, ⟨by decide, by decide⟩⟩ hH
set_option maxHeartbeats 4000000 in
set_option maxRecDepth 100000 in
theorem kX6_expect_3 (l : Launch) (D : va_G) (C : Nat → ClassId) (A : Nat → Nat) (u : St) (hI : IC u) (adK adV : Nat → Nat) (sz : Nat) : MetV l yX6_expect cX6_expect 2 6 [.ref (A 1), .ref (adK 5)] D (tyl C) (cw C A) (XS adK adV) u sz (fun u' => IC u' ∧ Un [(2, 2), (3, 3), (4, 4), (5, 5), (6, 6), (7, 7)] [] [] u u' ∧ True) := by
  refine mV (by decide) (Nat.le_of_ble_eq_true rfl) ?_
  intro p e s m below meth c ls ar Q hx hb hml hown hts hK hH hX hl hret
  have hown : s.vm.findClass RX6 = some m.cls := hown
  have hl : lv_has ls 2 [(0, .ref (A 1)), (1, .ref (adK 5))] := hl
  refine lv_aload_n hx hb dX6_expect_0 rfl (lv_at hl 0 rfl) ?_
  refine lv_aload_n hx hb dX6_expect_1 rfl (lv_at hl 1 rfl) ?_
  refine cvI (n := 1) (As := [.ref (adK 5)]) (rest := []) ⟨hx, hb, hml, hown, hts⟩ uc_in (kX6_isWord_3 l D C A u hI  adK adV _) q_m471 q_n473 q_p4 q_i2 q_c474 hvX6_isWord ⟨(Nat.le_of_ble_eq_true rfl), (Nat.le_of_ble_eq_true rfl)⟩ ⟨(Nat.le_of_ble_eq_true rfl), (Nat.le_of_ble_eq_true rfl)⟩ hK hH (fun q h => Or.inr h) BlS (fun U hU hW => hX.at hH hW hU) 6 1 rfl (cwc1 C A u) rfl hl.1 rfl (Nat.le_of_ble_eq_true rfl) dX6_expect_2 (fun r2 u1 H locs p3 hH => ?_)
  obtain ⟨hI, hUu1, p3⟩ := p3
  have p3 : 0 ≤ r2.toInt ∧ r2.toInt ≤ 1 := p3
  refine lv_if_ne (tgt := 13) hx hb dX6_expect_5 (by decide) (fun c4 => ?_) (fun c4 => ?_)
  · have c4 := cNE (x := r2) (y := 0) (X := r2.toInt) (Y := 0) rfl (by decide) c4
    refine lv_aload_n hx hb dX6_expect_13 rfl (lv_at hl 0 rfl) ?_
    refine cvU (n := 0) (As := []) (rest := []) ⟨hx, hb, hml, hown, hts⟩ uc_in (kX6_step_0 l D C A u1 hI  _) q_m444 q_n446 q_p0 q_i2 q_c447 hvX6_step ⟨(Nat.le_of_ble_eq_true rfl), (Nat.le_of_ble_eq_true rfl)⟩ ⟨(Nat.le_of_ble_eq_true rfl), (Nat.le_of_ble_eq_true rfl)⟩ hK hH (fun q h => Or.inr h) Bl0 (fun _ _ _ => trivial) 6 1 rfl (cwc1 C A u1) rfl hl.1 rfl (Nat.le_of_ble_eq_true rfl) dX6_expect_14 (fun u5 H locs p7 hH => ?_)
    obtain ⟨hI, hUu5, p7⟩ := p7
    exact hret _ _ _ _ _ dX6_expect_17 ⟨hI, (Un.tr (Un.tr Un.rf hUu1 rfl rfl rfl) hUu5 rfl rfl rfl), trivial⟩ hH
  · have c4 := cEQ (x := r2) (y := 0) (X := r2.toInt) (Y := 0) rfl (by decide) c4
    refine lv_aload_n hx hb dX6_expect_8 rfl (lv_at hl 0 rfl) ?_
    refine lv_iconst (v := 1) hx hb dX6_expect_9 (by decide) ?_
    refine cvU (n := 1) (As := [.int 1]) (rest := []) ⟨hx, hb, hml, hown, hts⟩ uc_in (kX6_blame_0 l D C A u1 hI  _) q_m523 q_n525 q_p5 q_i2 q_c526 hvX6_blame ⟨(Nat.le_of_ble_eq_true rfl), (Nat.le_of_ble_eq_true rfl)⟩ ⟨(Nat.le_of_ble_eq_true rfl), (Nat.le_of_ble_eq_true rfl)⟩ hK hH (fun q h => Or.inr h) Bl0 (fun _ _ _ => trivial) 6 1 rfl (cwc1 C A u1) rfl hl.1 rfl (Nat.le_of_ble_eq_true rfl) dX6_expect_10 (fun u8 H locs p10 hH => ?_)
    obtain ⟨hI, hUu8, p10⟩ := p10
    refine lv_aload_n hx hb dX6_expect_13 rfl (lv_at hl 0 rfl) ?_
    refine cvU (n := 0) (As := []) (rest := []) ⟨hx, hb, hml, hown, hts⟩ uc_in (kX6_step_0 l D C A u8 hI  _) q_m444 q_n446 q_p0 q_i2 q_c447 hvX6_step ⟨(Nat.le_of_ble_eq_true rfl), (Nat.le_of_ble_eq_true rfl)⟩ ⟨(Nat.le_of_ble_eq_true rfl), (Nat.le_of_ble_eq_true rfl)⟩ hK hH (fun q h => Or.inr h) Bl0 (fun _ _ _ => trivial) 6 1 rfl (cwc1 C A u8) rfl hl.1 rfl (Nat.le_of_ble_eq_true rfl) dX6_expect_14 (fun u11 H locs p13 hH => ?_)
    obtain ⟨hI, hUu11, p13⟩ := p13
    exact hret _ _ _ _ _ dX6_expect_17 ⟨hI, (Un.tr (Un.tr (Un.tr Un.rf hUu1 rfl rfl rfl) hUu8 rfl rfl rfl) hUu11 rfl rfl rfl), trivial⟩ hH
set_option maxHeartbeats 4000000 in
set_option maxRecDepth 100000 in
theorem kX6_isWord_4 (l : Launch) (D : va_G) (C : Nat → ClassId) (A : Nat → Nat) (u : St) (hI : IC u) (adK adV : Nat → Nat) (sz : Nat) : MetI l yX6_isWord cX6_isWord 3 (some .boolean) 5 [.ref (A 1), .ref (adK 7)] D (tyl C) (cw C A) (XS adK adV) u sz (fun r u' => IC u' ∧ Un [] [] [] u u' ∧ (0 ≤ r.toInt ∧ r.toInt ≤ 1)) := by
  refine mI (by decide) (Nat.le_of_ble_eq_true rfl) ?_
  intro p e s m below meth c ls ar Q hx hb hml hown hts hK hH hX hl hret
  have hown : s.vm.findClass RX6 = some m.cls := hown
  have hl : lv_has ls 3 [(0, .ref (A 1)), (1, .ref (adK 7))] := hl
  refine lv_aload_n hx hb dX6_isWord_0 rfl (lv_at hl 0 rfl) ?_
  refine va_get (ci := 6) (v := .int (gi u 6)) (C := RX6) (T := TX6) (N := 8) hx hb hts (fun w h => uc_in w (inX6 w h)) hown hK hH.1 1 (cwc1 C A u) rfl 6 (by decide) (hts _ (uc_in _ q_f42)) (fun _ h9 => h9) rfl dX6_isWord_1 ?_
  refine lv_iconst (v := 2) hx hb dX6_isWord_4 (by decide) ?_
  refine lv_icmp_ne (tgt := 24) hx hb dX6_isWord_5 (by decide) (fun c1 => ?_) (fun c1 => ?_)
  · refine lv_iconst (v := 0) hx hb dX6_isWord_24 (by decide) ?_
    exact hret _ _ _ _ (0 : Int32) _ dX6_isWord_25 rfl ⟨hI, Un.rf, ⟨by decide, by decide⟩⟩ hH
  · have c1 := cEQ (x := (gi u 6)) (y := 2) (X := ((gi u 6)).toInt) (Y := 2) rfl (by decide) c1
    refine lv_aload_n hx hb dX6_isWord_8 rfl (lv_at hl 0 rfl) ?_
    refine va_get (ci := 6) (v := .int (gi u 5)) (C := RX6) (T := TX6) (N := 8) hx hb hts (fun w h => uc_in w (inX6 w h)) hown hK hH.1 1 (cwc1 C A u) rfl 5 (by decide) (hts _ (uc_in _ q_f41)) (fun _ h9 => h9) rfl dX6_isWord_9 ?_
    have b2 := hI.b5
    refine lv_aload_n hx hb dX6_isWord_12 rfl (lv_at hl 0 rfl) ?_
    refine va_get (ci := 6) (v := .int (gi u 4)) (C := RX6) (T := TX6) (N := 8) hx hb hts (fun w h => uc_in w (inX6 w h)) hown hK hH.1 1 (cwc1 C A u) rfl 4 (by decide) (hts _ (uc_in _ q_f40)) (fun _ h9 => h9) rfl dX6_isWord_13 ?_
    have b3 := hI.b4
    refine lv_isub hx hb dX6_isWord_16 ?_
    refine p_nm (tt_sub (X := ((gi u 5)).toInt) (Y := ((gi u 4)).toInt) rfl rfl (by omega) (by omega)) (fun z4 hz4 => ?_)
    refine lv_aload_n hx hb dX6_isWord_17 rfl (lv_at hl 1 rfl) ?_
    refine cvT (n := 0) (As := []) (rest := [.int z4]) ⟨hx, hb, hml, hown, hts⟩ uc_in (kT_length l adK adV 7 (by decide)) blT q_m475 q_n476 q_e477 q_i13 q_c478 hvJ0_length_8abf5 ⟨(Nat.le_of_ble_eq_true rfl), (Nat.le_of_ble_eq_true rfl)⟩ ⟨(Nat.le_of_ble_eq_true rfl), (Nat.le_of_ble_eq_true rfl)⟩ (vk_recv hX.1 (show 7 < 14 by decide) hH.2.2) (fun U hU hW => hX.now hH hW hU) rfl hl.1 rfl (Nat.le_of_ble_eq_true rfl) dX6_isWord_18 (fun r5 p6 => ?_)
    have p6 : r5 = 5 := p6.trans (by decide)
    subst p6
    refine lv_icmp_eq (tgt := 26) hx hb dX6_isWord_21 (by decide) (fun c7 => ?_) (fun c7 => ?_)
    · have c7 := cEQ (x := z4) (y := 5) (X := (((gi u 5)).toInt - ((gi u 4)).toInt)) (Y := 5) hz4 (by decide) c7
      refine lv_iconst (v := 0) hx hb dX6_isWord_26 (by decide) ?_
      refine lv_istore_n (lv' := [(2, .int 0), (0, .ref (A 1)), (1, .ref (adK 7))]) hx hb dX6_isWord_27 rfl hl (by decide) rfl (fun ls hl => ?_)
      have lp28_46 : ∀ (n28 : Nat) (ls : Array Slot) (y46d : Int32), 0 ≤ y46d.toInt → y46d.toInt ≤ 5 → 5 - y46d.toInt < (n28 : Int) → lv_has ls 3 [(2, .int y46d), (0, .ref (A 1)), (1, .ref (adK 7))] → W p l e (rmL 5 0 0) s m ar below meth c s.heap [] 0 0 Q (F0 m 28 ls []) := by
        intro n28
        induction n28 with
        | zero => intro ls y46d ly46d my46d hmun28 hl; exfalso; omega
        | succ n28 ih28_46 =>
          intro ls y46d ly46d my46d hmun28 hl
          refine lv_iload_n hx hb dX6_isWord_28 rfl (lv_at hl 0 rfl) ?_
          refine lv_aload_n hx hb dX6_isWord_29 rfl (lv_at hl 2 rfl) ?_
          refine cvT (n := 0) (As := []) (rest := [.int y46d]) ⟨hx, hb, hml, hown, hts⟩ uc_in (kT_length l adK adV 7 (by decide)) blT q_m475 q_n476 q_e477 q_i13 q_c478 hvJ0_length_8abf5 ⟨(Nat.le_of_ble_eq_true rfl), (Nat.le_of_ble_eq_true rfl)⟩ ⟨(Nat.le_of_ble_eq_true rfl), (Nat.le_of_ble_eq_true rfl)⟩ (vk_recv hX.1 (show 7 < 14 by decide) hH.2.2) (fun U hU hW => hX.now hH hW hU) rfl hl.1 rfl (Nat.le_of_ble_eq_true rfl) dX6_isWord_30 (fun r48 p49 => ?_)
          have p49 : r48 = 5 := p49.trans (by decide)
          subst p49
          refine lv_icmp_ge (tgt := 63) hx hb dX6_isWord_33 (by decide) (fun c50 => ?_) (fun c50 => ?_)
          · have c50 := cLE (x := 5) (y := y46d) (X := 5) (Y := y46d.toInt) (by decide) rfl c50
            refine lv_iconst (v := 1) hx hb dX6_isWord_63 (by decide) ?_
            exact hret _ _ _ _ (1 : Int32) _ dX6_isWord_64 rfl ⟨hI, Un.rf, ⟨by decide, by decide⟩⟩ hH
          · have c50 := cNLE (x := 5) (y := y46d) (X := 5) (Y := y46d.toInt) (by decide) rfl c50
            refine lv_aload_n hx hb dX6_isWord_36 rfl (lv_at hl 1 rfl) ?_
            refine va_get (ci := 6) (v := .ref (A 22)) (C := RX6) (T := TX6) (N := 8) hx hb hts (fun w h => uc_in w (inX6 w h)) hown hK hH.1 1 (cwc1 C A u) rfl 0 (by decide) (hts _ (uc_in _ q_f33)) (fun _ h9 => h9) rfl dX6_isWord_37 ?_
            refine lv_aload_n hx hb dX6_isWord_40 rfl (lv_at hl 1 rfl) ?_
            refine va_get (ci := 6) (v := .int (gi u 4)) (C := RX6) (T := TX6) (N := 8) hx hb hts (fun w h => uc_in w (inX6 w h)) hown hK hH.1 1 (cwc1 C A u) rfl 4 (by decide) (hts _ (uc_in _ q_f40)) (fun _ h9 => h9) rfl dX6_isWord_41 ?_
            refine lv_iload_n hx hb dX6_isWord_44 rfl (lv_at hl 0 rfl) ?_
            refine lv_iadd hx hb dX6_isWord_45 ?_
            refine p_nm (tt_add (X := ((gi u 4)).toInt) (Y := y46d.toInt) rfl rfl (by omega) (by omega)) (fun z51 hz51 => ?_)
            refine va_bald hx hb hK hH.1 22 0 (cwc22 C A u) rfl (i_ix hz51 (by omega) (by omega)) dX6_isWord_46 ?_
            refine p_any (fun z52 => ?_)
            refine lv_aload_n hx hb dX6_isWord_47 rfl (lv_at hl 2 rfl) ?_
            refine lv_iload_n hx hb dX6_isWord_48 rfl (lv_at hl 0 rfl) ?_
            refine cvT (n := 1) (As := [.int y46d]) (rest := [.int z52]) ⟨hx, hb, hml, hown, hts⟩ uc_in (kT_charAt l adK adV 7 (by decide) y46d (show vp_in y46d 5 from i_ix rfl (by omega) (by omega))) blT q_m485 q_n486 q_e487 q_i13 q_c488 hvJ0_charAt_5068e ⟨(Nat.le_of_ble_eq_true rfl), (Nat.le_of_ble_eq_true rfl)⟩ ⟨(Nat.le_of_ble_eq_true rfl), (Nat.le_of_ble_eq_true rfl)⟩ (vk_recv hX.1 (show 7 < 14 by decide) hH.2.2) (fun U hU hW => hX.now hH hW hU) rfl hl.1 rfl (Nat.le_of_ble_eq_true rfl) dX6_isWord_49 (fun r53 _ => ?_)
            refine lv_icmp_eq (tgt := 57) hx hb dX6_isWord_52 (by decide) (fun c54 => ?_) (fun c54 => ?_)
            · have c54 := cEQ (x := z52) (y := r53) (X := z52.toInt) (Y := r53.toInt) rfl rfl c54
              obtain ⟨z55, ez55⟩ : ∃ z, z = y46d + Int32.ofInt 1 := ⟨_, rfl⟩
              have hz55 : z55.toInt = y46d.toInt + 1 := by rw [ez55]; exact tt_add rfl (by decide) (by omega) (by omega)
              refine lv_iinc (v := z55) (lv' := [(2, .int z55), (0, .ref (A 1)), (1, .ref (adK 7))]) hx hb dX6_isWord_57 hl (k := 0) rfl ez55.symm (by decide) rfl (fun ls hl => ?_)
              refine lv_goto (tgt := 28) hx hb dX6_isWord_60 (by decide) ?_
              exact ih28_46 ls z55 (by have q9 := (show z55.toInt = (y46d.toInt + 1) from hz55); omega) (by have q9 := (show z55.toInt = (y46d.toInt + 1) from hz55); omega) (by have q9 := (show z55.toInt = (y46d.toInt + 1) from hz55); omega) hl
            · refine lv_iconst (v := 0) hx hb dX6_isWord_55 (by decide) ?_
              exact hret _ _ _ _ (0 : Int32) _ dX6_isWord_56 rfl ⟨hI, Un.rf, ⟨by decide, by decide⟩⟩ hH
      exact lp28_46 6 ls 0 (by decide) (by decide) (by have q9 : (0 : Int32).toInt = 0 := (by decide); omega) hl
    · refine lv_iconst (v := 0) hx hb dX6_isWord_24 (by decide) ?_
      exact hret _ _ _ _ (0 : Int32) _ dX6_isWord_25 rfl ⟨hI, Un.rf, ⟨by decide, by decide⟩⟩ hH
set_option maxHeartbeats 4000000 in
set_option maxRecDepth 100000 in
theorem kX6_isWord_5 (l : Launch) (D : va_G) (C : Nat → ClassId) (A : Nat → Nat) (u : St) (hI : IC u) (adK adV : Nat → Nat) (sz : Nat) : MetI l yX6_isWord cX6_isWord 3 (some .boolean) 5 [.ref (A 1), .ref (adK 6)] D (tyl C) (cw C A) (XS adK adV) u sz (fun r u' => IC u' ∧ Un [] [] [] u u' ∧ (0 ≤ r.toInt ∧ r.toInt ≤ 1)) := by
  refine mI (by decide) (Nat.le_of_ble_eq_true rfl) ?_
  intro p e s m below meth c ls ar Q hx hb hml hown hts hK hH hX hl hret
  have hown : s.vm.findClass RX6 = some m.cls := hown
  have hl : lv_has ls 3 [(0, .ref (A 1)), (1, .ref (adK 6))] := hl
  refine lv_aload_n hx hb dX6_isWord_0 rfl (lv_at hl 0 rfl) ?_
  refine va_get (ci := 6) (v := .int (gi u 6)) (C := RX6) (T := TX6) (N := 8) hx hb hts (fun w h => uc_in w (inX6 w h)) hown hK hH.1 1 (cwc1 C A u) rfl 6 (by decide) (hts _ (uc_in _ q_f42)) (fun _ h9 => h9) rfl dX6_isWord_1 ?_
  refine lv_iconst (v := 2) hx hb dX6_isWord_4 (by decide) ?_
  refine lv_icmp_ne (tgt := 24) hx hb dX6_isWord_5 (by decide) (fun c1 => ?_) (fun c1 => ?_)
  · refine lv_iconst (v := 0) hx hb dX6_isWord_24 (by decide) ?_
    exact hret _ _ _ _ (0 : Int32) _ dX6_isWord_25 rfl ⟨hI, Un.rf, ⟨by decide, by decide⟩⟩ hH
  · have c1 := cEQ (x := (gi u 6)) (y := 2) (X := ((gi u 6)).toInt) (Y := 2) rfl (by decide) c1
    refine lv_aload_n hx hb dX6_isWord_8 rfl (lv_at hl 0 rfl) ?_
    refine va_get (ci := 6) (v := .int (gi u 5)) (C := RX6) (T := TX6) (N := 8) hx hb hts (fun w h => uc_in w (inX6 w h)) hown hK hH.1 1 (cwc1 C A u) rfl 5 (by decide) (hts _ (uc_in _ q_f41)) (fun _ h9 => h9) rfl dX6_isWord_9 ?_
    have b2 := hI.b5
    refine lv_aload_n hx hb dX6_isWord_12 rfl (lv_at hl 0 rfl) ?_
    refine va_get (ci := 6) (v := .int (gi u 4)) (C := RX6) (T := TX6) (N := 8) hx hb hts (fun w h => uc_in w (inX6 w h)) hown hK hH.1 1 (cwc1 C A u) rfl 4 (by decide) (hts _ (uc_in _ q_f40)) (fun _ h9 => h9) rfl dX6_isWord_13 ?_
    have b3 := hI.b4
    refine lv_isub hx hb dX6_isWord_16 ?_
    refine p_nm (tt_sub (X := ((gi u 5)).toInt) (Y := ((gi u 4)).toInt) rfl rfl (by omega) (by omega)) (fun z4 hz4 => ?_)
    refine lv_aload_n hx hb dX6_isWord_17 rfl (lv_at hl 1 rfl) ?_
    refine cvT (n := 0) (As := []) (rest := [.int z4]) ⟨hx, hb, hml, hown, hts⟩ uc_in (kT_length l adK adV 6 (by decide)) blT q_m475 q_n476 q_e477 q_i13 q_c478 hvJ0_length_8abf5 ⟨(Nat.le_of_ble_eq_true rfl), (Nat.le_of_ble_eq_true rfl)⟩ ⟨(Nat.le_of_ble_eq_true rfl), (Nat.le_of_ble_eq_true rfl)⟩ (vk_recv hX.1 (show 6 < 14 by decide) hH.2.2) (fun U hU hW => hX.now hH hW hU) rfl hl.1 rfl (Nat.le_of_ble_eq_true rfl) dX6_isWord_18 (fun r5 p6 => ?_)
    have p6 : r5 = 4 := p6.trans (by decide)
    subst p6
    refine lv_icmp_eq (tgt := 26) hx hb dX6_isWord_21 (by decide) (fun c7 => ?_) (fun c7 => ?_)
    · have c7 := cEQ (x := z4) (y := 4) (X := (((gi u 5)).toInt - ((gi u 4)).toInt)) (Y := 4) hz4 (by decide) c7
      refine lv_iconst (v := 0) hx hb dX6_isWord_26 (by decide) ?_
      refine lv_istore_n (lv' := [(2, .int 0), (0, .ref (A 1)), (1, .ref (adK 6))]) hx hb dX6_isWord_27 rfl hl (by decide) rfl (fun ls hl => ?_)
      have lp28_56 : ∀ (n28 : Nat) (ls : Array Slot) (y56d : Int32), 0 ≤ y56d.toInt → y56d.toInt ≤ 4 → 4 - y56d.toInt < (n28 : Int) → lv_has ls 3 [(2, .int y56d), (0, .ref (A 1)), (1, .ref (adK 6))] → W p l e (rmL 5 0 0) s m ar below meth c s.heap [] 0 0 Q (F0 m 28 ls []) := by
        intro n28
        induction n28 with
        | zero => intro ls y56d ly56d my56d hmun28 hl; exfalso; omega
        | succ n28 ih28_56 =>
          intro ls y56d ly56d my56d hmun28 hl
          refine lv_iload_n hx hb dX6_isWord_28 rfl (lv_at hl 0 rfl) ?_
          refine lv_aload_n hx hb dX6_isWord_29 rfl (lv_at hl 2 rfl) ?_
          refine cvT (n := 0) (As := []) (rest := [.int y56d]) ⟨hx, hb, hml, hown, hts⟩ uc_in (kT_length l adK adV 6 (by decide)) blT q_m475 q_n476 q_e477 q_i13 q_c478 hvJ0_length_8abf5 ⟨(Nat.le_of_ble_eq_true rfl), (Nat.le_of_ble_eq_true rfl)⟩ ⟨(Nat.le_of_ble_eq_true rfl), (Nat.le_of_ble_eq_true rfl)⟩ (vk_recv hX.1 (show 6 < 14 by decide) hH.2.2) (fun U hU hW => hX.now hH hW hU) rfl hl.1 rfl (Nat.le_of_ble_eq_true rfl) dX6_isWord_30 (fun r58 p59 => ?_)
          have p59 : r58 = 4 := p59.trans (by decide)
          subst p59
          refine lv_icmp_ge (tgt := 63) hx hb dX6_isWord_33 (by decide) (fun c60 => ?_) (fun c60 => ?_)
          · have c60 := cLE (x := 4) (y := y56d) (X := 4) (Y := y56d.toInt) (by decide) rfl c60
            refine lv_iconst (v := 1) hx hb dX6_isWord_63 (by decide) ?_
            exact hret _ _ _ _ (1 : Int32) _ dX6_isWord_64 rfl ⟨hI, Un.rf, ⟨by decide, by decide⟩⟩ hH
          · have c60 := cNLE (x := 4) (y := y56d) (X := 4) (Y := y56d.toInt) (by decide) rfl c60
            refine lv_aload_n hx hb dX6_isWord_36 rfl (lv_at hl 1 rfl) ?_
            refine va_get (ci := 6) (v := .ref (A 22)) (C := RX6) (T := TX6) (N := 8) hx hb hts (fun w h => uc_in w (inX6 w h)) hown hK hH.1 1 (cwc1 C A u) rfl 0 (by decide) (hts _ (uc_in _ q_f33)) (fun _ h9 => h9) rfl dX6_isWord_37 ?_
            refine lv_aload_n hx hb dX6_isWord_40 rfl (lv_at hl 1 rfl) ?_
            refine va_get (ci := 6) (v := .int (gi u 4)) (C := RX6) (T := TX6) (N := 8) hx hb hts (fun w h => uc_in w (inX6 w h)) hown hK hH.1 1 (cwc1 C A u) rfl 4 (by decide) (hts _ (uc_in _ q_f40)) (fun _ h9 => h9) rfl dX6_isWord_41 ?_
            refine lv_iload_n hx hb dX6_isWord_44 rfl (lv_at hl 0 rfl) ?_
            refine lv_iadd hx hb dX6_isWord_45 ?_
            refine p_nm (tt_add (X := ((gi u 4)).toInt) (Y := y56d.toInt) rfl rfl (by omega) (by omega)) (fun z61 hz61 => ?_)
            refine va_bald hx hb hK hH.1 22 0 (cwc22 C A u) rfl (i_ix hz61 (by omega) (by omega)) dX6_isWord_46 ?_
            refine p_any (fun z62 => ?_)
            refine lv_aload_n hx hb dX6_isWord_47 rfl (lv_at hl 2 rfl) ?_
            refine lv_iload_n hx hb dX6_isWord_48 rfl (lv_at hl 0 rfl) ?_
            refine cvT (n := 1) (As := [.int y56d]) (rest := [.int z62]) ⟨hx, hb, hml, hown, hts⟩ uc_in (kT_charAt l adK adV 6 (by decide) y56d (show vp_in y56d 4 from i_ix rfl (by omega) (by omega))) blT q_m485 q_n486 q_e487 q_i13 q_c488 hvJ0_charAt_5068e ⟨(Nat.le_of_ble_eq_true rfl), (Nat.le_of_ble_eq_true rfl)⟩ ⟨(Nat.le_of_ble_eq_true rfl), (Nat.le_of_ble_eq_true rfl)⟩ (vk_recv hX.1 (show 6 < 14 by decide) hH.2.2) (fun U hU hW => hX.now hH hW hU) rfl hl.1 rfl (Nat.le_of_ble_eq_true rfl) dX6_isWord_49 (fun r63 _ => ?_)
            refine lv_icmp_eq (tgt := 57) hx hb dX6_isWord_52 (by decide) (fun c64 => ?_) (fun c64 => ?_)
            · have c64 := cEQ (x := z62) (y := r63) (X := z62.toInt) (Y := r63.toInt) rfl rfl c64
              obtain ⟨z65, ez65⟩ : ∃ z, z = y56d + Int32.ofInt 1 := ⟨_, rfl⟩
              have hz65 : z65.toInt = y56d.toInt + 1 := by rw [ez65]; exact tt_add rfl (by decide) (by omega) (by omega)
              refine lv_iinc (v := z65) (lv' := [(2, .int z65), (0, .ref (A 1)), (1, .ref (adK 6))]) hx hb dX6_isWord_57 hl (k := 0) rfl ez65.symm (by decide) rfl (fun ls hl => ?_)
              refine lv_goto (tgt := 28) hx hb dX6_isWord_60 (by decide) ?_
              exact ih28_56 ls z65 (by have q9 := (show z65.toInt = (y56d.toInt + 1) from hz65); omega) (by have q9 := (show z65.toInt = (y56d.toInt + 1) from hz65); omega) (by have q9 := (show z65.toInt = (y56d.toInt + 1) from hz65); omega) hl
            · refine lv_iconst (v := 0) hx hb dX6_isWord_55 (by decide) ?_
              exact hret _ _ _ _ (0 : Int32) _ dX6_isWord_56 rfl ⟨hI, Un.rf, ⟨by decide, by decide⟩⟩ hH
      exact lp28_56 5 ls 0 (by decide) (by decide) (by have q9 : (0 : Int32).toInt = 0 := (by decide); omega) hl
    · refine lv_iconst (v := 0) hx hb dX6_isWord_24 (by decide) ?_
      exact hret _ _ _ _ (0 : Int32) _ dX6_isWord_25 rfl ⟨hI, Un.rf, ⟨by decide, by decide⟩⟩ hH
set_option maxHeartbeats 4000000 in
set_option maxRecDepth 100000 in
theorem kX6_either_0 (l : Launch) (D : va_G) (C : Nat → ClassId) (A : Nat → Nat) (u : St) (hI : IC u) (adK adV : Nat → Nat) (sz : Nat) : MetI l yX6_either cX6_either 4 (some .int) 6 [.ref (A 1), .ref (adK 6), .ref (adK 7)] D (tyl C) (cw C A) (XS adK adV) u sz (fun r u' => IC u' ∧ Un [(2, 2), (3, 3), (4, 4), (5, 5), (6, 6), (7, 7)] [] [] u u' ∧ ((-1) ≤ r.toInt ∧ r.toInt ≤ 1)) := by
  refine mI (by decide) (Nat.le_of_ble_eq_true rfl) ?_
  intro p e s m below meth c ls ar Q hx hb hml hown hts hK hH hX hl hret
  have hown : s.vm.findClass RX6 = some m.cls := hown
  have hl : lv_has ls 4 [(0, .ref (A 1)), (1, .ref (adK 6)), (2, .ref (adK 7))] := hl
  refine lv_aload_n hx hb dX6_either_0 rfl (lv_at hl 0 rfl) ?_
  refine lv_aload_n hx hb dX6_either_1 rfl (lv_at hl 2 rfl) ?_
  refine cvI (n := 1) (As := [.ref (adK 7)]) (rest := []) ⟨hx, hb, hml, hown, hts⟩ uc_in (kX6_isWord_4 l D C A u hI  adK adV _) q_m471 q_n473 q_p4 q_i2 q_c474 hvX6_isWord ⟨(Nat.le_of_ble_eq_true rfl), (Nat.le_of_ble_eq_true rfl)⟩ ⟨(Nat.le_of_ble_eq_true rfl), (Nat.le_of_ble_eq_true rfl)⟩ hK hH (fun q h => Or.inr h) BlS (fun U hU hW => hX.at hH hW hU) 6 1 rfl (cwc1 C A u) rfl hl.1 rfl (Nat.le_of_ble_eq_true rfl) dX6_either_2 (fun r2 u1 H locs p3 hH => ?_)
  obtain ⟨hI, hUu1, p3⟩ := p3
  have p3 : 0 ≤ r2.toInt ∧ r2.toInt ≤ 1 := p3
  have j13_23 : ∀ (ls : Array Slot) (y5d : Int32), (-1) ≤ y5d.toInt → y5d.toInt ≤ 1 → lv_has ls 4 [(0, .ref (A 1)), (1, .ref (adK 6))] → W p l e (rmL 6 0 0) s m ar below meth c H locs 0 0 Q (F0 m 13 ls [.int y5d]) := by
    intro ls y5d ly5d my5d hl
    refine lv_istore_n (lv' := [(3, .int y5d), (0, .ref (A 1)), (1, .ref (adK 6))]) hx hb dX6_either_13 rfl hl (by decide) rfl (fun ls hl => ?_)
    refine lv_iload_n hx hb dX6_either_14 rfl (lv_at hl 0 rfl) ?_
    refine lv_iconst (v := 1) hx hb dX6_either_15 (by decide) ?_
    refine lv_icmp_ne (tgt := 32) hx hb dX6_either_16 (by decide) (fun c25 => ?_) (fun c25 => ?_)
    · have c25 := cNE (x := y5d) (y := 1) (X := y5d.toInt) (Y := 1) rfl (by decide) c25
      refine lv_aload_n hx hb dX6_either_32 rfl (lv_at hl 1 rfl) ?_
      refine cvU (n := 0) (As := []) (rest := []) ⟨hx, hb, hml, hown, hts⟩ uc_in (kX6_step_0 l D C A u1 hI  _) q_m444 q_n446 q_p0 q_i2 q_c447 hvX6_step ⟨(Nat.le_of_ble_eq_true rfl), (Nat.le_of_ble_eq_true rfl)⟩ ⟨(Nat.le_of_ble_eq_true rfl), (Nat.le_of_ble_eq_true rfl)⟩ hK hH (fun q h => Or.inr h) Bl0 (fun _ _ _ => trivial) 6 1 rfl (cwc1 C A u1) rfl hl.1 rfl (Nat.le_of_ble_eq_true rfl) dX6_either_33 (fun u26 H locs p28 hH => ?_)
      obtain ⟨hI, hUu26, p28⟩ := p28
      refine lv_iload_n hx hb dX6_either_36 rfl (lv_at hl 0 rfl) ?_
      exact hret _ _ _ _ y5d _ dX6_either_37 rfl ⟨hI, (Un.tr (Un.tr Un.rf hUu1 rfl rfl rfl) hUu26 rfl rfl rfl), ⟨by omega, by omega⟩⟩ hH
    · have c25 := cEQ (x := y5d) (y := 1) (X := y5d.toInt) (Y := 1) rfl (by decide) c25
      refine lv_aload_n hx hb dX6_either_19 rfl (lv_at hl 1 rfl) ?_
      refine lv_aload_n hx hb dX6_either_20 rfl (lv_at hl 2 rfl) ?_
      refine cvI (n := 1) (As := [.ref (adK 6)]) (rest := []) ⟨hx, hb, hml, hown, hts⟩ uc_in (kX6_isWord_5 l D C A u1 hI  adK adV _) q_m471 q_n473 q_p4 q_i2 q_c474 hvX6_isWord ⟨(Nat.le_of_ble_eq_true rfl), (Nat.le_of_ble_eq_true rfl)⟩ ⟨(Nat.le_of_ble_eq_true rfl), (Nat.le_of_ble_eq_true rfl)⟩ hK hH (fun q h => Or.inr h) BlS (fun U hU hW => hX.at hH hW hU) 6 1 rfl (cwc1 C A u1) rfl hl.1 rfl (Nat.le_of_ble_eq_true rfl) dX6_either_21 (fun r30 u29 H locs p31 hH => ?_)
      obtain ⟨hI, hUu29, p31⟩ := p31
      have p31 : 0 ≤ r30.toInt ∧ r30.toInt ≤ 1 := p31
      refine lv_if_ne (tgt := 32) hx hb dX6_either_24 (by decide) (fun c32 => ?_) (fun c32 => ?_)
      · have c32 := cNE (x := r30) (y := 0) (X := r30.toInt) (Y := 0) rfl (by decide) c32
        refine lv_aload_n hx hb dX6_either_32 rfl (lv_at hl 1 rfl) ?_
        refine cvU (n := 0) (As := []) (rest := []) ⟨hx, hb, hml, hown, hts⟩ uc_in (kX6_step_0 l D C A u29 hI  _) q_m444 q_n446 q_p0 q_i2 q_c447 hvX6_step ⟨(Nat.le_of_ble_eq_true rfl), (Nat.le_of_ble_eq_true rfl)⟩ ⟨(Nat.le_of_ble_eq_true rfl), (Nat.le_of_ble_eq_true rfl)⟩ hK hH (fun q h => Or.inr h) Bl0 (fun _ _ _ => trivial) 6 1 rfl (cwc1 C A u29) rfl hl.1 rfl (Nat.le_of_ble_eq_true rfl) dX6_either_33 (fun u33 H locs p35 hH => ?_)
        obtain ⟨hI, hUu33, p35⟩ := p35
        refine lv_iload_n hx hb dX6_either_36 rfl (lv_at hl 0 rfl) ?_
        exact hret _ _ _ _ y5d _ dX6_either_37 rfl ⟨hI, (Un.tr (Un.tr (Un.tr Un.rf hUu1 rfl rfl rfl) hUu29 rfl rfl rfl) hUu33 rfl rfl rfl), ⟨by omega, by omega⟩⟩ hH
      · have c32 := cEQ (x := r30) (y := 0) (X := r30.toInt) (Y := 0) rfl (by decide) c32
        refine lv_aload_n hx hb dX6_either_27 rfl (lv_at hl 1 rfl) ?_
        refine lv_iconst (v := 1) hx hb dX6_either_28 (by decide) ?_
        refine cvU (n := 1) (As := [.int 1]) (rest := []) ⟨hx, hb, hml, hown, hts⟩ uc_in (kX6_blame_0 l D C A u29 hI  _) q_m523 q_n525 q_p5 q_i2 q_c526 hvX6_blame ⟨(Nat.le_of_ble_eq_true rfl), (Nat.le_of_ble_eq_true rfl)⟩ ⟨(Nat.le_of_ble_eq_true rfl), (Nat.le_of_ble_eq_true rfl)⟩ hK hH (fun q h => Or.inr h) Bl0 (fun _ _ _ => trivial) 6 1 rfl (cwc1 C A u29) rfl hl.1 rfl (Nat.le_of_ble_eq_true rfl) dX6_either_29 (fun u36 H locs p38 hH => ?_)
        obtain ⟨hI, hUu36, p38⟩ := p38
        refine lv_aload_n hx hb dX6_either_32 rfl (lv_at hl 1 rfl) ?_
        refine cvU (n := 0) (As := []) (rest := []) ⟨hx, hb, hml, hown, hts⟩ uc_in (kX6_step_0 l D C A u36 hI  _) q_m444 q_n446 q_p0 q_i2 q_c447 hvX6_step ⟨(Nat.le_of_ble_eq_true rfl), (Nat.le_of_ble_eq_true rfl)⟩ ⟨(Nat.le_of_ble_eq_true rfl), (Nat.le_of_ble_eq_true rfl)⟩ hK hH (fun q h => Or.inr h) Bl0 (fun _ _ _ => trivial) 6 1 rfl (cwc1 C A u36) rfl hl.1 rfl (Nat.le_of_ble_eq_true rfl) dX6_either_33 (fun u39 H locs p41 hH => ?_)
        obtain ⟨hI, hUu39, p41⟩ := p41
        refine lv_iload_n hx hb dX6_either_36 rfl (lv_at hl 0 rfl) ?_
        exact hret _ _ _ _ y5d _ dX6_either_37 rfl ⟨hI, (Un.tr (Un.tr (Un.tr (Un.tr Un.rf hUu1 rfl rfl rfl) hUu29 rfl rfl rfl) hUu36 rfl rfl rfl) hUu39 rfl rfl rfl), ⟨by omega, by omega⟩⟩ hH
  refine lv_if_eq (tgt := 12) hx hb dX6_either_5 (by decide) (fun c4 => ?_) (fun c4 => ?_)
  · have c4 := cEQ (x := r2) (y := 0) (X := r2.toInt) (Y := 0) rfl (by decide) c4
    refine lv_iconst (v := 1) hx hb dX6_either_12 (by decide) ?_
    exact j13_23 ls 1 (by decide) (by decide) (lv_sub hl [0, 1] rfl)
  · have c4 := cNE (x := r2) (y := 0) (X := r2.toInt) (Y := 0) rfl (by decide) c4
    refine lv_iconst (v := (-1)) hx hb dX6_either_8 (by decide) ?_
    refine lv_goto (tgt := 13) hx hb dX6_either_9 (by decide) ?_
    exact j13_23 ls (-1) (by decide) (by decide) (lv_sub hl [0, 1] rfl)
set_option maxHeartbeats 4000000 in
set_option maxRecDepth 100000 in
theorem kX6_isWord_6 (l : Launch) (D : va_G) (C : Nat → ClassId) (A : Nat → Nat) (u : St) (hI : IC u) (adK adV : Nat → Nat) (sz : Nat) : MetI l yX6_isWord cX6_isWord 3 (some .boolean) 5 [.ref (A 1), .ref (adK 9)] D (tyl C) (cw C A) (XS adK adV) u sz (fun r u' => IC u' ∧ Un [] [] [] u u' ∧ (0 ≤ r.toInt ∧ r.toInt ≤ 1)) := by
  refine mI (by decide) (Nat.le_of_ble_eq_true rfl) ?_
  intro p e s m below meth c ls ar Q hx hb hml hown hts hK hH hX hl hret
  have hown : s.vm.findClass RX6 = some m.cls := hown
  have hl : lv_has ls 3 [(0, .ref (A 1)), (1, .ref (adK 9))] := hl
  refine lv_aload_n hx hb dX6_isWord_0 rfl (lv_at hl 0 rfl) ?_
  refine va_get (ci := 6) (v := .int (gi u 6)) (C := RX6) (T := TX6) (N := 8) hx hb hts (fun w h => uc_in w (inX6 w h)) hown hK hH.1 1 (cwc1 C A u) rfl 6 (by decide) (hts _ (uc_in _ q_f42)) (fun _ h9 => h9) rfl dX6_isWord_1 ?_
  refine lv_iconst (v := 2) hx hb dX6_isWord_4 (by decide) ?_
  refine lv_icmp_ne (tgt := 24) hx hb dX6_isWord_5 (by decide) (fun c1 => ?_) (fun c1 => ?_)
  · refine lv_iconst (v := 0) hx hb dX6_isWord_24 (by decide) ?_
    exact hret _ _ _ _ (0 : Int32) _ dX6_isWord_25 rfl ⟨hI, Un.rf, ⟨by decide, by decide⟩⟩ hH
  · have c1 := cEQ (x := (gi u 6)) (y := 2) (X := ((gi u 6)).toInt) (Y := 2) rfl (by decide) c1
    refine lv_aload_n hx hb dX6_isWord_8 rfl (lv_at hl 0 rfl) ?_
    refine va_get (ci := 6) (v := .int (gi u 5)) (C := RX6) (T := TX6) (N := 8) hx hb hts (fun w h => uc_in w (inX6 w h)) hown hK hH.1 1 (cwc1 C A u) rfl 5 (by decide) (hts _ (uc_in _ q_f41)) (fun _ h9 => h9) rfl dX6_isWord_9 ?_
    have b2 := hI.b5
    refine lv_aload_n hx hb dX6_isWord_12 rfl (lv_at hl 0 rfl) ?_
    refine va_get (ci := 6) (v := .int (gi u 4)) (C := RX6) (T := TX6) (N := 8) hx hb hts (fun w h => uc_in w (inX6 w h)) hown hK hH.1 1 (cwc1 C A u) rfl 4 (by decide) (hts _ (uc_in _ q_f40)) (fun _ h9 => h9) rfl dX6_isWord_13 ?_
    have b3 := hI.b4
    refine lv_isub hx hb dX6_isWord_16 ?_
    refine p_nm (tt_sub (X := ((gi u 5)).toInt) (Y := ((gi u 4)).toInt) rfl rfl (by omega) (by omega)) (fun z4 hz4 => ?_)
    refine lv_aload_n hx hb dX6_isWord_17 rfl (lv_at hl 1 rfl) ?_
    refine cvT (n := 0) (As := []) (rest := [.int z4]) ⟨hx, hb, hml, hown, hts⟩ uc_in (kT_length l adK adV 9 (by decide)) blT q_m475 q_n476 q_e477 q_i13 q_c478 hvJ0_length_8abf5 ⟨(Nat.le_of_ble_eq_true rfl), (Nat.le_of_ble_eq_true rfl)⟩ ⟨(Nat.le_of_ble_eq_true rfl), (Nat.le_of_ble_eq_true rfl)⟩ (vk_recv hX.1 (show 9 < 14 by decide) hH.2.2) (fun U hU hW => hX.now hH hW hU) rfl hl.1 rfl (Nat.le_of_ble_eq_true rfl) dX6_isWord_18 (fun r5 p6 => ?_)
    have p6 : r5 = 5 := p6.trans (by decide)
    subst p6
    refine lv_icmp_eq (tgt := 26) hx hb dX6_isWord_21 (by decide) (fun c7 => ?_) (fun c7 => ?_)
    · have c7 := cEQ (x := z4) (y := 5) (X := (((gi u 5)).toInt - ((gi u 4)).toInt)) (Y := 5) hz4 (by decide) c7
      refine lv_iconst (v := 0) hx hb dX6_isWord_26 (by decide) ?_
      refine lv_istore_n (lv' := [(2, .int 0), (0, .ref (A 1)), (1, .ref (adK 9))]) hx hb dX6_isWord_27 rfl hl (by decide) rfl (fun ls hl => ?_)
      have lp28_46 : ∀ (n28 : Nat) (ls : Array Slot) (y46d : Int32), 0 ≤ y46d.toInt → y46d.toInt ≤ 5 → 5 - y46d.toInt < (n28 : Int) → lv_has ls 3 [(2, .int y46d), (0, .ref (A 1)), (1, .ref (adK 9))] → W p l e (rmL 5 0 0) s m ar below meth c s.heap [] 0 0 Q (F0 m 28 ls []) := by
        intro n28
        induction n28 with
        | zero => intro ls y46d ly46d my46d hmun28 hl; exfalso; omega
        | succ n28 ih28_46 =>
          intro ls y46d ly46d my46d hmun28 hl
          refine lv_iload_n hx hb dX6_isWord_28 rfl (lv_at hl 0 rfl) ?_
          refine lv_aload_n hx hb dX6_isWord_29 rfl (lv_at hl 2 rfl) ?_
          refine cvT (n := 0) (As := []) (rest := [.int y46d]) ⟨hx, hb, hml, hown, hts⟩ uc_in (kT_length l adK adV 9 (by decide)) blT q_m475 q_n476 q_e477 q_i13 q_c478 hvJ0_length_8abf5 ⟨(Nat.le_of_ble_eq_true rfl), (Nat.le_of_ble_eq_true rfl)⟩ ⟨(Nat.le_of_ble_eq_true rfl), (Nat.le_of_ble_eq_true rfl)⟩ (vk_recv hX.1 (show 9 < 14 by decide) hH.2.2) (fun U hU hW => hX.now hH hW hU) rfl hl.1 rfl (Nat.le_of_ble_eq_true rfl) dX6_isWord_30 (fun r48 p49 => ?_)
          have p49 : r48 = 5 := p49.trans (by decide)
          subst p49
          refine lv_icmp_ge (tgt := 63) hx hb dX6_isWord_33 (by decide) (fun c50 => ?_) (fun c50 => ?_)
          · have c50 := cLE (x := 5) (y := y46d) (X := 5) (Y := y46d.toInt) (by decide) rfl c50
            refine lv_iconst (v := 1) hx hb dX6_isWord_63 (by decide) ?_
            exact hret _ _ _ _ (1 : Int32) _ dX6_isWord_64 rfl ⟨hI, Un.rf, ⟨by decide, by decide⟩⟩ hH
          · have c50 := cNLE (x := 5) (y := y46d) (X := 5) (Y := y46d.toInt) (by decide) rfl c50
            refine lv_aload_n hx hb dX6_isWord_36 rfl (lv_at hl 1 rfl) ?_
            refine va_get (ci := 6) (v := .ref (A 22)) (C := RX6) (T := TX6) (N := 8) hx hb hts (fun w h => uc_in w (inX6 w h)) hown hK hH.1 1 (cwc1 C A u) rfl 0 (by decide) (hts _ (uc_in _ q_f33)) (fun _ h9 => h9) rfl dX6_isWord_37 ?_
            refine lv_aload_n hx hb dX6_isWord_40 rfl (lv_at hl 1 rfl) ?_
            refine va_get (ci := 6) (v := .int (gi u 4)) (C := RX6) (T := TX6) (N := 8) hx hb hts (fun w h => uc_in w (inX6 w h)) hown hK hH.1 1 (cwc1 C A u) rfl 4 (by decide) (hts _ (uc_in _ q_f40)) (fun _ h9 => h9) rfl dX6_isWord_41 ?_
            refine lv_iload_n hx hb dX6_isWord_44 rfl (lv_at hl 0 rfl) ?_
            refine lv_iadd hx hb dX6_isWord_45 ?_
            refine p_nm (tt_add (X := ((gi u 4)).toInt) (Y := y46d.toInt) rfl rfl (by omega) (by omega)) (fun z51 hz51 => ?_)
            refine va_bald hx hb hK hH.1 22 0 (cwc22 C A u) rfl (i_ix hz51 (by omega) (by omega)) dX6_isWord_46 ?_
            refine p_any (fun z52 => ?_)
            refine lv_aload_n hx hb dX6_isWord_47 rfl (lv_at hl 2 rfl) ?_
            refine lv_iload_n hx hb dX6_isWord_48 rfl (lv_at hl 0 rfl) ?_
            refine cvT (n := 1) (As := [.int y46d]) (rest := [.int z52]) ⟨hx, hb, hml, hown, hts⟩ uc_in (kT_charAt l adK adV 9 (by decide) y46d (show vp_in y46d 5 from i_ix rfl (by omega) (by omega))) blT q_m485 q_n486 q_e487 q_i13 q_c488 hvJ0_charAt_5068e ⟨(Nat.le_of_ble_eq_true rfl), (Nat.le_of_ble_eq_true rfl)⟩ ⟨(Nat.le_of_ble_eq_true rfl), (Nat.le_of_ble_eq_true rfl)⟩ (vk_recv hX.1 (show 9 < 14 by decide) hH.2.2) (fun U hU hW => hX.now hH hW hU) rfl hl.1 rfl (Nat.le_of_ble_eq_true rfl) dX6_isWord_49 (fun r53 _ => ?_)
            refine lv_icmp_eq (tgt := 57) hx hb dX6_isWord_52 (by decide) (fun c54 => ?_) (fun c54 => ?_)
            · have c54 := cEQ (x := z52) (y := r53) (X := z52.toInt) (Y := r53.toInt) rfl rfl c54
              obtain ⟨z55, ez55⟩ : ∃ z, z = y46d + Int32.ofInt 1 := ⟨_, rfl⟩
              have hz55 : z55.toInt = y46d.toInt + 1 := by rw [ez55]; exact tt_add rfl (by decide) (by omega) (by omega)
              refine lv_iinc (v := z55) (lv' := [(2, .int z55), (0, .ref (A 1)), (1, .ref (adK 9))]) hx hb dX6_isWord_57 hl (k := 0) rfl ez55.symm (by decide) rfl (fun ls hl => ?_)
              refine lv_goto (tgt := 28) hx hb dX6_isWord_60 (by decide) ?_
              exact ih28_46 ls z55 (by have q9 := (show z55.toInt = (y46d.toInt + 1) from hz55); omega) (by have q9 := (show z55.toInt = (y46d.toInt + 1) from hz55); omega) (by have q9 := (show z55.toInt = (y46d.toInt + 1) from hz55); omega) hl
            · refine lv_iconst (v := 0) hx hb dX6_isWord_55 (by decide) ?_
              exact hret _ _ _ _ (0 : Int32) _ dX6_isWord_56 rfl ⟨hI, Un.rf, ⟨by decide, by decide⟩⟩ hH
      exact lp28_46 6 ls 0 (by decide) (by decide) (by have q9 : (0 : Int32).toInt = 0 := (by decide); omega) hl
    · refine lv_iconst (v := 0) hx hb dX6_isWord_24 (by decide) ?_
      exact hret _ _ _ _ (0 : Int32) _ dX6_isWord_25 rfl ⟨hI, Un.rf, ⟨by decide, by decide⟩⟩ hH
set_option maxHeartbeats 4000000 in
set_option maxRecDepth 100000 in
theorem kX6_isWord_7 (l : Launch) (D : va_G) (C : Nat → ClassId) (A : Nat → Nat) (u : St) (hI : IC u) (adK adV : Nat → Nat) (sz : Nat) : MetI l yX6_isWord cX6_isWord 3 (some .boolean) 5 [.ref (A 1), .ref (adK 8)] D (tyl C) (cw C A) (XS adK adV) u sz (fun r u' => IC u' ∧ Un [] [] [] u u' ∧ (0 ≤ r.toInt ∧ r.toInt ≤ 1)) := by
  refine mI (by decide) (Nat.le_of_ble_eq_true rfl) ?_
  intro p e s m below meth c ls ar Q hx hb hml hown hts hK hH hX hl hret
  have hown : s.vm.findClass RX6 = some m.cls := hown
  have hl : lv_has ls 3 [(0, .ref (A 1)), (1, .ref (adK 8))] := hl
  refine lv_aload_n hx hb dX6_isWord_0 rfl (lv_at hl 0 rfl) ?_
  refine va_get (ci := 6) (v := .int (gi u 6)) (C := RX6) (T := TX6) (N := 8) hx hb hts (fun w h => uc_in w (inX6 w h)) hown hK hH.1 1 (cwc1 C A u) rfl 6 (by decide) (hts _ (uc_in _ q_f42)) (fun _ h9 => h9) rfl dX6_isWord_1 ?_
  refine lv_iconst (v := 2) hx hb dX6_isWord_4 (by decide) ?_
  refine lv_icmp_ne (tgt := 24) hx hb dX6_isWord_5 (by decide) (fun c1 => ?_) (fun c1 => ?_)
  · refine lv_iconst (v := 0) hx hb dX6_isWord_24 (by decide) ?_
    exact hret _ _ _ _ (0 : Int32) _ dX6_isWord_25 rfl ⟨hI, Un.rf, ⟨by decide, by decide⟩⟩ hH
  · have c1 := cEQ (x := (gi u 6)) (y := 2) (X := ((gi u 6)).toInt) (Y := 2) rfl (by decide) c1
    refine lv_aload_n hx hb dX6_isWord_8 rfl (lv_at hl 0 rfl) ?_
    refine va_get (ci := 6) (v := .int (gi u 5)) (C := RX6) (T := TX6) (N := 8) hx hb hts (fun w h => uc_in w (inX6 w h)) hown hK hH.1 1 (cwc1 C A u) rfl 5 (by decide) (hts _ (uc_in _ q_f41)) (fun _ h9 => h9) rfl dX6_isWord_9 ?_
    have b2 := hI.b5
    refine lv_aload_n hx hb dX6_isWord_12 rfl (lv_at hl 0 rfl) ?_
    refine va_get (ci := 6) (v := .int (gi u 4)) (C := RX6) (T := TX6) (N := 8) hx hb hts (fun w h => uc_in w (inX6 w h)) hown hK hH.1 1 (cwc1 C A u) rfl 4 (by decide) (hts _ (uc_in _ q_f40)) (fun _ h9 => h9) rfl dX6_isWord_13 ?_
    have b3 := hI.b4
    refine lv_isub hx hb dX6_isWord_16 ?_
    refine p_nm (tt_sub (X := ((gi u 5)).toInt) (Y := ((gi u 4)).toInt) rfl rfl (by omega) (by omega)) (fun z4 hz4 => ?_)
    refine lv_aload_n hx hb dX6_isWord_17 rfl (lv_at hl 1 rfl) ?_
    refine cvT (n := 0) (As := []) (rest := [.int z4]) ⟨hx, hb, hml, hown, hts⟩ uc_in (kT_length l adK adV 8 (by decide)) blT q_m475 q_n476 q_e477 q_i13 q_c478 hvJ0_length_8abf5 ⟨(Nat.le_of_ble_eq_true rfl), (Nat.le_of_ble_eq_true rfl)⟩ ⟨(Nat.le_of_ble_eq_true rfl), (Nat.le_of_ble_eq_true rfl)⟩ (vk_recv hX.1 (show 8 < 14 by decide) hH.2.2) (fun U hU hW => hX.now hH hW hU) rfl hl.1 rfl (Nat.le_of_ble_eq_true rfl) dX6_isWord_18 (fun r5 p6 => ?_)
    have p6 : r5 = 5 := p6.trans (by decide)
    subst p6
    refine lv_icmp_eq (tgt := 26) hx hb dX6_isWord_21 (by decide) (fun c7 => ?_) (fun c7 => ?_)
    · have c7 := cEQ (x := z4) (y := 5) (X := (((gi u 5)).toInt - ((gi u 4)).toInt)) (Y := 5) hz4 (by decide) c7
      refine lv_iconst (v := 0) hx hb dX6_isWord_26 (by decide) ?_
      refine lv_istore_n (lv' := [(2, .int 0), (0, .ref (A 1)), (1, .ref (adK 8))]) hx hb dX6_isWord_27 rfl hl (by decide) rfl (fun ls hl => ?_)
      have lp28_46 : ∀ (n28 : Nat) (ls : Array Slot) (y46d : Int32), 0 ≤ y46d.toInt → y46d.toInt ≤ 5 → 5 - y46d.toInt < (n28 : Int) → lv_has ls 3 [(2, .int y46d), (0, .ref (A 1)), (1, .ref (adK 8))] → W p l e (rmL 5 0 0) s m ar below meth c s.heap [] 0 0 Q (F0 m 28 ls []) := by
        intro n28
        induction n28 with
        | zero => intro ls y46d ly46d my46d hmun28 hl; exfalso; omega
        | succ n28 ih28_46 =>
          intro ls y46d ly46d my46d hmun28 hl
          refine lv_iload_n hx hb dX6_isWord_28 rfl (lv_at hl 0 rfl) ?_
          refine lv_aload_n hx hb dX6_isWord_29 rfl (lv_at hl 2 rfl) ?_
          refine cvT (n := 0) (As := []) (rest := [.int y46d]) ⟨hx, hb, hml, hown, hts⟩ uc_in (kT_length l adK adV 8 (by decide)) blT q_m475 q_n476 q_e477 q_i13 q_c478 hvJ0_length_8abf5 ⟨(Nat.le_of_ble_eq_true rfl), (Nat.le_of_ble_eq_true rfl)⟩ ⟨(Nat.le_of_ble_eq_true rfl), (Nat.le_of_ble_eq_true rfl)⟩ (vk_recv hX.1 (show 8 < 14 by decide) hH.2.2) (fun U hU hW => hX.now hH hW hU) rfl hl.1 rfl (Nat.le_of_ble_eq_true rfl) dX6_isWord_30 (fun r48 p49 => ?_)
          have p49 : r48 = 5 := p49.trans (by decide)
          subst p49
          refine lv_icmp_ge (tgt := 63) hx hb dX6_isWord_33 (by decide) (fun c50 => ?_) (fun c50 => ?_)
          · have c50 := cLE (x := 5) (y := y46d) (X := 5) (Y := y46d.toInt) (by decide) rfl c50
            refine lv_iconst (v := 1) hx hb dX6_isWord_63 (by decide) ?_
            exact hret _ _ _ _ (1 : Int32) _ dX6_isWord_64 rfl ⟨hI, Un.rf, ⟨by decide, by decide⟩⟩ hH
          · have c50 := cNLE (x := 5) (y := y46d) (X := 5) (Y := y46d.toInt) (by decide) rfl c50
            refine lv_aload_n hx hb dX6_isWord_36 rfl (lv_at hl 1 rfl) ?_
            refine va_get (ci := 6) (v := .ref (A 22)) (C := RX6) (T := TX6) (N := 8) hx hb hts (fun w h => uc_in w (inX6 w h)) hown hK hH.1 1 (cwc1 C A u) rfl 0 (by decide) (hts _ (uc_in _ q_f33)) (fun _ h9 => h9) rfl dX6_isWord_37 ?_
            refine lv_aload_n hx hb dX6_isWord_40 rfl (lv_at hl 1 rfl) ?_
            refine va_get (ci := 6) (v := .int (gi u 4)) (C := RX6) (T := TX6) (N := 8) hx hb hts (fun w h => uc_in w (inX6 w h)) hown hK hH.1 1 (cwc1 C A u) rfl 4 (by decide) (hts _ (uc_in _ q_f40)) (fun _ h9 => h9) rfl dX6_isWord_41 ?_
            refine lv_iload_n hx hb dX6_isWord_44 rfl (lv_at hl 0 rfl) ?_
            refine lv_iadd hx hb dX6_isWord_45 ?_
            refine p_nm (tt_add (X := ((gi u 4)).toInt) (Y := y46d.toInt) rfl rfl (by omega) (by omega)) (fun z51 hz51 => ?_)
            refine va_bald hx hb hK hH.1 22 0 (cwc22 C A u) rfl (i_ix hz51 (by omega) (by omega)) dX6_isWord_46 ?_
            refine p_any (fun z52 => ?_)
            refine lv_aload_n hx hb dX6_isWord_47 rfl (lv_at hl 2 rfl) ?_
            refine lv_iload_n hx hb dX6_isWord_48 rfl (lv_at hl 0 rfl) ?_
            refine cvT (n := 1) (As := [.int y46d]) (rest := [.int z52]) ⟨hx, hb, hml, hown, hts⟩ uc_in (kT_charAt l adK adV 8 (by decide) y46d (show vp_in y46d 5 from i_ix rfl (by omega) (by omega))) blT q_m485 q_n486 q_e487 q_i13 q_c488 hvJ0_charAt_5068e ⟨(Nat.le_of_ble_eq_true rfl), (Nat.le_of_ble_eq_true rfl)⟩ ⟨(Nat.le_of_ble_eq_true rfl), (Nat.le_of_ble_eq_true rfl)⟩ (vk_recv hX.1 (show 8 < 14 by decide) hH.2.2) (fun U hU hW => hX.now hH hW hU) rfl hl.1 rfl (Nat.le_of_ble_eq_true rfl) dX6_isWord_49 (fun r53 _ => ?_)
            refine lv_icmp_eq (tgt := 57) hx hb dX6_isWord_52 (by decide) (fun c54 => ?_) (fun c54 => ?_)
            · have c54 := cEQ (x := z52) (y := r53) (X := z52.toInt) (Y := r53.toInt) rfl rfl c54
              obtain ⟨z55, ez55⟩ : ∃ z, z = y46d + Int32.ofInt 1 := ⟨_, rfl⟩
              have hz55 : z55.toInt = y46d.toInt + 1 := by rw [ez55]; exact tt_add rfl (by decide) (by omega) (by omega)
              refine lv_iinc (v := z55) (lv' := [(2, .int z55), (0, .ref (A 1)), (1, .ref (adK 8))]) hx hb dX6_isWord_57 hl (k := 0) rfl ez55.symm (by decide) rfl (fun ls hl => ?_)
              refine lv_goto (tgt := 28) hx hb dX6_isWord_60 (by decide) ?_
              exact ih28_46 ls z55 (by have q9 := (show z55.toInt = (y46d.toInt + 1) from hz55); omega) (by have q9 := (show z55.toInt = (y46d.toInt + 1) from hz55); omega) (by have q9 := (show z55.toInt = (y46d.toInt + 1) from hz55); omega) hl
            · refine lv_iconst (v := 0) hx hb dX6_isWord_55 (by decide) ?_
              exact hret _ _ _ _ (0 : Int32) _ dX6_isWord_56 rfl ⟨hI, Un.rf, ⟨by decide, by decide⟩⟩ hH
      exact lp28_46 6 ls 0 (by decide) (by decide) (by have q9 : (0 : Int32).toInt = 0 := (by decide); omega) hl
    · refine lv_iconst (v := 0) hx hb dX6_isWord_24 (by decide) ?_
      exact hret _ _ _ _ (0 : Int32) _ dX6_isWord_25 rfl ⟨hI, Un.rf, ⟨by decide, by decide⟩⟩ hH
set_option maxHeartbeats 4000000 in
set_option maxRecDepth 100000 in
theorem kX6_either_1 (l : Launch) (D : va_G) (C : Nat → ClassId) (A : Nat → Nat) (u : St) (hI : IC u) (adK adV : Nat → Nat) (sz : Nat) : MetI l yX6_either cX6_either 4 (some .int) 6 [.ref (A 1), .ref (adK 8), .ref (adK 9)] D (tyl C) (cw C A) (XS adK adV) u sz (fun r u' => IC u' ∧ Un [(2, 2), (3, 3), (4, 4), (5, 5), (6, 6), (7, 7)] [] [] u u' ∧ ((-1) ≤ r.toInt ∧ r.toInt ≤ 1)) := by
  refine mI (by decide) (Nat.le_of_ble_eq_true rfl) ?_
  intro p e s m below meth c ls ar Q hx hb hml hown hts hK hH hX hl hret
  have hown : s.vm.findClass RX6 = some m.cls := hown
  have hl : lv_has ls 4 [(0, .ref (A 1)), (1, .ref (adK 8)), (2, .ref (adK 9))] := hl
  refine lv_aload_n hx hb dX6_either_0 rfl (lv_at hl 0 rfl) ?_
  refine lv_aload_n hx hb dX6_either_1 rfl (lv_at hl 2 rfl) ?_
  refine cvI (n := 1) (As := [.ref (adK 9)]) (rest := []) ⟨hx, hb, hml, hown, hts⟩ uc_in (kX6_isWord_6 l D C A u hI  adK adV _) q_m471 q_n473 q_p4 q_i2 q_c474 hvX6_isWord ⟨(Nat.le_of_ble_eq_true rfl), (Nat.le_of_ble_eq_true rfl)⟩ ⟨(Nat.le_of_ble_eq_true rfl), (Nat.le_of_ble_eq_true rfl)⟩ hK hH (fun q h => Or.inr h) BlS (fun U hU hW => hX.at hH hW hU) 6 1 rfl (cwc1 C A u) rfl hl.1 rfl (Nat.le_of_ble_eq_true rfl) dX6_either_2 (fun r2 u1 H locs p3 hH => ?_)
  obtain ⟨hI, hUu1, p3⟩ := p3
  have p3 : 0 ≤ r2.toInt ∧ r2.toInt ≤ 1 := p3
  have j13_23 : ∀ (ls : Array Slot) (y5d : Int32), (-1) ≤ y5d.toInt → y5d.toInt ≤ 1 → lv_has ls 4 [(0, .ref (A 1)), (1, .ref (adK 8))] → W p l e (rmL 6 0 0) s m ar below meth c H locs 0 0 Q (F0 m 13 ls [.int y5d]) := by
    intro ls y5d ly5d my5d hl
    refine lv_istore_n (lv' := [(3, .int y5d), (0, .ref (A 1)), (1, .ref (adK 8))]) hx hb dX6_either_13 rfl hl (by decide) rfl (fun ls hl => ?_)
    refine lv_iload_n hx hb dX6_either_14 rfl (lv_at hl 0 rfl) ?_
    refine lv_iconst (v := 1) hx hb dX6_either_15 (by decide) ?_
    refine lv_icmp_ne (tgt := 32) hx hb dX6_either_16 (by decide) (fun c25 => ?_) (fun c25 => ?_)
    · have c25 := cNE (x := y5d) (y := 1) (X := y5d.toInt) (Y := 1) rfl (by decide) c25
      refine lv_aload_n hx hb dX6_either_32 rfl (lv_at hl 1 rfl) ?_
      refine cvU (n := 0) (As := []) (rest := []) ⟨hx, hb, hml, hown, hts⟩ uc_in (kX6_step_0 l D C A u1 hI  _) q_m444 q_n446 q_p0 q_i2 q_c447 hvX6_step ⟨(Nat.le_of_ble_eq_true rfl), (Nat.le_of_ble_eq_true rfl)⟩ ⟨(Nat.le_of_ble_eq_true rfl), (Nat.le_of_ble_eq_true rfl)⟩ hK hH (fun q h => Or.inr h) Bl0 (fun _ _ _ => trivial) 6 1 rfl (cwc1 C A u1) rfl hl.1 rfl (Nat.le_of_ble_eq_true rfl) dX6_either_33 (fun u26 H locs p28 hH => ?_)
      obtain ⟨hI, hUu26, p28⟩ := p28
      refine lv_iload_n hx hb dX6_either_36 rfl (lv_at hl 0 rfl) ?_
      exact hret _ _ _ _ y5d _ dX6_either_37 rfl ⟨hI, (Un.tr (Un.tr Un.rf hUu1 rfl rfl rfl) hUu26 rfl rfl rfl), ⟨by omega, by omega⟩⟩ hH
    · have c25 := cEQ (x := y5d) (y := 1) (X := y5d.toInt) (Y := 1) rfl (by decide) c25
      refine lv_aload_n hx hb dX6_either_19 rfl (lv_at hl 1 rfl) ?_
      refine lv_aload_n hx hb dX6_either_20 rfl (lv_at hl 2 rfl) ?_
      refine cvI (n := 1) (As := [.ref (adK 8)]) (rest := []) ⟨hx, hb, hml, hown, hts⟩ uc_in (kX6_isWord_7 l D C A u1 hI  adK adV _) q_m471 q_n473 q_p4 q_i2 q_c474 hvX6_isWord ⟨(Nat.le_of_ble_eq_true rfl), (Nat.le_of_ble_eq_true rfl)⟩ ⟨(Nat.le_of_ble_eq_true rfl), (Nat.le_of_ble_eq_true rfl)⟩ hK hH (fun q h => Or.inr h) BlS (fun U hU hW => hX.at hH hW hU) 6 1 rfl (cwc1 C A u1) rfl hl.1 rfl (Nat.le_of_ble_eq_true rfl) dX6_either_21 (fun r30 u29 H locs p31 hH => ?_)
      obtain ⟨hI, hUu29, p31⟩ := p31
      have p31 : 0 ≤ r30.toInt ∧ r30.toInt ≤ 1 := p31
      refine lv_if_ne (tgt := 32) hx hb dX6_either_24 (by decide) (fun c32 => ?_) (fun c32 => ?_)
      · have c32 := cNE (x := r30) (y := 0) (X := r30.toInt) (Y := 0) rfl (by decide) c32
        refine lv_aload_n hx hb dX6_either_32 rfl (lv_at hl 1 rfl) ?_
        refine cvU (n := 0) (As := []) (rest := []) ⟨hx, hb, hml, hown, hts⟩ uc_in (kX6_step_0 l D C A u29 hI  _) q_m444 q_n446 q_p0 q_i2 q_c447 hvX6_step ⟨(Nat.le_of_ble_eq_true rfl), (Nat.le_of_ble_eq_true rfl)⟩ ⟨(Nat.le_of_ble_eq_true rfl), (Nat.le_of_ble_eq_true rfl)⟩ hK hH (fun q h => Or.inr h) Bl0 (fun _ _ _ => trivial) 6 1 rfl (cwc1 C A u29) rfl hl.1 rfl (Nat.le_of_ble_eq_true rfl) dX6_either_33 (fun u33 H locs p35 hH => ?_)
        obtain ⟨hI, hUu33, p35⟩ := p35
        refine lv_iload_n hx hb dX6_either_36 rfl (lv_at hl 0 rfl) ?_
        exact hret _ _ _ _ y5d _ dX6_either_37 rfl ⟨hI, (Un.tr (Un.tr (Un.tr Un.rf hUu1 rfl rfl rfl) hUu29 rfl rfl rfl) hUu33 rfl rfl rfl), ⟨by omega, by omega⟩⟩ hH
      · have c32 := cEQ (x := r30) (y := 0) (X := r30.toInt) (Y := 0) rfl (by decide) c32
        refine lv_aload_n hx hb dX6_either_27 rfl (lv_at hl 1 rfl) ?_
        refine lv_iconst (v := 1) hx hb dX6_either_28 (by decide) ?_
        refine cvU (n := 1) (As := [.int 1]) (rest := []) ⟨hx, hb, hml, hown, hts⟩ uc_in (kX6_blame_0 l D C A u29 hI  _) q_m523 q_n525 q_p5 q_i2 q_c526 hvX6_blame ⟨(Nat.le_of_ble_eq_true rfl), (Nat.le_of_ble_eq_true rfl)⟩ ⟨(Nat.le_of_ble_eq_true rfl), (Nat.le_of_ble_eq_true rfl)⟩ hK hH (fun q h => Or.inr h) Bl0 (fun _ _ _ => trivial) 6 1 rfl (cwc1 C A u29) rfl hl.1 rfl (Nat.le_of_ble_eq_true rfl) dX6_either_29 (fun u36 H locs p38 hH => ?_)
        obtain ⟨hI, hUu36, p38⟩ := p38
        refine lv_aload_n hx hb dX6_either_32 rfl (lv_at hl 1 rfl) ?_
        refine cvU (n := 0) (As := []) (rest := []) ⟨hx, hb, hml, hown, hts⟩ uc_in (kX6_step_0 l D C A u36 hI  _) q_m444 q_n446 q_p0 q_i2 q_c447 hvX6_step ⟨(Nat.le_of_ble_eq_true rfl), (Nat.le_of_ble_eq_true rfl)⟩ ⟨(Nat.le_of_ble_eq_true rfl), (Nat.le_of_ble_eq_true rfl)⟩ hK hH (fun q h => Or.inr h) Bl0 (fun _ _ _ => trivial) 6 1 rfl (cwc1 C A u36) rfl hl.1 rfl (Nat.le_of_ble_eq_true rfl) dX6_either_33 (fun u39 H locs p41 hH => ?_)
        obtain ⟨hI, hUu39, p41⟩ := p41
        refine lv_iload_n hx hb dX6_either_36 rfl (lv_at hl 0 rfl) ?_
        exact hret _ _ _ _ y5d _ dX6_either_37 rfl ⟨hI, (Un.tr (Un.tr (Un.tr (Un.tr Un.rf hUu1 rfl rfl rfl) hUu29 rfl rfl rfl) hUu36 rfl rfl rfl) hUu39 rfl rfl rfl), ⟨by omega, by omega⟩⟩ hH
  refine lv_if_eq (tgt := 12) hx hb dX6_either_5 (by decide) (fun c4 => ?_) (fun c4 => ?_)
  · have c4 := cEQ (x := r2) (y := 0) (X := r2.toInt) (Y := 0) rfl (by decide) c4
    refine lv_iconst (v := 1) hx hb dX6_either_12 (by decide) ?_
    exact j13_23 ls 1 (by decide) (by decide) (lv_sub hl [0, 1] rfl)
  · have c4 := cNE (x := r2) (y := 0) (X := r2.toInt) (Y := 0) rfl (by decide) c4
    refine lv_iconst (v := (-1)) hx hb dX6_either_8 (by decide) ?_
    refine lv_goto (tgt := 13) hx hb dX6_either_9 (by decide) ?_
    exact j13_23 ls (-1) (by decide) (by decide) (lv_sub hl [0, 1] rfl)
set_option maxHeartbeats 4000000 in
set_option maxRecDepth 100000 in
theorem kX6_isWord_8 (l : Launch) (D : va_G) (C : Nat → ClassId) (A : Nat → Nat) (u : St) (hI : IC u) (adK adV : Nat → Nat) (sz : Nat) : MetI l yX6_isWord cX6_isWord 3 (some .boolean) 5 [.ref (A 1), .ref (adK 10)] D (tyl C) (cw C A) (XS adK adV) u sz (fun r u' => IC u' ∧ Un [] [] [] u u' ∧ (0 ≤ r.toInt ∧ r.toInt ≤ 1)) := by
  refine mI (by decide) (Nat.le_of_ble_eq_true rfl) ?_
  intro p e s m below meth c ls ar Q hx hb hml hown hts hK hH hX hl hret
  have hown : s.vm.findClass RX6 = some m.cls := hown
  have hl : lv_has ls 3 [(0, .ref (A 1)), (1, .ref (adK 10))] := hl
  refine lv_aload_n hx hb dX6_isWord_0 rfl (lv_at hl 0 rfl) ?_
  refine va_get (ci := 6) (v := .int (gi u 6)) (C := RX6) (T := TX6) (N := 8) hx hb hts (fun w h => uc_in w (inX6 w h)) hown hK hH.1 1 (cwc1 C A u) rfl 6 (by decide) (hts _ (uc_in _ q_f42)) (fun _ h9 => h9) rfl dX6_isWord_1 ?_
  refine lv_iconst (v := 2) hx hb dX6_isWord_4 (by decide) ?_
  refine lv_icmp_ne (tgt := 24) hx hb dX6_isWord_5 (by decide) (fun c1 => ?_) (fun c1 => ?_)
  · refine lv_iconst (v := 0) hx hb dX6_isWord_24 (by decide) ?_
    exact hret _ _ _ _ (0 : Int32) _ dX6_isWord_25 rfl ⟨hI, Un.rf, ⟨by decide, by decide⟩⟩ hH
  · have c1 := cEQ (x := (gi u 6)) (y := 2) (X := ((gi u 6)).toInt) (Y := 2) rfl (by decide) c1
    refine lv_aload_n hx hb dX6_isWord_8 rfl (lv_at hl 0 rfl) ?_
    refine va_get (ci := 6) (v := .int (gi u 5)) (C := RX6) (T := TX6) (N := 8) hx hb hts (fun w h => uc_in w (inX6 w h)) hown hK hH.1 1 (cwc1 C A u) rfl 5 (by decide) (hts _ (uc_in _ q_f41)) (fun _ h9 => h9) rfl dX6_isWord_9 ?_
    have b2 := hI.b5
    refine lv_aload_n hx hb dX6_isWord_12 rfl (lv_at hl 0 rfl) ?_
    refine va_get (ci := 6) (v := .int (gi u 4)) (C := RX6) (T := TX6) (N := 8) hx hb hts (fun w h => uc_in w (inX6 w h)) hown hK hH.1 1 (cwc1 C A u) rfl 4 (by decide) (hts _ (uc_in _ q_f40)) (fun _ h9 => h9) rfl dX6_isWord_13 ?_
    have b3 := hI.b4
    refine lv_isub hx hb dX6_isWord_16 ?_
    refine p_nm (tt_sub (X := ((gi u 5)).toInt) (Y := ((gi u 4)).toInt) rfl rfl (by omega) (by omega)) (fun z4 hz4 => ?_)
    refine lv_aload_n hx hb dX6_isWord_17 rfl (lv_at hl 1 rfl) ?_
    refine cvT (n := 0) (As := []) (rest := [.int z4]) ⟨hx, hb, hml, hown, hts⟩ uc_in (kT_length l adK adV 10 (by decide)) blT q_m475 q_n476 q_e477 q_i13 q_c478 hvJ0_length_8abf5 ⟨(Nat.le_of_ble_eq_true rfl), (Nat.le_of_ble_eq_true rfl)⟩ ⟨(Nat.le_of_ble_eq_true rfl), (Nat.le_of_ble_eq_true rfl)⟩ (vk_recv hX.1 (show 10 < 14 by decide) hH.2.2) (fun U hU hW => hX.now hH hW hU) rfl hl.1 rfl (Nat.le_of_ble_eq_true rfl) dX6_isWord_18 (fun r5 p6 => ?_)
    have p6 : r5 = 4 := p6.trans (by decide)
    subst p6
    refine lv_icmp_eq (tgt := 26) hx hb dX6_isWord_21 (by decide) (fun c7 => ?_) (fun c7 => ?_)
    · have c7 := cEQ (x := z4) (y := 4) (X := (((gi u 5)).toInt - ((gi u 4)).toInt)) (Y := 4) hz4 (by decide) c7
      refine lv_iconst (v := 0) hx hb dX6_isWord_26 (by decide) ?_
      refine lv_istore_n (lv' := [(2, .int 0), (0, .ref (A 1)), (1, .ref (adK 10))]) hx hb dX6_isWord_27 rfl hl (by decide) rfl (fun ls hl => ?_)
      have lp28_56 : ∀ (n28 : Nat) (ls : Array Slot) (y56d : Int32), 0 ≤ y56d.toInt → y56d.toInt ≤ 4 → 4 - y56d.toInt < (n28 : Int) → lv_has ls 3 [(2, .int y56d), (0, .ref (A 1)), (1, .ref (adK 10))] → W p l e (rmL 5 0 0) s m ar below meth c s.heap [] 0 0 Q (F0 m 28 ls []) := by
        intro n28
        induction n28 with
        | zero => intro ls y56d ly56d my56d hmun28 hl; exfalso; omega
        | succ n28 ih28_56 =>
          intro ls y56d ly56d my56d hmun28 hl
          refine lv_iload_n hx hb dX6_isWord_28 rfl (lv_at hl 0 rfl) ?_
          refine lv_aload_n hx hb dX6_isWord_29 rfl (lv_at hl 2 rfl) ?_
          refine cvT (n := 0) (As := []) (rest := [.int y56d]) ⟨hx, hb, hml, hown, hts⟩ uc_in (kT_length l adK adV 10 (by decide)) blT q_m475 q_n476 q_e477 q_i13 q_c478 hvJ0_length_8abf5 ⟨(Nat.le_of_ble_eq_true rfl), (Nat.le_of_ble_eq_true rfl)⟩ ⟨(Nat.le_of_ble_eq_true rfl), (Nat.le_of_ble_eq_true rfl)⟩ (vk_recv hX.1 (show 10 < 14 by decide) hH.2.2) (fun U hU hW => hX.now hH hW hU) rfl hl.1 rfl (Nat.le_of_ble_eq_true rfl) dX6_isWord_30 (fun r58 p59 => ?_)
          have p59 : r58 = 4 := p59.trans (by decide)
          subst p59
          refine lv_icmp_ge (tgt := 63) hx hb dX6_isWord_33 (by decide) (fun c60 => ?_) (fun c60 => ?_)
          · have c60 := cLE (x := 4) (y := y56d) (X := 4) (Y := y56d.toInt) (by decide) rfl c60
            refine lv_iconst (v := 1) hx hb dX6_isWord_63 (by decide) ?_
            exact hret _ _ _ _ (1 : Int32) _ dX6_isWord_64 rfl ⟨hI, Un.rf, ⟨by decide, by decide⟩⟩ hH
          · have c60 := cNLE (x := 4) (y := y56d) (X := 4) (Y := y56d.toInt) (by decide) rfl c60
            refine lv_aload_n hx hb dX6_isWord_36 rfl (lv_at hl 1 rfl) ?_
            refine va_get (ci := 6) (v := .ref (A 22)) (C := RX6) (T := TX6) (N := 8) hx hb hts (fun w h => uc_in w (inX6 w h)) hown hK hH.1 1 (cwc1 C A u) rfl 0 (by decide) (hts _ (uc_in _ q_f33)) (fun _ h9 => h9) rfl dX6_isWord_37 ?_
            refine lv_aload_n hx hb dX6_isWord_40 rfl (lv_at hl 1 rfl) ?_
            refine va_get (ci := 6) (v := .int (gi u 4)) (C := RX6) (T := TX6) (N := 8) hx hb hts (fun w h => uc_in w (inX6 w h)) hown hK hH.1 1 (cwc1 C A u) rfl 4 (by decide) (hts _ (uc_in _ q_f40)) (fun _ h9 => h9) rfl dX6_isWord_41 ?_
            refine lv_iload_n hx hb dX6_isWord_44 rfl (lv_at hl 0 rfl) ?_
            refine lv_iadd hx hb dX6_isWord_45 ?_
            refine p_nm (tt_add (X := ((gi u 4)).toInt) (Y := y56d.toInt) rfl rfl (by omega) (by omega)) (fun z61 hz61 => ?_)
            refine va_bald hx hb hK hH.1 22 0 (cwc22 C A u) rfl (i_ix hz61 (by omega) (by omega)) dX6_isWord_46 ?_
            refine p_any (fun z62 => ?_)
            refine lv_aload_n hx hb dX6_isWord_47 rfl (lv_at hl 2 rfl) ?_
            refine lv_iload_n hx hb dX6_isWord_48 rfl (lv_at hl 0 rfl) ?_
            refine cvT (n := 1) (As := [.int y56d]) (rest := [.int z62]) ⟨hx, hb, hml, hown, hts⟩ uc_in (kT_charAt l adK adV 10 (by decide) y56d (show vp_in y56d 4 from i_ix rfl (by omega) (by omega))) blT q_m485 q_n486 q_e487 q_i13 q_c488 hvJ0_charAt_5068e ⟨(Nat.le_of_ble_eq_true rfl), (Nat.le_of_ble_eq_true rfl)⟩ ⟨(Nat.le_of_ble_eq_true rfl), (Nat.le_of_ble_eq_true rfl)⟩ (vk_recv hX.1 (show 10 < 14 by decide) hH.2.2) (fun U hU hW => hX.now hH hW hU) rfl hl.1 rfl (Nat.le_of_ble_eq_true rfl) dX6_isWord_49 (fun r63 _ => ?_)
            refine lv_icmp_eq (tgt := 57) hx hb dX6_isWord_52 (by decide) (fun c64 => ?_) (fun c64 => ?_)
            · have c64 := cEQ (x := z62) (y := r63) (X := z62.toInt) (Y := r63.toInt) rfl rfl c64
              obtain ⟨z65, ez65⟩ : ∃ z, z = y56d + Int32.ofInt 1 := ⟨_, rfl⟩
              have hz65 : z65.toInt = y56d.toInt + 1 := by rw [ez65]; exact tt_add rfl (by decide) (by omega) (by omega)
              refine lv_iinc (v := z65) (lv' := [(2, .int z65), (0, .ref (A 1)), (1, .ref (adK 10))]) hx hb dX6_isWord_57 hl (k := 0) rfl ez65.symm (by decide) rfl (fun ls hl => ?_)
              refine lv_goto (tgt := 28) hx hb dX6_isWord_60 (by decide) ?_
              exact ih28_56 ls z65 (by have q9 := (show z65.toInt = (y56d.toInt + 1) from hz65); omega) (by have q9 := (show z65.toInt = (y56d.toInt + 1) from hz65); omega) (by have q9 := (show z65.toInt = (y56d.toInt + 1) from hz65); omega) hl
            · refine lv_iconst (v := 0) hx hb dX6_isWord_55 (by decide) ?_
              exact hret _ _ _ _ (0 : Int32) _ dX6_isWord_56 rfl ⟨hI, Un.rf, ⟨by decide, by decide⟩⟩ hH
      exact lp28_56 5 ls 0 (by decide) (by decide) (by have q9 : (0 : Int32).toInt = 0 := (by decide); omega) hl
    · refine lv_iconst (v := 0) hx hb dX6_isWord_24 (by decide) ?_
      exact hret _ _ _ _ (0 : Int32) _ dX6_isWord_25 rfl ⟨hI, Un.rf, ⟨by decide, by decide⟩⟩ hH
