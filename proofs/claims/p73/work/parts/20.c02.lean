set_option maxHeartbeats 4000000 in
set_option maxRecDepth 100000 in
theorem kX9_gone_0 (l : Launch) (D : va_G) (C : Nat → ClassId) (A : Nat → Nat) (u : St) (hI : IC u) (a0 : Int32) (A0 : Int) (ha0 : a0.toInt = A0) (sz : Nat) : MetI l yX9_gone cX9_gone 3 (some .int) 6 [.ref (A 0), .int a0] D (tyl C) (cw C A) X0 u sz (fun r u' => IC u' ∧ Un [(71, 71), (72, 72), (73, 73), (76, 76)] [(50, 50), (51, 51), (82, 82)] [] u u' ∧ (True)) := by
  refine mI (by decide) (Nat.le_of_ble_eq_true rfl) ?_
  intro p e s m below meth c ls ar Q hx hb hml hown hts hK hH hX hl hret
  have hown : s.vm.findClass RX9 = some m.cls := hown
  have hl : lv_has ls 3 [(0, .ref (A 0)), (1, .int a0)] := hl
  refine lv_aload_n hx hb dX9_gone_0 rfl (lv_at hl 0 rfl) ?_
  refine lv_iload_n hx hb dX9_gone_1 rfl (lv_at hl 1 rfl) ?_
  refine cvI (n := 1) (As := [.int a0]) (rest := []) ⟨hx, hb, hml, hown, hts⟩ uc_in (kX9_seekAway_0 l D C A u hI a0 A0 ha0 _) q_m987 q_n989 q_p40 q_i1 q_c990 hvX9_seekAway ⟨(Nat.le_of_ble_eq_true rfl), (Nat.le_of_ble_eq_true rfl)⟩ ⟨(Nat.le_of_ble_eq_true rfl), (Nat.le_of_ble_eq_true rfl)⟩ hK hH (fun q h => Or.inr h) Bl0 (fun _ _ _ => trivial) 9 0 rfl (cwc0 C A u) rfl hl.1 rfl (Nat.le_of_ble_eq_true rfl) dX9_gone_2 (fun r2 u1 H locs p3 hH => ?_)
  obtain ⟨hI, hUu1, p3⟩ := p3
  have p3 : (-6) ≤ r2.toInt ∧ r2.toInt ≤ 0 := p3
  refine lv_istore_n (lv' := [(2, .int r2), (0, .ref (A 0)), (1, .int a0)]) hx hb dX9_gone_5 rfl hl (by decide) rfl (fun ls hl => ?_)
  refine lv_iload_n hx hb dX9_gone_6 rfl (lv_at hl 0 rfl) ?_
  refine lv_if_ne (tgt := 20) hx hb dX9_gone_7 (by decide) (fun c4 => ?_) (fun c4 => ?_)
  · have c4 := cNE (x := r2) (y := 0) (X := r2.toInt) (Y := 0) rfl (by decide) c4
    refine lv_iload_n hx hb dX9_gone_20 rfl (lv_at hl 0 rfl) ?_
    exact hret _ _ _ _ r2 _ dX9_gone_21 rfl ⟨hI, (Un.tr Un.rf hUu1 rfl rfl rfl), trivial⟩ hH
  · have c4 := cEQ (x := r2) (y := 0) (X := r2.toInt) (Y := 0) rfl (by decide) c4
    refine lv_aload_n hx hb dX9_gone_10 rfl (lv_at hl 1 rfl) ?_
    refine va_get (ci := 9) (v := .ref (A 15)) (C := RX9) (T := TX9) (N := 12) hx hb hts (fun w h => uc_in w (inX9 w h)) hown hK hH.1 0 (cwc0 C A u1) rfl 10 (by decide) (hts _ (uc_in _ q_f393)) (fun _ h9 => h9) rfl dX9_gone_11 ?_
    refine va_get (ci := 8) (v := .int (gi u1 72)) (C := RX8) (T := TX8) (N := 9) hx hb hts (fun w h => uc_in w (inX8 w h)) hown hK hH.1 15 (cwc15 C A u1) rfl 1 (by decide) (hts _ (uc_in _ q_f331)) (fun _ h9 => h9) rfl dX9_gone_14 ?_
    refine lv_goto (tgt := 21) hx hb dX9_gone_17 (by decide) ?_
    exact hret _ _ _ _ (gi u1 72) _ dX9_gone_21 rfl ⟨hI, (Un.tr Un.rf hUu1 rfl rfl rfl), trivial⟩ hH
set_option maxHeartbeats 4000000 in
set_option maxRecDepth 100000 in
theorem kX9_heir_0 (l : Launch) (D : va_G) (C : Nat → ClassId) (A : Nat → Nat) (u : St) (hI : IC u) (a0 : Int32) (A0 : Int) (ha0 : a0.toInt = A0) : Met l yX9_heir (uc yX9_heir cX9_heir 2 (some .int)) (rmL 4 0 0) (va_Pc [.ref (A 0), .int a0] (PreR D (tyl C) (cw C A u))) (vp_Si (fun r => (-2) ≤ r.toInt ∧ r.toInt ≤ 5)) 0 0 (fun _ => False) := by
  refine mS (by decide) (Nat.le_of_ble_eq_true rfl) ?_
  intro p e s m below meth c ls ar Q hx hb hml hown hts hK hP hl hret
  have hown : s.vm.findClass RX9 = some m.cls := hown
  have hl : lv_has ls 2 [(0, .ref (A 0)), (1, .int a0)] := hl
  refine lv_aload_n hx hb dX9_heir_0 rfl (lv_at hl 0 rfl) ?_
  refine lv_iload_n hx hb dX9_heir_1 rfl (lv_at hl 1 rfl) ?_
  refine cvS (n := 1) (As := [.int a0]) (rest := []) ⟨hx, hb, hml, hown, hts⟩ uc_in (kX9_isDay_0 l D C A u hI a0 A0 ha0) q_m597 q_n599 q_p12 q_i1 q_c600 hvX9_isDay ⟨(Nat.le_of_ble_eq_true rfl), (Nat.le_of_ble_eq_true rfl)⟩ ⟨(Nat.le_of_ble_eq_true rfl), (Nat.le_of_ble_eq_true rfl)⟩ hK hP 9 0 rfl (cwc0 C A u) rfl hl.1 rfl (Nat.le_of_ble_eq_true rfl) dX9_heir_2 (fun r1 p2 => ?_)
  rcases p2 with ⟨e9, f3, f4⟩ | e9
  · subst e9
    have b6 := hI.b48
    refine lv_if_eq (tgt := 28) hx hb dX9_heir_5 (by decide) (fun c7 => absurd c7 (by decide)) (fun c7 => ?_)
    refine lv_aload_n hx hb dX9_heir_8 rfl (lv_at hl 0 rfl) ?_
    refine va_get (ci := 9) (v := .ref (A 7)) (C := RX9) (T := TX9) (N := 12) hx hb hts (fun w h => uc_in w (inX9 w h)) hown hK hP 0 (cwc0 C A u) rfl 5 (by decide) (hts _ (uc_in _ q_f388)) (fun _ h9 => h9) rfl dX9_heir_9 ?_
    refine va_get (ci := 5) (v := .ref (A 19)) (C := RX5) (T := TX5) (N := 4) hx hb hts (fun w h => uc_in w (inX5 w h)) hown hK hP 7 (cwc7 C A u) rfl 2 (by decide) (hts _ (uc_in _ q_f171)) (fun _ h9 => h9) rfl dX9_heir_12 ?_
    refine lv_iload_n hx hb dX9_heir_15 rfl (lv_at hl 1 rfl) ?_
    refine r_aald hx hb hK hP 19 6 rfl (cwc19 C A u) rfl (i_ix ha0 (by omega) (by omega)) dX9_heir_16 ?_
    obtain ⟨k8, hk8, ek8⟩ : ∃ k : Nat, (k : Int) = 32 + A0 ∧ k = 32 + Int32.toNatClampNeg a0 := ⟨_, by have q9 := i_cl (x := a0) (X := A0) ha0 (by omega); omega, rfl⟩
    refine pv_v (v := .ref (A (52 + k8))) (by rw [ek8]; rfl) ?_
    refine lv_aload_n hx hb dX9_heir_17 rfl (lv_at hl 0 rfl) ?_
    refine lv_iload_n hx hb dX9_heir_18 rfl (lv_at hl 1 rfl) ?_
    refine cvS (n := 1) (As := [.int a0]) (rest := [.ref (A (52 + k8))]) ⟨hx, hb, hml, hown, hts⟩ uc_in (kX9_withoutSlowest_0 l D C A u hI a0 A0 ha0 (by omega) (by omega)) q_m659 q_n661 q_p16 q_i1 q_c662 hvX9_withoutSlowest ⟨(Nat.le_of_ble_eq_true rfl), (Nat.le_of_ble_eq_true rfl)⟩ ⟨(Nat.le_of_ble_eq_true rfl), (Nat.le_of_ble_eq_true rfl)⟩ hK hP 9 0 rfl (cwc0 C A u) rfl hl.1 rfl (Nat.le_of_ble_eq_true rfl) dX9_heir_19 (fun r9 p10 => ?_)
    refine csS (n := 2) (As := [.ref (A (52 + k8)), .int r9]) (rest := []) ⟨hx, hb, hml, hown, hts⟩ uc_in (kX5_lastOf_0 l D C A u hI k8 (by omega) r9 r9.toInt rfl) q_m627 q_s613 q_i4 q_c614 hvX5_lastOf ⟨(Nat.le_of_ble_eq_true rfl), (Nat.le_of_ble_eq_true rfl)⟩ ⟨(Nat.le_of_ble_eq_true rfl), (Nat.le_of_ble_eq_true rfl)⟩ hK hP rfl hl.1 rfl (Nat.le_of_ble_eq_true rfl) dX9_heir_22 (fun r11 p12 => ?_)
    have p12 : (-1) ≤ r11.toInt ∧ r11.toInt ≤ 5 := p12
    refine lv_goto (tgt := 30) hx hb dX9_heir_25 (by decide) ?_
    exact hret _ _ r11 dX9_heir_30 rfl ⟨by omega, by omega⟩
  · subst e9
    refine lv_if_eq (tgt := 28) hx hb dX9_heir_5 (by decide) (fun c13 => ?_) (fun c13 => absurd c13 (by decide))
    refine lv_bipush (v := (-2)) hx hb dX9_heir_28 (by decide) ?_
    exact hret _ _ ((-2) : Int32) dX9_heir_30 rfl ⟨by decide, by decide⟩
set_option maxHeartbeats 4000000 in
set_option maxRecDepth 100000 in
theorem kX7_copyFrom_3 (l : Launch) (D : va_G) (C : Nat → ClassId) (A : Nat → Nat) (u : St) (hI : IC u) (sz : Nat) : MetV l yX7_copyFrom cX7_copyFrom 2 2 [.ref (A 4), .ref (A 2)] D (tyl C) (cw C A) X0 u sz (fun u' => IC u' ∧ Un [(24, 24), (25, 25), (26, 26), (27, 27), (28, 28), (29, 29), (30, 30), (31, 31)] [(29, 29), (30, 30), (31, 31), (62, 62), (63, 63), (64, 64), (65, 65), (66, 66)] [] u u' ∧ True) := by
  refine mV (by decide) (Nat.le_of_ble_eq_true rfl) ?_
  intro p e s m below meth c ls ar Q hx hb hml hown hts hK hH hX hl hret
  have hown : s.vm.findClass RX7 = some m.cls := hown
  have hl : lv_has ls 2 [(0, .ref (A 4)), (1, .ref (A 2))] := hl
  refine lv_aload_n hx hb dX7_copyFrom_0 rfl (lv_at hl 0 rfl) ?_
  refine lv_aload_n hx hb dX7_copyFrom_1 rfl (lv_at hl 1 rfl) ?_
  refine va_get (ci := 7) (v := .int (gi u 8)) (C := RX7) (T := TX7) (N := 16) hx hb hts (fun w h => uc_in w (inX7 w h)) hown hK hH.1 2 (cwc2 C A u) rfl 0 (by decide) (hts _ (uc_in _ q_f68)) (fun _ h9 => h9) rfl dX7_copyFrom_2 ?_
  refine r_put (j := 24) (ci := 7) (C := RX7) (T := TX7) (N := 16) hx hb hts (fun w h => uc_in w (inX7 w h)) tyX7 tyX7_ok nmX7 hown hK hH 4 (cwc4 C A u) rfl 0 (by decide) (hts _ (uc_in _ q_f68)) (fun _ h9 => h9) rfl (by decide +kernel) (Nat.le_of_ble_eq_true rfl) (cws24 C A u _) dX7_copyFrom_5 (fun u1 eu1 H locs hH => ?_)
  have hI := hI.pi0 eu1 rfl (by decide) (by decide)
  refine lv_aload_n hx hb dX7_copyFrom_8 rfl (lv_at hl 0 rfl) ?_
  refine lv_aload_n hx hb dX7_copyFrom_9 rfl (lv_at hl 1 rfl) ?_
  refine va_get (ci := 7) (v := .int (gi u1 9)) (C := RX7) (T := TX7) (N := 16) hx hb hts (fun w h => uc_in w (inX7 w h)) hown hK hH.1 2 (cwc2 C A u1) rfl 1 (by decide) (hts _ (uc_in _ q_f72)) (fun _ h9 => h9) rfl dX7_copyFrom_10 ?_
  have b2 := hI.b9
  refine r_put (j := 25) (ci := 7) (C := RX7) (T := TX7) (N := 16) hx hb hts (fun w h => uc_in w (inX7 w h)) tyX7 tyX7_ok nmX7 hown hK hH 4 (cwc4 C A u1) rfl 1 (by decide) (hts _ (uc_in _ q_f72)) (fun _ h9 => h9) rfl (by decide +kernel) (Nat.le_of_ble_eq_true rfl) (cws25 C A u1 _) dX7_copyFrom_13 (fun u3 eu3 H locs hH => ?_)
  have hI := hI.s25 eu3 rfl (by omega) (by omega)
  refine lv_aload_n hx hb dX7_copyFrom_16 rfl (lv_at hl 0 rfl) ?_
  refine lv_aload_n hx hb dX7_copyFrom_17 rfl (lv_at hl 1 rfl) ?_
  refine va_get (ci := 7) (v := .int (gi u3 10)) (C := RX7) (T := TX7) (N := 16) hx hb hts (fun w h => uc_in w (inX7 w h)) hown hK hH.1 2 (cwc2 C A u3) rfl 2 (by decide) (hts _ (uc_in _ q_f75)) (fun _ h9 => h9) rfl dX7_copyFrom_18 ?_
  refine r_put (j := 26) (ci := 7) (C := RX7) (T := TX7) (N := 16) hx hb hts (fun w h => uc_in w (inX7 w h)) tyX7 tyX7_ok nmX7 hown hK hH 4 (cwc4 C A u3) rfl 2 (by decide) (hts _ (uc_in _ q_f75)) (fun _ h9 => h9) rfl (by decide +kernel) (Nat.le_of_ble_eq_true rfl) (cws26 C A u3 _) dX7_copyFrom_21 (fun u4 eu4 H locs hH => ?_)
  have hI := hI.pi0 eu4 rfl (by decide) (by decide)
  refine lv_aload_n hx hb dX7_copyFrom_24 rfl (lv_at hl 0 rfl) ?_
  refine lv_aload_n hx hb dX7_copyFrom_25 rfl (lv_at hl 1 rfl) ?_
  refine va_get (ci := 7) (v := .int (gi u4 11)) (C := RX7) (T := TX7) (N := 16) hx hb hts (fun w h => uc_in w (inX7 w h)) hown hK hH.1 2 (cwc2 C A u4) rfl 3 (by decide) (hts _ (uc_in _ q_f78)) (fun _ h9 => h9) rfl dX7_copyFrom_26 ?_
  refine r_put (j := 27) (ci := 7) (C := RX7) (T := TX7) (N := 16) hx hb hts (fun w h => uc_in w (inX7 w h)) tyX7 tyX7_ok nmX7 hown hK hH 4 (cwc4 C A u4) rfl 3 (by decide) (hts _ (uc_in _ q_f78)) (fun _ h9 => h9) rfl (by decide +kernel) (Nat.le_of_ble_eq_true rfl) (cws27 C A u4 _) dX7_copyFrom_29 (fun u5 eu5 H locs hH => ?_)
  have hI := hI.pi0 eu5 rfl (by decide) (by decide)
  refine lv_aload_n hx hb dX7_copyFrom_32 rfl (lv_at hl 0 rfl) ?_
  refine lv_aload_n hx hb dX7_copyFrom_33 rfl (lv_at hl 1 rfl) ?_
  refine va_get (ci := 7) (v := .int (gi u5 12)) (C := RX7) (T := TX7) (N := 16) hx hb hts (fun w h => uc_in w (inX7 w h)) hown hK hH.1 2 (cwc2 C A u5) rfl 4 (by decide) (hts _ (uc_in _ q_f82)) (fun _ h9 => h9) rfl dX7_copyFrom_34 ?_
  have b6 := hI.b12
  refine r_put (j := 28) (ci := 7) (C := RX7) (T := TX7) (N := 16) hx hb hts (fun w h => uc_in w (inX7 w h)) tyX7 tyX7_ok nmX7 hown hK hH 4 (cwc4 C A u5) rfl 4 (by decide) (hts _ (uc_in _ q_f82)) (fun _ h9 => h9) rfl (by decide +kernel) (Nat.le_of_ble_eq_true rfl) (cws28 C A u5 _) dX7_copyFrom_37 (fun u7 eu7 H locs hH => ?_)
  have hI := hI.s28 eu7 rfl (by omega) (by omega)
  refine lv_aload_n hx hb dX7_copyFrom_40 rfl (lv_at hl 0 rfl) ?_
  refine lv_aload_n hx hb dX7_copyFrom_41 rfl (lv_at hl 1 rfl) ?_
  refine va_get (ci := 7) (v := .int (gi u7 13)) (C := RX7) (T := TX7) (N := 16) hx hb hts (fun w h => uc_in w (inX7 w h)) hown hK hH.1 2 (cwc2 C A u7) rfl 5 (by decide) (hts _ (uc_in _ q_f85)) (fun _ h9 => h9) rfl dX7_copyFrom_42 ?_
  refine r_put (j := 29) (ci := 7) (C := RX7) (T := TX7) (N := 16) hx hb hts (fun w h => uc_in w (inX7 w h)) tyX7 tyX7_ok nmX7 hown hK hH 4 (cwc4 C A u7) rfl 5 (by decide) (hts _ (uc_in _ q_f85)) (fun _ h9 => h9) rfl (by decide +kernel) (Nat.le_of_ble_eq_true rfl) (cws29 C A u7 _) dX7_copyFrom_45 (fun u8 eu8 H locs hH => ?_)
  have hI := hI.pi0 eu8 rfl (by decide) (by decide)
  refine lv_aload_n hx hb dX7_copyFrom_48 rfl (lv_at hl 0 rfl) ?_
  refine lv_aload_n hx hb dX7_copyFrom_49 rfl (lv_at hl 1 rfl) ?_
  refine va_get (ci := 7) (v := .int (gi u8 14)) (C := RX7) (T := TX7) (N := 16) hx hb hts (fun w h => uc_in w (inX7 w h)) hown hK hH.1 2 (cwc2 C A u8) rfl 6 (by decide) (hts _ (uc_in _ q_f88)) (fun _ h9 => h9) rfl dX7_copyFrom_50 ?_
  refine r_put (j := 30) (ci := 7) (C := RX7) (T := TX7) (N := 16) hx hb hts (fun w h => uc_in w (inX7 w h)) tyX7 tyX7_ok nmX7 hown hK hH 4 (cwc4 C A u8) rfl 6 (by decide) (hts _ (uc_in _ q_f88)) (fun _ h9 => h9) rfl (by decide +kernel) (Nat.le_of_ble_eq_true rfl) (cws30 C A u8 _) dX7_copyFrom_53 (fun u9 eu9 H locs hH => ?_)
  have hI := hI.pi0 eu9 rfl (by decide) (by decide)
  refine lv_aload_n hx hb dX7_copyFrom_56 rfl (lv_at hl 0 rfl) ?_
  refine lv_aload_n hx hb dX7_copyFrom_57 rfl (lv_at hl 1 rfl) ?_
  refine va_get (ci := 7) (v := .int (gi u9 15)) (C := RX7) (T := TX7) (N := 16) hx hb hts (fun w h => uc_in w (inX7 w h)) hown hK hH.1 2 (cwc2 C A u9) rfl 7 (by decide) (hts _ (uc_in _ q_f92)) (fun _ h9 => h9) rfl dX7_copyFrom_58 ?_
  have b10 := hI.b15
  refine r_put (j := 31) (ci := 7) (C := RX7) (T := TX7) (N := 16) hx hb hts (fun w h => uc_in w (inX7 w h)) tyX7 tyX7_ok nmX7 hown hK hH 4 (cwc4 C A u9) rfl 7 (by decide) (hts _ (uc_in _ q_f92)) (fun _ h9 => h9) rfl (by decide +kernel) (Nat.le_of_ble_eq_true rfl) (cws31 C A u9 _) dX7_copyFrom_61 (fun u11 eu11 H locs hH => ?_)
  have hI := hI.s31 eu11 rfl (by omega) (by omega)
  refine lv_aload_n hx hb dX7_copyFrom_64 rfl (lv_at hl 1 rfl) ?_
  refine va_get (ci := 7) (v := .ref (A 52)) (C := RX7) (T := TX7) (N := 16) hx hb hts (fun w h => uc_in w (inX7 w h)) hown hK hH.1 2 (cwc2 C A u11) rfl 8 (by decide) (hts _ (uc_in _ q_f95)) (fun _ h9 => h9) rfl dX7_copyFrom_65 ?_
  refine lv_iconst (v := 0) hx hb dX7_copyFrom_68 (by decide) ?_
  refine lv_aload_n hx hb dX7_copyFrom_69 rfl (lv_at hl 0 rfl) ?_
  refine va_get (ci := 7) (v := .ref (A 62)) (C := RX7) (T := TX7) (N := 16) hx hb hts (fun w h => uc_in w (inX7 w h)) hown hK hH.1 4 (cwc4 C A u11) rfl 8 (by decide) (hts _ (uc_in _ q_f95)) (fun _ h9 => h9) rfl dX7_copyFrom_70 ?_
  refine lv_iconst (v := 0) hx hb dX7_copyFrom_73 (by decide) ?_
  refine lv_bipush (v := 6) hx hb dX7_copyFrom_74 (by decide) ?_
  refine r_copyi (j0 := 52) (j1 := 62) (S' := 0) (P' := 0) (N' := 6) hx hb (by rw [hml]; exact hl.1.symm) hown (hts _ (uc_in _ q_m560)) (hts _ (uc_in _ q_t562)) (hts _ (uc_in _ q_s561)) (hts _ (uc_in _ q_i17)) hK hH 52 62 1 (cwc52 C A u11) (cwc62 C A u11) rfl (by decide) (by decide) (by decide) (by decide) (by decide) (by decide) (by decide) (by decide) (cwa62 C A u11) (Nat.le_of_ble_eq_true rfl) (Nat.le_of_ble_eq_true rfl) dX7_copyFrom_76 (fun u12 eu12 H locs hH => ?_)
  have hI := hI.pa0 eu12 (by decide)
  refine lv_aload_n hx hb dX7_copyFrom_79 rfl (lv_at hl 1 rfl) ?_
  refine va_get (ci := 7) (v := .ref (A 53)) (C := RX7) (T := TX7) (N := 16) hx hb hts (fun w h => uc_in w (inX7 w h)) hown hK hH.1 2 (cwc2 C A u12) rfl 9 (by decide) (hts _ (uc_in _ q_f99)) (fun _ h9 => h9) rfl dX7_copyFrom_80 ?_
  refine lv_iconst (v := 0) hx hb dX7_copyFrom_83 (by decide) ?_
  refine lv_aload_n hx hb dX7_copyFrom_84 rfl (lv_at hl 0 rfl) ?_
  refine va_get (ci := 7) (v := .ref (A 63)) (C := RX7) (T := TX7) (N := 16) hx hb hts (fun w h => uc_in w (inX7 w h)) hown hK hH.1 4 (cwc4 C A u12) rfl 9 (by decide) (hts _ (uc_in _ q_f99)) (fun _ h9 => h9) rfl dX7_copyFrom_85 ?_
  refine lv_iconst (v := 0) hx hb dX7_copyFrom_88 (by decide) ?_
  refine lv_bipush (v := 6) hx hb dX7_copyFrom_89 (by decide) ?_
  refine r_copyi (j0 := 53) (j1 := 63) (S' := 0) (P' := 0) (N' := 6) hx hb (by rw [hml]; exact hl.1.symm) hown (hts _ (uc_in _ q_m560)) (hts _ (uc_in _ q_t562)) (hts _ (uc_in _ q_s561)) (hts _ (uc_in _ q_i17)) hK hH 53 63 1 (cwc53 C A u12) (cwc63 C A u12) rfl (by decide) (by decide) (by decide) (by decide) (by decide) (by decide) (by decide) (by decide) (cwa63 C A u12) (Nat.le_of_ble_eq_true rfl) (Nat.le_of_ble_eq_true rfl) dX7_copyFrom_91 (fun u13 eu13 H locs hH => ?_)
  have hI := hI.pa0 eu13 (by decide)
  refine lv_aload_n hx hb dX7_copyFrom_94 rfl (lv_at hl 1 rfl) ?_
  refine va_get (ci := 7) (v := .ref (A 54)) (C := RX7) (T := TX7) (N := 16) hx hb hts (fun w h => uc_in w (inX7 w h)) hown hK hH.1 2 (cwc2 C A u13) rfl 10 (by decide) (hts _ (uc_in _ q_f103)) (fun _ h9 => h9) rfl dX7_copyFrom_95 ?_
  refine lv_iconst (v := 0) hx hb dX7_copyFrom_98 (by decide) ?_
  refine lv_aload_n hx hb dX7_copyFrom_99 rfl (lv_at hl 0 rfl) ?_
  refine va_get (ci := 7) (v := .ref (A 64)) (C := RX7) (T := TX7) (N := 16) hx hb hts (fun w h => uc_in w (inX7 w h)) hown hK hH.1 4 (cwc4 C A u13) rfl 10 (by decide) (hts _ (uc_in _ q_f103)) (fun _ h9 => h9) rfl dX7_copyFrom_100 ?_
  refine lv_iconst (v := 0) hx hb dX7_copyFrom_103 (by decide) ?_
  refine lv_bipush (v := 6) hx hb dX7_copyFrom_104 (by decide) ?_
  refine r_copyi (j0 := 54) (j1 := 64) (S' := 0) (P' := 0) (N' := 6) hx hb (by rw [hml]; exact hl.1.symm) hown (hts _ (uc_in _ q_m560)) (hts _ (uc_in _ q_t562)) (hts _ (uc_in _ q_s561)) (hts _ (uc_in _ q_i17)) hK hH 54 64 1 (cwc54 C A u13) (cwc64 C A u13) rfl (by decide) (by decide) (by decide) (by decide) (by decide) (by decide) (by decide) (by decide) (cwa64 C A u13) (Nat.le_of_ble_eq_true rfl) (Nat.le_of_ble_eq_true rfl) dX7_copyFrom_106 (fun u14 eu14 H locs hH => ?_)
  have hI := hI.pa0 eu14 (by decide)
  refine lv_aload_n hx hb dX7_copyFrom_109 rfl (lv_at hl 1 rfl) ?_
  refine va_get (ci := 7) (v := .ref (A 55)) (C := RX7) (T := TX7) (N := 16) hx hb hts (fun w h => uc_in w (inX7 w h)) hown hK hH.1 2 (cwc2 C A u14) rfl 11 (by decide) (hts _ (uc_in _ q_f107)) (fun _ h9 => h9) rfl dX7_copyFrom_110 ?_
  refine lv_iconst (v := 0) hx hb dX7_copyFrom_113 (by decide) ?_
  refine lv_aload_n hx hb dX7_copyFrom_114 rfl (lv_at hl 0 rfl) ?_
  refine va_get (ci := 7) (v := .ref (A 65)) (C := RX7) (T := TX7) (N := 16) hx hb hts (fun w h => uc_in w (inX7 w h)) hown hK hH.1 4 (cwc4 C A u14) rfl 11 (by decide) (hts _ (uc_in _ q_f107)) (fun _ h9 => h9) rfl dX7_copyFrom_115 ?_
  refine lv_iconst (v := 0) hx hb dX7_copyFrom_118 (by decide) ?_
  refine lv_bipush (v := 6) hx hb dX7_copyFrom_119 (by decide) ?_
  refine r_copyi (j0 := 55) (j1 := 65) (S' := 0) (P' := 0) (N' := 6) hx hb (by rw [hml]; exact hl.1.symm) hown (hts _ (uc_in _ q_m560)) (hts _ (uc_in _ q_t562)) (hts _ (uc_in _ q_s561)) (hts _ (uc_in _ q_i17)) hK hH 55 65 1 (cwc55 C A u14) (cwc65 C A u14) rfl (by decide) (by decide) (by decide) (by decide) (by decide) (by decide) (by decide) (by decide) (cwa65 C A u14) (Nat.le_of_ble_eq_true rfl) (Nat.le_of_ble_eq_true rfl) dX7_copyFrom_121 (fun u15 eu15 H locs hH => ?_)
  have hI := hI.pa0 eu15 (by decide)
  refine lv_aload_n hx hb dX7_copyFrom_124 rfl (lv_at hl 1 rfl) ?_
  refine va_get (ci := 7) (v := .ref (A 56)) (C := RX7) (T := TX7) (N := 16) hx hb hts (fun w h => uc_in w (inX7 w h)) hown hK hH.1 2 (cwc2 C A u15) rfl 12 (by decide) (hts _ (uc_in _ q_f111)) (fun _ h9 => h9) rfl dX7_copyFrom_125 ?_
  refine lv_iconst (v := 0) hx hb dX7_copyFrom_128 (by decide) ?_
  refine lv_aload_n hx hb dX7_copyFrom_129 rfl (lv_at hl 0 rfl) ?_
  refine va_get (ci := 7) (v := .ref (A 66)) (C := RX7) (T := TX7) (N := 16) hx hb hts (fun w h => uc_in w (inX7 w h)) hown hK hH.1 4 (cwc4 C A u15) rfl 12 (by decide) (hts _ (uc_in _ q_f111)) (fun _ h9 => h9) rfl dX7_copyFrom_130 ?_
  refine lv_iconst (v := 0) hx hb dX7_copyFrom_133 (by decide) ?_
  refine lv_bipush (v := 6) hx hb dX7_copyFrom_134 (by decide) ?_
  refine r_copyi (j0 := 56) (j1 := 66) (S' := 0) (P' := 0) (N' := 6) hx hb (by rw [hml]; exact hl.1.symm) hown (hts _ (uc_in _ q_m560)) (hts _ (uc_in _ q_t562)) (hts _ (uc_in _ q_s561)) (hts _ (uc_in _ q_i17)) hK hH 56 66 1 (cwc56 C A u15) (cwc66 C A u15) rfl (by decide) (by decide) (by decide) (by decide) (by decide) (by decide) (by decide) (by decide) (cwa66 C A u15) (Nat.le_of_ble_eq_true rfl) (Nat.le_of_ble_eq_true rfl) dX7_copyFrom_136 (fun u16 eu16 H locs hH => ?_)
  have hI := hI.pa0 eu16 (by decide)
  refine lv_aload_n hx hb dX7_copyFrom_139 rfl (lv_at hl 1 rfl) ?_
  refine va_get (ci := 7) (v := .ref (A 23)) (C := RX7) (T := TX7) (N := 16) hx hb hts (fun w h => uc_in w (inX7 w h)) hown hK hH.1 2 (cwc2 C A u16) rfl 13 (by decide) (hts _ (uc_in _ q_f115)) (fun _ h9 => h9) rfl dX7_copyFrom_140 ?_
  refine lv_iconst (v := 0) hx hb dX7_copyFrom_143 (by decide) ?_
  refine lv_aload_n hx hb dX7_copyFrom_144 rfl (lv_at hl 0 rfl) ?_
  refine va_get (ci := 7) (v := .ref (A 29)) (C := RX7) (T := TX7) (N := 16) hx hb hts (fun w h => uc_in w (inX7 w h)) hown hK hH.1 4 (cwc4 C A u16) rfl 13 (by decide) (hts _ (uc_in _ q_f115)) (fun _ h9 => h9) rfl dX7_copyFrom_145 ?_
  refine lv_iconst (v := 0) hx hb dX7_copyFrom_148 (by decide) ?_
  refine lv_bipush (v := 40) hx hb dX7_copyFrom_149 (by decide) ?_
  refine r_copyi (j0 := 23) (j1 := 29) (S' := 0) (P' := 0) (N' := 40) hx hb (by rw [hml]; exact hl.1.symm) hown (hts _ (uc_in _ q_m560)) (hts _ (uc_in _ q_t562)) (hts _ (uc_in _ q_s561)) (hts _ (uc_in _ q_i17)) hK hH 23 29 1 (cwc23 C A u16) (cwc29 C A u16) rfl (by decide) (by decide) (by decide) (by decide) (by decide) (by decide) (by decide) (by decide) (cwa29 C A u16) (Nat.le_of_ble_eq_true rfl) (Nat.le_of_ble_eq_true rfl) dX7_copyFrom_151 (fun u17 eu17 H locs hH => ?_)
  have hI := hI.pa0 eu17 (by decide)
  refine lv_aload_n hx hb dX7_copyFrom_154 rfl (lv_at hl 1 rfl) ?_
  refine va_get (ci := 7) (v := .ref (A 24)) (C := RX7) (T := TX7) (N := 16) hx hb hts (fun w h => uc_in w (inX7 w h)) hown hK hH.1 2 (cwc2 C A u17) rfl 14 (by decide) (hts _ (uc_in _ q_f116)) (fun _ h9 => h9) rfl dX7_copyFrom_155 ?_
  refine lv_iconst (v := 0) hx hb dX7_copyFrom_158 (by decide) ?_
  refine lv_aload_n hx hb dX7_copyFrom_159 rfl (lv_at hl 0 rfl) ?_
  refine va_get (ci := 7) (v := .ref (A 30)) (C := RX7) (T := TX7) (N := 16) hx hb hts (fun w h => uc_in w (inX7 w h)) hown hK hH.1 4 (cwc4 C A u17) rfl 14 (by decide) (hts _ (uc_in _ q_f116)) (fun _ h9 => h9) rfl dX7_copyFrom_160 ?_
  refine lv_iconst (v := 0) hx hb dX7_copyFrom_163 (by decide) ?_
  refine lv_bipush (v := 40) hx hb dX7_copyFrom_164 (by decide) ?_
  refine r_copyi (j0 := 24) (j1 := 30) (S' := 0) (P' := 0) (N' := 40) hx hb (by rw [hml]; exact hl.1.symm) hown (hts _ (uc_in _ q_m560)) (hts _ (uc_in _ q_t562)) (hts _ (uc_in _ q_s561)) (hts _ (uc_in _ q_i17)) hK hH 24 30 1 (cwc24 C A u17) (cwc30 C A u17) rfl (by decide) (by decide) (by decide) (by decide) (by decide) (by decide) (by decide) (by decide) (cwa30 C A u17) (Nat.le_of_ble_eq_true rfl) (Nat.le_of_ble_eq_true rfl) dX7_copyFrom_166 (fun u18 eu18 H locs hH => ?_)
  have hI := hI.pa0 eu18 (by decide)
  refine lv_aload_n hx hb dX7_copyFrom_169 rfl (lv_at hl 1 rfl) ?_
  refine va_get (ci := 7) (v := .ref (A 25)) (C := RX7) (T := TX7) (N := 16) hx hb hts (fun w h => uc_in w (inX7 w h)) hown hK hH.1 2 (cwc2 C A u18) rfl 15 (by decide) (hts _ (uc_in _ q_f117)) (fun _ h9 => h9) rfl dX7_copyFrom_170 ?_
  refine lv_iconst (v := 0) hx hb dX7_copyFrom_173 (by decide) ?_
  refine lv_aload_n hx hb dX7_copyFrom_174 rfl (lv_at hl 0 rfl) ?_
  refine va_get (ci := 7) (v := .ref (A 31)) (C := RX7) (T := TX7) (N := 16) hx hb hts (fun w h => uc_in w (inX7 w h)) hown hK hH.1 4 (cwc4 C A u18) rfl 15 (by decide) (hts _ (uc_in _ q_f117)) (fun _ h9 => h9) rfl dX7_copyFrom_175 ?_
  refine lv_iconst (v := 0) hx hb dX7_copyFrom_178 (by decide) ?_
  refine lv_bipush (v := 40) hx hb dX7_copyFrom_179 (by decide) ?_
  refine r_copyi (j0 := 25) (j1 := 31) (S' := 0) (P' := 0) (N' := 40) hx hb (by rw [hml]; exact hl.1.symm) hown (hts _ (uc_in _ q_m560)) (hts _ (uc_in _ q_t562)) (hts _ (uc_in _ q_s561)) (hts _ (uc_in _ q_i17)) hK hH 25 31 1 (cwc25 C A u18) (cwc31 C A u18) rfl (by decide) (by decide) (by decide) (by decide) (by decide) (by decide) (by decide) (by decide) (cwa31 C A u18) (Nat.le_of_ble_eq_true rfl) (Nat.le_of_ble_eq_true rfl) dX7_copyFrom_181 (fun u19 eu19 H locs hH => ?_)
  have hI := hI.pa0 eu19 (by decide)
  exact hret _ _ _ _ _ dX7_copyFrom_184 ⟨hI, (Un.sa (Un.sa (Un.sa (Un.sa (Un.sa (Un.sa (Un.sa (Un.sa (Un.si (Un.si (Un.si (Un.si (Un.si (Un.si (Un.si (Un.si Un.rf rfl eu1) rfl eu3) rfl eu4) rfl eu5) rfl eu7) rfl eu8) rfl eu9) rfl eu11) rfl eu12) rfl eu13) rfl eu14) rfl eu15) rfl eu16) rfl eu17) rfl eu18) rfl eu19), trivial⟩ hH
set_option maxHeartbeats 4000000 in
set_option maxRecDepth 100000 in
theorem kX7_copyFrom_4 (l : Launch) (D : va_G) (C : Nat → ClassId) (A : Nat → Nat) (u : St) (hI : IC u) (sz : Nat) : MetV l yX7_copyFrom cX7_copyFrom 2 2 [.ref (A 5), .ref (A 2)] D (tyl C) (cw C A) X0 u sz (fun u' => IC u' ∧ Un [(32, 32), (33, 33), (34, 34), (35, 35), (36, 36), (37, 37), (38, 38), (39, 39)] [(32, 32), (33, 33), (34, 34), (67, 67), (68, 68), (69, 69), (70, 70), (71, 71)] [] u u' ∧ True) := by
  refine mV (by decide) (Nat.le_of_ble_eq_true rfl) ?_
  intro p e s m below meth c ls ar Q hx hb hml hown hts hK hH hX hl hret
  have hown : s.vm.findClass RX7 = some m.cls := hown
  have hl : lv_has ls 2 [(0, .ref (A 5)), (1, .ref (A 2))] := hl
  refine lv_aload_n hx hb dX7_copyFrom_0 rfl (lv_at hl 0 rfl) ?_
  refine lv_aload_n hx hb dX7_copyFrom_1 rfl (lv_at hl 1 rfl) ?_
  refine va_get (ci := 7) (v := .int (gi u 8)) (C := RX7) (T := TX7) (N := 16) hx hb hts (fun w h => uc_in w (inX7 w h)) hown hK hH.1 2 (cwc2 C A u) rfl 0 (by decide) (hts _ (uc_in _ q_f68)) (fun _ h9 => h9) rfl dX7_copyFrom_2 ?_
  refine r_put (j := 32) (ci := 7) (C := RX7) (T := TX7) (N := 16) hx hb hts (fun w h => uc_in w (inX7 w h)) tyX7 tyX7_ok nmX7 hown hK hH 5 (cwc5 C A u) rfl 0 (by decide) (hts _ (uc_in _ q_f68)) (fun _ h9 => h9) rfl (by decide +kernel) (Nat.le_of_ble_eq_true rfl) (cws32 C A u _) dX7_copyFrom_5 (fun u1 eu1 H locs hH => ?_)
  have hI := hI.pi0 eu1 rfl (by decide) (by decide)
  refine lv_aload_n hx hb dX7_copyFrom_8 rfl (lv_at hl 0 rfl) ?_
  refine lv_aload_n hx hb dX7_copyFrom_9 rfl (lv_at hl 1 rfl) ?_
  refine va_get (ci := 7) (v := .int (gi u1 9)) (C := RX7) (T := TX7) (N := 16) hx hb hts (fun w h => uc_in w (inX7 w h)) hown hK hH.1 2 (cwc2 C A u1) rfl 1 (by decide) (hts _ (uc_in _ q_f72)) (fun _ h9 => h9) rfl dX7_copyFrom_10 ?_
  have b2 := hI.b9
  refine r_put (j := 33) (ci := 7) (C := RX7) (T := TX7) (N := 16) hx hb hts (fun w h => uc_in w (inX7 w h)) tyX7 tyX7_ok nmX7 hown hK hH 5 (cwc5 C A u1) rfl 1 (by decide) (hts _ (uc_in _ q_f72)) (fun _ h9 => h9) rfl (by decide +kernel) (Nat.le_of_ble_eq_true rfl) (cws33 C A u1 _) dX7_copyFrom_13 (fun u3 eu3 H locs hH => ?_)
  have hI := hI.s33 eu3 rfl (by omega) (by omega)
  refine lv_aload_n hx hb dX7_copyFrom_16 rfl (lv_at hl 0 rfl) ?_
  refine lv_aload_n hx hb dX7_copyFrom_17 rfl (lv_at hl 1 rfl) ?_
  refine va_get (ci := 7) (v := .int (gi u3 10)) (C := RX7) (T := TX7) (N := 16) hx hb hts (fun w h => uc_in w (inX7 w h)) hown hK hH.1 2 (cwc2 C A u3) rfl 2 (by decide) (hts _ (uc_in _ q_f75)) (fun _ h9 => h9) rfl dX7_copyFrom_18 ?_
  refine r_put (j := 34) (ci := 7) (C := RX7) (T := TX7) (N := 16) hx hb hts (fun w h => uc_in w (inX7 w h)) tyX7 tyX7_ok nmX7 hown hK hH 5 (cwc5 C A u3) rfl 2 (by decide) (hts _ (uc_in _ q_f75)) (fun _ h9 => h9) rfl (by decide +kernel) (Nat.le_of_ble_eq_true rfl) (cws34 C A u3 _) dX7_copyFrom_21 (fun u4 eu4 H locs hH => ?_)
  have hI := hI.pi0 eu4 rfl (by decide) (by decide)
  refine lv_aload_n hx hb dX7_copyFrom_24 rfl (lv_at hl 0 rfl) ?_
  refine lv_aload_n hx hb dX7_copyFrom_25 rfl (lv_at hl 1 rfl) ?_
  refine va_get (ci := 7) (v := .int (gi u4 11)) (C := RX7) (T := TX7) (N := 16) hx hb hts (fun w h => uc_in w (inX7 w h)) hown hK hH.1 2 (cwc2 C A u4) rfl 3 (by decide) (hts _ (uc_in _ q_f78)) (fun _ h9 => h9) rfl dX7_copyFrom_26 ?_
  refine r_put (j := 35) (ci := 7) (C := RX7) (T := TX7) (N := 16) hx hb hts (fun w h => uc_in w (inX7 w h)) tyX7 tyX7_ok nmX7 hown hK hH 5 (cwc5 C A u4) rfl 3 (by decide) (hts _ (uc_in _ q_f78)) (fun _ h9 => h9) rfl (by decide +kernel) (Nat.le_of_ble_eq_true rfl) (cws35 C A u4 _) dX7_copyFrom_29 (fun u5 eu5 H locs hH => ?_)
  have hI := hI.pi0 eu5 rfl (by decide) (by decide)
  refine lv_aload_n hx hb dX7_copyFrom_32 rfl (lv_at hl 0 rfl) ?_
  refine lv_aload_n hx hb dX7_copyFrom_33 rfl (lv_at hl 1 rfl) ?_
  refine va_get (ci := 7) (v := .int (gi u5 12)) (C := RX7) (T := TX7) (N := 16) hx hb hts (fun w h => uc_in w (inX7 w h)) hown hK hH.1 2 (cwc2 C A u5) rfl 4 (by decide) (hts _ (uc_in _ q_f82)) (fun _ h9 => h9) rfl dX7_copyFrom_34 ?_
  have b6 := hI.b12
  refine r_put (j := 36) (ci := 7) (C := RX7) (T := TX7) (N := 16) hx hb hts (fun w h => uc_in w (inX7 w h)) tyX7 tyX7_ok nmX7 hown hK hH 5 (cwc5 C A u5) rfl 4 (by decide) (hts _ (uc_in _ q_f82)) (fun _ h9 => h9) rfl (by decide +kernel) (Nat.le_of_ble_eq_true rfl) (cws36 C A u5 _) dX7_copyFrom_37 (fun u7 eu7 H locs hH => ?_)
  have hI := hI.s36 eu7 rfl (by omega) (by omega)
  refine lv_aload_n hx hb dX7_copyFrom_40 rfl (lv_at hl 0 rfl) ?_
  refine lv_aload_n hx hb dX7_copyFrom_41 rfl (lv_at hl 1 rfl) ?_
  refine va_get (ci := 7) (v := .int (gi u7 13)) (C := RX7) (T := TX7) (N := 16) hx hb hts (fun w h => uc_in w (inX7 w h)) hown hK hH.1 2 (cwc2 C A u7) rfl 5 (by decide) (hts _ (uc_in _ q_f85)) (fun _ h9 => h9) rfl dX7_copyFrom_42 ?_
  refine r_put (j := 37) (ci := 7) (C := RX7) (T := TX7) (N := 16) hx hb hts (fun w h => uc_in w (inX7 w h)) tyX7 tyX7_ok nmX7 hown hK hH 5 (cwc5 C A u7) rfl 5 (by decide) (hts _ (uc_in _ q_f85)) (fun _ h9 => h9) rfl (by decide +kernel) (Nat.le_of_ble_eq_true rfl) (cws37 C A u7 _) dX7_copyFrom_45 (fun u8 eu8 H locs hH => ?_)
  have hI := hI.pi0 eu8 rfl (by decide) (by decide)
  refine lv_aload_n hx hb dX7_copyFrom_48 rfl (lv_at hl 0 rfl) ?_
  refine lv_aload_n hx hb dX7_copyFrom_49 rfl (lv_at hl 1 rfl) ?_
  refine va_get (ci := 7) (v := .int (gi u8 14)) (C := RX7) (T := TX7) (N := 16) hx hb hts (fun w h => uc_in w (inX7 w h)) hown hK hH.1 2 (cwc2 C A u8) rfl 6 (by decide) (hts _ (uc_in _ q_f88)) (fun _ h9 => h9) rfl dX7_copyFrom_50 ?_
  refine r_put (j := 38) (ci := 7) (C := RX7) (T := TX7) (N := 16) hx hb hts (fun w h => uc_in w (inX7 w h)) tyX7 tyX7_ok nmX7 hown hK hH 5 (cwc5 C A u8) rfl 6 (by decide) (hts _ (uc_in _ q_f88)) (fun _ h9 => h9) rfl (by decide +kernel) (Nat.le_of_ble_eq_true rfl) (cws38 C A u8 _) dX7_copyFrom_53 (fun u9 eu9 H locs hH => ?_)
  have hI := hI.pi0 eu9 rfl (by decide) (by decide)
  refine lv_aload_n hx hb dX7_copyFrom_56 rfl (lv_at hl 0 rfl) ?_
  refine lv_aload_n hx hb dX7_copyFrom_57 rfl (lv_at hl 1 rfl) ?_
  refine va_get (ci := 7) (v := .int (gi u9 15)) (C := RX7) (T := TX7) (N := 16) hx hb hts (fun w h => uc_in w (inX7 w h)) hown hK hH.1 2 (cwc2 C A u9) rfl 7 (by decide) (hts _ (uc_in _ q_f92)) (fun _ h9 => h9) rfl dX7_copyFrom_58 ?_
  have b10 := hI.b15
  refine r_put (j := 39) (ci := 7) (C := RX7) (T := TX7) (N := 16) hx hb hts (fun w h => uc_in w (inX7 w h)) tyX7 tyX7_ok nmX7 hown hK hH 5 (cwc5 C A u9) rfl 7 (by decide) (hts _ (uc_in _ q_f92)) (fun _ h9 => h9) rfl (by decide +kernel) (Nat.le_of_ble_eq_true rfl) (cws39 C A u9 _) dX7_copyFrom_61 (fun u11 eu11 H locs hH => ?_)
  have hI := hI.s39 eu11 rfl (by omega) (by omega)
  refine lv_aload_n hx hb dX7_copyFrom_64 rfl (lv_at hl 1 rfl) ?_
  refine va_get (ci := 7) (v := .ref (A 52)) (C := RX7) (T := TX7) (N := 16) hx hb hts (fun w h => uc_in w (inX7 w h)) hown hK hH.1 2 (cwc2 C A u11) rfl 8 (by decide) (hts _ (uc_in _ q_f95)) (fun _ h9 => h9) rfl dX7_copyFrom_65 ?_
  refine lv_iconst (v := 0) hx hb dX7_copyFrom_68 (by decide) ?_
  refine lv_aload_n hx hb dX7_copyFrom_69 rfl (lv_at hl 0 rfl) ?_
  refine va_get (ci := 7) (v := .ref (A 67)) (C := RX7) (T := TX7) (N := 16) hx hb hts (fun w h => uc_in w (inX7 w h)) hown hK hH.1 5 (cwc5 C A u11) rfl 8 (by decide) (hts _ (uc_in _ q_f95)) (fun _ h9 => h9) rfl dX7_copyFrom_70 ?_
  refine lv_iconst (v := 0) hx hb dX7_copyFrom_73 (by decide) ?_
  refine lv_bipush (v := 6) hx hb dX7_copyFrom_74 (by decide) ?_
  refine r_copyi (j0 := 52) (j1 := 67) (S' := 0) (P' := 0) (N' := 6) hx hb (by rw [hml]; exact hl.1.symm) hown (hts _ (uc_in _ q_m560)) (hts _ (uc_in _ q_t562)) (hts _ (uc_in _ q_s561)) (hts _ (uc_in _ q_i17)) hK hH 52 67 1 (cwc52 C A u11) (cwc67 C A u11) rfl (by decide) (by decide) (by decide) (by decide) (by decide) (by decide) (by decide) (by decide) (cwa67 C A u11) (Nat.le_of_ble_eq_true rfl) (Nat.le_of_ble_eq_true rfl) dX7_copyFrom_76 (fun u12 eu12 H locs hH => ?_)
  have hI := hI.pa0 eu12 (by decide)
  refine lv_aload_n hx hb dX7_copyFrom_79 rfl (lv_at hl 1 rfl) ?_
  refine va_get (ci := 7) (v := .ref (A 53)) (C := RX7) (T := TX7) (N := 16) hx hb hts (fun w h => uc_in w (inX7 w h)) hown hK hH.1 2 (cwc2 C A u12) rfl 9 (by decide) (hts _ (uc_in _ q_f99)) (fun _ h9 => h9) rfl dX7_copyFrom_80 ?_
  refine lv_iconst (v := 0) hx hb dX7_copyFrom_83 (by decide) ?_
  refine lv_aload_n hx hb dX7_copyFrom_84 rfl (lv_at hl 0 rfl) ?_
  refine va_get (ci := 7) (v := .ref (A 68)) (C := RX7) (T := TX7) (N := 16) hx hb hts (fun w h => uc_in w (inX7 w h)) hown hK hH.1 5 (cwc5 C A u12) rfl 9 (by decide) (hts _ (uc_in _ q_f99)) (fun _ h9 => h9) rfl dX7_copyFrom_85 ?_
  refine lv_iconst (v := 0) hx hb dX7_copyFrom_88 (by decide) ?_
  refine lv_bipush (v := 6) hx hb dX7_copyFrom_89 (by decide) ?_
  refine r_copyi (j0 := 53) (j1 := 68) (S' := 0) (P' := 0) (N' := 6) hx hb (by rw [hml]; exact hl.1.symm) hown (hts _ (uc_in _ q_m560)) (hts _ (uc_in _ q_t562)) (hts _ (uc_in _ q_s561)) (hts _ (uc_in _ q_i17)) hK hH 53 68 1 (cwc53 C A u12) (cwc68 C A u12) rfl (by decide) (by decide) (by decide) (by decide) (by decide) (by decide) (by decide) (by decide) (cwa68 C A u12) (Nat.le_of_ble_eq_true rfl) (Nat.le_of_ble_eq_true rfl) dX7_copyFrom_91 (fun u13 eu13 H locs hH => ?_)
  have hI := hI.pa0 eu13 (by decide)
  refine lv_aload_n hx hb dX7_copyFrom_94 rfl (lv_at hl 1 rfl) ?_
  refine va_get (ci := 7) (v := .ref (A 54)) (C := RX7) (T := TX7) (N := 16) hx hb hts (fun w h => uc_in w (inX7 w h)) hown hK hH.1 2 (cwc2 C A u13) rfl 10 (by decide) (hts _ (uc_in _ q_f103)) (fun _ h9 => h9) rfl dX7_copyFrom_95 ?_
  refine lv_iconst (v := 0) hx hb dX7_copyFrom_98 (by decide) ?_
  refine lv_aload_n hx hb dX7_copyFrom_99 rfl (lv_at hl 0 rfl) ?_
  refine va_get (ci := 7) (v := .ref (A 69)) (C := RX7) (T := TX7) (N := 16) hx hb hts (fun w h => uc_in w (inX7 w h)) hown hK hH.1 5 (cwc5 C A u13) rfl 10 (by decide) (hts _ (uc_in _ q_f103)) (fun _ h9 => h9) rfl dX7_copyFrom_100 ?_
  refine lv_iconst (v := 0) hx hb dX7_copyFrom_103 (by decide) ?_
  refine lv_bipush (v := 6) hx hb dX7_copyFrom_104 (by decide) ?_
  refine r_copyi (j0 := 54) (j1 := 69) (S' := 0) (P' := 0) (N' := 6) hx hb (by rw [hml]; exact hl.1.symm) hown (hts _ (uc_in _ q_m560)) (hts _ (uc_in _ q_t562)) (hts _ (uc_in _ q_s561)) (hts _ (uc_in _ q_i17)) hK hH 54 69 1 (cwc54 C A u13) (cwc69 C A u13) rfl (by decide) (by decide) (by decide) (by decide) (by decide) (by decide) (by decide) (by decide) (cwa69 C A u13) (Nat.le_of_ble_eq_true rfl) (Nat.le_of_ble_eq_true rfl) dX7_copyFrom_106 (fun u14 eu14 H locs hH => ?_)
  have hI := hI.pa0 eu14 (by decide)
  refine lv_aload_n hx hb dX7_copyFrom_109 rfl (lv_at hl 1 rfl) ?_
  refine va_get (ci := 7) (v := .ref (A 55)) (C := RX7) (T := TX7) (N := 16) hx hb hts (fun w h => uc_in w (inX7 w h)) hown hK hH.1 2 (cwc2 C A u14) rfl 11 (by decide) (hts _ (uc_in _ q_f107)) (fun _ h9 => h9) rfl dX7_copyFrom_110 ?_
  refine lv_iconst (v := 0) hx hb dX7_copyFrom_113 (by decide) ?_
  refine lv_aload_n hx hb dX7_copyFrom_114 rfl (lv_at hl 0 rfl) ?_
  refine va_get (ci := 7) (v := .ref (A 70)) (C := RX7) (T := TX7) (N := 16) hx hb hts (fun w h => uc_in w (inX7 w h)) hown hK hH.1 5 (cwc5 C A u14) rfl 11 (by decide) (hts _ (uc_in _ q_f107)) (fun _ h9 => h9) rfl dX7_copyFrom_115 ?_
  refine lv_iconst (v := 0) hx hb dX7_copyFrom_118 (by decide) ?_
  refine lv_bipush (v := 6) hx hb dX7_copyFrom_119 (by decide) ?_
  refine r_copyi (j0 := 55) (j1 := 70) (S' := 0) (P' := 0) (N' := 6) hx hb (by rw [hml]; exact hl.1.symm) hown (hts _ (uc_in _ q_m560)) (hts _ (uc_in _ q_t562)) (hts _ (uc_in _ q_s561)) (hts _ (uc_in _ q_i17)) hK hH 55 70 1 (cwc55 C A u14) (cwc70 C A u14) rfl (by decide) (by decide) (by decide) (by decide) (by decide) (by decide) (by decide) (by decide) (cwa70 C A u14) (Nat.le_of_ble_eq_true rfl) (Nat.le_of_ble_eq_true rfl) dX7_copyFrom_121 (fun u15 eu15 H locs hH => ?_)
  have hI := hI.pa0 eu15 (by decide)
  refine lv_aload_n hx hb dX7_copyFrom_124 rfl (lv_at hl 1 rfl) ?_
  refine va_get (ci := 7) (v := .ref (A 56)) (C := RX7) (T := TX7) (N := 16) hx hb hts (fun w h => uc_in w (inX7 w h)) hown hK hH.1 2 (cwc2 C A u15) rfl 12 (by decide) (hts _ (uc_in _ q_f111)) (fun _ h9 => h9) rfl dX7_copyFrom_125 ?_
  refine lv_iconst (v := 0) hx hb dX7_copyFrom_128 (by decide) ?_
  refine lv_aload_n hx hb dX7_copyFrom_129 rfl (lv_at hl 0 rfl) ?_
  refine va_get (ci := 7) (v := .ref (A 71)) (C := RX7) (T := TX7) (N := 16) hx hb hts (fun w h => uc_in w (inX7 w h)) hown hK hH.1 5 (cwc5 C A u15) rfl 12 (by decide) (hts _ (uc_in _ q_f111)) (fun _ h9 => h9) rfl dX7_copyFrom_130 ?_
  refine lv_iconst (v := 0) hx hb dX7_copyFrom_133 (by decide) ?_
  refine lv_bipush (v := 6) hx hb dX7_copyFrom_134 (by decide) ?_
  refine r_copyi (j0 := 56) (j1 := 71) (S' := 0) (P' := 0) (N' := 6) hx hb (by rw [hml]; exact hl.1.symm) hown (hts _ (uc_in _ q_m560)) (hts _ (uc_in _ q_t562)) (hts _ (uc_in _ q_s561)) (hts _ (uc_in _ q_i17)) hK hH 56 71 1 (cwc56 C A u15) (cwc71 C A u15) rfl (by decide) (by decide) (by decide) (by decide) (by decide) (by decide) (by decide) (by decide) (cwa71 C A u15) (Nat.le_of_ble_eq_true rfl) (Nat.le_of_ble_eq_true rfl) dX7_copyFrom_136 (fun u16 eu16 H locs hH => ?_)
  have hI := hI.pa0 eu16 (by decide)
  refine lv_aload_n hx hb dX7_copyFrom_139 rfl (lv_at hl 1 rfl) ?_
  refine va_get (ci := 7) (v := .ref (A 23)) (C := RX7) (T := TX7) (N := 16) hx hb hts (fun w h => uc_in w (inX7 w h)) hown hK hH.1 2 (cwc2 C A u16) rfl 13 (by decide) (hts _ (uc_in _ q_f115)) (fun _ h9 => h9) rfl dX7_copyFrom_140 ?_
  refine lv_iconst (v := 0) hx hb dX7_copyFrom_143 (by decide) ?_
  refine lv_aload_n hx hb dX7_copyFrom_144 rfl (lv_at hl 0 rfl) ?_
  refine va_get (ci := 7) (v := .ref (A 32)) (C := RX7) (T := TX7) (N := 16) hx hb hts (fun w h => uc_in w (inX7 w h)) hown hK hH.1 5 (cwc5 C A u16) rfl 13 (by decide) (hts _ (uc_in _ q_f115)) (fun _ h9 => h9) rfl dX7_copyFrom_145 ?_
  refine lv_iconst (v := 0) hx hb dX7_copyFrom_148 (by decide) ?_
  refine lv_bipush (v := 40) hx hb dX7_copyFrom_149 (by decide) ?_
  refine r_copyi (j0 := 23) (j1 := 32) (S' := 0) (P' := 0) (N' := 40) hx hb (by rw [hml]; exact hl.1.symm) hown (hts _ (uc_in _ q_m560)) (hts _ (uc_in _ q_t562)) (hts _ (uc_in _ q_s561)) (hts _ (uc_in _ q_i17)) hK hH 23 32 1 (cwc23 C A u16) (cwc32 C A u16) rfl (by decide) (by decide) (by decide) (by decide) (by decide) (by decide) (by decide) (by decide) (cwa32 C A u16) (Nat.le_of_ble_eq_true rfl) (Nat.le_of_ble_eq_true rfl) dX7_copyFrom_151 (fun u17 eu17 H locs hH => ?_)
  have hI := hI.pa0 eu17 (by decide)
  refine lv_aload_n hx hb dX7_copyFrom_154 rfl (lv_at hl 1 rfl) ?_
  refine va_get (ci := 7) (v := .ref (A 24)) (C := RX7) (T := TX7) (N := 16) hx hb hts (fun w h => uc_in w (inX7 w h)) hown hK hH.1 2 (cwc2 C A u17) rfl 14 (by decide) (hts _ (uc_in _ q_f116)) (fun _ h9 => h9) rfl dX7_copyFrom_155 ?_
  refine lv_iconst (v := 0) hx hb dX7_copyFrom_158 (by decide) ?_
  refine lv_aload_n hx hb dX7_copyFrom_159 rfl (lv_at hl 0 rfl) ?_
  refine va_get (ci := 7) (v := .ref (A 33)) (C := RX7) (T := TX7) (N := 16) hx hb hts (fun w h => uc_in w (inX7 w h)) hown hK hH.1 5 (cwc5 C A u17) rfl 14 (by decide) (hts _ (uc_in _ q_f116)) (fun _ h9 => h9) rfl dX7_copyFrom_160 ?_
  refine lv_iconst (v := 0) hx hb dX7_copyFrom_163 (by decide) ?_
  refine lv_bipush (v := 40) hx hb dX7_copyFrom_164 (by decide) ?_
  refine r_copyi (j0 := 24) (j1 := 33) (S' := 0) (P' := 0) (N' := 40) hx hb (by rw [hml]; exact hl.1.symm) hown (hts _ (uc_in _ q_m560)) (hts _ (uc_in _ q_t562)) (hts _ (uc_in _ q_s561)) (hts _ (uc_in _ q_i17)) hK hH 24 33 1 (cwc24 C A u17) (cwc33 C A u17) rfl (by decide) (by decide) (by decide) (by decide) (by decide) (by decide) (by decide) (by decide) (cwa33 C A u17) (Nat.le_of_ble_eq_true rfl) (Nat.le_of_ble_eq_true rfl) dX7_copyFrom_166 (fun u18 eu18 H locs hH => ?_)
  have hI := hI.pa0 eu18 (by decide)
  refine lv_aload_n hx hb dX7_copyFrom_169 rfl (lv_at hl 1 rfl) ?_
  refine va_get (ci := 7) (v := .ref (A 25)) (C := RX7) (T := TX7) (N := 16) hx hb hts (fun w h => uc_in w (inX7 w h)) hown hK hH.1 2 (cwc2 C A u18) rfl 15 (by decide) (hts _ (uc_in _ q_f117)) (fun _ h9 => h9) rfl dX7_copyFrom_170 ?_
  refine lv_iconst (v := 0) hx hb dX7_copyFrom_173 (by decide) ?_
  refine lv_aload_n hx hb dX7_copyFrom_174 rfl (lv_at hl 0 rfl) ?_
  refine va_get (ci := 7) (v := .ref (A 34)) (C := RX7) (T := TX7) (N := 16) hx hb hts (fun w h => uc_in w (inX7 w h)) hown hK hH.1 5 (cwc5 C A u18) rfl 15 (by decide) (hts _ (uc_in _ q_f117)) (fun _ h9 => h9) rfl dX7_copyFrom_175 ?_
  refine lv_iconst (v := 0) hx hb dX7_copyFrom_178 (by decide) ?_
  refine lv_bipush (v := 40) hx hb dX7_copyFrom_179 (by decide) ?_
  refine r_copyi (j0 := 25) (j1 := 34) (S' := 0) (P' := 0) (N' := 40) hx hb (by rw [hml]; exact hl.1.symm) hown (hts _ (uc_in _ q_m560)) (hts _ (uc_in _ q_t562)) (hts _ (uc_in _ q_s561)) (hts _ (uc_in _ q_i17)) hK hH 25 34 1 (cwc25 C A u18) (cwc34 C A u18) rfl (by decide) (by decide) (by decide) (by decide) (by decide) (by decide) (by decide) (by decide) (cwa34 C A u18) (Nat.le_of_ble_eq_true rfl) (Nat.le_of_ble_eq_true rfl) dX7_copyFrom_181 (fun u19 eu19 H locs hH => ?_)
  have hI := hI.pa0 eu19 (by decide)
  exact hret _ _ _ _ _ dX7_copyFrom_184 ⟨hI, (Un.sa (Un.sa (Un.sa (Un.sa (Un.sa (Un.sa (Un.sa (Un.sa (Un.si (Un.si (Un.si (Un.si (Un.si (Un.si (Un.si (Un.si Un.rf rfl eu1) rfl eu3) rfl eu4) rfl eu5) rfl eu7) rfl eu8) rfl eu9) rfl eu11) rfl eu12) rfl eu13) rfl eu14) rfl eu15) rfl eu16) rfl eu17) rfl eu18) rfl eu19), trivial⟩ hH
set_option maxHeartbeats 4000000 in
set_option maxRecDepth 100000 in
theorem kX7_copyFrom_5 (l : Launch) (D : va_G) (C : Nat → ClassId) (A : Nat → Nat) (u : St) (hI : IC u) (sz : Nat) : MetV l yX7_copyFrom cX7_copyFrom 2 2 [.ref (A 6), .ref (A 2)] D (tyl C) (cw C A) X0 u sz (fun u' => IC u' ∧ Un [(40, 40), (41, 41), (42, 42), (43, 43), (44, 44), (45, 45), (46, 46), (47, 47)] [(35, 35), (36, 36), (37, 37), (72, 72), (73, 73), (74, 74), (75, 75), (76, 76)] [] u u' ∧ True) := by
  refine mV (by decide) (Nat.le_of_ble_eq_true rfl) ?_
  intro p e s m below meth c ls ar Q hx hb hml hown hts hK hH hX hl hret
  have hown : s.vm.findClass RX7 = some m.cls := hown
  have hl : lv_has ls 2 [(0, .ref (A 6)), (1, .ref (A 2))] := hl
  refine lv_aload_n hx hb dX7_copyFrom_0 rfl (lv_at hl 0 rfl) ?_
  refine lv_aload_n hx hb dX7_copyFrom_1 rfl (lv_at hl 1 rfl) ?_
  refine va_get (ci := 7) (v := .int (gi u 8)) (C := RX7) (T := TX7) (N := 16) hx hb hts (fun w h => uc_in w (inX7 w h)) hown hK hH.1 2 (cwc2 C A u) rfl 0 (by decide) (hts _ (uc_in _ q_f68)) (fun _ h9 => h9) rfl dX7_copyFrom_2 ?_
  refine r_put (j := 40) (ci := 7) (C := RX7) (T := TX7) (N := 16) hx hb hts (fun w h => uc_in w (inX7 w h)) tyX7 tyX7_ok nmX7 hown hK hH 6 (cwc6 C A u) rfl 0 (by decide) (hts _ (uc_in _ q_f68)) (fun _ h9 => h9) rfl (by decide +kernel) (Nat.le_of_ble_eq_true rfl) (cws40 C A u _) dX7_copyFrom_5 (fun u1 eu1 H locs hH => ?_)
  have hI := hI.pi0 eu1 rfl (by decide) (by decide)
  refine lv_aload_n hx hb dX7_copyFrom_8 rfl (lv_at hl 0 rfl) ?_
  refine lv_aload_n hx hb dX7_copyFrom_9 rfl (lv_at hl 1 rfl) ?_
  refine va_get (ci := 7) (v := .int (gi u1 9)) (C := RX7) (T := TX7) (N := 16) hx hb hts (fun w h => uc_in w (inX7 w h)) hown hK hH.1 2 (cwc2 C A u1) rfl 1 (by decide) (hts _ (uc_in _ q_f72)) (fun _ h9 => h9) rfl dX7_copyFrom_10 ?_
  have b2 := hI.b9
  refine r_put (j := 41) (ci := 7) (C := RX7) (T := TX7) (N := 16) hx hb hts (fun w h => uc_in w (inX7 w h)) tyX7 tyX7_ok nmX7 hown hK hH 6 (cwc6 C A u1) rfl 1 (by decide) (hts _ (uc_in _ q_f72)) (fun _ h9 => h9) rfl (by decide +kernel) (Nat.le_of_ble_eq_true rfl) (cws41 C A u1 _) dX7_copyFrom_13 (fun u3 eu3 H locs hH => ?_)
  have hI := hI.s41 eu3 rfl (by omega) (by omega)
  refine lv_aload_n hx hb dX7_copyFrom_16 rfl (lv_at hl 0 rfl) ?_
  refine lv_aload_n hx hb dX7_copyFrom_17 rfl (lv_at hl 1 rfl) ?_
  refine va_get (ci := 7) (v := .int (gi u3 10)) (C := RX7) (T := TX7) (N := 16) hx hb hts (fun w h => uc_in w (inX7 w h)) hown hK hH.1 2 (cwc2 C A u3) rfl 2 (by decide) (hts _ (uc_in _ q_f75)) (fun _ h9 => h9) rfl dX7_copyFrom_18 ?_
  refine r_put (j := 42) (ci := 7) (C := RX7) (T := TX7) (N := 16) hx hb hts (fun w h => uc_in w (inX7 w h)) tyX7 tyX7_ok nmX7 hown hK hH 6 (cwc6 C A u3) rfl 2 (by decide) (hts _ (uc_in _ q_f75)) (fun _ h9 => h9) rfl (by decide +kernel) (Nat.le_of_ble_eq_true rfl) (cws42 C A u3 _) dX7_copyFrom_21 (fun u4 eu4 H locs hH => ?_)
  have hI := hI.pi0 eu4 rfl (by decide) (by decide)
  refine lv_aload_n hx hb dX7_copyFrom_24 rfl (lv_at hl 0 rfl) ?_
  refine lv_aload_n hx hb dX7_copyFrom_25 rfl (lv_at hl 1 rfl) ?_
  refine va_get (ci := 7) (v := .int (gi u4 11)) (C := RX7) (T := TX7) (N := 16) hx hb hts (fun w h => uc_in w (inX7 w h)) hown hK hH.1 2 (cwc2 C A u4) rfl 3 (by decide) (hts _ (uc_in _ q_f78)) (fun _ h9 => h9) rfl dX7_copyFrom_26 ?_
  refine r_put (j := 43) (ci := 7) (C := RX7) (T := TX7) (N := 16) hx hb hts (fun w h => uc_in w (inX7 w h)) tyX7 tyX7_ok nmX7 hown hK hH 6 (cwc6 C A u4) rfl 3 (by decide) (hts _ (uc_in _ q_f78)) (fun _ h9 => h9) rfl (by decide +kernel) (Nat.le_of_ble_eq_true rfl) (cws43 C A u4 _) dX7_copyFrom_29 (fun u5 eu5 H locs hH => ?_)
  have hI := hI.pi0 eu5 rfl (by decide) (by decide)
  refine lv_aload_n hx hb dX7_copyFrom_32 rfl (lv_at hl 0 rfl) ?_
  refine lv_aload_n hx hb dX7_copyFrom_33 rfl (lv_at hl 1 rfl) ?_
  refine va_get (ci := 7) (v := .int (gi u5 12)) (C := RX7) (T := TX7) (N := 16) hx hb hts (fun w h => uc_in w (inX7 w h)) hown hK hH.1 2 (cwc2 C A u5) rfl 4 (by decide) (hts _ (uc_in _ q_f82)) (fun _ h9 => h9) rfl dX7_copyFrom_34 ?_
  have b6 := hI.b12
  refine r_put (j := 44) (ci := 7) (C := RX7) (T := TX7) (N := 16) hx hb hts (fun w h => uc_in w (inX7 w h)) tyX7 tyX7_ok nmX7 hown hK hH 6 (cwc6 C A u5) rfl 4 (by decide) (hts _ (uc_in _ q_f82)) (fun _ h9 => h9) rfl (by decide +kernel) (Nat.le_of_ble_eq_true rfl) (cws44 C A u5 _) dX7_copyFrom_37 (fun u7 eu7 H locs hH => ?_)
  have hI := hI.s44 eu7 rfl (by omega) (by omega)
  refine lv_aload_n hx hb dX7_copyFrom_40 rfl (lv_at hl 0 rfl) ?_
  refine lv_aload_n hx hb dX7_copyFrom_41 rfl (lv_at hl 1 rfl) ?_
  refine va_get (ci := 7) (v := .int (gi u7 13)) (C := RX7) (T := TX7) (N := 16) hx hb hts (fun w h => uc_in w (inX7 w h)) hown hK hH.1 2 (cwc2 C A u7) rfl 5 (by decide) (hts _ (uc_in _ q_f85)) (fun _ h9 => h9) rfl dX7_copyFrom_42 ?_
  refine r_put (j := 45) (ci := 7) (C := RX7) (T := TX7) (N := 16) hx hb hts (fun w h => uc_in w (inX7 w h)) tyX7 tyX7_ok nmX7 hown hK hH 6 (cwc6 C A u7) rfl 5 (by decide) (hts _ (uc_in _ q_f85)) (fun _ h9 => h9) rfl (by decide +kernel) (Nat.le_of_ble_eq_true rfl) (cws45 C A u7 _) dX7_copyFrom_45 (fun u8 eu8 H locs hH => ?_)
  have hI := hI.pi0 eu8 rfl (by decide) (by decide)
  refine lv_aload_n hx hb dX7_copyFrom_48 rfl (lv_at hl 0 rfl) ?_
  refine lv_aload_n hx hb dX7_copyFrom_49 rfl (lv_at hl 1 rfl) ?_
  refine va_get (ci := 7) (v := .int (gi u8 14)) (C := RX7) (T := TX7) (N := 16) hx hb hts (fun w h => uc_in w (inX7 w h)) hown hK hH.1 2 (cwc2 C A u8) rfl 6 (by decide) (hts _ (uc_in _ q_f88)) (fun _ h9 => h9) rfl dX7_copyFrom_50 ?_
  refine r_put (j := 46) (ci := 7) (C := RX7) (T := TX7) (N := 16) hx hb hts (fun w h => uc_in w (inX7 w h)) tyX7 tyX7_ok nmX7 hown hK hH 6 (cwc6 C A u8) rfl 6 (by decide) (hts _ (uc_in _ q_f88)) (fun _ h9 => h9) rfl (by decide +kernel) (Nat.le_of_ble_eq_true rfl) (cws46 C A u8 _) dX7_copyFrom_53 (fun u9 eu9 H locs hH => ?_)
  have hI := hI.pi0 eu9 rfl (by decide) (by decide)
  refine lv_aload_n hx hb dX7_copyFrom_56 rfl (lv_at hl 0 rfl) ?_
  refine lv_aload_n hx hb dX7_copyFrom_57 rfl (lv_at hl 1 rfl) ?_
  refine va_get (ci := 7) (v := .int (gi u9 15)) (C := RX7) (T := TX7) (N := 16) hx hb hts (fun w h => uc_in w (inX7 w h)) hown hK hH.1 2 (cwc2 C A u9) rfl 7 (by decide) (hts _ (uc_in _ q_f92)) (fun _ h9 => h9) rfl dX7_copyFrom_58 ?_
  have b10 := hI.b15
  refine r_put (j := 47) (ci := 7) (C := RX7) (T := TX7) (N := 16) hx hb hts (fun w h => uc_in w (inX7 w h)) tyX7 tyX7_ok nmX7 hown hK hH 6 (cwc6 C A u9) rfl 7 (by decide) (hts _ (uc_in _ q_f92)) (fun _ h9 => h9) rfl (by decide +kernel) (Nat.le_of_ble_eq_true rfl) (cws47 C A u9 _) dX7_copyFrom_61 (fun u11 eu11 H locs hH => ?_)
  have hI := hI.s47 eu11 rfl (by omega) (by omega)
  refine lv_aload_n hx hb dX7_copyFrom_64 rfl (lv_at hl 1 rfl) ?_
  refine va_get (ci := 7) (v := .ref (A 52)) (C := RX7) (T := TX7) (N := 16) hx hb hts (fun w h => uc_in w (inX7 w h)) hown hK hH.1 2 (cwc2 C A u11) rfl 8 (by decide) (hts _ (uc_in _ q_f95)) (fun _ h9 => h9) rfl dX7_copyFrom_65 ?_
  refine lv_iconst (v := 0) hx hb dX7_copyFrom_68 (by decide) ?_
  refine lv_aload_n hx hb dX7_copyFrom_69 rfl (lv_at hl 0 rfl) ?_
  refine va_get (ci := 7) (v := .ref (A 72)) (C := RX7) (T := TX7) (N := 16) hx hb hts (fun w h => uc_in w (inX7 w h)) hown hK hH.1 6 (cwc6 C A u11) rfl 8 (by decide) (hts _ (uc_in _ q_f95)) (fun _ h9 => h9) rfl dX7_copyFrom_70 ?_
  refine lv_iconst (v := 0) hx hb dX7_copyFrom_73 (by decide) ?_
  refine lv_bipush (v := 6) hx hb dX7_copyFrom_74 (by decide) ?_
  refine r_copyi (j0 := 52) (j1 := 72) (S' := 0) (P' := 0) (N' := 6) hx hb (by rw [hml]; exact hl.1.symm) hown (hts _ (uc_in _ q_m560)) (hts _ (uc_in _ q_t562)) (hts _ (uc_in _ q_s561)) (hts _ (uc_in _ q_i17)) hK hH 52 72 1 (cwc52 C A u11) (cwc72 C A u11) rfl (by decide) (by decide) (by decide) (by decide) (by decide) (by decide) (by decide) (by decide) (cwa72 C A u11) (Nat.le_of_ble_eq_true rfl) (Nat.le_of_ble_eq_true rfl) dX7_copyFrom_76 (fun u12 eu12 H locs hH => ?_)
  have hI := hI.pa0 eu12 (by decide)
  refine lv_aload_n hx hb dX7_copyFrom_79 rfl (lv_at hl 1 rfl) ?_
  refine va_get (ci := 7) (v := .ref (A 53)) (C := RX7) (T := TX7) (N := 16) hx hb hts (fun w h => uc_in w (inX7 w h)) hown hK hH.1 2 (cwc2 C A u12) rfl 9 (by decide) (hts _ (uc_in _ q_f99)) (fun _ h9 => h9) rfl dX7_copyFrom_80 ?_
  refine lv_iconst (v := 0) hx hb dX7_copyFrom_83 (by decide) ?_
  refine lv_aload_n hx hb dX7_copyFrom_84 rfl (lv_at hl 0 rfl) ?_
  refine va_get (ci := 7) (v := .ref (A 73)) (C := RX7) (T := TX7) (N := 16) hx hb hts (fun w h => uc_in w (inX7 w h)) hown hK hH.1 6 (cwc6 C A u12) rfl 9 (by decide) (hts _ (uc_in _ q_f99)) (fun _ h9 => h9) rfl dX7_copyFrom_85 ?_
  refine lv_iconst (v := 0) hx hb dX7_copyFrom_88 (by decide) ?_
  refine lv_bipush (v := 6) hx hb dX7_copyFrom_89 (by decide) ?_
  refine r_copyi (j0 := 53) (j1 := 73) (S' := 0) (P' := 0) (N' := 6) hx hb (by rw [hml]; exact hl.1.symm) hown (hts _ (uc_in _ q_m560)) (hts _ (uc_in _ q_t562)) (hts _ (uc_in _ q_s561)) (hts _ (uc_in _ q_i17)) hK hH 53 73 1 (cwc53 C A u12) (cwc73 C A u12) rfl (by decide) (by decide) (by decide) (by decide) (by decide) (by decide) (by decide) (by decide) (cwa73 C A u12) (Nat.le_of_ble_eq_true rfl) (Nat.le_of_ble_eq_true rfl) dX7_copyFrom_91 (fun u13 eu13 H locs hH => ?_)
  have hI := hI.pa0 eu13 (by decide)
  refine lv_aload_n hx hb dX7_copyFrom_94 rfl (lv_at hl 1 rfl) ?_
  refine va_get (ci := 7) (v := .ref (A 54)) (C := RX7) (T := TX7) (N := 16) hx hb hts (fun w h => uc_in w (inX7 w h)) hown hK hH.1 2 (cwc2 C A u13) rfl 10 (by decide) (hts _ (uc_in _ q_f103)) (fun _ h9 => h9) rfl dX7_copyFrom_95 ?_
  refine lv_iconst (v := 0) hx hb dX7_copyFrom_98 (by decide) ?_
  refine lv_aload_n hx hb dX7_copyFrom_99 rfl (lv_at hl 0 rfl) ?_
  refine va_get (ci := 7) (v := .ref (A 74)) (C := RX7) (T := TX7) (N := 16) hx hb hts (fun w h => uc_in w (inX7 w h)) hown hK hH.1 6 (cwc6 C A u13) rfl 10 (by decide) (hts _ (uc_in _ q_f103)) (fun _ h9 => h9) rfl dX7_copyFrom_100 ?_
  refine lv_iconst (v := 0) hx hb dX7_copyFrom_103 (by decide) ?_
  refine lv_bipush (v := 6) hx hb dX7_copyFrom_104 (by decide) ?_
  refine r_copyi (j0 := 54) (j1 := 74) (S' := 0) (P' := 0) (N' := 6) hx hb (by rw [hml]; exact hl.1.symm) hown (hts _ (uc_in _ q_m560)) (hts _ (uc_in _ q_t562)) (hts _ (uc_in _ q_s561)) (hts _ (uc_in _ q_i17)) hK hH 54 74 1 (cwc54 C A u13) (cwc74 C A u13) rfl (by decide) (by decide) (by decide) (by decide) (by decide) (by decide) (by decide) (by decide) (cwa74 C A u13) (Nat.le_of_ble_eq_true rfl) (Nat.le_of_ble_eq_true rfl) dX7_copyFrom_106 (fun u14 eu14 H locs hH => ?_)
  have hI := hI.pa0 eu14 (by decide)
  refine lv_aload_n hx hb dX7_copyFrom_109 rfl (lv_at hl 1 rfl) ?_
  refine va_get (ci := 7) (v := .ref (A 55)) (C := RX7) (T := TX7) (N := 16) hx hb hts (fun w h => uc_in w (inX7 w h)) hown hK hH.1 2 (cwc2 C A u14) rfl 11 (by decide) (hts _ (uc_in _ q_f107)) (fun _ h9 => h9) rfl dX7_copyFrom_110 ?_
  refine lv_iconst (v := 0) hx hb dX7_copyFrom_113 (by decide) ?_
  refine lv_aload_n hx hb dX7_copyFrom_114 rfl (lv_at hl 0 rfl) ?_
  refine va_get (ci := 7) (v := .ref (A 75)) (C := RX7) (T := TX7) (N := 16) hx hb hts (fun w h => uc_in w (inX7 w h)) hown hK hH.1 6 (cwc6 C A u14) rfl 11 (by decide) (hts _ (uc_in _ q_f107)) (fun _ h9 => h9) rfl dX7_copyFrom_115 ?_
  refine lv_iconst (v := 0) hx hb dX7_copyFrom_118 (by decide) ?_
  refine lv_bipush (v := 6) hx hb dX7_copyFrom_119 (by decide) ?_
  refine r_copyi (j0 := 55) (j1 := 75) (S' := 0) (P' := 0) (N' := 6) hx hb (by rw [hml]; exact hl.1.symm) hown (hts _ (uc_in _ q_m560)) (hts _ (uc_in _ q_t562)) (hts _ (uc_in _ q_s561)) (hts _ (uc_in _ q_i17)) hK hH 55 75 1 (cwc55 C A u14) (cwc75 C A u14) rfl (by decide) (by decide) (by decide) (by decide) (by decide) (by decide) (by decide) (by decide) (cwa75 C A u14) (Nat.le_of_ble_eq_true rfl) (Nat.le_of_ble_eq_true rfl) dX7_copyFrom_121 (fun u15 eu15 H locs hH => ?_)
  have hI := hI.pa0 eu15 (by decide)
  refine lv_aload_n hx hb dX7_copyFrom_124 rfl (lv_at hl 1 rfl) ?_
  refine va_get (ci := 7) (v := .ref (A 56)) (C := RX7) (T := TX7) (N := 16) hx hb hts (fun w h => uc_in w (inX7 w h)) hown hK hH.1 2 (cwc2 C A u15) rfl 12 (by decide) (hts _ (uc_in _ q_f111)) (fun _ h9 => h9) rfl dX7_copyFrom_125 ?_
  refine lv_iconst (v := 0) hx hb dX7_copyFrom_128 (by decide) ?_
  refine lv_aload_n hx hb dX7_copyFrom_129 rfl (lv_at hl 0 rfl) ?_
  refine va_get (ci := 7) (v := .ref (A 76)) (C := RX7) (T := TX7) (N := 16) hx hb hts (fun w h => uc_in w (inX7 w h)) hown hK hH.1 6 (cwc6 C A u15) rfl 12 (by decide) (hts _ (uc_in _ q_f111)) (fun _ h9 => h9) rfl dX7_copyFrom_130 ?_
  refine lv_iconst (v := 0) hx hb dX7_copyFrom_133 (by decide) ?_
  refine lv_bipush (v := 6) hx hb dX7_copyFrom_134 (by decide) ?_
  refine r_copyi (j0 := 56) (j1 := 76) (S' := 0) (P' := 0) (N' := 6) hx hb (by rw [hml]; exact hl.1.symm) hown (hts _ (uc_in _ q_m560)) (hts _ (uc_in _ q_t562)) (hts _ (uc_in _ q_s561)) (hts _ (uc_in _ q_i17)) hK hH 56 76 1 (cwc56 C A u15) (cwc76 C A u15) rfl (by decide) (by decide) (by decide) (by decide) (by decide) (by decide) (by decide) (by decide) (cwa76 C A u15) (Nat.le_of_ble_eq_true rfl) (Nat.le_of_ble_eq_true rfl) dX7_copyFrom_136 (fun u16 eu16 H locs hH => ?_)
  have hI := hI.pa0 eu16 (by decide)
  refine lv_aload_n hx hb dX7_copyFrom_139 rfl (lv_at hl 1 rfl) ?_
  refine va_get (ci := 7) (v := .ref (A 23)) (C := RX7) (T := TX7) (N := 16) hx hb hts (fun w h => uc_in w (inX7 w h)) hown hK hH.1 2 (cwc2 C A u16) rfl 13 (by decide) (hts _ (uc_in _ q_f115)) (fun _ h9 => h9) rfl dX7_copyFrom_140 ?_
  refine lv_iconst (v := 0) hx hb dX7_copyFrom_143 (by decide) ?_
  refine lv_aload_n hx hb dX7_copyFrom_144 rfl (lv_at hl 0 rfl) ?_
  refine va_get (ci := 7) (v := .ref (A 35)) (C := RX7) (T := TX7) (N := 16) hx hb hts (fun w h => uc_in w (inX7 w h)) hown hK hH.1 6 (cwc6 C A u16) rfl 13 (by decide) (hts _ (uc_in _ q_f115)) (fun _ h9 => h9) rfl dX7_copyFrom_145 ?_
  refine lv_iconst (v := 0) hx hb dX7_copyFrom_148 (by decide) ?_
  refine lv_bipush (v := 40) hx hb dX7_copyFrom_149 (by decide) ?_
  refine r_copyi (j0 := 23) (j1 := 35) (S' := 0) (P' := 0) (N' := 40) hx hb (by rw [hml]; exact hl.1.symm) hown (hts _ (uc_in _ q_m560)) (hts _ (uc_in _ q_t562)) (hts _ (uc_in _ q_s561)) (hts _ (uc_in _ q_i17)) hK hH 23 35 1 (cwc23 C A u16) (cwc35 C A u16) rfl (by decide) (by decide) (by decide) (by decide) (by decide) (by decide) (by decide) (by decide) (cwa35 C A u16) (Nat.le_of_ble_eq_true rfl) (Nat.le_of_ble_eq_true rfl) dX7_copyFrom_151 (fun u17 eu17 H locs hH => ?_)
  have hI := hI.pa0 eu17 (by decide)
  refine lv_aload_n hx hb dX7_copyFrom_154 rfl (lv_at hl 1 rfl) ?_
  refine va_get (ci := 7) (v := .ref (A 24)) (C := RX7) (T := TX7) (N := 16) hx hb hts (fun w h => uc_in w (inX7 w h)) hown hK hH.1 2 (cwc2 C A u17) rfl 14 (by decide) (hts _ (uc_in _ q_f116)) (fun _ h9 => h9) rfl dX7_copyFrom_155 ?_
  refine lv_iconst (v := 0) hx hb dX7_copyFrom_158 (by decide) ?_
  refine lv_aload_n hx hb dX7_copyFrom_159 rfl (lv_at hl 0 rfl) ?_
  refine va_get (ci := 7) (v := .ref (A 36)) (C := RX7) (T := TX7) (N := 16) hx hb hts (fun w h => uc_in w (inX7 w h)) hown hK hH.1 6 (cwc6 C A u17) rfl 14 (by decide) (hts _ (uc_in _ q_f116)) (fun _ h9 => h9) rfl dX7_copyFrom_160 ?_
  refine lv_iconst (v := 0) hx hb dX7_copyFrom_163 (by decide) ?_
  refine lv_bipush (v := 40) hx hb dX7_copyFrom_164 (by decide) ?_
  refine r_copyi (j0 := 24) (j1 := 36) (S' := 0) (P' := 0) (N' := 40) hx hb (by rw [hml]; exact hl.1.symm) hown (hts _ (uc_in _ q_m560)) (hts _ (uc_in _ q_t562)) (hts _ (uc_in _ q_s561)) (hts _ (uc_in _ q_i17)) hK hH 24 36 1 (cwc24 C A u17) (cwc36 C A u17) rfl (by decide) (by decide) (by decide) (by decide) (by decide) (by decide) (by decide) (by decide) (cwa36 C A u17) (Nat.le_of_ble_eq_true rfl) (Nat.le_of_ble_eq_true rfl) dX7_copyFrom_166 (fun u18 eu18 H locs hH => ?_)
  have hI := hI.pa0 eu18 (by decide)
  refine lv_aload_n hx hb dX7_copyFrom_169 rfl (lv_at hl 1 rfl) ?_
  refine va_get (ci := 7) (v := .ref (A 25)) (C := RX7) (T := TX7) (N := 16) hx hb hts (fun w h => uc_in w (inX7 w h)) hown hK hH.1 2 (cwc2 C A u18) rfl 15 (by decide) (hts _ (uc_in _ q_f117)) (fun _ h9 => h9) rfl dX7_copyFrom_170 ?_
  refine lv_iconst (v := 0) hx hb dX7_copyFrom_173 (by decide) ?_
  refine lv_aload_n hx hb dX7_copyFrom_174 rfl (lv_at hl 0 rfl) ?_
  refine va_get (ci := 7) (v := .ref (A 37)) (C := RX7) (T := TX7) (N := 16) hx hb hts (fun w h => uc_in w (inX7 w h)) hown hK hH.1 6 (cwc6 C A u18) rfl 15 (by decide) (hts _ (uc_in _ q_f117)) (fun _ h9 => h9) rfl dX7_copyFrom_175 ?_
  refine lv_iconst (v := 0) hx hb dX7_copyFrom_178 (by decide) ?_
  refine lv_bipush (v := 40) hx hb dX7_copyFrom_179 (by decide) ?_
  refine r_copyi (j0 := 25) (j1 := 37) (S' := 0) (P' := 0) (N' := 40) hx hb (by rw [hml]; exact hl.1.symm) hown (hts _ (uc_in _ q_m560)) (hts _ (uc_in _ q_t562)) (hts _ (uc_in _ q_s561)) (hts _ (uc_in _ q_i17)) hK hH 25 37 1 (cwc25 C A u18) (cwc37 C A u18) rfl (by decide) (by decide) (by decide) (by decide) (by decide) (by decide) (by decide) (by decide) (cwa37 C A u18) (Nat.le_of_ble_eq_true rfl) (Nat.le_of_ble_eq_true rfl) dX7_copyFrom_181 (fun u19 eu19 H locs hH => ?_)
  have hI := hI.pa0 eu19 (by decide)
  exact hret _ _ _ _ _ dX7_copyFrom_184 ⟨hI, (Un.sa (Un.sa (Un.sa (Un.sa (Un.sa (Un.sa (Un.sa (Un.sa (Un.si (Un.si (Un.si (Un.si (Un.si (Un.si (Un.si (Un.si Un.rf rfl eu1) rfl eu3) rfl eu4) rfl eu5) rfl eu7) rfl eu8) rfl eu9) rfl eu11) rfl eu12) rfl eu13) rfl eu14) rfl eu15) rfl eu16) rfl eu17) rfl eu18) rfl eu19), trivial⟩ hH
set_option maxHeartbeats 4000000 in
set_option maxRecDepth 100000 in
theorem kX9_image_0 (l : Launch) (D : va_G) (C : Nat → ClassId) (A : Nat → Nat) (u : St) (hI : IC u) (a0 : Int32) (A0 : Int) (ha0 : a0.toInt = A0) (sz : Nat) : MetI l yX9_image cX9_image 2 (some .int) 3 [.ref (A 0), .int a0] D (tyl C) (cw C A) X0 u sz (fun r u' => IC u' ∧ Un [(0, 0), (24, 24), (25, 25), (26, 26), (27, 27), (28, 28), (29, 29), (30, 30), (31, 31), (32, 32), (33, 33), (34, 34), (35, 35), (36, 36), (37, 37), (38, 38), (39, 39), (40, 40), (41, 41), (42, 42), (43, 43), (44, 44), (45, 45), (46, 46), (47, 47)] [(29, 29), (30, 30), (31, 31), (32, 32), (33, 33), (34, 34), (35, 35), (36, 36), (37, 37), (62, 62), (63, 63), (64, 64), (65, 65), (66, 66), (67, 67), (68, 68), (69, 69), (70, 70), (71, 71), (72, 72), (73, 73), (74, 74), (75, 75), (76, 76)] [] u u' ∧ ((r = 0 ∧ (0 ≤ A0 ∧ A0 ≤ 2)) ∨ (r = (-2) ∧ (¬ (0 ≤ A0 ∧ A0 ≤ 2))))) := by
  refine mI (by decide) (Nat.le_of_ble_eq_true rfl) ?_
  intro p e s m below meth c ls ar Q hx hb hml hown hts hK hH hX hl hret
  have hown : s.vm.findClass RX9 = some m.cls := hown
  have hl : lv_has ls 2 [(0, .ref (A 0)), (1, .int a0)] := hl
  refine lv_iload_n hx hb dX9_image_0 rfl (lv_at hl 1 rfl) ?_
  refine lv_iconst (v := 0) hx hb dX9_image_1 (by decide) ?_
  refine lv_iconst (v := 2) hx hb dX9_image_2 (by decide) ?_
  refine csS (n := 3) (As := [.int a0, .int 0, .int 2]) (rest := []) ⟨hx, hb, hml, hown, hts⟩ uc_in (kX9_isWithin_0 l D C A u hI a0 A0 ha0 (0) 0 (by decide) (2) 2 (by decide)) q_m651 q_s652 q_i1 q_c653 hvX9_isWithin ⟨(Nat.le_of_ble_eq_true rfl), (Nat.le_of_ble_eq_true rfl)⟩ ⟨(Nat.le_of_ble_eq_true rfl), (Nat.le_of_ble_eq_true rfl)⟩ hK hH.1 rfl hl.1 rfl (Nat.le_of_ble_eq_true rfl) dX9_image_3 (fun r1 p2 => ?_)
  rcases p2 with ⟨e9, f3, f4⟩ | ⟨e9, fn5⟩
  · subst e9
    refine lv_if_ne (tgt := 12) hx hb dX9_image_6 (by decide) (fun c6 => ?_) (fun c6 => absurd c6 (by decide))
    refine lv_aload_n hx hb dX9_image_12 rfl (lv_at hl 0 rfl) ?_
    refine va_get (ci := 9) (v := .ref (A 17)) (C := RX9) (T := TX9) (N := 12) hx hb hts (fun w h => uc_in w (inX9 w h)) hown hK hH.1 0 (cwc0 C A u) rfl 3 (by decide) (hts _ (uc_in _ q_f386)) (fun _ h9 => h9) rfl dX9_image_13 ?_
    refine lv_iload_n hx hb dX9_image_16 rfl (lv_at hl 1 rfl) ?_
    rcases (show A0 = 0 ∨ A0 = 1 ∨ A0 = 2 by omega) with e9 | e9 | e9
    · have e8 : a0 = 0 := i_lit ha0 (by rw [e9]; decide)
      subst e8
      have q8 : (0 : Int32).toInt = 0 := by decide
      refine r_aald hx hb hK hH.1 17 4 rfl (cwc17 C A u) rfl (i_ix (X := 0) (by decide) (by decide) (by decide)) dX9_image_17 ?_
      refine pv_v (v := .ref (A 4)) rfl ?_
      refine lv_aload_n hx hb dX9_image_18 rfl (lv_at hl 0 rfl) ?_
      refine va_get (ci := 9) (v := .ref (A 2)) (C := RX9) (T := TX9) (N := 12) hx hb hts (fun w h => uc_in w (inX9 w h)) hown hK hH.1 0 (cwc0 C A u) rfl 1 (by decide) (hts _ (uc_in _ q_f384)) (fun _ h9 => h9) rfl dX9_image_19 ?_
      refine cvU (n := 1) (As := [.ref (A 2)]) (rest := []) ⟨hx, hb, hml, hown, hts⟩ uc_in (kX7_copyFrom_3 l D C A u hI  _) q_m556 q_n557 q_e558 q_i3 q_c559 hvX7_copyFrom ⟨(Nat.le_of_ble_eq_true rfl), (Nat.le_of_ble_eq_true rfl)⟩ ⟨(Nat.le_of_ble_eq_true rfl), (Nat.le_of_ble_eq_true rfl)⟩ hK hH (fun q h => Or.inr h) Bl0 (fun _ _ _ => trivial) 7 4 rfl (cwc4 C A u) rfl hl.1 rfl (Nat.le_of_ble_eq_true rfl) dX9_image_22 (fun u7 H locs p9 hH => ?_)
      obtain ⟨hI, hUu7, p9⟩ := p9
      refine lv_aload_n hx hb dX9_image_25 rfl (lv_at hl 0 rfl) ?_
      refine lv_dup hx hb dX9_image_26 rfl ?_
      refine va_get (ci := 9) (v := .int (gi u7 0)) (C := RX9) (T := TX9) (N := 12) hx hb hts (fun w h => uc_in w (inX9 w h)) hown hK hH.1 0 (cwc0 C A u7) rfl 4 (by decide) (hts _ (uc_in _ q_f387)) (fun _ h9 => h9) rfl dX9_image_27 ?_
      refine lv_iconst (v := 1) hx hb dX9_image_30 (by decide) ?_
      refine lv_iload_n hx hb dX9_image_31 rfl (lv_at hl 1 rfl) ?_
      refine lv_ishl hx hb dX9_image_32 ?_
      refine pv_i (v := 1) (by decide) ?_
      refine lv_ior hx hb dX9_image_33 ?_
      refine p_any (fun z10 => ?_)
      refine r_put (j := 0) (ci := 9) (C := RX9) (T := TX9) (N := 12) hx hb hts (fun w h => uc_in w (inX9 w h)) tyX9 tyX9_ok nmX9 hown hK hH 0 (cwc0 C A u7) rfl 4 (by decide) (hts _ (uc_in _ q_f387)) (fun _ h9 => h9) rfl (by decide +kernel) (Nat.le_of_ble_eq_true rfl) (cws0 C A u7 _) dX9_image_34 (fun u11 eu11 H locs hH => ?_)
      have hI := hI.pi0 eu11 rfl (by decide) (by decide)
      refine lv_iconst (v := 0) hx hb dX9_image_37 (by decide) ?_
      exact hret _ _ _ _ (0 : Int32) _ dX9_image_38 rfl ⟨hI, (Un.si (Un.tr Un.rf hUu7 rfl rfl rfl) rfl eu11), (Or.inl ⟨rfl, by omega⟩)⟩ hH
    · have e8 : a0 = 1 := i_lit ha0 (by rw [e9]; decide)
      subst e8
      have q8 : (1 : Int32).toInt = 1 := by decide
      refine r_aald hx hb hK hH.1 17 4 rfl (cwc17 C A u) rfl (i_ix (X := 1) (by decide) (by decide) (by decide)) dX9_image_17 ?_
      refine pv_v (v := .ref (A 5)) rfl ?_
      refine lv_aload_n hx hb dX9_image_18 rfl (lv_at hl 0 rfl) ?_
      refine va_get (ci := 9) (v := .ref (A 2)) (C := RX9) (T := TX9) (N := 12) hx hb hts (fun w h => uc_in w (inX9 w h)) hown hK hH.1 0 (cwc0 C A u) rfl 1 (by decide) (hts _ (uc_in _ q_f384)) (fun _ h9 => h9) rfl dX9_image_19 ?_
      refine cvU (n := 1) (As := [.ref (A 2)]) (rest := []) ⟨hx, hb, hml, hown, hts⟩ uc_in (kX7_copyFrom_4 l D C A u hI  _) q_m556 q_n557 q_e558 q_i3 q_c559 hvX7_copyFrom ⟨(Nat.le_of_ble_eq_true rfl), (Nat.le_of_ble_eq_true rfl)⟩ ⟨(Nat.le_of_ble_eq_true rfl), (Nat.le_of_ble_eq_true rfl)⟩ hK hH (fun q h => Or.inr h) Bl0 (fun _ _ _ => trivial) 7 5 rfl (cwc5 C A u) rfl hl.1 rfl (Nat.le_of_ble_eq_true rfl) dX9_image_22 (fun u12 H locs p14 hH => ?_)
      obtain ⟨hI, hUu12, p14⟩ := p14
      refine lv_aload_n hx hb dX9_image_25 rfl (lv_at hl 0 rfl) ?_
      refine lv_dup hx hb dX9_image_26 rfl ?_
      refine va_get (ci := 9) (v := .int (gi u12 0)) (C := RX9) (T := TX9) (N := 12) hx hb hts (fun w h => uc_in w (inX9 w h)) hown hK hH.1 0 (cwc0 C A u12) rfl 4 (by decide) (hts _ (uc_in _ q_f387)) (fun _ h9 => h9) rfl dX9_image_27 ?_
      refine lv_iconst (v := 1) hx hb dX9_image_30 (by decide) ?_
      refine lv_iload_n hx hb dX9_image_31 rfl (lv_at hl 1 rfl) ?_
      refine lv_ishl hx hb dX9_image_32 ?_
      refine pv_i (v := 2) (by decide) ?_
      refine lv_ior hx hb dX9_image_33 ?_
      refine p_any (fun z15 => ?_)
      refine r_put (j := 0) (ci := 9) (C := RX9) (T := TX9) (N := 12) hx hb hts (fun w h => uc_in w (inX9 w h)) tyX9 tyX9_ok nmX9 hown hK hH 0 (cwc0 C A u12) rfl 4 (by decide) (hts _ (uc_in _ q_f387)) (fun _ h9 => h9) rfl (by decide +kernel) (Nat.le_of_ble_eq_true rfl) (cws0 C A u12 _) dX9_image_34 (fun u16 eu16 H locs hH => ?_)
      have hI := hI.pi0 eu16 rfl (by decide) (by decide)
      refine lv_iconst (v := 0) hx hb dX9_image_37 (by decide) ?_
      exact hret _ _ _ _ (0 : Int32) _ dX9_image_38 rfl ⟨hI, (Un.si (Un.tr Un.rf hUu12 rfl rfl rfl) rfl eu16), (Or.inl ⟨rfl, by omega⟩)⟩ hH
    · have e8 : a0 = 2 := i_lit ha0 (by rw [e9]; decide)
      subst e8
      have q8 : (2 : Int32).toInt = 2 := by decide
      refine r_aald hx hb hK hH.1 17 4 rfl (cwc17 C A u) rfl (i_ix (X := 2) (by decide) (by decide) (by decide)) dX9_image_17 ?_
      refine pv_v (v := .ref (A 6)) rfl ?_
      refine lv_aload_n hx hb dX9_image_18 rfl (lv_at hl 0 rfl) ?_
      refine va_get (ci := 9) (v := .ref (A 2)) (C := RX9) (T := TX9) (N := 12) hx hb hts (fun w h => uc_in w (inX9 w h)) hown hK hH.1 0 (cwc0 C A u) rfl 1 (by decide) (hts _ (uc_in _ q_f384)) (fun _ h9 => h9) rfl dX9_image_19 ?_
      refine cvU (n := 1) (As := [.ref (A 2)]) (rest := []) ⟨hx, hb, hml, hown, hts⟩ uc_in (kX7_copyFrom_5 l D C A u hI  _) q_m556 q_n557 q_e558 q_i3 q_c559 hvX7_copyFrom ⟨(Nat.le_of_ble_eq_true rfl), (Nat.le_of_ble_eq_true rfl)⟩ ⟨(Nat.le_of_ble_eq_true rfl), (Nat.le_of_ble_eq_true rfl)⟩ hK hH (fun q h => Or.inr h) Bl0 (fun _ _ _ => trivial) 7 6 rfl (cwc6 C A u) rfl hl.1 rfl (Nat.le_of_ble_eq_true rfl) dX9_image_22 (fun u17 H locs p19 hH => ?_)
      obtain ⟨hI, hUu17, p19⟩ := p19
      refine lv_aload_n hx hb dX9_image_25 rfl (lv_at hl 0 rfl) ?_
      refine lv_dup hx hb dX9_image_26 rfl ?_
      refine va_get (ci := 9) (v := .int (gi u17 0)) (C := RX9) (T := TX9) (N := 12) hx hb hts (fun w h => uc_in w (inX9 w h)) hown hK hH.1 0 (cwc0 C A u17) rfl 4 (by decide) (hts _ (uc_in _ q_f387)) (fun _ h9 => h9) rfl dX9_image_27 ?_
      refine lv_iconst (v := 1) hx hb dX9_image_30 (by decide) ?_
      refine lv_iload_n hx hb dX9_image_31 rfl (lv_at hl 1 rfl) ?_
      refine lv_ishl hx hb dX9_image_32 ?_
      refine pv_i (v := 4) (by decide) ?_
      refine lv_ior hx hb dX9_image_33 ?_
      refine p_any (fun z20 => ?_)
      refine r_put (j := 0) (ci := 9) (C := RX9) (T := TX9) (N := 12) hx hb hts (fun w h => uc_in w (inX9 w h)) tyX9 tyX9_ok nmX9 hown hK hH 0 (cwc0 C A u17) rfl 4 (by decide) (hts _ (uc_in _ q_f387)) (fun _ h9 => h9) rfl (by decide +kernel) (Nat.le_of_ble_eq_true rfl) (cws0 C A u17 _) dX9_image_34 (fun u21 eu21 H locs hH => ?_)
      have hI := hI.pi0 eu21 rfl (by decide) (by decide)
      refine lv_iconst (v := 0) hx hb dX9_image_37 (by decide) ?_
      exact hret _ _ _ _ (0 : Int32) _ dX9_image_38 rfl ⟨hI, (Un.si (Un.tr Un.rf hUu17 rfl rfl rfl) rfl eu21), (Or.inl ⟨rfl, by omega⟩)⟩ hH
  · subst e9
    refine lv_if_ne (tgt := 12) hx hb dX9_image_6 (by decide) (fun c22 => absurd c22 (by decide)) (fun c22 => ?_)
    refine lv_bipush (v := (-2)) hx hb dX9_image_9 (by decide) ?_
    exact hret _ _ _ _ ((-2) : Int32) _ dX9_image_11 rfl ⟨hI, Un.rf, (Or.inr (⟨rfl, by omega⟩))⟩ hH
set_option maxHeartbeats 4000000 in
set_option maxRecDepth 100000 in
theorem kX9_late_0 (l : Launch) (D : va_G) (C : Nat → ClassId) (A : Nat → Nat) (u : St) (hI : IC u) (a0 : Int32) (A0 : Int) (ha0 : a0.toInt = A0) (a1 : Int32) (A1 : Int) (ha1 : a1.toInt = A1) : Met l yX9_late (uc yX9_late cX9_late 3 (some .int)) (rmL 2 0 0) (va_Pc [.ref (A 0), .int a0, .int a1] (PreR D (tyl C) (cw C A u))) (vp_Si (fun r => True)) 0 0 (fun _ => False) := by
  refine mS (by decide) (Nat.le_of_ble_eq_true rfl) ?_
  intro p e s m below meth c ls ar Q hx hb hml hown hts hK hP hl hret
  have hown : s.vm.findClass RX9 = some m.cls := hown
  have hl : lv_has ls 3 [(0, .ref (A 0)), (1, .int a0), (2, .int a1)] := hl
  refine lv_aload_n hx hb dX9_late_0 rfl (lv_at hl 0 rfl) ?_
  refine lv_iload_n hx hb dX9_late_1 rfl (lv_at hl 1 rfl) ?_
  refine cvS (n := 1) (As := [.int a0]) (rest := []) ⟨hx, hb, hml, hown, hts⟩ uc_in (kX9_isClock_0 l D C A u hI a0 A0 ha0) q_m589 q_n591 q_p11 q_i1 q_c592 hvX9_isClock ⟨(Nat.le_of_ble_eq_true rfl), (Nat.le_of_ble_eq_true rfl)⟩ ⟨(Nat.le_of_ble_eq_true rfl), (Nat.le_of_ble_eq_true rfl)⟩ hK hP 9 0 rfl (cwc0 C A u) rfl hl.1 rfl (Nat.le_of_ble_eq_true rfl) dX9_late_2 (fun r1 p2 => ?_)
  rcases p2 with ⟨e9, f3, f4⟩ | e9
  · subst e9
    have b6 := hI.b49
    refine lv_if_eq (tgt := 30) hx hb dX9_late_5 (by decide) (fun c7 => absurd c7 (by decide)) (fun c7 => ?_)
    refine lv_aload_n hx hb dX9_late_8 rfl (lv_at hl 0 rfl) ?_
    refine lv_iload_n hx hb dX9_late_9 rfl (lv_at hl 2 rfl) ?_
    refine cvS (n := 1) (As := [.int a1]) (rest := []) ⟨hx, hb, hml, hown, hts⟩ uc_in (kX9_isDay_0 l D C A u hI a1 A1 ha1) q_m597 q_n599 q_p12 q_i1 q_c600 hvX9_isDay ⟨(Nat.le_of_ble_eq_true rfl), (Nat.le_of_ble_eq_true rfl)⟩ ⟨(Nat.le_of_ble_eq_true rfl), (Nat.le_of_ble_eq_true rfl)⟩ hK hP 9 0 rfl (cwc0 C A u) rfl hl.1 rfl (Nat.le_of_ble_eq_true rfl) dX9_late_10 (fun r8 p9 => ?_)
    rcases p9 with ⟨e9, f10, f11⟩ | e9
    · subst e9
      have b13 := hI.b48
      refine lv_if_eq (tgt := 30) hx hb dX9_late_13 (by decide) (fun c14 => absurd c14 (by decide)) (fun c14 => ?_)
      refine lv_aload_n hx hb dX9_late_16 rfl (lv_at hl 0 rfl) ?_
      refine va_get (ci := 9) (v := .ref (A 7)) (C := RX9) (T := TX9) (N := 12) hx hb hts (fun w h => uc_in w (inX9 w h)) hown hK hP 0 (cwc0 C A u) rfl 5 (by decide) (hts _ (uc_in _ q_f388)) (fun _ h9 => h9) rfl dX9_late_17 ?_
      refine va_get (ci := 5) (v := .ref (A 19)) (C := RX5) (T := TX5) (N := 4) hx hb hts (fun w h => uc_in w (inX5 w h)) hown hK hP 7 (cwc7 C A u) rfl 2 (by decide) (hts _ (uc_in _ q_f171)) (fun _ h9 => h9) rfl dX9_late_20 ?_
      refine lv_iload_n hx hb dX9_late_23 rfl (lv_at hl 2 rfl) ?_
      refine r_aald hx hb hK hP 19 6 rfl (cwc19 C A u) rfl (i_ix ha1 (by omega) (by omega)) dX9_late_24 ?_
      obtain ⟨k15, hk15, ek15⟩ : ∃ k : Nat, (k : Int) = 32 + A1 ∧ k = 32 + Int32.toNatClampNeg a1 := ⟨_, by have q9 := i_cl (x := a1) (X := A1) ha1 (by omega); omega, rfl⟩
      refine pv_v (v := .ref (A (52 + k15))) (by rw [ek15]; rfl) ?_
      refine lv_iload_n hx hb dX9_late_25 rfl (lv_at hl 1 rfl) ?_
      refine va_iald hx hb hK hP (52 + k15) 1 (cwp C A u k15 (by omega)) rfl (i_ix ha0 (by omega) (by omega)) dX9_late_26 ?_
      refine p_any (fun z16 => ?_)
      refine lv_goto (tgt := 33) hx hb dX9_late_27 (by decide) ?_
      exact hret _ _ z16 dX9_late_33 rfl trivial
    · subst e9
      refine lv_if_eq (tgt := 30) hx hb dX9_late_13 (by decide) (fun c17 => ?_) (fun c17 => absurd c17 (by decide))
      refine lv_sipush (v := (-1000)) hx hb dX9_late_30 (by decide) ?_
      exact hret _ _ ((-1000) : Int32) dX9_late_33 rfl trivial
  · subst e9
    refine lv_if_eq (tgt := 30) hx hb dX9_late_5 (by decide) (fun c18 => ?_) (fun c18 => absurd c18 (by decide))
    refine lv_sipush (v := (-1000)) hx hb dX9_late_30 (by decide) ?_
    exact hret _ _ ((-1000) : Int32) dX9_late_33 rfl trivial
set_option maxHeartbeats 4000000 in
set_option maxRecDepth 100000 in
theorem kX5_rankOf_0 (l : Launch) (D : va_G) (C : Nat → ClassId) (A : Nat → Nat) (u : St) (hI : IC u) (a0 : Int32) (A0 : Int) (ha0 : a0.toInt = A0) (a1 : Int32) (A1 : Int) (ha1 : a1.toInt = A1) (hl0 : 0 ≤ A0) (hm0 : A0 ≤ 5) (hl1 : 0 ≤ A1) (hm1 : A1 ≤ 6) : Met l yX5_rankOf (uc yX5_rankOf cX5_rankOf 6 (some .int)) (rmL 3 0 0) (va_Pc [.ref (A 7), .int a0, .int a1] (PreR D (tyl C) (cw C A u))) (vp_Si (fun r => True)) 0 0 (fun _ => False) := by
  refine mS (by decide) (Nat.le_of_ble_eq_true rfl) ?_
  intro p e s m below meth c ls ar Q hx hb hml hown hts hK hP hl hret
  have hown : s.vm.findClass RX5 = some m.cls := hown
  have hl : lv_has ls 6 [(0, .ref (A 7)), (1, .int a0), (2, .int a1)] := hl
  refine lv_iconst (v := 0) hx hb dX5_rankOf_0 (by decide) ?_
  refine lv_istore_n (lv' := [(3, .int 0), (0, .ref (A 7)), (1, .int a0), (2, .int a1)]) hx hb dX5_rankOf_1 rfl hl (by decide) rfl (fun ls hl => ?_)
  refine lv_iconst (v := 0) hx hb dX5_rankOf_2 (by decide) ?_
  refine lv_istore (lv' := [(4, .int 0), (3, .int 0), (0, .ref (A 7)), (1, .int a0), (2, .int a1)]) hx hb dX5_rankOf_3 hl (by decide) rfl (fun ls hl => ?_)
  have lp5_245 : ∀ (n5 : Nat) (ls : Array Slot) (y244d : Int32) (y245d : Int32), 0 ≤ y244d.toInt → y244d.toInt ≤ 6 → 6 - y244d.toInt < (n5 : Int) → lv_has ls 6 [(4, .int y244d), (3, .int y245d), (0, .ref (A 7)), (1, .int a0), (2, .int a1)] → W p l e (rmL 3 0 0) s m ar below meth c s.heap [] 0 0 Q (F0 m 5 ls []) := by
    intro n5
    induction n5 with
    | zero => intro ls y244d y245d ly244d my244d hmun5 hl; exfalso; omega
    | succ n5 ih5_245 =>
      intro ls y244d y245d ly244d my244d hmun5 hl
      refine lv_iload hx hb dX5_rankOf_5 (lv_at hl 0 rfl) ?_
      refine lv_bipush (v := 6) hx hb dX5_rankOf_7 (by decide) ?_
      refine lv_icmp_ge (tgt := 67) hx hb dX5_rankOf_9 (by decide) (fun c247 => ?_) (fun c247 => ?_)
      · have c247 := cLE (x := 6) (y := y244d) (X := 6) (Y := y244d.toInt) (by decide) rfl c247
        refine lv_iload_n hx hb dX5_rankOf_67 rfl (lv_at hl 1 rfl) ?_
        exact hret _ _ y245d dX5_rankOf_68 rfl trivial
      · have c247 := cNLE (x := 6) (y := y244d) (X := 6) (Y := y244d.toInt) (by decide) rfl c247
        refine lv_aload_n hx hb dX5_rankOf_12 rfl (lv_at hl 2 rfl) ?_
        refine va_get (ci := 5) (v := .ref (A 19)) (C := RX5) (T := TX5) (N := 4) hx hb hts (fun w h => uc_in w (inX5 w h)) hown hK hP 7 (cwc7 C A u) rfl 2 (by decide) (hts _ (uc_in _ q_f168)) (fun _ h9 => h9) rfl dX5_rankOf_13 ?_
        refine lv_iload_n hx hb dX5_rankOf_16 rfl (lv_at hl 4 rfl) ?_
        refine r_aald hx hb hK hP 19 6 rfl (cwc19 C A u) rfl (i_ix ha1 (by omega) (by omega)) dX5_rankOf_17 ?_
        obtain ⟨k248, hk248, ek248⟩ : ∃ k : Nat, (k : Int) = 32 + A1 ∧ k = 32 + Int32.toNatClampNeg a1 := ⟨_, by have q9 := i_cl (x := a1) (X := A1) ha1 (by omega); omega, rfl⟩
        refine pv_v (v := .ref (A (52 + k248))) (by rw [ek248]; rfl) ?_
        refine lv_iload_n hx hb dX5_rankOf_18 rfl (lv_at hl 3 rfl) ?_
        refine va_iald hx hb hK hP (52 + k248) 1 (cwp C A u k248 (by omega)) rfl (i_ix ha0 (by omega) (by omega)) dX5_rankOf_19 ?_
        refine p_any (fun z249 => ?_)
        refine lv_aload_n hx hb dX5_rankOf_20 rfl (lv_at hl 2 rfl) ?_
        refine va_get (ci := 5) (v := .ref (A 19)) (C := RX5) (T := TX5) (N := 4) hx hb hts (fun w h => uc_in w (inX5 w h)) hown hK hP 7 (cwc7 C A u) rfl 2 (by decide) (hts _ (uc_in _ q_f168)) (fun _ h9 => h9) rfl dX5_rankOf_21 ?_
        refine lv_iload_n hx hb dX5_rankOf_24 rfl (lv_at hl 4 rfl) ?_
        refine r_aald hx hb hK hP 19 6 rfl (cwc19 C A u) rfl (i_ix ha1 (by omega) (by omega)) dX5_rankOf_25 ?_
        obtain ⟨k250, hk250, ek250⟩ : ∃ k : Nat, (k : Int) = 32 + A1 ∧ k = 32 + Int32.toNatClampNeg a1 := ⟨_, by have q9 := i_cl (x := a1) (X := A1) ha1 (by omega); omega, rfl⟩
        refine pv_v (v := .ref (A (52 + k250))) (by rw [ek250]; rfl) ?_
        refine lv_iload hx hb dX5_rankOf_26 (lv_at hl 0 rfl) ?_
        refine va_iald hx hb hK hP (52 + k250) 1 (cwp C A u k250 (by omega)) rfl (i_ix rfl (by omega) (by omega)) dX5_rankOf_28 ?_
        refine p_any (fun z251 => ?_)
        refine lv_isub hx hb dX5_rankOf_29 ?_
        refine p_any (fun z252 => ?_)
        refine lv_istore (lv' := [(5, .int z252), (4, .int y244d), (3, .int y245d), (0, .ref (A 7)), (1, .int a0), (2, .int a1)]) hx hb dX5_rankOf_30 hl (by decide) rfl (fun ls hl => ?_)
        refine lv_aload_n hx hb dX5_rankOf_32 rfl (lv_at hl 3 rfl) ?_
        refine lv_iload hx hb dX5_rankOf_33 (lv_at hl 1 rfl) ?_
        refine lv_iload_n hx hb dX5_rankOf_35 rfl (lv_at hl 5 rfl) ?_
        refine cvS (n := 2) (As := [.int y244d, .int a1]) (rest := []) ⟨hx, hb, hml, hown, hts⟩ uc_in (kX5_isAlive_0 l D C A u hI y244d y244d.toInt rfl a1 A1 ha1 (by omega) (by omega)) q_m636 q_n637 q_e638 q_i4 q_c639 hvX5_isAlive ⟨(Nat.le_of_ble_eq_true rfl), (Nat.le_of_ble_eq_true rfl)⟩ ⟨(Nat.le_of_ble_eq_true rfl), (Nat.le_of_ble_eq_true rfl)⟩ hK hP 5 7 rfl (cwc7 C A u) rfl hl.1 rfl (Nat.le_of_ble_eq_true rfl) dX5_rankOf_36 (fun r253 p254 => ?_)
        have p254 : 0 ≤ r253.toInt ∧ r253.toInt ≤ 1 := p254
        have j61_262 : ∀ (ls : Array Slot) (y260d : Int32), lv_has ls 6 [(4, .int y244d), (3, .int y260d), (0, .ref (A 7)), (1, .int a0), (2, .int a1)] → W p l e (rmL 3 0 0) s m ar below meth c s.heap [] 0 0 Q (F0 m 61 ls []) := by
          intro ls y260d hl
          obtain ⟨z264, ez264⟩ : ∃ z, z = y244d + Int32.ofInt 1 := ⟨_, rfl⟩
          have hz264 : z264.toInt = y244d.toInt + 1 := by rw [ez264]; exact tt_add rfl (by decide) (by omega) (by omega)
          refine lv_iinc (v := z264) (lv' := [(4, .int z264), (3, .int y260d), (0, .ref (A 7)), (1, .int a0), (2, .int a1)]) hx hb dX5_rankOf_61 hl (k := 0) rfl ez264.symm (by decide) rfl (fun ls hl => ?_)
          refine lv_goto (tgt := 5) hx hb dX5_rankOf_64 (by decide) ?_
          exact ih5_245 ls z264 y260d (by have q9 := (show z264.toInt = (y244d.toInt + 1) from hz264); omega) (by have q9 := (show z264.toInt = (y244d.toInt + 1) from hz264); omega) (by have q9 := (show z264.toInt = (y244d.toInt + 1) from hz264); omega) hl
        refine lv_if_eq (tgt := 61) hx hb dX5_rankOf_39 (by decide) (fun c255 => ?_) (fun c255 => ?_)
        · have c255 := cEQ (x := r253) (y := 0) (X := r253.toInt) (Y := 0) rfl (by decide) c255
          exact j61_262 ls y245d (lv_sub hl [1, 2, 3, 4, 5] rfl)
        · have c255 := cNE (x := r253) (y := 0) (X := r253.toInt) (Y := 0) rfl (by decide) c255
          refine lv_iload hx hb dX5_rankOf_42 (lv_at hl 0 rfl) ?_
          have j58_269 : ∀ (ls : Array Slot), lv_has ls 6 [(4, .int y244d), (3, .int y245d), (0, .ref (A 7)), (1, .int a0), (2, .int a1)] → W p l e (rmL 3 0 0) s m ar below meth c s.heap [] 0 0 Q (F0 m 58 ls []) := by
            intro ls hl
            obtain ⟨z271, ez271⟩ : ∃ z, z = y245d + Int32.ofInt 1 := ⟨_, rfl⟩
            refine lv_iinc (v := z271) (lv' := [(3, .int z271), (4, .int y244d), (0, .ref (A 7)), (1, .int a0), (2, .int a1)]) hx hb dX5_rankOf_58 hl (k := 1) rfl ez271.symm (by decide) rfl (fun ls hl => ?_)
            exact j61_262 ls z271 (lv_sub hl [1, 0, 2, 3, 4] rfl)
          refine lv_if_gt (tgt := 58) hx hb dX5_rankOf_44 (by decide) (fun c265 => ?_) (fun c265 => ?_)
          · have c265 := cLT (x := 0) (y := z252) (X := 0) (Y := z252.toInt) (by decide) rfl c265
            exact j58_269 ls (lv_sub hl [1, 2, 3, 4, 5] rfl)
          · have c265 := cNLT (x := 0) (y := z252) (X := 0) (Y := z252.toInt) (by decide) rfl c265
            refine lv_iload hx hb dX5_rankOf_47 (lv_at hl 0 rfl) ?_
            refine lv_if_ne (tgt := 61) hx hb dX5_rankOf_49 (by decide) (fun c272 => ?_) (fun c272 => ?_)
            · have c272 := cNE (x := z252) (y := 0) (X := z252.toInt) (Y := 0) rfl (by decide) c272
              exact j61_262 ls y245d (lv_sub hl [1, 2, 3, 4, 5] rfl)
            · have c272 := cEQ (x := z252) (y := 0) (X := z252.toInt) (Y := 0) rfl (by decide) c272
              refine lv_iload hx hb dX5_rankOf_52 (lv_at hl 1 rfl) ?_
              refine lv_iload_n hx hb dX5_rankOf_54 rfl (lv_at hl 4 rfl) ?_
              refine lv_icmp_ge (tgt := 61) hx hb dX5_rankOf_55 (by decide) (fun c273 => ?_) (fun c273 => ?_)
              · have c273 := cLE (x := a0) (y := y244d) (X := A0) (Y := y244d.toInt) ha0 rfl c273
                exact j61_262 ls y245d (lv_sub hl [1, 2, 3, 4, 5] rfl)
              · have c273 := cNLE (x := a0) (y := y244d) (X := A0) (Y := y244d.toInt) ha0 rfl c273
                exact j58_269 ls (lv_sub hl [1, 2, 3, 4, 5] rfl)
  exact lp5_245 7 ls 0 0 (by decide) (by decide) (by have q9 : (0 : Int32).toInt = 0 := (by decide); omega) hl
set_option maxHeartbeats 4000000 in
set_option maxRecDepth 100000 in
theorem kX5_ranked_0 (l : Launch) (D : va_G) (C : Nat → ClassId) (A : Nat → Nat) (u : St) (hI : IC u) (a0 : Int32) (A0 : Int) (ha0 : a0.toInt = A0) (a1 : Int32) (A1 : Int) (ha1 : a1.toInt = A1) (hl0 : 0 ≤ A0) (hm0 : A0 ≤ 6) : Met l yX5_ranked (uc yX5_ranked cX5_ranked 4 (some .int)) (rmL 4 0 0) (va_Pc [.ref (A 7), .int a0, .int a1] (PreR D (tyl C) (cw C A u))) (vp_Si (fun r => (-1) ≤ r.toInt ∧ r.toInt ≤ 5)) 0 0 (fun _ => False) := by
  refine mS (by decide) (Nat.le_of_ble_eq_true rfl) ?_
  intro p e s m below meth c ls ar Q hx hb hml hown hts hK hP hl hret
  have hown : s.vm.findClass RX5 = some m.cls := hown
  have hl : lv_has ls 4 [(0, .ref (A 7)), (1, .int a0), (2, .int a1)] := hl
  refine lv_iconst (v := 0) hx hb dX5_ranked_0 (by decide) ?_
  refine lv_istore_n (lv' := [(3, .int 0), (0, .ref (A 7)), (1, .int a0), (2, .int a1)]) hx hb dX5_ranked_1 rfl hl (by decide) rfl (fun ls hl => ?_)
  have lp2_49 : ∀ (n2 : Nat) (ls : Array Slot) (y49d : Int32), 0 ≤ y49d.toInt → y49d.toInt ≤ 6 → 6 - y49d.toInt < (n2 : Int) → lv_has ls 4 [(3, .int y49d), (0, .ref (A 7)), (1, .int a0), (2, .int a1)] → W p l e (rmL 4 0 0) s m ar below meth c s.heap [] 0 0 Q (F0 m 2 ls []) := by
    intro n2
    induction n2 with
    | zero => intro ls y49d ly49d my49d hmun2 hl; exfalso; omega
    | succ n2 ih2_49 =>
      intro ls y49d ly49d my49d hmun2 hl
      refine lv_iload_n hx hb dX5_ranked_2 rfl (lv_at hl 0 rfl) ?_
      refine lv_bipush (v := 6) hx hb dX5_ranked_3 (by decide) ?_
      refine lv_icmp_ge (tgt := 35) hx hb dX5_ranked_5 (by decide) (fun c51 => ?_) (fun c51 => ?_)
      · have c51 := cLE (x := 6) (y := y49d) (X := 6) (Y := y49d.toInt) (by decide) rfl c51
        refine lv_iconst (v := (-1)) hx hb dX5_ranked_35 (by decide) ?_
        exact hret _ _ ((-1) : Int32) dX5_ranked_36 rfl ⟨by decide, by decide⟩
      · have c51 := cNLE (x := 6) (y := y49d) (X := 6) (Y := y49d.toInt) (by decide) rfl c51
        refine lv_aload_n hx hb dX5_ranked_8 rfl (lv_at hl 1 rfl) ?_
        refine lv_iload_n hx hb dX5_ranked_9 rfl (lv_at hl 0 rfl) ?_
        refine lv_iload_n hx hb dX5_ranked_10 rfl (lv_at hl 2 rfl) ?_
        refine cvS (n := 2) (As := [.int y49d, .int a0]) (rest := []) ⟨hx, hb, hml, hown, hts⟩ uc_in (kX5_isAlive_0 l D C A u hI y49d y49d.toInt rfl a0 A0 ha0 (by omega) (by omega)) q_m636 q_n637 q_e638 q_i4 q_c639 hvX5_isAlive ⟨(Nat.le_of_ble_eq_true rfl), (Nat.le_of_ble_eq_true rfl)⟩ ⟨(Nat.le_of_ble_eq_true rfl), (Nat.le_of_ble_eq_true rfl)⟩ hK hP 5 7 rfl (cwc7 C A u) rfl hl.1 rfl (Nat.le_of_ble_eq_true rfl) dX5_ranked_11 (fun r52 p53 => ?_)
        have p53 : 0 ≤ r52.toInt ∧ r52.toInt ≤ 1 := p53
        have j29_59 : ∀ (ls : Array Slot), lv_has ls 4 [(3, .int y49d), (0, .ref (A 7)), (1, .int a0), (2, .int a1)] → W p l e (rmL 4 0 0) s m ar below meth c s.heap [] 0 0 Q (F0 m 29 ls []) := by
          intro ls hl
          obtain ⟨z61, ez61⟩ : ∃ z, z = y49d + Int32.ofInt 1 := ⟨_, rfl⟩
          have hz61 : z61.toInt = y49d.toInt + 1 := by rw [ez61]; exact tt_add rfl (by decide) (by omega) (by omega)
          refine lv_iinc (v := z61) (lv' := [(3, .int z61), (0, .ref (A 7)), (1, .int a0), (2, .int a1)]) hx hb dX5_ranked_29 hl (k := 0) rfl ez61.symm (by decide) rfl (fun ls hl => ?_)
          refine lv_goto (tgt := 2) hx hb dX5_ranked_32 (by decide) ?_
          exact ih2_49 ls z61 (by have q9 := (show z61.toInt = (y49d.toInt + 1) from hz61); omega) (by have q9 := (show z61.toInt = (y49d.toInt + 1) from hz61); omega) (by have q9 := (show z61.toInt = (y49d.toInt + 1) from hz61); omega) hl
        refine lv_if_eq (tgt := 29) hx hb dX5_ranked_14 (by decide) (fun c54 => ?_) (fun c54 => ?_)
        · have c54 := cEQ (x := r52) (y := 0) (X := r52.toInt) (Y := 0) rfl (by decide) c54
          exact j29_59 ls hl
        · have c54 := cNE (x := r52) (y := 0) (X := r52.toInt) (Y := 0) rfl (by decide) c54
          refine lv_aload_n hx hb dX5_ranked_17 rfl (lv_at hl 1 rfl) ?_
          refine lv_iload_n hx hb dX5_ranked_18 rfl (lv_at hl 0 rfl) ?_
          refine lv_iload_n hx hb dX5_ranked_19 rfl (lv_at hl 2 rfl) ?_
          refine cvS (n := 2) (As := [.int y49d, .int a0]) (rest := []) ⟨hx, hb, hml, hown, hts⟩ uc_in (kX5_rankOf_0 l D C A u hI y49d y49d.toInt rfl a0 A0 ha0 (by omega) (by omega) (by omega) (by omega)) q_m643 q_n645 q_p15 q_i4 q_c646 hvX5_rankOf ⟨(Nat.le_of_ble_eq_true rfl), (Nat.le_of_ble_eq_true rfl)⟩ ⟨(Nat.le_of_ble_eq_true rfl), (Nat.le_of_ble_eq_true rfl)⟩ hK hP 5 7 rfl (cwc7 C A u) rfl hl.1 rfl (Nat.le_of_ble_eq_true rfl) dX5_ranked_20 (fun r62 p63 => ?_)
          refine lv_iload_n hx hb dX5_ranked_23 rfl (lv_at hl 3 rfl) ?_
          refine lv_icmp_ne (tgt := 29) hx hb dX5_ranked_24 (by decide) (fun c64 => ?_) (fun c64 => ?_)
          · exact j29_59 ls hl
          · have c64 := cEQ (x := r62) (y := a1) (X := r62.toInt) (Y := A1) rfl ha1 c64
            refine lv_iload_n hx hb dX5_ranked_27 rfl (lv_at hl 0 rfl) ?_
            exact hret _ _ y49d dX5_ranked_28 rfl ⟨by omega, by omega⟩
  exact lp2_49 7 ls 0 (by decide) (by decide) (by have q9 : (0 : Int32).toInt = 0 := (by decide); omega) hl
set_option maxHeartbeats 4000000 in
set_option maxRecDepth 100000 in
theorem kX5_lateOfRank_0 (l : Launch) (D : va_G) (C : Nat → ClassId) (A : Nat → Nat) (u : St) (hI : IC u) (a0 : Int32) (A0 : Int) (ha0 : a0.toInt = A0) (a1 : Int32) (A1 : Int) (ha1 : a1.toInt = A1) (hl0 : 0 ≤ A0) (hm0 : A0 ≤ 6) : Met l yX5_lateOfRank (uc yX5_lateOfRank cX5_lateOfRank 4 (some .int)) (rmL 5 0 0) (va_Pc [.ref (A 7), .int a0, .int a1] (PreR D (tyl C) (cw C A u))) (vp_Si (fun r => True)) 0 0 (fun _ => False) := by
  refine mS (by decide) (Nat.le_of_ble_eq_true rfl) ?_
  intro p e s m below meth c ls ar Q hx hb hml hown hts hK hP hl hret
  have hown : s.vm.findClass RX5 = some m.cls := hown
  have hl : lv_has ls 4 [(0, .ref (A 7)), (1, .int a0), (2, .int a1)] := hl
  refine lv_aload_n hx hb dX5_lateOfRank_0 rfl (lv_at hl 0 rfl) ?_
  refine lv_iload_n hx hb dX5_lateOfRank_1 rfl (lv_at hl 1 rfl) ?_
  refine lv_iload_n hx hb dX5_lateOfRank_2 rfl (lv_at hl 2 rfl) ?_
  refine cvS (n := 2) (As := [.int a0, .int a1]) (rest := []) ⟨hx, hb, hml, hown, hts⟩ uc_in (kX5_ranked_0 l D C A u hI a0 A0 ha0 a1 A1 ha1 (by omega) (by omega)) q_m939 q_n633 q_e634 q_i4 q_c635 hvX5_ranked ⟨(Nat.le_of_ble_eq_true rfl), (Nat.le_of_ble_eq_true rfl)⟩ ⟨(Nat.le_of_ble_eq_true rfl), (Nat.le_of_ble_eq_true rfl)⟩ hK hP 5 7 rfl (cwc7 C A u) rfl hl.1 rfl (Nat.le_of_ble_eq_true rfl) dX5_lateOfRank_3 (fun r1 p2 => ?_)
  have p2 : (-1) ≤ r1.toInt ∧ r1.toInt ≤ 5 := p2
  refine lv_istore_n (lv' := [(3, .int r1), (0, .ref (A 7)), (1, .int a0), (2, .int a1)]) hx hb dX5_lateOfRank_6 rfl hl (by decide) rfl (fun ls hl => ?_)
  refine lv_iload_n hx hb dX5_lateOfRank_7 rfl (lv_at hl 0 rfl) ?_
  refine lv_iconst (v := (-1)) hx hb dX5_lateOfRank_8 (by decide) ?_
  refine lv_icmp_ne (tgt := 18) hx hb dX5_lateOfRank_9 (by decide) (fun c3 => ?_) (fun c3 => ?_)
  · have c3 := cNE (x := r1) (y := (-1)) (X := r1.toInt) (Y := (-1)) rfl (by decide) c3
    refine lv_aload_n hx hb dX5_lateOfRank_18 rfl (lv_at hl 1 rfl) ?_
    refine va_get (ci := 5) (v := .ref (A 19)) (C := RX5) (T := TX5) (N := 4) hx hb hts (fun w h => uc_in w (inX5 w h)) hown hK hP 7 (cwc7 C A u) rfl 2 (by decide) (hts _ (uc_in _ q_f168)) (fun _ h9 => h9) rfl dX5_lateOfRank_19 ?_
    refine lv_iload_n hx hb dX5_lateOfRank_22 rfl (lv_at hl 2 rfl) ?_
    refine r_aald hx hb hK hP 19 6 rfl (cwc19 C A u) rfl (i_ix ha0 (by omega) (by omega)) dX5_lateOfRank_23 ?_
    obtain ⟨k4, hk4, ek4⟩ : ∃ k : Nat, (k : Int) = 32 + A0 ∧ k = 32 + Int32.toNatClampNeg a0 := ⟨_, by have q9 := i_cl (x := a0) (X := A0) ha0 (by omega); omega, rfl⟩
    refine pv_v (v := .ref (A (52 + k4))) (by rw [ek4]; rfl) ?_
    refine lv_iload_n hx hb dX5_lateOfRank_24 rfl (lv_at hl 0 rfl) ?_
    refine va_iald hx hb hK hP (52 + k4) 1 (cwp C A u k4 (by omega)) rfl (i_ix rfl (by omega) (by omega)) dX5_lateOfRank_25 ?_
    refine p_any (fun z5 => ?_)
    exact hret _ _ z5 dX5_lateOfRank_26 rfl trivial
  · have c3 := cEQ (x := r1) (y := (-1)) (X := r1.toInt) (Y := (-1)) rfl (by decide) c3
    refine lv_sipush (v := 10000) hx hb dX5_lateOfRank_12 (by decide) ?_
    refine lv_goto (tgt := 26) hx hb dX5_lateOfRank_15 (by decide) ?_
    exact hret _ _ (10000 : Int32) dX5_lateOfRank_26 rfl trivial
set_option maxHeartbeats 4000000 in
set_option maxRecDepth 100000 in
theorem kX9_law_0 (l : Launch) (D : va_G) (C : Nat → ClassId) (A : Nat → Nat) (u : St) (hI : IC u) (a0 : Int32) (A0 : Int) (ha0 : a0.toInt = A0) : Met l yX9_law (uc yX9_law cX9_law 4 (some .int)) (rmL 6 0 0) (va_Pc [.ref (A 0), .int a0] (PreR D (tyl C) (cw C A u))) (vp_Si (fun r => (-2) ≤ r.toInt ∧ r.toInt ≤ 6)) 0 0 (fun _ => False) := by
  refine mS (by decide) (Nat.le_of_ble_eq_true rfl) ?_
  intro p e s m below meth c ls ar Q hx hb hml hown hts hK hP hl hret
  have hown : s.vm.findClass RX9 = some m.cls := hown
  have hl : lv_has ls 4 [(0, .ref (A 0)), (1, .int a0)] := hl
  refine lv_iload_n hx hb dX9_law_0 rfl (lv_at hl 1 rfl) ?_
  refine csS (n := 1) (As := [.int a0]) (rest := []) ⟨hx, hb, hml, hown, hts⟩ uc_in (kX9_isMinute_0 l D C A u hI a0 A0 ha0) q_m762 q_s763 q_i1 q_c764 hvX9_isMinute ⟨(Nat.le_of_ble_eq_true rfl), (Nat.le_of_ble_eq_true rfl)⟩ ⟨(Nat.le_of_ble_eq_true rfl), (Nat.le_of_ble_eq_true rfl)⟩ hK hP rfl hl.1 rfl (Nat.le_of_ble_eq_true rfl) dX9_law_1 (fun r1 p2 => ?_)
  rcases p2 with ⟨e9, f3, f4⟩ | e9
  · subst e9
    refine lv_if_eq (tgt := 14) hx hb dX9_law_4 (by decide) (fun c5 => absurd c5 (by decide)) (fun c5 => ?_)
    refine lv_aload_n hx hb dX9_law_7 rfl (lv_at hl 0 rfl) ?_
    refine cvS (n := 0) (As := []) (rest := []) ⟨hx, hb, hml, hown, hts⟩ uc_in (kX9_hasTown_0 l D C A u hI ) q_m678 q_n680 q_p18 q_i1 q_c681 hvX9_hasTown ⟨(Nat.le_of_ble_eq_true rfl), (Nat.le_of_ble_eq_true rfl)⟩ ⟨(Nat.le_of_ble_eq_true rfl), (Nat.le_of_ble_eq_true rfl)⟩ hK hP 9 0 rfl (cwc0 C A u) rfl hl.1 rfl (Nat.le_of_ble_eq_true rfl) dX9_law_8 (fun r6 p7 => ?_)
    have p7 : 0 ≤ r6.toInt ∧ r6.toInt ≤ 1 := p7
    refine lv_if_ne (tgt := 17) hx hb dX9_law_11 (by decide) (fun c8 => ?_) (fun c8 => ?_)
    · have c8 := cNE (x := r6) (y := 0) (X := r6.toInt) (Y := 0) rfl (by decide) c8
      refine lv_bipush (v := 6) hx hb dX9_law_17 (by decide) ?_
      refine lv_istore_n (lv' := [(2, .int 6), (0, .ref (A 0)), (1, .int a0)]) hx hb dX9_law_19 rfl hl (by decide) rfl (fun ls hl => ?_)
      refine lv_iconst (v := 0) hx hb dX9_law_20 (by decide) ?_
      refine lv_istore_n (lv' := [(3, .int 0), (2, .int 6), (0, .ref (A 0)), (1, .int a0)]) hx hb dX9_law_21 rfl hl (by decide) rfl (fun ls hl => ?_)
      have lp22_205 : ∀ (n22 : Nat) (ls : Array Slot) (y204d : Int32) (y205d : Int32), 0 ≤ y204d.toInt → y204d.toInt ≤ 7 → 0 ≤ y205d.toInt → y205d.toInt ≤ 6 → 7 - y204d.toInt < (n22 : Int) → lv_has ls 4 [(3, .int y204d), (2, .int y205d), (0, .ref (A 0)), (1, .int a0)] → W p l e (rmL 6 0 0) s m ar below meth c s.heap [] 0 0 Q (F0 m 22 ls []) := by
        intro n22
        induction n22 with
        | zero => intro ls y204d y205d ly204d my204d ly205d my205d hmun22 hl; exfalso; omega
        | succ n22 ih22_205 =>
          intro ls y204d y205d ly204d my204d ly205d my205d hmun22 hl
          refine lv_iload_n hx hb dX9_law_22 rfl (lv_at hl 0 rfl) ?_
          refine lv_aload_n hx hb dX9_law_23 rfl (lv_at hl 2 rfl) ?_
          refine va_get (ci := 9) (v := .ref (A 7)) (C := RX9) (T := TX9) (N := 12) hx hb hts (fun w h => uc_in w (inX9 w h)) hown hK hP 0 (cwc0 C A u) rfl 5 (by decide) (hts _ (uc_in _ q_f388)) (fun _ h9 => h9) rfl dX9_law_24 ?_
          refine va_get (ci := 5) (v := .int (gi u 48)) (C := RX5) (T := TX5) (N := 4) hx hb hts (fun w h => uc_in w (inX5 w h)) hown hK hP 7 (cwc7 C A u) rfl 0 (by decide) (hts _ (uc_in _ q_f164)) (fun _ h9 => h9) rfl dX9_law_27 ?_
          have b207 := hI.b48
          refine lv_icmp_ge (tgt := 64) hx hb dX9_law_30 (by decide) (fun c208 => ?_) (fun c208 => ?_)
          · have c208 := cLE (x := (gi u 48)) (y := y204d) (X := ((gi u 48)).toInt) (Y := y204d.toInt) rfl rfl c208
            refine lv_iload_n hx hb dX9_law_64 rfl (lv_at hl 1 rfl) ?_
            exact hret _ _ y205d dX9_law_65 rfl ⟨by omega, by omega⟩
          · have c208 := cNLE (x := (gi u 48)) (y := y204d) (X := ((gi u 48)).toInt) (Y := y204d.toInt) rfl rfl c208
            have lp33_226 : ∀ (n33 : Nat) (ls : Array Slot) (y226d : Int32), 0 ≤ y226d.toInt → y226d.toInt ≤ 6 → y226d.toInt - 0 < (n33 : Int) → lv_has ls 4 [(3, .int y204d), (2, .int y226d), (0, .ref (A 0)), (1, .int a0)] → W p l e (rmL 6 0 0) s m ar below meth c s.heap [] 0 0 Q (F0 m 33 ls []) := by
              intro n33
              induction n33 with
              | zero => intro ls y226d ly226d my226d hmun33 hl; exfalso; omega
              | succ n33 ih33_226 =>
                intro ls y226d ly226d my226d hmun33 hl
                refine lv_iload_n hx hb dX9_law_33 rfl (lv_at hl 1 rfl) ?_
                have j58_235 : ∀ (ls : Array Slot), lv_has ls 4 [(3, .int y204d), (2, .int y226d), (0, .ref (A 0)), (1, .int a0)] → W p l e (rmL 6 0 0) s m ar below meth c s.heap [] 0 0 Q (F0 m 58 ls []) := by
                  intro ls hl
                  obtain ⟨z237, ez237⟩ : ∃ z, z = y204d + Int32.ofInt 1 := ⟨_, rfl⟩
                  have hz237 : z237.toInt = y204d.toInt + 1 := by rw [ez237]; exact tt_add rfl (by decide) (by omega) (by omega)
                  refine lv_iinc (v := z237) (lv' := [(3, .int z237), (2, .int y226d), (0, .ref (A 0)), (1, .int a0)]) hx hb dX9_law_58 hl (k := 0) rfl ez237.symm (by decide) rfl (fun ls hl => ?_)
                  refine lv_goto (tgt := 22) hx hb dX9_law_61 (by decide) ?_
                  exact ih22_205 ls z237 y226d (by have q9 := (show z237.toInt = (y204d.toInt + 1) from hz237); omega) (by have q9 := (show z237.toInt = (y204d.toInt + 1) from hz237); omega) (by omega) (by omega) (by have q9 := (show z237.toInt = (y204d.toInt + 1) from hz237); omega) hl
                refine lv_if_le (tgt := 58) hx hb dX9_law_34 (by decide) (fun c228 => ?_) (fun c228 => ?_)
                · have c228 := cLE (x := y226d) (y := 0) (X := y226d.toInt) (Y := 0) rfl (by decide) c228
                  exact j58_235 ls hl
                · have c228 := cNLE (x := y226d) (y := 0) (X := y226d.toInt) (Y := 0) rfl (by decide) c228
                  refine lv_aload_n hx hb dX9_law_37 rfl (lv_at hl 2 rfl) ?_
                  refine va_get (ci := 9) (v := .ref (A 7)) (C := RX9) (T := TX9) (N := 12) hx hb hts (fun w h => uc_in w (inX9 w h)) hown hK hP 0 (cwc0 C A u) rfl 5 (by decide) (hts _ (uc_in _ q_f388)) (fun _ h9 => h9) rfl dX9_law_38 ?_
                  refine lv_iload_n hx hb dX9_law_41 rfl (lv_at hl 0 rfl) ?_
                  refine lv_iload_n hx hb dX9_law_42 rfl (lv_at hl 1 rfl) ?_
                  refine lv_iconst (v := 1) hx hb dX9_law_43 (by decide) ?_
                  refine lv_isub hx hb dX9_law_44 ?_
                  refine p_nm (tt_sub (X := y226d.toInt) (Y := 1) rfl (by decide) (by omega) (by omega)) (fun z238 hz238 => ?_)
                  refine cvS (n := 2) (As := [.int y204d, .int z238]) (rest := []) ⟨hx, hb, hml, hown, hts⟩ uc_in (kX5_lateOfRank_0 l D C A u hI y204d y204d.toInt rfl z238 (y226d.toInt - 1) hz238 (by omega) (by omega)) q_m935 q_n936 q_e937 q_i4 q_c938 hvX5_lateOfRank ⟨(Nat.le_of_ble_eq_true rfl), (Nat.le_of_ble_eq_true rfl)⟩ ⟨(Nat.le_of_ble_eq_true rfl), (Nat.le_of_ble_eq_true rfl)⟩ hK hP 5 7 rfl (cwc7 C A u) rfl hl.1 rfl (Nat.le_of_ble_eq_true rfl) dX9_law_45 (fun r239 p240 => ?_)
                  refine lv_iload_n hx hb dX9_law_48 rfl (lv_at hl 3 rfl) ?_
                  refine lv_icmp_le (tgt := 58) hx hb dX9_law_49 (by decide) (fun c241 => ?_) (fun c241 => ?_)
                  · have c241 := cLE (x := r239) (y := a0) (X := r239.toInt) (Y := A0) rfl ha0 c241
                    exact j58_235 ls hl
                  · have c241 := cNLE (x := r239) (y := a0) (X := r239.toInt) (Y := A0) rfl ha0 c241
                    obtain ⟨z242, ez242⟩ : ∃ z, z = y226d + Int32.ofInt (-1) := ⟨_, rfl⟩
                    have hz242 : z242.toInt = y226d.toInt + (-1) := by rw [ez242]; exact tt_add rfl (by decide) (by omega) (by omega)
                    refine lv_iinc (v := z242) (lv' := [(2, .int z242), (3, .int y204d), (0, .ref (A 0)), (1, .int a0)]) hx hb dX9_law_52 hl (k := 1) rfl ez242.symm (by decide) rfl (fun ls hl => ?_)
                    refine lv_goto (tgt := 33) hx hb dX9_law_55 (by decide) ?_
                    exact ih33_226 ls z242 (by have q9 := (show z242.toInt = (y226d.toInt + (-1)) from hz242); omega) (by have q9 := (show z242.toInt = (y226d.toInt + (-1)) from hz242); omega) (by have q9 := (show z242.toInt = (y226d.toInt + (-1)) from hz242); omega) (lv_sub hl [1, 0, 2, 3] rfl)
            exact lp33_226 7 ls y205d (by omega) (by omega) (by omega) hl
      exact lp22_205 8 ls 0 6 (by decide) (by decide) (by decide) (by decide) (by have q9 : (0 : Int32).toInt = 0 := (by decide); omega) hl
    · have c8 := cEQ (x := r6) (y := 0) (X := r6.toInt) (Y := 0) rfl (by decide) c8
      refine lv_bipush (v := (-2)) hx hb dX9_law_14 (by decide) ?_
      exact hret _ _ ((-2) : Int32) dX9_law_16 rfl ⟨by decide, by decide⟩
  · subst e9
    refine lv_if_eq (tgt := 14) hx hb dX9_law_4 (by decide) (fun c243 => ?_) (fun c243 => absurd c243 (by decide))
    refine lv_bipush (v := (-2)) hx hb dX9_law_14 (by decide) ?_
    exact hret _ _ ((-2) : Int32) dX9_law_16 rfl ⟨by decide, by decide⟩
set_option maxHeartbeats 4000000 in
set_option maxRecDepth 100000 in
theorem kX9_likely_0 (l : Launch) (D : va_G) (C : Nat → ClassId) (A : Nat → Nat) (u : St) (hI : IC u) (a0 : Int32) (A0 : Int) (ha0 : a0.toInt = A0) : Met l yX9_likely (uc yX9_likely cX9_likely 2 (some .int)) (rmL 3 0 0) (va_Pc [.ref (A 0), .int a0] (PreR D (tyl C) (cw C A u))) (vp_Si (fun r => (-2) ≤ r.toInt ∧ r.toInt ≤ 5)) 0 0 (fun _ => False) := by
  refine mS (by decide) (Nat.le_of_ble_eq_true rfl) ?_
  intro p e s m below meth c ls ar Q hx hb hml hown hts hK hP hl hret
  have hown : s.vm.findClass RX9 = some m.cls := hown
  have hl : lv_has ls 2 [(0, .ref (A 0)), (1, .int a0)] := hl
  refine lv_aload_n hx hb dX9_likely_0 rfl (lv_at hl 0 rfl) ?_
  refine lv_iload_n hx hb dX9_likely_1 rfl (lv_at hl 1 rfl) ?_
  refine cvS (n := 1) (As := [.int a0]) (rest := []) ⟨hx, hb, hml, hown, hts⟩ uc_in (kX9_isDay_0 l D C A u hI a0 A0 ha0) q_m597 q_n599 q_p12 q_i1 q_c600 hvX9_isDay ⟨(Nat.le_of_ble_eq_true rfl), (Nat.le_of_ble_eq_true rfl)⟩ ⟨(Nat.le_of_ble_eq_true rfl), (Nat.le_of_ble_eq_true rfl)⟩ hK hP 9 0 rfl (cwc0 C A u) rfl hl.1 rfl (Nat.le_of_ble_eq_true rfl) dX9_likely_2 (fun r1 p2 => ?_)
  rcases p2 with ⟨e9, f3, f4⟩ | e9
  · subst e9
    have b6 := hI.b48
    refine lv_if_eq (tgt := 16) hx hb dX9_likely_5 (by decide) (fun c7 => absurd c7 (by decide)) (fun c7 => ?_)
    refine lv_aload_n hx hb dX9_likely_8 rfl (lv_at hl 0 rfl) ?_
    refine lv_iload_n hx hb dX9_likely_9 rfl (lv_at hl 1 rfl) ?_
    refine cvS (n := 1) (As := [.int a0]) (rest := []) ⟨hx, hb, hml, hown, hts⟩ uc_in (kX9_slowestOn_0 l D C A u hI a0 A0 ha0 (by omega) (by omega)) q_m623 q_n625 q_p14 q_i1 q_c626 hvX9_slowestOn ⟨(Nat.le_of_ble_eq_true rfl), (Nat.le_of_ble_eq_true rfl)⟩ ⟨(Nat.le_of_ble_eq_true rfl), (Nat.le_of_ble_eq_true rfl)⟩ hK hP 9 0 rfl (cwc0 C A u) rfl hl.1 rfl (Nat.le_of_ble_eq_true rfl) dX9_likely_10 (fun r8 p9 => ?_)
    have p9 : (-1) ≤ r8.toInt ∧ r8.toInt ≤ 5 := p9
    refine lv_goto (tgt := 18) hx hb dX9_likely_13 (by decide) ?_
    exact hret _ _ r8 dX9_likely_18 rfl ⟨by omega, by omega⟩
  · subst e9
    refine lv_if_eq (tgt := 16) hx hb dX9_likely_5 (by decide) (fun c10 => ?_) (fun c10 => absurd c10 (by decide))
    refine lv_bipush (v := (-2)) hx hb dX9_likely_16 (by decide) ?_
    exact hret _ _ ((-2) : Int32) dX9_likely_18 rfl ⟨by decide, by decide⟩
set_option maxHeartbeats 4000000 in
set_option maxRecDepth 100000 in
theorem kX0_keep_0 (l : Launch) (D : va_G) (C : Nat → ClassId) (A : Nat → Nat) (u : St) (hI : IC u) (a0 : Int32) (A0 : Int) (ha0 : a0.toInt = A0) (a1 : Int32) (A1 : Int) (ha1 : a1.toInt = A1) (hl0 : 0 ≤ A0) (hm0 : A0 ≤ 6) (sz : Nat) : MetV l yX0_keep cX0_keep 3 2 [.ref (A 13), .int a0, .int a1] D (tyl C) (cw C A) X0 u sz (fun u' => IC u' ∧ Un [(66, 66), (67, 67)] [(77, 77)] [] u u' ∧ True) := by
  refine mV (by decide) (Nat.le_of_ble_eq_true rfl) ?_
  intro p e s m below meth c ls ar Q hx hb hml hown hts hK hH hX hl hret
  have hown : s.vm.findClass RX0 = some m.cls := hown
  have hl : lv_has ls 3 [(0, .ref (A 13)), (1, .int a0), (2, .int a1)] := hl
  refine lv_iload_n hx hb dX0_keep_0 rfl (lv_at hl 2 rfl) ?_
  refine lv_aload_n hx hb dX0_keep_1 rfl (lv_at hl 0 rfl) ?_
  refine va_get (ci := 0) (v := .int (gi u 66)) (C := RX0) (T := TX0) (N := 6) hx hb hts (fun w h => uc_in w (inX0 w h)) hown hK hH.1 13 (cwc13 C A u) rfl 0 (by decide) (hts _ (uc_in _ q_f272)) (fun _ h9 => h9) rfl dX0_keep_2 ?_
  refine lv_icmp_ge (tgt := 33) hx hb dX0_keep_5 (by decide) (fun c1 => ?_) (fun c1 => ?_)
  · have c1 := cLE (x := (gi u 66)) (y := a1) (X := ((gi u 66)).toInt) (Y := A1) rfl ha1 c1
    exact hret _ _ _ _ _ dX0_keep_33 ⟨hI, Un.rf, trivial⟩ hH
  · have c1 := cNLE (x := (gi u 66)) (y := a1) (X := ((gi u 66)).toInt) (Y := A1) rfl ha1 c1
    refine lv_aload_n hx hb dX0_keep_8 rfl (lv_at hl 0 rfl) ?_
    refine lv_iload_n hx hb dX0_keep_9 rfl (lv_at hl 2 rfl) ?_
    refine r_put (j := 66) (ci := 0) (C := RX0) (T := TX0) (N := 6) hx hb hts (fun w h => uc_in w (inX0 w h)) tyX0 tyX0_ok nmX0 hown hK hH 13 (cwc13 C A u) rfl 0 (by decide) (hts _ (uc_in _ q_f272)) (fun _ h9 => h9) rfl (by decide +kernel) (Nat.le_of_ble_eq_true rfl) (cws66 C A u _) dX0_keep_10 (fun u2 eu2 H locs hH => ?_)
    have hI := hI.pi0 eu2 rfl (by decide) (by decide)
    refine lv_aload_n hx hb dX0_keep_13 rfl (lv_at hl 0 rfl) ?_
    refine lv_iload_n hx hb dX0_keep_14 rfl (lv_at hl 1 rfl) ?_
    refine r_put (j := 67) (ci := 0) (C := RX0) (T := TX0) (N := 6) hx hb hts (fun w h => uc_in w (inX0 w h)) tyX0 tyX0_ok nmX0 hown hK hH 13 (cwc13 C A u2) rfl 1 (by decide) (hts _ (uc_in _ q_f274)) (fun _ h9 => h9) rfl (by decide +kernel) (Nat.le_of_ble_eq_true rfl) (cws67 C A u2 _) dX0_keep_15 (fun u3 eu3 H locs hH => ?_)
    have hI := hI.s67 eu3 ha0 (by omega) (by omega)
    refine lv_aload_n hx hb dX0_keep_18 rfl (lv_at hl 0 rfl) ?_
    refine va_get (ci := 0) (v := .ref (A 78)) (C := RX0) (T := TX0) (N := 6) hx hb hts (fun w h => uc_in w (inX0 w h)) hown hK hH.1 13 (cwc13 C A u3) rfl 3 (by decide) (hts _ (uc_in _ q_f278)) (fun _ h9 => h9) rfl dX0_keep_19 ?_
    refine lv_iconst (v := 0) hx hb dX0_keep_22 (by decide) ?_
    refine lv_aload_n hx hb dX0_keep_23 rfl (lv_at hl 0 rfl) ?_
    refine va_get (ci := 0) (v := .ref (A 77)) (C := RX0) (T := TX0) (N := 6) hx hb hts (fun w h => uc_in w (inX0 w h)) hown hK hH.1 13 (cwc13 C A u3) rfl 2 (by decide) (hts _ (uc_in _ q_f276)) (fun _ h9 => h9) rfl dX0_keep_24 ?_
    refine lv_iconst (v := 0) hx hb dX0_keep_27 (by decide) ?_
    refine lv_bipush (v := 6) hx hb dX0_keep_28 (by decide) ?_
    refine r_copyi (j0 := 78) (j1 := 77) (S' := 0) (P' := 0) (N' := 6) hx hb (by rw [hml]; exact hl.1.symm) hown (hts _ (uc_in _ q_m883)) (hts _ (uc_in _ q_t562)) (hts _ (uc_in _ q_s561)) (hts _ (uc_in _ q_i17)) hK hH 78 77 1 (cwc78 C A u3) (cwc77 C A u3) rfl (by decide) (by decide) (by decide) (by decide) (by decide) (by decide) (by decide) (by decide) (cwa77 C A u3) (Nat.le_of_ble_eq_true rfl) (Nat.le_of_ble_eq_true rfl) dX0_keep_30 (fun u4 eu4 H locs hH => ?_)
    have hI := hI.pa0 eu4 (by decide)
    exact hret _ _ _ _ _ dX0_keep_33 ⟨hI, (Un.sa (Un.si (Un.si Un.rf rfl eu2) rfl eu3) rfl eu4), trivial⟩ hH
set_option maxHeartbeats 4000000 in
set_option maxRecDepth 100000 in
theorem kX0_seek_6 (l : Launch) (D : va_G) (C : Nat → ClassId) (A : Nat → Nat) (u : St) (hI : IC u) (a1 : Int32) (A1 : Int) (ha1 : a1.toInt = A1) (a2 : Int32) (A2 : Int) (ha2 : a2.toInt = A2) (a3 : Int32) (A3 : Int) (ha3 : a3.toInt = A3) (sz : Nat) : MetV l yX0_seek cX0_seek 7 3 [.ref (A 13), .int 6, .int a1, .int a2, .int a3] D (tyl C) (cw C A) X0 u sz (fun u' => IC u' ∧ Un [(66, 66), (67, 67)] [(77, 77)] [] u u' ∧ True) := by
  refine mV (by decide) (Nat.le_of_ble_eq_true rfl) ?_
  intro p e s m below meth c ls ar Q hx hb hml hown hts hK hH hX hl hret
  have hown : s.vm.findClass RX0 = some m.cls := hown
  have hl : lv_has ls 7 [(0, .ref (A 13)), (1, .int 6), (2, .int a1), (3, .int a2), (4, .int a3)] := hl
  refine lv_iload hx hb dX0_seek_0 (lv_at hl 4 rfl) ?_
  have j11_6 : ∀ (ls : Array Slot), lv_has ls 7 [(0, .ref (A 13)), (1, .int 6), (3, .int a2)] → W p l e (rmL 3 0 0) s m ar below meth c s.heap [] 0 0 Q (F0 m 11 ls []) := by
    intro ls hl
    refine lv_aload_n hx hb dX0_seek_11 rfl (lv_at hl 0 rfl) ?_
    refine lv_iload_n hx hb dX0_seek_12 rfl (lv_at hl 1 rfl) ?_
    refine lv_iload_n hx hb dX0_seek_13 rfl (lv_at hl 2 rfl) ?_
    refine cvU (n := 2) (As := [.int 6, .int a2]) (rest := []) ⟨hx, hb, hml, hown, hts⟩ uc_in (kX0_keep_0 l D C A u hI (6) 6 (by decide) a2 A2 ha2 (by decide) (by decide) _) q_m892 q_n894 q_p35 q_i7 q_c895 hvX0_keep ⟨(Nat.le_of_ble_eq_true rfl), (Nat.le_of_ble_eq_true rfl)⟩ ⟨(Nat.le_of_ble_eq_true rfl), (Nat.le_of_ble_eq_true rfl)⟩ hK hH (fun q h => Or.inr h) Bl0 (fun _ _ _ => trivial) 0 13 rfl (cwc13 C A u) rfl hl.1 rfl (Nat.le_of_ble_eq_true rfl) dX0_seek_14 (fun u8 H locs p10 hH => ?_)
    obtain ⟨hI, hUu8, p10⟩ := p10
    exact hret _ _ _ _ _ dX0_seek_17 ⟨hI, (Un.tr Un.rf hUu8 rfl rfl rfl), trivial⟩ hH
  refine lv_if_eq (tgt := 11) hx hb dX0_seek_2 (by decide) (fun c1 => ?_) (fun c1 => ?_)
  · have c1 := cEQ (x := a3) (y := 0) (X := A3) (Y := 0) ha3 (by decide) c1
    exact j11_6 ls (lv_sub hl [0, 1, 3] rfl)
  · refine lv_iload_n hx hb dX0_seek_5 rfl (lv_at hl 1 rfl) ?_
    refine lv_bipush (v := 6) hx hb dX0_seek_6 (by decide) ?_
    refine lv_icmp_lt (tgt := 18) hx hb dX0_seek_8 (by decide) (fun c11 => absurd c11 (by decide)) (fun c11 => ?_)
    exact j11_6 ls (lv_sub hl [0, 1, 3] rfl)
set_option maxHeartbeats 4000000 in
set_option maxRecDepth 100000 in
theorem kX0_seek_5 (l : Launch) (D : va_G) (C : Nat → ClassId) (A : Nat → Nat) (u : St) (hI : IC u) (a1 : Int32) (A1 : Int) (ha1 : a1.toInt = A1) (a2 : Int32) (A2 : Int) (ha2 : a2.toInt = A2) (a3 : Int32) (A3 : Int) (ha3 : a3.toInt = A3) (sz : Nat) : MetV l yX0_seek cX0_seek 7 4 [.ref (A 13), .int 5, .int a1, .int a2, .int a3] D (tyl C) (cw C A) X0 u sz (fun u' => IC u' ∧ Un [(66, 66), (67, 67)] [(77, 77), (78, 78)] [] u u' ∧ True) := by
  refine mV (by decide) (Nat.le_of_ble_eq_true rfl) ?_
  intro p e s m below meth c ls ar Q hx hb hml hown hts hK hH hX hl hret
  have hown : s.vm.findClass RX0 = some m.cls := hown
  have hl : lv_has ls 7 [(0, .ref (A 13)), (1, .int 5), (2, .int a1), (3, .int a2), (4, .int a3)] := hl
  refine lv_iload hx hb dX0_seek_0 (lv_at hl 4 rfl) ?_
  refine lv_if_eq (tgt := 11) hx hb dX0_seek_2 (by decide) (fun c1 => ?_) (fun c1 => ?_)
  · have c1 := cEQ (x := a3) (y := 0) (X := A3) (Y := 0) ha3 (by decide) c1
    refine lv_aload_n hx hb dX0_seek_11 rfl (lv_at hl 0 rfl) ?_
    refine lv_iload_n hx hb dX0_seek_12 rfl (lv_at hl 1 rfl) ?_
    refine lv_iload_n hx hb dX0_seek_13 rfl (lv_at hl 3 rfl) ?_
    refine cvU (n := 2) (As := [.int 5, .int a2]) (rest := []) ⟨hx, hb, hml, hown, hts⟩ uc_in (kX0_keep_0 l D C A u hI (5) 5 (by decide) a2 A2 ha2 (by decide) (by decide) _) q_m892 q_n894 q_p35 q_i7 q_c895 hvX0_keep ⟨(Nat.le_of_ble_eq_true rfl), (Nat.le_of_ble_eq_true rfl)⟩ ⟨(Nat.le_of_ble_eq_true rfl), (Nat.le_of_ble_eq_true rfl)⟩ hK hH (fun q h => Or.inr h) Bl0 (fun _ _ _ => trivial) 0 13 rfl (cwc13 C A u) rfl hl.1 rfl (Nat.le_of_ble_eq_true rfl) dX0_seek_14 (fun u139 H locs p141 hH => ?_)
    obtain ⟨hI, hUu139, p141⟩ := p141
    exact hret _ _ _ _ _ dX0_seek_17 ⟨hI, (Un.tr Un.rf hUu139 rfl rfl rfl), trivial⟩ hH
  · refine lv_iload_n hx hb dX0_seek_5 rfl (lv_at hl 1 rfl) ?_
    refine lv_bipush (v := 6) hx hb dX0_seek_6 (by decide) ?_
    refine lv_icmp_lt (tgt := 18) hx hb dX0_seek_8 (by decide) (fun c142 => ?_) (fun c142 => absurd c142 (by decide))
    refine lv_iconst (v := 0) hx hb dX0_seek_18 (by decide) ?_
    refine lv_istore (lv' := [(5, .int 0), (0, .ref (A 13)), (1, .int 5), (2, .int a1), (3, .int a2), (4, .int a3)]) hx hb dX0_seek_19 hl (by decide) rfl (fun ls hl => ?_)
    have lp21_258 : ∀ (n21 : Nat) (ls : Array Slot) (y257d : Int32) (u258 : St) (H : Heap) (locs : List Loc), 0 ≤ y257d.toInt → y257d.toInt ≤ 6 → 6 - y257d.toInt < (n21 : Int) → Un [(66, 66), (67, 67)] [(77, 77), (78, 78)] [] u u258 → IC u258 → Hd D (cw C A) (va_A (cw C A u) s.heap.size) s.heap u258 H locs → lv_has ls 7 [(5, .int y257d), (0, .ref (A 13)), (1, .int 5), (2, .int a1), (3, .int a2), (4, .int a3)] → W p l e (rmL 4 0 0) s m ar below meth c H locs 0 0 Q (F0 m 21 ls []) := by
      intro n21
      induction n21 with
      | zero => intro ls y257d u258 H locs ly257d my257d hmun21 hUu258 hI hH hl; exfalso; omega
      | succ n21 ih21_258 =>
        intro ls y257d u258 H locs ly257d my257d hmun21 hUu258 hI hH hl
        refine lv_iload hx hb dX0_seek_21 (lv_at hl 0 rfl) ?_
        refine lv_bipush (v := 6) hx hb dX0_seek_23 (by decide) ?_
        refine lv_icmp_ge (tgt := 96) hx hb dX0_seek_25 (by decide) (fun c260 => ?_) (fun c260 => ?_)
        · have c260 := cLE (x := 6) (y := y257d) (X := 6) (Y := y257d.toInt) (by decide) rfl c260
          exact hret _ _ _ _ _ dX0_seek_96 ⟨hI, (Un.tr Un.rf hUu258 rfl rfl rfl), trivial⟩ hH
        · have c260 := cNLE (x := 6) (y := y257d) (X := 6) (Y := y257d.toInt) (by decide) rfl c260
          refine lv_iload hx hb dX0_seek_28 (lv_at hl 5 rfl) ?_
          refine lv_iload hx hb dX0_seek_30 (lv_at hl 0 rfl) ?_
          refine csS (n := 2) (As := [.int a3, .int y257d]) (rest := []) ⟨hx, hb, hml, hown, hts⟩ uc_in (kX5_has_0 l D C A u258 hI a3 A3 ha3 y257d y257d.toInt rfl) q_m896 q_s641 q_i4 q_c642 hvX5_has ⟨(Nat.le_of_ble_eq_true rfl), (Nat.le_of_ble_eq_true rfl)⟩ ⟨(Nat.le_of_ble_eq_true rfl), (Nat.le_of_ble_eq_true rfl)⟩ hK hH.1 rfl hl.1 rfl (Nat.le_of_ble_eq_true rfl) dX0_seek_32 (fun r261 p262 => ?_)
          have p262 : 0 ≤ r261.toInt ∧ r261.toInt ≤ 1 := p262
          have j90_279 : ∀ (ls : Array Slot) (u279 : St) (H : Heap) (locs : List Loc), Un [(66, 66), (67, 67)] [(77, 77), (78, 78)] [] u258 u279 → IC u279 → Hd D (cw C A) (va_A (cw C A u) s.heap.size) s.heap u279 H locs → lv_has ls 7 [(5, .int y257d), (0, .ref (A 13)), (1, .int 5), (2, .int a1), (3, .int a2), (4, .int a3)] → W p l e (rmL 4 0 0) s m ar below meth c H locs 0 0 Q (F0 m 90 ls []) := by
            intro ls u279 H locs hUu279 hI hH hl
            obtain ⟨z281, ez281⟩ : ∃ z, z = y257d + Int32.ofInt 1 := ⟨_, rfl⟩
            have hz281 : z281.toInt = y257d.toInt + 1 := by rw [ez281]; exact tt_add rfl (by decide) (by omega) (by omega)
            refine lv_iinc (v := z281) (lv' := [(5, .int z281), (0, .ref (A 13)), (1, .int 5), (2, .int a1), (3, .int a2), (4, .int a3)]) hx hb dX0_seek_90 hl (k := 0) rfl ez281.symm (by decide) rfl (fun ls hl => ?_)
            refine lv_goto (tgt := 21) hx hb dX0_seek_93 (by decide) ?_
            exact ih21_258 ls z281 u279 _ _ (by have q9 := (show z281.toInt = (y257d.toInt + 1) from hz281); omega) (by have q9 := (show z281.toInt = (y257d.toInt + 1) from hz281); omega) (by have q9 := (show z281.toInt = (y257d.toInt + 1) from hz281); omega) (Un.tr hUu258 hUu279 rfl rfl rfl) hI hH hl
          refine lv_if_eq (tgt := 90) hx hb dX0_seek_35 (by decide) (fun c263 => ?_) (fun c263 => ?_)
          · have c263 := cEQ (x := r261) (y := 0) (X := r261.toInt) (Y := 0) rfl (by decide) c263
            exact j90_279 ls u258 _ _ Un.rf hI hH hl
          · have c263 := cNE (x := r261) (y := 0) (X := r261.toInt) (Y := 0) rfl (by decide) c263
            refine lv_aload_n hx hb dX0_seek_38 rfl (lv_at hl 1 rfl) ?_
            refine lv_iload hx hb dX0_seek_39 (lv_at hl 0 rfl) ?_
            refine lv_iload_n hx hb dX0_seek_41 rfl (lv_at hl 3 rfl) ?_
            refine lv_iload_n hx hb dX0_seek_42 rfl (lv_at hl 4 rfl) ?_
            refine cvS (n := 3) (As := [.int y257d, .int a1, .int a2]) (rest := []) ⟨hx, hb, hml, hown, hts⟩ uc_in (kX0_hearAt_0 l D C A u258 hI y257d y257d.toInt rfl a1 A1 ha1 a2 A2 ha2 (by omega) (by omega)) q_m897 q_n899 q_p36 q_i7 q_c900 hvX0_hearAt ⟨(Nat.le_of_ble_eq_true rfl), (Nat.le_of_ble_eq_true rfl)⟩ ⟨(Nat.le_of_ble_eq_true rfl), (Nat.le_of_ble_eq_true rfl)⟩ hK hH.1 0 13 rfl (cwc13 C A u258) rfl hl.1 rfl (Nat.le_of_ble_eq_true rfl) dX0_seek_43 (fun r282 p283 => ?_)
            refine lv_istore (lv' := [(6, .int r282), (5, .int y257d), (0, .ref (A 13)), (1, .int 5), (2, .int a1), (3, .int a2), (4, .int a3)]) hx hb dX0_seek_46 hl (by decide) rfl (fun ls hl => ?_)
            refine lv_iload hx hb dX0_seek_48 (lv_at hl 0 rfl) ?_
            refine lv_aload_n hx hb dX0_seek_50 rfl (lv_at hl 2 rfl) ?_
            refine va_get (ci := 0) (v := .int (gi u258 66)) (C := RX0) (T := TX0) (N := 6) hx hb hts (fun w h => uc_in w (inX0 w h)) hown hK hH.1 13 (cwc13 C A u258) rfl 0 (by decide) (hts _ (uc_in _ q_f272)) (fun _ h9 => h9) rfl dX0_seek_51 ?_
            refine lv_icmp_ge (tgt := 90) hx hb dX0_seek_54 (by decide) (fun c284 => ?_) (fun c284 => ?_)
            · have c284 := cLE (x := (gi u258 66)) (y := r282) (X := ((gi u258 66)).toInt) (Y := r282.toInt) rfl rfl c284
              exact j90_279 ls u258 _ _ Un.rf hI hH (lv_sub hl [1, 2, 3, 4, 5, 6] rfl)
            · have c284 := cNLE (x := (gi u258 66)) (y := r282) (X := ((gi u258 66)).toInt) (Y := r282.toInt) rfl rfl c284
              refine lv_aload_n hx hb dX0_seek_57 rfl (lv_at hl 2 rfl) ?_
              refine va_get (ci := 0) (v := .ref (A 78)) (C := RX0) (T := TX0) (N := 6) hx hb hts (fun w h => uc_in w (inX0 w h)) hown hK hH.1 13 (cwc13 C A u258) rfl 3 (by decide) (hts _ (uc_in _ q_f278)) (fun _ h9 => h9) rfl dX0_seek_58 ?_
              refine lv_iload_n hx hb dX0_seek_61 rfl (lv_at hl 3 rfl) ?_
              refine lv_iload hx hb dX0_seek_62 (lv_at hl 1 rfl) ?_
              refine r_iast (j := 78) hx hb hK hH 78 1 (cwc78 C A u258) rfl (i_ix (X := 5) (by decide) (by decide) (by decide)) (cwa78 C A u258) dX0_seek_64 (fun u285 eu285 H locs hH => ?_)
              have hI := hI.pa0 eu285 (by decide)
              refine lv_aload_n hx hb dX0_seek_65 rfl (lv_at hl 2 rfl) ?_
              refine lv_iload_n hx hb dX0_seek_66 rfl (lv_at hl 3 rfl) ?_
              refine lv_iconst (v := 1) hx hb dX0_seek_67 (by decide) ?_
              refine lv_iadd hx hb dX0_seek_68 ?_
              refine pv_i (v := 6) (by decide) ?_
              refine lv_aload_n hx hb dX0_seek_69 rfl (lv_at hl 2 rfl) ?_
              refine va_get (ci := 0) (v := .ref (A 79)) (C := RX0) (T := TX0) (N := 6) hx hb hts (fun w h => uc_in w (inX0 w h)) hown hK hH.1 13 (cwc13 C A u285) rfl 4 (by decide) (hts _ (uc_in _ q_f279)) (fun _ h9 => h9) rfl dX0_seek_70 ?_
              refine lv_iload hx hb dX0_seek_73 (lv_at hl 1 rfl) ?_
              refine va_iald hx hb hK hH.1 79 1 (cwc79 C A u285) rfl (i_ix rfl (by omega) (by omega)) dX0_seek_75 ?_
              refine p_any (fun z286 => ?_)
              refine lv_iload hx hb dX0_seek_76 (lv_at hl 0 rfl) ?_
              refine lv_iload hx hb dX0_seek_78 (lv_at hl 6 rfl) ?_
              refine lv_iconst (v := 1) hx hb dX0_seek_80 (by decide) ?_
              refine lv_iload hx hb dX0_seek_81 (lv_at hl 1 rfl) ?_
              refine lv_ishl hx hb dX0_seek_83 ?_
              have gz287 := tt_shl1 (y := y257d) (Y := y257d.toInt) rfl (by omega) (by omega)
              refine p_bd (P := fun q => 1 ≤ q ∧ q ≤ 32) ⟨by omega, by omega⟩ (fun z288 bz288 => ?_)
              have bz288 : 1 ≤ z288.toInt ∧ z288.toInt ≤ 32 := bz288
              refine lv_iconst (v := (-1)) hx hb dX0_seek_84 (by decide) ?_
              refine lv_ixor hx hb dX0_seek_85 ?_
              refine p_any (fun z289 => ?_)
              refine lv_iand hx hb dX0_seek_86 ?_
              refine p_any (fun z290 => ?_)
              refine cvU (n := 4) (As := [.int 6, .int z286, .int r282, .int z290]) (rest := []) ⟨hx, hb, hml, hown, hts⟩ uc_in (kX0_seek_6 l D C A u285 hI z286 z286.toInt rfl r282 r282.toInt rfl z290 z290.toInt rfl _) q_m888 q_n890 q_p34 q_i7 q_c891 hvX0_seek ⟨(Nat.le_of_ble_eq_true rfl), (Nat.le_of_ble_eq_true rfl)⟩ ⟨(Nat.le_of_ble_eq_true rfl), (Nat.le_of_ble_eq_true rfl)⟩ hK hH (fun q h => Or.inr h) Bl0 (fun _ _ _ => trivial) 0 13 rfl (cwc13 C A u285) rfl hl.1 rfl (Nat.le_of_ble_eq_true rfl) dX0_seek_87 (fun u291 H locs p293 hH => ?_)
              obtain ⟨hI, hUu291, p293⟩ := p293
              exact j90_279 ls u291 _ _ (Un.tr (Un.sa Un.rf rfl eu285) hUu291 rfl rfl rfl) hI hH (lv_sub hl [1, 2, 3, 4, 5, 6] rfl)
    exact lp21_258 7 ls 0 u _ _ (by decide) (by decide) (by have q9 : (0 : Int32).toInt = 0 := (by decide); omega) Un.rf hI hH hl
set_option maxHeartbeats 4000000 in
set_option maxRecDepth 100000 in
theorem kX0_seek_4 (l : Launch) (D : va_G) (C : Nat → ClassId) (A : Nat → Nat) (u : St) (hI : IC u) (a1 : Int32) (A1 : Int) (ha1 : a1.toInt = A1) (a2 : Int32) (A2 : Int) (ha2 : a2.toInt = A2) (a3 : Int32) (A3 : Int) (ha3 : a3.toInt = A3) (sz : Nat) : MetV l yX0_seek cX0_seek 7 5 [.ref (A 13), .int 4, .int a1, .int a2, .int a3] D (tyl C) (cw C A) X0 u sz (fun u' => IC u' ∧ Un [(66, 66), (67, 67)] [(77, 77), (78, 78)] [] u u' ∧ True) := by
  refine mV (by decide) (Nat.le_of_ble_eq_true rfl) ?_
  intro p e s m below meth c ls ar Q hx hb hml hown hts hK hH hX hl hret
  have hown : s.vm.findClass RX0 = some m.cls := hown
  have hl : lv_has ls 7 [(0, .ref (A 13)), (1, .int 4), (2, .int a1), (3, .int a2), (4, .int a3)] := hl
  refine lv_iload hx hb dX0_seek_0 (lv_at hl 4 rfl) ?_
  refine lv_if_eq (tgt := 11) hx hb dX0_seek_2 (by decide) (fun c1 => ?_) (fun c1 => ?_)
  · have c1 := cEQ (x := a3) (y := 0) (X := A3) (Y := 0) ha3 (by decide) c1
    refine lv_aload_n hx hb dX0_seek_11 rfl (lv_at hl 0 rfl) ?_
    refine lv_iload_n hx hb dX0_seek_12 rfl (lv_at hl 1 rfl) ?_
    refine lv_iload_n hx hb dX0_seek_13 rfl (lv_at hl 3 rfl) ?_
    refine cvU (n := 2) (As := [.int 4, .int a2]) (rest := []) ⟨hx, hb, hml, hown, hts⟩ uc_in (kX0_keep_0 l D C A u hI (4) 4 (by decide) a2 A2 ha2 (by decide) (by decide) _) q_m892 q_n894 q_p35 q_i7 q_c895 hvX0_keep ⟨(Nat.le_of_ble_eq_true rfl), (Nat.le_of_ble_eq_true rfl)⟩ ⟨(Nat.le_of_ble_eq_true rfl), (Nat.le_of_ble_eq_true rfl)⟩ hK hH (fun q h => Or.inr h) Bl0 (fun _ _ _ => trivial) 0 13 rfl (cwc13 C A u) rfl hl.1 rfl (Nat.le_of_ble_eq_true rfl) dX0_seek_14 (fun u139 H locs p141 hH => ?_)
    obtain ⟨hI, hUu139, p141⟩ := p141
    exact hret _ _ _ _ _ dX0_seek_17 ⟨hI, (Un.tr Un.rf hUu139 rfl rfl rfl), trivial⟩ hH
  · refine lv_iload_n hx hb dX0_seek_5 rfl (lv_at hl 1 rfl) ?_
    refine lv_bipush (v := 6) hx hb dX0_seek_6 (by decide) ?_
    refine lv_icmp_lt (tgt := 18) hx hb dX0_seek_8 (by decide) (fun c142 => ?_) (fun c142 => absurd c142 (by decide))
    refine lv_iconst (v := 0) hx hb dX0_seek_18 (by decide) ?_
    refine lv_istore (lv' := [(5, .int 0), (0, .ref (A 13)), (1, .int 4), (2, .int a1), (3, .int a2), (4, .int a3)]) hx hb dX0_seek_19 hl (by decide) rfl (fun ls hl => ?_)
    have lp21_258 : ∀ (n21 : Nat) (ls : Array Slot) (y257d : Int32) (u258 : St) (H : Heap) (locs : List Loc), 0 ≤ y257d.toInt → y257d.toInt ≤ 6 → 6 - y257d.toInt < (n21 : Int) → Un [(66, 66), (67, 67)] [(77, 77), (78, 78)] [] u u258 → IC u258 → Hd D (cw C A) (va_A (cw C A u) s.heap.size) s.heap u258 H locs → lv_has ls 7 [(5, .int y257d), (0, .ref (A 13)), (1, .int 4), (2, .int a1), (3, .int a2), (4, .int a3)] → W p l e (rmL 5 0 0) s m ar below meth c H locs 0 0 Q (F0 m 21 ls []) := by
      intro n21
      induction n21 with
      | zero => intro ls y257d u258 H locs ly257d my257d hmun21 hUu258 hI hH hl; exfalso; omega
      | succ n21 ih21_258 =>
        intro ls y257d u258 H locs ly257d my257d hmun21 hUu258 hI hH hl
        refine lv_iload hx hb dX0_seek_21 (lv_at hl 0 rfl) ?_
        refine lv_bipush (v := 6) hx hb dX0_seek_23 (by decide) ?_
        refine lv_icmp_ge (tgt := 96) hx hb dX0_seek_25 (by decide) (fun c260 => ?_) (fun c260 => ?_)
        · have c260 := cLE (x := 6) (y := y257d) (X := 6) (Y := y257d.toInt) (by decide) rfl c260
          exact hret _ _ _ _ _ dX0_seek_96 ⟨hI, (Un.tr Un.rf hUu258 rfl rfl rfl), trivial⟩ hH
        · have c260 := cNLE (x := 6) (y := y257d) (X := 6) (Y := y257d.toInt) (by decide) rfl c260
          refine lv_iload hx hb dX0_seek_28 (lv_at hl 5 rfl) ?_
          refine lv_iload hx hb dX0_seek_30 (lv_at hl 0 rfl) ?_
          refine csS (n := 2) (As := [.int a3, .int y257d]) (rest := []) ⟨hx, hb, hml, hown, hts⟩ uc_in (kX5_has_0 l D C A u258 hI a3 A3 ha3 y257d y257d.toInt rfl) q_m896 q_s641 q_i4 q_c642 hvX5_has ⟨(Nat.le_of_ble_eq_true rfl), (Nat.le_of_ble_eq_true rfl)⟩ ⟨(Nat.le_of_ble_eq_true rfl), (Nat.le_of_ble_eq_true rfl)⟩ hK hH.1 rfl hl.1 rfl (Nat.le_of_ble_eq_true rfl) dX0_seek_32 (fun r261 p262 => ?_)
          have p262 : 0 ≤ r261.toInt ∧ r261.toInt ≤ 1 := p262
          have j90_279 : ∀ (ls : Array Slot) (u279 : St) (H : Heap) (locs : List Loc), Un [(66, 66), (67, 67)] [(77, 77), (78, 78)] [] u258 u279 → IC u279 → Hd D (cw C A) (va_A (cw C A u) s.heap.size) s.heap u279 H locs → lv_has ls 7 [(5, .int y257d), (0, .ref (A 13)), (1, .int 4), (2, .int a1), (3, .int a2), (4, .int a3)] → W p l e (rmL 5 0 0) s m ar below meth c H locs 0 0 Q (F0 m 90 ls []) := by
            intro ls u279 H locs hUu279 hI hH hl
            obtain ⟨z281, ez281⟩ : ∃ z, z = y257d + Int32.ofInt 1 := ⟨_, rfl⟩
            have hz281 : z281.toInt = y257d.toInt + 1 := by rw [ez281]; exact tt_add rfl (by decide) (by omega) (by omega)
            refine lv_iinc (v := z281) (lv' := [(5, .int z281), (0, .ref (A 13)), (1, .int 4), (2, .int a1), (3, .int a2), (4, .int a3)]) hx hb dX0_seek_90 hl (k := 0) rfl ez281.symm (by decide) rfl (fun ls hl => ?_)
            refine lv_goto (tgt := 21) hx hb dX0_seek_93 (by decide) ?_
            exact ih21_258 ls z281 u279 _ _ (by have q9 := (show z281.toInt = (y257d.toInt + 1) from hz281); omega) (by have q9 := (show z281.toInt = (y257d.toInt + 1) from hz281); omega) (by have q9 := (show z281.toInt = (y257d.toInt + 1) from hz281); omega) (Un.tr hUu258 hUu279 rfl rfl rfl) hI hH hl
          refine lv_if_eq (tgt := 90) hx hb dX0_seek_35 (by decide) (fun c263 => ?_) (fun c263 => ?_)
          · have c263 := cEQ (x := r261) (y := 0) (X := r261.toInt) (Y := 0) rfl (by decide) c263
            exact j90_279 ls u258 _ _ Un.rf hI hH hl
          · have c263 := cNE (x := r261) (y := 0) (X := r261.toInt) (Y := 0) rfl (by decide) c263
            refine lv_aload_n hx hb dX0_seek_38 rfl (lv_at hl 1 rfl) ?_
            refine lv_iload hx hb dX0_seek_39 (lv_at hl 0 rfl) ?_
            refine lv_iload_n hx hb dX0_seek_41 rfl (lv_at hl 3 rfl) ?_
            refine lv_iload_n hx hb dX0_seek_42 rfl (lv_at hl 4 rfl) ?_
            refine cvS (n := 3) (As := [.int y257d, .int a1, .int a2]) (rest := []) ⟨hx, hb, hml, hown, hts⟩ uc_in (kX0_hearAt_0 l D C A u258 hI y257d y257d.toInt rfl a1 A1 ha1 a2 A2 ha2 (by omega) (by omega)) q_m897 q_n899 q_p36 q_i7 q_c900 hvX0_hearAt ⟨(Nat.le_of_ble_eq_true rfl), (Nat.le_of_ble_eq_true rfl)⟩ ⟨(Nat.le_of_ble_eq_true rfl), (Nat.le_of_ble_eq_true rfl)⟩ hK hH.1 0 13 rfl (cwc13 C A u258) rfl hl.1 rfl (Nat.le_of_ble_eq_true rfl) dX0_seek_43 (fun r282 p283 => ?_)
            refine lv_istore (lv' := [(6, .int r282), (5, .int y257d), (0, .ref (A 13)), (1, .int 4), (2, .int a1), (3, .int a2), (4, .int a3)]) hx hb dX0_seek_46 hl (by decide) rfl (fun ls hl => ?_)
            refine lv_iload hx hb dX0_seek_48 (lv_at hl 0 rfl) ?_
            refine lv_aload_n hx hb dX0_seek_50 rfl (lv_at hl 2 rfl) ?_
            refine va_get (ci := 0) (v := .int (gi u258 66)) (C := RX0) (T := TX0) (N := 6) hx hb hts (fun w h => uc_in w (inX0 w h)) hown hK hH.1 13 (cwc13 C A u258) rfl 0 (by decide) (hts _ (uc_in _ q_f272)) (fun _ h9 => h9) rfl dX0_seek_51 ?_
            refine lv_icmp_ge (tgt := 90) hx hb dX0_seek_54 (by decide) (fun c284 => ?_) (fun c284 => ?_)
            · have c284 := cLE (x := (gi u258 66)) (y := r282) (X := ((gi u258 66)).toInt) (Y := r282.toInt) rfl rfl c284
              exact j90_279 ls u258 _ _ Un.rf hI hH (lv_sub hl [1, 2, 3, 4, 5, 6] rfl)
            · have c284 := cNLE (x := (gi u258 66)) (y := r282) (X := ((gi u258 66)).toInt) (Y := r282.toInt) rfl rfl c284
              refine lv_aload_n hx hb dX0_seek_57 rfl (lv_at hl 2 rfl) ?_
              refine va_get (ci := 0) (v := .ref (A 78)) (C := RX0) (T := TX0) (N := 6) hx hb hts (fun w h => uc_in w (inX0 w h)) hown hK hH.1 13 (cwc13 C A u258) rfl 3 (by decide) (hts _ (uc_in _ q_f278)) (fun _ h9 => h9) rfl dX0_seek_58 ?_
              refine lv_iload_n hx hb dX0_seek_61 rfl (lv_at hl 3 rfl) ?_
              refine lv_iload hx hb dX0_seek_62 (lv_at hl 1 rfl) ?_
              refine r_iast (j := 78) hx hb hK hH 78 1 (cwc78 C A u258) rfl (i_ix (X := 4) (by decide) (by decide) (by decide)) (cwa78 C A u258) dX0_seek_64 (fun u285 eu285 H locs hH => ?_)
              have hI := hI.pa0 eu285 (by decide)
              refine lv_aload_n hx hb dX0_seek_65 rfl (lv_at hl 2 rfl) ?_
              refine lv_iload_n hx hb dX0_seek_66 rfl (lv_at hl 3 rfl) ?_
              refine lv_iconst (v := 1) hx hb dX0_seek_67 (by decide) ?_
              refine lv_iadd hx hb dX0_seek_68 ?_
              refine pv_i (v := 5) (by decide) ?_
              refine lv_aload_n hx hb dX0_seek_69 rfl (lv_at hl 2 rfl) ?_
              refine va_get (ci := 0) (v := .ref (A 79)) (C := RX0) (T := TX0) (N := 6) hx hb hts (fun w h => uc_in w (inX0 w h)) hown hK hH.1 13 (cwc13 C A u285) rfl 4 (by decide) (hts _ (uc_in _ q_f279)) (fun _ h9 => h9) rfl dX0_seek_70 ?_
              refine lv_iload hx hb dX0_seek_73 (lv_at hl 1 rfl) ?_
              refine va_iald hx hb hK hH.1 79 1 (cwc79 C A u285) rfl (i_ix rfl (by omega) (by omega)) dX0_seek_75 ?_
              refine p_any (fun z286 => ?_)
              refine lv_iload hx hb dX0_seek_76 (lv_at hl 0 rfl) ?_
              refine lv_iload hx hb dX0_seek_78 (lv_at hl 6 rfl) ?_
              refine lv_iconst (v := 1) hx hb dX0_seek_80 (by decide) ?_
              refine lv_iload hx hb dX0_seek_81 (lv_at hl 1 rfl) ?_
              refine lv_ishl hx hb dX0_seek_83 ?_
              have gz287 := tt_shl1 (y := y257d) (Y := y257d.toInt) rfl (by omega) (by omega)
              refine p_bd (P := fun q => 1 ≤ q ∧ q ≤ 32) ⟨by omega, by omega⟩ (fun z288 bz288 => ?_)
              have bz288 : 1 ≤ z288.toInt ∧ z288.toInt ≤ 32 := bz288
              refine lv_iconst (v := (-1)) hx hb dX0_seek_84 (by decide) ?_
              refine lv_ixor hx hb dX0_seek_85 ?_
              refine p_any (fun z289 => ?_)
              refine lv_iand hx hb dX0_seek_86 ?_
              refine p_any (fun z290 => ?_)
              refine cvU (n := 4) (As := [.int 5, .int z286, .int r282, .int z290]) (rest := []) ⟨hx, hb, hml, hown, hts⟩ uc_in (kX0_seek_5 l D C A u285 hI z286 z286.toInt rfl r282 r282.toInt rfl z290 z290.toInt rfl _) q_m888 q_n890 q_p34 q_i7 q_c891 hvX0_seek ⟨(Nat.le_of_ble_eq_true rfl), (Nat.le_of_ble_eq_true rfl)⟩ ⟨(Nat.le_of_ble_eq_true rfl), (Nat.le_of_ble_eq_true rfl)⟩ hK hH (fun q h => Or.inr h) Bl0 (fun _ _ _ => trivial) 0 13 rfl (cwc13 C A u285) rfl hl.1 rfl (Nat.le_of_ble_eq_true rfl) dX0_seek_87 (fun u291 H locs p293 hH => ?_)
              obtain ⟨hI, hUu291, p293⟩ := p293
              exact j90_279 ls u291 _ _ (Un.tr (Un.sa Un.rf rfl eu285) hUu291 rfl rfl rfl) hI hH (lv_sub hl [1, 2, 3, 4, 5, 6] rfl)
    exact lp21_258 7 ls 0 u _ _ (by decide) (by decide) (by have q9 : (0 : Int32).toInt = 0 := (by decide); omega) Un.rf hI hH hl
set_option maxHeartbeats 4000000 in
set_option maxRecDepth 100000 in
theorem kX0_seek_3 (l : Launch) (D : va_G) (C : Nat → ClassId) (A : Nat → Nat) (u : St) (hI : IC u) (a1 : Int32) (A1 : Int) (ha1 : a1.toInt = A1) (a2 : Int32) (A2 : Int) (ha2 : a2.toInt = A2) (a3 : Int32) (A3 : Int) (ha3 : a3.toInt = A3) (sz : Nat) : MetV l yX0_seek cX0_seek 7 6 [.ref (A 13), .int 3, .int a1, .int a2, .int a3] D (tyl C) (cw C A) X0 u sz (fun u' => IC u' ∧ Un [(66, 66), (67, 67)] [(77, 77), (78, 78)] [] u u' ∧ True) := by
  refine mV (by decide) (Nat.le_of_ble_eq_true rfl) ?_
  intro p e s m below meth c ls ar Q hx hb hml hown hts hK hH hX hl hret
  have hown : s.vm.findClass RX0 = some m.cls := hown
  have hl : lv_has ls 7 [(0, .ref (A 13)), (1, .int 3), (2, .int a1), (3, .int a2), (4, .int a3)] := hl
  refine lv_iload hx hb dX0_seek_0 (lv_at hl 4 rfl) ?_
  refine lv_if_eq (tgt := 11) hx hb dX0_seek_2 (by decide) (fun c1 => ?_) (fun c1 => ?_)
  · have c1 := cEQ (x := a3) (y := 0) (X := A3) (Y := 0) ha3 (by decide) c1
    refine lv_aload_n hx hb dX0_seek_11 rfl (lv_at hl 0 rfl) ?_
    refine lv_iload_n hx hb dX0_seek_12 rfl (lv_at hl 1 rfl) ?_
    refine lv_iload_n hx hb dX0_seek_13 rfl (lv_at hl 3 rfl) ?_
    refine cvU (n := 2) (As := [.int 3, .int a2]) (rest := []) ⟨hx, hb, hml, hown, hts⟩ uc_in (kX0_keep_0 l D C A u hI (3) 3 (by decide) a2 A2 ha2 (by decide) (by decide) _) q_m892 q_n894 q_p35 q_i7 q_c895 hvX0_keep ⟨(Nat.le_of_ble_eq_true rfl), (Nat.le_of_ble_eq_true rfl)⟩ ⟨(Nat.le_of_ble_eq_true rfl), (Nat.le_of_ble_eq_true rfl)⟩ hK hH (fun q h => Or.inr h) Bl0 (fun _ _ _ => trivial) 0 13 rfl (cwc13 C A u) rfl hl.1 rfl (Nat.le_of_ble_eq_true rfl) dX0_seek_14 (fun u139 H locs p141 hH => ?_)
    obtain ⟨hI, hUu139, p141⟩ := p141
    exact hret _ _ _ _ _ dX0_seek_17 ⟨hI, (Un.tr Un.rf hUu139 rfl rfl rfl), trivial⟩ hH
  · refine lv_iload_n hx hb dX0_seek_5 rfl (lv_at hl 1 rfl) ?_
    refine lv_bipush (v := 6) hx hb dX0_seek_6 (by decide) ?_
    refine lv_icmp_lt (tgt := 18) hx hb dX0_seek_8 (by decide) (fun c142 => ?_) (fun c142 => absurd c142 (by decide))
    refine lv_iconst (v := 0) hx hb dX0_seek_18 (by decide) ?_
    refine lv_istore (lv' := [(5, .int 0), (0, .ref (A 13)), (1, .int 3), (2, .int a1), (3, .int a2), (4, .int a3)]) hx hb dX0_seek_19 hl (by decide) rfl (fun ls hl => ?_)
    have lp21_258 : ∀ (n21 : Nat) (ls : Array Slot) (y257d : Int32) (u258 : St) (H : Heap) (locs : List Loc), 0 ≤ y257d.toInt → y257d.toInt ≤ 6 → 6 - y257d.toInt < (n21 : Int) → Un [(66, 66), (67, 67)] [(77, 77), (78, 78)] [] u u258 → IC u258 → Hd D (cw C A) (va_A (cw C A u) s.heap.size) s.heap u258 H locs → lv_has ls 7 [(5, .int y257d), (0, .ref (A 13)), (1, .int 3), (2, .int a1), (3, .int a2), (4, .int a3)] → W p l e (rmL 6 0 0) s m ar below meth c H locs 0 0 Q (F0 m 21 ls []) := by
      intro n21
      induction n21 with
      | zero => intro ls y257d u258 H locs ly257d my257d hmun21 hUu258 hI hH hl; exfalso; omega
      | succ n21 ih21_258 =>
        intro ls y257d u258 H locs ly257d my257d hmun21 hUu258 hI hH hl
        refine lv_iload hx hb dX0_seek_21 (lv_at hl 0 rfl) ?_
        refine lv_bipush (v := 6) hx hb dX0_seek_23 (by decide) ?_
        refine lv_icmp_ge (tgt := 96) hx hb dX0_seek_25 (by decide) (fun c260 => ?_) (fun c260 => ?_)
        · have c260 := cLE (x := 6) (y := y257d) (X := 6) (Y := y257d.toInt) (by decide) rfl c260
          exact hret _ _ _ _ _ dX0_seek_96 ⟨hI, (Un.tr Un.rf hUu258 rfl rfl rfl), trivial⟩ hH
        · have c260 := cNLE (x := 6) (y := y257d) (X := 6) (Y := y257d.toInt) (by decide) rfl c260
          refine lv_iload hx hb dX0_seek_28 (lv_at hl 5 rfl) ?_
          refine lv_iload hx hb dX0_seek_30 (lv_at hl 0 rfl) ?_
          refine csS (n := 2) (As := [.int a3, .int y257d]) (rest := []) ⟨hx, hb, hml, hown, hts⟩ uc_in (kX5_has_0 l D C A u258 hI a3 A3 ha3 y257d y257d.toInt rfl) q_m896 q_s641 q_i4 q_c642 hvX5_has ⟨(Nat.le_of_ble_eq_true rfl), (Nat.le_of_ble_eq_true rfl)⟩ ⟨(Nat.le_of_ble_eq_true rfl), (Nat.le_of_ble_eq_true rfl)⟩ hK hH.1 rfl hl.1 rfl (Nat.le_of_ble_eq_true rfl) dX0_seek_32 (fun r261 p262 => ?_)
          have p262 : 0 ≤ r261.toInt ∧ r261.toInt ≤ 1 := p262
          have j90_279 : ∀ (ls : Array Slot) (u279 : St) (H : Heap) (locs : List Loc), Un [(66, 66), (67, 67)] [(77, 77), (78, 78)] [] u258 u279 → IC u279 → Hd D (cw C A) (va_A (cw C A u) s.heap.size) s.heap u279 H locs → lv_has ls 7 [(5, .int y257d), (0, .ref (A 13)), (1, .int 3), (2, .int a1), (3, .int a2), (4, .int a3)] → W p l e (rmL 6 0 0) s m ar below meth c H locs 0 0 Q (F0 m 90 ls []) := by
            intro ls u279 H locs hUu279 hI hH hl
            obtain ⟨z281, ez281⟩ : ∃ z, z = y257d + Int32.ofInt 1 := ⟨_, rfl⟩
            have hz281 : z281.toInt = y257d.toInt + 1 := by rw [ez281]; exact tt_add rfl (by decide) (by omega) (by omega)
            refine lv_iinc (v := z281) (lv' := [(5, .int z281), (0, .ref (A 13)), (1, .int 3), (2, .int a1), (3, .int a2), (4, .int a3)]) hx hb dX0_seek_90 hl (k := 0) rfl ez281.symm (by decide) rfl (fun ls hl => ?_)
            refine lv_goto (tgt := 21) hx hb dX0_seek_93 (by decide) ?_
            exact ih21_258 ls z281 u279 _ _ (by have q9 := (show z281.toInt = (y257d.toInt + 1) from hz281); omega) (by have q9 := (show z281.toInt = (y257d.toInt + 1) from hz281); omega) (by have q9 := (show z281.toInt = (y257d.toInt + 1) from hz281); omega) (Un.tr hUu258 hUu279 rfl rfl rfl) hI hH hl
          refine lv_if_eq (tgt := 90) hx hb dX0_seek_35 (by decide) (fun c263 => ?_) (fun c263 => ?_)
          · have c263 := cEQ (x := r261) (y := 0) (X := r261.toInt) (Y := 0) rfl (by decide) c263
            exact j90_279 ls u258 _ _ Un.rf hI hH hl
          · have c263 := cNE (x := r261) (y := 0) (X := r261.toInt) (Y := 0) rfl (by decide) c263
            refine lv_aload_n hx hb dX0_seek_38 rfl (lv_at hl 1 rfl) ?_
            refine lv_iload hx hb dX0_seek_39 (lv_at hl 0 rfl) ?_
            refine lv_iload_n hx hb dX0_seek_41 rfl (lv_at hl 3 rfl) ?_
            refine lv_iload_n hx hb dX0_seek_42 rfl (lv_at hl 4 rfl) ?_
            refine cvS (n := 3) (As := [.int y257d, .int a1, .int a2]) (rest := []) ⟨hx, hb, hml, hown, hts⟩ uc_in (kX0_hearAt_0 l D C A u258 hI y257d y257d.toInt rfl a1 A1 ha1 a2 A2 ha2 (by omega) (by omega)) q_m897 q_n899 q_p36 q_i7 q_c900 hvX0_hearAt ⟨(Nat.le_of_ble_eq_true rfl), (Nat.le_of_ble_eq_true rfl)⟩ ⟨(Nat.le_of_ble_eq_true rfl), (Nat.le_of_ble_eq_true rfl)⟩ hK hH.1 0 13 rfl (cwc13 C A u258) rfl hl.1 rfl (Nat.le_of_ble_eq_true rfl) dX0_seek_43 (fun r282 p283 => ?_)
            refine lv_istore (lv' := [(6, .int r282), (5, .int y257d), (0, .ref (A 13)), (1, .int 3), (2, .int a1), (3, .int a2), (4, .int a3)]) hx hb dX0_seek_46 hl (by decide) rfl (fun ls hl => ?_)
            refine lv_iload hx hb dX0_seek_48 (lv_at hl 0 rfl) ?_
            refine lv_aload_n hx hb dX0_seek_50 rfl (lv_at hl 2 rfl) ?_
            refine va_get (ci := 0) (v := .int (gi u258 66)) (C := RX0) (T := TX0) (N := 6) hx hb hts (fun w h => uc_in w (inX0 w h)) hown hK hH.1 13 (cwc13 C A u258) rfl 0 (by decide) (hts _ (uc_in _ q_f272)) (fun _ h9 => h9) rfl dX0_seek_51 ?_
            refine lv_icmp_ge (tgt := 90) hx hb dX0_seek_54 (by decide) (fun c284 => ?_) (fun c284 => ?_)
            · have c284 := cLE (x := (gi u258 66)) (y := r282) (X := ((gi u258 66)).toInt) (Y := r282.toInt) rfl rfl c284
              exact j90_279 ls u258 _ _ Un.rf hI hH (lv_sub hl [1, 2, 3, 4, 5, 6] rfl)
            · have c284 := cNLE (x := (gi u258 66)) (y := r282) (X := ((gi u258 66)).toInt) (Y := r282.toInt) rfl rfl c284
              refine lv_aload_n hx hb dX0_seek_57 rfl (lv_at hl 2 rfl) ?_
              refine va_get (ci := 0) (v := .ref (A 78)) (C := RX0) (T := TX0) (N := 6) hx hb hts (fun w h => uc_in w (inX0 w h)) hown hK hH.1 13 (cwc13 C A u258) rfl 3 (by decide) (hts _ (uc_in _ q_f278)) (fun _ h9 => h9) rfl dX0_seek_58 ?_
              refine lv_iload_n hx hb dX0_seek_61 rfl (lv_at hl 3 rfl) ?_
              refine lv_iload hx hb dX0_seek_62 (lv_at hl 1 rfl) ?_
              refine r_iast (j := 78) hx hb hK hH 78 1 (cwc78 C A u258) rfl (i_ix (X := 3) (by decide) (by decide) (by decide)) (cwa78 C A u258) dX0_seek_64 (fun u285 eu285 H locs hH => ?_)
              have hI := hI.pa0 eu285 (by decide)
              refine lv_aload_n hx hb dX0_seek_65 rfl (lv_at hl 2 rfl) ?_
              refine lv_iload_n hx hb dX0_seek_66 rfl (lv_at hl 3 rfl) ?_
              refine lv_iconst (v := 1) hx hb dX0_seek_67 (by decide) ?_
              refine lv_iadd hx hb dX0_seek_68 ?_
              refine pv_i (v := 4) (by decide) ?_
              refine lv_aload_n hx hb dX0_seek_69 rfl (lv_at hl 2 rfl) ?_
              refine va_get (ci := 0) (v := .ref (A 79)) (C := RX0) (T := TX0) (N := 6) hx hb hts (fun w h => uc_in w (inX0 w h)) hown hK hH.1 13 (cwc13 C A u285) rfl 4 (by decide) (hts _ (uc_in _ q_f279)) (fun _ h9 => h9) rfl dX0_seek_70 ?_
              refine lv_iload hx hb dX0_seek_73 (lv_at hl 1 rfl) ?_
              refine va_iald hx hb hK hH.1 79 1 (cwc79 C A u285) rfl (i_ix rfl (by omega) (by omega)) dX0_seek_75 ?_
              refine p_any (fun z286 => ?_)
              refine lv_iload hx hb dX0_seek_76 (lv_at hl 0 rfl) ?_
              refine lv_iload hx hb dX0_seek_78 (lv_at hl 6 rfl) ?_
              refine lv_iconst (v := 1) hx hb dX0_seek_80 (by decide) ?_
              refine lv_iload hx hb dX0_seek_81 (lv_at hl 1 rfl) ?_
              refine lv_ishl hx hb dX0_seek_83 ?_
              have gz287 := tt_shl1 (y := y257d) (Y := y257d.toInt) rfl (by omega) (by omega)
              refine p_bd (P := fun q => 1 ≤ q ∧ q ≤ 32) ⟨by omega, by omega⟩ (fun z288 bz288 => ?_)
              have bz288 : 1 ≤ z288.toInt ∧ z288.toInt ≤ 32 := bz288
              refine lv_iconst (v := (-1)) hx hb dX0_seek_84 (by decide) ?_
              refine lv_ixor hx hb dX0_seek_85 ?_
              refine p_any (fun z289 => ?_)
              refine lv_iand hx hb dX0_seek_86 ?_
              refine p_any (fun z290 => ?_)
              refine cvU (n := 4) (As := [.int 4, .int z286, .int r282, .int z290]) (rest := []) ⟨hx, hb, hml, hown, hts⟩ uc_in (kX0_seek_4 l D C A u285 hI z286 z286.toInt rfl r282 r282.toInt rfl z290 z290.toInt rfl _) q_m888 q_n890 q_p34 q_i7 q_c891 hvX0_seek ⟨(Nat.le_of_ble_eq_true rfl), (Nat.le_of_ble_eq_true rfl)⟩ ⟨(Nat.le_of_ble_eq_true rfl), (Nat.le_of_ble_eq_true rfl)⟩ hK hH (fun q h => Or.inr h) Bl0 (fun _ _ _ => trivial) 0 13 rfl (cwc13 C A u285) rfl hl.1 rfl (Nat.le_of_ble_eq_true rfl) dX0_seek_87 (fun u291 H locs p293 hH => ?_)
              obtain ⟨hI, hUu291, p293⟩ := p293
              exact j90_279 ls u291 _ _ (Un.tr (Un.sa Un.rf rfl eu285) hUu291 rfl rfl rfl) hI hH (lv_sub hl [1, 2, 3, 4, 5, 6] rfl)
    exact lp21_258 7 ls 0 u _ _ (by decide) (by decide) (by have q9 : (0 : Int32).toInt = 0 := (by decide); omega) Un.rf hI hH hl
set_option maxHeartbeats 4000000 in
set_option maxRecDepth 100000 in
theorem kX0_seek_2 (l : Launch) (D : va_G) (C : Nat → ClassId) (A : Nat → Nat) (u : St) (hI : IC u) (a1 : Int32) (A1 : Int) (ha1 : a1.toInt = A1) (a2 : Int32) (A2 : Int) (ha2 : a2.toInt = A2) (a3 : Int32) (A3 : Int) (ha3 : a3.toInt = A3) (sz : Nat) : MetV l yX0_seek cX0_seek 7 7 [.ref (A 13), .int 2, .int a1, .int a2, .int a3] D (tyl C) (cw C A) X0 u sz (fun u' => IC u' ∧ Un [(66, 66), (67, 67)] [(77, 77), (78, 78)] [] u u' ∧ True) := by
  refine mV (by decide) (Nat.le_of_ble_eq_true rfl) ?_
  intro p e s m below meth c ls ar Q hx hb hml hown hts hK hH hX hl hret
  have hown : s.vm.findClass RX0 = some m.cls := hown
  have hl : lv_has ls 7 [(0, .ref (A 13)), (1, .int 2), (2, .int a1), (3, .int a2), (4, .int a3)] := hl
  refine lv_iload hx hb dX0_seek_0 (lv_at hl 4 rfl) ?_
  refine lv_if_eq (tgt := 11) hx hb dX0_seek_2 (by decide) (fun c1 => ?_) (fun c1 => ?_)
  · have c1 := cEQ (x := a3) (y := 0) (X := A3) (Y := 0) ha3 (by decide) c1
    refine lv_aload_n hx hb dX0_seek_11 rfl (lv_at hl 0 rfl) ?_
    refine lv_iload_n hx hb dX0_seek_12 rfl (lv_at hl 1 rfl) ?_
    refine lv_iload_n hx hb dX0_seek_13 rfl (lv_at hl 3 rfl) ?_
    refine cvU (n := 2) (As := [.int 2, .int a2]) (rest := []) ⟨hx, hb, hml, hown, hts⟩ uc_in (kX0_keep_0 l D C A u hI (2) 2 (by decide) a2 A2 ha2 (by decide) (by decide) _) q_m892 q_n894 q_p35 q_i7 q_c895 hvX0_keep ⟨(Nat.le_of_ble_eq_true rfl), (Nat.le_of_ble_eq_true rfl)⟩ ⟨(Nat.le_of_ble_eq_true rfl), (Nat.le_of_ble_eq_true rfl)⟩ hK hH (fun q h => Or.inr h) Bl0 (fun _ _ _ => trivial) 0 13 rfl (cwc13 C A u) rfl hl.1 rfl (Nat.le_of_ble_eq_true rfl) dX0_seek_14 (fun u139 H locs p141 hH => ?_)
    obtain ⟨hI, hUu139, p141⟩ := p141
    exact hret _ _ _ _ _ dX0_seek_17 ⟨hI, (Un.tr Un.rf hUu139 rfl rfl rfl), trivial⟩ hH
  · refine lv_iload_n hx hb dX0_seek_5 rfl (lv_at hl 1 rfl) ?_
    refine lv_bipush (v := 6) hx hb dX0_seek_6 (by decide) ?_
    refine lv_icmp_lt (tgt := 18) hx hb dX0_seek_8 (by decide) (fun c142 => ?_) (fun c142 => absurd c142 (by decide))
    refine lv_iconst (v := 0) hx hb dX0_seek_18 (by decide) ?_
    refine lv_istore (lv' := [(5, .int 0), (0, .ref (A 13)), (1, .int 2), (2, .int a1), (3, .int a2), (4, .int a3)]) hx hb dX0_seek_19 hl (by decide) rfl (fun ls hl => ?_)
    have lp21_258 : ∀ (n21 : Nat) (ls : Array Slot) (y257d : Int32) (u258 : St) (H : Heap) (locs : List Loc), 0 ≤ y257d.toInt → y257d.toInt ≤ 6 → 6 - y257d.toInt < (n21 : Int) → Un [(66, 66), (67, 67)] [(77, 77), (78, 78)] [] u u258 → IC u258 → Hd D (cw C A) (va_A (cw C A u) s.heap.size) s.heap u258 H locs → lv_has ls 7 [(5, .int y257d), (0, .ref (A 13)), (1, .int 2), (2, .int a1), (3, .int a2), (4, .int a3)] → W p l e (rmL 7 0 0) s m ar below meth c H locs 0 0 Q (F0 m 21 ls []) := by
      intro n21
      induction n21 with
      | zero => intro ls y257d u258 H locs ly257d my257d hmun21 hUu258 hI hH hl; exfalso; omega
      | succ n21 ih21_258 =>
        intro ls y257d u258 H locs ly257d my257d hmun21 hUu258 hI hH hl
        refine lv_iload hx hb dX0_seek_21 (lv_at hl 0 rfl) ?_
        refine lv_bipush (v := 6) hx hb dX0_seek_23 (by decide) ?_
        refine lv_icmp_ge (tgt := 96) hx hb dX0_seek_25 (by decide) (fun c260 => ?_) (fun c260 => ?_)
        · have c260 := cLE (x := 6) (y := y257d) (X := 6) (Y := y257d.toInt) (by decide) rfl c260
          exact hret _ _ _ _ _ dX0_seek_96 ⟨hI, (Un.tr Un.rf hUu258 rfl rfl rfl), trivial⟩ hH
        · have c260 := cNLE (x := 6) (y := y257d) (X := 6) (Y := y257d.toInt) (by decide) rfl c260
          refine lv_iload hx hb dX0_seek_28 (lv_at hl 5 rfl) ?_
          refine lv_iload hx hb dX0_seek_30 (lv_at hl 0 rfl) ?_
          refine csS (n := 2) (As := [.int a3, .int y257d]) (rest := []) ⟨hx, hb, hml, hown, hts⟩ uc_in (kX5_has_0 l D C A u258 hI a3 A3 ha3 y257d y257d.toInt rfl) q_m896 q_s641 q_i4 q_c642 hvX5_has ⟨(Nat.le_of_ble_eq_true rfl), (Nat.le_of_ble_eq_true rfl)⟩ ⟨(Nat.le_of_ble_eq_true rfl), (Nat.le_of_ble_eq_true rfl)⟩ hK hH.1 rfl hl.1 rfl (Nat.le_of_ble_eq_true rfl) dX0_seek_32 (fun r261 p262 => ?_)
          have p262 : 0 ≤ r261.toInt ∧ r261.toInt ≤ 1 := p262
          have j90_279 : ∀ (ls : Array Slot) (u279 : St) (H : Heap) (locs : List Loc), Un [(66, 66), (67, 67)] [(77, 77), (78, 78)] [] u258 u279 → IC u279 → Hd D (cw C A) (va_A (cw C A u) s.heap.size) s.heap u279 H locs → lv_has ls 7 [(5, .int y257d), (0, .ref (A 13)), (1, .int 2), (2, .int a1), (3, .int a2), (4, .int a3)] → W p l e (rmL 7 0 0) s m ar below meth c H locs 0 0 Q (F0 m 90 ls []) := by
            intro ls u279 H locs hUu279 hI hH hl
            obtain ⟨z281, ez281⟩ : ∃ z, z = y257d + Int32.ofInt 1 := ⟨_, rfl⟩
            have hz281 : z281.toInt = y257d.toInt + 1 := by rw [ez281]; exact tt_add rfl (by decide) (by omega) (by omega)
            refine lv_iinc (v := z281) (lv' := [(5, .int z281), (0, .ref (A 13)), (1, .int 2), (2, .int a1), (3, .int a2), (4, .int a3)]) hx hb dX0_seek_90 hl (k := 0) rfl ez281.symm (by decide) rfl (fun ls hl => ?_)
            refine lv_goto (tgt := 21) hx hb dX0_seek_93 (by decide) ?_
            exact ih21_258 ls z281 u279 _ _ (by have q9 := (show z281.toInt = (y257d.toInt + 1) from hz281); omega) (by have q9 := (show z281.toInt = (y257d.toInt + 1) from hz281); omega) (by have q9 := (show z281.toInt = (y257d.toInt + 1) from hz281); omega) (Un.tr hUu258 hUu279 rfl rfl rfl) hI hH hl
          refine lv_if_eq (tgt := 90) hx hb dX0_seek_35 (by decide) (fun c263 => ?_) (fun c263 => ?_)
          · have c263 := cEQ (x := r261) (y := 0) (X := r261.toInt) (Y := 0) rfl (by decide) c263
            exact j90_279 ls u258 _ _ Un.rf hI hH hl
          · have c263 := cNE (x := r261) (y := 0) (X := r261.toInt) (Y := 0) rfl (by decide) c263
            refine lv_aload_n hx hb dX0_seek_38 rfl (lv_at hl 1 rfl) ?_
            refine lv_iload hx hb dX0_seek_39 (lv_at hl 0 rfl) ?_
            refine lv_iload_n hx hb dX0_seek_41 rfl (lv_at hl 3 rfl) ?_
            refine lv_iload_n hx hb dX0_seek_42 rfl (lv_at hl 4 rfl) ?_
            refine cvS (n := 3) (As := [.int y257d, .int a1, .int a2]) (rest := []) ⟨hx, hb, hml, hown, hts⟩ uc_in (kX0_hearAt_0 l D C A u258 hI y257d y257d.toInt rfl a1 A1 ha1 a2 A2 ha2 (by omega) (by omega)) q_m897 q_n899 q_p36 q_i7 q_c900 hvX0_hearAt ⟨(Nat.le_of_ble_eq_true rfl), (Nat.le_of_ble_eq_true rfl)⟩ ⟨(Nat.le_of_ble_eq_true rfl), (Nat.le_of_ble_eq_true rfl)⟩ hK hH.1 0 13 rfl (cwc13 C A u258) rfl hl.1 rfl (Nat.le_of_ble_eq_true rfl) dX0_seek_43 (fun r282 p283 => ?_)
            refine lv_istore (lv' := [(6, .int r282), (5, .int y257d), (0, .ref (A 13)), (1, .int 2), (2, .int a1), (3, .int a2), (4, .int a3)]) hx hb dX0_seek_46 hl (by decide) rfl (fun ls hl => ?_)
            refine lv_iload hx hb dX0_seek_48 (lv_at hl 0 rfl) ?_
            refine lv_aload_n hx hb dX0_seek_50 rfl (lv_at hl 2 rfl) ?_
            refine va_get (ci := 0) (v := .int (gi u258 66)) (C := RX0) (T := TX0) (N := 6) hx hb hts (fun w h => uc_in w (inX0 w h)) hown hK hH.1 13 (cwc13 C A u258) rfl 0 (by decide) (hts _ (uc_in _ q_f272)) (fun _ h9 => h9) rfl dX0_seek_51 ?_
            refine lv_icmp_ge (tgt := 90) hx hb dX0_seek_54 (by decide) (fun c284 => ?_) (fun c284 => ?_)
            · have c284 := cLE (x := (gi u258 66)) (y := r282) (X := ((gi u258 66)).toInt) (Y := r282.toInt) rfl rfl c284
              exact j90_279 ls u258 _ _ Un.rf hI hH (lv_sub hl [1, 2, 3, 4, 5, 6] rfl)
            · have c284 := cNLE (x := (gi u258 66)) (y := r282) (X := ((gi u258 66)).toInt) (Y := r282.toInt) rfl rfl c284
              refine lv_aload_n hx hb dX0_seek_57 rfl (lv_at hl 2 rfl) ?_
              refine va_get (ci := 0) (v := .ref (A 78)) (C := RX0) (T := TX0) (N := 6) hx hb hts (fun w h => uc_in w (inX0 w h)) hown hK hH.1 13 (cwc13 C A u258) rfl 3 (by decide) (hts _ (uc_in _ q_f278)) (fun _ h9 => h9) rfl dX0_seek_58 ?_
              refine lv_iload_n hx hb dX0_seek_61 rfl (lv_at hl 3 rfl) ?_
              refine lv_iload hx hb dX0_seek_62 (lv_at hl 1 rfl) ?_
              refine r_iast (j := 78) hx hb hK hH 78 1 (cwc78 C A u258) rfl (i_ix (X := 2) (by decide) (by decide) (by decide)) (cwa78 C A u258) dX0_seek_64 (fun u285 eu285 H locs hH => ?_)
              have hI := hI.pa0 eu285 (by decide)
              refine lv_aload_n hx hb dX0_seek_65 rfl (lv_at hl 2 rfl) ?_
              refine lv_iload_n hx hb dX0_seek_66 rfl (lv_at hl 3 rfl) ?_
              refine lv_iconst (v := 1) hx hb dX0_seek_67 (by decide) ?_
              refine lv_iadd hx hb dX0_seek_68 ?_
              refine pv_i (v := 3) (by decide) ?_
              refine lv_aload_n hx hb dX0_seek_69 rfl (lv_at hl 2 rfl) ?_
              refine va_get (ci := 0) (v := .ref (A 79)) (C := RX0) (T := TX0) (N := 6) hx hb hts (fun w h => uc_in w (inX0 w h)) hown hK hH.1 13 (cwc13 C A u285) rfl 4 (by decide) (hts _ (uc_in _ q_f279)) (fun _ h9 => h9) rfl dX0_seek_70 ?_
              refine lv_iload hx hb dX0_seek_73 (lv_at hl 1 rfl) ?_
              refine va_iald hx hb hK hH.1 79 1 (cwc79 C A u285) rfl (i_ix rfl (by omega) (by omega)) dX0_seek_75 ?_
              refine p_any (fun z286 => ?_)
              refine lv_iload hx hb dX0_seek_76 (lv_at hl 0 rfl) ?_
              refine lv_iload hx hb dX0_seek_78 (lv_at hl 6 rfl) ?_
              refine lv_iconst (v := 1) hx hb dX0_seek_80 (by decide) ?_
              refine lv_iload hx hb dX0_seek_81 (lv_at hl 1 rfl) ?_
              refine lv_ishl hx hb dX0_seek_83 ?_
              have gz287 := tt_shl1 (y := y257d) (Y := y257d.toInt) rfl (by omega) (by omega)
              refine p_bd (P := fun q => 1 ≤ q ∧ q ≤ 32) ⟨by omega, by omega⟩ (fun z288 bz288 => ?_)
              have bz288 : 1 ≤ z288.toInt ∧ z288.toInt ≤ 32 := bz288
              refine lv_iconst (v := (-1)) hx hb dX0_seek_84 (by decide) ?_
              refine lv_ixor hx hb dX0_seek_85 ?_
              refine p_any (fun z289 => ?_)
              refine lv_iand hx hb dX0_seek_86 ?_
              refine p_any (fun z290 => ?_)
              refine cvU (n := 4) (As := [.int 3, .int z286, .int r282, .int z290]) (rest := []) ⟨hx, hb, hml, hown, hts⟩ uc_in (kX0_seek_3 l D C A u285 hI z286 z286.toInt rfl r282 r282.toInt rfl z290 z290.toInt rfl _) q_m888 q_n890 q_p34 q_i7 q_c891 hvX0_seek ⟨(Nat.le_of_ble_eq_true rfl), (Nat.le_of_ble_eq_true rfl)⟩ ⟨(Nat.le_of_ble_eq_true rfl), (Nat.le_of_ble_eq_true rfl)⟩ hK hH (fun q h => Or.inr h) Bl0 (fun _ _ _ => trivial) 0 13 rfl (cwc13 C A u285) rfl hl.1 rfl (Nat.le_of_ble_eq_true rfl) dX0_seek_87 (fun u291 H locs p293 hH => ?_)
              obtain ⟨hI, hUu291, p293⟩ := p293
              exact j90_279 ls u291 _ _ (Un.tr (Un.sa Un.rf rfl eu285) hUu291 rfl rfl rfl) hI hH (lv_sub hl [1, 2, 3, 4, 5, 6] rfl)
    exact lp21_258 7 ls 0 u _ _ (by decide) (by decide) (by have q9 : (0 : Int32).toInt = 0 := (by decide); omega) Un.rf hI hH hl
set_option maxHeartbeats 4000000 in
set_option maxRecDepth 100000 in
theorem kX0_seek_1 (l : Launch) (D : va_G) (C : Nat → ClassId) (A : Nat → Nat) (u : St) (hI : IC u) (a1 : Int32) (A1 : Int) (ha1 : a1.toInt = A1) (a2 : Int32) (A2 : Int) (ha2 : a2.toInt = A2) (a3 : Int32) (A3 : Int) (ha3 : a3.toInt = A3) (sz : Nat) : MetV l yX0_seek cX0_seek 7 8 [.ref (A 13), .int 1, .int a1, .int a2, .int a3] D (tyl C) (cw C A) X0 u sz (fun u' => IC u' ∧ Un [(66, 66), (67, 67)] [(77, 77), (78, 78)] [] u u' ∧ True) := by
  refine mV (by decide) (Nat.le_of_ble_eq_true rfl) ?_
  intro p e s m below meth c ls ar Q hx hb hml hown hts hK hH hX hl hret
  have hown : s.vm.findClass RX0 = some m.cls := hown
  have hl : lv_has ls 7 [(0, .ref (A 13)), (1, .int 1), (2, .int a1), (3, .int a2), (4, .int a3)] := hl
  refine lv_iload hx hb dX0_seek_0 (lv_at hl 4 rfl) ?_
  refine lv_if_eq (tgt := 11) hx hb dX0_seek_2 (by decide) (fun c1 => ?_) (fun c1 => ?_)
  · have c1 := cEQ (x := a3) (y := 0) (X := A3) (Y := 0) ha3 (by decide) c1
    refine lv_aload_n hx hb dX0_seek_11 rfl (lv_at hl 0 rfl) ?_
    refine lv_iload_n hx hb dX0_seek_12 rfl (lv_at hl 1 rfl) ?_
    refine lv_iload_n hx hb dX0_seek_13 rfl (lv_at hl 3 rfl) ?_
    refine cvU (n := 2) (As := [.int 1, .int a2]) (rest := []) ⟨hx, hb, hml, hown, hts⟩ uc_in (kX0_keep_0 l D C A u hI (1) 1 (by decide) a2 A2 ha2 (by decide) (by decide) _) q_m892 q_n894 q_p35 q_i7 q_c895 hvX0_keep ⟨(Nat.le_of_ble_eq_true rfl), (Nat.le_of_ble_eq_true rfl)⟩ ⟨(Nat.le_of_ble_eq_true rfl), (Nat.le_of_ble_eq_true rfl)⟩ hK hH (fun q h => Or.inr h) Bl0 (fun _ _ _ => trivial) 0 13 rfl (cwc13 C A u) rfl hl.1 rfl (Nat.le_of_ble_eq_true rfl) dX0_seek_14 (fun u139 H locs p141 hH => ?_)
    obtain ⟨hI, hUu139, p141⟩ := p141
    exact hret _ _ _ _ _ dX0_seek_17 ⟨hI, (Un.tr Un.rf hUu139 rfl rfl rfl), trivial⟩ hH
  · refine lv_iload_n hx hb dX0_seek_5 rfl (lv_at hl 1 rfl) ?_
    refine lv_bipush (v := 6) hx hb dX0_seek_6 (by decide) ?_
    refine lv_icmp_lt (tgt := 18) hx hb dX0_seek_8 (by decide) (fun c142 => ?_) (fun c142 => absurd c142 (by decide))
    refine lv_iconst (v := 0) hx hb dX0_seek_18 (by decide) ?_
    refine lv_istore (lv' := [(5, .int 0), (0, .ref (A 13)), (1, .int 1), (2, .int a1), (3, .int a2), (4, .int a3)]) hx hb dX0_seek_19 hl (by decide) rfl (fun ls hl => ?_)
    have lp21_258 : ∀ (n21 : Nat) (ls : Array Slot) (y257d : Int32) (u258 : St) (H : Heap) (locs : List Loc), 0 ≤ y257d.toInt → y257d.toInt ≤ 6 → 6 - y257d.toInt < (n21 : Int) → Un [(66, 66), (67, 67)] [(77, 77), (78, 78)] [] u u258 → IC u258 → Hd D (cw C A) (va_A (cw C A u) s.heap.size) s.heap u258 H locs → lv_has ls 7 [(5, .int y257d), (0, .ref (A 13)), (1, .int 1), (2, .int a1), (3, .int a2), (4, .int a3)] → W p l e (rmL 8 0 0) s m ar below meth c H locs 0 0 Q (F0 m 21 ls []) := by
      intro n21
      induction n21 with
      | zero => intro ls y257d u258 H locs ly257d my257d hmun21 hUu258 hI hH hl; exfalso; omega
      | succ n21 ih21_258 =>
        intro ls y257d u258 H locs ly257d my257d hmun21 hUu258 hI hH hl
        refine lv_iload hx hb dX0_seek_21 (lv_at hl 0 rfl) ?_
        refine lv_bipush (v := 6) hx hb dX0_seek_23 (by decide) ?_
        refine lv_icmp_ge (tgt := 96) hx hb dX0_seek_25 (by decide) (fun c260 => ?_) (fun c260 => ?_)
        · have c260 := cLE (x := 6) (y := y257d) (X := 6) (Y := y257d.toInt) (by decide) rfl c260
          exact hret _ _ _ _ _ dX0_seek_96 ⟨hI, (Un.tr Un.rf hUu258 rfl rfl rfl), trivial⟩ hH
        · have c260 := cNLE (x := 6) (y := y257d) (X := 6) (Y := y257d.toInt) (by decide) rfl c260
          refine lv_iload hx hb dX0_seek_28 (lv_at hl 5 rfl) ?_
          refine lv_iload hx hb dX0_seek_30 (lv_at hl 0 rfl) ?_
          refine csS (n := 2) (As := [.int a3, .int y257d]) (rest := []) ⟨hx, hb, hml, hown, hts⟩ uc_in (kX5_has_0 l D C A u258 hI a3 A3 ha3 y257d y257d.toInt rfl) q_m896 q_s641 q_i4 q_c642 hvX5_has ⟨(Nat.le_of_ble_eq_true rfl), (Nat.le_of_ble_eq_true rfl)⟩ ⟨(Nat.le_of_ble_eq_true rfl), (Nat.le_of_ble_eq_true rfl)⟩ hK hH.1 rfl hl.1 rfl (Nat.le_of_ble_eq_true rfl) dX0_seek_32 (fun r261 p262 => ?_)
          have p262 : 0 ≤ r261.toInt ∧ r261.toInt ≤ 1 := p262
          have j90_279 : ∀ (ls : Array Slot) (u279 : St) (H : Heap) (locs : List Loc), Un [(66, 66), (67, 67)] [(77, 77), (78, 78)] [] u258 u279 → IC u279 → Hd D (cw C A) (va_A (cw C A u) s.heap.size) s.heap u279 H locs → lv_has ls 7 [(5, .int y257d), (0, .ref (A 13)), (1, .int 1), (2, .int a1), (3, .int a2), (4, .int a3)] → W p l e (rmL 8 0 0) s m ar below meth c H locs 0 0 Q (F0 m 90 ls []) := by
            intro ls u279 H locs hUu279 hI hH hl
            obtain ⟨z281, ez281⟩ : ∃ z, z = y257d + Int32.ofInt 1 := ⟨_, rfl⟩
            have hz281 : z281.toInt = y257d.toInt + 1 := by rw [ez281]; exact tt_add rfl (by decide) (by omega) (by omega)
            refine lv_iinc (v := z281) (lv' := [(5, .int z281), (0, .ref (A 13)), (1, .int 1), (2, .int a1), (3, .int a2), (4, .int a3)]) hx hb dX0_seek_90 hl (k := 0) rfl ez281.symm (by decide) rfl (fun ls hl => ?_)
            refine lv_goto (tgt := 21) hx hb dX0_seek_93 (by decide) ?_
            exact ih21_258 ls z281 u279 _ _ (by have q9 := (show z281.toInt = (y257d.toInt + 1) from hz281); omega) (by have q9 := (show z281.toInt = (y257d.toInt + 1) from hz281); omega) (by have q9 := (show z281.toInt = (y257d.toInt + 1) from hz281); omega) (Un.tr hUu258 hUu279 rfl rfl rfl) hI hH hl
          refine lv_if_eq (tgt := 90) hx hb dX0_seek_35 (by decide) (fun c263 => ?_) (fun c263 => ?_)
          · have c263 := cEQ (x := r261) (y := 0) (X := r261.toInt) (Y := 0) rfl (by decide) c263
            exact j90_279 ls u258 _ _ Un.rf hI hH hl
          · have c263 := cNE (x := r261) (y := 0) (X := r261.toInt) (Y := 0) rfl (by decide) c263
            refine lv_aload_n hx hb dX0_seek_38 rfl (lv_at hl 1 rfl) ?_
            refine lv_iload hx hb dX0_seek_39 (lv_at hl 0 rfl) ?_
            refine lv_iload_n hx hb dX0_seek_41 rfl (lv_at hl 3 rfl) ?_
            refine lv_iload_n hx hb dX0_seek_42 rfl (lv_at hl 4 rfl) ?_
            refine cvS (n := 3) (As := [.int y257d, .int a1, .int a2]) (rest := []) ⟨hx, hb, hml, hown, hts⟩ uc_in (kX0_hearAt_0 l D C A u258 hI y257d y257d.toInt rfl a1 A1 ha1 a2 A2 ha2 (by omega) (by omega)) q_m897 q_n899 q_p36 q_i7 q_c900 hvX0_hearAt ⟨(Nat.le_of_ble_eq_true rfl), (Nat.le_of_ble_eq_true rfl)⟩ ⟨(Nat.le_of_ble_eq_true rfl), (Nat.le_of_ble_eq_true rfl)⟩ hK hH.1 0 13 rfl (cwc13 C A u258) rfl hl.1 rfl (Nat.le_of_ble_eq_true rfl) dX0_seek_43 (fun r282 p283 => ?_)
            refine lv_istore (lv' := [(6, .int r282), (5, .int y257d), (0, .ref (A 13)), (1, .int 1), (2, .int a1), (3, .int a2), (4, .int a3)]) hx hb dX0_seek_46 hl (by decide) rfl (fun ls hl => ?_)
            refine lv_iload hx hb dX0_seek_48 (lv_at hl 0 rfl) ?_
            refine lv_aload_n hx hb dX0_seek_50 rfl (lv_at hl 2 rfl) ?_
            refine va_get (ci := 0) (v := .int (gi u258 66)) (C := RX0) (T := TX0) (N := 6) hx hb hts (fun w h => uc_in w (inX0 w h)) hown hK hH.1 13 (cwc13 C A u258) rfl 0 (by decide) (hts _ (uc_in _ q_f272)) (fun _ h9 => h9) rfl dX0_seek_51 ?_
            refine lv_icmp_ge (tgt := 90) hx hb dX0_seek_54 (by decide) (fun c284 => ?_) (fun c284 => ?_)
            · have c284 := cLE (x := (gi u258 66)) (y := r282) (X := ((gi u258 66)).toInt) (Y := r282.toInt) rfl rfl c284
              exact j90_279 ls u258 _ _ Un.rf hI hH (lv_sub hl [1, 2, 3, 4, 5, 6] rfl)
            · have c284 := cNLE (x := (gi u258 66)) (y := r282) (X := ((gi u258 66)).toInt) (Y := r282.toInt) rfl rfl c284
              refine lv_aload_n hx hb dX0_seek_57 rfl (lv_at hl 2 rfl) ?_
              refine va_get (ci := 0) (v := .ref (A 78)) (C := RX0) (T := TX0) (N := 6) hx hb hts (fun w h => uc_in w (inX0 w h)) hown hK hH.1 13 (cwc13 C A u258) rfl 3 (by decide) (hts _ (uc_in _ q_f278)) (fun _ h9 => h9) rfl dX0_seek_58 ?_
              refine lv_iload_n hx hb dX0_seek_61 rfl (lv_at hl 3 rfl) ?_
              refine lv_iload hx hb dX0_seek_62 (lv_at hl 1 rfl) ?_
              refine r_iast (j := 78) hx hb hK hH 78 1 (cwc78 C A u258) rfl (i_ix (X := 1) (by decide) (by decide) (by decide)) (cwa78 C A u258) dX0_seek_64 (fun u285 eu285 H locs hH => ?_)
              have hI := hI.pa0 eu285 (by decide)
              refine lv_aload_n hx hb dX0_seek_65 rfl (lv_at hl 2 rfl) ?_
              refine lv_iload_n hx hb dX0_seek_66 rfl (lv_at hl 3 rfl) ?_
              refine lv_iconst (v := 1) hx hb dX0_seek_67 (by decide) ?_
              refine lv_iadd hx hb dX0_seek_68 ?_
              refine pv_i (v := 2) (by decide) ?_
              refine lv_aload_n hx hb dX0_seek_69 rfl (lv_at hl 2 rfl) ?_
              refine va_get (ci := 0) (v := .ref (A 79)) (C := RX0) (T := TX0) (N := 6) hx hb hts (fun w h => uc_in w (inX0 w h)) hown hK hH.1 13 (cwc13 C A u285) rfl 4 (by decide) (hts _ (uc_in _ q_f279)) (fun _ h9 => h9) rfl dX0_seek_70 ?_
              refine lv_iload hx hb dX0_seek_73 (lv_at hl 1 rfl) ?_
              refine va_iald hx hb hK hH.1 79 1 (cwc79 C A u285) rfl (i_ix rfl (by omega) (by omega)) dX0_seek_75 ?_
              refine p_any (fun z286 => ?_)
              refine lv_iload hx hb dX0_seek_76 (lv_at hl 0 rfl) ?_
              refine lv_iload hx hb dX0_seek_78 (lv_at hl 6 rfl) ?_
              refine lv_iconst (v := 1) hx hb dX0_seek_80 (by decide) ?_
              refine lv_iload hx hb dX0_seek_81 (lv_at hl 1 rfl) ?_
              refine lv_ishl hx hb dX0_seek_83 ?_
              have gz287 := tt_shl1 (y := y257d) (Y := y257d.toInt) rfl (by omega) (by omega)
              refine p_bd (P := fun q => 1 ≤ q ∧ q ≤ 32) ⟨by omega, by omega⟩ (fun z288 bz288 => ?_)
              have bz288 : 1 ≤ z288.toInt ∧ z288.toInt ≤ 32 := bz288
              refine lv_iconst (v := (-1)) hx hb dX0_seek_84 (by decide) ?_
              refine lv_ixor hx hb dX0_seek_85 ?_
              refine p_any (fun z289 => ?_)
              refine lv_iand hx hb dX0_seek_86 ?_
              refine p_any (fun z290 => ?_)
              refine cvU (n := 4) (As := [.int 2, .int z286, .int r282, .int z290]) (rest := []) ⟨hx, hb, hml, hown, hts⟩ uc_in (kX0_seek_2 l D C A u285 hI z286 z286.toInt rfl r282 r282.toInt rfl z290 z290.toInt rfl _) q_m888 q_n890 q_p34 q_i7 q_c891 hvX0_seek ⟨(Nat.le_of_ble_eq_true rfl), (Nat.le_of_ble_eq_true rfl)⟩ ⟨(Nat.le_of_ble_eq_true rfl), (Nat.le_of_ble_eq_true rfl)⟩ hK hH (fun q h => Or.inr h) Bl0 (fun _ _ _ => trivial) 0 13 rfl (cwc13 C A u285) rfl hl.1 rfl (Nat.le_of_ble_eq_true rfl) dX0_seek_87 (fun u291 H locs p293 hH => ?_)
              obtain ⟨hI, hUu291, p293⟩ := p293
              exact j90_279 ls u291 _ _ (Un.tr (Un.sa Un.rf rfl eu285) hUu291 rfl rfl rfl) hI hH (lv_sub hl [1, 2, 3, 4, 5, 6] rfl)
    exact lp21_258 7 ls 0 u _ _ (by decide) (by decide) (by have q9 : (0 : Int32).toInt = 0 := (by decide); omega) Un.rf hI hH hl
set_option maxHeartbeats 4000000 in
set_option maxRecDepth 100000 in
theorem kX0_seek_0 (l : Launch) (D : va_G) (C : Nat → ClassId) (A : Nat → Nat) (u : St) (hI : IC u) (a1 : Int32) (A1 : Int) (ha1 : a1.toInt = A1) (a2 : Int32) (A2 : Int) (ha2 : a2.toInt = A2) (a3 : Int32) (A3 : Int) (ha3 : a3.toInt = A3) (sz : Nat) : MetV l yX0_seek cX0_seek 7 9 [.ref (A 13), .int 0, .int a1, .int a2, .int a3] D (tyl C) (cw C A) X0 u sz (fun u' => IC u' ∧ Un [(66, 66), (67, 67)] [(77, 77), (78, 78)] [] u u' ∧ True) := by
  refine mV (by decide) (Nat.le_of_ble_eq_true rfl) ?_
  intro p e s m below meth c ls ar Q hx hb hml hown hts hK hH hX hl hret
  have hown : s.vm.findClass RX0 = some m.cls := hown
  have hl : lv_has ls 7 [(0, .ref (A 13)), (1, .int 0), (2, .int a1), (3, .int a2), (4, .int a3)] := hl
  refine lv_iload hx hb dX0_seek_0 (lv_at hl 4 rfl) ?_
  refine lv_if_eq (tgt := 11) hx hb dX0_seek_2 (by decide) (fun c1 => ?_) (fun c1 => ?_)
  · have c1 := cEQ (x := a3) (y := 0) (X := A3) (Y := 0) ha3 (by decide) c1
    refine lv_aload_n hx hb dX0_seek_11 rfl (lv_at hl 0 rfl) ?_
    refine lv_iload_n hx hb dX0_seek_12 rfl (lv_at hl 1 rfl) ?_
    refine lv_iload_n hx hb dX0_seek_13 rfl (lv_at hl 3 rfl) ?_
    refine cvU (n := 2) (As := [.int 0, .int a2]) (rest := []) ⟨hx, hb, hml, hown, hts⟩ uc_in (kX0_keep_0 l D C A u hI (0) 0 (by decide) a2 A2 ha2 (by decide) (by decide) _) q_m892 q_n894 q_p35 q_i7 q_c895 hvX0_keep ⟨(Nat.le_of_ble_eq_true rfl), (Nat.le_of_ble_eq_true rfl)⟩ ⟨(Nat.le_of_ble_eq_true rfl), (Nat.le_of_ble_eq_true rfl)⟩ hK hH (fun q h => Or.inr h) Bl0 (fun _ _ _ => trivial) 0 13 rfl (cwc13 C A u) rfl hl.1 rfl (Nat.le_of_ble_eq_true rfl) dX0_seek_14 (fun u139 H locs p141 hH => ?_)
    obtain ⟨hI, hUu139, p141⟩ := p141
    exact hret _ _ _ _ _ dX0_seek_17 ⟨hI, (Un.tr Un.rf hUu139 rfl rfl rfl), trivial⟩ hH
  · refine lv_iload_n hx hb dX0_seek_5 rfl (lv_at hl 1 rfl) ?_
    refine lv_bipush (v := 6) hx hb dX0_seek_6 (by decide) ?_
    refine lv_icmp_lt (tgt := 18) hx hb dX0_seek_8 (by decide) (fun c142 => ?_) (fun c142 => absurd c142 (by decide))
    refine lv_iconst (v := 0) hx hb dX0_seek_18 (by decide) ?_
    refine lv_istore (lv' := [(5, .int 0), (0, .ref (A 13)), (1, .int 0), (2, .int a1), (3, .int a2), (4, .int a3)]) hx hb dX0_seek_19 hl (by decide) rfl (fun ls hl => ?_)
    have lp21_258 : ∀ (n21 : Nat) (ls : Array Slot) (y257d : Int32) (u258 : St) (H : Heap) (locs : List Loc), 0 ≤ y257d.toInt → y257d.toInt ≤ 6 → 6 - y257d.toInt < (n21 : Int) → Un [(66, 66), (67, 67)] [(77, 77), (78, 78)] [] u u258 → IC u258 → Hd D (cw C A) (va_A (cw C A u) s.heap.size) s.heap u258 H locs → lv_has ls 7 [(5, .int y257d), (0, .ref (A 13)), (1, .int 0), (2, .int a1), (3, .int a2), (4, .int a3)] → W p l e (rmL 9 0 0) s m ar below meth c H locs 0 0 Q (F0 m 21 ls []) := by
      intro n21
      induction n21 with
      | zero => intro ls y257d u258 H locs ly257d my257d hmun21 hUu258 hI hH hl; exfalso; omega
      | succ n21 ih21_258 =>
        intro ls y257d u258 H locs ly257d my257d hmun21 hUu258 hI hH hl
        refine lv_iload hx hb dX0_seek_21 (lv_at hl 0 rfl) ?_
        refine lv_bipush (v := 6) hx hb dX0_seek_23 (by decide) ?_
        refine lv_icmp_ge (tgt := 96) hx hb dX0_seek_25 (by decide) (fun c260 => ?_) (fun c260 => ?_)
        · have c260 := cLE (x := 6) (y := y257d) (X := 6) (Y := y257d.toInt) (by decide) rfl c260
          exact hret _ _ _ _ _ dX0_seek_96 ⟨hI, (Un.tr Un.rf hUu258 rfl rfl rfl), trivial⟩ hH
        · have c260 := cNLE (x := 6) (y := y257d) (X := 6) (Y := y257d.toInt) (by decide) rfl c260
          refine lv_iload hx hb dX0_seek_28 (lv_at hl 5 rfl) ?_
          refine lv_iload hx hb dX0_seek_30 (lv_at hl 0 rfl) ?_
          refine csS (n := 2) (As := [.int a3, .int y257d]) (rest := []) ⟨hx, hb, hml, hown, hts⟩ uc_in (kX5_has_0 l D C A u258 hI a3 A3 ha3 y257d y257d.toInt rfl) q_m896 q_s641 q_i4 q_c642 hvX5_has ⟨(Nat.le_of_ble_eq_true rfl), (Nat.le_of_ble_eq_true rfl)⟩ ⟨(Nat.le_of_ble_eq_true rfl), (Nat.le_of_ble_eq_true rfl)⟩ hK hH.1 rfl hl.1 rfl (Nat.le_of_ble_eq_true rfl) dX0_seek_32 (fun r261 p262 => ?_)
          have p262 : 0 ≤ r261.toInt ∧ r261.toInt ≤ 1 := p262
          have j90_279 : ∀ (ls : Array Slot) (u279 : St) (H : Heap) (locs : List Loc), Un [(66, 66), (67, 67)] [(77, 77), (78, 78)] [] u258 u279 → IC u279 → Hd D (cw C A) (va_A (cw C A u) s.heap.size) s.heap u279 H locs → lv_has ls 7 [(5, .int y257d), (0, .ref (A 13)), (1, .int 0), (2, .int a1), (3, .int a2), (4, .int a3)] → W p l e (rmL 9 0 0) s m ar below meth c H locs 0 0 Q (F0 m 90 ls []) := by
            intro ls u279 H locs hUu279 hI hH hl
            obtain ⟨z281, ez281⟩ : ∃ z, z = y257d + Int32.ofInt 1 := ⟨_, rfl⟩
            have hz281 : z281.toInt = y257d.toInt + 1 := by rw [ez281]; exact tt_add rfl (by decide) (by omega) (by omega)
            refine lv_iinc (v := z281) (lv' := [(5, .int z281), (0, .ref (A 13)), (1, .int 0), (2, .int a1), (3, .int a2), (4, .int a3)]) hx hb dX0_seek_90 hl (k := 0) rfl ez281.symm (by decide) rfl (fun ls hl => ?_)
            refine lv_goto (tgt := 21) hx hb dX0_seek_93 (by decide) ?_
            exact ih21_258 ls z281 u279 _ _ (by have q9 := (show z281.toInt = (y257d.toInt + 1) from hz281); omega) (by have q9 := (show z281.toInt = (y257d.toInt + 1) from hz281); omega) (by have q9 := (show z281.toInt = (y257d.toInt + 1) from hz281); omega) (Un.tr hUu258 hUu279 rfl rfl rfl) hI hH hl
          refine lv_if_eq (tgt := 90) hx hb dX0_seek_35 (by decide) (fun c263 => ?_) (fun c263 => ?_)
          · have c263 := cEQ (x := r261) (y := 0) (X := r261.toInt) (Y := 0) rfl (by decide) c263
            exact j90_279 ls u258 _ _ Un.rf hI hH hl
          · have c263 := cNE (x := r261) (y := 0) (X := r261.toInt) (Y := 0) rfl (by decide) c263
            refine lv_aload_n hx hb dX0_seek_38 rfl (lv_at hl 1 rfl) ?_
            refine lv_iload hx hb dX0_seek_39 (lv_at hl 0 rfl) ?_
            refine lv_iload_n hx hb dX0_seek_41 rfl (lv_at hl 3 rfl) ?_
            refine lv_iload_n hx hb dX0_seek_42 rfl (lv_at hl 4 rfl) ?_
            refine cvS (n := 3) (As := [.int y257d, .int a1, .int a2]) (rest := []) ⟨hx, hb, hml, hown, hts⟩ uc_in (kX0_hearAt_0 l D C A u258 hI y257d y257d.toInt rfl a1 A1 ha1 a2 A2 ha2 (by omega) (by omega)) q_m897 q_n899 q_p36 q_i7 q_c900 hvX0_hearAt ⟨(Nat.le_of_ble_eq_true rfl), (Nat.le_of_ble_eq_true rfl)⟩ ⟨(Nat.le_of_ble_eq_true rfl), (Nat.le_of_ble_eq_true rfl)⟩ hK hH.1 0 13 rfl (cwc13 C A u258) rfl hl.1 rfl (Nat.le_of_ble_eq_true rfl) dX0_seek_43 (fun r282 p283 => ?_)
            refine lv_istore (lv' := [(6, .int r282), (5, .int y257d), (0, .ref (A 13)), (1, .int 0), (2, .int a1), (3, .int a2), (4, .int a3)]) hx hb dX0_seek_46 hl (by decide) rfl (fun ls hl => ?_)
            refine lv_iload hx hb dX0_seek_48 (lv_at hl 0 rfl) ?_
            refine lv_aload_n hx hb dX0_seek_50 rfl (lv_at hl 2 rfl) ?_
            refine va_get (ci := 0) (v := .int (gi u258 66)) (C := RX0) (T := TX0) (N := 6) hx hb hts (fun w h => uc_in w (inX0 w h)) hown hK hH.1 13 (cwc13 C A u258) rfl 0 (by decide) (hts _ (uc_in _ q_f272)) (fun _ h9 => h9) rfl dX0_seek_51 ?_
            refine lv_icmp_ge (tgt := 90) hx hb dX0_seek_54 (by decide) (fun c284 => ?_) (fun c284 => ?_)
            · have c284 := cLE (x := (gi u258 66)) (y := r282) (X := ((gi u258 66)).toInt) (Y := r282.toInt) rfl rfl c284
              exact j90_279 ls u258 _ _ Un.rf hI hH (lv_sub hl [1, 2, 3, 4, 5, 6] rfl)
            · have c284 := cNLE (x := (gi u258 66)) (y := r282) (X := ((gi u258 66)).toInt) (Y := r282.toInt) rfl rfl c284
              refine lv_aload_n hx hb dX0_seek_57 rfl (lv_at hl 2 rfl) ?_
              refine va_get (ci := 0) (v := .ref (A 78)) (C := RX0) (T := TX0) (N := 6) hx hb hts (fun w h => uc_in w (inX0 w h)) hown hK hH.1 13 (cwc13 C A u258) rfl 3 (by decide) (hts _ (uc_in _ q_f278)) (fun _ h9 => h9) rfl dX0_seek_58 ?_
              refine lv_iload_n hx hb dX0_seek_61 rfl (lv_at hl 3 rfl) ?_
              refine lv_iload hx hb dX0_seek_62 (lv_at hl 1 rfl) ?_
              refine r_iast (j := 78) hx hb hK hH 78 1 (cwc78 C A u258) rfl (i_ix (X := 0) (by decide) (by decide) (by decide)) (cwa78 C A u258) dX0_seek_64 (fun u285 eu285 H locs hH => ?_)
              have hI := hI.pa0 eu285 (by decide)
              refine lv_aload_n hx hb dX0_seek_65 rfl (lv_at hl 2 rfl) ?_
              refine lv_iload_n hx hb dX0_seek_66 rfl (lv_at hl 3 rfl) ?_
              refine lv_iconst (v := 1) hx hb dX0_seek_67 (by decide) ?_
              refine lv_iadd hx hb dX0_seek_68 ?_
              refine pv_i (v := 1) (by decide) ?_
              refine lv_aload_n hx hb dX0_seek_69 rfl (lv_at hl 2 rfl) ?_
              refine va_get (ci := 0) (v := .ref (A 79)) (C := RX0) (T := TX0) (N := 6) hx hb hts (fun w h => uc_in w (inX0 w h)) hown hK hH.1 13 (cwc13 C A u285) rfl 4 (by decide) (hts _ (uc_in _ q_f279)) (fun _ h9 => h9) rfl dX0_seek_70 ?_
              refine lv_iload hx hb dX0_seek_73 (lv_at hl 1 rfl) ?_
              refine va_iald hx hb hK hH.1 79 1 (cwc79 C A u285) rfl (i_ix rfl (by omega) (by omega)) dX0_seek_75 ?_
              refine p_any (fun z286 => ?_)
              refine lv_iload hx hb dX0_seek_76 (lv_at hl 0 rfl) ?_
              refine lv_iload hx hb dX0_seek_78 (lv_at hl 6 rfl) ?_
              refine lv_iconst (v := 1) hx hb dX0_seek_80 (by decide) ?_
              refine lv_iload hx hb dX0_seek_81 (lv_at hl 1 rfl) ?_
              refine lv_ishl hx hb dX0_seek_83 ?_
              have gz287 := tt_shl1 (y := y257d) (Y := y257d.toInt) rfl (by omega) (by omega)
              refine p_bd (P := fun q => 1 ≤ q ∧ q ≤ 32) ⟨by omega, by omega⟩ (fun z288 bz288 => ?_)
              have bz288 : 1 ≤ z288.toInt ∧ z288.toInt ≤ 32 := bz288
              refine lv_iconst (v := (-1)) hx hb dX0_seek_84 (by decide) ?_
              refine lv_ixor hx hb dX0_seek_85 ?_
              refine p_any (fun z289 => ?_)
              refine lv_iand hx hb dX0_seek_86 ?_
              refine p_any (fun z290 => ?_)
              refine cvU (n := 4) (As := [.int 1, .int z286, .int r282, .int z290]) (rest := []) ⟨hx, hb, hml, hown, hts⟩ uc_in (kX0_seek_1 l D C A u285 hI z286 z286.toInt rfl r282 r282.toInt rfl z290 z290.toInt rfl _) q_m888 q_n890 q_p34 q_i7 q_c891 hvX0_seek ⟨(Nat.le_of_ble_eq_true rfl), (Nat.le_of_ble_eq_true rfl)⟩ ⟨(Nat.le_of_ble_eq_true rfl), (Nat.le_of_ble_eq_true rfl)⟩ hK hH (fun q h => Or.inr h) Bl0 (fun _ _ _ => trivial) 0 13 rfl (cwc13 C A u285) rfl hl.1 rfl (Nat.le_of_ble_eq_true rfl) dX0_seek_87 (fun u291 H locs p293 hH => ?_)
              obtain ⟨hI, hUu291, p293⟩ := p293
              exact j90_279 ls u291 _ _ (Un.tr (Un.sa Un.rf rfl eu285) hUu291 rfl rfl rfl) hI hH (lv_sub hl [1, 2, 3, 4, 5, 6] rfl)
    exact lp21_258 7 ls 0 u _ _ (by decide) (by decide) (by have q9 : (0 : Int32).toInt = 0 := (by decide); omega) Un.rf hI hH hl
set_option maxHeartbeats 4000000 in
set_option maxRecDepth 100000 in
theorem kX0_search_0 (l : Launch) (D : va_G) (C : Nat → ClassId) (A : Nat → Nat) (u : St) (hI : IC u) (a0 : Int32) (A0 : Int) (ha0 : a0.toInt = A0) (a1 : Int32) (A1 : Int) (ha1 : a1.toInt = A1) (sz : Nat) : MetV l yX0_search cX0_search 3 10 [.ref (A 13), .int a0, .int a1] D (tyl C) (cw C A) X0 u sz (fun u' => IC u' ∧ Un [(66, 66), (67, 67)] [(77, 77), (78, 78)] [] u u' ∧ True) := by
  refine mV (by decide) (Nat.le_of_ble_eq_true rfl) ?_
  intro p e s m below meth c ls ar Q hx hb hml hown hts hK hH hX hl hret
  have hown : s.vm.findClass RX0 = some m.cls := hown
  have hl : lv_has ls 3 [(0, .ref (A 13)), (1, .int a0), (2, .int a1)] := hl
  refine lv_aload_n hx hb dX0_search_0 rfl (lv_at hl 0 rfl) ?_
  refine lv_sipush (v := 10000) hx hb dX0_search_1 (by decide) ?_
  refine r_put (j := 66) (ci := 0) (C := RX0) (T := TX0) (N := 6) hx hb hts (fun w h => uc_in w (inX0 w h)) tyX0 tyX0_ok nmX0 hown hK hH 13 (cwc13 C A u) rfl 0 (by decide) (hts _ (uc_in _ q_f272)) (fun _ h9 => h9) rfl (by decide +kernel) (Nat.le_of_ble_eq_true rfl) (cws66 C A u _) dX0_search_4 (fun u1 eu1 H locs hH => ?_)
  have hI := hI.pi0 eu1 rfl (by decide) (by decide)
  refine lv_aload_n hx hb dX0_search_7 rfl (lv_at hl 0 rfl) ?_
  refine lv_iconst (v := 0) hx hb dX0_search_8 (by decide) ?_
  refine r_put (j := 67) (ci := 0) (C := RX0) (T := TX0) (N := 6) hx hb hts (fun w h => uc_in w (inX0 w h)) tyX0 tyX0_ok nmX0 hown hK hH 13 (cwc13 C A u1) rfl 1 (by decide) (hts _ (uc_in _ q_f274)) (fun _ h9 => h9) rfl (by decide +kernel) (Nat.le_of_ble_eq_true rfl) (cws67 C A u1 _) dX0_search_9 (fun u2 eu2 H locs hH => ?_)
  have hI := hI.s67 eu2 (X := 0) (by decide) (by decide) (by decide)
  refine lv_aload_n hx hb dX0_search_12 rfl (lv_at hl 0 rfl) ?_
  refine lv_iconst (v := 0) hx hb dX0_search_13 (by decide) ?_
  refine lv_iload_n hx hb dX0_search_14 rfl (lv_at hl 1 rfl) ?_
  refine lv_iconst (v := 0) hx hb dX0_search_15 (by decide) ?_
  refine lv_iload_n hx hb dX0_search_16 rfl (lv_at hl 2 rfl) ?_
  refine cvU (n := 4) (As := [.int 0, .int a0, .int 0, .int a1]) (rest := []) ⟨hx, hb, hml, hown, hts⟩ uc_in (kX0_seek_0 l D C A u2 hI a0 A0 ha0 (0) 0 (by decide) a1 A1 ha1 _) q_m888 q_n890 q_p34 q_i7 q_c891 hvX0_seek ⟨(Nat.le_of_ble_eq_true rfl), (Nat.le_of_ble_eq_true rfl)⟩ ⟨(Nat.le_of_ble_eq_true rfl), (Nat.le_of_ble_eq_true rfl)⟩ hK hH (fun q h => Or.inr h) Bl0 (fun _ _ _ => trivial) 0 13 rfl (cwc13 C A u2) rfl hl.1 rfl (Nat.le_of_ble_eq_true rfl) dX0_search_17 (fun u3 H locs p5 hH => ?_)
  obtain ⟨hI, hUu3, p5⟩ := p5
  exact hret _ _ _ _ _ dX0_search_20 ⟨hI, (Un.tr (Un.si (Un.si Un.rf rfl eu1) rfl eu2) hUu3 rfl rfl rfl), trivial⟩ hH
set_option maxHeartbeats 4000000 in
set_option maxRecDepth 100000 in
theorem kX9_lodge_0 (l : Launch) (D : va_G) (C : Nat → ClassId) (A : Nat → Nat) (u : St) (hI : IC u) (a0 : Int32) (A0 : Int) (ha0 : a0.toInt = A0) (sz : Nat) : MetI l yX9_lodge cX9_lodge 5 (some .int) 11 [.ref (A 0), .int a0] D (tyl C) (cw C A) X0 u sz (fun r u' => IC u' ∧ Un [(66, 66), (67, 67)] [(77, 77), (78, 78), (79, 79), (80, 80)] [] u u' ∧ ((-2) ≤ r.toInt ∧ r.toInt ≤ 30)) := by
  refine mI (by decide) (Nat.le_of_ble_eq_true rfl) ?_
  intro p e s m below meth c ls ar Q hx hb hml hown hts hK hH hX hl hret
  have hown : s.vm.findClass RX9 = some m.cls := hown
  have hl : lv_has ls 5 [(0, .ref (A 0)), (1, .int a0)] := hl
  refine lv_aload_n hx hb dX9_lodge_0 rfl (lv_at hl 0 rfl) ?_
  refine lv_iload_n hx hb dX9_lodge_1 rfl (lv_at hl 1 rfl) ?_
  refine cvS (n := 1) (As := [.int a0]) (rest := []) ⟨hx, hb, hml, hown, hts⟩ uc_in (kX9_isDay_0 l D C A u hI a0 A0 ha0) q_m597 q_n599 q_p12 q_i1 q_c600 hvX9_isDay ⟨(Nat.le_of_ble_eq_true rfl), (Nat.le_of_ble_eq_true rfl)⟩ ⟨(Nat.le_of_ble_eq_true rfl), (Nat.le_of_ble_eq_true rfl)⟩ hK hH.1 9 0 rfl (cwc0 C A u) rfl hl.1 rfl (Nat.le_of_ble_eq_true rfl) dX9_lodge_2 (fun r1 p2 => ?_)
  rcases p2 with ⟨e9, f3, f4⟩ | e9
  · subst e9
    have b6 := hI.b48
    refine lv_if_ne (tgt := 11) hx hb dX9_lodge_5 (by decide) (fun c7 => ?_) (fun c7 => absurd c7 (by decide))
    refine lv_aload_n hx hb dX9_lodge_11 rfl (lv_at hl 0 rfl) ?_
    refine va_get (ci := 9) (v := .ref (A 13)) (C := RX9) (T := TX9) (N := 12) hx hb hts (fun w h => uc_in w (inX9 w h)) hown hK hH.1 0 (cwc0 C A u) rfl 8 (by decide) (hts _ (uc_in _ q_f391)) (fun _ h9 => h9) rfl dX9_lodge_12 ?_
    refine lv_aload_n hx hb dX9_lodge_15 rfl (lv_at hl 0 rfl) ?_
    refine va_get (ci := 9) (v := .ref (A 2)) (C := RX9) (T := TX9) (N := 12) hx hb hts (fun w h => uc_in w (inX9 w h)) hown hK hH.1 0 (cwc0 C A u) rfl 1 (by decide) (hts _ (uc_in _ q_f384)) (fun _ h9 => h9) rfl dX9_lodge_16 ?_
    refine lv_aload_n hx hb dX9_lodge_19 rfl (lv_at hl 0 rfl) ?_
    refine va_get (ci := 9) (v := .ref (A 7)) (C := RX9) (T := TX9) (N := 12) hx hb hts (fun w h => uc_in w (inX9 w h)) hown hK hH.1 0 (cwc0 C A u) rfl 5 (by decide) (hts _ (uc_in _ q_f388)) (fun _ h9 => h9) rfl dX9_lodge_20 ?_
    refine va_get (ci := 5) (v := .ref (A 19)) (C := RX5) (T := TX5) (N := 4) hx hb hts (fun w h => uc_in w (inX5 w h)) hown hK hH.1 7 (cwc7 C A u) rfl 2 (by decide) (hts _ (uc_in _ q_f171)) (fun _ h9 => h9) rfl dX9_lodge_23 ?_
    refine lv_iload_n hx hb dX9_lodge_26 rfl (lv_at hl 1 rfl) ?_
    refine r_aald hx hb hK hH.1 19 6 rfl (cwc19 C A u) rfl (i_ix ha0 (by omega) (by omega)) dX9_lodge_27 ?_
    obtain ⟨k8, hk8, ek8⟩ : ∃ k : Nat, (k : Int) = 32 + A0 ∧ k = 32 + Int32.toNatClampNeg a0 := ⟨_, by have q9 := i_cl (x := a0) (X := A0) ha0 (by omega); omega, rfl⟩
    refine pv_v (v := .ref (A (52 + k8))) (by rw [ek8]; rfl) ?_
    refine cvU (n := 2) (As := [.ref (A 2), .ref (A (52 + k8))]) (rest := []) ⟨hx, hb, hml, hown, hts⟩ uc_in (kX0_begin_0 l D C A u hI k8 (by omega) _) q_m879 q_n880 q_e881 q_i7 q_c882 hvX0_begin ⟨(Nat.le_of_ble_eq_true rfl), (Nat.le_of_ble_eq_true rfl)⟩ ⟨(Nat.le_of_ble_eq_true rfl), (Nat.le_of_ble_eq_true rfl)⟩ hK hH (fun q h => Or.inr h) Bl0 (fun _ _ _ => trivial) 0 13 rfl (cwc13 C A u) rfl hl.1 rfl (Nat.le_of_ble_eq_true rfl) dX9_lodge_28 (fun u9 H locs p11 hH => ?_)
    obtain ⟨hI, hUu9, p11⟩ := p11
    refine lv_iconst (v := 0) hx hb dX9_lodge_31 (by decide) ?_
    refine lv_istore_n (lv' := [(2, .int 0), (0, .ref (A 0)), (1, .int a0)]) hx hb dX9_lodge_32 rfl hl (by decide) rfl (fun ls hl => ?_)
    refine lv_sipush (v := 10000) hx hb dX9_lodge_33 (by decide) ?_
    refine lv_istore_n (lv' := [(3, .int 10000), (2, .int 0), (0, .ref (A 0)), (1, .int a0)]) hx hb dX9_lodge_36 rfl hl (by decide) rfl (fun ls hl => ?_)
    refine lv_iconst (v := 0) hx hb dX9_lodge_37 (by decide) ?_
    refine lv_istore (lv' := [(4, .int 0), (3, .int 10000), (2, .int 0), (0, .ref (A 0)), (1, .int a0)]) hx hb dX9_lodge_38 hl (by decide) rfl (fun ls hl => ?_)
    have lp40_159 : ∀ (n40 : Nat) (ls : Array Slot) (y156d : Int32) (y157d : Int32) (y158d : Int32) (u159 : St) (H : Heap) (locs : List Loc), 0 ≤ y156d.toInt → y156d.toInt ≤ 10 → y157d.toInt ≤ 10000 → 0 ≤ y158d.toInt → y158d.toInt ≤ 30 → 10 - y156d.toInt < (n40 : Int) → Un [(66, 66), (67, 67)] [(77, 77), (78, 78)] [] u9 u159 → IC u159 → Hd D (cw C A) (va_A (cw C A u) s.heap.size) s.heap u159 H locs → lv_has ls 5 [(4, .int y156d), (3, .int y157d), (2, .int y158d), (0, .ref (A 0)), (1, .int a0)] → W p l e (rmL 11 0 0) s m ar below meth c H locs 0 0 Q (F0 m 40 ls []) := by
      intro n40
      induction n40 with
      | zero => intro ls y156d y157d y158d u159 H locs ly156d my156d my157d ly158d my158d hmun40 hUu159 hI hH hl; exfalso; omega
      | succ n40 ih40_159 =>
        intro ls y156d y157d y158d u159 H locs ly156d my156d my157d ly158d my158d hmun40 hUu159 hI hH hl
        refine lv_iload hx hb dX9_lodge_40 (lv_at hl 0 rfl) ?_
        refine lv_bipush (v := 10) hx hb dX9_lodge_42 (by decide) ?_
        refine lv_icmp_ge (tgt := 93) hx hb dX9_lodge_44 (by decide) (fun c161 => ?_) (fun c161 => ?_)
        · have c161 := cLE (x := 10) (y := y156d) (X := 10) (Y := y156d.toInt) (by decide) rfl c161
          refine lv_iload_n hx hb dX9_lodge_93 rfl (lv_at hl 2 rfl) ?_
          exact hret _ _ _ _ y158d _ dX9_lodge_94 rfl ⟨hI, (Un.tr (Un.tr Un.rf hUu9 rfl rfl rfl) hUu159 rfl rfl rfl), ⟨by omega, by omega⟩⟩ hH
        · have c161 := cNLE (x := 10) (y := y156d) (X := 10) (Y := y156d.toInt) (by decide) rfl c161
          refine lv_aload_n hx hb dX9_lodge_47 rfl (lv_at hl 3 rfl) ?_
          refine va_get (ci := 9) (v := .ref (A 13)) (C := RX9) (T := TX9) (N := 12) hx hb hts (fun w h => uc_in w (inX9 w h)) hown hK hH.1 0 (cwc0 C A u159) rfl 8 (by decide) (hts _ (uc_in _ q_f391)) (fun _ h9 => h9) rfl dX9_lodge_48 ?_
          refine lv_iload hx hb dX9_lodge_51 (lv_at hl 0 rfl) ?_
          refine lv_aload_n hx hb dX9_lodge_53 rfl (lv_at hl 3 rfl) ?_
          refine va_get (ci := 9) (v := .ref (A 7)) (C := RX9) (T := TX9) (N := 12) hx hb hts (fun w h => uc_in w (inX9 w h)) hown hK hH.1 0 (cwc0 C A u159) rfl 5 (by decide) (hts _ (uc_in _ q_f388)) (fun _ h9 => h9) rfl dX9_lodge_54 ?_
          refine va_get (ci := 5) (v := .ref (A 38)) (C := RX5) (T := TX5) (N := 4) hx hb hts (fun w h => uc_in w (inX5 w h)) hown hK hH.1 7 (cwc7 C A u159) rfl 3 (by decide) (hts _ (uc_in _ q_f175)) (fun _ h9 => h9) rfl dX9_lodge_57 ?_
          refine lv_iload_n hx hb dX9_lodge_60 rfl (lv_at hl 4 rfl) ?_
          refine va_iald hx hb hK hH.1 38 1 (cwc38 C A u159) rfl (i_ix ha0 (by omega) (by omega)) dX9_lodge_61 ?_
          refine p_any (fun z162 => ?_)
          refine cvU (n := 2) (As := [.int y156d, .int z162]) (rest := []) ⟨hx, hb, hml, hown, hts⟩ uc_in (kX0_search_0 l D C A u159 hI y156d y156d.toInt rfl z162 z162.toInt rfl _) q_m884 q_n885 q_e886 q_i7 q_c887 hvX0_search ⟨(Nat.le_of_ble_eq_true rfl), (Nat.le_of_ble_eq_true rfl)⟩ ⟨(Nat.le_of_ble_eq_true rfl), (Nat.le_of_ble_eq_true rfl)⟩ hK hH (fun q h => Or.inr h) Bl0 (fun _ _ _ => trivial) 0 13 rfl (cwc13 C A u159) rfl hl.1 rfl (Nat.le_of_ble_eq_true rfl) dX9_lodge_62 (fun u163 H locs p165 hH => ?_)
          obtain ⟨hI, hUu163, p165⟩ := p165
          refine lv_aload_n hx hb dX9_lodge_65 rfl (lv_at hl 3 rfl) ?_
          refine va_get (ci := 9) (v := .ref (A 13)) (C := RX9) (T := TX9) (N := 12) hx hb hts (fun w h => uc_in w (inX9 w h)) hown hK hH.1 0 (cwc0 C A u163) rfl 8 (by decide) (hts _ (uc_in _ q_f391)) (fun _ h9 => h9) rfl dX9_lodge_66 ?_
          refine va_get (ci := 0) (v := .int (gi u163 66)) (C := RX0) (T := TX0) (N := 6) hx hb hts (fun w h => uc_in w (inX0 w h)) hown hK hH.1 13 (cwc13 C A u163) rfl 0 (by decide) (hts _ (uc_in _ q_f273)) (fun _ h9 => h9) rfl dX9_lodge_69 ?_
          refine lv_iload_n hx hb dX9_lodge_72 rfl (lv_at hl 1 rfl) ?_
          have j87_170 : ∀ (ls : Array Slot) (y167d : Int32) (y168d : Int32), y167d.toInt ≤ 10000 → 0 ≤ y168d.toInt → y168d.toInt ≤ 30 → lv_has ls 5 [(4, .int y156d), (3, .int y167d), (2, .int y168d), (0, .ref (A 0)), (1, .int a0)] → W p l e (rmL 11 0 0) s m ar below meth c H locs 0 0 Q (F0 m 87 ls []) := by
            intro ls y167d y168d my167d ly168d my168d hl
            obtain ⟨z172, ez172⟩ : ∃ z, z = y156d + Int32.ofInt 1 := ⟨_, rfl⟩
            have hz172 : z172.toInt = y156d.toInt + 1 := by rw [ez172]; exact tt_add rfl (by decide) (by omega) (by omega)
            refine lv_iinc (v := z172) (lv' := [(4, .int z172), (3, .int y167d), (2, .int y168d), (0, .ref (A 0)), (1, .int a0)]) hx hb dX9_lodge_87 hl (k := 0) rfl ez172.symm (by decide) rfl (fun ls hl => ?_)
            refine lv_goto (tgt := 40) hx hb dX9_lodge_90 (by decide) ?_
            exact ih40_159 ls z172 y167d y168d u163 _ _ (by have q9 := (show z172.toInt = (y156d.toInt + 1) from hz172); omega) (by have q9 := (show z172.toInt = (y156d.toInt + 1) from hz172); omega) (by omega) (by omega) (by omega) (by have q9 := (show z172.toInt = (y156d.toInt + 1) from hz172); omega) (Un.tr hUu159 hUu163 rfl rfl rfl) hI hH hl
          refine lv_icmp_ge (tgt := 87) hx hb dX9_lodge_73 (by decide) (fun c166 => ?_) (fun c166 => ?_)
          · have c166 := cLE (x := y157d) (y := (gi u163 66)) (X := y157d.toInt) (Y := ((gi u163 66)).toInt) rfl rfl c166
            exact j87_170 ls y157d y158d (by omega) (by omega) (by omega) hl
          · have c166 := cNLE (x := y157d) (y := (gi u163 66)) (X := y157d.toInt) (Y := ((gi u163 66)).toInt) rfl rfl c166
            refine lv_aload_n hx hb dX9_lodge_76 rfl (lv_at hl 3 rfl) ?_
            refine va_get (ci := 9) (v := .ref (A 13)) (C := RX9) (T := TX9) (N := 12) hx hb hts (fun w h => uc_in w (inX9 w h)) hown hK hH.1 0 (cwc0 C A u163) rfl 8 (by decide) (hts _ (uc_in _ q_f391)) (fun _ h9 => h9) rfl dX9_lodge_77 ?_
            refine va_get (ci := 0) (v := .int (gi u163 66)) (C := RX0) (T := TX0) (N := 6) hx hb hts (fun w h => uc_in w (inX0 w h)) hown hK hH.1 13 (cwc13 C A u163) rfl 0 (by decide) (hts _ (uc_in _ q_f273)) (fun _ h9 => h9) rfl dX9_lodge_80 ?_
            refine lv_istore_n (lv' := [(3, .int (gi u163 66)), (4, .int y156d), (2, .int y158d), (0, .ref (A 0)), (1, .int a0)]) hx hb dX9_lodge_83 rfl hl (by decide) rfl (fun ls hl => ?_)
            refine lv_iload hx hb dX9_lodge_84 (lv_at hl 1 rfl) ?_
            refine lv_istore_n (lv' := [(2, .int y156d), (3, .int (gi u163 66)), (4, .int y156d), (0, .ref (A 0)), (1, .int a0)]) hx hb dX9_lodge_86 rfl hl (by decide) rfl (fun ls hl => ?_)
            exact j87_170 ls (gi u163 66) y156d (by omega) (by omega) (by omega) (lv_sub hl [2, 1, 0, 3, 4] rfl)
    exact lp40_159 11 ls 0 10000 0 u9 _ _ (by decide) (by decide) (by decide) (by decide) (by decide) (by have q9 : (0 : Int32).toInt = 0 := (by decide); omega) Un.rf hI hH hl
  · subst e9
    refine lv_if_ne (tgt := 11) hx hb dX9_lodge_5 (by decide) (fun c173 => absurd c173 (by decide)) (fun c173 => ?_)
    refine lv_bipush (v := (-2)) hx hb dX9_lodge_8 (by decide) ?_
    exact hret _ _ _ _ ((-2) : Int32) _ dX9_lodge_10 rfl ⟨hI, Un.rf, ⟨by decide, by decide⟩⟩ hH
set_option maxHeartbeats 4000000 in
set_option maxRecDepth 100000 in
theorem kX9_slowestDrawn_0 (l : Launch) (D : va_G) (C : Nat → ClassId) (A : Nat → Nat) (u : St) (hI : IC u) (a0 : Int32) (A0 : Int) (ha0 : a0.toInt = A0) (a1 : Int32) (A1 : Int) (ha1 : a1.toInt = A1) (hl1 : 0 ≤ A1) (hm1 : A1 ≤ 6) (sz : Nat) : MetI l yX9_slowestDrawn cX9_slowestDrawn 4 (some .int) 3 [.ref (A 0), .int a0, .int a1] D (tyl C) (cw C A) X0 u sz (fun r u' => IC u' ∧ Un [] [(83, 83)] [] u u' ∧ ((-1) ≤ r.toInt ∧ r.toInt ≤ 5)) := by
  refine mI (by decide) (Nat.le_of_ble_eq_true rfl) ?_
  intro p e s m below meth c ls ar Q hx hb hml hown hts hK hH hX hl hret
  have hown : s.vm.findClass RX9 = some m.cls := hown
  have hl : lv_has ls 4 [(0, .ref (A 0)), (1, .int a0), (2, .int a1)] := hl
  refine lv_aload_n hx hb dX9_slowestDrawn_0 rfl (lv_at hl 0 rfl) ?_
  refine va_get (ci := 9) (v := .ref (A 16)) (C := RX9) (T := TX9) (N := 12) hx hb hts (fun w h => uc_in w (inX9 w h)) hown hK hH.1 0 (cwc0 C A u) rfl 11 (by decide) (hts _ (uc_in _ q_f394)) (fun _ h9 => h9) rfl dX9_slowestDrawn_1 ?_
  refine lv_iload_n hx hb dX9_slowestDrawn_4 rfl (lv_at hl 1 rfl) ?_
  refine cvU (n := 1) (As := [.int a0]) (rest := []) ⟨hx, hb, hml, hown, hts⟩ uc_in (kX4_begin_0 l D C A u hI a0 A0 ha0 _) q_m1113 q_n1114 q_e1115 q_i10 q_c1116 hvX4_begin ⟨(Nat.le_of_ble_eq_true rfl), (Nat.le_of_ble_eq_true rfl)⟩ ⟨(Nat.le_of_ble_eq_true rfl), (Nat.le_of_ble_eq_true rfl)⟩ hK hH (fun q h => Or.inr h) Bl0 (fun _ _ _ => trivial) 4 16 rfl (cwc16 C A u) rfl hl.1 rfl (Nat.le_of_ble_eq_true rfl) dX9_slowestDrawn_5 (fun u1 H locs p3 hH => ?_)
  obtain ⟨hI, hUu1, p3⟩ := p3
  refine lv_iconst (v := 0) hx hb dX9_slowestDrawn_8 (by decide) ?_
  refine lv_istore_n (lv' := [(3, .int 0), (0, .ref (A 0)), (1, .int a0), (2, .int a1)]) hx hb dX9_slowestDrawn_9 rfl hl (by decide) rfl (fun ls hl => ?_)
  have lp10_82 : ∀ (n10 : Nat) (ls : Array Slot) (y81d : Int32) (u82 : St) (H : Heap) (locs : List Loc), 0 ≤ y81d.toInt → y81d.toInt ≤ 7 → 7 - y81d.toInt < (n10 : Int) → Un [] [(83, 83)] [] u1 u82 → IC u82 → Hd D (cw C A) (va_A (cw C A u) s.heap.size) s.heap u82 H locs → lv_has ls 4 [(3, .int y81d), (0, .ref (A 0)), (2, .int a1)] → W p l e (rmL 3 0 0) s m ar below meth c H locs 0 0 Q (F0 m 10 ls []) := by
    intro n10
    induction n10 with
    | zero => intro ls y81d u82 H locs ly81d my81d hmun10 hUu82 hI hH hl; exfalso; omega
    | succ n10 ih10_82 =>
      intro ls y81d u82 H locs ly81d my81d hmun10 hUu82 hI hH hl
      refine lv_iload_n hx hb dX9_slowestDrawn_10 rfl (lv_at hl 0 rfl) ?_
      refine lv_iload_n hx hb dX9_slowestDrawn_11 rfl (lv_at hl 2 rfl) ?_
      refine lv_icmp_gt (tgt := 54) hx hb dX9_slowestDrawn_12 (by decide) (fun c84 => ?_) (fun c84 => ?_)
      · have c84 := cLT (x := a1) (y := y81d) (X := A1) (Y := y81d.toInt) ha1 rfl c84
        refine lv_aload_n hx hb dX9_slowestDrawn_54 rfl (lv_at hl 1 rfl) ?_
        refine va_get (ci := 9) (v := .ref (A 16)) (C := RX9) (T := TX9) (N := 12) hx hb hts (fun w h => uc_in w (inX9 w h)) hown hK hH.1 0 (cwc0 C A u82) rfl 11 (by decide) (hts _ (uc_in _ q_f394)) (fun _ h9 => h9) rfl dX9_slowestDrawn_55 ?_
        refine va_get (ci := 4) (v := .ref (A 83)) (C := RX4) (T := TX4) (N := 4) hx hb hts (fun w h => uc_in w (inX4 w h)) hown hK hH.1 16 (cwc16 C A u82) rfl 2 (by decide) (hts _ (uc_in _ q_f372)) (fun _ h9 => h9) rfl dX9_slowestDrawn_58 ?_
        refine lv_aload_n hx hb dX9_slowestDrawn_61 rfl (lv_at hl 1 rfl) ?_
        refine va_get (ci := 9) (v := .ref (A 7)) (C := RX9) (T := TX9) (N := 12) hx hb hts (fun w h => uc_in w (inX9 w h)) hown hK hH.1 0 (cwc0 C A u82) rfl 5 (by decide) (hts _ (uc_in _ q_f388)) (fun _ h9 => h9) rfl dX9_slowestDrawn_62 ?_
        refine va_get (ci := 5) (v := .ref (A 38)) (C := RX5) (T := TX5) (N := 4) hx hb hts (fun w h => uc_in w (inX5 w h)) hown hK hH.1 7 (cwc7 C A u82) rfl 3 (by decide) (hts _ (uc_in _ q_f175)) (fun _ h9 => h9) rfl dX9_slowestDrawn_65 ?_
        refine lv_iload_n hx hb dX9_slowestDrawn_68 rfl (lv_at hl 2 rfl) ?_
        refine va_iald hx hb hK hH.1 38 1 (cwc38 C A u82) rfl (i_ix ha1 (by omega) (by omega)) dX9_slowestDrawn_69 ?_
        refine p_any (fun z85 => ?_)
        refine csS (n := 2) (As := [.ref (A 83), .int z85]) (rest := []) ⟨hx, hb, hml, hown, hts⟩ uc_in (kX5_lastOf_0 l D C A u82 hI 31 (by decide) z85 z85.toInt rfl) q_m627 q_s613 q_i4 q_c614 hvX5_lastOf ⟨(Nat.le_of_ble_eq_true rfl), (Nat.le_of_ble_eq_true rfl)⟩ ⟨(Nat.le_of_ble_eq_true rfl), (Nat.le_of_ble_eq_true rfl)⟩ hK hH.1 rfl hl.1 rfl (Nat.le_of_ble_eq_true rfl) dX9_slowestDrawn_70 (fun r86 p87 => ?_)
        have p87 : (-1) ≤ r86.toInt ∧ r86.toInt ≤ 5 := p87
        exact hret _ _ _ _ r86 _ dX9_slowestDrawn_73 rfl ⟨hI, (Un.tr (Un.tr Un.rf hUu1 rfl rfl rfl) hUu82 rfl rfl rfl), ⟨by omega, by omega⟩⟩ hH
      · have c84 := cNLT (x := a1) (y := y81d) (X := A1) (Y := y81d.toInt) ha1 rfl c84
        refine lv_aload_n hx hb dX9_slowestDrawn_15 rfl (lv_at hl 1 rfl) ?_
        refine va_get (ci := 9) (v := .ref (A 16)) (C := RX9) (T := TX9) (N := 12) hx hb hts (fun w h => uc_in w (inX9 w h)) hown hK hH.1 0 (cwc0 C A u82) rfl 11 (by decide) (hts _ (uc_in _ q_f394)) (fun _ h9 => h9) rfl dX9_slowestDrawn_16 ?_
        refine lv_aload_n hx hb dX9_slowestDrawn_19 rfl (lv_at hl 1 rfl) ?_
        refine va_get (ci := 9) (v := .ref (A 7)) (C := RX9) (T := TX9) (N := 12) hx hb hts (fun w h => uc_in w (inX9 w h)) hown hK hH.1 0 (cwc0 C A u82) rfl 5 (by decide) (hts _ (uc_in _ q_f388)) (fun _ h9 => h9) rfl dX9_slowestDrawn_20 ?_
        refine va_get (ci := 5) (v := .ref (A 19)) (C := RX5) (T := TX5) (N := 4) hx hb hts (fun w h => uc_in w (inX5 w h)) hown hK hH.1 7 (cwc7 C A u82) rfl 2 (by decide) (hts _ (uc_in _ q_f171)) (fun _ h9 => h9) rfl dX9_slowestDrawn_23 ?_
        refine lv_iload_n hx hb dX9_slowestDrawn_26 rfl (lv_at hl 0 rfl) ?_
        refine r_aald hx hb hK hH.1 19 6 rfl (cwc19 C A u82) rfl (i_ix rfl (by omega) (by omega)) dX9_slowestDrawn_27 ?_
        obtain ⟨k88, hk88, ek88⟩ : ∃ k : Nat, (k : Int) = 32 + y81d.toInt ∧ k = 32 + Int32.toNatClampNeg y81d := ⟨_, by have q9 := i_cl (x := y81d) (X := y81d.toInt) rfl (by omega); omega, rfl⟩
        refine pv_v (v := .ref (A (52 + k88))) (by rw [ek88]; rfl) ?_
        refine lv_aload_n hx hb dX9_slowestDrawn_28 rfl (lv_at hl 1 rfl) ?_
        refine va_get (ci := 9) (v := .ref (A 7)) (C := RX9) (T := TX9) (N := 12) hx hb hts (fun w h => uc_in w (inX9 w h)) hown hK hH.1 0 (cwc0 C A u82) rfl 5 (by decide) (hts _ (uc_in _ q_f388)) (fun _ h9 => h9) rfl dX9_slowestDrawn_29 ?_
        refine va_get (ci := 5) (v := .ref (A 38)) (C := RX5) (T := TX5) (N := 4) hx hb hts (fun w h => uc_in w (inX5 w h)) hown hK hH.1 7 (cwc7 C A u82) rfl 3 (by decide) (hts _ (uc_in _ q_f175)) (fun _ h9 => h9) rfl dX9_slowestDrawn_32 ?_
        refine lv_iload_n hx hb dX9_slowestDrawn_35 rfl (lv_at hl 0 rfl) ?_
        refine va_iald hx hb hK hH.1 38 1 (cwc38 C A u82) rfl (i_ix rfl (by omega) (by omega)) dX9_slowestDrawn_36 ?_
        refine p_any (fun z89 => ?_)
        refine lv_aload_n hx hb dX9_slowestDrawn_37 rfl (lv_at hl 1 rfl) ?_
        refine va_get (ci := 9) (v := .ref (A 2)) (C := RX9) (T := TX9) (N := 12) hx hb hts (fun w h => uc_in w (inX9 w h)) hown hK hH.1 0 (cwc0 C A u82) rfl 1 (by decide) (hts _ (uc_in _ q_f384)) (fun _ h9 => h9) rfl dX9_slowestDrawn_38 ?_
        refine va_get (ci := 7) (v := .int (gi u82 11)) (C := RX7) (T := TX7) (N := 16) hx hb hts (fun w h => uc_in w (inX7 w h)) hown hK hH.1 2 (cwc2 C A u82) rfl 3 (by decide) (hts _ (uc_in _ q_f80)) (fun _ h9 => h9) rfl dX9_slowestDrawn_41 ?_
        refine cvI (n := 3) (As := [.ref (A (52 + k88)), .int z89, .int (gi u82 11)]) (rest := []) ⟨hx, hb, hml, hown, hts⟩ uc_in (kX4_drawDay_0 l D C A u82 hI k88 (by omega) z89 z89.toInt rfl (gi u82 11) (((gi u82 11)).toInt) rfl _) q_m1117 q_n1118 q_e1119 q_i10 q_c1120 hvX4_drawDay ⟨(Nat.le_of_ble_eq_true rfl), (Nat.le_of_ble_eq_true rfl)⟩ ⟨(Nat.le_of_ble_eq_true rfl), (Nat.le_of_ble_eq_true rfl)⟩ hK hH (fun q h => Or.inr h) Bl0 (fun _ _ _ => trivial) 4 16 rfl (cwc16 C A u82) rfl hl.1 rfl (Nat.le_of_ble_eq_true rfl) dX9_slowestDrawn_44 (fun r91 u90 H locs p92 hH => ?_)
        obtain ⟨hI, hUu90, p92⟩ := p92
        have p92 : 0 ≤ r91.toInt ∧ r91.toInt ≤ 1 := p92
        refine lv_pop hx hb dX9_slowestDrawn_47 rfl ?_
        obtain ⟨z93, ez93⟩ : ∃ z, z = y81d + Int32.ofInt 1 := ⟨_, rfl⟩
        have hz93 : z93.toInt = y81d.toInt + 1 := by rw [ez93]; exact tt_add rfl (by decide) (by omega) (by omega)
        refine lv_iinc (v := z93) (lv' := [(3, .int z93), (0, .ref (A 0)), (2, .int a1)]) hx hb dX9_slowestDrawn_48 hl (k := 0) rfl ez93.symm (by decide) rfl (fun ls hl => ?_)
        refine lv_goto (tgt := 10) hx hb dX9_slowestDrawn_51 (by decide) ?_
        exact ih10_82 ls z93 u90 _ _ (by have q9 := (show z93.toInt = (y81d.toInt + 1) from hz93); omega) (by have q9 := (show z93.toInt = (y81d.toInt + 1) from hz93); omega) (by have q9 := (show z93.toInt = (y81d.toInt + 1) from hz93); omega) (Un.tr hUu82 hUu90 rfl rfl rfl) hI hH hl
  exact lp10_82 8 ls 0 u1 _ _ (by decide) (by decide) (by have q9 : (0 : Int32).toInt = 0 := (by decide); omega) Un.rf hI hH (lv_sub hl [0, 1, 3] rfl)
set_option maxHeartbeats 4000000 in
set_option maxRecDepth 100000 in
theorem kX9_luck_0 (l : Launch) (D : va_G) (C : Nat → ClassId) (A : Nat → Nat) (u : St) (hI : IC u) (a0 : Int32) (A0 : Int) (ha0 : a0.toInt = A0) (a1 : Int32) (A1 : Int) (ha1 : a1.toInt = A1) (a2 : Int32) (A2 : Int) (ha2 : a2.toInt = A2) (a3 : Int32) (A3 : Int) (ha3 : a3.toInt = A3) (sz : Nat) : MetI l yX9_luck cX9_luck 7 (some .int) 4 [.ref (A 0), .int a0, .int a1, .int a2, .int a3] D (tyl C) (cw C A) X0 u sz (fun r u' => IC u' ∧ Un [] [(83, 83)] [] u u' ∧ (True)) := by
  refine mI (by decide) (Nat.le_of_ble_eq_true rfl) ?_
  intro p e s m below meth c ls ar Q hx hb hml hown hts hK hH hX hl hret
  have hown : s.vm.findClass RX9 = some m.cls := hown
  have hl : lv_has ls 7 [(0, .ref (A 0)), (1, .int a0), (2, .int a1), (3, .int a2), (4, .int a3)] := hl
  refine lv_iload_n hx hb dX9_luck_0 rfl (lv_at hl 1 rfl) ?_
  refine lv_iconst (v := 0) hx hb dX9_luck_1 (by decide) ?_
  refine lv_ldcw (v := 2000000000) hx hb hown (hts _ (uc_in _ q_k1112)) dX9_luck_2 ?_
  refine csS (n := 3) (As := [.int a0, .int 0, .int 2000000000]) (rest := []) ⟨hx, hb, hml, hown, hts⟩ uc_in (kX9_isWithin_0 l D C A u hI a0 A0 ha0 (0) 0 (by decide) (2000000000) 2000000000 (by decide)) q_m651 q_s652 q_i1 q_c653 hvX9_isWithin ⟨(Nat.le_of_ble_eq_true rfl), (Nat.le_of_ble_eq_true rfl)⟩ ⟨(Nat.le_of_ble_eq_true rfl), (Nat.le_of_ble_eq_true rfl)⟩ hK hH.1 rfl hl.1 rfl (Nat.le_of_ble_eq_true rfl) dX9_luck_5 (fun r1 p2 => ?_)
  rcases p2 with ⟨e9, f3, f4⟩ | ⟨e9, fn5⟩
  · subst e9
    refine lv_if_eq (tgt := 38) hx hb dX9_luck_8 (by decide) (fun c6 => absurd c6 (by decide)) (fun c6 => ?_)
    refine lv_iload_n hx hb dX9_luck_11 rfl (lv_at hl 2 rfl) ?_
    refine lv_iconst (v := 1) hx hb dX9_luck_12 (by decide) ?_
    refine lv_bipush (v := 20) hx hb dX9_luck_13 (by decide) ?_
    refine csS (n := 3) (As := [.int a1, .int 1, .int 20]) (rest := []) ⟨hx, hb, hml, hown, hts⟩ uc_in (kX9_isWithin_0 l D C A u hI a1 A1 ha1 (1) 1 (by decide) (20) 20 (by decide)) q_m651 q_s652 q_i1 q_c653 hvX9_isWithin ⟨(Nat.le_of_ble_eq_true rfl), (Nat.le_of_ble_eq_true rfl)⟩ ⟨(Nat.le_of_ble_eq_true rfl), (Nat.le_of_ble_eq_true rfl)⟩ hK hH.1 rfl hl.1 rfl (Nat.le_of_ble_eq_true rfl) dX9_luck_15 (fun r7 p8 => ?_)
    rcases p8 with ⟨e9, f9, f10⟩ | ⟨e9, fn11⟩
    · subst e9
      refine lv_if_eq (tgt := 38) hx hb dX9_luck_18 (by decide) (fun c12 => absurd c12 (by decide)) (fun c12 => ?_)
      refine lv_aload_n hx hb dX9_luck_21 rfl (lv_at hl 0 rfl) ?_
      refine lv_iload_n hx hb dX9_luck_22 rfl (lv_at hl 3 rfl) ?_
      refine cvS (n := 1) (As := [.int a2]) (rest := []) ⟨hx, hb, hml, hown, hts⟩ uc_in (kX9_isClock_0 l D C A u hI a2 A2 ha2) q_m589 q_n591 q_p11 q_i1 q_c592 hvX9_isClock ⟨(Nat.le_of_ble_eq_true rfl), (Nat.le_of_ble_eq_true rfl)⟩ ⟨(Nat.le_of_ble_eq_true rfl), (Nat.le_of_ble_eq_true rfl)⟩ hK hH.1 9 0 rfl (cwc0 C A u) rfl hl.1 rfl (Nat.le_of_ble_eq_true rfl) dX9_luck_23 (fun r13 p14 => ?_)
      rcases p14 with ⟨e9, f15, f16⟩ | e9
      · subst e9
        have b18 := hI.b49
        refine lv_if_eq (tgt := 38) hx hb dX9_luck_26 (by decide) (fun c19 => absurd c19 (by decide)) (fun c19 => ?_)
        refine lv_aload_n hx hb dX9_luck_29 rfl (lv_at hl 0 rfl) ?_
        refine lv_iload hx hb dX9_luck_30 (lv_at hl 4 rfl) ?_
        refine cvS (n := 1) (As := [.int a3]) (rest := []) ⟨hx, hb, hml, hown, hts⟩ uc_in (kX9_isDay_0 l D C A u hI a3 A3 ha3) q_m597 q_n599 q_p12 q_i1 q_c600 hvX9_isDay ⟨(Nat.le_of_ble_eq_true rfl), (Nat.le_of_ble_eq_true rfl)⟩ ⟨(Nat.le_of_ble_eq_true rfl), (Nat.le_of_ble_eq_true rfl)⟩ hK hH.1 9 0 rfl (cwc0 C A u) rfl hl.1 rfl (Nat.le_of_ble_eq_true rfl) dX9_luck_32 (fun r20 p21 => ?_)
        rcases p21 with ⟨e9, f22, f23⟩ | e9
        · subst e9
          have b25 := hI.b48
          refine lv_if_ne (tgt := 41) hx hb dX9_luck_35 (by decide) (fun c26 => ?_) (fun c26 => absurd c26 (by decide))
          refine lv_iconst (v := 0) hx hb dX9_luck_41 (by decide) ?_
          refine lv_istore (lv' := [(5, .int 0), (0, .ref (A 0)), (1, .int a0), (2, .int a1), (3, .int a2), (4, .int a3)]) hx hb dX9_luck_42 hl (by decide) rfl (fun ls hl => ?_)
          refine lv_iconst (v := 0) hx hb dX9_luck_44 (by decide) ?_
          refine lv_istore (lv' := [(6, .int 0), (5, .int 0), (0, .ref (A 0)), (1, .int a0), (2, .int a1), (3, .int a2), (4, .int a3)]) hx hb dX9_luck_45 hl (by decide) rfl (fun ls hl => ?_)
          have lp47_228 : ∀ (n47 : Nat) (ls : Array Slot) (y226d : Int32) (y227d : Int32) (u228 : St) (H : Heap) (locs : List Loc), 0 ≤ y226d.toInt → y226d.toInt ≤ 20 → 20 - y226d.toInt < (n47 : Int) → Un [] [(83, 83)] [] u u228 → IC u228 → Hd D (cw C A) (va_A (cw C A u) s.heap.size) s.heap u228 H locs → lv_has ls 7 [(6, .int y226d), (5, .int y227d), (0, .ref (A 0)), (1, .int a0), (2, .int a1), (3, .int a2), (4, .int a3)] → W p l e (rmL 4 0 0) s m ar below meth c H locs 0 0 Q (F0 m 47 ls []) := by
            intro n47
            induction n47 with
            | zero => intro ls y226d y227d u228 H locs ly226d my226d hmun47 hUu228 hI hH hl; exfalso; omega
            | succ n47 ih47_228 =>
              intro ls y226d y227d u228 H locs ly226d my226d hmun47 hUu228 hI hH hl
              refine lv_iload hx hb dX9_luck_47 (lv_at hl 0 rfl) ?_
              refine lv_iload_n hx hb dX9_luck_49 rfl (lv_at hl 4 rfl) ?_
              refine lv_icmp_ge (tgt := 76) hx hb dX9_luck_50 (by decide) (fun c230 => ?_) (fun c230 => ?_)
              · have c230 := cLE (x := a1) (y := y226d) (X := A1) (Y := y226d.toInt) ha1 rfl c230
                refine lv_iload hx hb dX9_luck_76 (lv_at hl 1 rfl) ?_
                exact hret _ _ _ _ y227d _ dX9_luck_78 rfl ⟨hI, (Un.tr Un.rf hUu228 rfl rfl rfl), trivial⟩ hH
              · have c230 := cNLE (x := a1) (y := y226d) (X := A1) (Y := y226d.toInt) ha1 rfl c230
                refine lv_aload_n hx hb dX9_luck_53 rfl (lv_at hl 2 rfl) ?_
                refine lv_iload_n hx hb dX9_luck_54 rfl (lv_at hl 3 rfl) ?_
                refine lv_iload hx hb dX9_luck_55 (lv_at hl 0 rfl) ?_
                refine lv_iadd hx hb dX9_luck_57 ?_
                refine p_nm (tt_add (X := A0) (Y := y226d.toInt) ha0 rfl (by omega) (by omega)) (fun z231 hz231 => ?_)
                refine lv_iload hx hb dX9_luck_58 (lv_at hl 6 rfl) ?_
                refine cvI (n := 2) (As := [.int z231, .int a3]) (rest := []) ⟨hx, hb, hml, hown, hts⟩ uc_in (kX9_slowestDrawn_0 l D C A u228 hI z231 (A0 + y226d.toInt) hz231 a3 A3 ha3 (by omega) (by omega) _) q_m1134 q_n1136 q_p49 q_i1 q_c1137 hvX9_slowestDrawn ⟨(Nat.le_of_ble_eq_true rfl), (Nat.le_of_ble_eq_true rfl)⟩ ⟨(Nat.le_of_ble_eq_true rfl), (Nat.le_of_ble_eq_true rfl)⟩ hK hH (fun q h => Or.inr h) Bl0 (fun _ _ _ => trivial) 9 0 rfl (cwc0 C A u228) rfl hl.1 rfl (Nat.le_of_ble_eq_true rfl) dX9_luck_60 (fun r233 u232 H locs p234 hH => ?_)
                obtain ⟨hI, hUu232, p234⟩ := p234
                have p234 : (-1) ≤ r233.toInt ∧ r233.toInt ≤ 5 := p234
                refine lv_iload_n hx hb dX9_luck_63 rfl (lv_at hl 5 rfl) ?_
                have j70_239 : ∀ (ls : Array Slot) (y237d : Int32), lv_has ls 7 [(6, .int y226d), (5, .int y237d), (0, .ref (A 0)), (1, .int a0), (2, .int a1), (3, .int a2), (4, .int a3)] → W p l e (rmL 4 0 0) s m ar below meth c H locs 0 0 Q (F0 m 70 ls []) := by
                  intro ls y237d hl
                  obtain ⟨z241, ez241⟩ : ∃ z, z = y226d + Int32.ofInt 1 := ⟨_, rfl⟩
                  have hz241 : z241.toInt = y226d.toInt + 1 := by rw [ez241]; exact tt_add rfl (by decide) (by omega) (by omega)
                  refine lv_iinc (v := z241) (lv' := [(6, .int z241), (5, .int y237d), (0, .ref (A 0)), (1, .int a0), (2, .int a1), (3, .int a2), (4, .int a3)]) hx hb dX9_luck_70 hl (k := 0) rfl ez241.symm (by decide) rfl (fun ls hl => ?_)
                  refine lv_goto (tgt := 47) hx hb dX9_luck_73 (by decide) ?_
                  exact ih47_228 ls z241 y237d u232 _ _ (by have q9 := (show z241.toInt = (y226d.toInt + 1) from hz241); omega) (by have q9 := (show z241.toInt = (y226d.toInt + 1) from hz241); omega) (by have q9 := (show z241.toInt = (y226d.toInt + 1) from hz241); omega) (Un.tr hUu228 hUu232 rfl rfl rfl) hI hH hl
                refine lv_icmp_ne (tgt := 70) hx hb dX9_luck_64 (by decide) (fun c235 => ?_) (fun c235 => ?_)
                · exact j70_239 ls y227d hl
                · have c235 := cEQ (x := r233) (y := a2) (X := r233.toInt) (Y := A2) rfl ha2 c235
                  obtain ⟨z242, ez242⟩ : ∃ z, z = y227d + Int32.ofInt 1 := ⟨_, rfl⟩
                  refine lv_iinc (v := z242) (lv' := [(5, .int z242), (6, .int y226d), (0, .ref (A 0)), (1, .int a0), (2, .int a1), (3, .int a2), (4, .int a3)]) hx hb dX9_luck_67 hl (k := 1) rfl ez242.symm (by decide) rfl (fun ls hl => ?_)
                  exact j70_239 ls z242 (lv_sub hl [1, 0, 2, 3, 4, 5, 6] rfl)
          exact lp47_228 21 ls 0 0 u _ _ (by decide) (by decide) (by have q9 : (0 : Int32).toInt = 0 := (by decide); omega) Un.rf hI hH hl
        · subst e9
          refine lv_if_ne (tgt := 41) hx hb dX9_luck_35 (by decide) (fun c243 => absurd c243 (by decide)) (fun c243 => ?_)
          refine lv_bipush (v := (-2)) hx hb dX9_luck_38 (by decide) ?_
          exact hret _ _ _ _ ((-2) : Int32) _ dX9_luck_40 rfl ⟨hI, Un.rf, trivial⟩ hH
      · subst e9
        refine lv_if_eq (tgt := 38) hx hb dX9_luck_26 (by decide) (fun c244 => ?_) (fun c244 => absurd c244 (by decide))
        refine lv_bipush (v := (-2)) hx hb dX9_luck_38 (by decide) ?_
        exact hret _ _ _ _ ((-2) : Int32) _ dX9_luck_40 rfl ⟨hI, Un.rf, trivial⟩ hH
    · subst e9
      refine lv_if_eq (tgt := 38) hx hb dX9_luck_18 (by decide) (fun c245 => ?_) (fun c245 => absurd c245 (by decide))
      refine lv_bipush (v := (-2)) hx hb dX9_luck_38 (by decide) ?_
      exact hret _ _ _ _ ((-2) : Int32) _ dX9_luck_40 rfl ⟨hI, Un.rf, trivial⟩ hH
  · subst e9
    refine lv_if_eq (tgt := 38) hx hb dX9_luck_8 (by decide) (fun c246 => ?_) (fun c246 => absurd c246 (by decide))
    refine lv_bipush (v := (-2)) hx hb dX9_luck_38 (by decide) ?_
    exact hret _ _ _ _ ((-2) : Int32) _ dX9_luck_40 rfl ⟨hI, Un.rf, trivial⟩ hH
set_option maxHeartbeats 4000000 in
set_option maxRecDepth 100000 in
theorem kX9_mean_0 (l : Launch) (D : va_G) (C : Nat → ClassId) (A : Nat → Nat) (u : St) (hI : IC u) (a0 : Int32) (A0 : Int) (ha0 : a0.toInt = A0) (a1 : Int32) (A1 : Int) (ha1 : a1.toInt = A1) : Met l yX9_mean (uc yX9_mean cX9_mean 6 (some .int)) (rmL 3 0 0) (va_Pc [.ref (A 0), .int a0, .int a1] (PreR D (tyl C) (cw C A u))) (vp_Si (fun r => True)) 0 0 (fun _ => False) := by
  refine mS (by decide) (Nat.le_of_ble_eq_true rfl) ?_
  intro p e s m below meth c ls ar Q hx hb hml hown hts hK hP hl hret
  have hown : s.vm.findClass RX9 = some m.cls := hown
  have hl : lv_has ls 6 [(0, .ref (A 0)), (1, .int a0), (2, .int a1)] := hl
  refine lv_aload_n hx hb dX9_mean_0 rfl (lv_at hl 0 rfl) ?_
  refine lv_iload_n hx hb dX9_mean_1 rfl (lv_at hl 1 rfl) ?_
  refine cvS (n := 1) (As := [.int a0]) (rest := []) ⟨hx, hb, hml, hown, hts⟩ uc_in (kX9_isClock_0 l D C A u hI a0 A0 ha0) q_m589 q_n591 q_p11 q_i1 q_c592 hvX9_isClock ⟨(Nat.le_of_ble_eq_true rfl), (Nat.le_of_ble_eq_true rfl)⟩ ⟨(Nat.le_of_ble_eq_true rfl), (Nat.le_of_ble_eq_true rfl)⟩ hK hP 9 0 rfl (cwc0 C A u) rfl hl.1 rfl (Nat.le_of_ble_eq_true rfl) dX9_mean_2 (fun r1 p2 => ?_)
  rcases p2 with ⟨e9, f3, f4⟩ | e9
  · subst e9
    have b6 := hI.b49
    refine lv_if_eq (tgt := 17) hx hb dX9_mean_5 (by decide) (fun c7 => absurd c7 (by decide)) (fun c7 => ?_)
    refine lv_iload_n hx hb dX9_mean_8 rfl (lv_at hl 2 rfl) ?_
    refine lv_iconst (v := 0) hx hb dX9_mean_9 (by decide) ?_
    refine lv_iconst (v := 1) hx hb dX9_mean_10 (by decide) ?_
    refine csS (n := 3) (As := [.int a1, .int 0, .int 1]) (rest := []) ⟨hx, hb, hml, hown, hts⟩ uc_in (kX9_isWithin_0 l D C A u hI a1 A1 ha1 (0) 0 (by decide) (1) 1 (by decide)) q_m651 q_s652 q_i1 q_c653 hvX9_isWithin ⟨(Nat.le_of_ble_eq_true rfl), (Nat.le_of_ble_eq_true rfl)⟩ ⟨(Nat.le_of_ble_eq_true rfl), (Nat.le_of_ble_eq_true rfl)⟩ hK hP rfl hl.1 rfl (Nat.le_of_ble_eq_true rfl) dX9_mean_11 (fun r8 p9 => ?_)
    rcases p9 with ⟨e9, f10, f11⟩ | ⟨e9, fn12⟩
    · subst e9
      refine lv_if_ne (tgt := 21) hx hb dX9_mean_14 (by decide) (fun c13 => ?_) (fun c13 => absurd c13 (by decide))
      refine lv_iconst (v := 0) hx hb dX9_mean_21 (by decide) ?_
      refine lv_istore_n (lv' := [(3, .int 0), (0, .ref (A 0)), (1, .int a0), (2, .int a1)]) hx hb dX9_mean_22 rfl hl (by decide) rfl (fun ls hl => ?_)
      refine lv_iconst (v := 0) hx hb dX9_mean_23 (by decide) ?_
      refine lv_istore (lv' := [(4, .int 0), (3, .int 0), (0, .ref (A 0)), (1, .int a0), (2, .int a1)]) hx hb dX9_mean_24 hl (by decide) rfl (fun ls hl => ?_)
      refine lv_iconst (v := 0) hx hb dX9_mean_26 (by decide) ?_
      refine lv_istore (lv' := [(5, .int 0), (4, .int 0), (3, .int 0), (0, .ref (A 0)), (1, .int a0), (2, .int a1)]) hx hb dX9_mean_27 hl (by decide) rfl (fun ls hl => ?_)
      have lp29_307 : ∀ (n29 : Nat) (ls : Array Slot) (y305d : Int32) (y306d : Int32) (y307d : Int32), 0 ≤ y305d.toInt → y305d.toInt ≤ 7 → 7 - y305d.toInt < (n29 : Int) → lv_has ls 6 [(5, .int y305d), (4, .int y306d), (3, .int y307d), (0, .ref (A 0)), (1, .int a0), (2, .int a1)] → W p l e (rmL 3 0 0) s m ar below meth c s.heap [] 0 0 Q (F0 m 29 ls []) := by
        intro n29
        induction n29 with
        | zero => intro ls y305d y306d y307d ly305d my305d hmun29 hl; exfalso; omega
        | succ n29 ih29_307 =>
          intro ls y305d y306d y307d ly305d my305d hmun29 hl
          refine lv_iload hx hb dX9_mean_29 (lv_at hl 0 rfl) ?_
          refine lv_aload_n hx hb dX9_mean_31 rfl (lv_at hl 3 rfl) ?_
          refine va_get (ci := 9) (v := .ref (A 7)) (C := RX9) (T := TX9) (N := 12) hx hb hts (fun w h => uc_in w (inX9 w h)) hown hK hP 0 (cwc0 C A u) rfl 5 (by decide) (hts _ (uc_in _ q_f388)) (fun _ h9 => h9) rfl dX9_mean_32 ?_
          refine va_get (ci := 5) (v := .int (gi u 48)) (C := RX5) (T := TX5) (N := 4) hx hb hts (fun w h => uc_in w (inX5 w h)) hown hK hP 7 (cwc7 C A u) rfl 0 (by decide) (hts _ (uc_in _ q_f164)) (fun _ h9 => h9) rfl dX9_mean_35 ?_
          have b309 := hI.b48
          refine lv_icmp_ge (tgt := 83) hx hb dX9_mean_38 (by decide) (fun c310 => ?_) (fun c310 => ?_)
          · have c310 := cLE (x := (gi u 48)) (y := y305d) (X := ((gi u 48)).toInt) (Y := y305d.toInt) rfl rfl c310
            refine lv_iload hx hb dX9_mean_83 (lv_at hl 1 rfl) ?_
            refine lv_if_ne (tgt := 99) hx hb dX9_mean_85 (by decide) (fun c311 => ?_) (fun c311 => ?_)
            · refine lv_iload_n hx hb dX9_mean_99 rfl (lv_at hl 2 rfl) ?_
              refine lv_iload hx hb dX9_mean_100 (lv_at hl 1 rfl) ?_
              refine lv_iload_n hx hb dX9_mean_102 rfl (lv_at hl 5 rfl) ?_
              refine csS (n := 3) (As := [.int y307d, .int y306d, .int a1]) (rest := []) ⟨hx, hb, hml, hown, hts⟩ uc_in (kX9_fraction_0 l D C A u hI y307d y307d.toInt rfl y306d y306d.toInt rfl a1 A1 ha1) q_m798 q_s799 q_i1 q_c800 hvX9_fraction ⟨(Nat.le_of_ble_eq_true rfl), (Nat.le_of_ble_eq_true rfl)⟩ ⟨(Nat.le_of_ble_eq_true rfl), (Nat.le_of_ble_eq_true rfl)⟩ hK hP rfl hl.1 rfl (Nat.le_of_ble_eq_true rfl) dX9_mean_103 (fun r312 p313 => ?_)
              exact hret _ _ r312 dX9_mean_106 rfl trivial
            · have c311 := cEQ (x := y306d) (y := 0) (X := y306d.toInt) (Y := 0) rfl (by decide) c311
              refine lv_sipush (v := 10000) hx hb dX9_mean_88 (by decide) ?_
              refine lv_iconst (v := 1) hx hb dX9_mean_91 (by decide) ?_
              refine lv_iload_n hx hb dX9_mean_92 rfl (lv_at hl 5 rfl) ?_
              refine csS (n := 3) (As := [.int 10000, .int 1, .int a1]) (rest := []) ⟨hx, hb, hml, hown, hts⟩ uc_in (kX9_fraction_0 l D C A u hI (10000) 10000 (by decide) (1) 1 (by decide) a1 A1 ha1) q_m798 q_s799 q_i1 q_c800 hvX9_fraction ⟨(Nat.le_of_ble_eq_true rfl), (Nat.le_of_ble_eq_true rfl)⟩ ⟨(Nat.le_of_ble_eq_true rfl), (Nat.le_of_ble_eq_true rfl)⟩ hK hP rfl hl.1 rfl (Nat.le_of_ble_eq_true rfl) dX9_mean_93 (fun r314 p315 => ?_)
              refine lv_goto (tgt := 106) hx hb dX9_mean_96 (by decide) ?_
              exact hret _ _ r314 dX9_mean_106 rfl trivial
          · have c310 := cNLE (x := (gi u 48)) (y := y305d) (X := ((gi u 48)).toInt) (Y := y305d.toInt) rfl rfl c310
            refine lv_aload_n hx hb dX9_mean_41 rfl (lv_at hl 3 rfl) ?_
            refine va_get (ci := 9) (v := .ref (A 7)) (C := RX9) (T := TX9) (N := 12) hx hb hts (fun w h => uc_in w (inX9 w h)) hown hK hP 0 (cwc0 C A u) rfl 5 (by decide) (hts _ (uc_in _ q_f388)) (fun _ h9 => h9) rfl dX9_mean_42 ?_
            refine va_get (ci := 5) (v := .ref (A 19)) (C := RX5) (T := TX5) (N := 4) hx hb hts (fun w h => uc_in w (inX5 w h)) hown hK hP 7 (cwc7 C A u) rfl 2 (by decide) (hts _ (uc_in _ q_f171)) (fun _ h9 => h9) rfl dX9_mean_45 ?_
            refine lv_iload hx hb dX9_mean_48 (lv_at hl 0 rfl) ?_
            refine r_aald hx hb hK hP 19 6 rfl (cwc19 C A u) rfl (i_ix rfl (by omega) (by omega)) dX9_mean_50 ?_
            obtain ⟨k316, hk316, ek316⟩ : ∃ k : Nat, (k : Int) = 32 + y305d.toInt ∧ k = 32 + Int32.toNatClampNeg y305d := ⟨_, by have q9 := i_cl (x := y305d) (X := y305d.toInt) rfl (by omega); omega, rfl⟩
            refine pv_v (v := .ref (A (52 + k316))) (by rw [ek316]; rfl) ?_
            refine lv_iload_n hx hb dX9_mean_51 rfl (lv_at hl 4 rfl) ?_
            refine va_iald hx hb hK hP (52 + k316) 1 (cwp C A u k316 (by omega)) rfl (i_ix ha0 (by omega) (by omega)) dX9_mean_52 ?_
            refine p_any (fun z317 => ?_)
            refine lv_sipush (v := 10000) hx hb dX9_mean_53 (by decide) ?_
            have j77_326 : ∀ (ls : Array Slot) (y323d : Int32) (y324d : Int32), lv_has ls 6 [(5, .int y305d), (4, .int y323d), (3, .int y324d), (0, .ref (A 0)), (1, .int a0), (2, .int a1)] → W p l e (rmL 3 0 0) s m ar below meth c s.heap [] 0 0 Q (F0 m 77 ls []) := by
              intro ls y323d y324d hl
              obtain ⟨z328, ez328⟩ : ∃ z, z = y305d + Int32.ofInt 1 := ⟨_, rfl⟩
              have hz328 : z328.toInt = y305d.toInt + 1 := by rw [ez328]; exact tt_add rfl (by decide) (by omega) (by omega)
              refine lv_iinc (v := z328) (lv' := [(5, .int z328), (4, .int y323d), (3, .int y324d), (0, .ref (A 0)), (1, .int a0), (2, .int a1)]) hx hb dX9_mean_77 hl (k := 0) rfl ez328.symm (by decide) rfl (fun ls hl => ?_)
              refine lv_goto (tgt := 29) hx hb dX9_mean_80 (by decide) ?_
              exact ih29_307 ls z328 y323d y324d (by have q9 := (show z328.toInt = (y305d.toInt + 1) from hz328); omega) (by have q9 := (show z328.toInt = (y305d.toInt + 1) from hz328); omega) (by have q9 := (show z328.toInt = (y305d.toInt + 1) from hz328); omega) hl
            refine lv_icmp_eq (tgt := 77) hx hb dX9_mean_56 (by decide) (fun c318 => ?_) (fun c318 => ?_)
            · have c318 := cEQ (x := z317) (y := 10000) (X := z317.toInt) (Y := 10000) rfl (by decide) c318
              exact j77_326 ls y306d y307d hl
            · refine lv_iload_n hx hb dX9_mean_59 rfl (lv_at hl 2 rfl) ?_
              refine lv_aload_n hx hb dX9_mean_60 rfl (lv_at hl 3 rfl) ?_
              refine va_get (ci := 9) (v := .ref (A 7)) (C := RX9) (T := TX9) (N := 12) hx hb hts (fun w h => uc_in w (inX9 w h)) hown hK hP 0 (cwc0 C A u) rfl 5 (by decide) (hts _ (uc_in _ q_f388)) (fun _ h9 => h9) rfl dX9_mean_61 ?_
              refine va_get (ci := 5) (v := .ref (A 19)) (C := RX5) (T := TX5) (N := 4) hx hb hts (fun w h => uc_in w (inX5 w h)) hown hK hP 7 (cwc7 C A u) rfl 2 (by decide) (hts _ (uc_in _ q_f171)) (fun _ h9 => h9) rfl dX9_mean_64 ?_
              refine lv_iload hx hb dX9_mean_67 (lv_at hl 0 rfl) ?_
              refine r_aald hx hb hK hP 19 6 rfl (cwc19 C A u) rfl (i_ix rfl (by omega) (by omega)) dX9_mean_69 ?_
              obtain ⟨k329, hk329, ek329⟩ : ∃ k : Nat, (k : Int) = 32 + y305d.toInt ∧ k = 32 + Int32.toNatClampNeg y305d := ⟨_, by have q9 := i_cl (x := y305d) (X := y305d.toInt) rfl (by omega); omega, rfl⟩
              refine pv_v (v := .ref (A (52 + k329))) (by rw [ek329]; rfl) ?_
              refine lv_iload_n hx hb dX9_mean_70 rfl (lv_at hl 4 rfl) ?_
              refine va_iald hx hb hK hP (52 + k329) 1 (cwp C A u k329 (by omega)) rfl (i_ix ha0 (by omega) (by omega)) dX9_mean_71 ?_
              refine p_any (fun z330 => ?_)
              refine lv_iadd hx hb dX9_mean_72 ?_
              refine p_any (fun z331 => ?_)
              refine lv_istore_n (lv' := [(3, .int z331), (5, .int y305d), (4, .int y306d), (0, .ref (A 0)), (1, .int a0), (2, .int a1)]) hx hb dX9_mean_73 rfl hl (by decide) rfl (fun ls hl => ?_)
              obtain ⟨z332, ez332⟩ : ∃ z, z = y306d + Int32.ofInt 1 := ⟨_, rfl⟩
              refine lv_iinc (v := z332) (lv' := [(4, .int z332), (3, .int z331), (5, .int y305d), (0, .ref (A 0)), (1, .int a0), (2, .int a1)]) hx hb dX9_mean_74 hl (k := 2) rfl ez332.symm (by decide) rfl (fun ls hl => ?_)
              exact j77_326 ls z332 z331 (lv_sub hl [2, 0, 1, 3, 4, 5] rfl)
      exact lp29_307 8 ls 0 0 0 (by decide) (by decide) (by have q9 : (0 : Int32).toInt = 0 := (by decide); omega) hl
    · subst e9
      refine lv_if_ne (tgt := 21) hx hb dX9_mean_14 (by decide) (fun c333 => absurd c333 (by decide)) (fun c333 => ?_)
      refine lv_sipush (v := (-1000)) hx hb dX9_mean_17 (by decide) ?_
      exact hret _ _ ((-1000) : Int32) dX9_mean_20 rfl trivial
  · subst e9
    refine lv_if_eq (tgt := 17) hx hb dX9_mean_5 (by decide) (fun c334 => ?_) (fun c334 => absurd c334 (by decide))
    refine lv_sipush (v := (-1000)) hx hb dX9_mean_17 (by decide) ?_
    exact hret _ _ ((-1000) : Int32) dX9_mean_20 rfl trivial
set_option maxHeartbeats 4000000 in
set_option maxRecDepth 100000 in
theorem kX9_meet_0 (l : Launch) (D : va_G) (C : Nat → ClassId) (A : Nat → Nat) (u : St) (hI : IC u) (a0 : Int32) (A0 : Int) (ha0 : a0.toInt = A0) (a1 : Int32) (A1 : Int) (ha1 : a1.toInt = A1) : Met l yX9_meet (uc yX9_meet cX9_meet 4 (some .int)) (rmL 2 0 0) (va_Pc [.ref (A 0), .int a0, .int a1] (PreR D (tyl C) (cw C A u))) (vp_Si (fun r => (-2) ≤ r.toInt ∧ r.toInt ≤ 6)) 0 0 (fun _ => False) := by
  refine mS (by decide) (Nat.le_of_ble_eq_true rfl) ?_
  intro p e s m below meth c ls ar Q hx hb hml hown hts hK hP hl hret
  have hown : s.vm.findClass RX9 = some m.cls := hown
  have hl : lv_has ls 4 [(0, .ref (A 0)), (1, .int a0), (2, .int a1)] := hl
  refine lv_aload_n hx hb dX9_meet_0 rfl (lv_at hl 0 rfl) ?_
  refine lv_iload_n hx hb dX9_meet_1 rfl (lv_at hl 1 rfl) ?_
  refine cvS (n := 1) (As := [.int a0]) (rest := []) ⟨hx, hb, hml, hown, hts⟩ uc_in (kX9_isClock_0 l D C A u hI a0 A0 ha0) q_m589 q_n591 q_p11 q_i1 q_c592 hvX9_isClock ⟨(Nat.le_of_ble_eq_true rfl), (Nat.le_of_ble_eq_true rfl)⟩ ⟨(Nat.le_of_ble_eq_true rfl), (Nat.le_of_ble_eq_true rfl)⟩ hK hP 9 0 rfl (cwc0 C A u) rfl hl.1 rfl (Nat.le_of_ble_eq_true rfl) dX9_meet_2 (fun r1 p2 => ?_)
  rcases p2 with ⟨e9, f3, f4⟩ | e9
  · subst e9
    have b6 := hI.b49
    refine lv_if_eq (tgt := 16) hx hb dX9_meet_5 (by decide) (fun c7 => absurd c7 (by decide)) (fun c7 => ?_)
    refine lv_aload_n hx hb dX9_meet_8 rfl (lv_at hl 0 rfl) ?_
    refine lv_iload_n hx hb dX9_meet_9 rfl (lv_at hl 2 rfl) ?_
    refine cvS (n := 1) (As := [.int a1]) (rest := []) ⟨hx, hb, hml, hown, hts⟩ uc_in (kX9_isClock_0 l D C A u hI a1 A1 ha1) q_m589 q_n591 q_p11 q_i1 q_c592 hvX9_isClock ⟨(Nat.le_of_ble_eq_true rfl), (Nat.le_of_ble_eq_true rfl)⟩ ⟨(Nat.le_of_ble_eq_true rfl), (Nat.le_of_ble_eq_true rfl)⟩ hK hP 9 0 rfl (cwc0 C A u) rfl hl.1 rfl (Nat.le_of_ble_eq_true rfl) dX9_meet_10 (fun r8 p9 => ?_)
    rcases p9 with ⟨e9, f10, f11⟩ | e9
    · subst e9
      refine lv_if_ne (tgt := 19) hx hb dX9_meet_13 (by decide) (fun c12 => ?_) (fun c12 => absurd c12 (by decide))
      refine lv_iconst (v := 0) hx hb dX9_meet_19 (by decide) ?_
      refine lv_istore_n (lv' := [(3, .int 0), (0, .ref (A 0)), (1, .int a0), (2, .int a1)]) hx hb dX9_meet_20 rfl hl (by decide) rfl (fun ls hl => ?_)
      have lp21_69 : ∀ (n21 : Nat) (ls : Array Slot) (y69d : Int32), 0 ≤ y69d.toInt → y69d.toInt ≤ 7 → 7 - y69d.toInt < (n21 : Int) → lv_has ls 4 [(3, .int y69d), (0, .ref (A 0)), (1, .int a0), (2, .int a1)] → W p l e (rmL 2 0 0) s m ar below meth c s.heap [] 0 0 Q (F0 m 21 ls []) := by
        intro n21
        induction n21 with
        | zero => intro ls y69d ly69d my69d hmun21 hl; exfalso; omega
        | succ n21 ih21_69 =>
          intro ls y69d ly69d my69d hmun21 hl
          refine lv_iload_n hx hb dX9_meet_21 rfl (lv_at hl 0 rfl) ?_
          refine lv_aload_n hx hb dX9_meet_22 rfl (lv_at hl 1 rfl) ?_
          refine va_get (ci := 9) (v := .ref (A 7)) (C := RX9) (T := TX9) (N := 12) hx hb hts (fun w h => uc_in w (inX9 w h)) hown hK hP 0 (cwc0 C A u) rfl 5 (by decide) (hts _ (uc_in _ q_f388)) (fun _ h9 => h9) rfl dX9_meet_23 ?_
          refine va_get (ci := 5) (v := .int (gi u 48)) (C := RX5) (T := TX5) (N := 4) hx hb hts (fun w h => uc_in w (inX5 w h)) hown hK hP 7 (cwc7 C A u) rfl 0 (by decide) (hts _ (uc_in _ q_f164)) (fun _ h9 => h9) rfl dX9_meet_26 ?_
          have b71 := hI.b48
          refine lv_icmp_ge (tgt := 65) hx hb dX9_meet_29 (by decide) (fun c72 => ?_) (fun c72 => ?_)
          · have c72 := cLE (x := (gi u 48)) (y := y69d) (X := ((gi u 48)).toInt) (Y := y69d.toInt) rfl rfl c72
            refine lv_iconst (v := (-1)) hx hb dX9_meet_65 (by decide) ?_
            exact hret _ _ ((-1) : Int32) dX9_meet_66 rfl ⟨by decide, by decide⟩
          · have c72 := cNLE (x := (gi u 48)) (y := y69d) (X := ((gi u 48)).toInt) (Y := y69d.toInt) rfl rfl c72
            refine lv_aload_n hx hb dX9_meet_32 rfl (lv_at hl 1 rfl) ?_
            refine va_get (ci := 9) (v := .ref (A 7)) (C := RX9) (T := TX9) (N := 12) hx hb hts (fun w h => uc_in w (inX9 w h)) hown hK hP 0 (cwc0 C A u) rfl 5 (by decide) (hts _ (uc_in _ q_f388)) (fun _ h9 => h9) rfl dX9_meet_33 ?_
            refine va_get (ci := 5) (v := .ref (A 19)) (C := RX5) (T := TX5) (N := 4) hx hb hts (fun w h => uc_in w (inX5 w h)) hown hK hP 7 (cwc7 C A u) rfl 2 (by decide) (hts _ (uc_in _ q_f171)) (fun _ h9 => h9) rfl dX9_meet_36 ?_
            refine lv_iload_n hx hb dX9_meet_39 rfl (lv_at hl 0 rfl) ?_
            refine r_aald hx hb hK hP 19 6 rfl (cwc19 C A u) rfl (i_ix rfl (by omega) (by omega)) dX9_meet_40 ?_
            obtain ⟨k73, hk73, ek73⟩ : ∃ k : Nat, (k : Int) = 32 + y69d.toInt ∧ k = 32 + Int32.toNatClampNeg y69d := ⟨_, by have q9 := i_cl (x := y69d) (X := y69d.toInt) rfl (by omega); omega, rfl⟩
            refine pv_v (v := .ref (A (52 + k73))) (by rw [ek73]; rfl) ?_
            refine lv_iload_n hx hb dX9_meet_41 rfl (lv_at hl 2 rfl) ?_
            refine va_iald hx hb hK hP (52 + k73) 1 (cwp C A u k73 (by omega)) rfl (i_ix ha0 (by omega) (by omega)) dX9_meet_42 ?_
            refine p_any (fun z74 => ?_)
            refine lv_aload_n hx hb dX9_meet_43 rfl (lv_at hl 1 rfl) ?_
            refine va_get (ci := 9) (v := .ref (A 7)) (C := RX9) (T := TX9) (N := 12) hx hb hts (fun w h => uc_in w (inX9 w h)) hown hK hP 0 (cwc0 C A u) rfl 5 (by decide) (hts _ (uc_in _ q_f388)) (fun _ h9 => h9) rfl dX9_meet_44 ?_
            refine va_get (ci := 5) (v := .ref (A 19)) (C := RX5) (T := TX5) (N := 4) hx hb hts (fun w h => uc_in w (inX5 w h)) hown hK hP 7 (cwc7 C A u) rfl 2 (by decide) (hts _ (uc_in _ q_f171)) (fun _ h9 => h9) rfl dX9_meet_47 ?_
            refine lv_iload_n hx hb dX9_meet_50 rfl (lv_at hl 0 rfl) ?_
            refine r_aald hx hb hK hP 19 6 rfl (cwc19 C A u) rfl (i_ix rfl (by omega) (by omega)) dX9_meet_51 ?_
            obtain ⟨k75, hk75, ek75⟩ : ∃ k : Nat, (k : Int) = 32 + y69d.toInt ∧ k = 32 + Int32.toNatClampNeg y69d := ⟨_, by have q9 := i_cl (x := y69d) (X := y69d.toInt) rfl (by omega); omega, rfl⟩
            refine pv_v (v := .ref (A (52 + k75))) (by rw [ek75]; rfl) ?_
            refine lv_iload_n hx hb dX9_meet_52 rfl (lv_at hl 3 rfl) ?_
            refine va_iald hx hb hK hP (52 + k75) 1 (cwp C A u k75 (by omega)) rfl (i_ix ha1 (by omega) (by omega)) dX9_meet_53 ?_
            refine p_any (fun z76 => ?_)
            refine lv_icmp_ne (tgt := 59) hx hb dX9_meet_54 (by decide) (fun c77 => ?_) (fun c77 => ?_)
            · obtain ⟨z78, ez78⟩ : ∃ z, z = y69d + Int32.ofInt 1 := ⟨_, rfl⟩
              have hz78 : z78.toInt = y69d.toInt + 1 := by rw [ez78]; exact tt_add rfl (by decide) (by omega) (by omega)
              refine lv_iinc (v := z78) (lv' := [(3, .int z78), (0, .ref (A 0)), (1, .int a0), (2, .int a1)]) hx hb dX9_meet_59 hl (k := 0) rfl ez78.symm (by decide) rfl (fun ls hl => ?_)
              refine lv_goto (tgt := 21) hx hb dX9_meet_62 (by decide) ?_
              exact ih21_69 ls z78 (by have q9 := (show z78.toInt = (y69d.toInt + 1) from hz78); omega) (by have q9 := (show z78.toInt = (y69d.toInt + 1) from hz78); omega) (by have q9 := (show z78.toInt = (y69d.toInt + 1) from hz78); omega) hl
            · have c77 := cEQ (x := z74) (y := z76) (X := z74.toInt) (Y := z76.toInt) rfl rfl c77
              refine lv_iload_n hx hb dX9_meet_57 rfl (lv_at hl 0 rfl) ?_
              exact hret _ _ y69d dX9_meet_58 rfl ⟨by omega, by omega⟩
      exact lp21_69 8 ls 0 (by decide) (by decide) (by have q9 : (0 : Int32).toInt = 0 := (by decide); omega) hl
    · subst e9
      refine lv_if_ne (tgt := 19) hx hb dX9_meet_13 (by decide) (fun c79 => absurd c79 (by decide)) (fun c79 => ?_)
      refine lv_bipush (v := (-2)) hx hb dX9_meet_16 (by decide) ?_
      exact hret _ _ ((-2) : Int32) dX9_meet_18 rfl ⟨by decide, by decide⟩
  · subst e9
    refine lv_if_eq (tgt := 16) hx hb dX9_meet_5 (by decide) (fun c80 => ?_) (fun c80 => absurd c80 (by decide))
    refine lv_bipush (v := (-2)) hx hb dX9_meet_16 (by decide) ?_
    exact hret _ _ ((-2) : Int32) dX9_meet_18 rfl ⟨by decide, by decide⟩
set_option maxHeartbeats 4000000 in
set_option maxRecDepth 100000 in
theorem kX9_actOnLate_0 (l : Launch) (D : va_G) (C : Nat → ClassId) (A : Nat → Nat) (u : St) (hI : IC u) (a0 : Int32) (A0 : Int) (ha0 : a0.toInt = A0) (a1 : Int32) (A1 : Int) (ha1 : a1.toInt = A1) (a2 : Int32) (A2 : Int) (ha2 : a2.toInt = A2) (sz : Nat) : MetI l yX9_actOnLate cX9_actOnLate 5 (some .int) 5 [.ref (A 0), .int a0, .int a1, .int a2] D (tyl C) (cw C A) X0 u sz (fun r u' => IC u' ∧ Un [(15, 15), (48, 48), (49, 49)] [(23, 23), (24, 24), (25, 25), (38, 38), (84, 90)] [] u u' ∧ (True)) := by
  refine mI (by decide) (Nat.le_of_ble_eq_true rfl) ?_
  intro p e s m below meth c ls ar Q hx hb hml hown hts hK hH hX hl hret
  have hown : s.vm.findClass RX9 = some m.cls := hown
  have hl : lv_has ls 5 [(0, .ref (A 0)), (1, .int a0), (2, .int a1), (3, .int a2)] := hl
  refine lv_aload_n hx hb dX9_actOnLate_0 rfl (lv_at hl 0 rfl) ?_
  refine lv_iload_n hx hb dX9_actOnLate_1 rfl (lv_at hl 2 rfl) ?_
  refine cvS (n := 1) (As := [.int a1]) (rest := []) ⟨hx, hb, hml, hown, hts⟩ uc_in (kX9_isClock_0 l D C A u hI a1 A1 ha1) q_m589 q_n591 q_p11 q_i1 q_c592 hvX9_isClock ⟨(Nat.le_of_ble_eq_true rfl), (Nat.le_of_ble_eq_true rfl)⟩ ⟨(Nat.le_of_ble_eq_true rfl), (Nat.le_of_ble_eq_true rfl)⟩ hK hH.1 9 0 rfl (cwc0 C A u) rfl hl.1 rfl (Nat.le_of_ble_eq_true rfl) dX9_actOnLate_2 (fun r1 p2 => ?_)
  rcases p2 with ⟨e9, f3, f4⟩ | e9
  · subst e9
    have b6 := hI.b49
    refine lv_if_eq (tgt := 16) hx hb dX9_actOnLate_5 (by decide) (fun c7 => absurd c7 (by decide)) (fun c7 => ?_)
    refine lv_aload_n hx hb dX9_actOnLate_8 rfl (lv_at hl 0 rfl) ?_
    refine lv_iload_n hx hb dX9_actOnLate_9 rfl (lv_at hl 3 rfl) ?_
    refine cvS (n := 1) (As := [.int a2]) (rest := []) ⟨hx, hb, hml, hown, hts⟩ uc_in (kX9_isDay_0 l D C A u hI a2 A2 ha2) q_m597 q_n599 q_p12 q_i1 q_c600 hvX9_isDay ⟨(Nat.le_of_ble_eq_true rfl), (Nat.le_of_ble_eq_true rfl)⟩ ⟨(Nat.le_of_ble_eq_true rfl), (Nat.le_of_ble_eq_true rfl)⟩ hK hH.1 9 0 rfl (cwc0 C A u) rfl hl.1 rfl (Nat.le_of_ble_eq_true rfl) dX9_actOnLate_10 (fun r8 p9 => ?_)
    rcases p9 with ⟨e9, f10, f11⟩ | e9
    · subst e9
      have b13 := hI.b48
      refine lv_if_ne (tgt := 20) hx hb dX9_actOnLate_13 (by decide) (fun c14 => ?_) (fun c14 => absurd c14 (by decide))
      refine lv_aload_n hx hb dX9_actOnLate_20 rfl (lv_at hl 0 rfl) ?_
      refine va_get (ci := 9) (v := .ref (A 2)) (C := RX9) (T := TX9) (N := 12) hx hb hts (fun w h => uc_in w (inX9 w h)) hown hK hH.1 0 (cwc0 C A u) rfl 1 (by decide) (hts _ (uc_in _ q_f384)) (fun _ h9 => h9) rfl dX9_actOnLate_21 ?_
      refine va_get (ci := 7) (v := .int (gi u 15)) (C := RX7) (T := TX7) (N := 16) hx hb hts (fun w h => uc_in w (inX7 w h)) hown hK hH.1 2 (cwc2 C A u) rfl 7 (by decide) (hts _ (uc_in _ q_f94)) (fun _ h9 => h9) rfl dX9_actOnLate_24 ?_
      have b15 := hI.b15
      refine lv_bipush (v := 40) hx hb dX9_actOnLate_27 (by decide) ?_
      refine lv_icmp_lt (tgt := 35) hx hb dX9_actOnLate_29 (by decide) (fun c16 => ?_) (fun c16 => ?_)
      · have c16 := cLT (x := (gi u 15)) (y := 40) (X := ((gi u 15)).toInt) (Y := 40) rfl (by decide) c16
        refine lv_aload_n hx hb dX9_actOnLate_35 rfl (lv_at hl 0 rfl) ?_
        refine va_get (ci := 9) (v := .ref (A 7)) (C := RX9) (T := TX9) (N := 12) hx hb hts (fun w h => uc_in w (inX9 w h)) hown hK hH.1 0 (cwc0 C A u) rfl 5 (by decide) (hts _ (uc_in _ q_f388)) (fun _ h9 => h9) rfl dX9_actOnLate_36 ?_
        refine va_get (ci := 5) (v := .ref (A 19)) (C := RX5) (T := TX5) (N := 4) hx hb hts (fun w h => uc_in w (inX5 w h)) hown hK hH.1 7 (cwc7 C A u) rfl 2 (by decide) (hts _ (uc_in _ q_f171)) (fun _ h9 => h9) rfl dX9_actOnLate_39 ?_
        refine lv_iload_n hx hb dX9_actOnLate_42 rfl (lv_at hl 3 rfl) ?_
        refine r_aald hx hb hK hH.1 19 6 rfl (cwc19 C A u) rfl (i_ix ha2 (by omega) (by omega)) dX9_actOnLate_43 ?_
        obtain ⟨k17, hk17, ek17⟩ : ∃ k : Nat, (k : Int) = 32 + A2 ∧ k = 32 + Int32.toNatClampNeg a2 := ⟨_, by have q9 := i_cl (x := a2) (X := A2) ha2 (by omega); omega, rfl⟩
        refine pv_v (v := .ref (A (52 + k17))) (by rw [ek17]; rfl) ?_
        refine lv_iload_n hx hb dX9_actOnLate_44 rfl (lv_at hl 2 rfl) ?_
        refine va_iald hx hb hK hH.1 (52 + k17) 1 (cwp C A u k17 (by omega)) rfl (i_ix ha1 (by omega) (by omega)) dX9_actOnLate_45 ?_
        refine p_any (fun z18 => ?_)
        refine lv_istore (lv' := [(4, .int z18), (0, .ref (A 0)), (1, .int a0), (2, .int a1), (3, .int a2)]) hx hb dX9_actOnLate_46 hl (by decide) rfl (fun ls hl => ?_)
        refine lv_aload_n hx hb dX9_actOnLate_48 rfl (lv_at hl 1 rfl) ?_
        refine lv_iload_n hx hb dX9_actOnLate_49 rfl (lv_at hl 2 rfl) ?_
        refine lv_iload_n hx hb dX9_actOnLate_50 rfl (lv_at hl 3 rfl) ?_
        refine lv_iload_n hx hb dX9_actOnLate_51 rfl (lv_at hl 4 rfl) ?_
        refine cvU (n := 3) (As := [.int a0, .int a1, .int a2]) (rest := []) ⟨hx, hb, hml, hown, hts⟩ uc_in (kX9_act_0 l D C A u hI a0 A0 ha0 a1 A1 ha1 a2 A2 ha2 _) q_m1080 q_n1082 q_p47 q_i1 q_c1083 hvX9_act ⟨(Nat.le_of_ble_eq_true rfl), (Nat.le_of_ble_eq_true rfl)⟩ ⟨(Nat.le_of_ble_eq_true rfl), (Nat.le_of_ble_eq_true rfl)⟩ hK hH (fun q h => Or.inr h) Bl0 (fun _ _ _ => trivial) 9 0 rfl (cwc0 C A u) rfl hl.1 rfl (Nat.le_of_ble_eq_true rfl) dX9_actOnLate_52 (fun u19 H locs p21 hH => ?_)
        obtain ⟨hI, hUu19, p21⟩ := p21
        refine lv_iload hx hb dX9_actOnLate_55 (lv_at hl 0 rfl) ?_
        exact hret _ _ _ _ z18 _ dX9_actOnLate_57 rfl ⟨hI, (Un.tr Un.rf hUu19 rfl rfl rfl), trivial⟩ hH
      · have c16 := cNLT (x := (gi u 15)) (y := 40) (X := ((gi u 15)).toInt) (Y := 40) rfl (by decide) c16
        refine lv_bipush (v := (-5)) hx hb dX9_actOnLate_32 (by decide) ?_
        exact hret _ _ _ _ ((-5) : Int32) _ dX9_actOnLate_34 rfl ⟨hI, Un.rf, trivial⟩ hH
    · subst e9
      refine lv_if_ne (tgt := 20) hx hb dX9_actOnLate_13 (by decide) (fun c22 => absurd c22 (by decide)) (fun c22 => ?_)
      refine lv_sipush (v := (-1000)) hx hb dX9_actOnLate_16 (by decide) ?_
      exact hret _ _ _ _ ((-1000) : Int32) _ dX9_actOnLate_19 rfl ⟨hI, Un.rf, trivial⟩ hH
  · subst e9
    refine lv_if_eq (tgt := 16) hx hb dX9_actOnLate_5 (by decide) (fun c23 => ?_) (fun c23 => absurd c23 (by decide))
    refine lv_sipush (v := (-1000)) hx hb dX9_actOnLate_16 (by decide) ?_
    exact hret _ _ _ _ ((-1000) : Int32) _ dX9_actOnLate_19 rfl ⟨hI, Un.rf, trivial⟩ hH
set_option maxHeartbeats 4000000 in
set_option maxRecDepth 100000 in
theorem kX9_mend_0 (l : Launch) (D : va_G) (C : Nat → ClassId) (A : Nat → Nat) (u : St) (hI : IC u) (a0 : Int32) (A0 : Int) (ha0 : a0.toInt = A0) (a1 : Int32) (A1 : Int) (ha1 : a1.toInt = A1) (sz : Nat) : MetI l yX9_mend cX9_mend 3 (some .int) 6 [.ref (A 0), .int a0, .int a1] D (tyl C) (cw C A) X0 u sz (fun r u' => IC u' ∧ Un [(15, 15), (48, 48), (49, 49)] [(23, 23), (24, 24), (25, 25), (38, 38), (84, 90)] [] u u' ∧ (True)) := by
  refine mI (by decide) (Nat.le_of_ble_eq_true rfl) ?_
  intro p e s m below meth c ls ar Q hx hb hml hown hts hK hH hX hl hret
  have hown : s.vm.findClass RX9 = some m.cls := hown
  have hl : lv_has ls 3 [(0, .ref (A 0)), (1, .int a0), (2, .int a1)] := hl
  refine lv_aload_n hx hb dX9_mend_0 rfl (lv_at hl 0 rfl) ?_
  refine lv_iconst (v := 0) hx hb dX9_mend_1 (by decide) ?_
  refine lv_iload_n hx hb dX9_mend_2 rfl (lv_at hl 1 rfl) ?_
  refine lv_iload_n hx hb dX9_mend_3 rfl (lv_at hl 2 rfl) ?_
  refine cvI (n := 3) (As := [.int 0, .int a0, .int a1]) (rest := []) ⟨hx, hb, hml, hown, hts⟩ uc_in (kX9_actOnLate_0 l D C A u hI (0) 0 (by decide) a0 A0 ha0 a1 A1 ha1 _) q_m1076 q_n1078 q_p46 q_i1 q_c1079 hvX9_actOnLate ⟨(Nat.le_of_ble_eq_true rfl), (Nat.le_of_ble_eq_true rfl)⟩ ⟨(Nat.le_of_ble_eq_true rfl), (Nat.le_of_ble_eq_true rfl)⟩ hK hH (fun q h => Or.inr h) Bl0 (fun _ _ _ => trivial) 9 0 rfl (cwc0 C A u) rfl hl.1 rfl (Nat.le_of_ble_eq_true rfl) dX9_mend_4 (fun r2 u1 H locs p3 hH => ?_)
  obtain ⟨hI, hUu1, p3⟩ := p3
  exact hret _ _ _ _ r2 _ dX9_mend_7 rfl ⟨hI, (Un.tr Un.rf hUu1 rfl rfl rfl), trivial⟩ hH
set_option maxHeartbeats 4000000 in
set_option maxRecDepth 100000 in
theorem kX9_mended_0 (l : Launch) (D : va_G) (C : Nat → ClassId) (A : Nat → Nat) (u : St) (hI : IC u) (a0 : Int32) (A0 : Int) (ha0 : a0.toInt = A0) (sz : Nat) : MetI l yX9_mended cX9_mended 2 (some .int) 9 [.ref (A 0), .int a0] D (tyl C) (cw C A) X0 u sz (fun r u' => IC u' ∧ Un [(58, 58), (59, 59), (60, 60), (61, 61), (62, 62), (63, 63), (64, 64), (65, 65)] [(43, 43), (44, 44), (45, 45), (46, 46), (47, 47), (91, 139), (140, 160)] [] u u' ∧ (True)) := by
  refine mI (by decide) (Nat.le_of_ble_eq_true rfl) ?_
  intro p e s m below meth c ls ar Q hx hb hml hown hts hK hH hX hl hret
  have hown : s.vm.findClass RX9 = some m.cls := hown
  have hl : lv_has ls 2 [(0, .ref (A 0)), (1, .int a0)] := hl
  refine lv_iload_n hx hb dX9_mended_0 rfl (lv_at hl 1 rfl) ?_
  refine lv_iconst (v := 0) hx hb dX9_mended_1 (by decide) ?_
  refine lv_iconst (v := 3) hx hb dX9_mended_2 (by decide) ?_
  refine csS (n := 3) (As := [.int a0, .int 0, .int 3]) (rest := []) ⟨hx, hb, hml, hown, hts⟩ uc_in (kX9_isWithin_0 l D C A u hI a0 A0 ha0 (0) 0 (by decide) (3) 3 (by decide)) q_m651 q_s652 q_i1 q_c653 hvX9_isWithin ⟨(Nat.le_of_ble_eq_true rfl), (Nat.le_of_ble_eq_true rfl)⟩ ⟨(Nat.le_of_ble_eq_true rfl), (Nat.le_of_ble_eq_true rfl)⟩ hK hH.1 rfl hl.1 rfl (Nat.le_of_ble_eq_true rfl) dX9_mended_3 (fun r1 p2 => ?_)
  rcases p2 with ⟨e9, f3, f4⟩ | ⟨e9, fn5⟩
  · subst e9
    refine lv_if_eq (tgt := 16) hx hb dX9_mended_6 (by decide) (fun c6 => absurd c6 (by decide)) (fun c6 => ?_)
    refine lv_aload_n hx hb dX9_mended_9 rfl (lv_at hl 0 rfl) ?_
    refine cvS (n := 0) (As := []) (rest := []) ⟨hx, hb, hml, hown, hts⟩ uc_in (kX9_hasTown_0 l D C A u hI ) q_m678 q_n680 q_p18 q_i1 q_c681 hvX9_hasTown ⟨(Nat.le_of_ble_eq_true rfl), (Nat.le_of_ble_eq_true rfl)⟩ ⟨(Nat.le_of_ble_eq_true rfl), (Nat.le_of_ble_eq_true rfl)⟩ hK hH.1 9 0 rfl (cwc0 C A u) rfl hl.1 rfl (Nat.le_of_ble_eq_true rfl) dX9_mended_10 (fun r7 p8 => ?_)
    have p8 : 0 ≤ r7.toInt ∧ r7.toInt ≤ 1 := p8
    refine lv_if_ne (tgt := 19) hx hb dX9_mended_13 (by decide) (fun c9 => ?_) (fun c9 => ?_)
    · have c9 := cNE (x := r7) (y := 0) (X := r7.toInt) (Y := 0) rfl (by decide) c9
      refine lv_aload_n hx hb dX9_mended_19 rfl (lv_at hl 0 rfl) ?_
      refine va_get (ci := 9) (v := .ref (A 12)) (C := RX9) (T := TX9) (N := 12) hx hb hts (fun w h => uc_in w (inX9 w h)) hown hK hH.1 0 (cwc0 C A u) rfl 7 (by decide) (hts _ (uc_in _ q_f390)) (fun _ h9 => h9) rfl dX9_mended_20 ?_
      refine lv_aload_n hx hb dX9_mended_23 rfl (lv_at hl 0 rfl) ?_
      refine va_get (ci := 9) (v := .ref (A 2)) (C := RX9) (T := TX9) (N := 12) hx hb hts (fun w h => uc_in w (inX9 w h)) hown hK hH.1 0 (cwc0 C A u) rfl 1 (by decide) (hts _ (uc_in _ q_f384)) (fun _ h9 => h9) rfl dX9_mended_24 ?_
      refine lv_aload_n hx hb dX9_mended_27 rfl (lv_at hl 0 rfl) ?_
      refine va_get (ci := 9) (v := .ref (A 7)) (C := RX9) (T := TX9) (N := 12) hx hb hts (fun w h => uc_in w (inX9 w h)) hown hK hH.1 0 (cwc0 C A u) rfl 5 (by decide) (hts _ (uc_in _ q_f388)) (fun _ h9 => h9) rfl dX9_mended_28 ?_
      refine lv_iload_n hx hb dX9_mended_31 rfl (lv_at hl 1 rfl) ?_
      refine lv_iconst (v := (-1)) hx hb dX9_mended_32 (by decide) ?_
      refine cvU (n := 4) (As := [.ref (A 2), .ref (A 7), .int a0, .int (-1)]) (rest := []) ⟨hx, hb, hml, hown, hts⟩ uc_in (kX1_search_0 l D C A u hI a0 A0 ha0 (-1) (-1) (by decide) (by omega) (by omega) _) q_m820 q_n821 q_e822 q_i6 q_c823 hvX1_search ⟨(Nat.le_of_ble_eq_true rfl), (Nat.le_of_ble_eq_true rfl)⟩ ⟨(Nat.le_of_ble_eq_true rfl), (Nat.le_of_ble_eq_true rfl)⟩ hK hH (fun q h => Or.inr h) Bl0 (fun _ _ _ => trivial) 1 12 rfl (cwc12 C A u) rfl hl.1 rfl (Nat.le_of_ble_eq_true rfl) dX9_mended_33 (fun u10 H locs p12 hH => ?_)
      obtain ⟨hI, hUu10, p12⟩ := p12
      refine lv_aload_n hx hb dX9_mended_36 rfl (lv_at hl 0 rfl) ?_
      refine va_get (ci := 9) (v := .ref (A 12)) (C := RX9) (T := TX9) (N := 12) hx hb hts (fun w h => uc_in w (inX9 w h)) hown hK hH.1 0 (cwc0 C A u10) rfl 7 (by decide) (hts _ (uc_in _ q_f390)) (fun _ h9 => h9) rfl dX9_mended_37 ?_
      refine va_get (ci := 1) (v := .int (gi u10 60)) (C := RX1) (T := TX1) (N := 15) hx hb hts (fun w h => uc_in w (inX1 w h)) hown hK hH.1 12 (cwc12 C A u10) rfl 2 (by decide) (hts _ (uc_in _ q_f222)) (fun _ h9 => h9) rfl dX9_mended_40 ?_
      exact hret _ _ _ _ (gi u10 60) _ dX9_mended_43 rfl ⟨hI, (Un.tr Un.rf hUu10 rfl rfl rfl), trivial⟩ hH
    · have c9 := cEQ (x := r7) (y := 0) (X := r7.toInt) (Y := 0) rfl (by decide) c9
      refine lv_bipush (v := (-2)) hx hb dX9_mended_16 (by decide) ?_
      exact hret _ _ _ _ ((-2) : Int32) _ dX9_mended_18 rfl ⟨hI, Un.rf, trivial⟩ hH
  · subst e9
    refine lv_if_eq (tgt := 16) hx hb dX9_mended_6 (by decide) (fun c13 => ?_) (fun c13 => absurd c13 (by decide))
    refine lv_bipush (v := (-2)) hx hb dX9_mended_16 (by decide) ?_
    exact hret _ _ _ _ ((-2) : Int32) _ dX9_mended_18 rfl ⟨hI, Un.rf, trivial⟩ hH
set_option maxHeartbeats 4000000 in
set_option maxRecDepth 100000 in
theorem kX9_mends_0 (l : Launch) (D : va_G) (C : Nat → ClassId) (A : Nat → Nat) (u : St) (hI : IC u) (a0 : Int32) (A0 : Int) (ha0 : a0.toInt = A0) (sz : Nat) : MetI l yX9_mends cX9_mends 2 (some .int) 9 [.ref (A 0), .int a0] D (tyl C) (cw C A) X0 u sz (fun r u' => IC u' ∧ Un [(58, 58), (59, 59), (60, 60), (61, 61), (62, 62), (63, 63), (64, 64), (65, 65)] [(43, 43), (44, 44), (45, 45), (46, 46), (47, 47), (91, 139), (140, 160)] [] u u' ∧ (True)) := by
  refine mI (by decide) (Nat.le_of_ble_eq_true rfl) ?_
  intro p e s m below meth c ls ar Q hx hb hml hown hts hK hH hX hl hret
  have hown : s.vm.findClass RX9 = some m.cls := hown
  have hl : lv_has ls 2 [(0, .ref (A 0)), (1, .int a0)] := hl
  refine lv_iload_n hx hb dX9_mends_0 rfl (lv_at hl 1 rfl) ?_
  refine lv_iconst (v := 0) hx hb dX9_mends_1 (by decide) ?_
  refine lv_iconst (v := 3) hx hb dX9_mends_2 (by decide) ?_
  refine csS (n := 3) (As := [.int a0, .int 0, .int 3]) (rest := []) ⟨hx, hb, hml, hown, hts⟩ uc_in (kX9_isWithin_0 l D C A u hI a0 A0 ha0 (0) 0 (by decide) (3) 3 (by decide)) q_m651 q_s652 q_i1 q_c653 hvX9_isWithin ⟨(Nat.le_of_ble_eq_true rfl), (Nat.le_of_ble_eq_true rfl)⟩ ⟨(Nat.le_of_ble_eq_true rfl), (Nat.le_of_ble_eq_true rfl)⟩ hK hH.1 rfl hl.1 rfl (Nat.le_of_ble_eq_true rfl) dX9_mends_3 (fun r1 p2 => ?_)
  rcases p2 with ⟨e9, f3, f4⟩ | ⟨e9, fn5⟩
  · subst e9
    refine lv_if_eq (tgt := 16) hx hb dX9_mends_6 (by decide) (fun c6 => absurd c6 (by decide)) (fun c6 => ?_)
    refine lv_aload_n hx hb dX9_mends_9 rfl (lv_at hl 0 rfl) ?_
    refine cvS (n := 0) (As := []) (rest := []) ⟨hx, hb, hml, hown, hts⟩ uc_in (kX9_hasTown_0 l D C A u hI ) q_m678 q_n680 q_p18 q_i1 q_c681 hvX9_hasTown ⟨(Nat.le_of_ble_eq_true rfl), (Nat.le_of_ble_eq_true rfl)⟩ ⟨(Nat.le_of_ble_eq_true rfl), (Nat.le_of_ble_eq_true rfl)⟩ hK hH.1 9 0 rfl (cwc0 C A u) rfl hl.1 rfl (Nat.le_of_ble_eq_true rfl) dX9_mends_10 (fun r7 p8 => ?_)
    have p8 : 0 ≤ r7.toInt ∧ r7.toInt ≤ 1 := p8
    refine lv_if_ne (tgt := 19) hx hb dX9_mends_13 (by decide) (fun c9 => ?_) (fun c9 => ?_)
    · have c9 := cNE (x := r7) (y := 0) (X := r7.toInt) (Y := 0) rfl (by decide) c9
      refine lv_aload_n hx hb dX9_mends_19 rfl (lv_at hl 0 rfl) ?_
      refine va_get (ci := 9) (v := .ref (A 12)) (C := RX9) (T := TX9) (N := 12) hx hb hts (fun w h => uc_in w (inX9 w h)) hown hK hH.1 0 (cwc0 C A u) rfl 7 (by decide) (hts _ (uc_in _ q_f390)) (fun _ h9 => h9) rfl dX9_mends_20 ?_
      refine lv_aload_n hx hb dX9_mends_23 rfl (lv_at hl 0 rfl) ?_
      refine va_get (ci := 9) (v := .ref (A 2)) (C := RX9) (T := TX9) (N := 12) hx hb hts (fun w h => uc_in w (inX9 w h)) hown hK hH.1 0 (cwc0 C A u) rfl 1 (by decide) (hts _ (uc_in _ q_f384)) (fun _ h9 => h9) rfl dX9_mends_24 ?_
      refine lv_aload_n hx hb dX9_mends_27 rfl (lv_at hl 0 rfl) ?_
      refine va_get (ci := 9) (v := .ref (A 7)) (C := RX9) (T := TX9) (N := 12) hx hb hts (fun w h => uc_in w (inX9 w h)) hown hK hH.1 0 (cwc0 C A u) rfl 5 (by decide) (hts _ (uc_in _ q_f388)) (fun _ h9 => h9) rfl dX9_mends_28 ?_
      refine lv_iload_n hx hb dX9_mends_31 rfl (lv_at hl 1 rfl) ?_
      refine lv_iconst (v := (-1)) hx hb dX9_mends_32 (by decide) ?_
      refine cvU (n := 4) (As := [.ref (A 2), .ref (A 7), .int a0, .int (-1)]) (rest := []) ⟨hx, hb, hml, hown, hts⟩ uc_in (kX1_search_0 l D C A u hI a0 A0 ha0 (-1) (-1) (by decide) (by omega) (by omega) _) q_m820 q_n821 q_e822 q_i6 q_c823 hvX1_search ⟨(Nat.le_of_ble_eq_true rfl), (Nat.le_of_ble_eq_true rfl)⟩ ⟨(Nat.le_of_ble_eq_true rfl), (Nat.le_of_ble_eq_true rfl)⟩ hK hH (fun q h => Or.inr h) Bl0 (fun _ _ _ => trivial) 1 12 rfl (cwc12 C A u) rfl hl.1 rfl (Nat.le_of_ble_eq_true rfl) dX9_mends_33 (fun u10 H locs p12 hH => ?_)
      obtain ⟨hI, hUu10, p12⟩ := p12
      refine lv_aload_n hx hb dX9_mends_36 rfl (lv_at hl 0 rfl) ?_
      refine va_get (ci := 9) (v := .ref (A 12)) (C := RX9) (T := TX9) (N := 12) hx hb hts (fun w h => uc_in w (inX9 w h)) hown hK hH.1 0 (cwc0 C A u10) rfl 7 (by decide) (hts _ (uc_in _ q_f390)) (fun _ h9 => h9) rfl dX9_mends_37 ?_
      refine va_get (ci := 1) (v := .int (gi u10 58)) (C := RX1) (T := TX1) (N := 15) hx hb hts (fun w h => uc_in w (inX1 w h)) hown hK hH.1 12 (cwc12 C A u10) rfl 0 (by decide) (hts _ (uc_in _ q_f218)) (fun _ h9 => h9) rfl dX9_mends_40 ?_
      exact hret _ _ _ _ (gi u10 58) _ dX9_mends_43 rfl ⟨hI, (Un.tr Un.rf hUu10 rfl rfl rfl), trivial⟩ hH
    · have c9 := cEQ (x := r7) (y := 0) (X := r7.toInt) (Y := 0) rfl (by decide) c9
      refine lv_bipush (v := (-2)) hx hb dX9_mends_16 (by decide) ?_
      exact hret _ _ _ _ ((-2) : Int32) _ dX9_mends_18 rfl ⟨hI, Un.rf, trivial⟩ hH
  · subst e9
    refine lv_if_eq (tgt := 16) hx hb dX9_mends_6 (by decide) (fun c13 => ?_) (fun c13 => absurd c13 (by decide))
    refine lv_bipush (v := (-2)) hx hb dX9_mends_16 (by decide) ?_
    exact hret _ _ _ _ ((-2) : Int32) _ dX9_mends_18 rfl ⟨hI, Un.rf, trivial⟩ hH
set_option maxHeartbeats 4000000 in
set_option maxRecDepth 100000 in
theorem kX9_middle_0 (l : Launch) (D : va_G) (C : Nat → ClassId) (A : Nat → Nat) (u : St) (hI : IC u) (a0 : Int32) (A0 : Int) (ha0 : a0.toInt = A0) : Met l yX9_middle (uc yX9_middle cX9_middle 3 (some .int)) (rmL 6 0 0) (va_Pc [.ref (A 0), .int a0] (PreR D (tyl C) (cw C A u))) (vp_Si (fun r => True)) 0 0 (fun _ => False) := by
  refine mS (by decide) (Nat.le_of_ble_eq_true rfl) ?_
  intro p e s m below meth c ls ar Q hx hb hml hown hts hK hP hl hret
  have hown : s.vm.findClass RX9 = some m.cls := hown
  have hl : lv_has ls 3 [(0, .ref (A 0)), (1, .int a0)] := hl
  refine lv_aload_n hx hb dX9_middle_0 rfl (lv_at hl 0 rfl) ?_
  refine lv_iload_n hx hb dX9_middle_1 rfl (lv_at hl 1 rfl) ?_
  refine cvS (n := 1) (As := [.int a0]) (rest := []) ⟨hx, hb, hml, hown, hts⟩ uc_in (kX9_isDay_0 l D C A u hI a0 A0 ha0) q_m597 q_n599 q_p12 q_i1 q_c600 hvX9_isDay ⟨(Nat.le_of_ble_eq_true rfl), (Nat.le_of_ble_eq_true rfl)⟩ ⟨(Nat.le_of_ble_eq_true rfl), (Nat.le_of_ble_eq_true rfl)⟩ hK hP 9 0 rfl (cwc0 C A u) rfl hl.1 rfl (Nat.le_of_ble_eq_true rfl) dX9_middle_2 (fun r1 p2 => ?_)
  rcases p2 with ⟨e9, f3, f4⟩ | e9
  · subst e9
    have b6 := hI.b48
    refine lv_if_ne (tgt := 12) hx hb dX9_middle_5 (by decide) (fun c7 => ?_) (fun c7 => absurd c7 (by decide))
    refine lv_aload_n hx hb dX9_middle_12 rfl (lv_at hl 0 rfl) ?_
    refine va_get (ci := 9) (v := .ref (A 7)) (C := RX9) (T := TX9) (N := 12) hx hb hts (fun w h => uc_in w (inX9 w h)) hown hK hP 0 (cwc0 C A u) rfl 5 (by decide) (hts _ (uc_in _ q_f388)) (fun _ h9 => h9) rfl dX9_middle_13 ?_
    refine va_get (ci := 5) (v := .ref (A 38)) (C := RX5) (T := TX5) (N := 4) hx hb hts (fun w h => uc_in w (inX5 w h)) hown hK hP 7 (cwc7 C A u) rfl 3 (by decide) (hts _ (uc_in _ q_f175)) (fun _ h9 => h9) rfl dX9_middle_16 ?_
    refine lv_iload_n hx hb dX9_middle_19 rfl (lv_at hl 1 rfl) ?_
    refine va_iald hx hb hK hP 38 1 (cwc38 C A u) rfl (i_ix ha0 (by omega) (by omega)) dX9_middle_20 ?_
    refine p_any (fun z8 => ?_)
    refine csS (n := 1) (As := [.int z8]) (rest := []) ⟨hx, hb, hml, hown, hts⟩ uc_in (kJ6_bitCount_0f7a4_0 l D C A u hI z8 z8.toInt rfl) q_m706 q_s707 q_i18 q_c708 hvJ6_bitCount_0f7a4 ⟨(Nat.le_of_ble_eq_true rfl), (Nat.le_of_ble_eq_true rfl)⟩ ⟨(Nat.le_of_ble_eq_true rfl), (Nat.le_of_ble_eq_true rfl)⟩ hK hP rfl hl.1 rfl (Nat.le_of_ble_eq_true rfl) dX9_middle_21 (fun r9 p10 => ?_)
    have p10 : 0 ≤ r9.toInt ∧ r9.toInt ≤ 63 := p10
    refine lv_istore_n (lv' := [(2, .int r9), (0, .ref (A 0)), (1, .int a0)]) hx hb dX9_middle_24 rfl hl (by decide) rfl (fun ls hl => ?_)
    refine lv_iload_n hx hb dX9_middle_25 rfl (lv_at hl 0 rfl) ?_
    refine lv_if_ne (tgt := 35) hx hb dX9_middle_26 (by decide) (fun c11 => ?_) (fun c11 => ?_)
    · have c11 := cNE (x := r9) (y := 0) (X := r9.toInt) (Y := 0) rfl (by decide) c11
      refine lv_aload_n hx hb dX9_middle_35 rfl (lv_at hl 1 rfl) ?_
      refine va_get (ci := 9) (v := .ref (A 7)) (C := RX9) (T := TX9) (N := 12) hx hb hts (fun w h => uc_in w (inX9 w h)) hown hK hP 0 (cwc0 C A u) rfl 5 (by decide) (hts _ (uc_in _ q_f388)) (fun _ h9 => h9) rfl dX9_middle_36 ?_
      refine lv_iload_n hx hb dX9_middle_39 rfl (lv_at hl 2 rfl) ?_
      refine lv_iload_n hx hb dX9_middle_40 rfl (lv_at hl 0 rfl) ?_
      refine lv_iconst (v := 1) hx hb dX9_middle_41 (by decide) ?_
      refine lv_isub hx hb dX9_middle_42 ?_
      refine p_nm (tt_sub (X := r9.toInt) (Y := 1) rfl (by decide) (by omega) (by omega)) (fun z12 hz12 => ?_)
      refine lv_iconst (v := 2) hx hb dX9_middle_43 (by decide) ?_
      refine lv_idiv hx hb dX9_middle_44 (by decide) ?_
      refine p_nm (tt_div 2 hz12 (by decide) (by omega) (by decide)) (fun z13 hz13 => ?_)
      refine cvS (n := 2) (As := [.int a0, .int z13]) (rest := []) ⟨hx, hb, hml, hown, hts⟩ uc_in (kX5_lateOfRank_0 l D C A u hI a0 A0 ha0 z13 ((r9.toInt - 1) / 2) hz13 (by omega) (by omega)) q_m935 q_n936 q_e937 q_i4 q_c938 hvX5_lateOfRank ⟨(Nat.le_of_ble_eq_true rfl), (Nat.le_of_ble_eq_true rfl)⟩ ⟨(Nat.le_of_ble_eq_true rfl), (Nat.le_of_ble_eq_true rfl)⟩ hK hP 5 7 rfl (cwc7 C A u) rfl hl.1 rfl (Nat.le_of_ble_eq_true rfl) dX9_middle_45 (fun r14 p15 => ?_)
      exact hret _ _ r14 dX9_middle_48 rfl trivial
    · have c11 := cEQ (x := r9) (y := 0) (X := r9.toInt) (Y := 0) rfl (by decide) c11
      refine lv_sipush (v := 10000) hx hb dX9_middle_29 (by decide) ?_
      refine lv_goto (tgt := 48) hx hb dX9_middle_32 (by decide) ?_
      exact hret _ _ (10000 : Int32) dX9_middle_48 rfl trivial
  · subst e9
    refine lv_if_ne (tgt := 12) hx hb dX9_middle_5 (by decide) (fun c16 => absurd c16 (by decide)) (fun c16 => ?_)
    refine lv_sipush (v := (-1000)) hx hb dX9_middle_8 (by decide) ?_
    exact hret _ _ ((-1000) : Int32) dX9_middle_11 rfl trivial
set_option maxHeartbeats 4000000 in
set_option maxRecDepth 100000 in
theorem kX9_noon_0 (l : Launch) (D : va_G) (C : Nat → ClassId) (A : Nat → Nat) (u : St) (hI : IC u) (a0 : Int32) (A0 : Int) (ha0 : a0.toInt = A0) : Met l yX9_noon (uc yX9_noon cX9_noon 2 (some .int)) (rmL 4 0 0) (va_Pc [.ref (A 0), .int a0] (PreR D (tyl C) (cw C A u))) (vp_Si (fun r => True)) 0 0 (fun _ => False) := by
  refine mS (by decide) (Nat.le_of_ble_eq_true rfl) ?_
  intro p e s m below meth c ls ar Q hx hb hml hown hts hK hP hl hret
  have hown : s.vm.findClass RX9 = some m.cls := hown
  have hl : lv_has ls 2 [(0, .ref (A 0)), (1, .int a0)] := hl
  refine lv_aload_n hx hb dX9_noon_0 rfl (lv_at hl 0 rfl) ?_
  refine lv_iload_n hx hb dX9_noon_1 rfl (lv_at hl 1 rfl) ?_
  refine cvS (n := 1) (As := [.int a0]) (rest := []) ⟨hx, hb, hml, hown, hts⟩ uc_in (kX9_isDay_0 l D C A u hI a0 A0 ha0) q_m597 q_n599 q_p12 q_i1 q_c600 hvX9_isDay ⟨(Nat.le_of_ble_eq_true rfl), (Nat.le_of_ble_eq_true rfl)⟩ ⟨(Nat.le_of_ble_eq_true rfl), (Nat.le_of_ble_eq_true rfl)⟩ hK hP 9 0 rfl (cwc0 C A u) rfl hl.1 rfl (Nat.le_of_ble_eq_true rfl) dX9_noon_2 (fun r1 p2 => ?_)
  rcases p2 with ⟨e9, f3, f4⟩ | e9
  · subst e9
    have b6 := hI.b48
    refine lv_if_eq (tgt := 16) hx hb dX9_noon_5 (by decide) (fun c7 => absurd c7 (by decide)) (fun c7 => ?_)
    refine lv_aload_n hx hb dX9_noon_8 rfl (lv_at hl 0 rfl) ?_
    refine lv_iload_n hx hb dX9_noon_9 rfl (lv_at hl 1 rfl) ?_
    refine cvS (n := 1) (As := [.int a0]) (rest := []) ⟨hx, hb, hml, hown, hts⟩ uc_in (kX9_noonOn_0 l D C A u hI a0 A0 ha0 (by omega) (by omega)) q_m605 q_n607 q_p13 q_i1 q_c608 hvX9_noonOn ⟨(Nat.le_of_ble_eq_true rfl), (Nat.le_of_ble_eq_true rfl)⟩ ⟨(Nat.le_of_ble_eq_true rfl), (Nat.le_of_ble_eq_true rfl)⟩ hK hP 9 0 rfl (cwc0 C A u) rfl hl.1 rfl (Nat.le_of_ble_eq_true rfl) dX9_noon_10 (fun r8 p9 => ?_)
    refine lv_goto (tgt := 19) hx hb dX9_noon_13 (by decide) ?_
    exact hret _ _ r8 dX9_noon_19 rfl trivial
  · subst e9
    refine lv_if_eq (tgt := 16) hx hb dX9_noon_5 (by decide) (fun c10 => ?_) (fun c10 => absurd c10 (by decide))
    refine lv_sipush (v := (-1000)) hx hb dX9_noon_16 (by decide) ?_
    exact hret _ _ ((-1000) : Int32) dX9_noon_19 rfl trivial
set_option maxHeartbeats 4000000 in
set_option maxRecDepth 100000 in
theorem kX9_oil_0 (l : Launch) (D : va_G) (C : Nat → ClassId) (A : Nat → Nat) (u : St) (hI : IC u) (a0 : Int32) (A0 : Int) (ha0 : a0.toInt = A0) (a1 : Int32) (A1 : Int) (ha1 : a1.toInt = A1) (sz : Nat) : MetI l yX9_oil cX9_oil 3 (some .int) 6 [.ref (A 0), .int a0, .int a1] D (tyl C) (cw C A) X0 u sz (fun r u' => IC u' ∧ Un [(15, 15), (48, 48), (49, 49)] [(23, 23), (24, 24), (25, 25), (38, 38), (84, 90)] [] u u' ∧ (True)) := by
  refine mI (by decide) (Nat.le_of_ble_eq_true rfl) ?_
  intro p e s m below meth c ls ar Q hx hb hml hown hts hK hH hX hl hret
  have hown : s.vm.findClass RX9 = some m.cls := hown
  have hl : lv_has ls 3 [(0, .ref (A 0)), (1, .int a0), (2, .int a1)] := hl
  refine lv_aload_n hx hb dX9_oil_0 rfl (lv_at hl 0 rfl) ?_
  refine lv_iconst (v := 1) hx hb dX9_oil_1 (by decide) ?_
  refine lv_iload_n hx hb dX9_oil_2 rfl (lv_at hl 1 rfl) ?_
  refine lv_iload_n hx hb dX9_oil_3 rfl (lv_at hl 2 rfl) ?_
  refine cvI (n := 3) (As := [.int 1, .int a0, .int a1]) (rest := []) ⟨hx, hb, hml, hown, hts⟩ uc_in (kX9_actOnLate_0 l D C A u hI (1) 1 (by decide) a0 A0 ha0 a1 A1 ha1 _) q_m1076 q_n1078 q_p46 q_i1 q_c1079 hvX9_actOnLate ⟨(Nat.le_of_ble_eq_true rfl), (Nat.le_of_ble_eq_true rfl)⟩ ⟨(Nat.le_of_ble_eq_true rfl), (Nat.le_of_ble_eq_true rfl)⟩ hK hH (fun q h => Or.inr h) Bl0 (fun _ _ _ => trivial) 9 0 rfl (cwc0 C A u) rfl hl.1 rfl (Nat.le_of_ble_eq_true rfl) dX9_oil_4 (fun r2 u1 H locs p3 hH => ?_)
  obtain ⟨hI, hUu1, p3⟩ := p3
  exact hret _ _ _ _ r2 _ dX9_oil_7 rfl ⟨hI, (Un.tr Un.rf hUu1 rfl rfl rfl), trivial⟩ hH
set_option maxHeartbeats 4000000 in
set_option maxRecDepth 100000 in
theorem kX9_order_0 (l : Launch) (D : va_G) (C : Nat → ClassId) (A : Nat → Nat) (u : St) (hI : IC u) (a0 : Int32) (A0 : Int) (ha0 : a0.toInt = A0) (a1 : Int32) (A1 : Int) (ha1 : a1.toInt = A1) : Met l yX9_order (uc yX9_order cX9_order 3 (some .int)) (rmL 5 0 0) (va_Pc [.ref (A 0), .int a0, .int a1] (PreR D (tyl C) (cw C A u))) (vp_Si (fun r => (-2) ≤ r.toInt ∧ r.toInt ≤ 5)) 0 0 (fun _ => False) := by
  refine mS (by decide) (Nat.le_of_ble_eq_true rfl) ?_
  intro p e s m below meth c ls ar Q hx hb hml hown hts hK hP hl hret
  have hown : s.vm.findClass RX9 = some m.cls := hown
  have hl : lv_has ls 3 [(0, .ref (A 0)), (1, .int a0), (2, .int a1)] := hl
  refine lv_aload_n hx hb dX9_order_0 rfl (lv_at hl 0 rfl) ?_
  refine lv_iload_n hx hb dX9_order_1 rfl (lv_at hl 1 rfl) ?_
  refine cvS (n := 1) (As := [.int a0]) (rest := []) ⟨hx, hb, hml, hown, hts⟩ uc_in (kX9_isDay_0 l D C A u hI a0 A0 ha0) q_m597 q_n599 q_p12 q_i1 q_c600 hvX9_isDay ⟨(Nat.le_of_ble_eq_true rfl), (Nat.le_of_ble_eq_true rfl)⟩ ⟨(Nat.le_of_ble_eq_true rfl), (Nat.le_of_ble_eq_true rfl)⟩ hK hP 9 0 rfl (cwc0 C A u) rfl hl.1 rfl (Nat.le_of_ble_eq_true rfl) dX9_order_2 (fun r1 p2 => ?_)
  rcases p2 with ⟨e9, f3, f4⟩ | e9
  · subst e9
    have b6 := hI.b48
    refine lv_if_eq (tgt := 20) hx hb dX9_order_5 (by decide) (fun c7 => absurd c7 (by decide)) (fun c7 => ?_)
    refine lv_aload_n hx hb dX9_order_8 rfl (lv_at hl 0 rfl) ?_
    refine va_get (ci := 9) (v := .ref (A 7)) (C := RX9) (T := TX9) (N := 12) hx hb hts (fun w h => uc_in w (inX9 w h)) hown hK hP 0 (cwc0 C A u) rfl 5 (by decide) (hts _ (uc_in _ q_f388)) (fun _ h9 => h9) rfl dX9_order_9 ?_
    refine lv_iload_n hx hb dX9_order_12 rfl (lv_at hl 1 rfl) ?_
    refine lv_iload_n hx hb dX9_order_13 rfl (lv_at hl 2 rfl) ?_
    refine cvS (n := 2) (As := [.int a0, .int a1]) (rest := []) ⟨hx, hb, hml, hown, hts⟩ uc_in (kX5_ranked_0 l D C A u hI a0 A0 ha0 a1 A1 ha1 (by omega) (by omega)) q_m632 q_n633 q_e634 q_i4 q_c635 hvX5_ranked ⟨(Nat.le_of_ble_eq_true rfl), (Nat.le_of_ble_eq_true rfl)⟩ ⟨(Nat.le_of_ble_eq_true rfl), (Nat.le_of_ble_eq_true rfl)⟩ hK hP 5 7 rfl (cwc7 C A u) rfl hl.1 rfl (Nat.le_of_ble_eq_true rfl) dX9_order_14 (fun r8 p9 => ?_)
    have p9 : (-1) ≤ r8.toInt ∧ r8.toInt ≤ 5 := p9
    refine lv_goto (tgt := 22) hx hb dX9_order_17 (by decide) ?_
    exact hret _ _ r8 dX9_order_22 rfl ⟨by omega, by omega⟩
  · subst e9
    refine lv_if_eq (tgt := 20) hx hb dX9_order_5 (by decide) (fun c10 => ?_) (fun c10 => absurd c10 (by decide))
    refine lv_bipush (v := (-2)) hx hb dX9_order_20 (by decide) ?_
    exact hret _ _ ((-2) : Int32) dX9_order_22 rfl ⟨by decide, by decide⟩
set_option maxHeartbeats 4000000 in
set_option maxRecDepth 100000 in
theorem kX9_passes_0 (l : Launch) (D : va_G) (C : Nat → ClassId) (A : Nat → Nat) (u : St) (hI : IC u) (a0 : Int32) (A0 : Int) (ha0 : a0.toInt = A0) (a1 : Int32) (A1 : Int) (ha1 : a1.toInt = A1) : Met l yX9_passes (uc yX9_passes cX9_passes 5 (some .int)) (rmL 2 0 0) (va_Pc [.ref (A 0), .int a0, .int a1] (PreR D (tyl C) (cw C A u))) (vp_Si (fun r => True)) 0 0 (fun _ => False) := by
  refine mS (by decide) (Nat.le_of_ble_eq_true rfl) ?_
  intro p e s m below meth c ls ar Q hx hb hml hown hts hK hP hl hret
  have hown : s.vm.findClass RX9 = some m.cls := hown
  have hl : lv_has ls 5 [(0, .ref (A 0)), (1, .int a0), (2, .int a1)] := hl
  refine lv_aload_n hx hb dX9_passes_0 rfl (lv_at hl 0 rfl) ?_
  refine lv_iload_n hx hb dX9_passes_1 rfl (lv_at hl 1 rfl) ?_
  refine cvS (n := 1) (As := [.int a0]) (rest := []) ⟨hx, hb, hml, hown, hts⟩ uc_in (kX9_isClock_0 l D C A u hI a0 A0 ha0) q_m589 q_n591 q_p11 q_i1 q_c592 hvX9_isClock ⟨(Nat.le_of_ble_eq_true rfl), (Nat.le_of_ble_eq_true rfl)⟩ ⟨(Nat.le_of_ble_eq_true rfl), (Nat.le_of_ble_eq_true rfl)⟩ hK hP 9 0 rfl (cwc0 C A u) rfl hl.1 rfl (Nat.le_of_ble_eq_true rfl) dX9_passes_2 (fun r1 p2 => ?_)
  rcases p2 with ⟨e9, f3, f4⟩ | e9
  · subst e9
    have b6 := hI.b49
    refine lv_if_eq (tgt := 16) hx hb dX9_passes_5 (by decide) (fun c7 => absurd c7 (by decide)) (fun c7 => ?_)
    refine lv_aload_n hx hb dX9_passes_8 rfl (lv_at hl 0 rfl) ?_
    refine lv_iload_n hx hb dX9_passes_9 rfl (lv_at hl 2 rfl) ?_
    refine cvS (n := 1) (As := [.int a1]) (rest := []) ⟨hx, hb, hml, hown, hts⟩ uc_in (kX9_isClock_0 l D C A u hI a1 A1 ha1) q_m589 q_n591 q_p11 q_i1 q_c592 hvX9_isClock ⟨(Nat.le_of_ble_eq_true rfl), (Nat.le_of_ble_eq_true rfl)⟩ ⟨(Nat.le_of_ble_eq_true rfl), (Nat.le_of_ble_eq_true rfl)⟩ hK hP 9 0 rfl (cwc0 C A u) rfl hl.1 rfl (Nat.le_of_ble_eq_true rfl) dX9_passes_10 (fun r8 p9 => ?_)
    rcases p9 with ⟨e9, f10, f11⟩ | e9
    · subst e9
      refine lv_if_ne (tgt := 19) hx hb dX9_passes_13 (by decide) (fun c12 => ?_) (fun c12 => absurd c12 (by decide))
      refine lv_iconst (v := 0) hx hb dX9_passes_19 (by decide) ?_
      refine lv_istore_n (lv' := [(3, .int 0), (0, .ref (A 0)), (1, .int a0), (2, .int a1)]) hx hb dX9_passes_20 rfl hl (by decide) rfl (fun ls hl => ?_)
      refine lv_iconst (v := 0) hx hb dX9_passes_21 (by decide) ?_
      refine lv_istore (lv' := [(4, .int 0), (3, .int 0), (0, .ref (A 0)), (1, .int a0), (2, .int a1)]) hx hb dX9_passes_22 hl (by decide) rfl (fun ls hl => ?_)
      have lp24_139 : ∀ (n24 : Nat) (ls : Array Slot) (y138d : Int32) (y139d : Int32), 0 ≤ y138d.toInt → y138d.toInt ≤ 7 → 7 - y138d.toInt < (n24 : Int) → lv_has ls 5 [(4, .int y138d), (3, .int y139d), (0, .ref (A 0)), (1, .int a0), (2, .int a1)] → W p l e (rmL 2 0 0) s m ar below meth c s.heap [] 0 0 Q (F0 m 24 ls []) := by
        intro n24
        induction n24 with
        | zero => intro ls y138d y139d ly138d my138d hmun24 hl; exfalso; omega
        | succ n24 ih24_139 =>
          intro ls y138d y139d ly138d my138d hmun24 hl
          refine lv_iload hx hb dX9_passes_24 (lv_at hl 0 rfl) ?_
          refine lv_aload_n hx hb dX9_passes_26 rfl (lv_at hl 2 rfl) ?_
          refine va_get (ci := 9) (v := .ref (A 7)) (C := RX9) (T := TX9) (N := 12) hx hb hts (fun w h => uc_in w (inX9 w h)) hown hK hP 0 (cwc0 C A u) rfl 5 (by decide) (hts _ (uc_in _ q_f388)) (fun _ h9 => h9) rfl dX9_passes_27 ?_
          refine va_get (ci := 5) (v := .int (gi u 48)) (C := RX5) (T := TX5) (N := 4) hx hb hts (fun w h => uc_in w (inX5 w h)) hown hK hP 7 (cwc7 C A u) rfl 0 (by decide) (hts _ (uc_in _ q_f164)) (fun _ h9 => h9) rfl dX9_passes_30 ?_
          have b141 := hI.b48
          refine lv_icmp_ge (tgt := 76) hx hb dX9_passes_33 (by decide) (fun c142 => ?_) (fun c142 => ?_)
          · have c142 := cLE (x := (gi u 48)) (y := y138d) (X := ((gi u 48)).toInt) (Y := y138d.toInt) rfl rfl c142
            refine lv_iload_n hx hb dX9_passes_76 rfl (lv_at hl 1 rfl) ?_
            exact hret _ _ y139d dX9_passes_77 rfl trivial
          · have c142 := cNLE (x := (gi u 48)) (y := y138d) (X := ((gi u 48)).toInt) (Y := y138d.toInt) rfl rfl c142
            refine lv_aload_n hx hb dX9_passes_36 rfl (lv_at hl 2 rfl) ?_
            refine va_get (ci := 9) (v := .ref (A 7)) (C := RX9) (T := TX9) (N := 12) hx hb hts (fun w h => uc_in w (inX9 w h)) hown hK hP 0 (cwc0 C A u) rfl 5 (by decide) (hts _ (uc_in _ q_f388)) (fun _ h9 => h9) rfl dX9_passes_37 ?_
            refine va_get (ci := 5) (v := .ref (A 19)) (C := RX5) (T := TX5) (N := 4) hx hb hts (fun w h => uc_in w (inX5 w h)) hown hK hP 7 (cwc7 C A u) rfl 2 (by decide) (hts _ (uc_in _ q_f171)) (fun _ h9 => h9) rfl dX9_passes_40 ?_
            refine lv_iload hx hb dX9_passes_43 (lv_at hl 0 rfl) ?_
            refine r_aald hx hb hK hP 19 6 rfl (cwc19 C A u) rfl (i_ix rfl (by omega) (by omega)) dX9_passes_45 ?_
            obtain ⟨k143, hk143, ek143⟩ : ∃ k : Nat, (k : Int) = 32 + y138d.toInt ∧ k = 32 + Int32.toNatClampNeg y138d := ⟨_, by have q9 := i_cl (x := y138d) (X := y138d.toInt) rfl (by omega); omega, rfl⟩
            refine pv_v (v := .ref (A (52 + k143))) (by rw [ek143]; rfl) ?_
            refine lv_iload_n hx hb dX9_passes_46 rfl (lv_at hl 3 rfl) ?_
            refine va_iald hx hb hK hP (52 + k143) 1 (cwp C A u k143 (by omega)) rfl (i_ix ha0 (by omega) (by omega)) dX9_passes_47 ?_
            refine p_any (fun z144 => ?_)
            refine lv_aload_n hx hb dX9_passes_48 rfl (lv_at hl 2 rfl) ?_
            refine va_get (ci := 9) (v := .ref (A 7)) (C := RX9) (T := TX9) (N := 12) hx hb hts (fun w h => uc_in w (inX9 w h)) hown hK hP 0 (cwc0 C A u) rfl 5 (by decide) (hts _ (uc_in _ q_f388)) (fun _ h9 => h9) rfl dX9_passes_49 ?_
            refine va_get (ci := 5) (v := .ref (A 19)) (C := RX5) (T := TX5) (N := 4) hx hb hts (fun w h => uc_in w (inX5 w h)) hown hK hP 7 (cwc7 C A u) rfl 2 (by decide) (hts _ (uc_in _ q_f171)) (fun _ h9 => h9) rfl dX9_passes_52 ?_
            refine lv_iload hx hb dX9_passes_55 (lv_at hl 0 rfl) ?_
            refine r_aald hx hb hK hP 19 6 rfl (cwc19 C A u) rfl (i_ix rfl (by omega) (by omega)) dX9_passes_57 ?_
            obtain ⟨k145, hk145, ek145⟩ : ∃ k : Nat, (k : Int) = 32 + y138d.toInt ∧ k = 32 + Int32.toNatClampNeg y138d := ⟨_, by have q9 := i_cl (x := y138d) (X := y138d.toInt) rfl (by omega); omega, rfl⟩
            refine pv_v (v := .ref (A (52 + k145))) (by rw [ek145]; rfl) ?_
            refine lv_iload_n hx hb dX9_passes_58 rfl (lv_at hl 4 rfl) ?_
            refine va_iald hx hb hK hP (52 + k145) 1 (cwp C A u k145 (by omega)) rfl (i_ix ha1 (by omega) (by omega)) dX9_passes_59 ?_
            refine p_any (fun z146 => ?_)
            have j70_153 : ∀ (ls : Array Slot) (y151d : Int32), lv_has ls 5 [(4, .int y138d), (3, .int y151d), (0, .ref (A 0)), (1, .int a0), (2, .int a1)] → W p l e (rmL 2 0 0) s m ar below meth c s.heap [] 0 0 Q (F0 m 70 ls []) := by
              intro ls y151d hl
              obtain ⟨z155, ez155⟩ : ∃ z, z = y138d + Int32.ofInt 1 := ⟨_, rfl⟩
              have hz155 : z155.toInt = y138d.toInt + 1 := by rw [ez155]; exact tt_add rfl (by decide) (by omega) (by omega)
              refine lv_iinc (v := z155) (lv' := [(4, .int z155), (3, .int y151d), (0, .ref (A 0)), (1, .int a0), (2, .int a1)]) hx hb dX9_passes_70 hl (k := 0) rfl ez155.symm (by decide) rfl (fun ls hl => ?_)
              refine lv_goto (tgt := 24) hx hb dX9_passes_73 (by decide) ?_
              exact ih24_139 ls z155 y151d (by have q9 := (show z155.toInt = (y138d.toInt + 1) from hz155); omega) (by have q9 := (show z155.toInt = (y138d.toInt + 1) from hz155); omega) (by have q9 := (show z155.toInt = (y138d.toInt + 1) from hz155); omega) hl
            refine lv_icmp_le (tgt := 70) hx hb dX9_passes_60 (by decide) (fun c147 => ?_) (fun c147 => ?_)
            · have c147 := cLE (x := z144) (y := z146) (X := z144.toInt) (Y := z146.toInt) rfl rfl c147
              exact j70_153 ls y139d hl
            · have c147 := cNLE (x := z144) (y := z146) (X := z144.toInt) (Y := z146.toInt) rfl rfl c147
              refine lv_iload_n hx hb dX9_passes_63 rfl (lv_at hl 1 rfl) ?_
              refine lv_iconst (v := 1) hx hb dX9_passes_64 (by decide) ?_
              refine lv_iload hx hb dX9_passes_65 (lv_at hl 0 rfl) ?_
              refine lv_ishl hx hb dX9_passes_67 ?_
              have gz156 := tt_shl1 (y := y138d) (Y := y138d.toInt) rfl (by omega) (by omega)
              refine p_bd (P := fun q => 1 ≤ q ∧ q ≤ 64) ⟨by omega, by omega⟩ (fun z157 bz157 => ?_)
              have bz157 : 1 ≤ z157.toInt ∧ z157.toInt ≤ 64 := bz157
              refine lv_ior hx hb dX9_passes_68 ?_
              refine p_any (fun z158 => ?_)
              refine lv_istore_n (lv' := [(3, .int z158), (4, .int y138d), (0, .ref (A 0)), (1, .int a0), (2, .int a1)]) hx hb dX9_passes_69 rfl hl (by decide) rfl (fun ls hl => ?_)
              exact j70_153 ls z158 (lv_sub hl [1, 0, 2, 3, 4] rfl)
      exact lp24_139 8 ls 0 0 (by decide) (by decide) (by have q9 : (0 : Int32).toInt = 0 := (by decide); omega) hl
    · subst e9
      refine lv_if_ne (tgt := 19) hx hb dX9_passes_13 (by decide) (fun c159 => absurd c159 (by decide)) (fun c159 => ?_)
      refine lv_bipush (v := (-2)) hx hb dX9_passes_16 (by decide) ?_
      exact hret _ _ ((-2) : Int32) dX9_passes_18 rfl trivial
  · subst e9
    refine lv_if_eq (tgt := 16) hx hb dX9_passes_5 (by decide) (fun c160 => ?_) (fun c160 => absurd c160 (by decide))
    refine lv_bipush (v := (-2)) hx hb dX9_passes_16 (by decide) ?_
    exact hret _ _ ((-2) : Int32) dX9_passes_18 rfl trivial
set_option maxHeartbeats 4000000 in
set_option maxRecDepth 100000 in
theorem kX3_holds_0 (l : Launch) (D : va_G) (C : Nat → ClassId) (A : Nat → Nat) (u : St) (hI : IC u) (a0 : Int32) (A0 : Int) (ha0 : a0.toInt = A0) (a1 : Int32) (A1 : Int) (ha1 : a1.toInt = A1) : Met l yX3_holds (uc yX3_holds cX3_holds 3 (some .boolean)) (rmL 1 0 0) (va_Pc [.ref (A 8), .int a0, .int a1] (PreR D (tyl C) (cw C A u))) (vp_Si (fun r => (r = 1 ∧ 0 ≤ A0 ∧ 0 ≤ A1 ∧ A0 + A1 ≤ (gi u 50).toInt) ∨ (r = 0 ∧ ¬ (0 ≤ A0 ∧ 0 ≤ A1 ∧ A0 + A1 ≤ (gi u 50).toInt)))) 0 0 (fun _ => False) := by
  refine mS (by decide) (Nat.le_of_ble_eq_true rfl) ?_
  intro p e s m below meth c ls ar Q hx hb hml hown hts hK hP hl hret
  have hown : s.vm.findClass RX3 = some m.cls := hown
  have hl : lv_has ls 3 [(0, .ref (A 8)), (1, .int a0), (2, .int a1)] := hl
  refine lv_iload_n hx hb dX3_holds_0 rfl (lv_at hl 1 rfl) ?_
  refine lv_if_lt (tgt := 22) hx hb dX3_holds_1 (by decide) (fun c1 => ?_) (fun c1 => ?_)
  · have c1 := cLT (x := a0) (y := 0) (X := A0) (Y := 0) ha0 (by decide) c1
    refine lv_iconst (v := 0) hx hb dX3_holds_22 (by decide) ?_
    exact hret _ _ (0 : Int32) dX3_holds_23 rfl (Or.inr ⟨rfl, by omega⟩)
  · have c1 := cNLT (x := a0) (y := 0) (X := A0) (Y := 0) ha0 (by decide) c1
    refine lv_iload_n hx hb dX3_holds_4 rfl (lv_at hl 2 rfl) ?_
    refine lv_if_lt (tgt := 22) hx hb dX3_holds_5 (by decide) (fun c2 => ?_) (fun c2 => ?_)
    · have c2 := cLT (x := a1) (y := 0) (X := A1) (Y := 0) ha1 (by decide) c2
      refine lv_iconst (v := 0) hx hb dX3_holds_22 (by decide) ?_
      exact hret _ _ (0 : Int32) dX3_holds_23 rfl (Or.inr ⟨rfl, by omega⟩)
    · have c2 := cNLT (x := a1) (y := 0) (X := A1) (Y := 0) ha1 (by decide) c2
      refine lv_iload_n hx hb dX3_holds_8 rfl (lv_at hl 1 rfl) ?_
      refine lv_aload_n hx hb dX3_holds_9 rfl (lv_at hl 0 rfl) ?_
      refine va_get (ci := 3) (v := .int (gi u 50)) (C := RX3) (T := TX3) (N := 3) hx hb hts (fun w h => uc_in w (inX3 w h)) hown hK hP 8 (cwc8 C A u) rfl 0 (by decide) (hts _ (uc_in _ q_f192)) (fun _ h9 => h9) rfl dX3_holds_10 ?_
      have b3 := hI.b50
      refine lv_iload_n hx hb dX3_holds_13 rfl (lv_at hl 2 rfl) ?_
      refine lv_isub hx hb dX3_holds_14 ?_
      have b4 := i_rng (x := a1) (X := A1) ha1
      refine p_nm (tt_sub (X := ((gi u 50)).toInt) (Y := A1) rfl ha1 (by omega) (by omega)) (fun z5 hz5 => ?_)
      refine lv_icmp_gt (tgt := 22) hx hb dX3_holds_15 (by decide) (fun c6 => ?_) (fun c6 => ?_)
      · have c6 := cLT (x := z5) (y := a0) (X := (((gi u 50)).toInt - A1)) (Y := A0) hz5 ha0 c6
        refine lv_iconst (v := 0) hx hb dX3_holds_22 (by decide) ?_
        exact hret _ _ (0 : Int32) dX3_holds_23 rfl (Or.inr ⟨rfl, by omega⟩)
      · have c6 := cNLT (x := z5) (y := a0) (X := (((gi u 50)).toInt - A1)) (Y := A0) hz5 ha0 c6
        refine lv_iconst (v := 1) hx hb dX3_holds_18 (by decide) ?_
        refine lv_goto (tgt := 23) hx hb dX3_holds_19 (by decide) ?_
        exact hret _ _ (1 : Int32) dX3_holds_23 rfl (Or.inl ⟨rfl, by omega, by omega, by omega⟩)
set_option maxHeartbeats 4000000 in
set_option maxRecDepth 100000 in
theorem kX3_holds_1 (l : Launch) (D : va_G) (C : Nat → ClassId) (A : Nat → Nat) (u : St) (hI : IC u) (a0 : Int32) (A0 : Int) (ha0 : a0.toInt = A0) (a1 : Int32) (A1 : Int) (ha1 : a1.toInt = A1) : Met l yX3_holds (uc yX3_holds cX3_holds 3 (some .boolean)) (rmL 1 0 0) (va_Pc [.ref (A 9), .int a0, .int a1] (PreR D (tyl C) (cw C A u))) (vp_Si (fun r => (r = 1 ∧ 0 ≤ A0 ∧ 0 ≤ A1 ∧ A0 + A1 ≤ (gi u 52).toInt) ∨ (r = 0 ∧ ¬ (0 ≤ A0 ∧ 0 ≤ A1 ∧ A0 + A1 ≤ (gi u 52).toInt)))) 0 0 (fun _ => False) := by
  refine mS (by decide) (Nat.le_of_ble_eq_true rfl) ?_
  intro p e s m below meth c ls ar Q hx hb hml hown hts hK hP hl hret
  have hown : s.vm.findClass RX3 = some m.cls := hown
  have hl : lv_has ls 3 [(0, .ref (A 9)), (1, .int a0), (2, .int a1)] := hl
  refine lv_iload_n hx hb dX3_holds_0 rfl (lv_at hl 1 rfl) ?_
  refine lv_if_lt (tgt := 22) hx hb dX3_holds_1 (by decide) (fun c1 => ?_) (fun c1 => ?_)
  · have c1 := cLT (x := a0) (y := 0) (X := A0) (Y := 0) ha0 (by decide) c1
    refine lv_iconst (v := 0) hx hb dX3_holds_22 (by decide) ?_
    exact hret _ _ (0 : Int32) dX3_holds_23 rfl (Or.inr ⟨rfl, by omega⟩)
  · have c1 := cNLT (x := a0) (y := 0) (X := A0) (Y := 0) ha0 (by decide) c1
    refine lv_iload_n hx hb dX3_holds_4 rfl (lv_at hl 2 rfl) ?_
    refine lv_if_lt (tgt := 22) hx hb dX3_holds_5 (by decide) (fun c2 => ?_) (fun c2 => ?_)
    · have c2 := cLT (x := a1) (y := 0) (X := A1) (Y := 0) ha1 (by decide) c2
      refine lv_iconst (v := 0) hx hb dX3_holds_22 (by decide) ?_
      exact hret _ _ (0 : Int32) dX3_holds_23 rfl (Or.inr ⟨rfl, by omega⟩)
    · have c2 := cNLT (x := a1) (y := 0) (X := A1) (Y := 0) ha1 (by decide) c2
      refine lv_iload_n hx hb dX3_holds_8 rfl (lv_at hl 1 rfl) ?_
      refine lv_aload_n hx hb dX3_holds_9 rfl (lv_at hl 0 rfl) ?_
      refine va_get (ci := 3) (v := .int (gi u 52)) (C := RX3) (T := TX3) (N := 3) hx hb hts (fun w h => uc_in w (inX3 w h)) hown hK hP 9 (cwc9 C A u) rfl 0 (by decide) (hts _ (uc_in _ q_f192)) (fun _ h9 => h9) rfl dX3_holds_10 ?_
      have b3 := hI.b52
      refine lv_iload_n hx hb dX3_holds_13 rfl (lv_at hl 2 rfl) ?_
      refine lv_isub hx hb dX3_holds_14 ?_
      have b4 := i_rng (x := a1) (X := A1) ha1
      refine p_nm (tt_sub (X := ((gi u 52)).toInt) (Y := A1) rfl ha1 (by omega) (by omega)) (fun z5 hz5 => ?_)
      refine lv_icmp_gt (tgt := 22) hx hb dX3_holds_15 (by decide) (fun c6 => ?_) (fun c6 => ?_)
      · have c6 := cLT (x := z5) (y := a0) (X := (((gi u 52)).toInt - A1)) (Y := A0) hz5 ha0 c6
        refine lv_iconst (v := 0) hx hb dX3_holds_22 (by decide) ?_
        exact hret _ _ (0 : Int32) dX3_holds_23 rfl (Or.inr ⟨rfl, by omega⟩)
      · have c6 := cNLT (x := z5) (y := a0) (X := (((gi u 52)).toInt - A1)) (Y := A0) hz5 ha0 c6
        refine lv_iconst (v := 1) hx hb dX3_holds_18 (by decide) ?_
        refine lv_goto (tgt := 23) hx hb dX3_holds_19 (by decide) ?_
        exact hret _ _ (1 : Int32) dX3_holds_23 rfl (Or.inl ⟨rfl, by omega, by omega, by omega⟩)
set_option maxHeartbeats 4000000 in
set_option maxRecDepth 100000 in
theorem kX3_holds_2 (l : Launch) (D : va_G) (C : Nat → ClassId) (A : Nat → Nat) (u : St) (hI : IC u) (a0 : Int32) (A0 : Int) (ha0 : a0.toInt = A0) (a1 : Int32) (A1 : Int) (ha1 : a1.toInt = A1) : Met l yX3_holds (uc yX3_holds cX3_holds 3 (some .boolean)) (rmL 1 0 0) (va_Pc [.ref (A 10), .int a0, .int a1] (PreR D (tyl C) (cw C A u))) (vp_Si (fun r => (r = 1 ∧ 0 ≤ A0 ∧ 0 ≤ A1 ∧ A0 + A1 ≤ (gi u 54).toInt) ∨ (r = 0 ∧ ¬ (0 ≤ A0 ∧ 0 ≤ A1 ∧ A0 + A1 ≤ (gi u 54).toInt)))) 0 0 (fun _ => False) := by
  refine mS (by decide) (Nat.le_of_ble_eq_true rfl) ?_
  intro p e s m below meth c ls ar Q hx hb hml hown hts hK hP hl hret
  have hown : s.vm.findClass RX3 = some m.cls := hown
  have hl : lv_has ls 3 [(0, .ref (A 10)), (1, .int a0), (2, .int a1)] := hl
  refine lv_iload_n hx hb dX3_holds_0 rfl (lv_at hl 1 rfl) ?_
  refine lv_if_lt (tgt := 22) hx hb dX3_holds_1 (by decide) (fun c1 => ?_) (fun c1 => ?_)
  · have c1 := cLT (x := a0) (y := 0) (X := A0) (Y := 0) ha0 (by decide) c1
    refine lv_iconst (v := 0) hx hb dX3_holds_22 (by decide) ?_
    exact hret _ _ (0 : Int32) dX3_holds_23 rfl (Or.inr ⟨rfl, by omega⟩)
  · have c1 := cNLT (x := a0) (y := 0) (X := A0) (Y := 0) ha0 (by decide) c1
    refine lv_iload_n hx hb dX3_holds_4 rfl (lv_at hl 2 rfl) ?_
    refine lv_if_lt (tgt := 22) hx hb dX3_holds_5 (by decide) (fun c2 => ?_) (fun c2 => ?_)
    · have c2 := cLT (x := a1) (y := 0) (X := A1) (Y := 0) ha1 (by decide) c2
      refine lv_iconst (v := 0) hx hb dX3_holds_22 (by decide) ?_
      exact hret _ _ (0 : Int32) dX3_holds_23 rfl (Or.inr ⟨rfl, by omega⟩)
    · have c2 := cNLT (x := a1) (y := 0) (X := A1) (Y := 0) ha1 (by decide) c2
      refine lv_iload_n hx hb dX3_holds_8 rfl (lv_at hl 1 rfl) ?_
      refine lv_aload_n hx hb dX3_holds_9 rfl (lv_at hl 0 rfl) ?_
      refine va_get (ci := 3) (v := .int (gi u 54)) (C := RX3) (T := TX3) (N := 3) hx hb hts (fun w h => uc_in w (inX3 w h)) hown hK hP 10 (cwc10 C A u) rfl 0 (by decide) (hts _ (uc_in _ q_f192)) (fun _ h9 => h9) rfl dX3_holds_10 ?_
      have b3 := hI.b54
      refine lv_iload_n hx hb dX3_holds_13 rfl (lv_at hl 2 rfl) ?_
      refine lv_isub hx hb dX3_holds_14 ?_
      have b4 := i_rng (x := a1) (X := A1) ha1
      refine p_nm (tt_sub (X := ((gi u 54)).toInt) (Y := A1) rfl ha1 (by omega) (by omega)) (fun z5 hz5 => ?_)
      refine lv_icmp_gt (tgt := 22) hx hb dX3_holds_15 (by decide) (fun c6 => ?_) (fun c6 => ?_)
      · have c6 := cLT (x := z5) (y := a0) (X := (((gi u 54)).toInt - A1)) (Y := A0) hz5 ha0 c6
        refine lv_iconst (v := 0) hx hb dX3_holds_22 (by decide) ?_
        exact hret _ _ (0 : Int32) dX3_holds_23 rfl (Or.inr ⟨rfl, by omega⟩)
      · have c6 := cNLT (x := z5) (y := a0) (X := (((gi u 54)).toInt - A1)) (Y := A0) hz5 ha0 c6
        refine lv_iconst (v := 1) hx hb dX3_holds_18 (by decide) ?_
        refine lv_goto (tgt := 23) hx hb dX3_holds_19 (by decide) ?_
        exact hret _ _ (1 : Int32) dX3_holds_23 rfl (Or.inl ⟨rfl, by omega, by omega, by omega⟩)
set_option maxHeartbeats 4000000 in
set_option maxRecDepth 100000 in
theorem kX3_holds_3 (l : Launch) (D : va_G) (C : Nat → ClassId) (A : Nat → Nat) (u : St) (hI : IC u) (a0 : Int32) (A0 : Int) (ha0 : a0.toInt = A0) (a1 : Int32) (A1 : Int) (ha1 : a1.toInt = A1) : Met l yX3_holds (uc yX3_holds cX3_holds 3 (some .boolean)) (rmL 1 0 0) (va_Pc [.ref (A 11), .int a0, .int a1] (PreR D (tyl C) (cw C A u))) (vp_Si (fun r => (r = 1 ∧ 0 ≤ A0 ∧ 0 ≤ A1 ∧ A0 + A1 ≤ (gi u 56).toInt) ∨ (r = 0 ∧ ¬ (0 ≤ A0 ∧ 0 ≤ A1 ∧ A0 + A1 ≤ (gi u 56).toInt)))) 0 0 (fun _ => False) := by
  refine mS (by decide) (Nat.le_of_ble_eq_true rfl) ?_
  intro p e s m below meth c ls ar Q hx hb hml hown hts hK hP hl hret
  have hown : s.vm.findClass RX3 = some m.cls := hown
  have hl : lv_has ls 3 [(0, .ref (A 11)), (1, .int a0), (2, .int a1)] := hl
  refine lv_iload_n hx hb dX3_holds_0 rfl (lv_at hl 1 rfl) ?_
  refine lv_if_lt (tgt := 22) hx hb dX3_holds_1 (by decide) (fun c1 => ?_) (fun c1 => ?_)
  · have c1 := cLT (x := a0) (y := 0) (X := A0) (Y := 0) ha0 (by decide) c1
    refine lv_iconst (v := 0) hx hb dX3_holds_22 (by decide) ?_
    exact hret _ _ (0 : Int32) dX3_holds_23 rfl (Or.inr ⟨rfl, by omega⟩)
  · have c1 := cNLT (x := a0) (y := 0) (X := A0) (Y := 0) ha0 (by decide) c1
    refine lv_iload_n hx hb dX3_holds_4 rfl (lv_at hl 2 rfl) ?_
    refine lv_if_lt (tgt := 22) hx hb dX3_holds_5 (by decide) (fun c2 => ?_) (fun c2 => ?_)
    · have c2 := cLT (x := a1) (y := 0) (X := A1) (Y := 0) ha1 (by decide) c2
      refine lv_iconst (v := 0) hx hb dX3_holds_22 (by decide) ?_
      exact hret _ _ (0 : Int32) dX3_holds_23 rfl (Or.inr ⟨rfl, by omega⟩)
    · have c2 := cNLT (x := a1) (y := 0) (X := A1) (Y := 0) ha1 (by decide) c2
      refine lv_iload_n hx hb dX3_holds_8 rfl (lv_at hl 1 rfl) ?_
      refine lv_aload_n hx hb dX3_holds_9 rfl (lv_at hl 0 rfl) ?_
      refine va_get (ci := 3) (v := .int (gi u 56)) (C := RX3) (T := TX3) (N := 3) hx hb hts (fun w h => uc_in w (inX3 w h)) hown hK hP 11 (cwc11 C A u) rfl 0 (by decide) (hts _ (uc_in _ q_f192)) (fun _ h9 => h9) rfl dX3_holds_10 ?_
      have b3 := hI.b56
      refine lv_iload_n hx hb dX3_holds_13 rfl (lv_at hl 2 rfl) ?_
      refine lv_isub hx hb dX3_holds_14 ?_
      have b4 := i_rng (x := a1) (X := A1) ha1
      refine p_nm (tt_sub (X := ((gi u 56)).toInt) (Y := A1) rfl ha1 (by omega) (by omega)) (fun z5 hz5 => ?_)
      refine lv_icmp_gt (tgt := 22) hx hb dX3_holds_15 (by decide) (fun c6 => ?_) (fun c6 => ?_)
      · have c6 := cLT (x := z5) (y := a0) (X := (((gi u 56)).toInt - A1)) (Y := A0) hz5 ha0 c6
        refine lv_iconst (v := 0) hx hb dX3_holds_22 (by decide) ?_
        exact hret _ _ (0 : Int32) dX3_holds_23 rfl (Or.inr ⟨rfl, by omega⟩)
      · have c6 := cNLT (x := z5) (y := a0) (X := (((gi u 56)).toInt - A1)) (Y := A0) hz5 ha0 c6
        refine lv_iconst (v := 1) hx hb dX3_holds_18 (by decide) ?_
        refine lv_goto (tgt := 23) hx hb dX3_holds_19 (by decide) ?_
        exact hret _ _ (1 : Int32) dX3_holds_23 rfl (Or.inl ⟨rfl, by omega, by omega, by omega⟩)
set_option maxHeartbeats 4000000 in
set_option maxRecDepth 100000 in
theorem kX9_paste_0 (l : Launch) (D : va_G) (C : Nat → ClassId) (A : Nat → Nat) (u : St) (hI : IC u) (a0 : Int32) (A0 : Int) (ha0 : a0.toInt = A0) (a1 : Int32) (A1 : Int) (ha1 : a1.toInt = A1) (a2 : Int32) (A2 : Int) (ha2 : a2.toInt = A2) (a3 : Int32) (A3 : Int) (ha3 : a3.toInt = A3) (a4 : Int32) (A4 : Int) (ha4 : a4.toInt = A4) (sz : Nat) : MetI l yX9_paste cX9_paste 8 (some .int) 3 [.ref (A 0), .int a0, .int a1, .int a2, .int a3, .int a4] D (tyl C) (cw C A) X0 u sz (fun r u' => IC u' ∧ Un [] [] [(39, 39), (40, 40), (41, 41), (42, 42)] u u' ∧ ((r = -2 ∧ (¬ (0 ≤ A0 ∧ A0 ≤ 3) ∨ ¬ (0 ≤ A2 ∧ A2 ≤ 3))) ∨ ∃ s w s2 w2 : Int, SzC u A0 s w ∧ SzC u A2 s2 w2 ∧ ((r = -6 ∧ (s < 0 ∨ s2 < 0)) ∨ (r = -8 ∧ 0 ≤ s ∧ 0 ≤ s2 ∧ w ≠ w2) ∨ (r = -7 ∧ 0 ≤ s ∧ 0 ≤ s2 ∧ w = w2 ∧ ¬ (0 ≤ A1 ∧ 0 ≤ A4 ∧ A1 + A4 ≤ s ∧ 0 ≤ A3 ∧ A3 + A4 ≤ s2)) ∨ (r = 0 ∧ 0 ≤ s ∧ 0 ≤ s2 ∧ w = w2 ∧ (0 ≤ A1 ∧ 0 ≤ A4 ∧ A1 + A4 ≤ s ∧ 0 ≤ A3 ∧ A3 + A4 ≤ s2))))) := by
  refine mI (by decide) (Nat.le_of_ble_eq_true rfl) ?_
  intro p e s m below meth c ls ar Q hx hb hml hown hts hK hH hX hl hret
  have hown : s.vm.findClass RX9 = some m.cls := hown
  have hl : lv_has ls 8 [(0, .ref (A 0)), (1, .int a0), (2, .int a1), (3, .int a2), (4, .int a3), (5, .int a4)] := hl
  refine lv_iload_n hx hb dX9_paste_0 rfl (lv_at hl 1 rfl) ?_
  refine csS (n := 1) (As := [.int a0]) (rest := []) ⟨hx, hb, hml, hown, hts⟩ uc_in (kX9_isSlot_0 l D C A u hI a0 A0 ha0) q_m911 q_s912 q_i1 q_c913 hvX9_isSlot ⟨(Nat.le_of_ble_eq_true rfl), (Nat.le_of_ble_eq_true rfl)⟩ ⟨(Nat.le_of_ble_eq_true rfl), (Nat.le_of_ble_eq_true rfl)⟩ hK hH.1 rfl hl.1 rfl (Nat.le_of_ble_eq_true rfl) dX9_paste_1 (fun r1 p2 => ?_)
  rcases p2 with ⟨e9, f3, f4⟩ | ⟨e9, fn5⟩
  · subst e9
    refine lv_if_eq (tgt := 14) hx hb dX9_paste_4 (by decide) (fun c6 => absurd c6 (by decide)) (fun c6 => ?_)
    refine lv_iload_n hx hb dX9_paste_7 rfl (lv_at hl 3 rfl) ?_
    refine csS (n := 1) (As := [.int a2]) (rest := []) ⟨hx, hb, hml, hown, hts⟩ uc_in (kX9_isSlot_0 l D C A u hI a2 A2 ha2) q_m911 q_s912 q_i1 q_c913 hvX9_isSlot ⟨(Nat.le_of_ble_eq_true rfl), (Nat.le_of_ble_eq_true rfl)⟩ ⟨(Nat.le_of_ble_eq_true rfl), (Nat.le_of_ble_eq_true rfl)⟩ hK hH.1 rfl hl.1 rfl (Nat.le_of_ble_eq_true rfl) dX9_paste_8 (fun r7 p8 => ?_)
    rcases p8 with ⟨e9, f9, f10⟩ | ⟨e9, fn11⟩
    · subst e9
      refine lv_if_ne (tgt := 17) hx hb dX9_paste_11 (by decide) (fun c12 => ?_) (fun c12 => absurd c12 (by decide))
      refine lv_aload_n hx hb dX9_paste_17 rfl (lv_at hl 0 rfl) ?_
      refine va_get (ci := 9) (v := .ref (A 18)) (C := RX9) (T := TX9) (N := 12) hx hb hts (fun w h => uc_in w (inX9 w h)) hown hK hH.1 0 (cwc0 C A u) rfl 6 (by decide) (hts _ (uc_in _ q_f389)) (fun _ h9 => h9) rfl dX9_paste_18 ?_
      refine lv_iload_n hx hb dX9_paste_21 rfl (lv_at hl 1 rfl) ?_
      rcases (show A0 = 0 ∨ A0 = 1 ∨ A0 = 2 ∨ A0 = 3 by omega) with e9 | e9 | e9 | e9
      · have e8 : a0 = 0 := i_lit ha0 (by rw [e9]; decide)
        subst e8
        have q8 : (0 : Int32).toInt = 0 := by decide
        refine r_aald hx hb hK hH.1 18 5 rfl (cwc18 C A u) rfl (i_ix (X := 0) (by decide) (by decide) (by decide)) dX9_paste_22 ?_
        refine pv_v (v := .ref (A 8)) rfl ?_
        refine lv_astore (lv' := [(6, .ref (A 8)), (0, .ref (A 0)), (1, .int 0), (2, .int a1), (3, .int a2), (4, .int a3), (5, .int a4)]) hx hb dX9_paste_23 hl (by decide) rfl (fun ls hl => ?_)
        refine lv_aload_n hx hb dX9_paste_25 rfl (lv_at hl 1 rfl) ?_
        refine va_get (ci := 9) (v := .ref (A 18)) (C := RX9) (T := TX9) (N := 12) hx hb hts (fun w h => uc_in w (inX9 w h)) hown hK hH.1 0 (cwc0 C A u) rfl 6 (by decide) (hts _ (uc_in _ q_f389)) (fun _ h9 => h9) rfl dX9_paste_26 ?_
        refine lv_iload_n hx hb dX9_paste_29 rfl (lv_at hl 4 rfl) ?_
        rcases (show A2 = 0 ∨ A2 = 1 ∨ A2 = 2 ∨ A2 = 3 by omega) with e9 | e9 | e9 | e9
        · have e8 : a2 = 0 := i_lit ha2 (by rw [e9]; decide)
          subst e8
          have q8 : (0 : Int32).toInt = 0 := by decide
          refine r_aald hx hb hK hH.1 18 5 rfl (cwc18 C A u) rfl (i_ix (X := 0) (by decide) (by decide) (by decide)) dX9_paste_30 ?_
          refine pv_v (v := .ref (A 8)) rfl ?_
          refine lv_astore (lv' := [(7, .ref (A 8)), (6, .ref (A 8)), (0, .ref (A 0)), (1, .int 0), (2, .int a1), (3, .int 0), (4, .int a3), (5, .int a4)]) hx hb dX9_paste_31 hl (by decide) rfl (fun ls hl => ?_)
          refine lv_aload hx hb dX9_paste_33 (lv_at hl 1 rfl) ?_
          refine cvS (n := 0) (As := []) (rest := []) ⟨hx, hb, hml, hown, hts⟩ uc_in (kX3_isThere_0 l D C A u hI ) q_m914 q_n915 q_e916 q_i5 q_c917 hvX3_isThere ⟨(Nat.le_of_ble_eq_true rfl), (Nat.le_of_ble_eq_true rfl)⟩ ⟨(Nat.le_of_ble_eq_true rfl), (Nat.le_of_ble_eq_true rfl)⟩ hK hH.1 3 8 rfl (cwc8 C A u) rfl hl.1 rfl (Nat.le_of_ble_eq_true rfl) dX9_paste_35 (fun r13 p14 => ?_)
          rcases p14 with ⟨e9, f15⟩ | ⟨e9, fn17⟩
          · subst e9
            have b18 := hI.b50
            refine lv_if_eq (tgt := 49) hx hb dX9_paste_38 (by decide) (fun c19 => absurd c19 (by decide)) (fun c19 => ?_)
            refine lv_aload hx hb dX9_paste_41 (lv_at hl 0 rfl) ?_
            refine cvS (n := 0) (As := []) (rest := []) ⟨hx, hb, hml, hown, hts⟩ uc_in (kX3_isThere_0 l D C A u hI ) q_m914 q_n915 q_e916 q_i5 q_c917 hvX3_isThere ⟨(Nat.le_of_ble_eq_true rfl), (Nat.le_of_ble_eq_true rfl)⟩ ⟨(Nat.le_of_ble_eq_true rfl), (Nat.le_of_ble_eq_true rfl)⟩ hK hH.1 3 8 rfl (cwc8 C A u) rfl hl.1 rfl (Nat.le_of_ble_eq_true rfl) dX9_paste_43 (fun r20 p21 => ?_)
            rcases p21 with ⟨e9, f22⟩ | ⟨e9, fn23⟩
            · subst e9
              refine lv_if_ne (tgt := 52) hx hb dX9_paste_46 (by decide) (fun c24 => ?_) (fun c24 => absurd c24 (by decide))
              refine lv_aload hx hb dX9_paste_52 (lv_at hl 1 rfl) ?_
              refine va_get (ci := 3) (v := .int (gi u 51)) (C := RX3) (T := TX3) (N := 3) hx hb hts (fun w h => uc_in w (inX3 w h)) hown hK hH.1 8 (cwc8 C A u) rfl 1 (by decide) (hts _ (uc_in _ q_f197)) (fun _ h9 => h9) rfl dX9_paste_54 ?_
              refine lv_aload hx hb dX9_paste_57 (lv_at hl 0 rfl) ?_
              refine va_get (ci := 3) (v := .int (gi u 51)) (C := RX3) (T := TX3) (N := 3) hx hb hts (fun w h => uc_in w (inX3 w h)) hown hK hH.1 8 (cwc8 C A u) rfl 1 (by decide) (hts _ (uc_in _ q_f197)) (fun _ h9 => h9) rfl dX9_paste_59 ?_
              refine lv_icmp_eq (tgt := 68) hx hb dX9_paste_62 (by decide) (fun c25 => ?_) (fun c25 => ?_)
              · have c25 := cEQ (x := (gi u 51)) (y := (gi u 51)) (X := ((gi u 51)).toInt) (Y := ((gi u 51)).toInt) rfl rfl c25
                refine lv_aload hx hb dX9_paste_68 (lv_at hl 1 rfl) ?_
                refine lv_iload_n hx hb dX9_paste_70 rfl (lv_at hl 4 rfl) ?_
                refine lv_iload hx hb dX9_paste_71 (lv_at hl 7 rfl) ?_
                refine cvS (n := 2) (As := [.int a1, .int a4]) (rest := []) ⟨hx, hb, hml, hown, hts⟩ uc_in (kX3_holds_0 l D C A u hI a1 A1 ha1 a4 A4 ha4) q_m1177 q_n1178 q_e1179 q_i5 q_c1180 hvX3_holds ⟨(Nat.le_of_ble_eq_true rfl), (Nat.le_of_ble_eq_true rfl)⟩ ⟨(Nat.le_of_ble_eq_true rfl), (Nat.le_of_ble_eq_true rfl)⟩ hK hH.1 3 8 rfl (cwc8 C A u) rfl hl.1 rfl (Nat.le_of_ble_eq_true rfl) dX9_paste_73 (fun r26 p27 => ?_)
                rcases p27 with ⟨e9, f28, f29, f30⟩ | ⟨e9, fn31⟩
                · subst e9
                  refine lv_if_eq (tgt := 91) hx hb dX9_paste_76 (by decide) (fun c32 => absurd c32 (by decide)) (fun c32 => ?_)
                  refine lv_aload hx hb dX9_paste_79 (lv_at hl 0 rfl) ?_
                  refine lv_iload hx hb dX9_paste_81 (lv_at hl 6 rfl) ?_
                  refine lv_iload hx hb dX9_paste_83 (lv_at hl 7 rfl) ?_
                  refine cvS (n := 2) (As := [.int a3, .int a4]) (rest := []) ⟨hx, hb, hml, hown, hts⟩ uc_in (kX3_holds_0 l D C A u hI a3 A3 ha3 a4 A4 ha4) q_m1177 q_n1178 q_e1179 q_i5 q_c1180 hvX3_holds ⟨(Nat.le_of_ble_eq_true rfl), (Nat.le_of_ble_eq_true rfl)⟩ ⟨(Nat.le_of_ble_eq_true rfl), (Nat.le_of_ble_eq_true rfl)⟩ hK hH.1 3 8 rfl (cwc8 C A u) rfl hl.1 rfl (Nat.le_of_ble_eq_true rfl) dX9_paste_85 (fun r33 p34 => ?_)
                  rcases p34 with ⟨e9, f35, f36, f37⟩ | ⟨e9, fn38⟩
                  · subst e9
                    refine lv_if_ne (tgt := 94) hx hb dX9_paste_88 (by decide) (fun c39 => ?_) (fun c39 => absurd c39 (by decide))
                    refine lv_aload hx hb dX9_paste_94 (lv_at hl 1 rfl) ?_
                    refine va_get (ci := 3) (v := .ref (A 39)) (C := RX3) (T := TX3) (N := 3) hx hb hts (fun w h => uc_in w (inX3 w h)) hown hK hH.1 8 (cwc8 C A u) rfl 2 (by decide) (hts _ (uc_in _ q_f201)) (fun _ h9 => h9) rfl dX9_paste_96 ?_
                    refine lv_iload_n hx hb dX9_paste_99 rfl (lv_at hl 4 rfl) ?_
                    refine lv_aload hx hb dX9_paste_100 (lv_at hl 0 rfl) ?_
                    refine va_get (ci := 3) (v := .ref (A 39)) (C := RX3) (T := TX3) (N := 3) hx hb hts (fun w h => uc_in w (inX3 w h)) hown hK hH.1 8 (cwc8 C A u) rfl 2 (by decide) (hts _ (uc_in _ q_f201)) (fun _ h9 => h9) rfl dX9_paste_102 ?_
                    refine lv_iload hx hb dX9_paste_105 (lv_at hl 6 rfl) ?_
                    refine lv_iload hx hb dX9_paste_107 (lv_at hl 7 rfl) ?_
                    refine r_copyl (j0 := 39) (j1 := 39) (S' := A1) (P' := A3) (N' := A4) hx hb (by rw [hml]; exact hl.1.symm) hown (hts _ (uc_in _ q_m1181)) (hts _ (uc_in _ q_t562)) (hts _ (uc_in _ q_s561)) (hts _ (uc_in _ q_i17)) hK hH 39 39 2 (cwc39 C A u) (cwc39 C A u) rfl ha1 ha3 ha4 (by omega) (by omega) (by omega) (by omega) (by omega) (cwb39 C A u) (Nat.le_of_ble_eq_true rfl) (Nat.le_of_ble_eq_true rfl) dX9_paste_109 (fun u40 eu40 H locs hH => ?_)
                    have hI := hI.pb_ eu40
                    refine lv_iconst (v := 0) hx hb dX9_paste_112 (by decide) ?_
                    exact hret _ _ _ _ (0 : Int32) _ dX9_paste_113 rfl ⟨hI, (Un.sb Un.rf rfl eu40), (Or.inr ⟨_, _, _, _, (Or.inl (⟨by omega, rfl, rfl⟩)), (Or.inl (⟨by omega, rfl, rfl⟩)), (Or.inr (Or.inr (Or.inr (⟨rfl, by omega⟩))))⟩)⟩ hH
                  · subst e9
                    refine lv_if_ne (tgt := 94) hx hb dX9_paste_88 (by decide) (fun c41 => absurd c41 (by decide)) (fun c41 => ?_)
                    refine lv_bipush (v := (-7)) hx hb dX9_paste_91 (by decide) ?_
                    exact hret _ _ _ _ ((-7) : Int32) _ dX9_paste_93 rfl ⟨hI, Un.rf, (Or.inr ⟨_, _, _, _, (Or.inl (⟨by omega, rfl, rfl⟩)), (Or.inl (⟨by omega, rfl, rfl⟩)), (Or.inr (Or.inr (Or.inl (⟨rfl, by omega⟩))))⟩)⟩ hH
                · subst e9
                  refine lv_if_eq (tgt := 91) hx hb dX9_paste_76 (by decide) (fun c42 => ?_) (fun c42 => absurd c42 (by decide))
                  refine lv_bipush (v := (-7)) hx hb dX9_paste_91 (by decide) ?_
                  exact hret _ _ _ _ ((-7) : Int32) _ dX9_paste_93 rfl ⟨hI, Un.rf, (Or.inr ⟨_, _, _, _, (Or.inl (⟨by omega, rfl, rfl⟩)), (Or.inl (⟨by omega, rfl, rfl⟩)), (Or.inr (Or.inr (Or.inl (⟨rfl, by omega⟩))))⟩)⟩ hH
              · have c25 := cNE (x := (gi u 51)) (y := (gi u 51)) (X := ((gi u 51)).toInt) (Y := ((gi u 51)).toInt) rfl rfl c25
                refine lv_bipush (v := (-8)) hx hb dX9_paste_65 (by decide) ?_
                exact hret _ _ _ _ ((-8) : Int32) _ dX9_paste_67 rfl ⟨hI, Un.rf, (Or.inr ⟨_, _, _, _, (Or.inl (⟨by omega, rfl, rfl⟩)), (Or.inl (⟨by omega, rfl, rfl⟩)), (Or.inr (Or.inl (⟨rfl, by omega⟩)))⟩)⟩ hH
            · subst e9
              refine lv_if_ne (tgt := 52) hx hb dX9_paste_46 (by decide) (fun c43 => absurd c43 (by decide)) (fun c43 => ?_)
              refine lv_bipush (v := (-6)) hx hb dX9_paste_49 (by decide) ?_
              exact hret _ _ _ _ ((-6) : Int32) _ dX9_paste_51 rfl ⟨hI, Un.rf, (Or.inr ⟨_, _, _, _, (Or.inl (⟨by omega, rfl, rfl⟩)), (Or.inl (⟨by omega, rfl, rfl⟩)), (Or.inl (⟨rfl, by omega⟩))⟩)⟩ hH
          · subst e9
            refine lv_if_eq (tgt := 49) hx hb dX9_paste_38 (by decide) (fun c44 => ?_) (fun c44 => absurd c44 (by decide))
            refine lv_bipush (v := (-6)) hx hb dX9_paste_49 (by decide) ?_
            exact hret _ _ _ _ ((-6) : Int32) _ dX9_paste_51 rfl ⟨hI, Un.rf, (Or.inr ⟨_, _, _, _, (Or.inl (⟨by omega, rfl, rfl⟩)), (Or.inl (⟨by omega, rfl, rfl⟩)), (Or.inl (⟨rfl, by omega⟩))⟩)⟩ hH
        · have e8 : a2 = 1 := i_lit ha2 (by rw [e9]; decide)
          subst e8
          have q8 : (1 : Int32).toInt = 1 := by decide
          refine r_aald hx hb hK hH.1 18 5 rfl (cwc18 C A u) rfl (i_ix (X := 1) (by decide) (by decide) (by decide)) dX9_paste_30 ?_
          refine pv_v (v := .ref (A 9)) rfl ?_
          refine lv_astore (lv' := [(7, .ref (A 9)), (6, .ref (A 8)), (0, .ref (A 0)), (1, .int 0), (2, .int a1), (3, .int 1), (4, .int a3), (5, .int a4)]) hx hb dX9_paste_31 hl (by decide) rfl (fun ls hl => ?_)
          refine lv_aload hx hb dX9_paste_33 (lv_at hl 1 rfl) ?_
          refine cvS (n := 0) (As := []) (rest := []) ⟨hx, hb, hml, hown, hts⟩ uc_in (kX3_isThere_0 l D C A u hI ) q_m914 q_n915 q_e916 q_i5 q_c917 hvX3_isThere ⟨(Nat.le_of_ble_eq_true rfl), (Nat.le_of_ble_eq_true rfl)⟩ ⟨(Nat.le_of_ble_eq_true rfl), (Nat.le_of_ble_eq_true rfl)⟩ hK hH.1 3 8 rfl (cwc8 C A u) rfl hl.1 rfl (Nat.le_of_ble_eq_true rfl) dX9_paste_35 (fun r45 p46 => ?_)
          rcases p46 with ⟨e9, f47⟩ | ⟨e9, fn49⟩
          · subst e9
            have b50 := hI.b50
            refine lv_if_eq (tgt := 49) hx hb dX9_paste_38 (by decide) (fun c51 => absurd c51 (by decide)) (fun c51 => ?_)
            refine lv_aload hx hb dX9_paste_41 (lv_at hl 0 rfl) ?_
            refine cvS (n := 0) (As := []) (rest := []) ⟨hx, hb, hml, hown, hts⟩ uc_in (kX3_isThere_1 l D C A u hI ) q_m914 q_n915 q_e916 q_i5 q_c917 hvX3_isThere ⟨(Nat.le_of_ble_eq_true rfl), (Nat.le_of_ble_eq_true rfl)⟩ ⟨(Nat.le_of_ble_eq_true rfl), (Nat.le_of_ble_eq_true rfl)⟩ hK hH.1 3 9 rfl (cwc9 C A u) rfl hl.1 rfl (Nat.le_of_ble_eq_true rfl) dX9_paste_43 (fun r52 p53 => ?_)
            rcases p53 with ⟨e9, f54⟩ | ⟨e9, fn56⟩
            · subst e9
              have b57 := hI.b52
              refine lv_if_ne (tgt := 52) hx hb dX9_paste_46 (by decide) (fun c58 => ?_) (fun c58 => absurd c58 (by decide))
              refine lv_aload hx hb dX9_paste_52 (lv_at hl 1 rfl) ?_
              refine va_get (ci := 3) (v := .int (gi u 51)) (C := RX3) (T := TX3) (N := 3) hx hb hts (fun w h => uc_in w (inX3 w h)) hown hK hH.1 8 (cwc8 C A u) rfl 1 (by decide) (hts _ (uc_in _ q_f197)) (fun _ h9 => h9) rfl dX9_paste_54 ?_
              refine lv_aload hx hb dX9_paste_57 (lv_at hl 0 rfl) ?_
              refine va_get (ci := 3) (v := .int (gi u 53)) (C := RX3) (T := TX3) (N := 3) hx hb hts (fun w h => uc_in w (inX3 w h)) hown hK hH.1 9 (cwc9 C A u) rfl 1 (by decide) (hts _ (uc_in _ q_f197)) (fun _ h9 => h9) rfl dX9_paste_59 ?_
              refine lv_icmp_eq (tgt := 68) hx hb dX9_paste_62 (by decide) (fun c59 => ?_) (fun c59 => ?_)
              · have c59 := cEQ (x := (gi u 51)) (y := (gi u 53)) (X := ((gi u 51)).toInt) (Y := ((gi u 53)).toInt) rfl rfl c59
                refine lv_aload hx hb dX9_paste_68 (lv_at hl 1 rfl) ?_
                refine lv_iload_n hx hb dX9_paste_70 rfl (lv_at hl 4 rfl) ?_
                refine lv_iload hx hb dX9_paste_71 (lv_at hl 7 rfl) ?_
                refine cvS (n := 2) (As := [.int a1, .int a4]) (rest := []) ⟨hx, hb, hml, hown, hts⟩ uc_in (kX3_holds_0 l D C A u hI a1 A1 ha1 a4 A4 ha4) q_m1177 q_n1178 q_e1179 q_i5 q_c1180 hvX3_holds ⟨(Nat.le_of_ble_eq_true rfl), (Nat.le_of_ble_eq_true rfl)⟩ ⟨(Nat.le_of_ble_eq_true rfl), (Nat.le_of_ble_eq_true rfl)⟩ hK hH.1 3 8 rfl (cwc8 C A u) rfl hl.1 rfl (Nat.le_of_ble_eq_true rfl) dX9_paste_73 (fun r60 p61 => ?_)
                rcases p61 with ⟨e9, f62, f63, f64⟩ | ⟨e9, fn65⟩
                · subst e9
                  refine lv_if_eq (tgt := 91) hx hb dX9_paste_76 (by decide) (fun c66 => absurd c66 (by decide)) (fun c66 => ?_)
                  refine lv_aload hx hb dX9_paste_79 (lv_at hl 0 rfl) ?_
                  refine lv_iload hx hb dX9_paste_81 (lv_at hl 6 rfl) ?_
                  refine lv_iload hx hb dX9_paste_83 (lv_at hl 7 rfl) ?_
                  refine cvS (n := 2) (As := [.int a3, .int a4]) (rest := []) ⟨hx, hb, hml, hown, hts⟩ uc_in (kX3_holds_1 l D C A u hI a3 A3 ha3 a4 A4 ha4) q_m1177 q_n1178 q_e1179 q_i5 q_c1180 hvX3_holds ⟨(Nat.le_of_ble_eq_true rfl), (Nat.le_of_ble_eq_true rfl)⟩ ⟨(Nat.le_of_ble_eq_true rfl), (Nat.le_of_ble_eq_true rfl)⟩ hK hH.1 3 9 rfl (cwc9 C A u) rfl hl.1 rfl (Nat.le_of_ble_eq_true rfl) dX9_paste_85 (fun r67 p68 => ?_)
                  rcases p68 with ⟨e9, f69, f70, f71⟩ | ⟨e9, fn72⟩
                  · subst e9
                    refine lv_if_ne (tgt := 94) hx hb dX9_paste_88 (by decide) (fun c73 => ?_) (fun c73 => absurd c73 (by decide))
                    refine lv_aload hx hb dX9_paste_94 (lv_at hl 1 rfl) ?_
                    refine va_get (ci := 3) (v := .ref (A 39)) (C := RX3) (T := TX3) (N := 3) hx hb hts (fun w h => uc_in w (inX3 w h)) hown hK hH.1 8 (cwc8 C A u) rfl 2 (by decide) (hts _ (uc_in _ q_f201)) (fun _ h9 => h9) rfl dX9_paste_96 ?_
                    refine lv_iload_n hx hb dX9_paste_99 rfl (lv_at hl 4 rfl) ?_
                    refine lv_aload hx hb dX9_paste_100 (lv_at hl 0 rfl) ?_
                    refine va_get (ci := 3) (v := .ref (A 40)) (C := RX3) (T := TX3) (N := 3) hx hb hts (fun w h => uc_in w (inX3 w h)) hown hK hH.1 9 (cwc9 C A u) rfl 2 (by decide) (hts _ (uc_in _ q_f201)) (fun _ h9 => h9) rfl dX9_paste_102 ?_
                    refine lv_iload hx hb dX9_paste_105 (lv_at hl 6 rfl) ?_
                    refine lv_iload hx hb dX9_paste_107 (lv_at hl 7 rfl) ?_
                    refine r_copyl (j0 := 39) (j1 := 40) (S' := A1) (P' := A3) (N' := A4) hx hb (by rw [hml]; exact hl.1.symm) hown (hts _ (uc_in _ q_m1181)) (hts _ (uc_in _ q_t562)) (hts _ (uc_in _ q_s561)) (hts _ (uc_in _ q_i17)) hK hH 39 40 2 (cwc39 C A u) (cwc40 C A u) rfl ha1 ha3 ha4 (by omega) (by omega) (by omega) (by omega) (by omega) (cwb40 C A u) (Nat.le_of_ble_eq_true rfl) (Nat.le_of_ble_eq_true rfl) dX9_paste_109 (fun u74 eu74 H locs hH => ?_)
                    have hI := hI.pb_ eu74
                    refine lv_iconst (v := 0) hx hb dX9_paste_112 (by decide) ?_
                    exact hret _ _ _ _ (0 : Int32) _ dX9_paste_113 rfl ⟨hI, (Un.sb Un.rf rfl eu74), (Or.inr ⟨_, _, _, _, (Or.inl (⟨by omega, rfl, rfl⟩)), (Or.inr (Or.inl (⟨by omega, rfl, rfl⟩))), (Or.inr (Or.inr (Or.inr (⟨rfl, by omega⟩))))⟩)⟩ hH
                  · subst e9
                    refine lv_if_ne (tgt := 94) hx hb dX9_paste_88 (by decide) (fun c75 => absurd c75 (by decide)) (fun c75 => ?_)
                    refine lv_bipush (v := (-7)) hx hb dX9_paste_91 (by decide) ?_
                    exact hret _ _ _ _ ((-7) : Int32) _ dX9_paste_93 rfl ⟨hI, Un.rf, (Or.inr ⟨_, _, _, _, (Or.inl (⟨by omega, rfl, rfl⟩)), (Or.inr (Or.inl (⟨by omega, rfl, rfl⟩))), (Or.inr (Or.inr (Or.inl (⟨rfl, by omega⟩))))⟩)⟩ hH
                · subst e9
                  refine lv_if_eq (tgt := 91) hx hb dX9_paste_76 (by decide) (fun c76 => ?_) (fun c76 => absurd c76 (by decide))
                  refine lv_bipush (v := (-7)) hx hb dX9_paste_91 (by decide) ?_
                  exact hret _ _ _ _ ((-7) : Int32) _ dX9_paste_93 rfl ⟨hI, Un.rf, (Or.inr ⟨_, _, _, _, (Or.inl (⟨by omega, rfl, rfl⟩)), (Or.inr (Or.inl (⟨by omega, rfl, rfl⟩))), (Or.inr (Or.inr (Or.inl (⟨rfl, by omega⟩))))⟩)⟩ hH
              · have c59 := cNE (x := (gi u 51)) (y := (gi u 53)) (X := ((gi u 51)).toInt) (Y := ((gi u 53)).toInt) rfl rfl c59
                refine lv_bipush (v := (-8)) hx hb dX9_paste_65 (by decide) ?_
                exact hret _ _ _ _ ((-8) : Int32) _ dX9_paste_67 rfl ⟨hI, Un.rf, (Or.inr ⟨_, _, _, _, (Or.inl (⟨by omega, rfl, rfl⟩)), (Or.inr (Or.inl (⟨by omega, rfl, rfl⟩))), (Or.inr (Or.inl (⟨rfl, by omega⟩)))⟩)⟩ hH
            · subst e9
              refine lv_if_ne (tgt := 52) hx hb dX9_paste_46 (by decide) (fun c77 => absurd c77 (by decide)) (fun c77 => ?_)
              refine lv_bipush (v := (-6)) hx hb dX9_paste_49 (by decide) ?_
              exact hret _ _ _ _ ((-6) : Int32) _ dX9_paste_51 rfl ⟨hI, Un.rf, (Or.inr ⟨_, _, _, _, (Or.inl (⟨by omega, rfl, rfl⟩)), (Or.inr (Or.inl (⟨by omega, rfl, rfl⟩))), (Or.inl (⟨rfl, by omega⟩))⟩)⟩ hH
          · subst e9
            refine lv_if_eq (tgt := 49) hx hb dX9_paste_38 (by decide) (fun c78 => ?_) (fun c78 => absurd c78 (by decide))
            refine lv_bipush (v := (-6)) hx hb dX9_paste_49 (by decide) ?_
            exact hret _ _ _ _ ((-6) : Int32) _ dX9_paste_51 rfl ⟨hI, Un.rf, (Or.inr ⟨_, _, _, _, (Or.inl (⟨by omega, rfl, rfl⟩)), (Or.inr (Or.inl (⟨by omega, rfl, rfl⟩))), (Or.inl (⟨rfl, by omega⟩))⟩)⟩ hH
        · have e8 : a2 = 2 := i_lit ha2 (by rw [e9]; decide)
          subst e8
          have q8 : (2 : Int32).toInt = 2 := by decide
          refine r_aald hx hb hK hH.1 18 5 rfl (cwc18 C A u) rfl (i_ix (X := 2) (by decide) (by decide) (by decide)) dX9_paste_30 ?_
          refine pv_v (v := .ref (A 10)) rfl ?_
          refine lv_astore (lv' := [(7, .ref (A 10)), (6, .ref (A 8)), (0, .ref (A 0)), (1, .int 0), (2, .int a1), (3, .int 2), (4, .int a3), (5, .int a4)]) hx hb dX9_paste_31 hl (by decide) rfl (fun ls hl => ?_)
          refine lv_aload hx hb dX9_paste_33 (lv_at hl 1 rfl) ?_
          refine cvS (n := 0) (As := []) (rest := []) ⟨hx, hb, hml, hown, hts⟩ uc_in (kX3_isThere_0 l D C A u hI ) q_m914 q_n915 q_e916 q_i5 q_c917 hvX3_isThere ⟨(Nat.le_of_ble_eq_true rfl), (Nat.le_of_ble_eq_true rfl)⟩ ⟨(Nat.le_of_ble_eq_true rfl), (Nat.le_of_ble_eq_true rfl)⟩ hK hH.1 3 8 rfl (cwc8 C A u) rfl hl.1 rfl (Nat.le_of_ble_eq_true rfl) dX9_paste_35 (fun r79 p80 => ?_)
          rcases p80 with ⟨e9, f81⟩ | ⟨e9, fn83⟩
          · subst e9
            have b84 := hI.b50
            refine lv_if_eq (tgt := 49) hx hb dX9_paste_38 (by decide) (fun c85 => absurd c85 (by decide)) (fun c85 => ?_)
            refine lv_aload hx hb dX9_paste_41 (lv_at hl 0 rfl) ?_
            refine cvS (n := 0) (As := []) (rest := []) ⟨hx, hb, hml, hown, hts⟩ uc_in (kX3_isThere_2 l D C A u hI ) q_m914 q_n915 q_e916 q_i5 q_c917 hvX3_isThere ⟨(Nat.le_of_ble_eq_true rfl), (Nat.le_of_ble_eq_true rfl)⟩ ⟨(Nat.le_of_ble_eq_true rfl), (Nat.le_of_ble_eq_true rfl)⟩ hK hH.1 3 10 rfl (cwc10 C A u) rfl hl.1 rfl (Nat.le_of_ble_eq_true rfl) dX9_paste_43 (fun r86 p87 => ?_)
            rcases p87 with ⟨e9, f88⟩ | ⟨e9, fn90⟩
            · subst e9
              have b91 := hI.b54
              refine lv_if_ne (tgt := 52) hx hb dX9_paste_46 (by decide) (fun c92 => ?_) (fun c92 => absurd c92 (by decide))
              refine lv_aload hx hb dX9_paste_52 (lv_at hl 1 rfl) ?_
              refine va_get (ci := 3) (v := .int (gi u 51)) (C := RX3) (T := TX3) (N := 3) hx hb hts (fun w h => uc_in w (inX3 w h)) hown hK hH.1 8 (cwc8 C A u) rfl 1 (by decide) (hts _ (uc_in _ q_f197)) (fun _ h9 => h9) rfl dX9_paste_54 ?_
              refine lv_aload hx hb dX9_paste_57 (lv_at hl 0 rfl) ?_
              refine va_get (ci := 3) (v := .int (gi u 55)) (C := RX3) (T := TX3) (N := 3) hx hb hts (fun w h => uc_in w (inX3 w h)) hown hK hH.1 10 (cwc10 C A u) rfl 1 (by decide) (hts _ (uc_in _ q_f197)) (fun _ h9 => h9) rfl dX9_paste_59 ?_
              refine lv_icmp_eq (tgt := 68) hx hb dX9_paste_62 (by decide) (fun c93 => ?_) (fun c93 => ?_)
              · have c93 := cEQ (x := (gi u 51)) (y := (gi u 55)) (X := ((gi u 51)).toInt) (Y := ((gi u 55)).toInt) rfl rfl c93
                refine lv_aload hx hb dX9_paste_68 (lv_at hl 1 rfl) ?_
                refine lv_iload_n hx hb dX9_paste_70 rfl (lv_at hl 4 rfl) ?_
                refine lv_iload hx hb dX9_paste_71 (lv_at hl 7 rfl) ?_
                refine cvS (n := 2) (As := [.int a1, .int a4]) (rest := []) ⟨hx, hb, hml, hown, hts⟩ uc_in (kX3_holds_0 l D C A u hI a1 A1 ha1 a4 A4 ha4) q_m1177 q_n1178 q_e1179 q_i5 q_c1180 hvX3_holds ⟨(Nat.le_of_ble_eq_true rfl), (Nat.le_of_ble_eq_true rfl)⟩ ⟨(Nat.le_of_ble_eq_true rfl), (Nat.le_of_ble_eq_true rfl)⟩ hK hH.1 3 8 rfl (cwc8 C A u) rfl hl.1 rfl (Nat.le_of_ble_eq_true rfl) dX9_paste_73 (fun r94 p95 => ?_)
                rcases p95 with ⟨e9, f96, f97, f98⟩ | ⟨e9, fn99⟩
                · subst e9
                  refine lv_if_eq (tgt := 91) hx hb dX9_paste_76 (by decide) (fun c100 => absurd c100 (by decide)) (fun c100 => ?_)
                  refine lv_aload hx hb dX9_paste_79 (lv_at hl 0 rfl) ?_
                  refine lv_iload hx hb dX9_paste_81 (lv_at hl 6 rfl) ?_
                  refine lv_iload hx hb dX9_paste_83 (lv_at hl 7 rfl) ?_
                  refine cvS (n := 2) (As := [.int a3, .int a4]) (rest := []) ⟨hx, hb, hml, hown, hts⟩ uc_in (kX3_holds_2 l D C A u hI a3 A3 ha3 a4 A4 ha4) q_m1177 q_n1178 q_e1179 q_i5 q_c1180 hvX3_holds ⟨(Nat.le_of_ble_eq_true rfl), (Nat.le_of_ble_eq_true rfl)⟩ ⟨(Nat.le_of_ble_eq_true rfl), (Nat.le_of_ble_eq_true rfl)⟩ hK hH.1 3 10 rfl (cwc10 C A u) rfl hl.1 rfl (Nat.le_of_ble_eq_true rfl) dX9_paste_85 (fun r101 p102 => ?_)
                  rcases p102 with ⟨e9, f103, f104, f105⟩ | ⟨e9, fn106⟩
                  · subst e9
                    refine lv_if_ne (tgt := 94) hx hb dX9_paste_88 (by decide) (fun c107 => ?_) (fun c107 => absurd c107 (by decide))
                    refine lv_aload hx hb dX9_paste_94 (lv_at hl 1 rfl) ?_
                    refine va_get (ci := 3) (v := .ref (A 39)) (C := RX3) (T := TX3) (N := 3) hx hb hts (fun w h => uc_in w (inX3 w h)) hown hK hH.1 8 (cwc8 C A u) rfl 2 (by decide) (hts _ (uc_in _ q_f201)) (fun _ h9 => h9) rfl dX9_paste_96 ?_
                    refine lv_iload_n hx hb dX9_paste_99 rfl (lv_at hl 4 rfl) ?_
                    refine lv_aload hx hb dX9_paste_100 (lv_at hl 0 rfl) ?_
                    refine va_get (ci := 3) (v := .ref (A 41)) (C := RX3) (T := TX3) (N := 3) hx hb hts (fun w h => uc_in w (inX3 w h)) hown hK hH.1 10 (cwc10 C A u) rfl 2 (by decide) (hts _ (uc_in _ q_f201)) (fun _ h9 => h9) rfl dX9_paste_102 ?_
                    refine lv_iload hx hb dX9_paste_105 (lv_at hl 6 rfl) ?_
                    refine lv_iload hx hb dX9_paste_107 (lv_at hl 7 rfl) ?_
                    refine r_copyl (j0 := 39) (j1 := 41) (S' := A1) (P' := A3) (N' := A4) hx hb (by rw [hml]; exact hl.1.symm) hown (hts _ (uc_in _ q_m1181)) (hts _ (uc_in _ q_t562)) (hts _ (uc_in _ q_s561)) (hts _ (uc_in _ q_i17)) hK hH 39 41 2 (cwc39 C A u) (cwc41 C A u) rfl ha1 ha3 ha4 (by omega) (by omega) (by omega) (by omega) (by omega) (cwb41 C A u) (Nat.le_of_ble_eq_true rfl) (Nat.le_of_ble_eq_true rfl) dX9_paste_109 (fun u108 eu108 H locs hH => ?_)
                    have hI := hI.pb_ eu108
                    refine lv_iconst (v := 0) hx hb dX9_paste_112 (by decide) ?_
                    exact hret _ _ _ _ (0 : Int32) _ dX9_paste_113 rfl ⟨hI, (Un.sb Un.rf rfl eu108), (Or.inr ⟨_, _, _, _, (Or.inl (⟨by omega, rfl, rfl⟩)), (Or.inr (Or.inr (Or.inl (⟨by omega, rfl, rfl⟩)))), (Or.inr (Or.inr (Or.inr (⟨rfl, by omega⟩))))⟩)⟩ hH
                  · subst e9
                    refine lv_if_ne (tgt := 94) hx hb dX9_paste_88 (by decide) (fun c109 => absurd c109 (by decide)) (fun c109 => ?_)
                    refine lv_bipush (v := (-7)) hx hb dX9_paste_91 (by decide) ?_
                    exact hret _ _ _ _ ((-7) : Int32) _ dX9_paste_93 rfl ⟨hI, Un.rf, (Or.inr ⟨_, _, _, _, (Or.inl (⟨by omega, rfl, rfl⟩)), (Or.inr (Or.inr (Or.inl (⟨by omega, rfl, rfl⟩)))), (Or.inr (Or.inr (Or.inl (⟨rfl, by omega⟩))))⟩)⟩ hH
                · subst e9
                  refine lv_if_eq (tgt := 91) hx hb dX9_paste_76 (by decide) (fun c110 => ?_) (fun c110 => absurd c110 (by decide))
                  refine lv_bipush (v := (-7)) hx hb dX9_paste_91 (by decide) ?_
                  exact hret _ _ _ _ ((-7) : Int32) _ dX9_paste_93 rfl ⟨hI, Un.rf, (Or.inr ⟨_, _, _, _, (Or.inl (⟨by omega, rfl, rfl⟩)), (Or.inr (Or.inr (Or.inl (⟨by omega, rfl, rfl⟩)))), (Or.inr (Or.inr (Or.inl (⟨rfl, by omega⟩))))⟩)⟩ hH
              · have c93 := cNE (x := (gi u 51)) (y := (gi u 55)) (X := ((gi u 51)).toInt) (Y := ((gi u 55)).toInt) rfl rfl c93
                refine lv_bipush (v := (-8)) hx hb dX9_paste_65 (by decide) ?_
                exact hret _ _ _ _ ((-8) : Int32) _ dX9_paste_67 rfl ⟨hI, Un.rf, (Or.inr ⟨_, _, _, _, (Or.inl (⟨by omega, rfl, rfl⟩)), (Or.inr (Or.inr (Or.inl (⟨by omega, rfl, rfl⟩)))), (Or.inr (Or.inl (⟨rfl, by omega⟩)))⟩)⟩ hH
            · subst e9
              refine lv_if_ne (tgt := 52) hx hb dX9_paste_46 (by decide) (fun c111 => absurd c111 (by decide)) (fun c111 => ?_)
              refine lv_bipush (v := (-6)) hx hb dX9_paste_49 (by decide) ?_
              exact hret _ _ _ _ ((-6) : Int32) _ dX9_paste_51 rfl ⟨hI, Un.rf, (Or.inr ⟨_, _, _, _, (Or.inl (⟨by omega, rfl, rfl⟩)), (Or.inr (Or.inr (Or.inl (⟨by omega, rfl, rfl⟩)))), (Or.inl (⟨rfl, by omega⟩))⟩)⟩ hH
          · subst e9
            refine lv_if_eq (tgt := 49) hx hb dX9_paste_38 (by decide) (fun c112 => ?_) (fun c112 => absurd c112 (by decide))
            refine lv_bipush (v := (-6)) hx hb dX9_paste_49 (by decide) ?_
            exact hret _ _ _ _ ((-6) : Int32) _ dX9_paste_51 rfl ⟨hI, Un.rf, (Or.inr ⟨_, _, _, _, (Or.inl (⟨by omega, rfl, rfl⟩)), (Or.inr (Or.inr (Or.inl (⟨by omega, rfl, rfl⟩)))), (Or.inl (⟨rfl, by omega⟩))⟩)⟩ hH
        · have e8 : a2 = 3 := i_lit ha2 (by rw [e9]; decide)
          subst e8
          have q8 : (3 : Int32).toInt = 3 := by decide
          refine r_aald hx hb hK hH.1 18 5 rfl (cwc18 C A u) rfl (i_ix (X := 3) (by decide) (by decide) (by decide)) dX9_paste_30 ?_
          refine pv_v (v := .ref (A 11)) rfl ?_
          refine lv_astore (lv' := [(7, .ref (A 11)), (6, .ref (A 8)), (0, .ref (A 0)), (1, .int 0), (2, .int a1), (3, .int 3), (4, .int a3), (5, .int a4)]) hx hb dX9_paste_31 hl (by decide) rfl (fun ls hl => ?_)
          refine lv_aload hx hb dX9_paste_33 (lv_at hl 1 rfl) ?_
          refine cvS (n := 0) (As := []) (rest := []) ⟨hx, hb, hml, hown, hts⟩ uc_in (kX3_isThere_0 l D C A u hI ) q_m914 q_n915 q_e916 q_i5 q_c917 hvX3_isThere ⟨(Nat.le_of_ble_eq_true rfl), (Nat.le_of_ble_eq_true rfl)⟩ ⟨(Nat.le_of_ble_eq_true rfl), (Nat.le_of_ble_eq_true rfl)⟩ hK hH.1 3 8 rfl (cwc8 C A u) rfl hl.1 rfl (Nat.le_of_ble_eq_true rfl) dX9_paste_35 (fun r113 p114 => ?_)
          rcases p114 with ⟨e9, f115⟩ | ⟨e9, fn117⟩
          · subst e9
            have b118 := hI.b50
            refine lv_if_eq (tgt := 49) hx hb dX9_paste_38 (by decide) (fun c119 => absurd c119 (by decide)) (fun c119 => ?_)
            refine lv_aload hx hb dX9_paste_41 (lv_at hl 0 rfl) ?_
            refine cvS (n := 0) (As := []) (rest := []) ⟨hx, hb, hml, hown, hts⟩ uc_in (kX3_isThere_3 l D C A u hI ) q_m914 q_n915 q_e916 q_i5 q_c917 hvX3_isThere ⟨(Nat.le_of_ble_eq_true rfl), (Nat.le_of_ble_eq_true rfl)⟩ ⟨(Nat.le_of_ble_eq_true rfl), (Nat.le_of_ble_eq_true rfl)⟩ hK hH.1 3 11 rfl (cwc11 C A u) rfl hl.1 rfl (Nat.le_of_ble_eq_true rfl) dX9_paste_43 (fun r120 p121 => ?_)
            rcases p121 with ⟨e9, f122⟩ | ⟨e9, fn124⟩
            · subst e9
              have b125 := hI.b56
              refine lv_if_ne (tgt := 52) hx hb dX9_paste_46 (by decide) (fun c126 => ?_) (fun c126 => absurd c126 (by decide))
              refine lv_aload hx hb dX9_paste_52 (lv_at hl 1 rfl) ?_
              refine va_get (ci := 3) (v := .int (gi u 51)) (C := RX3) (T := TX3) (N := 3) hx hb hts (fun w h => uc_in w (inX3 w h)) hown hK hH.1 8 (cwc8 C A u) rfl 1 (by decide) (hts _ (uc_in _ q_f197)) (fun _ h9 => h9) rfl dX9_paste_54 ?_
              refine lv_aload hx hb dX9_paste_57 (lv_at hl 0 rfl) ?_
              refine va_get (ci := 3) (v := .int (gi u 57)) (C := RX3) (T := TX3) (N := 3) hx hb hts (fun w h => uc_in w (inX3 w h)) hown hK hH.1 11 (cwc11 C A u) rfl 1 (by decide) (hts _ (uc_in _ q_f197)) (fun _ h9 => h9) rfl dX9_paste_59 ?_
              refine lv_icmp_eq (tgt := 68) hx hb dX9_paste_62 (by decide) (fun c127 => ?_) (fun c127 => ?_)
              · have c127 := cEQ (x := (gi u 51)) (y := (gi u 57)) (X := ((gi u 51)).toInt) (Y := ((gi u 57)).toInt) rfl rfl c127
                refine lv_aload hx hb dX9_paste_68 (lv_at hl 1 rfl) ?_
                refine lv_iload_n hx hb dX9_paste_70 rfl (lv_at hl 4 rfl) ?_
                refine lv_iload hx hb dX9_paste_71 (lv_at hl 7 rfl) ?_
                refine cvS (n := 2) (As := [.int a1, .int a4]) (rest := []) ⟨hx, hb, hml, hown, hts⟩ uc_in (kX3_holds_0 l D C A u hI a1 A1 ha1 a4 A4 ha4) q_m1177 q_n1178 q_e1179 q_i5 q_c1180 hvX3_holds ⟨(Nat.le_of_ble_eq_true rfl), (Nat.le_of_ble_eq_true rfl)⟩ ⟨(Nat.le_of_ble_eq_true rfl), (Nat.le_of_ble_eq_true rfl)⟩ hK hH.1 3 8 rfl (cwc8 C A u) rfl hl.1 rfl (Nat.le_of_ble_eq_true rfl) dX9_paste_73 (fun r128 p129 => ?_)
                rcases p129 with ⟨e9, f130, f131, f132⟩ | ⟨e9, fn133⟩
                · subst e9
                  refine lv_if_eq (tgt := 91) hx hb dX9_paste_76 (by decide) (fun c134 => absurd c134 (by decide)) (fun c134 => ?_)
                  refine lv_aload hx hb dX9_paste_79 (lv_at hl 0 rfl) ?_
                  refine lv_iload hx hb dX9_paste_81 (lv_at hl 6 rfl) ?_
                  refine lv_iload hx hb dX9_paste_83 (lv_at hl 7 rfl) ?_
                  refine cvS (n := 2) (As := [.int a3, .int a4]) (rest := []) ⟨hx, hb, hml, hown, hts⟩ uc_in (kX3_holds_3 l D C A u hI a3 A3 ha3 a4 A4 ha4) q_m1177 q_n1178 q_e1179 q_i5 q_c1180 hvX3_holds ⟨(Nat.le_of_ble_eq_true rfl), (Nat.le_of_ble_eq_true rfl)⟩ ⟨(Nat.le_of_ble_eq_true rfl), (Nat.le_of_ble_eq_true rfl)⟩ hK hH.1 3 11 rfl (cwc11 C A u) rfl hl.1 rfl (Nat.le_of_ble_eq_true rfl) dX9_paste_85 (fun r135 p136 => ?_)
                  rcases p136 with ⟨e9, f137, f138, f139⟩ | ⟨e9, fn140⟩
                  · subst e9
                    refine lv_if_ne (tgt := 94) hx hb dX9_paste_88 (by decide) (fun c141 => ?_) (fun c141 => absurd c141 (by decide))
                    refine lv_aload hx hb dX9_paste_94 (lv_at hl 1 rfl) ?_
                    refine va_get (ci := 3) (v := .ref (A 39)) (C := RX3) (T := TX3) (N := 3) hx hb hts (fun w h => uc_in w (inX3 w h)) hown hK hH.1 8 (cwc8 C A u) rfl 2 (by decide) (hts _ (uc_in _ q_f201)) (fun _ h9 => h9) rfl dX9_paste_96 ?_
                    refine lv_iload_n hx hb dX9_paste_99 rfl (lv_at hl 4 rfl) ?_
                    refine lv_aload hx hb dX9_paste_100 (lv_at hl 0 rfl) ?_
                    refine va_get (ci := 3) (v := .ref (A 42)) (C := RX3) (T := TX3) (N := 3) hx hb hts (fun w h => uc_in w (inX3 w h)) hown hK hH.1 11 (cwc11 C A u) rfl 2 (by decide) (hts _ (uc_in _ q_f201)) (fun _ h9 => h9) rfl dX9_paste_102 ?_
                    refine lv_iload hx hb dX9_paste_105 (lv_at hl 6 rfl) ?_
                    refine lv_iload hx hb dX9_paste_107 (lv_at hl 7 rfl) ?_
                    refine r_copyl (j0 := 39) (j1 := 42) (S' := A1) (P' := A3) (N' := A4) hx hb (by rw [hml]; exact hl.1.symm) hown (hts _ (uc_in _ q_m1181)) (hts _ (uc_in _ q_t562)) (hts _ (uc_in _ q_s561)) (hts _ (uc_in _ q_i17)) hK hH 39 42 2 (cwc39 C A u) (cwc42 C A u) rfl ha1 ha3 ha4 (by omega) (by omega) (by omega) (by omega) (by omega) (cwb42 C A u) (Nat.le_of_ble_eq_true rfl) (Nat.le_of_ble_eq_true rfl) dX9_paste_109 (fun u142 eu142 H locs hH => ?_)
                    have hI := hI.pb_ eu142
                    refine lv_iconst (v := 0) hx hb dX9_paste_112 (by decide) ?_
                    exact hret _ _ _ _ (0 : Int32) _ dX9_paste_113 rfl ⟨hI, (Un.sb Un.rf rfl eu142), (Or.inr ⟨_, _, _, _, (Or.inl (⟨by omega, rfl, rfl⟩)), (Or.inr (Or.inr (Or.inr (⟨by omega, rfl, rfl⟩)))), (Or.inr (Or.inr (Or.inr (⟨rfl, by omega⟩))))⟩)⟩ hH
                  · subst e9
                    refine lv_if_ne (tgt := 94) hx hb dX9_paste_88 (by decide) (fun c143 => absurd c143 (by decide)) (fun c143 => ?_)
                    refine lv_bipush (v := (-7)) hx hb dX9_paste_91 (by decide) ?_
                    exact hret _ _ _ _ ((-7) : Int32) _ dX9_paste_93 rfl ⟨hI, Un.rf, (Or.inr ⟨_, _, _, _, (Or.inl (⟨by omega, rfl, rfl⟩)), (Or.inr (Or.inr (Or.inr (⟨by omega, rfl, rfl⟩)))), (Or.inr (Or.inr (Or.inl (⟨rfl, by omega⟩))))⟩)⟩ hH
                · subst e9
                  refine lv_if_eq (tgt := 91) hx hb dX9_paste_76 (by decide) (fun c144 => ?_) (fun c144 => absurd c144 (by decide))
                  refine lv_bipush (v := (-7)) hx hb dX9_paste_91 (by decide) ?_
                  exact hret _ _ _ _ ((-7) : Int32) _ dX9_paste_93 rfl ⟨hI, Un.rf, (Or.inr ⟨_, _, _, _, (Or.inl (⟨by omega, rfl, rfl⟩)), (Or.inr (Or.inr (Or.inr (⟨by omega, rfl, rfl⟩)))), (Or.inr (Or.inr (Or.inl (⟨rfl, by omega⟩))))⟩)⟩ hH
              · have c127 := cNE (x := (gi u 51)) (y := (gi u 57)) (X := ((gi u 51)).toInt) (Y := ((gi u 57)).toInt) rfl rfl c127
                refine lv_bipush (v := (-8)) hx hb dX9_paste_65 (by decide) ?_
                exact hret _ _ _ _ ((-8) : Int32) _ dX9_paste_67 rfl ⟨hI, Un.rf, (Or.inr ⟨_, _, _, _, (Or.inl (⟨by omega, rfl, rfl⟩)), (Or.inr (Or.inr (Or.inr (⟨by omega, rfl, rfl⟩)))), (Or.inr (Or.inl (⟨rfl, by omega⟩)))⟩)⟩ hH
            · subst e9
              refine lv_if_ne (tgt := 52) hx hb dX9_paste_46 (by decide) (fun c145 => absurd c145 (by decide)) (fun c145 => ?_)
              refine lv_bipush (v := (-6)) hx hb dX9_paste_49 (by decide) ?_
              exact hret _ _ _ _ ((-6) : Int32) _ dX9_paste_51 rfl ⟨hI, Un.rf, (Or.inr ⟨_, _, _, _, (Or.inl (⟨by omega, rfl, rfl⟩)), (Or.inr (Or.inr (Or.inr (⟨by omega, rfl, rfl⟩)))), (Or.inl (⟨rfl, by omega⟩))⟩)⟩ hH
          · subst e9
            refine lv_if_eq (tgt := 49) hx hb dX9_paste_38 (by decide) (fun c146 => ?_) (fun c146 => absurd c146 (by decide))
            refine lv_bipush (v := (-6)) hx hb dX9_paste_49 (by decide) ?_
            exact hret _ _ _ _ ((-6) : Int32) _ dX9_paste_51 rfl ⟨hI, Un.rf, (Or.inr ⟨_, _, _, _, (Or.inl (⟨by omega, rfl, rfl⟩)), (Or.inr (Or.inr (Or.inr (⟨by omega, rfl, rfl⟩)))), (Or.inl (⟨rfl, by omega⟩))⟩)⟩ hH
      · have e8 : a0 = 1 := i_lit ha0 (by rw [e9]; decide)
        subst e8
        have q8 : (1 : Int32).toInt = 1 := by decide
        refine r_aald hx hb hK hH.1 18 5 rfl (cwc18 C A u) rfl (i_ix (X := 1) (by decide) (by decide) (by decide)) dX9_paste_22 ?_
        refine pv_v (v := .ref (A 9)) rfl ?_
        refine lv_astore (lv' := [(6, .ref (A 9)), (0, .ref (A 0)), (1, .int 1), (2, .int a1), (3, .int a2), (4, .int a3), (5, .int a4)]) hx hb dX9_paste_23 hl (by decide) rfl (fun ls hl => ?_)
        refine lv_aload_n hx hb dX9_paste_25 rfl (lv_at hl 1 rfl) ?_
        refine va_get (ci := 9) (v := .ref (A 18)) (C := RX9) (T := TX9) (N := 12) hx hb hts (fun w h => uc_in w (inX9 w h)) hown hK hH.1 0 (cwc0 C A u) rfl 6 (by decide) (hts _ (uc_in _ q_f389)) (fun _ h9 => h9) rfl dX9_paste_26 ?_
        refine lv_iload_n hx hb dX9_paste_29 rfl (lv_at hl 4 rfl) ?_
        rcases (show A2 = 0 ∨ A2 = 1 ∨ A2 = 2 ∨ A2 = 3 by omega) with e9 | e9 | e9 | e9
        · have e8 : a2 = 0 := i_lit ha2 (by rw [e9]; decide)
          subst e8
          have q8 : (0 : Int32).toInt = 0 := by decide
          refine r_aald hx hb hK hH.1 18 5 rfl (cwc18 C A u) rfl (i_ix (X := 0) (by decide) (by decide) (by decide)) dX9_paste_30 ?_
          refine pv_v (v := .ref (A 8)) rfl ?_
          refine lv_astore (lv' := [(7, .ref (A 8)), (6, .ref (A 9)), (0, .ref (A 0)), (1, .int 1), (2, .int a1), (3, .int 0), (4, .int a3), (5, .int a4)]) hx hb dX9_paste_31 hl (by decide) rfl (fun ls hl => ?_)
          refine lv_aload hx hb dX9_paste_33 (lv_at hl 1 rfl) ?_
          refine cvS (n := 0) (As := []) (rest := []) ⟨hx, hb, hml, hown, hts⟩ uc_in (kX3_isThere_1 l D C A u hI ) q_m914 q_n915 q_e916 q_i5 q_c917 hvX3_isThere ⟨(Nat.le_of_ble_eq_true rfl), (Nat.le_of_ble_eq_true rfl)⟩ ⟨(Nat.le_of_ble_eq_true rfl), (Nat.le_of_ble_eq_true rfl)⟩ hK hH.1 3 9 rfl (cwc9 C A u) rfl hl.1 rfl (Nat.le_of_ble_eq_true rfl) dX9_paste_35 (fun r147 p148 => ?_)
          rcases p148 with ⟨e9, f149⟩ | ⟨e9, fn151⟩
          · subst e9
            have b152 := hI.b52
            refine lv_if_eq (tgt := 49) hx hb dX9_paste_38 (by decide) (fun c153 => absurd c153 (by decide)) (fun c153 => ?_)
            refine lv_aload hx hb dX9_paste_41 (lv_at hl 0 rfl) ?_
            refine cvS (n := 0) (As := []) (rest := []) ⟨hx, hb, hml, hown, hts⟩ uc_in (kX3_isThere_0 l D C A u hI ) q_m914 q_n915 q_e916 q_i5 q_c917 hvX3_isThere ⟨(Nat.le_of_ble_eq_true rfl), (Nat.le_of_ble_eq_true rfl)⟩ ⟨(Nat.le_of_ble_eq_true rfl), (Nat.le_of_ble_eq_true rfl)⟩ hK hH.1 3 8 rfl (cwc8 C A u) rfl hl.1 rfl (Nat.le_of_ble_eq_true rfl) dX9_paste_43 (fun r154 p155 => ?_)
            rcases p155 with ⟨e9, f156⟩ | ⟨e9, fn158⟩
            · subst e9
              have b159 := hI.b50
              refine lv_if_ne (tgt := 52) hx hb dX9_paste_46 (by decide) (fun c160 => ?_) (fun c160 => absurd c160 (by decide))
              refine lv_aload hx hb dX9_paste_52 (lv_at hl 1 rfl) ?_
              refine va_get (ci := 3) (v := .int (gi u 53)) (C := RX3) (T := TX3) (N := 3) hx hb hts (fun w h => uc_in w (inX3 w h)) hown hK hH.1 9 (cwc9 C A u) rfl 1 (by decide) (hts _ (uc_in _ q_f197)) (fun _ h9 => h9) rfl dX9_paste_54 ?_
              refine lv_aload hx hb dX9_paste_57 (lv_at hl 0 rfl) ?_
              refine va_get (ci := 3) (v := .int (gi u 51)) (C := RX3) (T := TX3) (N := 3) hx hb hts (fun w h => uc_in w (inX3 w h)) hown hK hH.1 8 (cwc8 C A u) rfl 1 (by decide) (hts _ (uc_in _ q_f197)) (fun _ h9 => h9) rfl dX9_paste_59 ?_
              refine lv_icmp_eq (tgt := 68) hx hb dX9_paste_62 (by decide) (fun c161 => ?_) (fun c161 => ?_)
              · have c161 := cEQ (x := (gi u 53)) (y := (gi u 51)) (X := ((gi u 53)).toInt) (Y := ((gi u 51)).toInt) rfl rfl c161
                refine lv_aload hx hb dX9_paste_68 (lv_at hl 1 rfl) ?_
                refine lv_iload_n hx hb dX9_paste_70 rfl (lv_at hl 4 rfl) ?_
                refine lv_iload hx hb dX9_paste_71 (lv_at hl 7 rfl) ?_
                refine cvS (n := 2) (As := [.int a1, .int a4]) (rest := []) ⟨hx, hb, hml, hown, hts⟩ uc_in (kX3_holds_1 l D C A u hI a1 A1 ha1 a4 A4 ha4) q_m1177 q_n1178 q_e1179 q_i5 q_c1180 hvX3_holds ⟨(Nat.le_of_ble_eq_true rfl), (Nat.le_of_ble_eq_true rfl)⟩ ⟨(Nat.le_of_ble_eq_true rfl), (Nat.le_of_ble_eq_true rfl)⟩ hK hH.1 3 9 rfl (cwc9 C A u) rfl hl.1 rfl (Nat.le_of_ble_eq_true rfl) dX9_paste_73 (fun r162 p163 => ?_)
                rcases p163 with ⟨e9, f164, f165, f166⟩ | ⟨e9, fn167⟩
                · subst e9
                  refine lv_if_eq (tgt := 91) hx hb dX9_paste_76 (by decide) (fun c168 => absurd c168 (by decide)) (fun c168 => ?_)
                  refine lv_aload hx hb dX9_paste_79 (lv_at hl 0 rfl) ?_
                  refine lv_iload hx hb dX9_paste_81 (lv_at hl 6 rfl) ?_
                  refine lv_iload hx hb dX9_paste_83 (lv_at hl 7 rfl) ?_
                  refine cvS (n := 2) (As := [.int a3, .int a4]) (rest := []) ⟨hx, hb, hml, hown, hts⟩ uc_in (kX3_holds_0 l D C A u hI a3 A3 ha3 a4 A4 ha4) q_m1177 q_n1178 q_e1179 q_i5 q_c1180 hvX3_holds ⟨(Nat.le_of_ble_eq_true rfl), (Nat.le_of_ble_eq_true rfl)⟩ ⟨(Nat.le_of_ble_eq_true rfl), (Nat.le_of_ble_eq_true rfl)⟩ hK hH.1 3 8 rfl (cwc8 C A u) rfl hl.1 rfl (Nat.le_of_ble_eq_true rfl) dX9_paste_85 (fun r169 p170 => ?_)
                  rcases p170 with ⟨e9, f171, f172, f173⟩ | ⟨e9, fn174⟩
                  · subst e9
                    refine lv_if_ne (tgt := 94) hx hb dX9_paste_88 (by decide) (fun c175 => ?_) (fun c175 => absurd c175 (by decide))
                    refine lv_aload hx hb dX9_paste_94 (lv_at hl 1 rfl) ?_
                    refine va_get (ci := 3) (v := .ref (A 40)) (C := RX3) (T := TX3) (N := 3) hx hb hts (fun w h => uc_in w (inX3 w h)) hown hK hH.1 9 (cwc9 C A u) rfl 2 (by decide) (hts _ (uc_in _ q_f201)) (fun _ h9 => h9) rfl dX9_paste_96 ?_
                    refine lv_iload_n hx hb dX9_paste_99 rfl (lv_at hl 4 rfl) ?_
                    refine lv_aload hx hb dX9_paste_100 (lv_at hl 0 rfl) ?_
                    refine va_get (ci := 3) (v := .ref (A 39)) (C := RX3) (T := TX3) (N := 3) hx hb hts (fun w h => uc_in w (inX3 w h)) hown hK hH.1 8 (cwc8 C A u) rfl 2 (by decide) (hts _ (uc_in _ q_f201)) (fun _ h9 => h9) rfl dX9_paste_102 ?_
                    refine lv_iload hx hb dX9_paste_105 (lv_at hl 6 rfl) ?_
                    refine lv_iload hx hb dX9_paste_107 (lv_at hl 7 rfl) ?_
                    refine r_copyl (j0 := 40) (j1 := 39) (S' := A1) (P' := A3) (N' := A4) hx hb (by rw [hml]; exact hl.1.symm) hown (hts _ (uc_in _ q_m1181)) (hts _ (uc_in _ q_t562)) (hts _ (uc_in _ q_s561)) (hts _ (uc_in _ q_i17)) hK hH 40 39 2 (cwc40 C A u) (cwc39 C A u) rfl ha1 ha3 ha4 (by omega) (by omega) (by omega) (by omega) (by omega) (cwb39 C A u) (Nat.le_of_ble_eq_true rfl) (Nat.le_of_ble_eq_true rfl) dX9_paste_109 (fun u176 eu176 H locs hH => ?_)
                    have hI := hI.pb_ eu176
                    refine lv_iconst (v := 0) hx hb dX9_paste_112 (by decide) ?_
                    exact hret _ _ _ _ (0 : Int32) _ dX9_paste_113 rfl ⟨hI, (Un.sb Un.rf rfl eu176), (Or.inr ⟨_, _, _, _, (Or.inr (Or.inl (⟨by omega, rfl, rfl⟩))), (Or.inl (⟨by omega, rfl, rfl⟩)), (Or.inr (Or.inr (Or.inr (⟨rfl, by omega⟩))))⟩)⟩ hH
                  · subst e9
                    refine lv_if_ne (tgt := 94) hx hb dX9_paste_88 (by decide) (fun c177 => absurd c177 (by decide)) (fun c177 => ?_)
                    refine lv_bipush (v := (-7)) hx hb dX9_paste_91 (by decide) ?_
                    exact hret _ _ _ _ ((-7) : Int32) _ dX9_paste_93 rfl ⟨hI, Un.rf, (Or.inr ⟨_, _, _, _, (Or.inr (Or.inl (⟨by omega, rfl, rfl⟩))), (Or.inl (⟨by omega, rfl, rfl⟩)), (Or.inr (Or.inr (Or.inl (⟨rfl, by omega⟩))))⟩)⟩ hH
                · subst e9
                  refine lv_if_eq (tgt := 91) hx hb dX9_paste_76 (by decide) (fun c178 => ?_) (fun c178 => absurd c178 (by decide))
                  refine lv_bipush (v := (-7)) hx hb dX9_paste_91 (by decide) ?_
                  exact hret _ _ _ _ ((-7) : Int32) _ dX9_paste_93 rfl ⟨hI, Un.rf, (Or.inr ⟨_, _, _, _, (Or.inr (Or.inl (⟨by omega, rfl, rfl⟩))), (Or.inl (⟨by omega, rfl, rfl⟩)), (Or.inr (Or.inr (Or.inl (⟨rfl, by omega⟩))))⟩)⟩ hH
              · have c161 := cNE (x := (gi u 53)) (y := (gi u 51)) (X := ((gi u 53)).toInt) (Y := ((gi u 51)).toInt) rfl rfl c161
                refine lv_bipush (v := (-8)) hx hb dX9_paste_65 (by decide) ?_
                exact hret _ _ _ _ ((-8) : Int32) _ dX9_paste_67 rfl ⟨hI, Un.rf, (Or.inr ⟨_, _, _, _, (Or.inr (Or.inl (⟨by omega, rfl, rfl⟩))), (Or.inl (⟨by omega, rfl, rfl⟩)), (Or.inr (Or.inl (⟨rfl, by omega⟩)))⟩)⟩ hH
            · subst e9
              refine lv_if_ne (tgt := 52) hx hb dX9_paste_46 (by decide) (fun c179 => absurd c179 (by decide)) (fun c179 => ?_)
              refine lv_bipush (v := (-6)) hx hb dX9_paste_49 (by decide) ?_
              exact hret _ _ _ _ ((-6) : Int32) _ dX9_paste_51 rfl ⟨hI, Un.rf, (Or.inr ⟨_, _, _, _, (Or.inr (Or.inl (⟨by omega, rfl, rfl⟩))), (Or.inl (⟨by omega, rfl, rfl⟩)), (Or.inl (⟨rfl, by omega⟩))⟩)⟩ hH
          · subst e9
            refine lv_if_eq (tgt := 49) hx hb dX9_paste_38 (by decide) (fun c180 => ?_) (fun c180 => absurd c180 (by decide))
            refine lv_bipush (v := (-6)) hx hb dX9_paste_49 (by decide) ?_
            exact hret _ _ _ _ ((-6) : Int32) _ dX9_paste_51 rfl ⟨hI, Un.rf, (Or.inr ⟨_, _, _, _, (Or.inr (Or.inl (⟨by omega, rfl, rfl⟩))), (Or.inl (⟨by omega, rfl, rfl⟩)), (Or.inl (⟨rfl, by omega⟩))⟩)⟩ hH
        · have e8 : a2 = 1 := i_lit ha2 (by rw [e9]; decide)
          subst e8
          have q8 : (1 : Int32).toInt = 1 := by decide
          refine r_aald hx hb hK hH.1 18 5 rfl (cwc18 C A u) rfl (i_ix (X := 1) (by decide) (by decide) (by decide)) dX9_paste_30 ?_
          refine pv_v (v := .ref (A 9)) rfl ?_
          refine lv_astore (lv' := [(7, .ref (A 9)), (6, .ref (A 9)), (0, .ref (A 0)), (1, .int 1), (2, .int a1), (3, .int 1), (4, .int a3), (5, .int a4)]) hx hb dX9_paste_31 hl (by decide) rfl (fun ls hl => ?_)
          refine lv_aload hx hb dX9_paste_33 (lv_at hl 1 rfl) ?_
          refine cvS (n := 0) (As := []) (rest := []) ⟨hx, hb, hml, hown, hts⟩ uc_in (kX3_isThere_1 l D C A u hI ) q_m914 q_n915 q_e916 q_i5 q_c917 hvX3_isThere ⟨(Nat.le_of_ble_eq_true rfl), (Nat.le_of_ble_eq_true rfl)⟩ ⟨(Nat.le_of_ble_eq_true rfl), (Nat.le_of_ble_eq_true rfl)⟩ hK hH.1 3 9 rfl (cwc9 C A u) rfl hl.1 rfl (Nat.le_of_ble_eq_true rfl) dX9_paste_35 (fun r181 p182 => ?_)
          rcases p182 with ⟨e9, f183⟩ | ⟨e9, fn185⟩
          · subst e9
            have b186 := hI.b52
            refine lv_if_eq (tgt := 49) hx hb dX9_paste_38 (by decide) (fun c187 => absurd c187 (by decide)) (fun c187 => ?_)
            refine lv_aload hx hb dX9_paste_41 (lv_at hl 0 rfl) ?_
            refine cvS (n := 0) (As := []) (rest := []) ⟨hx, hb, hml, hown, hts⟩ uc_in (kX3_isThere_1 l D C A u hI ) q_m914 q_n915 q_e916 q_i5 q_c917 hvX3_isThere ⟨(Nat.le_of_ble_eq_true rfl), (Nat.le_of_ble_eq_true rfl)⟩ ⟨(Nat.le_of_ble_eq_true rfl), (Nat.le_of_ble_eq_true rfl)⟩ hK hH.1 3 9 rfl (cwc9 C A u) rfl hl.1 rfl (Nat.le_of_ble_eq_true rfl) dX9_paste_43 (fun r188 p189 => ?_)
            rcases p189 with ⟨e9, f190⟩ | ⟨e9, fn191⟩
            · subst e9
              refine lv_if_ne (tgt := 52) hx hb dX9_paste_46 (by decide) (fun c192 => ?_) (fun c192 => absurd c192 (by decide))
              refine lv_aload hx hb dX9_paste_52 (lv_at hl 1 rfl) ?_
              refine va_get (ci := 3) (v := .int (gi u 53)) (C := RX3) (T := TX3) (N := 3) hx hb hts (fun w h => uc_in w (inX3 w h)) hown hK hH.1 9 (cwc9 C A u) rfl 1 (by decide) (hts _ (uc_in _ q_f197)) (fun _ h9 => h9) rfl dX9_paste_54 ?_
              refine lv_aload hx hb dX9_paste_57 (lv_at hl 0 rfl) ?_
              refine va_get (ci := 3) (v := .int (gi u 53)) (C := RX3) (T := TX3) (N := 3) hx hb hts (fun w h => uc_in w (inX3 w h)) hown hK hH.1 9 (cwc9 C A u) rfl 1 (by decide) (hts _ (uc_in _ q_f197)) (fun _ h9 => h9) rfl dX9_paste_59 ?_
              refine lv_icmp_eq (tgt := 68) hx hb dX9_paste_62 (by decide) (fun c193 => ?_) (fun c193 => ?_)
              · have c193 := cEQ (x := (gi u 53)) (y := (gi u 53)) (X := ((gi u 53)).toInt) (Y := ((gi u 53)).toInt) rfl rfl c193
                refine lv_aload hx hb dX9_paste_68 (lv_at hl 1 rfl) ?_
                refine lv_iload_n hx hb dX9_paste_70 rfl (lv_at hl 4 rfl) ?_
                refine lv_iload hx hb dX9_paste_71 (lv_at hl 7 rfl) ?_
                refine cvS (n := 2) (As := [.int a1, .int a4]) (rest := []) ⟨hx, hb, hml, hown, hts⟩ uc_in (kX3_holds_1 l D C A u hI a1 A1 ha1 a4 A4 ha4) q_m1177 q_n1178 q_e1179 q_i5 q_c1180 hvX3_holds ⟨(Nat.le_of_ble_eq_true rfl), (Nat.le_of_ble_eq_true rfl)⟩ ⟨(Nat.le_of_ble_eq_true rfl), (Nat.le_of_ble_eq_true rfl)⟩ hK hH.1 3 9 rfl (cwc9 C A u) rfl hl.1 rfl (Nat.le_of_ble_eq_true rfl) dX9_paste_73 (fun r194 p195 => ?_)
                rcases p195 with ⟨e9, f196, f197, f198⟩ | ⟨e9, fn199⟩
                · subst e9
                  refine lv_if_eq (tgt := 91) hx hb dX9_paste_76 (by decide) (fun c200 => absurd c200 (by decide)) (fun c200 => ?_)
                  refine lv_aload hx hb dX9_paste_79 (lv_at hl 0 rfl) ?_
                  refine lv_iload hx hb dX9_paste_81 (lv_at hl 6 rfl) ?_
                  refine lv_iload hx hb dX9_paste_83 (lv_at hl 7 rfl) ?_
                  refine cvS (n := 2) (As := [.int a3, .int a4]) (rest := []) ⟨hx, hb, hml, hown, hts⟩ uc_in (kX3_holds_1 l D C A u hI a3 A3 ha3 a4 A4 ha4) q_m1177 q_n1178 q_e1179 q_i5 q_c1180 hvX3_holds ⟨(Nat.le_of_ble_eq_true rfl), (Nat.le_of_ble_eq_true rfl)⟩ ⟨(Nat.le_of_ble_eq_true rfl), (Nat.le_of_ble_eq_true rfl)⟩ hK hH.1 3 9 rfl (cwc9 C A u) rfl hl.1 rfl (Nat.le_of_ble_eq_true rfl) dX9_paste_85 (fun r201 p202 => ?_)
                  rcases p202 with ⟨e9, f203, f204, f205⟩ | ⟨e9, fn206⟩
                  · subst e9
                    refine lv_if_ne (tgt := 94) hx hb dX9_paste_88 (by decide) (fun c207 => ?_) (fun c207 => absurd c207 (by decide))
                    refine lv_aload hx hb dX9_paste_94 (lv_at hl 1 rfl) ?_
                    refine va_get (ci := 3) (v := .ref (A 40)) (C := RX3) (T := TX3) (N := 3) hx hb hts (fun w h => uc_in w (inX3 w h)) hown hK hH.1 9 (cwc9 C A u) rfl 2 (by decide) (hts _ (uc_in _ q_f201)) (fun _ h9 => h9) rfl dX9_paste_96 ?_
                    refine lv_iload_n hx hb dX9_paste_99 rfl (lv_at hl 4 rfl) ?_
                    refine lv_aload hx hb dX9_paste_100 (lv_at hl 0 rfl) ?_
                    refine va_get (ci := 3) (v := .ref (A 40)) (C := RX3) (T := TX3) (N := 3) hx hb hts (fun w h => uc_in w (inX3 w h)) hown hK hH.1 9 (cwc9 C A u) rfl 2 (by decide) (hts _ (uc_in _ q_f201)) (fun _ h9 => h9) rfl dX9_paste_102 ?_
                    refine lv_iload hx hb dX9_paste_105 (lv_at hl 6 rfl) ?_
                    refine lv_iload hx hb dX9_paste_107 (lv_at hl 7 rfl) ?_
                    refine r_copyl (j0 := 40) (j1 := 40) (S' := A1) (P' := A3) (N' := A4) hx hb (by rw [hml]; exact hl.1.symm) hown (hts _ (uc_in _ q_m1181)) (hts _ (uc_in _ q_t562)) (hts _ (uc_in _ q_s561)) (hts _ (uc_in _ q_i17)) hK hH 40 40 2 (cwc40 C A u) (cwc40 C A u) rfl ha1 ha3 ha4 (by omega) (by omega) (by omega) (by omega) (by omega) (cwb40 C A u) (Nat.le_of_ble_eq_true rfl) (Nat.le_of_ble_eq_true rfl) dX9_paste_109 (fun u208 eu208 H locs hH => ?_)
                    have hI := hI.pb_ eu208
                    refine lv_iconst (v := 0) hx hb dX9_paste_112 (by decide) ?_
                    exact hret _ _ _ _ (0 : Int32) _ dX9_paste_113 rfl ⟨hI, (Un.sb Un.rf rfl eu208), (Or.inr ⟨_, _, _, _, (Or.inr (Or.inl (⟨by omega, rfl, rfl⟩))), (Or.inr (Or.inl (⟨by omega, rfl, rfl⟩))), (Or.inr (Or.inr (Or.inr (⟨rfl, by omega⟩))))⟩)⟩ hH
                  · subst e9
                    refine lv_if_ne (tgt := 94) hx hb dX9_paste_88 (by decide) (fun c209 => absurd c209 (by decide)) (fun c209 => ?_)
                    refine lv_bipush (v := (-7)) hx hb dX9_paste_91 (by decide) ?_
                    exact hret _ _ _ _ ((-7) : Int32) _ dX9_paste_93 rfl ⟨hI, Un.rf, (Or.inr ⟨_, _, _, _, (Or.inr (Or.inl (⟨by omega, rfl, rfl⟩))), (Or.inr (Or.inl (⟨by omega, rfl, rfl⟩))), (Or.inr (Or.inr (Or.inl (⟨rfl, by omega⟩))))⟩)⟩ hH
                · subst e9
                  refine lv_if_eq (tgt := 91) hx hb dX9_paste_76 (by decide) (fun c210 => ?_) (fun c210 => absurd c210 (by decide))
                  refine lv_bipush (v := (-7)) hx hb dX9_paste_91 (by decide) ?_
                  exact hret _ _ _ _ ((-7) : Int32) _ dX9_paste_93 rfl ⟨hI, Un.rf, (Or.inr ⟨_, _, _, _, (Or.inr (Or.inl (⟨by omega, rfl, rfl⟩))), (Or.inr (Or.inl (⟨by omega, rfl, rfl⟩))), (Or.inr (Or.inr (Or.inl (⟨rfl, by omega⟩))))⟩)⟩ hH
              · have c193 := cNE (x := (gi u 53)) (y := (gi u 53)) (X := ((gi u 53)).toInt) (Y := ((gi u 53)).toInt) rfl rfl c193
                refine lv_bipush (v := (-8)) hx hb dX9_paste_65 (by decide) ?_
                exact hret _ _ _ _ ((-8) : Int32) _ dX9_paste_67 rfl ⟨hI, Un.rf, (Or.inr ⟨_, _, _, _, (Or.inr (Or.inl (⟨by omega, rfl, rfl⟩))), (Or.inr (Or.inl (⟨by omega, rfl, rfl⟩))), (Or.inr (Or.inl (⟨rfl, by omega⟩)))⟩)⟩ hH
            · subst e9
              refine lv_if_ne (tgt := 52) hx hb dX9_paste_46 (by decide) (fun c211 => absurd c211 (by decide)) (fun c211 => ?_)
              refine lv_bipush (v := (-6)) hx hb dX9_paste_49 (by decide) ?_
              exact hret _ _ _ _ ((-6) : Int32) _ dX9_paste_51 rfl ⟨hI, Un.rf, (Or.inr ⟨_, _, _, _, (Or.inr (Or.inl (⟨by omega, rfl, rfl⟩))), (Or.inr (Or.inl (⟨by omega, rfl, rfl⟩))), (Or.inl (⟨rfl, by omega⟩))⟩)⟩ hH
          · subst e9
            refine lv_if_eq (tgt := 49) hx hb dX9_paste_38 (by decide) (fun c212 => ?_) (fun c212 => absurd c212 (by decide))
            refine lv_bipush (v := (-6)) hx hb dX9_paste_49 (by decide) ?_
            exact hret _ _ _ _ ((-6) : Int32) _ dX9_paste_51 rfl ⟨hI, Un.rf, (Or.inr ⟨_, _, _, _, (Or.inr (Or.inl (⟨by omega, rfl, rfl⟩))), (Or.inr (Or.inl (⟨by omega, rfl, rfl⟩))), (Or.inl (⟨rfl, by omega⟩))⟩)⟩ hH
        · have e8 : a2 = 2 := i_lit ha2 (by rw [e9]; decide)
          subst e8
          have q8 : (2 : Int32).toInt = 2 := by decide
          refine r_aald hx hb hK hH.1 18 5 rfl (cwc18 C A u) rfl (i_ix (X := 2) (by decide) (by decide) (by decide)) dX9_paste_30 ?_
          refine pv_v (v := .ref (A 10)) rfl ?_
          refine lv_astore (lv' := [(7, .ref (A 10)), (6, .ref (A 9)), (0, .ref (A 0)), (1, .int 1), (2, .int a1), (3, .int 2), (4, .int a3), (5, .int a4)]) hx hb dX9_paste_31 hl (by decide) rfl (fun ls hl => ?_)
          refine lv_aload hx hb dX9_paste_33 (lv_at hl 1 rfl) ?_
          refine cvS (n := 0) (As := []) (rest := []) ⟨hx, hb, hml, hown, hts⟩ uc_in (kX3_isThere_1 l D C A u hI ) q_m914 q_n915 q_e916 q_i5 q_c917 hvX3_isThere ⟨(Nat.le_of_ble_eq_true rfl), (Nat.le_of_ble_eq_true rfl)⟩ ⟨(Nat.le_of_ble_eq_true rfl), (Nat.le_of_ble_eq_true rfl)⟩ hK hH.1 3 9 rfl (cwc9 C A u) rfl hl.1 rfl (Nat.le_of_ble_eq_true rfl) dX9_paste_35 (fun r213 p214 => ?_)
          rcases p214 with ⟨e9, f215⟩ | ⟨e9, fn217⟩
          · subst e9
            have b218 := hI.b52
            refine lv_if_eq (tgt := 49) hx hb dX9_paste_38 (by decide) (fun c219 => absurd c219 (by decide)) (fun c219 => ?_)
            refine lv_aload hx hb dX9_paste_41 (lv_at hl 0 rfl) ?_
            refine cvS (n := 0) (As := []) (rest := []) ⟨hx, hb, hml, hown, hts⟩ uc_in (kX3_isThere_2 l D C A u hI ) q_m914 q_n915 q_e916 q_i5 q_c917 hvX3_isThere ⟨(Nat.le_of_ble_eq_true rfl), (Nat.le_of_ble_eq_true rfl)⟩ ⟨(Nat.le_of_ble_eq_true rfl), (Nat.le_of_ble_eq_true rfl)⟩ hK hH.1 3 10 rfl (cwc10 C A u) rfl hl.1 rfl (Nat.le_of_ble_eq_true rfl) dX9_paste_43 (fun r220 p221 => ?_)
            rcases p221 with ⟨e9, f222⟩ | ⟨e9, fn224⟩
            · subst e9
              have b225 := hI.b54
              refine lv_if_ne (tgt := 52) hx hb dX9_paste_46 (by decide) (fun c226 => ?_) (fun c226 => absurd c226 (by decide))
              refine lv_aload hx hb dX9_paste_52 (lv_at hl 1 rfl) ?_
              refine va_get (ci := 3) (v := .int (gi u 53)) (C := RX3) (T := TX3) (N := 3) hx hb hts (fun w h => uc_in w (inX3 w h)) hown hK hH.1 9 (cwc9 C A u) rfl 1 (by decide) (hts _ (uc_in _ q_f197)) (fun _ h9 => h9) rfl dX9_paste_54 ?_
              refine lv_aload hx hb dX9_paste_57 (lv_at hl 0 rfl) ?_
              refine va_get (ci := 3) (v := .int (gi u 55)) (C := RX3) (T := TX3) (N := 3) hx hb hts (fun w h => uc_in w (inX3 w h)) hown hK hH.1 10 (cwc10 C A u) rfl 1 (by decide) (hts _ (uc_in _ q_f197)) (fun _ h9 => h9) rfl dX9_paste_59 ?_
              refine lv_icmp_eq (tgt := 68) hx hb dX9_paste_62 (by decide) (fun c227 => ?_) (fun c227 => ?_)
              · have c227 := cEQ (x := (gi u 53)) (y := (gi u 55)) (X := ((gi u 53)).toInt) (Y := ((gi u 55)).toInt) rfl rfl c227
                refine lv_aload hx hb dX9_paste_68 (lv_at hl 1 rfl) ?_
                refine lv_iload_n hx hb dX9_paste_70 rfl (lv_at hl 4 rfl) ?_
                refine lv_iload hx hb dX9_paste_71 (lv_at hl 7 rfl) ?_
                refine cvS (n := 2) (As := [.int a1, .int a4]) (rest := []) ⟨hx, hb, hml, hown, hts⟩ uc_in (kX3_holds_1 l D C A u hI a1 A1 ha1 a4 A4 ha4) q_m1177 q_n1178 q_e1179 q_i5 q_c1180 hvX3_holds ⟨(Nat.le_of_ble_eq_true rfl), (Nat.le_of_ble_eq_true rfl)⟩ ⟨(Nat.le_of_ble_eq_true rfl), (Nat.le_of_ble_eq_true rfl)⟩ hK hH.1 3 9 rfl (cwc9 C A u) rfl hl.1 rfl (Nat.le_of_ble_eq_true rfl) dX9_paste_73 (fun r228 p229 => ?_)
                rcases p229 with ⟨e9, f230, f231, f232⟩ | ⟨e9, fn233⟩
                · subst e9
                  refine lv_if_eq (tgt := 91) hx hb dX9_paste_76 (by decide) (fun c234 => absurd c234 (by decide)) (fun c234 => ?_)
                  refine lv_aload hx hb dX9_paste_79 (lv_at hl 0 rfl) ?_
                  refine lv_iload hx hb dX9_paste_81 (lv_at hl 6 rfl) ?_
                  refine lv_iload hx hb dX9_paste_83 (lv_at hl 7 rfl) ?_
                  refine cvS (n := 2) (As := [.int a3, .int a4]) (rest := []) ⟨hx, hb, hml, hown, hts⟩ uc_in (kX3_holds_2 l D C A u hI a3 A3 ha3 a4 A4 ha4) q_m1177 q_n1178 q_e1179 q_i5 q_c1180 hvX3_holds ⟨(Nat.le_of_ble_eq_true rfl), (Nat.le_of_ble_eq_true rfl)⟩ ⟨(Nat.le_of_ble_eq_true rfl), (Nat.le_of_ble_eq_true rfl)⟩ hK hH.1 3 10 rfl (cwc10 C A u) rfl hl.1 rfl (Nat.le_of_ble_eq_true rfl) dX9_paste_85 (fun r235 p236 => ?_)
                  rcases p236 with ⟨e9, f237, f238, f239⟩ | ⟨e9, fn240⟩
                  · subst e9
                    refine lv_if_ne (tgt := 94) hx hb dX9_paste_88 (by decide) (fun c241 => ?_) (fun c241 => absurd c241 (by decide))
                    refine lv_aload hx hb dX9_paste_94 (lv_at hl 1 rfl) ?_
                    refine va_get (ci := 3) (v := .ref (A 40)) (C := RX3) (T := TX3) (N := 3) hx hb hts (fun w h => uc_in w (inX3 w h)) hown hK hH.1 9 (cwc9 C A u) rfl 2 (by decide) (hts _ (uc_in _ q_f201)) (fun _ h9 => h9) rfl dX9_paste_96 ?_
                    refine lv_iload_n hx hb dX9_paste_99 rfl (lv_at hl 4 rfl) ?_
                    refine lv_aload hx hb dX9_paste_100 (lv_at hl 0 rfl) ?_
                    refine va_get (ci := 3) (v := .ref (A 41)) (C := RX3) (T := TX3) (N := 3) hx hb hts (fun w h => uc_in w (inX3 w h)) hown hK hH.1 10 (cwc10 C A u) rfl 2 (by decide) (hts _ (uc_in _ q_f201)) (fun _ h9 => h9) rfl dX9_paste_102 ?_
                    refine lv_iload hx hb dX9_paste_105 (lv_at hl 6 rfl) ?_
                    refine lv_iload hx hb dX9_paste_107 (lv_at hl 7 rfl) ?_
                    refine r_copyl (j0 := 40) (j1 := 41) (S' := A1) (P' := A3) (N' := A4) hx hb (by rw [hml]; exact hl.1.symm) hown (hts _ (uc_in _ q_m1181)) (hts _ (uc_in _ q_t562)) (hts _ (uc_in _ q_s561)) (hts _ (uc_in _ q_i17)) hK hH 40 41 2 (cwc40 C A u) (cwc41 C A u) rfl ha1 ha3 ha4 (by omega) (by omega) (by omega) (by omega) (by omega) (cwb41 C A u) (Nat.le_of_ble_eq_true rfl) (Nat.le_of_ble_eq_true rfl) dX9_paste_109 (fun u242 eu242 H locs hH => ?_)
                    have hI := hI.pb_ eu242
                    refine lv_iconst (v := 0) hx hb dX9_paste_112 (by decide) ?_
                    exact hret _ _ _ _ (0 : Int32) _ dX9_paste_113 rfl ⟨hI, (Un.sb Un.rf rfl eu242), (Or.inr ⟨_, _, _, _, (Or.inr (Or.inl (⟨by omega, rfl, rfl⟩))), (Or.inr (Or.inr (Or.inl (⟨by omega, rfl, rfl⟩)))), (Or.inr (Or.inr (Or.inr (⟨rfl, by omega⟩))))⟩)⟩ hH
                  · subst e9
                    refine lv_if_ne (tgt := 94) hx hb dX9_paste_88 (by decide) (fun c243 => absurd c243 (by decide)) (fun c243 => ?_)
                    refine lv_bipush (v := (-7)) hx hb dX9_paste_91 (by decide) ?_
                    exact hret _ _ _ _ ((-7) : Int32) _ dX9_paste_93 rfl ⟨hI, Un.rf, (Or.inr ⟨_, _, _, _, (Or.inr (Or.inl (⟨by omega, rfl, rfl⟩))), (Or.inr (Or.inr (Or.inl (⟨by omega, rfl, rfl⟩)))), (Or.inr (Or.inr (Or.inl (⟨rfl, by omega⟩))))⟩)⟩ hH
                · subst e9
                  refine lv_if_eq (tgt := 91) hx hb dX9_paste_76 (by decide) (fun c244 => ?_) (fun c244 => absurd c244 (by decide))
                  refine lv_bipush (v := (-7)) hx hb dX9_paste_91 (by decide) ?_
                  exact hret _ _ _ _ ((-7) : Int32) _ dX9_paste_93 rfl ⟨hI, Un.rf, (Or.inr ⟨_, _, _, _, (Or.inr (Or.inl (⟨by omega, rfl, rfl⟩))), (Or.inr (Or.inr (Or.inl (⟨by omega, rfl, rfl⟩)))), (Or.inr (Or.inr (Or.inl (⟨rfl, by omega⟩))))⟩)⟩ hH
              · have c227 := cNE (x := (gi u 53)) (y := (gi u 55)) (X := ((gi u 53)).toInt) (Y := ((gi u 55)).toInt) rfl rfl c227
                refine lv_bipush (v := (-8)) hx hb dX9_paste_65 (by decide) ?_
                exact hret _ _ _ _ ((-8) : Int32) _ dX9_paste_67 rfl ⟨hI, Un.rf, (Or.inr ⟨_, _, _, _, (Or.inr (Or.inl (⟨by omega, rfl, rfl⟩))), (Or.inr (Or.inr (Or.inl (⟨by omega, rfl, rfl⟩)))), (Or.inr (Or.inl (⟨rfl, by omega⟩)))⟩)⟩ hH
            · subst e9
              refine lv_if_ne (tgt := 52) hx hb dX9_paste_46 (by decide) (fun c245 => absurd c245 (by decide)) (fun c245 => ?_)
              refine lv_bipush (v := (-6)) hx hb dX9_paste_49 (by decide) ?_
              exact hret _ _ _ _ ((-6) : Int32) _ dX9_paste_51 rfl ⟨hI, Un.rf, (Or.inr ⟨_, _, _, _, (Or.inr (Or.inl (⟨by omega, rfl, rfl⟩))), (Or.inr (Or.inr (Or.inl (⟨by omega, rfl, rfl⟩)))), (Or.inl (⟨rfl, by omega⟩))⟩)⟩ hH
          · subst e9
            refine lv_if_eq (tgt := 49) hx hb dX9_paste_38 (by decide) (fun c246 => ?_) (fun c246 => absurd c246 (by decide))
            refine lv_bipush (v := (-6)) hx hb dX9_paste_49 (by decide) ?_
            exact hret _ _ _ _ ((-6) : Int32) _ dX9_paste_51 rfl ⟨hI, Un.rf, (Or.inr ⟨_, _, _, _, (Or.inr (Or.inl (⟨by omega, rfl, rfl⟩))), (Or.inr (Or.inr (Or.inl (⟨by omega, rfl, rfl⟩)))), (Or.inl (⟨rfl, by omega⟩))⟩)⟩ hH
        · have e8 : a2 = 3 := i_lit ha2 (by rw [e9]; decide)
          subst e8
          have q8 : (3 : Int32).toInt = 3 := by decide
          refine r_aald hx hb hK hH.1 18 5 rfl (cwc18 C A u) rfl (i_ix (X := 3) (by decide) (by decide) (by decide)) dX9_paste_30 ?_
          refine pv_v (v := .ref (A 11)) rfl ?_
          refine lv_astore (lv' := [(7, .ref (A 11)), (6, .ref (A 9)), (0, .ref (A 0)), (1, .int 1), (2, .int a1), (3, .int 3), (4, .int a3), (5, .int a4)]) hx hb dX9_paste_31 hl (by decide) rfl (fun ls hl => ?_)
          refine lv_aload hx hb dX9_paste_33 (lv_at hl 1 rfl) ?_
          refine cvS (n := 0) (As := []) (rest := []) ⟨hx, hb, hml, hown, hts⟩ uc_in (kX3_isThere_1 l D C A u hI ) q_m914 q_n915 q_e916 q_i5 q_c917 hvX3_isThere ⟨(Nat.le_of_ble_eq_true rfl), (Nat.le_of_ble_eq_true rfl)⟩ ⟨(Nat.le_of_ble_eq_true rfl), (Nat.le_of_ble_eq_true rfl)⟩ hK hH.1 3 9 rfl (cwc9 C A u) rfl hl.1 rfl (Nat.le_of_ble_eq_true rfl) dX9_paste_35 (fun r247 p248 => ?_)
          rcases p248 with ⟨e9, f249⟩ | ⟨e9, fn251⟩
          · subst e9
            have b252 := hI.b52
            refine lv_if_eq (tgt := 49) hx hb dX9_paste_38 (by decide) (fun c253 => absurd c253 (by decide)) (fun c253 => ?_)
            refine lv_aload hx hb dX9_paste_41 (lv_at hl 0 rfl) ?_
            refine cvS (n := 0) (As := []) (rest := []) ⟨hx, hb, hml, hown, hts⟩ uc_in (kX3_isThere_3 l D C A u hI ) q_m914 q_n915 q_e916 q_i5 q_c917 hvX3_isThere ⟨(Nat.le_of_ble_eq_true rfl), (Nat.le_of_ble_eq_true rfl)⟩ ⟨(Nat.le_of_ble_eq_true rfl), (Nat.le_of_ble_eq_true rfl)⟩ hK hH.1 3 11 rfl (cwc11 C A u) rfl hl.1 rfl (Nat.le_of_ble_eq_true rfl) dX9_paste_43 (fun r254 p255 => ?_)
            rcases p255 with ⟨e9, f256⟩ | ⟨e9, fn258⟩
            · subst e9
              have b259 := hI.b56
              refine lv_if_ne (tgt := 52) hx hb dX9_paste_46 (by decide) (fun c260 => ?_) (fun c260 => absurd c260 (by decide))
              refine lv_aload hx hb dX9_paste_52 (lv_at hl 1 rfl) ?_
              refine va_get (ci := 3) (v := .int (gi u 53)) (C := RX3) (T := TX3) (N := 3) hx hb hts (fun w h => uc_in w (inX3 w h)) hown hK hH.1 9 (cwc9 C A u) rfl 1 (by decide) (hts _ (uc_in _ q_f197)) (fun _ h9 => h9) rfl dX9_paste_54 ?_
              refine lv_aload hx hb dX9_paste_57 (lv_at hl 0 rfl) ?_
              refine va_get (ci := 3) (v := .int (gi u 57)) (C := RX3) (T := TX3) (N := 3) hx hb hts (fun w h => uc_in w (inX3 w h)) hown hK hH.1 11 (cwc11 C A u) rfl 1 (by decide) (hts _ (uc_in _ q_f197)) (fun _ h9 => h9) rfl dX9_paste_59 ?_
              refine lv_icmp_eq (tgt := 68) hx hb dX9_paste_62 (by decide) (fun c261 => ?_) (fun c261 => ?_)
              · have c261 := cEQ (x := (gi u 53)) (y := (gi u 57)) (X := ((gi u 53)).toInt) (Y := ((gi u 57)).toInt) rfl rfl c261
                refine lv_aload hx hb dX9_paste_68 (lv_at hl 1 rfl) ?_
                refine lv_iload_n hx hb dX9_paste_70 rfl (lv_at hl 4 rfl) ?_
                refine lv_iload hx hb dX9_paste_71 (lv_at hl 7 rfl) ?_
                refine cvS (n := 2) (As := [.int a1, .int a4]) (rest := []) ⟨hx, hb, hml, hown, hts⟩ uc_in (kX3_holds_1 l D C A u hI a1 A1 ha1 a4 A4 ha4) q_m1177 q_n1178 q_e1179 q_i5 q_c1180 hvX3_holds ⟨(Nat.le_of_ble_eq_true rfl), (Nat.le_of_ble_eq_true rfl)⟩ ⟨(Nat.le_of_ble_eq_true rfl), (Nat.le_of_ble_eq_true rfl)⟩ hK hH.1 3 9 rfl (cwc9 C A u) rfl hl.1 rfl (Nat.le_of_ble_eq_true rfl) dX9_paste_73 (fun r262 p263 => ?_)
                rcases p263 with ⟨e9, f264, f265, f266⟩ | ⟨e9, fn267⟩
                · subst e9
                  refine lv_if_eq (tgt := 91) hx hb dX9_paste_76 (by decide) (fun c268 => absurd c268 (by decide)) (fun c268 => ?_)
                  refine lv_aload hx hb dX9_paste_79 (lv_at hl 0 rfl) ?_
                  refine lv_iload hx hb dX9_paste_81 (lv_at hl 6 rfl) ?_
                  refine lv_iload hx hb dX9_paste_83 (lv_at hl 7 rfl) ?_
                  refine cvS (n := 2) (As := [.int a3, .int a4]) (rest := []) ⟨hx, hb, hml, hown, hts⟩ uc_in (kX3_holds_3 l D C A u hI a3 A3 ha3 a4 A4 ha4) q_m1177 q_n1178 q_e1179 q_i5 q_c1180 hvX3_holds ⟨(Nat.le_of_ble_eq_true rfl), (Nat.le_of_ble_eq_true rfl)⟩ ⟨(Nat.le_of_ble_eq_true rfl), (Nat.le_of_ble_eq_true rfl)⟩ hK hH.1 3 11 rfl (cwc11 C A u) rfl hl.1 rfl (Nat.le_of_ble_eq_true rfl) dX9_paste_85 (fun r269 p270 => ?_)
                  rcases p270 with ⟨e9, f271, f272, f273⟩ | ⟨e9, fn274⟩
                  · subst e9
                    refine lv_if_ne (tgt := 94) hx hb dX9_paste_88 (by decide) (fun c275 => ?_) (fun c275 => absurd c275 (by decide))
                    refine lv_aload hx hb dX9_paste_94 (lv_at hl 1 rfl) ?_
                    refine va_get (ci := 3) (v := .ref (A 40)) (C := RX3) (T := TX3) (N := 3) hx hb hts (fun w h => uc_in w (inX3 w h)) hown hK hH.1 9 (cwc9 C A u) rfl 2 (by decide) (hts _ (uc_in _ q_f201)) (fun _ h9 => h9) rfl dX9_paste_96 ?_
                    refine lv_iload_n hx hb dX9_paste_99 rfl (lv_at hl 4 rfl) ?_
                    refine lv_aload hx hb dX9_paste_100 (lv_at hl 0 rfl) ?_
                    refine va_get (ci := 3) (v := .ref (A 42)) (C := RX3) (T := TX3) (N := 3) hx hb hts (fun w h => uc_in w (inX3 w h)) hown hK hH.1 11 (cwc11 C A u) rfl 2 (by decide) (hts _ (uc_in _ q_f201)) (fun _ h9 => h9) rfl dX9_paste_102 ?_
                    refine lv_iload hx hb dX9_paste_105 (lv_at hl 6 rfl) ?_
                    refine lv_iload hx hb dX9_paste_107 (lv_at hl 7 rfl) ?_
                    refine r_copyl (j0 := 40) (j1 := 42) (S' := A1) (P' := A3) (N' := A4) hx hb (by rw [hml]; exact hl.1.symm) hown (hts _ (uc_in _ q_m1181)) (hts _ (uc_in _ q_t562)) (hts _ (uc_in _ q_s561)) (hts _ (uc_in _ q_i17)) hK hH 40 42 2 (cwc40 C A u) (cwc42 C A u) rfl ha1 ha3 ha4 (by omega) (by omega) (by omega) (by omega) (by omega) (cwb42 C A u) (Nat.le_of_ble_eq_true rfl) (Nat.le_of_ble_eq_true rfl) dX9_paste_109 (fun u276 eu276 H locs hH => ?_)
                    have hI := hI.pb_ eu276
                    refine lv_iconst (v := 0) hx hb dX9_paste_112 (by decide) ?_
                    exact hret _ _ _ _ (0 : Int32) _ dX9_paste_113 rfl ⟨hI, (Un.sb Un.rf rfl eu276), (Or.inr ⟨_, _, _, _, (Or.inr (Or.inl (⟨by omega, rfl, rfl⟩))), (Or.inr (Or.inr (Or.inr (⟨by omega, rfl, rfl⟩)))), (Or.inr (Or.inr (Or.inr (⟨rfl, by omega⟩))))⟩)⟩ hH
                  · subst e9
                    refine lv_if_ne (tgt := 94) hx hb dX9_paste_88 (by decide) (fun c277 => absurd c277 (by decide)) (fun c277 => ?_)
                    refine lv_bipush (v := (-7)) hx hb dX9_paste_91 (by decide) ?_
                    exact hret _ _ _ _ ((-7) : Int32) _ dX9_paste_93 rfl ⟨hI, Un.rf, (Or.inr ⟨_, _, _, _, (Or.inr (Or.inl (⟨by omega, rfl, rfl⟩))), (Or.inr (Or.inr (Or.inr (⟨by omega, rfl, rfl⟩)))), (Or.inr (Or.inr (Or.inl (⟨rfl, by omega⟩))))⟩)⟩ hH
                · subst e9
                  refine lv_if_eq (tgt := 91) hx hb dX9_paste_76 (by decide) (fun c278 => ?_) (fun c278 => absurd c278 (by decide))
                  refine lv_bipush (v := (-7)) hx hb dX9_paste_91 (by decide) ?_
                  exact hret _ _ _ _ ((-7) : Int32) _ dX9_paste_93 rfl ⟨hI, Un.rf, (Or.inr ⟨_, _, _, _, (Or.inr (Or.inl (⟨by omega, rfl, rfl⟩))), (Or.inr (Or.inr (Or.inr (⟨by omega, rfl, rfl⟩)))), (Or.inr (Or.inr (Or.inl (⟨rfl, by omega⟩))))⟩)⟩ hH
              · have c261 := cNE (x := (gi u 53)) (y := (gi u 57)) (X := ((gi u 53)).toInt) (Y := ((gi u 57)).toInt) rfl rfl c261
                refine lv_bipush (v := (-8)) hx hb dX9_paste_65 (by decide) ?_
                exact hret _ _ _ _ ((-8) : Int32) _ dX9_paste_67 rfl ⟨hI, Un.rf, (Or.inr ⟨_, _, _, _, (Or.inr (Or.inl (⟨by omega, rfl, rfl⟩))), (Or.inr (Or.inr (Or.inr (⟨by omega, rfl, rfl⟩)))), (Or.inr (Or.inl (⟨rfl, by omega⟩)))⟩)⟩ hH
            · subst e9
              refine lv_if_ne (tgt := 52) hx hb dX9_paste_46 (by decide) (fun c279 => absurd c279 (by decide)) (fun c279 => ?_)
              refine lv_bipush (v := (-6)) hx hb dX9_paste_49 (by decide) ?_
              exact hret _ _ _ _ ((-6) : Int32) _ dX9_paste_51 rfl ⟨hI, Un.rf, (Or.inr ⟨_, _, _, _, (Or.inr (Or.inl (⟨by omega, rfl, rfl⟩))), (Or.inr (Or.inr (Or.inr (⟨by omega, rfl, rfl⟩)))), (Or.inl (⟨rfl, by omega⟩))⟩)⟩ hH
          · subst e9
            refine lv_if_eq (tgt := 49) hx hb dX9_paste_38 (by decide) (fun c280 => ?_) (fun c280 => absurd c280 (by decide))
            refine lv_bipush (v := (-6)) hx hb dX9_paste_49 (by decide) ?_
            exact hret _ _ _ _ ((-6) : Int32) _ dX9_paste_51 rfl ⟨hI, Un.rf, (Or.inr ⟨_, _, _, _, (Or.inr (Or.inl (⟨by omega, rfl, rfl⟩))), (Or.inr (Or.inr (Or.inr (⟨by omega, rfl, rfl⟩)))), (Or.inl (⟨rfl, by omega⟩))⟩)⟩ hH
      · have e8 : a0 = 2 := i_lit ha0 (by rw [e9]; decide)
        subst e8
        have q8 : (2 : Int32).toInt = 2 := by decide
        refine r_aald hx hb hK hH.1 18 5 rfl (cwc18 C A u) rfl (i_ix (X := 2) (by decide) (by decide) (by decide)) dX9_paste_22 ?_
        refine pv_v (v := .ref (A 10)) rfl ?_
        refine lv_astore (lv' := [(6, .ref (A 10)), (0, .ref (A 0)), (1, .int 2), (2, .int a1), (3, .int a2), (4, .int a3), (5, .int a4)]) hx hb dX9_paste_23 hl (by decide) rfl (fun ls hl => ?_)
        refine lv_aload_n hx hb dX9_paste_25 rfl (lv_at hl 1 rfl) ?_
        refine va_get (ci := 9) (v := .ref (A 18)) (C := RX9) (T := TX9) (N := 12) hx hb hts (fun w h => uc_in w (inX9 w h)) hown hK hH.1 0 (cwc0 C A u) rfl 6 (by decide) (hts _ (uc_in _ q_f389)) (fun _ h9 => h9) rfl dX9_paste_26 ?_
        refine lv_iload_n hx hb dX9_paste_29 rfl (lv_at hl 4 rfl) ?_
        rcases (show A2 = 0 ∨ A2 = 1 ∨ A2 = 2 ∨ A2 = 3 by omega) with e9 | e9 | e9 | e9
        · have e8 : a2 = 0 := i_lit ha2 (by rw [e9]; decide)
          subst e8
          have q8 : (0 : Int32).toInt = 0 := by decide
          refine r_aald hx hb hK hH.1 18 5 rfl (cwc18 C A u) rfl (i_ix (X := 0) (by decide) (by decide) (by decide)) dX9_paste_30 ?_
          refine pv_v (v := .ref (A 8)) rfl ?_
          refine lv_astore (lv' := [(7, .ref (A 8)), (6, .ref (A 10)), (0, .ref (A 0)), (1, .int 2), (2, .int a1), (3, .int 0), (4, .int a3), (5, .int a4)]) hx hb dX9_paste_31 hl (by decide) rfl (fun ls hl => ?_)
          refine lv_aload hx hb dX9_paste_33 (lv_at hl 1 rfl) ?_
          refine cvS (n := 0) (As := []) (rest := []) ⟨hx, hb, hml, hown, hts⟩ uc_in (kX3_isThere_2 l D C A u hI ) q_m914 q_n915 q_e916 q_i5 q_c917 hvX3_isThere ⟨(Nat.le_of_ble_eq_true rfl), (Nat.le_of_ble_eq_true rfl)⟩ ⟨(Nat.le_of_ble_eq_true rfl), (Nat.le_of_ble_eq_true rfl)⟩ hK hH.1 3 10 rfl (cwc10 C A u) rfl hl.1 rfl (Nat.le_of_ble_eq_true rfl) dX9_paste_35 (fun r281 p282 => ?_)
          rcases p282 with ⟨e9, f283⟩ | ⟨e9, fn285⟩
          · subst e9
            have b286 := hI.b54
            refine lv_if_eq (tgt := 49) hx hb dX9_paste_38 (by decide) (fun c287 => absurd c287 (by decide)) (fun c287 => ?_)
            refine lv_aload hx hb dX9_paste_41 (lv_at hl 0 rfl) ?_
            refine cvS (n := 0) (As := []) (rest := []) ⟨hx, hb, hml, hown, hts⟩ uc_in (kX3_isThere_0 l D C A u hI ) q_m914 q_n915 q_e916 q_i5 q_c917 hvX3_isThere ⟨(Nat.le_of_ble_eq_true rfl), (Nat.le_of_ble_eq_true rfl)⟩ ⟨(Nat.le_of_ble_eq_true rfl), (Nat.le_of_ble_eq_true rfl)⟩ hK hH.1 3 8 rfl (cwc8 C A u) rfl hl.1 rfl (Nat.le_of_ble_eq_true rfl) dX9_paste_43 (fun r288 p289 => ?_)
            rcases p289 with ⟨e9, f290⟩ | ⟨e9, fn292⟩
            · subst e9
              have b293 := hI.b50
              refine lv_if_ne (tgt := 52) hx hb dX9_paste_46 (by decide) (fun c294 => ?_) (fun c294 => absurd c294 (by decide))
              refine lv_aload hx hb dX9_paste_52 (lv_at hl 1 rfl) ?_
              refine va_get (ci := 3) (v := .int (gi u 55)) (C := RX3) (T := TX3) (N := 3) hx hb hts (fun w h => uc_in w (inX3 w h)) hown hK hH.1 10 (cwc10 C A u) rfl 1 (by decide) (hts _ (uc_in _ q_f197)) (fun _ h9 => h9) rfl dX9_paste_54 ?_
              refine lv_aload hx hb dX9_paste_57 (lv_at hl 0 rfl) ?_
              refine va_get (ci := 3) (v := .int (gi u 51)) (C := RX3) (T := TX3) (N := 3) hx hb hts (fun w h => uc_in w (inX3 w h)) hown hK hH.1 8 (cwc8 C A u) rfl 1 (by decide) (hts _ (uc_in _ q_f197)) (fun _ h9 => h9) rfl dX9_paste_59 ?_
              refine lv_icmp_eq (tgt := 68) hx hb dX9_paste_62 (by decide) (fun c295 => ?_) (fun c295 => ?_)
              · have c295 := cEQ (x := (gi u 55)) (y := (gi u 51)) (X := ((gi u 55)).toInt) (Y := ((gi u 51)).toInt) rfl rfl c295
                refine lv_aload hx hb dX9_paste_68 (lv_at hl 1 rfl) ?_
                refine lv_iload_n hx hb dX9_paste_70 rfl (lv_at hl 4 rfl) ?_
                refine lv_iload hx hb dX9_paste_71 (lv_at hl 7 rfl) ?_
                refine cvS (n := 2) (As := [.int a1, .int a4]) (rest := []) ⟨hx, hb, hml, hown, hts⟩ uc_in (kX3_holds_2 l D C A u hI a1 A1 ha1 a4 A4 ha4) q_m1177 q_n1178 q_e1179 q_i5 q_c1180 hvX3_holds ⟨(Nat.le_of_ble_eq_true rfl), (Nat.le_of_ble_eq_true rfl)⟩ ⟨(Nat.le_of_ble_eq_true rfl), (Nat.le_of_ble_eq_true rfl)⟩ hK hH.1 3 10 rfl (cwc10 C A u) rfl hl.1 rfl (Nat.le_of_ble_eq_true rfl) dX9_paste_73 (fun r296 p297 => ?_)
                rcases p297 with ⟨e9, f298, f299, f300⟩ | ⟨e9, fn301⟩
                · subst e9
                  refine lv_if_eq (tgt := 91) hx hb dX9_paste_76 (by decide) (fun c302 => absurd c302 (by decide)) (fun c302 => ?_)
                  refine lv_aload hx hb dX9_paste_79 (lv_at hl 0 rfl) ?_
                  refine lv_iload hx hb dX9_paste_81 (lv_at hl 6 rfl) ?_
                  refine lv_iload hx hb dX9_paste_83 (lv_at hl 7 rfl) ?_
                  refine cvS (n := 2) (As := [.int a3, .int a4]) (rest := []) ⟨hx, hb, hml, hown, hts⟩ uc_in (kX3_holds_0 l D C A u hI a3 A3 ha3 a4 A4 ha4) q_m1177 q_n1178 q_e1179 q_i5 q_c1180 hvX3_holds ⟨(Nat.le_of_ble_eq_true rfl), (Nat.le_of_ble_eq_true rfl)⟩ ⟨(Nat.le_of_ble_eq_true rfl), (Nat.le_of_ble_eq_true rfl)⟩ hK hH.1 3 8 rfl (cwc8 C A u) rfl hl.1 rfl (Nat.le_of_ble_eq_true rfl) dX9_paste_85 (fun r303 p304 => ?_)
                  rcases p304 with ⟨e9, f305, f306, f307⟩ | ⟨e9, fn308⟩
                  · subst e9
                    refine lv_if_ne (tgt := 94) hx hb dX9_paste_88 (by decide) (fun c309 => ?_) (fun c309 => absurd c309 (by decide))
                    refine lv_aload hx hb dX9_paste_94 (lv_at hl 1 rfl) ?_
                    refine va_get (ci := 3) (v := .ref (A 41)) (C := RX3) (T := TX3) (N := 3) hx hb hts (fun w h => uc_in w (inX3 w h)) hown hK hH.1 10 (cwc10 C A u) rfl 2 (by decide) (hts _ (uc_in _ q_f201)) (fun _ h9 => h9) rfl dX9_paste_96 ?_
                    refine lv_iload_n hx hb dX9_paste_99 rfl (lv_at hl 4 rfl) ?_
                    refine lv_aload hx hb dX9_paste_100 (lv_at hl 0 rfl) ?_
                    refine va_get (ci := 3) (v := .ref (A 39)) (C := RX3) (T := TX3) (N := 3) hx hb hts (fun w h => uc_in w (inX3 w h)) hown hK hH.1 8 (cwc8 C A u) rfl 2 (by decide) (hts _ (uc_in _ q_f201)) (fun _ h9 => h9) rfl dX9_paste_102 ?_
                    refine lv_iload hx hb dX9_paste_105 (lv_at hl 6 rfl) ?_
                    refine lv_iload hx hb dX9_paste_107 (lv_at hl 7 rfl) ?_
                    refine r_copyl (j0 := 41) (j1 := 39) (S' := A1) (P' := A3) (N' := A4) hx hb (by rw [hml]; exact hl.1.symm) hown (hts _ (uc_in _ q_m1181)) (hts _ (uc_in _ q_t562)) (hts _ (uc_in _ q_s561)) (hts _ (uc_in _ q_i17)) hK hH 41 39 2 (cwc41 C A u) (cwc39 C A u) rfl ha1 ha3 ha4 (by omega) (by omega) (by omega) (by omega) (by omega) (cwb39 C A u) (Nat.le_of_ble_eq_true rfl) (Nat.le_of_ble_eq_true rfl) dX9_paste_109 (fun u310 eu310 H locs hH => ?_)
                    have hI := hI.pb_ eu310
                    refine lv_iconst (v := 0) hx hb dX9_paste_112 (by decide) ?_
                    exact hret _ _ _ _ (0 : Int32) _ dX9_paste_113 rfl ⟨hI, (Un.sb Un.rf rfl eu310), (Or.inr ⟨_, _, _, _, (Or.inr (Or.inr (Or.inl (⟨by omega, rfl, rfl⟩)))), (Or.inl (⟨by omega, rfl, rfl⟩)), (Or.inr (Or.inr (Or.inr (⟨rfl, by omega⟩))))⟩)⟩ hH
                  · subst e9
                    refine lv_if_ne (tgt := 94) hx hb dX9_paste_88 (by decide) (fun c311 => absurd c311 (by decide)) (fun c311 => ?_)
                    refine lv_bipush (v := (-7)) hx hb dX9_paste_91 (by decide) ?_
                    exact hret _ _ _ _ ((-7) : Int32) _ dX9_paste_93 rfl ⟨hI, Un.rf, (Or.inr ⟨_, _, _, _, (Or.inr (Or.inr (Or.inl (⟨by omega, rfl, rfl⟩)))), (Or.inl (⟨by omega, rfl, rfl⟩)), (Or.inr (Or.inr (Or.inl (⟨rfl, by omega⟩))))⟩)⟩ hH
                · subst e9
                  refine lv_if_eq (tgt := 91) hx hb dX9_paste_76 (by decide) (fun c312 => ?_) (fun c312 => absurd c312 (by decide))
                  refine lv_bipush (v := (-7)) hx hb dX9_paste_91 (by decide) ?_
                  exact hret _ _ _ _ ((-7) : Int32) _ dX9_paste_93 rfl ⟨hI, Un.rf, (Or.inr ⟨_, _, _, _, (Or.inr (Or.inr (Or.inl (⟨by omega, rfl, rfl⟩)))), (Or.inl (⟨by omega, rfl, rfl⟩)), (Or.inr (Or.inr (Or.inl (⟨rfl, by omega⟩))))⟩)⟩ hH
              · have c295 := cNE (x := (gi u 55)) (y := (gi u 51)) (X := ((gi u 55)).toInt) (Y := ((gi u 51)).toInt) rfl rfl c295
                refine lv_bipush (v := (-8)) hx hb dX9_paste_65 (by decide) ?_
                exact hret _ _ _ _ ((-8) : Int32) _ dX9_paste_67 rfl ⟨hI, Un.rf, (Or.inr ⟨_, _, _, _, (Or.inr (Or.inr (Or.inl (⟨by omega, rfl, rfl⟩)))), (Or.inl (⟨by omega, rfl, rfl⟩)), (Or.inr (Or.inl (⟨rfl, by omega⟩)))⟩)⟩ hH
            · subst e9
              refine lv_if_ne (tgt := 52) hx hb dX9_paste_46 (by decide) (fun c313 => absurd c313 (by decide)) (fun c313 => ?_)
              refine lv_bipush (v := (-6)) hx hb dX9_paste_49 (by decide) ?_
              exact hret _ _ _ _ ((-6) : Int32) _ dX9_paste_51 rfl ⟨hI, Un.rf, (Or.inr ⟨_, _, _, _, (Or.inr (Or.inr (Or.inl (⟨by omega, rfl, rfl⟩)))), (Or.inl (⟨by omega, rfl, rfl⟩)), (Or.inl (⟨rfl, by omega⟩))⟩)⟩ hH
          · subst e9
            refine lv_if_eq (tgt := 49) hx hb dX9_paste_38 (by decide) (fun c314 => ?_) (fun c314 => absurd c314 (by decide))
            refine lv_bipush (v := (-6)) hx hb dX9_paste_49 (by decide) ?_
            exact hret _ _ _ _ ((-6) : Int32) _ dX9_paste_51 rfl ⟨hI, Un.rf, (Or.inr ⟨_, _, _, _, (Or.inr (Or.inr (Or.inl (⟨by omega, rfl, rfl⟩)))), (Or.inl (⟨by omega, rfl, rfl⟩)), (Or.inl (⟨rfl, by omega⟩))⟩)⟩ hH
        · have e8 : a2 = 1 := i_lit ha2 (by rw [e9]; decide)
          subst e8
          have q8 : (1 : Int32).toInt = 1 := by decide
          refine r_aald hx hb hK hH.1 18 5 rfl (cwc18 C A u) rfl (i_ix (X := 1) (by decide) (by decide) (by decide)) dX9_paste_30 ?_
          refine pv_v (v := .ref (A 9)) rfl ?_
          refine lv_astore (lv' := [(7, .ref (A 9)), (6, .ref (A 10)), (0, .ref (A 0)), (1, .int 2), (2, .int a1), (3, .int 1), (4, .int a3), (5, .int a4)]) hx hb dX9_paste_31 hl (by decide) rfl (fun ls hl => ?_)
          refine lv_aload hx hb dX9_paste_33 (lv_at hl 1 rfl) ?_
          refine cvS (n := 0) (As := []) (rest := []) ⟨hx, hb, hml, hown, hts⟩ uc_in (kX3_isThere_2 l D C A u hI ) q_m914 q_n915 q_e916 q_i5 q_c917 hvX3_isThere ⟨(Nat.le_of_ble_eq_true rfl), (Nat.le_of_ble_eq_true rfl)⟩ ⟨(Nat.le_of_ble_eq_true rfl), (Nat.le_of_ble_eq_true rfl)⟩ hK hH.1 3 10 rfl (cwc10 C A u) rfl hl.1 rfl (Nat.le_of_ble_eq_true rfl) dX9_paste_35 (fun r315 p316 => ?_)
          rcases p316 with ⟨e9, f317⟩ | ⟨e9, fn319⟩
          · subst e9
            have b320 := hI.b54
            refine lv_if_eq (tgt := 49) hx hb dX9_paste_38 (by decide) (fun c321 => absurd c321 (by decide)) (fun c321 => ?_)
            refine lv_aload hx hb dX9_paste_41 (lv_at hl 0 rfl) ?_
            refine cvS (n := 0) (As := []) (rest := []) ⟨hx, hb, hml, hown, hts⟩ uc_in (kX3_isThere_1 l D C A u hI ) q_m914 q_n915 q_e916 q_i5 q_c917 hvX3_isThere ⟨(Nat.le_of_ble_eq_true rfl), (Nat.le_of_ble_eq_true rfl)⟩ ⟨(Nat.le_of_ble_eq_true rfl), (Nat.le_of_ble_eq_true rfl)⟩ hK hH.1 3 9 rfl (cwc9 C A u) rfl hl.1 rfl (Nat.le_of_ble_eq_true rfl) dX9_paste_43 (fun r322 p323 => ?_)
            rcases p323 with ⟨e9, f324⟩ | ⟨e9, fn326⟩
            · subst e9
              have b327 := hI.b52
              refine lv_if_ne (tgt := 52) hx hb dX9_paste_46 (by decide) (fun c328 => ?_) (fun c328 => absurd c328 (by decide))
              refine lv_aload hx hb dX9_paste_52 (lv_at hl 1 rfl) ?_
              refine va_get (ci := 3) (v := .int (gi u 55)) (C := RX3) (T := TX3) (N := 3) hx hb hts (fun w h => uc_in w (inX3 w h)) hown hK hH.1 10 (cwc10 C A u) rfl 1 (by decide) (hts _ (uc_in _ q_f197)) (fun _ h9 => h9) rfl dX9_paste_54 ?_
              refine lv_aload hx hb dX9_paste_57 (lv_at hl 0 rfl) ?_
              refine va_get (ci := 3) (v := .int (gi u 53)) (C := RX3) (T := TX3) (N := 3) hx hb hts (fun w h => uc_in w (inX3 w h)) hown hK hH.1 9 (cwc9 C A u) rfl 1 (by decide) (hts _ (uc_in _ q_f197)) (fun _ h9 => h9) rfl dX9_paste_59 ?_
              refine lv_icmp_eq (tgt := 68) hx hb dX9_paste_62 (by decide) (fun c329 => ?_) (fun c329 => ?_)
              · have c329 := cEQ (x := (gi u 55)) (y := (gi u 53)) (X := ((gi u 55)).toInt) (Y := ((gi u 53)).toInt) rfl rfl c329
                refine lv_aload hx hb dX9_paste_68 (lv_at hl 1 rfl) ?_
                refine lv_iload_n hx hb dX9_paste_70 rfl (lv_at hl 4 rfl) ?_
                refine lv_iload hx hb dX9_paste_71 (lv_at hl 7 rfl) ?_
                refine cvS (n := 2) (As := [.int a1, .int a4]) (rest := []) ⟨hx, hb, hml, hown, hts⟩ uc_in (kX3_holds_2 l D C A u hI a1 A1 ha1 a4 A4 ha4) q_m1177 q_n1178 q_e1179 q_i5 q_c1180 hvX3_holds ⟨(Nat.le_of_ble_eq_true rfl), (Nat.le_of_ble_eq_true rfl)⟩ ⟨(Nat.le_of_ble_eq_true rfl), (Nat.le_of_ble_eq_true rfl)⟩ hK hH.1 3 10 rfl (cwc10 C A u) rfl hl.1 rfl (Nat.le_of_ble_eq_true rfl) dX9_paste_73 (fun r330 p331 => ?_)
                rcases p331 with ⟨e9, f332, f333, f334⟩ | ⟨e9, fn335⟩
                · subst e9
                  refine lv_if_eq (tgt := 91) hx hb dX9_paste_76 (by decide) (fun c336 => absurd c336 (by decide)) (fun c336 => ?_)
                  refine lv_aload hx hb dX9_paste_79 (lv_at hl 0 rfl) ?_
                  refine lv_iload hx hb dX9_paste_81 (lv_at hl 6 rfl) ?_
                  refine lv_iload hx hb dX9_paste_83 (lv_at hl 7 rfl) ?_
                  refine cvS (n := 2) (As := [.int a3, .int a4]) (rest := []) ⟨hx, hb, hml, hown, hts⟩ uc_in (kX3_holds_1 l D C A u hI a3 A3 ha3 a4 A4 ha4) q_m1177 q_n1178 q_e1179 q_i5 q_c1180 hvX3_holds ⟨(Nat.le_of_ble_eq_true rfl), (Nat.le_of_ble_eq_true rfl)⟩ ⟨(Nat.le_of_ble_eq_true rfl), (Nat.le_of_ble_eq_true rfl)⟩ hK hH.1 3 9 rfl (cwc9 C A u) rfl hl.1 rfl (Nat.le_of_ble_eq_true rfl) dX9_paste_85 (fun r337 p338 => ?_)
                  rcases p338 with ⟨e9, f339, f340, f341⟩ | ⟨e9, fn342⟩
                  · subst e9
                    refine lv_if_ne (tgt := 94) hx hb dX9_paste_88 (by decide) (fun c343 => ?_) (fun c343 => absurd c343 (by decide))
                    refine lv_aload hx hb dX9_paste_94 (lv_at hl 1 rfl) ?_
                    refine va_get (ci := 3) (v := .ref (A 41)) (C := RX3) (T := TX3) (N := 3) hx hb hts (fun w h => uc_in w (inX3 w h)) hown hK hH.1 10 (cwc10 C A u) rfl 2 (by decide) (hts _ (uc_in _ q_f201)) (fun _ h9 => h9) rfl dX9_paste_96 ?_
                    refine lv_iload_n hx hb dX9_paste_99 rfl (lv_at hl 4 rfl) ?_
                    refine lv_aload hx hb dX9_paste_100 (lv_at hl 0 rfl) ?_
                    refine va_get (ci := 3) (v := .ref (A 40)) (C := RX3) (T := TX3) (N := 3) hx hb hts (fun w h => uc_in w (inX3 w h)) hown hK hH.1 9 (cwc9 C A u) rfl 2 (by decide) (hts _ (uc_in _ q_f201)) (fun _ h9 => h9) rfl dX9_paste_102 ?_
                    refine lv_iload hx hb dX9_paste_105 (lv_at hl 6 rfl) ?_
                    refine lv_iload hx hb dX9_paste_107 (lv_at hl 7 rfl) ?_
                    refine r_copyl (j0 := 41) (j1 := 40) (S' := A1) (P' := A3) (N' := A4) hx hb (by rw [hml]; exact hl.1.symm) hown (hts _ (uc_in _ q_m1181)) (hts _ (uc_in _ q_t562)) (hts _ (uc_in _ q_s561)) (hts _ (uc_in _ q_i17)) hK hH 41 40 2 (cwc41 C A u) (cwc40 C A u) rfl ha1 ha3 ha4 (by omega) (by omega) (by omega) (by omega) (by omega) (cwb40 C A u) (Nat.le_of_ble_eq_true rfl) (Nat.le_of_ble_eq_true rfl) dX9_paste_109 (fun u344 eu344 H locs hH => ?_)
                    have hI := hI.pb_ eu344
                    refine lv_iconst (v := 0) hx hb dX9_paste_112 (by decide) ?_
                    exact hret _ _ _ _ (0 : Int32) _ dX9_paste_113 rfl ⟨hI, (Un.sb Un.rf rfl eu344), (Or.inr ⟨_, _, _, _, (Or.inr (Or.inr (Or.inl (⟨by omega, rfl, rfl⟩)))), (Or.inr (Or.inl (⟨by omega, rfl, rfl⟩))), (Or.inr (Or.inr (Or.inr (⟨rfl, by omega⟩))))⟩)⟩ hH
                  · subst e9
                    refine lv_if_ne (tgt := 94) hx hb dX9_paste_88 (by decide) (fun c345 => absurd c345 (by decide)) (fun c345 => ?_)
                    refine lv_bipush (v := (-7)) hx hb dX9_paste_91 (by decide) ?_
                    exact hret _ _ _ _ ((-7) : Int32) _ dX9_paste_93 rfl ⟨hI, Un.rf, (Or.inr ⟨_, _, _, _, (Or.inr (Or.inr (Or.inl (⟨by omega, rfl, rfl⟩)))), (Or.inr (Or.inl (⟨by omega, rfl, rfl⟩))), (Or.inr (Or.inr (Or.inl (⟨rfl, by omega⟩))))⟩)⟩ hH
                · subst e9
                  refine lv_if_eq (tgt := 91) hx hb dX9_paste_76 (by decide) (fun c346 => ?_) (fun c346 => absurd c346 (by decide))
                  refine lv_bipush (v := (-7)) hx hb dX9_paste_91 (by decide) ?_
                  exact hret _ _ _ _ ((-7) : Int32) _ dX9_paste_93 rfl ⟨hI, Un.rf, (Or.inr ⟨_, _, _, _, (Or.inr (Or.inr (Or.inl (⟨by omega, rfl, rfl⟩)))), (Or.inr (Or.inl (⟨by omega, rfl, rfl⟩))), (Or.inr (Or.inr (Or.inl (⟨rfl, by omega⟩))))⟩)⟩ hH
              · have c329 := cNE (x := (gi u 55)) (y := (gi u 53)) (X := ((gi u 55)).toInt) (Y := ((gi u 53)).toInt) rfl rfl c329
                refine lv_bipush (v := (-8)) hx hb dX9_paste_65 (by decide) ?_
                exact hret _ _ _ _ ((-8) : Int32) _ dX9_paste_67 rfl ⟨hI, Un.rf, (Or.inr ⟨_, _, _, _, (Or.inr (Or.inr (Or.inl (⟨by omega, rfl, rfl⟩)))), (Or.inr (Or.inl (⟨by omega, rfl, rfl⟩))), (Or.inr (Or.inl (⟨rfl, by omega⟩)))⟩)⟩ hH
            · subst e9
              refine lv_if_ne (tgt := 52) hx hb dX9_paste_46 (by decide) (fun c347 => absurd c347 (by decide)) (fun c347 => ?_)
              refine lv_bipush (v := (-6)) hx hb dX9_paste_49 (by decide) ?_
              exact hret _ _ _ _ ((-6) : Int32) _ dX9_paste_51 rfl ⟨hI, Un.rf, (Or.inr ⟨_, _, _, _, (Or.inr (Or.inr (Or.inl (⟨by omega, rfl, rfl⟩)))), (Or.inr (Or.inl (⟨by omega, rfl, rfl⟩))), (Or.inl (⟨rfl, by omega⟩))⟩)⟩ hH
          · subst e9
            refine lv_if_eq (tgt := 49) hx hb dX9_paste_38 (by decide) (fun c348 => ?_) (fun c348 => absurd c348 (by decide))
            refine lv_bipush (v := (-6)) hx hb dX9_paste_49 (by decide) ?_
            exact hret _ _ _ _ ((-6) : Int32) _ dX9_paste_51 rfl ⟨hI, Un.rf, (Or.inr ⟨_, _, _, _, (Or.inr (Or.inr (Or.inl (⟨by omega, rfl, rfl⟩)))), (Or.inr (Or.inl (⟨by omega, rfl, rfl⟩))), (Or.inl (⟨rfl, by omega⟩))⟩)⟩ hH
        · have e8 : a2 = 2 := i_lit ha2 (by rw [e9]; decide)
          subst e8
          have q8 : (2 : Int32).toInt = 2 := by decide
          refine r_aald hx hb hK hH.1 18 5 rfl (cwc18 C A u) rfl (i_ix (X := 2) (by decide) (by decide) (by decide)) dX9_paste_30 ?_
          refine pv_v (v := .ref (A 10)) rfl ?_
          refine lv_astore (lv' := [(7, .ref (A 10)), (6, .ref (A 10)), (0, .ref (A 0)), (1, .int 2), (2, .int a1), (3, .int 2), (4, .int a3), (5, .int a4)]) hx hb dX9_paste_31 hl (by decide) rfl (fun ls hl => ?_)
          refine lv_aload hx hb dX9_paste_33 (lv_at hl 1 rfl) ?_
          refine cvS (n := 0) (As := []) (rest := []) ⟨hx, hb, hml, hown, hts⟩ uc_in (kX3_isThere_2 l D C A u hI ) q_m914 q_n915 q_e916 q_i5 q_c917 hvX3_isThere ⟨(Nat.le_of_ble_eq_true rfl), (Nat.le_of_ble_eq_true rfl)⟩ ⟨(Nat.le_of_ble_eq_true rfl), (Nat.le_of_ble_eq_true rfl)⟩ hK hH.1 3 10 rfl (cwc10 C A u) rfl hl.1 rfl (Nat.le_of_ble_eq_true rfl) dX9_paste_35 (fun r349 p350 => ?_)
          rcases p350 with ⟨e9, f351⟩ | ⟨e9, fn353⟩
          · subst e9
            have b354 := hI.b54
            refine lv_if_eq (tgt := 49) hx hb dX9_paste_38 (by decide) (fun c355 => absurd c355 (by decide)) (fun c355 => ?_)
            refine lv_aload hx hb dX9_paste_41 (lv_at hl 0 rfl) ?_
            refine cvS (n := 0) (As := []) (rest := []) ⟨hx, hb, hml, hown, hts⟩ uc_in (kX3_isThere_2 l D C A u hI ) q_m914 q_n915 q_e916 q_i5 q_c917 hvX3_isThere ⟨(Nat.le_of_ble_eq_true rfl), (Nat.le_of_ble_eq_true rfl)⟩ ⟨(Nat.le_of_ble_eq_true rfl), (Nat.le_of_ble_eq_true rfl)⟩ hK hH.1 3 10 rfl (cwc10 C A u) rfl hl.1 rfl (Nat.le_of_ble_eq_true rfl) dX9_paste_43 (fun r356 p357 => ?_)
            rcases p357 with ⟨e9, f358⟩ | ⟨e9, fn359⟩
            · subst e9
              refine lv_if_ne (tgt := 52) hx hb dX9_paste_46 (by decide) (fun c360 => ?_) (fun c360 => absurd c360 (by decide))
              refine lv_aload hx hb dX9_paste_52 (lv_at hl 1 rfl) ?_
              refine va_get (ci := 3) (v := .int (gi u 55)) (C := RX3) (T := TX3) (N := 3) hx hb hts (fun w h => uc_in w (inX3 w h)) hown hK hH.1 10 (cwc10 C A u) rfl 1 (by decide) (hts _ (uc_in _ q_f197)) (fun _ h9 => h9) rfl dX9_paste_54 ?_
              refine lv_aload hx hb dX9_paste_57 (lv_at hl 0 rfl) ?_
              refine va_get (ci := 3) (v := .int (gi u 55)) (C := RX3) (T := TX3) (N := 3) hx hb hts (fun w h => uc_in w (inX3 w h)) hown hK hH.1 10 (cwc10 C A u) rfl 1 (by decide) (hts _ (uc_in _ q_f197)) (fun _ h9 => h9) rfl dX9_paste_59 ?_
              refine lv_icmp_eq (tgt := 68) hx hb dX9_paste_62 (by decide) (fun c361 => ?_) (fun c361 => ?_)
              · have c361 := cEQ (x := (gi u 55)) (y := (gi u 55)) (X := ((gi u 55)).toInt) (Y := ((gi u 55)).toInt) rfl rfl c361
                refine lv_aload hx hb dX9_paste_68 (lv_at hl 1 rfl) ?_
                refine lv_iload_n hx hb dX9_paste_70 rfl (lv_at hl 4 rfl) ?_
                refine lv_iload hx hb dX9_paste_71 (lv_at hl 7 rfl) ?_
                refine cvS (n := 2) (As := [.int a1, .int a4]) (rest := []) ⟨hx, hb, hml, hown, hts⟩ uc_in (kX3_holds_2 l D C A u hI a1 A1 ha1 a4 A4 ha4) q_m1177 q_n1178 q_e1179 q_i5 q_c1180 hvX3_holds ⟨(Nat.le_of_ble_eq_true rfl), (Nat.le_of_ble_eq_true rfl)⟩ ⟨(Nat.le_of_ble_eq_true rfl), (Nat.le_of_ble_eq_true rfl)⟩ hK hH.1 3 10 rfl (cwc10 C A u) rfl hl.1 rfl (Nat.le_of_ble_eq_true rfl) dX9_paste_73 (fun r362 p363 => ?_)
                rcases p363 with ⟨e9, f364, f365, f366⟩ | ⟨e9, fn367⟩
                · subst e9
                  refine lv_if_eq (tgt := 91) hx hb dX9_paste_76 (by decide) (fun c368 => absurd c368 (by decide)) (fun c368 => ?_)
                  refine lv_aload hx hb dX9_paste_79 (lv_at hl 0 rfl) ?_
                  refine lv_iload hx hb dX9_paste_81 (lv_at hl 6 rfl) ?_
                  refine lv_iload hx hb dX9_paste_83 (lv_at hl 7 rfl) ?_
                  refine cvS (n := 2) (As := [.int a3, .int a4]) (rest := []) ⟨hx, hb, hml, hown, hts⟩ uc_in (kX3_holds_2 l D C A u hI a3 A3 ha3 a4 A4 ha4) q_m1177 q_n1178 q_e1179 q_i5 q_c1180 hvX3_holds ⟨(Nat.le_of_ble_eq_true rfl), (Nat.le_of_ble_eq_true rfl)⟩ ⟨(Nat.le_of_ble_eq_true rfl), (Nat.le_of_ble_eq_true rfl)⟩ hK hH.1 3 10 rfl (cwc10 C A u) rfl hl.1 rfl (Nat.le_of_ble_eq_true rfl) dX9_paste_85 (fun r369 p370 => ?_)
                  rcases p370 with ⟨e9, f371, f372, f373⟩ | ⟨e9, fn374⟩
                  · subst e9
                    refine lv_if_ne (tgt := 94) hx hb dX9_paste_88 (by decide) (fun c375 => ?_) (fun c375 => absurd c375 (by decide))
                    refine lv_aload hx hb dX9_paste_94 (lv_at hl 1 rfl) ?_
                    refine va_get (ci := 3) (v := .ref (A 41)) (C := RX3) (T := TX3) (N := 3) hx hb hts (fun w h => uc_in w (inX3 w h)) hown hK hH.1 10 (cwc10 C A u) rfl 2 (by decide) (hts _ (uc_in _ q_f201)) (fun _ h9 => h9) rfl dX9_paste_96 ?_
                    refine lv_iload_n hx hb dX9_paste_99 rfl (lv_at hl 4 rfl) ?_
                    refine lv_aload hx hb dX9_paste_100 (lv_at hl 0 rfl) ?_
                    refine va_get (ci := 3) (v := .ref (A 41)) (C := RX3) (T := TX3) (N := 3) hx hb hts (fun w h => uc_in w (inX3 w h)) hown hK hH.1 10 (cwc10 C A u) rfl 2 (by decide) (hts _ (uc_in _ q_f201)) (fun _ h9 => h9) rfl dX9_paste_102 ?_
                    refine lv_iload hx hb dX9_paste_105 (lv_at hl 6 rfl) ?_
                    refine lv_iload hx hb dX9_paste_107 (lv_at hl 7 rfl) ?_
                    refine r_copyl (j0 := 41) (j1 := 41) (S' := A1) (P' := A3) (N' := A4) hx hb (by rw [hml]; exact hl.1.symm) hown (hts _ (uc_in _ q_m1181)) (hts _ (uc_in _ q_t562)) (hts _ (uc_in _ q_s561)) (hts _ (uc_in _ q_i17)) hK hH 41 41 2 (cwc41 C A u) (cwc41 C A u) rfl ha1 ha3 ha4 (by omega) (by omega) (by omega) (by omega) (by omega) (cwb41 C A u) (Nat.le_of_ble_eq_true rfl) (Nat.le_of_ble_eq_true rfl) dX9_paste_109 (fun u376 eu376 H locs hH => ?_)
                    have hI := hI.pb_ eu376
                    refine lv_iconst (v := 0) hx hb dX9_paste_112 (by decide) ?_
                    exact hret _ _ _ _ (0 : Int32) _ dX9_paste_113 rfl ⟨hI, (Un.sb Un.rf rfl eu376), (Or.inr ⟨_, _, _, _, (Or.inr (Or.inr (Or.inl (⟨by omega, rfl, rfl⟩)))), (Or.inr (Or.inr (Or.inl (⟨by omega, rfl, rfl⟩)))), (Or.inr (Or.inr (Or.inr (⟨rfl, by omega⟩))))⟩)⟩ hH
                  · subst e9
                    refine lv_if_ne (tgt := 94) hx hb dX9_paste_88 (by decide) (fun c377 => absurd c377 (by decide)) (fun c377 => ?_)
                    refine lv_bipush (v := (-7)) hx hb dX9_paste_91 (by decide) ?_
                    exact hret _ _ _ _ ((-7) : Int32) _ dX9_paste_93 rfl ⟨hI, Un.rf, (Or.inr ⟨_, _, _, _, (Or.inr (Or.inr (Or.inl (⟨by omega, rfl, rfl⟩)))), (Or.inr (Or.inr (Or.inl (⟨by omega, rfl, rfl⟩)))), (Or.inr (Or.inr (Or.inl (⟨rfl, by omega⟩))))⟩)⟩ hH
                · subst e9
                  refine lv_if_eq (tgt := 91) hx hb dX9_paste_76 (by decide) (fun c378 => ?_) (fun c378 => absurd c378 (by decide))
                  refine lv_bipush (v := (-7)) hx hb dX9_paste_91 (by decide) ?_
                  exact hret _ _ _ _ ((-7) : Int32) _ dX9_paste_93 rfl ⟨hI, Un.rf, (Or.inr ⟨_, _, _, _, (Or.inr (Or.inr (Or.inl (⟨by omega, rfl, rfl⟩)))), (Or.inr (Or.inr (Or.inl (⟨by omega, rfl, rfl⟩)))), (Or.inr (Or.inr (Or.inl (⟨rfl, by omega⟩))))⟩)⟩ hH
              · have c361 := cNE (x := (gi u 55)) (y := (gi u 55)) (X := ((gi u 55)).toInt) (Y := ((gi u 55)).toInt) rfl rfl c361
                refine lv_bipush (v := (-8)) hx hb dX9_paste_65 (by decide) ?_
                exact hret _ _ _ _ ((-8) : Int32) _ dX9_paste_67 rfl ⟨hI, Un.rf, (Or.inr ⟨_, _, _, _, (Or.inr (Or.inr (Or.inl (⟨by omega, rfl, rfl⟩)))), (Or.inr (Or.inr (Or.inl (⟨by omega, rfl, rfl⟩)))), (Or.inr (Or.inl (⟨rfl, by omega⟩)))⟩)⟩ hH
            · subst e9
              refine lv_if_ne (tgt := 52) hx hb dX9_paste_46 (by decide) (fun c379 => absurd c379 (by decide)) (fun c379 => ?_)
              refine lv_bipush (v := (-6)) hx hb dX9_paste_49 (by decide) ?_
              exact hret _ _ _ _ ((-6) : Int32) _ dX9_paste_51 rfl ⟨hI, Un.rf, (Or.inr ⟨_, _, _, _, (Or.inr (Or.inr (Or.inl (⟨by omega, rfl, rfl⟩)))), (Or.inr (Or.inr (Or.inl (⟨by omega, rfl, rfl⟩)))), (Or.inl (⟨rfl, by omega⟩))⟩)⟩ hH
          · subst e9
            refine lv_if_eq (tgt := 49) hx hb dX9_paste_38 (by decide) (fun c380 => ?_) (fun c380 => absurd c380 (by decide))
            refine lv_bipush (v := (-6)) hx hb dX9_paste_49 (by decide) ?_
            exact hret _ _ _ _ ((-6) : Int32) _ dX9_paste_51 rfl ⟨hI, Un.rf, (Or.inr ⟨_, _, _, _, (Or.inr (Or.inr (Or.inl (⟨by omega, rfl, rfl⟩)))), (Or.inr (Or.inr (Or.inl (⟨by omega, rfl, rfl⟩)))), (Or.inl (⟨rfl, by omega⟩))⟩)⟩ hH
        · have e8 : a2 = 3 := i_lit ha2 (by rw [e9]; decide)
          subst e8
          have q8 : (3 : Int32).toInt = 3 := by decide
          refine r_aald hx hb hK hH.1 18 5 rfl (cwc18 C A u) rfl (i_ix (X := 3) (by decide) (by decide) (by decide)) dX9_paste_30 ?_
          refine pv_v (v := .ref (A 11)) rfl ?_
          refine lv_astore (lv' := [(7, .ref (A 11)), (6, .ref (A 10)), (0, .ref (A 0)), (1, .int 2), (2, .int a1), (3, .int 3), (4, .int a3), (5, .int a4)]) hx hb dX9_paste_31 hl (by decide) rfl (fun ls hl => ?_)
          refine lv_aload hx hb dX9_paste_33 (lv_at hl 1 rfl) ?_
          refine cvS (n := 0) (As := []) (rest := []) ⟨hx, hb, hml, hown, hts⟩ uc_in (kX3_isThere_2 l D C A u hI ) q_m914 q_n915 q_e916 q_i5 q_c917 hvX3_isThere ⟨(Nat.le_of_ble_eq_true rfl), (Nat.le_of_ble_eq_true rfl)⟩ ⟨(Nat.le_of_ble_eq_true rfl), (Nat.le_of_ble_eq_true rfl)⟩ hK hH.1 3 10 rfl (cwc10 C A u) rfl hl.1 rfl (Nat.le_of_ble_eq_true rfl) dX9_paste_35 (fun r381 p382 => ?_)
          rcases p382 with ⟨e9, f383⟩ | ⟨e9, fn385⟩
          · subst e9
            have b386 := hI.b54
            refine lv_if_eq (tgt := 49) hx hb dX9_paste_38 (by decide) (fun c387 => absurd c387 (by decide)) (fun c387 => ?_)
            refine lv_aload hx hb dX9_paste_41 (lv_at hl 0 rfl) ?_
            refine cvS (n := 0) (As := []) (rest := []) ⟨hx, hb, hml, hown, hts⟩ uc_in (kX3_isThere_3 l D C A u hI ) q_m914 q_n915 q_e916 q_i5 q_c917 hvX3_isThere ⟨(Nat.le_of_ble_eq_true rfl), (Nat.le_of_ble_eq_true rfl)⟩ ⟨(Nat.le_of_ble_eq_true rfl), (Nat.le_of_ble_eq_true rfl)⟩ hK hH.1 3 11 rfl (cwc11 C A u) rfl hl.1 rfl (Nat.le_of_ble_eq_true rfl) dX9_paste_43 (fun r388 p389 => ?_)
            rcases p389 with ⟨e9, f390⟩ | ⟨e9, fn392⟩
            · subst e9
              have b393 := hI.b56
              refine lv_if_ne (tgt := 52) hx hb dX9_paste_46 (by decide) (fun c394 => ?_) (fun c394 => absurd c394 (by decide))
              refine lv_aload hx hb dX9_paste_52 (lv_at hl 1 rfl) ?_
              refine va_get (ci := 3) (v := .int (gi u 55)) (C := RX3) (T := TX3) (N := 3) hx hb hts (fun w h => uc_in w (inX3 w h)) hown hK hH.1 10 (cwc10 C A u) rfl 1 (by decide) (hts _ (uc_in _ q_f197)) (fun _ h9 => h9) rfl dX9_paste_54 ?_
              refine lv_aload hx hb dX9_paste_57 (lv_at hl 0 rfl) ?_
              refine va_get (ci := 3) (v := .int (gi u 57)) (C := RX3) (T := TX3) (N := 3) hx hb hts (fun w h => uc_in w (inX3 w h)) hown hK hH.1 11 (cwc11 C A u) rfl 1 (by decide) (hts _ (uc_in _ q_f197)) (fun _ h9 => h9) rfl dX9_paste_59 ?_
              refine lv_icmp_eq (tgt := 68) hx hb dX9_paste_62 (by decide) (fun c395 => ?_) (fun c395 => ?_)
              · have c395 := cEQ (x := (gi u 55)) (y := (gi u 57)) (X := ((gi u 55)).toInt) (Y := ((gi u 57)).toInt) rfl rfl c395
                refine lv_aload hx hb dX9_paste_68 (lv_at hl 1 rfl) ?_
                refine lv_iload_n hx hb dX9_paste_70 rfl (lv_at hl 4 rfl) ?_
                refine lv_iload hx hb dX9_paste_71 (lv_at hl 7 rfl) ?_
                refine cvS (n := 2) (As := [.int a1, .int a4]) (rest := []) ⟨hx, hb, hml, hown, hts⟩ uc_in (kX3_holds_2 l D C A u hI a1 A1 ha1 a4 A4 ha4) q_m1177 q_n1178 q_e1179 q_i5 q_c1180 hvX3_holds ⟨(Nat.le_of_ble_eq_true rfl), (Nat.le_of_ble_eq_true rfl)⟩ ⟨(Nat.le_of_ble_eq_true rfl), (Nat.le_of_ble_eq_true rfl)⟩ hK hH.1 3 10 rfl (cwc10 C A u) rfl hl.1 rfl (Nat.le_of_ble_eq_true rfl) dX9_paste_73 (fun r396 p397 => ?_)
                rcases p397 with ⟨e9, f398, f399, f400⟩ | ⟨e9, fn401⟩
                · subst e9
                  refine lv_if_eq (tgt := 91) hx hb dX9_paste_76 (by decide) (fun c402 => absurd c402 (by decide)) (fun c402 => ?_)
                  refine lv_aload hx hb dX9_paste_79 (lv_at hl 0 rfl) ?_
                  refine lv_iload hx hb dX9_paste_81 (lv_at hl 6 rfl) ?_
                  refine lv_iload hx hb dX9_paste_83 (lv_at hl 7 rfl) ?_
                  refine cvS (n := 2) (As := [.int a3, .int a4]) (rest := []) ⟨hx, hb, hml, hown, hts⟩ uc_in (kX3_holds_3 l D C A u hI a3 A3 ha3 a4 A4 ha4) q_m1177 q_n1178 q_e1179 q_i5 q_c1180 hvX3_holds ⟨(Nat.le_of_ble_eq_true rfl), (Nat.le_of_ble_eq_true rfl)⟩ ⟨(Nat.le_of_ble_eq_true rfl), (Nat.le_of_ble_eq_true rfl)⟩ hK hH.1 3 11 rfl (cwc11 C A u) rfl hl.1 rfl (Nat.le_of_ble_eq_true rfl) dX9_paste_85 (fun r403 p404 => ?_)
                  rcases p404 with ⟨e9, f405, f406, f407⟩ | ⟨e9, fn408⟩
                  · subst e9
                    refine lv_if_ne (tgt := 94) hx hb dX9_paste_88 (by decide) (fun c409 => ?_) (fun c409 => absurd c409 (by decide))
                    refine lv_aload hx hb dX9_paste_94 (lv_at hl 1 rfl) ?_
                    refine va_get (ci := 3) (v := .ref (A 41)) (C := RX3) (T := TX3) (N := 3) hx hb hts (fun w h => uc_in w (inX3 w h)) hown hK hH.1 10 (cwc10 C A u) rfl 2 (by decide) (hts _ (uc_in _ q_f201)) (fun _ h9 => h9) rfl dX9_paste_96 ?_
                    refine lv_iload_n hx hb dX9_paste_99 rfl (lv_at hl 4 rfl) ?_
                    refine lv_aload hx hb dX9_paste_100 (lv_at hl 0 rfl) ?_
                    refine va_get (ci := 3) (v := .ref (A 42)) (C := RX3) (T := TX3) (N := 3) hx hb hts (fun w h => uc_in w (inX3 w h)) hown hK hH.1 11 (cwc11 C A u) rfl 2 (by decide) (hts _ (uc_in _ q_f201)) (fun _ h9 => h9) rfl dX9_paste_102 ?_
                    refine lv_iload hx hb dX9_paste_105 (lv_at hl 6 rfl) ?_
                    refine lv_iload hx hb dX9_paste_107 (lv_at hl 7 rfl) ?_
                    refine r_copyl (j0 := 41) (j1 := 42) (S' := A1) (P' := A3) (N' := A4) hx hb (by rw [hml]; exact hl.1.symm) hown (hts _ (uc_in _ q_m1181)) (hts _ (uc_in _ q_t562)) (hts _ (uc_in _ q_s561)) (hts _ (uc_in _ q_i17)) hK hH 41 42 2 (cwc41 C A u) (cwc42 C A u) rfl ha1 ha3 ha4 (by omega) (by omega) (by omega) (by omega) (by omega) (cwb42 C A u) (Nat.le_of_ble_eq_true rfl) (Nat.le_of_ble_eq_true rfl) dX9_paste_109 (fun u410 eu410 H locs hH => ?_)
                    have hI := hI.pb_ eu410
                    refine lv_iconst (v := 0) hx hb dX9_paste_112 (by decide) ?_
                    exact hret _ _ _ _ (0 : Int32) _ dX9_paste_113 rfl ⟨hI, (Un.sb Un.rf rfl eu410), (Or.inr ⟨_, _, _, _, (Or.inr (Or.inr (Or.inl (⟨by omega, rfl, rfl⟩)))), (Or.inr (Or.inr (Or.inr (⟨by omega, rfl, rfl⟩)))), (Or.inr (Or.inr (Or.inr (⟨rfl, by omega⟩))))⟩)⟩ hH
                  · subst e9
                    refine lv_if_ne (tgt := 94) hx hb dX9_paste_88 (by decide) (fun c411 => absurd c411 (by decide)) (fun c411 => ?_)
                    refine lv_bipush (v := (-7)) hx hb dX9_paste_91 (by decide) ?_
                    exact hret _ _ _ _ ((-7) : Int32) _ dX9_paste_93 rfl ⟨hI, Un.rf, (Or.inr ⟨_, _, _, _, (Or.inr (Or.inr (Or.inl (⟨by omega, rfl, rfl⟩)))), (Or.inr (Or.inr (Or.inr (⟨by omega, rfl, rfl⟩)))), (Or.inr (Or.inr (Or.inl (⟨rfl, by omega⟩))))⟩)⟩ hH
                · subst e9
                  refine lv_if_eq (tgt := 91) hx hb dX9_paste_76 (by decide) (fun c412 => ?_) (fun c412 => absurd c412 (by decide))
                  refine lv_bipush (v := (-7)) hx hb dX9_paste_91 (by decide) ?_
                  exact hret _ _ _ _ ((-7) : Int32) _ dX9_paste_93 rfl ⟨hI, Un.rf, (Or.inr ⟨_, _, _, _, (Or.inr (Or.inr (Or.inl (⟨by omega, rfl, rfl⟩)))), (Or.inr (Or.inr (Or.inr (⟨by omega, rfl, rfl⟩)))), (Or.inr (Or.inr (Or.inl (⟨rfl, by omega⟩))))⟩)⟩ hH
              · have c395 := cNE (x := (gi u 55)) (y := (gi u 57)) (X := ((gi u 55)).toInt) (Y := ((gi u 57)).toInt) rfl rfl c395
                refine lv_bipush (v := (-8)) hx hb dX9_paste_65 (by decide) ?_
                exact hret _ _ _ _ ((-8) : Int32) _ dX9_paste_67 rfl ⟨hI, Un.rf, (Or.inr ⟨_, _, _, _, (Or.inr (Or.inr (Or.inl (⟨by omega, rfl, rfl⟩)))), (Or.inr (Or.inr (Or.inr (⟨by omega, rfl, rfl⟩)))), (Or.inr (Or.inl (⟨rfl, by omega⟩)))⟩)⟩ hH
            · subst e9
              refine lv_if_ne (tgt := 52) hx hb dX9_paste_46 (by decide) (fun c413 => absurd c413 (by decide)) (fun c413 => ?_)
              refine lv_bipush (v := (-6)) hx hb dX9_paste_49 (by decide) ?_
              exact hret _ _ _ _ ((-6) : Int32) _ dX9_paste_51 rfl ⟨hI, Un.rf, (Or.inr ⟨_, _, _, _, (Or.inr (Or.inr (Or.inl (⟨by omega, rfl, rfl⟩)))), (Or.inr (Or.inr (Or.inr (⟨by omega, rfl, rfl⟩)))), (Or.inl (⟨rfl, by omega⟩))⟩)⟩ hH
          · subst e9
            refine lv_if_eq (tgt := 49) hx hb dX9_paste_38 (by decide) (fun c414 => ?_) (fun c414 => absurd c414 (by decide))
            refine lv_bipush (v := (-6)) hx hb dX9_paste_49 (by decide) ?_
            exact hret _ _ _ _ ((-6) : Int32) _ dX9_paste_51 rfl ⟨hI, Un.rf, (Or.inr ⟨_, _, _, _, (Or.inr (Or.inr (Or.inl (⟨by omega, rfl, rfl⟩)))), (Or.inr (Or.inr (Or.inr (⟨by omega, rfl, rfl⟩)))), (Or.inl (⟨rfl, by omega⟩))⟩)⟩ hH
      · have e8 : a0 = 3 := i_lit ha0 (by rw [e9]; decide)
        subst e8
        have q8 : (3 : Int32).toInt = 3 := by decide
        refine r_aald hx hb hK hH.1 18 5 rfl (cwc18 C A u) rfl (i_ix (X := 3) (by decide) (by decide) (by decide)) dX9_paste_22 ?_
        refine pv_v (v := .ref (A 11)) rfl ?_
        refine lv_astore (lv' := [(6, .ref (A 11)), (0, .ref (A 0)), (1, .int 3), (2, .int a1), (3, .int a2), (4, .int a3), (5, .int a4)]) hx hb dX9_paste_23 hl (by decide) rfl (fun ls hl => ?_)
        refine lv_aload_n hx hb dX9_paste_25 rfl (lv_at hl 1 rfl) ?_
        refine va_get (ci := 9) (v := .ref (A 18)) (C := RX9) (T := TX9) (N := 12) hx hb hts (fun w h => uc_in w (inX9 w h)) hown hK hH.1 0 (cwc0 C A u) rfl 6 (by decide) (hts _ (uc_in _ q_f389)) (fun _ h9 => h9) rfl dX9_paste_26 ?_
        refine lv_iload_n hx hb dX9_paste_29 rfl (lv_at hl 4 rfl) ?_
        rcases (show A2 = 0 ∨ A2 = 1 ∨ A2 = 2 ∨ A2 = 3 by omega) with e9 | e9 | e9 | e9
        · have e8 : a2 = 0 := i_lit ha2 (by rw [e9]; decide)
          subst e8
          have q8 : (0 : Int32).toInt = 0 := by decide
          refine r_aald hx hb hK hH.1 18 5 rfl (cwc18 C A u) rfl (i_ix (X := 0) (by decide) (by decide) (by decide)) dX9_paste_30 ?_
          refine pv_v (v := .ref (A 8)) rfl ?_
          refine lv_astore (lv' := [(7, .ref (A 8)), (6, .ref (A 11)), (0, .ref (A 0)), (1, .int 3), (2, .int a1), (3, .int 0), (4, .int a3), (5, .int a4)]) hx hb dX9_paste_31 hl (by decide) rfl (fun ls hl => ?_)
          refine lv_aload hx hb dX9_paste_33 (lv_at hl 1 rfl) ?_
          refine cvS (n := 0) (As := []) (rest := []) ⟨hx, hb, hml, hown, hts⟩ uc_in (kX3_isThere_3 l D C A u hI ) q_m914 q_n915 q_e916 q_i5 q_c917 hvX3_isThere ⟨(Nat.le_of_ble_eq_true rfl), (Nat.le_of_ble_eq_true rfl)⟩ ⟨(Nat.le_of_ble_eq_true rfl), (Nat.le_of_ble_eq_true rfl)⟩ hK hH.1 3 11 rfl (cwc11 C A u) rfl hl.1 rfl (Nat.le_of_ble_eq_true rfl) dX9_paste_35 (fun r415 p416 => ?_)
          rcases p416 with ⟨e9, f417⟩ | ⟨e9, fn419⟩
          · subst e9
            have b420 := hI.b56
            refine lv_if_eq (tgt := 49) hx hb dX9_paste_38 (by decide) (fun c421 => absurd c421 (by decide)) (fun c421 => ?_)
            refine lv_aload hx hb dX9_paste_41 (lv_at hl 0 rfl) ?_
            refine cvS (n := 0) (As := []) (rest := []) ⟨hx, hb, hml, hown, hts⟩ uc_in (kX3_isThere_0 l D C A u hI ) q_m914 q_n915 q_e916 q_i5 q_c917 hvX3_isThere ⟨(Nat.le_of_ble_eq_true rfl), (Nat.le_of_ble_eq_true rfl)⟩ ⟨(Nat.le_of_ble_eq_true rfl), (Nat.le_of_ble_eq_true rfl)⟩ hK hH.1 3 8 rfl (cwc8 C A u) rfl hl.1 rfl (Nat.le_of_ble_eq_true rfl) dX9_paste_43 (fun r422 p423 => ?_)
            rcases p423 with ⟨e9, f424⟩ | ⟨e9, fn426⟩
            · subst e9
              have b427 := hI.b50
              refine lv_if_ne (tgt := 52) hx hb dX9_paste_46 (by decide) (fun c428 => ?_) (fun c428 => absurd c428 (by decide))
              refine lv_aload hx hb dX9_paste_52 (lv_at hl 1 rfl) ?_
              refine va_get (ci := 3) (v := .int (gi u 57)) (C := RX3) (T := TX3) (N := 3) hx hb hts (fun w h => uc_in w (inX3 w h)) hown hK hH.1 11 (cwc11 C A u) rfl 1 (by decide) (hts _ (uc_in _ q_f197)) (fun _ h9 => h9) rfl dX9_paste_54 ?_
              refine lv_aload hx hb dX9_paste_57 (lv_at hl 0 rfl) ?_
              refine va_get (ci := 3) (v := .int (gi u 51)) (C := RX3) (T := TX3) (N := 3) hx hb hts (fun w h => uc_in w (inX3 w h)) hown hK hH.1 8 (cwc8 C A u) rfl 1 (by decide) (hts _ (uc_in _ q_f197)) (fun _ h9 => h9) rfl dX9_paste_59 ?_
              refine lv_icmp_eq (tgt := 68) hx hb dX9_paste_62 (by decide) (fun c429 => ?_) (fun c429 => ?_)
              · have c429 := cEQ (x := (gi u 57)) (y := (gi u 51)) (X := ((gi u 57)).toInt) (Y := ((gi u 51)).toInt) rfl rfl c429
                refine lv_aload hx hb dX9_paste_68 (lv_at hl 1 rfl) ?_
                refine lv_iload_n hx hb dX9_paste_70 rfl (lv_at hl 4 rfl) ?_
                refine lv_iload hx hb dX9_paste_71 (lv_at hl 7 rfl) ?_
                refine cvS (n := 2) (As := [.int a1, .int a4]) (rest := []) ⟨hx, hb, hml, hown, hts⟩ uc_in (kX3_holds_3 l D C A u hI a1 A1 ha1 a4 A4 ha4) q_m1177 q_n1178 q_e1179 q_i5 q_c1180 hvX3_holds ⟨(Nat.le_of_ble_eq_true rfl), (Nat.le_of_ble_eq_true rfl)⟩ ⟨(Nat.le_of_ble_eq_true rfl), (Nat.le_of_ble_eq_true rfl)⟩ hK hH.1 3 11 rfl (cwc11 C A u) rfl hl.1 rfl (Nat.le_of_ble_eq_true rfl) dX9_paste_73 (fun r430 p431 => ?_)
                rcases p431 with ⟨e9, f432, f433, f434⟩ | ⟨e9, fn435⟩
                · subst e9
                  refine lv_if_eq (tgt := 91) hx hb dX9_paste_76 (by decide) (fun c436 => absurd c436 (by decide)) (fun c436 => ?_)
                  refine lv_aload hx hb dX9_paste_79 (lv_at hl 0 rfl) ?_
                  refine lv_iload hx hb dX9_paste_81 (lv_at hl 6 rfl) ?_
                  refine lv_iload hx hb dX9_paste_83 (lv_at hl 7 rfl) ?_
                  refine cvS (n := 2) (As := [.int a3, .int a4]) (rest := []) ⟨hx, hb, hml, hown, hts⟩ uc_in (kX3_holds_0 l D C A u hI a3 A3 ha3 a4 A4 ha4) q_m1177 q_n1178 q_e1179 q_i5 q_c1180 hvX3_holds ⟨(Nat.le_of_ble_eq_true rfl), (Nat.le_of_ble_eq_true rfl)⟩ ⟨(Nat.le_of_ble_eq_true rfl), (Nat.le_of_ble_eq_true rfl)⟩ hK hH.1 3 8 rfl (cwc8 C A u) rfl hl.1 rfl (Nat.le_of_ble_eq_true rfl) dX9_paste_85 (fun r437 p438 => ?_)
                  rcases p438 with ⟨e9, f439, f440, f441⟩ | ⟨e9, fn442⟩
                  · subst e9
                    refine lv_if_ne (tgt := 94) hx hb dX9_paste_88 (by decide) (fun c443 => ?_) (fun c443 => absurd c443 (by decide))
                    refine lv_aload hx hb dX9_paste_94 (lv_at hl 1 rfl) ?_
                    refine va_get (ci := 3) (v := .ref (A 42)) (C := RX3) (T := TX3) (N := 3) hx hb hts (fun w h => uc_in w (inX3 w h)) hown hK hH.1 11 (cwc11 C A u) rfl 2 (by decide) (hts _ (uc_in _ q_f201)) (fun _ h9 => h9) rfl dX9_paste_96 ?_
                    refine lv_iload_n hx hb dX9_paste_99 rfl (lv_at hl 4 rfl) ?_
                    refine lv_aload hx hb dX9_paste_100 (lv_at hl 0 rfl) ?_
                    refine va_get (ci := 3) (v := .ref (A 39)) (C := RX3) (T := TX3) (N := 3) hx hb hts (fun w h => uc_in w (inX3 w h)) hown hK hH.1 8 (cwc8 C A u) rfl 2 (by decide) (hts _ (uc_in _ q_f201)) (fun _ h9 => h9) rfl dX9_paste_102 ?_
                    refine lv_iload hx hb dX9_paste_105 (lv_at hl 6 rfl) ?_
                    refine lv_iload hx hb dX9_paste_107 (lv_at hl 7 rfl) ?_
                    refine r_copyl (j0 := 42) (j1 := 39) (S' := A1) (P' := A3) (N' := A4) hx hb (by rw [hml]; exact hl.1.symm) hown (hts _ (uc_in _ q_m1181)) (hts _ (uc_in _ q_t562)) (hts _ (uc_in _ q_s561)) (hts _ (uc_in _ q_i17)) hK hH 42 39 2 (cwc42 C A u) (cwc39 C A u) rfl ha1 ha3 ha4 (by omega) (by omega) (by omega) (by omega) (by omega) (cwb39 C A u) (Nat.le_of_ble_eq_true rfl) (Nat.le_of_ble_eq_true rfl) dX9_paste_109 (fun u444 eu444 H locs hH => ?_)
                    have hI := hI.pb_ eu444
                    refine lv_iconst (v := 0) hx hb dX9_paste_112 (by decide) ?_
                    exact hret _ _ _ _ (0 : Int32) _ dX9_paste_113 rfl ⟨hI, (Un.sb Un.rf rfl eu444), (Or.inr ⟨_, _, _, _, (Or.inr (Or.inr (Or.inr (⟨by omega, rfl, rfl⟩)))), (Or.inl (⟨by omega, rfl, rfl⟩)), (Or.inr (Or.inr (Or.inr (⟨rfl, by omega⟩))))⟩)⟩ hH
                  · subst e9
                    refine lv_if_ne (tgt := 94) hx hb dX9_paste_88 (by decide) (fun c445 => absurd c445 (by decide)) (fun c445 => ?_)
                    refine lv_bipush (v := (-7)) hx hb dX9_paste_91 (by decide) ?_
                    exact hret _ _ _ _ ((-7) : Int32) _ dX9_paste_93 rfl ⟨hI, Un.rf, (Or.inr ⟨_, _, _, _, (Or.inr (Or.inr (Or.inr (⟨by omega, rfl, rfl⟩)))), (Or.inl (⟨by omega, rfl, rfl⟩)), (Or.inr (Or.inr (Or.inl (⟨rfl, by omega⟩))))⟩)⟩ hH
                · subst e9
                  refine lv_if_eq (tgt := 91) hx hb dX9_paste_76 (by decide) (fun c446 => ?_) (fun c446 => absurd c446 (by decide))
                  refine lv_bipush (v := (-7)) hx hb dX9_paste_91 (by decide) ?_
                  exact hret _ _ _ _ ((-7) : Int32) _ dX9_paste_93 rfl ⟨hI, Un.rf, (Or.inr ⟨_, _, _, _, (Or.inr (Or.inr (Or.inr (⟨by omega, rfl, rfl⟩)))), (Or.inl (⟨by omega, rfl, rfl⟩)), (Or.inr (Or.inr (Or.inl (⟨rfl, by omega⟩))))⟩)⟩ hH
              · have c429 := cNE (x := (gi u 57)) (y := (gi u 51)) (X := ((gi u 57)).toInt) (Y := ((gi u 51)).toInt) rfl rfl c429
                refine lv_bipush (v := (-8)) hx hb dX9_paste_65 (by decide) ?_
                exact hret _ _ _ _ ((-8) : Int32) _ dX9_paste_67 rfl ⟨hI, Un.rf, (Or.inr ⟨_, _, _, _, (Or.inr (Or.inr (Or.inr (⟨by omega, rfl, rfl⟩)))), (Or.inl (⟨by omega, rfl, rfl⟩)), (Or.inr (Or.inl (⟨rfl, by omega⟩)))⟩)⟩ hH
            · subst e9
              refine lv_if_ne (tgt := 52) hx hb dX9_paste_46 (by decide) (fun c447 => absurd c447 (by decide)) (fun c447 => ?_)
              refine lv_bipush (v := (-6)) hx hb dX9_paste_49 (by decide) ?_
              exact hret _ _ _ _ ((-6) : Int32) _ dX9_paste_51 rfl ⟨hI, Un.rf, (Or.inr ⟨_, _, _, _, (Or.inr (Or.inr (Or.inr (⟨by omega, rfl, rfl⟩)))), (Or.inl (⟨by omega, rfl, rfl⟩)), (Or.inl (⟨rfl, by omega⟩))⟩)⟩ hH
          · subst e9
            refine lv_if_eq (tgt := 49) hx hb dX9_paste_38 (by decide) (fun c448 => ?_) (fun c448 => absurd c448 (by decide))
            refine lv_bipush (v := (-6)) hx hb dX9_paste_49 (by decide) ?_
            exact hret _ _ _ _ ((-6) : Int32) _ dX9_paste_51 rfl ⟨hI, Un.rf, (Or.inr ⟨_, _, _, _, (Or.inr (Or.inr (Or.inr (⟨by omega, rfl, rfl⟩)))), (Or.inl (⟨by omega, rfl, rfl⟩)), (Or.inl (⟨rfl, by omega⟩))⟩)⟩ hH
        · have e8 : a2 = 1 := i_lit ha2 (by rw [e9]; decide)
          subst e8
          have q8 : (1 : Int32).toInt = 1 := by decide
          refine r_aald hx hb hK hH.1 18 5 rfl (cwc18 C A u) rfl (i_ix (X := 1) (by decide) (by decide) (by decide)) dX9_paste_30 ?_
          refine pv_v (v := .ref (A 9)) rfl ?_
          refine lv_astore (lv' := [(7, .ref (A 9)), (6, .ref (A 11)), (0, .ref (A 0)), (1, .int 3), (2, .int a1), (3, .int 1), (4, .int a3), (5, .int a4)]) hx hb dX9_paste_31 hl (by decide) rfl (fun ls hl => ?_)
          refine lv_aload hx hb dX9_paste_33 (lv_at hl 1 rfl) ?_
          refine cvS (n := 0) (As := []) (rest := []) ⟨hx, hb, hml, hown, hts⟩ uc_in (kX3_isThere_3 l D C A u hI ) q_m914 q_n915 q_e916 q_i5 q_c917 hvX3_isThere ⟨(Nat.le_of_ble_eq_true rfl), (Nat.le_of_ble_eq_true rfl)⟩ ⟨(Nat.le_of_ble_eq_true rfl), (Nat.le_of_ble_eq_true rfl)⟩ hK hH.1 3 11 rfl (cwc11 C A u) rfl hl.1 rfl (Nat.le_of_ble_eq_true rfl) dX9_paste_35 (fun r449 p450 => ?_)
          rcases p450 with ⟨e9, f451⟩ | ⟨e9, fn453⟩
          · subst e9
            have b454 := hI.b56
            refine lv_if_eq (tgt := 49) hx hb dX9_paste_38 (by decide) (fun c455 => absurd c455 (by decide)) (fun c455 => ?_)
            refine lv_aload hx hb dX9_paste_41 (lv_at hl 0 rfl) ?_
            refine cvS (n := 0) (As := []) (rest := []) ⟨hx, hb, hml, hown, hts⟩ uc_in (kX3_isThere_1 l D C A u hI ) q_m914 q_n915 q_e916 q_i5 q_c917 hvX3_isThere ⟨(Nat.le_of_ble_eq_true rfl), (Nat.le_of_ble_eq_true rfl)⟩ ⟨(Nat.le_of_ble_eq_true rfl), (Nat.le_of_ble_eq_true rfl)⟩ hK hH.1 3 9 rfl (cwc9 C A u) rfl hl.1 rfl (Nat.le_of_ble_eq_true rfl) dX9_paste_43 (fun r456 p457 => ?_)
            rcases p457 with ⟨e9, f458⟩ | ⟨e9, fn460⟩
            · subst e9
              have b461 := hI.b52
              refine lv_if_ne (tgt := 52) hx hb dX9_paste_46 (by decide) (fun c462 => ?_) (fun c462 => absurd c462 (by decide))
              refine lv_aload hx hb dX9_paste_52 (lv_at hl 1 rfl) ?_
              refine va_get (ci := 3) (v := .int (gi u 57)) (C := RX3) (T := TX3) (N := 3) hx hb hts (fun w h => uc_in w (inX3 w h)) hown hK hH.1 11 (cwc11 C A u) rfl 1 (by decide) (hts _ (uc_in _ q_f197)) (fun _ h9 => h9) rfl dX9_paste_54 ?_
              refine lv_aload hx hb dX9_paste_57 (lv_at hl 0 rfl) ?_
              refine va_get (ci := 3) (v := .int (gi u 53)) (C := RX3) (T := TX3) (N := 3) hx hb hts (fun w h => uc_in w (inX3 w h)) hown hK hH.1 9 (cwc9 C A u) rfl 1 (by decide) (hts _ (uc_in _ q_f197)) (fun _ h9 => h9) rfl dX9_paste_59 ?_
              refine lv_icmp_eq (tgt := 68) hx hb dX9_paste_62 (by decide) (fun c463 => ?_) (fun c463 => ?_)
              · have c463 := cEQ (x := (gi u 57)) (y := (gi u 53)) (X := ((gi u 57)).toInt) (Y := ((gi u 53)).toInt) rfl rfl c463
                refine lv_aload hx hb dX9_paste_68 (lv_at hl 1 rfl) ?_
                refine lv_iload_n hx hb dX9_paste_70 rfl (lv_at hl 4 rfl) ?_
                refine lv_iload hx hb dX9_paste_71 (lv_at hl 7 rfl) ?_
                refine cvS (n := 2) (As := [.int a1, .int a4]) (rest := []) ⟨hx, hb, hml, hown, hts⟩ uc_in (kX3_holds_3 l D C A u hI a1 A1 ha1 a4 A4 ha4) q_m1177 q_n1178 q_e1179 q_i5 q_c1180 hvX3_holds ⟨(Nat.le_of_ble_eq_true rfl), (Nat.le_of_ble_eq_true rfl)⟩ ⟨(Nat.le_of_ble_eq_true rfl), (Nat.le_of_ble_eq_true rfl)⟩ hK hH.1 3 11 rfl (cwc11 C A u) rfl hl.1 rfl (Nat.le_of_ble_eq_true rfl) dX9_paste_73 (fun r464 p465 => ?_)
                rcases p465 with ⟨e9, f466, f467, f468⟩ | ⟨e9, fn469⟩
                · subst e9
                  refine lv_if_eq (tgt := 91) hx hb dX9_paste_76 (by decide) (fun c470 => absurd c470 (by decide)) (fun c470 => ?_)
                  refine lv_aload hx hb dX9_paste_79 (lv_at hl 0 rfl) ?_
                  refine lv_iload hx hb dX9_paste_81 (lv_at hl 6 rfl) ?_
                  refine lv_iload hx hb dX9_paste_83 (lv_at hl 7 rfl) ?_
                  refine cvS (n := 2) (As := [.int a3, .int a4]) (rest := []) ⟨hx, hb, hml, hown, hts⟩ uc_in (kX3_holds_1 l D C A u hI a3 A3 ha3 a4 A4 ha4) q_m1177 q_n1178 q_e1179 q_i5 q_c1180 hvX3_holds ⟨(Nat.le_of_ble_eq_true rfl), (Nat.le_of_ble_eq_true rfl)⟩ ⟨(Nat.le_of_ble_eq_true rfl), (Nat.le_of_ble_eq_true rfl)⟩ hK hH.1 3 9 rfl (cwc9 C A u) rfl hl.1 rfl (Nat.le_of_ble_eq_true rfl) dX9_paste_85 (fun r471 p472 => ?_)
                  rcases p472 with ⟨e9, f473, f474, f475⟩ | ⟨e9, fn476⟩
                  · subst e9
                    refine lv_if_ne (tgt := 94) hx hb dX9_paste_88 (by decide) (fun c477 => ?_) (fun c477 => absurd c477 (by decide))
                    refine lv_aload hx hb dX9_paste_94 (lv_at hl 1 rfl) ?_
                    refine va_get (ci := 3) (v := .ref (A 42)) (C := RX3) (T := TX3) (N := 3) hx hb hts (fun w h => uc_in w (inX3 w h)) hown hK hH.1 11 (cwc11 C A u) rfl 2 (by decide) (hts _ (uc_in _ q_f201)) (fun _ h9 => h9) rfl dX9_paste_96 ?_
                    refine lv_iload_n hx hb dX9_paste_99 rfl (lv_at hl 4 rfl) ?_
                    refine lv_aload hx hb dX9_paste_100 (lv_at hl 0 rfl) ?_
                    refine va_get (ci := 3) (v := .ref (A 40)) (C := RX3) (T := TX3) (N := 3) hx hb hts (fun w h => uc_in w (inX3 w h)) hown hK hH.1 9 (cwc9 C A u) rfl 2 (by decide) (hts _ (uc_in _ q_f201)) (fun _ h9 => h9) rfl dX9_paste_102 ?_
                    refine lv_iload hx hb dX9_paste_105 (lv_at hl 6 rfl) ?_
                    refine lv_iload hx hb dX9_paste_107 (lv_at hl 7 rfl) ?_
                    refine r_copyl (j0 := 42) (j1 := 40) (S' := A1) (P' := A3) (N' := A4) hx hb (by rw [hml]; exact hl.1.symm) hown (hts _ (uc_in _ q_m1181)) (hts _ (uc_in _ q_t562)) (hts _ (uc_in _ q_s561)) (hts _ (uc_in _ q_i17)) hK hH 42 40 2 (cwc42 C A u) (cwc40 C A u) rfl ha1 ha3 ha4 (by omega) (by omega) (by omega) (by omega) (by omega) (cwb40 C A u) (Nat.le_of_ble_eq_true rfl) (Nat.le_of_ble_eq_true rfl) dX9_paste_109 (fun u478 eu478 H locs hH => ?_)
                    have hI := hI.pb_ eu478
                    refine lv_iconst (v := 0) hx hb dX9_paste_112 (by decide) ?_
                    exact hret _ _ _ _ (0 : Int32) _ dX9_paste_113 rfl ⟨hI, (Un.sb Un.rf rfl eu478), (Or.inr ⟨_, _, _, _, (Or.inr (Or.inr (Or.inr (⟨by omega, rfl, rfl⟩)))), (Or.inr (Or.inl (⟨by omega, rfl, rfl⟩))), (Or.inr (Or.inr (Or.inr (⟨rfl, by omega⟩))))⟩)⟩ hH
                  · subst e9
                    refine lv_if_ne (tgt := 94) hx hb dX9_paste_88 (by decide) (fun c479 => absurd c479 (by decide)) (fun c479 => ?_)
                    refine lv_bipush (v := (-7)) hx hb dX9_paste_91 (by decide) ?_
                    exact hret _ _ _ _ ((-7) : Int32) _ dX9_paste_93 rfl ⟨hI, Un.rf, (Or.inr ⟨_, _, _, _, (Or.inr (Or.inr (Or.inr (⟨by omega, rfl, rfl⟩)))), (Or.inr (Or.inl (⟨by omega, rfl, rfl⟩))), (Or.inr (Or.inr (Or.inl (⟨rfl, by omega⟩))))⟩)⟩ hH
                · subst e9
                  refine lv_if_eq (tgt := 91) hx hb dX9_paste_76 (by decide) (fun c480 => ?_) (fun c480 => absurd c480 (by decide))
                  refine lv_bipush (v := (-7)) hx hb dX9_paste_91 (by decide) ?_
                  exact hret _ _ _ _ ((-7) : Int32) _ dX9_paste_93 rfl ⟨hI, Un.rf, (Or.inr ⟨_, _, _, _, (Or.inr (Or.inr (Or.inr (⟨by omega, rfl, rfl⟩)))), (Or.inr (Or.inl (⟨by omega, rfl, rfl⟩))), (Or.inr (Or.inr (Or.inl (⟨rfl, by omega⟩))))⟩)⟩ hH
              · have c463 := cNE (x := (gi u 57)) (y := (gi u 53)) (X := ((gi u 57)).toInt) (Y := ((gi u 53)).toInt) rfl rfl c463
                refine lv_bipush (v := (-8)) hx hb dX9_paste_65 (by decide) ?_
                exact hret _ _ _ _ ((-8) : Int32) _ dX9_paste_67 rfl ⟨hI, Un.rf, (Or.inr ⟨_, _, _, _, (Or.inr (Or.inr (Or.inr (⟨by omega, rfl, rfl⟩)))), (Or.inr (Or.inl (⟨by omega, rfl, rfl⟩))), (Or.inr (Or.inl (⟨rfl, by omega⟩)))⟩)⟩ hH
            · subst e9
              refine lv_if_ne (tgt := 52) hx hb dX9_paste_46 (by decide) (fun c481 => absurd c481 (by decide)) (fun c481 => ?_)
              refine lv_bipush (v := (-6)) hx hb dX9_paste_49 (by decide) ?_
              exact hret _ _ _ _ ((-6) : Int32) _ dX9_paste_51 rfl ⟨hI, Un.rf, (Or.inr ⟨_, _, _, _, (Or.inr (Or.inr (Or.inr (⟨by omega, rfl, rfl⟩)))), (Or.inr (Or.inl (⟨by omega, rfl, rfl⟩))), (Or.inl (⟨rfl, by omega⟩))⟩)⟩ hH
          · subst e9
            refine lv_if_eq (tgt := 49) hx hb dX9_paste_38 (by decide) (fun c482 => ?_) (fun c482 => absurd c482 (by decide))
            refine lv_bipush (v := (-6)) hx hb dX9_paste_49 (by decide) ?_
            exact hret _ _ _ _ ((-6) : Int32) _ dX9_paste_51 rfl ⟨hI, Un.rf, (Or.inr ⟨_, _, _, _, (Or.inr (Or.inr (Or.inr (⟨by omega, rfl, rfl⟩)))), (Or.inr (Or.inl (⟨by omega, rfl, rfl⟩))), (Or.inl (⟨rfl, by omega⟩))⟩)⟩ hH
        · have e8 : a2 = 2 := i_lit ha2 (by rw [e9]; decide)
          subst e8
          have q8 : (2 : Int32).toInt = 2 := by decide
          refine r_aald hx hb hK hH.1 18 5 rfl (cwc18 C A u) rfl (i_ix (X := 2) (by decide) (by decide) (by decide)) dX9_paste_30 ?_
          refine pv_v (v := .ref (A 10)) rfl ?_
          refine lv_astore (lv' := [(7, .ref (A 10)), (6, .ref (A 11)), (0, .ref (A 0)), (1, .int 3), (2, .int a1), (3, .int 2), (4, .int a3), (5, .int a4)]) hx hb dX9_paste_31 hl (by decide) rfl (fun ls hl => ?_)
          refine lv_aload hx hb dX9_paste_33 (lv_at hl 1 rfl) ?_
          refine cvS (n := 0) (As := []) (rest := []) ⟨hx, hb, hml, hown, hts⟩ uc_in (kX3_isThere_3 l D C A u hI ) q_m914 q_n915 q_e916 q_i5 q_c917 hvX3_isThere ⟨(Nat.le_of_ble_eq_true rfl), (Nat.le_of_ble_eq_true rfl)⟩ ⟨(Nat.le_of_ble_eq_true rfl), (Nat.le_of_ble_eq_true rfl)⟩ hK hH.1 3 11 rfl (cwc11 C A u) rfl hl.1 rfl (Nat.le_of_ble_eq_true rfl) dX9_paste_35 (fun r483 p484 => ?_)
          rcases p484 with ⟨e9, f485⟩ | ⟨e9, fn487⟩
          · subst e9
            have b488 := hI.b56
            refine lv_if_eq (tgt := 49) hx hb dX9_paste_38 (by decide) (fun c489 => absurd c489 (by decide)) (fun c489 => ?_)
            refine lv_aload hx hb dX9_paste_41 (lv_at hl 0 rfl) ?_
            refine cvS (n := 0) (As := []) (rest := []) ⟨hx, hb, hml, hown, hts⟩ uc_in (kX3_isThere_2 l D C A u hI ) q_m914 q_n915 q_e916 q_i5 q_c917 hvX3_isThere ⟨(Nat.le_of_ble_eq_true rfl), (Nat.le_of_ble_eq_true rfl)⟩ ⟨(Nat.le_of_ble_eq_true rfl), (Nat.le_of_ble_eq_true rfl)⟩ hK hH.1 3 10 rfl (cwc10 C A u) rfl hl.1 rfl (Nat.le_of_ble_eq_true rfl) dX9_paste_43 (fun r490 p491 => ?_)
            rcases p491 with ⟨e9, f492⟩ | ⟨e9, fn494⟩
            · subst e9
              have b495 := hI.b54
              refine lv_if_ne (tgt := 52) hx hb dX9_paste_46 (by decide) (fun c496 => ?_) (fun c496 => absurd c496 (by decide))
              refine lv_aload hx hb dX9_paste_52 (lv_at hl 1 rfl) ?_
              refine va_get (ci := 3) (v := .int (gi u 57)) (C := RX3) (T := TX3) (N := 3) hx hb hts (fun w h => uc_in w (inX3 w h)) hown hK hH.1 11 (cwc11 C A u) rfl 1 (by decide) (hts _ (uc_in _ q_f197)) (fun _ h9 => h9) rfl dX9_paste_54 ?_
              refine lv_aload hx hb dX9_paste_57 (lv_at hl 0 rfl) ?_
              refine va_get (ci := 3) (v := .int (gi u 55)) (C := RX3) (T := TX3) (N := 3) hx hb hts (fun w h => uc_in w (inX3 w h)) hown hK hH.1 10 (cwc10 C A u) rfl 1 (by decide) (hts _ (uc_in _ q_f197)) (fun _ h9 => h9) rfl dX9_paste_59 ?_
              refine lv_icmp_eq (tgt := 68) hx hb dX9_paste_62 (by decide) (fun c497 => ?_) (fun c497 => ?_)
              · have c497 := cEQ (x := (gi u 57)) (y := (gi u 55)) (X := ((gi u 57)).toInt) (Y := ((gi u 55)).toInt) rfl rfl c497
                refine lv_aload hx hb dX9_paste_68 (lv_at hl 1 rfl) ?_
                refine lv_iload_n hx hb dX9_paste_70 rfl (lv_at hl 4 rfl) ?_
                refine lv_iload hx hb dX9_paste_71 (lv_at hl 7 rfl) ?_
                refine cvS (n := 2) (As := [.int a1, .int a4]) (rest := []) ⟨hx, hb, hml, hown, hts⟩ uc_in (kX3_holds_3 l D C A u hI a1 A1 ha1 a4 A4 ha4) q_m1177 q_n1178 q_e1179 q_i5 q_c1180 hvX3_holds ⟨(Nat.le_of_ble_eq_true rfl), (Nat.le_of_ble_eq_true rfl)⟩ ⟨(Nat.le_of_ble_eq_true rfl), (Nat.le_of_ble_eq_true rfl)⟩ hK hH.1 3 11 rfl (cwc11 C A u) rfl hl.1 rfl (Nat.le_of_ble_eq_true rfl) dX9_paste_73 (fun r498 p499 => ?_)
                rcases p499 with ⟨e9, f500, f501, f502⟩ | ⟨e9, fn503⟩
                · subst e9
                  refine lv_if_eq (tgt := 91) hx hb dX9_paste_76 (by decide) (fun c504 => absurd c504 (by decide)) (fun c504 => ?_)
                  refine lv_aload hx hb dX9_paste_79 (lv_at hl 0 rfl) ?_
                  refine lv_iload hx hb dX9_paste_81 (lv_at hl 6 rfl) ?_
                  refine lv_iload hx hb dX9_paste_83 (lv_at hl 7 rfl) ?_
                  refine cvS (n := 2) (As := [.int a3, .int a4]) (rest := []) ⟨hx, hb, hml, hown, hts⟩ uc_in (kX3_holds_2 l D C A u hI a3 A3 ha3 a4 A4 ha4) q_m1177 q_n1178 q_e1179 q_i5 q_c1180 hvX3_holds ⟨(Nat.le_of_ble_eq_true rfl), (Nat.le_of_ble_eq_true rfl)⟩ ⟨(Nat.le_of_ble_eq_true rfl), (Nat.le_of_ble_eq_true rfl)⟩ hK hH.1 3 10 rfl (cwc10 C A u) rfl hl.1 rfl (Nat.le_of_ble_eq_true rfl) dX9_paste_85 (fun r505 p506 => ?_)
                  rcases p506 with ⟨e9, f507, f508, f509⟩ | ⟨e9, fn510⟩
                  · subst e9
                    refine lv_if_ne (tgt := 94) hx hb dX9_paste_88 (by decide) (fun c511 => ?_) (fun c511 => absurd c511 (by decide))
                    refine lv_aload hx hb dX9_paste_94 (lv_at hl 1 rfl) ?_
                    refine va_get (ci := 3) (v := .ref (A 42)) (C := RX3) (T := TX3) (N := 3) hx hb hts (fun w h => uc_in w (inX3 w h)) hown hK hH.1 11 (cwc11 C A u) rfl 2 (by decide) (hts _ (uc_in _ q_f201)) (fun _ h9 => h9) rfl dX9_paste_96 ?_
                    refine lv_iload_n hx hb dX9_paste_99 rfl (lv_at hl 4 rfl) ?_
                    refine lv_aload hx hb dX9_paste_100 (lv_at hl 0 rfl) ?_
                    refine va_get (ci := 3) (v := .ref (A 41)) (C := RX3) (T := TX3) (N := 3) hx hb hts (fun w h => uc_in w (inX3 w h)) hown hK hH.1 10 (cwc10 C A u) rfl 2 (by decide) (hts _ (uc_in _ q_f201)) (fun _ h9 => h9) rfl dX9_paste_102 ?_
                    refine lv_iload hx hb dX9_paste_105 (lv_at hl 6 rfl) ?_
                    refine lv_iload hx hb dX9_paste_107 (lv_at hl 7 rfl) ?_
                    refine r_copyl (j0 := 42) (j1 := 41) (S' := A1) (P' := A3) (N' := A4) hx hb (by rw [hml]; exact hl.1.symm) hown (hts _ (uc_in _ q_m1181)) (hts _ (uc_in _ q_t562)) (hts _ (uc_in _ q_s561)) (hts _ (uc_in _ q_i17)) hK hH 42 41 2 (cwc42 C A u) (cwc41 C A u) rfl ha1 ha3 ha4 (by omega) (by omega) (by omega) (by omega) (by omega) (cwb41 C A u) (Nat.le_of_ble_eq_true rfl) (Nat.le_of_ble_eq_true rfl) dX9_paste_109 (fun u512 eu512 H locs hH => ?_)
                    have hI := hI.pb_ eu512
                    refine lv_iconst (v := 0) hx hb dX9_paste_112 (by decide) ?_
                    exact hret _ _ _ _ (0 : Int32) _ dX9_paste_113 rfl ⟨hI, (Un.sb Un.rf rfl eu512), (Or.inr ⟨_, _, _, _, (Or.inr (Or.inr (Or.inr (⟨by omega, rfl, rfl⟩)))), (Or.inr (Or.inr (Or.inl (⟨by omega, rfl, rfl⟩)))), (Or.inr (Or.inr (Or.inr (⟨rfl, by omega⟩))))⟩)⟩ hH
                  · subst e9
                    refine lv_if_ne (tgt := 94) hx hb dX9_paste_88 (by decide) (fun c513 => absurd c513 (by decide)) (fun c513 => ?_)
                    refine lv_bipush (v := (-7)) hx hb dX9_paste_91 (by decide) ?_
                    exact hret _ _ _ _ ((-7) : Int32) _ dX9_paste_93 rfl ⟨hI, Un.rf, (Or.inr ⟨_, _, _, _, (Or.inr (Or.inr (Or.inr (⟨by omega, rfl, rfl⟩)))), (Or.inr (Or.inr (Or.inl (⟨by omega, rfl, rfl⟩)))), (Or.inr (Or.inr (Or.inl (⟨rfl, by omega⟩))))⟩)⟩ hH
                · subst e9
                  refine lv_if_eq (tgt := 91) hx hb dX9_paste_76 (by decide) (fun c514 => ?_) (fun c514 => absurd c514 (by decide))
                  refine lv_bipush (v := (-7)) hx hb dX9_paste_91 (by decide) ?_
                  exact hret _ _ _ _ ((-7) : Int32) _ dX9_paste_93 rfl ⟨hI, Un.rf, (Or.inr ⟨_, _, _, _, (Or.inr (Or.inr (Or.inr (⟨by omega, rfl, rfl⟩)))), (Or.inr (Or.inr (Or.inl (⟨by omega, rfl, rfl⟩)))), (Or.inr (Or.inr (Or.inl (⟨rfl, by omega⟩))))⟩)⟩ hH
              · have c497 := cNE (x := (gi u 57)) (y := (gi u 55)) (X := ((gi u 57)).toInt) (Y := ((gi u 55)).toInt) rfl rfl c497
                refine lv_bipush (v := (-8)) hx hb dX9_paste_65 (by decide) ?_
                exact hret _ _ _ _ ((-8) : Int32) _ dX9_paste_67 rfl ⟨hI, Un.rf, (Or.inr ⟨_, _, _, _, (Or.inr (Or.inr (Or.inr (⟨by omega, rfl, rfl⟩)))), (Or.inr (Or.inr (Or.inl (⟨by omega, rfl, rfl⟩)))), (Or.inr (Or.inl (⟨rfl, by omega⟩)))⟩)⟩ hH
            · subst e9
              refine lv_if_ne (tgt := 52) hx hb dX9_paste_46 (by decide) (fun c515 => absurd c515 (by decide)) (fun c515 => ?_)
              refine lv_bipush (v := (-6)) hx hb dX9_paste_49 (by decide) ?_
              exact hret _ _ _ _ ((-6) : Int32) _ dX9_paste_51 rfl ⟨hI, Un.rf, (Or.inr ⟨_, _, _, _, (Or.inr (Or.inr (Or.inr (⟨by omega, rfl, rfl⟩)))), (Or.inr (Or.inr (Or.inl (⟨by omega, rfl, rfl⟩)))), (Or.inl (⟨rfl, by omega⟩))⟩)⟩ hH
          · subst e9
            refine lv_if_eq (tgt := 49) hx hb dX9_paste_38 (by decide) (fun c516 => ?_) (fun c516 => absurd c516 (by decide))
            refine lv_bipush (v := (-6)) hx hb dX9_paste_49 (by decide) ?_
            exact hret _ _ _ _ ((-6) : Int32) _ dX9_paste_51 rfl ⟨hI, Un.rf, (Or.inr ⟨_, _, _, _, (Or.inr (Or.inr (Or.inr (⟨by omega, rfl, rfl⟩)))), (Or.inr (Or.inr (Or.inl (⟨by omega, rfl, rfl⟩)))), (Or.inl (⟨rfl, by omega⟩))⟩)⟩ hH
        · have e8 : a2 = 3 := i_lit ha2 (by rw [e9]; decide)
          subst e8
          have q8 : (3 : Int32).toInt = 3 := by decide
          refine r_aald hx hb hK hH.1 18 5 rfl (cwc18 C A u) rfl (i_ix (X := 3) (by decide) (by decide) (by decide)) dX9_paste_30 ?_
          refine pv_v (v := .ref (A 11)) rfl ?_
          refine lv_astore (lv' := [(7, .ref (A 11)), (6, .ref (A 11)), (0, .ref (A 0)), (1, .int 3), (2, .int a1), (3, .int 3), (4, .int a3), (5, .int a4)]) hx hb dX9_paste_31 hl (by decide) rfl (fun ls hl => ?_)
          refine lv_aload hx hb dX9_paste_33 (lv_at hl 1 rfl) ?_
          refine cvS (n := 0) (As := []) (rest := []) ⟨hx, hb, hml, hown, hts⟩ uc_in (kX3_isThere_3 l D C A u hI ) q_m914 q_n915 q_e916 q_i5 q_c917 hvX3_isThere ⟨(Nat.le_of_ble_eq_true rfl), (Nat.le_of_ble_eq_true rfl)⟩ ⟨(Nat.le_of_ble_eq_true rfl), (Nat.le_of_ble_eq_true rfl)⟩ hK hH.1 3 11 rfl (cwc11 C A u) rfl hl.1 rfl (Nat.le_of_ble_eq_true rfl) dX9_paste_35 (fun r517 p518 => ?_)
          rcases p518 with ⟨e9, f519⟩ | ⟨e9, fn521⟩
          · subst e9
            have b522 := hI.b56
            refine lv_if_eq (tgt := 49) hx hb dX9_paste_38 (by decide) (fun c523 => absurd c523 (by decide)) (fun c523 => ?_)
            refine lv_aload hx hb dX9_paste_41 (lv_at hl 0 rfl) ?_
            refine cvS (n := 0) (As := []) (rest := []) ⟨hx, hb, hml, hown, hts⟩ uc_in (kX3_isThere_3 l D C A u hI ) q_m914 q_n915 q_e916 q_i5 q_c917 hvX3_isThere ⟨(Nat.le_of_ble_eq_true rfl), (Nat.le_of_ble_eq_true rfl)⟩ ⟨(Nat.le_of_ble_eq_true rfl), (Nat.le_of_ble_eq_true rfl)⟩ hK hH.1 3 11 rfl (cwc11 C A u) rfl hl.1 rfl (Nat.le_of_ble_eq_true rfl) dX9_paste_43 (fun r524 p525 => ?_)
            rcases p525 with ⟨e9, f526⟩ | ⟨e9, fn527⟩
            · subst e9
              refine lv_if_ne (tgt := 52) hx hb dX9_paste_46 (by decide) (fun c528 => ?_) (fun c528 => absurd c528 (by decide))
              refine lv_aload hx hb dX9_paste_52 (lv_at hl 1 rfl) ?_
              refine va_get (ci := 3) (v := .int (gi u 57)) (C := RX3) (T := TX3) (N := 3) hx hb hts (fun w h => uc_in w (inX3 w h)) hown hK hH.1 11 (cwc11 C A u) rfl 1 (by decide) (hts _ (uc_in _ q_f197)) (fun _ h9 => h9) rfl dX9_paste_54 ?_
              refine lv_aload hx hb dX9_paste_57 (lv_at hl 0 rfl) ?_
              refine va_get (ci := 3) (v := .int (gi u 57)) (C := RX3) (T := TX3) (N := 3) hx hb hts (fun w h => uc_in w (inX3 w h)) hown hK hH.1 11 (cwc11 C A u) rfl 1 (by decide) (hts _ (uc_in _ q_f197)) (fun _ h9 => h9) rfl dX9_paste_59 ?_
              refine lv_icmp_eq (tgt := 68) hx hb dX9_paste_62 (by decide) (fun c529 => ?_) (fun c529 => ?_)
              · have c529 := cEQ (x := (gi u 57)) (y := (gi u 57)) (X := ((gi u 57)).toInt) (Y := ((gi u 57)).toInt) rfl rfl c529
                refine lv_aload hx hb dX9_paste_68 (lv_at hl 1 rfl) ?_
                refine lv_iload_n hx hb dX9_paste_70 rfl (lv_at hl 4 rfl) ?_
                refine lv_iload hx hb dX9_paste_71 (lv_at hl 7 rfl) ?_
                refine cvS (n := 2) (As := [.int a1, .int a4]) (rest := []) ⟨hx, hb, hml, hown, hts⟩ uc_in (kX3_holds_3 l D C A u hI a1 A1 ha1 a4 A4 ha4) q_m1177 q_n1178 q_e1179 q_i5 q_c1180 hvX3_holds ⟨(Nat.le_of_ble_eq_true rfl), (Nat.le_of_ble_eq_true rfl)⟩ ⟨(Nat.le_of_ble_eq_true rfl), (Nat.le_of_ble_eq_true rfl)⟩ hK hH.1 3 11 rfl (cwc11 C A u) rfl hl.1 rfl (Nat.le_of_ble_eq_true rfl) dX9_paste_73 (fun r530 p531 => ?_)
                rcases p531 with ⟨e9, f532, f533, f534⟩ | ⟨e9, fn535⟩
                · subst e9
                  refine lv_if_eq (tgt := 91) hx hb dX9_paste_76 (by decide) (fun c536 => absurd c536 (by decide)) (fun c536 => ?_)
                  refine lv_aload hx hb dX9_paste_79 (lv_at hl 0 rfl) ?_
                  refine lv_iload hx hb dX9_paste_81 (lv_at hl 6 rfl) ?_
                  refine lv_iload hx hb dX9_paste_83 (lv_at hl 7 rfl) ?_
                  refine cvS (n := 2) (As := [.int a3, .int a4]) (rest := []) ⟨hx, hb, hml, hown, hts⟩ uc_in (kX3_holds_3 l D C A u hI a3 A3 ha3 a4 A4 ha4) q_m1177 q_n1178 q_e1179 q_i5 q_c1180 hvX3_holds ⟨(Nat.le_of_ble_eq_true rfl), (Nat.le_of_ble_eq_true rfl)⟩ ⟨(Nat.le_of_ble_eq_true rfl), (Nat.le_of_ble_eq_true rfl)⟩ hK hH.1 3 11 rfl (cwc11 C A u) rfl hl.1 rfl (Nat.le_of_ble_eq_true rfl) dX9_paste_85 (fun r537 p538 => ?_)
                  rcases p538 with ⟨e9, f539, f540, f541⟩ | ⟨e9, fn542⟩
                  · subst e9
                    refine lv_if_ne (tgt := 94) hx hb dX9_paste_88 (by decide) (fun c543 => ?_) (fun c543 => absurd c543 (by decide))
                    refine lv_aload hx hb dX9_paste_94 (lv_at hl 1 rfl) ?_
                    refine va_get (ci := 3) (v := .ref (A 42)) (C := RX3) (T := TX3) (N := 3) hx hb hts (fun w h => uc_in w (inX3 w h)) hown hK hH.1 11 (cwc11 C A u) rfl 2 (by decide) (hts _ (uc_in _ q_f201)) (fun _ h9 => h9) rfl dX9_paste_96 ?_
                    refine lv_iload_n hx hb dX9_paste_99 rfl (lv_at hl 4 rfl) ?_
                    refine lv_aload hx hb dX9_paste_100 (lv_at hl 0 rfl) ?_
                    refine va_get (ci := 3) (v := .ref (A 42)) (C := RX3) (T := TX3) (N := 3) hx hb hts (fun w h => uc_in w (inX3 w h)) hown hK hH.1 11 (cwc11 C A u) rfl 2 (by decide) (hts _ (uc_in _ q_f201)) (fun _ h9 => h9) rfl dX9_paste_102 ?_
                    refine lv_iload hx hb dX9_paste_105 (lv_at hl 6 rfl) ?_
                    refine lv_iload hx hb dX9_paste_107 (lv_at hl 7 rfl) ?_
                    refine r_copyl (j0 := 42) (j1 := 42) (S' := A1) (P' := A3) (N' := A4) hx hb (by rw [hml]; exact hl.1.symm) hown (hts _ (uc_in _ q_m1181)) (hts _ (uc_in _ q_t562)) (hts _ (uc_in _ q_s561)) (hts _ (uc_in _ q_i17)) hK hH 42 42 2 (cwc42 C A u) (cwc42 C A u) rfl ha1 ha3 ha4 (by omega) (by omega) (by omega) (by omega) (by omega) (cwb42 C A u) (Nat.le_of_ble_eq_true rfl) (Nat.le_of_ble_eq_true rfl) dX9_paste_109 (fun u544 eu544 H locs hH => ?_)
                    have hI := hI.pb_ eu544
                    refine lv_iconst (v := 0) hx hb dX9_paste_112 (by decide) ?_
                    exact hret _ _ _ _ (0 : Int32) _ dX9_paste_113 rfl ⟨hI, (Un.sb Un.rf rfl eu544), (Or.inr ⟨_, _, _, _, (Or.inr (Or.inr (Or.inr (⟨by omega, rfl, rfl⟩)))), (Or.inr (Or.inr (Or.inr (⟨by omega, rfl, rfl⟩)))), (Or.inr (Or.inr (Or.inr (⟨rfl, by omega⟩))))⟩)⟩ hH
                  · subst e9
                    refine lv_if_ne (tgt := 94) hx hb dX9_paste_88 (by decide) (fun c545 => absurd c545 (by decide)) (fun c545 => ?_)
                    refine lv_bipush (v := (-7)) hx hb dX9_paste_91 (by decide) ?_
                    exact hret _ _ _ _ ((-7) : Int32) _ dX9_paste_93 rfl ⟨hI, Un.rf, (Or.inr ⟨_, _, _, _, (Or.inr (Or.inr (Or.inr (⟨by omega, rfl, rfl⟩)))), (Or.inr (Or.inr (Or.inr (⟨by omega, rfl, rfl⟩)))), (Or.inr (Or.inr (Or.inl (⟨rfl, by omega⟩))))⟩)⟩ hH
                · subst e9
                  refine lv_if_eq (tgt := 91) hx hb dX9_paste_76 (by decide) (fun c546 => ?_) (fun c546 => absurd c546 (by decide))
                  refine lv_bipush (v := (-7)) hx hb dX9_paste_91 (by decide) ?_
                  exact hret _ _ _ _ ((-7) : Int32) _ dX9_paste_93 rfl ⟨hI, Un.rf, (Or.inr ⟨_, _, _, _, (Or.inr (Or.inr (Or.inr (⟨by omega, rfl, rfl⟩)))), (Or.inr (Or.inr (Or.inr (⟨by omega, rfl, rfl⟩)))), (Or.inr (Or.inr (Or.inl (⟨rfl, by omega⟩))))⟩)⟩ hH
              · have c529 := cNE (x := (gi u 57)) (y := (gi u 57)) (X := ((gi u 57)).toInt) (Y := ((gi u 57)).toInt) rfl rfl c529
                refine lv_bipush (v := (-8)) hx hb dX9_paste_65 (by decide) ?_
                exact hret _ _ _ _ ((-8) : Int32) _ dX9_paste_67 rfl ⟨hI, Un.rf, (Or.inr ⟨_, _, _, _, (Or.inr (Or.inr (Or.inr (⟨by omega, rfl, rfl⟩)))), (Or.inr (Or.inr (Or.inr (⟨by omega, rfl, rfl⟩)))), (Or.inr (Or.inl (⟨rfl, by omega⟩)))⟩)⟩ hH
            · subst e9
              refine lv_if_ne (tgt := 52) hx hb dX9_paste_46 (by decide) (fun c547 => absurd c547 (by decide)) (fun c547 => ?_)
              refine lv_bipush (v := (-6)) hx hb dX9_paste_49 (by decide) ?_
              exact hret _ _ _ _ ((-6) : Int32) _ dX9_paste_51 rfl ⟨hI, Un.rf, (Or.inr ⟨_, _, _, _, (Or.inr (Or.inr (Or.inr (⟨by omega, rfl, rfl⟩)))), (Or.inr (Or.inr (Or.inr (⟨by omega, rfl, rfl⟩)))), (Or.inl (⟨rfl, by omega⟩))⟩)⟩ hH
          · subst e9
            refine lv_if_eq (tgt := 49) hx hb dX9_paste_38 (by decide) (fun c548 => ?_) (fun c548 => absurd c548 (by decide))
            refine lv_bipush (v := (-6)) hx hb dX9_paste_49 (by decide) ?_
            exact hret _ _ _ _ ((-6) : Int32) _ dX9_paste_51 rfl ⟨hI, Un.rf, (Or.inr ⟨_, _, _, _, (Or.inr (Or.inr (Or.inr (⟨by omega, rfl, rfl⟩)))), (Or.inr (Or.inr (Or.inr (⟨by omega, rfl, rfl⟩)))), (Or.inl (⟨rfl, by omega⟩))⟩)⟩ hH
    · subst e9
      refine lv_if_ne (tgt := 17) hx hb dX9_paste_11 (by decide) (fun c549 => absurd c549 (by decide)) (fun c549 => ?_)
      refine lv_bipush (v := (-2)) hx hb dX9_paste_14 (by decide) ?_
      exact hret _ _ _ _ ((-2) : Int32) _ dX9_paste_16 rfl ⟨hI, Un.rf, (Or.inl (⟨rfl, by omega⟩))⟩ hH
  · subst e9
    refine lv_if_eq (tgt := 14) hx hb dX9_paste_4 (by decide) (fun c550 => ?_) (fun c550 => absurd c550 (by decide))
    refine lv_bipush (v := (-2)) hx hb dX9_paste_14 (by decide) ?_
    exact hret _ _ _ _ ((-2) : Int32) _ dX9_paste_16 rfl ⟨hI, Un.rf, (Or.inl (⟨rfl, by omega⟩))⟩ hH
