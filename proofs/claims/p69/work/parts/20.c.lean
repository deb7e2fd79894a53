set_option maxHeartbeats 4000000 in
set_option maxRecDepth 100000 in
theorem kX9_isDay_0 (l : Launch) (D : va_G) (C : Nat → ClassId) (A : Nat → Nat) (u : St) (hI : IC u) (a0 : Int32) (A0 : Int) (ha0 : a0.toInt = A0) : Met l yX9_isDay (uc yX9_isDay cX9_isDay 2 (some .boolean)) (rmL 1 0 0) (va_Pc [.ref (A 0), .int a0] (PreR D (tyl C) (cw C A u))) (vp_Si (fun r => (r = 1 ∧ 0 ≤ A0 ∧ A0 < (gi u 48).toInt) ∨ r = 0)) 0 0 (fun _ => False) := by
  refine mS (by decide) (Nat.le_of_ble_eq_true rfl) ?_
  intro p e s m below meth c ls ar Q hx hb hml hown hts hK hP hl hret
  have hown : s.vm.findClass RX9 = some m.cls := hown
  have hl : lv_has ls 2 [(0, .ref (A 0)), (1, .int a0)] := hl
  refine lv_iload_n hx hb dX9_isDay_0 rfl (lv_at hl 1 rfl) ?_
  refine lv_if_lt (tgt := 19) hx hb dX9_isDay_1 (by decide) (fun c1 => ?_) (fun c1 => ?_)
  · have c1 := cLT (x := a0) (y := 0) (X := A0) (Y := 0) ha0 (by decide) c1
    refine lv_iconst (v := 0) hx hb dX9_isDay_19 (by decide) ?_
    exact hret _ _ (0 : Int32) dX9_isDay_20 rfl (Or.inr rfl)
  · have c1 := cNLT (x := a0) (y := 0) (X := A0) (Y := 0) ha0 (by decide) c1
    refine lv_iload_n hx hb dX9_isDay_4 rfl (lv_at hl 1 rfl) ?_
    refine lv_aload_n hx hb dX9_isDay_5 rfl (lv_at hl 0 rfl) ?_
    refine va_get (ci := 9) (v := .ref (A 7)) (C := RX9) (T := TX9) (N := 12) hx hb hts (fun w h => uc_in w (inX9 w h)) hown hK hP 0 (cwc0 C A u) rfl 5 (by decide) (hts _ (uc_in _ q_f388)) (fun _ h9 => h9) rfl dX9_isDay_6 ?_
    refine va_get (ci := 5) (v := .int (gi u 48)) (C := RX5) (T := TX5) (N := 4) hx hb hts (fun w h => uc_in w (inX5 w h)) hown hK hP 7 (cwc7 C A u) rfl 0 (by decide) (hts _ (uc_in _ q_f164)) (fun _ h9 => h9) rfl dX9_isDay_9 ?_
    have b2 := hI.b48
    refine lv_icmp_ge (tgt := 19) hx hb dX9_isDay_12 (by decide) (fun c3 => ?_) (fun c3 => ?_)
    · have c3 := cLE (x := (gi u 48)) (y := a0) (X := ((gi u 48)).toInt) (Y := A0) rfl ha0 c3
      refine lv_iconst (v := 0) hx hb dX9_isDay_19 (by decide) ?_
      exact hret _ _ (0 : Int32) dX9_isDay_20 rfl (Or.inr rfl)
    · have c3 := cNLE (x := (gi u 48)) (y := a0) (X := ((gi u 48)).toInt) (Y := A0) rfl ha0 c3
      refine lv_iconst (v := 1) hx hb dX9_isDay_15 (by decide) ?_
      refine lv_goto (tgt := 20) hx hb dX9_isDay_16 (by decide) ?_
      exact hret _ _ (1 : Int32) dX9_isDay_20 rfl (Or.inl ⟨rfl, by omega, by omega⟩)
set_option maxHeartbeats 4000000 in
set_option maxRecDepth 100000 in
theorem kX5_lastOf_0 (l : Launch) (D : va_G) (C : Nat → ClassId) (A : Nat → Nat) (u : St) (hI : IC u) (q0 : Nat) (hq0 : q0 < 109) (a1 : Int32) (A1 : Int) (ha1 : a1.toInt = A1) : Met l yX5_lastOf (uc yX5_lastOf cX5_lastOf 5 (some .int)) (rmL 1 0 0) (va_Pc [.ref (A (52 + q0)), .int a1] (PreR D (tyl C) (cw C A u))) (vp_Si (fun r => (-1) ≤ r.toInt ∧ r.toInt ≤ 5)) 0 0 (fun _ => False) := by
  refine mS (by decide) (Nat.le_of_ble_eq_true rfl) ?_
  intro p e s m below meth c ls ar Q hx hb hml hown hts hK hP hl hret
  have hown : s.vm.findClass RX5 = some m.cls := hown
  have hl : lv_has ls 5 [(0, .ref (A (52 + q0))), (1, .int a1)] := hl
  refine lv_iconst (v := (-1)) hx hb dX5_lastOf_0 (by decide) ?_
  refine lv_istore_n (lv' := [(2, .int (-1)), (0, .ref (A (52 + q0))), (1, .int a1)]) hx hb dX5_lastOf_1 rfl hl (by decide) rfl (fun ls hl => ?_)
  refine lv_iconst (v := 0) hx hb dX5_lastOf_2 (by decide) ?_
  refine lv_istore_n (lv' := [(3, .int 0), (2, .int (-1)), (0, .ref (A (52 + q0))), (1, .int a1)]) hx hb dX5_lastOf_3 rfl hl (by decide) rfl (fun ls hl => ?_)
  have lp4_76 : ∀ (n4 : Nat) (ls : Array Slot) (y75d : Int32) (y76d : Int32), 0 ≤ y75d.toInt → y75d.toInt ≤ 6 → (-1) ≤ y76d.toInt → y76d.toInt ≤ 5 → 6 - y75d.toInt < (n4 : Int) → lv_has ls 5 [(3, .int y75d), (2, .int y76d), (0, .ref (A (52 + q0))), (1, .int a1)] → W p l e (rmL 1 0 0) s m ar below meth c s.heap [] 0 0 Q (F0 m 4 ls []) := by
    intro n4
    induction n4 with
    | zero => intro ls y75d y76d ly75d my75d ly76d my76d hmun4 hl; exfalso; omega
    | succ n4 ih4_76 =>
      intro ls y75d y76d ly75d my75d ly76d my76d hmun4 hl
      refine lv_iload_n hx hb dX5_lastOf_4 rfl (lv_at hl 0 rfl) ?_
      refine lv_bipush (v := 6) hx hb dX5_lastOf_5 (by decide) ?_
      refine lv_icmp_ge (tgt := 53) hx hb dX5_lastOf_7 (by decide) (fun c78 => ?_) (fun c78 => ?_)
      · have c78 := cLE (x := 6) (y := y75d) (X := 6) (Y := y75d.toInt) (by decide) rfl c78
        refine lv_iload_n hx hb dX5_lastOf_53 rfl (lv_at hl 1 rfl) ?_
        exact hret _ _ y76d dX5_lastOf_54 rfl ⟨by omega, by omega⟩
      · have c78 := cNLE (x := 6) (y := y75d) (X := 6) (Y := y75d.toInt) (by decide) rfl c78
        refine lv_iload_n hx hb dX5_lastOf_10 rfl (lv_at hl 3 rfl) ?_
        refine lv_iload_n hx hb dX5_lastOf_11 rfl (lv_at hl 0 rfl) ?_
        refine lv_ishr hx hb dX5_lastOf_12 ?_
        refine p_any (fun z79 => ?_)
        refine lv_iconst (v := 1) hx hb dX5_lastOf_13 (by decide) ?_
        refine lv_iand hx hb dX5_lastOf_14 ?_
        refine p_bd (P := fun q => 0 ≤ q ∧ q ≤ 1) (tt_andR (Y := 1) (by decide) (by decide)) (fun z80 bz80 => ?_)
        have bz80 : 0 ≤ z80.toInt ∧ z80.toInt ≤ 1 := bz80
        refine lv_iconst (v := 1) hx hb dX5_lastOf_15 (by decide) ?_
        have j24_90 : ∀ (ls : Array Slot) (y82d : Int32), 0 ≤ y82d.toInt → y82d.toInt ≤ 1 → lv_has ls 5 [(3, .int y75d), (2, .int y76d), (0, .ref (A (52 + q0))), (1, .int a1)] → W p l e (rmL 1 0 0) s m ar below meth c s.heap [] 0 0 Q (F0 m 24 ls [.int y82d]) := by
          intro ls y82d ly82d my82d hl
          refine lv_istore (lv' := [(4, .int y82d), (3, .int y75d), (2, .int y76d), (0, .ref (A (52 + q0))), (1, .int a1)]) hx hb dX5_lastOf_24 hl (by decide) rfl (fun ls hl => ?_)
          refine lv_iload hx hb dX5_lastOf_26 (lv_at hl 0 rfl) ?_
          have j47_99 : ∀ (ls : Array Slot) (y97d : Int32), (-1) ≤ y97d.toInt → y97d.toInt ≤ 5 → lv_has ls 5 [(3, .int y75d), (2, .int y97d), (0, .ref (A (52 + q0))), (1, .int a1)] → W p l e (rmL 1 0 0) s m ar below meth c s.heap [] 0 0 Q (F0 m 47 ls []) := by
            intro ls y97d ly97d my97d hl
            obtain ⟨z101, ez101⟩ : ∃ z, z = y75d + Int32.ofInt 1 := ⟨_, rfl⟩
            have hz101 : z101.toInt = y75d.toInt + 1 := by rw [ez101]; exact tt_add rfl (by decide) (by omega) (by omega)
            refine lv_iinc (v := z101) (lv' := [(3, .int z101), (2, .int y97d), (0, .ref (A (52 + q0))), (1, .int a1)]) hx hb dX5_lastOf_47 hl (k := 0) rfl ez101.symm (by decide) rfl (fun ls hl => ?_)
            refine lv_goto (tgt := 4) hx hb dX5_lastOf_50 (by decide) ?_
            exact ih4_76 ls z101 y97d (by have q9 := (show z101.toInt = (y75d.toInt + 1) from hz101); omega) (by have q9 := (show z101.toInt = (y75d.toInt + 1) from hz101); omega) (by omega) (by omega) (by have q9 := (show z101.toInt = (y75d.toInt + 1) from hz101); omega) hl
          refine lv_if_eq (tgt := 47) hx hb dX5_lastOf_28 (by decide) (fun c92 => ?_) (fun c92 => ?_)
          · have c92 := cEQ (x := y82d) (y := 0) (X := y82d.toInt) (Y := 0) rfl (by decide) c92
            exact j47_99 ls y76d (by omega) (by omega) (lv_sub hl [1, 2, 3, 4] rfl)
          · have c92 := cNE (x := y82d) (y := 0) (X := y82d.toInt) (Y := 0) rfl (by decide) c92
            refine lv_iload_n hx hb dX5_lastOf_31 rfl (lv_at hl 2 rfl) ?_
            refine lv_iconst (v := (-1)) hx hb dX5_lastOf_32 (by decide) ?_
            have j45_106 : ∀ (ls : Array Slot), lv_has ls 5 [(3, .int y75d), (0, .ref (A (52 + q0))), (1, .int a1)] → W p l e (rmL 1 0 0) s m ar below meth c s.heap [] 0 0 Q (F0 m 45 ls []) := by
              intro ls hl
              refine lv_iload_n hx hb dX5_lastOf_45 rfl (lv_at hl 0 rfl) ?_
              refine lv_istore_n (lv' := [(2, .int y75d), (3, .int y75d), (0, .ref (A (52 + q0))), (1, .int a1)]) hx hb dX5_lastOf_46 rfl hl (by decide) rfl (fun ls hl => ?_)
              exact j47_99 ls y75d (by omega) (by omega) (lv_sub hl [1, 0, 2, 3] rfl)
            refine lv_icmp_eq (tgt := 45) hx hb dX5_lastOf_33 (by decide) (fun c102 => ?_) (fun c102 => ?_)
            · have c102 := cEQ (x := y76d) (y := (-1)) (X := y76d.toInt) (Y := (-1)) rfl (by decide) c102
              exact j45_106 ls (lv_sub hl [1, 3, 4] rfl)
            · have c102 := cNE (x := y76d) (y := (-1)) (X := y76d.toInt) (Y := (-1)) rfl (by decide) c102
              refine lv_aload_n hx hb dX5_lastOf_36 rfl (lv_at hl 3 rfl) ?_
              refine lv_iload_n hx hb dX5_lastOf_37 rfl (lv_at hl 1 rfl) ?_
              refine va_iald hx hb hK hP (52 + q0) 1 (cwp C A u q0 hq0) rfl (i_ix rfl (by omega) (by omega)) dX5_lastOf_38 ?_
              refine p_any (fun z108 => ?_)
              refine lv_aload_n hx hb dX5_lastOf_39 rfl (lv_at hl 3 rfl) ?_
              refine lv_iload_n hx hb dX5_lastOf_40 rfl (lv_at hl 2 rfl) ?_
              refine va_iald hx hb hK hP (52 + q0) 1 (cwp C A u q0 hq0) rfl (i_ix rfl (by omega) (by omega)) dX5_lastOf_41 ?_
              refine p_any (fun z109 => ?_)
              refine lv_icmp_le (tgt := 47) hx hb dX5_lastOf_42 (by decide) (fun c110 => ?_) (fun c110 => ?_)
              · have c110 := cLE (x := z108) (y := z109) (X := z108.toInt) (Y := z109.toInt) rfl rfl c110
                exact j47_99 ls y76d (by omega) (by omega) (lv_sub hl [1, 2, 3, 4] rfl)
              · have c110 := cNLE (x := z108) (y := z109) (X := z108.toInt) (Y := z109.toInt) rfl rfl c110
                exact j45_106 ls (lv_sub hl [1, 3, 4] rfl)
        refine lv_icmp_ne (tgt := 23) hx hb dX5_lastOf_16 (by decide) (fun c81 => ?_) (fun c81 => ?_)
        · have c81 := cNE (x := z80) (y := 1) (X := z80.toInt) (Y := 1) rfl (by decide) c81
          refine lv_iconst (v := 0) hx hb dX5_lastOf_23 (by decide) ?_
          exact j24_90 ls 0 (by decide) (by decide) hl
        · have c81 := cEQ (x := z80) (y := 1) (X := z80.toInt) (Y := 1) rfl (by decide) c81
          refine lv_iconst (v := 1) hx hb dX5_lastOf_19 (by decide) ?_
          refine lv_goto (tgt := 24) hx hb dX5_lastOf_20 (by decide) ?_
          exact j24_90 ls 1 (by decide) (by decide) hl
  exact lp4_76 7 ls 0 (-1) (by decide) (by decide) (by decide) (by decide) (by have q9 : (0 : Int32).toInt = 0 := (by decide); omega) hl
set_option maxHeartbeats 4000000 in
set_option maxRecDepth 100000 in
theorem kX5_noonOf_0 (l : Launch) (D : va_G) (C : Nat → ClassId) (A : Nat → Nat) (u : St) (hI : IC u) (q0 : Nat) (hq0 : q0 < 109) (a1 : Int32) (A1 : Int) (ha1 : a1.toInt = A1) : Met l yX5_noonOf (uc yX5_noonOf cX5_noonOf 3 (some .int)) (rmL 2 0 0) (va_Pc [.ref (A (52 + q0)), .int a1] (PreR D (tyl C) (cw C A u))) (vp_Si (fun r => True)) 0 0 (fun _ => False) := by
  refine mS (by decide) (Nat.le_of_ble_eq_true rfl) ?_
  intro p e s m below meth c ls ar Q hx hb hml hown hts hK hP hl hret
  have hown : s.vm.findClass RX5 = some m.cls := hown
  have hl : lv_has ls 3 [(0, .ref (A (52 + q0))), (1, .int a1)] := hl
  refine lv_aload_n hx hb dX5_noonOf_0 rfl (lv_at hl 0 rfl) ?_
  refine lv_iload_n hx hb dX5_noonOf_1 rfl (lv_at hl 1 rfl) ?_
  refine csS (n := 2) (As := [.ref (A (52 + q0)), .int a1]) (rest := []) ⟨hx, hb, hml, hown, hts⟩ uc_in (kX5_lastOf_0 l D C A u hI q0 (by omega) a1 A1 ha1) q_m612 q_s613 q_i4 q_c614 hvX5_lastOf ⟨(Nat.le_of_ble_eq_true rfl), (Nat.le_of_ble_eq_true rfl)⟩ ⟨(Nat.le_of_ble_eq_true rfl), (Nat.le_of_ble_eq_true rfl)⟩ hK hP rfl hl.1 rfl (Nat.le_of_ble_eq_true rfl) dX5_noonOf_2 (fun r1 p2 => ?_)
  have p2 : (-1) ≤ r1.toInt ∧ r1.toInt ≤ 5 := p2
  refine lv_istore_n (lv' := [(2, .int r1), (0, .ref (A (52 + q0))), (1, .int a1)]) hx hb dX5_noonOf_5 rfl hl (by decide) rfl (fun ls hl => ?_)
  refine lv_iload_n hx hb dX5_noonOf_6 rfl (lv_at hl 0 rfl) ?_
  refine lv_iconst (v := (-1)) hx hb dX5_noonOf_7 (by decide) ?_
  refine lv_icmp_ne (tgt := 15) hx hb dX5_noonOf_8 (by decide) (fun c3 => ?_) (fun c3 => ?_)
  · have c3 := cNE (x := r1) (y := (-1)) (X := r1.toInt) (Y := (-1)) rfl (by decide) c3
    refine lv_aload_n hx hb dX5_noonOf_15 rfl (lv_at hl 1 rfl) ?_
    refine lv_iload_n hx hb dX5_noonOf_16 rfl (lv_at hl 0 rfl) ?_
    refine va_iald hx hb hK hP (52 + q0) 1 (cwp C A u q0 hq0) rfl (i_ix rfl (by omega) (by omega)) dX5_noonOf_17 ?_
    refine p_any (fun z4 => ?_)
    exact hret _ _ z4 dX5_noonOf_18 rfl trivial
  · have c3 := cEQ (x := r1) (y := (-1)) (X := r1.toInt) (Y := (-1)) rfl (by decide) c3
    refine lv_iconst (v := 0) hx hb dX5_noonOf_11 (by decide) ?_
    refine lv_goto (tgt := 18) hx hb dX5_noonOf_12 (by decide) ?_
    exact hret _ _ (0 : Int32) dX5_noonOf_18 rfl trivial
set_option maxHeartbeats 4000000 in
set_option maxRecDepth 100000 in
theorem kX9_noonOn_0 (l : Launch) (D : va_G) (C : Nat → ClassId) (A : Nat → Nat) (u : St) (hI : IC u) (a0 : Int32) (A0 : Int) (ha0 : a0.toInt = A0) (hl0 : 0 ≤ A0) (hm0 : A0 ≤ 6) : Met l yX9_noonOn (uc yX9_noonOn cX9_noonOn 2 (some .int)) (rmL 3 0 0) (va_Pc [.ref (A 0), .int a0] (PreR D (tyl C) (cw C A u))) (vp_Si (fun r => True)) 0 0 (fun _ => False) := by
  refine mS (by decide) (Nat.le_of_ble_eq_true rfl) ?_
  intro p e s m below meth c ls ar Q hx hb hml hown hts hK hP hl hret
  have hown : s.vm.findClass RX9 = some m.cls := hown
  have hl : lv_has ls 2 [(0, .ref (A 0)), (1, .int a0)] := hl
  refine lv_aload_n hx hb dX9_noonOn_0 rfl (lv_at hl 0 rfl) ?_
  refine va_get (ci := 9) (v := .ref (A 7)) (C := RX9) (T := TX9) (N := 12) hx hb hts (fun w h => uc_in w (inX9 w h)) hown hK hP 0 (cwc0 C A u) rfl 5 (by decide) (hts _ (uc_in _ q_f388)) (fun _ h9 => h9) rfl dX9_noonOn_1 ?_
  refine va_get (ci := 5) (v := .ref (A 19)) (C := RX5) (T := TX5) (N := 4) hx hb hts (fun w h => uc_in w (inX5 w h)) hown hK hP 7 (cwc7 C A u) rfl 2 (by decide) (hts _ (uc_in _ q_f171)) (fun _ h9 => h9) rfl dX9_noonOn_4 ?_
  refine lv_iload_n hx hb dX9_noonOn_7 rfl (lv_at hl 1 rfl) ?_
  refine r_aald hx hb hK hP 19 6 rfl (cwc19 C A u) rfl (i_ix ha0 (by omega) (by omega)) dX9_noonOn_8 ?_
  obtain ⟨k1, hk1, ek1⟩ : ∃ k : Nat, (k : Int) = 32 + A0 ∧ k = 32 + Int32.toNatClampNeg a0 := ⟨_, by have q9 := i_cl ha0 (by omega); omega, rfl⟩
  refine pv_v (v := .ref (A (52 + k1))) (by rw [ek1]; rfl) ?_
  refine lv_aload_n hx hb dX9_noonOn_9 rfl (lv_at hl 0 rfl) ?_
  refine va_get (ci := 9) (v := .ref (A 7)) (C := RX9) (T := TX9) (N := 12) hx hb hts (fun w h => uc_in w (inX9 w h)) hown hK hP 0 (cwc0 C A u) rfl 5 (by decide) (hts _ (uc_in _ q_f388)) (fun _ h9 => h9) rfl dX9_noonOn_10 ?_
  refine va_get (ci := 5) (v := .ref (A 38)) (C := RX5) (T := TX5) (N := 4) hx hb hts (fun w h => uc_in w (inX5 w h)) hown hK hP 7 (cwc7 C A u) rfl 3 (by decide) (hts _ (uc_in _ q_f175)) (fun _ h9 => h9) rfl dX9_noonOn_13 ?_
  refine lv_iload_n hx hb dX9_noonOn_16 rfl (lv_at hl 1 rfl) ?_
  refine va_iald hx hb hK hP 38 1 (cwc38 C A u) rfl (i_ix ha0 (by omega) (by omega)) dX9_noonOn_17 ?_
  refine p_any (fun z2 => ?_)
  refine csS (n := 2) (As := [.ref (A (52 + k1)), .int z2]) (rest := []) ⟨hx, hb, hml, hown, hts⟩ uc_in (kX5_noonOf_0 l D C A u hI k1 (by omega) z2 z2.toInt rfl) q_m609 q_s610 q_i4 q_c611 hvX5_noonOf ⟨(Nat.le_of_ble_eq_true rfl), (Nat.le_of_ble_eq_true rfl)⟩ ⟨(Nat.le_of_ble_eq_true rfl), (Nat.le_of_ble_eq_true rfl)⟩ hK hP rfl hl.1 rfl (Nat.le_of_ble_eq_true rfl) dX9_noonOn_18 (fun r3 p4 => ?_)
  exact hret _ _ r3 dX9_noonOn_21 rfl trivial
set_option maxHeartbeats 4000000 in
set_option maxRecDepth 100000 in
theorem kX9_noon_0 (l : Launch) (D : va_G) (C : Nat → ClassId) (A : Nat → Nat) (u : St) (hI : IC u) (a0 : Int32) (A0 : Int) (ha0 : a0.toInt = A0) : Met l yX9_noon (uc yX9_noon cX9_noon 2 (some .int)) (rmL 4 0 0) (va_Pc [.ref (A 0), .int a0] (PreR D (tyl C) (cw C A u))) (vp_Si (fun r => True)) 0 0 (fun _ => False) := by
  refine mS (by decide) (Nat.le_of_ble_eq_true rfl) ?_
  intro p e s m below meth c ls ar Q hx hb hml hown hts hK hP hl hret
  have hown : s.vm.findClass RX9 = some m.cls := hown
  have hl : lv_has ls 2 [(0, .ref (A 0)), (1, .int a0)] := hl
  refine lv_aload_n hx hb dX9_noon_0 rfl (lv_at hl 0 rfl) ?_
  refine lv_iload_n hx hb dX9_noon_1 rfl (lv_at hl 1 rfl) ?_
  refine cvS (n := 1) (As := [.int a0]) (rest := []) ⟨hx, hb, hml, hown, hts⟩ uc_in (kX9_isDay_0 l D C A u hI a0 A0 ha0) q_m597 q_n599 q_p12 q_i1 q_c600 hvX9_isDay ⟨(Nat.le_of_ble_eq_true rfl), (Nat.le_of_ble_eq_true rfl)⟩ ⟨(Nat.le_of_ble_eq_true rfl), (Nat.le_of_ble_eq_true rfl)⟩ hK hP 9 0 rfl (cwc0 C A u) rfl hl.1 rfl (Nat.le_of_ble_eq_true rfl) dX9_noon_2 (fun r1 p2 => ?_)
  rcases p2 with ⟨e9, f3, f4⟩ | e9
  · subst e9
    have b6 := hI.b48
    refine lv_if_eq (tgt := 16) hx hb dX9_noon_5 (by decide) (fun c7 => absurd c7 (by decide)) (fun c7 => ?_)
    refine lv_aload_n hx hb dX9_noon_8 rfl (lv_at hl 0 rfl) ?_
    refine lv_iload_n hx hb dX9_noon_9 rfl (lv_at hl 1 rfl) ?_
    refine cvS (n := 1) (As := [.int a0]) (rest := []) ⟨hx, hb, hml, hown, hts⟩ uc_in (kX9_noonOn_0 l D C A u hI a0 A0 ha0 (by omega) (by omega)) q_m605 q_n607 q_p13 q_i1 q_c608 hvX9_noonOn ⟨(Nat.le_of_ble_eq_true rfl), (Nat.le_of_ble_eq_true rfl)⟩ ⟨(Nat.le_of_ble_eq_true rfl), (Nat.le_of_ble_eq_true rfl)⟩ hK hP 9 0 rfl (cwc0 C A u) rfl hl.1 rfl (Nat.le_of_ble_eq_true rfl) dX9_noon_10 (fun r8 p9 => ?_)
    refine lv_goto (tgt := 19) hx hb dX9_noon_13 (by decide) ?_
    exact hret _ _ r8 dX9_noon_19 rfl trivial
  · subst e9
    refine lv_if_eq (tgt := 16) hx hb dX9_noon_5 (by decide) (fun c10 => ?_) (fun c10 => absurd c10 (by decide))
    refine lv_sipush (v := (-1000)) hx hb dX9_noon_16 (by decide) ?_
    exact hret _ _ ((-1000) : Int32) dX9_noon_19 rfl trivial
set_option maxHeartbeats 4000000 in
set_option maxRecDepth 100000 in
theorem kX9_isClock_0 (l : Launch) (D : va_G) (C : Nat → ClassId) (A : Nat → Nat) (u : St) (hI : IC u) (a0 : Int32) (A0 : Int) (ha0 : a0.toInt = A0) : Met l yX9_isClock (uc yX9_isClock cX9_isClock 2 (some .boolean)) (rmL 1 0 0) (va_Pc [.ref (A 0), .int a0] (PreR D (tyl C) (cw C A u))) (vp_Si (fun r => (r = 1 ∧ 0 ≤ A0 ∧ A0 < (gi u 49).toInt) ∨ r = 0)) 0 0 (fun _ => False) := by
  refine mS (by decide) (Nat.le_of_ble_eq_true rfl) ?_
  intro p e s m below meth c ls ar Q hx hb hml hown hts hK hP hl hret
  have hown : s.vm.findClass RX9 = some m.cls := hown
  have hl : lv_has ls 2 [(0, .ref (A 0)), (1, .int a0)] := hl
  refine lv_iload_n hx hb dX9_isClock_0 rfl (lv_at hl 1 rfl) ?_
  refine lv_if_lt (tgt := 19) hx hb dX9_isClock_1 (by decide) (fun c1 => ?_) (fun c1 => ?_)
  · have c1 := cLT (x := a0) (y := 0) (X := A0) (Y := 0) ha0 (by decide) c1
    refine lv_iconst (v := 0) hx hb dX9_isClock_19 (by decide) ?_
    exact hret _ _ (0 : Int32) dX9_isClock_20 rfl (Or.inr rfl)
  · have c1 := cNLT (x := a0) (y := 0) (X := A0) (Y := 0) ha0 (by decide) c1
    refine lv_iload_n hx hb dX9_isClock_4 rfl (lv_at hl 1 rfl) ?_
    refine lv_aload_n hx hb dX9_isClock_5 rfl (lv_at hl 0 rfl) ?_
    refine va_get (ci := 9) (v := .ref (A 7)) (C := RX9) (T := TX9) (N := 12) hx hb hts (fun w h => uc_in w (inX9 w h)) hown hK hP 0 (cwc0 C A u) rfl 5 (by decide) (hts _ (uc_in _ q_f388)) (fun _ h9 => h9) rfl dX9_isClock_6 ?_
    refine va_get (ci := 5) (v := .int (gi u 49)) (C := RX5) (T := TX5) (N := 4) hx hb hts (fun w h => uc_in w (inX5 w h)) hown hK hP 7 (cwc7 C A u) rfl 1 (by decide) (hts _ (uc_in _ q_f167)) (fun _ h9 => h9) rfl dX9_isClock_9 ?_
    have b2 := hI.b49
    refine lv_icmp_ge (tgt := 19) hx hb dX9_isClock_12 (by decide) (fun c3 => ?_) (fun c3 => ?_)
    · have c3 := cLE (x := (gi u 49)) (y := a0) (X := ((gi u 49)).toInt) (Y := A0) rfl ha0 c3
      refine lv_iconst (v := 0) hx hb dX9_isClock_19 (by decide) ?_
      exact hret _ _ (0 : Int32) dX9_isClock_20 rfl (Or.inr rfl)
    · have c3 := cNLE (x := (gi u 49)) (y := a0) (X := ((gi u 49)).toInt) (Y := A0) rfl ha0 c3
      refine lv_iconst (v := 1) hx hb dX9_isClock_15 (by decide) ?_
      refine lv_goto (tgt := 20) hx hb dX9_isClock_16 (by decide) ?_
      exact hret _ _ (1 : Int32) dX9_isClock_20 rfl (Or.inl ⟨rfl, by omega, by omega⟩)
set_option maxHeartbeats 4000000 in
set_option maxRecDepth 100000 in
theorem kX9_late_0 (l : Launch) (D : va_G) (C : Nat → ClassId) (A : Nat → Nat) (u : St) (hI : IC u) (a0 : Int32) (A0 : Int) (ha0 : a0.toInt = A0) (a1 : Int32) (A1 : Int) (ha1 : a1.toInt = A1) : Met l yX9_late (uc yX9_late cX9_late 3 (some .int)) (rmL 2 0 0) (va_Pc [.ref (A 0), .int a0, .int a1] (PreR D (tyl C) (cw C A u))) (vp_Si (fun r => True)) 0 0 (fun _ => False) := by
  refine mS (by decide) (Nat.le_of_ble_eq_true rfl) ?_
  intro p e s m below meth c ls ar Q hx hb hml hown hts hK hP hl hret
  have hown : s.vm.findClass RX9 = some m.cls := hown
  have hl : lv_has ls 3 [(0, .ref (A 0)), (1, .int a0), (2, .int a1)] := hl
  refine lv_aload_n hx hb dX9_late_0 rfl (lv_at hl 0 rfl) ?_
  refine lv_iload_n hx hb dX9_late_1 rfl (lv_at hl 1 rfl) ?_
  refine cvS (n := 1) (As := [.int a0]) (rest := []) ⟨hx, hb, hml, hown, hts⟩ uc_in (kX9_isClock_0 l D C A u hI a0 A0 ha0) q_m589 q_n591 q_p11 q_i1 q_c592 hvX9_isClock ⟨(Nat.le_of_ble_eq_true rfl), (Nat.le_of_ble_eq_true rfl)⟩ ⟨(Nat.le_of_ble_eq_true rfl), (Nat.le_of_ble_eq_true rfl)⟩ hK hP 9 0 rfl (cwc0 C A u) rfl hl.1 rfl (Nat.le_of_ble_eq_true rfl) dX9_late_2 (fun r1 p2 => ?_)
  rcases p2 with ⟨e9, f3, f4⟩ | e9
  · subst e9
    have b6 := hI.b49
    refine lv_if_eq (tgt := 30) hx hb dX9_late_5 (by decide) (fun c7 => absurd c7 (by decide)) (fun c7 => ?_)
    refine lv_aload_n hx hb dX9_late_8 rfl (lv_at hl 0 rfl) ?_
    refine lv_iload_n hx hb dX9_late_9 rfl (lv_at hl 2 rfl) ?_
    refine cvS (n := 1) (As := [.int a1]) (rest := []) ⟨hx, hb, hml, hown, hts⟩ uc_in (kX9_isDay_0 l D C A u hI a1 A1 ha1) q_m597 q_n599 q_p12 q_i1 q_c600 hvX9_isDay ⟨(Nat.le_of_ble_eq_true rfl), (Nat.le_of_ble_eq_true rfl)⟩ ⟨(Nat.le_of_ble_eq_true rfl), (Nat.le_of_ble_eq_true rfl)⟩ hK hP 9 0 rfl (cwc0 C A u) rfl hl.1 rfl (Nat.le_of_ble_eq_true rfl) dX9_late_10 (fun r8 p9 => ?_)
    rcases p9 with ⟨e9, f10, f11⟩ | e9
    · subst e9
      have b13 := hI.b48
      refine lv_if_eq (tgt := 30) hx hb dX9_late_13 (by decide) (fun c14 => absurd c14 (by decide)) (fun c14 => ?_)
      refine lv_aload_n hx hb dX9_late_16 rfl (lv_at hl 0 rfl) ?_
      refine va_get (ci := 9) (v := .ref (A 7)) (C := RX9) (T := TX9) (N := 12) hx hb hts (fun w h => uc_in w (inX9 w h)) hown hK hP 0 (cwc0 C A u) rfl 5 (by decide) (hts _ (uc_in _ q_f388)) (fun _ h9 => h9) rfl dX9_late_17 ?_
      refine va_get (ci := 5) (v := .ref (A 19)) (C := RX5) (T := TX5) (N := 4) hx hb hts (fun w h => uc_in w (inX5 w h)) hown hK hP 7 (cwc7 C A u) rfl 2 (by decide) (hts _ (uc_in _ q_f171)) (fun _ h9 => h9) rfl dX9_late_20 ?_
      refine lv_iload_n hx hb dX9_late_23 rfl (lv_at hl 2 rfl) ?_
      refine r_aald hx hb hK hP 19 6 rfl (cwc19 C A u) rfl (i_ix ha1 (by omega) (by omega)) dX9_late_24 ?_
      obtain ⟨k15, hk15, ek15⟩ : ∃ k : Nat, (k : Int) = 32 + A1 ∧ k = 32 + Int32.toNatClampNeg a1 := ⟨_, by have q9 := i_cl ha1 (by omega); omega, rfl⟩
      refine pv_v (v := .ref (A (52 + k15))) (by rw [ek15]; rfl) ?_
      refine lv_iload_n hx hb dX9_late_25 rfl (lv_at hl 1 rfl) ?_
      refine va_iald hx hb hK hP (52 + k15) 1 (cwp C A u k15 (by omega)) rfl (i_ix ha0 (by omega) (by omega)) dX9_late_26 ?_
      refine p_any (fun z16 => ?_)
      refine lv_goto (tgt := 33) hx hb dX9_late_27 (by decide) ?_
      exact hret _ _ z16 dX9_late_33 rfl trivial
    · subst e9
      refine lv_if_eq (tgt := 30) hx hb dX9_late_13 (by decide) (fun c17 => ?_) (fun c17 => absurd c17 (by decide))
      refine lv_sipush (v := (-1000)) hx hb dX9_late_30 (by decide) ?_
      exact hret _ _ ((-1000) : Int32) dX9_late_33 rfl trivial
  · subst e9
    refine lv_if_eq (tgt := 30) hx hb dX9_late_5 (by decide) (fun c18 => ?_) (fun c18 => absurd c18 (by decide))
    refine lv_sipush (v := (-1000)) hx hb dX9_late_30 (by decide) ?_
    exact hret _ _ ((-1000) : Int32) dX9_late_33 rfl trivial
set_option maxHeartbeats 4000000 in
set_option maxRecDepth 100000 in
theorem kX6_take_0 (l : Launch) (D : va_G) (C : Nat → ClassId) (A : Nat → Nat) (u : St) (hI : IC u) (a0 : Int32) (A0 : Int) (ha0 : a0.toInt = A0) (sz : Nat) : MetV l yX6_take cX6_take 3 1 [.ref (A 1), .int a0] D (tyl C) (cw C A) X0 u sz (fun u' => IC u' ∧ Un [(1, 1)] [(22, 22)] [] u u' ∧ True) := by
  refine mV (by decide) (Nat.le_of_ble_eq_true rfl) ?_
  intro p e s m below meth c ls ar Q hx hb hml hown hts hK hH hX hl hret
  have hown : s.vm.findClass RX6 = some m.cls := hown
  have hl : lv_has ls 3 [(0, .ref (A 1)), (1, .int a0)] := hl
  refine lv_bipush (v := 24) hx hb dX6_take_0 (by decide) ?_
  refine lv_istore_n (lv' := [(2, .int 24), (0, .ref (A 1)), (1, .int a0)]) hx hb dX6_take_2 rfl hl (by decide) rfl (fun ls hl => ?_)
  have lp3_80 : ∀ (n3 : Nat) (ls : Array Slot) (y79d : Int32) (u80 : St) (H : Heap) (locs : List Loc), (-8) ≤ y79d.toInt → y79d.toInt ≤ 24 → y79d.toInt - (-8) < (n3 : Int) → Un [(1, 1)] [(22, 22)] [] u u80 → IC u80 → Hd D (cw C A) (va_A (cw C A u) s.heap.size) s.heap u80 H locs → lv_has ls 3 [(2, .int y79d), (0, .ref (A 1)), (1, .int a0)] → W p l e (rmL 1 0 0) s m ar below meth c H locs 0 0 Q (F0 m 3 ls []) := by
    intro n3
    induction n3 with
    | zero => intro ls y79d u80 H locs ly79d my79d hmun3 hUu80 hI hH hl; exfalso; omega
    | succ n3 ih3_80 =>
      intro ls y79d u80 H locs ly79d my79d hmun3 hUu80 hI hH hl
      refine lv_iload_n hx hb dX6_take_3 rfl (lv_at hl 0 rfl) ?_
      refine lv_if_lt (tgt := 46) hx hb dX6_take_4 (by decide) (fun c82 => ?_) (fun c82 => ?_)
      · have c82 := cLT (x := y79d) (y := 0) (X := y79d.toInt) (Y := 0) rfl (by decide) c82
        exact hret _ _ _ _ _ dX6_take_46 ⟨hI, (Un.tr Un.rf hUu80 rfl rfl rfl), trivial⟩ hH
      · have c82 := cNLT (x := y79d) (y := 0) (X := y79d.toInt) (Y := 0) rfl (by decide) c82
        refine lv_aload_n hx hb dX6_take_7 rfl (lv_at hl 1 rfl) ?_
        refine va_get (ci := 6) (v := .int (gi u80 1)) (C := RX6) (T := TX6) (N := 8) hx hb hts (fun w h => uc_in w (inX6 w h)) hown hK hH.1 1 (cwc1 C A u80) rfl 1 (by decide) (hts _ (uc_in _ q_f35)) (fun _ h9 => h9) rfl dX6_take_8 ?_
        have b83 := hI.b1
        refine lv_sipush (v := 800) hx hb dX6_take_11 (by decide) ?_
        refine lv_icmp_ge (tgt := 46) hx hb dX6_take_14 (by decide) (fun c84 => ?_) (fun c84 => ?_)
        · have c84 := cLE (x := 800) (y := (gi u80 1)) (X := 800) (Y := ((gi u80 1)).toInt) (by decide) rfl c84
          exact hret _ _ _ _ _ dX6_take_46 ⟨hI, (Un.tr Un.rf hUu80 rfl rfl rfl), trivial⟩ hH
        · have c84 := cNLE (x := 800) (y := (gi u80 1)) (X := 800) (Y := ((gi u80 1)).toInt) (by decide) rfl c84
          refine lv_aload_n hx hb dX6_take_17 rfl (lv_at hl 1 rfl) ?_
          refine va_get (ci := 6) (v := .ref (A 22)) (C := RX6) (T := TX6) (N := 8) hx hb hts (fun w h => uc_in w (inX6 w h)) hown hK hH.1 1 (cwc1 C A u80) rfl 0 (by decide) (hts _ (uc_in _ q_f33)) (fun _ h9 => h9) rfl dX6_take_18 ?_
          refine lv_aload_n hx hb dX6_take_21 rfl (lv_at hl 1 rfl) ?_
          refine va_get (ci := 6) (v := .int (gi u80 1)) (C := RX6) (T := TX6) (N := 8) hx hb hts (fun w h => uc_in w (inX6 w h)) hown hK hH.1 1 (cwc1 C A u80) rfl 1 (by decide) (hts _ (uc_in _ q_f35)) (fun _ h9 => h9) rfl dX6_take_22 ?_
          refine lv_iload_n hx hb dX6_take_25 rfl (lv_at hl 2 rfl) ?_
          refine lv_iload_n hx hb dX6_take_26 rfl (lv_at hl 0 rfl) ?_
          refine lv_ishr hx hb dX6_take_27 ?_
          refine p_any (fun z85 => ?_)
          refine lv_i2b hx hb dX6_take_28 rfl ?_
          refine p_any (fun z86 => ?_)
          refine r_bast (j := 22) hx hb hK hH 22 0 (cwc22 C A u80) rfl (i_ix rfl (by omega) (by omega)) (cwa22 C A u80) dX6_take_29 (fun u87 eu87 H locs hH => ?_)
          have hI := hI.pa0 eu87 (by decide)
          refine lv_aload_n hx hb dX6_take_30 rfl (lv_at hl 1 rfl) ?_
          refine lv_dup hx hb dX6_take_31 rfl ?_
          refine va_get (ci := 6) (v := .int (gi u87 1)) (C := RX6) (T := TX6) (N := 8) hx hb hts (fun w h => uc_in w (inX6 w h)) hown hK hH.1 1 (cwc1 C A u87) rfl 1 (by decide) (hts _ (uc_in _ q_f35)) (fun _ h9 => h9) rfl dX6_take_32 ?_
          refine pv_i (v := (gi u80 1)) ((gi_sa eu87).trans rfl) ?_
          refine lv_iconst (v := 1) hx hb dX6_take_35 (by decide) ?_
          refine lv_iadd hx hb dX6_take_36 ?_
          refine p_nm (tt_add (X := ((gi u80 1)).toInt) (Y := 1) rfl (by decide) (by omega) (by omega)) (fun z88 hz88 => ?_)
          refine r_put (j := 1) (ci := 6) (C := RX6) (T := TX6) (N := 8) hx hb hts (fun w h => uc_in w (inX6 w h)) tyX6 tyX6_ok nmX6 hown hK hH 1 (cwc1 C A u87) rfl 1 (by decide) (hts _ (uc_in _ q_f35)) (fun _ h9 => h9) rfl (by decide +kernel) (Nat.le_of_ble_eq_true rfl) (cws1 C A u87 _) dX6_take_37 (fun u89 eu89 H locs hH => ?_)
          have hI := hI.s1 eu89 hz88 (by omega) (by omega)
          obtain ⟨z90, ez90⟩ : ∃ z, z = y79d + Int32.ofInt (-8) := ⟨_, rfl⟩
          have hz90 : z90.toInt = y79d.toInt + (-8) := by rw [ez90]; exact tt_add rfl (by decide) (by omega) (by omega)
          refine lv_iinc (v := z90) (lv' := [(2, .int z90), (0, .ref (A 1)), (1, .int a0)]) hx hb dX6_take_40 hl (k := 0) rfl ez90.symm (by decide) rfl (fun ls hl => ?_)
          refine lv_goto (tgt := 3) hx hb dX6_take_43 (by decide) ?_
          exact ih3_80 ls z90 u89 _ _ (by have q9 := (show z90.toInt = (y79d.toInt + (-8)) from hz90); omega) (by have q9 := (show z90.toInt = (y79d.toInt + (-8)) from hz90); omega) (by have q9 := (show z90.toInt = (y79d.toInt + (-8)) from hz90); omega) (Un.si (Un.sa hUu80 rfl eu87) rfl eu89) hI hH hl
  exact lp3_80 33 ls 24 u _ _ (by decide) (by decide) (by have q9 : (24 : Int32).toInt = 24 := (by decide); omega) Un.rf hI hH hl
set_option maxHeartbeats 4000000 in
set_option maxRecDepth 100000 in
theorem kX9_feed_0 (l : Launch) (D : va_G) (C : Nat → ClassId) (A : Nat → Nat) (u : St) (hI : IC u) (a0 : Int32) (A0 : Int) (ha0 : a0.toInt = A0) (a1 : Int32) (A1 : Int) (ha1 : a1.toInt = A1) (a2 : Int32) (A2 : Int) (ha2 : a2.toInt = A2) (a3 : Int32) (A3 : Int) (ha3 : a3.toInt = A3) (a4 : Int32) (A4 : Int) (ha4 : a4.toInt = A4) (sz : Nat) : MetI l yX9_feed cX9_feed 6 (some .int) 2 [.ref (A 0), .int a0, .int a1, .int a2, .int a3, .int a4] D (tyl C) (cw C A) X0 u sz (fun r u' => IC u' ∧ Un [(1, 1)] [(22, 22)] [] u u' ∧ ((-1) ≤ r.toInt ∧ r.toInt ≤ 800)) := by
  refine mI (by decide) (Nat.le_of_ble_eq_true rfl) ?_
  intro p e s m below meth c ls ar Q hx hb hml hown hts hK hH hX hl hret
  have hown : s.vm.findClass RX9 = some m.cls := hown
  have hl : lv_has ls 6 [(0, .ref (A 0)), (1, .int a0), (2, .int a1), (3, .int a2), (4, .int a3), (5, .int a4)] := hl
  refine lv_aload_n hx hb dX9_feed_0 rfl (lv_at hl 0 rfl) ?_
  refine va_get (ci := 9) (v := .ref (A 1)) (C := RX9) (T := TX9) (N := 12) hx hb hts (fun w h => uc_in w (inX9 w h)) hown hK hH.1 0 (cwc0 C A u) rfl 0 (by decide) (hts _ (uc_in _ q_f383)) (fun _ h9 => h9) rfl dX9_feed_1 ?_
  refine va_get (ci := 6) (v := .int (gi u 1)) (C := RX6) (T := TX6) (N := 8) hx hb hts (fun w h => uc_in w (inX6 w h)) hown hK hH.1 1 (cwc1 C A u) rfl 1 (by decide) (hts _ (uc_in _ q_f34)) (fun _ h9 => h9) rfl dX9_feed_4 ?_
  have b1 := hI.b1
  refine lv_bipush (v := 20) hx hb dX9_feed_7 (by decide) ?_
  refine lv_iadd hx hb dX9_feed_9 ?_
  refine p_nm (tt_add (X := ((gi u 1)).toInt) (Y := 20) rfl (by decide) (by omega) (by omega)) (fun z2 hz2 => ?_)
  refine lv_sipush (v := 800) hx hb dX9_feed_10 (by decide) ?_
  refine lv_icmp_le (tgt := 18) hx hb dX9_feed_13 (by decide) (fun c3 => ?_) (fun c3 => ?_)
  · have c3 := cLE (x := z2) (y := 800) (X := (((gi u 1)).toInt + 20)) (Y := 800) hz2 (by decide) c3
    refine lv_aload_n hx hb dX9_feed_18 rfl (lv_at hl 0 rfl) ?_
    refine va_get (ci := 9) (v := .ref (A 1)) (C := RX9) (T := TX9) (N := 12) hx hb hts (fun w h => uc_in w (inX9 w h)) hown hK hH.1 0 (cwc0 C A u) rfl 0 (by decide) (hts _ (uc_in _ q_f383)) (fun _ h9 => h9) rfl dX9_feed_19 ?_
    refine lv_iload_n hx hb dX9_feed_22 rfl (lv_at hl 1 rfl) ?_
    refine cvU (n := 1) (As := [.int a0]) (rest := []) ⟨hx, hb, hml, hown, hts⟩ uc_in (kX6_take_0 l D C A u hI a0 A0 ha0 _) q_m424 q_n425 q_e426 q_i2 q_c427 hvX6_take ⟨(Nat.le_of_ble_eq_true rfl), (Nat.le_of_ble_eq_true rfl)⟩ ⟨(Nat.le_of_ble_eq_true rfl), (Nat.le_of_ble_eq_true rfl)⟩ hK hH (fun q h => Or.inr h) Bl0 (fun _ _ _ => trivial) 6 1 rfl (cwc1 C A u) rfl hl.1 rfl (Nat.le_of_ble_eq_true rfl) dX9_feed_23 (fun u4 H locs p6 hH => ?_)
    obtain ⟨hI, hUu4, p6⟩ := p6
    refine lv_aload_n hx hb dX9_feed_26 rfl (lv_at hl 0 rfl) ?_
    refine va_get (ci := 9) (v := .ref (A 1)) (C := RX9) (T := TX9) (N := 12) hx hb hts (fun w h => uc_in w (inX9 w h)) hown hK hH.1 0 (cwc0 C A u4) rfl 0 (by decide) (hts _ (uc_in _ q_f383)) (fun _ h9 => h9) rfl dX9_feed_27 ?_
    refine lv_iload_n hx hb dX9_feed_30 rfl (lv_at hl 2 rfl) ?_
    refine cvU (n := 1) (As := [.int a1]) (rest := []) ⟨hx, hb, hml, hown, hts⟩ uc_in (kX6_take_0 l D C A u4 hI a1 A1 ha1 _) q_m424 q_n425 q_e426 q_i2 q_c427 hvX6_take ⟨(Nat.le_of_ble_eq_true rfl), (Nat.le_of_ble_eq_true rfl)⟩ ⟨(Nat.le_of_ble_eq_true rfl), (Nat.le_of_ble_eq_true rfl)⟩ hK hH (fun q h => Or.inr h) Bl0 (fun _ _ _ => trivial) 6 1 rfl (cwc1 C A u4) rfl hl.1 rfl (Nat.le_of_ble_eq_true rfl) dX9_feed_31 (fun u7 H locs p9 hH => ?_)
    obtain ⟨hI, hUu7, p9⟩ := p9
    refine lv_aload_n hx hb dX9_feed_34 rfl (lv_at hl 0 rfl) ?_
    refine va_get (ci := 9) (v := .ref (A 1)) (C := RX9) (T := TX9) (N := 12) hx hb hts (fun w h => uc_in w (inX9 w h)) hown hK hH.1 0 (cwc0 C A u7) rfl 0 (by decide) (hts _ (uc_in _ q_f383)) (fun _ h9 => h9) rfl dX9_feed_35 ?_
    refine lv_iload_n hx hb dX9_feed_38 rfl (lv_at hl 3 rfl) ?_
    refine cvU (n := 1) (As := [.int a2]) (rest := []) ⟨hx, hb, hml, hown, hts⟩ uc_in (kX6_take_0 l D C A u7 hI a2 A2 ha2 _) q_m424 q_n425 q_e426 q_i2 q_c427 hvX6_take ⟨(Nat.le_of_ble_eq_true rfl), (Nat.le_of_ble_eq_true rfl)⟩ ⟨(Nat.le_of_ble_eq_true rfl), (Nat.le_of_ble_eq_true rfl)⟩ hK hH (fun q h => Or.inr h) Bl0 (fun _ _ _ => trivial) 6 1 rfl (cwc1 C A u7) rfl hl.1 rfl (Nat.le_of_ble_eq_true rfl) dX9_feed_39 (fun u10 H locs p12 hH => ?_)
    obtain ⟨hI, hUu10, p12⟩ := p12
    refine lv_aload_n hx hb dX9_feed_42 rfl (lv_at hl 0 rfl) ?_
    refine va_get (ci := 9) (v := .ref (A 1)) (C := RX9) (T := TX9) (N := 12) hx hb hts (fun w h => uc_in w (inX9 w h)) hown hK hH.1 0 (cwc0 C A u10) rfl 0 (by decide) (hts _ (uc_in _ q_f383)) (fun _ h9 => h9) rfl dX9_feed_43 ?_
    refine lv_iload hx hb dX9_feed_46 (lv_at hl 4 rfl) ?_
    refine cvU (n := 1) (As := [.int a3]) (rest := []) ⟨hx, hb, hml, hown, hts⟩ uc_in (kX6_take_0 l D C A u10 hI a3 A3 ha3 _) q_m424 q_n425 q_e426 q_i2 q_c427 hvX6_take ⟨(Nat.le_of_ble_eq_true rfl), (Nat.le_of_ble_eq_true rfl)⟩ ⟨(Nat.le_of_ble_eq_true rfl), (Nat.le_of_ble_eq_true rfl)⟩ hK hH (fun q h => Or.inr h) Bl0 (fun _ _ _ => trivial) 6 1 rfl (cwc1 C A u10) rfl hl.1 rfl (Nat.le_of_ble_eq_true rfl) dX9_feed_48 (fun u13 H locs p15 hH => ?_)
    obtain ⟨hI, hUu13, p15⟩ := p15
    refine lv_aload_n hx hb dX9_feed_51 rfl (lv_at hl 0 rfl) ?_
    refine va_get (ci := 9) (v := .ref (A 1)) (C := RX9) (T := TX9) (N := 12) hx hb hts (fun w h => uc_in w (inX9 w h)) hown hK hH.1 0 (cwc0 C A u13) rfl 0 (by decide) (hts _ (uc_in _ q_f383)) (fun _ h9 => h9) rfl dX9_feed_52 ?_
    refine lv_iload hx hb dX9_feed_55 (lv_at hl 5 rfl) ?_
    refine cvU (n := 1) (As := [.int a4]) (rest := []) ⟨hx, hb, hml, hown, hts⟩ uc_in (kX6_take_0 l D C A u13 hI a4 A4 ha4 _) q_m424 q_n425 q_e426 q_i2 q_c427 hvX6_take ⟨(Nat.le_of_ble_eq_true rfl), (Nat.le_of_ble_eq_true rfl)⟩ ⟨(Nat.le_of_ble_eq_true rfl), (Nat.le_of_ble_eq_true rfl)⟩ hK hH (fun q h => Or.inr h) Bl0 (fun _ _ _ => trivial) 6 1 rfl (cwc1 C A u13) rfl hl.1 rfl (Nat.le_of_ble_eq_true rfl) dX9_feed_57 (fun u16 H locs p18 hH => ?_)
    obtain ⟨hI, hUu16, p18⟩ := p18
    refine lv_aload_n hx hb dX9_feed_60 rfl (lv_at hl 0 rfl) ?_
    refine va_get (ci := 9) (v := .ref (A 1)) (C := RX9) (T := TX9) (N := 12) hx hb hts (fun w h => uc_in w (inX9 w h)) hown hK hH.1 0 (cwc0 C A u16) rfl 0 (by decide) (hts _ (uc_in _ q_f383)) (fun _ h9 => h9) rfl dX9_feed_61 ?_
    refine va_get (ci := 6) (v := .int (gi u16 1)) (C := RX6) (T := TX6) (N := 8) hx hb hts (fun w h => uc_in w (inX6 w h)) hown hK hH.1 1 (cwc1 C A u16) rfl 1 (by decide) (hts _ (uc_in _ q_f34)) (fun _ h9 => h9) rfl dX9_feed_64 ?_
    have b19 := hI.b1
    exact hret _ _ _ _ (gi u16 1) _ dX9_feed_67 rfl ⟨hI, (Un.tr (Un.tr (Un.tr (Un.tr (Un.tr Un.rf hUu4 rfl rfl rfl) hUu7 rfl rfl rfl) hUu10 rfl rfl rfl) hUu13 rfl rfl rfl) hUu16 rfl rfl rfl), ⟨by omega, by omega⟩⟩ hH
  · have c3 := cNLE (x := z2) (y := 800) (X := (((gi u 1)).toInt + 20)) (Y := 800) hz2 (by decide) c3
    refine lv_iconst (v := (-1)) hx hb dX9_feed_16 (by decide) ?_
    exact hret _ _ _ _ ((-1) : Int32) _ dX9_feed_17 rfl ⟨hI, Un.rf, ⟨by decide, by decide⟩⟩ hH
set_option maxHeartbeats 4000000 in
set_option maxRecDepth 100000 in
theorem kX9_hasTown_0 (l : Launch) (D : va_G) (C : Nat → ClassId) (A : Nat → Nat) (u : St) (hI : IC u) : Met l yX9_hasTown (uc yX9_hasTown cX9_hasTown 1 (some .boolean)) (rmL 1 0 0) (va_Pc [.ref (A 0)] (PreR D (tyl C) (cw C A u))) (vp_Si (fun r => 0 ≤ r.toInt ∧ r.toInt ≤ 1)) 0 0 (fun _ => False) := by
  refine mS (by decide) (Nat.le_of_ble_eq_true rfl) ?_
  intro p e s m below meth c ls ar Q hx hb hml hown hts hK hP hl hret
  have hown : s.vm.findClass RX9 = some m.cls := hown
  have hl : lv_has ls 1 [(0, .ref (A 0))] := hl
  refine lv_aload_n hx hb dX9_hasTown_0 rfl (lv_at hl 0 rfl) ?_
  refine va_get (ci := 9) (v := .ref (A 2)) (C := RX9) (T := TX9) (N := 12) hx hb hts (fun w h => uc_in w (inX9 w h)) hown hK hP 0 (cwc0 C A u) rfl 1 (by decide) (hts _ (uc_in _ q_f384)) (fun _ h9 => h9) rfl dX9_hasTown_1 ?_
  refine va_get (ci := 7) (v := .int (gi u 8)) (C := RX7) (T := TX7) (N := 16) hx hb hts (fun w h => uc_in w (inX7 w h)) hown hK hP 2 (cwc2 C A u) rfl 0 (by decide) (hts _ (uc_in _ q_f70)) (fun _ h9 => h9) rfl dX9_hasTown_4 ?_
  refine lv_if_le (tgt := 14) hx hb dX9_hasTown_7 (by decide) (fun c1 => ?_) (fun c1 => ?_)
  · have c1 := cLE (x := (gi u 8)) (y := 0) (X := ((gi u 8)).toInt) (Y := 0) rfl (by decide) c1
    refine lv_iconst (v := 0) hx hb dX9_hasTown_14 (by decide) ?_
    exact hret _ _ (0 : Int32) dX9_hasTown_15 rfl ⟨by decide, by decide⟩
  · have c1 := cNLE (x := (gi u 8)) (y := 0) (X := ((gi u 8)).toInt) (Y := 0) rfl (by decide) c1
    refine lv_iconst (v := 1) hx hb dX9_hasTown_10 (by decide) ?_
    refine lv_goto (tgt := 15) hx hb dX9_hasTown_11 (by decide) ?_
    exact hret _ _ (1 : Int32) dX9_hasTown_15 rfl ⟨by decide, by decide⟩
set_option maxHeartbeats 4000000 in
set_option maxRecDepth 100000 in
theorem kX7_kindIf_0 (l : Launch) (D : va_G) (C : Nat → ClassId) (A : Nat → Nat) (u : St) (hI : IC u) (a0 : Int32) (A0 : Int) (ha0 : a0.toInt = A0) (a1 : Int32) (A1 : Int) (ha1 : a1.toInt = A1) (a2 : Int32) (A2 : Int) (ha2 : a2.toInt = A2) (hl0 : 0 ≤ A0) (hm0 : A0 ≤ 39) : Met l yX7_kindIf (uc yX7_kindIf cX7_kindIf 4 (some .int)) (rmL 1 0 0) (va_Pc [.ref (A 2), .int a0, .int a1, .int a2] (PreR D (tyl C) (cw C A u))) (vp_Si (fun r => True)) 0 0 (fun _ => False) := by
  refine mS (by decide) (Nat.le_of_ble_eq_true rfl) ?_
  intro p e s m below meth c ls ar Q hx hb hml hown hts hK hP hl hret
  have hown : s.vm.findClass RX7 = some m.cls := hown
  have hl : lv_has ls 4 [(0, .ref (A 2)), (1, .int a0), (2, .int a1), (3, .int a2)] := hl
  refine lv_aload_n hx hb dX7_kindIf_0 rfl (lv_at hl 0 rfl) ?_
  refine va_get (ci := 7) (v := .ref (A 24)) (C := RX7) (T := TX7) (N := 16) hx hb hts (fun w h => uc_in w (inX7 w h)) hown hK hP 2 (cwc2 C A u) rfl 14 (by decide) (hts _ (uc_in _ q_f116)) (fun _ h9 => h9) rfl dX7_kindIf_1 ?_
  refine lv_iload_n hx hb dX7_kindIf_4 rfl (lv_at hl 1 rfl) ?_
  refine va_iald hx hb hK hP 24 1 (cwc24 C A u) rfl (i_ix ha0 (by omega) (by omega)) dX7_kindIf_5 ?_
  refine p_any (fun z1 => ?_)
  refine lv_iload_n hx hb dX7_kindIf_6 rfl (lv_at hl 2 rfl) ?_
  refine lv_icmp_ne (tgt := 29) hx hb dX7_kindIf_7 (by decide) (fun c2 => ?_) (fun c2 => ?_)
  · refine lv_iconst (v := (-1)) hx hb dX7_kindIf_29 (by decide) ?_
    exact hret _ _ ((-1) : Int32) dX7_kindIf_30 rfl trivial
  · have c2 := cEQ (x := z1) (y := a1) (X := z1.toInt) (Y := A1) rfl ha1 c2
    refine lv_aload_n hx hb dX7_kindIf_10 rfl (lv_at hl 0 rfl) ?_
    refine va_get (ci := 7) (v := .ref (A 25)) (C := RX7) (T := TX7) (N := 16) hx hb hts (fun w h => uc_in w (inX7 w h)) hown hK hP 2 (cwc2 C A u) rfl 15 (by decide) (hts _ (uc_in _ q_f117)) (fun _ h9 => h9) rfl dX7_kindIf_11 ?_
    refine lv_iload_n hx hb dX7_kindIf_14 rfl (lv_at hl 1 rfl) ?_
    refine va_iald hx hb hK hP 25 1 (cwc25 C A u) rfl (i_ix ha0 (by omega) (by omega)) dX7_kindIf_15 ?_
    refine p_any (fun z3 => ?_)
    refine lv_iload_n hx hb dX7_kindIf_16 rfl (lv_at hl 3 rfl) ?_
    refine lv_icmp_ne (tgt := 29) hx hb dX7_kindIf_17 (by decide) (fun c4 => ?_) (fun c4 => ?_)
    · refine lv_iconst (v := (-1)) hx hb dX7_kindIf_29 (by decide) ?_
      exact hret _ _ ((-1) : Int32) dX7_kindIf_30 rfl trivial
    · have c4 := cEQ (x := z3) (y := a2) (X := z3.toInt) (Y := A2) rfl ha2 c4
      refine lv_aload_n hx hb dX7_kindIf_20 rfl (lv_at hl 0 rfl) ?_
      refine va_get (ci := 7) (v := .ref (A 23)) (C := RX7) (T := TX7) (N := 16) hx hb hts (fun w h => uc_in w (inX7 w h)) hown hK hP 2 (cwc2 C A u) rfl 13 (by decide) (hts _ (uc_in _ q_f115)) (fun _ h9 => h9) rfl dX7_kindIf_21 ?_
      refine lv_iload_n hx hb dX7_kindIf_24 rfl (lv_at hl 1 rfl) ?_
      refine va_iald hx hb hK hP 23 1 (cwc23 C A u) rfl (i_ix ha0 (by omega) (by omega)) dX7_kindIf_25 ?_
      refine p_any (fun z5 => ?_)
      refine lv_goto (tgt := 30) hx hb dX7_kindIf_26 (by decide) ?_
      exact hret _ _ z5 dX7_kindIf_30 rfl trivial
set_option maxHeartbeats 4000000 in
set_option maxRecDepth 100000 in
theorem kX5_fillLates_0 (l : Launch) (D : va_G) (C : Nat → ClassId) (A : Nat → Nat) (u : St) (hI : IC u) (a1 : Int32) (A1 : Int) (ha1 : a1.toInt = A1) (hl1 : 0 ≤ A1) (hm1 : A1 ≤ 5) (sz : Nat) : MetV l yX5_fillLates cX5_fillLates 13 2 [.ref (A 2), .int a1, .int (-1), .ref (A 19), .int 0] D (tyl C) (cw C A) X0 u sz (fun u' => IC u' ∧ Un [] [(84, 90)] [] u u' ∧ True) := by
  refine mV (by decide) (Nat.le_of_ble_eq_true rfl) ?_
  intro p e s m below meth c ls ar Q hx hb hml hown hts hK hH hX hl hret
  have hown : s.vm.findClass RX5 = some m.cls := hown
  have hl : lv_has ls 13 [(0, .ref (A 2)), (1, .int a1), (2, .int (-1)), (3, .ref (A 19)), (4, .int 0)] := hl
  refine lv_iconst (v := 0) hx hb dX5_fillLates_0 (by decide) ?_
  refine lv_iload_n hx hb dX5_fillLates_1 rfl (lv_at hl 2 rfl) ?_
  refine va_mmax hx hb (by rw [hml]; exact hl.1.symm) hown (hts _ (uc_in _ q_m570)) (hts _ (uc_in _ q_s571)) (hts _ (uc_in _ q_i12)) (hts _ (uc_in _ q_c572)) (Nat.le_of_ble_eq_true rfl) (Nat.le_of_ble_eq_true rfl) (Nat.le_of_ble_eq_true rfl) (Nat.le_of_ble_eq_true rfl) dX5_fillLates_2 ?_
  refine p_bd (P := fun q => 0 ≤ q ∧ q ≤ 0) (by rcases tt_max (x := 0) (y := (-1)) with q9 | q9 <;> rw [q9.1] <;> refine ⟨?_, ?_⟩ <;> first | trivial | (have q7 := (show (0 : Int32).toInt = 0 from (by decide)); have q8 := (show ((-1) : Int32).toInt = (-1) from (by decide)); omega)) (fun z1 bz1 => ?_)
  have bz1 : 0 ≤ z1.toInt ∧ z1.toInt ≤ 0 := bz1
  refine lv_istore (lv' := [(5, .int z1), (0, .ref (A 2)), (1, .int a1), (2, .int (-1)), (3, .ref (A 19)), (4, .int 0)]) hx hb dX5_fillLates_5 hl (by decide) rfl (fun ls hl => ?_)
  refine lv_iload_n hx hb dX5_fillLates_7 rfl (lv_at hl 3 rfl) ?_
  refine lv_iconst (v := (-1)) hx hb dX5_fillLates_8 (by decide) ?_
  refine lv_icmp_ne (tgt := 21) hx hb dX5_fillLates_9 (by decide) (fun c2 => absurd c2 (by decide)) (fun c2 => ?_)
  refine lv_aload_n hx hb dX5_fillLates_12 rfl (lv_at hl 1 rfl) ?_
  refine va_get (ci := 7) (v := .ref (A 53)) (C := RX7) (T := TX7) (N := 16) hx hb hts (fun w h => uc_in w (inX7 w h)) hown hK hH.1 2 (cwc2 C A u) rfl 9 (by decide) (hts _ (uc_in _ q_f100)) (fun _ h9 => h9) rfl dX5_fillLates_13 ?_
  refine lv_iload_n hx hb dX5_fillLates_16 rfl (lv_at hl 2 rfl) ?_
  refine va_iald hx hb hK hH.1 53 1 (cwc53 C A u) rfl (i_ix ha1 (by omega) (by omega)) dX5_fillLates_17 ?_
  refine p_any (fun z3 => ?_)
  refine lv_goto (tgt := 22) hx hb dX5_fillLates_18 (by decide) ?_
  refine lv_istore (lv' := [(6, .int z3), (5, .int z1), (0, .ref (A 2)), (1, .int a1), (2, .int (-1)), (3, .ref (A 19)), (4, .int 0)]) hx hb dX5_fillLates_22 hl (by decide) rfl (fun ls hl => ?_)
  refine lv_aload_n hx hb dX5_fillLates_24 rfl (lv_at hl 2 rfl) ?_
  refine va_get (ci := 7) (v := .ref (A 54)) (C := RX7) (T := TX7) (N := 16) hx hb hts (fun w h => uc_in w (inX7 w h)) hown hK hH.1 2 (cwc2 C A u) rfl 10 (by decide) (hts _ (uc_in _ q_f104)) (fun _ h9 => h9) rfl dX5_fillLates_25 ?_
  refine lv_iload_n hx hb dX5_fillLates_28 rfl (lv_at hl 3 rfl) ?_
  refine va_iald hx hb hK hH.1 54 1 (cwc54 C A u) rfl (i_ix ha1 (by omega) (by omega)) dX5_fillLates_29 ?_
  refine p_any (fun z4 => ?_)
  refine lv_istore (lv' := [(7, .int z4), (6, .int z3), (5, .int z1), (0, .ref (A 2)), (1, .int a1), (2, .int (-1)), (3, .ref (A 19)), (4, .int 0)]) hx hb dX5_fillLates_30 hl (by decide) rfl (fun ls hl => ?_)
  refine lv_iconst (v := 0) hx hb dX5_fillLates_32 (by decide) ?_
  refine lv_istore (lv' := [(8, .int 0), (7, .int z4), (6, .int z3), (5, .int z1), (0, .ref (A 2)), (1, .int a1), (2, .int (-1)), (3, .ref (A 19)), (4, .int 0)]) hx hb dX5_fillLates_33 hl (by decide) rfl (fun ls hl => ?_)
  refine lv_iload hx hb dX5_fillLates_35 (lv_at hl 3 rfl) ?_
  refine lv_istore (lv' := [(9, .int z1), (8, .int 0), (7, .int z4), (6, .int z3), (5, .int z1), (0, .ref (A 2)), (1, .int a1), (2, .int (-1)), (3, .ref (A 19)), (4, .int 0)]) hx hb dX5_fillLates_37 hl (by decide) rfl (fun ls hl => ?_)
  have lp39_1782 : ∀ (n39 : Nat) (ls : Array Slot) (y1778d : Int32) (y1779d : Int32) (y1780d : Int32) (y1781d : Int32) (u1782 : St) (H : Heap) (locs : List Loc), 0 ≤ y1778d.toInt → y1778d.toInt ≤ 7 → 0 ≤ y1779d.toInt → y1779d.toInt ≤ 1 → 7 - y1778d.toInt < (n39 : Int) → Un [] [(84, 90)] [] u u1782 → IC u1782 → Hd D (cw C A) (va_A (cw C A u) s.heap.size) s.heap u1782 H locs → lv_has ls 13 [(9, .int y1778d), (8, .int y1779d), (7, .int y1780d), (6, .int y1781d), (5, .int z1), (0, .ref (A 2)), (1, .int a1), (2, .int (-1)), (3, .ref (A 19)), (4, .int 0)] → W p l e (rmL 2 0 0) s m ar below meth c H locs 0 0 Q (F0 m 39 ls []) := by
    intro n39
    induction n39 with
    | zero => intro ls y1778d y1779d y1780d y1781d u1782 H locs ly1778d my1778d ly1779d my1779d hmun39 hUu1782 hI hH hl; exfalso; omega
    | succ n39 ih39_1782 =>
      intro ls y1778d y1779d y1780d y1781d u1782 H locs ly1778d my1778d ly1779d my1779d hmun39 hUu1782 hI hH hl
      refine lv_iload hx hb dX5_fillLates_39 (lv_at hl 0 rfl) ?_
      refine lv_aload_n hx hb dX5_fillLates_41 rfl (lv_at hl 5 rfl) ?_
      refine va_get (ci := 7) (v := .int (gi u1782 9)) (C := RX7) (T := TX7) (N := 16) hx hb hts (fun w h => uc_in w (inX7 w h)) hown hK hH.1 2 (cwc2 C A u1782) rfl 1 (by decide) (hts _ (uc_in _ q_f71)) (fun _ h9 => h9) rfl dX5_fillLates_42 ?_
      have b1784 := hI.b9
      refine lv_icmp_ge (tgt := 180) hx hb dX5_fillLates_45 (by decide) (fun c1785 => ?_) (fun c1785 => ?_)
      · have c1785 := cLE (x := (gi u1782 9)) (y := y1778d) (X := ((gi u1782 9)).toInt) (Y := y1778d.toInt) rfl rfl c1785
        exact hret _ _ _ _ _ dX5_fillLates_180 ⟨hI, (Un.tr Un.rf hUu1782 rfl rfl rfl), trivial⟩ hH
      · have c1785 := cNLE (x := (gi u1782 9)) (y := y1778d) (X := ((gi u1782 9)).toInt) (Y := y1778d.toInt) rfl rfl c1785
        refine lv_iload hx hb dX5_fillLates_48 (lv_at hl 3 rfl) ?_
        refine lv_iload hx hb dX5_fillLates_50 (lv_at hl 0 rfl) ?_
        refine lv_iload hx hb dX5_fillLates_52 (lv_at hl 4 rfl) ?_
        have j63_2031 : ∀ (ls : Array Slot) (y1787d : Int32), lv_has ls 13 [(9, .int y1778d), (8, .int y1779d), (7, .int y1780d), (5, .int z1), (0, .ref (A 2)), (1, .int a1), (2, .int (-1)), (3, .ref (A 19)), (4, .int 0)] → W p l e (rmL 2 0 0) s m ar below meth c H locs 0 0 Q (F0 m 63 ls [.int y1787d, .int y1781d]) := by
          intro ls y1787d hl
          refine lv_iadd hx hb dX5_fillLates_63 ?_
          refine p_any (fun z2033 => ?_)
          refine lv_istore (lv' := [(6, .int z2033), (9, .int y1778d), (8, .int y1779d), (7, .int y1780d), (5, .int z1), (0, .ref (A 2)), (1, .int a1), (2, .int (-1)), (3, .ref (A 19)), (4, .int 0)]) hx hb dX5_fillLates_64 hl (by decide) rfl (fun ls hl => ?_)
          refine lv_iload hx hb dX5_fillLates_66 (lv_at hl 1 rfl) ?_
          refine lv_iload_n hx hb dX5_fillLates_68 rfl (lv_at hl 7 rfl) ?_
          refine lv_icmp_ne (tgt := 76) hx hb dX5_fillLates_69 (by decide) (fun c2034 => ?_) (fun c2034 => absurd (cEQ (x := y1778d) (y := (-1)) (X := y1778d.toInt) (Y := (-1)) rfl (by decide) c2034) (by omega))
          refine lv_aload_n hx hb dX5_fillLates_76 rfl (lv_at hl 5 rfl) ?_
          refine va_get (ci := 7) (v := .int (gi u1782 15)) (C := RX7) (T := TX7) (N := 16) hx hb hts (fun w h => uc_in w (inX7 w h)) hown hK hH.1 2 (cwc2 C A u1782) rfl 7 (by decide) (hts _ (uc_in _ q_f93)) (fun _ h9 => h9) rfl dX5_fillLates_77 ?_
          have b2035 := hI.b15
          refine lv_istore (lv' := [(10, .int (gi u1782 15)), (6, .int z2033), (9, .int y1778d), (8, .int y1779d), (7, .int y1780d), (5, .int z1), (0, .ref (A 2)), (1, .int a1), (2, .int (-1)), (3, .ref (A 19)), (4, .int 0)]) hx hb dX5_fillLates_80 hl (by decide) rfl (fun ls hl => ?_)
          refine lv_iconst (v := 0) hx hb dX5_fillLates_82 (by decide) ?_
          refine lv_istore (lv' := [(11, .int 0), (10, .int (gi u1782 15)), (6, .int z2033), (9, .int y1778d), (8, .int y1779d), (7, .int y1780d), (5, .int z1), (0, .ref (A 2)), (1, .int a1), (2, .int (-1)), (3, .ref (A 19)), (4, .int 0)]) hx hb dX5_fillLates_83 hl (by decide) rfl (fun ls hl => ?_)
          have lp85_2259 : ∀ (n85 : Nat) (ls : Array Slot) (y2255d : Int32) (y2256d : Int32) (y2257d : Int32) (y2258d : Int32) (u2259 : St) (H : Heap) (locs : List Loc), 0 ≤ y2255d.toInt → y2255d.toInt ≤ 40 → 0 ≤ y2257d.toInt → y2257d.toInt ≤ 1 → 40 - y2255d.toInt < (n85 : Int) → Un [] [(84, 90)] [] u1782 u2259 → IC u2259 → Hd D (cw C A) (va_A (cw C A u) s.heap.size) s.heap u2259 H locs → lv_has ls 13 [(11, .int y2255d), (10, .int (gi u1782 15)), (6, .int y2256d), (9, .int y1778d), (8, .int y2257d), (7, .int y2258d), (5, .int z1), (0, .ref (A 2)), (1, .int a1), (2, .int (-1)), (3, .ref (A 19)), (4, .int 0)] → W p l e (rmL 2 0 0) s m ar below meth c H locs 0 0 Q (F0 m 85 ls []) := by
            intro n85
            induction n85 with
            | zero => intro ls y2255d y2256d y2257d y2258d u2259 H locs ly2255d my2255d ly2257d my2257d hmun85 hUu2259 hI hH hl; exfalso; omega
            | succ n85 ih85_2259 =>
              intro ls y2255d y2256d y2257d y2258d u2259 H locs ly2255d my2255d ly2257d my2257d hmun85 hUu2259 hI hH hl
              refine lv_iload hx hb dX5_fillLates_85 (lv_at hl 0 rfl) ?_
              refine lv_iload hx hb dX5_fillLates_87 (lv_at hl 1 rfl) ?_
              refine lv_icmp_ge (tgt := 152) hx hb dX5_fillLates_89 (by decide) (fun c2261 => ?_) (fun c2261 => ?_)
              · have c2261 := cLE (x := (gi u1782 15)) (y := y2255d) (X := ((gi u1782 15)).toInt) (Y := y2255d.toInt) rfl rfl c2261
                refine lv_aload_n hx hb dX5_fillLates_152 rfl (lv_at hl 10 rfl) ?_
                refine lv_iload hx hb dX5_fillLates_153 (lv_at hl 11 rfl) ?_
                refine lv_iload hx hb dX5_fillLates_155 (lv_at hl 3 rfl) ?_
                refine lv_iadd hx hb dX5_fillLates_157 ?_
                refine p_nm (tt_add (X := 0) (Y := y1778d.toInt) (by decide) rfl (by omega) (by omega)) (fun z2262 hz2262 => ?_)
                refine r_aald hx hb hK hH.1 19 6 rfl (cwc19 C A u2259) rfl (i_ix hz2262 (by omega) (by omega)) dX5_fillLates_158 ?_
                obtain ⟨k2263, hk2263, ek2263⟩ : ∃ k : Nat, (k : Int) = 32 + (0 + y1778d.toInt) ∧ k = 32 + Int32.toNatClampNeg z2262 := ⟨_, by have q9 := i_cl hz2262 (by omega); omega, rfl⟩
                refine pv_v (v := .ref (A (52 + k2263))) (by rw [ek2263]; rfl) ?_
                refine lv_iload_n hx hb dX5_fillLates_159 rfl (lv_at hl 8 rfl) ?_
                refine lv_iload hx hb dX5_fillLates_160 (lv_at hl 4 rfl) ?_
                have j173_2268 : ∀ (ls : Array Slot) (y2265d : Int32), lv_has ls 13 [(6, .int y2256d), (9, .int y1778d), (8, .int y2257d), (7, .int y2258d), (5, .int z1), (0, .ref (A 2)), (1, .int a1), (2, .int (-1)), (3, .ref (A 19)), (4, .int 0)] → W p l e (rmL 2 0 0) s m ar below meth c H locs 0 0 Q (F0 m 173 ls [.int y2265d, .int a1, .ref (A (52 + k2263))]) := by
                  intro ls y2265d hl
                  refine r_iast (j := (52 + k2263)) hx hb hK hH (52 + k2263) 1 (cwp C A u2259 k2263 (by omega)) rfl (i_ix ha1 (by omega) (by omega)) (cwq C A u2259 k2263 (by omega)) dX5_fillLates_173 (fun u2270 eu2270 H locs hH => ?_)
                  have hI := hI.pa0 eu2270 (by omega)
                  obtain ⟨z2271, ez2271⟩ : ∃ z, z = y1778d + Int32.ofInt 1 := ⟨_, rfl⟩
                  have hz2271 : z2271.toInt = y1778d.toInt + 1 := by rw [ez2271]; exact tt_add rfl (by decide) (by omega) (by omega)
                  refine lv_iinc (v := z2271) (lv' := [(9, .int z2271), (6, .int y2256d), (8, .int y2257d), (7, .int y2258d), (5, .int z1), (0, .ref (A 2)), (1, .int a1), (2, .int (-1)), (3, .ref (A 19)), (4, .int 0)]) hx hb dX5_fillLates_174 hl (k := 1) rfl ez2271.symm (by decide) rfl (fun ls hl => ?_)
                  refine lv_goto (tgt := 39) hx hb dX5_fillLates_177 (by decide) ?_
                  exact ih39_1782 ls z2271 y2257d y2258d y2256d u2270 _ _ (by have q9 := (show z2271.toInt = (y1778d.toInt + 1) from hz2271); omega) (by have q9 := (show z2271.toInt = (y1778d.toInt + 1) from hz2271); omega) (by omega) (by omega) (by have q9 := (show z2271.toInt = (y1778d.toInt + 1) from hz2271); omega) (Un.sa (Un.tr hUu1782 hUu2259 rfl rfl rfl) (out_mem (lo := 84) (hi := 90) (by decide) (by omega) (by omega)) eu2270) hI hH (lv_sub hl [0, 2, 3, 1, 4, 5, 6, 7, 8, 9] rfl)
                refine lv_if_eq (tgt := 171) hx hb dX5_fillLates_162 (by decide) (fun c2264 => ?_) (fun c2264 => ?_)
                · have c2264 := cEQ (x := y2257d) (y := 0) (X := y2257d.toInt) (Y := 0) rfl (by decide) c2264
                  refine lv_iload hx hb dX5_fillLates_171 (lv_at hl 2 rfl) ?_
                  exact j173_2268 ls y2256d (lv_sub hl [2, 3, 4, 5, 6, 7, 8, 9, 10, 11] rfl)
                · have c2264 := cNE (x := y2257d) (y := 0) (X := y2257d.toInt) (Y := 0) rfl (by decide) c2264
                  refine lv_sipush (v := 10000) hx hb dX5_fillLates_165 (by decide) ?_
                  refine lv_goto (tgt := 173) hx hb dX5_fillLates_168 (by decide) ?_
                  exact j173_2268 ls 10000 (lv_sub hl [2, 3, 4, 5, 6, 7, 8, 9, 10, 11] rfl)
              · have c2261 := cNLE (x := (gi u1782 15)) (y := y2255d) (X := ((gi u1782 15)).toInt) (Y := y2255d.toInt) rfl rfl c2261
                refine lv_aload_n hx hb dX5_fillLates_92 rfl (lv_at hl 7 rfl) ?_
                refine lv_iload hx hb dX5_fillLates_93 (lv_at hl 0 rfl) ?_
                refine lv_iload_n hx hb dX5_fillLates_95 rfl (lv_at hl 8 rfl) ?_
                refine lv_iload hx hb dX5_fillLates_96 (lv_at hl 3 rfl) ?_
                refine cvS (n := 3) (As := [.int y2255d, .int a1, .int y1778d]) (rest := []) ⟨hx, hb, hml, hown, hts⟩ uc_in (kX7_kindIf_0 l D C A u2259 hI y2255d y2255d.toInt rfl a1 A1 ha1 y1778d y1778d.toInt rfl (by omega) (by omega)) q_m573 q_n574 q_e575 q_i3 q_c576 hvX7_kindIf ⟨(Nat.le_of_ble_eq_true rfl), (Nat.le_of_ble_eq_true rfl)⟩ ⟨(Nat.le_of_ble_eq_true rfl), (Nat.le_of_ble_eq_true rfl)⟩ hK hH.1 7 2 rfl (cwc2 C A u2259) rfl hl.1 rfl (Nat.le_of_ble_eq_true rfl) dX5_fillLates_98 (fun r2272 p2273 => ?_)
                refine lv_istore (lv' := [(12, .int r2272), (11, .int y2255d), (10, .int (gi u1782 15)), (6, .int y2256d), (9, .int y1778d), (8, .int y2257d), (7, .int y2258d), (5, .int z1), (0, .ref (A 2)), (1, .int a1), (2, .int (-1)), (3, .ref (A 19)), (4, .int 0)]) hx hb dX5_fillLates_101 hl (by decide) rfl (fun ls hl => ?_)
                refine lv_iload hx hb dX5_fillLates_103 (lv_at hl 0 rfl) ?_
                have j146_2282 : ∀ (ls : Array Slot) (y2278d : Int32) (y2279d : Int32) (y2280d : Int32), 0 ≤ y2279d.toInt → y2279d.toInt ≤ 1 → lv_has ls 13 [(11, .int y2255d), (10, .int (gi u1782 15)), (6, .int y2278d), (9, .int y1778d), (8, .int y2279d), (7, .int y2280d), (5, .int z1), (0, .ref (A 2)), (1, .int a1), (2, .int (-1)), (3, .ref (A 19)), (4, .int 0)] → W p l e (rmL 2 0 0) s m ar below meth c H locs 0 0 Q (F0 m 146 ls []) := by
                  intro ls y2278d y2279d y2280d ly2279d my2279d hl
                  obtain ⟨z2284, ez2284⟩ : ∃ z, z = y2255d + Int32.ofInt 1 := ⟨_, rfl⟩
                  have hz2284 : z2284.toInt = y2255d.toInt + 1 := by rw [ez2284]; exact tt_add rfl (by decide) (by omega) (by omega)
                  refine lv_iinc (v := z2284) (lv' := [(11, .int z2284), (10, .int (gi u1782 15)), (6, .int y2278d), (9, .int y1778d), (8, .int y2279d), (7, .int y2280d), (5, .int z1), (0, .ref (A 2)), (1, .int a1), (2, .int (-1)), (3, .ref (A 19)), (4, .int 0)]) hx hb dX5_fillLates_146 hl (k := 0) rfl ez2284.symm (by decide) rfl (fun ls hl => ?_)
                  refine lv_goto (tgt := 85) hx hb dX5_fillLates_149 (by decide) ?_
                  exact ih85_2259 ls z2284 y2278d y2279d y2280d u2259 _ _ (by have q9 := (show z2284.toInt = (y2255d.toInt + 1) from hz2284); omega) (by have q9 := (show z2284.toInt = (y2255d.toInt + 1) from hz2284); omega) (by omega) (by omega) (by have q9 := (show z2284.toInt = (y2255d.toInt + 1) from hz2284); omega) hUu2259 hI hH hl
                refine lv_if_ne (tgt := 125) hx hb dX5_fillLates_105 (by decide) (fun c2274 => ?_) (fun c2274 => ?_)
                · refine lv_iload hx hb dX5_fillLates_125 (lv_at hl 0 rfl) ?_
                  refine lv_iconst (v := 1) hx hb dX5_fillLates_127 (by decide) ?_
                  refine lv_icmp_ne (tgt := 137) hx hb dX5_fillLates_128 (by decide) (fun c2285 => ?_) (fun c2285 => ?_)
                  · refine lv_iload hx hb dX5_fillLates_137 (lv_at hl 0 rfl) ?_
                    refine lv_iconst (v := 2) hx hb dX5_fillLates_139 (by decide) ?_
                    refine lv_icmp_ne (tgt := 146) hx hb dX5_fillLates_140 (by decide) (fun c2286 => ?_) (fun c2286 => ?_)
                    · exact j146_2282 ls y2256d y2257d y2258d (by omega) (by omega) (lv_sub hl [1, 2, 3, 4, 5, 6, 7, 8, 9, 10, 11, 12] rfl)
                    · have c2286 := cEQ (x := r2272) (y := 2) (X := r2272.toInt) (Y := 2) rfl (by decide) c2286
                      refine lv_iconst (v := 1) hx hb dX5_fillLates_143 (by decide) ?_
                      refine lv_istore (lv' := [(8, .int 1), (12, .int r2272), (11, .int y2255d), (10, .int (gi u1782 15)), (6, .int y2256d), (9, .int y1778d), (7, .int y2258d), (5, .int z1), (0, .ref (A 2)), (1, .int a1), (2, .int (-1)), (3, .ref (A 19)), (4, .int 0)]) hx hb dX5_fillLates_144 hl (by decide) rfl (fun ls hl => ?_)
                      exact j146_2282 ls y2256d 1 y2258d (by decide) (by decide) (lv_sub hl [2, 3, 4, 5, 0, 6, 7, 8, 9, 10, 11, 12] rfl)
                  · have c2285 := cEQ (x := r2272) (y := 1) (X := r2272.toInt) (Y := 1) rfl (by decide) c2285
                    refine lv_iconst (v := 0) hx hb dX5_fillLates_131 (by decide) ?_
                    refine lv_istore (lv' := [(7, .int 0), (12, .int r2272), (11, .int y2255d), (10, .int (gi u1782 15)), (6, .int y2256d), (9, .int y1778d), (8, .int y2257d), (5, .int z1), (0, .ref (A 2)), (1, .int a1), (2, .int (-1)), (3, .ref (A 19)), (4, .int 0)]) hx hb dX5_fillLates_132 hl (by decide) rfl (fun ls hl => ?_)
                    refine lv_goto (tgt := 146) hx hb dX5_fillLates_134 (by decide) ?_
                    exact j146_2282 ls y2256d y2257d 0 (by omega) (by omega) (lv_sub hl [2, 3, 4, 5, 6, 0, 7, 8, 9, 10, 11, 12] rfl)
                · have c2274 := cEQ (x := r2272) (y := 0) (X := r2272.toInt) (Y := 0) rfl (by decide) c2274
                  refine lv_iconst (v := 0) hx hb dX5_fillLates_108 (by decide) ?_
                  refine lv_istore (lv' := [(6, .int 0), (12, .int r2272), (11, .int y2255d), (10, .int (gi u1782 15)), (9, .int y1778d), (8, .int y2257d), (7, .int y2258d), (5, .int z1), (0, .ref (A 2)), (1, .int a1), (2, .int (-1)), (3, .ref (A 19)), (4, .int 0)]) hx hb dX5_fillLates_109 hl (by decide) rfl (fun ls hl => ?_)
                  refine lv_aload_n hx hb dX5_fillLates_111 rfl (lv_at hl 8 rfl) ?_
                  refine va_get (ci := 7) (v := .ref (A 54)) (C := RX7) (T := TX7) (N := 16) hx hb hts (fun w h => uc_in w (inX7 w h)) hown hK hH.1 2 (cwc2 C A u2259) rfl 10 (by decide) (hts _ (uc_in _ q_f104)) (fun _ h9 => h9) rfl dX5_fillLates_112 ?_
                  refine lv_iload_n hx hb dX5_fillLates_115 rfl (lv_at hl 9 rfl) ?_
                  refine va_iald hx hb hK hH.1 54 1 (cwc54 C A u2259) rfl (i_ix ha1 (by omega) (by omega)) dX5_fillLates_116 ?_
                  refine p_any (fun z2287 => ?_)
                  refine lv_istore (lv' := [(7, .int z2287), (6, .int 0), (12, .int r2272), (11, .int y2255d), (10, .int (gi u1782 15)), (9, .int y1778d), (8, .int y2257d), (5, .int z1), (0, .ref (A 2)), (1, .int a1), (2, .int (-1)), (3, .ref (A 19)), (4, .int 0)]) hx hb dX5_fillLates_117 hl (by decide) rfl (fun ls hl => ?_)
                  refine lv_iconst (v := 0) hx hb dX5_fillLates_119 (by decide) ?_
                  refine lv_istore (lv' := [(8, .int 0), (7, .int z2287), (6, .int 0), (12, .int r2272), (11, .int y2255d), (10, .int (gi u1782 15)), (9, .int y1778d), (5, .int z1), (0, .ref (A 2)), (1, .int a1), (2, .int (-1)), (3, .ref (A 19)), (4, .int 0)]) hx hb dX5_fillLates_120 hl (by decide) rfl (fun ls hl => ?_)
                  refine lv_goto (tgt := 146) hx hb dX5_fillLates_122 (by decide) ?_
                  exact j146_2282 ls 0 0 z2287 (by decide) (by decide) (lv_sub hl [4, 5, 2, 6, 0, 1, 7, 8, 9, 10, 11, 12] rfl)
          exact lp85_2259 41 ls 0 z2033 y1779d y1780d u1782 _ _ (by decide) (by decide) (by omega) (by omega) (by have q9 : (0 : Int32).toInt = 0 := (by decide); omega) Un.rf hI hH hl
        refine lv_icmp_le (tgt := 62) hx hb dX5_fillLates_54 (by decide) (fun c1786 => ?_) (fun c1786 => ?_)
        · have c1786 := cLE (x := y1778d) (y := z1) (X := y1778d.toInt) (Y := z1.toInt) rfl rfl c1786
          refine lv_iconst (v := 0) hx hb dX5_fillLates_62 (by decide) ?_
          exact j63_2031 ls 0 (lv_sub hl [0, 1, 2, 4, 5, 6, 7, 8, 9] rfl)
        · have c1786 := cNLE (x := y1778d) (y := z1) (X := y1778d.toInt) (Y := z1.toInt) rfl rfl c1786
          refine lv_iload hx hb dX5_fillLates_57 (lv_at hl 2 rfl) ?_
          refine lv_goto (tgt := 63) hx hb dX5_fillLates_59 (by decide) ?_
          exact j63_2031 ls y1780d (lv_sub hl [0, 1, 2, 4, 5, 6, 7, 8, 9] rfl)
  exact lp39_1782 8 ls z1 0 z4 z3 u _ _ (by omega) (by omega) (by decide) (by decide) (by omega) Un.rf hI hH hl
set_option maxHeartbeats 4000000 in
set_option maxRecDepth 100000 in
theorem kX5_fillAlive_0 (l : Launch) (D : va_G) (C : Nat → ClassId) (A : Nat → Nat) (u : St) (hI : IC u) (a1 : Int32) (A1 : Int) (ha1 : a1.toInt = A1) (hl1 : 0 ≤ A1) (hm1 : A1 ≤ 5) (sz : Nat) : MetV l yX5_fillAlive cX5_fillAlive 7 2 [.ref (A 7), .ref (A 2), .int a1] D (tyl C) (cw C A) X0 u sz (fun u' => IC u' ∧ Un [] [(38, 38)] [] u u' ∧ True) := by
  refine mV (by decide) (Nat.le_of_ble_eq_true rfl) ?_
  intro p e s m below meth c ls ar Q hx hb hml hown hts hK hH hX hl hret
  have hown : s.vm.findClass RX5 = some m.cls := hown
  have hl : lv_has ls 7 [(0, .ref (A 7)), (1, .ref (A 2)), (2, .int a1)] := hl
  refine lv_aload_n hx hb dX5_fillAlive_0 rfl (lv_at hl 1 rfl) ?_
  refine va_get (ci := 7) (v := .ref (A 56)) (C := RX7) (T := TX7) (N := 16) hx hb hts (fun w h => uc_in w (inX7 w h)) hown hK hH.1 2 (cwc2 C A u) rfl 12 (by decide) (hts _ (uc_in _ q_f112)) (fun _ h9 => h9) rfl dX5_fillAlive_1 ?_
  refine lv_iload_n hx hb dX5_fillAlive_4 rfl (lv_at hl 2 rfl) ?_
  refine va_iald hx hb hK hH.1 56 1 (cwc56 C A u) rfl (i_ix ha1 (by omega) (by omega)) dX5_fillAlive_5 ?_
  refine p_any (fun z1 => ?_)
  refine lv_iconst (v := 1) hx hb dX5_fillAlive_6 (by decide) ?_
  have j15_1694 : ∀ (ls : Array Slot) (y3d : Int32), 0 ≤ y3d.toInt → y3d.toInt ≤ 1 → lv_has ls 7 [(0, .ref (A 7)), (1, .ref (A 2)), (2, .int a1)] → W p l e (rmL 2 0 0) s m ar below meth c s.heap [] 0 0 Q (F0 m 15 ls [.int y3d]) := by
    intro ls y3d ly3d my3d hl
    refine lv_istore_n (lv' := [(3, .int y3d), (0, .ref (A 7)), (1, .ref (A 2)), (2, .int a1)]) hx hb dX5_fillAlive_15 rfl hl (by decide) rfl (fun ls hl => ?_)
    refine lv_iconst (v := 0) hx hb dX5_fillAlive_16 (by decide) ?_
    refine lv_istore (lv' := [(4, .int 0), (3, .int y3d), (0, .ref (A 7)), (1, .ref (A 2)), (2, .int a1)]) hx hb dX5_fillAlive_17 hl (by decide) rfl (fun ls hl => ?_)
    have lp19_3176 : ∀ (n19 : Nat) (ls : Array Slot) (y3174d : Int32) (y3175d : Int32) (u3176 : St) (H : Heap) (locs : List Loc), 0 ≤ y3174d.toInt → y3174d.toInt ≤ 7 → 0 ≤ y3175d.toInt → y3175d.toInt ≤ 1 → 7 - y3174d.toInt < (n19 : Int) → Un [] [(38, 38)] [] u u3176 → IC u3176 → Hd D (cw C A) (va_A (cw C A u) s.heap.size) s.heap u3176 H locs → lv_has ls 7 [(4, .int y3174d), (3, .int y3175d), (0, .ref (A 7)), (1, .ref (A 2)), (2, .int a1)] → W p l e (rmL 2 0 0) s m ar below meth c H locs 0 0 Q (F0 m 19 ls []) := by
      intro n19
      induction n19 with
      | zero => intro ls y3174d y3175d u3176 H locs ly3174d my3174d ly3175d my3175d hmun19 hUu3176 hI hH hl; exfalso; omega
      | succ n19 ih19_3176 =>
        intro ls y3174d y3175d u3176 H locs ly3174d my3174d ly3175d my3175d hmun19 hUu3176 hI hH hl
        refine lv_iload hx hb dX5_fillAlive_19 (lv_at hl 0 rfl) ?_
        refine lv_aload_n hx hb dX5_fillAlive_21 rfl (lv_at hl 2 rfl) ?_
        refine va_get (ci := 5) (v := .int (gi u3176 48)) (C := RX5) (T := TX5) (N := 4) hx hb hts (fun w h => uc_in w (inX5 w h)) hown hK hH.1 7 (cwc7 C A u3176) rfl 0 (by decide) (hts _ (uc_in _ q_f161)) (fun _ h9 => h9) rfl dX5_fillAlive_22 ?_
        have b3178 := hI.b48
        refine lv_icmp_ge (tgt := 102) hx hb dX5_fillAlive_25 (by decide) (fun c3179 => ?_) (fun c3179 => ?_)
        · have c3179 := cLE (x := (gi u3176 48)) (y := y3174d) (X := ((gi u3176 48)).toInt) (Y := y3174d.toInt) rfl rfl c3179
          exact hret _ _ _ _ _ dX5_fillAlive_102 ⟨hI, (Un.tr Un.rf hUu3176 rfl rfl rfl), trivial⟩ hH
        · have c3179 := cNLE (x := (gi u3176 48)) (y := y3174d) (X := ((gi u3176 48)).toInt) (Y := y3174d.toInt) rfl rfl c3179
          refine lv_iconst (v := 0) hx hb dX5_fillAlive_28 (by decide) ?_
          refine lv_istore (lv' := [(5, .int 0), (4, .int y3174d), (3, .int y3175d), (0, .ref (A 7)), (1, .ref (A 2)), (2, .int a1)]) hx hb dX5_fillAlive_29 hl (by decide) rfl (fun ls hl => ?_)
          have lp31_3371 : ∀ (n31 : Nat) (ls : Array Slot) (y3369d : Int32) (y3370d : Int32) (u3371 : St) (H : Heap) (locs : List Loc), 0 ≤ y3369d.toInt → y3369d.toInt ≤ 40 → 0 ≤ y3370d.toInt → y3370d.toInt ≤ 1 → 40 - y3369d.toInt < (n31 : Int) → Un [] [(38, 38)] [] u3176 u3371 → IC u3371 → Hd D (cw C A) (va_A (cw C A u) s.heap.size) s.heap u3371 H locs → lv_has ls 7 [(5, .int y3369d), (4, .int y3174d), (3, .int y3370d), (0, .ref (A 7)), (1, .ref (A 2)), (2, .int a1)] → W p l e (rmL 2 0 0) s m ar below meth c H locs 0 0 Q (F0 m 31 ls []) := by
            intro n31
            induction n31 with
            | zero => intro ls y3369d y3370d u3371 H locs ly3369d my3369d ly3370d my3370d hmun31 hUu3371 hI hH hl; exfalso; omega
            | succ n31 ih31_3371 =>
              intro ls y3369d y3370d u3371 H locs ly3369d my3369d ly3370d my3370d hmun31 hUu3371 hI hH hl
              refine lv_iload hx hb dX5_fillAlive_31 (lv_at hl 0 rfl) ?_
              refine lv_aload_n hx hb dX5_fillAlive_33 rfl (lv_at hl 4 rfl) ?_
              refine va_get (ci := 7) (v := .int (gi u3371 15)) (C := RX7) (T := TX7) (N := 16) hx hb hts (fun w h => uc_in w (inX7 w h)) hown hK hH.1 2 (cwc2 C A u3371) rfl 7 (by decide) (hts _ (uc_in _ q_f93)) (fun _ h9 => h9) rfl dX5_fillAlive_34 ?_
              have b3373 := hI.b15
              refine lv_icmp_ge (tgt := 79) hx hb dX5_fillAlive_37 (by decide) (fun c3374 => ?_) (fun c3374 => ?_)
              · have c3374 := cLE (x := (gi u3371 15)) (y := y3369d) (X := ((gi u3371 15)).toInt) (Y := y3369d.toInt) rfl rfl c3374
                refine lv_iload_n hx hb dX5_fillAlive_79 rfl (lv_at hl 2 rfl) ?_
                have j96_3384 : ∀ (ls : Array Slot) (u3384 : St) (H : Heap) (locs : List Loc), Un [] [(38, 38)] [] u3371 u3384 → IC u3384 → Hd D (cw C A) (va_A (cw C A u) s.heap.size) s.heap u3384 H locs → lv_has ls 7 [(4, .int y3174d), (3, .int y3370d), (0, .ref (A 7)), (1, .ref (A 2)), (2, .int a1)] → W p l e (rmL 2 0 0) s m ar below meth c H locs 0 0 Q (F0 m 96 ls []) := by
                  intro ls u3384 H locs hUu3384 hI hH hl
                  obtain ⟨z3386, ez3386⟩ : ∃ z, z = y3174d + Int32.ofInt 1 := ⟨_, rfl⟩
                  have hz3386 : z3386.toInt = y3174d.toInt + 1 := by rw [ez3386]; exact tt_add rfl (by decide) (by omega) (by omega)
                  refine lv_iinc (v := z3386) (lv' := [(4, .int z3386), (3, .int y3370d), (0, .ref (A 7)), (1, .ref (A 2)), (2, .int a1)]) hx hb dX5_fillAlive_96 hl (k := 0) rfl ez3386.symm (by decide) rfl (fun ls hl => ?_)
                  refine lv_goto (tgt := 19) hx hb dX5_fillAlive_99 (by decide) ?_
                  exact ih19_3176 ls z3386 y3370d u3384 _ _ (by have q9 := (show z3386.toInt = (y3174d.toInt + 1) from hz3386); omega) (by have q9 := (show z3386.toInt = (y3174d.toInt + 1) from hz3386); omega) (by omega) (by omega) (by have q9 := (show z3386.toInt = (y3174d.toInt + 1) from hz3386); omega) (Un.tr (Un.tr hUu3176 hUu3371 rfl rfl rfl) hUu3384 rfl rfl rfl) hI hH hl
                refine lv_if_ne (tgt := 96) hx hb dX5_fillAlive_80 (by decide) (fun c3375 => ?_) (fun c3375 => ?_)
                · have c3375 := cNE (x := y3370d) (y := 0) (X := y3370d.toInt) (Y := 0) rfl (by decide) c3375
                  exact j96_3384 ls u3371 _ _ Un.rf hI hH (lv_sub hl [1, 2, 3, 4, 5] rfl)
                · have c3375 := cEQ (x := y3370d) (y := 0) (X := y3370d.toInt) (Y := 0) rfl (by decide) c3375
                  refine lv_aload_n hx hb dX5_fillAlive_83 rfl (lv_at hl 3 rfl) ?_
                  refine va_get (ci := 5) (v := .ref (A 38)) (C := RX5) (T := TX5) (N := 4) hx hb hts (fun w h => uc_in w (inX5 w h)) hown hK hH.1 7 (cwc7 C A u3371) rfl 3 (by decide) (hts _ (uc_in _ q_f172)) (fun _ h9 => h9) rfl dX5_fillAlive_84 ?_
                  refine lv_iload hx hb dX5_fillAlive_87 (lv_at hl 1 rfl) ?_
                  refine lv_dup2_11 hx hb dX5_fillAlive_89 rfl rfl ?_
                  refine va_iald hx hb hK hH.1 38 1 (cwc38 C A u3371) rfl (i_ix rfl (by omega) (by omega)) dX5_fillAlive_90 ?_
                  refine p_any (fun z3387 => ?_)
                  refine lv_iconst (v := 1) hx hb dX5_fillAlive_91 (by decide) ?_
                  refine lv_iload_n hx hb dX5_fillAlive_92 rfl (lv_at hl 5 rfl) ?_
                  refine lv_ishl hx hb dX5_fillAlive_93 ?_
                  have gz3388 := tt_shl1 ha1 (by omega) (by omega)
                  refine p_bd (P := fun q => 1 ≤ q ∧ q ≤ 32) ⟨by omega, by omega⟩ (fun z3389 bz3389 => ?_)
                  have bz3389 : 1 ≤ z3389.toInt ∧ z3389.toInt ≤ 32 := bz3389
                  refine lv_ior hx hb dX5_fillAlive_94 ?_
                  refine p_any (fun z3390 => ?_)
                  refine r_iast (j := 38) hx hb hK hH 38 1 (cwc38 C A u3371) rfl (i_ix rfl (by omega) (by omega)) (cwa38 C A u3371) dX5_fillAlive_95 (fun u3391 eu3391 H locs hH => ?_)
                  have hI := hI.pa0 eu3391 (by decide)
                  exact j96_3384 ls u3391 _ _ (Un.sa Un.rf rfl eu3391) hI hH (lv_sub hl [1, 2, 3, 4, 5] rfl)
              · have c3374 := cNLE (x := (gi u3371 15)) (y := y3369d) (X := ((gi u3371 15)).toInt) (Y := y3369d.toInt) rfl rfl c3374
                refine lv_aload_n hx hb dX5_fillAlive_40 rfl (lv_at hl 4 rfl) ?_
                refine lv_iload hx hb dX5_fillAlive_41 (lv_at hl 0 rfl) ?_
                refine lv_iload_n hx hb dX5_fillAlive_43 rfl (lv_at hl 5 rfl) ?_
                refine lv_iload hx hb dX5_fillAlive_44 (lv_at hl 1 rfl) ?_
                refine cvS (n := 3) (As := [.int y3369d, .int a1, .int y3174d]) (rest := []) ⟨hx, hb, hml, hown, hts⟩ uc_in (kX7_kindIf_0 l D C A u3371 hI y3369d y3369d.toInt rfl a1 A1 ha1 y3174d y3174d.toInt rfl (by omega) (by omega)) q_m573 q_n574 q_e575 q_i3 q_c576 hvX7_kindIf ⟨(Nat.le_of_ble_eq_true rfl), (Nat.le_of_ble_eq_true rfl)⟩ ⟨(Nat.le_of_ble_eq_true rfl), (Nat.le_of_ble_eq_true rfl)⟩ hK hH.1 7 2 rfl (cwc2 C A u3371) rfl hl.1 rfl (Nat.le_of_ble_eq_true rfl) dX5_fillAlive_46 (fun r3392 p3393 => ?_)
                refine lv_istore (lv' := [(6, .int r3392), (5, .int y3369d), (4, .int y3174d), (3, .int y3370d), (0, .ref (A 7)), (1, .ref (A 2)), (2, .int a1)]) hx hb dX5_fillAlive_49 hl (by decide) rfl (fun ls hl => ?_)
                refine lv_iload hx hb dX5_fillAlive_51 (lv_at hl 0 rfl) ?_
                refine lv_iconst (v := 3) hx hb dX5_fillAlive_53 (by decide) ?_
                have j72_3399 : ∀ (ls : Array Slot) (y3397d : Int32), 0 ≤ y3397d.toInt → y3397d.toInt ≤ 1 → lv_has ls 7 [(5, .int y3369d), (4, .int y3174d), (0, .ref (A 7)), (1, .ref (A 2)), (2, .int a1)] → W p l e (rmL 2 0 0) s m ar below meth c H locs 0 0 Q (F0 m 72 ls [.int y3397d]) := by
                  intro ls y3397d ly3397d my3397d hl
                  refine lv_istore_n (lv' := [(3, .int y3397d), (5, .int y3369d), (4, .int y3174d), (0, .ref (A 7)), (1, .ref (A 2)), (2, .int a1)]) hx hb dX5_fillAlive_72 rfl hl (by decide) rfl (fun ls hl => ?_)
                  obtain ⟨z3401, ez3401⟩ : ∃ z, z = y3369d + Int32.ofInt 1 := ⟨_, rfl⟩
                  have hz3401 : z3401.toInt = y3369d.toInt + 1 := by rw [ez3401]; exact tt_add rfl (by decide) (by omega) (by omega)
                  refine lv_iinc (v := z3401) (lv' := [(5, .int z3401), (3, .int y3397d), (4, .int y3174d), (0, .ref (A 7)), (1, .ref (A 2)), (2, .int a1)]) hx hb dX5_fillAlive_73 hl (k := 1) rfl ez3401.symm (by decide) rfl (fun ls hl => ?_)
                  refine lv_goto (tgt := 31) hx hb dX5_fillAlive_76 (by decide) ?_
                  exact ih31_3371 ls z3401 y3397d u3371 _ _ (by have q9 := (show z3401.toInt = (y3369d.toInt + 1) from hz3401); omega) (by have q9 := (show z3401.toInt = (y3369d.toInt + 1) from hz3401); omega) (by omega) (by omega) (by have q9 := (show z3401.toInt = (y3369d.toInt + 1) from hz3401); omega) hUu3371 hI hH (lv_sub hl [0, 2, 1, 3, 4, 5] rfl)
                have j67_3402 : ∀ (ls : Array Slot), lv_has ls 7 [(5, .int y3369d), (4, .int y3174d), (0, .ref (A 7)), (1, .ref (A 2)), (2, .int a1)] → W p l e (rmL 2 0 0) s m ar below meth c H locs 0 0 Q (F0 m 67 ls []) := by
                  intro ls hl
                  refine lv_iconst (v := 1) hx hb dX5_fillAlive_67 (by decide) ?_
                  refine lv_goto (tgt := 72) hx hb dX5_fillAlive_68 (by decide) ?_
                  exact j72_3399 ls 1 (by decide) (by decide) hl
                refine lv_icmp_eq (tgt := 67) hx hb dX5_fillAlive_54 (by decide) (fun c3394 => ?_) (fun c3394 => ?_)
                · have c3394 := cEQ (x := r3392) (y := 3) (X := r3392.toInt) (Y := 3) rfl (by decide) c3394
                  exact j67_3402 ls (lv_sub hl [1, 2, 4, 5, 6] rfl)
                · refine lv_iload_n hx hb dX5_fillAlive_57 rfl (lv_at hl 3 rfl) ?_
                  have j71_3406 : ∀ (ls : Array Slot), lv_has ls 7 [(5, .int y3369d), (4, .int y3174d), (0, .ref (A 7)), (1, .ref (A 2)), (2, .int a1)] → W p l e (rmL 2 0 0) s m ar below meth c H locs 0 0 Q (F0 m 71 ls []) := by
                    intro ls hl
                    refine lv_iconst (v := 0) hx hb dX5_fillAlive_71 (by decide) ?_
                    exact j72_3399 ls 0 (by decide) (by decide) hl
                  refine lv_if_eq (tgt := 71) hx hb dX5_fillAlive_58 (by decide) (fun c3404 => ?_) (fun c3404 => ?_)
                  · have c3404 := cEQ (x := y3370d) (y := 0) (X := y3370d.toInt) (Y := 0) rfl (by decide) c3404
                    exact j71_3406 ls (lv_sub hl [1, 2, 4, 5, 6] rfl)
                  · have c3404 := cNE (x := y3370d) (y := 0) (X := y3370d.toInt) (Y := 0) rfl (by decide) c3404
                    refine lv_iload hx hb dX5_fillAlive_61 (lv_at hl 0 rfl) ?_
                    refine lv_iconst (v := 4) hx hb dX5_fillAlive_63 (by decide) ?_
                    refine lv_icmp_eq (tgt := 71) hx hb dX5_fillAlive_64 (by decide) (fun c3408 => ?_) (fun c3408 => ?_)
                    · have c3408 := cEQ (x := r3392) (y := 4) (X := r3392.toInt) (Y := 4) rfl (by decide) c3408
                      exact j71_3406 ls (lv_sub hl [1, 2, 4, 5, 6] rfl)
                    · exact j67_3402 ls (lv_sub hl [1, 2, 4, 5, 6] rfl)
          exact lp31_3371 41 ls 0 y3175d u3176 _ _ (by decide) (by decide) (by omega) (by omega) (by have q9 : (0 : Int32).toInt = 0 := (by decide); omega) Un.rf hI hH hl
    exact lp19_3176 8 ls 0 y3d u _ _ (by decide) (by decide) (by omega) (by omega) (by have q9 : (0 : Int32).toInt = 0 := (by decide); omega) Un.rf hI hH hl
  refine lv_icmp_ne (tgt := 14) hx hb dX5_fillAlive_7 (by decide) (fun c2 => ?_) (fun c2 => ?_)
  · refine lv_iconst (v := 0) hx hb dX5_fillAlive_14 (by decide) ?_
    exact j15_1694 ls 0 (by decide) (by decide) hl
  · have c2 := cEQ (x := z1) (y := 1) (X := z1.toInt) (Y := 1) rfl (by decide) c2
    refine lv_iconst (v := 1) hx hb dX5_fillAlive_10 (by decide) ?_
    refine lv_goto (tgt := 15) hx hb dX5_fillAlive_11 (by decide) ?_
    exact j15_1694 ls 1 (by decide) (by decide) hl
set_option maxHeartbeats 4000000 in
set_option maxRecDepth 100000 in
theorem kX5_settle_0 (l : Launch) (D : va_G) (C : Nat → ClassId) (A : Nat → Nat) (u : St) (hI : IC u) (sz : Nat) : MetV l yX5_settle cX5_settle 3 3 [.ref (A 7), .ref (A 2)] D (tyl C) (cw C A) X0 u sz (fun u' => IC u' ∧ Un [(48, 48), (49, 49)] [(38, 38), (84, 90)] [] u u' ∧ True) := by
  refine mV (by decide) (Nat.le_of_ble_eq_true rfl) ?_
  intro p e s m below meth c ls ar Q hx hb hml hown hts hK hH hX hl hret
  have hown : s.vm.findClass RX5 = some m.cls := hown
  have hl : lv_has ls 3 [(0, .ref (A 7)), (1, .ref (A 2))] := hl
  refine lv_aload_n hx hb dX5_settle_0 rfl (lv_at hl 0 rfl) ?_
  refine lv_aload_n hx hb dX5_settle_1 rfl (lv_at hl 1 rfl) ?_
  refine va_get (ci := 7) (v := .int (gi u 9)) (C := RX7) (T := TX7) (N := 16) hx hb hts (fun w h => uc_in w (inX7 w h)) hown hK hH.1 2 (cwc2 C A u) rfl 1 (by decide) (hts _ (uc_in _ q_f71)) (fun _ h9 => h9) rfl dX5_settle_2 ?_
  have b1 := hI.b9
  refine r_put (j := 48) (ci := 5) (C := RX5) (T := TX5) (N := 4) hx hb hts (fun w h => uc_in w (inX5 w h)) tyX5 tyX5_ok nmX5 hown hK hH 7 (cwc7 C A u) rfl 0 (by decide) (hts _ (uc_in _ q_f161)) (fun _ h9 => h9) rfl (by decide +kernel) (Nat.le_of_ble_eq_true rfl) (cws48 C A u _) dX5_settle_5 (fun u2 eu2 H locs hH => ?_)
  have hI := hI.s48 eu2 rfl (by omega) (by omega)
  refine lv_aload_n hx hb dX5_settle_8 rfl (lv_at hl 0 rfl) ?_
  refine lv_aload_n hx hb dX5_settle_9 rfl (lv_at hl 1 rfl) ?_
  refine va_get (ci := 7) (v := .int (gi u2 12)) (C := RX7) (T := TX7) (N := 16) hx hb hts (fun w h => uc_in w (inX7 w h)) hown hK hH.1 2 (cwc2 C A u2) rfl 4 (by decide) (hts _ (uc_in _ q_f81)) (fun _ h9 => h9) rfl dX5_settle_10 ?_
  have b3 := hI.b12
  refine r_put (j := 49) (ci := 5) (C := RX5) (T := TX5) (N := 4) hx hb hts (fun w h => uc_in w (inX5 w h)) tyX5 tyX5_ok nmX5 hown hK hH 7 (cwc7 C A u2) rfl 1 (by decide) (hts _ (uc_in _ q_f165)) (fun _ h9 => h9) rfl (by decide +kernel) (Nat.le_of_ble_eq_true rfl) (cws49 C A u2 _) dX5_settle_13 (fun u4 eu4 H locs hH => ?_)
  have hI := hI.s49 eu4 rfl (by omega) (by omega)
  refine lv_iconst (v := 0) hx hb dX5_settle_16 (by decide) ?_
  refine lv_istore_n (lv' := [(2, .int 0), (0, .ref (A 7)), (1, .ref (A 2))]) hx hb dX5_settle_17 rfl hl (by decide) rfl (fun ls hl => ?_)
  have lp18_111 : ∀ (n18 : Nat) (ls : Array Slot) (y110d : Int32) (u111 : St) (H : Heap) (locs : List Loc), 0 ≤ y110d.toInt → y110d.toInt ≤ 7 → 7 - y110d.toInt < (n18 : Int) → Un [] [(38, 38), (84, 90)] [] u4 u111 → IC u111 → Hd D (cw C A) (va_A (cw C A u) s.heap.size) s.heap u111 H locs → lv_has ls 3 [(2, .int y110d), (0, .ref (A 7)), (1, .ref (A 2))] → W p l e (rmL 3 0 0) s m ar below meth c H locs 0 0 Q (F0 m 18 ls []) := by
    intro n18
    induction n18 with
    | zero => intro ls y110d u111 H locs ly110d my110d hmun18 hUu111 hI hH hl; exfalso; omega
    | succ n18 ih18_111 =>
      intro ls y110d u111 H locs ly110d my110d hmun18 hUu111 hI hH hl
      refine lv_iload_n hx hb dX5_settle_18 rfl (lv_at hl 0 rfl) ?_
      refine lv_bipush (v := 7) hx hb dX5_settle_19 (by decide) ?_
      refine lv_icmp_ge (tgt := 37) hx hb dX5_settle_21 (by decide) (fun c113 => ?_) (fun c113 => ?_)
      · have c113 := cLE (x := 7) (y := y110d) (X := 7) (Y := y110d.toInt) (by decide) rfl c113
        refine lv_iconst (v := 0) hx hb dX5_settle_37 (by decide) ?_
        refine lv_istore_n (lv' := [(2, .int 0), (0, .ref (A 7)), (1, .ref (A 2))]) hx hb dX5_settle_38 rfl hl (by decide) rfl (fun ls hl => ?_)
        have lp39_175 : ∀ (n39 : Nat) (ls : Array Slot) (y174d : Int32) (u175 : St) (H : Heap) (locs : List Loc), 0 ≤ y174d.toInt → y174d.toInt ≤ 6 → 6 - y174d.toInt < (n39 : Int) → Un [] [(38, 38), (84, 90)] [] u111 u175 → IC u175 → Hd D (cw C A) (va_A (cw C A u) s.heap.size) s.heap u175 H locs → lv_has ls 3 [(2, .int y174d), (0, .ref (A 7)), (1, .ref (A 2))] → W p l e (rmL 3 0 0) s m ar below meth c H locs 0 0 Q (F0 m 39 ls []) := by
          intro n39
          induction n39 with
          | zero => intro ls y174d u175 H locs ly174d my174d hmun39 hUu175 hI hH hl; exfalso; omega
          | succ n39 ih39_175 =>
            intro ls y174d u175 H locs ly174d my174d hmun39 hUu175 hI hH hl
            refine lv_iload_n hx hb dX5_settle_39 rfl (lv_at hl 0 rfl) ?_
            refine lv_aload_n hx hb dX5_settle_40 rfl (lv_at hl 1 rfl) ?_
            refine va_get (ci := 5) (v := .int (gi u175 49)) (C := RX5) (T := TX5) (N := 4) hx hb hts (fun w h => uc_in w (inX5 w h)) hown hK hH.1 7 (cwc7 C A u175) rfl 1 (by decide) (hts _ (uc_in _ q_f165)) (fun _ h9 => h9) rfl dX5_settle_41 ?_
            refine pv_i (v := (gi u2 12)) ((hUu175.1 49 rfl).trans ((hUu111.1 49 rfl).trans (gi_si eu4))) ?_
            refine lv_icmp_ge (tgt := 70) hx hb dX5_settle_44 (by decide) (fun c177 => ?_) (fun c177 => ?_)
            · have c177 := cLE (x := (gi u2 12)) (y := y174d) (X := ((gi u2 12)).toInt) (Y := y174d.toInt) rfl rfl c177
              exact hret _ _ _ _ _ dX5_settle_70 ⟨hI, (Un.tr (Un.tr (Un.si (Un.si Un.rf rfl eu2) rfl eu4) hUu111 rfl rfl rfl) hUu175 rfl rfl rfl), trivial⟩ hH
            · have c177 := cNLE (x := (gi u2 12)) (y := y174d) (X := ((gi u2 12)).toInt) (Y := y174d.toInt) rfl rfl c177
              refine lv_aload_n hx hb dX5_settle_47 rfl (lv_at hl 2 rfl) ?_
              refine lv_iload_n hx hb dX5_settle_48 rfl (lv_at hl 0 rfl) ?_
              refine lv_iconst (v := (-1)) hx hb dX5_settle_49 (by decide) ?_
              refine lv_aload_n hx hb dX5_settle_50 rfl (lv_at hl 1 rfl) ?_
              refine va_get (ci := 5) (v := .ref (A 19)) (C := RX5) (T := TX5) (N := 4) hx hb hts (fun w h => uc_in w (inX5 w h)) hown hK hH.1 7 (cwc7 C A u175) rfl 2 (by decide) (hts _ (uc_in _ q_f168)) (fun _ h9 => h9) rfl dX5_settle_51 ?_
              refine lv_iconst (v := 0) hx hb dX5_settle_54 (by decide) ?_
              refine csU (n := 5) (As := [.ref (A 2), .int y174d, .int (-1), .ref (A 19), .int 0]) (rest := []) ⟨hx, hb, hml, hown, hts⟩ uc_in (kX5_fillLates_0 l D C A u175 hI y174d y174d.toInt rfl (by omega) (by omega) _) q_m567 q_s568 q_i4 q_c569 hvX5_fillLates ⟨(Nat.le_of_ble_eq_true rfl), (Nat.le_of_ble_eq_true rfl)⟩ ⟨(Nat.le_of_ble_eq_true rfl), (Nat.le_of_ble_eq_true rfl)⟩ hK hH (fun q h => Or.inr h) Bl0 (fun _ _ _ => trivial) rfl hl.1 rfl (Nat.le_of_ble_eq_true rfl) dX5_settle_55 (fun u178 H locs p180 hH => ?_)
              obtain ⟨hI, hUu178, p180⟩ := p180
              refine lv_aload_n hx hb dX5_settle_58 rfl (lv_at hl 1 rfl) ?_
              refine lv_aload_n hx hb dX5_settle_59 rfl (lv_at hl 2 rfl) ?_
              refine lv_iload_n hx hb dX5_settle_60 rfl (lv_at hl 0 rfl) ?_
              refine cvU (n := 2) (As := [.ref (A 2), .int y174d]) (rest := []) ⟨hx, hb, hml, hown, hts⟩ uc_in (kX5_fillAlive_0 l D C A u178 hI y174d y174d.toInt rfl (by omega) (by omega) _) q_m577 q_n579 q_p10 q_i4 q_c580 hvX5_fillAlive ⟨(Nat.le_of_ble_eq_true rfl), (Nat.le_of_ble_eq_true rfl)⟩ ⟨(Nat.le_of_ble_eq_true rfl), (Nat.le_of_ble_eq_true rfl)⟩ hK hH (fun q h => Or.inr h) Bl0 (fun _ _ _ => trivial) 5 7 rfl (cwc7 C A u178) rfl hl.1 rfl (Nat.le_of_ble_eq_true rfl) dX5_settle_61 (fun u181 H locs p183 hH => ?_)
              obtain ⟨hI, hUu181, p183⟩ := p183
              obtain ⟨z184, ez184⟩ : ∃ z, z = y174d + Int32.ofInt 1 := ⟨_, rfl⟩
              have hz184 : z184.toInt = y174d.toInt + 1 := by rw [ez184]; exact tt_add rfl (by decide) (by omega) (by omega)
              refine lv_iinc (v := z184) (lv' := [(2, .int z184), (0, .ref (A 7)), (1, .ref (A 2))]) hx hb dX5_settle_64 hl (k := 0) rfl ez184.symm (by decide) rfl (fun ls hl => ?_)
              refine lv_goto (tgt := 39) hx hb dX5_settle_67 (by decide) ?_
              exact ih39_175 ls z184 u181 _ _ (by have q9 := (show z184.toInt = (y174d.toInt + 1) from hz184); omega) (by have q9 := (show z184.toInt = (y174d.toInt + 1) from hz184); omega) (by have q9 := (show z184.toInt = (y174d.toInt + 1) from hz184); omega) (Un.tr (Un.tr hUu175 hUu178 rfl rfl rfl) hUu181 rfl rfl rfl) hI hH hl
        exact lp39_175 7 ls 0 u111 _ _ (by decide) (by decide) (by have q9 : (0 : Int32).toInt = 0 := (by decide); omega) Un.rf hI hH hl
      · have c113 := cNLE (x := 7) (y := y110d) (X := 7) (Y := y110d.toInt) (by decide) rfl c113
        refine lv_aload_n hx hb dX5_settle_24 rfl (lv_at hl 1 rfl) ?_
        refine va_get (ci := 5) (v := .ref (A 38)) (C := RX5) (T := TX5) (N := 4) hx hb hts (fun w h => uc_in w (inX5 w h)) hown hK hH.1 7 (cwc7 C A u111) rfl 3 (by decide) (hts _ (uc_in _ q_f172)) (fun _ h9 => h9) rfl dX5_settle_25 ?_
        refine lv_iload_n hx hb dX5_settle_28 rfl (lv_at hl 0 rfl) ?_
        refine lv_iconst (v := 0) hx hb dX5_settle_29 (by decide) ?_
        refine r_iast (j := 38) hx hb hK hH 38 1 (cwc38 C A u111) rfl (i_ix rfl (by omega) (by omega)) (cwa38 C A u111) dX5_settle_30 (fun u185 eu185 H locs hH => ?_)
        have hI := hI.pa0 eu185 (by decide)
        obtain ⟨z186, ez186⟩ : ∃ z, z = y110d + Int32.ofInt 1 := ⟨_, rfl⟩
        have hz186 : z186.toInt = y110d.toInt + 1 := by rw [ez186]; exact tt_add rfl (by decide) (by omega) (by omega)
        refine lv_iinc (v := z186) (lv' := [(2, .int z186), (0, .ref (A 7)), (1, .ref (A 2))]) hx hb dX5_settle_31 hl (k := 0) rfl ez186.symm (by decide) rfl (fun ls hl => ?_)
        refine lv_goto (tgt := 18) hx hb dX5_settle_34 (by decide) ?_
        exact ih18_111 ls z186 u185 _ _ (by have q9 := (show z186.toInt = (y110d.toInt + 1) from hz186); omega) (by have q9 := (show z186.toInt = (y110d.toInt + 1) from hz186); omega) (by have q9 := (show z186.toInt = (y110d.toInt + 1) from hz186); omega) (Un.sa hUu111 rfl eu185) hI hH hl
  exact lp18_111 8 ls 0 u4 _ _ (by decide) (by decide) (by have q9 : (0 : Int32).toInt = 0 := (by decide); omega) Un.rf hI hH hl
set_option maxHeartbeats 4000000 in
set_option maxRecDepth 100000 in
theorem kX9_undo_0 (l : Launch) (D : va_G) (C : Nat → ClassId) (A : Nat → Nat) (u : St) (hI : IC u) (sz : Nat) : MetI l yX9_undo cX9_undo 1 (some .int) 4 [.ref (A 0)] D (tyl C) (cw C A) X0 u sz (fun r u' => IC u' ∧ Un [(15, 15), (48, 48), (49, 49)] [(38, 38), (84, 90)] [] u u' ∧ ((-5) ≤ r.toInt ∧ r.toInt ≤ 39)) := by
  refine mI (by decide) (Nat.le_of_ble_eq_true rfl) ?_
  intro p e s m below meth c ls ar Q hx hb hml hown hts hK hH hX hl hret
  have hown : s.vm.findClass RX9 = some m.cls := hown
  have hl : lv_has ls 1 [(0, .ref (A 0))] := hl
  refine lv_aload_n hx hb dX9_undo_0 rfl (lv_at hl 0 rfl) ?_
  refine cvS (n := 0) (As := []) (rest := []) ⟨hx, hb, hml, hown, hts⟩ uc_in (kX9_hasTown_0 l D C A u hI ) q_m678 q_n680 q_p18 q_i1 q_c681 hvX9_hasTown ⟨(Nat.le_of_ble_eq_true rfl), (Nat.le_of_ble_eq_true rfl)⟩ ⟨(Nat.le_of_ble_eq_true rfl), (Nat.le_of_ble_eq_true rfl)⟩ hK hH.1 9 0 rfl (cwc0 C A u) rfl hl.1 rfl (Nat.le_of_ble_eq_true rfl) dX9_undo_1 (fun r1 p2 => ?_)
  have p2 : 0 ≤ r1.toInt ∧ r1.toInt ≤ 1 := p2
  refine lv_if_ne (tgt := 10) hx hb dX9_undo_4 (by decide) (fun c3 => ?_) (fun c3 => ?_)
  · have c3 := cNE (x := r1) (y := 0) (X := r1.toInt) (Y := 0) rfl (by decide) c3
    refine lv_aload_n hx hb dX9_undo_10 rfl (lv_at hl 0 rfl) ?_
    refine va_get (ci := 9) (v := .ref (A 2)) (C := RX9) (T := TX9) (N := 12) hx hb hts (fun w h => uc_in w (inX9 w h)) hown hK hH.1 0 (cwc0 C A u) rfl 1 (by decide) (hts _ (uc_in _ q_f384)) (fun _ h9 => h9) rfl dX9_undo_11 ?_
    refine va_get (ci := 7) (v := .int (gi u 15)) (C := RX7) (T := TX7) (N := 16) hx hb hts (fun w h => uc_in w (inX7 w h)) hown hK hH.1 2 (cwc2 C A u) rfl 7 (by decide) (hts _ (uc_in _ q_f94)) (fun _ h9 => h9) rfl dX9_undo_14 ?_
    have b4 := hI.b15
    refine lv_if_ne (tgt := 23) hx hb dX9_undo_17 (by decide) (fun c5 => ?_) (fun c5 => ?_)
    · have c5 := cNE (x := (gi u 15)) (y := 0) (X := ((gi u 15)).toInt) (Y := 0) rfl (by decide) c5
      refine lv_aload_n hx hb dX9_undo_23 rfl (lv_at hl 0 rfl) ?_
      refine va_get (ci := 9) (v := .ref (A 2)) (C := RX9) (T := TX9) (N := 12) hx hb hts (fun w h => uc_in w (inX9 w h)) hown hK hH.1 0 (cwc0 C A u) rfl 1 (by decide) (hts _ (uc_in _ q_f384)) (fun _ h9 => h9) rfl dX9_undo_24 ?_
      refine lv_dup hx hb dX9_undo_27 rfl ?_
      refine va_get (ci := 7) (v := .int (gi u 15)) (C := RX7) (T := TX7) (N := 16) hx hb hts (fun w h => uc_in w (inX7 w h)) hown hK hH.1 2 (cwc2 C A u) rfl 7 (by decide) (hts _ (uc_in _ q_f94)) (fun _ h9 => h9) rfl dX9_undo_28 ?_
      refine lv_iconst (v := 1) hx hb dX9_undo_31 (by decide) ?_
      refine lv_isub hx hb dX9_undo_32 ?_
      refine p_nm (tt_sub (X := ((gi u 15)).toInt) (Y := 1) rfl (by decide) (by omega) (by omega)) (fun z6 hz6 => ?_)
      refine r_put (j := 15) (ci := 7) (C := RX7) (T := TX7) (N := 16) hx hb hts (fun w h => uc_in w (inX7 w h)) tyX7 tyX7_ok nmX7 hown hK hH 2 (cwc2 C A u) rfl 7 (by decide) (hts _ (uc_in _ q_f94)) (fun _ h9 => h9) rfl (by decide +kernel) (Nat.le_of_ble_eq_true rfl) (cws15 C A u _) dX9_undo_33 (fun u7 eu7 H locs hH => ?_)
      have hI := hI.s15 eu7 hz6 (by omega) (by omega)
      refine lv_aload_n hx hb dX9_undo_36 rfl (lv_at hl 0 rfl) ?_
      refine va_get (ci := 9) (v := .ref (A 7)) (C := RX9) (T := TX9) (N := 12) hx hb hts (fun w h => uc_in w (inX9 w h)) hown hK hH.1 0 (cwc0 C A u7) rfl 5 (by decide) (hts _ (uc_in _ q_f388)) (fun _ h9 => h9) rfl dX9_undo_37 ?_
      refine lv_aload_n hx hb dX9_undo_40 rfl (lv_at hl 0 rfl) ?_
      refine va_get (ci := 9) (v := .ref (A 2)) (C := RX9) (T := TX9) (N := 12) hx hb hts (fun w h => uc_in w (inX9 w h)) hown hK hH.1 0 (cwc0 C A u7) rfl 1 (by decide) (hts _ (uc_in _ q_f384)) (fun _ h9 => h9) rfl dX9_undo_41 ?_
      refine cvU (n := 1) (As := [.ref (A 2)]) (rest := []) ⟨hx, hb, hml, hown, hts⟩ uc_in (kX5_settle_0 l D C A u7 hI  _) q_m563 q_n564 q_e565 q_i4 q_c566 hvX5_settle ⟨(Nat.le_of_ble_eq_true rfl), (Nat.le_of_ble_eq_true rfl)⟩ ⟨(Nat.le_of_ble_eq_true rfl), (Nat.le_of_ble_eq_true rfl)⟩ hK hH (fun q h => Or.inr h) Bl0 (fun _ _ _ => trivial) 5 7 rfl (cwc7 C A u7) rfl hl.1 rfl (Nat.le_of_ble_eq_true rfl) dX9_undo_44 (fun u8 H locs p10 hH => ?_)
      obtain ⟨hI, hUu8, p10⟩ := p10
      refine lv_aload_n hx hb dX9_undo_47 rfl (lv_at hl 0 rfl) ?_
      refine va_get (ci := 9) (v := .ref (A 2)) (C := RX9) (T := TX9) (N := 12) hx hb hts (fun w h => uc_in w (inX9 w h)) hown hK hH.1 0 (cwc0 C A u8) rfl 1 (by decide) (hts _ (uc_in _ q_f384)) (fun _ h9 => h9) rfl dX9_undo_48 ?_
      refine va_get (ci := 7) (v := .int (gi u8 15)) (C := RX7) (T := TX7) (N := 16) hx hb hts (fun w h => uc_in w (inX7 w h)) hown hK hH.1 2 (cwc2 C A u8) rfl 7 (by decide) (hts _ (uc_in _ q_f94)) (fun _ h9 => h9) rfl dX9_undo_51 ?_
      refine pv_i (v := z6) ((hUu8.1 15 rfl).trans (gi_si eu7)) ?_
      exact hret _ _ _ _ z6 _ dX9_undo_54 rfl ⟨hI, (Un.tr (Un.si Un.rf rfl eu7) hUu8 rfl rfl rfl), ⟨by have q9 := (show z6.toInt = (((gi u 15)).toInt - 1) from hz6); omega, by have q9 := (show z6.toInt = (((gi u 15)).toInt - 1) from hz6); omega⟩⟩ hH
    · have c5 := cEQ (x := (gi u 15)) (y := 0) (X := ((gi u 15)).toInt) (Y := 0) rfl (by decide) c5
      refine lv_bipush (v := (-5)) hx hb dX9_undo_20 (by decide) ?_
      exact hret _ _ _ _ ((-5) : Int32) _ dX9_undo_22 rfl ⟨hI, Un.rf, ⟨by decide, by decide⟩⟩ hH
  · have c3 := cEQ (x := r1) (y := 0) (X := r1.toInt) (Y := 0) rfl (by decide) c3
    refine lv_bipush (v := (-2)) hx hb dX9_undo_7 (by decide) ?_
    exact hret _ _ _ _ ((-2) : Int32) _ dX9_undo_9 rfl ⟨hI, Un.rf, ⟨by decide, by decide⟩⟩ hH
set_option maxHeartbeats 4000000 in
set_option maxRecDepth 100000 in
theorem kX9_isWithin_0 (l : Launch) (D : va_G) (C : Nat → ClassId) (A : Nat → Nat) (u : St) (hI : IC u) (a0 : Int32) (A0 : Int) (ha0 : a0.toInt = A0) (a1 : Int32) (A1 : Int) (ha1 : a1.toInt = A1) (a2 : Int32) (A2 : Int) (ha2 : a2.toInt = A2) : Met l yX9_isWithin (uc yX9_isWithin cX9_isWithin 3 (some .boolean)) (rmL 1 0 0) (va_Pc [.int a0, .int a1, .int a2] (PreR D (tyl C) (cw C A u))) (vp_Si (fun r => (r = 1 ∧ A1 ≤ A0 ∧ A0 ≤ A2) ∨ r = 0)) 0 0 (fun _ => False) := by
  refine mS (by decide) (Nat.le_of_ble_eq_true rfl) ?_
  intro p e s m below meth c ls ar Q hx hb hml hown hts hK hP hl hret
  have hown : s.vm.findClass RX9 = some m.cls := hown
  have hl : lv_has ls 3 [(0, .int a0), (1, .int a1), (2, .int a2)] := hl
  refine lv_iload_n hx hb dX9_isWithin_0 rfl (lv_at hl 0 rfl) ?_
  refine lv_iload_n hx hb dX9_isWithin_1 rfl (lv_at hl 1 rfl) ?_
  refine lv_icmp_lt (tgt := 14) hx hb dX9_isWithin_2 (by decide) (fun c1 => ?_) (fun c1 => ?_)
  · have c1 := cLT (x := a0) (y := a1) (X := A0) (Y := A1) ha0 ha1 c1
    refine lv_iconst (v := 0) hx hb dX9_isWithin_14 (by decide) ?_
    exact hret _ _ (0 : Int32) dX9_isWithin_15 rfl (Or.inr rfl)
  · have c1 := cNLT (x := a0) (y := a1) (X := A0) (Y := A1) ha0 ha1 c1
    refine lv_iload_n hx hb dX9_isWithin_5 rfl (lv_at hl 0 rfl) ?_
    refine lv_iload_n hx hb dX9_isWithin_6 rfl (lv_at hl 2 rfl) ?_
    refine lv_icmp_gt (tgt := 14) hx hb dX9_isWithin_7 (by decide) (fun c2 => ?_) (fun c2 => ?_)
    · have c2 := cLT (x := a2) (y := a0) (X := A2) (Y := A0) ha2 ha0 c2
      refine lv_iconst (v := 0) hx hb dX9_isWithin_14 (by decide) ?_
      exact hret _ _ (0 : Int32) dX9_isWithin_15 rfl (Or.inr rfl)
    · have c2 := cNLT (x := a2) (y := a0) (X := A2) (Y := A0) ha2 ha0 c2
      refine lv_iconst (v := 1) hx hb dX9_isWithin_10 (by decide) ?_
      refine lv_goto (tgt := 15) hx hb dX9_isWithin_11 (by decide) ?_
      exact hret _ _ (1 : Int32) dX9_isWithin_15 rfl (Or.inl ⟨rfl, by omega, by omega⟩)
set_option maxHeartbeats 4000000 in
set_option maxRecDepth 100000 in
theorem kX9_isSlot_0 (l : Launch) (D : va_G) (C : Nat → ClassId) (A : Nat → Nat) (u : St) (hI : IC u) (a0 : Int32) (A0 : Int) (ha0 : a0.toInt = A0) : Met l yX9_isSlot (uc yX9_isSlot cX9_isSlot 1 (some .boolean)) (rmL 2 0 0) (va_Pc [.int a0] (PreR D (tyl C) (cw C A u))) (vp_Si (fun r => (r = 1 ∧ 0 ≤ A0 ∧ A0 ≤ 3) ∨ r = 0)) 0 0 (fun _ => False) := by
  refine mS (by decide) (Nat.le_of_ble_eq_true rfl) ?_
  intro p e s m below meth c ls ar Q hx hb hml hown hts hK hP hl hret
  have hown : s.vm.findClass RX9 = some m.cls := hown
  have hl : lv_has ls 1 [(0, .int a0)] := hl
  refine lv_iload_n hx hb dX9_isSlot_0 rfl (lv_at hl 0 rfl) ?_
  refine lv_iconst (v := 0) hx hb dX9_isSlot_1 (by decide) ?_
  refine lv_iconst (v := 3) hx hb dX9_isSlot_2 (by decide) ?_
  refine csS (n := 3) (As := [.int a0, .int 0, .int 3]) (rest := []) ⟨hx, hb, hml, hown, hts⟩ uc_in (kX9_isWithin_0 l D C A u hI a0 A0 ha0 (0) 0 (by decide) (3) 3 (by decide)) q_m651 q_s652 q_i1 q_c653 hvX9_isWithin ⟨(Nat.le_of_ble_eq_true rfl), (Nat.le_of_ble_eq_true rfl)⟩ ⟨(Nat.le_of_ble_eq_true rfl), (Nat.le_of_ble_eq_true rfl)⟩ hK hP rfl hl.1 rfl (Nat.le_of_ble_eq_true rfl) dX9_isSlot_3 (fun r1 p2 => ?_)
  rcases p2 with ⟨e9, f3, f4⟩ | e9
  · subst e9
    exact hret _ _ (1 : Int32) dX9_isSlot_6 rfl (Or.inl ⟨rfl, by omega, by omega⟩)
  · subst e9
    exact hret _ _ (0 : Int32) dX9_isSlot_6 rfl (Or.inr rfl)
set_option maxHeartbeats 4000000 in
set_option maxRecDepth 100000 in
theorem kX3_begin_0 (l : Launch) (D : va_G) (C : Nat → ClassId) (A : Nat → Nat) (u : St) (hI : IC u) (a0 : Int32) (A0 : Int) (ha0 : a0.toInt = A0) (a1 : Int32) (A1 : Int) (ha1 : a1.toInt = A1) (hl1 : 0 ≤ A1) (hm1 : A1 ≤ 60) (sz : Nat) : MetV l yX3_begin cX3_begin 4 1 [.ref (A 8), .int a0, .int a1] D (tyl C) (cw C A) X0 u sz (fun u' => IC u' ∧ Un [(50, 50), (51, 51)] [] [(39, 39)] u u' ∧ True) := by
  refine mV (by decide) (Nat.le_of_ble_eq_true rfl) ?_
  intro p e s m below meth c ls ar Q hx hb hml hown hts hK hH hX hl hret
  have hown : s.vm.findClass RX3 = some m.cls := hown
  have hl : lv_has ls 4 [(0, .ref (A 8)), (1, .int a0), (2, .int a1)] := hl
  refine lv_aload_n hx hb dX3_begin_0 rfl (lv_at hl 0 rfl) ?_
  refine lv_iload_n hx hb dX3_begin_1 rfl (lv_at hl 1 rfl) ?_
  refine r_put (j := 51) (ci := 3) (C := RX3) (T := TX3) (N := 3) hx hb hts (fun w h => uc_in w (inX3 w h)) tyX3 tyX3_ok nmX3 hown hK hH 8 (cwc8 C A u) rfl 1 (by decide) (hts _ (uc_in _ q_f196)) (fun _ h9 => h9) rfl (by decide +kernel) (Nat.le_of_ble_eq_true rfl) (cws51 C A u _) dX3_begin_2 (fun u1 eu1 H locs hH => ?_)
  have hI := hI.pi0 eu1 rfl (by decide) (by decide)
  refine lv_aload_n hx hb dX3_begin_5 rfl (lv_at hl 0 rfl) ?_
  refine lv_iload_n hx hb dX3_begin_6 rfl (lv_at hl 2 rfl) ?_
  refine r_put (j := 50) (ci := 3) (C := RX3) (T := TX3) (N := 3) hx hb hts (fun w h => uc_in w (inX3 w h)) tyX3 tyX3_ok nmX3 hown hK hH 8 (cwc8 C A u1) rfl 0 (by decide) (hts _ (uc_in _ q_f192)) (fun _ h9 => h9) rfl (by decide +kernel) (Nat.le_of_ble_eq_true rfl) (cws50 C A u1 _) dX3_begin_7 (fun u2 eu2 H locs hH => ?_)
  have hI := hI.s50 eu2 ha1 (by omega) (by omega)
  refine lv_iconst (v := 0) hx hb dX3_begin_10 (by decide) ?_
  refine lv_istore_n (lv' := [(3, .int 0), (0, .ref (A 8)), (1, .int a0), (2, .int a1)]) hx hb dX3_begin_11 rfl hl (by decide) rfl (fun ls hl => ?_)
  have lp12_58 : ∀ (n12 : Nat) (ls : Array Slot) (y57d : Int32) (u58 : St) (H : Heap) (locs : List Loc), 0 ≤ y57d.toInt → y57d.toInt ≤ 60 → 60 - y57d.toInt < (n12 : Int) → Un [] [] [(39, 39)] u2 u58 → IC u58 → Hd D (cw C A) (va_A (cw C A u) s.heap.size) s.heap u58 H locs → lv_has ls 4 [(3, .int y57d), (0, .ref (A 8))] → W p l e (rmL 1 0 0) s m ar below meth c H locs 0 0 Q (F0 m 12 ls []) := by
    intro n12
    induction n12 with
    | zero => intro ls y57d u58 H locs ly57d my57d hmun12 hUu58 hI hH hl; exfalso; omega
    | succ n12 ih12_58 =>
      intro ls y57d u58 H locs ly57d my57d hmun12 hUu58 hI hH hl
      refine lv_iload_n hx hb dX3_begin_12 rfl (lv_at hl 0 rfl) ?_
      refine lv_bipush (v := 60) hx hb dX3_begin_13 (by decide) ?_
      refine lv_icmp_ge (tgt := 31) hx hb dX3_begin_15 (by decide) (fun c60 => ?_) (fun c60 => ?_)
      · have c60 := cLE (x := 60) (y := y57d) (X := 60) (Y := y57d.toInt) (by decide) rfl c60
        exact hret _ _ _ _ _ dX3_begin_31 ⟨hI, (Un.tr (Un.si (Un.si Un.rf rfl eu1) rfl eu2) hUu58 rfl rfl rfl), trivial⟩ hH
      · have c60 := cNLE (x := 60) (y := y57d) (X := 60) (Y := y57d.toInt) (by decide) rfl c60
        refine lv_aload_n hx hb dX3_begin_18 rfl (lv_at hl 1 rfl) ?_
        refine va_get (ci := 3) (v := .ref (A 39)) (C := RX3) (T := TX3) (N := 3) hx hb hts (fun w h => uc_in w (inX3 w h)) hown hK hH.1 8 (cwc8 C A u58) rfl 2 (by decide) (hts _ (uc_in _ q_f198)) (fun _ h9 => h9) rfl dX3_begin_19 ?_
        refine lv_iload_n hx hb dX3_begin_22 rfl (lv_at hl 0 rfl) ?_
        refine lv_lconst (v := 0) hx hb dX3_begin_23 (by decide) ?_
        refine r_last (j := 39) hx hb hK hH 39 2 (cwc39 C A u58) rfl (i_ix rfl (by omega) (by omega)) (cwb39 C A u58) dX3_begin_24 (fun u61 eu61 H locs hH => ?_)
        have hI := hI.pb_ eu61
        obtain ⟨z62, ez62⟩ : ∃ z, z = y57d + Int32.ofInt 1 := ⟨_, rfl⟩
        have hz62 : z62.toInt = y57d.toInt + 1 := by rw [ez62]; exact tt_add rfl (by decide) (by omega) (by omega)
        refine lv_iinc (v := z62) (lv' := [(3, .int z62), (0, .ref (A 8))]) hx hb dX3_begin_25 hl (k := 0) rfl ez62.symm (by decide) rfl (fun ls hl => ?_)
        refine lv_goto (tgt := 12) hx hb dX3_begin_28 (by decide) ?_
        exact ih12_58 ls z62 u61 _ _ (by have q9 := (show z62.toInt = (y57d.toInt + 1) from hz62); omega) (by have q9 := (show z62.toInt = (y57d.toInt + 1) from hz62); omega) (by have q9 := (show z62.toInt = (y57d.toInt + 1) from hz62); omega) (Un.sb hUu58 rfl eu61) hI hH hl
  exact lp12_58 61 ls 0 u2 _ _ (by decide) (by decide) (by have q9 : (0 : Int32).toInt = 0 := (by decide); omega) Un.rf hI hH (lv_sub hl [0, 1] rfl)
set_option maxHeartbeats 4000000 in
set_option maxRecDepth 100000 in
theorem kX3_begin_1 (l : Launch) (D : va_G) (C : Nat → ClassId) (A : Nat → Nat) (u : St) (hI : IC u) (a0 : Int32) (A0 : Int) (ha0 : a0.toInt = A0) (a1 : Int32) (A1 : Int) (ha1 : a1.toInt = A1) (hl1 : 0 ≤ A1) (hm1 : A1 ≤ 60) (sz : Nat) : MetV l yX3_begin cX3_begin 4 1 [.ref (A 9), .int a0, .int a1] D (tyl C) (cw C A) X0 u sz (fun u' => IC u' ∧ Un [(52, 52), (53, 53)] [] [(40, 40)] u u' ∧ True) := by
  refine mV (by decide) (Nat.le_of_ble_eq_true rfl) ?_
  intro p e s m below meth c ls ar Q hx hb hml hown hts hK hH hX hl hret
  have hown : s.vm.findClass RX3 = some m.cls := hown
  have hl : lv_has ls 4 [(0, .ref (A 9)), (1, .int a0), (2, .int a1)] := hl
  refine lv_aload_n hx hb dX3_begin_0 rfl (lv_at hl 0 rfl) ?_
  refine lv_iload_n hx hb dX3_begin_1 rfl (lv_at hl 1 rfl) ?_
  refine r_put (j := 53) (ci := 3) (C := RX3) (T := TX3) (N := 3) hx hb hts (fun w h => uc_in w (inX3 w h)) tyX3 tyX3_ok nmX3 hown hK hH 9 (cwc9 C A u) rfl 1 (by decide) (hts _ (uc_in _ q_f196)) (fun _ h9 => h9) rfl (by decide +kernel) (Nat.le_of_ble_eq_true rfl) (cws53 C A u _) dX3_begin_2 (fun u1 eu1 H locs hH => ?_)
  have hI := hI.pi0 eu1 rfl (by decide) (by decide)
  refine lv_aload_n hx hb dX3_begin_5 rfl (lv_at hl 0 rfl) ?_
  refine lv_iload_n hx hb dX3_begin_6 rfl (lv_at hl 2 rfl) ?_
  refine r_put (j := 52) (ci := 3) (C := RX3) (T := TX3) (N := 3) hx hb hts (fun w h => uc_in w (inX3 w h)) tyX3 tyX3_ok nmX3 hown hK hH 9 (cwc9 C A u1) rfl 0 (by decide) (hts _ (uc_in _ q_f192)) (fun _ h9 => h9) rfl (by decide +kernel) (Nat.le_of_ble_eq_true rfl) (cws52 C A u1 _) dX3_begin_7 (fun u2 eu2 H locs hH => ?_)
  have hI := hI.s52 eu2 ha1 (by omega) (by omega)
  refine lv_iconst (v := 0) hx hb dX3_begin_10 (by decide) ?_
  refine lv_istore_n (lv' := [(3, .int 0), (0, .ref (A 9)), (1, .int a0), (2, .int a1)]) hx hb dX3_begin_11 rfl hl (by decide) rfl (fun ls hl => ?_)
  have lp12_58 : ∀ (n12 : Nat) (ls : Array Slot) (y57d : Int32) (u58 : St) (H : Heap) (locs : List Loc), 0 ≤ y57d.toInt → y57d.toInt ≤ 60 → 60 - y57d.toInt < (n12 : Int) → Un [] [] [(40, 40)] u2 u58 → IC u58 → Hd D (cw C A) (va_A (cw C A u) s.heap.size) s.heap u58 H locs → lv_has ls 4 [(3, .int y57d), (0, .ref (A 9))] → W p l e (rmL 1 0 0) s m ar below meth c H locs 0 0 Q (F0 m 12 ls []) := by
    intro n12
    induction n12 with
    | zero => intro ls y57d u58 H locs ly57d my57d hmun12 hUu58 hI hH hl; exfalso; omega
    | succ n12 ih12_58 =>
      intro ls y57d u58 H locs ly57d my57d hmun12 hUu58 hI hH hl
      refine lv_iload_n hx hb dX3_begin_12 rfl (lv_at hl 0 rfl) ?_
      refine lv_bipush (v := 60) hx hb dX3_begin_13 (by decide) ?_
      refine lv_icmp_ge (tgt := 31) hx hb dX3_begin_15 (by decide) (fun c60 => ?_) (fun c60 => ?_)
      · have c60 := cLE (x := 60) (y := y57d) (X := 60) (Y := y57d.toInt) (by decide) rfl c60
        exact hret _ _ _ _ _ dX3_begin_31 ⟨hI, (Un.tr (Un.si (Un.si Un.rf rfl eu1) rfl eu2) hUu58 rfl rfl rfl), trivial⟩ hH
      · have c60 := cNLE (x := 60) (y := y57d) (X := 60) (Y := y57d.toInt) (by decide) rfl c60
        refine lv_aload_n hx hb dX3_begin_18 rfl (lv_at hl 1 rfl) ?_
        refine va_get (ci := 3) (v := .ref (A 40)) (C := RX3) (T := TX3) (N := 3) hx hb hts (fun w h => uc_in w (inX3 w h)) hown hK hH.1 9 (cwc9 C A u58) rfl 2 (by decide) (hts _ (uc_in _ q_f198)) (fun _ h9 => h9) rfl dX3_begin_19 ?_
        refine lv_iload_n hx hb dX3_begin_22 rfl (lv_at hl 0 rfl) ?_
        refine lv_lconst (v := 0) hx hb dX3_begin_23 (by decide) ?_
        refine r_last (j := 40) hx hb hK hH 40 2 (cwc40 C A u58) rfl (i_ix rfl (by omega) (by omega)) (cwb40 C A u58) dX3_begin_24 (fun u61 eu61 H locs hH => ?_)
        have hI := hI.pb_ eu61
        obtain ⟨z62, ez62⟩ : ∃ z, z = y57d + Int32.ofInt 1 := ⟨_, rfl⟩
        have hz62 : z62.toInt = y57d.toInt + 1 := by rw [ez62]; exact tt_add rfl (by decide) (by omega) (by omega)
        refine lv_iinc (v := z62) (lv' := [(3, .int z62), (0, .ref (A 9))]) hx hb dX3_begin_25 hl (k := 0) rfl ez62.symm (by decide) rfl (fun ls hl => ?_)
        refine lv_goto (tgt := 12) hx hb dX3_begin_28 (by decide) ?_
        exact ih12_58 ls z62 u61 _ _ (by have q9 := (show z62.toInt = (y57d.toInt + 1) from hz62); omega) (by have q9 := (show z62.toInt = (y57d.toInt + 1) from hz62); omega) (by have q9 := (show z62.toInt = (y57d.toInt + 1) from hz62); omega) (Un.sb hUu58 rfl eu61) hI hH hl
  exact lp12_58 61 ls 0 u2 _ _ (by decide) (by decide) (by have q9 : (0 : Int32).toInt = 0 := (by decide); omega) Un.rf hI hH (lv_sub hl [0, 1] rfl)
set_option maxHeartbeats 4000000 in
set_option maxRecDepth 100000 in
theorem kX3_begin_2 (l : Launch) (D : va_G) (C : Nat → ClassId) (A : Nat → Nat) (u : St) (hI : IC u) (a0 : Int32) (A0 : Int) (ha0 : a0.toInt = A0) (a1 : Int32) (A1 : Int) (ha1 : a1.toInt = A1) (hl1 : 0 ≤ A1) (hm1 : A1 ≤ 60) (sz : Nat) : MetV l yX3_begin cX3_begin 4 1 [.ref (A 10), .int a0, .int a1] D (tyl C) (cw C A) X0 u sz (fun u' => IC u' ∧ Un [(54, 54), (55, 55)] [] [(41, 41)] u u' ∧ True) := by
  refine mV (by decide) (Nat.le_of_ble_eq_true rfl) ?_
  intro p e s m below meth c ls ar Q hx hb hml hown hts hK hH hX hl hret
  have hown : s.vm.findClass RX3 = some m.cls := hown
  have hl : lv_has ls 4 [(0, .ref (A 10)), (1, .int a0), (2, .int a1)] := hl
  refine lv_aload_n hx hb dX3_begin_0 rfl (lv_at hl 0 rfl) ?_
  refine lv_iload_n hx hb dX3_begin_1 rfl (lv_at hl 1 rfl) ?_
  refine r_put (j := 55) (ci := 3) (C := RX3) (T := TX3) (N := 3) hx hb hts (fun w h => uc_in w (inX3 w h)) tyX3 tyX3_ok nmX3 hown hK hH 10 (cwc10 C A u) rfl 1 (by decide) (hts _ (uc_in _ q_f196)) (fun _ h9 => h9) rfl (by decide +kernel) (Nat.le_of_ble_eq_true rfl) (cws55 C A u _) dX3_begin_2 (fun u1 eu1 H locs hH => ?_)
  have hI := hI.pi0 eu1 rfl (by decide) (by decide)
  refine lv_aload_n hx hb dX3_begin_5 rfl (lv_at hl 0 rfl) ?_
  refine lv_iload_n hx hb dX3_begin_6 rfl (lv_at hl 2 rfl) ?_
  refine r_put (j := 54) (ci := 3) (C := RX3) (T := TX3) (N := 3) hx hb hts (fun w h => uc_in w (inX3 w h)) tyX3 tyX3_ok nmX3 hown hK hH 10 (cwc10 C A u1) rfl 0 (by decide) (hts _ (uc_in _ q_f192)) (fun _ h9 => h9) rfl (by decide +kernel) (Nat.le_of_ble_eq_true rfl) (cws54 C A u1 _) dX3_begin_7 (fun u2 eu2 H locs hH => ?_)
  have hI := hI.s54 eu2 ha1 (by omega) (by omega)
  refine lv_iconst (v := 0) hx hb dX3_begin_10 (by decide) ?_
  refine lv_istore_n (lv' := [(3, .int 0), (0, .ref (A 10)), (1, .int a0), (2, .int a1)]) hx hb dX3_begin_11 rfl hl (by decide) rfl (fun ls hl => ?_)
  have lp12_58 : ∀ (n12 : Nat) (ls : Array Slot) (y57d : Int32) (u58 : St) (H : Heap) (locs : List Loc), 0 ≤ y57d.toInt → y57d.toInt ≤ 60 → 60 - y57d.toInt < (n12 : Int) → Un [] [] [(41, 41)] u2 u58 → IC u58 → Hd D (cw C A) (va_A (cw C A u) s.heap.size) s.heap u58 H locs → lv_has ls 4 [(3, .int y57d), (0, .ref (A 10))] → W p l e (rmL 1 0 0) s m ar below meth c H locs 0 0 Q (F0 m 12 ls []) := by
    intro n12
    induction n12 with
    | zero => intro ls y57d u58 H locs ly57d my57d hmun12 hUu58 hI hH hl; exfalso; omega
    | succ n12 ih12_58 =>
      intro ls y57d u58 H locs ly57d my57d hmun12 hUu58 hI hH hl
      refine lv_iload_n hx hb dX3_begin_12 rfl (lv_at hl 0 rfl) ?_
      refine lv_bipush (v := 60) hx hb dX3_begin_13 (by decide) ?_
      refine lv_icmp_ge (tgt := 31) hx hb dX3_begin_15 (by decide) (fun c60 => ?_) (fun c60 => ?_)
      · have c60 := cLE (x := 60) (y := y57d) (X := 60) (Y := y57d.toInt) (by decide) rfl c60
        exact hret _ _ _ _ _ dX3_begin_31 ⟨hI, (Un.tr (Un.si (Un.si Un.rf rfl eu1) rfl eu2) hUu58 rfl rfl rfl), trivial⟩ hH
      · have c60 := cNLE (x := 60) (y := y57d) (X := 60) (Y := y57d.toInt) (by decide) rfl c60
        refine lv_aload_n hx hb dX3_begin_18 rfl (lv_at hl 1 rfl) ?_
        refine va_get (ci := 3) (v := .ref (A 41)) (C := RX3) (T := TX3) (N := 3) hx hb hts (fun w h => uc_in w (inX3 w h)) hown hK hH.1 10 (cwc10 C A u58) rfl 2 (by decide) (hts _ (uc_in _ q_f198)) (fun _ h9 => h9) rfl dX3_begin_19 ?_
        refine lv_iload_n hx hb dX3_begin_22 rfl (lv_at hl 0 rfl) ?_
        refine lv_lconst (v := 0) hx hb dX3_begin_23 (by decide) ?_
        refine r_last (j := 41) hx hb hK hH 41 2 (cwc41 C A u58) rfl (i_ix rfl (by omega) (by omega)) (cwb41 C A u58) dX3_begin_24 (fun u61 eu61 H locs hH => ?_)
        have hI := hI.pb_ eu61
        obtain ⟨z62, ez62⟩ : ∃ z, z = y57d + Int32.ofInt 1 := ⟨_, rfl⟩
        have hz62 : z62.toInt = y57d.toInt + 1 := by rw [ez62]; exact tt_add rfl (by decide) (by omega) (by omega)
        refine lv_iinc (v := z62) (lv' := [(3, .int z62), (0, .ref (A 10))]) hx hb dX3_begin_25 hl (k := 0) rfl ez62.symm (by decide) rfl (fun ls hl => ?_)
        refine lv_goto (tgt := 12) hx hb dX3_begin_28 (by decide) ?_
        exact ih12_58 ls z62 u61 _ _ (by have q9 := (show z62.toInt = (y57d.toInt + 1) from hz62); omega) (by have q9 := (show z62.toInt = (y57d.toInt + 1) from hz62); omega) (by have q9 := (show z62.toInt = (y57d.toInt + 1) from hz62); omega) (Un.sb hUu58 rfl eu61) hI hH hl
  exact lp12_58 61 ls 0 u2 _ _ (by decide) (by decide) (by have q9 : (0 : Int32).toInt = 0 := (by decide); omega) Un.rf hI hH (lv_sub hl [0, 1] rfl)
set_option maxHeartbeats 4000000 in
set_option maxRecDepth 100000 in
theorem kX3_begin_3 (l : Launch) (D : va_G) (C : Nat → ClassId) (A : Nat → Nat) (u : St) (hI : IC u) (a0 : Int32) (A0 : Int) (ha0 : a0.toInt = A0) (a1 : Int32) (A1 : Int) (ha1 : a1.toInt = A1) (hl1 : 0 ≤ A1) (hm1 : A1 ≤ 60) (sz : Nat) : MetV l yX3_begin cX3_begin 4 1 [.ref (A 11), .int a0, .int a1] D (tyl C) (cw C A) X0 u sz (fun u' => IC u' ∧ Un [(56, 56), (57, 57)] [] [(42, 42)] u u' ∧ True) := by
  refine mV (by decide) (Nat.le_of_ble_eq_true rfl) ?_
  intro p e s m below meth c ls ar Q hx hb hml hown hts hK hH hX hl hret
  have hown : s.vm.findClass RX3 = some m.cls := hown
  have hl : lv_has ls 4 [(0, .ref (A 11)), (1, .int a0), (2, .int a1)] := hl
  refine lv_aload_n hx hb dX3_begin_0 rfl (lv_at hl 0 rfl) ?_
  refine lv_iload_n hx hb dX3_begin_1 rfl (lv_at hl 1 rfl) ?_
  refine r_put (j := 57) (ci := 3) (C := RX3) (T := TX3) (N := 3) hx hb hts (fun w h => uc_in w (inX3 w h)) tyX3 tyX3_ok nmX3 hown hK hH 11 (cwc11 C A u) rfl 1 (by decide) (hts _ (uc_in _ q_f196)) (fun _ h9 => h9) rfl (by decide +kernel) (Nat.le_of_ble_eq_true rfl) (cws57 C A u _) dX3_begin_2 (fun u1 eu1 H locs hH => ?_)
  have hI := hI.pi0 eu1 rfl (by decide) (by decide)
  refine lv_aload_n hx hb dX3_begin_5 rfl (lv_at hl 0 rfl) ?_
  refine lv_iload_n hx hb dX3_begin_6 rfl (lv_at hl 2 rfl) ?_
  refine r_put (j := 56) (ci := 3) (C := RX3) (T := TX3) (N := 3) hx hb hts (fun w h => uc_in w (inX3 w h)) tyX3 tyX3_ok nmX3 hown hK hH 11 (cwc11 C A u1) rfl 0 (by decide) (hts _ (uc_in _ q_f192)) (fun _ h9 => h9) rfl (by decide +kernel) (Nat.le_of_ble_eq_true rfl) (cws56 C A u1 _) dX3_begin_7 (fun u2 eu2 H locs hH => ?_)
  have hI := hI.s56 eu2 ha1 (by omega) (by omega)
  refine lv_iconst (v := 0) hx hb dX3_begin_10 (by decide) ?_
  refine lv_istore_n (lv' := [(3, .int 0), (0, .ref (A 11)), (1, .int a0), (2, .int a1)]) hx hb dX3_begin_11 rfl hl (by decide) rfl (fun ls hl => ?_)
  have lp12_58 : ∀ (n12 : Nat) (ls : Array Slot) (y57d : Int32) (u58 : St) (H : Heap) (locs : List Loc), 0 ≤ y57d.toInt → y57d.toInt ≤ 60 → 60 - y57d.toInt < (n12 : Int) → Un [] [] [(42, 42)] u2 u58 → IC u58 → Hd D (cw C A) (va_A (cw C A u) s.heap.size) s.heap u58 H locs → lv_has ls 4 [(3, .int y57d), (0, .ref (A 11))] → W p l e (rmL 1 0 0) s m ar below meth c H locs 0 0 Q (F0 m 12 ls []) := by
    intro n12
    induction n12 with
    | zero => intro ls y57d u58 H locs ly57d my57d hmun12 hUu58 hI hH hl; exfalso; omega
    | succ n12 ih12_58 =>
      intro ls y57d u58 H locs ly57d my57d hmun12 hUu58 hI hH hl
      refine lv_iload_n hx hb dX3_begin_12 rfl (lv_at hl 0 rfl) ?_
      refine lv_bipush (v := 60) hx hb dX3_begin_13 (by decide) ?_
      refine lv_icmp_ge (tgt := 31) hx hb dX3_begin_15 (by decide) (fun c60 => ?_) (fun c60 => ?_)
      · have c60 := cLE (x := 60) (y := y57d) (X := 60) (Y := y57d.toInt) (by decide) rfl c60
        exact hret _ _ _ _ _ dX3_begin_31 ⟨hI, (Un.tr (Un.si (Un.si Un.rf rfl eu1) rfl eu2) hUu58 rfl rfl rfl), trivial⟩ hH
      · have c60 := cNLE (x := 60) (y := y57d) (X := 60) (Y := y57d.toInt) (by decide) rfl c60
        refine lv_aload_n hx hb dX3_begin_18 rfl (lv_at hl 1 rfl) ?_
        refine va_get (ci := 3) (v := .ref (A 42)) (C := RX3) (T := TX3) (N := 3) hx hb hts (fun w h => uc_in w (inX3 w h)) hown hK hH.1 11 (cwc11 C A u58) rfl 2 (by decide) (hts _ (uc_in _ q_f198)) (fun _ h9 => h9) rfl dX3_begin_19 ?_
        refine lv_iload_n hx hb dX3_begin_22 rfl (lv_at hl 0 rfl) ?_
        refine lv_lconst (v := 0) hx hb dX3_begin_23 (by decide) ?_
        refine r_last (j := 42) hx hb hK hH 42 2 (cwc42 C A u58) rfl (i_ix rfl (by omega) (by omega)) (cwb42 C A u58) dX3_begin_24 (fun u61 eu61 H locs hH => ?_)
        have hI := hI.pb_ eu61
        obtain ⟨z62, ez62⟩ : ∃ z, z = y57d + Int32.ofInt 1 := ⟨_, rfl⟩
        have hz62 : z62.toInt = y57d.toInt + 1 := by rw [ez62]; exact tt_add rfl (by decide) (by omega) (by omega)
        refine lv_iinc (v := z62) (lv' := [(3, .int z62), (0, .ref (A 11))]) hx hb dX3_begin_25 hl (k := 0) rfl ez62.symm (by decide) rfl (fun ls hl => ?_)
        refine lv_goto (tgt := 12) hx hb dX3_begin_28 (by decide) ?_
        exact ih12_58 ls z62 u61 _ _ (by have q9 := (show z62.toInt = (y57d.toInt + 1) from hz62); omega) (by have q9 := (show z62.toInt = (y57d.toInt + 1) from hz62); omega) (by have q9 := (show z62.toInt = (y57d.toInt + 1) from hz62); omega) (Un.sb hUu58 rfl eu61) hI hH hl
  exact lp12_58 61 ls 0 u2 _ _ (by decide) (by decide) (by have q9 : (0 : Int32).toInt = 0 := (by decide); omega) Un.rf hI hH (lv_sub hl [0, 1] rfl)
set_option maxHeartbeats 4000000 in
set_option maxRecDepth 100000 in
theorem kX9_row_0 (l : Launch) (D : va_G) (C : Nat → ClassId) (A : Nat → Nat) (u : St) (hI : IC u) (a0 : Int32) (A0 : Int) (ha0 : a0.toInt = A0) (a1 : Int32) (A1 : Int) (ha1 : a1.toInt = A1) (a2 : Int32) (A2 : Int) (ha2 : a2.toInt = A2) (sz : Nat) : MetI l yX9_row cX9_row 4 (some .int) 3 [.ref (A 0), .int a0, .int a1, .int a2] D (tyl C) (cw C A) X0 u sz (fun r u' => IC u' ∧ Un [(50, 50), (51, 51), (52, 52), (53, 53), (54, 54), (55, 55), (56, 56), (57, 57)] [] [(39, 39), (40, 40), (41, 41), (42, 42)] u u' ∧ ((-3) ≤ r.toInt ∧ r.toInt ≤ 0)) := by
  refine mI (by decide) (Nat.le_of_ble_eq_true rfl) ?_
  intro p e s m below meth c ls ar Q hx hb hml hown hts hK hH hX hl hret
  have hown : s.vm.findClass RX9 = some m.cls := hown
  have hl : lv_has ls 4 [(0, .ref (A 0)), (1, .int a0), (2, .int a1), (3, .int a2)] := hl
  refine lv_iload_n hx hb dX9_row_0 rfl (lv_at hl 1 rfl) ?_
  refine csS (n := 1) (As := [.int a0]) (rest := []) ⟨hx, hb, hml, hown, hts⟩ uc_in (kX9_isSlot_0 l D C A u hI a0 A0 ha0) q_m911 q_s912 q_i1 q_c913 hvX9_isSlot ⟨(Nat.le_of_ble_eq_true rfl), (Nat.le_of_ble_eq_true rfl)⟩ ⟨(Nat.le_of_ble_eq_true rfl), (Nat.le_of_ble_eq_true rfl)⟩ hK hH.1 rfl hl.1 rfl (Nat.le_of_ble_eq_true rfl) dX9_row_1 (fun r1 p2 => ?_)
  rcases p2 with ⟨e9, f3, f4⟩ | e9
  · subst e9
    refine lv_if_eq (tgt := 22) hx hb dX9_row_4 (by decide) (fun c5 => absurd c5 (by decide)) (fun c5 => ?_)
    refine lv_iload_n hx hb dX9_row_7 rfl (lv_at hl 2 rfl) ?_
    refine lv_iconst (v := 0) hx hb dX9_row_8 (by decide) ?_
    refine lv_iconst (v := 3) hx hb dX9_row_9 (by decide) ?_
    refine csS (n := 3) (As := [.int a1, .int 0, .int 3]) (rest := []) ⟨hx, hb, hml, hown, hts⟩ uc_in (kX9_isWithin_0 l D C A u hI a1 A1 ha1 (0) 0 (by decide) (3) 3 (by decide)) q_m651 q_s652 q_i1 q_c653 hvX9_isWithin ⟨(Nat.le_of_ble_eq_true rfl), (Nat.le_of_ble_eq_true rfl)⟩ ⟨(Nat.le_of_ble_eq_true rfl), (Nat.le_of_ble_eq_true rfl)⟩ hK hH.1 rfl hl.1 rfl (Nat.le_of_ble_eq_true rfl) dX9_row_10 (fun r6 p7 => ?_)
    rcases p7 with ⟨e9, f8, f9⟩ | e9
    · subst e9
      refine lv_if_eq (tgt := 22) hx hb dX9_row_13 (by decide) (fun c10 => absurd c10 (by decide)) (fun c10 => ?_)
      refine lv_iload_n hx hb dX9_row_16 rfl (lv_at hl 3 rfl) ?_
      refine lv_bipush (v := 60) hx hb dX9_row_17 (by decide) ?_
      refine lv_icmp_le (tgt := 25) hx hb dX9_row_19 (by decide) (fun c11 => ?_) (fun c11 => ?_)
      · have c11 := cLE (x := a2) (y := 60) (X := A2) (Y := 60) ha2 (by decide) c11
        refine lv_iload_n hx hb dX9_row_25 rfl (lv_at hl 3 rfl) ?_
        refine lv_if_ge (tgt := 32) hx hb dX9_row_26 (by decide) (fun c12 => ?_) (fun c12 => ?_)
        · have c12 := cLE (x := 0) (y := a2) (X := 0) (Y := A2) (by decide) ha2 c12
          refine lv_aload_n hx hb dX9_row_32 rfl (lv_at hl 0 rfl) ?_
          refine va_get (ci := 9) (v := .ref (A 18)) (C := RX9) (T := TX9) (N := 12) hx hb hts (fun w h => uc_in w (inX9 w h)) hown hK hH.1 0 (cwc0 C A u) rfl 6 (by decide) (hts _ (uc_in _ q_f389)) (fun _ h9 => h9) rfl dX9_row_33 ?_
          refine lv_iload_n hx hb dX9_row_36 rfl (lv_at hl 1 rfl) ?_
          rcases (show A0 = 0 ∨ A0 = 1 ∨ A0 = 2 ∨ A0 = 3 by omega) with e9 | e9 | e9 | e9
          · have e8 : a0 = 0 := i_lit ha0 (by rw [e9]; decide)
            subst e8
            have q8 : (0 : Int32).toInt = 0 := by decide
            refine r_aald hx hb hK hH.1 18 5 rfl (cwc18 C A u) rfl (i_ix (X := 0) (by decide) (by decide) (by decide)) dX9_row_37 ?_
            refine pv_v (v := .ref (A 8)) rfl ?_
            refine lv_iload_n hx hb dX9_row_38 rfl (lv_at hl 2 rfl) ?_
            refine lv_iload_n hx hb dX9_row_39 rfl (lv_at hl 3 rfl) ?_
            refine cvU (n := 2) (As := [.int a1, .int a2]) (rest := []) ⟨hx, hb, hml, hown, hts⟩ uc_in (kX3_begin_0 l D C A u hI a1 A1 ha1 a2 A2 ha2 (by omega) (by omega) _) q_m1162 q_n1163 q_e1164 q_i5 q_c1165 hvX3_begin ⟨(Nat.le_of_ble_eq_true rfl), (Nat.le_of_ble_eq_true rfl)⟩ ⟨(Nat.le_of_ble_eq_true rfl), (Nat.le_of_ble_eq_true rfl)⟩ hK hH (fun q h => Or.inr h) Bl0 (fun _ _ _ => trivial) 3 8 rfl (cwc8 C A u) rfl hl.1 rfl (Nat.le_of_ble_eq_true rfl) dX9_row_40 (fun u13 H locs p15 hH => ?_)
            obtain ⟨hI, hUu13, p15⟩ := p15
            refine lv_iconst (v := 0) hx hb dX9_row_43 (by decide) ?_
            exact hret _ _ _ _ (0 : Int32) _ dX9_row_44 rfl ⟨hI, (Un.tr Un.rf hUu13 rfl rfl rfl), ⟨by decide, by decide⟩⟩ hH
          · have e8 : a0 = 1 := i_lit ha0 (by rw [e9]; decide)
            subst e8
            have q8 : (1 : Int32).toInt = 1 := by decide
            refine r_aald hx hb hK hH.1 18 5 rfl (cwc18 C A u) rfl (i_ix (X := 1) (by decide) (by decide) (by decide)) dX9_row_37 ?_
            refine pv_v (v := .ref (A 9)) rfl ?_
            refine lv_iload_n hx hb dX9_row_38 rfl (lv_at hl 2 rfl) ?_
            refine lv_iload_n hx hb dX9_row_39 rfl (lv_at hl 3 rfl) ?_
            refine cvU (n := 2) (As := [.int a1, .int a2]) (rest := []) ⟨hx, hb, hml, hown, hts⟩ uc_in (kX3_begin_1 l D C A u hI a1 A1 ha1 a2 A2 ha2 (by omega) (by omega) _) q_m1162 q_n1163 q_e1164 q_i5 q_c1165 hvX3_begin ⟨(Nat.le_of_ble_eq_true rfl), (Nat.le_of_ble_eq_true rfl)⟩ ⟨(Nat.le_of_ble_eq_true rfl), (Nat.le_of_ble_eq_true rfl)⟩ hK hH (fun q h => Or.inr h) Bl0 (fun _ _ _ => trivial) 3 9 rfl (cwc9 C A u) rfl hl.1 rfl (Nat.le_of_ble_eq_true rfl) dX9_row_40 (fun u16 H locs p18 hH => ?_)
            obtain ⟨hI, hUu16, p18⟩ := p18
            refine lv_iconst (v := 0) hx hb dX9_row_43 (by decide) ?_
            exact hret _ _ _ _ (0 : Int32) _ dX9_row_44 rfl ⟨hI, (Un.tr Un.rf hUu16 rfl rfl rfl), ⟨by decide, by decide⟩⟩ hH
          · have e8 : a0 = 2 := i_lit ha0 (by rw [e9]; decide)
            subst e8
            have q8 : (2 : Int32).toInt = 2 := by decide
            refine r_aald hx hb hK hH.1 18 5 rfl (cwc18 C A u) rfl (i_ix (X := 2) (by decide) (by decide) (by decide)) dX9_row_37 ?_
            refine pv_v (v := .ref (A 10)) rfl ?_
            refine lv_iload_n hx hb dX9_row_38 rfl (lv_at hl 2 rfl) ?_
            refine lv_iload_n hx hb dX9_row_39 rfl (lv_at hl 3 rfl) ?_
            refine cvU (n := 2) (As := [.int a1, .int a2]) (rest := []) ⟨hx, hb, hml, hown, hts⟩ uc_in (kX3_begin_2 l D C A u hI a1 A1 ha1 a2 A2 ha2 (by omega) (by omega) _) q_m1162 q_n1163 q_e1164 q_i5 q_c1165 hvX3_begin ⟨(Nat.le_of_ble_eq_true rfl), (Nat.le_of_ble_eq_true rfl)⟩ ⟨(Nat.le_of_ble_eq_true rfl), (Nat.le_of_ble_eq_true rfl)⟩ hK hH (fun q h => Or.inr h) Bl0 (fun _ _ _ => trivial) 3 10 rfl (cwc10 C A u) rfl hl.1 rfl (Nat.le_of_ble_eq_true rfl) dX9_row_40 (fun u19 H locs p21 hH => ?_)
            obtain ⟨hI, hUu19, p21⟩ := p21
            refine lv_iconst (v := 0) hx hb dX9_row_43 (by decide) ?_
            exact hret _ _ _ _ (0 : Int32) _ dX9_row_44 rfl ⟨hI, (Un.tr Un.rf hUu19 rfl rfl rfl), ⟨by decide, by decide⟩⟩ hH
          · have e8 : a0 = 3 := i_lit ha0 (by rw [e9]; decide)
            subst e8
            have q8 : (3 : Int32).toInt = 3 := by decide
            refine r_aald hx hb hK hH.1 18 5 rfl (cwc18 C A u) rfl (i_ix (X := 3) (by decide) (by decide) (by decide)) dX9_row_37 ?_
            refine pv_v (v := .ref (A 11)) rfl ?_
            refine lv_iload_n hx hb dX9_row_38 rfl (lv_at hl 2 rfl) ?_
            refine lv_iload_n hx hb dX9_row_39 rfl (lv_at hl 3 rfl) ?_
            refine cvU (n := 2) (As := [.int a1, .int a2]) (rest := []) ⟨hx, hb, hml, hown, hts⟩ uc_in (kX3_begin_3 l D C A u hI a1 A1 ha1 a2 A2 ha2 (by omega) (by omega) _) q_m1162 q_n1163 q_e1164 q_i5 q_c1165 hvX3_begin ⟨(Nat.le_of_ble_eq_true rfl), (Nat.le_of_ble_eq_true rfl)⟩ ⟨(Nat.le_of_ble_eq_true rfl), (Nat.le_of_ble_eq_true rfl)⟩ hK hH (fun q h => Or.inr h) Bl0 (fun _ _ _ => trivial) 3 11 rfl (cwc11 C A u) rfl hl.1 rfl (Nat.le_of_ble_eq_true rfl) dX9_row_40 (fun u22 H locs p24 hH => ?_)
            obtain ⟨hI, hUu22, p24⟩ := p24
            refine lv_iconst (v := 0) hx hb dX9_row_43 (by decide) ?_
            exact hret _ _ _ _ (0 : Int32) _ dX9_row_44 rfl ⟨hI, (Un.tr Un.rf hUu22 rfl rfl rfl), ⟨by decide, by decide⟩⟩ hH
        · have c12 := cNLE (x := 0) (y := a2) (X := 0) (Y := A2) (by decide) ha2 c12
          refine lv_bipush (v := (-3)) hx hb dX9_row_29 (by decide) ?_
          exact hret _ _ _ _ ((-3) : Int32) _ dX9_row_31 rfl ⟨hI, Un.rf, ⟨by decide, by decide⟩⟩ hH
      · have c11 := cNLE (x := a2) (y := 60) (X := A2) (Y := 60) ha2 (by decide) c11
        refine lv_bipush (v := (-2)) hx hb dX9_row_22 (by decide) ?_
        exact hret _ _ _ _ ((-2) : Int32) _ dX9_row_24 rfl ⟨hI, Un.rf, ⟨by decide, by decide⟩⟩ hH
    · subst e9
      refine lv_if_eq (tgt := 22) hx hb dX9_row_13 (by decide) (fun c25 => ?_) (fun c25 => absurd c25 (by decide))
      refine lv_bipush (v := (-2)) hx hb dX9_row_22 (by decide) ?_
      exact hret _ _ _ _ ((-2) : Int32) _ dX9_row_24 rfl ⟨hI, Un.rf, ⟨by decide, by decide⟩⟩ hH
  · subst e9
    refine lv_if_eq (tgt := 22) hx hb dX9_row_4 (by decide) (fun c26 => ?_) (fun c26 => absurd c26 (by decide))
    refine lv_bipush (v := (-2)) hx hb dX9_row_22 (by decide) ?_
    exact hret _ _ _ _ ((-2) : Int32) _ dX9_row_24 rfl ⟨hI, Un.rf, ⟨by decide, by decide⟩⟩ hH
