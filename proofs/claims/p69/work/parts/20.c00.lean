set_option maxHeartbeats 4000000 in
set_option maxRecDepth 100000 in
theorem kX9_isDay_0 (l : Launch) (D : va_G) (C : Nat → ClassId) (A : Nat → Nat) (u : St) (hI : IC u) (a0 : Int32) (A0 : Int) (ha0 : a0.toInt = A0) : Met l yX9_isDay (uc yX9_isDay cX9_isDay 2 (some .boolean)) (rmL 1 0 0) (va_Pc [.ref (A 0), .int a0] (PreR D (tyl C) (cw C A u))) (vp_Si (fun r => (r = 1 ∧ 0 ≤ A0 ∧ A0 < (gi u 48).toInt) ∨ r = 0)) 0 0 (fun _ => False) := by
  refine mS (by decide) (Nat.le_of_ble_eq_true rfl) ?_
  intro p e s m below meth c ls ar Q hx hb hml hown hts hK hP hl hret
  have hown : s.vm.findClass RX9 = some m.cls := hown
  have hl : lv_has ls 2 [(0, .ref (A 0)), (1, .int a0)] := hl
  refine lv_iload_n hx hb dX9_isDay_0 rfl (lv_at hl 1 rfl) ?_
  refine lv_if_lt (tgt := 19) hx hb dX9_isDay_1 (by decide) (fun c1 => ?_) (fun c1 => ?_)
  · have c1 := cLT (x := a0) (y := 0) (X := A0) (Y := 0) ha0 (by decide) c1
    refine lv_iconst (v := 0) hx hb dX9_isDay_19 (by decide) ?_
    exact hret _ _ (0 : Int32) dX9_isDay_20 rfl (Or.inr rfl)
  · have c1 := cNLT (x := a0) (y := 0) (X := A0) (Y := 0) ha0 (by decide) c1
    refine lv_iload_n hx hb dX9_isDay_4 rfl (lv_at hl 1 rfl) ?_
    refine lv_aload_n hx hb dX9_isDay_5 rfl (lv_at hl 0 rfl) ?_
    refine va_get (ci := 9) (v := .ref (A 7)) (C := RX9) (T := TX9) (N := 12) hx hb hts (fun w h => uc_in w (inX9 w h)) hown hK hP 0 (cwc0 C A u) rfl 5 (by decide) (hts _ (uc_in _ q_f388)) (fun _ h9 => h9) rfl dX9_isDay_6 ?_
    refine va_get (ci := 5) (v := .int (gi u 48)) (C := RX5) (T := TX5) (N := 4) hx hb hts (fun w h => uc_in w (inX5 w h)) hown hK hP 7 (cwc7 C A u) rfl 0 (by decide) (hts _ (uc_in _ q_f164)) (fun _ h9 => h9) rfl dX9_isDay_9 ?_
    have b2 := hI.b48
    refine lv_icmp_ge (tgt := 19) hx hb dX9_isDay_12 (by decide) (fun c3 => ?_) (fun c3 => ?_)
    · have c3 := cLE (x := (gi u 48)) (y := a0) (X := ((gi u 48)).toInt) (Y := A0) rfl ha0 c3
      refine lv_iconst (v := 0) hx hb dX9_isDay_19 (by decide) ?_
      exact hret _ _ (0 : Int32) dX9_isDay_20 rfl (Or.inr rfl)
    · have c3 := cNLE (x := (gi u 48)) (y := a0) (X := ((gi u 48)).toInt) (Y := A0) rfl ha0 c3
      refine lv_iconst (v := 1) hx hb dX9_isDay_15 (by decide) ?_
      refine lv_goto (tgt := 20) hx hb dX9_isDay_16 (by decide) ?_
      exact hret _ _ (1 : Int32) dX9_isDay_20 rfl (Or.inl ⟨rfl, by omega, by omega⟩)
set_option maxHeartbeats 4000000 in
set_option maxRecDepth 100000 in
theorem kX5_lastOf_0 (l : Launch) (D : va_G) (C : Nat → ClassId) (A : Nat → Nat) (u : St) (hI : IC u) (q0 : Nat) (hq0 : q0 < 109) (a1 : Int32) (A1 : Int) (ha1 : a1.toInt = A1) : Met l yX5_lastOf (uc yX5_lastOf cX5_lastOf 5 (some .int)) (rmL 1 0 0) (va_Pc [.ref (A (52 + q0)), .int a1] (PreR D (tyl C) (cw C A u))) (vp_Si (fun r => (-1) ≤ r.toInt ∧ r.toInt ≤ 5)) 0 0 (fun _ => False) := by
  refine mS (by decide) (Nat.le_of_ble_eq_true rfl) ?_
  intro p e s m below meth c ls ar Q hx hb hml hown hts hK hP hl hret
  have hown : s.vm.findClass RX5 = some m.cls := hown
  have hl : lv_has ls 5 [(0, .ref (A (52 + q0))), (1, .int a1)] := hl
  refine lv_iconst (v := (-1)) hx hb dX5_lastOf_0 (by decide) ?_
  refine lv_istore_n (lv' := [(2, .int (-1)), (0, .ref (A (52 + q0))), (1, .int a1)]) hx hb dX5_lastOf_1 rfl hl (by decide) rfl (fun ls hl => ?_)
  refine lv_iconst (v := 0) hx hb dX5_lastOf_2 (by decide) ?_
  refine lv_istore_n (lv' := [(3, .int 0), (2, .int (-1)), (0, .ref (A (52 + q0))), (1, .int a1)]) hx hb dX5_lastOf_3 rfl hl (by decide) rfl (fun ls hl => ?_)
  have lp4_76 : ∀ (n4 : Nat) (ls : Array Slot) (y75d : Int32) (y76d : Int32), 0 ≤ y75d.toInt → y75d.toInt ≤ 6 → (-1) ≤ y76d.toInt → y76d.toInt ≤ 5 → 6 - y75d.toInt < (n4 : Int) → lv_has ls 5 [(3, .int y75d), (2, .int y76d), (0, .ref (A (52 + q0))), (1, .int a1)] → W p l e (rmL 1 0 0) s m ar below meth c s.heap [] 0 0 Q (F0 m 4 ls []) := by
    intro n4
    induction n4 with
    | zero => intro ls y75d y76d ly75d my75d ly76d my76d hmun4 hl; exfalso; omega
    | succ n4 ih4_76 =>
      intro ls y75d y76d ly75d my75d ly76d my76d hmun4 hl
      refine lv_iload_n hx hb dX5_lastOf_4 rfl (lv_at hl 0 rfl) ?_
      refine lv_bipush (v := 6) hx hb dX5_lastOf_5 (by decide) ?_
      refine lv_icmp_ge (tgt := 53) hx hb dX5_lastOf_7 (by decide) (fun c78 => ?_) (fun c78 => ?_)
      · have c78 := cLE (x := 6) (y := y75d) (X := 6) (Y := y75d.toInt) (by decide) rfl c78
        refine lv_iload_n hx hb dX5_lastOf_53 rfl (lv_at hl 1 rfl) ?_
        exact hret _ _ y76d dX5_lastOf_54 rfl ⟨by omega, by omega⟩
      · have c78 := cNLE (x := 6) (y := y75d) (X := 6) (Y := y75d.toInt) (by decide) rfl c78
        refine lv_iload_n hx hb dX5_lastOf_10 rfl (lv_at hl 3 rfl) ?_
        refine lv_iload_n hx hb dX5_lastOf_11 rfl (lv_at hl 0 rfl) ?_
        refine lv_ishr hx hb dX5_lastOf_12 ?_
        refine p_any (fun z79 => ?_)
        refine lv_iconst (v := 1) hx hb dX5_lastOf_13 (by decide) ?_
        refine lv_iand hx hb dX5_lastOf_14 ?_
        refine p_bd (P := fun q => 0 ≤ q ∧ q ≤ 1) (tt_andR (Y := 1) (by decide) (by decide)) (fun z80 bz80 => ?_)
        have bz80 : 0 ≤ z80.toInt ∧ z80.toInt ≤ 1 := bz80
        refine lv_iconst (v := 1) hx hb dX5_lastOf_15 (by decide) ?_
        have j24_90 : ∀ (ls : Array Slot) (y82d : Int32), 0 ≤ y82d.toInt → y82d.toInt ≤ 1 → lv_has ls 5 [(3, .int y75d), (2, .int y76d), (0, .ref (A (52 + q0))), (1, .int a1)] → W p l e (rmL 1 0 0) s m ar below meth c s.heap [] 0 0 Q (F0 m 24 ls [.int y82d]) := by
          intro ls y82d ly82d my82d hl
          refine lv_istore (lv' := [(4, .int y82d), (3, .int y75d), (2, .int y76d), (0, .ref (A (52 + q0))), (1, .int a1)]) hx hb dX5_lastOf_24 hl (by decide) rfl (fun ls hl => ?_)
          refine lv_iload hx hb dX5_lastOf_26 (lv_at hl 0 rfl) ?_
          have j47_99 : ∀ (ls : Array Slot) (y97d : Int32), (-1) ≤ y97d.toInt → y97d.toInt ≤ 5 → lv_has ls 5 [(3, .int y75d), (2, .int y97d), (0, .ref (A (52 + q0))), (1, .int a1)] → W p l e (rmL 1 0 0) s m ar below meth c s.heap [] 0 0 Q (F0 m 47 ls []) := by
            intro ls y97d ly97d my97d hl
            obtain ⟨z101, ez101⟩ : ∃ z, z = y75d + Int32.ofInt 1 := ⟨_, rfl⟩
            have hz101 : z101.toInt = y75d.toInt + 1 := by rw [ez101]; exact tt_add rfl (by decide) (by omega) (by omega)
            refine lv_iinc (v := z101) (lv' := [(3, .int z101), (2, .int y97d), (0, .ref (A (52 + q0))), (1, .int a1)]) hx hb dX5_lastOf_47 hl (k := 0) rfl ez101.symm (by decide) rfl (fun ls hl => ?_)
            refine lv_goto (tgt := 4) hx hb dX5_lastOf_50 (by decide) ?_
            exact ih4_76 ls z101 y97d (by have q9 := (show z101.toInt = (y75d.toInt + 1) from hz101); omega) (by have q9 := (show z101.toInt = (y75d.toInt + 1) from hz101); omega) (by omega) (by omega) (by have q9 := (show z101.toInt = (y75d.toInt + 1) from hz101); omega) hl
          refine lv_if_eq (tgt := 47) hx hb dX5_lastOf_28 (by decide) (fun c92 => ?_) (fun c92 => ?_)
          · have c92 := cEQ (x := y82d) (y := 0) (X := y82d.toInt) (Y := 0) rfl (by decide) c92
            exact j47_99 ls y76d (by omega) (by omega) (lv_sub hl [1, 2, 3, 4] rfl)
          · have c92 := cNE (x := y82d) (y := 0) (X := y82d.toInt) (Y := 0) rfl (by decide) c92
            refine lv_iload_n hx hb dX5_lastOf_31 rfl (lv_at hl 2 rfl) ?_
            refine lv_iconst (v := (-1)) hx hb dX5_lastOf_32 (by decide) ?_
            have j45_106 : ∀ (ls : Array Slot), lv_has ls 5 [(3, .int y75d), (0, .ref (A (52 + q0))), (1, .int a1)] → W p l e (rmL 1 0 0) s m ar below meth c s.heap [] 0 0 Q (F0 m 45 ls []) := by
              intro ls hl
              refine lv_iload_n hx hb dX5_lastOf_45 rfl (lv_at hl 0 rfl) ?_
              refine lv_istore_n (lv' := [(2, .int y75d), (3, .int y75d), (0, .ref (A (52 + q0))), (1, .int a1)]) hx hb dX5_lastOf_46 rfl hl (by decide) rfl (fun ls hl => ?_)
              exact j47_99 ls y75d (by omega) (by omega) (lv_sub hl [1, 0, 2, 3] rfl)
            refine lv_icmp_eq (tgt := 45) hx hb dX5_lastOf_33 (by decide) (fun c102 => ?_) (fun c102 => ?_)
            · have c102 := cEQ (x := y76d) (y := (-1)) (X := y76d.toInt) (Y := (-1)) rfl (by decide) c102
              exact j45_106 ls (lv_sub hl [1, 3, 4] rfl)
            · have c102 := cNE (x := y76d) (y := (-1)) (X := y76d.toInt) (Y := (-1)) rfl (by decide) c102
              refine lv_aload_n hx hb dX5_lastOf_36 rfl (lv_at hl 3 rfl) ?_
              refine lv_iload_n hx hb dX5_lastOf_37 rfl (lv_at hl 1 rfl) ?_
              refine va_iald hx hb hK hP (52 + q0) 1 (cwp C A u q0 hq0) rfl (i_ix rfl (by omega) (by omega)) dX5_lastOf_38 ?_
              refine p_any (fun z108 => ?_)
              refine lv_aload_n hx hb dX5_lastOf_39 rfl (lv_at hl 3 rfl) ?_
              refine lv_iload_n hx hb dX5_lastOf_40 rfl (lv_at hl 2 rfl) ?_
              refine va_iald hx hb hK hP (52 + q0) 1 (cwp C A u q0 hq0) rfl (i_ix rfl (by omega) (by omega)) dX5_lastOf_41 ?_
              refine p_any (fun z109 => ?_)
              refine lv_icmp_le (tgt := 47) hx hb dX5_lastOf_42 (by decide) (fun c110 => ?_) (fun c110 => ?_)
              · have c110 := cLE (x := z108) (y := z109) (X := z108.toInt) (Y := z109.toInt) rfl rfl c110
                exact j47_99 ls y76d (by omega) (by omega) (lv_sub hl [1, 2, 3, 4] rfl)
              · have c110 := cNLE (x := z108) (y := z109) (X := z108.toInt) (Y := z109.toInt) rfl rfl c110
                exact j45_106 ls (lv_sub hl [1, 3, 4] rfl)
        refine lv_icmp_ne (tgt := 23) hx hb dX5_lastOf_16 (by decide) (fun c81 => ?_) (fun c81 => ?_)
        · have c81 := cNE (x := z80) (y := 1) (X := z80.toInt) (Y := 1) rfl (by decide) c81
          refine lv_iconst (v := 0) hx hb dX5_lastOf_23 (by decide) ?_
          exact j24_90 ls 0 (by decide) (by decide) hl
        · have c81 := cEQ (x := z80) (y := 1) (X := z80.toInt) (Y := 1) rfl (by decide) c81
          refine lv_iconst (v := 1) hx hb dX5_lastOf_19 (by decide) ?_
          refine lv_goto (tgt := 24) hx hb dX5_lastOf_20 (by decide) ?_
          exact j24_90 ls 1 (by decide) (by decide) hl
  exact lp4_76 7 ls 0 (-1) (by decide) (by decide) (by decide) (by decide) (by have q9 : (0 : Int32).toInt = 0 := (by decide); omega) hl
set_option maxHeartbeats 4000000 in
set_option maxRecDepth 100000 in
theorem kX5_noonOf_0 (l : Launch) (D : va_G) (C : Nat → ClassId) (A : Nat → Nat) (u : St) (hI : IC u) (q0 : Nat) (hq0 : q0 < 109) (a1 : Int32) (A1 : Int) (ha1 : a1.toInt = A1) : Met l yX5_noonOf (uc yX5_noonOf cX5_noonOf 3 (some .int)) (rmL 2 0 0) (va_Pc [.ref (A (52 + q0)), .int a1] (PreR D (tyl C) (cw C A u))) (vp_Si (fun r => True)) 0 0 (fun _ => False) := by
  refine mS (by decide) (Nat.le_of_ble_eq_true rfl) ?_
  intro p e s m below meth c ls ar Q hx hb hml hown hts hK hP hl hret
  have hown : s.vm.findClass RX5 = some m.cls := hown
  have hl : lv_has ls 3 [(0, .ref (A (52 + q0))), (1, .int a1)] := hl
  refine lv_aload_n hx hb dX5_noonOf_0 rfl (lv_at hl 0 rfl) ?_
  refine lv_iload_n hx hb dX5_noonOf_1 rfl (lv_at hl 1 rfl) ?_
  refine csS (n := 2) (As := [.ref (A (52 + q0)), .int a1]) (rest := []) ⟨hx, hb, hml, hown, hts⟩ uc_in (kX5_lastOf_0 l D C A u hI q0 (by omega) a1 A1 ha1) q_m612 q_s613 q_i4 q_c614 hvX5_lastOf ⟨(Nat.le_of_ble_eq_true rfl), (Nat.le_of_ble_eq_true rfl)⟩ ⟨(Nat.le_of_ble_eq_true rfl), (Nat.le_of_ble_eq_true rfl)⟩ hK hP rfl hl.1 rfl (Nat.le_of_ble_eq_true rfl) dX5_noonOf_2 (fun r1 p2 => ?_)
  have p2 : (-1) ≤ r1.toInt ∧ r1.toInt ≤ 5 := p2
  refine lv_istore_n (lv' := [(2, .int r1), (0, .ref (A (52 + q0))), (1, .int a1)]) hx hb dX5_noonOf_5 rfl hl (by decide) rfl (fun ls hl => ?_)
  refine lv_iload_n hx hb dX5_noonOf_6 rfl (lv_at hl 0 rfl) ?_
  refine lv_iconst (v := (-1)) hx hb dX5_noonOf_7 (by decide) ?_
  refine lv_icmp_ne (tgt := 15) hx hb dX5_noonOf_8 (by decide) (fun c3 => ?_) (fun c3 => ?_)
  · have c3 := cNE (x := r1) (y := (-1)) (X := r1.toInt) (Y := (-1)) rfl (by decide) c3
    refine lv_aload_n hx hb dX5_noonOf_15 rfl (lv_at hl 1 rfl) ?_
    refine lv_iload_n hx hb dX5_noonOf_16 rfl (lv_at hl 0 rfl) ?_
    refine va_iald hx hb hK hP (52 + q0) 1 (cwp C A u q0 hq0) rfl (i_ix rfl (by omega) (by omega)) dX5_noonOf_17 ?_
    refine p_any (fun z4 => ?_)
    exact hret _ _ z4 dX5_noonOf_18 rfl trivial
  · have c3 := cEQ (x := r1) (y := (-1)) (X := r1.toInt) (Y := (-1)) rfl (by decide) c3
    refine lv_iconst (v := 0) hx hb dX5_noonOf_11 (by decide) ?_
    refine lv_goto (tgt := 18) hx hb dX5_noonOf_12 (by decide) ?_
    exact hret _ _ (0 : Int32) dX5_noonOf_18 rfl trivial
set_option maxHeartbeats 4000000 in
set_option maxRecDepth 100000 in
theorem kX9_noonOn_0 (l : Launch) (D : va_G) (C : Nat → ClassId) (A : Nat → Nat) (u : St) (hI : IC u) (a0 : Int32) (A0 : Int) (ha0 : a0.toInt = A0) (hl0 : 0 ≤ A0) (hm0 : A0 ≤ 6) : Met l yX9_noonOn (uc yX9_noonOn cX9_noonOn 2 (some .int)) (rmL 3 0 0) (va_Pc [.ref (A 0), .int a0] (PreR D (tyl C) (cw C A u))) (vp_Si (fun r => True)) 0 0 (fun _ => False) := by
  refine mS (by decide) (Nat.le_of_ble_eq_true rfl) ?_
  intro p e s m below meth c ls ar Q hx hb hml hown hts hK hP hl hret
  have hown : s.vm.findClass RX9 = some m.cls := hown
  have hl : lv_has ls 2 [(0, .ref (A 0)), (1, .int a0)] := hl
  refine lv_aload_n hx hb dX9_noonOn_0 rfl (lv_at hl 0 rfl) ?_
  refine va_get (ci := 9) (v := .ref (A 7)) (C := RX9) (T := TX9) (N := 12) hx hb hts (fun w h => uc_in w (inX9 w h)) hown hK hP 0 (cwc0 C A u) rfl 5 (by decide) (hts _ (uc_in _ q_f388)) (fun _ h9 => h9) rfl dX9_noonOn_1 ?_
  refine va_get (ci := 5) (v := .ref (A 19)) (C := RX5) (T := TX5) (N := 4) hx hb hts (fun w h => uc_in w (inX5 w h)) hown hK hP 7 (cwc7 C A u) rfl 2 (by decide) (hts _ (uc_in _ q_f171)) (fun _ h9 => h9) rfl dX9_noonOn_4 ?_
  refine lv_iload_n hx hb dX9_noonOn_7 rfl (lv_at hl 1 rfl) ?_
  refine r_aald hx hb hK hP 19 6 rfl (cwc19 C A u) rfl (i_ix ha0 (by omega) (by omega)) dX9_noonOn_8 ?_
  obtain ⟨k1, hk1, ek1⟩ : ∃ k : Nat, (k : Int) = 32 + A0 ∧ k = 32 + Int32.toNatClampNeg a0 := ⟨_, by have q9 := i_cl ha0 (by omega); omega, rfl⟩
  refine pv_v (v := .ref (A (52 + k1))) (by rw [ek1]; rfl) ?_
  refine lv_aload_n hx hb dX9_noonOn_9 rfl (lv_at hl 0 rfl) ?_
  refine va_get (ci := 9) (v := .ref (A 7)) (C := RX9) (T := TX9) (N := 12) hx hb hts (fun w h => uc_in w (inX9 w h)) hown hK hP 0 (cwc0 C A u) rfl 5 (by decide) (hts _ (uc_in _ q_f388)) (fun _ h9 => h9) rfl dX9_noonOn_10 ?_
  refine va_get (ci := 5) (v := .ref (A 38)) (C := RX5) (T := TX5) (N := 4) hx hb hts (fun w h => uc_in w (inX5 w h)) hown hK hP 7 (cwc7 C A u) rfl 3 (by decide) (hts _ (uc_in _ q_f175)) (fun _ h9 => h9) rfl dX9_noonOn_13 ?_
  refine lv_iload_n hx hb dX9_noonOn_16 rfl (lv_at hl 1 rfl) ?_
  refine va_iald hx hb hK hP 38 1 (cwc38 C A u) rfl (i_ix ha0 (by omega) (by omega)) dX9_noonOn_17 ?_
  refine p_any (fun z2 => ?_)
  refine csS (n := 2) (As := [.ref (A (52 + k1)), .int z2]) (rest := []) ⟨hx, hb, hml, hown, hts⟩ uc_in (kX5_noonOf_0 l D C A u hI k1 (by omega) z2 z2.toInt rfl) q_m609 q_s610 q_i4 q_c611 hvX5_noonOf ⟨(Nat.le_of_ble_eq_true rfl), (Nat.le_of_ble_eq_true rfl)⟩ ⟨(Nat.le_of_ble_eq_true rfl), (Nat.le_of_ble_eq_true rfl)⟩ hK hP rfl hl.1 rfl (Nat.le_of_ble_eq_true rfl) dX9_noonOn_18 (fun r3 p4 => ?_)
  exact hret _ _ r3 dX9_noonOn_21 rfl trivial
set_option maxHeartbeats 4000000 in
set_option maxRecDepth 100000 in
theorem kX9_noon_0 (l : Launch) (D : va_G) (C : Nat → ClassId) (A : Nat → Nat) (u : St) (hI : IC u) (a0 : Int32) (A0 : Int) (ha0 : a0.toInt = A0) : Met l yX9_noon (uc yX9_noon cX9_noon 2 (some .int)) (rmL 4 0 0) (va_Pc [.ref (A 0), .int a0] (PreR D (tyl C) (cw C A u))) (vp_Si (fun r => True)) 0 0 (fun _ => False) := by
  refine mS (by decide) (Nat.le_of_ble_eq_true rfl) ?_
  intro p e s m below meth c ls ar Q hx hb hml hown hts hK hP hl hret
  have hown : s.vm.findClass RX9 = some m.cls := hown
  have hl : lv_has ls 2 [(0, .ref (A 0)), (1, .int a0)] := hl
  refine lv_aload_n hx hb dX9_noon_0 rfl (lv_at hl 0 rfl) ?_
  refine lv_iload_n hx hb dX9_noon_1 rfl (lv_at hl 1 rfl) ?_
  refine cvS (n := 1) (As := [.int a0]) (rest := []) ⟨hx, hb, hml, hown, hts⟩ uc_in (kX9_isDay_0 l D C A u hI a0 A0 ha0) q_m597 q_n599 q_p12 q_i1 q_c600 hvX9_isDay ⟨(Nat.le_of_ble_eq_true rfl), (Nat.le_of_ble_eq_true rfl)⟩ ⟨(Nat.le_of_ble_eq_true rfl), (Nat.le_of_ble_eq_true rfl)⟩ hK hP 9 0 rfl (cwc0 C A u) rfl hl.1 rfl (Nat.le_of_ble_eq_true rfl) dX9_noon_2 (fun r1 p2 => ?_)
  rcases p2 with ⟨e9, f3, f4⟩ | e9
  · subst e9
    have b6 := hI.b48
    refine lv_if_eq (tgt := 16) hx hb dX9_noon_5 (by decide) (fun c7 => absurd c7 (by decide)) (fun c7 => ?_)
    refine lv_aload_n hx hb dX9_noon_8 rfl (lv_at hl 0 rfl) ?_
    refine lv_iload_n hx hb dX9_noon_9 rfl (lv_at hl 1 rfl) ?_
    refine cvS (n := 1) (As := [.int a0]) (rest := []) ⟨hx, hb, hml, hown, hts⟩ uc_in (kX9_noonOn_0 l D C A u hI a0 A0 ha0 (by omega) (by omega)) q_m605 q_n607 q_p13 q_i1 q_c608 hvX9_noonOn ⟨(Nat.le_of_ble_eq_true rfl), (Nat.le_of_ble_eq_true rfl)⟩ ⟨(Nat.le_of_ble_eq_true rfl), (Nat.le_of_ble_eq_true rfl)⟩ hK hP 9 0 rfl (cwc0 C A u) rfl hl.1 rfl (Nat.le_of_ble_eq_true rfl) dX9_noon_10 (fun r8 p9 => ?_)
    refine lv_goto (tgt := 19) hx hb dX9_noon_13 (by decide) ?_
    exact hret _ _ r8 dX9_noon_19 rfl trivial
  · subst e9
    refine lv_if_eq (tgt := 16) hx hb dX9_noon_5 (by decide) (fun c10 => ?_) (fun c10 => absurd c10 (by decide))
    refine lv_sipush (v := (-1000)) hx hb dX9_noon_16 (by decide) ?_
    exact hret _ _ ((-1000) : Int32) dX9_noon_19 rfl trivial
