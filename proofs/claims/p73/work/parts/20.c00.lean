set_option maxHeartbeats 4000000 in
set_option maxRecDepth 100000 in
theorem kX9_isWithin_0 (l : Launch) (D : va_G) (C : Nat → ClassId) (A : Nat → Nat) (u : St) (hI : IC u) (a0 : Int32) (A0 : Int) (ha0 : a0.toInt = A0) (a1 : Int32) (A1 : Int) (ha1 : a1.toInt = A1) (a2 : Int32) (A2 : Int) (ha2 : a2.toInt = A2) : Met l yX9_isWithin (uc yX9_isWithin cX9_isWithin 3 (some .boolean)) (rmL 1 0 0) (va_Pc [.int a0, .int a1, .int a2] (PreR D (tyl C) (cw C A u))) (vp_Si (fun r => (r = 1 ∧ A1 ≤ A0 ∧ A0 ≤ A2) ∨ (r = 0 ∧ ¬ (A1 ≤ A0 ∧ A0 ≤ A2)))) 0 0 (fun _ => False) := by
  refine mS (by decide) (Nat.le_of_ble_eq_true rfl) ?_
  intro p e s m below meth c ls ar Q hx hb hml hown hts hK hP hl hret
  have hown : s.vm.findClass RX9 = some m.cls := hown
  have hl : lv_has ls 3 [(0, .int a0), (1, .int a1), (2, .int a2)] := hl
  refine lv_iload_n hx hb dX9_isWithin_0 rfl (lv_at hl 0 rfl) ?_
  refine lv_iload_n hx hb dX9_isWithin_1 rfl (lv_at hl 1 rfl) ?_
  refine lv_icmp_lt (tgt := 14) hx hb dX9_isWithin_2 (by decide) (fun c1 => ?_) (fun c1 => ?_)
  · have c1 := cLT (x := a0) (y := a1) (X := A0) (Y := A1) ha0 ha1 c1
    refine lv_iconst (v := 0) hx hb dX9_isWithin_14 (by decide) ?_
    exact hret _ _ (0 : Int32) dX9_isWithin_15 rfl (Or.inr ⟨rfl, by omega⟩)
  · have c1 := cNLT (x := a0) (y := a1) (X := A0) (Y := A1) ha0 ha1 c1
    refine lv_iload_n hx hb dX9_isWithin_5 rfl (lv_at hl 0 rfl) ?_
    refine lv_iload_n hx hb dX9_isWithin_6 rfl (lv_at hl 2 rfl) ?_
    refine lv_icmp_gt (tgt := 14) hx hb dX9_isWithin_7 (by decide) (fun c2 => ?_) (fun c2 => ?_)
    · have c2 := cLT (x := a2) (y := a0) (X := A2) (Y := A0) ha2 ha0 c2
      refine lv_iconst (v := 0) hx hb dX9_isWithin_14 (by decide) ?_
      exact hret _ _ (0 : Int32) dX9_isWithin_15 rfl (Or.inr ⟨rfl, by omega⟩)
    · have c2 := cNLT (x := a2) (y := a0) (X := A2) (Y := A0) ha2 ha0 c2
      refine lv_iconst (v := 1) hx hb dX9_isWithin_10 (by decide) ?_
      refine lv_goto (tgt := 15) hx hb dX9_isWithin_11 (by decide) ?_
      exact hret _ _ (1 : Int32) dX9_isWithin_15 rfl (Or.inl ⟨rfl, by omega, by omega⟩)
set_option maxHeartbeats 4000000 in
set_option maxRecDepth 100000 in
theorem kX9_isMinute_0 (l : Launch) (D : va_G) (C : Nat → ClassId) (A : Nat → Nat) (u : St) (hI : IC u) (a0 : Int32) (A0 : Int) (ha0 : a0.toInt = A0) : Met l yX9_isMinute (uc yX9_isMinute cX9_isMinute 1 (some .boolean)) (rmL 2 0 0) (va_Pc [.int a0] (PreR D (tyl C) (cw C A u))) (vp_Si (fun r => (r = 1 ∧ 0 ≤ A0 ∧ A0 ≤ 600) ∨ r = 0)) 0 0 (fun _ => False) := by
  refine mS (by decide) (Nat.le_of_ble_eq_true rfl) ?_
  intro p e s m below meth c ls ar Q hx hb hml hown hts hK hP hl hret
  have hown : s.vm.findClass RX9 = some m.cls := hown
  have hl : lv_has ls 1 [(0, .int a0)] := hl
  refine lv_iload_n hx hb dX9_isMinute_0 rfl (lv_at hl 0 rfl) ?_
  refine lv_iconst (v := 0) hx hb dX9_isMinute_1 (by decide) ?_
  refine lv_sipush (v := 600) hx hb dX9_isMinute_2 (by decide) ?_
  refine csS (n := 3) (As := [.int a0, .int 0, .int 600]) (rest := []) ⟨hx, hb, hml, hown, hts⟩ uc_in (kX9_isWithin_0 l D C A u hI a0 A0 ha0 (0) 0 (by decide) (600) 600 (by decide)) q_m651 q_s652 q_i1 q_c653 hvX9_isWithin ⟨(Nat.le_of_ble_eq_true rfl), (Nat.le_of_ble_eq_true rfl)⟩ ⟨(Nat.le_of_ble_eq_true rfl), (Nat.le_of_ble_eq_true rfl)⟩ hK hP rfl hl.1 rfl (Nat.le_of_ble_eq_true rfl) dX9_isMinute_5 (fun r1 p2 => ?_)
  rcases p2 with ⟨e9, f3, f4⟩ | ⟨e9, fn5⟩
  · subst e9
    exact hret _ _ (1 : Int32) dX9_isMinute_8 rfl (Or.inl ⟨rfl, by omega, by omega⟩)
  · subst e9
    exact hret _ _ (0 : Int32) dX9_isMinute_8 rfl (Or.inr rfl)
set_option maxHeartbeats 4000000 in
set_option maxRecDepth 100000 in
theorem kX9_hasTown_0 (l : Launch) (D : va_G) (C : Nat → ClassId) (A : Nat → Nat) (u : St) (hI : IC u) : Met l yX9_hasTown (uc yX9_hasTown cX9_hasTown 1 (some .boolean)) (rmL 1 0 0) (va_Pc [.ref (A 0)] (PreR D (tyl C) (cw C A u))) (vp_Si (fun r => 0 ≤ r.toInt ∧ r.toInt ≤ 1)) 0 0 (fun _ => False) := by
  refine mS (by decide) (Nat.le_of_ble_eq_true rfl) ?_
  intro p e s m below meth c ls ar Q hx hb hml hown hts hK hP hl hret
  have hown : s.vm.findClass RX9 = some m.cls := hown
  have hl : lv_has ls 1 [(0, .ref (A 0))] := hl
  refine lv_aload_n hx hb dX9_hasTown_0 rfl (lv_at hl 0 rfl) ?_
  refine va_get (ci := 9) (v := .ref (A 2)) (C := RX9) (T := TX9) (N := 12) hx hb hts (fun w h => uc_in w (inX9 w h)) hown hK hP 0 (cwc0 C A u) rfl 1 (by decide) (hts _ (uc_in _ q_f384)) (fun _ h9 => h9) rfl dX9_hasTown_1 ?_
  refine va_get (ci := 7) (v := .int (gi u 8)) (C := RX7) (T := TX7) (N := 16) hx hb hts (fun w h => uc_in w (inX7 w h)) hown hK hP 2 (cwc2 C A u) rfl 0 (by decide) (hts _ (uc_in _ q_f70)) (fun _ h9 => h9) rfl dX9_hasTown_4 ?_
  refine lv_if_le (tgt := 14) hx hb dX9_hasTown_7 (by decide) (fun c1 => ?_) (fun c1 => ?_)
  · have c1 := cLE (x := (gi u 8)) (y := 0) (X := ((gi u 8)).toInt) (Y := 0) rfl (by decide) c1
    refine lv_iconst (v := 0) hx hb dX9_hasTown_14 (by decide) ?_
    exact hret _ _ (0 : Int32) dX9_hasTown_15 rfl ⟨by decide, by decide⟩
  · have c1 := cNLE (x := (gi u 8)) (y := 0) (X := ((gi u 8)).toInt) (Y := 0) rfl (by decide) c1
    refine lv_iconst (v := 1) hx hb dX9_hasTown_10 (by decide) ?_
    refine lv_goto (tgt := 15) hx hb dX9_hasTown_11 (by decide) ?_
    exact hret _ _ (1 : Int32) dX9_hasTown_15 rfl ⟨by decide, by decide⟩
set_option maxHeartbeats 4000000 in
set_option maxRecDepth 100000 in
theorem kX5_lastOf_0 (l : Launch) (D : va_G) (C : Nat → ClassId) (A : Nat → Nat) (u : St) (hI : IC u) (q0 : Nat) (hq0 : q0 < 109) (a1 : Int32) (A1 : Int) (ha1 : a1.toInt = A1) : Met l yX5_lastOf (uc yX5_lastOf cX5_lastOf 5 (some .int)) (rmL 1 0 0) (va_Pc [.ref (A (52 + q0)), .int a1] (PreR D (tyl C) (cw C A u))) (vp_Si (fun r => (-1) ≤ r.toInt ∧ r.toInt ≤ 5)) 0 0 (fun _ => False) := by
  refine mS (by decide) (Nat.le_of_ble_eq_true rfl) ?_
  intro p e s m below meth c ls ar Q hx hb hml hown hts hK hP hl hret
  have hown : s.vm.findClass RX5 = some m.cls := hown
  have hl : lv_has ls 5 [(0, .ref (A (52 + q0))), (1, .int a1)] := hl
  refine lv_iconst (v := (-1)) hx hb dX5_lastOf_0 (by decide) ?_
  refine lv_istore_n (lv' := [(2, .int (-1)), (0, .ref (A (52 + q0))), (1, .int a1)]) hx hb dX5_lastOf_1 rfl hl (by decide) rfl (fun ls hl => ?_)
  refine lv_iconst (v := 0) hx hb dX5_lastOf_2 (by decide) ?_
  refine lv_istore_n (lv' := [(3, .int 0), (2, .int (-1)), (0, .ref (A (52 + q0))), (1, .int a1)]) hx hb dX5_lastOf_3 rfl hl (by decide) rfl (fun ls hl => ?_)
  have lp4_76 : ∀ (n4 : Nat) (ls : Array Slot) (y75d : Int32) (y76d : Int32), 0 ≤ y75d.toInt → y75d.toInt ≤ 6 → (-1) ≤ y76d.toInt → y76d.toInt ≤ 5 → 6 - y75d.toInt < (n4 : Int) → lv_has ls 5 [(3, .int y75d), (2, .int y76d), (0, .ref (A (52 + q0))), (1, .int a1)] → W p l e (rmL 1 0 0) s m ar below meth c s.heap [] 0 0 Q (F0 m 4 ls []) := by
    intro n4
    induction n4 with
    | zero => intro ls y75d y76d ly75d my75d ly76d my76d hmun4 hl; exfalso; omega
    | succ n4 ih4_76 =>
      intro ls y75d y76d ly75d my75d ly76d my76d hmun4 hl
      refine lv_iload_n hx hb dX5_lastOf_4 rfl (lv_at hl 0 rfl) ?_
      refine lv_bipush (v := 6) hx hb dX5_lastOf_5 (by decide) ?_
      refine lv_icmp_ge (tgt := 53) hx hb dX5_lastOf_7 (by decide) (fun c78 => ?_) (fun c78 => ?_)
      · have c78 := cLE (x := 6) (y := y75d) (X := 6) (Y := y75d.toInt) (by decide) rfl c78
        refine lv_iload_n hx hb dX5_lastOf_53 rfl (lv_at hl 1 rfl) ?_
        exact hret _ _ y76d dX5_lastOf_54 rfl ⟨by omega, by omega⟩
      · have c78 := cNLE (x := 6) (y := y75d) (X := 6) (Y := y75d.toInt) (by decide) rfl c78
        refine lv_iload_n hx hb dX5_lastOf_10 rfl (lv_at hl 3 rfl) ?_
        refine lv_iload_n hx hb dX5_lastOf_11 rfl (lv_at hl 0 rfl) ?_
        refine lv_ishr hx hb dX5_lastOf_12 ?_
        refine p_any (fun z79 => ?_)
        refine lv_iconst (v := 1) hx hb dX5_lastOf_13 (by decide) ?_
        refine lv_iand hx hb dX5_lastOf_14 ?_
        refine p_bd (P := fun q => 0 ≤ q ∧ q ≤ 1) (tt_andR (Y := 1) (by decide) (by decide)) (fun z80 bz80 => ?_)
        have bz80 : 0 ≤ z80.toInt ∧ z80.toInt ≤ 1 := bz80
        refine lv_iconst (v := 1) hx hb dX5_lastOf_15 (by decide) ?_
        have j24_90 : ∀ (ls : Array Slot) (y82d : Int32), 0 ≤ y82d.toInt → y82d.toInt ≤ 1 → lv_has ls 5 [(3, .int y75d), (2, .int y76d), (0, .ref (A (52 + q0))), (1, .int a1)] → W p l e (rmL 1 0 0) s m ar below meth c s.heap [] 0 0 Q (F0 m 24 ls [.int y82d]) := by
          intro ls y82d ly82d my82d hl
          refine lv_istore (lv' := [(4, .int y82d), (3, .int y75d), (2, .int y76d), (0, .ref (A (52 + q0))), (1, .int a1)]) hx hb dX5_lastOf_24 hl (by decide) rfl (fun ls hl => ?_)
          refine lv_iload hx hb dX5_lastOf_26 (lv_at hl 0 rfl) ?_
          have j47_99 : ∀ (ls : Array Slot) (y97d : Int32), (-1) ≤ y97d.toInt → y97d.toInt ≤ 5 → lv_has ls 5 [(3, .int y75d), (2, .int y97d), (0, .ref (A (52 + q0))), (1, .int a1)] → W p l e (rmL 1 0 0) s m ar below meth c s.heap [] 0 0 Q (F0 m 47 ls []) := by
            intro ls y97d ly97d my97d hl
            obtain ⟨z101, ez101⟩ : ∃ z, z = y75d + Int32.ofInt 1 := ⟨_, rfl⟩
            have hz101 : z101.toInt = y75d.toInt + 1 := by rw [ez101]; exact tt_add rfl (by decide) (by omega) (by omega)
            refine lv_iinc (v := z101) (lv' := [(3, .int z101), (2, .int y97d), (0, .ref (A (52 + q0))), (1, .int a1)]) hx hb dX5_lastOf_47 hl (k := 0) rfl ez101.symm (by decide) rfl (fun ls hl => ?_)
            refine lv_goto (tgt := 4) hx hb dX5_lastOf_50 (by decide) ?_
            exact ih4_76 ls z101 y97d (by have q9 := (show z101.toInt = (y75d.toInt + 1) from hz101); omega) (by have q9 := (show z101.toInt = (y75d.toInt + 1) from hz101); omega) (by omega) (by omega) (by have q9 := (show z101.toInt = (y75d.toInt + 1) from hz101); omega) hl
          refine lv_if_eq (tgt := 47) hx hb dX5_lastOf_28 (by decide) (fun c92 => ?_) (fun c92 => ?_)
          · have c92 := cEQ (x := y82d) (y := 0) (X := y82d.toInt) (Y := 0) rfl (by decide) c92
            exact j47_99 ls y76d (by omega) (by omega) (lv_sub hl [1, 2, 3, 4] rfl)
          · have c92 := cNE (x := y82d) (y := 0) (X := y82d.toInt) (Y := 0) rfl (by decide) c92
            refine lv_iload_n hx hb dX5_lastOf_31 rfl (lv_at hl 2 rfl) ?_
            refine lv_iconst (v := (-1)) hx hb dX5_lastOf_32 (by decide) ?_
            have j45_106 : ∀ (ls : Array Slot), lv_has ls 5 [(3, .int y75d), (0, .ref (A (52 + q0))), (1, .int a1)] → W p l e (rmL 1 0 0) s m ar below meth c s.heap [] 0 0 Q (F0 m 45 ls []) := by
              intro ls hl
              refine lv_iload_n hx hb dX5_lastOf_45 rfl (lv_at hl 0 rfl) ?_
              refine lv_istore_n (lv' := [(2, .int y75d), (3, .int y75d), (0, .ref (A (52 + q0))), (1, .int a1)]) hx hb dX5_lastOf_46 rfl hl (by decide) rfl (fun ls hl => ?_)
              exact j47_99 ls y75d (by omega) (by omega) (lv_sub hl [1, 0, 2, 3] rfl)
            refine lv_icmp_eq (tgt := 45) hx hb dX5_lastOf_33 (by decide) (fun c102 => ?_) (fun c102 => ?_)
            · have c102 := cEQ (x := y76d) (y := (-1)) (X := y76d.toInt) (Y := (-1)) rfl (by decide) c102
              exact j45_106 ls (lv_sub hl [1, 3, 4] rfl)
            · have c102 := cNE (x := y76d) (y := (-1)) (X := y76d.toInt) (Y := (-1)) rfl (by decide) c102
              refine lv_aload_n hx hb dX5_lastOf_36 rfl (lv_at hl 3 rfl) ?_
              refine lv_iload_n hx hb dX5_lastOf_37 rfl (lv_at hl 1 rfl) ?_
              refine va_iald hx hb hK hP (52 + q0) 1 (cwp C A u q0 hq0) rfl (i_ix rfl (by omega) (by omega)) dX5_lastOf_38 ?_
              refine p_any (fun z108 => ?_)
              refine lv_aload_n hx hb dX5_lastOf_39 rfl (lv_at hl 3 rfl) ?_
              refine lv_iload_n hx hb dX5_lastOf_40 rfl (lv_at hl 2 rfl) ?_
              refine va_iald hx hb hK hP (52 + q0) 1 (cwp C A u q0 hq0) rfl (i_ix rfl (by omega) (by omega)) dX5_lastOf_41 ?_
              refine p_any (fun z109 => ?_)
              refine lv_icmp_le (tgt := 47) hx hb dX5_lastOf_42 (by decide) (fun c110 => ?_) (fun c110 => ?_)
              · have c110 := cLE (x := z108) (y := z109) (X := z108.toInt) (Y := z109.toInt) rfl rfl c110
                exact j47_99 ls y76d (by omega) (by omega) (lv_sub hl [1, 2, 3, 4] rfl)
              · have c110 := cNLE (x := z108) (y := z109) (X := z108.toInt) (Y := z109.toInt) rfl rfl c110
                exact j45_106 ls (lv_sub hl [1, 3, 4] rfl)
        refine lv_icmp_ne (tgt := 23) hx hb dX5_lastOf_16 (by decide) (fun c81 => ?_) (fun c81 => ?_)
        · have c81 := cNE (x := z80) (y := 1) (X := z80.toInt) (Y := 1) rfl (by decide) c81
          refine lv_iconst (v := 0) hx hb dX5_lastOf_23 (by decide) ?_
          exact j24_90 ls 0 (by decide) (by decide) hl
        · have c81 := cEQ (x := z80) (y := 1) (X := z80.toInt) (Y := 1) rfl (by decide) c81
          refine lv_iconst (v := 1) hx hb dX5_lastOf_19 (by decide) ?_
          refine lv_goto (tgt := 24) hx hb dX5_lastOf_20 (by decide) ?_
          exact j24_90 ls 1 (by decide) (by decide) hl
  exact lp4_76 7 ls 0 (-1) (by decide) (by decide) (by decide) (by decide) (by have q9 : (0 : Int32).toInt = 0 := (by decide); omega) hl
set_option maxHeartbeats 4000000 in
set_option maxRecDepth 100000 in
theorem kX5_noonOf_0 (l : Launch) (D : va_G) (C : Nat → ClassId) (A : Nat → Nat) (u : St) (hI : IC u) (q0 : Nat) (hq0 : q0 < 109) (a1 : Int32) (A1 : Int) (ha1 : a1.toInt = A1) : Met l yX5_noonOf (uc yX5_noonOf cX5_noonOf 3 (some .int)) (rmL 2 0 0) (va_Pc [.ref (A (52 + q0)), .int a1] (PreR D (tyl C) (cw C A u))) (vp_Si (fun r => True)) 0 0 (fun _ => False) := by
  refine mS (by decide) (Nat.le_of_ble_eq_true rfl) ?_
  intro p e s m below meth c ls ar Q hx hb hml hown hts hK hP hl hret
  have hown : s.vm.findClass RX5 = some m.cls := hown
  have hl : lv_has ls 3 [(0, .ref (A (52 + q0))), (1, .int a1)] := hl
  refine lv_aload_n hx hb dX5_noonOf_0 rfl (lv_at hl 0 rfl) ?_
  refine lv_iload_n hx hb dX5_noonOf_1 rfl (lv_at hl 1 rfl) ?_
  refine csS (n := 2) (As := [.ref (A (52 + q0)), .int a1]) (rest := []) ⟨hx, hb, hml, hown, hts⟩ uc_in (kX5_lastOf_0 l D C A u hI q0 (by omega) a1 A1 ha1) q_m612 q_s613 q_i4 q_c614 hvX5_lastOf ⟨(Nat.le_of_ble_eq_true rfl), (Nat.le_of_ble_eq_true rfl)⟩ ⟨(Nat.le_of_ble_eq_true rfl), (Nat.le_of_ble_eq_true rfl)⟩ hK hP rfl hl.1 rfl (Nat.le_of_ble_eq_true rfl) dX5_noonOf_2 (fun r1 p2 => ?_)
  have p2 : (-1) ≤ r1.toInt ∧ r1.toInt ≤ 5 := p2
  refine lv_istore_n (lv' := [(2, .int r1), (0, .ref (A (52 + q0))), (1, .int a1)]) hx hb dX5_noonOf_5 rfl hl (by decide) rfl (fun ls hl => ?_)
  refine lv_iload_n hx hb dX5_noonOf_6 rfl (lv_at hl 0 rfl) ?_
  refine lv_iconst (v := (-1)) hx hb dX5_noonOf_7 (by decide) ?_
  refine lv_icmp_ne (tgt := 15) hx hb dX5_noonOf_8 (by decide) (fun c3 => ?_) (fun c3 => ?_)
  · have c3 := cNE (x := r1) (y := (-1)) (X := r1.toInt) (Y := (-1)) rfl (by decide) c3
    refine lv_aload_n hx hb dX5_noonOf_15 rfl (lv_at hl 1 rfl) ?_
    refine lv_iload_n hx hb dX5_noonOf_16 rfl (lv_at hl 0 rfl) ?_
    refine va_iald hx hb hK hP (52 + q0) 1 (cwp C A u q0 hq0) rfl (i_ix rfl (by omega) (by omega)) dX5_noonOf_17 ?_
    refine p_any (fun z4 => ?_)
    exact hret _ _ z4 dX5_noonOf_18 rfl trivial
  · have c3 := cEQ (x := r1) (y := (-1)) (X := r1.toInt) (Y := (-1)) rfl (by decide) c3
    refine lv_iconst (v := 0) hx hb dX5_noonOf_11 (by decide) ?_
    refine lv_goto (tgt := 18) hx hb dX5_noonOf_12 (by decide) ?_
    exact hret _ _ (0 : Int32) dX5_noonOf_18 rfl trivial
set_option maxHeartbeats 4000000 in
set_option maxRecDepth 100000 in
theorem kX9_noonOn_0 (l : Launch) (D : va_G) (C : Nat → ClassId) (A : Nat → Nat) (u : St) (hI : IC u) (a0 : Int32) (A0 : Int) (ha0 : a0.toInt = A0) (hl0 : 0 ≤ A0) (hm0 : A0 ≤ 6) : Met l yX9_noonOn (uc yX9_noonOn cX9_noonOn 2 (some .int)) (rmL 3 0 0) (va_Pc [.ref (A 0), .int a0] (PreR D (tyl C) (cw C A u))) (vp_Si (fun r => True)) 0 0 (fun _ => False) := by
  refine mS (by decide) (Nat.le_of_ble_eq_true rfl) ?_
  intro p e s m below meth c ls ar Q hx hb hml hown hts hK hP hl hret
  have hown : s.vm.findClass RX9 = some m.cls := hown
  have hl : lv_has ls 2 [(0, .ref (A 0)), (1, .int a0)] := hl
  refine lv_aload_n hx hb dX9_noonOn_0 rfl (lv_at hl 0 rfl) ?_
  refine va_get (ci := 9) (v := .ref (A 7)) (C := RX9) (T := TX9) (N := 12) hx hb hts (fun w h => uc_in w (inX9 w h)) hown hK hP 0 (cwc0 C A u) rfl 5 (by decide) (hts _ (uc_in _ q_f388)) (fun _ h9 => h9) rfl dX9_noonOn_1 ?_
  refine va_get (ci := 5) (v := .ref (A 19)) (C := RX5) (T := TX5) (N := 4) hx hb hts (fun w h => uc_in w (inX5 w h)) hown hK hP 7 (cwc7 C A u) rfl 2 (by decide) (hts _ (uc_in _ q_f171)) (fun _ h9 => h9) rfl dX9_noonOn_4 ?_
  refine lv_iload_n hx hb dX9_noonOn_7 rfl (lv_at hl 1 rfl) ?_
  refine r_aald hx hb hK hP 19 6 rfl (cwc19 C A u) rfl (i_ix ha0 (by omega) (by omega)) dX9_noonOn_8 ?_
  obtain ⟨k1, hk1, ek1⟩ : ∃ k : Nat, (k : Int) = 32 + A0 ∧ k = 32 + Int32.toNatClampNeg a0 := ⟨_, by have q9 := i_cl (x := a0) (X := A0) ha0 (by omega); omega, rfl⟩
  refine pv_v (v := .ref (A (52 + k1))) (by rw [ek1]; rfl) ?_
  refine lv_aload_n hx hb dX9_noonOn_9 rfl (lv_at hl 0 rfl) ?_
  refine va_get (ci := 9) (v := .ref (A 7)) (C := RX9) (T := TX9) (N := 12) hx hb hts (fun w h => uc_in w (inX9 w h)) hown hK hP 0 (cwc0 C A u) rfl 5 (by decide) (hts _ (uc_in _ q_f388)) (fun _ h9 => h9) rfl dX9_noonOn_10 ?_
  refine va_get (ci := 5) (v := .ref (A 38)) (C := RX5) (T := TX5) (N := 4) hx hb hts (fun w h => uc_in w (inX5 w h)) hown hK hP 7 (cwc7 C A u) rfl 3 (by decide) (hts _ (uc_in _ q_f175)) (fun _ h9 => h9) rfl dX9_noonOn_13 ?_
  refine lv_iload_n hx hb dX9_noonOn_16 rfl (lv_at hl 1 rfl) ?_
  refine va_iald hx hb hK hP 38 1 (cwc38 C A u) rfl (i_ix ha0 (by omega) (by omega)) dX9_noonOn_17 ?_
  refine p_any (fun z2 => ?_)
  refine csS (n := 2) (As := [.ref (A (52 + k1)), .int z2]) (rest := []) ⟨hx, hb, hml, hown, hts⟩ uc_in (kX5_noonOf_0 l D C A u hI k1 (by omega) z2 z2.toInt rfl) q_m609 q_s610 q_i4 q_c611 hvX5_noonOf ⟨(Nat.le_of_ble_eq_true rfl), (Nat.le_of_ble_eq_true rfl)⟩ ⟨(Nat.le_of_ble_eq_true rfl), (Nat.le_of_ble_eq_true rfl)⟩ hK hP rfl hl.1 rfl (Nat.le_of_ble_eq_true rfl) dX9_noonOn_18 (fun r3 p4 => ?_)
  exact hret _ _ r3 dX9_noonOn_21 rfl trivial
set_option maxHeartbeats 4000000 in
set_option maxRecDepth 100000 in
theorem kX9_alarm_0 (l : Launch) (D : va_G) (C : Nat → ClassId) (A : Nat → Nat) (u : St) (hI : IC u) (a0 : Int32) (A0 : Int) (ha0 : a0.toInt = A0) : Met l yX9_alarm (uc yX9_alarm cX9_alarm 3 (some .int)) (rmL 4 0 0) (va_Pc [.ref (A 0), .int a0] (PreR D (tyl C) (cw C A u))) (vp_Si (fun r => (-2) ≤ r.toInt ∧ r.toInt ≤ 6)) 0 0 (fun _ => False) := by
  refine mS (by decide) (Nat.le_of_ble_eq_true rfl) ?_
  intro p e s m below meth c ls ar Q hx hb hml hown hts hK hP hl hret
  have hown : s.vm.findClass RX9 = some m.cls := hown
  have hl : lv_has ls 3 [(0, .ref (A 0)), (1, .int a0)] := hl
  refine lv_iload_n hx hb dX9_alarm_0 rfl (lv_at hl 1 rfl) ?_
  refine csS (n := 1) (As := [.int a0]) (rest := []) ⟨hx, hb, hml, hown, hts⟩ uc_in (kX9_isMinute_0 l D C A u hI a0 A0 ha0) q_m762 q_s763 q_i1 q_c764 hvX9_isMinute ⟨(Nat.le_of_ble_eq_true rfl), (Nat.le_of_ble_eq_true rfl)⟩ ⟨(Nat.le_of_ble_eq_true rfl), (Nat.le_of_ble_eq_true rfl)⟩ hK hP rfl hl.1 rfl (Nat.le_of_ble_eq_true rfl) dX9_alarm_1 (fun r1 p2 => ?_)
  rcases p2 with ⟨e9, f3, f4⟩ | e9
  · subst e9
    refine lv_if_eq (tgt := 14) hx hb dX9_alarm_4 (by decide) (fun c5 => absurd c5 (by decide)) (fun c5 => ?_)
    refine lv_aload_n hx hb dX9_alarm_7 rfl (lv_at hl 0 rfl) ?_
    refine cvS (n := 0) (As := []) (rest := []) ⟨hx, hb, hml, hown, hts⟩ uc_in (kX9_hasTown_0 l D C A u hI ) q_m678 q_n680 q_p18 q_i1 q_c681 hvX9_hasTown ⟨(Nat.le_of_ble_eq_true rfl), (Nat.le_of_ble_eq_true rfl)⟩ ⟨(Nat.le_of_ble_eq_true rfl), (Nat.le_of_ble_eq_true rfl)⟩ hK hP 9 0 rfl (cwc0 C A u) rfl hl.1 rfl (Nat.le_of_ble_eq_true rfl) dX9_alarm_8 (fun r6 p7 => ?_)
    have p7 : 0 ≤ r6.toInt ∧ r6.toInt ≤ 1 := p7
    refine lv_if_ne (tgt := 17) hx hb dX9_alarm_11 (by decide) (fun c8 => ?_) (fun c8 => ?_)
    · have c8 := cNE (x := r6) (y := 0) (X := r6.toInt) (Y := 0) rfl (by decide) c8
      refine lv_iconst (v := 0) hx hb dX9_alarm_17 (by decide) ?_
      refine lv_istore_n (lv' := [(2, .int 0), (0, .ref (A 0)), (1, .int a0)]) hx hb dX9_alarm_18 rfl hl (by decide) rfl (fun ls hl => ?_)
      have lp19_55 : ∀ (n19 : Nat) (ls : Array Slot) (y55d : Int32), 0 ≤ y55d.toInt → y55d.toInt ≤ 7 → 7 - y55d.toInt < (n19 : Int) → lv_has ls 3 [(2, .int y55d), (0, .ref (A 0)), (1, .int a0)] → W p l e (rmL 4 0 0) s m ar below meth c s.heap [] 0 0 Q (F0 m 19 ls []) := by
        intro n19
        induction n19 with
        | zero => intro ls y55d ly55d my55d hmun19 hl; exfalso; omega
        | succ n19 ih19_55 =>
          intro ls y55d ly55d my55d hmun19 hl
          refine lv_iload_n hx hb dX9_alarm_19 rfl (lv_at hl 0 rfl) ?_
          refine lv_aload_n hx hb dX9_alarm_20 rfl (lv_at hl 1 rfl) ?_
          refine va_get (ci := 9) (v := .ref (A 7)) (C := RX9) (T := TX9) (N := 12) hx hb hts (fun w h => uc_in w (inX9 w h)) hown hK hP 0 (cwc0 C A u) rfl 5 (by decide) (hts _ (uc_in _ q_f388)) (fun _ h9 => h9) rfl dX9_alarm_21 ?_
          refine va_get (ci := 5) (v := .int (gi u 48)) (C := RX5) (T := TX5) (N := 4) hx hb hts (fun w h => uc_in w (inX5 w h)) hown hK hP 7 (cwc7 C A u) rfl 0 (by decide) (hts _ (uc_in _ q_f164)) (fun _ h9 => h9) rfl dX9_alarm_24 ?_
          have b57 := hI.b48
          refine lv_icmp_ge (tgt := 47) hx hb dX9_alarm_27 (by decide) (fun c58 => ?_) (fun c58 => ?_)
          · have c58 := cLE (x := (gi u 48)) (y := y55d) (X := ((gi u 48)).toInt) (Y := y55d.toInt) rfl rfl c58
            refine lv_iconst (v := (-1)) hx hb dX9_alarm_47 (by decide) ?_
            exact hret _ _ ((-1) : Int32) dX9_alarm_48 rfl ⟨by decide, by decide⟩
          · have c58 := cNLE (x := (gi u 48)) (y := y55d) (X := ((gi u 48)).toInt) (Y := y55d.toInt) rfl rfl c58
            refine lv_aload_n hx hb dX9_alarm_30 rfl (lv_at hl 1 rfl) ?_
            refine lv_iload_n hx hb dX9_alarm_31 rfl (lv_at hl 0 rfl) ?_
            refine cvS (n := 1) (As := [.int y55d]) (rest := []) ⟨hx, hb, hml, hown, hts⟩ uc_in (kX9_noonOn_0 l D C A u hI y55d y55d.toInt rfl (by omega) (by omega)) q_m605 q_n607 q_p13 q_i1 q_c608 hvX9_noonOn ⟨(Nat.le_of_ble_eq_true rfl), (Nat.le_of_ble_eq_true rfl)⟩ ⟨(Nat.le_of_ble_eq_true rfl), (Nat.le_of_ble_eq_true rfl)⟩ hK hP 9 0 rfl (cwc0 C A u) rfl hl.1 rfl (Nat.le_of_ble_eq_true rfl) dX9_alarm_32 (fun r59 p60 => ?_)
            refine lv_iload_n hx hb dX9_alarm_35 rfl (lv_at hl 2 rfl) ?_
            refine lv_icmp_le (tgt := 41) hx hb dX9_alarm_36 (by decide) (fun c61 => ?_) (fun c61 => ?_)
            · have c61 := cLE (x := r59) (y := a0) (X := r59.toInt) (Y := A0) rfl ha0 c61
              obtain ⟨z62, ez62⟩ : ∃ z, z = y55d + Int32.ofInt 1 := ⟨_, rfl⟩
              have hz62 : z62.toInt = y55d.toInt + 1 := by rw [ez62]; exact tt_add rfl (by decide) (by omega) (by omega)
              refine lv_iinc (v := z62) (lv' := [(2, .int z62), (0, .ref (A 0)), (1, .int a0)]) hx hb dX9_alarm_41 hl (k := 0) rfl ez62.symm (by decide) rfl (fun ls hl => ?_)
              refine lv_goto (tgt := 19) hx hb dX9_alarm_44 (by decide) ?_
              exact ih19_55 ls z62 (by have q9 := (show z62.toInt = (y55d.toInt + 1) from hz62); omega) (by have q9 := (show z62.toInt = (y55d.toInt + 1) from hz62); omega) (by have q9 := (show z62.toInt = (y55d.toInt + 1) from hz62); omega) hl
            · have c61 := cNLE (x := r59) (y := a0) (X := r59.toInt) (Y := A0) rfl ha0 c61
              refine lv_iload_n hx hb dX9_alarm_39 rfl (lv_at hl 0 rfl) ?_
              exact hret _ _ y55d dX9_alarm_40 rfl ⟨by omega, by omega⟩
      exact lp19_55 8 ls 0 (by decide) (by decide) (by have q9 : (0 : Int32).toInt = 0 := (by decide); omega) hl
    · have c8 := cEQ (x := r6) (y := 0) (X := r6.toInt) (Y := 0) rfl (by decide) c8
      refine lv_bipush (v := (-2)) hx hb dX9_alarm_14 (by decide) ?_
      exact hret _ _ ((-2) : Int32) dX9_alarm_16 rfl ⟨by decide, by decide⟩
  · subst e9
    refine lv_if_eq (tgt := 14) hx hb dX9_alarm_4 (by decide) (fun c63 => ?_) (fun c63 => absurd c63 (by decide))
    refine lv_bipush (v := (-2)) hx hb dX9_alarm_14 (by decide) ?_
    exact hret _ _ ((-2) : Int32) dX9_alarm_16 rfl ⟨by decide, by decide⟩
set_option maxHeartbeats 4000000 in
set_option maxRecDepth 100000 in
theorem kX7_kindIf_0 (l : Launch) (D : va_G) (C : Nat → ClassId) (A : Nat → Nat) (u : St) (hI : IC u) (a0 : Int32) (A0 : Int) (ha0 : a0.toInt = A0) (a1 : Int32) (A1 : Int) (ha1 : a1.toInt = A1) (a2 : Int32) (A2 : Int) (ha2 : a2.toInt = A2) (hl0 : 0 ≤ A0) (hm0 : A0 ≤ 39) : Met l yX7_kindIf (uc yX7_kindIf cX7_kindIf 4 (some .int)) (rmL 1 0 0) (va_Pc [.ref (A 2), .int a0, .int a1, .int a2] (PreR D (tyl C) (cw C A u))) (vp_Si (fun r => True)) 0 0 (fun _ => False) := by
  refine mS (by decide) (Nat.le_of_ble_eq_true rfl) ?_
  intro p e s m below meth c ls ar Q hx hb hml hown hts hK hP hl hret
  have hown : s.vm.findClass RX7 = some m.cls := hown
  have hl : lv_has ls 4 [(0, .ref (A 2)), (1, .int a0), (2, .int a1), (3, .int a2)] := hl
  refine lv_aload_n hx hb dX7_kindIf_0 rfl (lv_at hl 0 rfl) ?_
  refine va_get (ci := 7) (v := .ref (A 24)) (C := RX7) (T := TX7) (N := 16) hx hb hts (fun w h => uc_in w (inX7 w h)) hown hK hP 2 (cwc2 C A u) rfl 14 (by decide) (hts _ (uc_in _ q_f116)) (fun _ h9 => h9) rfl dX7_kindIf_1 ?_
  refine lv_iload_n hx hb dX7_kindIf_4 rfl (lv_at hl 1 rfl) ?_
  refine va_iald hx hb hK hP 24 1 (cwc24 C A u) rfl (i_ix ha0 (by omega) (by omega)) dX7_kindIf_5 ?_
  refine p_any (fun z1 => ?_)
  refine lv_iload_n hx hb dX7_kindIf_6 rfl (lv_at hl 2 rfl) ?_
  refine lv_icmp_ne (tgt := 29) hx hb dX7_kindIf_7 (by decide) (fun c2 => ?_) (fun c2 => ?_)
  · refine lv_iconst (v := (-1)) hx hb dX7_kindIf_29 (by decide) ?_
    exact hret _ _ ((-1) : Int32) dX7_kindIf_30 rfl trivial
  · have c2 := cEQ (x := z1) (y := a1) (X := z1.toInt) (Y := A1) rfl ha1 c2
    refine lv_aload_n hx hb dX7_kindIf_10 rfl (lv_at hl 0 rfl) ?_
    refine va_get (ci := 7) (v := .ref (A 25)) (C := RX7) (T := TX7) (N := 16) hx hb hts (fun w h => uc_in w (inX7 w h)) hown hK hP 2 (cwc2 C A u) rfl 15 (by decide) (hts _ (uc_in _ q_f117)) (fun _ h9 => h9) rfl dX7_kindIf_11 ?_
    refine lv_iload_n hx hb dX7_kindIf_14 rfl (lv_at hl 1 rfl) ?_
    refine va_iald hx hb hK hP 25 1 (cwc25 C A u) rfl (i_ix ha0 (by omega) (by omega)) dX7_kindIf_15 ?_
    refine p_any (fun z3 => ?_)
    refine lv_iload_n hx hb dX7_kindIf_16 rfl (lv_at hl 3 rfl) ?_
    refine lv_icmp_ne (tgt := 29) hx hb dX7_kindIf_17 (by decide) (fun c4 => ?_) (fun c4 => ?_)
    · refine lv_iconst (v := (-1)) hx hb dX7_kindIf_29 (by decide) ?_
      exact hret _ _ ((-1) : Int32) dX7_kindIf_30 rfl trivial
    · have c4 := cEQ (x := z3) (y := a2) (X := z3.toInt) (Y := A2) rfl ha2 c4
      refine lv_aload_n hx hb dX7_kindIf_20 rfl (lv_at hl 0 rfl) ?_
      refine va_get (ci := 7) (v := .ref (A 23)) (C := RX7) (T := TX7) (N := 16) hx hb hts (fun w h => uc_in w (inX7 w h)) hown hK hP 2 (cwc2 C A u) rfl 13 (by decide) (hts _ (uc_in _ q_f115)) (fun _ h9 => h9) rfl dX7_kindIf_21 ?_
      refine lv_iload_n hx hb dX7_kindIf_24 rfl (lv_at hl 1 rfl) ?_
      refine va_iald hx hb hK hP 23 1 (cwc23 C A u) rfl (i_ix ha0 (by omega) (by omega)) dX7_kindIf_25 ?_
      refine p_any (fun z5 => ?_)
      refine lv_goto (tgt := 30) hx hb dX7_kindIf_26 (by decide) ?_
      exact hret _ _ z5 dX7_kindIf_30 rfl trivial
set_option maxHeartbeats 4000000 in
set_option maxRecDepth 100000 in
theorem kX5_fillLates_0 (l : Launch) (D : va_G) (C : Nat → ClassId) (A : Nat → Nat) (u : St) (hI : IC u) (a1 : Int32) (A1 : Int) (ha1 : a1.toInt = A1) (hl1 : 0 ≤ A1) (hm1 : A1 ≤ 5) (sz : Nat) : MetV l yX5_fillLates cX5_fillLates 13 2 [.ref (A 2), .int a1, .int (-1), .ref (A 19), .int 0] D (tyl C) (cw C A) X0 u sz (fun u' => IC u' ∧ Un [] [(84, 90)] [] u u' ∧ True) := by
  refine mV (by decide) (Nat.le_of_ble_eq_true rfl) ?_
  intro p e s m below meth c ls ar Q hx hb hml hown hts hK hH hX hl hret
  have hown : s.vm.findClass RX5 = some m.cls := hown
  have hl : lv_has ls 13 [(0, .ref (A 2)), (1, .int a1), (2, .int (-1)), (3, .ref (A 19)), (4, .int 0)] := hl
  refine lv_iconst (v := 0) hx hb dX5_fillLates_0 (by decide) ?_
  refine lv_iload_n hx hb dX5_fillLates_1 rfl (lv_at hl 2 rfl) ?_
  refine va_mmax hx hb (by rw [hml]; exact hl.1.symm) hown (hts _ (uc_in _ q_m570)) (hts _ (uc_in _ q_s571)) (hts _ (uc_in _ q_i12)) (hts _ (uc_in _ q_c572)) (Nat.le_of_ble_eq_true rfl) (Nat.le_of_ble_eq_true rfl) (Nat.le_of_ble_eq_true rfl) (Nat.le_of_ble_eq_true rfl) dX5_fillLates_2 ?_
  refine p_bd (P := fun q => 0 ≤ q ∧ q ≤ 0) (by rcases tt_max (x := 0) (y := (-1)) with q9 | q9 <;> rw [q9.1] <;> refine ⟨?_, ?_⟩ <;> first | trivial | (have q7 := (show (0 : Int32).toInt = 0 from (by decide)); have q8 := (show ((-1) : Int32).toInt = (-1) from (by decide)); omega)) (fun z1 bz1 => ?_)
  have bz1 : 0 ≤ z1.toInt ∧ z1.toInt ≤ 0 := bz1
  refine lv_istore (lv' := [(5, .int z1), (0, .ref (A 2)), (1, .int a1), (2, .int (-1)), (3, .ref (A 19)), (4, .int 0)]) hx hb dX5_fillLates_5 hl (by decide) rfl (fun ls hl => ?_)
  refine lv_iload_n hx hb dX5_fillLates_7 rfl (lv_at hl 3 rfl) ?_
  refine lv_iconst (v := (-1)) hx hb dX5_fillLates_8 (by decide) ?_
  refine lv_icmp_ne (tgt := 21) hx hb dX5_fillLates_9 (by decide) (fun c2 => absurd c2 (by decide)) (fun c2 => ?_)
  refine lv_aload_n hx hb dX5_fillLates_12 rfl (lv_at hl 1 rfl) ?_
  refine va_get (ci := 7) (v := .ref (A 53)) (C := RX7) (T := TX7) (N := 16) hx hb hts (fun w h => uc_in w (inX7 w h)) hown hK hH.1 2 (cwc2 C A u) rfl 9 (by decide) (hts _ (uc_in _ q_f100)) (fun _ h9 => h9) rfl dX5_fillLates_13 ?_
  refine lv_iload_n hx hb dX5_fillLates_16 rfl (lv_at hl 2 rfl) ?_
  refine va_iald hx hb hK hH.1 53 1 (cwc53 C A u) rfl (i_ix ha1 (by omega) (by omega)) dX5_fillLates_17 ?_
  refine p_any (fun z3 => ?_)
  refine lv_goto (tgt := 22) hx hb dX5_fillLates_18 (by decide) ?_
  refine lv_istore (lv' := [(6, .int z3), (5, .int z1), (0, .ref (A 2)), (1, .int a1), (2, .int (-1)), (3, .ref (A 19)), (4, .int 0)]) hx hb dX5_fillLates_22 hl (by decide) rfl (fun ls hl => ?_)
  refine lv_aload_n hx hb dX5_fillLates_24 rfl (lv_at hl 2 rfl) ?_
  refine va_get (ci := 7) (v := .ref (A 54)) (C := RX7) (T := TX7) (N := 16) hx hb hts (fun w h => uc_in w (inX7 w h)) hown hK hH.1 2 (cwc2 C A u) rfl 10 (by decide) (hts _ (uc_in _ q_f104)) (fun _ h9 => h9) rfl dX5_fillLates_25 ?_
  refine lv_iload_n hx hb dX5_fillLates_28 rfl (lv_at hl 3 rfl) ?_
  refine va_iald hx hb hK hH.1 54 1 (cwc54 C A u) rfl (i_ix ha1 (by omega) (by omega)) dX5_fillLates_29 ?_
  refine p_any (fun z4 => ?_)
  refine lv_istore (lv' := [(7, .int z4), (6, .int z3), (5, .int z1), (0, .ref (A 2)), (1, .int a1), (2, .int (-1)), (3, .ref (A 19)), (4, .int 0)]) hx hb dX5_fillLates_30 hl (by decide) rfl (fun ls hl => ?_)
  refine lv_iconst (v := 0) hx hb dX5_fillLates_32 (by decide) ?_
  refine lv_istore (lv' := [(8, .int 0), (7, .int z4), (6, .int z3), (5, .int z1), (0, .ref (A 2)), (1, .int a1), (2, .int (-1)), (3, .ref (A 19)), (4, .int 0)]) hx hb dX5_fillLates_33 hl (by decide) rfl (fun ls hl => ?_)
  refine lv_iload hx hb dX5_fillLates_35 (lv_at hl 3 rfl) ?_
  refine lv_istore (lv' := [(9, .int z1), (8, .int 0), (7, .int z4), (6, .int z3), (5, .int z1), (0, .ref (A 2)), (1, .int a1), (2, .int (-1)), (3, .ref (A 19)), (4, .int 0)]) hx hb dX5_fillLates_37 hl (by decide) rfl (fun ls hl => ?_)
  have lp39_1784 : ∀ (n39 : Nat) (ls : Array Slot) (y1780d : Int32) (y1781d : Int32) (y1782d : Int32) (y1783d : Int32) (u1784 : St) (H : Heap) (locs : List Loc), 0 ≤ y1780d.toInt → y1780d.toInt ≤ 7 → 0 ≤ y1781d.toInt → y1781d.toInt ≤ 1 → 7 - y1780d.toInt < (n39 : Int) → Un [] [(84, 90)] [] u u1784 → IC u1784 → Hd D (cw C A) (va_A (cw C A u) s.heap.size) s.heap u1784 H locs → lv_has ls 13 [(9, .int y1780d), (8, .int y1781d), (7, .int y1782d), (6, .int y1783d), (5, .int z1), (0, .ref (A 2)), (1, .int a1), (2, .int (-1)), (3, .ref (A 19)), (4, .int 0)] → W p l e (rmL 2 0 0) s m ar below meth c H locs 0 0 Q (F0 m 39 ls []) := by
    intro n39
    induction n39 with
    | zero => intro ls y1780d y1781d y1782d y1783d u1784 H locs ly1780d my1780d ly1781d my1781d hmun39 hUu1784 hI hH hl; exfalso; omega
    | succ n39 ih39_1784 =>
      intro ls y1780d y1781d y1782d y1783d u1784 H locs ly1780d my1780d ly1781d my1781d hmun39 hUu1784 hI hH hl
      refine lv_iload hx hb dX5_fillLates_39 (lv_at hl 0 rfl) ?_
      refine lv_aload_n hx hb dX5_fillLates_41 rfl (lv_at hl 5 rfl) ?_
      refine va_get (ci := 7) (v := .int (gi u1784 9)) (C := RX7) (T := TX7) (N := 16) hx hb hts (fun w h => uc_in w (inX7 w h)) hown hK hH.1 2 (cwc2 C A u1784) rfl 1 (by decide) (hts _ (uc_in _ q_f71)) (fun _ h9 => h9) rfl dX5_fillLates_42 ?_
      have b1786 := hI.b9
      refine lv_icmp_ge (tgt := 180) hx hb dX5_fillLates_45 (by decide) (fun c1787 => ?_) (fun c1787 => ?_)
      · have c1787 := cLE (x := (gi u1784 9)) (y := y1780d) (X := ((gi u1784 9)).toInt) (Y := y1780d.toInt) rfl rfl c1787
        exact hret _ _ _ _ _ dX5_fillLates_180 ⟨hI, (Un.tr Un.rf hUu1784 rfl rfl rfl), trivial⟩ hH
      · have c1787 := cNLE (x := (gi u1784 9)) (y := y1780d) (X := ((gi u1784 9)).toInt) (Y := y1780d.toInt) rfl rfl c1787
        refine lv_iload hx hb dX5_fillLates_48 (lv_at hl 3 rfl) ?_
        refine lv_iload hx hb dX5_fillLates_50 (lv_at hl 0 rfl) ?_
        refine lv_iload hx hb dX5_fillLates_52 (lv_at hl 4 rfl) ?_
        have j63_2033 : ∀ (ls : Array Slot) (y1789d : Int32), lv_has ls 13 [(9, .int y1780d), (8, .int y1781d), (7, .int y1782d), (5, .int z1), (0, .ref (A 2)), (1, .int a1), (2, .int (-1)), (3, .ref (A 19)), (4, .int 0)] → W p l e (rmL 2 0 0) s m ar below meth c H locs 0 0 Q (F0 m 63 ls [.int y1789d, .int y1783d]) := by
          intro ls y1789d hl
          refine lv_iadd hx hb dX5_fillLates_63 ?_
          refine p_any (fun z2035 => ?_)
          refine lv_istore (lv' := [(6, .int z2035), (9, .int y1780d), (8, .int y1781d), (7, .int y1782d), (5, .int z1), (0, .ref (A 2)), (1, .int a1), (2, .int (-1)), (3, .ref (A 19)), (4, .int 0)]) hx hb dX5_fillLates_64 hl (by decide) rfl (fun ls hl => ?_)
          refine lv_iload hx hb dX5_fillLates_66 (lv_at hl 1 rfl) ?_
          refine lv_iload_n hx hb dX5_fillLates_68 rfl (lv_at hl 7 rfl) ?_
          refine lv_icmp_ne (tgt := 76) hx hb dX5_fillLates_69 (by decide) (fun c2036 => ?_) (fun c2036 => absurd (cEQ (x := y1780d) (y := (-1)) (X := y1780d.toInt) (Y := (-1)) rfl (by decide) c2036) (by omega))
          refine lv_aload_n hx hb dX5_fillLates_76 rfl (lv_at hl 5 rfl) ?_
          refine va_get (ci := 7) (v := .int (gi u1784 15)) (C := RX7) (T := TX7) (N := 16) hx hb hts (fun w h => uc_in w (inX7 w h)) hown hK hH.1 2 (cwc2 C A u1784) rfl 7 (by decide) (hts _ (uc_in _ q_f93)) (fun _ h9 => h9) rfl dX5_fillLates_77 ?_
          have b2037 := hI.b15
          refine lv_istore (lv' := [(10, .int (gi u1784 15)), (6, .int z2035), (9, .int y1780d), (8, .int y1781d), (7, .int y1782d), (5, .int z1), (0, .ref (A 2)), (1, .int a1), (2, .int (-1)), (3, .ref (A 19)), (4, .int 0)]) hx hb dX5_fillLates_80 hl (by decide) rfl (fun ls hl => ?_)
          refine lv_iconst (v := 0) hx hb dX5_fillLates_82 (by decide) ?_
          refine lv_istore (lv' := [(11, .int 0), (10, .int (gi u1784 15)), (6, .int z2035), (9, .int y1780d), (8, .int y1781d), (7, .int y1782d), (5, .int z1), (0, .ref (A 2)), (1, .int a1), (2, .int (-1)), (3, .ref (A 19)), (4, .int 0)]) hx hb dX5_fillLates_83 hl (by decide) rfl (fun ls hl => ?_)
          have lp85_2261 : ∀ (n85 : Nat) (ls : Array Slot) (y2257d : Int32) (y2258d : Int32) (y2259d : Int32) (y2260d : Int32) (u2261 : St) (H : Heap) (locs : List Loc), 0 ≤ y2257d.toInt → y2257d.toInt ≤ 40 → 0 ≤ y2259d.toInt → y2259d.toInt ≤ 1 → 40 - y2257d.toInt < (n85 : Int) → Un [] [(84, 90)] [] u1784 u2261 → IC u2261 → Hd D (cw C A) (va_A (cw C A u) s.heap.size) s.heap u2261 H locs → lv_has ls 13 [(11, .int y2257d), (10, .int (gi u1784 15)), (6, .int y2258d), (9, .int y1780d), (8, .int y2259d), (7, .int y2260d), (5, .int z1), (0, .ref (A 2)), (1, .int a1), (2, .int (-1)), (3, .ref (A 19)), (4, .int 0)] → W p l e (rmL 2 0 0) s m ar below meth c H locs 0 0 Q (F0 m 85 ls []) := by
            intro n85
            induction n85 with
            | zero => intro ls y2257d y2258d y2259d y2260d u2261 H locs ly2257d my2257d ly2259d my2259d hmun85 hUu2261 hI hH hl; exfalso; omega
            | succ n85 ih85_2261 =>
              intro ls y2257d y2258d y2259d y2260d u2261 H locs ly2257d my2257d ly2259d my2259d hmun85 hUu2261 hI hH hl
              refine lv_iload hx hb dX5_fillLates_85 (lv_at hl 0 rfl) ?_
              refine lv_iload hx hb dX5_fillLates_87 (lv_at hl 1 rfl) ?_
              refine lv_icmp_ge (tgt := 152) hx hb dX5_fillLates_89 (by decide) (fun c2263 => ?_) (fun c2263 => ?_)
              · have c2263 := cLE (x := (gi u1784 15)) (y := y2257d) (X := ((gi u1784 15)).toInt) (Y := y2257d.toInt) rfl rfl c2263
                refine lv_aload_n hx hb dX5_fillLates_152 rfl (lv_at hl 10 rfl) ?_
                refine lv_iload hx hb dX5_fillLates_153 (lv_at hl 11 rfl) ?_
                refine lv_iload hx hb dX5_fillLates_155 (lv_at hl 3 rfl) ?_
                refine lv_iadd hx hb dX5_fillLates_157 ?_
                refine p_nm (tt_add (X := 0) (Y := y1780d.toInt) (by decide) rfl (by omega) (by omega)) (fun z2264 hz2264 => ?_)
                refine r_aald hx hb hK hH.1 19 6 rfl (cwc19 C A u2261) rfl (i_ix hz2264 (by omega) (by omega)) dX5_fillLates_158 ?_
                obtain ⟨k2265, hk2265, ek2265⟩ : ∃ k : Nat, (k : Int) = 32 + (0 + y1780d.toInt) ∧ k = 32 + Int32.toNatClampNeg z2264 := ⟨_, by have q9 := i_cl (x := z2264) (X := (0 + y1780d.toInt)) hz2264 (by omega); omega, rfl⟩
                refine pv_v (v := .ref (A (52 + k2265))) (by rw [ek2265]; rfl) ?_
                refine lv_iload_n hx hb dX5_fillLates_159 rfl (lv_at hl 8 rfl) ?_
                refine lv_iload hx hb dX5_fillLates_160 (lv_at hl 4 rfl) ?_
                have j173_2270 : ∀ (ls : Array Slot) (y2267d : Int32), lv_has ls 13 [(6, .int y2258d), (9, .int y1780d), (8, .int y2259d), (7, .int y2260d), (5, .int z1), (0, .ref (A 2)), (1, .int a1), (2, .int (-1)), (3, .ref (A 19)), (4, .int 0)] → W p l e (rmL 2 0 0) s m ar below meth c H locs 0 0 Q (F0 m 173 ls [.int y2267d, .int a1, .ref (A (52 + k2265))]) := by
                  intro ls y2267d hl
                  refine r_iast (j := (52 + k2265)) hx hb hK hH (52 + k2265) 1 (cwp C A u2261 k2265 (by omega)) rfl (i_ix ha1 (by omega) (by omega)) (cwq C A u2261 k2265 (by omega)) dX5_fillLates_173 (fun u2272 eu2272 H locs hH => ?_)
                  have hI := hI.pa0 eu2272 (by omega)
                  obtain ⟨z2273, ez2273⟩ : ∃ z, z = y1780d + Int32.ofInt 1 := ⟨_, rfl⟩
                  have hz2273 : z2273.toInt = y1780d.toInt + 1 := by rw [ez2273]; exact tt_add rfl (by decide) (by omega) (by omega)
                  refine lv_iinc (v := z2273) (lv' := [(9, .int z2273), (6, .int y2258d), (8, .int y2259d), (7, .int y2260d), (5, .int z1), (0, .ref (A 2)), (1, .int a1), (2, .int (-1)), (3, .ref (A 19)), (4, .int 0)]) hx hb dX5_fillLates_174 hl (k := 1) rfl ez2273.symm (by decide) rfl (fun ls hl => ?_)
                  refine lv_goto (tgt := 39) hx hb dX5_fillLates_177 (by decide) ?_
                  exact ih39_1784 ls z2273 y2259d y2260d y2258d u2272 _ _ (by have q9 := (show z2273.toInt = (y1780d.toInt + 1) from hz2273); omega) (by have q9 := (show z2273.toInt = (y1780d.toInt + 1) from hz2273); omega) (by omega) (by omega) (by have q9 := (show z2273.toInt = (y1780d.toInt + 1) from hz2273); omega) (Un.sa (Un.tr hUu1784 hUu2261 rfl rfl rfl) (out_mem (lo := 84) (hi := 90) (by decide) (by omega) (by omega)) eu2272) hI hH (lv_sub hl [0, 2, 3, 1, 4, 5, 6, 7, 8, 9] rfl)
                refine lv_if_eq (tgt := 171) hx hb dX5_fillLates_162 (by decide) (fun c2266 => ?_) (fun c2266 => ?_)
                · have c2266 := cEQ (x := y2259d) (y := 0) (X := y2259d.toInt) (Y := 0) rfl (by decide) c2266
                  refine lv_iload hx hb dX5_fillLates_171 (lv_at hl 2 rfl) ?_
                  exact j173_2270 ls y2258d (lv_sub hl [2, 3, 4, 5, 6, 7, 8, 9, 10, 11] rfl)
                · have c2266 := cNE (x := y2259d) (y := 0) (X := y2259d.toInt) (Y := 0) rfl (by decide) c2266
                  refine lv_sipush (v := 10000) hx hb dX5_fillLates_165 (by decide) ?_
                  refine lv_goto (tgt := 173) hx hb dX5_fillLates_168 (by decide) ?_
                  exact j173_2270 ls 10000 (lv_sub hl [2, 3, 4, 5, 6, 7, 8, 9, 10, 11] rfl)
              · have c2263 := cNLE (x := (gi u1784 15)) (y := y2257d) (X := ((gi u1784 15)).toInt) (Y := y2257d.toInt) rfl rfl c2263
                refine lv_aload_n hx hb dX5_fillLates_92 rfl (lv_at hl 7 rfl) ?_
                refine lv_iload hx hb dX5_fillLates_93 (lv_at hl 0 rfl) ?_
                refine lv_iload_n hx hb dX5_fillLates_95 rfl (lv_at hl 8 rfl) ?_
                refine lv_iload hx hb dX5_fillLates_96 (lv_at hl 3 rfl) ?_
                refine cvS (n := 3) (As := [.int y2257d, .int a1, .int y1780d]) (rest := []) ⟨hx, hb, hml, hown, hts⟩ uc_in (kX7_kindIf_0 l D C A u2261 hI y2257d y2257d.toInt rfl a1 A1 ha1 y1780d y1780d.toInt rfl (by omega) (by omega)) q_m573 q_n574 q_e575 q_i3 q_c576 hvX7_kindIf ⟨(Nat.le_of_ble_eq_true rfl), (Nat.le_of_ble_eq_true rfl)⟩ ⟨(Nat.le_of_ble_eq_true rfl), (Nat.le_of_ble_eq_true rfl)⟩ hK hH.1 7 2 rfl (cwc2 C A u2261) rfl hl.1 rfl (Nat.le_of_ble_eq_true rfl) dX5_fillLates_98 (fun r2274 p2275 => ?_)
                refine lv_istore (lv' := [(12, .int r2274), (11, .int y2257d), (10, .int (gi u1784 15)), (6, .int y2258d), (9, .int y1780d), (8, .int y2259d), (7, .int y2260d), (5, .int z1), (0, .ref (A 2)), (1, .int a1), (2, .int (-1)), (3, .ref (A 19)), (4, .int 0)]) hx hb dX5_fillLates_101 hl (by decide) rfl (fun ls hl => ?_)
                refine lv_iload hx hb dX5_fillLates_103 (lv_at hl 0 rfl) ?_
                have j146_2284 : ∀ (ls : Array Slot) (y2280d : Int32) (y2281d : Int32) (y2282d : Int32), 0 ≤ y2281d.toInt → y2281d.toInt ≤ 1 → lv_has ls 13 [(11, .int y2257d), (10, .int (gi u1784 15)), (6, .int y2280d), (9, .int y1780d), (8, .int y2281d), (7, .int y2282d), (5, .int z1), (0, .ref (A 2)), (1, .int a1), (2, .int (-1)), (3, .ref (A 19)), (4, .int 0)] → W p l e (rmL 2 0 0) s m ar below meth c H locs 0 0 Q (F0 m 146 ls []) := by
                  intro ls y2280d y2281d y2282d ly2281d my2281d hl
                  obtain ⟨z2286, ez2286⟩ : ∃ z, z = y2257d + Int32.ofInt 1 := ⟨_, rfl⟩
                  have hz2286 : z2286.toInt = y2257d.toInt + 1 := by rw [ez2286]; exact tt_add rfl (by decide) (by omega) (by omega)
                  refine lv_iinc (v := z2286) (lv' := [(11, .int z2286), (10, .int (gi u1784 15)), (6, .int y2280d), (9, .int y1780d), (8, .int y2281d), (7, .int y2282d), (5, .int z1), (0, .ref (A 2)), (1, .int a1), (2, .int (-1)), (3, .ref (A 19)), (4, .int 0)]) hx hb dX5_fillLates_146 hl (k := 0) rfl ez2286.symm (by decide) rfl (fun ls hl => ?_)
                  refine lv_goto (tgt := 85) hx hb dX5_fillLates_149 (by decide) ?_
                  exact ih85_2261 ls z2286 y2280d y2281d y2282d u2261 _ _ (by have q9 := (show z2286.toInt = (y2257d.toInt + 1) from hz2286); omega) (by have q9 := (show z2286.toInt = (y2257d.toInt + 1) from hz2286); omega) (by omega) (by omega) (by have q9 := (show z2286.toInt = (y2257d.toInt + 1) from hz2286); omega) hUu2261 hI hH hl
                refine lv_if_ne (tgt := 125) hx hb dX5_fillLates_105 (by decide) (fun c2276 => ?_) (fun c2276 => ?_)
                · refine lv_iload hx hb dX5_fillLates_125 (lv_at hl 0 rfl) ?_
                  refine lv_iconst (v := 1) hx hb dX5_fillLates_127 (by decide) ?_
                  refine lv_icmp_ne (tgt := 137) hx hb dX5_fillLates_128 (by decide) (fun c2287 => ?_) (fun c2287 => ?_)
                  · refine lv_iload hx hb dX5_fillLates_137 (lv_at hl 0 rfl) ?_
                    refine lv_iconst (v := 2) hx hb dX5_fillLates_139 (by decide) ?_
                    refine lv_icmp_ne (tgt := 146) hx hb dX5_fillLates_140 (by decide) (fun c2288 => ?_) (fun c2288 => ?_)
                    · exact j146_2284 ls y2258d y2259d y2260d (by omega) (by omega) (lv_sub hl [1, 2, 3, 4, 5, 6, 7, 8, 9, 10, 11, 12] rfl)
                    · have c2288 := cEQ (x := r2274) (y := 2) (X := r2274.toInt) (Y := 2) rfl (by decide) c2288
                      refine lv_iconst (v := 1) hx hb dX5_fillLates_143 (by decide) ?_
                      refine lv_istore (lv' := [(8, .int 1), (12, .int r2274), (11, .int y2257d), (10, .int (gi u1784 15)), (6, .int y2258d), (9, .int y1780d), (7, .int y2260d), (5, .int z1), (0, .ref (A 2)), (1, .int a1), (2, .int (-1)), (3, .ref (A 19)), (4, .int 0)]) hx hb dX5_fillLates_144 hl (by decide) rfl (fun ls hl => ?_)
                      exact j146_2284 ls y2258d 1 y2260d (by decide) (by decide) (lv_sub hl [2, 3, 4, 5, 0, 6, 7, 8, 9, 10, 11, 12] rfl)
                  · have c2287 := cEQ (x := r2274) (y := 1) (X := r2274.toInt) (Y := 1) rfl (by decide) c2287
                    refine lv_iconst (v := 0) hx hb dX5_fillLates_131 (by decide) ?_
                    refine lv_istore (lv' := [(7, .int 0), (12, .int r2274), (11, .int y2257d), (10, .int (gi u1784 15)), (6, .int y2258d), (9, .int y1780d), (8, .int y2259d), (5, .int z1), (0, .ref (A 2)), (1, .int a1), (2, .int (-1)), (3, .ref (A 19)), (4, .int 0)]) hx hb dX5_fillLates_132 hl (by decide) rfl (fun ls hl => ?_)
                    refine lv_goto (tgt := 146) hx hb dX5_fillLates_134 (by decide) ?_
                    exact j146_2284 ls y2258d y2259d 0 (by omega) (by omega) (lv_sub hl [2, 3, 4, 5, 6, 0, 7, 8, 9, 10, 11, 12] rfl)
                · have c2276 := cEQ (x := r2274) (y := 0) (X := r2274.toInt) (Y := 0) rfl (by decide) c2276
                  refine lv_iconst (v := 0) hx hb dX5_fillLates_108 (by decide) ?_
                  refine lv_istore (lv' := [(6, .int 0), (12, .int r2274), (11, .int y2257d), (10, .int (gi u1784 15)), (9, .int y1780d), (8, .int y2259d), (7, .int y2260d), (5, .int z1), (0, .ref (A 2)), (1, .int a1), (2, .int (-1)), (3, .ref (A 19)), (4, .int 0)]) hx hb dX5_fillLates_109 hl (by decide) rfl (fun ls hl => ?_)
                  refine lv_aload_n hx hb dX5_fillLates_111 rfl (lv_at hl 8 rfl) ?_
                  refine va_get (ci := 7) (v := .ref (A 54)) (C := RX7) (T := TX7) (N := 16) hx hb hts (fun w h => uc_in w (inX7 w h)) hown hK hH.1 2 (cwc2 C A u2261) rfl 10 (by decide) (hts _ (uc_in _ q_f104)) (fun _ h9 => h9) rfl dX5_fillLates_112 ?_
                  refine lv_iload_n hx hb dX5_fillLates_115 rfl (lv_at hl 9 rfl) ?_
                  refine va_iald hx hb hK hH.1 54 1 (cwc54 C A u2261) rfl (i_ix ha1 (by omega) (by omega)) dX5_fillLates_116 ?_
                  refine p_any (fun z2289 => ?_)
                  refine lv_istore (lv' := [(7, .int z2289), (6, .int 0), (12, .int r2274), (11, .int y2257d), (10, .int (gi u1784 15)), (9, .int y1780d), (8, .int y2259d), (5, .int z1), (0, .ref (A 2)), (1, .int a1), (2, .int (-1)), (3, .ref (A 19)), (4, .int 0)]) hx hb dX5_fillLates_117 hl (by decide) rfl (fun ls hl => ?_)
                  refine lv_iconst (v := 0) hx hb dX5_fillLates_119 (by decide) ?_
                  refine lv_istore (lv' := [(8, .int 0), (7, .int z2289), (6, .int 0), (12, .int r2274), (11, .int y2257d), (10, .int (gi u1784 15)), (9, .int y1780d), (5, .int z1), (0, .ref (A 2)), (1, .int a1), (2, .int (-1)), (3, .ref (A 19)), (4, .int 0)]) hx hb dX5_fillLates_120 hl (by decide) rfl (fun ls hl => ?_)
                  refine lv_goto (tgt := 146) hx hb dX5_fillLates_122 (by decide) ?_
                  exact j146_2284 ls 0 0 z2289 (by decide) (by decide) (lv_sub hl [4, 5, 2, 6, 0, 1, 7, 8, 9, 10, 11, 12] rfl)
          exact lp85_2261 41 ls 0 z2035 y1781d y1782d u1784 _ _ (by decide) (by decide) (by omega) (by omega) (by have q9 : (0 : Int32).toInt = 0 := (by decide); omega) Un.rf hI hH hl
        refine lv_icmp_le (tgt := 62) hx hb dX5_fillLates_54 (by decide) (fun c1788 => ?_) (fun c1788 => ?_)
        · have c1788 := cLE (x := y1780d) (y := z1) (X := y1780d.toInt) (Y := z1.toInt) rfl rfl c1788
          refine lv_iconst (v := 0) hx hb dX5_fillLates_62 (by decide) ?_
          exact j63_2033 ls 0 (lv_sub hl [0, 1, 2, 4, 5, 6, 7, 8, 9] rfl)
        · have c1788 := cNLE (x := y1780d) (y := z1) (X := y1780d.toInt) (Y := z1.toInt) rfl rfl c1788
          refine lv_iload hx hb dX5_fillLates_57 (lv_at hl 2 rfl) ?_
          refine lv_goto (tgt := 63) hx hb dX5_fillLates_59 (by decide) ?_
          exact j63_2033 ls y1782d (lv_sub hl [0, 1, 2, 4, 5, 6, 7, 8, 9] rfl)
  exact lp39_1784 8 ls z1 0 z4 z3 u _ _ (by omega) (by omega) (by decide) (by decide) (by omega) Un.rf hI hH hl
set_option maxHeartbeats 4000000 in
set_option maxRecDepth 100000 in
theorem kX5_fillAlive_0 (l : Launch) (D : va_G) (C : Nat → ClassId) (A : Nat → Nat) (u : St) (hI : IC u) (a1 : Int32) (A1 : Int) (ha1 : a1.toInt = A1) (hl1 : 0 ≤ A1) (hm1 : A1 ≤ 5) (sz : Nat) : MetV l yX5_fillAlive cX5_fillAlive 7 2 [.ref (A 7), .ref (A 2), .int a1] D (tyl C) (cw C A) X0 u sz (fun u' => IC u' ∧ Un [] [(38, 38)] [] u u' ∧ True) := by
  refine mV (by decide) (Nat.le_of_ble_eq_true rfl) ?_
  intro p e s m below meth c ls ar Q hx hb hml hown hts hK hH hX hl hret
  have hown : s.vm.findClass RX5 = some m.cls := hown
  have hl : lv_has ls 7 [(0, .ref (A 7)), (1, .ref (A 2)), (2, .int a1)] := hl
  refine lv_aload_n hx hb dX5_fillAlive_0 rfl (lv_at hl 1 rfl) ?_
  refine va_get (ci := 7) (v := .ref (A 56)) (C := RX7) (T := TX7) (N := 16) hx hb hts (fun w h => uc_in w (inX7 w h)) hown hK hH.1 2 (cwc2 C A u) rfl 12 (by decide) (hts _ (uc_in _ q_f112)) (fun _ h9 => h9) rfl dX5_fillAlive_1 ?_
  refine lv_iload_n hx hb dX5_fillAlive_4 rfl (lv_at hl 2 rfl) ?_
  refine va_iald hx hb hK hH.1 56 1 (cwc56 C A u) rfl (i_ix ha1 (by omega) (by omega)) dX5_fillAlive_5 ?_
  refine p_any (fun z1 => ?_)
  refine lv_iconst (v := 1) hx hb dX5_fillAlive_6 (by decide) ?_
  have j15_1694 : ∀ (ls : Array Slot) (y3d : Int32), 0 ≤ y3d.toInt → y3d.toInt ≤ 1 → lv_has ls 7 [(0, .ref (A 7)), (1, .ref (A 2)), (2, .int a1)] → W p l e (rmL 2 0 0) s m ar below meth c s.heap [] 0 0 Q (F0 m 15 ls [.int y3d]) := by
    intro ls y3d ly3d my3d hl
    refine lv_istore_n (lv' := [(3, .int y3d), (0, .ref (A 7)), (1, .ref (A 2)), (2, .int a1)]) hx hb dX5_fillAlive_15 rfl hl (by decide) rfl (fun ls hl => ?_)
    refine lv_iconst (v := 0) hx hb dX5_fillAlive_16 (by decide) ?_
    refine lv_istore (lv' := [(4, .int 0), (3, .int y3d), (0, .ref (A 7)), (1, .ref (A 2)), (2, .int a1)]) hx hb dX5_fillAlive_17 hl (by decide) rfl (fun ls hl => ?_)
    have lp19_3176 : ∀ (n19 : Nat) (ls : Array Slot) (y3174d : Int32) (y3175d : Int32) (u3176 : St) (H : Heap) (locs : List Loc), 0 ≤ y3174d.toInt → y3174d.toInt ≤ 7 → 0 ≤ y3175d.toInt → y3175d.toInt ≤ 1 → 7 - y3174d.toInt < (n19 : Int) → Un [] [(38, 38)] [] u u3176 → IC u3176 → Hd D (cw C A) (va_A (cw C A u) s.heap.size) s.heap u3176 H locs → lv_has ls 7 [(4, .int y3174d), (3, .int y3175d), (0, .ref (A 7)), (1, .ref (A 2)), (2, .int a1)] → W p l e (rmL 2 0 0) s m ar below meth c H locs 0 0 Q (F0 m 19 ls []) := by
      intro n19
      induction n19 with
      | zero => intro ls y3174d y3175d u3176 H locs ly3174d my3174d ly3175d my3175d hmun19 hUu3176 hI hH hl; exfalso; omega
      | succ n19 ih19_3176 =>
        intro ls y3174d y3175d u3176 H locs ly3174d my3174d ly3175d my3175d hmun19 hUu3176 hI hH hl
        refine lv_iload hx hb dX5_fillAlive_19 (lv_at hl 0 rfl) ?_
        refine lv_aload_n hx hb dX5_fillAlive_21 rfl (lv_at hl 2 rfl) ?_
        refine va_get (ci := 5) (v := .int (gi u3176 48)) (C := RX5) (T := TX5) (N := 4) hx hb hts (fun w h => uc_in w (inX5 w h)) hown hK hH.1 7 (cwc7 C A u3176) rfl 0 (by decide) (hts _ (uc_in _ q_f161)) (fun _ h9 => h9) rfl dX5_fillAlive_22 ?_
        have b3178 := hI.b48
        refine lv_icmp_ge (tgt := 102) hx hb dX5_fillAlive_25 (by decide) (fun c3179 => ?_) (fun c3179 => ?_)
        · have c3179 := cLE (x := (gi u3176 48)) (y := y3174d) (X := ((gi u3176 48)).toInt) (Y := y3174d.toInt) rfl rfl c3179
          exact hret _ _ _ _ _ dX5_fillAlive_102 ⟨hI, (Un.tr Un.rf hUu3176 rfl rfl rfl), trivial⟩ hH
        · have c3179 := cNLE (x := (gi u3176 48)) (y := y3174d) (X := ((gi u3176 48)).toInt) (Y := y3174d.toInt) rfl rfl c3179
          refine lv_iconst (v := 0) hx hb dX5_fillAlive_28 (by decide) ?_
          refine lv_istore (lv' := [(5, .int 0), (4, .int y3174d), (3, .int y3175d), (0, .ref (A 7)), (1, .ref (A 2)), (2, .int a1)]) hx hb dX5_fillAlive_29 hl (by decide) rfl (fun ls hl => ?_)
          have lp31_3371 : ∀ (n31 : Nat) (ls : Array Slot) (y3369d : Int32) (y3370d : Int32) (u3371 : St) (H : Heap) (locs : List Loc), 0 ≤ y3369d.toInt → y3369d.toInt ≤ 40 → 0 ≤ y3370d.toInt → y3370d.toInt ≤ 1 → 40 - y3369d.toInt < (n31 : Int) → Un [] [(38, 38)] [] u3176 u3371 → IC u3371 → Hd D (cw C A) (va_A (cw C A u) s.heap.size) s.heap u3371 H locs → lv_has ls 7 [(5, .int y3369d), (4, .int y3174d), (3, .int y3370d), (0, .ref (A 7)), (1, .ref (A 2)), (2, .int a1)] → W p l e (rmL 2 0 0) s m ar below meth c H locs 0 0 Q (F0 m 31 ls []) := by
            intro n31
            induction n31 with
            | zero => intro ls y3369d y3370d u3371 H locs ly3369d my3369d ly3370d my3370d hmun31 hUu3371 hI hH hl; exfalso; omega
            | succ n31 ih31_3371 =>
              intro ls y3369d y3370d u3371 H locs ly3369d my3369d ly3370d my3370d hmun31 hUu3371 hI hH hl
              refine lv_iload hx hb dX5_fillAlive_31 (lv_at hl 0 rfl) ?_
              refine lv_aload_n hx hb dX5_fillAlive_33 rfl (lv_at hl 4 rfl) ?_
              refine va_get (ci := 7) (v := .int (gi u3371 15)) (C := RX7) (T := TX7) (N := 16) hx hb hts (fun w h => uc_in w (inX7 w h)) hown hK hH.1 2 (cwc2 C A u3371) rfl 7 (by decide) (hts _ (uc_in _ q_f93)) (fun _ h9 => h9) rfl dX5_fillAlive_34 ?_
              have b3373 := hI.b15
              refine lv_icmp_ge (tgt := 79) hx hb dX5_fillAlive_37 (by decide) (fun c3374 => ?_) (fun c3374 => ?_)
              · have c3374 := cLE (x := (gi u3371 15)) (y := y3369d) (X := ((gi u3371 15)).toInt) (Y := y3369d.toInt) rfl rfl c3374
                refine lv_iload_n hx hb dX5_fillAlive_79 rfl (lv_at hl 2 rfl) ?_
                have j96_3384 : ∀ (ls : Array Slot) (u3384 : St) (H : Heap) (locs : List Loc), Un [] [(38, 38)] [] u3371 u3384 → IC u3384 → Hd D (cw C A) (va_A (cw C A u) s.heap.size) s.heap u3384 H locs → lv_has ls 7 [(4, .int y3174d), (3, .int y3370d), (0, .ref (A 7)), (1, .ref (A 2)), (2, .int a1)] → W p l e (rmL 2 0 0) s m ar below meth c H locs 0 0 Q (F0 m 96 ls []) := by
                  intro ls u3384 H locs hUu3384 hI hH hl
                  obtain ⟨z3386, ez3386⟩ : ∃ z, z = y3174d + Int32.ofInt 1 := ⟨_, rfl⟩
                  have hz3386 : z3386.toInt = y3174d.toInt + 1 := by rw [ez3386]; exact tt_add rfl (by decide) (by omega) (by omega)
                  refine lv_iinc (v := z3386) (lv' := [(4, .int z3386), (3, .int y3370d), (0, .ref (A 7)), (1, .ref (A 2)), (2, .int a1)]) hx hb dX5_fillAlive_96 hl (k := 0) rfl ez3386.symm (by decide) rfl (fun ls hl => ?_)
                  refine lv_goto (tgt := 19) hx hb dX5_fillAlive_99 (by decide) ?_
                  exact ih19_3176 ls z3386 y3370d u3384 _ _ (by have q9 := (show z3386.toInt = (y3174d.toInt + 1) from hz3386); omega) (by have q9 := (show z3386.toInt = (y3174d.toInt + 1) from hz3386); omega) (by omega) (by omega) (by have q9 := (show z3386.toInt = (y3174d.toInt + 1) from hz3386); omega) (Un.tr (Un.tr hUu3176 hUu3371 rfl rfl rfl) hUu3384 rfl rfl rfl) hI hH hl
                refine lv_if_ne (tgt := 96) hx hb dX5_fillAlive_80 (by decide) (fun c3375 => ?_) (fun c3375 => ?_)
                · have c3375 := cNE (x := y3370d) (y := 0) (X := y3370d.toInt) (Y := 0) rfl (by decide) c3375
                  exact j96_3384 ls u3371 _ _ Un.rf hI hH (lv_sub hl [1, 2, 3, 4, 5] rfl)
                · have c3375 := cEQ (x := y3370d) (y := 0) (X := y3370d.toInt) (Y := 0) rfl (by decide) c3375
                  refine lv_aload_n hx hb dX5_fillAlive_83 rfl (lv_at hl 3 rfl) ?_
                  refine va_get (ci := 5) (v := .ref (A 38)) (C := RX5) (T := TX5) (N := 4) hx hb hts (fun w h => uc_in w (inX5 w h)) hown hK hH.1 7 (cwc7 C A u3371) rfl 3 (by decide) (hts _ (uc_in _ q_f172)) (fun _ h9 => h9) rfl dX5_fillAlive_84 ?_
                  refine lv_iload hx hb dX5_fillAlive_87 (lv_at hl 1 rfl) ?_
                  refine lv_dup2_11 hx hb dX5_fillAlive_89 rfl rfl ?_
                  refine va_iald hx hb hK hH.1 38 1 (cwc38 C A u3371) rfl (i_ix rfl (by omega) (by omega)) dX5_fillAlive_90 ?_
                  refine p_any (fun z3387 => ?_)
                  refine lv_iconst (v := 1) hx hb dX5_fillAlive_91 (by decide) ?_
                  refine lv_iload_n hx hb dX5_fillAlive_92 rfl (lv_at hl 5 rfl) ?_
                  refine lv_ishl hx hb dX5_fillAlive_93 ?_
                  have gz3388 := tt_shl1 (y := a1) (Y := A1) ha1 (by omega) (by omega)
                  refine p_bd (P := fun q => 1 ≤ q ∧ q ≤ 32) ⟨by omega, by omega⟩ (fun z3389 bz3389 => ?_)
                  have bz3389 : 1 ≤ z3389.toInt ∧ z3389.toInt ≤ 32 := bz3389
                  refine lv_ior hx hb dX5_fillAlive_94 ?_
                  refine p_any (fun z3390 => ?_)
                  refine r_iast (j := 38) hx hb hK hH 38 1 (cwc38 C A u3371) rfl (i_ix rfl (by omega) (by omega)) (cwa38 C A u3371) dX5_fillAlive_95 (fun u3391 eu3391 H locs hH => ?_)
                  have hI := hI.pa0 eu3391 (by decide)
                  exact j96_3384 ls u3391 _ _ (Un.sa Un.rf rfl eu3391) hI hH (lv_sub hl [1, 2, 3, 4, 5] rfl)
              · have c3374 := cNLE (x := (gi u3371 15)) (y := y3369d) (X := ((gi u3371 15)).toInt) (Y := y3369d.toInt) rfl rfl c3374
                refine lv_aload_n hx hb dX5_fillAlive_40 rfl (lv_at hl 4 rfl) ?_
                refine lv_iload hx hb dX5_fillAlive_41 (lv_at hl 0 rfl) ?_
                refine lv_iload_n hx hb dX5_fillAlive_43 rfl (lv_at hl 5 rfl) ?_
                refine lv_iload hx hb dX5_fillAlive_44 (lv_at hl 1 rfl) ?_
                refine cvS (n := 3) (As := [.int y3369d, .int a1, .int y3174d]) (rest := []) ⟨hx, hb, hml, hown, hts⟩ uc_in (kX7_kindIf_0 l D C A u3371 hI y3369d y3369d.toInt rfl a1 A1 ha1 y3174d y3174d.toInt rfl (by omega) (by omega)) q_m573 q_n574 q_e575 q_i3 q_c576 hvX7_kindIf ⟨(Nat.le_of_ble_eq_true rfl), (Nat.le_of_ble_eq_true rfl)⟩ ⟨(Nat.le_of_ble_eq_true rfl), (Nat.le_of_ble_eq_true rfl)⟩ hK hH.1 7 2 rfl (cwc2 C A u3371) rfl hl.1 rfl (Nat.le_of_ble_eq_true rfl) dX5_fillAlive_46 (fun r3392 p3393 => ?_)
                refine lv_istore (lv' := [(6, .int r3392), (5, .int y3369d), (4, .int y3174d), (3, .int y3370d), (0, .ref (A 7)), (1, .ref (A 2)), (2, .int a1)]) hx hb dX5_fillAlive_49 hl (by decide) rfl (fun ls hl => ?_)
                refine lv_iload hx hb dX5_fillAlive_51 (lv_at hl 0 rfl) ?_
                refine lv_iconst (v := 3) hx hb dX5_fillAlive_53 (by decide) ?_
                have j72_3399 : ∀ (ls : Array Slot) (y3397d : Int32), 0 ≤ y3397d.toInt → y3397d.toInt ≤ 1 → lv_has ls 7 [(5, .int y3369d), (4, .int y3174d), (0, .ref (A 7)), (1, .ref (A 2)), (2, .int a1)] → W p l e (rmL 2 0 0) s m ar below meth c H locs 0 0 Q (F0 m 72 ls [.int y3397d]) := by
                  intro ls y3397d ly3397d my3397d hl
                  refine lv_istore_n (lv' := [(3, .int y3397d), (5, .int y3369d), (4, .int y3174d), (0, .ref (A 7)), (1, .ref (A 2)), (2, .int a1)]) hx hb dX5_fillAlive_72 rfl hl (by decide) rfl (fun ls hl => ?_)
                  obtain ⟨z3401, ez3401⟩ : ∃ z, z = y3369d + Int32.ofInt 1 := ⟨_, rfl⟩
                  have hz3401 : z3401.toInt = y3369d.toInt + 1 := by rw [ez3401]; exact tt_add rfl (by decide) (by omega) (by omega)
                  refine lv_iinc (v := z3401) (lv' := [(5, .int z3401), (3, .int y3397d), (4, .int y3174d), (0, .ref (A 7)), (1, .ref (A 2)), (2, .int a1)]) hx hb dX5_fillAlive_73 hl (k := 1) rfl ez3401.symm (by decide) rfl (fun ls hl => ?_)
                  refine lv_goto (tgt := 31) hx hb dX5_fillAlive_76 (by decide) ?_
                  exact ih31_3371 ls z3401 y3397d u3371 _ _ (by have q9 := (show z3401.toInt = (y3369d.toInt + 1) from hz3401); omega) (by have q9 := (show z3401.toInt = (y3369d.toInt + 1) from hz3401); omega) (by omega) (by omega) (by have q9 := (show z3401.toInt = (y3369d.toInt + 1) from hz3401); omega) hUu3371 hI hH (lv_sub hl [0, 2, 1, 3, 4, 5] rfl)
                have j67_3402 : ∀ (ls : Array Slot), lv_has ls 7 [(5, .int y3369d), (4, .int y3174d), (0, .ref (A 7)), (1, .ref (A 2)), (2, .int a1)] → W p l e (rmL 2 0 0) s m ar below meth c H locs 0 0 Q (F0 m 67 ls []) := by
                  intro ls hl
                  refine lv_iconst (v := 1) hx hb dX5_fillAlive_67 (by decide) ?_
                  refine lv_goto (tgt := 72) hx hb dX5_fillAlive_68 (by decide) ?_
                  exact j72_3399 ls 1 (by decide) (by decide) hl
                refine lv_icmp_eq (tgt := 67) hx hb dX5_fillAlive_54 (by decide) (fun c3394 => ?_) (fun c3394 => ?_)
                · have c3394 := cEQ (x := r3392) (y := 3) (X := r3392.toInt) (Y := 3) rfl (by decide) c3394
                  exact j67_3402 ls (lv_sub hl [1, 2, 4, 5, 6] rfl)
                · refine lv_iload_n hx hb dX5_fillAlive_57 rfl (lv_at hl 3 rfl) ?_
                  have j71_3406 : ∀ (ls : Array Slot), lv_has ls 7 [(5, .int y3369d), (4, .int y3174d), (0, .ref (A 7)), (1, .ref (A 2)), (2, .int a1)] → W p l e (rmL 2 0 0) s m ar below meth c H locs 0 0 Q (F0 m 71 ls []) := by
                    intro ls hl
                    refine lv_iconst (v := 0) hx hb dX5_fillAlive_71 (by decide) ?_
                    exact j72_3399 ls 0 (by decide) (by decide) hl
                  refine lv_if_eq (tgt := 71) hx hb dX5_fillAlive_58 (by decide) (fun c3404 => ?_) (fun c3404 => ?_)
                  · have c3404 := cEQ (x := y3370d) (y := 0) (X := y3370d.toInt) (Y := 0) rfl (by decide) c3404
                    exact j71_3406 ls (lv_sub hl [1, 2, 4, 5, 6] rfl)
                  · have c3404 := cNE (x := y3370d) (y := 0) (X := y3370d.toInt) (Y := 0) rfl (by decide) c3404
                    refine lv_iload hx hb dX5_fillAlive_61 (lv_at hl 0 rfl) ?_
                    refine lv_iconst (v := 4) hx hb dX5_fillAlive_63 (by decide) ?_
                    refine lv_icmp_eq (tgt := 71) hx hb dX5_fillAlive_64 (by decide) (fun c3408 => ?_) (fun c3408 => ?_)
                    · have c3408 := cEQ (x := r3392) (y := 4) (X := r3392.toInt) (Y := 4) rfl (by decide) c3408
                      exact j71_3406 ls (lv_sub hl [1, 2, 4, 5, 6] rfl)
                    · exact j67_3402 ls (lv_sub hl [1, 2, 4, 5, 6] rfl)
          exact lp31_3371 41 ls 0 y3175d u3176 _ _ (by decide) (by decide) (by omega) (by omega) (by have q9 : (0 : Int32).toInt = 0 := (by decide); omega) Un.rf hI hH hl
    exact lp19_3176 8 ls 0 y3d u _ _ (by decide) (by decide) (by omega) (by omega) (by have q9 : (0 : Int32).toInt = 0 := (by decide); omega) Un.rf hI hH hl
  refine lv_icmp_ne (tgt := 14) hx hb dX5_fillAlive_7 (by decide) (fun c2 => ?_) (fun c2 => ?_)
  · refine lv_iconst (v := 0) hx hb dX5_fillAlive_14 (by decide) ?_
    exact j15_1694 ls 0 (by decide) (by decide) hl
  · have c2 := cEQ (x := z1) (y := 1) (X := z1.toInt) (Y := 1) rfl (by decide) c2
    refine lv_iconst (v := 1) hx hb dX5_fillAlive_10 (by decide) ?_
    refine lv_goto (tgt := 15) hx hb dX5_fillAlive_11 (by decide) ?_
    exact j15_1694 ls 1 (by decide) (by decide) hl
set_option maxHeartbeats 4000000 in
set_option maxRecDepth 100000 in
theorem kX5_settle_0 (l : Launch) (D : va_G) (C : Nat → ClassId) (A : Nat → Nat) (u : St) (hI : IC u) (sz : Nat) : MetV l yX5_settle cX5_settle 3 3 [.ref (A 7), .ref (A 2)] D (tyl C) (cw C A) X0 u sz (fun u' => IC u' ∧ Un [(48, 48), (49, 49)] [(38, 38), (84, 90)] [] u u' ∧ True) := by
  refine mV (by decide) (Nat.le_of_ble_eq_true rfl) ?_
  intro p e s m below meth c ls ar Q hx hb hml hown hts hK hH hX hl hret
  have hown : s.vm.findClass RX5 = some m.cls := hown
  have hl : lv_has ls 3 [(0, .ref (A 7)), (1, .ref (A 2))] := hl
  refine lv_aload_n hx hb dX5_settle_0 rfl (lv_at hl 0 rfl) ?_
  refine lv_aload_n hx hb dX5_settle_1 rfl (lv_at hl 1 rfl) ?_
  refine va_get (ci := 7) (v := .int (gi u 9)) (C := RX7) (T := TX7) (N := 16) hx hb hts (fun w h => uc_in w (inX7 w h)) hown hK hH.1 2 (cwc2 C A u) rfl 1 (by decide) (hts _ (uc_in _ q_f71)) (fun _ h9 => h9) rfl dX5_settle_2 ?_
  have b1 := hI.b9
  refine r_put (j := 48) (ci := 5) (C := RX5) (T := TX5) (N := 4) hx hb hts (fun w h => uc_in w (inX5 w h)) tyX5 tyX5_ok nmX5 hown hK hH 7 (cwc7 C A u) rfl 0 (by decide) (hts _ (uc_in _ q_f161)) (fun _ h9 => h9) rfl (by decide +kernel) (Nat.le_of_ble_eq_true rfl) (cws48 C A u _) dX5_settle_5 (fun u2 eu2 H locs hH => ?_)
  have hI := hI.s48 eu2 rfl (by omega) (by omega)
  refine lv_aload_n hx hb dX5_settle_8 rfl (lv_at hl 0 rfl) ?_
  refine lv_aload_n hx hb dX5_settle_9 rfl (lv_at hl 1 rfl) ?_
  refine va_get (ci := 7) (v := .int (gi u2 12)) (C := RX7) (T := TX7) (N := 16) hx hb hts (fun w h => uc_in w (inX7 w h)) hown hK hH.1 2 (cwc2 C A u2) rfl 4 (by decide) (hts _ (uc_in _ q_f81)) (fun _ h9 => h9) rfl dX5_settle_10 ?_
  have b3 := hI.b12
  refine r_put (j := 49) (ci := 5) (C := RX5) (T := TX5) (N := 4) hx hb hts (fun w h => uc_in w (inX5 w h)) tyX5 tyX5_ok nmX5 hown hK hH 7 (cwc7 C A u2) rfl 1 (by decide) (hts _ (uc_in _ q_f165)) (fun _ h9 => h9) rfl (by decide +kernel) (Nat.le_of_ble_eq_true rfl) (cws49 C A u2 _) dX5_settle_13 (fun u4 eu4 H locs hH => ?_)
  have hI := hI.s49 eu4 rfl (by omega) (by omega)
  refine lv_iconst (v := 0) hx hb dX5_settle_16 (by decide) ?_
  refine lv_istore_n (lv' := [(2, .int 0), (0, .ref (A 7)), (1, .ref (A 2))]) hx hb dX5_settle_17 rfl hl (by decide) rfl (fun ls hl => ?_)
  have lp18_111 : ∀ (n18 : Nat) (ls : Array Slot) (y110d : Int32) (u111 : St) (H : Heap) (locs : List Loc), 0 ≤ y110d.toInt → y110d.toInt ≤ 7 → 7 - y110d.toInt < (n18 : Int) → Un [] [(38, 38), (84, 90)] [] u4 u111 → IC u111 → Hd D (cw C A) (va_A (cw C A u) s.heap.size) s.heap u111 H locs → lv_has ls 3 [(2, .int y110d), (0, .ref (A 7)), (1, .ref (A 2))] → W p l e (rmL 3 0 0) s m ar below meth c H locs 0 0 Q (F0 m 18 ls []) := by
    intro n18
    induction n18 with
    | zero => intro ls y110d u111 H locs ly110d my110d hmun18 hUu111 hI hH hl; exfalso; omega
    | succ n18 ih18_111 =>
      intro ls y110d u111 H locs ly110d my110d hmun18 hUu111 hI hH hl
      refine lv_iload_n hx hb dX5_settle_18 rfl (lv_at hl 0 rfl) ?_
      refine lv_bipush (v := 7) hx hb dX5_settle_19 (by decide) ?_
      refine lv_icmp_ge (tgt := 37) hx hb dX5_settle_21 (by decide) (fun c113 => ?_) (fun c113 => ?_)
      · have c113 := cLE (x := 7) (y := y110d) (X := 7) (Y := y110d.toInt) (by decide) rfl c113
        refine lv_iconst (v := 0) hx hb dX5_settle_37 (by decide) ?_
        refine lv_istore_n (lv' := [(2, .int 0), (0, .ref (A 7)), (1, .ref (A 2))]) hx hb dX5_settle_38 rfl hl (by decide) rfl (fun ls hl => ?_)
        have lp39_175 : ∀ (n39 : Nat) (ls : Array Slot) (y174d : Int32) (u175 : St) (H : Heap) (locs : List Loc), 0 ≤ y174d.toInt → y174d.toInt ≤ 6 → 6 - y174d.toInt < (n39 : Int) → Un [] [(38, 38), (84, 90)] [] u111 u175 → IC u175 → Hd D (cw C A) (va_A (cw C A u) s.heap.size) s.heap u175 H locs → lv_has ls 3 [(2, .int y174d), (0, .ref (A 7)), (1, .ref (A 2))] → W p l e (rmL 3 0 0) s m ar below meth c H locs 0 0 Q (F0 m 39 ls []) := by
          intro n39
          induction n39 with
          | zero => intro ls y174d u175 H locs ly174d my174d hmun39 hUu175 hI hH hl; exfalso; omega
          | succ n39 ih39_175 =>
            intro ls y174d u175 H locs ly174d my174d hmun39 hUu175 hI hH hl
            refine lv_iload_n hx hb dX5_settle_39 rfl (lv_at hl 0 rfl) ?_
            refine lv_aload_n hx hb dX5_settle_40 rfl (lv_at hl 1 rfl) ?_
            refine va_get (ci := 5) (v := .int (gi u175 49)) (C := RX5) (T := TX5) (N := 4) hx hb hts (fun w h => uc_in w (inX5 w h)) hown hK hH.1 7 (cwc7 C A u175) rfl 1 (by decide) (hts _ (uc_in _ q_f165)) (fun _ h9 => h9) rfl dX5_settle_41 ?_
            refine pv_i (v := (gi u2 12)) ((hUu175.1 49 rfl).trans ((hUu111.1 49 rfl).trans (gi_si eu4))) ?_
            refine lv_icmp_ge (tgt := 70) hx hb dX5_settle_44 (by decide) (fun c177 => ?_) (fun c177 => ?_)
            · have c177 := cLE (x := (gi u2 12)) (y := y174d) (X := ((gi u2 12)).toInt) (Y := y174d.toInt) rfl rfl c177
              exact hret _ _ _ _ _ dX5_settle_70 ⟨hI, (Un.tr (Un.tr (Un.si (Un.si Un.rf rfl eu2) rfl eu4) hUu111 rfl rfl rfl) hUu175 rfl rfl rfl), trivial⟩ hH
            · have c177 := cNLE (x := (gi u2 12)) (y := y174d) (X := ((gi u2 12)).toInt) (Y := y174d.toInt) rfl rfl c177
              refine lv_aload_n hx hb dX5_settle_47 rfl (lv_at hl 2 rfl) ?_
              refine lv_iload_n hx hb dX5_settle_48 rfl (lv_at hl 0 rfl) ?_
              refine lv_iconst (v := (-1)) hx hb dX5_settle_49 (by decide) ?_
              refine lv_aload_n hx hb dX5_settle_50 rfl (lv_at hl 1 rfl) ?_
              refine va_get (ci := 5) (v := .ref (A 19)) (C := RX5) (T := TX5) (N := 4) hx hb hts (fun w h => uc_in w (inX5 w h)) hown hK hH.1 7 (cwc7 C A u175) rfl 2 (by decide) (hts _ (uc_in _ q_f168)) (fun _ h9 => h9) rfl dX5_settle_51 ?_
              refine lv_iconst (v := 0) hx hb dX5_settle_54 (by decide) ?_
              refine csU (n := 5) (As := [.ref (A 2), .int y174d, .int (-1), .ref (A 19), .int 0]) (rest := []) ⟨hx, hb, hml, hown, hts⟩ uc_in (kX5_fillLates_0 l D C A u175 hI y174d y174d.toInt rfl (by omega) (by omega) _) q_m567 q_s568 q_i4 q_c569 hvX5_fillLates ⟨(Nat.le_of_ble_eq_true rfl), (Nat.le_of_ble_eq_true rfl)⟩ ⟨(Nat.le_of_ble_eq_true rfl), (Nat.le_of_ble_eq_true rfl)⟩ hK hH (fun q h => Or.inr h) Bl0 (fun _ _ _ => trivial) rfl hl.1 rfl (Nat.le_of_ble_eq_true rfl) dX5_settle_55 (fun u178 H locs p180 hH => ?_)
              obtain ⟨hI, hUu178, p180⟩ := p180
              refine lv_aload_n hx hb dX5_settle_58 rfl (lv_at hl 1 rfl) ?_
              refine lv_aload_n hx hb dX5_settle_59 rfl (lv_at hl 2 rfl) ?_
              refine lv_iload_n hx hb dX5_settle_60 rfl (lv_at hl 0 rfl) ?_
              refine cvU (n := 2) (As := [.ref (A 2), .int y174d]) (rest := []) ⟨hx, hb, hml, hown, hts⟩ uc_in (kX5_fillAlive_0 l D C A u178 hI y174d y174d.toInt rfl (by omega) (by omega) _) q_m577 q_n579 q_p10 q_i4 q_c580 hvX5_fillAlive ⟨(Nat.le_of_ble_eq_true rfl), (Nat.le_of_ble_eq_true rfl)⟩ ⟨(Nat.le_of_ble_eq_true rfl), (Nat.le_of_ble_eq_true rfl)⟩ hK hH (fun q h => Or.inr h) Bl0 (fun _ _ _ => trivial) 5 7 rfl (cwc7 C A u178) rfl hl.1 rfl (Nat.le_of_ble_eq_true rfl) dX5_settle_61 (fun u181 H locs p183 hH => ?_)
              obtain ⟨hI, hUu181, p183⟩ := p183
              obtain ⟨z184, ez184⟩ : ∃ z, z = y174d + Int32.ofInt 1 := ⟨_, rfl⟩
              have hz184 : z184.toInt = y174d.toInt + 1 := by rw [ez184]; exact tt_add rfl (by decide) (by omega) (by omega)
              refine lv_iinc (v := z184) (lv' := [(2, .int z184), (0, .ref (A 7)), (1, .ref (A 2))]) hx hb dX5_settle_64 hl (k := 0) rfl ez184.symm (by decide) rfl (fun ls hl => ?_)
              refine lv_goto (tgt := 39) hx hb dX5_settle_67 (by decide) ?_
              exact ih39_175 ls z184 u181 _ _ (by have q9 := (show z184.toInt = (y174d.toInt + 1) from hz184); omega) (by have q9 := (show z184.toInt = (y174d.toInt + 1) from hz184); omega) (by have q9 := (show z184.toInt = (y174d.toInt + 1) from hz184); omega) (Un.tr (Un.tr hUu175 hUu178 rfl rfl rfl) hUu181 rfl rfl rfl) hI hH hl
        exact lp39_175 7 ls 0 u111 _ _ (by decide) (by decide) (by have q9 : (0 : Int32).toInt = 0 := (by decide); omega) Un.rf hI hH hl
      · have c113 := cNLE (x := 7) (y := y110d) (X := 7) (Y := y110d.toInt) (by decide) rfl c113
        refine lv_aload_n hx hb dX5_settle_24 rfl (lv_at hl 1 rfl) ?_
        refine va_get (ci := 5) (v := .ref (A 38)) (C := RX5) (T := TX5) (N := 4) hx hb hts (fun w h => uc_in w (inX5 w h)) hown hK hH.1 7 (cwc7 C A u111) rfl 3 (by decide) (hts _ (uc_in _ q_f172)) (fun _ h9 => h9) rfl dX5_settle_25 ?_
        refine lv_iload_n hx hb dX5_settle_28 rfl (lv_at hl 0 rfl) ?_
        refine lv_iconst (v := 0) hx hb dX5_settle_29 (by decide) ?_
        refine r_iast (j := 38) hx hb hK hH 38 1 (cwc38 C A u111) rfl (i_ix rfl (by omega) (by omega)) (cwa38 C A u111) dX5_settle_30 (fun u185 eu185 H locs hH => ?_)
        have hI := hI.pa0 eu185 (by decide)
        obtain ⟨z186, ez186⟩ : ∃ z, z = y110d + Int32.ofInt 1 := ⟨_, rfl⟩
        have hz186 : z186.toInt = y110d.toInt + 1 := by rw [ez186]; exact tt_add rfl (by decide) (by omega) (by omega)
        refine lv_iinc (v := z186) (lv' := [(2, .int z186), (0, .ref (A 7)), (1, .ref (A 2))]) hx hb dX5_settle_31 hl (k := 0) rfl ez186.symm (by decide) rfl (fun ls hl => ?_)
        refine lv_goto (tgt := 18) hx hb dX5_settle_34 (by decide) ?_
        exact ih18_111 ls z186 u185 _ _ (by have q9 := (show z186.toInt = (y110d.toInt + 1) from hz186); omega) (by have q9 := (show z186.toInt = (y110d.toInt + 1) from hz186); omega) (by have q9 := (show z186.toInt = (y110d.toInt + 1) from hz186); omega) (Un.sa hUu111 rfl eu185) hI hH hl
  exact lp18_111 8 ls 0 u4 _ _ (by decide) (by decide) (by have q9 : (0 : Int32).toInt = 0 := (by decide); omega) Un.rf hI hH hl
set_option maxHeartbeats 4000000 in
set_option maxRecDepth 100000 in
theorem kX9_anew_0 (l : Launch) (D : va_G) (C : Nat → ClassId) (A : Nat → Nat) (u : St) (hI : IC u) (sz : Nat) : MetI l yX9_anew cX9_anew 2 (some .int) 4 [.ref (A 0)] D (tyl C) (cw C A) X0 u sz (fun r u' => IC u' ∧ Un [(15, 15), (48, 48), (49, 49)] [(38, 38), (84, 90)] [] u u' ∧ ((-2) ≤ r.toInt ∧ r.toInt ≤ 40)) := by
  refine mI (by decide) (Nat.le_of_ble_eq_true rfl) ?_
  intro p e s m below meth c ls ar Q hx hb hml hown hts hK hH hX hl hret
  have hown : s.vm.findClass RX9 = some m.cls := hown
  have hl : lv_has ls 2 [(0, .ref (A 0))] := hl
  refine lv_aload_n hx hb dX9_anew_0 rfl (lv_at hl 0 rfl) ?_
  refine cvS (n := 0) (As := []) (rest := []) ⟨hx, hb, hml, hown, hts⟩ uc_in (kX9_hasTown_0 l D C A u hI ) q_m678 q_n680 q_p18 q_i1 q_c681 hvX9_hasTown ⟨(Nat.le_of_ble_eq_true rfl), (Nat.le_of_ble_eq_true rfl)⟩ ⟨(Nat.le_of_ble_eq_true rfl), (Nat.le_of_ble_eq_true rfl)⟩ hK hH.1 9 0 rfl (cwc0 C A u) rfl hl.1 rfl (Nat.le_of_ble_eq_true rfl) dX9_anew_1 (fun r1 p2 => ?_)
  have p2 : 0 ≤ r1.toInt ∧ r1.toInt ≤ 1 := p2
  refine lv_if_ne (tgt := 10) hx hb dX9_anew_4 (by decide) (fun c3 => ?_) (fun c3 => ?_)
  · have c3 := cNE (x := r1) (y := 0) (X := r1.toInt) (Y := 0) rfl (by decide) c3
    refine lv_aload_n hx hb dX9_anew_10 rfl (lv_at hl 0 rfl) ?_
    refine va_get (ci := 9) (v := .ref (A 2)) (C := RX9) (T := TX9) (N := 12) hx hb hts (fun w h => uc_in w (inX9 w h)) hown hK hH.1 0 (cwc0 C A u) rfl 1 (by decide) (hts _ (uc_in _ q_f384)) (fun _ h9 => h9) rfl dX9_anew_11 ?_
    refine va_get (ci := 7) (v := .int (gi u 15)) (C := RX7) (T := TX7) (N := 16) hx hb hts (fun w h => uc_in w (inX7 w h)) hown hK hH.1 2 (cwc2 C A u) rfl 7 (by decide) (hts _ (uc_in _ q_f94)) (fun _ h9 => h9) rfl dX9_anew_14 ?_
    have b4 := hI.b15
    refine lv_istore_n (lv' := [(1, .int (gi u 15)), (0, .ref (A 0))]) hx hb dX9_anew_17 rfl hl (by decide) rfl (fun ls hl => ?_)
    refine lv_aload_n hx hb dX9_anew_18 rfl (lv_at hl 1 rfl) ?_
    refine va_get (ci := 9) (v := .ref (A 2)) (C := RX9) (T := TX9) (N := 12) hx hb hts (fun w h => uc_in w (inX9 w h)) hown hK hH.1 0 (cwc0 C A u) rfl 1 (by decide) (hts _ (uc_in _ q_f384)) (fun _ h9 => h9) rfl dX9_anew_19 ?_
    refine lv_iconst (v := 0) hx hb dX9_anew_22 (by decide) ?_
    refine r_put (j := 15) (ci := 7) (C := RX7) (T := TX7) (N := 16) hx hb hts (fun w h => uc_in w (inX7 w h)) tyX7 tyX7_ok nmX7 hown hK hH 2 (cwc2 C A u) rfl 7 (by decide) (hts _ (uc_in _ q_f94)) (fun _ h9 => h9) rfl (by decide +kernel) (Nat.le_of_ble_eq_true rfl) (cws15 C A u _) dX9_anew_23 (fun u5 eu5 H locs hH => ?_)
    have hI := hI.s15 eu5 (X := 0) (by decide) (by decide) (by decide)
    refine lv_aload_n hx hb dX9_anew_26 rfl (lv_at hl 1 rfl) ?_
    refine va_get (ci := 9) (v := .ref (A 7)) (C := RX9) (T := TX9) (N := 12) hx hb hts (fun w h => uc_in w (inX9 w h)) hown hK hH.1 0 (cwc0 C A u5) rfl 5 (by decide) (hts _ (uc_in _ q_f388)) (fun _ h9 => h9) rfl dX9_anew_27 ?_
    refine lv_aload_n hx hb dX9_anew_30 rfl (lv_at hl 1 rfl) ?_
    refine va_get (ci := 9) (v := .ref (A 2)) (C := RX9) (T := TX9) (N := 12) hx hb hts (fun w h => uc_in w (inX9 w h)) hown hK hH.1 0 (cwc0 C A u5) rfl 1 (by decide) (hts _ (uc_in _ q_f384)) (fun _ h9 => h9) rfl dX9_anew_31 ?_
    refine cvU (n := 1) (As := [.ref (A 2)]) (rest := []) ⟨hx, hb, hml, hown, hts⟩ uc_in (kX5_settle_0 l D C A u5 hI  _) q_m563 q_n564 q_e565 q_i4 q_c566 hvX5_settle ⟨(Nat.le_of_ble_eq_true rfl), (Nat.le_of_ble_eq_true rfl)⟩ ⟨(Nat.le_of_ble_eq_true rfl), (Nat.le_of_ble_eq_true rfl)⟩ hK hH (fun q h => Or.inr h) Bl0 (fun _ _ _ => trivial) 5 7 rfl (cwc7 C A u5) rfl hl.1 rfl (Nat.le_of_ble_eq_true rfl) dX9_anew_34 (fun u6 H locs p8 hH => ?_)
    obtain ⟨hI, hUu6, p8⟩ := p8
    refine lv_iload_n hx hb dX9_anew_37 rfl (lv_at hl 0 rfl) ?_
    exact hret _ _ _ _ (gi u 15) _ dX9_anew_38 rfl ⟨hI, (Un.tr (Un.si Un.rf rfl eu5) hUu6 rfl rfl rfl), ⟨by omega, by omega⟩⟩ hH
  · have c3 := cEQ (x := r1) (y := 0) (X := r1.toInt) (Y := 0) rfl (by decide) c3
    refine lv_bipush (v := (-2)) hx hb dX9_anew_7 (by decide) ?_
    exact hret _ _ _ _ ((-2) : Int32) _ dX9_anew_9 rfl ⟨hI, Un.rf, ⟨by decide, by decide⟩⟩ hH
set_option maxHeartbeats 4000000 in
set_option maxRecDepth 100000 in
theorem kX9_isSlot_0 (l : Launch) (D : va_G) (C : Nat → ClassId) (A : Nat → Nat) (u : St) (hI : IC u) (a0 : Int32) (A0 : Int) (ha0 : a0.toInt = A0) : Met l yX9_isSlot (uc yX9_isSlot cX9_isSlot 1 (some .boolean)) (rmL 2 0 0) (va_Pc [.int a0] (PreR D (tyl C) (cw C A u))) (vp_Si (fun r => (r = 1 ∧ 0 ≤ A0 ∧ A0 ≤ 3) ∨ (r = 0 ∧ ¬ (0 ≤ A0 ∧ A0 ≤ 3)))) 0 0 (fun _ => False) := by
  refine mS (by decide) (Nat.le_of_ble_eq_true rfl) ?_
  intro p e s m below meth c ls ar Q hx hb hml hown hts hK hP hl hret
  have hown : s.vm.findClass RX9 = some m.cls := hown
  have hl : lv_has ls 1 [(0, .int a0)] := hl
  refine lv_iload_n hx hb dX9_isSlot_0 rfl (lv_at hl 0 rfl) ?_
  refine lv_iconst (v := 0) hx hb dX9_isSlot_1 (by decide) ?_
  refine lv_iconst (v := 3) hx hb dX9_isSlot_2 (by decide) ?_
  refine csS (n := 3) (As := [.int a0, .int 0, .int 3]) (rest := []) ⟨hx, hb, hml, hown, hts⟩ uc_in (kX9_isWithin_0 l D C A u hI a0 A0 ha0 (0) 0 (by decide) (3) 3 (by decide)) q_m651 q_s652 q_i1 q_c653 hvX9_isWithin ⟨(Nat.le_of_ble_eq_true rfl), (Nat.le_of_ble_eq_true rfl)⟩ ⟨(Nat.le_of_ble_eq_true rfl), (Nat.le_of_ble_eq_true rfl)⟩ hK hP rfl hl.1 rfl (Nat.le_of_ble_eq_true rfl) dX9_isSlot_3 (fun r1 p2 => ?_)
  rcases p2 with ⟨e9, f3, f4⟩ | ⟨e9, fn5⟩
  · subst e9
    exact hret _ _ (1 : Int32) dX9_isSlot_6 rfl (Or.inl ⟨rfl, by omega, by omega⟩)
  · subst e9
    exact hret _ _ (0 : Int32) dX9_isSlot_6 rfl (Or.inr ⟨rfl, by omega⟩)
set_option maxHeartbeats 4000000 in
set_option maxRecDepth 100000 in
theorem kX3_isThere_0 (l : Launch) (D : va_G) (C : Nat → ClassId) (A : Nat → Nat) (u : St) (hI : IC u) : Met l yX3_isThere (uc yX3_isThere cX3_isThere 1 (some .boolean)) (rmL 1 0 0) (va_Pc [.ref (A 8)] (PreR D (tyl C) (cw C A u))) (vp_Si (fun r => (r = 1 ∧ 0 ≤ (gi u 50).toInt) ∨ (r = 0 ∧ ¬ (0 ≤ (gi u 50).toInt)))) 0 0 (fun _ => False) := by
  refine mS (by decide) (Nat.le_of_ble_eq_true rfl) ?_
  intro p e s m below meth c ls ar Q hx hb hml hown hts hK hP hl hret
  have hown : s.vm.findClass RX3 = some m.cls := hown
  have hl : lv_has ls 1 [(0, .ref (A 8))] := hl
  refine lv_aload_n hx hb dX3_isThere_0 rfl (lv_at hl 0 rfl) ?_
  refine va_get (ci := 3) (v := .int (gi u 50)) (C := RX3) (T := TX3) (N := 3) hx hb hts (fun w h => uc_in w (inX3 w h)) hown hK hP 8 (cwc8 C A u) rfl 0 (by decide) (hts _ (uc_in _ q_f192)) (fun _ h9 => h9) rfl dX3_isThere_1 ?_
  have b1 := hI.b50
  refine lv_if_lt (tgt := 11) hx hb dX3_isThere_4 (by decide) (fun c2 => ?_) (fun c2 => ?_)
  · have c2 := cLT (x := (gi u 50)) (y := 0) (X := ((gi u 50)).toInt) (Y := 0) rfl (by decide) c2
    refine lv_iconst (v := 0) hx hb dX3_isThere_11 (by decide) ?_
    exact hret _ _ (0 : Int32) dX3_isThere_12 rfl (Or.inr ⟨rfl, by omega⟩)
  · have c2 := cNLT (x := (gi u 50)) (y := 0) (X := ((gi u 50)).toInt) (Y := 0) rfl (by decide) c2
    refine lv_iconst (v := 1) hx hb dX3_isThere_7 (by decide) ?_
    refine lv_goto (tgt := 12) hx hb dX3_isThere_8 (by decide) ?_
    exact hret _ _ (1 : Int32) dX3_isThere_12 rfl (Or.inl ⟨rfl, by omega⟩)
set_option maxHeartbeats 4000000 in
set_option maxRecDepth 100000 in
theorem kX8_listen_0 (l : Launch) (D : va_G) (C : Nat → ClassId) (A : Nat → Nat) (u : St) (hI : IC u) (a1 : Int32) (A1 : Int) (ha1 : a1.toInt = A1) (hl1 : 0 ≤ A1) (hm1 : A1 ≤ 7) (sz : Nat) : MetI l yX8_listen cX8_listen 8 (some .boolean) 1 [.ref (A 15), .ref (A 8), .int a1] D (tyl C) (cw C A) X0 u sz (fun r u' => IC u' ∧ Un [(76, 76)] [(50, 50), (51, 51)] [] u u' ∧ (0 ≤ r.toInt ∧ r.toInt ≤ 1)) := by
  refine mI (by decide) (Nat.le_of_ble_eq_true rfl) ?_
  intro p e s m below meth c ls ar Q hx hb hml hown hts hK hH hX hl hret
  have hown : s.vm.findClass RX8 = some m.cls := hown
  have hl : lv_has ls 8 [(0, .ref (A 15)), (1, .ref (A 8)), (2, .int a1)] := hl
  refine lv_aload_n hx hb dX8_listen_0 rfl (lv_at hl 0 rfl) ?_
  refine lv_iconst (v := 0) hx hb dX8_listen_1 (by decide) ?_
  refine r_put (j := 76) (ci := 8) (C := RX8) (T := TX8) (N := 9) hx hb hts (fun w h => uc_in w (inX8 w h)) tyX8 tyX8_ok nmX8 hown hK hH 15 (cwc15 C A u) rfl 5 (by decide) (hts _ (uc_in _ q_f338)) (fun _ h9 => h9) rfl (by decide +kernel) (Nat.le_of_ble_eq_true rfl) (cws76 C A u _) dX8_listen_2 (fun u1 eu1 H locs hH => ?_)
  have hI := hI.s76 eu1 (X := 0) (by decide) (by decide) (by decide)
  refine lv_aload_n hx hb dX8_listen_5 rfl (lv_at hl 1 rfl) ?_
  refine va_get (ci := 3) (v := .int (gi u1 50)) (C := RX3) (T := TX3) (N := 3) hx hb hts (fun w h => uc_in w (inX3 w h)) hown hK hH.1 8 (cwc8 C A u1) rfl 0 (by decide) (hts _ (uc_in _ q_f193)) (fun _ h9 => h9) rfl dX8_listen_6 ?_
  have b2 := hI.b50
  refine lv_iconst (v := 2) hx hb dX8_listen_9 (by decide) ?_
  refine lv_irem hx hb dX8_listen_10 (by decide) ?_
  refine p_any (fun z3 => ?_)
  refine lv_if_eq (tgt := 16) hx hb dX8_listen_11 (by decide) (fun c4 => ?_) (fun c4 => ?_)
  · have c4 := cEQ (x := z3) (y := 0) (X := z3.toInt) (Y := 0) rfl (by decide) c4
    refine lv_iconst (v := 0) hx hb dX8_listen_16 (by decide) ?_
    refine lv_istore_n (lv' := [(3, .int 0), (0, .ref (A 15)), (1, .ref (A 8)), (2, .int a1)]) hx hb dX8_listen_17 rfl hl (by decide) rfl (fun ls hl => ?_)
    have lp18_263 : ∀ (n18 : Nat) (ls : Array Slot) (y262d : Int32) (u263 : St) (H : Heap) (locs : List Loc), 0 ≤ y262d.toInt → y262d.toInt ≤ 60 → y262d.toInt = 2 * (gi u263 76).toInt → 60 - y262d.toInt < (n18 : Int) → Un [(76, 76)] [(50, 50), (51, 51)] [] u1 u263 → IC u263 → Hd D (cw C A) (va_A (cw C A u) s.heap.size) s.heap u263 H locs → lv_has ls 8 [(3, .int y262d), (0, .ref (A 15)), (1, .ref (A 8)), (2, .int a1)] → W p l e (rmL 1 0 0) s m ar below meth c H locs 0 0 Q (F0 m 18 ls []) := by
      intro n18
      induction n18 with
      | zero => intro ls y262d u263 H locs ly262d my262d x18_0 hmun18 hUu263 hI hH hl; exfalso; omega
      | succ n18 ih18_263 =>
        intro ls y262d u263 H locs ly262d my262d x18_0 hmun18 hUu263 hI hH hl
        refine lv_iload_n hx hb dX8_listen_18 rfl (lv_at hl 0 rfl) ?_
        refine lv_iconst (v := 1) hx hb dX8_listen_19 (by decide) ?_
        refine lv_iadd hx hb dX8_listen_20 ?_
        refine p_nm (tt_add (X := y262d.toInt) (Y := 1) rfl (by decide) (by omega) (by omega)) (fun z265 hz265 => ?_)
        refine lv_aload_n hx hb dX8_listen_21 rfl (lv_at hl 2 rfl) ?_
        refine va_get (ci := 3) (v := .int (gi u263 50)) (C := RX3) (T := TX3) (N := 3) hx hb hts (fun w h => uc_in w (inX3 w h)) hown hK hH.1 8 (cwc8 C A u263) rfl 0 (by decide) (hts _ (uc_in _ q_f193)) (fun _ h9 => h9) rfl dX8_listen_22 ?_
        refine pv_i (v := (gi u1 50)) ((hUu263.1 50 rfl).trans rfl) ?_
        refine lv_icmp_ge (tgt := 121) hx hb dX8_listen_25 (by decide) (fun c266 => ?_) (fun c266 => ?_)
        · have c266 := cLE (x := (gi u1 50)) (y := z265) (X := ((gi u1 50)).toInt) (Y := (y262d.toInt + 1)) rfl hz265 c266
          refine lv_iconst (v := 1) hx hb dX8_listen_121 (by decide) ?_
          exact hret _ _ _ _ (1 : Int32) _ dX8_listen_122 rfl ⟨hI, (Un.tr (Un.si Un.rf rfl eu1) hUu263 rfl rfl rfl), ⟨by decide, by decide⟩⟩ hH
        · have c266 := cNLE (x := (gi u1 50)) (y := z265) (X := ((gi u1 50)).toInt) (Y := (y262d.toInt + 1)) rfl hz265 c266
          refine lv_aload_n hx hb dX8_listen_28 rfl (lv_at hl 2 rfl) ?_
          refine va_get (ci := 3) (v := .ref (A 39)) (C := RX3) (T := TX3) (N := 3) hx hb hts (fun w h => uc_in w (inX3 w h)) hown hK hH.1 8 (cwc8 C A u263) rfl 2 (by decide) (hts _ (uc_in _ q_f199)) (fun _ h9 => h9) rfl dX8_listen_29 ?_
          refine lv_iload_n hx hb dX8_listen_32 rfl (lv_at hl 0 rfl) ?_
          refine va_lald hx hb hK hH.1 39 2 (cwc39 C A u263) rfl (i_ix rfl (by omega) (by omega)) dX8_listen_33 ?_
          refine p_anyl (fun z267 => ?_)
          refine lv_lstore (lv' := [(4, .long z267), (3, .int y262d), (0, .ref (A 15)), (1, .ref (A 8)), (2, .int a1)]) hx hb dX8_listen_34 hl (by decide) rfl (fun ls hl => ?_)
          refine lv_aload_n hx hb dX8_listen_36 rfl (lv_at hl 3 rfl) ?_
          refine va_get (ci := 3) (v := .ref (A 39)) (C := RX3) (T := TX3) (N := 3) hx hb hts (fun w h => uc_in w (inX3 w h)) hown hK hH.1 8 (cwc8 C A u263) rfl 2 (by decide) (hts _ (uc_in _ q_f199)) (fun _ h9 => h9) rfl dX8_listen_37 ?_
          refine lv_iload_n hx hb dX8_listen_40 rfl (lv_at hl 1 rfl) ?_
          refine lv_iconst (v := 1) hx hb dX8_listen_41 (by decide) ?_
          refine lv_iadd hx hb dX8_listen_42 ?_
          refine p_nm (tt_add (X := y262d.toInt) (Y := 1) rfl (by decide) (by omega) (by omega)) (fun z268 hz268 => ?_)
          refine va_lald hx hb hK hH.1 39 2 (cwc39 C A u263) rfl (i_ix hz268 (by omega) (by omega)) dX8_listen_43 ?_
          refine p_anyl (fun z269 => ?_)
          refine lv_lstore (lv' := [(6, .long z269), (4, .long z267), (3, .int y262d), (0, .ref (A 15)), (1, .ref (A 8)), (2, .int a1)]) hx hb dX8_listen_44 hl (by decide) rfl (fun ls hl => ?_)
          refine lv_lload hx hb dX8_listen_46 (lv_at hl 1 rfl) ?_
          refine lv_lconst (v := 0) hx hb dX8_listen_48 (by decide) ?_
          refine W.lcmp hx hb dX8_listen_49 ?_
          refine lv_if_lt (tgt := 79) hx hb dX8_listen_50 (by decide) (fun c270 => ?_) (fun c270 => ?_)
          · have c270 := dLT (X := z267.toInt) (Y := 0) rfl (by decide) c270
            refine lv_iconst (v := 0) hx hb dX8_listen_79 (by decide) ?_
            exact hret _ _ _ _ (0 : Int32) _ dX8_listen_80 rfl ⟨hI, (Un.tr (Un.si Un.rf rfl eu1) hUu263 rfl rfl rfl), ⟨by decide, by decide⟩⟩ hH
          · have c270 := dNLT (X := z267.toInt) (Y := 0) rfl (by decide) c270
            refine lv_lload hx hb dX8_listen_53 (lv_at hl 1 rfl) ?_
            refine lv_iload_n hx hb dX8_listen_55 rfl (lv_at hl 5 rfl) ?_
            refine lv_i2l (v := a1.toInt64) hx hb dX8_listen_56 rfl ?_
            refine W.lcmp hx hb dX8_listen_57 ?_
            refine lv_if_ge (tgt := 79) hx hb dX8_listen_58 (by decide) (fun c271 => ?_) (fun c271 => ?_)
            · have c271 := dGE (X := z267.toInt) (Y := A1) rfl (tt_i2l ha1) c271
              refine lv_iconst (v := 0) hx hb dX8_listen_79 (by decide) ?_
              exact hret _ _ _ _ (0 : Int32) _ dX8_listen_80 rfl ⟨hI, (Un.tr (Un.si Un.rf rfl eu1) hUu263 rfl rfl rfl), ⟨by decide, by decide⟩⟩ hH
            · have c271 := dNGE (X := z267.toInt) (Y := A1) rfl (tt_i2l ha1) c271
              refine lv_lload hx hb dX8_listen_61 (lv_at hl 0 rfl) ?_
              refine lv_ldc2 (v := (-1000)) hx hb hown (hts _ (uc_in _ q_k999)) dX8_listen_63 ?_
              refine W.lcmp hx hb dX8_listen_66 ?_
              refine lv_if_lt (tgt := 79) hx hb dX8_listen_67 (by decide) (fun c272 => ?_) (fun c272 => ?_)
              · have c272 := dLT (X := z269.toInt) (Y := (-1000)) rfl (by decide) c272
                refine lv_iconst (v := 0) hx hb dX8_listen_79 (by decide) ?_
                exact hret _ _ _ _ (0 : Int32) _ dX8_listen_80 rfl ⟨hI, (Un.tr (Un.si Un.rf rfl eu1) hUu263 rfl rfl rfl), ⟨by decide, by decide⟩⟩ hH
              · have c272 := dNLT (X := z269.toInt) (Y := (-1000)) rfl (by decide) c272
                refine lv_lload hx hb dX8_listen_70 (lv_at hl 0 rfl) ?_
                refine lv_ldc2 (v := 1000) hx hb hown (hts _ (uc_in _ q_k1000)) dX8_listen_72 ?_
                refine W.lcmp hx hb dX8_listen_75 ?_
                refine lv_if_le (tgt := 81) hx hb dX8_listen_76 (by decide) (fun c273 => ?_) (fun c273 => ?_)
                · have c273 := dLE (X := z269.toInt) (Y := 1000) rfl (by decide) c273
                  refine lv_aload_n hx hb dX8_listen_81 rfl (lv_at hl 3 rfl) ?_
                  refine va_get (ci := 8) (v := .ref (A 50)) (C := RX8) (T := TX8) (N := 9) hx hb hts (fun w h => uc_in w (inX8 w h)) hown hK hH.1 15 (cwc15 C A u263) rfl 6 (by decide) (hts _ (uc_in _ q_f339)) (fun _ h9 => h9) rfl dX8_listen_82 ?_
                  refine lv_aload_n hx hb dX8_listen_85 rfl (lv_at hl 3 rfl) ?_
                  refine va_get (ci := 8) (v := .int (gi u263 76)) (C := RX8) (T := TX8) (N := 9) hx hb hts (fun w h => uc_in w (inX8 w h)) hown hK hH.1 15 (cwc15 C A u263) rfl 5 (by decide) (hts _ (uc_in _ q_f338)) (fun _ h9 => h9) rfl dX8_listen_86 ?_
                  have b274 := hI.b76
                  refine lv_lload hx hb dX8_listen_89 (lv_at hl 1 rfl) ?_
                  refine lv_l2i hx hb dX8_listen_91 rfl ?_
                  refine p_nm (tt_l2i rfl (by omega) (by omega)) (fun z275 hz275 => ?_)
                  refine r_iast (j := 50) hx hb hK hH 50 1 (cwc50 C A u263) rfl (i_ix rfl (by omega) (by omega)) (cwa50 C A u263) dX8_listen_92 (fun u276 eu276 H locs hH => ?_)
                  have hI := hI.pa50 eu276 hz275 (by omega) (by omega)
                  refine lv_aload_n hx hb dX8_listen_93 rfl (lv_at hl 3 rfl) ?_
                  refine va_get (ci := 8) (v := .ref (A 51)) (C := RX8) (T := TX8) (N := 9) hx hb hts (fun w h => uc_in w (inX8 w h)) hown hK hH.1 15 (cwc15 C A u276) rfl 7 (by decide) (hts _ (uc_in _ q_f340)) (fun _ h9 => h9) rfl dX8_listen_94 ?_
                  refine lv_aload_n hx hb dX8_listen_97 rfl (lv_at hl 3 rfl) ?_
                  refine va_get (ci := 8) (v := .int (gi u276 76)) (C := RX8) (T := TX8) (N := 9) hx hb hts (fun w h => uc_in w (inX8 w h)) hown hK hH.1 15 (cwc15 C A u276) rfl 5 (by decide) (hts _ (uc_in _ q_f338)) (fun _ h9 => h9) rfl dX8_listen_98 ?_
                  refine pv_i (v := (gi u263 76)) ((gi_sa eu276).trans rfl) ?_
                  refine lv_lload hx hb dX8_listen_101 (lv_at hl 0 rfl) ?_
                  refine lv_l2i hx hb dX8_listen_103 rfl ?_
                  refine p_nm (tt_l2i rfl (by omega) (by omega)) (fun z277 hz277 => ?_)
                  refine r_iast (j := 51) hx hb hK hH 51 1 (cwc51 C A u276) rfl (i_ix rfl (by omega) (by omega)) (cwa51 C A u276) dX8_listen_104 (fun u278 eu278 H locs hH => ?_)
                  have hI := hI.pa0 eu278 (by decide)
                  refine lv_aload_n hx hb dX8_listen_105 rfl (lv_at hl 3 rfl) ?_
                  refine lv_dup hx hb dX8_listen_106 rfl ?_
                  refine va_get (ci := 8) (v := .int (gi u278 76)) (C := RX8) (T := TX8) (N := 9) hx hb hts (fun w h => uc_in w (inX8 w h)) hown hK hH.1 15 (cwc15 C A u278) rfl 5 (by decide) (hts _ (uc_in _ q_f338)) (fun _ h9 => h9) rfl dX8_listen_107 ?_
                  refine pv_i (v := (gi u263 76)) ((gi_sa eu278).trans ((gi_sa eu276).trans rfl)) ?_
                  refine lv_iconst (v := 1) hx hb dX8_listen_110 (by decide) ?_
                  refine lv_iadd hx hb dX8_listen_111 ?_
                  refine p_nm (tt_add (X := ((gi u263 76)).toInt) (Y := 1) rfl (by decide) (by omega) (by omega)) (fun z279 hz279 => ?_)
                  refine r_put (j := 76) (ci := 8) (C := RX8) (T := TX8) (N := 9) hx hb hts (fun w h => uc_in w (inX8 w h)) tyX8 tyX8_ok nmX8 hown hK hH 15 (cwc15 C A u278) rfl 5 (by decide) (hts _ (uc_in _ q_f338)) (fun _ h9 => h9) rfl (by decide +kernel) (Nat.le_of_ble_eq_true rfl) (cws76 C A u278 _) dX8_listen_112 (fun u280 eu280 H locs hH => ?_)
                  have hI := hI.s76 eu280 hz279 (by omega) (by omega)
                  obtain ⟨z281, ez281⟩ : ∃ z, z = y262d + Int32.ofInt 2 := ⟨_, rfl⟩
                  have hz281 : z281.toInt = y262d.toInt + 2 := by rw [ez281]; exact tt_add rfl (by decide) (by omega) (by omega)
                  refine lv_iinc (v := z281) (lv' := [(3, .int z281), (6, .long z269), (4, .long z267), (0, .ref (A 15)), (1, .ref (A 8)), (2, .int a1)]) hx hb dX8_listen_115 hl (k := 2) rfl ez281.symm (by decide) rfl (fun ls hl => ?_)
                  refine lv_goto (tgt := 18) hx hb dX8_listen_118 (by decide) ?_
                  exact ih18_263 ls z281 u280 _ _ (by have q9 := (show z281.toInt = (y262d.toInt + 2) from hz281); omega) (by have q9 := (show z281.toInt = (y262d.toInt + 2) from hz281); omega) (by have q76 := (show (gi u280 76).toInt = (((gi u263 76)).toInt + 1) from (congrArg Int32.toInt (show gi u280 76 = z279 from (gi_si eu280))).trans hz279); have r3 := (show (z281 : Int32).toInt = (y262d.toInt + 2) from hz281); omega) (by have q9 := (show z281.toInt = (y262d.toInt + 2) from hz281); omega) (Un.si (Un.sa (Un.sa hUu263 rfl eu276) rfl eu278) rfl eu280) hI hH (lv_sub hl [0, 3, 4, 5] rfl)
                · have c273 := dNLE (X := z269.toInt) (Y := 1000) rfl (by decide) c273
                  refine lv_iconst (v := 0) hx hb dX8_listen_79 (by decide) ?_
                  exact hret _ _ _ _ (0 : Int32) _ dX8_listen_80 rfl ⟨hI, (Un.tr (Un.si Un.rf rfl eu1) hUu263 rfl rfl rfl), ⟨by decide, by decide⟩⟩ hH
    exact lp18_263 61 ls 0 u1 _ _ (by decide) (by decide) (by have q76 := (show (gi u1 76).toInt = 0 from (congrArg Int32.toInt (show gi u1 76 = 0 from (gi_si eu1))).trans (by decide)); have r3 := (show (0 : Int32).toInt = 0 from (by decide)); omega) (by have q9 : (0 : Int32).toInt = 0 := (by decide); omega) Un.rf hI hH hl
  · refine lv_iconst (v := 0) hx hb dX8_listen_14 (by decide) ?_
    exact hret _ _ _ _ (0 : Int32) _ dX8_listen_15 rfl ⟨hI, (Un.si Un.rf rfl eu1), ⟨by decide, by decide⟩⟩ hH
set_option maxHeartbeats 4000000 in
set_option maxRecDepth 100000 in
theorem kX3_isThere_1 (l : Launch) (D : va_G) (C : Nat → ClassId) (A : Nat → Nat) (u : St) (hI : IC u) : Met l yX3_isThere (uc yX3_isThere cX3_isThere 1 (some .boolean)) (rmL 1 0 0) (va_Pc [.ref (A 9)] (PreR D (tyl C) (cw C A u))) (vp_Si (fun r => (r = 1 ∧ 0 ≤ (gi u 52).toInt) ∨ (r = 0 ∧ ¬ (0 ≤ (gi u 52).toInt)))) 0 0 (fun _ => False) := by
  refine mS (by decide) (Nat.le_of_ble_eq_true rfl) ?_
  intro p e s m below meth c ls ar Q hx hb hml hown hts hK hP hl hret
  have hown : s.vm.findClass RX3 = some m.cls := hown
  have hl : lv_has ls 1 [(0, .ref (A 9))] := hl
  refine lv_aload_n hx hb dX3_isThere_0 rfl (lv_at hl 0 rfl) ?_
  refine va_get (ci := 3) (v := .int (gi u 52)) (C := RX3) (T := TX3) (N := 3) hx hb hts (fun w h => uc_in w (inX3 w h)) hown hK hP 9 (cwc9 C A u) rfl 0 (by decide) (hts _ (uc_in _ q_f192)) (fun _ h9 => h9) rfl dX3_isThere_1 ?_
  have b1 := hI.b52
  refine lv_if_lt (tgt := 11) hx hb dX3_isThere_4 (by decide) (fun c2 => ?_) (fun c2 => ?_)
  · have c2 := cLT (x := (gi u 52)) (y := 0) (X := ((gi u 52)).toInt) (Y := 0) rfl (by decide) c2
    refine lv_iconst (v := 0) hx hb dX3_isThere_11 (by decide) ?_
    exact hret _ _ (0 : Int32) dX3_isThere_12 rfl (Or.inr ⟨rfl, by omega⟩)
  · have c2 := cNLT (x := (gi u 52)) (y := 0) (X := ((gi u 52)).toInt) (Y := 0) rfl (by decide) c2
    refine lv_iconst (v := 1) hx hb dX3_isThere_7 (by decide) ?_
    refine lv_goto (tgt := 12) hx hb dX3_isThere_8 (by decide) ?_
    exact hret _ _ (1 : Int32) dX3_isThere_12 rfl (Or.inl ⟨rfl, by omega⟩)
set_option maxHeartbeats 4000000 in
set_option maxRecDepth 100000 in
theorem kX8_listen_1 (l : Launch) (D : va_G) (C : Nat → ClassId) (A : Nat → Nat) (u : St) (hI : IC u) (a1 : Int32) (A1 : Int) (ha1 : a1.toInt = A1) (hl1 : 0 ≤ A1) (hm1 : A1 ≤ 7) (sz : Nat) : MetI l yX8_listen cX8_listen 8 (some .boolean) 1 [.ref (A 15), .ref (A 9), .int a1] D (tyl C) (cw C A) X0 u sz (fun r u' => IC u' ∧ Un [(76, 76)] [(50, 50), (51, 51)] [] u u' ∧ (0 ≤ r.toInt ∧ r.toInt ≤ 1)) := by
  refine mI (by decide) (Nat.le_of_ble_eq_true rfl) ?_
  intro p e s m below meth c ls ar Q hx hb hml hown hts hK hH hX hl hret
  have hown : s.vm.findClass RX8 = some m.cls := hown
  have hl : lv_has ls 8 [(0, .ref (A 15)), (1, .ref (A 9)), (2, .int a1)] := hl
  refine lv_aload_n hx hb dX8_listen_0 rfl (lv_at hl 0 rfl) ?_
  refine lv_iconst (v := 0) hx hb dX8_listen_1 (by decide) ?_
  refine r_put (j := 76) (ci := 8) (C := RX8) (T := TX8) (N := 9) hx hb hts (fun w h => uc_in w (inX8 w h)) tyX8 tyX8_ok nmX8 hown hK hH 15 (cwc15 C A u) rfl 5 (by decide) (hts _ (uc_in _ q_f338)) (fun _ h9 => h9) rfl (by decide +kernel) (Nat.le_of_ble_eq_true rfl) (cws76 C A u _) dX8_listen_2 (fun u1 eu1 H locs hH => ?_)
  have hI := hI.s76 eu1 (X := 0) (by decide) (by decide) (by decide)
  refine lv_aload_n hx hb dX8_listen_5 rfl (lv_at hl 1 rfl) ?_
  refine va_get (ci := 3) (v := .int (gi u1 52)) (C := RX3) (T := TX3) (N := 3) hx hb hts (fun w h => uc_in w (inX3 w h)) hown hK hH.1 9 (cwc9 C A u1) rfl 0 (by decide) (hts _ (uc_in _ q_f193)) (fun _ h9 => h9) rfl dX8_listen_6 ?_
  have b2 := hI.b52
  refine lv_iconst (v := 2) hx hb dX8_listen_9 (by decide) ?_
  refine lv_irem hx hb dX8_listen_10 (by decide) ?_
  refine p_any (fun z3 => ?_)
  refine lv_if_eq (tgt := 16) hx hb dX8_listen_11 (by decide) (fun c4 => ?_) (fun c4 => ?_)
  · have c4 := cEQ (x := z3) (y := 0) (X := z3.toInt) (Y := 0) rfl (by decide) c4
    refine lv_iconst (v := 0) hx hb dX8_listen_16 (by decide) ?_
    refine lv_istore_n (lv' := [(3, .int 0), (0, .ref (A 15)), (1, .ref (A 9)), (2, .int a1)]) hx hb dX8_listen_17 rfl hl (by decide) rfl (fun ls hl => ?_)
    have lp18_263 : ∀ (n18 : Nat) (ls : Array Slot) (y262d : Int32) (u263 : St) (H : Heap) (locs : List Loc), 0 ≤ y262d.toInt → y262d.toInt ≤ 60 → y262d.toInt = 2 * (gi u263 76).toInt → 60 - y262d.toInt < (n18 : Int) → Un [(76, 76)] [(50, 50), (51, 51)] [] u1 u263 → IC u263 → Hd D (cw C A) (va_A (cw C A u) s.heap.size) s.heap u263 H locs → lv_has ls 8 [(3, .int y262d), (0, .ref (A 15)), (1, .ref (A 9)), (2, .int a1)] → W p l e (rmL 1 0 0) s m ar below meth c H locs 0 0 Q (F0 m 18 ls []) := by
      intro n18
      induction n18 with
      | zero => intro ls y262d u263 H locs ly262d my262d x18_0 hmun18 hUu263 hI hH hl; exfalso; omega
      | succ n18 ih18_263 =>
        intro ls y262d u263 H locs ly262d my262d x18_0 hmun18 hUu263 hI hH hl
        refine lv_iload_n hx hb dX8_listen_18 rfl (lv_at hl 0 rfl) ?_
        refine lv_iconst (v := 1) hx hb dX8_listen_19 (by decide) ?_
        refine lv_iadd hx hb dX8_listen_20 ?_
        refine p_nm (tt_add (X := y262d.toInt) (Y := 1) rfl (by decide) (by omega) (by omega)) (fun z265 hz265 => ?_)
        refine lv_aload_n hx hb dX8_listen_21 rfl (lv_at hl 2 rfl) ?_
        refine va_get (ci := 3) (v := .int (gi u263 52)) (C := RX3) (T := TX3) (N := 3) hx hb hts (fun w h => uc_in w (inX3 w h)) hown hK hH.1 9 (cwc9 C A u263) rfl 0 (by decide) (hts _ (uc_in _ q_f193)) (fun _ h9 => h9) rfl dX8_listen_22 ?_
        refine pv_i (v := (gi u1 52)) ((hUu263.1 52 rfl).trans rfl) ?_
        refine lv_icmp_ge (tgt := 121) hx hb dX8_listen_25 (by decide) (fun c266 => ?_) (fun c266 => ?_)
        · have c266 := cLE (x := (gi u1 52)) (y := z265) (X := ((gi u1 52)).toInt) (Y := (y262d.toInt + 1)) rfl hz265 c266
          refine lv_iconst (v := 1) hx hb dX8_listen_121 (by decide) ?_
          exact hret _ _ _ _ (1 : Int32) _ dX8_listen_122 rfl ⟨hI, (Un.tr (Un.si Un.rf rfl eu1) hUu263 rfl rfl rfl), ⟨by decide, by decide⟩⟩ hH
        · have c266 := cNLE (x := (gi u1 52)) (y := z265) (X := ((gi u1 52)).toInt) (Y := (y262d.toInt + 1)) rfl hz265 c266
          refine lv_aload_n hx hb dX8_listen_28 rfl (lv_at hl 2 rfl) ?_
          refine va_get (ci := 3) (v := .ref (A 40)) (C := RX3) (T := TX3) (N := 3) hx hb hts (fun w h => uc_in w (inX3 w h)) hown hK hH.1 9 (cwc9 C A u263) rfl 2 (by decide) (hts _ (uc_in _ q_f199)) (fun _ h9 => h9) rfl dX8_listen_29 ?_
          refine lv_iload_n hx hb dX8_listen_32 rfl (lv_at hl 0 rfl) ?_
          refine va_lald hx hb hK hH.1 40 2 (cwc40 C A u263) rfl (i_ix rfl (by omega) (by omega)) dX8_listen_33 ?_
          refine p_anyl (fun z267 => ?_)
          refine lv_lstore (lv' := [(4, .long z267), (3, .int y262d), (0, .ref (A 15)), (1, .ref (A 9)), (2, .int a1)]) hx hb dX8_listen_34 hl (by decide) rfl (fun ls hl => ?_)
          refine lv_aload_n hx hb dX8_listen_36 rfl (lv_at hl 3 rfl) ?_
          refine va_get (ci := 3) (v := .ref (A 40)) (C := RX3) (T := TX3) (N := 3) hx hb hts (fun w h => uc_in w (inX3 w h)) hown hK hH.1 9 (cwc9 C A u263) rfl 2 (by decide) (hts _ (uc_in _ q_f199)) (fun _ h9 => h9) rfl dX8_listen_37 ?_
          refine lv_iload_n hx hb dX8_listen_40 rfl (lv_at hl 1 rfl) ?_
          refine lv_iconst (v := 1) hx hb dX8_listen_41 (by decide) ?_
          refine lv_iadd hx hb dX8_listen_42 ?_
          refine p_nm (tt_add (X := y262d.toInt) (Y := 1) rfl (by decide) (by omega) (by omega)) (fun z268 hz268 => ?_)
          refine va_lald hx hb hK hH.1 40 2 (cwc40 C A u263) rfl (i_ix hz268 (by omega) (by omega)) dX8_listen_43 ?_
          refine p_anyl (fun z269 => ?_)
          refine lv_lstore (lv' := [(6, .long z269), (4, .long z267), (3, .int y262d), (0, .ref (A 15)), (1, .ref (A 9)), (2, .int a1)]) hx hb dX8_listen_44 hl (by decide) rfl (fun ls hl => ?_)
          refine lv_lload hx hb dX8_listen_46 (lv_at hl 1 rfl) ?_
          refine lv_lconst (v := 0) hx hb dX8_listen_48 (by decide) ?_
          refine W.lcmp hx hb dX8_listen_49 ?_
          refine lv_if_lt (tgt := 79) hx hb dX8_listen_50 (by decide) (fun c270 => ?_) (fun c270 => ?_)
          · have c270 := dLT (X := z267.toInt) (Y := 0) rfl (by decide) c270
            refine lv_iconst (v := 0) hx hb dX8_listen_79 (by decide) ?_
            exact hret _ _ _ _ (0 : Int32) _ dX8_listen_80 rfl ⟨hI, (Un.tr (Un.si Un.rf rfl eu1) hUu263 rfl rfl rfl), ⟨by decide, by decide⟩⟩ hH
          · have c270 := dNLT (X := z267.toInt) (Y := 0) rfl (by decide) c270
            refine lv_lload hx hb dX8_listen_53 (lv_at hl 1 rfl) ?_
            refine lv_iload_n hx hb dX8_listen_55 rfl (lv_at hl 5 rfl) ?_
            refine lv_i2l (v := a1.toInt64) hx hb dX8_listen_56 rfl ?_
            refine W.lcmp hx hb dX8_listen_57 ?_
            refine lv_if_ge (tgt := 79) hx hb dX8_listen_58 (by decide) (fun c271 => ?_) (fun c271 => ?_)
            · have c271 := dGE (X := z267.toInt) (Y := A1) rfl (tt_i2l ha1) c271
              refine lv_iconst (v := 0) hx hb dX8_listen_79 (by decide) ?_
              exact hret _ _ _ _ (0 : Int32) _ dX8_listen_80 rfl ⟨hI, (Un.tr (Un.si Un.rf rfl eu1) hUu263 rfl rfl rfl), ⟨by decide, by decide⟩⟩ hH
            · have c271 := dNGE (X := z267.toInt) (Y := A1) rfl (tt_i2l ha1) c271
              refine lv_lload hx hb dX8_listen_61 (lv_at hl 0 rfl) ?_
              refine lv_ldc2 (v := (-1000)) hx hb hown (hts _ (uc_in _ q_k999)) dX8_listen_63 ?_
              refine W.lcmp hx hb dX8_listen_66 ?_
              refine lv_if_lt (tgt := 79) hx hb dX8_listen_67 (by decide) (fun c272 => ?_) (fun c272 => ?_)
              · have c272 := dLT (X := z269.toInt) (Y := (-1000)) rfl (by decide) c272
                refine lv_iconst (v := 0) hx hb dX8_listen_79 (by decide) ?_
                exact hret _ _ _ _ (0 : Int32) _ dX8_listen_80 rfl ⟨hI, (Un.tr (Un.si Un.rf rfl eu1) hUu263 rfl rfl rfl), ⟨by decide, by decide⟩⟩ hH
              · have c272 := dNLT (X := z269.toInt) (Y := (-1000)) rfl (by decide) c272
                refine lv_lload hx hb dX8_listen_70 (lv_at hl 0 rfl) ?_
                refine lv_ldc2 (v := 1000) hx hb hown (hts _ (uc_in _ q_k1000)) dX8_listen_72 ?_
                refine W.lcmp hx hb dX8_listen_75 ?_
                refine lv_if_le (tgt := 81) hx hb dX8_listen_76 (by decide) (fun c273 => ?_) (fun c273 => ?_)
                · have c273 := dLE (X := z269.toInt) (Y := 1000) rfl (by decide) c273
                  refine lv_aload_n hx hb dX8_listen_81 rfl (lv_at hl 3 rfl) ?_
                  refine va_get (ci := 8) (v := .ref (A 50)) (C := RX8) (T := TX8) (N := 9) hx hb hts (fun w h => uc_in w (inX8 w h)) hown hK hH.1 15 (cwc15 C A u263) rfl 6 (by decide) (hts _ (uc_in _ q_f339)) (fun _ h9 => h9) rfl dX8_listen_82 ?_
                  refine lv_aload_n hx hb dX8_listen_85 rfl (lv_at hl 3 rfl) ?_
                  refine va_get (ci := 8) (v := .int (gi u263 76)) (C := RX8) (T := TX8) (N := 9) hx hb hts (fun w h => uc_in w (inX8 w h)) hown hK hH.1 15 (cwc15 C A u263) rfl 5 (by decide) (hts _ (uc_in _ q_f338)) (fun _ h9 => h9) rfl dX8_listen_86 ?_
                  have b274 := hI.b76
                  refine lv_lload hx hb dX8_listen_89 (lv_at hl 1 rfl) ?_
                  refine lv_l2i hx hb dX8_listen_91 rfl ?_
                  refine p_nm (tt_l2i rfl (by omega) (by omega)) (fun z275 hz275 => ?_)
                  refine r_iast (j := 50) hx hb hK hH 50 1 (cwc50 C A u263) rfl (i_ix rfl (by omega) (by omega)) (cwa50 C A u263) dX8_listen_92 (fun u276 eu276 H locs hH => ?_)
                  have hI := hI.pa50 eu276 hz275 (by omega) (by omega)
                  refine lv_aload_n hx hb dX8_listen_93 rfl (lv_at hl 3 rfl) ?_
                  refine va_get (ci := 8) (v := .ref (A 51)) (C := RX8) (T := TX8) (N := 9) hx hb hts (fun w h => uc_in w (inX8 w h)) hown hK hH.1 15 (cwc15 C A u276) rfl 7 (by decide) (hts _ (uc_in _ q_f340)) (fun _ h9 => h9) rfl dX8_listen_94 ?_
                  refine lv_aload_n hx hb dX8_listen_97 rfl (lv_at hl 3 rfl) ?_
                  refine va_get (ci := 8) (v := .int (gi u276 76)) (C := RX8) (T := TX8) (N := 9) hx hb hts (fun w h => uc_in w (inX8 w h)) hown hK hH.1 15 (cwc15 C A u276) rfl 5 (by decide) (hts _ (uc_in _ q_f338)) (fun _ h9 => h9) rfl dX8_listen_98 ?_
                  refine pv_i (v := (gi u263 76)) ((gi_sa eu276).trans rfl) ?_
                  refine lv_lload hx hb dX8_listen_101 (lv_at hl 0 rfl) ?_
                  refine lv_l2i hx hb dX8_listen_103 rfl ?_
                  refine p_nm (tt_l2i rfl (by omega) (by omega)) (fun z277 hz277 => ?_)
                  refine r_iast (j := 51) hx hb hK hH 51 1 (cwc51 C A u276) rfl (i_ix rfl (by omega) (by omega)) (cwa51 C A u276) dX8_listen_104 (fun u278 eu278 H locs hH => ?_)
                  have hI := hI.pa0 eu278 (by decide)
                  refine lv_aload_n hx hb dX8_listen_105 rfl (lv_at hl 3 rfl) ?_
                  refine lv_dup hx hb dX8_listen_106 rfl ?_
                  refine va_get (ci := 8) (v := .int (gi u278 76)) (C := RX8) (T := TX8) (N := 9) hx hb hts (fun w h => uc_in w (inX8 w h)) hown hK hH.1 15 (cwc15 C A u278) rfl 5 (by decide) (hts _ (uc_in _ q_f338)) (fun _ h9 => h9) rfl dX8_listen_107 ?_
                  refine pv_i (v := (gi u263 76)) ((gi_sa eu278).trans ((gi_sa eu276).trans rfl)) ?_
                  refine lv_iconst (v := 1) hx hb dX8_listen_110 (by decide) ?_
                  refine lv_iadd hx hb dX8_listen_111 ?_
                  refine p_nm (tt_add (X := ((gi u263 76)).toInt) (Y := 1) rfl (by decide) (by omega) (by omega)) (fun z279 hz279 => ?_)
                  refine r_put (j := 76) (ci := 8) (C := RX8) (T := TX8) (N := 9) hx hb hts (fun w h => uc_in w (inX8 w h)) tyX8 tyX8_ok nmX8 hown hK hH 15 (cwc15 C A u278) rfl 5 (by decide) (hts _ (uc_in _ q_f338)) (fun _ h9 => h9) rfl (by decide +kernel) (Nat.le_of_ble_eq_true rfl) (cws76 C A u278 _) dX8_listen_112 (fun u280 eu280 H locs hH => ?_)
                  have hI := hI.s76 eu280 hz279 (by omega) (by omega)
                  obtain ⟨z281, ez281⟩ : ∃ z, z = y262d + Int32.ofInt 2 := ⟨_, rfl⟩
                  have hz281 : z281.toInt = y262d.toInt + 2 := by rw [ez281]; exact tt_add rfl (by decide) (by omega) (by omega)
                  refine lv_iinc (v := z281) (lv' := [(3, .int z281), (6, .long z269), (4, .long z267), (0, .ref (A 15)), (1, .ref (A 9)), (2, .int a1)]) hx hb dX8_listen_115 hl (k := 2) rfl ez281.symm (by decide) rfl (fun ls hl => ?_)
                  refine lv_goto (tgt := 18) hx hb dX8_listen_118 (by decide) ?_
                  exact ih18_263 ls z281 u280 _ _ (by have q9 := (show z281.toInt = (y262d.toInt + 2) from hz281); omega) (by have q9 := (show z281.toInt = (y262d.toInt + 2) from hz281); omega) (by have q76 := (show (gi u280 76).toInt = (((gi u263 76)).toInt + 1) from (congrArg Int32.toInt (show gi u280 76 = z279 from (gi_si eu280))).trans hz279); have r3 := (show (z281 : Int32).toInt = (y262d.toInt + 2) from hz281); omega) (by have q9 := (show z281.toInt = (y262d.toInt + 2) from hz281); omega) (Un.si (Un.sa (Un.sa hUu263 rfl eu276) rfl eu278) rfl eu280) hI hH (lv_sub hl [0, 3, 4, 5] rfl)
                · have c273 := dNLE (X := z269.toInt) (Y := 1000) rfl (by decide) c273
                  refine lv_iconst (v := 0) hx hb dX8_listen_79 (by decide) ?_
                  exact hret _ _ _ _ (0 : Int32) _ dX8_listen_80 rfl ⟨hI, (Un.tr (Un.si Un.rf rfl eu1) hUu263 rfl rfl rfl), ⟨by decide, by decide⟩⟩ hH
    exact lp18_263 61 ls 0 u1 _ _ (by decide) (by decide) (by have q76 := (show (gi u1 76).toInt = 0 from (congrArg Int32.toInt (show gi u1 76 = 0 from (gi_si eu1))).trans (by decide)); have r3 := (show (0 : Int32).toInt = 0 from (by decide)); omega) (by have q9 : (0 : Int32).toInt = 0 := (by decide); omega) Un.rf hI hH hl
  · refine lv_iconst (v := 0) hx hb dX8_listen_14 (by decide) ?_
    exact hret _ _ _ _ (0 : Int32) _ dX8_listen_15 rfl ⟨hI, (Un.si Un.rf rfl eu1), ⟨by decide, by decide⟩⟩ hH
set_option maxHeartbeats 4000000 in
set_option maxRecDepth 100000 in
theorem kX3_isThere_2 (l : Launch) (D : va_G) (C : Nat → ClassId) (A : Nat → Nat) (u : St) (hI : IC u) : Met l yX3_isThere (uc yX3_isThere cX3_isThere 1 (some .boolean)) (rmL 1 0 0) (va_Pc [.ref (A 10)] (PreR D (tyl C) (cw C A u))) (vp_Si (fun r => (r = 1 ∧ 0 ≤ (gi u 54).toInt) ∨ (r = 0 ∧ ¬ (0 ≤ (gi u 54).toInt)))) 0 0 (fun _ => False) := by
  refine mS (by decide) (Nat.le_of_ble_eq_true rfl) ?_
  intro p e s m below meth c ls ar Q hx hb hml hown hts hK hP hl hret
  have hown : s.vm.findClass RX3 = some m.cls := hown
  have hl : lv_has ls 1 [(0, .ref (A 10))] := hl
  refine lv_aload_n hx hb dX3_isThere_0 rfl (lv_at hl 0 rfl) ?_
  refine va_get (ci := 3) (v := .int (gi u 54)) (C := RX3) (T := TX3) (N := 3) hx hb hts (fun w h => uc_in w (inX3 w h)) hown hK hP 10 (cwc10 C A u) rfl 0 (by decide) (hts _ (uc_in _ q_f192)) (fun _ h9 => h9) rfl dX3_isThere_1 ?_
  have b1 := hI.b54
  refine lv_if_lt (tgt := 11) hx hb dX3_isThere_4 (by decide) (fun c2 => ?_) (fun c2 => ?_)
  · have c2 := cLT (x := (gi u 54)) (y := 0) (X := ((gi u 54)).toInt) (Y := 0) rfl (by decide) c2
    refine lv_iconst (v := 0) hx hb dX3_isThere_11 (by decide) ?_
    exact hret _ _ (0 : Int32) dX3_isThere_12 rfl (Or.inr ⟨rfl, by omega⟩)
  · have c2 := cNLT (x := (gi u 54)) (y := 0) (X := ((gi u 54)).toInt) (Y := 0) rfl (by decide) c2
    refine lv_iconst (v := 1) hx hb dX3_isThere_7 (by decide) ?_
    refine lv_goto (tgt := 12) hx hb dX3_isThere_8 (by decide) ?_
    exact hret _ _ (1 : Int32) dX3_isThere_12 rfl (Or.inl ⟨rfl, by omega⟩)
set_option maxHeartbeats 4000000 in
set_option maxRecDepth 100000 in
theorem kX8_listen_2 (l : Launch) (D : va_G) (C : Nat → ClassId) (A : Nat → Nat) (u : St) (hI : IC u) (a1 : Int32) (A1 : Int) (ha1 : a1.toInt = A1) (hl1 : 0 ≤ A1) (hm1 : A1 ≤ 7) (sz : Nat) : MetI l yX8_listen cX8_listen 8 (some .boolean) 1 [.ref (A 15), .ref (A 10), .int a1] D (tyl C) (cw C A) X0 u sz (fun r u' => IC u' ∧ Un [(76, 76)] [(50, 50), (51, 51)] [] u u' ∧ (0 ≤ r.toInt ∧ r.toInt ≤ 1)) := by
  refine mI (by decide) (Nat.le_of_ble_eq_true rfl) ?_
  intro p e s m below meth c ls ar Q hx hb hml hown hts hK hH hX hl hret
  have hown : s.vm.findClass RX8 = some m.cls := hown
  have hl : lv_has ls 8 [(0, .ref (A 15)), (1, .ref (A 10)), (2, .int a1)] := hl
  refine lv_aload_n hx hb dX8_listen_0 rfl (lv_at hl 0 rfl) ?_
  refine lv_iconst (v := 0) hx hb dX8_listen_1 (by decide) ?_
  refine r_put (j := 76) (ci := 8) (C := RX8) (T := TX8) (N := 9) hx hb hts (fun w h => uc_in w (inX8 w h)) tyX8 tyX8_ok nmX8 hown hK hH 15 (cwc15 C A u) rfl 5 (by decide) (hts _ (uc_in _ q_f338)) (fun _ h9 => h9) rfl (by decide +kernel) (Nat.le_of_ble_eq_true rfl) (cws76 C A u _) dX8_listen_2 (fun u1 eu1 H locs hH => ?_)
  have hI := hI.s76 eu1 (X := 0) (by decide) (by decide) (by decide)
  refine lv_aload_n hx hb dX8_listen_5 rfl (lv_at hl 1 rfl) ?_
  refine va_get (ci := 3) (v := .int (gi u1 54)) (C := RX3) (T := TX3) (N := 3) hx hb hts (fun w h => uc_in w (inX3 w h)) hown hK hH.1 10 (cwc10 C A u1) rfl 0 (by decide) (hts _ (uc_in _ q_f193)) (fun _ h9 => h9) rfl dX8_listen_6 ?_
  have b2 := hI.b54
  refine lv_iconst (v := 2) hx hb dX8_listen_9 (by decide) ?_
  refine lv_irem hx hb dX8_listen_10 (by decide) ?_
  refine p_any (fun z3 => ?_)
  refine lv_if_eq (tgt := 16) hx hb dX8_listen_11 (by decide) (fun c4 => ?_) (fun c4 => ?_)
  · have c4 := cEQ (x := z3) (y := 0) (X := z3.toInt) (Y := 0) rfl (by decide) c4
    refine lv_iconst (v := 0) hx hb dX8_listen_16 (by decide) ?_
    refine lv_istore_n (lv' := [(3, .int 0), (0, .ref (A 15)), (1, .ref (A 10)), (2, .int a1)]) hx hb dX8_listen_17 rfl hl (by decide) rfl (fun ls hl => ?_)
    have lp18_263 : ∀ (n18 : Nat) (ls : Array Slot) (y262d : Int32) (u263 : St) (H : Heap) (locs : List Loc), 0 ≤ y262d.toInt → y262d.toInt ≤ 60 → y262d.toInt = 2 * (gi u263 76).toInt → 60 - y262d.toInt < (n18 : Int) → Un [(76, 76)] [(50, 50), (51, 51)] [] u1 u263 → IC u263 → Hd D (cw C A) (va_A (cw C A u) s.heap.size) s.heap u263 H locs → lv_has ls 8 [(3, .int y262d), (0, .ref (A 15)), (1, .ref (A 10)), (2, .int a1)] → W p l e (rmL 1 0 0) s m ar below meth c H locs 0 0 Q (F0 m 18 ls []) := by
      intro n18
      induction n18 with
      | zero => intro ls y262d u263 H locs ly262d my262d x18_0 hmun18 hUu263 hI hH hl; exfalso; omega
      | succ n18 ih18_263 =>
        intro ls y262d u263 H locs ly262d my262d x18_0 hmun18 hUu263 hI hH hl
        refine lv_iload_n hx hb dX8_listen_18 rfl (lv_at hl 0 rfl) ?_
        refine lv_iconst (v := 1) hx hb dX8_listen_19 (by decide) ?_
        refine lv_iadd hx hb dX8_listen_20 ?_
        refine p_nm (tt_add (X := y262d.toInt) (Y := 1) rfl (by decide) (by omega) (by omega)) (fun z265 hz265 => ?_)
        refine lv_aload_n hx hb dX8_listen_21 rfl (lv_at hl 2 rfl) ?_
        refine va_get (ci := 3) (v := .int (gi u263 54)) (C := RX3) (T := TX3) (N := 3) hx hb hts (fun w h => uc_in w (inX3 w h)) hown hK hH.1 10 (cwc10 C A u263) rfl 0 (by decide) (hts _ (uc_in _ q_f193)) (fun _ h9 => h9) rfl dX8_listen_22 ?_
        refine pv_i (v := (gi u1 54)) ((hUu263.1 54 rfl).trans rfl) ?_
        refine lv_icmp_ge (tgt := 121) hx hb dX8_listen_25 (by decide) (fun c266 => ?_) (fun c266 => ?_)
        · have c266 := cLE (x := (gi u1 54)) (y := z265) (X := ((gi u1 54)).toInt) (Y := (y262d.toInt + 1)) rfl hz265 c266
          refine lv_iconst (v := 1) hx hb dX8_listen_121 (by decide) ?_
          exact hret _ _ _ _ (1 : Int32) _ dX8_listen_122 rfl ⟨hI, (Un.tr (Un.si Un.rf rfl eu1) hUu263 rfl rfl rfl), ⟨by decide, by decide⟩⟩ hH
        · have c266 := cNLE (x := (gi u1 54)) (y := z265) (X := ((gi u1 54)).toInt) (Y := (y262d.toInt + 1)) rfl hz265 c266
          refine lv_aload_n hx hb dX8_listen_28 rfl (lv_at hl 2 rfl) ?_
          refine va_get (ci := 3) (v := .ref (A 41)) (C := RX3) (T := TX3) (N := 3) hx hb hts (fun w h => uc_in w (inX3 w h)) hown hK hH.1 10 (cwc10 C A u263) rfl 2 (by decide) (hts _ (uc_in _ q_f199)) (fun _ h9 => h9) rfl dX8_listen_29 ?_
          refine lv_iload_n hx hb dX8_listen_32 rfl (lv_at hl 0 rfl) ?_
          refine va_lald hx hb hK hH.1 41 2 (cwc41 C A u263) rfl (i_ix rfl (by omega) (by omega)) dX8_listen_33 ?_
          refine p_anyl (fun z267 => ?_)
          refine lv_lstore (lv' := [(4, .long z267), (3, .int y262d), (0, .ref (A 15)), (1, .ref (A 10)), (2, .int a1)]) hx hb dX8_listen_34 hl (by decide) rfl (fun ls hl => ?_)
          refine lv_aload_n hx hb dX8_listen_36 rfl (lv_at hl 3 rfl) ?_
          refine va_get (ci := 3) (v := .ref (A 41)) (C := RX3) (T := TX3) (N := 3) hx hb hts (fun w h => uc_in w (inX3 w h)) hown hK hH.1 10 (cwc10 C A u263) rfl 2 (by decide) (hts _ (uc_in _ q_f199)) (fun _ h9 => h9) rfl dX8_listen_37 ?_
          refine lv_iload_n hx hb dX8_listen_40 rfl (lv_at hl 1 rfl) ?_
          refine lv_iconst (v := 1) hx hb dX8_listen_41 (by decide) ?_
          refine lv_iadd hx hb dX8_listen_42 ?_
          refine p_nm (tt_add (X := y262d.toInt) (Y := 1) rfl (by decide) (by omega) (by omega)) (fun z268 hz268 => ?_)
          refine va_lald hx hb hK hH.1 41 2 (cwc41 C A u263) rfl (i_ix hz268 (by omega) (by omega)) dX8_listen_43 ?_
          refine p_anyl (fun z269 => ?_)
          refine lv_lstore (lv' := [(6, .long z269), (4, .long z267), (3, .int y262d), (0, .ref (A 15)), (1, .ref (A 10)), (2, .int a1)]) hx hb dX8_listen_44 hl (by decide) rfl (fun ls hl => ?_)
          refine lv_lload hx hb dX8_listen_46 (lv_at hl 1 rfl) ?_
          refine lv_lconst (v := 0) hx hb dX8_listen_48 (by decide) ?_
          refine W.lcmp hx hb dX8_listen_49 ?_
          refine lv_if_lt (tgt := 79) hx hb dX8_listen_50 (by decide) (fun c270 => ?_) (fun c270 => ?_)
          · have c270 := dLT (X := z267.toInt) (Y := 0) rfl (by decide) c270
            refine lv_iconst (v := 0) hx hb dX8_listen_79 (by decide) ?_
            exact hret _ _ _ _ (0 : Int32) _ dX8_listen_80 rfl ⟨hI, (Un.tr (Un.si Un.rf rfl eu1) hUu263 rfl rfl rfl), ⟨by decide, by decide⟩⟩ hH
          · have c270 := dNLT (X := z267.toInt) (Y := 0) rfl (by decide) c270
            refine lv_lload hx hb dX8_listen_53 (lv_at hl 1 rfl) ?_
            refine lv_iload_n hx hb dX8_listen_55 rfl (lv_at hl 5 rfl) ?_
            refine lv_i2l (v := a1.toInt64) hx hb dX8_listen_56 rfl ?_
            refine W.lcmp hx hb dX8_listen_57 ?_
            refine lv_if_ge (tgt := 79) hx hb dX8_listen_58 (by decide) (fun c271 => ?_) (fun c271 => ?_)
            · have c271 := dGE (X := z267.toInt) (Y := A1) rfl (tt_i2l ha1) c271
              refine lv_iconst (v := 0) hx hb dX8_listen_79 (by decide) ?_
              exact hret _ _ _ _ (0 : Int32) _ dX8_listen_80 rfl ⟨hI, (Un.tr (Un.si Un.rf rfl eu1) hUu263 rfl rfl rfl), ⟨by decide, by decide⟩⟩ hH
            · have c271 := dNGE (X := z267.toInt) (Y := A1) rfl (tt_i2l ha1) c271
              refine lv_lload hx hb dX8_listen_61 (lv_at hl 0 rfl) ?_
              refine lv_ldc2 (v := (-1000)) hx hb hown (hts _ (uc_in _ q_k999)) dX8_listen_63 ?_
              refine W.lcmp hx hb dX8_listen_66 ?_
              refine lv_if_lt (tgt := 79) hx hb dX8_listen_67 (by decide) (fun c272 => ?_) (fun c272 => ?_)
              · have c272 := dLT (X := z269.toInt) (Y := (-1000)) rfl (by decide) c272
                refine lv_iconst (v := 0) hx hb dX8_listen_79 (by decide) ?_
                exact hret _ _ _ _ (0 : Int32) _ dX8_listen_80 rfl ⟨hI, (Un.tr (Un.si Un.rf rfl eu1) hUu263 rfl rfl rfl), ⟨by decide, by decide⟩⟩ hH
              · have c272 := dNLT (X := z269.toInt) (Y := (-1000)) rfl (by decide) c272
                refine lv_lload hx hb dX8_listen_70 (lv_at hl 0 rfl) ?_
                refine lv_ldc2 (v := 1000) hx hb hown (hts _ (uc_in _ q_k1000)) dX8_listen_72 ?_
                refine W.lcmp hx hb dX8_listen_75 ?_
                refine lv_if_le (tgt := 81) hx hb dX8_listen_76 (by decide) (fun c273 => ?_) (fun c273 => ?_)
                · have c273 := dLE (X := z269.toInt) (Y := 1000) rfl (by decide) c273
                  refine lv_aload_n hx hb dX8_listen_81 rfl (lv_at hl 3 rfl) ?_
                  refine va_get (ci := 8) (v := .ref (A 50)) (C := RX8) (T := TX8) (N := 9) hx hb hts (fun w h => uc_in w (inX8 w h)) hown hK hH.1 15 (cwc15 C A u263) rfl 6 (by decide) (hts _ (uc_in _ q_f339)) (fun _ h9 => h9) rfl dX8_listen_82 ?_
                  refine lv_aload_n hx hb dX8_listen_85 rfl (lv_at hl 3 rfl) ?_
                  refine va_get (ci := 8) (v := .int (gi u263 76)) (C := RX8) (T := TX8) (N := 9) hx hb hts (fun w h => uc_in w (inX8 w h)) hown hK hH.1 15 (cwc15 C A u263) rfl 5 (by decide) (hts _ (uc_in _ q_f338)) (fun _ h9 => h9) rfl dX8_listen_86 ?_
                  have b274 := hI.b76
                  refine lv_lload hx hb dX8_listen_89 (lv_at hl 1 rfl) ?_
                  refine lv_l2i hx hb dX8_listen_91 rfl ?_
                  refine p_nm (tt_l2i rfl (by omega) (by omega)) (fun z275 hz275 => ?_)
                  refine r_iast (j := 50) hx hb hK hH 50 1 (cwc50 C A u263) rfl (i_ix rfl (by omega) (by omega)) (cwa50 C A u263) dX8_listen_92 (fun u276 eu276 H locs hH => ?_)
                  have hI := hI.pa50 eu276 hz275 (by omega) (by omega)
                  refine lv_aload_n hx hb dX8_listen_93 rfl (lv_at hl 3 rfl) ?_
                  refine va_get (ci := 8) (v := .ref (A 51)) (C := RX8) (T := TX8) (N := 9) hx hb hts (fun w h => uc_in w (inX8 w h)) hown hK hH.1 15 (cwc15 C A u276) rfl 7 (by decide) (hts _ (uc_in _ q_f340)) (fun _ h9 => h9) rfl dX8_listen_94 ?_
                  refine lv_aload_n hx hb dX8_listen_97 rfl (lv_at hl 3 rfl) ?_
                  refine va_get (ci := 8) (v := .int (gi u276 76)) (C := RX8) (T := TX8) (N := 9) hx hb hts (fun w h => uc_in w (inX8 w h)) hown hK hH.1 15 (cwc15 C A u276) rfl 5 (by decide) (hts _ (uc_in _ q_f338)) (fun _ h9 => h9) rfl dX8_listen_98 ?_
                  refine pv_i (v := (gi u263 76)) ((gi_sa eu276).trans rfl) ?_
                  refine lv_lload hx hb dX8_listen_101 (lv_at hl 0 rfl) ?_
                  refine lv_l2i hx hb dX8_listen_103 rfl ?_
                  refine p_nm (tt_l2i rfl (by omega) (by omega)) (fun z277 hz277 => ?_)
                  refine r_iast (j := 51) hx hb hK hH 51 1 (cwc51 C A u276) rfl (i_ix rfl (by omega) (by omega)) (cwa51 C A u276) dX8_listen_104 (fun u278 eu278 H locs hH => ?_)
                  have hI := hI.pa0 eu278 (by decide)
                  refine lv_aload_n hx hb dX8_listen_105 rfl (lv_at hl 3 rfl) ?_
                  refine lv_dup hx hb dX8_listen_106 rfl ?_
                  refine va_get (ci := 8) (v := .int (gi u278 76)) (C := RX8) (T := TX8) (N := 9) hx hb hts (fun w h => uc_in w (inX8 w h)) hown hK hH.1 15 (cwc15 C A u278) rfl 5 (by decide) (hts _ (uc_in _ q_f338)) (fun _ h9 => h9) rfl dX8_listen_107 ?_
                  refine pv_i (v := (gi u263 76)) ((gi_sa eu278).trans ((gi_sa eu276).trans rfl)) ?_
                  refine lv_iconst (v := 1) hx hb dX8_listen_110 (by decide) ?_
                  refine lv_iadd hx hb dX8_listen_111 ?_
                  refine p_nm (tt_add (X := ((gi u263 76)).toInt) (Y := 1) rfl (by decide) (by omega) (by omega)) (fun z279 hz279 => ?_)
                  refine r_put (j := 76) (ci := 8) (C := RX8) (T := TX8) (N := 9) hx hb hts (fun w h => uc_in w (inX8 w h)) tyX8 tyX8_ok nmX8 hown hK hH 15 (cwc15 C A u278) rfl 5 (by decide) (hts _ (uc_in _ q_f338)) (fun _ h9 => h9) rfl (by decide +kernel) (Nat.le_of_ble_eq_true rfl) (cws76 C A u278 _) dX8_listen_112 (fun u280 eu280 H locs hH => ?_)
                  have hI := hI.s76 eu280 hz279 (by omega) (by omega)
                  obtain ⟨z281, ez281⟩ : ∃ z, z = y262d + Int32.ofInt 2 := ⟨_, rfl⟩
                  have hz281 : z281.toInt = y262d.toInt + 2 := by rw [ez281]; exact tt_add rfl (by decide) (by omega) (by omega)
                  refine lv_iinc (v := z281) (lv' := [(3, .int z281), (6, .long z269), (4, .long z267), (0, .ref (A 15)), (1, .ref (A 10)), (2, .int a1)]) hx hb dX8_listen_115 hl (k := 2) rfl ez281.symm (by decide) rfl (fun ls hl => ?_)
                  refine lv_goto (tgt := 18) hx hb dX8_listen_118 (by decide) ?_
                  exact ih18_263 ls z281 u280 _ _ (by have q9 := (show z281.toInt = (y262d.toInt + 2) from hz281); omega) (by have q9 := (show z281.toInt = (y262d.toInt + 2) from hz281); omega) (by have q76 := (show (gi u280 76).toInt = (((gi u263 76)).toInt + 1) from (congrArg Int32.toInt (show gi u280 76 = z279 from (gi_si eu280))).trans hz279); have r3 := (show (z281 : Int32).toInt = (y262d.toInt + 2) from hz281); omega) (by have q9 := (show z281.toInt = (y262d.toInt + 2) from hz281); omega) (Un.si (Un.sa (Un.sa hUu263 rfl eu276) rfl eu278) rfl eu280) hI hH (lv_sub hl [0, 3, 4, 5] rfl)
                · have c273 := dNLE (X := z269.toInt) (Y := 1000) rfl (by decide) c273
                  refine lv_iconst (v := 0) hx hb dX8_listen_79 (by decide) ?_
                  exact hret _ _ _ _ (0 : Int32) _ dX8_listen_80 rfl ⟨hI, (Un.tr (Un.si Un.rf rfl eu1) hUu263 rfl rfl rfl), ⟨by decide, by decide⟩⟩ hH
    exact lp18_263 61 ls 0 u1 _ _ (by decide) (by decide) (by have q76 := (show (gi u1 76).toInt = 0 from (congrArg Int32.toInt (show gi u1 76 = 0 from (gi_si eu1))).trans (by decide)); have r3 := (show (0 : Int32).toInt = 0 from (by decide)); omega) (by have q9 : (0 : Int32).toInt = 0 := (by decide); omega) Un.rf hI hH hl
  · refine lv_iconst (v := 0) hx hb dX8_listen_14 (by decide) ?_
    exact hret _ _ _ _ (0 : Int32) _ dX8_listen_15 rfl ⟨hI, (Un.si Un.rf rfl eu1), ⟨by decide, by decide⟩⟩ hH
set_option maxHeartbeats 4000000 in
set_option maxRecDepth 100000 in
theorem kX3_isThere_3 (l : Launch) (D : va_G) (C : Nat → ClassId) (A : Nat → Nat) (u : St) (hI : IC u) : Met l yX3_isThere (uc yX3_isThere cX3_isThere 1 (some .boolean)) (rmL 1 0 0) (va_Pc [.ref (A 11)] (PreR D (tyl C) (cw C A u))) (vp_Si (fun r => (r = 1 ∧ 0 ≤ (gi u 56).toInt) ∨ (r = 0 ∧ ¬ (0 ≤ (gi u 56).toInt)))) 0 0 (fun _ => False) := by
  refine mS (by decide) (Nat.le_of_ble_eq_true rfl) ?_
  intro p e s m below meth c ls ar Q hx hb hml hown hts hK hP hl hret
  have hown : s.vm.findClass RX3 = some m.cls := hown
  have hl : lv_has ls 1 [(0, .ref (A 11))] := hl
  refine lv_aload_n hx hb dX3_isThere_0 rfl (lv_at hl 0 rfl) ?_
  refine va_get (ci := 3) (v := .int (gi u 56)) (C := RX3) (T := TX3) (N := 3) hx hb hts (fun w h => uc_in w (inX3 w h)) hown hK hP 11 (cwc11 C A u) rfl 0 (by decide) (hts _ (uc_in _ q_f192)) (fun _ h9 => h9) rfl dX3_isThere_1 ?_
  have b1 := hI.b56
  refine lv_if_lt (tgt := 11) hx hb dX3_isThere_4 (by decide) (fun c2 => ?_) (fun c2 => ?_)
  · have c2 := cLT (x := (gi u 56)) (y := 0) (X := ((gi u 56)).toInt) (Y := 0) rfl (by decide) c2
    refine lv_iconst (v := 0) hx hb dX3_isThere_11 (by decide) ?_
    exact hret _ _ (0 : Int32) dX3_isThere_12 rfl (Or.inr ⟨rfl, by omega⟩)
  · have c2 := cNLT (x := (gi u 56)) (y := 0) (X := ((gi u 56)).toInt) (Y := 0) rfl (by decide) c2
    refine lv_iconst (v := 1) hx hb dX3_isThere_7 (by decide) ?_
    refine lv_goto (tgt := 12) hx hb dX3_isThere_8 (by decide) ?_
    exact hret _ _ (1 : Int32) dX3_isThere_12 rfl (Or.inl ⟨rfl, by omega⟩)
set_option maxHeartbeats 4000000 in
set_option maxRecDepth 100000 in
theorem kX8_listen_3 (l : Launch) (D : va_G) (C : Nat → ClassId) (A : Nat → Nat) (u : St) (hI : IC u) (a1 : Int32) (A1 : Int) (ha1 : a1.toInt = A1) (hl1 : 0 ≤ A1) (hm1 : A1 ≤ 7) (sz : Nat) : MetI l yX8_listen cX8_listen 8 (some .boolean) 1 [.ref (A 15), .ref (A 11), .int a1] D (tyl C) (cw C A) X0 u sz (fun r u' => IC u' ∧ Un [(76, 76)] [(50, 50), (51, 51)] [] u u' ∧ (0 ≤ r.toInt ∧ r.toInt ≤ 1)) := by
  refine mI (by decide) (Nat.le_of_ble_eq_true rfl) ?_
  intro p e s m below meth c ls ar Q hx hb hml hown hts hK hH hX hl hret
  have hown : s.vm.findClass RX8 = some m.cls := hown
  have hl : lv_has ls 8 [(0, .ref (A 15)), (1, .ref (A 11)), (2, .int a1)] := hl
  refine lv_aload_n hx hb dX8_listen_0 rfl (lv_at hl 0 rfl) ?_
  refine lv_iconst (v := 0) hx hb dX8_listen_1 (by decide) ?_
  refine r_put (j := 76) (ci := 8) (C := RX8) (T := TX8) (N := 9) hx hb hts (fun w h => uc_in w (inX8 w h)) tyX8 tyX8_ok nmX8 hown hK hH 15 (cwc15 C A u) rfl 5 (by decide) (hts _ (uc_in _ q_f338)) (fun _ h9 => h9) rfl (by decide +kernel) (Nat.le_of_ble_eq_true rfl) (cws76 C A u _) dX8_listen_2 (fun u1 eu1 H locs hH => ?_)
  have hI := hI.s76 eu1 (X := 0) (by decide) (by decide) (by decide)
  refine lv_aload_n hx hb dX8_listen_5 rfl (lv_at hl 1 rfl) ?_
  refine va_get (ci := 3) (v := .int (gi u1 56)) (C := RX3) (T := TX3) (N := 3) hx hb hts (fun w h => uc_in w (inX3 w h)) hown hK hH.1 11 (cwc11 C A u1) rfl 0 (by decide) (hts _ (uc_in _ q_f193)) (fun _ h9 => h9) rfl dX8_listen_6 ?_
  have b2 := hI.b56
  refine lv_iconst (v := 2) hx hb dX8_listen_9 (by decide) ?_
  refine lv_irem hx hb dX8_listen_10 (by decide) ?_
  refine p_any (fun z3 => ?_)
  refine lv_if_eq (tgt := 16) hx hb dX8_listen_11 (by decide) (fun c4 => ?_) (fun c4 => ?_)
  · have c4 := cEQ (x := z3) (y := 0) (X := z3.toInt) (Y := 0) rfl (by decide) c4
    refine lv_iconst (v := 0) hx hb dX8_listen_16 (by decide) ?_
    refine lv_istore_n (lv' := [(3, .int 0), (0, .ref (A 15)), (1, .ref (A 11)), (2, .int a1)]) hx hb dX8_listen_17 rfl hl (by decide) rfl (fun ls hl => ?_)
    have lp18_263 : ∀ (n18 : Nat) (ls : Array Slot) (y262d : Int32) (u263 : St) (H : Heap) (locs : List Loc), 0 ≤ y262d.toInt → y262d.toInt ≤ 60 → y262d.toInt = 2 * (gi u263 76).toInt → 60 - y262d.toInt < (n18 : Int) → Un [(76, 76)] [(50, 50), (51, 51)] [] u1 u263 → IC u263 → Hd D (cw C A) (va_A (cw C A u) s.heap.size) s.heap u263 H locs → lv_has ls 8 [(3, .int y262d), (0, .ref (A 15)), (1, .ref (A 11)), (2, .int a1)] → W p l e (rmL 1 0 0) s m ar below meth c H locs 0 0 Q (F0 m 18 ls []) := by
      intro n18
      induction n18 with
      | zero => intro ls y262d u263 H locs ly262d my262d x18_0 hmun18 hUu263 hI hH hl; exfalso; omega
      | succ n18 ih18_263 =>
        intro ls y262d u263 H locs ly262d my262d x18_0 hmun18 hUu263 hI hH hl
        refine lv_iload_n hx hb dX8_listen_18 rfl (lv_at hl 0 rfl) ?_
        refine lv_iconst (v := 1) hx hb dX8_listen_19 (by decide) ?_
        refine lv_iadd hx hb dX8_listen_20 ?_
        refine p_nm (tt_add (X := y262d.toInt) (Y := 1) rfl (by decide) (by omega) (by omega)) (fun z265 hz265 => ?_)
        refine lv_aload_n hx hb dX8_listen_21 rfl (lv_at hl 2 rfl) ?_
        refine va_get (ci := 3) (v := .int (gi u263 56)) (C := RX3) (T := TX3) (N := 3) hx hb hts (fun w h => uc_in w (inX3 w h)) hown hK hH.1 11 (cwc11 C A u263) rfl 0 (by decide) (hts _ (uc_in _ q_f193)) (fun _ h9 => h9) rfl dX8_listen_22 ?_
        refine pv_i (v := (gi u1 56)) ((hUu263.1 56 rfl).trans rfl) ?_
        refine lv_icmp_ge (tgt := 121) hx hb dX8_listen_25 (by decide) (fun c266 => ?_) (fun c266 => ?_)
        · have c266 := cLE (x := (gi u1 56)) (y := z265) (X := ((gi u1 56)).toInt) (Y := (y262d.toInt + 1)) rfl hz265 c266
          refine lv_iconst (v := 1) hx hb dX8_listen_121 (by decide) ?_
          exact hret _ _ _ _ (1 : Int32) _ dX8_listen_122 rfl ⟨hI, (Un.tr (Un.si Un.rf rfl eu1) hUu263 rfl rfl rfl), ⟨by decide, by decide⟩⟩ hH
        · have c266 := cNLE (x := (gi u1 56)) (y := z265) (X := ((gi u1 56)).toInt) (Y := (y262d.toInt + 1)) rfl hz265 c266
          refine lv_aload_n hx hb dX8_listen_28 rfl (lv_at hl 2 rfl) ?_
          refine va_get (ci := 3) (v := .ref (A 42)) (C := RX3) (T := TX3) (N := 3) hx hb hts (fun w h => uc_in w (inX3 w h)) hown hK hH.1 11 (cwc11 C A u263) rfl 2 (by decide) (hts _ (uc_in _ q_f199)) (fun _ h9 => h9) rfl dX8_listen_29 ?_
          refine lv_iload_n hx hb dX8_listen_32 rfl (lv_at hl 0 rfl) ?_
          refine va_lald hx hb hK hH.1 42 2 (cwc42 C A u263) rfl (i_ix rfl (by omega) (by omega)) dX8_listen_33 ?_
          refine p_anyl (fun z267 => ?_)
          refine lv_lstore (lv' := [(4, .long z267), (3, .int y262d), (0, .ref (A 15)), (1, .ref (A 11)), (2, .int a1)]) hx hb dX8_listen_34 hl (by decide) rfl (fun ls hl => ?_)
          refine lv_aload_n hx hb dX8_listen_36 rfl (lv_at hl 3 rfl) ?_
          refine va_get (ci := 3) (v := .ref (A 42)) (C := RX3) (T := TX3) (N := 3) hx hb hts (fun w h => uc_in w (inX3 w h)) hown hK hH.1 11 (cwc11 C A u263) rfl 2 (by decide) (hts _ (uc_in _ q_f199)) (fun _ h9 => h9) rfl dX8_listen_37 ?_
          refine lv_iload_n hx hb dX8_listen_40 rfl (lv_at hl 1 rfl) ?_
          refine lv_iconst (v := 1) hx hb dX8_listen_41 (by decide) ?_
          refine lv_iadd hx hb dX8_listen_42 ?_
          refine p_nm (tt_add (X := y262d.toInt) (Y := 1) rfl (by decide) (by omega) (by omega)) (fun z268 hz268 => ?_)
          refine va_lald hx hb hK hH.1 42 2 (cwc42 C A u263) rfl (i_ix hz268 (by omega) (by omega)) dX8_listen_43 ?_
          refine p_anyl (fun z269 => ?_)
          refine lv_lstore (lv' := [(6, .long z269), (4, .long z267), (3, .int y262d), (0, .ref (A 15)), (1, .ref (A 11)), (2, .int a1)]) hx hb dX8_listen_44 hl (by decide) rfl (fun ls hl => ?_)
          refine lv_lload hx hb dX8_listen_46 (lv_at hl 1 rfl) ?_
          refine lv_lconst (v := 0) hx hb dX8_listen_48 (by decide) ?_
          refine W.lcmp hx hb dX8_listen_49 ?_
          refine lv_if_lt (tgt := 79) hx hb dX8_listen_50 (by decide) (fun c270 => ?_) (fun c270 => ?_)
          · have c270 := dLT (X := z267.toInt) (Y := 0) rfl (by decide) c270
            refine lv_iconst (v := 0) hx hb dX8_listen_79 (by decide) ?_
            exact hret _ _ _ _ (0 : Int32) _ dX8_listen_80 rfl ⟨hI, (Un.tr (Un.si Un.rf rfl eu1) hUu263 rfl rfl rfl), ⟨by decide, by decide⟩⟩ hH
          · have c270 := dNLT (X := z267.toInt) (Y := 0) rfl (by decide) c270
            refine lv_lload hx hb dX8_listen_53 (lv_at hl 1 rfl) ?_
            refine lv_iload_n hx hb dX8_listen_55 rfl (lv_at hl 5 rfl) ?_
            refine lv_i2l (v := a1.toInt64) hx hb dX8_listen_56 rfl ?_
            refine W.lcmp hx hb dX8_listen_57 ?_
            refine lv_if_ge (tgt := 79) hx hb dX8_listen_58 (by decide) (fun c271 => ?_) (fun c271 => ?_)
            · have c271 := dGE (X := z267.toInt) (Y := A1) rfl (tt_i2l ha1) c271
              refine lv_iconst (v := 0) hx hb dX8_listen_79 (by decide) ?_
              exact hret _ _ _ _ (0 : Int32) _ dX8_listen_80 rfl ⟨hI, (Un.tr (Un.si Un.rf rfl eu1) hUu263 rfl rfl rfl), ⟨by decide, by decide⟩⟩ hH
            · have c271 := dNGE (X := z267.toInt) (Y := A1) rfl (tt_i2l ha1) c271
              refine lv_lload hx hb dX8_listen_61 (lv_at hl 0 rfl) ?_
              refine lv_ldc2 (v := (-1000)) hx hb hown (hts _ (uc_in _ q_k999)) dX8_listen_63 ?_
              refine W.lcmp hx hb dX8_listen_66 ?_
              refine lv_if_lt (tgt := 79) hx hb dX8_listen_67 (by decide) (fun c272 => ?_) (fun c272 => ?_)
              · have c272 := dLT (X := z269.toInt) (Y := (-1000)) rfl (by decide) c272
                refine lv_iconst (v := 0) hx hb dX8_listen_79 (by decide) ?_
                exact hret _ _ _ _ (0 : Int32) _ dX8_listen_80 rfl ⟨hI, (Un.tr (Un.si Un.rf rfl eu1) hUu263 rfl rfl rfl), ⟨by decide, by decide⟩⟩ hH
              · have c272 := dNLT (X := z269.toInt) (Y := (-1000)) rfl (by decide) c272
                refine lv_lload hx hb dX8_listen_70 (lv_at hl 0 rfl) ?_
                refine lv_ldc2 (v := 1000) hx hb hown (hts _ (uc_in _ q_k1000)) dX8_listen_72 ?_
                refine W.lcmp hx hb dX8_listen_75 ?_
                refine lv_if_le (tgt := 81) hx hb dX8_listen_76 (by decide) (fun c273 => ?_) (fun c273 => ?_)
                · have c273 := dLE (X := z269.toInt) (Y := 1000) rfl (by decide) c273
                  refine lv_aload_n hx hb dX8_listen_81 rfl (lv_at hl 3 rfl) ?_
                  refine va_get (ci := 8) (v := .ref (A 50)) (C := RX8) (T := TX8) (N := 9) hx hb hts (fun w h => uc_in w (inX8 w h)) hown hK hH.1 15 (cwc15 C A u263) rfl 6 (by decide) (hts _ (uc_in _ q_f339)) (fun _ h9 => h9) rfl dX8_listen_82 ?_
                  refine lv_aload_n hx hb dX8_listen_85 rfl (lv_at hl 3 rfl) ?_
                  refine va_get (ci := 8) (v := .int (gi u263 76)) (C := RX8) (T := TX8) (N := 9) hx hb hts (fun w h => uc_in w (inX8 w h)) hown hK hH.1 15 (cwc15 C A u263) rfl 5 (by decide) (hts _ (uc_in _ q_f338)) (fun _ h9 => h9) rfl dX8_listen_86 ?_
                  have b274 := hI.b76
                  refine lv_lload hx hb dX8_listen_89 (lv_at hl 1 rfl) ?_
                  refine lv_l2i hx hb dX8_listen_91 rfl ?_
                  refine p_nm (tt_l2i rfl (by omega) (by omega)) (fun z275 hz275 => ?_)
                  refine r_iast (j := 50) hx hb hK hH 50 1 (cwc50 C A u263) rfl (i_ix rfl (by omega) (by omega)) (cwa50 C A u263) dX8_listen_92 (fun u276 eu276 H locs hH => ?_)
                  have hI := hI.pa50 eu276 hz275 (by omega) (by omega)
                  refine lv_aload_n hx hb dX8_listen_93 rfl (lv_at hl 3 rfl) ?_
                  refine va_get (ci := 8) (v := .ref (A 51)) (C := RX8) (T := TX8) (N := 9) hx hb hts (fun w h => uc_in w (inX8 w h)) hown hK hH.1 15 (cwc15 C A u276) rfl 7 (by decide) (hts _ (uc_in _ q_f340)) (fun _ h9 => h9) rfl dX8_listen_94 ?_
                  refine lv_aload_n hx hb dX8_listen_97 rfl (lv_at hl 3 rfl) ?_
                  refine va_get (ci := 8) (v := .int (gi u276 76)) (C := RX8) (T := TX8) (N := 9) hx hb hts (fun w h => uc_in w (inX8 w h)) hown hK hH.1 15 (cwc15 C A u276) rfl 5 (by decide) (hts _ (uc_in _ q_f338)) (fun _ h9 => h9) rfl dX8_listen_98 ?_
                  refine pv_i (v := (gi u263 76)) ((gi_sa eu276).trans rfl) ?_
                  refine lv_lload hx hb dX8_listen_101 (lv_at hl 0 rfl) ?_
                  refine lv_l2i hx hb dX8_listen_103 rfl ?_
                  refine p_nm (tt_l2i rfl (by omega) (by omega)) (fun z277 hz277 => ?_)
                  refine r_iast (j := 51) hx hb hK hH 51 1 (cwc51 C A u276) rfl (i_ix rfl (by omega) (by omega)) (cwa51 C A u276) dX8_listen_104 (fun u278 eu278 H locs hH => ?_)
                  have hI := hI.pa0 eu278 (by decide)
                  refine lv_aload_n hx hb dX8_listen_105 rfl (lv_at hl 3 rfl) ?_
                  refine lv_dup hx hb dX8_listen_106 rfl ?_
                  refine va_get (ci := 8) (v := .int (gi u278 76)) (C := RX8) (T := TX8) (N := 9) hx hb hts (fun w h => uc_in w (inX8 w h)) hown hK hH.1 15 (cwc15 C A u278) rfl 5 (by decide) (hts _ (uc_in _ q_f338)) (fun _ h9 => h9) rfl dX8_listen_107 ?_
                  refine pv_i (v := (gi u263 76)) ((gi_sa eu278).trans ((gi_sa eu276).trans rfl)) ?_
                  refine lv_iconst (v := 1) hx hb dX8_listen_110 (by decide) ?_
                  refine lv_iadd hx hb dX8_listen_111 ?_
                  refine p_nm (tt_add (X := ((gi u263 76)).toInt) (Y := 1) rfl (by decide) (by omega) (by omega)) (fun z279 hz279 => ?_)
                  refine r_put (j := 76) (ci := 8) (C := RX8) (T := TX8) (N := 9) hx hb hts (fun w h => uc_in w (inX8 w h)) tyX8 tyX8_ok nmX8 hown hK hH 15 (cwc15 C A u278) rfl 5 (by decide) (hts _ (uc_in _ q_f338)) (fun _ h9 => h9) rfl (by decide +kernel) (Nat.le_of_ble_eq_true rfl) (cws76 C A u278 _) dX8_listen_112 (fun u280 eu280 H locs hH => ?_)
                  have hI := hI.s76 eu280 hz279 (by omega) (by omega)
                  obtain ⟨z281, ez281⟩ : ∃ z, z = y262d + Int32.ofInt 2 := ⟨_, rfl⟩
                  have hz281 : z281.toInt = y262d.toInt + 2 := by rw [ez281]; exact tt_add rfl (by decide) (by omega) (by omega)
                  refine lv_iinc (v := z281) (lv' := [(3, .int z281), (6, .long z269), (4, .long z267), (0, .ref (A 15)), (1, .ref (A 11)), (2, .int a1)]) hx hb dX8_listen_115 hl (k := 2) rfl ez281.symm (by decide) rfl (fun ls hl => ?_)
                  refine lv_goto (tgt := 18) hx hb dX8_listen_118 (by decide) ?_
                  exact ih18_263 ls z281 u280 _ _ (by have q9 := (show z281.toInt = (y262d.toInt + 2) from hz281); omega) (by have q9 := (show z281.toInt = (y262d.toInt + 2) from hz281); omega) (by have q76 := (show (gi u280 76).toInt = (((gi u263 76)).toInt + 1) from (congrArg Int32.toInt (show gi u280 76 = z279 from (gi_si eu280))).trans hz279); have r3 := (show (z281 : Int32).toInt = (y262d.toInt + 2) from hz281); omega) (by have q9 := (show z281.toInt = (y262d.toInt + 2) from hz281); omega) (Un.si (Un.sa (Un.sa hUu263 rfl eu276) rfl eu278) rfl eu280) hI hH (lv_sub hl [0, 3, 4, 5] rfl)
                · have c273 := dNLE (X := z269.toInt) (Y := 1000) rfl (by decide) c273
                  refine lv_iconst (v := 0) hx hb dX8_listen_79 (by decide) ?_
                  exact hret _ _ _ _ (0 : Int32) _ dX8_listen_80 rfl ⟨hI, (Un.tr (Un.si Un.rf rfl eu1) hUu263 rfl rfl rfl), ⟨by decide, by decide⟩⟩ hH
    exact lp18_263 61 ls 0 u1 _ _ (by decide) (by decide) (by have q76 := (show (gi u1 76).toInt = 0 from (congrArg Int32.toInt (show gi u1 76 = 0 from (gi_si eu1))).trans (by decide)); have r3 := (show (0 : Int32).toInt = 0 from (by decide)); omega) (by have q9 : (0 : Int32).toInt = 0 := (by decide); omega) Un.rf hI hH hl
  · refine lv_iconst (v := 0) hx hb dX8_listen_14 (by decide) ?_
    exact hret _ _ _ _ (0 : Int32) _ dX8_listen_15 rfl ⟨hI, (Un.si Un.rf rfl eu1), ⟨by decide, by decide⟩⟩ hH
set_option maxHeartbeats 4000000 in
set_option maxRecDepth 100000 in
theorem kX9_hear_0 (l : Launch) (D : va_G) (C : Nat → ClassId) (A : Nat → Nat) (u : St) (hI : IC u) (a0 : Int32) (A0 : Int) (ha0 : a0.toInt = A0) (sz : Nat) : MetI l yX9_hear cX9_hear 2 (some .int) 3 [.ref (A 0), .int a0] D (tyl C) (cw C A) X0 u sz (fun r u' => IC u' ∧ Un [(76, 76)] [(50, 50), (51, 51)] [] u u' ∧ ((-6) ≤ r.toInt ∧ r.toInt ≤ 0)) := by
  refine mI (by decide) (Nat.le_of_ble_eq_true rfl) ?_
  intro p e s m below meth c ls ar Q hx hb hml hown hts hK hH hX hl hret
  have hown : s.vm.findClass RX9 = some m.cls := hown
  have hl : lv_has ls 2 [(0, .ref (A 0)), (1, .int a0)] := hl
  refine lv_iload_n hx hb dX9_hear_0 rfl (lv_at hl 1 rfl) ?_
  refine csS (n := 1) (As := [.int a0]) (rest := []) ⟨hx, hb, hml, hown, hts⟩ uc_in (kX9_isSlot_0 l D C A u hI a0 A0 ha0) q_m911 q_s912 q_i1 q_c913 hvX9_isSlot ⟨(Nat.le_of_ble_eq_true rfl), (Nat.le_of_ble_eq_true rfl)⟩ ⟨(Nat.le_of_ble_eq_true rfl), (Nat.le_of_ble_eq_true rfl)⟩ hK hH.1 rfl hl.1 rfl (Nat.le_of_ble_eq_true rfl) dX9_hear_1 (fun r1 p2 => ?_)
  rcases p2 with ⟨e9, f3, f4⟩ | ⟨e9, fn5⟩
  · subst e9
    refine lv_if_eq (tgt := 14) hx hb dX9_hear_4 (by decide) (fun c6 => absurd c6 (by decide)) (fun c6 => ?_)
    refine lv_aload_n hx hb dX9_hear_7 rfl (lv_at hl 0 rfl) ?_
    refine cvS (n := 0) (As := []) (rest := []) ⟨hx, hb, hml, hown, hts⟩ uc_in (kX9_hasTown_0 l D C A u hI ) q_m678 q_n680 q_p18 q_i1 q_c681 hvX9_hasTown ⟨(Nat.le_of_ble_eq_true rfl), (Nat.le_of_ble_eq_true rfl)⟩ ⟨(Nat.le_of_ble_eq_true rfl), (Nat.le_of_ble_eq_true rfl)⟩ hK hH.1 9 0 rfl (cwc0 C A u) rfl hl.1 rfl (Nat.le_of_ble_eq_true rfl) dX9_hear_8 (fun r7 p8 => ?_)
    have p8 : 0 ≤ r7.toInt ∧ r7.toInt ≤ 1 := p8
    refine lv_if_ne (tgt := 17) hx hb dX9_hear_11 (by decide) (fun c9 => ?_) (fun c9 => ?_)
    · have c9 := cNE (x := r7) (y := 0) (X := r7.toInt) (Y := 0) rfl (by decide) c9
      refine lv_aload_n hx hb dX9_hear_17 rfl (lv_at hl 0 rfl) ?_
      refine va_get (ci := 9) (v := .ref (A 18)) (C := RX9) (T := TX9) (N := 12) hx hb hts (fun w h => uc_in w (inX9 w h)) hown hK hH.1 0 (cwc0 C A u) rfl 6 (by decide) (hts _ (uc_in _ q_f389)) (fun _ h9 => h9) rfl dX9_hear_18 ?_
      refine lv_iload_n hx hb dX9_hear_21 rfl (lv_at hl 1 rfl) ?_
      rcases (show A0 = 0 ∨ A0 = 1 ∨ A0 = 2 ∨ A0 = 3 by omega) with e9 | e9 | e9 | e9
      · have e8 : a0 = 0 := i_lit ha0 (by rw [e9]; decide)
        subst e8
        have q8 : (0 : Int32).toInt = 0 := by decide
        refine r_aald hx hb hK hH.1 18 5 rfl (cwc18 C A u) rfl (i_ix (X := 0) (by decide) (by decide) (by decide)) dX9_hear_22 ?_
        refine pv_v (v := .ref (A 8)) rfl ?_
        refine cvS (n := 0) (As := []) (rest := []) ⟨hx, hb, hml, hown, hts⟩ uc_in (kX3_isThere_0 l D C A u hI ) q_m914 q_n915 q_e916 q_i5 q_c917 hvX3_isThere ⟨(Nat.le_of_ble_eq_true rfl), (Nat.le_of_ble_eq_true rfl)⟩ ⟨(Nat.le_of_ble_eq_true rfl), (Nat.le_of_ble_eq_true rfl)⟩ hK hH.1 3 8 rfl (cwc8 C A u) rfl hl.1 rfl (Nat.le_of_ble_eq_true rfl) dX9_hear_23 (fun r10 p11 => ?_)
        rcases p11 with ⟨e9, f12⟩ | ⟨e9, fn14⟩
        · subst e9
          have b15 := hI.b50
          refine lv_if_ne (tgt := 32) hx hb dX9_hear_26 (by decide) (fun c16 => ?_) (fun c16 => absurd c16 (by decide))
          refine lv_aload_n hx hb dX9_hear_32 rfl (lv_at hl 0 rfl) ?_
          refine va_get (ci := 9) (v := .ref (A 15)) (C := RX9) (T := TX9) (N := 12) hx hb hts (fun w h => uc_in w (inX9 w h)) hown hK hH.1 0 (cwc0 C A u) rfl 10 (by decide) (hts _ (uc_in _ q_f393)) (fun _ h9 => h9) rfl dX9_hear_33 ?_
          refine lv_aload_n hx hb dX9_hear_36 rfl (lv_at hl 0 rfl) ?_
          refine va_get (ci := 9) (v := .ref (A 18)) (C := RX9) (T := TX9) (N := 12) hx hb hts (fun w h => uc_in w (inX9 w h)) hown hK hH.1 0 (cwc0 C A u) rfl 6 (by decide) (hts _ (uc_in _ q_f389)) (fun _ h9 => h9) rfl dX9_hear_37 ?_
          refine lv_iload_n hx hb dX9_hear_40 rfl (lv_at hl 1 rfl) ?_
          refine r_aald hx hb hK hH.1 18 5 rfl (cwc18 C A u) rfl (i_ix (X := 0) (by decide) (by decide) (by decide)) dX9_hear_41 ?_
          refine pv_v (v := .ref (A 8)) rfl ?_
          refine lv_aload_n hx hb dX9_hear_42 rfl (lv_at hl 0 rfl) ?_
          refine va_get (ci := 9) (v := .ref (A 7)) (C := RX9) (T := TX9) (N := 12) hx hb hts (fun w h => uc_in w (inX9 w h)) hown hK hH.1 0 (cwc0 C A u) rfl 5 (by decide) (hts _ (uc_in _ q_f388)) (fun _ h9 => h9) rfl dX9_hear_43 ?_
          refine va_get (ci := 5) (v := .int (gi u 48)) (C := RX5) (T := TX5) (N := 4) hx hb hts (fun w h => uc_in w (inX5 w h)) hown hK hH.1 7 (cwc7 C A u) rfl 0 (by decide) (hts _ (uc_in _ q_f164)) (fun _ h9 => h9) rfl dX9_hear_46 ?_
          have b17 := hI.b48
          refine cvI (n := 2) (As := [.ref (A 8), .int (gi u 48)]) (rest := []) ⟨hx, hb, hml, hown, hts⟩ uc_in (kX8_listen_0 l D C A u hI (gi u 48) (((gi u 48)).toInt) rfl (by omega) (by omega) _) q_m995 q_n996 q_e997 q_i9 q_c998 hvX8_listen ⟨(Nat.le_of_ble_eq_true rfl), (Nat.le_of_ble_eq_true rfl)⟩ ⟨(Nat.le_of_ble_eq_true rfl), (Nat.le_of_ble_eq_true rfl)⟩ hK hH (fun q h => Or.inr h) Bl0 (fun _ _ _ => trivial) 8 15 rfl (cwc15 C A u) rfl hl.1 rfl (Nat.le_of_ble_eq_true rfl) dX9_hear_49 (fun r19 u18 H locs p20 hH => ?_)
          obtain ⟨hI, hUu18, p20⟩ := p20
          have p20 : 0 ≤ r19.toInt ∧ r19.toInt ≤ 1 := p20
          refine lv_if_eq (tgt := 59) hx hb dX9_hear_52 (by decide) (fun c21 => ?_) (fun c21 => ?_)
          · have c21 := cEQ (x := r19) (y := 0) (X := r19.toInt) (Y := 0) rfl (by decide) c21
            refine lv_bipush (v := (-2)) hx hb dX9_hear_59 (by decide) ?_
            exact hret _ _ _ _ ((-2) : Int32) _ dX9_hear_61 rfl ⟨hI, (Un.tr Un.rf hUu18 rfl rfl rfl), ⟨by decide, by decide⟩⟩ hH
          · have c21 := cNE (x := r19) (y := 0) (X := r19.toInt) (Y := 0) rfl (by decide) c21
            refine lv_iconst (v := 0) hx hb dX9_hear_55 (by decide) ?_
            refine lv_goto (tgt := 61) hx hb dX9_hear_56 (by decide) ?_
            exact hret _ _ _ _ (0 : Int32) _ dX9_hear_61 rfl ⟨hI, (Un.tr Un.rf hUu18 rfl rfl rfl), ⟨by decide, by decide⟩⟩ hH
        · subst e9
          refine lv_if_ne (tgt := 32) hx hb dX9_hear_26 (by decide) (fun c22 => absurd c22 (by decide)) (fun c22 => ?_)
          refine lv_bipush (v := (-6)) hx hb dX9_hear_29 (by decide) ?_
          exact hret _ _ _ _ ((-6) : Int32) _ dX9_hear_31 rfl ⟨hI, Un.rf, ⟨by decide, by decide⟩⟩ hH
      · have e8 : a0 = 1 := i_lit ha0 (by rw [e9]; decide)
        subst e8
        have q8 : (1 : Int32).toInt = 1 := by decide
        refine r_aald hx hb hK hH.1 18 5 rfl (cwc18 C A u) rfl (i_ix (X := 1) (by decide) (by decide) (by decide)) dX9_hear_22 ?_
        refine pv_v (v := .ref (A 9)) rfl ?_
        refine cvS (n := 0) (As := []) (rest := []) ⟨hx, hb, hml, hown, hts⟩ uc_in (kX3_isThere_1 l D C A u hI ) q_m914 q_n915 q_e916 q_i5 q_c917 hvX3_isThere ⟨(Nat.le_of_ble_eq_true rfl), (Nat.le_of_ble_eq_true rfl)⟩ ⟨(Nat.le_of_ble_eq_true rfl), (Nat.le_of_ble_eq_true rfl)⟩ hK hH.1 3 9 rfl (cwc9 C A u) rfl hl.1 rfl (Nat.le_of_ble_eq_true rfl) dX9_hear_23 (fun r23 p24 => ?_)
        rcases p24 with ⟨e9, f25⟩ | ⟨e9, fn27⟩
        · subst e9
          have b28 := hI.b52
          refine lv_if_ne (tgt := 32) hx hb dX9_hear_26 (by decide) (fun c29 => ?_) (fun c29 => absurd c29 (by decide))
          refine lv_aload_n hx hb dX9_hear_32 rfl (lv_at hl 0 rfl) ?_
          refine va_get (ci := 9) (v := .ref (A 15)) (C := RX9) (T := TX9) (N := 12) hx hb hts (fun w h => uc_in w (inX9 w h)) hown hK hH.1 0 (cwc0 C A u) rfl 10 (by decide) (hts _ (uc_in _ q_f393)) (fun _ h9 => h9) rfl dX9_hear_33 ?_
          refine lv_aload_n hx hb dX9_hear_36 rfl (lv_at hl 0 rfl) ?_
          refine va_get (ci := 9) (v := .ref (A 18)) (C := RX9) (T := TX9) (N := 12) hx hb hts (fun w h => uc_in w (inX9 w h)) hown hK hH.1 0 (cwc0 C A u) rfl 6 (by decide) (hts _ (uc_in _ q_f389)) (fun _ h9 => h9) rfl dX9_hear_37 ?_
          refine lv_iload_n hx hb dX9_hear_40 rfl (lv_at hl 1 rfl) ?_
          refine r_aald hx hb hK hH.1 18 5 rfl (cwc18 C A u) rfl (i_ix (X := 1) (by decide) (by decide) (by decide)) dX9_hear_41 ?_
          refine pv_v (v := .ref (A 9)) rfl ?_
          refine lv_aload_n hx hb dX9_hear_42 rfl (lv_at hl 0 rfl) ?_
          refine va_get (ci := 9) (v := .ref (A 7)) (C := RX9) (T := TX9) (N := 12) hx hb hts (fun w h => uc_in w (inX9 w h)) hown hK hH.1 0 (cwc0 C A u) rfl 5 (by decide) (hts _ (uc_in _ q_f388)) (fun _ h9 => h9) rfl dX9_hear_43 ?_
          refine va_get (ci := 5) (v := .int (gi u 48)) (C := RX5) (T := TX5) (N := 4) hx hb hts (fun w h => uc_in w (inX5 w h)) hown hK hH.1 7 (cwc7 C A u) rfl 0 (by decide) (hts _ (uc_in _ q_f164)) (fun _ h9 => h9) rfl dX9_hear_46 ?_
          have b30 := hI.b48
          refine cvI (n := 2) (As := [.ref (A 9), .int (gi u 48)]) (rest := []) ⟨hx, hb, hml, hown, hts⟩ uc_in (kX8_listen_1 l D C A u hI (gi u 48) (((gi u 48)).toInt) rfl (by omega) (by omega) _) q_m995 q_n996 q_e997 q_i9 q_c998 hvX8_listen ⟨(Nat.le_of_ble_eq_true rfl), (Nat.le_of_ble_eq_true rfl)⟩ ⟨(Nat.le_of_ble_eq_true rfl), (Nat.le_of_ble_eq_true rfl)⟩ hK hH (fun q h => Or.inr h) Bl0 (fun _ _ _ => trivial) 8 15 rfl (cwc15 C A u) rfl hl.1 rfl (Nat.le_of_ble_eq_true rfl) dX9_hear_49 (fun r32 u31 H locs p33 hH => ?_)
          obtain ⟨hI, hUu31, p33⟩ := p33
          have p33 : 0 ≤ r32.toInt ∧ r32.toInt ≤ 1 := p33
          refine lv_if_eq (tgt := 59) hx hb dX9_hear_52 (by decide) (fun c34 => ?_) (fun c34 => ?_)
          · have c34 := cEQ (x := r32) (y := 0) (X := r32.toInt) (Y := 0) rfl (by decide) c34
            refine lv_bipush (v := (-2)) hx hb dX9_hear_59 (by decide) ?_
            exact hret _ _ _ _ ((-2) : Int32) _ dX9_hear_61 rfl ⟨hI, (Un.tr Un.rf hUu31 rfl rfl rfl), ⟨by decide, by decide⟩⟩ hH
          · have c34 := cNE (x := r32) (y := 0) (X := r32.toInt) (Y := 0) rfl (by decide) c34
            refine lv_iconst (v := 0) hx hb dX9_hear_55 (by decide) ?_
            refine lv_goto (tgt := 61) hx hb dX9_hear_56 (by decide) ?_
            exact hret _ _ _ _ (0 : Int32) _ dX9_hear_61 rfl ⟨hI, (Un.tr Un.rf hUu31 rfl rfl rfl), ⟨by decide, by decide⟩⟩ hH
        · subst e9
          refine lv_if_ne (tgt := 32) hx hb dX9_hear_26 (by decide) (fun c35 => absurd c35 (by decide)) (fun c35 => ?_)
          refine lv_bipush (v := (-6)) hx hb dX9_hear_29 (by decide) ?_
          exact hret _ _ _ _ ((-6) : Int32) _ dX9_hear_31 rfl ⟨hI, Un.rf, ⟨by decide, by decide⟩⟩ hH
      · have e8 : a0 = 2 := i_lit ha0 (by rw [e9]; decide)
        subst e8
        have q8 : (2 : Int32).toInt = 2 := by decide
        refine r_aald hx hb hK hH.1 18 5 rfl (cwc18 C A u) rfl (i_ix (X := 2) (by decide) (by decide) (by decide)) dX9_hear_22 ?_
        refine pv_v (v := .ref (A 10)) rfl ?_
        refine cvS (n := 0) (As := []) (rest := []) ⟨hx, hb, hml, hown, hts⟩ uc_in (kX3_isThere_2 l D C A u hI ) q_m914 q_n915 q_e916 q_i5 q_c917 hvX3_isThere ⟨(Nat.le_of_ble_eq_true rfl), (Nat.le_of_ble_eq_true rfl)⟩ ⟨(Nat.le_of_ble_eq_true rfl), (Nat.le_of_ble_eq_true rfl)⟩ hK hH.1 3 10 rfl (cwc10 C A u) rfl hl.1 rfl (Nat.le_of_ble_eq_true rfl) dX9_hear_23 (fun r36 p37 => ?_)
        rcases p37 with ⟨e9, f38⟩ | ⟨e9, fn40⟩
        · subst e9
          have b41 := hI.b54
          refine lv_if_ne (tgt := 32) hx hb dX9_hear_26 (by decide) (fun c42 => ?_) (fun c42 => absurd c42 (by decide))
          refine lv_aload_n hx hb dX9_hear_32 rfl (lv_at hl 0 rfl) ?_
          refine va_get (ci := 9) (v := .ref (A 15)) (C := RX9) (T := TX9) (N := 12) hx hb hts (fun w h => uc_in w (inX9 w h)) hown hK hH.1 0 (cwc0 C A u) rfl 10 (by decide) (hts _ (uc_in _ q_f393)) (fun _ h9 => h9) rfl dX9_hear_33 ?_
          refine lv_aload_n hx hb dX9_hear_36 rfl (lv_at hl 0 rfl) ?_
          refine va_get (ci := 9) (v := .ref (A 18)) (C := RX9) (T := TX9) (N := 12) hx hb hts (fun w h => uc_in w (inX9 w h)) hown hK hH.1 0 (cwc0 C A u) rfl 6 (by decide) (hts _ (uc_in _ q_f389)) (fun _ h9 => h9) rfl dX9_hear_37 ?_
          refine lv_iload_n hx hb dX9_hear_40 rfl (lv_at hl 1 rfl) ?_
          refine r_aald hx hb hK hH.1 18 5 rfl (cwc18 C A u) rfl (i_ix (X := 2) (by decide) (by decide) (by decide)) dX9_hear_41 ?_
          refine pv_v (v := .ref (A 10)) rfl ?_
          refine lv_aload_n hx hb dX9_hear_42 rfl (lv_at hl 0 rfl) ?_
          refine va_get (ci := 9) (v := .ref (A 7)) (C := RX9) (T := TX9) (N := 12) hx hb hts (fun w h => uc_in w (inX9 w h)) hown hK hH.1 0 (cwc0 C A u) rfl 5 (by decide) (hts _ (uc_in _ q_f388)) (fun _ h9 => h9) rfl dX9_hear_43 ?_
          refine va_get (ci := 5) (v := .int (gi u 48)) (C := RX5) (T := TX5) (N := 4) hx hb hts (fun w h => uc_in w (inX5 w h)) hown hK hH.1 7 (cwc7 C A u) rfl 0 (by decide) (hts _ (uc_in _ q_f164)) (fun _ h9 => h9) rfl dX9_hear_46 ?_
          have b43 := hI.b48
          refine cvI (n := 2) (As := [.ref (A 10), .int (gi u 48)]) (rest := []) ⟨hx, hb, hml, hown, hts⟩ uc_in (kX8_listen_2 l D C A u hI (gi u 48) (((gi u 48)).toInt) rfl (by omega) (by omega) _) q_m995 q_n996 q_e997 q_i9 q_c998 hvX8_listen ⟨(Nat.le_of_ble_eq_true rfl), (Nat.le_of_ble_eq_true rfl)⟩ ⟨(Nat.le_of_ble_eq_true rfl), (Nat.le_of_ble_eq_true rfl)⟩ hK hH (fun q h => Or.inr h) Bl0 (fun _ _ _ => trivial) 8 15 rfl (cwc15 C A u) rfl hl.1 rfl (Nat.le_of_ble_eq_true rfl) dX9_hear_49 (fun r45 u44 H locs p46 hH => ?_)
          obtain ⟨hI, hUu44, p46⟩ := p46
          have p46 : 0 ≤ r45.toInt ∧ r45.toInt ≤ 1 := p46
          refine lv_if_eq (tgt := 59) hx hb dX9_hear_52 (by decide) (fun c47 => ?_) (fun c47 => ?_)
          · have c47 := cEQ (x := r45) (y := 0) (X := r45.toInt) (Y := 0) rfl (by decide) c47
            refine lv_bipush (v := (-2)) hx hb dX9_hear_59 (by decide) ?_
            exact hret _ _ _ _ ((-2) : Int32) _ dX9_hear_61 rfl ⟨hI, (Un.tr Un.rf hUu44 rfl rfl rfl), ⟨by decide, by decide⟩⟩ hH
          · have c47 := cNE (x := r45) (y := 0) (X := r45.toInt) (Y := 0) rfl (by decide) c47
            refine lv_iconst (v := 0) hx hb dX9_hear_55 (by decide) ?_
            refine lv_goto (tgt := 61) hx hb dX9_hear_56 (by decide) ?_
            exact hret _ _ _ _ (0 : Int32) _ dX9_hear_61 rfl ⟨hI, (Un.tr Un.rf hUu44 rfl rfl rfl), ⟨by decide, by decide⟩⟩ hH
        · subst e9
          refine lv_if_ne (tgt := 32) hx hb dX9_hear_26 (by decide) (fun c48 => absurd c48 (by decide)) (fun c48 => ?_)
          refine lv_bipush (v := (-6)) hx hb dX9_hear_29 (by decide) ?_
          exact hret _ _ _ _ ((-6) : Int32) _ dX9_hear_31 rfl ⟨hI, Un.rf, ⟨by decide, by decide⟩⟩ hH
      · have e8 : a0 = 3 := i_lit ha0 (by rw [e9]; decide)
        subst e8
        have q8 : (3 : Int32).toInt = 3 := by decide
        refine r_aald hx hb hK hH.1 18 5 rfl (cwc18 C A u) rfl (i_ix (X := 3) (by decide) (by decide) (by decide)) dX9_hear_22 ?_
        refine pv_v (v := .ref (A 11)) rfl ?_
        refine cvS (n := 0) (As := []) (rest := []) ⟨hx, hb, hml, hown, hts⟩ uc_in (kX3_isThere_3 l D C A u hI ) q_m914 q_n915 q_e916 q_i5 q_c917 hvX3_isThere ⟨(Nat.le_of_ble_eq_true rfl), (Nat.le_of_ble_eq_true rfl)⟩ ⟨(Nat.le_of_ble_eq_true rfl), (Nat.le_of_ble_eq_true rfl)⟩ hK hH.1 3 11 rfl (cwc11 C A u) rfl hl.1 rfl (Nat.le_of_ble_eq_true rfl) dX9_hear_23 (fun r49 p50 => ?_)
        rcases p50 with ⟨e9, f51⟩ | ⟨e9, fn53⟩
        · subst e9
          have b54 := hI.b56
          refine lv_if_ne (tgt := 32) hx hb dX9_hear_26 (by decide) (fun c55 => ?_) (fun c55 => absurd c55 (by decide))
          refine lv_aload_n hx hb dX9_hear_32 rfl (lv_at hl 0 rfl) ?_
          refine va_get (ci := 9) (v := .ref (A 15)) (C := RX9) (T := TX9) (N := 12) hx hb hts (fun w h => uc_in w (inX9 w h)) hown hK hH.1 0 (cwc0 C A u) rfl 10 (by decide) (hts _ (uc_in _ q_f393)) (fun _ h9 => h9) rfl dX9_hear_33 ?_
          refine lv_aload_n hx hb dX9_hear_36 rfl (lv_at hl 0 rfl) ?_
          refine va_get (ci := 9) (v := .ref (A 18)) (C := RX9) (T := TX9) (N := 12) hx hb hts (fun w h => uc_in w (inX9 w h)) hown hK hH.1 0 (cwc0 C A u) rfl 6 (by decide) (hts _ (uc_in _ q_f389)) (fun _ h9 => h9) rfl dX9_hear_37 ?_
          refine lv_iload_n hx hb dX9_hear_40 rfl (lv_at hl 1 rfl) ?_
          refine r_aald hx hb hK hH.1 18 5 rfl (cwc18 C A u) rfl (i_ix (X := 3) (by decide) (by decide) (by decide)) dX9_hear_41 ?_
          refine pv_v (v := .ref (A 11)) rfl ?_
          refine lv_aload_n hx hb dX9_hear_42 rfl (lv_at hl 0 rfl) ?_
          refine va_get (ci := 9) (v := .ref (A 7)) (C := RX9) (T := TX9) (N := 12) hx hb hts (fun w h => uc_in w (inX9 w h)) hown hK hH.1 0 (cwc0 C A u) rfl 5 (by decide) (hts _ (uc_in _ q_f388)) (fun _ h9 => h9) rfl dX9_hear_43 ?_
          refine va_get (ci := 5) (v := .int (gi u 48)) (C := RX5) (T := TX5) (N := 4) hx hb hts (fun w h => uc_in w (inX5 w h)) hown hK hH.1 7 (cwc7 C A u) rfl 0 (by decide) (hts _ (uc_in _ q_f164)) (fun _ h9 => h9) rfl dX9_hear_46 ?_
          have b56 := hI.b48
          refine cvI (n := 2) (As := [.ref (A 11), .int (gi u 48)]) (rest := []) ⟨hx, hb, hml, hown, hts⟩ uc_in (kX8_listen_3 l D C A u hI (gi u 48) (((gi u 48)).toInt) rfl (by omega) (by omega) _) q_m995 q_n996 q_e997 q_i9 q_c998 hvX8_listen ⟨(Nat.le_of_ble_eq_true rfl), (Nat.le_of_ble_eq_true rfl)⟩ ⟨(Nat.le_of_ble_eq_true rfl), (Nat.le_of_ble_eq_true rfl)⟩ hK hH (fun q h => Or.inr h) Bl0 (fun _ _ _ => trivial) 8 15 rfl (cwc15 C A u) rfl hl.1 rfl (Nat.le_of_ble_eq_true rfl) dX9_hear_49 (fun r58 u57 H locs p59 hH => ?_)
          obtain ⟨hI, hUu57, p59⟩ := p59
          have p59 : 0 ≤ r58.toInt ∧ r58.toInt ≤ 1 := p59
          refine lv_if_eq (tgt := 59) hx hb dX9_hear_52 (by decide) (fun c60 => ?_) (fun c60 => ?_)
          · have c60 := cEQ (x := r58) (y := 0) (X := r58.toInt) (Y := 0) rfl (by decide) c60
            refine lv_bipush (v := (-2)) hx hb dX9_hear_59 (by decide) ?_
            exact hret _ _ _ _ ((-2) : Int32) _ dX9_hear_61 rfl ⟨hI, (Un.tr Un.rf hUu57 rfl rfl rfl), ⟨by decide, by decide⟩⟩ hH
          · have c60 := cNE (x := r58) (y := 0) (X := r58.toInt) (Y := 0) rfl (by decide) c60
            refine lv_iconst (v := 0) hx hb dX9_hear_55 (by decide) ?_
            refine lv_goto (tgt := 61) hx hb dX9_hear_56 (by decide) ?_
            exact hret _ _ _ _ (0 : Int32) _ dX9_hear_61 rfl ⟨hI, (Un.tr Un.rf hUu57 rfl rfl rfl), ⟨by decide, by decide⟩⟩ hH
        · subst e9
          refine lv_if_ne (tgt := 32) hx hb dX9_hear_26 (by decide) (fun c61 => absurd c61 (by decide)) (fun c61 => ?_)
          refine lv_bipush (v := (-6)) hx hb dX9_hear_29 (by decide) ?_
          exact hret _ _ _ _ ((-6) : Int32) _ dX9_hear_31 rfl ⟨hI, Un.rf, ⟨by decide, by decide⟩⟩ hH
    · have c9 := cEQ (x := r7) (y := 0) (X := r7.toInt) (Y := 0) rfl (by decide) c9
      refine lv_bipush (v := (-2)) hx hb dX9_hear_14 (by decide) ?_
      exact hret _ _ _ _ ((-2) : Int32) _ dX9_hear_16 rfl ⟨hI, Un.rf, ⟨by decide, by decide⟩⟩ hH
  · subst e9
    refine lv_if_eq (tgt := 14) hx hb dX9_hear_4 (by decide) (fun c62 => ?_) (fun c62 => absurd c62 (by decide))
    refine lv_bipush (v := (-2)) hx hb dX9_hear_14 (by decide) ?_
    exact hret _ _ _ _ ((-2) : Int32) _ dX9_hear_16 rfl ⟨hI, Un.rf, ⟨by decide, by decide⟩⟩ hH
set_option maxHeartbeats 4000000 in
set_option maxRecDepth 100000 in
theorem kX8_isSeenWithout_0 (l : Launch) (D : va_G) (C : Nat → ClassId) (A : Nat → Nat) (u : St) (hI : IC u) (a1 : Int32) (A1 : Int) (ha1 : a1.toInt = A1) : Met l yX8_isSeenWithout (uc yX8_isSeenWithout cX8_isSeenWithout 5 (some .boolean)) (rmL 3 0 0) (va_Pc [.ref (A 15), .ref (A 7), .int a1] (PreR D (tyl C) (cw C A u))) (vp_Si (fun r => 0 ≤ r.toInt ∧ r.toInt ≤ 1)) 0 0 (fun _ => False) := by
  refine mS (by decide) (Nat.le_of_ble_eq_true rfl) ?_
  intro p e s m below meth c ls ar Q hx hb hml hown hts hK hP hl hret
  have hown : s.vm.findClass RX8 = some m.cls := hown
  have hl : lv_has ls 5 [(0, .ref (A 15)), (1, .ref (A 7)), (2, .int a1)] := hl
  refine lv_iconst (v := 0) hx hb dX8_isSeenWithout_0 (by decide) ?_
  refine lv_istore_n (lv' := [(3, .int 0), (0, .ref (A 15)), (1, .ref (A 7)), (2, .int a1)]) hx hb dX8_isSeenWithout_1 rfl hl (by decide) rfl (fun ls hl => ?_)
  have lp2_97 : ∀ (n2 : Nat) (ls : Array Slot) (y97d : Int32), 0 ≤ y97d.toInt → y97d.toInt ≤ 30 → 30 - y97d.toInt < (n2 : Int) → lv_has ls 5 [(3, .int y97d), (0, .ref (A 15)), (1, .ref (A 7)), (2, .int a1)] → W p l e (rmL 3 0 0) s m ar below meth c s.heap [] 0 0 Q (F0 m 2 ls []) := by
    intro n2
    induction n2 with
    | zero => intro ls y97d ly97d my97d hmun2 hl; exfalso; omega
    | succ n2 ih2_97 =>
      intro ls y97d ly97d my97d hmun2 hl
      refine lv_iload_n hx hb dX8_isSeenWithout_2 rfl (lv_at hl 0 rfl) ?_
      refine lv_aload_n hx hb dX8_isSeenWithout_3 rfl (lv_at hl 1 rfl) ?_
      refine va_get (ci := 8) (v := .int (gi u 76)) (C := RX8) (T := TX8) (N := 9) hx hb hts (fun w h => uc_in w (inX8 w h)) hown hK hP 15 (cwc15 C A u) rfl 5 (by decide) (hts _ (uc_in _ q_f338)) (fun _ h9 => h9) rfl dX8_isSeenWithout_4 ?_
      have b99 := hI.b76
      refine lv_icmp_ge (tgt := 56) hx hb dX8_isSeenWithout_7 (by decide) (fun c100 => ?_) (fun c100 => ?_)
      · have c100 := cLE (x := (gi u 76)) (y := y97d) (X := ((gi u 76)).toInt) (Y := y97d.toInt) rfl rfl c100
        refine lv_iconst (v := 1) hx hb dX8_isSeenWithout_56 (by decide) ?_
        exact hret _ _ (1 : Int32) dX8_isSeenWithout_57 rfl ⟨by decide, by decide⟩
      · have c100 := cNLE (x := (gi u 76)) (y := y97d) (X := ((gi u 76)).toInt) (Y := y97d.toInt) rfl rfl c100
        refine lv_aload_n hx hb dX8_isSeenWithout_10 rfl (lv_at hl 1 rfl) ?_
        refine va_get (ci := 8) (v := .ref (A 50)) (C := RX8) (T := TX8) (N := 9) hx hb hts (fun w h => uc_in w (inX8 w h)) hown hK hP 15 (cwc15 C A u) rfl 6 (by decide) (hts _ (uc_in _ q_f339)) (fun _ h9 => h9) rfl dX8_isSeenWithout_11 ?_
        refine lv_iload_n hx hb dX8_isSeenWithout_14 rfl (lv_at hl 0 rfl) ?_
        refine va_iald hx hb hK hP 50 1 (cwc50 C A u) rfl (i_ix rfl (by omega) (by omega)) dX8_isSeenWithout_15 ?_
        have b101 : 0 ≤ ((ga u 50 (Int32.toNatClampNeg y97d))).toInt ∧ ((ga u 50 (Int32.toNatClampNeg y97d))).toInt ≤ 6 := hI.a50 _
        refine lv_istore (lv' := [(4, .int (ga u 50 (Int32.toNatClampNeg y97d))), (3, .int y97d), (0, .ref (A 15)), (1, .ref (A 7)), (2, .int a1)]) hx hb dX8_isSeenWithout_16 hl (by decide) rfl (fun ls hl => ?_)
        refine lv_aload_n hx hb dX8_isSeenWithout_18 rfl (lv_at hl 3 rfl) ?_
        refine va_get (ci := 5) (v := .ref (A 19)) (C := RX5) (T := TX5) (N := 4) hx hb hts (fun w h => uc_in w (inX5 w h)) hown hK hP 7 (cwc7 C A u) rfl 2 (by decide) (hts _ (uc_in _ q_f170)) (fun _ h9 => h9) rfl dX8_isSeenWithout_19 ?_
        refine lv_iload hx hb dX8_isSeenWithout_22 (lv_at hl 0 rfl) ?_
        refine r_aald hx hb hK hP 19 6 rfl (cwc19 C A u) rfl (i_ix rfl (by omega) (by omega)) dX8_isSeenWithout_24 ?_
        obtain ⟨k102, hk102, ek102⟩ : ∃ k : Nat, (k : Int) = 32 + ((ga u 50 (Int32.toNatClampNeg y97d))).toInt ∧ k = 32 + Int32.toNatClampNeg (ga u 50 (Int32.toNatClampNeg y97d)) := ⟨_, by have q9 := i_cl (x := (ga u 50 (Int32.toNatClampNeg y97d))) (X := ((ga u 50 (Int32.toNatClampNeg y97d))).toInt) rfl (by omega); omega, rfl⟩
        refine pv_v (v := .ref (A (52 + k102))) (by rw [ek102]; rfl) ?_
        refine lv_aload_n hx hb dX8_isSeenWithout_25 rfl (lv_at hl 3 rfl) ?_
        refine va_get (ci := 5) (v := .ref (A 38)) (C := RX5) (T := TX5) (N := 4) hx hb hts (fun w h => uc_in w (inX5 w h)) hown hK hP 7 (cwc7 C A u) rfl 3 (by decide) (hts _ (uc_in _ q_f174)) (fun _ h9 => h9) rfl dX8_isSeenWithout_26 ?_
        refine lv_iload hx hb dX8_isSeenWithout_29 (lv_at hl 0 rfl) ?_
        refine va_iald hx hb hK hP 38 1 (cwc38 C A u) rfl (i_ix rfl (by omega) (by omega)) dX8_isSeenWithout_31 ?_
        refine p_any (fun z103 => ?_)
        refine lv_iload_n hx hb dX8_isSeenWithout_32 rfl (lv_at hl 4 rfl) ?_
        refine lv_iconst (v := (-1)) hx hb dX8_isSeenWithout_33 (by decide) ?_
        refine lv_ixor hx hb dX8_isSeenWithout_34 ?_
        refine p_any (fun z104 => ?_)
        refine lv_iand hx hb dX8_isSeenWithout_35 ?_
        refine p_any (fun z105 => ?_)
        refine csS (n := 2) (As := [.ref (A (52 + k102)), .int z105]) (rest := []) ⟨hx, hb, hml, hown, hts⟩ uc_in (kX5_noonOf_0 l D C A u hI k102 (by omega) z105 z105.toInt rfl) q_m1009 q_s610 q_i4 q_c611 hvX5_noonOf ⟨(Nat.le_of_ble_eq_true rfl), (Nat.le_of_ble_eq_true rfl)⟩ ⟨(Nat.le_of_ble_eq_true rfl), (Nat.le_of_ble_eq_true rfl)⟩ hK hP rfl hl.1 rfl (Nat.le_of_ble_eq_true rfl) dX8_isSeenWithout_36 (fun r106 p107 => ?_)
        refine lv_aload_n hx hb dX8_isSeenWithout_39 rfl (lv_at hl 2 rfl) ?_
        refine va_get (ci := 8) (v := .ref (A 51)) (C := RX8) (T := TX8) (N := 9) hx hb hts (fun w h => uc_in w (inX8 w h)) hown hK hP 15 (cwc15 C A u) rfl 7 (by decide) (hts _ (uc_in _ q_f340)) (fun _ h9 => h9) rfl dX8_isSeenWithout_40 ?_
        refine lv_iload_n hx hb dX8_isSeenWithout_43 rfl (lv_at hl 1 rfl) ?_
        refine va_iald hx hb hK hP 51 1 (cwc51 C A u) rfl (i_ix rfl (by omega) (by omega)) dX8_isSeenWithout_44 ?_
        refine p_any (fun z108 => ?_)
        refine lv_icmp_eq (tgt := 50) hx hb dX8_isSeenWithout_45 (by decide) (fun c109 => ?_) (fun c109 => ?_)
        · have c109 := cEQ (x := r106) (y := z108) (X := r106.toInt) (Y := z108.toInt) rfl rfl c109
          obtain ⟨z110, ez110⟩ : ∃ z, z = y97d + Int32.ofInt 1 := ⟨_, rfl⟩
          have hz110 : z110.toInt = y97d.toInt + 1 := by rw [ez110]; exact tt_add rfl (by decide) (by omega) (by omega)
          refine lv_iinc (v := z110) (lv' := [(3, .int z110), (4, .int (ga u 50 (Int32.toNatClampNeg y97d))), (0, .ref (A 15)), (1, .ref (A 7)), (2, .int a1)]) hx hb dX8_isSeenWithout_50 hl (k := 1) rfl ez110.symm (by decide) rfl (fun ls hl => ?_)
          refine lv_goto (tgt := 2) hx hb dX8_isSeenWithout_53 (by decide) ?_
          exact ih2_97 ls z110 (by have q9 := (show z110.toInt = (y97d.toInt + 1) from hz110); omega) (by have q9 := (show z110.toInt = (y97d.toInt + 1) from hz110); omega) (by have q9 := (show z110.toInt = (y97d.toInt + 1) from hz110); omega) (lv_sub hl [0, 2, 3, 4] rfl)
        · refine lv_iconst (v := 0) hx hb dX8_isSeenWithout_48 (by decide) ?_
          exact hret _ _ (0 : Int32) dX8_isSeenWithout_49 rfl ⟨by decide, by decide⟩
  exact lp2_97 31 ls 0 (by decide) (by decide) (by have q9 : (0 : Int32).toInt = 0 := (by decide); omega) hl
set_option maxHeartbeats 4000000 in
set_option maxRecDepth 100000 in
theorem kJ6_bitCount_0f7a4_0 (l : Launch) (D : va_G) (C : Nat → ClassId) (A : Nat → Nat) (u : St) (hI : IC u) (a0 : Int32) (A0 : Int) (ha0 : a0.toInt = A0) : Met l yJ6_bitCount_0f7a4 (uc yJ6_bitCount_0f7a4 cJ6_bitCount_0f7a4 1 (some .int)) (rmL 1 0 0) (va_Pc [.int a0] (PreR D (tyl C) (cw C A u))) (vp_Si (fun r => 0 ≤ r.toInt ∧ r.toInt ≤ 63)) 0 0 (fun _ => False) := by
  refine mS (by decide) (Nat.le_of_ble_eq_true rfl) ?_
  intro p e s m below meth c ls ar Q hx hb hml hown hts hK hP hl hret
  have hown : s.vm.findClass RJ6 = some m.cls := hown
  have hl : lv_has ls 1 [(0, .int a0)] := hl
  refine lv_iload_n hx hb dJ6_bitCount_0f7a4_0 rfl (lv_at hl 0 rfl) ?_
  refine lv_iload_n hx hb dJ6_bitCount_0f7a4_1 rfl (lv_at hl 0 rfl) ?_
  refine lv_iconst (v := 1) hx hb dJ6_bitCount_0f7a4_2 (by decide) ?_
  refine lv_iushr hx hb dJ6_bitCount_0f7a4_3 rfl ?_
  refine p_any (fun z1 => ?_)
  refine lv_ldcw (v := 1431655765) hx hb hown (hts _ (uc_in _ q_k709)) dJ6_bitCount_0f7a4_4 ?_
  refine lv_iand hx hb dJ6_bitCount_0f7a4_7 ?_
  refine p_bd (P := fun q => 0 ≤ q ∧ q ≤ 1431655765) (tt_andR (Y := 1431655765) (by decide) (by decide)) (fun z2 bz2 => ?_)
  have bz2 : 0 ≤ z2.toInt ∧ z2.toInt ≤ 1431655765 := bz2
  refine lv_isub hx hb dJ6_bitCount_0f7a4_8 ?_
  refine p_any (fun z3 => ?_)
  refine lv_istore_n (lv' := [(0, .int z3)]) hx hb dJ6_bitCount_0f7a4_9 rfl hl (by decide) rfl (fun ls hl => ?_)
  refine lv_iload_n hx hb dJ6_bitCount_0f7a4_10 rfl (lv_at hl 0 rfl) ?_
  refine lv_ldcw (v := 858993459) hx hb hown (hts _ (uc_in _ q_k710)) dJ6_bitCount_0f7a4_11 ?_
  refine lv_iand hx hb dJ6_bitCount_0f7a4_14 ?_
  refine p_bd (P := fun q => 0 ≤ q ∧ q ≤ 858993459) (tt_andR (Y := 858993459) (by decide) (by decide)) (fun z4 bz4 => ?_)
  have bz4 : 0 ≤ z4.toInt ∧ z4.toInt ≤ 858993459 := bz4
  refine lv_iload_n hx hb dJ6_bitCount_0f7a4_15 rfl (lv_at hl 0 rfl) ?_
  refine lv_iconst (v := 2) hx hb dJ6_bitCount_0f7a4_16 (by decide) ?_
  refine lv_iushr hx hb dJ6_bitCount_0f7a4_17 rfl ?_
  refine p_any (fun z5 => ?_)
  refine lv_ldcw (v := 858993459) hx hb hown (hts _ (uc_in _ q_k710)) dJ6_bitCount_0f7a4_18 ?_
  refine lv_iand hx hb dJ6_bitCount_0f7a4_21 ?_
  refine p_bd (P := fun q => 0 ≤ q ∧ q ≤ 858993459) (tt_andR (Y := 858993459) (by decide) (by decide)) (fun z6 bz6 => ?_)
  have bz6 : 0 ≤ z6.toInt ∧ z6.toInt ≤ 858993459 := bz6
  refine lv_iadd hx hb dJ6_bitCount_0f7a4_22 ?_
  refine p_nm (tt_add (X := z4.toInt) (Y := z6.toInt) rfl rfl (by omega) (by omega)) (fun z7 hz7 => ?_)
  refine lv_istore_n (lv' := [(0, .int z7)]) hx hb dJ6_bitCount_0f7a4_23 rfl hl (by decide) rfl (fun ls hl => ?_)
  refine lv_iload_n hx hb dJ6_bitCount_0f7a4_24 rfl (lv_at hl 0 rfl) ?_
  refine lv_iload_n hx hb dJ6_bitCount_0f7a4_25 rfl (lv_at hl 0 rfl) ?_
  refine lv_iconst (v := 4) hx hb dJ6_bitCount_0f7a4_26 (by decide) ?_
  refine lv_iushr hx hb dJ6_bitCount_0f7a4_27 rfl ?_
  refine p_any (fun z8 => ?_)
  refine lv_iadd hx hb dJ6_bitCount_0f7a4_28 ?_
  refine p_any (fun z9 => ?_)
  refine lv_ldcw (v := 252645135) hx hb hown (hts _ (uc_in _ q_k711)) dJ6_bitCount_0f7a4_29 ?_
  refine lv_iand hx hb dJ6_bitCount_0f7a4_32 ?_
  refine p_bd (P := fun q => 0 ≤ q ∧ q ≤ 252645135) (tt_andR (Y := 252645135) (by decide) (by decide)) (fun z10 bz10 => ?_)
  have bz10 : 0 ≤ z10.toInt ∧ z10.toInt ≤ 252645135 := bz10
  refine lv_istore_n (lv' := [(0, .int z10)]) hx hb dJ6_bitCount_0f7a4_33 rfl hl (by decide) rfl (fun ls hl => ?_)
  refine lv_iload_n hx hb dJ6_bitCount_0f7a4_34 rfl (lv_at hl 0 rfl) ?_
  refine lv_iload_n hx hb dJ6_bitCount_0f7a4_35 rfl (lv_at hl 0 rfl) ?_
  refine lv_bipush (v := 8) hx hb dJ6_bitCount_0f7a4_36 (by decide) ?_
  refine lv_iushr hx hb dJ6_bitCount_0f7a4_38 rfl ?_
  refine p_any (fun z11 => ?_)
  refine lv_iadd hx hb dJ6_bitCount_0f7a4_39 ?_
  refine p_any (fun z12 => ?_)
  refine lv_istore_n (lv' := [(0, .int z12)]) hx hb dJ6_bitCount_0f7a4_40 rfl hl (by decide) rfl (fun ls hl => ?_)
  refine lv_iload_n hx hb dJ6_bitCount_0f7a4_41 rfl (lv_at hl 0 rfl) ?_
  refine lv_iload_n hx hb dJ6_bitCount_0f7a4_42 rfl (lv_at hl 0 rfl) ?_
  refine lv_bipush (v := 16) hx hb dJ6_bitCount_0f7a4_43 (by decide) ?_
  refine lv_iushr hx hb dJ6_bitCount_0f7a4_45 rfl ?_
  refine p_any (fun z13 => ?_)
  refine lv_iadd hx hb dJ6_bitCount_0f7a4_46 ?_
  refine p_any (fun z14 => ?_)
  refine lv_istore_n (lv' := [(0, .int z14)]) hx hb dJ6_bitCount_0f7a4_47 rfl hl (by decide) rfl (fun ls hl => ?_)
  refine lv_iload_n hx hb dJ6_bitCount_0f7a4_48 rfl (lv_at hl 0 rfl) ?_
  refine lv_bipush (v := 63) hx hb dJ6_bitCount_0f7a4_49 (by decide) ?_
  refine lv_iand hx hb dJ6_bitCount_0f7a4_51 ?_
  refine p_bd (P := fun q => 0 ≤ q ∧ q ≤ 63) (tt_andR (Y := 63) (by decide) (by decide)) (fun z15 bz15 => ?_)
  have bz15 : 0 ≤ z15.toInt ∧ z15.toInt ≤ 63 := bz15
  exact hret _ _ z15 dJ6_bitCount_0f7a4_52 rfl ⟨by omega, by omega⟩
set_option maxHeartbeats 4000000 in
set_option maxRecDepth 100000 in
theorem kX8_noteSet_0 (l : Launch) (D : va_G) (C : Nat → ClassId) (A : Nat → Nat) (u : St) (hI : IC u) (a0 : Int32) (A0 : Int) (ha0 : a0.toInt = A0) (sz : Nat) : MetV l yX8_noteSet cX8_noteSet 3 2 [.ref (A 15), .int a0] D (tyl C) (cw C A) X0 u sz (fun u' => IC u' ∧ Un [(71, 71), (72, 72), (73, 73)] [(82, 82)] [] u u' ∧ True) := by
  refine mV (by decide) (Nat.le_of_ble_eq_true rfl) ?_
  intro p e s m below meth c ls ar Q hx hb hml hown hts hK hH hX hl hret
  have hown : s.vm.findClass RX8 = some m.cls := hown
  have hl : lv_has ls 3 [(0, .ref (A 15)), (1, .int a0)] := hl
  refine lv_aload_n hx hb dX8_noteSet_0 rfl (lv_at hl 0 rfl) ?_
  refine va_get (ci := 8) (v := .int (gi u 71)) (C := RX8) (T := TX8) (N := 9) hx hb hts (fun w h => uc_in w (inX8 w h)) hown hK hH.1 15 (cwc15 C A u) rfl 0 (by decide) (hts _ (uc_in _ q_f328)) (fun _ h9 => h9) rfl dX8_noteSet_1 ?_
  have j26_80 : ∀ (ls : Array Slot) (u80 : St) (H : Heap) (locs : List Loc), Un [(72, 72)] [] [] u u80 → IC u80 → Hd D (cw C A) (va_A (cw C A u) s.heap.size) s.heap u80 H locs → lv_has ls 3 [(0, .ref (A 15)), (1, .int a0)] → W p l e (rmL 2 0 0) s m ar below meth c H locs 0 0 Q (F0 m 26 ls []) := by
    intro ls u80 H locs hUu80 hI hH hl
    refine lv_aload_n hx hb dX8_noteSet_26 rfl (lv_at hl 0 rfl) ?_
    refine lv_aload_n hx hb dX8_noteSet_27 rfl (lv_at hl 0 rfl) ?_
    refine va_get (ci := 8) (v := .int (gi u80 71)) (C := RX8) (T := TX8) (N := 9) hx hb hts (fun w h => uc_in w (inX8 w h)) hown hK hH.1 15 (cwc15 C A u80) rfl 0 (by decide) (hts _ (uc_in _ q_f328)) (fun _ h9 => h9) rfl dX8_noteSet_28 ?_
    refine pv_i (v := (gi u 71)) ((hUu80.1 71 rfl).trans rfl) ?_
    have j44_152 : ∀ (ls : Array Slot) (y84d : Int32), lv_has ls 3 [(0, .ref (A 15)), (1, .int a0)] → W p l e (rmL 2 0 0) s m ar below meth c H locs 0 0 Q (F0 m 44 ls [.int y84d, .ref (A 15)]) := by
      intro ls y84d hl
      refine r_put (j := 73) (ci := 8) (C := RX8) (T := TX8) (N := 9) hx hb hts (fun w h => uc_in w (inX8 w h)) tyX8 tyX8_ok nmX8 hown hK hH 15 (cwc15 C A u80) rfl 2 (by decide) (hts _ (uc_in _ q_f332)) (fun _ h9 => h9) rfl (by decide +kernel) (Nat.le_of_ble_eq_true rfl) (cws73 C A u80 _) dX8_noteSet_44 (fun u154 eu154 H locs hH => ?_)
      have hI := hI.pi0 eu154 rfl (by decide) (by decide)
      refine lv_iconst (v := 0) hx hb dX8_noteSet_47 (by decide) ?_
      refine lv_istore_n (lv' := [(2, .int 0), (0, .ref (A 15)), (1, .int a0)]) hx hb dX8_noteSet_48 rfl hl (by decide) rfl (fun ls hl => ?_)
      have lp49_212 : ∀ (n49 : Nat) (ls : Array Slot) (y211d : Int32) (u212 : St) (H : Heap) (locs : List Loc), 0 ≤ y211d.toInt → y211d.toInt ≤ 6 → gi u212 71 = (gi u 71) → 6 - y211d.toInt < (n49 : Int) → Un [(71, 71)] [(82, 82)] [] u154 u212 → IC u212 → Hd D (cw C A) (va_A (cw C A u) s.heap.size) s.heap u212 H locs → lv_has ls 3 [(2, .int y211d), (0, .ref (A 15)), (1, .int a0)] → W p l e (rmL 2 0 0) s m ar below meth c H locs 0 0 Q (F0 m 49 ls []) := by
        intro n49
        induction n49 with
        | zero => intro ls y211d u212 H locs ly211d my211d hku212_0 hmun49 hUu212 hI hH hl; exfalso; omega
        | succ n49 ih49_212 =>
          intro ls y211d u212 H locs ly211d my211d hku212_0 hmun49 hUu212 hI hH hl
          refine lv_iload_n hx hb dX8_noteSet_49 rfl (lv_at hl 0 rfl) ?_
          refine lv_bipush (v := 6) hx hb dX8_noteSet_50 (by decide) ?_
          refine lv_icmp_ge (tgt := 75) hx hb dX8_noteSet_52 (by decide) (fun c214 => ?_) (fun c214 => ?_)
          · have c214 := cLE (x := 6) (y := y211d) (X := 6) (Y := y211d.toInt) (by decide) rfl c214
            refine lv_aload_n hx hb dX8_noteSet_75 rfl (lv_at hl 1 rfl) ?_
            refine lv_dup hx hb dX8_noteSet_76 rfl ?_
            refine va_get (ci := 8) (v := .int (gi u212 71)) (C := RX8) (T := TX8) (N := 9) hx hb hts (fun w h => uc_in w (inX8 w h)) hown hK hH.1 15 (cwc15 C A u212) rfl 0 (by decide) (hts _ (uc_in _ q_f328)) (fun _ h9 => h9) rfl dX8_noteSet_77 ?_
            refine pv_i (v := (gi u 71)) hku212_0 ?_
            refine lv_iconst (v := 1) hx hb dX8_noteSet_80 (by decide) ?_
            refine lv_iadd hx hb dX8_noteSet_81 ?_
            refine p_any (fun z215 => ?_)
            refine r_put (j := 71) (ci := 8) (C := RX8) (T := TX8) (N := 9) hx hb hts (fun w h => uc_in w (inX8 w h)) tyX8 tyX8_ok nmX8 hown hK hH 15 (cwc15 C A u212) rfl 0 (by decide) (hts _ (uc_in _ q_f328)) (fun _ h9 => h9) rfl (by decide +kernel) (Nat.le_of_ble_eq_true rfl) (cws71 C A u212 _) dX8_noteSet_82 (fun u216 eu216 H locs hH => ?_)
            have hI := hI.pi0 eu216 rfl (by decide) (by decide)
            exact hret _ _ _ _ _ dX8_noteSet_85 ⟨hI, (Un.si (Un.tr (Un.si (Un.tr Un.rf hUu80 rfl rfl rfl) rfl eu154) hUu212 rfl rfl rfl) rfl eu216), trivial⟩ hH
          · have c214 := cNLE (x := 6) (y := y211d) (X := 6) (Y := y211d.toInt) (by decide) rfl c214
            refine lv_aload_n hx hb dX8_noteSet_55 rfl (lv_at hl 1 rfl) ?_
            refine va_get (ci := 8) (v := .ref (A 82)) (C := RX8) (T := TX8) (N := 9) hx hb hts (fun w h => uc_in w (inX8 w h)) hown hK hH.1 15 (cwc15 C A u212) rfl 8 (by decide) (hts _ (uc_in _ q_f341)) (fun _ h9 => h9) rfl dX8_noteSet_56 ?_
            refine lv_iload_n hx hb dX8_noteSet_59 rfl (lv_at hl 0 rfl) ?_
            refine lv_dup2_11 hx hb dX8_noteSet_60 rfl rfl ?_
            refine va_iald hx hb hK hH.1 82 1 (cwc82 C A u212) rfl (i_ix rfl (by omega) (by omega)) dX8_noteSet_61 ?_
            refine p_any (fun z217 => ?_)
            refine lv_iload_n hx hb dX8_noteSet_62 rfl (lv_at hl 2 rfl) ?_
            refine lv_iload_n hx hb dX8_noteSet_63 rfl (lv_at hl 0 rfl) ?_
            refine lv_ishr hx hb dX8_noteSet_64 ?_
            refine p_any (fun z218 => ?_)
            refine lv_iconst (v := 1) hx hb dX8_noteSet_65 (by decide) ?_
            refine lv_iand hx hb dX8_noteSet_66 ?_
            refine p_bd (P := fun q => 0 ≤ q ∧ q ≤ 1) (tt_andR (Y := 1) (by decide) (by decide)) (fun z219 bz219 => ?_)
            have bz219 : 0 ≤ z219.toInt ∧ z219.toInt ≤ 1 := bz219
            refine lv_iadd hx hb dX8_noteSet_67 ?_
            refine p_any (fun z220 => ?_)
            refine r_iast (j := 82) hx hb hK hH 82 1 (cwc82 C A u212) rfl (i_ix rfl (by omega) (by omega)) (cwa82 C A u212) dX8_noteSet_68 (fun u221 eu221 H locs hH => ?_)
            have hI := hI.pa0 eu221 (by decide)
            obtain ⟨z222, ez222⟩ : ∃ z, z = y211d + Int32.ofInt 1 := ⟨_, rfl⟩
            have hz222 : z222.toInt = y211d.toInt + 1 := by rw [ez222]; exact tt_add rfl (by decide) (by omega) (by omega)
            refine lv_iinc (v := z222) (lv' := [(2, .int z222), (0, .ref (A 15)), (1, .int a0)]) hx hb dX8_noteSet_69 hl (k := 0) rfl ez222.symm (by decide) rfl (fun ls hl => ?_)
            refine lv_goto (tgt := 49) hx hb dX8_noteSet_72 (by decide) ?_
            exact ih49_212 ls z222 u221 _ _ (by have q9 := (show z222.toInt = (y211d.toInt + 1) from hz222); omega) (by have q9 := (show z222.toInt = (y211d.toInt + 1) from hz222); omega) ((gi_sa eu221).trans hku212_0) (by have q9 := (show z222.toInt = (y211d.toInt + 1) from hz222); omega) (Un.sa hUu212 rfl eu221) hI hH hl
      exact lp49_212 7 ls 0 u154 _ _ (by decide) (by decide) ((gi_ne eu154 (by decide)).trans ((hUu80.1 71 rfl).trans rfl)) (by have q9 : (0 : Int32).toInt = 0 := (by decide); omega) Un.rf hI hH hl
    refine lv_if_ne (tgt := 38) hx hb dX8_noteSet_31 (by decide) (fun c82 => ?_) (fun c82 => ?_)
    · refine lv_aload_n hx hb dX8_noteSet_38 rfl (lv_at hl 0 rfl) ?_
      refine va_get (ci := 8) (v := .int (gi u80 73)) (C := RX8) (T := TX8) (N := 9) hx hb hts (fun w h => uc_in w (inX8 w h)) hown hK hH.1 15 (cwc15 C A u80) rfl 2 (by decide) (hts _ (uc_in _ q_f332)) (fun _ h9 => h9) rfl dX8_noteSet_39 ?_
      refine lv_iload_n hx hb dX8_noteSet_42 rfl (lv_at hl 1 rfl) ?_
      refine lv_iand hx hb dX8_noteSet_43 ?_
      refine p_any (fun z223 => ?_)
      exact j44_152 ls z223 hl
    · have c82 := cEQ (x := (gi u 71)) (y := 0) (X := ((gi u 71)).toInt) (Y := 0) rfl (by decide) c82
      refine lv_iload_n hx hb dX8_noteSet_34 rfl (lv_at hl 1 rfl) ?_
      refine lv_goto (tgt := 44) hx hb dX8_noteSet_35 (by decide) ?_
      exact j44_152 ls a0 hl
  have j21_224 : ∀ (ls : Array Slot), lv_has ls 3 [(0, .ref (A 15)), (1, .int a0)] → W p l e (rmL 2 0 0) s m ar below meth c s.heap [] 0 0 Q (F0 m 21 ls []) := by
    intro ls hl
    refine lv_aload_n hx hb dX8_noteSet_21 rfl (lv_at hl 0 rfl) ?_
    refine lv_iload_n hx hb dX8_noteSet_22 rfl (lv_at hl 1 rfl) ?_
    refine r_put (j := 72) (ci := 8) (C := RX8) (T := TX8) (N := 9) hx hb hts (fun w h => uc_in w (inX8 w h)) tyX8 tyX8_ok nmX8 hown hK hH 15 (cwc15 C A u) rfl 1 (by decide) (hts _ (uc_in _ q_f330)) (fun _ h9 => h9) rfl (by decide +kernel) (Nat.le_of_ble_eq_true rfl) (cws72 C A u _) dX8_noteSet_23 (fun u226 eu226 H locs hH => ?_)
    have hI := hI.pi0 eu226 rfl (by decide) (by decide)
    exact j26_80 ls u226 _ _ (Un.si Un.rf rfl eu226) hI hH hl
  refine lv_if_eq (tgt := 21) hx hb dX8_noteSet_4 (by decide) (fun c1 => ?_) (fun c1 => ?_)
  · have c1 := cEQ (x := (gi u 71)) (y := 0) (X := ((gi u 71)).toInt) (Y := 0) rfl (by decide) c1
    exact j21_224 ls hl
  · refine lv_iload_n hx hb dX8_noteSet_7 rfl (lv_at hl 1 rfl) ?_
    refine csS (n := 1) (As := [.int a0]) (rest := []) ⟨hx, hb, hml, hown, hts⟩ uc_in (kJ6_bitCount_0f7a4_0 l D C A u hI a0 A0 ha0) q_m1014 q_s707 q_i18 q_c708 hvJ6_bitCount_0f7a4 ⟨(Nat.le_of_ble_eq_true rfl), (Nat.le_of_ble_eq_true rfl)⟩ ⟨(Nat.le_of_ble_eq_true rfl), (Nat.le_of_ble_eq_true rfl)⟩ hK hH.1 rfl hl.1 rfl (Nat.le_of_ble_eq_true rfl) dX8_noteSet_8 (fun r227 p228 => ?_)
    have p228 : 0 ≤ r227.toInt ∧ r227.toInt ≤ 63 := p228
    refine lv_aload_n hx hb dX8_noteSet_11 rfl (lv_at hl 0 rfl) ?_
    refine va_get (ci := 8) (v := .int (gi u 72)) (C := RX8) (T := TX8) (N := 9) hx hb hts (fun w h => uc_in w (inX8 w h)) hown hK hH.1 15 (cwc15 C A u) rfl 1 (by decide) (hts _ (uc_in _ q_f330)) (fun _ h9 => h9) rfl dX8_noteSet_12 ?_
    refine csS (n := 1) (As := [.int (gi u 72)]) (rest := [.int r227]) ⟨hx, hb, hml, hown, hts⟩ uc_in (kJ6_bitCount_0f7a4_0 l D C A u hI (gi u 72) (((gi u 72)).toInt) rfl) q_m1014 q_s707 q_i18 q_c708 hvJ6_bitCount_0f7a4 ⟨(Nat.le_of_ble_eq_true rfl), (Nat.le_of_ble_eq_true rfl)⟩ ⟨(Nat.le_of_ble_eq_true rfl), (Nat.le_of_ble_eq_true rfl)⟩ hK hH.1 rfl hl.1 rfl (Nat.le_of_ble_eq_true rfl) dX8_noteSet_15 (fun r229 p230 => ?_)
    have p230 : 0 ≤ r229.toInt ∧ r229.toInt ≤ 63 := p230
    refine lv_icmp_ge (tgt := 26) hx hb dX8_noteSet_18 (by decide) (fun c231 => ?_) (fun c231 => ?_)
    · have c231 := cLE (x := r229) (y := r227) (X := r229.toInt) (Y := r227.toInt) rfl rfl c231
      exact j26_80 ls u _ _ Un.rf hI hH hl
    · have c231 := cNLE (x := r229) (y := r227) (X := r229.toInt) (Y := r227.toInt) rfl rfl c231
      exact j21_224 ls hl
set_option maxHeartbeats 4000000 in
set_option maxRecDepth 100000 in
theorem kX8_searchAway_0 (l : Launch) (D : va_G) (C : Nat → ClassId) (A : Nat → Nat) (u : St) (hI : IC u) (sz : Nat) : MetV l yX8_searchAway cX8_searchAway 4 4 [.ref (A 15), .ref (A 7)] D (tyl C) (cw C A) X0 u sz (fun u' => IC u' ∧ Un [(71, 71), (72, 72), (73, 73)] [(82, 82)] [] u u' ∧ True) := by
  refine mV (by decide) (Nat.le_of_ble_eq_true rfl) ?_
  intro p e s m below meth c ls ar Q hx hb hml hown hts hK hH hX hl hret
  have hown : s.vm.findClass RX8 = some m.cls := hown
  have hl : lv_has ls 4 [(0, .ref (A 15)), (1, .ref (A 7))] := hl
  refine lv_aload_n hx hb dX8_searchAway_0 rfl (lv_at hl 0 rfl) ?_
  refine lv_iconst (v := 0) hx hb dX8_searchAway_1 (by decide) ?_
  refine r_put (j := 71) (ci := 8) (C := RX8) (T := TX8) (N := 9) hx hb hts (fun w h => uc_in w (inX8 w h)) tyX8 tyX8_ok nmX8 hown hK hH 15 (cwc15 C A u) rfl 0 (by decide) (hts _ (uc_in _ q_f328)) (fun _ h9 => h9) rfl (by decide +kernel) (Nat.le_of_ble_eq_true rfl) (cws71 C A u _) dX8_searchAway_2 (fun u1 eu1 H locs hH => ?_)
  have hI := hI.pi0 eu1 rfl (by decide) (by decide)
  refine lv_aload_n hx hb dX8_searchAway_5 rfl (lv_at hl 0 rfl) ?_
  refine lv_iconst (v := (-1)) hx hb dX8_searchAway_6 (by decide) ?_
  refine r_put (j := 72) (ci := 8) (C := RX8) (T := TX8) (N := 9) hx hb hts (fun w h => uc_in w (inX8 w h)) tyX8 tyX8_ok nmX8 hown hK hH 15 (cwc15 C A u1) rfl 1 (by decide) (hts _ (uc_in _ q_f330)) (fun _ h9 => h9) rfl (by decide +kernel) (Nat.le_of_ble_eq_true rfl) (cws72 C A u1 _) dX8_searchAway_7 (fun u2 eu2 H locs hH => ?_)
  have hI := hI.pi0 eu2 rfl (by decide) (by decide)
  refine lv_aload_n hx hb dX8_searchAway_10 rfl (lv_at hl 0 rfl) ?_
  refine lv_iconst (v := (-1)) hx hb dX8_searchAway_11 (by decide) ?_
  refine r_put (j := 73) (ci := 8) (C := RX8) (T := TX8) (N := 9) hx hb hts (fun w h => uc_in w (inX8 w h)) tyX8 tyX8_ok nmX8 hown hK hH 15 (cwc15 C A u2) rfl 2 (by decide) (hts _ (uc_in _ q_f332)) (fun _ h9 => h9) rfl (by decide +kernel) (Nat.le_of_ble_eq_true rfl) (cws73 C A u2 _) dX8_searchAway_12 (fun u3 eu3 H locs hH => ?_)
  have hI := hI.pi0 eu3 rfl (by decide) (by decide)
  refine lv_iconst (v := 0) hx hb dX8_searchAway_15 (by decide) ?_
  refine lv_istore_n (lv' := [(2, .int 0), (0, .ref (A 15)), (1, .ref (A 7))]) hx hb dX8_searchAway_16 rfl hl (by decide) rfl (fun ls hl => ?_)
  have lp17_3079 : ∀ (n17 : Nat) (ls : Array Slot) (y3078d : Int32) (u3079 : St) (H : Heap) (locs : List Loc), 0 ≤ y3078d.toInt → y3078d.toInt ≤ 6 → gi u3079 71 = 0 → gi u3079 72 = (-1) → gi u3079 73 = (-1) → 6 - y3078d.toInt < (n17 : Int) → Un [(71, 71), (72, 72), (73, 73)] [(82, 82)] [] u3 u3079 → IC u3079 → Hd D (cw C A) (va_A (cw C A u) s.heap.size) s.heap u3079 H locs → lv_has ls 4 [(2, .int y3078d), (0, .ref (A 15)), (1, .ref (A 7))] → W p l e (rmL 4 0 0) s m ar below meth c H locs 0 0 Q (F0 m 17 ls []) := by
    intro n17
    induction n17 with
    | zero => intro ls y3078d u3079 H locs ly3078d my3078d hku3079_0 hku3079_1 hku3079_2 hmun17 hUu3079 hI hH hl; exfalso; omega
    | succ n17 ih17_3079 =>
      intro ls y3078d u3079 H locs ly3078d my3078d hku3079_0 hku3079_1 hku3079_2 hmun17 hUu3079 hI hH hl
      refine lv_iload_n hx hb dX8_searchAway_17 rfl (lv_at hl 0 rfl) ?_
      refine lv_bipush (v := 6) hx hb dX8_searchAway_18 (by decide) ?_
      refine lv_icmp_ge (tgt := 36) hx hb dX8_searchAway_20 (by decide) (fun c3081 => ?_) (fun c3081 => ?_)
      · have c3081 := cLE (x := 6) (y := y3078d) (X := 6) (Y := y3078d.toInt) (by decide) rfl c3081
        refine lv_iconst (v := 0) hx hb dX8_searchAway_36 (by decide) ?_
        refine lv_istore_n (lv' := [(2, .int 0), (0, .ref (A 15)), (1, .ref (A 7))]) hx hb dX8_searchAway_37 rfl hl (by decide) rfl (fun ls hl => ?_)
        refine lv_iconst (v := 0) hx hb dX8_searchAway_38 (by decide) ?_
        refine lv_istore_n (lv' := [(3, .int 0), (2, .int 0), (0, .ref (A 15)), (1, .ref (A 7))]) hx hb dX8_searchAway_39 rfl hl (by decide) rfl (fun ls hl => ?_)
        have lp40_5741 : ∀ (n40 : Nat) (ls : Array Slot) (y5739d : Int32) (y5740d : Int32) (u5741 : St) (H : Heap) (locs : List Loc), 0 ≤ y5739d.toInt → y5739d.toInt ≤ 7 → gi u5741 71 = 0 → gi u5741 72 = (-1) → gi u5741 73 = (-1) → 7 - y5739d.toInt < (n40 : Int) → Un [(71, 71), (72, 72), (73, 73)] [(82, 82)] [] u3079 u5741 → IC u5741 → Hd D (cw C A) (va_A (cw C A u) s.heap.size) s.heap u5741 H locs → lv_has ls 4 [(3, .int y5739d), (2, .int y5740d), (0, .ref (A 15)), (1, .ref (A 7))] → W p l e (rmL 4 0 0) s m ar below meth c H locs 0 0 Q (F0 m 40 ls []) := by
          intro n40
          induction n40 with
          | zero => intro ls y5739d y5740d u5741 H locs ly5739d my5739d hku5741_0 hku5741_1 hku5741_2 hmun40 hUu5741 hI hH hl; exfalso; omega
          | succ n40 ih40_5741 =>
            intro ls y5739d y5740d u5741 H locs ly5739d my5739d hku5741_0 hku5741_1 hku5741_2 hmun40 hUu5741 hI hH hl
            refine lv_iload_n hx hb dX8_searchAway_40 rfl (lv_at hl 0 rfl) ?_
            refine lv_aload_n hx hb dX8_searchAway_41 rfl (lv_at hl 3 rfl) ?_
            refine va_get (ci := 5) (v := .int (gi u5741 48)) (C := RX5) (T := TX5) (N := 4) hx hb hts (fun w h => uc_in w (inX5 w h)) hown hK hH.1 7 (cwc7 C A u5741) rfl 0 (by decide) (hts _ (uc_in _ q_f163)) (fun _ h9 => h9) rfl dX8_searchAway_42 ?_
            have b5743 := hI.b48
            refine lv_icmp_ge (tgt := 63) hx hb dX8_searchAway_45 (by decide) (fun c5744 => ?_) (fun c5744 => ?_)
            · have c5744 := cLE (x := (gi u5741 48)) (y := y5739d) (X := ((gi u5741 48)).toInt) (Y := y5739d.toInt) rfl rfl c5744
              refine lv_iconst (v := 0) hx hb dX8_searchAway_63 (by decide) ?_
              refine lv_istore_n (lv' := [(3, .int 0), (2, .int y5740d), (0, .ref (A 15)), (1, .ref (A 7))]) hx hb dX8_searchAway_64 rfl hl (by decide) rfl (fun ls hl => ?_)
              have lp65_6112 : ∀ (n65 : Nat) (ls : Array Slot) (y6111d : Int32) (u6112 : St) (H : Heap) (locs : List Loc), 0 ≤ y6111d.toInt → y6111d.toInt ≤ 64 → 64 - y6111d.toInt < (n65 : Int) → Un [(71, 71), (72, 72), (73, 73)] [(82, 82)] [] u5741 u6112 → IC u6112 → Hd D (cw C A) (va_A (cw C A u) s.heap.size) s.heap u6112 H locs → lv_has ls 4 [(3, .int y6111d), (2, .int y5740d), (0, .ref (A 15)), (1, .ref (A 7))] → W p l e (rmL 4 0 0) s m ar below meth c H locs 0 0 Q (F0 m 65 ls []) := by
                intro n65
                induction n65 with
                | zero => intro ls y6111d u6112 H locs ly6111d my6111d hmun65 hUu6112 hI hH hl; exfalso; omega
                | succ n65 ih65_6112 =>
                  intro ls y6111d u6112 H locs ly6111d my6111d hmun65 hUu6112 hI hH hl
                  refine lv_iload_n hx hb dX8_searchAway_65 rfl (lv_at hl 0 rfl) ?_
                  refine lv_bipush (v := 64) hx hb dX8_searchAway_66 (by decide) ?_
                  refine lv_icmp_ge (tgt := 99) hx hb dX8_searchAway_68 (by decide) (fun c6114 => ?_) (fun c6114 => ?_)
                  · have c6114 := cLE (x := 64) (y := y6111d) (X := 64) (Y := y6111d.toInt) (by decide) rfl c6114
                    exact hret _ _ _ _ _ dX8_searchAway_99 ⟨hI, (Un.tr (Un.tr (Un.tr (Un.si (Un.si (Un.si Un.rf rfl eu1) rfl eu2) rfl eu3) hUu3079 rfl rfl rfl) hUu5741 rfl rfl rfl) hUu6112 rfl rfl rfl), trivial⟩ hH
                  · have c6114 := cNLE (x := 64) (y := y6111d) (X := 64) (Y := y6111d.toInt) (by decide) rfl c6114
                    refine lv_iload_n hx hb dX8_searchAway_71 rfl (lv_at hl 0 rfl) ?_
                    refine lv_iload_n hx hb dX8_searchAway_72 rfl (lv_at hl 1 rfl) ?_
                    refine lv_iconst (v := (-1)) hx hb dX8_searchAway_73 (by decide) ?_
                    refine lv_ixor hx hb dX8_searchAway_74 ?_
                    refine p_any (fun z6115 => ?_)
                    refine lv_iand hx hb dX8_searchAway_75 ?_
                    have gz6116 := tt_andL (x := y6111d) (y := z6115) (X := y6111d.toInt) rfl (by omega)
                    refine p_bd (P := fun q => 0 ≤ q ∧ q ≤ 63) ⟨by omega, by omega⟩ (fun z6117 bz6117 => ?_)
                    have bz6117 : 0 ≤ z6117.toInt ∧ z6117.toInt ≤ 63 := bz6117
                    have j93_6128 : ∀ (ls : Array Slot) (u6128 : St) (H : Heap) (locs : List Loc), Un [(71, 71), (72, 72), (73, 73)] [(82, 82)] [] u6112 u6128 → IC u6128 → Hd D (cw C A) (va_A (cw C A u) s.heap.size) s.heap u6128 H locs → lv_has ls 4 [(3, .int y6111d), (2, .int y5740d), (0, .ref (A 15)), (1, .ref (A 7))] → W p l e (rmL 4 0 0) s m ar below meth c H locs 0 0 Q (F0 m 93 ls []) := by
                      intro ls u6128 H locs hUu6128 hI hH hl
                      obtain ⟨z6130, ez6130⟩ : ∃ z, z = y6111d + Int32.ofInt 1 := ⟨_, rfl⟩
                      have hz6130 : z6130.toInt = y6111d.toInt + 1 := by rw [ez6130]; exact tt_add rfl (by decide) (by omega) (by omega)
                      refine lv_iinc (v := z6130) (lv' := [(3, .int z6130), (2, .int y5740d), (0, .ref (A 15)), (1, .ref (A 7))]) hx hb dX8_searchAway_93 hl (k := 0) rfl ez6130.symm (by decide) rfl (fun ls hl => ?_)
                      refine lv_goto (tgt := 65) hx hb dX8_searchAway_96 (by decide) ?_
                      exact ih65_6112 ls z6130 u6128 _ _ (by have q9 := (show z6130.toInt = (y6111d.toInt + 1) from hz6130); omega) (by have q9 := (show z6130.toInt = (y6111d.toInt + 1) from hz6130); omega) (by have q9 := (show z6130.toInt = (y6111d.toInt + 1) from hz6130); omega) (Un.tr hUu6112 hUu6128 rfl rfl rfl) hI hH hl
                    refine lv_if_ne (tgt := 93) hx hb dX8_searchAway_76 (by decide) (fun c6118 => ?_) (fun c6118 => ?_)
                    · have c6118 := cNE (x := z6117) (y := 0) (X := z6117.toInt) (Y := 0) rfl (by decide) c6118
                      exact j93_6128 ls u6112 _ _ Un.rf hI hH hl
                    · have c6118 := cEQ (x := z6117) (y := 0) (X := z6117.toInt) (Y := 0) rfl (by decide) c6118
                      refine lv_aload_n hx hb dX8_searchAway_79 rfl (lv_at hl 2 rfl) ?_
                      refine lv_aload_n hx hb dX8_searchAway_80 rfl (lv_at hl 3 rfl) ?_
                      refine lv_iload_n hx hb dX8_searchAway_81 rfl (lv_at hl 0 rfl) ?_
                      refine cvS (n := 2) (As := [.ref (A 7), .int y6111d]) (rest := []) ⟨hx, hb, hml, hown, hts⟩ uc_in (kX8_isSeenWithout_0 l D C A u6112 hI y6111d y6111d.toInt rfl) q_m1005 q_n1007 q_p42 q_i9 q_c1008 hvX8_isSeenWithout ⟨(Nat.le_of_ble_eq_true rfl), (Nat.le_of_ble_eq_true rfl)⟩ ⟨(Nat.le_of_ble_eq_true rfl), (Nat.le_of_ble_eq_true rfl)⟩ hK hH.1 8 15 rfl (cwc15 C A u6112) rfl hl.1 rfl (Nat.le_of_ble_eq_true rfl) dX8_searchAway_82 (fun r6131 p6132 => ?_)
                      have p6132 : 0 ≤ r6131.toInt ∧ r6131.toInt ≤ 1 := p6132
                      refine lv_if_eq (tgt := 93) hx hb dX8_searchAway_85 (by decide) (fun c6133 => ?_) (fun c6133 => ?_)
                      · have c6133 := cEQ (x := r6131) (y := 0) (X := r6131.toInt) (Y := 0) rfl (by decide) c6133
                        exact j93_6128 ls u6112 _ _ Un.rf hI hH hl
                      · have c6133 := cNE (x := r6131) (y := 0) (X := r6131.toInt) (Y := 0) rfl (by decide) c6133
                        refine lv_aload_n hx hb dX8_searchAway_88 rfl (lv_at hl 2 rfl) ?_
                        refine lv_iload_n hx hb dX8_searchAway_89 rfl (lv_at hl 0 rfl) ?_
                        refine cvU (n := 1) (As := [.int y6111d]) (rest := []) ⟨hx, hb, hml, hown, hts⟩ uc_in (kX8_noteSet_0 l D C A u6112 hI y6111d y6111d.toInt rfl _) q_m1010 q_n1012 q_p43 q_i9 q_c1013 hvX8_noteSet ⟨(Nat.le_of_ble_eq_true rfl), (Nat.le_of_ble_eq_true rfl)⟩ ⟨(Nat.le_of_ble_eq_true rfl), (Nat.le_of_ble_eq_true rfl)⟩ hK hH (fun q h => Or.inr h) Bl0 (fun _ _ _ => trivial) 8 15 rfl (cwc15 C A u6112) rfl hl.1 rfl (Nat.le_of_ble_eq_true rfl) dX8_searchAway_90 (fun u6134 H locs p6136 hH => ?_)
                        obtain ⟨hI, hUu6134, p6136⟩ := p6136
                        exact j93_6128 ls u6134 _ _ (Un.tr Un.rf hUu6134 rfl rfl rfl) hI hH hl
              exact lp65_6112 65 ls 0 u5741 _ _ (by decide) (by decide) (by have q9 : (0 : Int32).toInt = 0 := (by decide); omega) Un.rf hI hH hl
            · have c5744 := cNLE (x := (gi u5741 48)) (y := y5739d) (X := ((gi u5741 48)).toInt) (Y := y5739d.toInt) rfl rfl c5744
              refine lv_iload_n hx hb dX8_searchAway_48 rfl (lv_at hl 1 rfl) ?_
              refine lv_aload_n hx hb dX8_searchAway_49 rfl (lv_at hl 3 rfl) ?_
              refine va_get (ci := 5) (v := .ref (A 38)) (C := RX5) (T := TX5) (N := 4) hx hb hts (fun w h => uc_in w (inX5 w h)) hown hK hH.1 7 (cwc7 C A u5741) rfl 3 (by decide) (hts _ (uc_in _ q_f174)) (fun _ h9 => h9) rfl dX8_searchAway_50 ?_
              refine lv_iload_n hx hb dX8_searchAway_53 rfl (lv_at hl 0 rfl) ?_
              refine va_iald hx hb hK hH.1 38 1 (cwc38 C A u5741) rfl (i_ix rfl (by omega) (by omega)) dX8_searchAway_54 ?_
              refine p_any (fun z6137 => ?_)
              refine lv_ior hx hb dX8_searchAway_55 ?_
              refine p_any (fun z6138 => ?_)
              refine lv_istore_n (lv' := [(2, .int z6138), (3, .int y5739d), (0, .ref (A 15)), (1, .ref (A 7))]) hx hb dX8_searchAway_56 rfl hl (by decide) rfl (fun ls hl => ?_)
              obtain ⟨z6139, ez6139⟩ : ∃ z, z = y5739d + Int32.ofInt 1 := ⟨_, rfl⟩
              have hz6139 : z6139.toInt = y5739d.toInt + 1 := by rw [ez6139]; exact tt_add rfl (by decide) (by omega) (by omega)
              refine lv_iinc (v := z6139) (lv' := [(3, .int z6139), (2, .int z6138), (0, .ref (A 15)), (1, .ref (A 7))]) hx hb dX8_searchAway_57 hl (k := 1) rfl ez6139.symm (by decide) rfl (fun ls hl => ?_)
              refine lv_goto (tgt := 40) hx hb dX8_searchAway_60 (by decide) ?_
              exact ih40_5741 ls z6139 z6138 u5741 _ _ (by have q9 := (show z6139.toInt = (y5739d.toInt + 1) from hz6139); omega) (by have q9 := (show z6139.toInt = (y5739d.toInt + 1) from hz6139); omega) hku5741_0 hku5741_1 hku5741_2 (by have q9 := (show z6139.toInt = (y5739d.toInt + 1) from hz6139); omega) hUu5741 hI hH hl
        exact lp40_5741 8 ls 0 0 u3079 _ _ (by decide) (by decide) hku3079_0 hku3079_1 hku3079_2 (by have q9 : (0 : Int32).toInt = 0 := (by decide); omega) Un.rf hI hH hl
      · have c3081 := cNLE (x := 6) (y := y3078d) (X := 6) (Y := y3078d.toInt) (by decide) rfl c3081
        refine lv_aload_n hx hb dX8_searchAway_23 rfl (lv_at hl 1 rfl) ?_
        refine va_get (ci := 8) (v := .ref (A 82)) (C := RX8) (T := TX8) (N := 9) hx hb hts (fun w h => uc_in w (inX8 w h)) hown hK hH.1 15 (cwc15 C A u3079) rfl 8 (by decide) (hts _ (uc_in _ q_f341)) (fun _ h9 => h9) rfl dX8_searchAway_24 ?_
        refine lv_iload_n hx hb dX8_searchAway_27 rfl (lv_at hl 0 rfl) ?_
        refine lv_iconst (v := 0) hx hb dX8_searchAway_28 (by decide) ?_
        refine r_iast (j := 82) hx hb hK hH 82 1 (cwc82 C A u3079) rfl (i_ix rfl (by omega) (by omega)) (cwa82 C A u3079) dX8_searchAway_29 (fun u6140 eu6140 H locs hH => ?_)
        have hI := hI.pa0 eu6140 (by decide)
        obtain ⟨z6141, ez6141⟩ : ∃ z, z = y3078d + Int32.ofInt 1 := ⟨_, rfl⟩
        have hz6141 : z6141.toInt = y3078d.toInt + 1 := by rw [ez6141]; exact tt_add rfl (by decide) (by omega) (by omega)
        refine lv_iinc (v := z6141) (lv' := [(2, .int z6141), (0, .ref (A 15)), (1, .ref (A 7))]) hx hb dX8_searchAway_30 hl (k := 0) rfl ez6141.symm (by decide) rfl (fun ls hl => ?_)
        refine lv_goto (tgt := 17) hx hb dX8_searchAway_33 (by decide) ?_
        exact ih17_3079 ls z6141 u6140 _ _ (by have q9 := (show z6141.toInt = (y3078d.toInt + 1) from hz6141); omega) (by have q9 := (show z6141.toInt = (y3078d.toInt + 1) from hz6141); omega) ((gi_sa eu6140).trans hku3079_0) ((gi_sa eu6140).trans hku3079_1) ((gi_sa eu6140).trans hku3079_2) (by have q9 := (show z6141.toInt = (y3078d.toInt + 1) from hz6141); omega) (Un.sa hUu3079 rfl eu6140) hI hH hl
  exact lp17_3079 7 ls 0 u3 _ _ (by decide) (by decide) ((gi_ne eu3 (by decide)).trans ((gi_ne eu2 (by decide)).trans (gi_si eu1))) ((gi_ne eu3 (by decide)).trans (gi_si eu2)) (gi_si eu3) (by have q9 : (0 : Int32).toInt = 0 := (by decide); omega) Un.rf hI hH hl
set_option maxHeartbeats 4000000 in
set_option maxRecDepth 100000 in
theorem kX9_seekAway_0 (l : Launch) (D : va_G) (C : Nat → ClassId) (A : Nat → Nat) (u : St) (hI : IC u) (a0 : Int32) (A0 : Int) (ha0 : a0.toInt = A0) (sz : Nat) : MetI l yX9_seekAway cX9_seekAway 3 (some .int) 5 [.ref (A 0), .int a0] D (tyl C) (cw C A) X0 u sz (fun r u' => IC u' ∧ Un [(71, 71), (72, 72), (73, 73), (76, 76)] [(50, 50), (51, 51), (82, 82)] [] u u' ∧ ((-6) ≤ r.toInt ∧ r.toInt ≤ 0)) := by
  refine mI (by decide) (Nat.le_of_ble_eq_true rfl) ?_
  intro p e s m below meth c ls ar Q hx hb hml hown hts hK hH hX hl hret
  have hown : s.vm.findClass RX9 = some m.cls := hown
  have hl : lv_has ls 3 [(0, .ref (A 0)), (1, .int a0)] := hl
  refine lv_aload_n hx hb dX9_seekAway_0 rfl (lv_at hl 0 rfl) ?_
  refine lv_iload_n hx hb dX9_seekAway_1 rfl (lv_at hl 1 rfl) ?_
  refine cvI (n := 1) (As := [.int a0]) (rest := []) ⟨hx, hb, hml, hown, hts⟩ uc_in (kX9_hear_0 l D C A u hI a0 A0 ha0 _) q_m991 q_n993 q_p41 q_i1 q_c994 hvX9_hear ⟨(Nat.le_of_ble_eq_true rfl), (Nat.le_of_ble_eq_true rfl)⟩ ⟨(Nat.le_of_ble_eq_true rfl), (Nat.le_of_ble_eq_true rfl)⟩ hK hH (fun q h => Or.inr h) Bl0 (fun _ _ _ => trivial) 9 0 rfl (cwc0 C A u) rfl hl.1 rfl (Nat.le_of_ble_eq_true rfl) dX9_seekAway_2 (fun r2 u1 H locs p3 hH => ?_)
  obtain ⟨hI, hUu1, p3⟩ := p3
  have p3 : (-6) ≤ r2.toInt ∧ r2.toInt ≤ 0 := p3
  refine lv_istore_n (lv' := [(2, .int r2), (0, .ref (A 0)), (1, .int a0)]) hx hb dX9_seekAway_5 rfl hl (by decide) rfl (fun ls hl => ?_)
  refine lv_iload_n hx hb dX9_seekAway_6 rfl (lv_at hl 0 rfl) ?_
  refine lv_if_ne (tgt := 21) hx hb dX9_seekAway_7 (by decide) (fun c4 => ?_) (fun c4 => ?_)
  · have c4 := cNE (x := r2) (y := 0) (X := r2.toInt) (Y := 0) rfl (by decide) c4
    refine lv_iload_n hx hb dX9_seekAway_21 rfl (lv_at hl 0 rfl) ?_
    exact hret _ _ _ _ r2 _ dX9_seekAway_22 rfl ⟨hI, (Un.tr Un.rf hUu1 rfl rfl rfl), ⟨by omega, by omega⟩⟩ hH
  · have c4 := cEQ (x := r2) (y := 0) (X := r2.toInt) (Y := 0) rfl (by decide) c4
    refine lv_aload_n hx hb dX9_seekAway_10 rfl (lv_at hl 1 rfl) ?_
    refine va_get (ci := 9) (v := .ref (A 15)) (C := RX9) (T := TX9) (N := 12) hx hb hts (fun w h => uc_in w (inX9 w h)) hown hK hH.1 0 (cwc0 C A u1) rfl 10 (by decide) (hts _ (uc_in _ q_f393)) (fun _ h9 => h9) rfl dX9_seekAway_11 ?_
    refine lv_aload_n hx hb dX9_seekAway_14 rfl (lv_at hl 1 rfl) ?_
    refine va_get (ci := 9) (v := .ref (A 7)) (C := RX9) (T := TX9) (N := 12) hx hb hts (fun w h => uc_in w (inX9 w h)) hown hK hH.1 0 (cwc0 C A u1) rfl 5 (by decide) (hts _ (uc_in _ q_f388)) (fun _ h9 => h9) rfl dX9_seekAway_15 ?_
    refine cvU (n := 1) (As := [.ref (A 7)]) (rest := []) ⟨hx, hb, hml, hown, hts⟩ uc_in (kX8_searchAway_0 l D C A u1 hI  _) q_m1001 q_n1002 q_e1003 q_i9 q_c1004 hvX8_searchAway ⟨(Nat.le_of_ble_eq_true rfl), (Nat.le_of_ble_eq_true rfl)⟩ ⟨(Nat.le_of_ble_eq_true rfl), (Nat.le_of_ble_eq_true rfl)⟩ hK hH (fun q h => Or.inr h) Bl0 (fun _ _ _ => trivial) 8 15 rfl (cwc15 C A u1) rfl hl.1 rfl (Nat.le_of_ble_eq_true rfl) dX9_seekAway_18 (fun u5 H locs p7 hH => ?_)
    obtain ⟨hI, hUu5, p7⟩ := p7
    refine lv_iload_n hx hb dX9_seekAway_21 rfl (lv_at hl 0 rfl) ?_
    exact hret _ _ _ _ r2 _ dX9_seekAway_22 rfl ⟨hI, (Un.tr (Un.tr Un.rf hUu1 rfl rfl rfl) hUu5 rfl rfl rfl), ⟨by omega, by omega⟩⟩ hH
set_option maxHeartbeats 4000000 in
set_option maxRecDepth 100000 in
theorem kX8_bestQuestion_0 (l : Launch) (D : va_G) (C : Nat → ClassId) (A : Nat → Nat) (u : St) (hI : IC u) : Met l yX8_bestQuestion (uc yX8_bestQuestion cX8_bestQuestion 5 (some .int)) (rmL 2 0 0) (va_Pc [.ref (A 15)] (PreR D (tyl C) (cw C A u))) (vp_Si (fun r => (-1) ≤ r.toInt ∧ r.toInt ≤ 5)) 0 0 (fun _ => False) := by
  refine mS (by decide) (Nat.le_of_ble_eq_true rfl) ?_
  intro p e s m below meth c ls ar Q hx hb hml hown hts hK hP hl hret
  have hown : s.vm.findClass RX8 = some m.cls := hown
  have hl : lv_has ls 5 [(0, .ref (A 15))] := hl
  refine lv_iconst (v := (-1)) hx hb dX8_bestQuestion_0 (by decide) ?_
  refine lv_istore_n (lv' := [(1, .int (-1)), (0, .ref (A 15))]) hx hb dX8_bestQuestion_1 rfl hl (by decide) rfl (fun ls hl => ?_)
  refine lv_aload_n hx hb dX8_bestQuestion_2 rfl (lv_at hl 1 rfl) ?_
  refine va_get (ci := 8) (v := .int (gi u 71)) (C := RX8) (T := TX8) (N := 9) hx hb hts (fun w h => uc_in w (inX8 w h)) hown hK hP 15 (cwc15 C A u) rfl 0 (by decide) (hts _ (uc_in _ q_f328)) (fun _ h9 => h9) rfl dX8_bestQuestion_3 ?_
  refine lv_istore_n (lv' := [(2, .int (gi u 71)), (1, .int (-1)), (0, .ref (A 15))]) hx hb dX8_bestQuestion_6 rfl hl (by decide) rfl (fun ls hl => ?_)
  refine lv_iconst (v := 0) hx hb dX8_bestQuestion_7 (by decide) ?_
  refine lv_istore_n (lv' := [(3, .int 0), (2, .int (gi u 71)), (1, .int (-1)), (0, .ref (A 15))]) hx hb dX8_bestQuestion_8 rfl hl (by decide) rfl (fun ls hl => ?_)
  have lp9_74 : ∀ (n9 : Nat) (ls : Array Slot) (y72d : Int32) (y73d : Int32) (y74d : Int32), 0 ≤ y72d.toInt → y72d.toInt ≤ 6 → (-1) ≤ y74d.toInt → y74d.toInt ≤ 5 → 6 - y72d.toInt < (n9 : Int) → lv_has ls 5 [(3, .int y72d), (2, .int y73d), (1, .int y74d), (0, .ref (A 15))] → W p l e (rmL 2 0 0) s m ar below meth c s.heap [] 0 0 Q (F0 m 9 ls []) := by
    intro n9
    induction n9 with
    | zero => intro ls y72d y73d y74d ly72d my72d ly74d my74d hmun9 hl; exfalso; omega
    | succ n9 ih9_74 =>
      intro ls y72d y73d y74d ly72d my72d ly74d my74d hmun9 hl
      refine lv_iload_n hx hb dX8_bestQuestion_9 rfl (lv_at hl 0 rfl) ?_
      refine lv_bipush (v := 6) hx hb dX8_bestQuestion_10 (by decide) ?_
      refine lv_icmp_ge (tgt := 54) hx hb dX8_bestQuestion_12 (by decide) (fun c76 => ?_) (fun c76 => ?_)
      · have c76 := cLE (x := 6) (y := y72d) (X := 6) (Y := y72d.toInt) (by decide) rfl c76
        refine lv_iload_n hx hb dX8_bestQuestion_54 rfl (lv_at hl 2 rfl) ?_
        exact hret _ _ y74d dX8_bestQuestion_55 rfl ⟨by omega, by omega⟩
      · have c76 := cNLE (x := 6) (y := y72d) (X := 6) (Y := y72d.toInt) (by decide) rfl c76
        refine lv_aload_n hx hb dX8_bestQuestion_15 rfl (lv_at hl 3 rfl) ?_
        refine va_get (ci := 8) (v := .ref (A 82)) (C := RX8) (T := TX8) (N := 9) hx hb hts (fun w h => uc_in w (inX8 w h)) hown hK hP 15 (cwc15 C A u) rfl 8 (by decide) (hts _ (uc_in _ q_f341)) (fun _ h9 => h9) rfl dX8_bestQuestion_16 ?_
        refine lv_iload_n hx hb dX8_bestQuestion_19 rfl (lv_at hl 0 rfl) ?_
        refine va_iald hx hb hK hP 82 1 (cwc82 C A u) rfl (i_ix rfl (by omega) (by omega)) dX8_bestQuestion_20 ?_
        refine p_any (fun z77 => ?_)
        refine lv_aload_n hx hb dX8_bestQuestion_21 rfl (lv_at hl 3 rfl) ?_
        refine va_get (ci := 8) (v := .int (gi u 71)) (C := RX8) (T := TX8) (N := 9) hx hb hts (fun w h => uc_in w (inX8 w h)) hown hK hP 15 (cwc15 C A u) rfl 0 (by decide) (hts _ (uc_in _ q_f328)) (fun _ h9 => h9) rfl dX8_bestQuestion_22 ?_
        refine lv_aload_n hx hb dX8_bestQuestion_25 rfl (lv_at hl 3 rfl) ?_
        refine va_get (ci := 8) (v := .ref (A 82)) (C := RX8) (T := TX8) (N := 9) hx hb hts (fun w h => uc_in w (inX8 w h)) hown hK hP 15 (cwc15 C A u) rfl 8 (by decide) (hts _ (uc_in _ q_f341)) (fun _ h9 => h9) rfl dX8_bestQuestion_26 ?_
        refine lv_iload_n hx hb dX8_bestQuestion_29 rfl (lv_at hl 0 rfl) ?_
        refine va_iald hx hb hK hP 82 1 (cwc82 C A u) rfl (i_ix rfl (by omega) (by omega)) dX8_bestQuestion_30 ?_
        refine p_any (fun z78 => ?_)
        refine lv_isub hx hb dX8_bestQuestion_31 ?_
        refine p_any (fun z79 => ?_)
        refine va_mmax hx hb (by rw [hml]; exact hl.1.symm) hown (hts _ (uc_in _ q_m1031)) (hts _ (uc_in _ q_s571)) (hts _ (uc_in _ q_i12)) (hts _ (uc_in _ q_c572)) (Nat.le_of_ble_eq_true rfl) (Nat.le_of_ble_eq_true rfl) (Nat.le_of_ble_eq_true rfl) (Nat.le_of_ble_eq_true rfl) dX8_bestQuestion_32 ?_
        refine p_any (fun z80 => ?_)
        refine lv_istore (lv' := [(4, .int z80), (3, .int y72d), (2, .int y73d), (1, .int y74d), (0, .ref (A 15))]) hx hb dX8_bestQuestion_35 hl (by decide) rfl (fun ls hl => ?_)
        refine lv_iload hx hb dX8_bestQuestion_37 (lv_at hl 0 rfl) ?_
        refine lv_iload_n hx hb dX8_bestQuestion_39 rfl (lv_at hl 2 rfl) ?_
        have j48_85 : ∀ (ls : Array Slot) (y82d : Int32) (y83d : Int32), (-1) ≤ y83d.toInt → y83d.toInt ≤ 5 → lv_has ls 5 [(3, .int y72d), (2, .int y82d), (1, .int y83d), (0, .ref (A 15))] → W p l e (rmL 2 0 0) s m ar below meth c s.heap [] 0 0 Q (F0 m 48 ls []) := by
          intro ls y82d y83d ly83d my83d hl
          obtain ⟨z87, ez87⟩ : ∃ z, z = y72d + Int32.ofInt 1 := ⟨_, rfl⟩
          have hz87 : z87.toInt = y72d.toInt + 1 := by rw [ez87]; exact tt_add rfl (by decide) (by omega) (by omega)
          refine lv_iinc (v := z87) (lv' := [(3, .int z87), (2, .int y82d), (1, .int y83d), (0, .ref (A 15))]) hx hb dX8_bestQuestion_48 hl (k := 0) rfl ez87.symm (by decide) rfl (fun ls hl => ?_)
          refine lv_goto (tgt := 9) hx hb dX8_bestQuestion_51 (by decide) ?_
          exact ih9_74 ls z87 y82d y83d (by have q9 := (show z87.toInt = (y72d.toInt + 1) from hz87); omega) (by have q9 := (show z87.toInt = (y72d.toInt + 1) from hz87); omega) (by omega) (by omega) (by have q9 := (show z87.toInt = (y72d.toInt + 1) from hz87); omega) hl
        refine lv_icmp_ge (tgt := 48) hx hb dX8_bestQuestion_40 (by decide) (fun c81 => ?_) (fun c81 => ?_)
        · have c81 := cLE (x := y73d) (y := z80) (X := y73d.toInt) (Y := z80.toInt) rfl rfl c81
          exact j48_85 ls y73d y74d (by omega) (by omega) (lv_sub hl [1, 2, 3, 4] rfl)
        · have c81 := cNLE (x := y73d) (y := z80) (X := y73d.toInt) (Y := z80.toInt) rfl rfl c81
          refine lv_iload hx hb dX8_bestQuestion_43 (lv_at hl 0 rfl) ?_
          refine lv_istore_n (lv' := [(2, .int z80), (4, .int z80), (3, .int y72d), (1, .int y74d), (0, .ref (A 15))]) hx hb dX8_bestQuestion_45 rfl hl (by decide) rfl (fun ls hl => ?_)
          refine lv_iload_n hx hb dX8_bestQuestion_46 rfl (lv_at hl 2 rfl) ?_
          refine lv_istore_n (lv' := [(1, .int y72d), (2, .int z80), (4, .int z80), (3, .int y72d), (0, .ref (A 15))]) hx hb dX8_bestQuestion_47 rfl hl (by decide) rfl (fun ls hl => ?_)
          exact j48_85 ls z80 y72d (by omega) (by omega) (lv_sub hl [3, 1, 0, 4] rfl)
  exact lp9_74 7 ls 0 (gi u 71) (-1) (by decide) (by decide) (by decide) (by decide) (by have q9 : (0 : Int32).toInt = 0 := (by decide); omega) hl
set_option maxHeartbeats 4000000 in
set_option maxRecDepth 100000 in
theorem kX9_ask_0 (l : Launch) (D : va_G) (C : Nat → ClassId) (A : Nat → Nat) (u : St) (hI : IC u) (a0 : Int32) (A0 : Int) (ha0 : a0.toInt = A0) (sz : Nat) : MetI l yX9_ask cX9_ask 3 (some .int) 6 [.ref (A 0), .int a0] D (tyl C) (cw C A) X0 u sz (fun r u' => IC u' ∧ Un [(71, 71), (72, 72), (73, 73), (76, 76)] [(50, 50), (51, 51), (82, 82)] [] u u' ∧ ((-6) ≤ r.toInt ∧ r.toInt ≤ 5)) := by
  refine mI (by decide) (Nat.le_of_ble_eq_true rfl) ?_
  intro p e s m below meth c ls ar Q hx hb hml hown hts hK hH hX hl hret
  have hown : s.vm.findClass RX9 = some m.cls := hown
  have hl : lv_has ls 3 [(0, .ref (A 0)), (1, .int a0)] := hl
  refine lv_aload_n hx hb dX9_ask_0 rfl (lv_at hl 0 rfl) ?_
  refine lv_iload_n hx hb dX9_ask_1 rfl (lv_at hl 1 rfl) ?_
  refine cvI (n := 1) (As := [.int a0]) (rest := []) ⟨hx, hb, hml, hown, hts⟩ uc_in (kX9_seekAway_0 l D C A u hI a0 A0 ha0 _) q_m987 q_n989 q_p40 q_i1 q_c990 hvX9_seekAway ⟨(Nat.le_of_ble_eq_true rfl), (Nat.le_of_ble_eq_true rfl)⟩ ⟨(Nat.le_of_ble_eq_true rfl), (Nat.le_of_ble_eq_true rfl)⟩ hK hH (fun q h => Or.inr h) Bl0 (fun _ _ _ => trivial) 9 0 rfl (cwc0 C A u) rfl hl.1 rfl (Nat.le_of_ble_eq_true rfl) dX9_ask_2 (fun r2 u1 H locs p3 hH => ?_)
  obtain ⟨hI, hUu1, p3⟩ := p3
  have p3 : (-6) ≤ r2.toInt ∧ r2.toInt ≤ 0 := p3
  refine lv_istore_n (lv' := [(2, .int r2), (0, .ref (A 0)), (1, .int a0)]) hx hb dX9_ask_5 rfl hl (by decide) rfl (fun ls hl => ?_)
  refine lv_iload_n hx hb dX9_ask_6 rfl (lv_at hl 0 rfl) ?_
  refine lv_if_ne (tgt := 20) hx hb dX9_ask_7 (by decide) (fun c4 => ?_) (fun c4 => ?_)
  · have c4 := cNE (x := r2) (y := 0) (X := r2.toInt) (Y := 0) rfl (by decide) c4
    refine lv_iload_n hx hb dX9_ask_20 rfl (lv_at hl 0 rfl) ?_
    exact hret _ _ _ _ r2 _ dX9_ask_21 rfl ⟨hI, (Un.tr Un.rf hUu1 rfl rfl rfl), ⟨by omega, by omega⟩⟩ hH
  · have c4 := cEQ (x := r2) (y := 0) (X := r2.toInt) (Y := 0) rfl (by decide) c4
    refine lv_aload_n hx hb dX9_ask_10 rfl (lv_at hl 1 rfl) ?_
    refine va_get (ci := 9) (v := .ref (A 15)) (C := RX9) (T := TX9) (N := 12) hx hb hts (fun w h => uc_in w (inX9 w h)) hown hK hH.1 0 (cwc0 C A u1) rfl 10 (by decide) (hts _ (uc_in _ q_f393)) (fun _ h9 => h9) rfl dX9_ask_11 ?_
    refine cvS (n := 0) (As := []) (rest := []) ⟨hx, hb, hml, hown, hts⟩ uc_in (kX8_bestQuestion_0 l D C A u1 hI ) q_m1027 q_n1028 q_e1029 q_i9 q_c1030 hvX8_bestQuestion ⟨(Nat.le_of_ble_eq_true rfl), (Nat.le_of_ble_eq_true rfl)⟩ ⟨(Nat.le_of_ble_eq_true rfl), (Nat.le_of_ble_eq_true rfl)⟩ hK hH.1 8 15 rfl (cwc15 C A u1) rfl hl.1 rfl (Nat.le_of_ble_eq_true rfl) dX9_ask_14 (fun r5 p6 => ?_)
    have p6 : (-1) ≤ r5.toInt ∧ r5.toInt ≤ 5 := p6
    refine lv_goto (tgt := 21) hx hb dX9_ask_17 (by decide) ?_
    exact hret _ _ _ _ r5 _ dX9_ask_21 rfl ⟨hI, (Un.tr Un.rf hUu1 rfl rfl rfl), ⟨by omega, by omega⟩⟩ hH
set_option maxHeartbeats 4000000 in
set_option maxRecDepth 100000 in
theorem kX9_away_0 (l : Launch) (D : va_G) (C : Nat → ClassId) (A : Nat → Nat) (u : St) (hI : IC u) (a0 : Int32) (A0 : Int) (ha0 : a0.toInt = A0) (sz : Nat) : MetI l yX9_away cX9_away 3 (some .int) 6 [.ref (A 0), .int a0] D (tyl C) (cw C A) X0 u sz (fun r u' => IC u' ∧ Un [(71, 71), (72, 72), (73, 73), (76, 76)] [(50, 50), (51, 51), (82, 82)] [] u u' ∧ (True)) := by
  refine mI (by decide) (Nat.le_of_ble_eq_true rfl) ?_
  intro p e s m below meth c ls ar Q hx hb hml hown hts hK hH hX hl hret
  have hown : s.vm.findClass RX9 = some m.cls := hown
  have hl : lv_has ls 3 [(0, .ref (A 0)), (1, .int a0)] := hl
  refine lv_aload_n hx hb dX9_away_0 rfl (lv_at hl 0 rfl) ?_
  refine lv_iload_n hx hb dX9_away_1 rfl (lv_at hl 1 rfl) ?_
  refine cvI (n := 1) (As := [.int a0]) (rest := []) ⟨hx, hb, hml, hown, hts⟩ uc_in (kX9_seekAway_0 l D C A u hI a0 A0 ha0 _) q_m987 q_n989 q_p40 q_i1 q_c990 hvX9_seekAway ⟨(Nat.le_of_ble_eq_true rfl), (Nat.le_of_ble_eq_true rfl)⟩ ⟨(Nat.le_of_ble_eq_true rfl), (Nat.le_of_ble_eq_true rfl)⟩ hK hH (fun q h => Or.inr h) Bl0 (fun _ _ _ => trivial) 9 0 rfl (cwc0 C A u) rfl hl.1 rfl (Nat.le_of_ble_eq_true rfl) dX9_away_2 (fun r2 u1 H locs p3 hH => ?_)
  obtain ⟨hI, hUu1, p3⟩ := p3
  have p3 : (-6) ≤ r2.toInt ∧ r2.toInt ≤ 0 := p3
  refine lv_istore_n (lv' := [(2, .int r2), (0, .ref (A 0)), (1, .int a0)]) hx hb dX9_away_5 rfl hl (by decide) rfl (fun ls hl => ?_)
  refine lv_iload_n hx hb dX9_away_6 rfl (lv_at hl 0 rfl) ?_
  refine lv_if_ne (tgt := 20) hx hb dX9_away_7 (by decide) (fun c4 => ?_) (fun c4 => ?_)
  · have c4 := cNE (x := r2) (y := 0) (X := r2.toInt) (Y := 0) rfl (by decide) c4
    refine lv_iload_n hx hb dX9_away_20 rfl (lv_at hl 0 rfl) ?_
    exact hret _ _ _ _ r2 _ dX9_away_21 rfl ⟨hI, (Un.tr Un.rf hUu1 rfl rfl rfl), trivial⟩ hH
  · have c4 := cEQ (x := r2) (y := 0) (X := r2.toInt) (Y := 0) rfl (by decide) c4
    refine lv_aload_n hx hb dX9_away_10 rfl (lv_at hl 1 rfl) ?_
    refine va_get (ci := 9) (v := .ref (A 15)) (C := RX9) (T := TX9) (N := 12) hx hb hts (fun w h => uc_in w (inX9 w h)) hown hK hH.1 0 (cwc0 C A u1) rfl 10 (by decide) (hts _ (uc_in _ q_f393)) (fun _ h9 => h9) rfl dX9_away_11 ?_
    refine va_get (ci := 8) (v := .int (gi u1 71)) (C := RX8) (T := TX8) (N := 9) hx hb hts (fun w h => uc_in w (inX8 w h)) hown hK hH.1 15 (cwc15 C A u1) rfl 0 (by decide) (hts _ (uc_in _ q_f329)) (fun _ h9 => h9) rfl dX9_away_14 ?_
    refine lv_goto (tgt := 21) hx hb dX9_away_17 (by decide) ?_
    exact hret _ _ _ _ (gi u1 71) _ dX9_away_21 rfl ⟨hI, (Un.tr Un.rf hUu1 rfl rfl rfl), trivial⟩ hH
set_option maxHeartbeats 4000000 in
set_option maxRecDepth 100000 in
theorem kX7_copyFrom_0 (l : Launch) (D : va_G) (C : Nat → ClassId) (A : Nat → Nat) (u : St) (hI : IC u) (sz : Nat) : MetV l yX7_copyFrom cX7_copyFrom 2 2 [.ref (A 2), .ref (A 4)] D (tyl C) (cw C A) X0 u sz (fun u' => IC u' ∧ Un [(8, 8), (9, 9), (10, 10), (11, 11), (12, 12), (13, 13), (14, 14), (15, 15)] [(23, 23), (24, 24), (25, 25), (52, 52), (53, 53), (54, 54), (55, 55), (56, 56)] [] u u' ∧ True) := by
  refine mV (by decide) (Nat.le_of_ble_eq_true rfl) ?_
  intro p e s m below meth c ls ar Q hx hb hml hown hts hK hH hX hl hret
  have hown : s.vm.findClass RX7 = some m.cls := hown
  have hl : lv_has ls 2 [(0, .ref (A 2)), (1, .ref (A 4))] := hl
  refine lv_aload_n hx hb dX7_copyFrom_0 rfl (lv_at hl 0 rfl) ?_
  refine lv_aload_n hx hb dX7_copyFrom_1 rfl (lv_at hl 1 rfl) ?_
  refine va_get (ci := 7) (v := .int (gi u 24)) (C := RX7) (T := TX7) (N := 16) hx hb hts (fun w h => uc_in w (inX7 w h)) hown hK hH.1 4 (cwc4 C A u) rfl 0 (by decide) (hts _ (uc_in _ q_f68)) (fun _ h9 => h9) rfl dX7_copyFrom_2 ?_
  refine r_put (j := 8) (ci := 7) (C := RX7) (T := TX7) (N := 16) hx hb hts (fun w h => uc_in w (inX7 w h)) tyX7 tyX7_ok nmX7 hown hK hH 2 (cwc2 C A u) rfl 0 (by decide) (hts _ (uc_in _ q_f68)) (fun _ h9 => h9) rfl (by decide +kernel) (Nat.le_of_ble_eq_true rfl) (cws8 C A u _) dX7_copyFrom_5 (fun u1 eu1 H locs hH => ?_)
  have hI := hI.pi0 eu1 rfl (by decide) (by decide)
  refine lv_aload_n hx hb dX7_copyFrom_8 rfl (lv_at hl 0 rfl) ?_
  refine lv_aload_n hx hb dX7_copyFrom_9 rfl (lv_at hl 1 rfl) ?_
  refine va_get (ci := 7) (v := .int (gi u1 25)) (C := RX7) (T := TX7) (N := 16) hx hb hts (fun w h => uc_in w (inX7 w h)) hown hK hH.1 4 (cwc4 C A u1) rfl 1 (by decide) (hts _ (uc_in _ q_f72)) (fun _ h9 => h9) rfl dX7_copyFrom_10 ?_
  have b2 := hI.b25
  refine r_put (j := 9) (ci := 7) (C := RX7) (T := TX7) (N := 16) hx hb hts (fun w h => uc_in w (inX7 w h)) tyX7 tyX7_ok nmX7 hown hK hH 2 (cwc2 C A u1) rfl 1 (by decide) (hts _ (uc_in _ q_f72)) (fun _ h9 => h9) rfl (by decide +kernel) (Nat.le_of_ble_eq_true rfl) (cws9 C A u1 _) dX7_copyFrom_13 (fun u3 eu3 H locs hH => ?_)
  have hI := hI.s9 eu3 rfl (by omega) (by omega)
  refine lv_aload_n hx hb dX7_copyFrom_16 rfl (lv_at hl 0 rfl) ?_
  refine lv_aload_n hx hb dX7_copyFrom_17 rfl (lv_at hl 1 rfl) ?_
  refine va_get (ci := 7) (v := .int (gi u3 26)) (C := RX7) (T := TX7) (N := 16) hx hb hts (fun w h => uc_in w (inX7 w h)) hown hK hH.1 4 (cwc4 C A u3) rfl 2 (by decide) (hts _ (uc_in _ q_f75)) (fun _ h9 => h9) rfl dX7_copyFrom_18 ?_
  refine r_put (j := 10) (ci := 7) (C := RX7) (T := TX7) (N := 16) hx hb hts (fun w h => uc_in w (inX7 w h)) tyX7 tyX7_ok nmX7 hown hK hH 2 (cwc2 C A u3) rfl 2 (by decide) (hts _ (uc_in _ q_f75)) (fun _ h9 => h9) rfl (by decide +kernel) (Nat.le_of_ble_eq_true rfl) (cws10 C A u3 _) dX7_copyFrom_21 (fun u4 eu4 H locs hH => ?_)
  have hI := hI.pi0 eu4 rfl (by decide) (by decide)
  refine lv_aload_n hx hb dX7_copyFrom_24 rfl (lv_at hl 0 rfl) ?_
  refine lv_aload_n hx hb dX7_copyFrom_25 rfl (lv_at hl 1 rfl) ?_
  refine va_get (ci := 7) (v := .int (gi u4 27)) (C := RX7) (T := TX7) (N := 16) hx hb hts (fun w h => uc_in w (inX7 w h)) hown hK hH.1 4 (cwc4 C A u4) rfl 3 (by decide) (hts _ (uc_in _ q_f78)) (fun _ h9 => h9) rfl dX7_copyFrom_26 ?_
  refine r_put (j := 11) (ci := 7) (C := RX7) (T := TX7) (N := 16) hx hb hts (fun w h => uc_in w (inX7 w h)) tyX7 tyX7_ok nmX7 hown hK hH 2 (cwc2 C A u4) rfl 3 (by decide) (hts _ (uc_in _ q_f78)) (fun _ h9 => h9) rfl (by decide +kernel) (Nat.le_of_ble_eq_true rfl) (cws11 C A u4 _) dX7_copyFrom_29 (fun u5 eu5 H locs hH => ?_)
  have hI := hI.pi0 eu5 rfl (by decide) (by decide)
  refine lv_aload_n hx hb dX7_copyFrom_32 rfl (lv_at hl 0 rfl) ?_
  refine lv_aload_n hx hb dX7_copyFrom_33 rfl (lv_at hl 1 rfl) ?_
  refine va_get (ci := 7) (v := .int (gi u5 28)) (C := RX7) (T := TX7) (N := 16) hx hb hts (fun w h => uc_in w (inX7 w h)) hown hK hH.1 4 (cwc4 C A u5) rfl 4 (by decide) (hts _ (uc_in _ q_f82)) (fun _ h9 => h9) rfl dX7_copyFrom_34 ?_
  have b6 := hI.b28
  refine r_put (j := 12) (ci := 7) (C := RX7) (T := TX7) (N := 16) hx hb hts (fun w h => uc_in w (inX7 w h)) tyX7 tyX7_ok nmX7 hown hK hH 2 (cwc2 C A u5) rfl 4 (by decide) (hts _ (uc_in _ q_f82)) (fun _ h9 => h9) rfl (by decide +kernel) (Nat.le_of_ble_eq_true rfl) (cws12 C A u5 _) dX7_copyFrom_37 (fun u7 eu7 H locs hH => ?_)
  have hI := hI.s12 eu7 rfl (by omega) (by omega)
  refine lv_aload_n hx hb dX7_copyFrom_40 rfl (lv_at hl 0 rfl) ?_
  refine lv_aload_n hx hb dX7_copyFrom_41 rfl (lv_at hl 1 rfl) ?_
  refine va_get (ci := 7) (v := .int (gi u7 29)) (C := RX7) (T := TX7) (N := 16) hx hb hts (fun w h => uc_in w (inX7 w h)) hown hK hH.1 4 (cwc4 C A u7) rfl 5 (by decide) (hts _ (uc_in _ q_f85)) (fun _ h9 => h9) rfl dX7_copyFrom_42 ?_
  refine r_put (j := 13) (ci := 7) (C := RX7) (T := TX7) (N := 16) hx hb hts (fun w h => uc_in w (inX7 w h)) tyX7 tyX7_ok nmX7 hown hK hH 2 (cwc2 C A u7) rfl 5 (by decide) (hts _ (uc_in _ q_f85)) (fun _ h9 => h9) rfl (by decide +kernel) (Nat.le_of_ble_eq_true rfl) (cws13 C A u7 _) dX7_copyFrom_45 (fun u8 eu8 H locs hH => ?_)
  have hI := hI.pi0 eu8 rfl (by decide) (by decide)
  refine lv_aload_n hx hb dX7_copyFrom_48 rfl (lv_at hl 0 rfl) ?_
  refine lv_aload_n hx hb dX7_copyFrom_49 rfl (lv_at hl 1 rfl) ?_
  refine va_get (ci := 7) (v := .int (gi u8 30)) (C := RX7) (T := TX7) (N := 16) hx hb hts (fun w h => uc_in w (inX7 w h)) hown hK hH.1 4 (cwc4 C A u8) rfl 6 (by decide) (hts _ (uc_in _ q_f88)) (fun _ h9 => h9) rfl dX7_copyFrom_50 ?_
  refine r_put (j := 14) (ci := 7) (C := RX7) (T := TX7) (N := 16) hx hb hts (fun w h => uc_in w (inX7 w h)) tyX7 tyX7_ok nmX7 hown hK hH 2 (cwc2 C A u8) rfl 6 (by decide) (hts _ (uc_in _ q_f88)) (fun _ h9 => h9) rfl (by decide +kernel) (Nat.le_of_ble_eq_true rfl) (cws14 C A u8 _) dX7_copyFrom_53 (fun u9 eu9 H locs hH => ?_)
  have hI := hI.pi0 eu9 rfl (by decide) (by decide)
  refine lv_aload_n hx hb dX7_copyFrom_56 rfl (lv_at hl 0 rfl) ?_
  refine lv_aload_n hx hb dX7_copyFrom_57 rfl (lv_at hl 1 rfl) ?_
  refine va_get (ci := 7) (v := .int (gi u9 31)) (C := RX7) (T := TX7) (N := 16) hx hb hts (fun w h => uc_in w (inX7 w h)) hown hK hH.1 4 (cwc4 C A u9) rfl 7 (by decide) (hts _ (uc_in _ q_f92)) (fun _ h9 => h9) rfl dX7_copyFrom_58 ?_
  have b10 := hI.b31
  refine r_put (j := 15) (ci := 7) (C := RX7) (T := TX7) (N := 16) hx hb hts (fun w h => uc_in w (inX7 w h)) tyX7 tyX7_ok nmX7 hown hK hH 2 (cwc2 C A u9) rfl 7 (by decide) (hts _ (uc_in _ q_f92)) (fun _ h9 => h9) rfl (by decide +kernel) (Nat.le_of_ble_eq_true rfl) (cws15 C A u9 _) dX7_copyFrom_61 (fun u11 eu11 H locs hH => ?_)
  have hI := hI.s15 eu11 rfl (by omega) (by omega)
  refine lv_aload_n hx hb dX7_copyFrom_64 rfl (lv_at hl 1 rfl) ?_
  refine va_get (ci := 7) (v := .ref (A 62)) (C := RX7) (T := TX7) (N := 16) hx hb hts (fun w h => uc_in w (inX7 w h)) hown hK hH.1 4 (cwc4 C A u11) rfl 8 (by decide) (hts _ (uc_in _ q_f95)) (fun _ h9 => h9) rfl dX7_copyFrom_65 ?_
  refine lv_iconst (v := 0) hx hb dX7_copyFrom_68 (by decide) ?_
  refine lv_aload_n hx hb dX7_copyFrom_69 rfl (lv_at hl 0 rfl) ?_
  refine va_get (ci := 7) (v := .ref (A 52)) (C := RX7) (T := TX7) (N := 16) hx hb hts (fun w h => uc_in w (inX7 w h)) hown hK hH.1 2 (cwc2 C A u11) rfl 8 (by decide) (hts _ (uc_in _ q_f95)) (fun _ h9 => h9) rfl dX7_copyFrom_70 ?_
  refine lv_iconst (v := 0) hx hb dX7_copyFrom_73 (by decide) ?_
  refine lv_bipush (v := 6) hx hb dX7_copyFrom_74 (by decide) ?_
  refine r_copyi (j0 := 62) (j1 := 52) (S' := 0) (P' := 0) (N' := 6) hx hb (by rw [hml]; exact hl.1.symm) hown (hts _ (uc_in _ q_m560)) (hts _ (uc_in _ q_t562)) (hts _ (uc_in _ q_s561)) (hts _ (uc_in _ q_i17)) hK hH 62 52 1 (cwc62 C A u11) (cwc52 C A u11) rfl (by decide) (by decide) (by decide) (by decide) (by decide) (by decide) (by decide) (by decide) (cwa52 C A u11) (Nat.le_of_ble_eq_true rfl) (Nat.le_of_ble_eq_true rfl) dX7_copyFrom_76 (fun u12 eu12 H locs hH => ?_)
  have hI := hI.pa0 eu12 (by decide)
  refine lv_aload_n hx hb dX7_copyFrom_79 rfl (lv_at hl 1 rfl) ?_
  refine va_get (ci := 7) (v := .ref (A 63)) (C := RX7) (T := TX7) (N := 16) hx hb hts (fun w h => uc_in w (inX7 w h)) hown hK hH.1 4 (cwc4 C A u12) rfl 9 (by decide) (hts _ (uc_in _ q_f99)) (fun _ h9 => h9) rfl dX7_copyFrom_80 ?_
  refine lv_iconst (v := 0) hx hb dX7_copyFrom_83 (by decide) ?_
  refine lv_aload_n hx hb dX7_copyFrom_84 rfl (lv_at hl 0 rfl) ?_
  refine va_get (ci := 7) (v := .ref (A 53)) (C := RX7) (T := TX7) (N := 16) hx hb hts (fun w h => uc_in w (inX7 w h)) hown hK hH.1 2 (cwc2 C A u12) rfl 9 (by decide) (hts _ (uc_in _ q_f99)) (fun _ h9 => h9) rfl dX7_copyFrom_85 ?_
  refine lv_iconst (v := 0) hx hb dX7_copyFrom_88 (by decide) ?_
  refine lv_bipush (v := 6) hx hb dX7_copyFrom_89 (by decide) ?_
  refine r_copyi (j0 := 63) (j1 := 53) (S' := 0) (P' := 0) (N' := 6) hx hb (by rw [hml]; exact hl.1.symm) hown (hts _ (uc_in _ q_m560)) (hts _ (uc_in _ q_t562)) (hts _ (uc_in _ q_s561)) (hts _ (uc_in _ q_i17)) hK hH 63 53 1 (cwc63 C A u12) (cwc53 C A u12) rfl (by decide) (by decide) (by decide) (by decide) (by decide) (by decide) (by decide) (by decide) (cwa53 C A u12) (Nat.le_of_ble_eq_true rfl) (Nat.le_of_ble_eq_true rfl) dX7_copyFrom_91 (fun u13 eu13 H locs hH => ?_)
  have hI := hI.pa0 eu13 (by decide)
  refine lv_aload_n hx hb dX7_copyFrom_94 rfl (lv_at hl 1 rfl) ?_
  refine va_get (ci := 7) (v := .ref (A 64)) (C := RX7) (T := TX7) (N := 16) hx hb hts (fun w h => uc_in w (inX7 w h)) hown hK hH.1 4 (cwc4 C A u13) rfl 10 (by decide) (hts _ (uc_in _ q_f103)) (fun _ h9 => h9) rfl dX7_copyFrom_95 ?_
  refine lv_iconst (v := 0) hx hb dX7_copyFrom_98 (by decide) ?_
  refine lv_aload_n hx hb dX7_copyFrom_99 rfl (lv_at hl 0 rfl) ?_
  refine va_get (ci := 7) (v := .ref (A 54)) (C := RX7) (T := TX7) (N := 16) hx hb hts (fun w h => uc_in w (inX7 w h)) hown hK hH.1 2 (cwc2 C A u13) rfl 10 (by decide) (hts _ (uc_in _ q_f103)) (fun _ h9 => h9) rfl dX7_copyFrom_100 ?_
  refine lv_iconst (v := 0) hx hb dX7_copyFrom_103 (by decide) ?_
  refine lv_bipush (v := 6) hx hb dX7_copyFrom_104 (by decide) ?_
  refine r_copyi (j0 := 64) (j1 := 54) (S' := 0) (P' := 0) (N' := 6) hx hb (by rw [hml]; exact hl.1.symm) hown (hts _ (uc_in _ q_m560)) (hts _ (uc_in _ q_t562)) (hts _ (uc_in _ q_s561)) (hts _ (uc_in _ q_i17)) hK hH 64 54 1 (cwc64 C A u13) (cwc54 C A u13) rfl (by decide) (by decide) (by decide) (by decide) (by decide) (by decide) (by decide) (by decide) (cwa54 C A u13) (Nat.le_of_ble_eq_true rfl) (Nat.le_of_ble_eq_true rfl) dX7_copyFrom_106 (fun u14 eu14 H locs hH => ?_)
  have hI := hI.pa0 eu14 (by decide)
  refine lv_aload_n hx hb dX7_copyFrom_109 rfl (lv_at hl 1 rfl) ?_
  refine va_get (ci := 7) (v := .ref (A 65)) (C := RX7) (T := TX7) (N := 16) hx hb hts (fun w h => uc_in w (inX7 w h)) hown hK hH.1 4 (cwc4 C A u14) rfl 11 (by decide) (hts _ (uc_in _ q_f107)) (fun _ h9 => h9) rfl dX7_copyFrom_110 ?_
  refine lv_iconst (v := 0) hx hb dX7_copyFrom_113 (by decide) ?_
  refine lv_aload_n hx hb dX7_copyFrom_114 rfl (lv_at hl 0 rfl) ?_
  refine va_get (ci := 7) (v := .ref (A 55)) (C := RX7) (T := TX7) (N := 16) hx hb hts (fun w h => uc_in w (inX7 w h)) hown hK hH.1 2 (cwc2 C A u14) rfl 11 (by decide) (hts _ (uc_in _ q_f107)) (fun _ h9 => h9) rfl dX7_copyFrom_115 ?_
  refine lv_iconst (v := 0) hx hb dX7_copyFrom_118 (by decide) ?_
  refine lv_bipush (v := 6) hx hb dX7_copyFrom_119 (by decide) ?_
  refine r_copyi (j0 := 65) (j1 := 55) (S' := 0) (P' := 0) (N' := 6) hx hb (by rw [hml]; exact hl.1.symm) hown (hts _ (uc_in _ q_m560)) (hts _ (uc_in _ q_t562)) (hts _ (uc_in _ q_s561)) (hts _ (uc_in _ q_i17)) hK hH 65 55 1 (cwc65 C A u14) (cwc55 C A u14) rfl (by decide) (by decide) (by decide) (by decide) (by decide) (by decide) (by decide) (by decide) (cwa55 C A u14) (Nat.le_of_ble_eq_true rfl) (Nat.le_of_ble_eq_true rfl) dX7_copyFrom_121 (fun u15 eu15 H locs hH => ?_)
  have hI := hI.pa0 eu15 (by decide)
  refine lv_aload_n hx hb dX7_copyFrom_124 rfl (lv_at hl 1 rfl) ?_
  refine va_get (ci := 7) (v := .ref (A 66)) (C := RX7) (T := TX7) (N := 16) hx hb hts (fun w h => uc_in w (inX7 w h)) hown hK hH.1 4 (cwc4 C A u15) rfl 12 (by decide) (hts _ (uc_in _ q_f111)) (fun _ h9 => h9) rfl dX7_copyFrom_125 ?_
  refine lv_iconst (v := 0) hx hb dX7_copyFrom_128 (by decide) ?_
  refine lv_aload_n hx hb dX7_copyFrom_129 rfl (lv_at hl 0 rfl) ?_
  refine va_get (ci := 7) (v := .ref (A 56)) (C := RX7) (T := TX7) (N := 16) hx hb hts (fun w h => uc_in w (inX7 w h)) hown hK hH.1 2 (cwc2 C A u15) rfl 12 (by decide) (hts _ (uc_in _ q_f111)) (fun _ h9 => h9) rfl dX7_copyFrom_130 ?_
  refine lv_iconst (v := 0) hx hb dX7_copyFrom_133 (by decide) ?_
  refine lv_bipush (v := 6) hx hb dX7_copyFrom_134 (by decide) ?_
  refine r_copyi (j0 := 66) (j1 := 56) (S' := 0) (P' := 0) (N' := 6) hx hb (by rw [hml]; exact hl.1.symm) hown (hts _ (uc_in _ q_m560)) (hts _ (uc_in _ q_t562)) (hts _ (uc_in _ q_s561)) (hts _ (uc_in _ q_i17)) hK hH 66 56 1 (cwc66 C A u15) (cwc56 C A u15) rfl (by decide) (by decide) (by decide) (by decide) (by decide) (by decide) (by decide) (by decide) (cwa56 C A u15) (Nat.le_of_ble_eq_true rfl) (Nat.le_of_ble_eq_true rfl) dX7_copyFrom_136 (fun u16 eu16 H locs hH => ?_)
  have hI := hI.pa0 eu16 (by decide)
  refine lv_aload_n hx hb dX7_copyFrom_139 rfl (lv_at hl 1 rfl) ?_
  refine va_get (ci := 7) (v := .ref (A 29)) (C := RX7) (T := TX7) (N := 16) hx hb hts (fun w h => uc_in w (inX7 w h)) hown hK hH.1 4 (cwc4 C A u16) rfl 13 (by decide) (hts _ (uc_in _ q_f115)) (fun _ h9 => h9) rfl dX7_copyFrom_140 ?_
  refine lv_iconst (v := 0) hx hb dX7_copyFrom_143 (by decide) ?_
  refine lv_aload_n hx hb dX7_copyFrom_144 rfl (lv_at hl 0 rfl) ?_
  refine va_get (ci := 7) (v := .ref (A 23)) (C := RX7) (T := TX7) (N := 16) hx hb hts (fun w h => uc_in w (inX7 w h)) hown hK hH.1 2 (cwc2 C A u16) rfl 13 (by decide) (hts _ (uc_in _ q_f115)) (fun _ h9 => h9) rfl dX7_copyFrom_145 ?_
  refine lv_iconst (v := 0) hx hb dX7_copyFrom_148 (by decide) ?_
  refine lv_bipush (v := 40) hx hb dX7_copyFrom_149 (by decide) ?_
  refine r_copyi (j0 := 29) (j1 := 23) (S' := 0) (P' := 0) (N' := 40) hx hb (by rw [hml]; exact hl.1.symm) hown (hts _ (uc_in _ q_m560)) (hts _ (uc_in _ q_t562)) (hts _ (uc_in _ q_s561)) (hts _ (uc_in _ q_i17)) hK hH 29 23 1 (cwc29 C A u16) (cwc23 C A u16) rfl (by decide) (by decide) (by decide) (by decide) (by decide) (by decide) (by decide) (by decide) (cwa23 C A u16) (Nat.le_of_ble_eq_true rfl) (Nat.le_of_ble_eq_true rfl) dX7_copyFrom_151 (fun u17 eu17 H locs hH => ?_)
  have hI := hI.pa0 eu17 (by decide)
  refine lv_aload_n hx hb dX7_copyFrom_154 rfl (lv_at hl 1 rfl) ?_
  refine va_get (ci := 7) (v := .ref (A 30)) (C := RX7) (T := TX7) (N := 16) hx hb hts (fun w h => uc_in w (inX7 w h)) hown hK hH.1 4 (cwc4 C A u17) rfl 14 (by decide) (hts _ (uc_in _ q_f116)) (fun _ h9 => h9) rfl dX7_copyFrom_155 ?_
  refine lv_iconst (v := 0) hx hb dX7_copyFrom_158 (by decide) ?_
  refine lv_aload_n hx hb dX7_copyFrom_159 rfl (lv_at hl 0 rfl) ?_
  refine va_get (ci := 7) (v := .ref (A 24)) (C := RX7) (T := TX7) (N := 16) hx hb hts (fun w h => uc_in w (inX7 w h)) hown hK hH.1 2 (cwc2 C A u17) rfl 14 (by decide) (hts _ (uc_in _ q_f116)) (fun _ h9 => h9) rfl dX7_copyFrom_160 ?_
  refine lv_iconst (v := 0) hx hb dX7_copyFrom_163 (by decide) ?_
  refine lv_bipush (v := 40) hx hb dX7_copyFrom_164 (by decide) ?_
  refine r_copyi (j0 := 30) (j1 := 24) (S' := 0) (P' := 0) (N' := 40) hx hb (by rw [hml]; exact hl.1.symm) hown (hts _ (uc_in _ q_m560)) (hts _ (uc_in _ q_t562)) (hts _ (uc_in _ q_s561)) (hts _ (uc_in _ q_i17)) hK hH 30 24 1 (cwc30 C A u17) (cwc24 C A u17) rfl (by decide) (by decide) (by decide) (by decide) (by decide) (by decide) (by decide) (by decide) (cwa24 C A u17) (Nat.le_of_ble_eq_true rfl) (Nat.le_of_ble_eq_true rfl) dX7_copyFrom_166 (fun u18 eu18 H locs hH => ?_)
  have hI := hI.pa0 eu18 (by decide)
  refine lv_aload_n hx hb dX7_copyFrom_169 rfl (lv_at hl 1 rfl) ?_
  refine va_get (ci := 7) (v := .ref (A 31)) (C := RX7) (T := TX7) (N := 16) hx hb hts (fun w h => uc_in w (inX7 w h)) hown hK hH.1 4 (cwc4 C A u18) rfl 15 (by decide) (hts _ (uc_in _ q_f117)) (fun _ h9 => h9) rfl dX7_copyFrom_170 ?_
  refine lv_iconst (v := 0) hx hb dX7_copyFrom_173 (by decide) ?_
  refine lv_aload_n hx hb dX7_copyFrom_174 rfl (lv_at hl 0 rfl) ?_
  refine va_get (ci := 7) (v := .ref (A 25)) (C := RX7) (T := TX7) (N := 16) hx hb hts (fun w h => uc_in w (inX7 w h)) hown hK hH.1 2 (cwc2 C A u18) rfl 15 (by decide) (hts _ (uc_in _ q_f117)) (fun _ h9 => h9) rfl dX7_copyFrom_175 ?_
  refine lv_iconst (v := 0) hx hb dX7_copyFrom_178 (by decide) ?_
  refine lv_bipush (v := 40) hx hb dX7_copyFrom_179 (by decide) ?_
  refine r_copyi (j0 := 31) (j1 := 25) (S' := 0) (P' := 0) (N' := 40) hx hb (by rw [hml]; exact hl.1.symm) hown (hts _ (uc_in _ q_m560)) (hts _ (uc_in _ q_t562)) (hts _ (uc_in _ q_s561)) (hts _ (uc_in _ q_i17)) hK hH 31 25 1 (cwc31 C A u18) (cwc25 C A u18) rfl (by decide) (by decide) (by decide) (by decide) (by decide) (by decide) (by decide) (by decide) (cwa25 C A u18) (Nat.le_of_ble_eq_true rfl) (Nat.le_of_ble_eq_true rfl) dX7_copyFrom_181 (fun u19 eu19 H locs hH => ?_)
  have hI := hI.pa0 eu19 (by decide)
  exact hret _ _ _ _ _ dX7_copyFrom_184 ⟨hI, (Un.sa (Un.sa (Un.sa (Un.sa (Un.sa (Un.sa (Un.sa (Un.sa (Un.si (Un.si (Un.si (Un.si (Un.si (Un.si (Un.si (Un.si Un.rf rfl eu1) rfl eu3) rfl eu4) rfl eu5) rfl eu7) rfl eu8) rfl eu9) rfl eu11) rfl eu12) rfl eu13) rfl eu14) rfl eu15) rfl eu16) rfl eu17) rfl eu18) rfl eu19), trivial⟩ hH
set_option maxHeartbeats 4000000 in
set_option maxRecDepth 100000 in
theorem kX7_copyFrom_1 (l : Launch) (D : va_G) (C : Nat → ClassId) (A : Nat → Nat) (u : St) (hI : IC u) (sz : Nat) : MetV l yX7_copyFrom cX7_copyFrom 2 2 [.ref (A 2), .ref (A 5)] D (tyl C) (cw C A) X0 u sz (fun u' => IC u' ∧ Un [(8, 8), (9, 9), (10, 10), (11, 11), (12, 12), (13, 13), (14, 14), (15, 15)] [(23, 23), (24, 24), (25, 25), (52, 52), (53, 53), (54, 54), (55, 55), (56, 56)] [] u u' ∧ True) := by
  refine mV (by decide) (Nat.le_of_ble_eq_true rfl) ?_
  intro p e s m below meth c ls ar Q hx hb hml hown hts hK hH hX hl hret
  have hown : s.vm.findClass RX7 = some m.cls := hown
  have hl : lv_has ls 2 [(0, .ref (A 2)), (1, .ref (A 5))] := hl
  refine lv_aload_n hx hb dX7_copyFrom_0 rfl (lv_at hl 0 rfl) ?_
  refine lv_aload_n hx hb dX7_copyFrom_1 rfl (lv_at hl 1 rfl) ?_
  refine va_get (ci := 7) (v := .int (gi u 32)) (C := RX7) (T := TX7) (N := 16) hx hb hts (fun w h => uc_in w (inX7 w h)) hown hK hH.1 5 (cwc5 C A u) rfl 0 (by decide) (hts _ (uc_in _ q_f68)) (fun _ h9 => h9) rfl dX7_copyFrom_2 ?_
  refine r_put (j := 8) (ci := 7) (C := RX7) (T := TX7) (N := 16) hx hb hts (fun w h => uc_in w (inX7 w h)) tyX7 tyX7_ok nmX7 hown hK hH 2 (cwc2 C A u) rfl 0 (by decide) (hts _ (uc_in _ q_f68)) (fun _ h9 => h9) rfl (by decide +kernel) (Nat.le_of_ble_eq_true rfl) (cws8 C A u _) dX7_copyFrom_5 (fun u1 eu1 H locs hH => ?_)
  have hI := hI.pi0 eu1 rfl (by decide) (by decide)
  refine lv_aload_n hx hb dX7_copyFrom_8 rfl (lv_at hl 0 rfl) ?_
  refine lv_aload_n hx hb dX7_copyFrom_9 rfl (lv_at hl 1 rfl) ?_
  refine va_get (ci := 7) (v := .int (gi u1 33)) (C := RX7) (T := TX7) (N := 16) hx hb hts (fun w h => uc_in w (inX7 w h)) hown hK hH.1 5 (cwc5 C A u1) rfl 1 (by decide) (hts _ (uc_in _ q_f72)) (fun _ h9 => h9) rfl dX7_copyFrom_10 ?_
  have b2 := hI.b33
  refine r_put (j := 9) (ci := 7) (C := RX7) (T := TX7) (N := 16) hx hb hts (fun w h => uc_in w (inX7 w h)) tyX7 tyX7_ok nmX7 hown hK hH 2 (cwc2 C A u1) rfl 1 (by decide) (hts _ (uc_in _ q_f72)) (fun _ h9 => h9) rfl (by decide +kernel) (Nat.le_of_ble_eq_true rfl) (cws9 C A u1 _) dX7_copyFrom_13 (fun u3 eu3 H locs hH => ?_)
  have hI := hI.s9 eu3 rfl (by omega) (by omega)
  refine lv_aload_n hx hb dX7_copyFrom_16 rfl (lv_at hl 0 rfl) ?_
  refine lv_aload_n hx hb dX7_copyFrom_17 rfl (lv_at hl 1 rfl) ?_
  refine va_get (ci := 7) (v := .int (gi u3 34)) (C := RX7) (T := TX7) (N := 16) hx hb hts (fun w h => uc_in w (inX7 w h)) hown hK hH.1 5 (cwc5 C A u3) rfl 2 (by decide) (hts _ (uc_in _ q_f75)) (fun _ h9 => h9) rfl dX7_copyFrom_18 ?_
  refine r_put (j := 10) (ci := 7) (C := RX7) (T := TX7) (N := 16) hx hb hts (fun w h => uc_in w (inX7 w h)) tyX7 tyX7_ok nmX7 hown hK hH 2 (cwc2 C A u3) rfl 2 (by decide) (hts _ (uc_in _ q_f75)) (fun _ h9 => h9) rfl (by decide +kernel) (Nat.le_of_ble_eq_true rfl) (cws10 C A u3 _) dX7_copyFrom_21 (fun u4 eu4 H locs hH => ?_)
  have hI := hI.pi0 eu4 rfl (by decide) (by decide)
  refine lv_aload_n hx hb dX7_copyFrom_24 rfl (lv_at hl 0 rfl) ?_
  refine lv_aload_n hx hb dX7_copyFrom_25 rfl (lv_at hl 1 rfl) ?_
  refine va_get (ci := 7) (v := .int (gi u4 35)) (C := RX7) (T := TX7) (N := 16) hx hb hts (fun w h => uc_in w (inX7 w h)) hown hK hH.1 5 (cwc5 C A u4) rfl 3 (by decide) (hts _ (uc_in _ q_f78)) (fun _ h9 => h9) rfl dX7_copyFrom_26 ?_
  refine r_put (j := 11) (ci := 7) (C := RX7) (T := TX7) (N := 16) hx hb hts (fun w h => uc_in w (inX7 w h)) tyX7 tyX7_ok nmX7 hown hK hH 2 (cwc2 C A u4) rfl 3 (by decide) (hts _ (uc_in _ q_f78)) (fun _ h9 => h9) rfl (by decide +kernel) (Nat.le_of_ble_eq_true rfl) (cws11 C A u4 _) dX7_copyFrom_29 (fun u5 eu5 H locs hH => ?_)
  have hI := hI.pi0 eu5 rfl (by decide) (by decide)
  refine lv_aload_n hx hb dX7_copyFrom_32 rfl (lv_at hl 0 rfl) ?_
  refine lv_aload_n hx hb dX7_copyFrom_33 rfl (lv_at hl 1 rfl) ?_
  refine va_get (ci := 7) (v := .int (gi u5 36)) (C := RX7) (T := TX7) (N := 16) hx hb hts (fun w h => uc_in w (inX7 w h)) hown hK hH.1 5 (cwc5 C A u5) rfl 4 (by decide) (hts _ (uc_in _ q_f82)) (fun _ h9 => h9) rfl dX7_copyFrom_34 ?_
  have b6 := hI.b36
  refine r_put (j := 12) (ci := 7) (C := RX7) (T := TX7) (N := 16) hx hb hts (fun w h => uc_in w (inX7 w h)) tyX7 tyX7_ok nmX7 hown hK hH 2 (cwc2 C A u5) rfl 4 (by decide) (hts _ (uc_in _ q_f82)) (fun _ h9 => h9) rfl (by decide +kernel) (Nat.le_of_ble_eq_true rfl) (cws12 C A u5 _) dX7_copyFrom_37 (fun u7 eu7 H locs hH => ?_)
  have hI := hI.s12 eu7 rfl (by omega) (by omega)
  refine lv_aload_n hx hb dX7_copyFrom_40 rfl (lv_at hl 0 rfl) ?_
  refine lv_aload_n hx hb dX7_copyFrom_41 rfl (lv_at hl 1 rfl) ?_
  refine va_get (ci := 7) (v := .int (gi u7 37)) (C := RX7) (T := TX7) (N := 16) hx hb hts (fun w h => uc_in w (inX7 w h)) hown hK hH.1 5 (cwc5 C A u7) rfl 5 (by decide) (hts _ (uc_in _ q_f85)) (fun _ h9 => h9) rfl dX7_copyFrom_42 ?_
  refine r_put (j := 13) (ci := 7) (C := RX7) (T := TX7) (N := 16) hx hb hts (fun w h => uc_in w (inX7 w h)) tyX7 tyX7_ok nmX7 hown hK hH 2 (cwc2 C A u7) rfl 5 (by decide) (hts _ (uc_in _ q_f85)) (fun _ h9 => h9) rfl (by decide +kernel) (Nat.le_of_ble_eq_true rfl) (cws13 C A u7 _) dX7_copyFrom_45 (fun u8 eu8 H locs hH => ?_)
  have hI := hI.pi0 eu8 rfl (by decide) (by decide)
  refine lv_aload_n hx hb dX7_copyFrom_48 rfl (lv_at hl 0 rfl) ?_
  refine lv_aload_n hx hb dX7_copyFrom_49 rfl (lv_at hl 1 rfl) ?_
  refine va_get (ci := 7) (v := .int (gi u8 38)) (C := RX7) (T := TX7) (N := 16) hx hb hts (fun w h => uc_in w (inX7 w h)) hown hK hH.1 5 (cwc5 C A u8) rfl 6 (by decide) (hts _ (uc_in _ q_f88)) (fun _ h9 => h9) rfl dX7_copyFrom_50 ?_
  refine r_put (j := 14) (ci := 7) (C := RX7) (T := TX7) (N := 16) hx hb hts (fun w h => uc_in w (inX7 w h)) tyX7 tyX7_ok nmX7 hown hK hH 2 (cwc2 C A u8) rfl 6 (by decide) (hts _ (uc_in _ q_f88)) (fun _ h9 => h9) rfl (by decide +kernel) (Nat.le_of_ble_eq_true rfl) (cws14 C A u8 _) dX7_copyFrom_53 (fun u9 eu9 H locs hH => ?_)
  have hI := hI.pi0 eu9 rfl (by decide) (by decide)
  refine lv_aload_n hx hb dX7_copyFrom_56 rfl (lv_at hl 0 rfl) ?_
  refine lv_aload_n hx hb dX7_copyFrom_57 rfl (lv_at hl 1 rfl) ?_
  refine va_get (ci := 7) (v := .int (gi u9 39)) (C := RX7) (T := TX7) (N := 16) hx hb hts (fun w h => uc_in w (inX7 w h)) hown hK hH.1 5 (cwc5 C A u9) rfl 7 (by decide) (hts _ (uc_in _ q_f92)) (fun _ h9 => h9) rfl dX7_copyFrom_58 ?_
  have b10 := hI.b39
  refine r_put (j := 15) (ci := 7) (C := RX7) (T := TX7) (N := 16) hx hb hts (fun w h => uc_in w (inX7 w h)) tyX7 tyX7_ok nmX7 hown hK hH 2 (cwc2 C A u9) rfl 7 (by decide) (hts _ (uc_in _ q_f92)) (fun _ h9 => h9) rfl (by decide +kernel) (Nat.le_of_ble_eq_true rfl) (cws15 C A u9 _) dX7_copyFrom_61 (fun u11 eu11 H locs hH => ?_)
  have hI := hI.s15 eu11 rfl (by omega) (by omega)
  refine lv_aload_n hx hb dX7_copyFrom_64 rfl (lv_at hl 1 rfl) ?_
  refine va_get (ci := 7) (v := .ref (A 67)) (C := RX7) (T := TX7) (N := 16) hx hb hts (fun w h => uc_in w (inX7 w h)) hown hK hH.1 5 (cwc5 C A u11) rfl 8 (by decide) (hts _ (uc_in _ q_f95)) (fun _ h9 => h9) rfl dX7_copyFrom_65 ?_
  refine lv_iconst (v := 0) hx hb dX7_copyFrom_68 (by decide) ?_
  refine lv_aload_n hx hb dX7_copyFrom_69 rfl (lv_at hl 0 rfl) ?_
  refine va_get (ci := 7) (v := .ref (A 52)) (C := RX7) (T := TX7) (N := 16) hx hb hts (fun w h => uc_in w (inX7 w h)) hown hK hH.1 2 (cwc2 C A u11) rfl 8 (by decide) (hts _ (uc_in _ q_f95)) (fun _ h9 => h9) rfl dX7_copyFrom_70 ?_
  refine lv_iconst (v := 0) hx hb dX7_copyFrom_73 (by decide) ?_
  refine lv_bipush (v := 6) hx hb dX7_copyFrom_74 (by decide) ?_
  refine r_copyi (j0 := 67) (j1 := 52) (S' := 0) (P' := 0) (N' := 6) hx hb (by rw [hml]; exact hl.1.symm) hown (hts _ (uc_in _ q_m560)) (hts _ (uc_in _ q_t562)) (hts _ (uc_in _ q_s561)) (hts _ (uc_in _ q_i17)) hK hH 67 52 1 (cwc67 C A u11) (cwc52 C A u11) rfl (by decide) (by decide) (by decide) (by decide) (by decide) (by decide) (by decide) (by decide) (cwa52 C A u11) (Nat.le_of_ble_eq_true rfl) (Nat.le_of_ble_eq_true rfl) dX7_copyFrom_76 (fun u12 eu12 H locs hH => ?_)
  have hI := hI.pa0 eu12 (by decide)
  refine lv_aload_n hx hb dX7_copyFrom_79 rfl (lv_at hl 1 rfl) ?_
  refine va_get (ci := 7) (v := .ref (A 68)) (C := RX7) (T := TX7) (N := 16) hx hb hts (fun w h => uc_in w (inX7 w h)) hown hK hH.1 5 (cwc5 C A u12) rfl 9 (by decide) (hts _ (uc_in _ q_f99)) (fun _ h9 => h9) rfl dX7_copyFrom_80 ?_
  refine lv_iconst (v := 0) hx hb dX7_copyFrom_83 (by decide) ?_
  refine lv_aload_n hx hb dX7_copyFrom_84 rfl (lv_at hl 0 rfl) ?_
  refine va_get (ci := 7) (v := .ref (A 53)) (C := RX7) (T := TX7) (N := 16) hx hb hts (fun w h => uc_in w (inX7 w h)) hown hK hH.1 2 (cwc2 C A u12) rfl 9 (by decide) (hts _ (uc_in _ q_f99)) (fun _ h9 => h9) rfl dX7_copyFrom_85 ?_
  refine lv_iconst (v := 0) hx hb dX7_copyFrom_88 (by decide) ?_
  refine lv_bipush (v := 6) hx hb dX7_copyFrom_89 (by decide) ?_
  refine r_copyi (j0 := 68) (j1 := 53) (S' := 0) (P' := 0) (N' := 6) hx hb (by rw [hml]; exact hl.1.symm) hown (hts _ (uc_in _ q_m560)) (hts _ (uc_in _ q_t562)) (hts _ (uc_in _ q_s561)) (hts _ (uc_in _ q_i17)) hK hH 68 53 1 (cwc68 C A u12) (cwc53 C A u12) rfl (by decide) (by decide) (by decide) (by decide) (by decide) (by decide) (by decide) (by decide) (cwa53 C A u12) (Nat.le_of_ble_eq_true rfl) (Nat.le_of_ble_eq_true rfl) dX7_copyFrom_91 (fun u13 eu13 H locs hH => ?_)
  have hI := hI.pa0 eu13 (by decide)
  refine lv_aload_n hx hb dX7_copyFrom_94 rfl (lv_at hl 1 rfl) ?_
  refine va_get (ci := 7) (v := .ref (A 69)) (C := RX7) (T := TX7) (N := 16) hx hb hts (fun w h => uc_in w (inX7 w h)) hown hK hH.1 5 (cwc5 C A u13) rfl 10 (by decide) (hts _ (uc_in _ q_f103)) (fun _ h9 => h9) rfl dX7_copyFrom_95 ?_
  refine lv_iconst (v := 0) hx hb dX7_copyFrom_98 (by decide) ?_
  refine lv_aload_n hx hb dX7_copyFrom_99 rfl (lv_at hl 0 rfl) ?_
  refine va_get (ci := 7) (v := .ref (A 54)) (C := RX7) (T := TX7) (N := 16) hx hb hts (fun w h => uc_in w (inX7 w h)) hown hK hH.1 2 (cwc2 C A u13) rfl 10 (by decide) (hts _ (uc_in _ q_f103)) (fun _ h9 => h9) rfl dX7_copyFrom_100 ?_
  refine lv_iconst (v := 0) hx hb dX7_copyFrom_103 (by decide) ?_
  refine lv_bipush (v := 6) hx hb dX7_copyFrom_104 (by decide) ?_
  refine r_copyi (j0 := 69) (j1 := 54) (S' := 0) (P' := 0) (N' := 6) hx hb (by rw [hml]; exact hl.1.symm) hown (hts _ (uc_in _ q_m560)) (hts _ (uc_in _ q_t562)) (hts _ (uc_in _ q_s561)) (hts _ (uc_in _ q_i17)) hK hH 69 54 1 (cwc69 C A u13) (cwc54 C A u13) rfl (by decide) (by decide) (by decide) (by decide) (by decide) (by decide) (by decide) (by decide) (cwa54 C A u13) (Nat.le_of_ble_eq_true rfl) (Nat.le_of_ble_eq_true rfl) dX7_copyFrom_106 (fun u14 eu14 H locs hH => ?_)
  have hI := hI.pa0 eu14 (by decide)
  refine lv_aload_n hx hb dX7_copyFrom_109 rfl (lv_at hl 1 rfl) ?_
  refine va_get (ci := 7) (v := .ref (A 70)) (C := RX7) (T := TX7) (N := 16) hx hb hts (fun w h => uc_in w (inX7 w h)) hown hK hH.1 5 (cwc5 C A u14) rfl 11 (by decide) (hts _ (uc_in _ q_f107)) (fun _ h9 => h9) rfl dX7_copyFrom_110 ?_
  refine lv_iconst (v := 0) hx hb dX7_copyFrom_113 (by decide) ?_
  refine lv_aload_n hx hb dX7_copyFrom_114 rfl (lv_at hl 0 rfl) ?_
  refine va_get (ci := 7) (v := .ref (A 55)) (C := RX7) (T := TX7) (N := 16) hx hb hts (fun w h => uc_in w (inX7 w h)) hown hK hH.1 2 (cwc2 C A u14) rfl 11 (by decide) (hts _ (uc_in _ q_f107)) (fun _ h9 => h9) rfl dX7_copyFrom_115 ?_
  refine lv_iconst (v := 0) hx hb dX7_copyFrom_118 (by decide) ?_
  refine lv_bipush (v := 6) hx hb dX7_copyFrom_119 (by decide) ?_
  refine r_copyi (j0 := 70) (j1 := 55) (S' := 0) (P' := 0) (N' := 6) hx hb (by rw [hml]; exact hl.1.symm) hown (hts _ (uc_in _ q_m560)) (hts _ (uc_in _ q_t562)) (hts _ (uc_in _ q_s561)) (hts _ (uc_in _ q_i17)) hK hH 70 55 1 (cwc70 C A u14) (cwc55 C A u14) rfl (by decide) (by decide) (by decide) (by decide) (by decide) (by decide) (by decide) (by decide) (cwa55 C A u14) (Nat.le_of_ble_eq_true rfl) (Nat.le_of_ble_eq_true rfl) dX7_copyFrom_121 (fun u15 eu15 H locs hH => ?_)
  have hI := hI.pa0 eu15 (by decide)
  refine lv_aload_n hx hb dX7_copyFrom_124 rfl (lv_at hl 1 rfl) ?_
  refine va_get (ci := 7) (v := .ref (A 71)) (C := RX7) (T := TX7) (N := 16) hx hb hts (fun w h => uc_in w (inX7 w h)) hown hK hH.1 5 (cwc5 C A u15) rfl 12 (by decide) (hts _ (uc_in _ q_f111)) (fun _ h9 => h9) rfl dX7_copyFrom_125 ?_
  refine lv_iconst (v := 0) hx hb dX7_copyFrom_128 (by decide) ?_
  refine lv_aload_n hx hb dX7_copyFrom_129 rfl (lv_at hl 0 rfl) ?_
  refine va_get (ci := 7) (v := .ref (A 56)) (C := RX7) (T := TX7) (N := 16) hx hb hts (fun w h => uc_in w (inX7 w h)) hown hK hH.1 2 (cwc2 C A u15) rfl 12 (by decide) (hts _ (uc_in _ q_f111)) (fun _ h9 => h9) rfl dX7_copyFrom_130 ?_
  refine lv_iconst (v := 0) hx hb dX7_copyFrom_133 (by decide) ?_
  refine lv_bipush (v := 6) hx hb dX7_copyFrom_134 (by decide) ?_
  refine r_copyi (j0 := 71) (j1 := 56) (S' := 0) (P' := 0) (N' := 6) hx hb (by rw [hml]; exact hl.1.symm) hown (hts _ (uc_in _ q_m560)) (hts _ (uc_in _ q_t562)) (hts _ (uc_in _ q_s561)) (hts _ (uc_in _ q_i17)) hK hH 71 56 1 (cwc71 C A u15) (cwc56 C A u15) rfl (by decide) (by decide) (by decide) (by decide) (by decide) (by decide) (by decide) (by decide) (cwa56 C A u15) (Nat.le_of_ble_eq_true rfl) (Nat.le_of_ble_eq_true rfl) dX7_copyFrom_136 (fun u16 eu16 H locs hH => ?_)
  have hI := hI.pa0 eu16 (by decide)
  refine lv_aload_n hx hb dX7_copyFrom_139 rfl (lv_at hl 1 rfl) ?_
  refine va_get (ci := 7) (v := .ref (A 32)) (C := RX7) (T := TX7) (N := 16) hx hb hts (fun w h => uc_in w (inX7 w h)) hown hK hH.1 5 (cwc5 C A u16) rfl 13 (by decide) (hts _ (uc_in _ q_f115)) (fun _ h9 => h9) rfl dX7_copyFrom_140 ?_
  refine lv_iconst (v := 0) hx hb dX7_copyFrom_143 (by decide) ?_
  refine lv_aload_n hx hb dX7_copyFrom_144 rfl (lv_at hl 0 rfl) ?_
  refine va_get (ci := 7) (v := .ref (A 23)) (C := RX7) (T := TX7) (N := 16) hx hb hts (fun w h => uc_in w (inX7 w h)) hown hK hH.1 2 (cwc2 C A u16) rfl 13 (by decide) (hts _ (uc_in _ q_f115)) (fun _ h9 => h9) rfl dX7_copyFrom_145 ?_
  refine lv_iconst (v := 0) hx hb dX7_copyFrom_148 (by decide) ?_
  refine lv_bipush (v := 40) hx hb dX7_copyFrom_149 (by decide) ?_
  refine r_copyi (j0 := 32) (j1 := 23) (S' := 0) (P' := 0) (N' := 40) hx hb (by rw [hml]; exact hl.1.symm) hown (hts _ (uc_in _ q_m560)) (hts _ (uc_in _ q_t562)) (hts _ (uc_in _ q_s561)) (hts _ (uc_in _ q_i17)) hK hH 32 23 1 (cwc32 C A u16) (cwc23 C A u16) rfl (by decide) (by decide) (by decide) (by decide) (by decide) (by decide) (by decide) (by decide) (cwa23 C A u16) (Nat.le_of_ble_eq_true rfl) (Nat.le_of_ble_eq_true rfl) dX7_copyFrom_151 (fun u17 eu17 H locs hH => ?_)
  have hI := hI.pa0 eu17 (by decide)
  refine lv_aload_n hx hb dX7_copyFrom_154 rfl (lv_at hl 1 rfl) ?_
  refine va_get (ci := 7) (v := .ref (A 33)) (C := RX7) (T := TX7) (N := 16) hx hb hts (fun w h => uc_in w (inX7 w h)) hown hK hH.1 5 (cwc5 C A u17) rfl 14 (by decide) (hts _ (uc_in _ q_f116)) (fun _ h9 => h9) rfl dX7_copyFrom_155 ?_
  refine lv_iconst (v := 0) hx hb dX7_copyFrom_158 (by decide) ?_
  refine lv_aload_n hx hb dX7_copyFrom_159 rfl (lv_at hl 0 rfl) ?_
  refine va_get (ci := 7) (v := .ref (A 24)) (C := RX7) (T := TX7) (N := 16) hx hb hts (fun w h => uc_in w (inX7 w h)) hown hK hH.1 2 (cwc2 C A u17) rfl 14 (by decide) (hts _ (uc_in _ q_f116)) (fun _ h9 => h9) rfl dX7_copyFrom_160 ?_
  refine lv_iconst (v := 0) hx hb dX7_copyFrom_163 (by decide) ?_
  refine lv_bipush (v := 40) hx hb dX7_copyFrom_164 (by decide) ?_
  refine r_copyi (j0 := 33) (j1 := 24) (S' := 0) (P' := 0) (N' := 40) hx hb (by rw [hml]; exact hl.1.symm) hown (hts _ (uc_in _ q_m560)) (hts _ (uc_in _ q_t562)) (hts _ (uc_in _ q_s561)) (hts _ (uc_in _ q_i17)) hK hH 33 24 1 (cwc33 C A u17) (cwc24 C A u17) rfl (by decide) (by decide) (by decide) (by decide) (by decide) (by decide) (by decide) (by decide) (cwa24 C A u17) (Nat.le_of_ble_eq_true rfl) (Nat.le_of_ble_eq_true rfl) dX7_copyFrom_166 (fun u18 eu18 H locs hH => ?_)
  have hI := hI.pa0 eu18 (by decide)
  refine lv_aload_n hx hb dX7_copyFrom_169 rfl (lv_at hl 1 rfl) ?_
  refine va_get (ci := 7) (v := .ref (A 34)) (C := RX7) (T := TX7) (N := 16) hx hb hts (fun w h => uc_in w (inX7 w h)) hown hK hH.1 5 (cwc5 C A u18) rfl 15 (by decide) (hts _ (uc_in _ q_f117)) (fun _ h9 => h9) rfl dX7_copyFrom_170 ?_
  refine lv_iconst (v := 0) hx hb dX7_copyFrom_173 (by decide) ?_
  refine lv_aload_n hx hb dX7_copyFrom_174 rfl (lv_at hl 0 rfl) ?_
  refine va_get (ci := 7) (v := .ref (A 25)) (C := RX7) (T := TX7) (N := 16) hx hb hts (fun w h => uc_in w (inX7 w h)) hown hK hH.1 2 (cwc2 C A u18) rfl 15 (by decide) (hts _ (uc_in _ q_f117)) (fun _ h9 => h9) rfl dX7_copyFrom_175 ?_
  refine lv_iconst (v := 0) hx hb dX7_copyFrom_178 (by decide) ?_
  refine lv_bipush (v := 40) hx hb dX7_copyFrom_179 (by decide) ?_
  refine r_copyi (j0 := 34) (j1 := 25) (S' := 0) (P' := 0) (N' := 40) hx hb (by rw [hml]; exact hl.1.symm) hown (hts _ (uc_in _ q_m560)) (hts _ (uc_in _ q_t562)) (hts _ (uc_in _ q_s561)) (hts _ (uc_in _ q_i17)) hK hH 34 25 1 (cwc34 C A u18) (cwc25 C A u18) rfl (by decide) (by decide) (by decide) (by decide) (by decide) (by decide) (by decide) (by decide) (cwa25 C A u18) (Nat.le_of_ble_eq_true rfl) (Nat.le_of_ble_eq_true rfl) dX7_copyFrom_181 (fun u19 eu19 H locs hH => ?_)
  have hI := hI.pa0 eu19 (by decide)
  exact hret _ _ _ _ _ dX7_copyFrom_184 ⟨hI, (Un.sa (Un.sa (Un.sa (Un.sa (Un.sa (Un.sa (Un.sa (Un.sa (Un.si (Un.si (Un.si (Un.si (Un.si (Un.si (Un.si (Un.si Un.rf rfl eu1) rfl eu3) rfl eu4) rfl eu5) rfl eu7) rfl eu8) rfl eu9) rfl eu11) rfl eu12) rfl eu13) rfl eu14) rfl eu15) rfl eu16) rfl eu17) rfl eu18) rfl eu19), trivial⟩ hH
set_option maxHeartbeats 4000000 in
set_option maxRecDepth 100000 in
theorem kX7_copyFrom_2 (l : Launch) (D : va_G) (C : Nat → ClassId) (A : Nat → Nat) (u : St) (hI : IC u) (sz : Nat) : MetV l yX7_copyFrom cX7_copyFrom 2 2 [.ref (A 2), .ref (A 6)] D (tyl C) (cw C A) X0 u sz (fun u' => IC u' ∧ Un [(8, 8), (9, 9), (10, 10), (11, 11), (12, 12), (13, 13), (14, 14), (15, 15)] [(23, 23), (24, 24), (25, 25), (52, 52), (53, 53), (54, 54), (55, 55), (56, 56)] [] u u' ∧ True) := by
  refine mV (by decide) (Nat.le_of_ble_eq_true rfl) ?_
  intro p e s m below meth c ls ar Q hx hb hml hown hts hK hH hX hl hret
  have hown : s.vm.findClass RX7 = some m.cls := hown
  have hl : lv_has ls 2 [(0, .ref (A 2)), (1, .ref (A 6))] := hl
  refine lv_aload_n hx hb dX7_copyFrom_0 rfl (lv_at hl 0 rfl) ?_
  refine lv_aload_n hx hb dX7_copyFrom_1 rfl (lv_at hl 1 rfl) ?_
  refine va_get (ci := 7) (v := .int (gi u 40)) (C := RX7) (T := TX7) (N := 16) hx hb hts (fun w h => uc_in w (inX7 w h)) hown hK hH.1 6 (cwc6 C A u) rfl 0 (by decide) (hts _ (uc_in _ q_f68)) (fun _ h9 => h9) rfl dX7_copyFrom_2 ?_
  refine r_put (j := 8) (ci := 7) (C := RX7) (T := TX7) (N := 16) hx hb hts (fun w h => uc_in w (inX7 w h)) tyX7 tyX7_ok nmX7 hown hK hH 2 (cwc2 C A u) rfl 0 (by decide) (hts _ (uc_in _ q_f68)) (fun _ h9 => h9) rfl (by decide +kernel) (Nat.le_of_ble_eq_true rfl) (cws8 C A u _) dX7_copyFrom_5 (fun u1 eu1 H locs hH => ?_)
  have hI := hI.pi0 eu1 rfl (by decide) (by decide)
  refine lv_aload_n hx hb dX7_copyFrom_8 rfl (lv_at hl 0 rfl) ?_
  refine lv_aload_n hx hb dX7_copyFrom_9 rfl (lv_at hl 1 rfl) ?_
  refine va_get (ci := 7) (v := .int (gi u1 41)) (C := RX7) (T := TX7) (N := 16) hx hb hts (fun w h => uc_in w (inX7 w h)) hown hK hH.1 6 (cwc6 C A u1) rfl 1 (by decide) (hts _ (uc_in _ q_f72)) (fun _ h9 => h9) rfl dX7_copyFrom_10 ?_
  have b2 := hI.b41
  refine r_put (j := 9) (ci := 7) (C := RX7) (T := TX7) (N := 16) hx hb hts (fun w h => uc_in w (inX7 w h)) tyX7 tyX7_ok nmX7 hown hK hH 2 (cwc2 C A u1) rfl 1 (by decide) (hts _ (uc_in _ q_f72)) (fun _ h9 => h9) rfl (by decide +kernel) (Nat.le_of_ble_eq_true rfl) (cws9 C A u1 _) dX7_copyFrom_13 (fun u3 eu3 H locs hH => ?_)
  have hI := hI.s9 eu3 rfl (by omega) (by omega)
  refine lv_aload_n hx hb dX7_copyFrom_16 rfl (lv_at hl 0 rfl) ?_
  refine lv_aload_n hx hb dX7_copyFrom_17 rfl (lv_at hl 1 rfl) ?_
  refine va_get (ci := 7) (v := .int (gi u3 42)) (C := RX7) (T := TX7) (N := 16) hx hb hts (fun w h => uc_in w (inX7 w h)) hown hK hH.1 6 (cwc6 C A u3) rfl 2 (by decide) (hts _ (uc_in _ q_f75)) (fun _ h9 => h9) rfl dX7_copyFrom_18 ?_
  refine r_put (j := 10) (ci := 7) (C := RX7) (T := TX7) (N := 16) hx hb hts (fun w h => uc_in w (inX7 w h)) tyX7 tyX7_ok nmX7 hown hK hH 2 (cwc2 C A u3) rfl 2 (by decide) (hts _ (uc_in _ q_f75)) (fun _ h9 => h9) rfl (by decide +kernel) (Nat.le_of_ble_eq_true rfl) (cws10 C A u3 _) dX7_copyFrom_21 (fun u4 eu4 H locs hH => ?_)
  have hI := hI.pi0 eu4 rfl (by decide) (by decide)
  refine lv_aload_n hx hb dX7_copyFrom_24 rfl (lv_at hl 0 rfl) ?_
  refine lv_aload_n hx hb dX7_copyFrom_25 rfl (lv_at hl 1 rfl) ?_
  refine va_get (ci := 7) (v := .int (gi u4 43)) (C := RX7) (T := TX7) (N := 16) hx hb hts (fun w h => uc_in w (inX7 w h)) hown hK hH.1 6 (cwc6 C A u4) rfl 3 (by decide) (hts _ (uc_in _ q_f78)) (fun _ h9 => h9) rfl dX7_copyFrom_26 ?_
  refine r_put (j := 11) (ci := 7) (C := RX7) (T := TX7) (N := 16) hx hb hts (fun w h => uc_in w (inX7 w h)) tyX7 tyX7_ok nmX7 hown hK hH 2 (cwc2 C A u4) rfl 3 (by decide) (hts _ (uc_in _ q_f78)) (fun _ h9 => h9) rfl (by decide +kernel) (Nat.le_of_ble_eq_true rfl) (cws11 C A u4 _) dX7_copyFrom_29 (fun u5 eu5 H locs hH => ?_)
  have hI := hI.pi0 eu5 rfl (by decide) (by decide)
  refine lv_aload_n hx hb dX7_copyFrom_32 rfl (lv_at hl 0 rfl) ?_
  refine lv_aload_n hx hb dX7_copyFrom_33 rfl (lv_at hl 1 rfl) ?_
  refine va_get (ci := 7) (v := .int (gi u5 44)) (C := RX7) (T := TX7) (N := 16) hx hb hts (fun w h => uc_in w (inX7 w h)) hown hK hH.1 6 (cwc6 C A u5) rfl 4 (by decide) (hts _ (uc_in _ q_f82)) (fun _ h9 => h9) rfl dX7_copyFrom_34 ?_
  have b6 := hI.b44
  refine r_put (j := 12) (ci := 7) (C := RX7) (T := TX7) (N := 16) hx hb hts (fun w h => uc_in w (inX7 w h)) tyX7 tyX7_ok nmX7 hown hK hH 2 (cwc2 C A u5) rfl 4 (by decide) (hts _ (uc_in _ q_f82)) (fun _ h9 => h9) rfl (by decide +kernel) (Nat.le_of_ble_eq_true rfl) (cws12 C A u5 _) dX7_copyFrom_37 (fun u7 eu7 H locs hH => ?_)
  have hI := hI.s12 eu7 rfl (by omega) (by omega)
  refine lv_aload_n hx hb dX7_copyFrom_40 rfl (lv_at hl 0 rfl) ?_
  refine lv_aload_n hx hb dX7_copyFrom_41 rfl (lv_at hl 1 rfl) ?_
  refine va_get (ci := 7) (v := .int (gi u7 45)) (C := RX7) (T := TX7) (N := 16) hx hb hts (fun w h => uc_in w (inX7 w h)) hown hK hH.1 6 (cwc6 C A u7) rfl 5 (by decide) (hts _ (uc_in _ q_f85)) (fun _ h9 => h9) rfl dX7_copyFrom_42 ?_
  refine r_put (j := 13) (ci := 7) (C := RX7) (T := TX7) (N := 16) hx hb hts (fun w h => uc_in w (inX7 w h)) tyX7 tyX7_ok nmX7 hown hK hH 2 (cwc2 C A u7) rfl 5 (by decide) (hts _ (uc_in _ q_f85)) (fun _ h9 => h9) rfl (by decide +kernel) (Nat.le_of_ble_eq_true rfl) (cws13 C A u7 _) dX7_copyFrom_45 (fun u8 eu8 H locs hH => ?_)
  have hI := hI.pi0 eu8 rfl (by decide) (by decide)
  refine lv_aload_n hx hb dX7_copyFrom_48 rfl (lv_at hl 0 rfl) ?_
  refine lv_aload_n hx hb dX7_copyFrom_49 rfl (lv_at hl 1 rfl) ?_
  refine va_get (ci := 7) (v := .int (gi u8 46)) (C := RX7) (T := TX7) (N := 16) hx hb hts (fun w h => uc_in w (inX7 w h)) hown hK hH.1 6 (cwc6 C A u8) rfl 6 (by decide) (hts _ (uc_in _ q_f88)) (fun _ h9 => h9) rfl dX7_copyFrom_50 ?_
  refine r_put (j := 14) (ci := 7) (C := RX7) (T := TX7) (N := 16) hx hb hts (fun w h => uc_in w (inX7 w h)) tyX7 tyX7_ok nmX7 hown hK hH 2 (cwc2 C A u8) rfl 6 (by decide) (hts _ (uc_in _ q_f88)) (fun _ h9 => h9) rfl (by decide +kernel) (Nat.le_of_ble_eq_true rfl) (cws14 C A u8 _) dX7_copyFrom_53 (fun u9 eu9 H locs hH => ?_)
  have hI := hI.pi0 eu9 rfl (by decide) (by decide)
  refine lv_aload_n hx hb dX7_copyFrom_56 rfl (lv_at hl 0 rfl) ?_
  refine lv_aload_n hx hb dX7_copyFrom_57 rfl (lv_at hl 1 rfl) ?_
  refine va_get (ci := 7) (v := .int (gi u9 47)) (C := RX7) (T := TX7) (N := 16) hx hb hts (fun w h => uc_in w (inX7 w h)) hown hK hH.1 6 (cwc6 C A u9) rfl 7 (by decide) (hts _ (uc_in _ q_f92)) (fun _ h9 => h9) rfl dX7_copyFrom_58 ?_
  have b10 := hI.b47
  refine r_put (j := 15) (ci := 7) (C := RX7) (T := TX7) (N := 16) hx hb hts (fun w h => uc_in w (inX7 w h)) tyX7 tyX7_ok nmX7 hown hK hH 2 (cwc2 C A u9) rfl 7 (by decide) (hts _ (uc_in _ q_f92)) (fun _ h9 => h9) rfl (by decide +kernel) (Nat.le_of_ble_eq_true rfl) (cws15 C A u9 _) dX7_copyFrom_61 (fun u11 eu11 H locs hH => ?_)
  have hI := hI.s15 eu11 rfl (by omega) (by omega)
  refine lv_aload_n hx hb dX7_copyFrom_64 rfl (lv_at hl 1 rfl) ?_
  refine va_get (ci := 7) (v := .ref (A 72)) (C := RX7) (T := TX7) (N := 16) hx hb hts (fun w h => uc_in w (inX7 w h)) hown hK hH.1 6 (cwc6 C A u11) rfl 8 (by decide) (hts _ (uc_in _ q_f95)) (fun _ h9 => h9) rfl dX7_copyFrom_65 ?_
  refine lv_iconst (v := 0) hx hb dX7_copyFrom_68 (by decide) ?_
  refine lv_aload_n hx hb dX7_copyFrom_69 rfl (lv_at hl 0 rfl) ?_
  refine va_get (ci := 7) (v := .ref (A 52)) (C := RX7) (T := TX7) (N := 16) hx hb hts (fun w h => uc_in w (inX7 w h)) hown hK hH.1 2 (cwc2 C A u11) rfl 8 (by decide) (hts _ (uc_in _ q_f95)) (fun _ h9 => h9) rfl dX7_copyFrom_70 ?_
  refine lv_iconst (v := 0) hx hb dX7_copyFrom_73 (by decide) ?_
  refine lv_bipush (v := 6) hx hb dX7_copyFrom_74 (by decide) ?_
  refine r_copyi (j0 := 72) (j1 := 52) (S' := 0) (P' := 0) (N' := 6) hx hb (by rw [hml]; exact hl.1.symm) hown (hts _ (uc_in _ q_m560)) (hts _ (uc_in _ q_t562)) (hts _ (uc_in _ q_s561)) (hts _ (uc_in _ q_i17)) hK hH 72 52 1 (cwc72 C A u11) (cwc52 C A u11) rfl (by decide) (by decide) (by decide) (by decide) (by decide) (by decide) (by decide) (by decide) (cwa52 C A u11) (Nat.le_of_ble_eq_true rfl) (Nat.le_of_ble_eq_true rfl) dX7_copyFrom_76 (fun u12 eu12 H locs hH => ?_)
  have hI := hI.pa0 eu12 (by decide)
  refine lv_aload_n hx hb dX7_copyFrom_79 rfl (lv_at hl 1 rfl) ?_
  refine va_get (ci := 7) (v := .ref (A 73)) (C := RX7) (T := TX7) (N := 16) hx hb hts (fun w h => uc_in w (inX7 w h)) hown hK hH.1 6 (cwc6 C A u12) rfl 9 (by decide) (hts _ (uc_in _ q_f99)) (fun _ h9 => h9) rfl dX7_copyFrom_80 ?_
  refine lv_iconst (v := 0) hx hb dX7_copyFrom_83 (by decide) ?_
  refine lv_aload_n hx hb dX7_copyFrom_84 rfl (lv_at hl 0 rfl) ?_
  refine va_get (ci := 7) (v := .ref (A 53)) (C := RX7) (T := TX7) (N := 16) hx hb hts (fun w h => uc_in w (inX7 w h)) hown hK hH.1 2 (cwc2 C A u12) rfl 9 (by decide) (hts _ (uc_in _ q_f99)) (fun _ h9 => h9) rfl dX7_copyFrom_85 ?_
  refine lv_iconst (v := 0) hx hb dX7_copyFrom_88 (by decide) ?_
  refine lv_bipush (v := 6) hx hb dX7_copyFrom_89 (by decide) ?_
  refine r_copyi (j0 := 73) (j1 := 53) (S' := 0) (P' := 0) (N' := 6) hx hb (by rw [hml]; exact hl.1.symm) hown (hts _ (uc_in _ q_m560)) (hts _ (uc_in _ q_t562)) (hts _ (uc_in _ q_s561)) (hts _ (uc_in _ q_i17)) hK hH 73 53 1 (cwc73 C A u12) (cwc53 C A u12) rfl (by decide) (by decide) (by decide) (by decide) (by decide) (by decide) (by decide) (by decide) (cwa53 C A u12) (Nat.le_of_ble_eq_true rfl) (Nat.le_of_ble_eq_true rfl) dX7_copyFrom_91 (fun u13 eu13 H locs hH => ?_)
  have hI := hI.pa0 eu13 (by decide)
  refine lv_aload_n hx hb dX7_copyFrom_94 rfl (lv_at hl 1 rfl) ?_
  refine va_get (ci := 7) (v := .ref (A 74)) (C := RX7) (T := TX7) (N := 16) hx hb hts (fun w h => uc_in w (inX7 w h)) hown hK hH.1 6 (cwc6 C A u13) rfl 10 (by decide) (hts _ (uc_in _ q_f103)) (fun _ h9 => h9) rfl dX7_copyFrom_95 ?_
  refine lv_iconst (v := 0) hx hb dX7_copyFrom_98 (by decide) ?_
  refine lv_aload_n hx hb dX7_copyFrom_99 rfl (lv_at hl 0 rfl) ?_
  refine va_get (ci := 7) (v := .ref (A 54)) (C := RX7) (T := TX7) (N := 16) hx hb hts (fun w h => uc_in w (inX7 w h)) hown hK hH.1 2 (cwc2 C A u13) rfl 10 (by decide) (hts _ (uc_in _ q_f103)) (fun _ h9 => h9) rfl dX7_copyFrom_100 ?_
  refine lv_iconst (v := 0) hx hb dX7_copyFrom_103 (by decide) ?_
  refine lv_bipush (v := 6) hx hb dX7_copyFrom_104 (by decide) ?_
  refine r_copyi (j0 := 74) (j1 := 54) (S' := 0) (P' := 0) (N' := 6) hx hb (by rw [hml]; exact hl.1.symm) hown (hts _ (uc_in _ q_m560)) (hts _ (uc_in _ q_t562)) (hts _ (uc_in _ q_s561)) (hts _ (uc_in _ q_i17)) hK hH 74 54 1 (cwc74 C A u13) (cwc54 C A u13) rfl (by decide) (by decide) (by decide) (by decide) (by decide) (by decide) (by decide) (by decide) (cwa54 C A u13) (Nat.le_of_ble_eq_true rfl) (Nat.le_of_ble_eq_true rfl) dX7_copyFrom_106 (fun u14 eu14 H locs hH => ?_)
  have hI := hI.pa0 eu14 (by decide)
  refine lv_aload_n hx hb dX7_copyFrom_109 rfl (lv_at hl 1 rfl) ?_
  refine va_get (ci := 7) (v := .ref (A 75)) (C := RX7) (T := TX7) (N := 16) hx hb hts (fun w h => uc_in w (inX7 w h)) hown hK hH.1 6 (cwc6 C A u14) rfl 11 (by decide) (hts _ (uc_in _ q_f107)) (fun _ h9 => h9) rfl dX7_copyFrom_110 ?_
  refine lv_iconst (v := 0) hx hb dX7_copyFrom_113 (by decide) ?_
  refine lv_aload_n hx hb dX7_copyFrom_114 rfl (lv_at hl 0 rfl) ?_
  refine va_get (ci := 7) (v := .ref (A 55)) (C := RX7) (T := TX7) (N := 16) hx hb hts (fun w h => uc_in w (inX7 w h)) hown hK hH.1 2 (cwc2 C A u14) rfl 11 (by decide) (hts _ (uc_in _ q_f107)) (fun _ h9 => h9) rfl dX7_copyFrom_115 ?_
  refine lv_iconst (v := 0) hx hb dX7_copyFrom_118 (by decide) ?_
  refine lv_bipush (v := 6) hx hb dX7_copyFrom_119 (by decide) ?_
  refine r_copyi (j0 := 75) (j1 := 55) (S' := 0) (P' := 0) (N' := 6) hx hb (by rw [hml]; exact hl.1.symm) hown (hts _ (uc_in _ q_m560)) (hts _ (uc_in _ q_t562)) (hts _ (uc_in _ q_s561)) (hts _ (uc_in _ q_i17)) hK hH 75 55 1 (cwc75 C A u14) (cwc55 C A u14) rfl (by decide) (by decide) (by decide) (by decide) (by decide) (by decide) (by decide) (by decide) (cwa55 C A u14) (Nat.le_of_ble_eq_true rfl) (Nat.le_of_ble_eq_true rfl) dX7_copyFrom_121 (fun u15 eu15 H locs hH => ?_)
  have hI := hI.pa0 eu15 (by decide)
  refine lv_aload_n hx hb dX7_copyFrom_124 rfl (lv_at hl 1 rfl) ?_
  refine va_get (ci := 7) (v := .ref (A 76)) (C := RX7) (T := TX7) (N := 16) hx hb hts (fun w h => uc_in w (inX7 w h)) hown hK hH.1 6 (cwc6 C A u15) rfl 12 (by decide) (hts _ (uc_in _ q_f111)) (fun _ h9 => h9) rfl dX7_copyFrom_125 ?_
  refine lv_iconst (v := 0) hx hb dX7_copyFrom_128 (by decide) ?_
  refine lv_aload_n hx hb dX7_copyFrom_129 rfl (lv_at hl 0 rfl) ?_
  refine va_get (ci := 7) (v := .ref (A 56)) (C := RX7) (T := TX7) (N := 16) hx hb hts (fun w h => uc_in w (inX7 w h)) hown hK hH.1 2 (cwc2 C A u15) rfl 12 (by decide) (hts _ (uc_in _ q_f111)) (fun _ h9 => h9) rfl dX7_copyFrom_130 ?_
  refine lv_iconst (v := 0) hx hb dX7_copyFrom_133 (by decide) ?_
  refine lv_bipush (v := 6) hx hb dX7_copyFrom_134 (by decide) ?_
  refine r_copyi (j0 := 76) (j1 := 56) (S' := 0) (P' := 0) (N' := 6) hx hb (by rw [hml]; exact hl.1.symm) hown (hts _ (uc_in _ q_m560)) (hts _ (uc_in _ q_t562)) (hts _ (uc_in _ q_s561)) (hts _ (uc_in _ q_i17)) hK hH 76 56 1 (cwc76 C A u15) (cwc56 C A u15) rfl (by decide) (by decide) (by decide) (by decide) (by decide) (by decide) (by decide) (by decide) (cwa56 C A u15) (Nat.le_of_ble_eq_true rfl) (Nat.le_of_ble_eq_true rfl) dX7_copyFrom_136 (fun u16 eu16 H locs hH => ?_)
  have hI := hI.pa0 eu16 (by decide)
  refine lv_aload_n hx hb dX7_copyFrom_139 rfl (lv_at hl 1 rfl) ?_
  refine va_get (ci := 7) (v := .ref (A 35)) (C := RX7) (T := TX7) (N := 16) hx hb hts (fun w h => uc_in w (inX7 w h)) hown hK hH.1 6 (cwc6 C A u16) rfl 13 (by decide) (hts _ (uc_in _ q_f115)) (fun _ h9 => h9) rfl dX7_copyFrom_140 ?_
  refine lv_iconst (v := 0) hx hb dX7_copyFrom_143 (by decide) ?_
  refine lv_aload_n hx hb dX7_copyFrom_144 rfl (lv_at hl 0 rfl) ?_
  refine va_get (ci := 7) (v := .ref (A 23)) (C := RX7) (T := TX7) (N := 16) hx hb hts (fun w h => uc_in w (inX7 w h)) hown hK hH.1 2 (cwc2 C A u16) rfl 13 (by decide) (hts _ (uc_in _ q_f115)) (fun _ h9 => h9) rfl dX7_copyFrom_145 ?_
  refine lv_iconst (v := 0) hx hb dX7_copyFrom_148 (by decide) ?_
  refine lv_bipush (v := 40) hx hb dX7_copyFrom_149 (by decide) ?_
  refine r_copyi (j0 := 35) (j1 := 23) (S' := 0) (P' := 0) (N' := 40) hx hb (by rw [hml]; exact hl.1.symm) hown (hts _ (uc_in _ q_m560)) (hts _ (uc_in _ q_t562)) (hts _ (uc_in _ q_s561)) (hts _ (uc_in _ q_i17)) hK hH 35 23 1 (cwc35 C A u16) (cwc23 C A u16) rfl (by decide) (by decide) (by decide) (by decide) (by decide) (by decide) (by decide) (by decide) (cwa23 C A u16) (Nat.le_of_ble_eq_true rfl) (Nat.le_of_ble_eq_true rfl) dX7_copyFrom_151 (fun u17 eu17 H locs hH => ?_)
  have hI := hI.pa0 eu17 (by decide)
  refine lv_aload_n hx hb dX7_copyFrom_154 rfl (lv_at hl 1 rfl) ?_
  refine va_get (ci := 7) (v := .ref (A 36)) (C := RX7) (T := TX7) (N := 16) hx hb hts (fun w h => uc_in w (inX7 w h)) hown hK hH.1 6 (cwc6 C A u17) rfl 14 (by decide) (hts _ (uc_in _ q_f116)) (fun _ h9 => h9) rfl dX7_copyFrom_155 ?_
  refine lv_iconst (v := 0) hx hb dX7_copyFrom_158 (by decide) ?_
  refine lv_aload_n hx hb dX7_copyFrom_159 rfl (lv_at hl 0 rfl) ?_
  refine va_get (ci := 7) (v := .ref (A 24)) (C := RX7) (T := TX7) (N := 16) hx hb hts (fun w h => uc_in w (inX7 w h)) hown hK hH.1 2 (cwc2 C A u17) rfl 14 (by decide) (hts _ (uc_in _ q_f116)) (fun _ h9 => h9) rfl dX7_copyFrom_160 ?_
  refine lv_iconst (v := 0) hx hb dX7_copyFrom_163 (by decide) ?_
  refine lv_bipush (v := 40) hx hb dX7_copyFrom_164 (by decide) ?_
  refine r_copyi (j0 := 36) (j1 := 24) (S' := 0) (P' := 0) (N' := 40) hx hb (by rw [hml]; exact hl.1.symm) hown (hts _ (uc_in _ q_m560)) (hts _ (uc_in _ q_t562)) (hts _ (uc_in _ q_s561)) (hts _ (uc_in _ q_i17)) hK hH 36 24 1 (cwc36 C A u17) (cwc24 C A u17) rfl (by decide) (by decide) (by decide) (by decide) (by decide) (by decide) (by decide) (by decide) (cwa24 C A u17) (Nat.le_of_ble_eq_true rfl) (Nat.le_of_ble_eq_true rfl) dX7_copyFrom_166 (fun u18 eu18 H locs hH => ?_)
  have hI := hI.pa0 eu18 (by decide)
  refine lv_aload_n hx hb dX7_copyFrom_169 rfl (lv_at hl 1 rfl) ?_
  refine va_get (ci := 7) (v := .ref (A 37)) (C := RX7) (T := TX7) (N := 16) hx hb hts (fun w h => uc_in w (inX7 w h)) hown hK hH.1 6 (cwc6 C A u18) rfl 15 (by decide) (hts _ (uc_in _ q_f117)) (fun _ h9 => h9) rfl dX7_copyFrom_170 ?_
  refine lv_iconst (v := 0) hx hb dX7_copyFrom_173 (by decide) ?_
  refine lv_aload_n hx hb dX7_copyFrom_174 rfl (lv_at hl 0 rfl) ?_
  refine va_get (ci := 7) (v := .ref (A 25)) (C := RX7) (T := TX7) (N := 16) hx hb hts (fun w h => uc_in w (inX7 w h)) hown hK hH.1 2 (cwc2 C A u18) rfl 15 (by decide) (hts _ (uc_in _ q_f117)) (fun _ h9 => h9) rfl dX7_copyFrom_175 ?_
  refine lv_iconst (v := 0) hx hb dX7_copyFrom_178 (by decide) ?_
  refine lv_bipush (v := 40) hx hb dX7_copyFrom_179 (by decide) ?_
  refine r_copyi (j0 := 37) (j1 := 25) (S' := 0) (P' := 0) (N' := 40) hx hb (by rw [hml]; exact hl.1.symm) hown (hts _ (uc_in _ q_m560)) (hts _ (uc_in _ q_t562)) (hts _ (uc_in _ q_s561)) (hts _ (uc_in _ q_i17)) hK hH 37 25 1 (cwc37 C A u18) (cwc25 C A u18) rfl (by decide) (by decide) (by decide) (by decide) (by decide) (by decide) (by decide) (by decide) (cwa25 C A u18) (Nat.le_of_ble_eq_true rfl) (Nat.le_of_ble_eq_true rfl) dX7_copyFrom_181 (fun u19 eu19 H locs hH => ?_)
  have hI := hI.pa0 eu19 (by decide)
  exact hret _ _ _ _ _ dX7_copyFrom_184 ⟨hI, (Un.sa (Un.sa (Un.sa (Un.sa (Un.sa (Un.sa (Un.sa (Un.sa (Un.si (Un.si (Un.si (Un.si (Un.si (Un.si (Un.si (Un.si Un.rf rfl eu1) rfl eu3) rfl eu4) rfl eu5) rfl eu7) rfl eu8) rfl eu9) rfl eu11) rfl eu12) rfl eu13) rfl eu14) rfl eu15) rfl eu16) rfl eu17) rfl eu18) rfl eu19), trivial⟩ hH
set_option maxHeartbeats 4000000 in
set_option maxRecDepth 100000 in
theorem kX9_back_0 (l : Launch) (D : va_G) (C : Nat → ClassId) (A : Nat → Nat) (u : St) (hI : IC u) (a0 : Int32) (A0 : Int) (ha0 : a0.toInt = A0) (sz : Nat) : MetI l yX9_back cX9_back 2 (some .int) 4 [.ref (A 0), .int a0] D (tyl C) (cw C A) X0 u sz (fun r u' => IC u' ∧ Un [(8, 8), (9, 9), (10, 10), (11, 11), (12, 12), (13, 13), (14, 14), (15, 15), (48, 48), (49, 49)] [(23, 23), (24, 24), (25, 25), (38, 38), (52, 52), (53, 53), (54, 54), (55, 55), (56, 56), (84, 90)] [] u u' ∧ ((-6) ≤ r.toInt ∧ r.toInt ≤ 0)) := by
  refine mI (by decide) (Nat.le_of_ble_eq_true rfl) ?_
  intro p e s m below meth c ls ar Q hx hb hml hown hts hK hH hX hl hret
  have hown : s.vm.findClass RX9 = some m.cls := hown
  have hl : lv_has ls 2 [(0, .ref (A 0)), (1, .int a0)] := hl
  refine lv_iload_n hx hb dX9_back_0 rfl (lv_at hl 1 rfl) ?_
  refine lv_iconst (v := 0) hx hb dX9_back_1 (by decide) ?_
  refine lv_iconst (v := 2) hx hb dX9_back_2 (by decide) ?_
  refine csS (n := 3) (As := [.int a0, .int 0, .int 2]) (rest := []) ⟨hx, hb, hml, hown, hts⟩ uc_in (kX9_isWithin_0 l D C A u hI a0 A0 ha0 (0) 0 (by decide) (2) 2 (by decide)) q_m651 q_s652 q_i1 q_c653 hvX9_isWithin ⟨(Nat.le_of_ble_eq_true rfl), (Nat.le_of_ble_eq_true rfl)⟩ ⟨(Nat.le_of_ble_eq_true rfl), (Nat.le_of_ble_eq_true rfl)⟩ hK hH.1 rfl hl.1 rfl (Nat.le_of_ble_eq_true rfl) dX9_back_3 (fun r1 p2 => ?_)
  rcases p2 with ⟨e9, f3, f4⟩ | ⟨e9, fn5⟩
  · subst e9
    refine lv_if_ne (tgt := 12) hx hb dX9_back_6 (by decide) (fun c6 => ?_) (fun c6 => absurd c6 (by decide))
    refine lv_aload_n hx hb dX9_back_12 rfl (lv_at hl 0 rfl) ?_
    refine va_get (ci := 9) (v := .int (gi u 0)) (C := RX9) (T := TX9) (N := 12) hx hb hts (fun w h => uc_in w (inX9 w h)) hown hK hH.1 0 (cwc0 C A u) rfl 4 (by decide) (hts _ (uc_in _ q_f387)) (fun _ h9 => h9) rfl dX9_back_13 ?_
    refine lv_iload_n hx hb dX9_back_16 rfl (lv_at hl 1 rfl) ?_
    refine lv_ishr hx hb dX9_back_17 ?_
    refine p_any (fun z7 => ?_)
    refine lv_iconst (v := 1) hx hb dX9_back_18 (by decide) ?_
    refine lv_iand hx hb dX9_back_19 ?_
    refine p_bd (P := fun q => 0 ≤ q ∧ q ≤ 1) (tt_andR (Y := 1) (by decide) (by decide)) (fun z8 bz8 => ?_)
    have bz8 : 0 ≤ z8.toInt ∧ z8.toInt ≤ 1 := bz8
    refine lv_if_ne (tgt := 26) hx hb dX9_back_20 (by decide) (fun c9 => ?_) (fun c9 => ?_)
    · have c9 := cNE (x := z8) (y := 0) (X := z8.toInt) (Y := 0) rfl (by decide) c9
      refine lv_aload_n hx hb dX9_back_26 rfl (lv_at hl 0 rfl) ?_
      refine va_get (ci := 9) (v := .ref (A 2)) (C := RX9) (T := TX9) (N := 12) hx hb hts (fun w h => uc_in w (inX9 w h)) hown hK hH.1 0 (cwc0 C A u) rfl 1 (by decide) (hts _ (uc_in _ q_f384)) (fun _ h9 => h9) rfl dX9_back_27 ?_
      refine lv_aload_n hx hb dX9_back_30 rfl (lv_at hl 0 rfl) ?_
      refine va_get (ci := 9) (v := .ref (A 17)) (C := RX9) (T := TX9) (N := 12) hx hb hts (fun w h => uc_in w (inX9 w h)) hown hK hH.1 0 (cwc0 C A u) rfl 3 (by decide) (hts _ (uc_in _ q_f386)) (fun _ h9 => h9) rfl dX9_back_31 ?_
      refine lv_iload_n hx hb dX9_back_34 rfl (lv_at hl 1 rfl) ?_
      rcases (show A0 = 0 ∨ A0 = 1 ∨ A0 = 2 by omega) with e9 | e9 | e9
      · have e8 : a0 = 0 := i_lit ha0 (by rw [e9]; decide)
        subst e8
        have q8 : (0 : Int32).toInt = 0 := by decide
        refine r_aald hx hb hK hH.1 17 4 rfl (cwc17 C A u) rfl (i_ix (X := 0) (by decide) (by decide) (by decide)) dX9_back_35 ?_
        refine pv_v (v := .ref (A 4)) rfl ?_
        refine cvU (n := 1) (As := [.ref (A 4)]) (rest := []) ⟨hx, hb, hml, hown, hts⟩ uc_in (kX7_copyFrom_0 l D C A u hI  _) q_m556 q_n557 q_e558 q_i3 q_c559 hvX7_copyFrom ⟨(Nat.le_of_ble_eq_true rfl), (Nat.le_of_ble_eq_true rfl)⟩ ⟨(Nat.le_of_ble_eq_true rfl), (Nat.le_of_ble_eq_true rfl)⟩ hK hH (fun q h => Or.inr h) Bl0 (fun _ _ _ => trivial) 7 2 rfl (cwc2 C A u) rfl hl.1 rfl (Nat.le_of_ble_eq_true rfl) dX9_back_36 (fun u10 H locs p12 hH => ?_)
        obtain ⟨hI, hUu10, p12⟩ := p12
        refine lv_aload_n hx hb dX9_back_39 rfl (lv_at hl 0 rfl) ?_
        refine va_get (ci := 9) (v := .ref (A 7)) (C := RX9) (T := TX9) (N := 12) hx hb hts (fun w h => uc_in w (inX9 w h)) hown hK hH.1 0 (cwc0 C A u10) rfl 5 (by decide) (hts _ (uc_in _ q_f388)) (fun _ h9 => h9) rfl dX9_back_40 ?_
        refine lv_aload_n hx hb dX9_back_43 rfl (lv_at hl 0 rfl) ?_
        refine va_get (ci := 9) (v := .ref (A 2)) (C := RX9) (T := TX9) (N := 12) hx hb hts (fun w h => uc_in w (inX9 w h)) hown hK hH.1 0 (cwc0 C A u10) rfl 1 (by decide) (hts _ (uc_in _ q_f384)) (fun _ h9 => h9) rfl dX9_back_44 ?_
        refine cvU (n := 1) (As := [.ref (A 2)]) (rest := []) ⟨hx, hb, hml, hown, hts⟩ uc_in (kX5_settle_0 l D C A u10 hI  _) q_m563 q_n564 q_e565 q_i4 q_c566 hvX5_settle ⟨(Nat.le_of_ble_eq_true rfl), (Nat.le_of_ble_eq_true rfl)⟩ ⟨(Nat.le_of_ble_eq_true rfl), (Nat.le_of_ble_eq_true rfl)⟩ hK hH (fun q h => Or.inr h) Bl0 (fun _ _ _ => trivial) 5 7 rfl (cwc7 C A u10) rfl hl.1 rfl (Nat.le_of_ble_eq_true rfl) dX9_back_47 (fun u13 H locs p15 hH => ?_)
        obtain ⟨hI, hUu13, p15⟩ := p15
        refine lv_iconst (v := 0) hx hb dX9_back_50 (by decide) ?_
        exact hret _ _ _ _ (0 : Int32) _ dX9_back_51 rfl ⟨hI, (Un.tr (Un.tr Un.rf hUu10 rfl rfl rfl) hUu13 rfl rfl rfl), ⟨by decide, by decide⟩⟩ hH
      · have e8 : a0 = 1 := i_lit ha0 (by rw [e9]; decide)
        subst e8
        have q8 : (1 : Int32).toInt = 1 := by decide
        refine r_aald hx hb hK hH.1 17 4 rfl (cwc17 C A u) rfl (i_ix (X := 1) (by decide) (by decide) (by decide)) dX9_back_35 ?_
        refine pv_v (v := .ref (A 5)) rfl ?_
        refine cvU (n := 1) (As := [.ref (A 5)]) (rest := []) ⟨hx, hb, hml, hown, hts⟩ uc_in (kX7_copyFrom_1 l D C A u hI  _) q_m556 q_n557 q_e558 q_i3 q_c559 hvX7_copyFrom ⟨(Nat.le_of_ble_eq_true rfl), (Nat.le_of_ble_eq_true rfl)⟩ ⟨(Nat.le_of_ble_eq_true rfl), (Nat.le_of_ble_eq_true rfl)⟩ hK hH (fun q h => Or.inr h) Bl0 (fun _ _ _ => trivial) 7 2 rfl (cwc2 C A u) rfl hl.1 rfl (Nat.le_of_ble_eq_true rfl) dX9_back_36 (fun u16 H locs p18 hH => ?_)
        obtain ⟨hI, hUu16, p18⟩ := p18
        refine lv_aload_n hx hb dX9_back_39 rfl (lv_at hl 0 rfl) ?_
        refine va_get (ci := 9) (v := .ref (A 7)) (C := RX9) (T := TX9) (N := 12) hx hb hts (fun w h => uc_in w (inX9 w h)) hown hK hH.1 0 (cwc0 C A u16) rfl 5 (by decide) (hts _ (uc_in _ q_f388)) (fun _ h9 => h9) rfl dX9_back_40 ?_
        refine lv_aload_n hx hb dX9_back_43 rfl (lv_at hl 0 rfl) ?_
        refine va_get (ci := 9) (v := .ref (A 2)) (C := RX9) (T := TX9) (N := 12) hx hb hts (fun w h => uc_in w (inX9 w h)) hown hK hH.1 0 (cwc0 C A u16) rfl 1 (by decide) (hts _ (uc_in _ q_f384)) (fun _ h9 => h9) rfl dX9_back_44 ?_
        refine cvU (n := 1) (As := [.ref (A 2)]) (rest := []) ⟨hx, hb, hml, hown, hts⟩ uc_in (kX5_settle_0 l D C A u16 hI  _) q_m563 q_n564 q_e565 q_i4 q_c566 hvX5_settle ⟨(Nat.le_of_ble_eq_true rfl), (Nat.le_of_ble_eq_true rfl)⟩ ⟨(Nat.le_of_ble_eq_true rfl), (Nat.le_of_ble_eq_true rfl)⟩ hK hH (fun q h => Or.inr h) Bl0 (fun _ _ _ => trivial) 5 7 rfl (cwc7 C A u16) rfl hl.1 rfl (Nat.le_of_ble_eq_true rfl) dX9_back_47 (fun u19 H locs p21 hH => ?_)
        obtain ⟨hI, hUu19, p21⟩ := p21
        refine lv_iconst (v := 0) hx hb dX9_back_50 (by decide) ?_
        exact hret _ _ _ _ (0 : Int32) _ dX9_back_51 rfl ⟨hI, (Un.tr (Un.tr Un.rf hUu16 rfl rfl rfl) hUu19 rfl rfl rfl), ⟨by decide, by decide⟩⟩ hH
      · have e8 : a0 = 2 := i_lit ha0 (by rw [e9]; decide)
        subst e8
        have q8 : (2 : Int32).toInt = 2 := by decide
        refine r_aald hx hb hK hH.1 17 4 rfl (cwc17 C A u) rfl (i_ix (X := 2) (by decide) (by decide) (by decide)) dX9_back_35 ?_
        refine pv_v (v := .ref (A 6)) rfl ?_
        refine cvU (n := 1) (As := [.ref (A 6)]) (rest := []) ⟨hx, hb, hml, hown, hts⟩ uc_in (kX7_copyFrom_2 l D C A u hI  _) q_m556 q_n557 q_e558 q_i3 q_c559 hvX7_copyFrom ⟨(Nat.le_of_ble_eq_true rfl), (Nat.le_of_ble_eq_true rfl)⟩ ⟨(Nat.le_of_ble_eq_true rfl), (Nat.le_of_ble_eq_true rfl)⟩ hK hH (fun q h => Or.inr h) Bl0 (fun _ _ _ => trivial) 7 2 rfl (cwc2 C A u) rfl hl.1 rfl (Nat.le_of_ble_eq_true rfl) dX9_back_36 (fun u22 H locs p24 hH => ?_)
        obtain ⟨hI, hUu22, p24⟩ := p24
        refine lv_aload_n hx hb dX9_back_39 rfl (lv_at hl 0 rfl) ?_
        refine va_get (ci := 9) (v := .ref (A 7)) (C := RX9) (T := TX9) (N := 12) hx hb hts (fun w h => uc_in w (inX9 w h)) hown hK hH.1 0 (cwc0 C A u22) rfl 5 (by decide) (hts _ (uc_in _ q_f388)) (fun _ h9 => h9) rfl dX9_back_40 ?_
        refine lv_aload_n hx hb dX9_back_43 rfl (lv_at hl 0 rfl) ?_
        refine va_get (ci := 9) (v := .ref (A 2)) (C := RX9) (T := TX9) (N := 12) hx hb hts (fun w h => uc_in w (inX9 w h)) hown hK hH.1 0 (cwc0 C A u22) rfl 1 (by decide) (hts _ (uc_in _ q_f384)) (fun _ h9 => h9) rfl dX9_back_44 ?_
        refine cvU (n := 1) (As := [.ref (A 2)]) (rest := []) ⟨hx, hb, hml, hown, hts⟩ uc_in (kX5_settle_0 l D C A u22 hI  _) q_m563 q_n564 q_e565 q_i4 q_c566 hvX5_settle ⟨(Nat.le_of_ble_eq_true rfl), (Nat.le_of_ble_eq_true rfl)⟩ ⟨(Nat.le_of_ble_eq_true rfl), (Nat.le_of_ble_eq_true rfl)⟩ hK hH (fun q h => Or.inr h) Bl0 (fun _ _ _ => trivial) 5 7 rfl (cwc7 C A u22) rfl hl.1 rfl (Nat.le_of_ble_eq_true rfl) dX9_back_47 (fun u25 H locs p27 hH => ?_)
        obtain ⟨hI, hUu25, p27⟩ := p27
        refine lv_iconst (v := 0) hx hb dX9_back_50 (by decide) ?_
        exact hret _ _ _ _ (0 : Int32) _ dX9_back_51 rfl ⟨hI, (Un.tr (Un.tr Un.rf hUu22 rfl rfl rfl) hUu25 rfl rfl rfl), ⟨by decide, by decide⟩⟩ hH
    · have c9 := cEQ (x := z8) (y := 0) (X := z8.toInt) (Y := 0) rfl (by decide) c9
      refine lv_bipush (v := (-6)) hx hb dX9_back_23 (by decide) ?_
      exact hret _ _ _ _ ((-6) : Int32) _ dX9_back_25 rfl ⟨hI, Un.rf, ⟨by decide, by decide⟩⟩ hH
  · subst e9
    refine lv_if_ne (tgt := 12) hx hb dX9_back_6 (by decide) (fun c28 => absurd c28 (by decide)) (fun c28 => ?_)
    refine lv_bipush (v := (-2)) hx hb dX9_back_9 (by decide) ?_
    exact hret _ _ _ _ ((-2) : Int32) _ dX9_back_11 rfl ⟨hI, Un.rf, ⟨by decide, by decide⟩⟩ hH
set_option maxHeartbeats 4000000 in
set_option maxRecDepth 100000 in
theorem kX7_waitOf_0 (l : Launch) (D : va_G) (C : Nat → ClassId) (A : Nat → Nat) (u : St) (hI : IC u) (a0 : Int32) (A0 : Int) (ha0 : a0.toInt = A0) (a1 : Int32) (A1 : Int) (ha1 : a1.toInt = A1) : Met l yX7_waitOf (uc yX7_waitOf cX7_waitOf 3 (some .int)) (rmL 1 0 0) (va_Pc [.int a0, .int a1] (PreR D (tyl C) (cw C A u))) (vp_Si (fun r => True)) 0 0 (fun _ => False) := by
  refine mS (by decide) (Nat.le_of_ble_eq_true rfl) ?_
  intro p e s m below meth c ls ar Q hx hb hml hown hts hK hP hl hret
  have hown : s.vm.findClass RX7 = some m.cls := hown
  have hl : lv_has ls 3 [(0, .int a0), (1, .int a1)] := hl
  refine lv_iload_n hx hb dX7_waitOf_0 rfl (lv_at hl 0 rfl) ?_
  refine lv_sipush (v := 10000) hx hb dX7_waitOf_1 (by decide) ?_
  have j14_5 : ∀ (ls : Array Slot) (y2d : Int32), lv_has ls 3 [(1, .int a1)] → W p l e (rmL 1 0 0) s m ar below meth c s.heap [] 0 0 Q (F0 m 14 ls [.int y2d]) := by
    intro ls y2d hl
    refine lv_istore_n (lv' := [(2, .int y2d), (1, .int a1)]) hx hb dX7_waitOf_14 rfl hl (by decide) rfl (fun ls hl => ?_)
    refine lv_iload_n hx hb dX7_waitOf_15 rfl (lv_at hl 0 rfl) ?_
    refine lv_if_le (tgt := 25) hx hb dX7_waitOf_16 (by decide) (fun c7 => ?_) (fun c7 => ?_)
    · have c7 := cLE (x := y2d) (y := 0) (X := y2d.toInt) (Y := 0) rfl (by decide) c7
      refine lv_iconst (v := 0) hx hb dX7_waitOf_25 (by decide) ?_
      exact hret _ _ (0 : Int32) dX7_waitOf_26 rfl trivial
    · have c7 := cNLE (x := y2d) (y := 0) (X := y2d.toInt) (Y := 0) rfl (by decide) c7
      refine lv_iload_n hx hb dX7_waitOf_19 rfl (lv_at hl 0 rfl) ?_
      refine lv_iload_n hx hb dX7_waitOf_20 rfl (lv_at hl 1 rfl) ?_
      refine lv_imul hx hb dX7_waitOf_21 ?_
      refine p_any (fun z8 => ?_)
      refine lv_goto (tgt := 26) hx hb dX7_waitOf_22 (by decide) ?_
      exact hret _ _ z8 dX7_waitOf_26 rfl trivial
  refine lv_icmp_ne (tgt := 13) hx hb dX7_waitOf_4 (by decide) (fun c1 => ?_) (fun c1 => ?_)
  · refine lv_iload_n hx hb dX7_waitOf_13 rfl (lv_at hl 0 rfl) ?_
    exact j14_5 ls a0 (lv_sub hl [1] rfl)
  · have c1 := cEQ (x := a0) (y := 10000) (X := A0) (Y := 10000) ha0 (by decide) c1
    refine lv_sipush (v := 600) hx hb dX7_waitOf_7 (by decide) ?_
    refine lv_goto (tgt := 14) hx hb dX7_waitOf_10 (by decide) ?_
    exact j14_5 ls 600 (lv_sub hl [1] rfl)
set_option maxHeartbeats 4000000 in
set_option maxRecDepth 100000 in
theorem kX9_waitOn_0 (l : Launch) (D : va_G) (C : Nat → ClassId) (A : Nat → Nat) (u : St) (hI : IC u) (a0 : Int32) (A0 : Int) (ha0 : a0.toInt = A0) (a1 : Int32) (A1 : Int) (ha1 : a1.toInt = A1) (hl0 : 0 ≤ A0) (hm0 : A0 ≤ 6) : Met l yX9_waitOn (uc yX9_waitOn cX9_waitOn 3 (some .int)) (rmL 3 0 0) (va_Pc [.ref (A 0), .int a0, .int a1] (PreR D (tyl C) (cw C A u))) (vp_Si (fun r => True)) 0 0 (fun _ => False) := by
  refine mS (by decide) (Nat.le_of_ble_eq_true rfl) ?_
  intro p e s m below meth c ls ar Q hx hb hml hown hts hK hP hl hret
  have hown : s.vm.findClass RX9 = some m.cls := hown
  have hl : lv_has ls 3 [(0, .ref (A 0)), (1, .int a0), (2, .int a1)] := hl
  refine lv_aload_n hx hb dX9_waitOn_0 rfl (lv_at hl 0 rfl) ?_
  refine va_get (ci := 9) (v := .ref (A 7)) (C := RX9) (T := TX9) (N := 12) hx hb hts (fun w h => uc_in w (inX9 w h)) hown hK hP 0 (cwc0 C A u) rfl 5 (by decide) (hts _ (uc_in _ q_f388)) (fun _ h9 => h9) rfl dX9_waitOn_1 ?_
  refine va_get (ci := 5) (v := .ref (A 19)) (C := RX5) (T := TX5) (N := 4) hx hb hts (fun w h => uc_in w (inX5 w h)) hown hK hP 7 (cwc7 C A u) rfl 2 (by decide) (hts _ (uc_in _ q_f171)) (fun _ h9 => h9) rfl dX9_waitOn_4 ?_
  refine lv_iload_n hx hb dX9_waitOn_7 rfl (lv_at hl 1 rfl) ?_
  refine r_aald hx hb hK hP 19 6 rfl (cwc19 C A u) rfl (i_ix ha0 (by omega) (by omega)) dX9_waitOn_8 ?_
  obtain ⟨k1, hk1, ek1⟩ : ∃ k : Nat, (k : Int) = 32 + A0 ∧ k = 32 + Int32.toNatClampNeg a0 := ⟨_, by have q9 := i_cl (x := a0) (X := A0) ha0 (by omega); omega, rfl⟩
  refine pv_v (v := .ref (A (52 + k1))) (by rw [ek1]; rfl) ?_
  refine lv_iload_n hx hb dX9_waitOn_9 rfl (lv_at hl 2 rfl) ?_
  refine csS (n := 2) (As := [.ref (A (52 + k1)), .int a1]) (rest := []) ⟨hx, hb, hml, hown, hts⟩ uc_in (kX5_noonOf_0 l D C A u hI k1 (by omega) a1 A1 ha1) q_m609 q_s610 q_i4 q_c611 hvX5_noonOf ⟨(Nat.le_of_ble_eq_true rfl), (Nat.le_of_ble_eq_true rfl)⟩ ⟨(Nat.le_of_ble_eq_true rfl), (Nat.le_of_ble_eq_true rfl)⟩ hK hP rfl hl.1 rfl (Nat.le_of_ble_eq_true rfl) dX9_waitOn_10 (fun r2 p3 => ?_)
  refine lv_aload_n hx hb dX9_waitOn_13 rfl (lv_at hl 0 rfl) ?_
  refine va_get (ci := 9) (v := .ref (A 2)) (C := RX9) (T := TX9) (N := 12) hx hb hts (fun w h => uc_in w (inX9 w h)) hown hK hP 0 (cwc0 C A u) rfl 1 (by decide) (hts _ (uc_in _ q_f384)) (fun _ h9 => h9) rfl dX9_waitOn_14 ?_
  refine va_get (ci := 7) (v := .int (gi u 14)) (C := RX7) (T := TX7) (N := 16) hx hb hts (fun w h => uc_in w (inX7 w h)) hown hK hP 2 (cwc2 C A u) rfl 6 (by decide) (hts _ (uc_in _ q_f91)) (fun _ h9 => h9) rfl dX9_waitOn_17 ?_
  refine csS (n := 2) (As := [.int r2, .int (gi u 14)]) (rest := []) ⟨hx, hb, hml, hown, hts⟩ uc_in (kX7_waitOf_0 l D C A u hI r2 r2.toInt rfl (gi u 14) (((gi u 14)).toInt) rfl) q_m671 q_s672 q_i3 q_c673 hvX7_waitOf ⟨(Nat.le_of_ble_eq_true rfl), (Nat.le_of_ble_eq_true rfl)⟩ ⟨(Nat.le_of_ble_eq_true rfl), (Nat.le_of_ble_eq_true rfl)⟩ hK hP rfl hl.1 rfl (Nat.le_of_ble_eq_true rfl) dX9_waitOn_20 (fun r4 p5 => ?_)
  exact hret _ _ r4 dX9_waitOn_23 rfl trivial
set_option maxHeartbeats 4000000 in
set_option maxRecDepth 100000 in
theorem kX9_waitWithout_0 (l : Launch) (D : va_G) (C : Nat → ClassId) (A : Nat → Nat) (u : St) (hI : IC u) (a0 : Int32) (A0 : Int) (ha0 : a0.toInt = A0) : Met l yX9_waitWithout (uc yX9_waitWithout cX9_waitWithout 4 (some .int)) (rmL 4 0 0) (va_Pc [.ref (A 0), .int a0] (PreR D (tyl C) (cw C A u))) (vp_Si (fun r => True)) 0 0 (fun _ => False) := by
  refine mS (by decide) (Nat.le_of_ble_eq_true rfl) ?_
  intro p e s m below meth c ls ar Q hx hb hml hown hts hK hP hl hret
  have hown : s.vm.findClass RX9 = some m.cls := hown
  have hl : lv_has ls 4 [(0, .ref (A 0)), (1, .int a0)] := hl
  refine lv_iconst (v := 0) hx hb dX9_waitWithout_0 (by decide) ?_
  refine lv_istore_n (lv' := [(2, .int 0), (0, .ref (A 0)), (1, .int a0)]) hx hb dX9_waitWithout_1 rfl hl (by decide) rfl (fun ls hl => ?_)
  refine lv_iconst (v := 0) hx hb dX9_waitWithout_2 (by decide) ?_
  refine lv_istore_n (lv' := [(3, .int 0), (2, .int 0), (0, .ref (A 0)), (1, .int a0)]) hx hb dX9_waitWithout_3 rfl hl (by decide) rfl (fun ls hl => ?_)
  have lp4_78 : ∀ (n4 : Nat) (ls : Array Slot) (y77d : Int32) (y78d : Int32), 0 ≤ y77d.toInt → y77d.toInt ≤ 7 → 7 - y77d.toInt < (n4 : Int) → lv_has ls 4 [(3, .int y77d), (2, .int y78d), (0, .ref (A 0)), (1, .int a0)] → W p l e (rmL 4 0 0) s m ar below meth c s.heap [] 0 0 Q (F0 m 4 ls []) := by
    intro n4
    induction n4 with
    | zero => intro ls y77d y78d ly77d my77d hmun4 hl; exfalso; omega
    | succ n4 ih4_78 =>
      intro ls y77d y78d ly77d my77d hmun4 hl
      refine lv_iload_n hx hb dX9_waitWithout_4 rfl (lv_at hl 0 rfl) ?_
      refine lv_aload_n hx hb dX9_waitWithout_5 rfl (lv_at hl 2 rfl) ?_
      refine va_get (ci := 9) (v := .ref (A 7)) (C := RX9) (T := TX9) (N := 12) hx hb hts (fun w h => uc_in w (inX9 w h)) hown hK hP 0 (cwc0 C A u) rfl 5 (by decide) (hts _ (uc_in _ q_f388)) (fun _ h9 => h9) rfl dX9_waitWithout_6 ?_
      refine va_get (ci := 5) (v := .int (gi u 48)) (C := RX5) (T := TX5) (N := 4) hx hb hts (fun w h => uc_in w (inX5 w h)) hown hK hP 7 (cwc7 C A u) rfl 0 (by decide) (hts _ (uc_in _ q_f164)) (fun _ h9 => h9) rfl dX9_waitWithout_9 ?_
      have b80 := hI.b48
      refine lv_icmp_ge (tgt := 42) hx hb dX9_waitWithout_12 (by decide) (fun c81 => ?_) (fun c81 => ?_)
      · have c81 := cLE (x := (gi u 48)) (y := y77d) (X := ((gi u 48)).toInt) (Y := y77d.toInt) rfl rfl c81
        refine lv_iload_n hx hb dX9_waitWithout_42 rfl (lv_at hl 1 rfl) ?_
        exact hret _ _ y78d dX9_waitWithout_43 rfl trivial
      · have c81 := cNLE (x := (gi u 48)) (y := y77d) (X := ((gi u 48)).toInt) (Y := y77d.toInt) rfl rfl c81
        refine lv_iload_n hx hb dX9_waitWithout_15 rfl (lv_at hl 1 rfl) ?_
        refine lv_aload_n hx hb dX9_waitWithout_16 rfl (lv_at hl 2 rfl) ?_
        refine lv_iload_n hx hb dX9_waitWithout_17 rfl (lv_at hl 0 rfl) ?_
        refine lv_aload_n hx hb dX9_waitWithout_18 rfl (lv_at hl 2 rfl) ?_
        refine va_get (ci := 9) (v := .ref (A 7)) (C := RX9) (T := TX9) (N := 12) hx hb hts (fun w h => uc_in w (inX9 w h)) hown hK hP 0 (cwc0 C A u) rfl 5 (by decide) (hts _ (uc_in _ q_f388)) (fun _ h9 => h9) rfl dX9_waitWithout_19 ?_
        refine va_get (ci := 5) (v := .ref (A 38)) (C := RX5) (T := TX5) (N := 4) hx hb hts (fun w h => uc_in w (inX5 w h)) hown hK hP 7 (cwc7 C A u) rfl 3 (by decide) (hts _ (uc_in _ q_f175)) (fun _ h9 => h9) rfl dX9_waitWithout_22 ?_
        refine lv_iload_n hx hb dX9_waitWithout_25 rfl (lv_at hl 0 rfl) ?_
        refine va_iald hx hb hK hP 38 1 (cwc38 C A u) rfl (i_ix rfl (by omega) (by omega)) dX9_waitWithout_26 ?_
        refine p_any (fun z82 => ?_)
        refine lv_iload_n hx hb dX9_waitWithout_27 rfl (lv_at hl 3 rfl) ?_
        refine lv_iconst (v := (-1)) hx hb dX9_waitWithout_28 (by decide) ?_
        refine lv_ixor hx hb dX9_waitWithout_29 ?_
        refine p_any (fun z83 => ?_)
        refine lv_iand hx hb dX9_waitWithout_30 ?_
        refine p_any (fun z84 => ?_)
        refine cvS (n := 2) (As := [.int y77d, .int z84]) (rest := [.int y78d]) ⟨hx, hb, hml, hown, hts⟩ uc_in (kX9_waitOn_0 l D C A u hI y77d y77d.toInt rfl z84 z84.toInt rfl (by omega) (by omega)) q_m667 q_n669 q_p17 q_i1 q_c670 hvX9_waitOn ⟨(Nat.le_of_ble_eq_true rfl), (Nat.le_of_ble_eq_true rfl)⟩ ⟨(Nat.le_of_ble_eq_true rfl), (Nat.le_of_ble_eq_true rfl)⟩ hK hP 9 0 rfl (cwc0 C A u) rfl hl.1 rfl (Nat.le_of_ble_eq_true rfl) dX9_waitWithout_31 (fun r85 p86 => ?_)
        refine lv_iadd hx hb dX9_waitWithout_34 ?_
        refine p_any (fun z87 => ?_)
        refine lv_istore_n (lv' := [(2, .int z87), (3, .int y77d), (0, .ref (A 0)), (1, .int a0)]) hx hb dX9_waitWithout_35 rfl hl (by decide) rfl (fun ls hl => ?_)
        obtain ⟨z88, ez88⟩ : ∃ z, z = y77d + Int32.ofInt 1 := ⟨_, rfl⟩
        have hz88 : z88.toInt = y77d.toInt + 1 := by rw [ez88]; exact tt_add rfl (by decide) (by omega) (by omega)
        refine lv_iinc (v := z88) (lv' := [(3, .int z88), (2, .int z87), (0, .ref (A 0)), (1, .int a0)]) hx hb dX9_waitWithout_36 hl (k := 1) rfl ez88.symm (by decide) rfl (fun ls hl => ?_)
        refine lv_goto (tgt := 4) hx hb dX9_waitWithout_39 (by decide) ?_
        exact ih4_78 ls z88 z87 (by have q9 := (show z88.toInt = (y77d.toInt + 1) from hz88); omega) (by have q9 := (show z88.toInt = (y77d.toInt + 1) from hz88); omega) (by have q9 := (show z88.toInt = (y77d.toInt + 1) from hz88); omega) hl
  exact lp4_78 8 ls 0 0 (by decide) (by decide) (by have q9 : (0 : Int32).toInt = 0 := (by decide); omega) hl
set_option maxHeartbeats 4000000 in
set_option maxRecDepth 100000 in
theorem kX9_best_0 (l : Launch) (D : va_G) (C : Nat → ClassId) (A : Nat → Nat) (u : St) (hI : IC u) : Met l yX9_best (uc yX9_best cX9_best 5 (some .int)) (rmL 5 0 0) (va_Pc [.ref (A 0)] (PreR D (tyl C) (cw C A u))) (vp_Si (fun r => (-2) ≤ r.toInt ∧ r.toInt ≤ 5)) 0 0 (fun _ => False) := by
  refine mS (by decide) (Nat.le_of_ble_eq_true rfl) ?_
  intro p e s m below meth c ls ar Q hx hb hml hown hts hK hP hl hret
  have hown : s.vm.findClass RX9 = some m.cls := hown
  have hl : lv_has ls 5 [(0, .ref (A 0))] := hl
  refine lv_aload_n hx hb dX9_best_0 rfl (lv_at hl 0 rfl) ?_
  refine cvS (n := 0) (As := []) (rest := []) ⟨hx, hb, hml, hown, hts⟩ uc_in (kX9_hasTown_0 l D C A u hI ) q_m678 q_n680 q_p18 q_i1 q_c681 hvX9_hasTown ⟨(Nat.le_of_ble_eq_true rfl), (Nat.le_of_ble_eq_true rfl)⟩ ⟨(Nat.le_of_ble_eq_true rfl), (Nat.le_of_ble_eq_true rfl)⟩ hK hP 9 0 rfl (cwc0 C A u) rfl hl.1 rfl (Nat.le_of_ble_eq_true rfl) dX9_best_1 (fun r1 p2 => ?_)
  have p2 : 0 ≤ r1.toInt ∧ r1.toInt ≤ 1 := p2
  refine lv_if_ne (tgt := 10) hx hb dX9_best_4 (by decide) (fun c3 => ?_) (fun c3 => ?_)
  · have c3 := cNE (x := r1) (y := 0) (X := r1.toInt) (Y := 0) rfl (by decide) c3
    refine lv_iconst (v := (-1)) hx hb dX9_best_10 (by decide) ?_
    refine lv_istore_n (lv' := [(1, .int (-1)), (0, .ref (A 0))]) hx hb dX9_best_11 rfl hl (by decide) rfl (fun ls hl => ?_)
    refine lv_aload_n hx hb dX9_best_12 rfl (lv_at hl 1 rfl) ?_
    refine lv_iconst (v := 0) hx hb dX9_best_13 (by decide) ?_
    refine cvS (n := 1) (As := [.int 0]) (rest := []) ⟨hx, hb, hml, hown, hts⟩ uc_in (kX9_waitWithout_0 l D C A u hI (0) 0 (by decide)) q_m682 q_n684 q_p19 q_i1 q_c685 hvX9_waitWithout ⟨(Nat.le_of_ble_eq_true rfl), (Nat.le_of_ble_eq_true rfl)⟩ ⟨(Nat.le_of_ble_eq_true rfl), (Nat.le_of_ble_eq_true rfl)⟩ hK hP 9 0 rfl (cwc0 C A u) rfl hl.1 rfl (Nat.le_of_ble_eq_true rfl) dX9_best_14 (fun r4 p5 => ?_)
    refine lv_istore_n (lv' := [(2, .int r4), (1, .int (-1)), (0, .ref (A 0))]) hx hb dX9_best_17 rfl hl (by decide) rfl (fun ls hl => ?_)
    refine lv_iconst (v := 0) hx hb dX9_best_18 (by decide) ?_
    refine lv_istore_n (lv' := [(3, .int 0), (2, .int r4), (1, .int (-1)), (0, .ref (A 0))]) hx hb dX9_best_19 rfl hl (by decide) rfl (fun ls hl => ?_)
    have lp20_82 : ∀ (n20 : Nat) (ls : Array Slot) (y80d : Int32) (y81d : Int32) (y82d : Int32), 0 ≤ y80d.toInt → y80d.toInt ≤ 6 → (-1) ≤ y82d.toInt → y82d.toInt ≤ 5 → 6 - y80d.toInt < (n20 : Int) → lv_has ls 5 [(3, .int y80d), (2, .int y81d), (1, .int y82d), (0, .ref (A 0))] → W p l e (rmL 5 0 0) s m ar below meth c s.heap [] 0 0 Q (F0 m 20 ls []) := by
      intro n20
      induction n20 with
      | zero => intro ls y80d y81d y82d ly80d my80d ly82d my82d hmun20 hl; exfalso; omega
      | succ n20 ih20_82 =>
        intro ls y80d y81d y82d ly80d my80d ly82d my82d hmun20 hl
        refine lv_iload_n hx hb dX9_best_20 rfl (lv_at hl 0 rfl) ?_
        refine lv_aload_n hx hb dX9_best_21 rfl (lv_at hl 3 rfl) ?_
        refine va_get (ci := 9) (v := .ref (A 7)) (C := RX9) (T := TX9) (N := 12) hx hb hts (fun w h => uc_in w (inX9 w h)) hown hK hP 0 (cwc0 C A u) rfl 5 (by decide) (hts _ (uc_in _ q_f388)) (fun _ h9 => h9) rfl dX9_best_22 ?_
        refine va_get (ci := 5) (v := .int (gi u 49)) (C := RX5) (T := TX5) (N := 4) hx hb hts (fun w h => uc_in w (inX5 w h)) hown hK hP 7 (cwc7 C A u) rfl 1 (by decide) (hts _ (uc_in _ q_f167)) (fun _ h9 => h9) rfl dX9_best_25 ?_
        have b84 := hI.b49
        refine lv_icmp_ge (tgt := 57) hx hb dX9_best_28 (by decide) (fun c85 => ?_) (fun c85 => ?_)
        · have c85 := cLE (x := (gi u 49)) (y := y80d) (X := ((gi u 49)).toInt) (Y := y80d.toInt) rfl rfl c85
          refine lv_iload_n hx hb dX9_best_57 rfl (lv_at hl 2 rfl) ?_
          exact hret _ _ y82d dX9_best_58 rfl ⟨by omega, by omega⟩
        · have c85 := cNLE (x := (gi u 49)) (y := y80d) (X := ((gi u 49)).toInt) (Y := y80d.toInt) rfl rfl c85
          refine lv_aload_n hx hb dX9_best_31 rfl (lv_at hl 3 rfl) ?_
          refine lv_iconst (v := 1) hx hb dX9_best_32 (by decide) ?_
          refine lv_iload_n hx hb dX9_best_33 rfl (lv_at hl 0 rfl) ?_
          refine lv_ishl hx hb dX9_best_34 ?_
          have gz86 := tt_shl1 (y := y80d) (Y := y80d.toInt) rfl (by omega) (by omega)
          refine p_bd (P := fun q => 1 ≤ q ∧ q ≤ 32) ⟨by omega, by omega⟩ (fun z87 bz87 => ?_)
          have bz87 : 1 ≤ z87.toInt ∧ z87.toInt ≤ 32 := bz87
          refine cvS (n := 1) (As := [.int z87]) (rest := []) ⟨hx, hb, hml, hown, hts⟩ uc_in (kX9_waitWithout_0 l D C A u hI z87 z87.toInt rfl) q_m682 q_n684 q_p19 q_i1 q_c685 hvX9_waitWithout ⟨(Nat.le_of_ble_eq_true rfl), (Nat.le_of_ble_eq_true rfl)⟩ ⟨(Nat.le_of_ble_eq_true rfl), (Nat.le_of_ble_eq_true rfl)⟩ hK hP 9 0 rfl (cwc0 C A u) rfl hl.1 rfl (Nat.le_of_ble_eq_true rfl) dX9_best_35 (fun r88 p89 => ?_)
          refine lv_istore (lv' := [(4, .int r88), (3, .int y80d), (2, .int y81d), (1, .int y82d), (0, .ref (A 0))]) hx hb dX9_best_38 hl (by decide) rfl (fun ls hl => ?_)
          refine lv_iload hx hb dX9_best_40 (lv_at hl 0 rfl) ?_
          refine lv_iload_n hx hb dX9_best_42 rfl (lv_at hl 2 rfl) ?_
          have j51_94 : ∀ (ls : Array Slot) (y91d : Int32) (y92d : Int32), (-1) ≤ y92d.toInt → y92d.toInt ≤ 5 → lv_has ls 5 [(3, .int y80d), (2, .int y91d), (1, .int y92d), (0, .ref (A 0))] → W p l e (rmL 5 0 0) s m ar below meth c s.heap [] 0 0 Q (F0 m 51 ls []) := by
            intro ls y91d y92d ly92d my92d hl
            obtain ⟨z96, ez96⟩ : ∃ z, z = y80d + Int32.ofInt 1 := ⟨_, rfl⟩
            have hz96 : z96.toInt = y80d.toInt + 1 := by rw [ez96]; exact tt_add rfl (by decide) (by omega) (by omega)
            refine lv_iinc (v := z96) (lv' := [(3, .int z96), (2, .int y91d), (1, .int y92d), (0, .ref (A 0))]) hx hb dX9_best_51 hl (k := 0) rfl ez96.symm (by decide) rfl (fun ls hl => ?_)
            refine lv_goto (tgt := 20) hx hb dX9_best_54 (by decide) ?_
            exact ih20_82 ls z96 y91d y92d (by have q9 := (show z96.toInt = (y80d.toInt + 1) from hz96); omega) (by have q9 := (show z96.toInt = (y80d.toInt + 1) from hz96); omega) (by omega) (by omega) (by have q9 := (show z96.toInt = (y80d.toInt + 1) from hz96); omega) hl
          refine lv_icmp_ge (tgt := 51) hx hb dX9_best_43 (by decide) (fun c90 => ?_) (fun c90 => ?_)
          · have c90 := cLE (x := y81d) (y := r88) (X := y81d.toInt) (Y := r88.toInt) rfl rfl c90
            exact j51_94 ls y81d y82d (by omega) (by omega) (lv_sub hl [1, 2, 3, 4] rfl)
          · have c90 := cNLE (x := y81d) (y := r88) (X := y81d.toInt) (Y := r88.toInt) rfl rfl c90
            refine lv_iload hx hb dX9_best_46 (lv_at hl 0 rfl) ?_
            refine lv_istore_n (lv' := [(2, .int r88), (4, .int r88), (3, .int y80d), (1, .int y82d), (0, .ref (A 0))]) hx hb dX9_best_48 rfl hl (by decide) rfl (fun ls hl => ?_)
            refine lv_iload_n hx hb dX9_best_49 rfl (lv_at hl 2 rfl) ?_
            refine lv_istore_n (lv' := [(1, .int y80d), (2, .int r88), (4, .int r88), (3, .int y80d), (0, .ref (A 0))]) hx hb dX9_best_50 rfl hl (by decide) rfl (fun ls hl => ?_)
            exact j51_94 ls r88 y80d (by omega) (by omega) (lv_sub hl [3, 1, 0, 4] rfl)
    exact lp20_82 7 ls 0 r4 (-1) (by decide) (by decide) (by decide) (by decide) (by have q9 : (0 : Int32).toInt = 0 := (by decide); omega) hl
  · have c3 := cEQ (x := r1) (y := 0) (X := r1.toInt) (Y := 0) rfl (by decide) c3
    refine lv_bipush (v := (-2)) hx hb dX9_best_7 (by decide) ?_
    exact hret _ _ ((-2) : Int32) dX9_best_9 rfl ⟨by decide, by decide⟩
set_option maxHeartbeats 4000000 in
set_option maxRecDepth 100000 in
theorem kX5_has_0 (l : Launch) (D : va_G) (C : Nat → ClassId) (A : Nat → Nat) (u : St) (hI : IC u) (a0 : Int32) (A0 : Int) (ha0 : a0.toInt = A0) (a1 : Int32) (A1 : Int) (ha1 : a1.toInt = A1) : Met l yX5_has (uc yX5_has cX5_has 2 (some .boolean)) (rmL 1 0 0) (va_Pc [.int a0, .int a1] (PreR D (tyl C) (cw C A u))) (vp_Si (fun r => 0 ≤ r.toInt ∧ r.toInt ≤ 1)) 0 0 (fun _ => False) := by
  refine mS (by decide) (Nat.le_of_ble_eq_true rfl) ?_
  intro p e s m below meth c ls ar Q hx hb hml hown hts hK hP hl hret
  have hown : s.vm.findClass RX5 = some m.cls := hown
  have hl : lv_has ls 2 [(0, .int a0), (1, .int a1)] := hl
  refine lv_iload_n hx hb dX5_has_0 rfl (lv_at hl 0 rfl) ?_
  refine lv_iload_n hx hb dX5_has_1 rfl (lv_at hl 1 rfl) ?_
  refine lv_ishr hx hb dX5_has_2 ?_
  refine p_any (fun z1 => ?_)
  refine lv_iconst (v := 1) hx hb dX5_has_3 (by decide) ?_
  refine lv_iand hx hb dX5_has_4 ?_
  refine p_bd (P := fun q => 0 ≤ q ∧ q ≤ 1) (tt_andR (Y := 1) (by decide) (by decide)) (fun z2 bz2 => ?_)
  have bz2 : 0 ≤ z2.toInt ∧ z2.toInt ≤ 1 := bz2
  refine lv_iconst (v := 1) hx hb dX5_has_5 (by decide) ?_
  refine lv_icmp_ne (tgt := 13) hx hb dX5_has_6 (by decide) (fun c3 => ?_) (fun c3 => ?_)
  · have c3 := cNE (x := z2) (y := 1) (X := z2.toInt) (Y := 1) rfl (by decide) c3
    refine lv_iconst (v := 0) hx hb dX5_has_13 (by decide) ?_
    exact hret _ _ (0 : Int32) dX5_has_14 rfl ⟨by decide, by decide⟩
  · have c3 := cEQ (x := z2) (y := 1) (X := z2.toInt) (Y := 1) rfl (by decide) c3
    refine lv_iconst (v := 1) hx hb dX5_has_9 (by decide) ?_
    refine lv_goto (tgt := 14) hx hb dX5_has_10 (by decide) ?_
    exact hret _ _ (1 : Int32) dX5_has_14 rfl ⟨by decide, by decide⟩
set_option maxHeartbeats 4000000 in
set_option maxRecDepth 100000 in
theorem kX5_isAlive_0 (l : Launch) (D : va_G) (C : Nat → ClassId) (A : Nat → Nat) (u : St) (hI : IC u) (a0 : Int32) (A0 : Int) (ha0 : a0.toInt = A0) (a1 : Int32) (A1 : Int) (ha1 : a1.toInt = A1) (hl1 : 0 ≤ A1) (hm1 : A1 ≤ 6) : Met l yX5_isAlive (uc yX5_isAlive cX5_isAlive 3 (some .boolean)) (rmL 2 0 0) (va_Pc [.ref (A 7), .int a0, .int a1] (PreR D (tyl C) (cw C A u))) (vp_Si (fun r => 0 ≤ r.toInt ∧ r.toInt ≤ 1)) 0 0 (fun _ => False) := by
  refine mS (by decide) (Nat.le_of_ble_eq_true rfl) ?_
  intro p e s m below meth c ls ar Q hx hb hml hown hts hK hP hl hret
  have hown : s.vm.findClass RX5 = some m.cls := hown
  have hl : lv_has ls 3 [(0, .ref (A 7)), (1, .int a0), (2, .int a1)] := hl
  refine lv_aload_n hx hb dX5_isAlive_0 rfl (lv_at hl 0 rfl) ?_
  refine va_get (ci := 5) (v := .ref (A 38)) (C := RX5) (T := TX5) (N := 4) hx hb hts (fun w h => uc_in w (inX5 w h)) hown hK hP 7 (cwc7 C A u) rfl 3 (by decide) (hts _ (uc_in _ q_f172)) (fun _ h9 => h9) rfl dX5_isAlive_1 ?_
  refine lv_iload_n hx hb dX5_isAlive_4 rfl (lv_at hl 2 rfl) ?_
  refine va_iald hx hb hK hP 38 1 (cwc38 C A u) rfl (i_ix ha1 (by omega) (by omega)) dX5_isAlive_5 ?_
  refine p_any (fun z1 => ?_)
  refine lv_iload_n hx hb dX5_isAlive_6 rfl (lv_at hl 1 rfl) ?_
  refine csS (n := 2) (As := [.int z1, .int a0]) (rest := []) ⟨hx, hb, hml, hown, hts⟩ uc_in (kX5_has_0 l D C A u hI z1 z1.toInt rfl a0 A0 ha0) q_m640 q_s641 q_i4 q_c642 hvX5_has ⟨(Nat.le_of_ble_eq_true rfl), (Nat.le_of_ble_eq_true rfl)⟩ ⟨(Nat.le_of_ble_eq_true rfl), (Nat.le_of_ble_eq_true rfl)⟩ hK hP rfl hl.1 rfl (Nat.le_of_ble_eq_true rfl) dX5_isAlive_7 (fun r2 p3 => ?_)
  have p3 : 0 ≤ r2.toInt ∧ r2.toInt ≤ 1 := p3
  exact hret _ _ r2 dX5_isAlive_10 (n_b rfl (by omega) (by omega)) ⟨by omega, by omega⟩
set_option maxHeartbeats 4000000 in
set_option maxRecDepth 100000 in
theorem kX9_tooLate_0 (l : Launch) (D : va_G) (C : Nat → ClassId) (A : Nat → Nat) (u : St) (hI : IC u) (a0 : Int32) (A0 : Int) (ha0 : a0.toInt = A0) : Met l yX9_tooLate (uc yX9_tooLate cX9_tooLate 5 (some .int)) (rmL 3 0 0) (va_Pc [.ref (A 0), .int a0] (PreR D (tyl C) (cw C A u))) (vp_Si (fun r => 0 ≤ r.toInt ∧ r.toInt ≤ 63)) 0 0 (fun _ => False) := by
  refine mS (by decide) (Nat.le_of_ble_eq_true rfl) ?_
  intro p e s m below meth c ls ar Q hx hb hml hown hts hK hP hl hret
  have hown : s.vm.findClass RX9 = some m.cls := hown
  have hl : lv_has ls 5 [(0, .ref (A 0)), (1, .int a0)] := hl
  refine lv_iconst (v := 0) hx hb dX9_tooLate_0 (by decide) ?_
  refine lv_istore_n (lv' := [(2, .int 0), (0, .ref (A 0)), (1, .int a0)]) hx hb dX9_tooLate_1 rfl hl (by decide) rfl (fun ls hl => ?_)
  refine lv_iconst (v := 0) hx hb dX9_tooLate_2 (by decide) ?_
  refine lv_istore_n (lv' := [(3, .int 0), (2, .int 0), (0, .ref (A 0)), (1, .int a0)]) hx hb dX9_tooLate_3 rfl hl (by decide) rfl (fun ls hl => ?_)
  have lp4_608 : ∀ (n4 : Nat) (ls : Array Slot) (y607d : Int32) (y608d : Int32), 0 ≤ y607d.toInt → y607d.toInt ≤ 7 → 0 ≤ y608d.toInt → y608d.toInt ≤ 63 → 7 - y607d.toInt < (n4 : Int) → lv_has ls 5 [(3, .int y607d), (2, .int y608d), (0, .ref (A 0)), (1, .int a0)] → W p l e (rmL 3 0 0) s m ar below meth c s.heap [] 0 0 Q (F0 m 4 ls []) := by
    intro n4
    induction n4 with
    | zero => intro ls y607d y608d ly607d my607d ly608d my608d hmun4 hl; exfalso; omega
    | succ n4 ih4_608 =>
      intro ls y607d y608d ly607d my607d ly608d my608d hmun4 hl
      refine lv_iload_n hx hb dX9_tooLate_4 rfl (lv_at hl 0 rfl) ?_
      refine lv_aload_n hx hb dX9_tooLate_5 rfl (lv_at hl 2 rfl) ?_
      refine va_get (ci := 9) (v := .ref (A 7)) (C := RX9) (T := TX9) (N := 12) hx hb hts (fun w h => uc_in w (inX9 w h)) hown hK hP 0 (cwc0 C A u) rfl 5 (by decide) (hts _ (uc_in _ q_f388)) (fun _ h9 => h9) rfl dX9_tooLate_6 ?_
      refine va_get (ci := 5) (v := .int (gi u 48)) (C := RX5) (T := TX5) (N := 4) hx hb hts (fun w h => uc_in w (inX5 w h)) hown hK hP 7 (cwc7 C A u) rfl 0 (by decide) (hts _ (uc_in _ q_f164)) (fun _ h9 => h9) rfl dX9_tooLate_9 ?_
      have b610 := hI.b48
      refine lv_icmp_ge (tgt := 73) hx hb dX9_tooLate_12 (by decide) (fun c611 => ?_) (fun c611 => ?_)
      · have c611 := cLE (x := (gi u 48)) (y := y607d) (X := ((gi u 48)).toInt) (Y := y607d.toInt) rfl rfl c611
        refine lv_iload_n hx hb dX9_tooLate_73 rfl (lv_at hl 1 rfl) ?_
        exact hret _ _ y608d dX9_tooLate_74 rfl ⟨by omega, by omega⟩
      · have c611 := cNLE (x := (gi u 48)) (y := y607d) (X := ((gi u 48)).toInt) (Y := y607d.toInt) rfl rfl c611
        refine lv_iconst (v := 0) hx hb dX9_tooLate_15 (by decide) ?_
        refine lv_istore (lv' := [(4, .int 0), (3, .int y607d), (2, .int y608d), (0, .ref (A 0)), (1, .int a0)]) hx hb dX9_tooLate_16 hl (by decide) rfl (fun ls hl => ?_)
        have lp18_694 : ∀ (n18 : Nat) (ls : Array Slot) (y693d : Int32) (y694d : Int32), 0 ≤ y693d.toInt → y693d.toInt ≤ 6 → 0 ≤ y694d.toInt → y694d.toInt ≤ 63 → 6 - y693d.toInt < (n18 : Int) → lv_has ls 5 [(4, .int y693d), (3, .int y607d), (2, .int y694d), (0, .ref (A 0)), (1, .int a0)] → W p l e (rmL 3 0 0) s m ar below meth c s.heap [] 0 0 Q (F0 m 18 ls []) := by
          intro n18
          induction n18 with
          | zero => intro ls y693d y694d ly693d my693d ly694d my694d hmun18 hl; exfalso; omega
          | succ n18 ih18_694 =>
            intro ls y693d y694d ly693d my693d ly694d my694d hmun18 hl
            refine lv_iload hx hb dX9_tooLate_18 (lv_at hl 0 rfl) ?_
            refine lv_bipush (v := 6) hx hb dX9_tooLate_20 (by decide) ?_
            refine lv_icmp_ge (tgt := 67) hx hb dX9_tooLate_22 (by decide) (fun c696 => ?_) (fun c696 => ?_)
            · have c696 := cLE (x := 6) (y := y693d) (X := 6) (Y := y693d.toInt) (by decide) rfl c696
              obtain ⟨z697, ez697⟩ : ∃ z, z = y607d + Int32.ofInt 1 := ⟨_, rfl⟩
              have hz697 : z697.toInt = y607d.toInt + 1 := by rw [ez697]; exact tt_add rfl (by decide) (by omega) (by omega)
              refine lv_iinc (v := z697) (lv' := [(3, .int z697), (4, .int y693d), (2, .int y694d), (0, .ref (A 0)), (1, .int a0)]) hx hb dX9_tooLate_67 hl (k := 1) rfl ez697.symm (by decide) rfl (fun ls hl => ?_)
              refine lv_goto (tgt := 4) hx hb dX9_tooLate_70 (by decide) ?_
              exact ih4_608 ls z697 y694d (by have q9 := (show z697.toInt = (y607d.toInt + 1) from hz697); omega) (by have q9 := (show z697.toInt = (y607d.toInt + 1) from hz697); omega) (by omega) (by omega) (by have q9 := (show z697.toInt = (y607d.toInt + 1) from hz697); omega) (lv_sub hl [0, 2, 3, 4] rfl)
            · have c696 := cNLE (x := 6) (y := y693d) (X := 6) (Y := y693d.toInt) (by decide) rfl c696
              refine lv_aload_n hx hb dX9_tooLate_25 rfl (lv_at hl 3 rfl) ?_
              refine va_get (ci := 9) (v := .ref (A 7)) (C := RX9) (T := TX9) (N := 12) hx hb hts (fun w h => uc_in w (inX9 w h)) hown hK hP 0 (cwc0 C A u) rfl 5 (by decide) (hts _ (uc_in _ q_f388)) (fun _ h9 => h9) rfl dX9_tooLate_26 ?_
              refine lv_iload hx hb dX9_tooLate_29 (lv_at hl 0 rfl) ?_
              refine lv_iload_n hx hb dX9_tooLate_31 rfl (lv_at hl 1 rfl) ?_
              refine cvS (n := 2) (As := [.int y693d, .int y607d]) (rest := []) ⟨hx, hb, hml, hown, hts⟩ uc_in (kX5_isAlive_0 l D C A u hI y693d y693d.toInt rfl y607d y607d.toInt rfl (by omega) (by omega)) q_m654 q_n637 q_e638 q_i4 q_c639 hvX5_isAlive ⟨(Nat.le_of_ble_eq_true rfl), (Nat.le_of_ble_eq_true rfl)⟩ ⟨(Nat.le_of_ble_eq_true rfl), (Nat.le_of_ble_eq_true rfl)⟩ hK hP 5 7 rfl (cwc7 C A u) rfl hl.1 rfl (Nat.le_of_ble_eq_true rfl) dX9_tooLate_32 (fun r698 p699 => ?_)
              have p699 : 0 ≤ r698.toInt ∧ r698.toInt ≤ 1 := p699
              have j61_710 : ∀ (ls : Array Slot) (y708d : Int32), 0 ≤ y708d.toInt → y708d.toInt ≤ 63 → lv_has ls 5 [(4, .int y693d), (3, .int y607d), (2, .int y708d), (0, .ref (A 0)), (1, .int a0)] → W p l e (rmL 3 0 0) s m ar below meth c s.heap [] 0 0 Q (F0 m 61 ls []) := by
                intro ls y708d ly708d my708d hl
                obtain ⟨z712, ez712⟩ : ∃ z, z = y693d + Int32.ofInt 1 := ⟨_, rfl⟩
                have hz712 : z712.toInt = y693d.toInt + 1 := by rw [ez712]; exact tt_add rfl (by decide) (by omega) (by omega)
                refine lv_iinc (v := z712) (lv' := [(4, .int z712), (3, .int y607d), (2, .int y708d), (0, .ref (A 0)), (1, .int a0)]) hx hb dX9_tooLate_61 hl (k := 0) rfl ez712.symm (by decide) rfl (fun ls hl => ?_)
                refine lv_goto (tgt := 18) hx hb dX9_tooLate_64 (by decide) ?_
                exact ih18_694 ls z712 y708d (by have q9 := (show z712.toInt = (y693d.toInt + 1) from hz712); omega) (by have q9 := (show z712.toInt = (y693d.toInt + 1) from hz712); omega) (by omega) (by omega) (by have q9 := (show z712.toInt = (y693d.toInt + 1) from hz712); omega) hl
              refine lv_if_eq (tgt := 61) hx hb dX9_tooLate_35 (by decide) (fun c700 => ?_) (fun c700 => ?_)
              · have c700 := cEQ (x := r698) (y := 0) (X := r698.toInt) (Y := 0) rfl (by decide) c700
                exact j61_710 ls y694d (by omega) (by omega) hl
              · have c700 := cNE (x := r698) (y := 0) (X := r698.toInt) (Y := 0) rfl (by decide) c700
                refine lv_aload_n hx hb dX9_tooLate_38 rfl (lv_at hl 3 rfl) ?_
                refine va_get (ci := 9) (v := .ref (A 7)) (C := RX9) (T := TX9) (N := 12) hx hb hts (fun w h => uc_in w (inX9 w h)) hown hK hP 0 (cwc0 C A u) rfl 5 (by decide) (hts _ (uc_in _ q_f388)) (fun _ h9 => h9) rfl dX9_tooLate_39 ?_
                refine va_get (ci := 5) (v := .ref (A 19)) (C := RX5) (T := TX5) (N := 4) hx hb hts (fun w h => uc_in w (inX5 w h)) hown hK hP 7 (cwc7 C A u) rfl 2 (by decide) (hts _ (uc_in _ q_f171)) (fun _ h9 => h9) rfl dX9_tooLate_42 ?_
                refine lv_iload_n hx hb dX9_tooLate_45 rfl (lv_at hl 1 rfl) ?_
                refine r_aald hx hb hK hP 19 6 rfl (cwc19 C A u) rfl (i_ix rfl (by omega) (by omega)) dX9_tooLate_46 ?_
                obtain ⟨k713, hk713, ek713⟩ : ∃ k : Nat, (k : Int) = 32 + y607d.toInt ∧ k = 32 + Int32.toNatClampNeg y607d := ⟨_, by have q9 := i_cl (x := y607d) (X := y607d.toInt) rfl (by omega); omega, rfl⟩
                refine pv_v (v := .ref (A (52 + k713))) (by rw [ek713]; rfl) ?_
                refine lv_iload hx hb dX9_tooLate_47 (lv_at hl 0 rfl) ?_
                refine va_iald hx hb hK hP (52 + k713) 1 (cwp C A u k713 (by omega)) rfl (i_ix rfl (by omega) (by omega)) dX9_tooLate_49 ?_
                refine p_any (fun z714 => ?_)
                refine lv_iload_n hx hb dX9_tooLate_50 rfl (lv_at hl 4 rfl) ?_
                refine lv_icmp_le (tgt := 61) hx hb dX9_tooLate_51 (by decide) (fun c715 => ?_) (fun c715 => ?_)
                · have c715 := cLE (x := z714) (y := a0) (X := z714.toInt) (Y := A0) rfl ha0 c715
                  exact j61_710 ls y694d (by omega) (by omega) hl
                · have c715 := cNLE (x := z714) (y := a0) (X := z714.toInt) (Y := A0) rfl ha0 c715
                  refine lv_iload_n hx hb dX9_tooLate_54 rfl (lv_at hl 2 rfl) ?_
                  refine lv_iconst (v := 1) hx hb dX9_tooLate_55 (by decide) ?_
                  refine lv_iload hx hb dX9_tooLate_56 (lv_at hl 0 rfl) ?_
                  refine lv_ishl hx hb dX9_tooLate_58 ?_
                  have gz716 := tt_shl1 (y := y693d) (Y := y693d.toInt) rfl (by omega) (by omega)
                  refine p_bd (P := fun q => 1 ≤ q ∧ q ≤ 32) ⟨by omega, by omega⟩ (fun z717 bz717 => ?_)
                  have bz717 : 1 ≤ z717.toInt ∧ z717.toInt ≤ 32 := bz717
                  refine lv_ior hx hb dX9_tooLate_59 ?_
                  have gz718 := tt_or (x := y694d) (y := z717) (X := y694d.toInt) (Y := z717.toInt) rfl rfl 6 (by decide) (by omega) (by omega) (by omega) (by omega)
                  refine p_bd (P := fun q => 0 ≤ q ∧ q ≤ 63) ⟨by omega, by omega⟩ (fun z719 bz719 => ?_)
                  have bz719 : 0 ≤ z719.toInt ∧ z719.toInt ≤ 63 := bz719
                  refine lv_istore_n (lv' := [(2, .int z719), (4, .int y693d), (3, .int y607d), (0, .ref (A 0)), (1, .int a0)]) hx hb dX9_tooLate_60 rfl hl (by decide) rfl (fun ls hl => ?_)
                  exact j61_710 ls z719 (by omega) (by omega) (lv_sub hl [1, 2, 0, 3, 4] rfl)
        exact lp18_694 7 ls 0 y608d (by decide) (by decide) (by omega) (by omega) (by have q9 : (0 : Int32).toInt = 0 := (by decide); omega) hl
  exact lp4_608 8 ls 0 0 (by decide) (by decide) (by decide) (by decide) (by have q9 : (0 : Int32).toInt = 0 := (by decide); omega) hl
set_option maxHeartbeats 4000000 in
set_option maxRecDepth 100000 in
theorem kX9_buries_0 (l : Launch) (D : va_G) (C : Nat → ClassId) (A : Nat → Nat) (u : St) (hI : IC u) (a0 : Int32) (A0 : Int) (ha0 : a0.toInt = A0) : Met l yX9_buries (uc yX9_buries cX9_buries 2 (some .int)) (rmL 4 0 0) (va_Pc [.ref (A 0), .int a0] (PreR D (tyl C) (cw C A u))) (vp_Si (fun r => (-2) ≤ r.toInt ∧ r.toInt ≤ 63)) 0 0 (fun _ => False) := by
  refine mS (by decide) (Nat.le_of_ble_eq_true rfl) ?_
  intro p e s m below meth c ls ar Q hx hb hml hown hts hK hP hl hret
  have hown : s.vm.findClass RX9 = some m.cls := hown
  have hl : lv_has ls 2 [(0, .ref (A 0)), (1, .int a0)] := hl
  refine lv_iload_n hx hb dX9_buries_0 rfl (lv_at hl 1 rfl) ?_
  refine csS (n := 1) (As := [.int a0]) (rest := []) ⟨hx, hb, hml, hown, hts⟩ uc_in (kX9_isMinute_0 l D C A u hI a0 A0 ha0) q_m762 q_s763 q_i1 q_c764 hvX9_isMinute ⟨(Nat.le_of_ble_eq_true rfl), (Nat.le_of_ble_eq_true rfl)⟩ ⟨(Nat.le_of_ble_eq_true rfl), (Nat.le_of_ble_eq_true rfl)⟩ hK hP rfl hl.1 rfl (Nat.le_of_ble_eq_true rfl) dX9_buries_1 (fun r1 p2 => ?_)
  rcases p2 with ⟨e9, f3, f4⟩ | e9
  · subst e9
    refine lv_if_eq (tgt := 22) hx hb dX9_buries_4 (by decide) (fun c5 => absurd c5 (by decide)) (fun c5 => ?_)
    refine lv_aload_n hx hb dX9_buries_7 rfl (lv_at hl 0 rfl) ?_
    refine cvS (n := 0) (As := []) (rest := []) ⟨hx, hb, hml, hown, hts⟩ uc_in (kX9_hasTown_0 l D C A u hI ) q_m678 q_n680 q_p18 q_i1 q_c681 hvX9_hasTown ⟨(Nat.le_of_ble_eq_true rfl), (Nat.le_of_ble_eq_true rfl)⟩ ⟨(Nat.le_of_ble_eq_true rfl), (Nat.le_of_ble_eq_true rfl)⟩ hK hP 9 0 rfl (cwc0 C A u) rfl hl.1 rfl (Nat.le_of_ble_eq_true rfl) dX9_buries_8 (fun r6 p7 => ?_)
    have p7 : 0 ≤ r6.toInt ∧ r6.toInt ≤ 1 := p7
    refine lv_if_eq (tgt := 22) hx hb dX9_buries_11 (by decide) (fun c8 => ?_) (fun c8 => ?_)
    · have c8 := cEQ (x := r6) (y := 0) (X := r6.toInt) (Y := 0) rfl (by decide) c8
      refine lv_bipush (v := (-2)) hx hb dX9_buries_22 (by decide) ?_
      exact hret _ _ ((-2) : Int32) dX9_buries_24 rfl ⟨by decide, by decide⟩
    · have c8 := cNE (x := r6) (y := 0) (X := r6.toInt) (Y := 0) rfl (by decide) c8
      refine lv_aload_n hx hb dX9_buries_14 rfl (lv_at hl 0 rfl) ?_
      refine lv_iload_n hx hb dX9_buries_15 rfl (lv_at hl 1 rfl) ?_
      refine cvS (n := 1) (As := [.int a0]) (rest := []) ⟨hx, hb, hml, hown, hts⟩ uc_in (kX9_tooLate_0 l D C A u hI a0 A0 ha0) q_m808 q_n810 q_p24 q_i1 q_c811 hvX9_tooLate ⟨(Nat.le_of_ble_eq_true rfl), (Nat.le_of_ble_eq_true rfl)⟩ ⟨(Nat.le_of_ble_eq_true rfl), (Nat.le_of_ble_eq_true rfl)⟩ hK hP 9 0 rfl (cwc0 C A u) rfl hl.1 rfl (Nat.le_of_ble_eq_true rfl) dX9_buries_16 (fun r9 p10 => ?_)
      have p10 : 0 ≤ r9.toInt ∧ r9.toInt ≤ 63 := p10
      refine lv_goto (tgt := 24) hx hb dX9_buries_19 (by decide) ?_
      exact hret _ _ r9 dX9_buries_24 rfl ⟨by omega, by omega⟩
  · subst e9
    refine lv_if_eq (tgt := 22) hx hb dX9_buries_4 (by decide) (fun c11 => ?_) (fun c11 => absurd c11 (by decide))
    refine lv_bipush (v := (-2)) hx hb dX9_buries_22 (by decide) ?_
    exact hret _ _ ((-2) : Int32) dX9_buries_24 rfl ⟨by decide, by decide⟩
set_option maxHeartbeats 4000000 in
set_option maxRecDepth 100000 in
theorem kX9_bury_0 (l : Launch) (D : va_G) (C : Nat → ClassId) (A : Nat → Nat) (u : St) (hI : IC u) (a0 : Int32) (A0 : Int) (ha0 : a0.toInt = A0) : Met l yX9_bury (uc yX9_bury cX9_bury 2 (some .int)) (rmL 4 0 0) (va_Pc [.ref (A 0), .int a0] (PreR D (tyl C) (cw C A u))) (vp_Si (fun r => (-2) ≤ r.toInt ∧ r.toInt ≤ 63)) 0 0 (fun _ => False) := by
  refine mS (by decide) (Nat.le_of_ble_eq_true rfl) ?_
  intro p e s m below meth c ls ar Q hx hb hml hown hts hK hP hl hret
  have hown : s.vm.findClass RX9 = some m.cls := hown
  have hl : lv_has ls 2 [(0, .ref (A 0)), (1, .int a0)] := hl
  refine lv_iload_n hx hb dX9_bury_0 rfl (lv_at hl 1 rfl) ?_
  refine csS (n := 1) (As := [.int a0]) (rest := []) ⟨hx, hb, hml, hown, hts⟩ uc_in (kX9_isMinute_0 l D C A u hI a0 A0 ha0) q_m762 q_s763 q_i1 q_c764 hvX9_isMinute ⟨(Nat.le_of_ble_eq_true rfl), (Nat.le_of_ble_eq_true rfl)⟩ ⟨(Nat.le_of_ble_eq_true rfl), (Nat.le_of_ble_eq_true rfl)⟩ hK hP rfl hl.1 rfl (Nat.le_of_ble_eq_true rfl) dX9_bury_1 (fun r1 p2 => ?_)
  rcases p2 with ⟨e9, f3, f4⟩ | e9
  · subst e9
    refine lv_if_eq (tgt := 25) hx hb dX9_bury_4 (by decide) (fun c5 => absurd c5 (by decide)) (fun c5 => ?_)
    refine lv_aload_n hx hb dX9_bury_7 rfl (lv_at hl 0 rfl) ?_
    refine cvS (n := 0) (As := []) (rest := []) ⟨hx, hb, hml, hown, hts⟩ uc_in (kX9_hasTown_0 l D C A u hI ) q_m678 q_n680 q_p18 q_i1 q_c681 hvX9_hasTown ⟨(Nat.le_of_ble_eq_true rfl), (Nat.le_of_ble_eq_true rfl)⟩ ⟨(Nat.le_of_ble_eq_true rfl), (Nat.le_of_ble_eq_true rfl)⟩ hK hP 9 0 rfl (cwc0 C A u) rfl hl.1 rfl (Nat.le_of_ble_eq_true rfl) dX9_bury_8 (fun r6 p7 => ?_)
    have p7 : 0 ≤ r6.toInt ∧ r6.toInt ≤ 1 := p7
    refine lv_if_eq (tgt := 25) hx hb dX9_bury_11 (by decide) (fun c8 => ?_) (fun c8 => ?_)
    · have c8 := cEQ (x := r6) (y := 0) (X := r6.toInt) (Y := 0) rfl (by decide) c8
      refine lv_bipush (v := (-2)) hx hb dX9_bury_25 (by decide) ?_
      exact hret _ _ ((-2) : Int32) dX9_bury_27 rfl ⟨by decide, by decide⟩
    · have c8 := cNE (x := r6) (y := 0) (X := r6.toInt) (Y := 0) rfl (by decide) c8
      refine lv_aload_n hx hb dX9_bury_14 rfl (lv_at hl 0 rfl) ?_
      refine lv_iload_n hx hb dX9_bury_15 rfl (lv_at hl 1 rfl) ?_
      refine cvS (n := 1) (As := [.int a0]) (rest := []) ⟨hx, hb, hml, hown, hts⟩ uc_in (kX9_tooLate_0 l D C A u hI a0 A0 ha0) q_m808 q_n810 q_p24 q_i1 q_c811 hvX9_tooLate ⟨(Nat.le_of_ble_eq_true rfl), (Nat.le_of_ble_eq_true rfl)⟩ ⟨(Nat.le_of_ble_eq_true rfl), (Nat.le_of_ble_eq_true rfl)⟩ hK hP 9 0 rfl (cwc0 C A u) rfl hl.1 rfl (Nat.le_of_ble_eq_true rfl) dX9_bury_16 (fun r9 p10 => ?_)
      have p10 : 0 ≤ r9.toInt ∧ r9.toInt ≤ 63 := p10
      refine csS (n := 1) (As := [.int r9]) (rest := []) ⟨hx, hb, hml, hown, hts⟩ uc_in (kJ6_bitCount_0f7a4_0 l D C A u hI r9 r9.toInt rfl) q_m706 q_s707 q_i18 q_c708 hvJ6_bitCount_0f7a4 ⟨(Nat.le_of_ble_eq_true rfl), (Nat.le_of_ble_eq_true rfl)⟩ ⟨(Nat.le_of_ble_eq_true rfl), (Nat.le_of_ble_eq_true rfl)⟩ hK hP rfl hl.1 rfl (Nat.le_of_ble_eq_true rfl) dX9_bury_19 (fun r11 p12 => ?_)
      have p12 : 0 ≤ r11.toInt ∧ r11.toInt ≤ 63 := p12
      refine lv_goto (tgt := 27) hx hb dX9_bury_22 (by decide) ?_
      exact hret _ _ r11 dX9_bury_27 rfl ⟨by omega, by omega⟩
  · subst e9
    refine lv_if_eq (tgt := 25) hx hb dX9_bury_4 (by decide) (fun c13 => ?_) (fun c13 => absurd c13 (by decide))
    refine lv_bipush (v := (-2)) hx hb dX9_bury_25 (by decide) ?_
    exact hret _ _ ((-2) : Int32) dX9_bury_27 rfl ⟨by decide, by decide⟩
set_option maxHeartbeats 4000000 in
set_option maxRecDepth 100000 in
theorem kX9_isDay_0 (l : Launch) (D : va_G) (C : Nat → ClassId) (A : Nat → Nat) (u : St) (hI : IC u) (a0 : Int32) (A0 : Int) (ha0 : a0.toInt = A0) : Met l yX9_isDay (uc yX9_isDay cX9_isDay 2 (some .boolean)) (rmL 1 0 0) (va_Pc [.ref (A 0), .int a0] (PreR D (tyl C) (cw C A u))) (vp_Si (fun r => (r = 1 ∧ 0 ≤ A0 ∧ A0 < (gi u 48).toInt) ∨ r = 0)) 0 0 (fun _ => False) := by
  refine mS (by decide) (Nat.le_of_ble_eq_true rfl) ?_
  intro p e s m below meth c ls ar Q hx hb hml hown hts hK hP hl hret
  have hown : s.vm.findClass RX9 = some m.cls := hown
  have hl : lv_has ls 2 [(0, .ref (A 0)), (1, .int a0)] := hl
  refine lv_iload_n hx hb dX9_isDay_0 rfl (lv_at hl 1 rfl) ?_
  refine lv_if_lt (tgt := 19) hx hb dX9_isDay_1 (by decide) (fun c1 => ?_) (fun c1 => ?_)
  · have c1 := cLT (x := a0) (y := 0) (X := A0) (Y := 0) ha0 (by decide) c1
    refine lv_iconst (v := 0) hx hb dX9_isDay_19 (by decide) ?_
    exact hret _ _ (0 : Int32) dX9_isDay_20 rfl (Or.inr rfl)
  · have c1 := cNLT (x := a0) (y := 0) (X := A0) (Y := 0) ha0 (by decide) c1
    refine lv_iload_n hx hb dX9_isDay_4 rfl (lv_at hl 1 rfl) ?_
    refine lv_aload_n hx hb dX9_isDay_5 rfl (lv_at hl 0 rfl) ?_
    refine va_get (ci := 9) (v := .ref (A 7)) (C := RX9) (T := TX9) (N := 12) hx hb hts (fun w h => uc_in w (inX9 w h)) hown hK hP 0 (cwc0 C A u) rfl 5 (by decide) (hts _ (uc_in _ q_f388)) (fun _ h9 => h9) rfl dX9_isDay_6 ?_
    refine va_get (ci := 5) (v := .int (gi u 48)) (C := RX5) (T := TX5) (N := 4) hx hb hts (fun w h => uc_in w (inX5 w h)) hown hK hP 7 (cwc7 C A u) rfl 0 (by decide) (hts _ (uc_in _ q_f164)) (fun _ h9 => h9) rfl dX9_isDay_9 ?_
    have b2 := hI.b48
    refine lv_icmp_ge (tgt := 19) hx hb dX9_isDay_12 (by decide) (fun c3 => ?_) (fun c3 => ?_)
    · have c3 := cLE (x := (gi u 48)) (y := a0) (X := ((gi u 48)).toInt) (Y := A0) rfl ha0 c3
      refine lv_iconst (v := 0) hx hb dX9_isDay_19 (by decide) ?_
      exact hret _ _ (0 : Int32) dX9_isDay_20 rfl (Or.inr rfl)
    · have c3 := cNLE (x := (gi u 48)) (y := a0) (X := ((gi u 48)).toInt) (Y := A0) rfl ha0 c3
      refine lv_iconst (v := 1) hx hb dX9_isDay_15 (by decide) ?_
      refine lv_goto (tgt := 20) hx hb dX9_isDay_16 (by decide) ?_
      exact hret _ _ (1 : Int32) dX9_isDay_20 rfl (Or.inl ⟨rfl, by omega, by omega⟩)
set_option maxHeartbeats 4000000 in
set_option maxRecDepth 100000 in
theorem kX4_tenthsBy_0 (l : Launch) (D : va_G) (C : Nat → ClassId) (A : Nat → Nat) (u : St) (hI : IC u) (a0 : Int32) (A0 : Int) (ha0 : a0.toInt = A0) (a1 : Int32) (A1 : Int) (ha1 : a1.toInt = A1) (a2 : Int32) (A2 : Int) (ha2 : a2.toInt = A2) : Met l yX4_tenthsBy (uc yX4_tenthsBy cX4_tenthsBy 3 (some .int)) (rmL 1 0 0) (va_Pc [.int a0, .int a1, .int a2] (PreR D (tyl C) (cw C A u))) (vp_Si (fun r => True)) 0 0 (fun _ => False) := by
  refine mS (by decide) (Nat.le_of_ble_eq_true rfl) ?_
  intro p e s m below meth c ls ar Q hx hb hml hown hts hK hP hl hret
  have hown : s.vm.findClass RX4 = some m.cls := hown
  have hl : lv_has ls 3 [(0, .int a0), (1, .int a1), (2, .int a2)] := hl
  refine lv_iload_n hx hb dX4_tenthsBy_0 rfl (lv_at hl 0 rfl) ?_
  refine lv_iload_n hx hb dX4_tenthsBy_1 rfl (lv_at hl 2 rfl) ?_
  refine lv_icmp_le (tgt := 7) hx hb dX4_tenthsBy_2 (by decide) (fun c1 => ?_) (fun c1 => ?_)
  · have c1 := cLE (x := a0) (y := a2) (X := A0) (Y := A2) ha0 ha2 c1
    refine lv_iload_n hx hb dX4_tenthsBy_7 rfl (lv_at hl 0 rfl) ?_
    refine lv_bipush (v := 30) hx hb dX4_tenthsBy_8 (by decide) ?_
    refine lv_iadd hx hb dX4_tenthsBy_10 ?_
    refine p_any (fun z2 => ?_)
    refine lv_iload_n hx hb dX4_tenthsBy_11 rfl (lv_at hl 2 rfl) ?_
    refine lv_icmp_le (tgt := 22) hx hb dX4_tenthsBy_12 (by decide) (fun c3 => ?_) (fun c3 => ?_)
    · have c3 := cLE (x := z2) (y := a2) (X := z2.toInt) (Y := A2) rfl ha2 c3
      refine lv_bipush (v := 10) hx hb dX4_tenthsBy_22 (by decide) ?_
      exact hret _ _ (10 : Int32) dX4_tenthsBy_24 rfl trivial
    · have c3 := cNLE (x := z2) (y := a2) (X := z2.toInt) (Y := A2) rfl ha2 c3
      refine lv_bipush (v := 10) hx hb dX4_tenthsBy_15 (by decide) ?_
      refine lv_iload_n hx hb dX4_tenthsBy_17 rfl (lv_at hl 1 rfl) ?_
      refine lv_isub hx hb dX4_tenthsBy_18 ?_
      refine p_any (fun z4 => ?_)
      refine lv_goto (tgt := 24) hx hb dX4_tenthsBy_19 (by decide) ?_
      exact hret _ _ z4 dX4_tenthsBy_24 rfl trivial
  · have c1 := cNLE (x := a0) (y := a2) (X := A0) (Y := A2) ha0 ha2 c1
    refine lv_iconst (v := 0) hx hb dX4_tenthsBy_5 (by decide) ?_
    exact hret _ _ (0 : Int32) dX4_tenthsBy_6 rfl trivial
set_option maxHeartbeats 4000000 in
set_option maxRecDepth 100000 in
theorem kX4_weigh_0 (l : Launch) (D : va_G) (C : Nat → ClassId) (A : Nat → Nat) (u : St) (hI : IC u) (q0 : Nat) (hq0 : q0 < 109) (a1 : Int32) (A1 : Int) (ha1 : a1.toInt = A1) (a2 : Int32) (A2 : Int) (ha2 : a2.toInt = A2) (a3 : Int32) (A3 : Int) (ha3 : a3.toInt = A3) (sz : Nat) : MetV l yX4_weigh cX4_weigh 6 2 [.ref (A 16), .ref (A (52 + q0)), .int a1, .int a2, .int a3] D (tyl C) (cw C A) X0 u sz (fun u' => IC u' ∧ Un [(77, 77), (78, 78)] [] [] u u' ∧ True) := by
  refine mV (by decide) (Nat.le_of_ble_eq_true rfl) ?_
  intro p e s m below meth c ls ar Q hx hb hml hown hts hK hH hX hl hret
  have hown : s.vm.findClass RX4 = some m.cls := hown
  have hl : lv_has ls 6 [(0, .ref (A 16)), (1, .ref (A (52 + q0))), (2, .int a1), (3, .int a2), (4, .int a3)] := hl
  refine lv_aload_n hx hb dX4_weigh_0 rfl (lv_at hl 0 rfl) ?_
  refine lv_iconst (v := 1) hx hb dX4_weigh_1 (by decide) ?_
  refine r_put (j := 77) (ci := 4) (C := RX4) (T := TX4) (N := 4) hx hb hts (fun w h => uc_in w (inX4 w h)) tyX4 tyX4_ok nmX4 hown hK hH 16 (cwc16 C A u) rfl 0 (by decide) (hts _ (uc_in _ q_f367)) (fun _ h9 => h9) rfl (by decide +kernel) (Nat.le_of_ble_eq_true rfl) (cws77 C A u _) dX4_weigh_2 (fun u1 eu1 H locs hH => ?_)
  have hI := hI.pi0 eu1 rfl (by decide) (by decide)
  refine lv_aload_n hx hb dX4_weigh_5 rfl (lv_at hl 0 rfl) ?_
  refine lv_iconst (v := 1) hx hb dX4_weigh_6 (by decide) ?_
  refine r_put (j := 78) (ci := 4) (C := RX4) (T := TX4) (N := 4) hx hb hts (fun w h => uc_in w (inX4 w h)) tyX4 tyX4_ok nmX4 hown hK hH 16 (cwc16 C A u1) rfl 1 (by decide) (hts _ (uc_in _ q_f369)) (fun _ h9 => h9) rfl (by decide +kernel) (Nat.le_of_ble_eq_true rfl) (cws78 C A u1 _) dX4_weigh_7 (fun u2 eu2 H locs hH => ?_)
  have hI := hI.pi0 eu2 rfl (by decide) (by decide)
  refine lv_iconst (v := 0) hx hb dX4_weigh_10 (by decide) ?_
  refine lv_istore (lv' := [(5, .int 0), (0, .ref (A 16)), (1, .ref (A (52 + q0))), (2, .int a1), (3, .int a2), (4, .int a3)]) hx hb dX4_weigh_11 hl (by decide) rfl (fun ls hl => ?_)
  have lp13_163 : ∀ (n13 : Nat) (ls : Array Slot) (y162d : Int32) (u163 : St) (H : Heap) (locs : List Loc), 0 ≤ y162d.toInt → y162d.toInt ≤ 6 → 6 - y162d.toInt < (n13 : Int) → Un [(77, 77), (78, 78)] [] [] u2 u163 → IC u163 → Hd D (cw C A) (va_A (cw C A u) s.heap.size) s.heap u163 H locs → lv_has ls 6 [(5, .int y162d), (0, .ref (A 16)), (1, .ref (A (52 + q0))), (2, .int a1), (3, .int a2), (4, .int a3)] → W p l e (rmL 2 0 0) s m ar below meth c H locs 0 0 Q (F0 m 13 ls []) := by
    intro n13
    induction n13 with
    | zero => intro ls y162d u163 H locs ly162d my162d hmun13 hUu163 hI hH hl; exfalso; omega
    | succ n13 ih13_163 =>
      intro ls y162d u163 H locs ly162d my162d hmun13 hUu163 hI hH hl
      refine lv_iload hx hb dX4_weigh_13 (lv_at hl 0 rfl) ?_
      refine lv_bipush (v := 6) hx hb dX4_weigh_15 (by decide) ?_
      refine lv_icmp_ge (tgt := 65) hx hb dX4_weigh_17 (by decide) (fun c165 => ?_) (fun c165 => ?_)
      · have c165 := cLE (x := 6) (y := y162d) (X := 6) (Y := y162d.toInt) (by decide) rfl c165
        exact hret _ _ _ _ _ dX4_weigh_65 ⟨hI, (Un.tr (Un.si (Un.si Un.rf rfl eu1) rfl eu2) hUu163 rfl rfl rfl), trivial⟩ hH
      · have c165 := cNLE (x := 6) (y := y162d) (X := 6) (Y := y162d.toInt) (by decide) rfl c165
        refine lv_iload_n hx hb dX4_weigh_20 rfl (lv_at hl 3 rfl) ?_
        refine lv_iload hx hb dX4_weigh_21 (lv_at hl 0 rfl) ?_
        refine csS (n := 2) (As := [.int a1, .int y162d]) (rest := []) ⟨hx, hb, hml, hown, hts⟩ uc_in (kX5_has_0 l D C A u163 hI a1 A1 ha1 y162d y162d.toInt rfl) q_m1060 q_s641 q_i4 q_c642 hvX5_has ⟨(Nat.le_of_ble_eq_true rfl), (Nat.le_of_ble_eq_true rfl)⟩ ⟨(Nat.le_of_ble_eq_true rfl), (Nat.le_of_ble_eq_true rfl)⟩ hK hH.1 rfl hl.1 rfl (Nat.le_of_ble_eq_true rfl) dX4_weigh_23 (fun r166 p167 => ?_)
        have p167 : 0 ≤ r166.toInt ∧ r166.toInt ≤ 1 := p167
        have j59_179 : ∀ (ls : Array Slot) (u179 : St) (H : Heap) (locs : List Loc), Un [(77, 77), (78, 78)] [] [] u163 u179 → IC u179 → Hd D (cw C A) (va_A (cw C A u) s.heap.size) s.heap u179 H locs → lv_has ls 6 [(5, .int y162d), (0, .ref (A 16)), (1, .ref (A (52 + q0))), (2, .int a1), (3, .int a2), (4, .int a3)] → W p l e (rmL 2 0 0) s m ar below meth c H locs 0 0 Q (F0 m 59 ls []) := by
          intro ls u179 H locs hUu179 hI hH hl
          obtain ⟨z181, ez181⟩ : ∃ z, z = y162d + Int32.ofInt 1 := ⟨_, rfl⟩
          have hz181 : z181.toInt = y162d.toInt + 1 := by rw [ez181]; exact tt_add rfl (by decide) (by omega) (by omega)
          refine lv_iinc (v := z181) (lv' := [(5, .int z181), (0, .ref (A 16)), (1, .ref (A (52 + q0))), (2, .int a1), (3, .int a2), (4, .int a3)]) hx hb dX4_weigh_59 hl (k := 0) rfl ez181.symm (by decide) rfl (fun ls hl => ?_)
          refine lv_goto (tgt := 13) hx hb dX4_weigh_62 (by decide) ?_
          exact ih13_163 ls z181 u179 _ _ (by have q9 := (show z181.toInt = (y162d.toInt + 1) from hz181); omega) (by have q9 := (show z181.toInt = (y162d.toInt + 1) from hz181); omega) (by have q9 := (show z181.toInt = (y162d.toInt + 1) from hz181); omega) (Un.tr hUu163 hUu179 rfl rfl rfl) hI hH hl
        refine lv_if_eq (tgt := 59) hx hb dX4_weigh_26 (by decide) (fun c168 => ?_) (fun c168 => ?_)
        · have c168 := cEQ (x := r166) (y := 0) (X := r166.toInt) (Y := 0) rfl (by decide) c168
          exact j59_179 ls u163 _ _ Un.rf hI hH hl
        · have c168 := cNE (x := r166) (y := 0) (X := r166.toInt) (Y := 0) rfl (by decide) c168
          refine lv_aload_n hx hb dX4_weigh_29 rfl (lv_at hl 1 rfl) ?_
          refine lv_dup hx hb dX4_weigh_30 rfl ?_
          refine va_get (ci := 4) (v := .int (gi u163 77)) (C := RX4) (T := TX4) (N := 4) hx hb hts (fun w h => uc_in w (inX4 w h)) hown hK hH.1 16 (cwc16 C A u163) rfl 0 (by decide) (hts _ (uc_in _ q_f367)) (fun _ h9 => h9) rfl dX4_weigh_31 ?_
          refine lv_aload_n hx hb dX4_weigh_34 rfl (lv_at hl 2 rfl) ?_
          refine lv_iload hx hb dX4_weigh_35 (lv_at hl 0 rfl) ?_
          refine va_iald hx hb hK hH.1 (52 + q0) 1 (cwp C A u163 q0 hq0) rfl (i_ix rfl (by omega) (by omega)) dX4_weigh_37 ?_
          refine p_any (fun z182 => ?_)
          refine lv_iload_n hx hb dX4_weigh_38 rfl (lv_at hl 4 rfl) ?_
          refine lv_iload hx hb dX4_weigh_39 (lv_at hl 5 rfl) ?_
          refine csS (n := 3) (As := [.int z182, .int a2, .int a3]) (rest := [.int (gi u163 77), .ref (A 16)]) ⟨hx, hb, hml, hown, hts⟩ uc_in (kX4_tenthsBy_0 l D C A u163 hI z182 z182.toInt rfl a2 A2 ha2 a3 A3 ha3) q_m1061 q_s1062 q_i10 q_c1063 hvX4_tenthsBy ⟨(Nat.le_of_ble_eq_true rfl), (Nat.le_of_ble_eq_true rfl)⟩ ⟨(Nat.le_of_ble_eq_true rfl), (Nat.le_of_ble_eq_true rfl)⟩ hK hH.1 rfl hl.1 rfl (Nat.le_of_ble_eq_true rfl) dX4_weigh_41 (fun r183 p184 => ?_)
          refine lv_imul hx hb dX4_weigh_44 ?_
          refine p_any (fun z185 => ?_)
          refine r_put (j := 77) (ci := 4) (C := RX4) (T := TX4) (N := 4) hx hb hts (fun w h => uc_in w (inX4 w h)) tyX4 tyX4_ok nmX4 hown hK hH 16 (cwc16 C A u163) rfl 0 (by decide) (hts _ (uc_in _ q_f367)) (fun _ h9 => h9) rfl (by decide +kernel) (Nat.le_of_ble_eq_true rfl) (cws77 C A u163 _) dX4_weigh_45 (fun u186 eu186 H locs hH => ?_)
          have hI := hI.pi0 eu186 rfl (by decide) (by decide)
          refine lv_aload_n hx hb dX4_weigh_48 rfl (lv_at hl 1 rfl) ?_
          refine lv_dup hx hb dX4_weigh_49 rfl ?_
          refine va_get (ci := 4) (v := .int (gi u186 78)) (C := RX4) (T := TX4) (N := 4) hx hb hts (fun w h => uc_in w (inX4 w h)) hown hK hH.1 16 (cwc16 C A u186) rfl 1 (by decide) (hts _ (uc_in _ q_f369)) (fun _ h9 => h9) rfl dX4_weigh_50 ?_
          refine lv_bipush (v := 10) hx hb dX4_weigh_53 (by decide) ?_
          refine lv_imul hx hb dX4_weigh_55 ?_
          refine p_any (fun z187 => ?_)
          refine r_put (j := 78) (ci := 4) (C := RX4) (T := TX4) (N := 4) hx hb hts (fun w h => uc_in w (inX4 w h)) tyX4 tyX4_ok nmX4 hown hK hH 16 (cwc16 C A u186) rfl 1 (by decide) (hts _ (uc_in _ q_f369)) (fun _ h9 => h9) rfl (by decide +kernel) (Nat.le_of_ble_eq_true rfl) (cws78 C A u186 _) dX4_weigh_56 (fun u188 eu188 H locs hH => ?_)
          have hI := hI.pi0 eu188 rfl (by decide) (by decide)
          exact j59_179 ls u188 _ _ (Un.si (Un.si Un.rf rfl eu186) rfl eu188) hI hH hl
  exact lp13_163 7 ls 0 u2 _ _ (by decide) (by decide) (by have q9 : (0 : Int32).toInt = 0 := (by decide); omega) Un.rf hI hH hl
set_option maxHeartbeats 4000000 in
set_option maxRecDepth 100000 in
theorem kX9_fraction_0 (l : Launch) (D : va_G) (C : Nat → ClassId) (A : Nat → Nat) (u : St) (hI : IC u) (a0 : Int32) (A0 : Int) (ha0 : a0.toInt = A0) (a1 : Int32) (A1 : Int) (ha1 : a1.toInt = A1) (a2 : Int32) (A2 : Int) (ha2 : a2.toInt = A2) : Met l yX9_fraction (uc yX9_fraction cX9_fraction 7 (some .int)) (rmL 2 0 0) (va_Pc [.int a0, .int a1, .int a2] (PreR D (tyl C) (cw C A u))) (vp_Si (fun r => True)) 0 0 (fun _ => False) := by
  refine mS (by decide) (Nat.le_of_ble_eq_true rfl) ?_
  intro p e s m below meth c ls ar Q hx hb hml hown hts hK hP hl hret
  have hown : s.vm.findClass RX9 = some m.cls := hown
  have hl : lv_has ls 7 [(0, .int a0), (1, .int a1), (2, .int a2)] := hl
  refine lv_iload_n hx hb dX9_fraction_0 rfl (lv_at hl 0 rfl) ?_
  refine va_mabs hx hb (by rw [hml]; exact hl.1.symm) hown (hts _ (uc_in _ q_m801)) (hts _ (uc_in _ q_s802)) (hts _ (uc_in _ q_i12)) (hts _ (uc_in _ q_c803)) (Nat.le_of_ble_eq_true rfl) (Nat.le_of_ble_eq_true rfl) (Nat.le_of_ble_eq_true rfl) (Nat.le_of_ble_eq_true rfl) dX9_fraction_1 ?_
  refine p_any (fun z1 => ?_)
  refine lv_istore_n (lv' := [(3, .int z1), (0, .int a0), (1, .int a1), (2, .int a2)]) hx hb dX9_fraction_4 rfl hl (by decide) rfl (fun ls hl => ?_)
  refine lv_iload_n hx hb dX9_fraction_5 rfl (lv_at hl 2 rfl) ?_
  refine lv_istore (lv' := [(4, .int a1), (3, .int z1), (0, .int a0), (1, .int a1), (2, .int a2)]) hx hb dX9_fraction_6 hl (by decide) rfl (fun ls hl => ?_)
  refine lv_iconst (v := 0) hx hb dX9_fraction_8 (by decide) ?_
  refine lv_istore (lv' := [(5, .int 0), (4, .int a1), (3, .int z1), (0, .int a0), (1, .int a1), (2, .int a2)]) hx hb dX9_fraction_9 hl (by decide) rfl (fun ls hl => ?_)
  have lp11_168 : ∀ (n11 : Nat) (ls : Array Slot) (y166d : Int32) (y167d : Int32) (y168d : Int32), 0 ≤ y166d.toInt → y166d.toInt ≤ 64 → 64 - y166d.toInt < (n11 : Int) → lv_has ls 7 [(5, .int y166d), (4, .int y167d), (3, .int y168d), (0, .int a0), (1, .int a1), (2, .int a2)] → W p l e (rmL 2 0 0) s m ar below meth c s.heap [] 0 0 Q (F0 m 11 ls []) := by
    intro n11
    induction n11 with
    | zero => intro ls y166d y167d y168d ly166d my166d hmun11 hl; exfalso; omega
    | succ n11 ih11_168 =>
      intro ls y166d y167d y168d ly166d my166d hmun11 hl
      refine lv_iload hx hb dX9_fraction_11 (lv_at hl 0 rfl) ?_
      refine lv_bipush (v := 64) hx hb dX9_fraction_13 (by decide) ?_
      have j42_178 : ∀ (ls : Array Slot), lv_has ls 7 [(3, .int y168d), (0, .int a0), (1, .int a1), (2, .int a2)] → W p l e (rmL 2 0 0) s m ar below meth c s.heap [] 0 0 Q (F0 m 42 ls []) := by
        intro ls hl
        refine lv_iload_n hx hb dX9_fraction_42 rfl (lv_at hl 0 rfl) ?_
        refine lv_iconst (v := 1) hx hb dX9_fraction_43 (by decide) ?_
        refine lv_icmp_ge (tgt := 49) hx hb dX9_fraction_44 (by decide) (fun c180 => ?_) (fun c180 => ?_)
        · have c180 := cLE (x := 1) (y := y168d) (X := 1) (Y := y168d.toInt) (by decide) rfl c180
          refine lv_iload_n hx hb dX9_fraction_49 rfl (lv_at hl 3 rfl) ?_
          refine lv_if_ne (tgt := 59) hx hb dX9_fraction_50 (by decide) (fun c181 => ?_) (fun c181 => ?_)
          · refine lv_iload_n hx hb dX9_fraction_59 rfl (lv_at hl 2 rfl) ?_
            refine lv_iload_n hx hb dX9_fraction_60 rfl (lv_at hl 0 rfl) ?_
            refine lv_idiv hx hb dX9_fraction_61 (i_ne rfl (by omega)) ?_
            refine p_any (fun z182 => ?_)
            exact hret _ _ z182 dX9_fraction_62 rfl trivial
          · have c181 := cEQ (x := a2) (y := 0) (X := A2) (Y := 0) ha2 (by decide) c181
            refine lv_iload_n hx hb dX9_fraction_53 rfl (lv_at hl 1 rfl) ?_
            refine lv_iload_n hx hb dX9_fraction_54 rfl (lv_at hl 0 rfl) ?_
            refine lv_idiv hx hb dX9_fraction_55 (i_ne rfl (by omega)) ?_
            refine p_any (fun z183 => ?_)
            refine lv_goto (tgt := 62) hx hb dX9_fraction_56 (by decide) ?_
            exact hret _ _ z183 dX9_fraction_62 rfl trivial
        · have c180 := cNLE (x := 1) (y := y168d) (X := 1) (Y := y168d.toInt) (by decide) rfl c180
          refine lv_iconst (v := 0) hx hb dX9_fraction_47 (by decide) ?_
          exact hret _ _ (0 : Int32) dX9_fraction_48 rfl trivial
      refine lv_icmp_ge (tgt := 42) hx hb dX9_fraction_15 (by decide) (fun c170 => ?_) (fun c170 => ?_)
      · have c170 := cLE (x := 64) (y := y166d) (X := 64) (Y := y166d.toInt) (by decide) rfl c170
        exact j42_178 ls (lv_sub hl [2, 3, 4, 5] rfl)
      · have c170 := cNLE (x := 64) (y := y166d) (X := 64) (Y := y166d.toInt) (by decide) rfl c170
        refine lv_iload hx hb dX9_fraction_18 (lv_at hl 1 rfl) ?_
        refine lv_if_le (tgt := 42) hx hb dX9_fraction_20 (by decide) (fun c184 => ?_) (fun c184 => ?_)
        · have c184 := cLE (x := y167d) (y := 0) (X := y167d.toInt) (Y := 0) rfl (by decide) c184
          exact j42_178 ls (lv_sub hl [2, 3, 4, 5] rfl)
        · have c184 := cNLE (x := y167d) (y := 0) (X := y167d.toInt) (Y := 0) rfl (by decide) c184
          refine lv_iload_n hx hb dX9_fraction_23 rfl (lv_at hl 2 rfl) ?_
          refine lv_iload hx hb dX9_fraction_24 (lv_at hl 1 rfl) ?_
          refine lv_irem hx hb dX9_fraction_26 (i_ne rfl (by omega)) ?_
          refine p_any (fun z185 => ?_)
          refine lv_istore (lv' := [(6, .int z185), (5, .int y166d), (4, .int y167d), (3, .int y168d), (0, .int a0), (1, .int a1), (2, .int a2)]) hx hb dX9_fraction_27 hl (by decide) rfl (fun ls hl => ?_)
          refine lv_iload hx hb dX9_fraction_29 (lv_at hl 2 rfl) ?_
          refine lv_istore_n (lv' := [(3, .int y167d), (6, .int z185), (5, .int y166d), (4, .int y167d), (0, .int a0), (1, .int a1), (2, .int a2)]) hx hb dX9_fraction_31 rfl hl (by decide) rfl (fun ls hl => ?_)
          refine lv_iload hx hb dX9_fraction_32 (lv_at hl 1 rfl) ?_
          refine lv_istore (lv' := [(4, .int z185), (3, .int y167d), (6, .int z185), (5, .int y166d), (0, .int a0), (1, .int a1), (2, .int a2)]) hx hb dX9_fraction_34 hl (by decide) rfl (fun ls hl => ?_)
          obtain ⟨z186, ez186⟩ : ∃ z, z = y166d + Int32.ofInt 1 := ⟨_, rfl⟩
          have hz186 : z186.toInt = y166d.toInt + 1 := by rw [ez186]; exact tt_add rfl (by decide) (by omega) (by omega)
          refine lv_iinc (v := z186) (lv' := [(5, .int z186), (4, .int z185), (3, .int y167d), (6, .int z185), (0, .int a0), (1, .int a1), (2, .int a2)]) hx hb dX9_fraction_36 hl (k := 3) rfl ez186.symm (by decide) rfl (fun ls hl => ?_)
          refine lv_goto (tgt := 11) hx hb dX9_fraction_39 (by decide) ?_
          exact ih11_168 ls z186 z185 y167d (by have q9 := (show z186.toInt = (y166d.toInt + 1) from hz186); omega) (by have q9 := (show z186.toInt = (y166d.toInt + 1) from hz186); omega) (by have q9 := (show z186.toInt = (y166d.toInt + 1) from hz186); omega) (lv_sub hl [0, 1, 2, 4, 5, 6] rfl)
  exact lp11_168 65 ls 0 a1 z1 (by decide) (by decide) (by have q9 : (0 : Int32).toInt = 0 := (by decide); omega) hl
set_option maxHeartbeats 4000000 in
set_option maxRecDepth 100000 in
theorem kX9_chance_0 (l : Launch) (D : va_G) (C : Nat → ClassId) (A : Nat → Nat) (u : St) (hI : IC u) (a0 : Int32) (A0 : Int) (ha0 : a0.toInt = A0) (a1 : Int32) (A1 : Int) (ha1 : a1.toInt = A1) (a2 : Int32) (A2 : Int) (ha2 : a2.toInt = A2) (sz : Nat) : MetI l yX9_chance cX9_chance 4 (some .int) 3 [.ref (A 0), .int a0, .int a1, .int a2] D (tyl C) (cw C A) X0 u sz (fun r u' => IC u' ∧ Un [(77, 77), (78, 78)] [] [] u u' ∧ (True)) := by
  refine mI (by decide) (Nat.le_of_ble_eq_true rfl) ?_
  intro p e s m below meth c ls ar Q hx hb hml hown hts hK hH hX hl hret
  have hown : s.vm.findClass RX9 = some m.cls := hown
  have hl : lv_has ls 4 [(0, .ref (A 0)), (1, .int a0), (2, .int a1), (3, .int a2)] := hl
  refine lv_aload_n hx hb dX9_chance_0 rfl (lv_at hl 0 rfl) ?_
  refine lv_iload_n hx hb dX9_chance_1 rfl (lv_at hl 1 rfl) ?_
  refine cvS (n := 1) (As := [.int a0]) (rest := []) ⟨hx, hb, hml, hown, hts⟩ uc_in (kX9_isDay_0 l D C A u hI a0 A0 ha0) q_m597 q_n599 q_p12 q_i1 q_c600 hvX9_isDay ⟨(Nat.le_of_ble_eq_true rfl), (Nat.le_of_ble_eq_true rfl)⟩ ⟨(Nat.le_of_ble_eq_true rfl), (Nat.le_of_ble_eq_true rfl)⟩ hK hH.1 9 0 rfl (cwc0 C A u) rfl hl.1 rfl (Nat.le_of_ble_eq_true rfl) dX9_chance_2 (fun r1 p2 => ?_)
  rcases p2 with ⟨e9, f3, f4⟩ | e9
  · subst e9
    have b6 := hI.b48
    refine lv_if_eq (tgt := 24) hx hb dX9_chance_5 (by decide) (fun c7 => absurd c7 (by decide)) (fun c7 => ?_)
    refine lv_iload_n hx hb dX9_chance_8 rfl (lv_at hl 2 rfl) ?_
    refine csS (n := 1) (As := [.int a1]) (rest := []) ⟨hx, hb, hml, hown, hts⟩ uc_in (kX9_isMinute_0 l D C A u hI a1 A1 ha1) q_m762 q_s763 q_i1 q_c764 hvX9_isMinute ⟨(Nat.le_of_ble_eq_true rfl), (Nat.le_of_ble_eq_true rfl)⟩ ⟨(Nat.le_of_ble_eq_true rfl), (Nat.le_of_ble_eq_true rfl)⟩ hK hH.1 rfl hl.1 rfl (Nat.le_of_ble_eq_true rfl) dX9_chance_9 (fun r8 p9 => ?_)
    rcases p9 with ⟨e9, f10, f11⟩ | e9
    · subst e9
      refine lv_if_eq (tgt := 24) hx hb dX9_chance_12 (by decide) (fun c12 => absurd c12 (by decide)) (fun c12 => ?_)
      refine lv_iload_n hx hb dX9_chance_15 rfl (lv_at hl 3 rfl) ?_
      refine lv_iconst (v := 0) hx hb dX9_chance_16 (by decide) ?_
      refine lv_iconst (v := 1) hx hb dX9_chance_17 (by decide) ?_
      refine csS (n := 3) (As := [.int a2, .int 0, .int 1]) (rest := []) ⟨hx, hb, hml, hown, hts⟩ uc_in (kX9_isWithin_0 l D C A u hI a2 A2 ha2 (0) 0 (by decide) (1) 1 (by decide)) q_m651 q_s652 q_i1 q_c653 hvX9_isWithin ⟨(Nat.le_of_ble_eq_true rfl), (Nat.le_of_ble_eq_true rfl)⟩ ⟨(Nat.le_of_ble_eq_true rfl), (Nat.le_of_ble_eq_true rfl)⟩ hK hH.1 rfl hl.1 rfl (Nat.le_of_ble_eq_true rfl) dX9_chance_18 (fun r13 p14 => ?_)
      rcases p14 with ⟨e9, f15, f16⟩ | ⟨e9, fn17⟩
      · subst e9
        refine lv_if_ne (tgt := 27) hx hb dX9_chance_21 (by decide) (fun c18 => ?_) (fun c18 => absurd c18 (by decide))
        refine lv_aload_n hx hb dX9_chance_27 rfl (lv_at hl 0 rfl) ?_
        refine va_get (ci := 9) (v := .ref (A 16)) (C := RX9) (T := TX9) (N := 12) hx hb hts (fun w h => uc_in w (inX9 w h)) hown hK hH.1 0 (cwc0 C A u) rfl 11 (by decide) (hts _ (uc_in _ q_f394)) (fun _ h9 => h9) rfl dX9_chance_28 ?_
        refine lv_aload_n hx hb dX9_chance_31 rfl (lv_at hl 0 rfl) ?_
        refine va_get (ci := 9) (v := .ref (A 7)) (C := RX9) (T := TX9) (N := 12) hx hb hts (fun w h => uc_in w (inX9 w h)) hown hK hH.1 0 (cwc0 C A u) rfl 5 (by decide) (hts _ (uc_in _ q_f388)) (fun _ h9 => h9) rfl dX9_chance_32 ?_
        refine va_get (ci := 5) (v := .ref (A 19)) (C := RX5) (T := TX5) (N := 4) hx hb hts (fun w h => uc_in w (inX5 w h)) hown hK hH.1 7 (cwc7 C A u) rfl 2 (by decide) (hts _ (uc_in _ q_f171)) (fun _ h9 => h9) rfl dX9_chance_35 ?_
        refine lv_iload_n hx hb dX9_chance_38 rfl (lv_at hl 1 rfl) ?_
        refine r_aald hx hb hK hH.1 19 6 rfl (cwc19 C A u) rfl (i_ix ha0 (by omega) (by omega)) dX9_chance_39 ?_
        obtain ⟨k19, hk19, ek19⟩ : ∃ k : Nat, (k : Int) = 32 + A0 ∧ k = 32 + Int32.toNatClampNeg a0 := ⟨_, by have q9 := i_cl (x := a0) (X := A0) ha0 (by omega); omega, rfl⟩
        refine pv_v (v := .ref (A (52 + k19))) (by rw [ek19]; rfl) ?_
        refine lv_aload_n hx hb dX9_chance_40 rfl (lv_at hl 0 rfl) ?_
        refine va_get (ci := 9) (v := .ref (A 7)) (C := RX9) (T := TX9) (N := 12) hx hb hts (fun w h => uc_in w (inX9 w h)) hown hK hH.1 0 (cwc0 C A u) rfl 5 (by decide) (hts _ (uc_in _ q_f388)) (fun _ h9 => h9) rfl dX9_chance_41 ?_
        refine va_get (ci := 5) (v := .ref (A 38)) (C := RX5) (T := TX5) (N := 4) hx hb hts (fun w h => uc_in w (inX5 w h)) hown hK hH.1 7 (cwc7 C A u) rfl 3 (by decide) (hts _ (uc_in _ q_f175)) (fun _ h9 => h9) rfl dX9_chance_44 ?_
        refine lv_iload_n hx hb dX9_chance_47 rfl (lv_at hl 1 rfl) ?_
        refine va_iald hx hb hK hH.1 38 1 (cwc38 C A u) rfl (i_ix ha0 (by omega) (by omega)) dX9_chance_48 ?_
        refine p_any (fun z20 => ?_)
        refine lv_aload_n hx hb dX9_chance_49 rfl (lv_at hl 0 rfl) ?_
        refine va_get (ci := 9) (v := .ref (A 2)) (C := RX9) (T := TX9) (N := 12) hx hb hts (fun w h => uc_in w (inX9 w h)) hown hK hH.1 0 (cwc0 C A u) rfl 1 (by decide) (hts _ (uc_in _ q_f384)) (fun _ h9 => h9) rfl dX9_chance_50 ?_
        refine va_get (ci := 7) (v := .int (gi u 11)) (C := RX7) (T := TX7) (N := 16) hx hb hts (fun w h => uc_in w (inX7 w h)) hown hK hH.1 2 (cwc2 C A u) rfl 3 (by decide) (hts _ (uc_in _ q_f80)) (fun _ h9 => h9) rfl dX9_chance_53 ?_
        refine lv_iload_n hx hb dX9_chance_56 rfl (lv_at hl 2 rfl) ?_
        refine cvU (n := 4) (As := [.ref (A (52 + k19)), .int z20, .int (gi u 11), .int a1]) (rest := []) ⟨hx, hb, hml, hown, hts⟩ uc_in (kX4_weigh_0 l D C A u hI k19 (by omega) z20 z20.toInt rfl (gi u 11) (((gi u 11)).toInt) rfl a1 A1 ha1 _) q_m1056 q_n1057 q_e1058 q_i10 q_c1059 hvX4_weigh ⟨(Nat.le_of_ble_eq_true rfl), (Nat.le_of_ble_eq_true rfl)⟩ ⟨(Nat.le_of_ble_eq_true rfl), (Nat.le_of_ble_eq_true rfl)⟩ hK hH (fun q h => Or.inr h) Bl0 (fun _ _ _ => trivial) 4 16 rfl (cwc16 C A u) rfl hl.1 rfl (Nat.le_of_ble_eq_true rfl) dX9_chance_57 (fun u21 H locs p23 hH => ?_)
        obtain ⟨hI, hUu21, p23⟩ := p23
        refine lv_aload_n hx hb dX9_chance_60 rfl (lv_at hl 0 rfl) ?_
        refine va_get (ci := 9) (v := .ref (A 16)) (C := RX9) (T := TX9) (N := 12) hx hb hts (fun w h => uc_in w (inX9 w h)) hown hK hH.1 0 (cwc0 C A u21) rfl 11 (by decide) (hts _ (uc_in _ q_f394)) (fun _ h9 => h9) rfl dX9_chance_61 ?_
        refine va_get (ci := 4) (v := .int (gi u21 77)) (C := RX4) (T := TX4) (N := 4) hx hb hts (fun w h => uc_in w (inX4 w h)) hown hK hH.1 16 (cwc16 C A u21) rfl 0 (by decide) (hts _ (uc_in _ q_f368)) (fun _ h9 => h9) rfl dX9_chance_64 ?_
        refine lv_aload_n hx hb dX9_chance_67 rfl (lv_at hl 0 rfl) ?_
        refine va_get (ci := 9) (v := .ref (A 16)) (C := RX9) (T := TX9) (N := 12) hx hb hts (fun w h => uc_in w (inX9 w h)) hown hK hH.1 0 (cwc0 C A u21) rfl 11 (by decide) (hts _ (uc_in _ q_f394)) (fun _ h9 => h9) rfl dX9_chance_68 ?_
        refine va_get (ci := 4) (v := .int (gi u21 78)) (C := RX4) (T := TX4) (N := 4) hx hb hts (fun w h => uc_in w (inX4 w h)) hown hK hH.1 16 (cwc16 C A u21) rfl 1 (by decide) (hts _ (uc_in _ q_f370)) (fun _ h9 => h9) rfl dX9_chance_71 ?_
        refine lv_iload_n hx hb dX9_chance_74 rfl (lv_at hl 3 rfl) ?_
        refine csS (n := 3) (As := [.int (gi u21 77), .int (gi u21 78), .int a2]) (rest := []) ⟨hx, hb, hml, hown, hts⟩ uc_in (kX9_fraction_0 l D C A u21 hI (gi u21 77) (((gi u21 77)).toInt) rfl (gi u21 78) (((gi u21 78)).toInt) rfl a2 A2 ha2) q_m798 q_s799 q_i1 q_c800 hvX9_fraction ⟨(Nat.le_of_ble_eq_true rfl), (Nat.le_of_ble_eq_true rfl)⟩ ⟨(Nat.le_of_ble_eq_true rfl), (Nat.le_of_ble_eq_true rfl)⟩ hK hH.1 rfl hl.1 rfl (Nat.le_of_ble_eq_true rfl) dX9_chance_75 (fun r24 p25 => ?_)
        exact hret _ _ _ _ r24 _ dX9_chance_78 rfl ⟨hI, (Un.tr Un.rf hUu21 rfl rfl rfl), trivial⟩ hH
      · subst e9
        refine lv_if_ne (tgt := 27) hx hb dX9_chance_21 (by decide) (fun c26 => absurd c26 (by decide)) (fun c26 => ?_)
        refine lv_bipush (v := (-2)) hx hb dX9_chance_24 (by decide) ?_
        exact hret _ _ _ _ ((-2) : Int32) _ dX9_chance_26 rfl ⟨hI, Un.rf, trivial⟩ hH
    · subst e9
      refine lv_if_eq (tgt := 24) hx hb dX9_chance_12 (by decide) (fun c27 => ?_) (fun c27 => absurd c27 (by decide))
      refine lv_bipush (v := (-2)) hx hb dX9_chance_24 (by decide) ?_
      exact hret _ _ _ _ ((-2) : Int32) _ dX9_chance_26 rfl ⟨hI, Un.rf, trivial⟩ hH
  · subst e9
    refine lv_if_eq (tgt := 24) hx hb dX9_chance_5 (by decide) (fun c28 => ?_) (fun c28 => absurd c28 (by decide))
    refine lv_bipush (v := (-2)) hx hb dX9_chance_24 (by decide) ?_
    exact hret _ _ _ _ ((-2) : Int32) _ dX9_chance_26 rfl ⟨hI, Un.rf, trivial⟩ hH
set_option maxHeartbeats 4000000 in
set_option maxRecDepth 100000 in
theorem kX5_strikes_0 (l : Launch) (D : va_G) (C : Nat → ClassId) (A : Nat → Nat) (u : St) (hI : IC u) (a0 : Int32) (A0 : Int) (ha0 : a0.toInt = A0) (a1 : Int32) (A1 : Int) (ha1 : a1.toInt = A1) (hl0 : 0 ≤ A0) (hm0 : A0 ≤ 5) (hl1 : 0 ≤ A1) (hm1 : A1 ≤ 6) : Met l yX5_strikes (uc yX5_strikes cX5_strikes 3 (some .boolean)) (rmL 3 0 0) (va_Pc [.ref (A 7), .int a0, .int a1] (PreR D (tyl C) (cw C A u))) (vp_Si (fun r => 0 ≤ r.toInt ∧ r.toInt ≤ 1)) 0 0 (fun _ => False) := by
  refine mS (by decide) (Nat.le_of_ble_eq_true rfl) ?_
  intro p e s m below meth c ls ar Q hx hb hml hown hts hK hP hl hret
  have hown : s.vm.findClass RX5 = some m.cls := hown
  have hl : lv_has ls 3 [(0, .ref (A 7)), (1, .int a0), (2, .int a1)] := hl
  refine lv_aload_n hx hb dX5_strikes_0 rfl (lv_at hl 0 rfl) ?_
  refine lv_iload_n hx hb dX5_strikes_1 rfl (lv_at hl 1 rfl) ?_
  refine lv_iload_n hx hb dX5_strikes_2 rfl (lv_at hl 2 rfl) ?_
  refine cvS (n := 2) (As := [.int a0, .int a1]) (rest := []) ⟨hx, hb, hml, hown, hts⟩ uc_in (kX5_isAlive_0 l D C A u hI a0 A0 ha0 a1 A1 ha1 (by omega) (by omega)) q_m636 q_n637 q_e638 q_i4 q_c639 hvX5_isAlive ⟨(Nat.le_of_ble_eq_true rfl), (Nat.le_of_ble_eq_true rfl)⟩ ⟨(Nat.le_of_ble_eq_true rfl), (Nat.le_of_ble_eq_true rfl)⟩ hK hP 5 7 rfl (cwc7 C A u) rfl hl.1 rfl (Nat.le_of_ble_eq_true rfl) dX5_strikes_3 (fun r1 p2 => ?_)
  have p2 : 0 ≤ r1.toInt ∧ r1.toInt ≤ 1 := p2
  refine lv_if_eq (tgt := 27) hx hb dX5_strikes_6 (by decide) (fun c3 => ?_) (fun c3 => ?_)
  · have c3 := cEQ (x := r1) (y := 0) (X := r1.toInt) (Y := 0) rfl (by decide) c3
    refine lv_iconst (v := 0) hx hb dX5_strikes_27 (by decide) ?_
    exact hret _ _ (0 : Int32) dX5_strikes_28 rfl ⟨by decide, by decide⟩
  · have c3 := cNE (x := r1) (y := 0) (X := r1.toInt) (Y := 0) rfl (by decide) c3
    refine lv_aload_n hx hb dX5_strikes_9 rfl (lv_at hl 0 rfl) ?_
    refine va_get (ci := 5) (v := .ref (A 19)) (C := RX5) (T := TX5) (N := 4) hx hb hts (fun w h => uc_in w (inX5 w h)) hown hK hP 7 (cwc7 C A u) rfl 2 (by decide) (hts _ (uc_in _ q_f168)) (fun _ h9 => h9) rfl dX5_strikes_10 ?_
    refine lv_iload_n hx hb dX5_strikes_13 rfl (lv_at hl 2 rfl) ?_
    refine r_aald hx hb hK hP 19 6 rfl (cwc19 C A u) rfl (i_ix ha1 (by omega) (by omega)) dX5_strikes_14 ?_
    obtain ⟨k4, hk4, ek4⟩ : ∃ k : Nat, (k : Int) = 32 + A1 ∧ k = 32 + Int32.toNatClampNeg a1 := ⟨_, by have q9 := i_cl (x := a1) (X := A1) ha1 (by omega); omega, rfl⟩
    refine pv_v (v := .ref (A (52 + k4))) (by rw [ek4]; rfl) ?_
    refine lv_iload_n hx hb dX5_strikes_15 rfl (lv_at hl 1 rfl) ?_
    refine va_iald hx hb hK hP (52 + k4) 1 (cwp C A u k4 (by omega)) rfl (i_ix ha0 (by omega) (by omega)) dX5_strikes_16 ?_
    refine p_any (fun z5 => ?_)
    refine lv_sipush (v := 10000) hx hb dX5_strikes_17 (by decide) ?_
    refine lv_icmp_eq (tgt := 27) hx hb dX5_strikes_20 (by decide) (fun c6 => ?_) (fun c6 => ?_)
    · have c6 := cEQ (x := z5) (y := 10000) (X := z5.toInt) (Y := 10000) rfl (by decide) c6
      refine lv_iconst (v := 0) hx hb dX5_strikes_27 (by decide) ?_
      exact hret _ _ (0 : Int32) dX5_strikes_28 rfl ⟨by decide, by decide⟩
    · refine lv_iconst (v := 1) hx hb dX5_strikes_23 (by decide) ?_
      refine lv_goto (tgt := 28) hx hb dX5_strikes_24 (by decide) ?_
      exact hret _ _ (1 : Int32) dX5_strikes_28 rfl ⟨by decide, by decide⟩
set_option maxHeartbeats 4000000 in
set_option maxRecDepth 100000 in
theorem kX5_together_0 (l : Launch) (D : va_G) (C : Nat → ClassId) (A : Nat → Nat) (u : St) (hI : IC u) (a0 : Int32) (A0 : Int) (ha0 : a0.toInt = A0) (a1 : Int32) (A1 : Int) (ha1 : a1.toInt = A1) (hl0 : 0 ≤ A0) (hm0 : A0 ≤ 5) (hl1 : 0 ≤ A1) (hm1 : A1 ≤ 6) : Met l yX5_together (uc yX5_together cX5_together 5 (some .int)) (rmL 3 0 0) (va_Pc [.ref (A 7), .int a0, .int a1] (PreR D (tyl C) (cw C A u))) (vp_Si (fun r => 0 ≤ r.toInt ∧ r.toInt ≤ 63)) 0 0 (fun _ => False) := by
  refine mS (by decide) (Nat.le_of_ble_eq_true rfl) ?_
  intro p e s m below meth c ls ar Q hx hb hml hown hts hK hP hl hret
  have hown : s.vm.findClass RX5 = some m.cls := hown
  have hl : lv_has ls 5 [(0, .ref (A 7)), (1, .int a0), (2, .int a1)] := hl
  refine lv_iconst (v := 0) hx hb dX5_together_0 (by decide) ?_
  refine lv_istore_n (lv' := [(3, .int 0), (0, .ref (A 7)), (1, .int a0), (2, .int a1)]) hx hb dX5_together_1 rfl hl (by decide) rfl (fun ls hl => ?_)
  refine lv_iconst (v := 0) hx hb dX5_together_2 (by decide) ?_
  refine lv_istore (lv' := [(4, .int 0), (3, .int 0), (0, .ref (A 7)), (1, .int a0), (2, .int a1)]) hx hb dX5_together_3 hl (by decide) rfl (fun ls hl => ?_)
  have lp5_90 : ∀ (n5 : Nat) (ls : Array Slot) (y89d : Int32) (y90d : Int32), 0 ≤ y89d.toInt → y89d.toInt ≤ 6 → 0 ≤ y90d.toInt → y90d.toInt ≤ 63 → 6 - y89d.toInt < (n5 : Int) → lv_has ls 5 [(4, .int y89d), (3, .int y90d), (0, .ref (A 7)), (1, .int a0), (2, .int a1)] → W p l e (rmL 3 0 0) s m ar below meth c s.heap [] 0 0 Q (F0 m 5 ls []) := by
    intro n5
    induction n5 with
    | zero => intro ls y89d y90d ly89d my89d ly90d my90d hmun5 hl; exfalso; omega
    | succ n5 ih5_90 =>
      intro ls y89d y90d ly89d my89d ly90d my90d hmun5 hl
      refine lv_iload hx hb dX5_together_5 (lv_at hl 0 rfl) ?_
      refine lv_bipush (v := 6) hx hb dX5_together_7 (by decide) ?_
      refine lv_icmp_ge (tgt := 55) hx hb dX5_together_9 (by decide) (fun c92 => ?_) (fun c92 => ?_)
      · have c92 := cLE (x := 6) (y := y89d) (X := 6) (Y := y89d.toInt) (by decide) rfl c92
        refine lv_iload_n hx hb dX5_together_55 rfl (lv_at hl 1 rfl) ?_
        exact hret _ _ y90d dX5_together_56 rfl ⟨by omega, by omega⟩
      · have c92 := cNLE (x := 6) (y := y89d) (X := 6) (Y := y89d.toInt) (by decide) rfl c92
        refine lv_aload_n hx hb dX5_together_12 rfl (lv_at hl 2 rfl) ?_
        refine lv_iload hx hb dX5_together_13 (lv_at hl 0 rfl) ?_
        refine lv_iload_n hx hb dX5_together_15 rfl (lv_at hl 4 rfl) ?_
        refine cvS (n := 2) (As := [.int y89d, .int a1]) (rest := []) ⟨hx, hb, hml, hown, hts⟩ uc_in (kX5_isAlive_0 l D C A u hI y89d y89d.toInt rfl a1 A1 ha1 (by omega) (by omega)) q_m636 q_n637 q_e638 q_i4 q_c639 hvX5_isAlive ⟨(Nat.le_of_ble_eq_true rfl), (Nat.le_of_ble_eq_true rfl)⟩ ⟨(Nat.le_of_ble_eq_true rfl), (Nat.le_of_ble_eq_true rfl)⟩ hK hP 5 7 rfl (cwc7 C A u) rfl hl.1 rfl (Nat.le_of_ble_eq_true rfl) dX5_together_16 (fun r93 p94 => ?_)
        have p94 : 0 ≤ r93.toInt ∧ r93.toInt ≤ 1 := p94
        have j49_107 : ∀ (ls : Array Slot) (y105d : Int32), 0 ≤ y105d.toInt → y105d.toInt ≤ 63 → lv_has ls 5 [(4, .int y89d), (3, .int y105d), (0, .ref (A 7)), (1, .int a0), (2, .int a1)] → W p l e (rmL 3 0 0) s m ar below meth c s.heap [] 0 0 Q (F0 m 49 ls []) := by
          intro ls y105d ly105d my105d hl
          obtain ⟨z109, ez109⟩ : ∃ z, z = y89d + Int32.ofInt 1 := ⟨_, rfl⟩
          have hz109 : z109.toInt = y89d.toInt + 1 := by rw [ez109]; exact tt_add rfl (by decide) (by omega) (by omega)
          refine lv_iinc (v := z109) (lv' := [(4, .int z109), (3, .int y105d), (0, .ref (A 7)), (1, .int a0), (2, .int a1)]) hx hb dX5_together_49 hl (k := 0) rfl ez109.symm (by decide) rfl (fun ls hl => ?_)
          refine lv_goto (tgt := 5) hx hb dX5_together_52 (by decide) ?_
          exact ih5_90 ls z109 y105d (by have q9 := (show z109.toInt = (y89d.toInt + 1) from hz109); omega) (by have q9 := (show z109.toInt = (y89d.toInt + 1) from hz109); omega) (by omega) (by omega) (by have q9 := (show z109.toInt = (y89d.toInt + 1) from hz109); omega) hl
        refine lv_if_eq (tgt := 49) hx hb dX5_together_19 (by decide) (fun c95 => ?_) (fun c95 => ?_)
        · have c95 := cEQ (x := r93) (y := 0) (X := r93.toInt) (Y := 0) rfl (by decide) c95
          exact j49_107 ls y90d (by omega) (by omega) hl
        · have c95 := cNE (x := r93) (y := 0) (X := r93.toInt) (Y := 0) rfl (by decide) c95
          refine lv_aload_n hx hb dX5_together_22 rfl (lv_at hl 2 rfl) ?_
          refine va_get (ci := 5) (v := .ref (A 19)) (C := RX5) (T := TX5) (N := 4) hx hb hts (fun w h => uc_in w (inX5 w h)) hown hK hP 7 (cwc7 C A u) rfl 2 (by decide) (hts _ (uc_in _ q_f168)) (fun _ h9 => h9) rfl dX5_together_23 ?_
          refine lv_iload_n hx hb dX5_together_26 rfl (lv_at hl 4 rfl) ?_
          refine r_aald hx hb hK hP 19 6 rfl (cwc19 C A u) rfl (i_ix ha1 (by omega) (by omega)) dX5_together_27 ?_
          obtain ⟨k110, hk110, ek110⟩ : ∃ k : Nat, (k : Int) = 32 + A1 ∧ k = 32 + Int32.toNatClampNeg a1 := ⟨_, by have q9 := i_cl (x := a1) (X := A1) ha1 (by omega); omega, rfl⟩
          refine pv_v (v := .ref (A (52 + k110))) (by rw [ek110]; rfl) ?_
          refine lv_iload hx hb dX5_together_28 (lv_at hl 0 rfl) ?_
          refine va_iald hx hb hK hP (52 + k110) 1 (cwp C A u k110 (by omega)) rfl (i_ix rfl (by omega) (by omega)) dX5_together_30 ?_
          refine p_any (fun z111 => ?_)
          refine lv_aload_n hx hb dX5_together_31 rfl (lv_at hl 2 rfl) ?_
          refine va_get (ci := 5) (v := .ref (A 19)) (C := RX5) (T := TX5) (N := 4) hx hb hts (fun w h => uc_in w (inX5 w h)) hown hK hP 7 (cwc7 C A u) rfl 2 (by decide) (hts _ (uc_in _ q_f168)) (fun _ h9 => h9) rfl dX5_together_32 ?_
          refine lv_iload_n hx hb dX5_together_35 rfl (lv_at hl 4 rfl) ?_
          refine r_aald hx hb hK hP 19 6 rfl (cwc19 C A u) rfl (i_ix ha1 (by omega) (by omega)) dX5_together_36 ?_
          obtain ⟨k112, hk112, ek112⟩ : ∃ k : Nat, (k : Int) = 32 + A1 ∧ k = 32 + Int32.toNatClampNeg a1 := ⟨_, by have q9 := i_cl (x := a1) (X := A1) ha1 (by omega); omega, rfl⟩
          refine pv_v (v := .ref (A (52 + k112))) (by rw [ek112]; rfl) ?_
          refine lv_iload_n hx hb dX5_together_37 rfl (lv_at hl 3 rfl) ?_
          refine va_iald hx hb hK hP (52 + k112) 1 (cwp C A u k112 (by omega)) rfl (i_ix ha0 (by omega) (by omega)) dX5_together_38 ?_
          refine p_any (fun z113 => ?_)
          refine lv_icmp_ne (tgt := 49) hx hb dX5_together_39 (by decide) (fun c114 => ?_) (fun c114 => ?_)
          · exact j49_107 ls y90d (by omega) (by omega) hl
          · have c114 := cEQ (x := z111) (y := z113) (X := z111.toInt) (Y := z113.toInt) rfl rfl c114
            refine lv_iload_n hx hb dX5_together_42 rfl (lv_at hl 1 rfl) ?_
            refine lv_iconst (v := 1) hx hb dX5_together_43 (by decide) ?_
            refine lv_iload hx hb dX5_together_44 (lv_at hl 0 rfl) ?_
            refine lv_ishl hx hb dX5_together_46 ?_
            have gz115 := tt_shl1 (y := y89d) (Y := y89d.toInt) rfl (by omega) (by omega)
            refine p_bd (P := fun q => 1 ≤ q ∧ q ≤ 32) ⟨by omega, by omega⟩ (fun z116 bz116 => ?_)
            have bz116 : 1 ≤ z116.toInt ∧ z116.toInt ≤ 32 := bz116
            refine lv_ior hx hb dX5_together_47 ?_
            have gz117 := tt_or (x := y90d) (y := z116) (X := y90d.toInt) (Y := z116.toInt) rfl rfl 6 (by decide) (by omega) (by omega) (by omega) (by omega)
            refine p_bd (P := fun q => 0 ≤ q ∧ q ≤ 63) ⟨by omega, by omega⟩ (fun z118 bz118 => ?_)
            have bz118 : 0 ≤ z118.toInt ∧ z118.toInt ≤ 63 := bz118
            refine lv_istore_n (lv' := [(3, .int z118), (4, .int y89d), (0, .ref (A 7)), (1, .int a0), (2, .int a1)]) hx hb dX5_together_48 rfl hl (by decide) rfl (fun ls hl => ?_)
            exact j49_107 ls z118 (by omega) (by omega) (lv_sub hl [1, 0, 2, 3, 4] rfl)
  exact lp5_90 7 ls 0 0 (by decide) (by decide) (by decide) (by decide) (by have q9 : (0 : Int32).toInt = 0 := (by decide); omega) hl
set_option maxHeartbeats 4000000 in
set_option maxRecDepth 100000 in
theorem kX9_chorus_0 (l : Launch) (D : va_G) (C : Nat → ClassId) (A : Nat → Nat) (u : St) (hI : IC u) (a0 : Int32) (A0 : Int) (ha0 : a0.toInt = A0) : Met l yX9_chorus (uc yX9_chorus cX9_chorus 4 (some .int)) (rmL 4 0 0) (va_Pc [.ref (A 0), .int a0] (PreR D (tyl C) (cw C A u))) (vp_Si (fun r => (-2) ≤ r.toInt ∧ r.toInt ≤ 63)) 0 0 (fun _ => False) := by
  refine mS (by decide) (Nat.le_of_ble_eq_true rfl) ?_
  intro p e s m below meth c ls ar Q hx hb hml hown hts hK hP hl hret
  have hown : s.vm.findClass RX9 = some m.cls := hown
  have hl : lv_has ls 4 [(0, .ref (A 0)), (1, .int a0)] := hl
  refine lv_aload_n hx hb dX9_chorus_0 rfl (lv_at hl 0 rfl) ?_
  refine lv_iload_n hx hb dX9_chorus_1 rfl (lv_at hl 1 rfl) ?_
  refine cvS (n := 1) (As := [.int a0]) (rest := []) ⟨hx, hb, hml, hown, hts⟩ uc_in (kX9_isDay_0 l D C A u hI a0 A0 ha0) q_m597 q_n599 q_p12 q_i1 q_c600 hvX9_isDay ⟨(Nat.le_of_ble_eq_true rfl), (Nat.le_of_ble_eq_true rfl)⟩ ⟨(Nat.le_of_ble_eq_true rfl), (Nat.le_of_ble_eq_true rfl)⟩ hK hP 9 0 rfl (cwc0 C A u) rfl hl.1 rfl (Nat.le_of_ble_eq_true rfl) dX9_chorus_2 (fun r1 p2 => ?_)
  rcases p2 with ⟨e9, f3, f4⟩ | e9
  · subst e9
    have b6 := hI.b48
    refine lv_if_ne (tgt := 11) hx hb dX9_chorus_5 (by decide) (fun c7 => ?_) (fun c7 => absurd c7 (by decide))
    refine lv_iconst (v := 0) hx hb dX9_chorus_11 (by decide) ?_
    refine lv_istore_n (lv' := [(2, .int 0), (0, .ref (A 0)), (1, .int a0)]) hx hb dX9_chorus_12 rfl hl (by decide) rfl (fun ls hl => ?_)
    refine lv_iconst (v := 0) hx hb dX9_chorus_13 (by decide) ?_
    refine lv_istore_n (lv' := [(3, .int 0), (2, .int 0), (0, .ref (A 0)), (1, .int a0)]) hx hb dX9_chorus_14 rfl hl (by decide) rfl (fun ls hl => ?_)
    have lp15_81 : ∀ (n15 : Nat) (ls : Array Slot) (y80d : Int32) (y81d : Int32), 0 ≤ y80d.toInt → y80d.toInt ≤ 6 → 0 ≤ y81d.toInt → y81d.toInt ≤ 63 → 6 - y80d.toInt < (n15 : Int) → lv_has ls 4 [(3, .int y80d), (2, .int y81d), (0, .ref (A 0)), (1, .int a0)] → W p l e (rmL 4 0 0) s m ar below meth c s.heap [] 0 0 Q (F0 m 15 ls []) := by
      intro n15
      induction n15 with
      | zero => intro ls y80d y81d ly80d my80d ly81d my81d hmun15 hl; exfalso; omega
      | succ n15 ih15_81 =>
        intro ls y80d y81d ly80d my80d ly81d my81d hmun15 hl
        refine lv_iload_n hx hb dX9_chorus_15 rfl (lv_at hl 0 rfl) ?_
        refine lv_bipush (v := 6) hx hb dX9_chorus_16 (by decide) ?_
        refine lv_icmp_ge (tgt := 56) hx hb dX9_chorus_18 (by decide) (fun c83 => ?_) (fun c83 => ?_)
        · have c83 := cLE (x := 6) (y := y80d) (X := 6) (Y := y80d.toInt) (by decide) rfl c83
          refine lv_iload_n hx hb dX9_chorus_56 rfl (lv_at hl 1 rfl) ?_
          exact hret _ _ y81d dX9_chorus_57 rfl ⟨by omega, by omega⟩
        · have c83 := cNLE (x := 6) (y := y80d) (X := 6) (Y := y80d.toInt) (by decide) rfl c83
          refine lv_aload_n hx hb dX9_chorus_21 rfl (lv_at hl 2 rfl) ?_
          refine va_get (ci := 9) (v := .ref (A 7)) (C := RX9) (T := TX9) (N := 12) hx hb hts (fun w h => uc_in w (inX9 w h)) hown hK hP 0 (cwc0 C A u) rfl 5 (by decide) (hts _ (uc_in _ q_f388)) (fun _ h9 => h9) rfl dX9_chorus_22 ?_
          refine lv_iload_n hx hb dX9_chorus_25 rfl (lv_at hl 0 rfl) ?_
          refine lv_iload_n hx hb dX9_chorus_26 rfl (lv_at hl 3 rfl) ?_
          refine cvS (n := 2) (As := [.int y80d, .int a0]) (rest := []) ⟨hx, hb, hml, hown, hts⟩ uc_in (kX5_strikes_0 l D C A u hI y80d y80d.toInt rfl a0 A0 ha0 (by omega) (by omega) (by omega) (by omega)) q_m737 q_n738 q_e739 q_i4 q_c740 hvX5_strikes ⟨(Nat.le_of_ble_eq_true rfl), (Nat.le_of_ble_eq_true rfl)⟩ ⟨(Nat.le_of_ble_eq_true rfl), (Nat.le_of_ble_eq_true rfl)⟩ hK hP 5 7 rfl (cwc7 C A u) rfl hl.1 rfl (Nat.le_of_ble_eq_true rfl) dX9_chorus_27 (fun r84 p85 => ?_)
          have p85 : 0 ≤ r84.toInt ∧ r84.toInt ≤ 1 := p85
          have j50_94 : ∀ (ls : Array Slot) (y92d : Int32), 0 ≤ y92d.toInt → y92d.toInt ≤ 63 → lv_has ls 4 [(3, .int y80d), (2, .int y92d), (0, .ref (A 0)), (1, .int a0)] → W p l e (rmL 4 0 0) s m ar below meth c s.heap [] 0 0 Q (F0 m 50 ls []) := by
            intro ls y92d ly92d my92d hl
            obtain ⟨z96, ez96⟩ : ∃ z, z = y80d + Int32.ofInt 1 := ⟨_, rfl⟩
            have hz96 : z96.toInt = y80d.toInt + 1 := by rw [ez96]; exact tt_add rfl (by decide) (by omega) (by omega)
            refine lv_iinc (v := z96) (lv' := [(3, .int z96), (2, .int y92d), (0, .ref (A 0)), (1, .int a0)]) hx hb dX9_chorus_50 hl (k := 0) rfl ez96.symm (by decide) rfl (fun ls hl => ?_)
            refine lv_goto (tgt := 15) hx hb dX9_chorus_53 (by decide) ?_
            exact ih15_81 ls z96 y92d (by have q9 := (show z96.toInt = (y80d.toInt + 1) from hz96); omega) (by have q9 := (show z96.toInt = (y80d.toInt + 1) from hz96); omega) (by omega) (by omega) (by have q9 := (show z96.toInt = (y80d.toInt + 1) from hz96); omega) hl
          refine lv_if_eq (tgt := 50) hx hb dX9_chorus_30 (by decide) (fun c86 => ?_) (fun c86 => ?_)
          · have c86 := cEQ (x := r84) (y := 0) (X := r84.toInt) (Y := 0) rfl (by decide) c86
            exact j50_94 ls y81d (by omega) (by omega) hl
          · have c86 := cNE (x := r84) (y := 0) (X := r84.toInt) (Y := 0) rfl (by decide) c86
            refine lv_iload_n hx hb dX9_chorus_33 rfl (lv_at hl 1 rfl) ?_
            refine lv_aload_n hx hb dX9_chorus_34 rfl (lv_at hl 2 rfl) ?_
            refine va_get (ci := 9) (v := .ref (A 7)) (C := RX9) (T := TX9) (N := 12) hx hb hts (fun w h => uc_in w (inX9 w h)) hown hK hP 0 (cwc0 C A u) rfl 5 (by decide) (hts _ (uc_in _ q_f388)) (fun _ h9 => h9) rfl dX9_chorus_35 ?_
            refine lv_iload_n hx hb dX9_chorus_38 rfl (lv_at hl 0 rfl) ?_
            refine lv_iload_n hx hb dX9_chorus_39 rfl (lv_at hl 3 rfl) ?_
            refine cvS (n := 2) (As := [.int y80d, .int a0]) (rest := [.int y81d]) ⟨hx, hb, hml, hown, hts⟩ uc_in (kX5_together_0 l D C A u hI y80d y80d.toInt rfl a0 A0 ha0 (by omega) (by omega) (by omega) (by omega)) q_m741 q_n742 q_e743 q_i4 q_c744 hvX5_together ⟨(Nat.le_of_ble_eq_true rfl), (Nat.le_of_ble_eq_true rfl)⟩ ⟨(Nat.le_of_ble_eq_true rfl), (Nat.le_of_ble_eq_true rfl)⟩ hK hP 5 7 rfl (cwc7 C A u) rfl hl.1 rfl (Nat.le_of_ble_eq_true rfl) dX9_chorus_40 (fun r97 p98 => ?_)
            have p98 : 0 ≤ r97.toInt ∧ r97.toInt ≤ 63 := p98
            refine csS (n := 1) (As := [.int r97]) (rest := [.int y81d]) ⟨hx, hb, hml, hown, hts⟩ uc_in (kJ6_bitCount_0f7a4_0 l D C A u hI r97 r97.toInt rfl) q_m706 q_s707 q_i18 q_c708 hvJ6_bitCount_0f7a4 ⟨(Nat.le_of_ble_eq_true rfl), (Nat.le_of_ble_eq_true rfl)⟩ ⟨(Nat.le_of_ble_eq_true rfl), (Nat.le_of_ble_eq_true rfl)⟩ hK hP rfl hl.1 rfl (Nat.le_of_ble_eq_true rfl) dX9_chorus_43 (fun r99 p100 => ?_)
            have p100 : 0 ≤ r99.toInt ∧ r99.toInt ≤ 63 := p100
            refine va_mmax hx hb (by rw [hml]; exact hl.1.symm) hown (hts _ (uc_in _ q_m745)) (hts _ (uc_in _ q_s571)) (hts _ (uc_in _ q_i12)) (hts _ (uc_in _ q_c572)) (Nat.le_of_ble_eq_true rfl) (Nat.le_of_ble_eq_true rfl) (Nat.le_of_ble_eq_true rfl) (Nat.le_of_ble_eq_true rfl) dX9_chorus_46 ?_
            refine p_bd (P := fun q => 0 ≤ q ∧ q ≤ 63) (by rcases tt_max (x := y81d) (y := r99) with q9 | q9 <;> rw [q9.1] <;> refine ⟨?_, ?_⟩ <;> first | trivial | (have q7 := (show y81d.toInt = y81d.toInt from rfl); have q8 := (show r99.toInt = r99.toInt from rfl); omega)) (fun z101 bz101 => ?_)
            have bz101 : 0 ≤ z101.toInt ∧ z101.toInt ≤ 63 := bz101
            refine lv_istore_n (lv' := [(2, .int z101), (3, .int y80d), (0, .ref (A 0)), (1, .int a0)]) hx hb dX9_chorus_49 rfl hl (by decide) rfl (fun ls hl => ?_)
            exact j50_94 ls z101 (by omega) (by omega) (lv_sub hl [1, 0, 2, 3] rfl)
    exact lp15_81 7 ls 0 0 (by decide) (by decide) (by decide) (by decide) (by have q9 : (0 : Int32).toInt = 0 := (by decide); omega) hl
  · subst e9
    refine lv_if_ne (tgt := 11) hx hb dX9_chorus_5 (by decide) (fun c102 => absurd c102 (by decide)) (fun c102 => ?_)
    refine lv_bipush (v := (-2)) hx hb dX9_chorus_8 (by decide) ?_
    exact hret _ _ ((-2) : Int32) dX9_chorus_10 rfl ⟨by decide, by decide⟩
set_option maxHeartbeats 4000000 in
set_option maxRecDepth 100000 in
theorem kX9_isClock_0 (l : Launch) (D : va_G) (C : Nat → ClassId) (A : Nat → Nat) (u : St) (hI : IC u) (a0 : Int32) (A0 : Int) (ha0 : a0.toInt = A0) : Met l yX9_isClock (uc yX9_isClock cX9_isClock 2 (some .boolean)) (rmL 1 0 0) (va_Pc [.ref (A 0), .int a0] (PreR D (tyl C) (cw C A u))) (vp_Si (fun r => (r = 1 ∧ 0 ≤ A0 ∧ A0 < (gi u 49).toInt) ∨ r = 0)) 0 0 (fun _ => False) := by
  refine mS (by decide) (Nat.le_of_ble_eq_true rfl) ?_
  intro p e s m below meth c ls ar Q hx hb hml hown hts hK hP hl hret
  have hown : s.vm.findClass RX9 = some m.cls := hown
  have hl : lv_has ls 2 [(0, .ref (A 0)), (1, .int a0)] := hl
  refine lv_iload_n hx hb dX9_isClock_0 rfl (lv_at hl 1 rfl) ?_
  refine lv_if_lt (tgt := 19) hx hb dX9_isClock_1 (by decide) (fun c1 => ?_) (fun c1 => ?_)
  · have c1 := cLT (x := a0) (y := 0) (X := A0) (Y := 0) ha0 (by decide) c1
    refine lv_iconst (v := 0) hx hb dX9_isClock_19 (by decide) ?_
    exact hret _ _ (0 : Int32) dX9_isClock_20 rfl (Or.inr rfl)
  · have c1 := cNLT (x := a0) (y := 0) (X := A0) (Y := 0) ha0 (by decide) c1
    refine lv_iload_n hx hb dX9_isClock_4 rfl (lv_at hl 1 rfl) ?_
    refine lv_aload_n hx hb dX9_isClock_5 rfl (lv_at hl 0 rfl) ?_
    refine va_get (ci := 9) (v := .ref (A 7)) (C := RX9) (T := TX9) (N := 12) hx hb hts (fun w h => uc_in w (inX9 w h)) hown hK hP 0 (cwc0 C A u) rfl 5 (by decide) (hts _ (uc_in _ q_f388)) (fun _ h9 => h9) rfl dX9_isClock_6 ?_
    refine va_get (ci := 5) (v := .int (gi u 49)) (C := RX5) (T := TX5) (N := 4) hx hb hts (fun w h => uc_in w (inX5 w h)) hown hK hP 7 (cwc7 C A u) rfl 1 (by decide) (hts _ (uc_in _ q_f167)) (fun _ h9 => h9) rfl dX9_isClock_9 ?_
    have b2 := hI.b49
    refine lv_icmp_ge (tgt := 19) hx hb dX9_isClock_12 (by decide) (fun c3 => ?_) (fun c3 => ?_)
    · have c3 := cLE (x := (gi u 49)) (y := a0) (X := ((gi u 49)).toInt) (Y := A0) rfl ha0 c3
      refine lv_iconst (v := 0) hx hb dX9_isClock_19 (by decide) ?_
      exact hret _ _ (0 : Int32) dX9_isClock_20 rfl (Or.inr rfl)
    · have c3 := cNLE (x := (gi u 49)) (y := a0) (X := ((gi u 49)).toInt) (Y := A0) rfl ha0 c3
      refine lv_iconst (v := 1) hx hb dX9_isClock_15 (by decide) ?_
      refine lv_goto (tgt := 20) hx hb dX9_isClock_16 (by decide) ?_
      exact hret _ _ (1 : Int32) dX9_isClock_20 rfl (Or.inl ⟨rfl, by omega, by omega⟩)
set_option maxHeartbeats 4000000 in
set_option maxRecDepth 100000 in
theorem kX9_clock_0 (l : Launch) (D : va_G) (C : Nat → ClassId) (A : Nat → Nat) (u : St) (hI : IC u) (a0 : Int32) (A0 : Int) (ha0 : a0.toInt = A0) (a1 : Int32) (A1 : Int) (ha1 : a1.toInt = A1) : Met l yX9_clock (uc yX9_clock cX9_clock 3 (some .int)) (rmL 2 0 0) (va_Pc [.ref (A 0), .int a0, .int a1] (PreR D (tyl C) (cw C A u))) (vp_Si (fun r => True)) 0 0 (fun _ => False) := by
  refine mS (by decide) (Nat.le_of_ble_eq_true rfl) ?_
  intro p e s m below meth c ls ar Q hx hb hml hown hts hK hP hl hret
  have hown : s.vm.findClass RX9 = some m.cls := hown
  have hl : lv_has ls 3 [(0, .ref (A 0)), (1, .int a0), (2, .int a1)] := hl
  refine lv_aload_n hx hb dX9_clock_0 rfl (lv_at hl 0 rfl) ?_
  refine lv_iload_n hx hb dX9_clock_1 rfl (lv_at hl 1 rfl) ?_
  refine cvS (n := 1) (As := [.int a0]) (rest := []) ⟨hx, hb, hml, hown, hts⟩ uc_in (kX9_isClock_0 l D C A u hI a0 A0 ha0) q_m589 q_n591 q_p11 q_i1 q_c592 hvX9_isClock ⟨(Nat.le_of_ble_eq_true rfl), (Nat.le_of_ble_eq_true rfl)⟩ ⟨(Nat.le_of_ble_eq_true rfl), (Nat.le_of_ble_eq_true rfl)⟩ hK hP 9 0 rfl (cwc0 C A u) rfl hl.1 rfl (Nat.le_of_ble_eq_true rfl) dX9_clock_2 (fun r1 p2 => ?_)
  rcases p2 with ⟨e9, f3, f4⟩ | e9
  · subst e9
    have b6 := hI.b49
    refine lv_if_ne (tgt := 12) hx hb dX9_clock_5 (by decide) (fun c7 => ?_) (fun c7 => absurd c7 (by decide))
    refine lv_iload_n hx hb dX9_clock_12 rfl (lv_at hl 2 rfl) ?_
    by_cases c8 : 0 ≤ A1 ∧ A1 ≤ 4
    · rcases (show A1 = 0 ∨ A1 = 1 ∨ A1 = 2 ∨ A1 = 3 ∨ A1 = 4 by omega) with e9 | e9 | e9 | e9 | e9
      · have e8 : a1 = 0 := i_lit ha1 (by rw [e9]; decide)
        subst e8
        have q8 : (0 : Int32).toInt = 0 := by decide
        refine lv_tableIn (off := 35) (tgt := 48) hx hb dX9_clock_13 (by decide) (by decide) (by decide) (by decide) ?_
        refine lv_aload_n hx hb dX9_clock_48 rfl (lv_at hl 0 rfl) ?_
        refine va_get (ci := 9) (v := .ref (A 2)) (C := RX9) (T := TX9) (N := 12) hx hb hts (fun w h => uc_in w (inX9 w h)) hown hK hP 0 (cwc0 C A u) rfl 1 (by decide) (hts _ (uc_in _ q_f384)) (fun _ h9 => h9) rfl dX9_clock_49 ?_
        refine va_get (ci := 7) (v := .ref (A 52)) (C := RX7) (T := TX7) (N := 16) hx hb hts (fun w h => uc_in w (inX7 w h)) hown hK hP 2 (cwc2 C A u) rfl 8 (by decide) (hts _ (uc_in _ q_f98)) (fun _ h9 => h9) rfl dX9_clock_52 ?_
        refine lv_iload_n hx hb dX9_clock_55 rfl (lv_at hl 1 rfl) ?_
        refine va_iald hx hb hK hP 52 1 (cwc52 C A u) rfl (i_ix ha0 (by omega) (by omega)) dX9_clock_56 ?_
        refine p_any (fun z9 => ?_)
        exact hret _ _ z9 dX9_clock_57 rfl trivial
      · have e8 : a1 = 1 := i_lit ha1 (by rw [e9]; decide)
        subst e8
        have q8 : (1 : Int32).toInt = 1 := by decide
        refine lv_tableIn (off := 45) (tgt := 58) hx hb dX9_clock_13 (by decide) (by decide) (by decide) (by decide) ?_
        refine lv_aload_n hx hb dX9_clock_58 rfl (lv_at hl 0 rfl) ?_
        refine va_get (ci := 9) (v := .ref (A 2)) (C := RX9) (T := TX9) (N := 12) hx hb hts (fun w h => uc_in w (inX9 w h)) hown hK hP 0 (cwc0 C A u) rfl 1 (by decide) (hts _ (uc_in _ q_f384)) (fun _ h9 => h9) rfl dX9_clock_59 ?_
        refine va_get (ci := 7) (v := .ref (A 53)) (C := RX7) (T := TX7) (N := 16) hx hb hts (fun w h => uc_in w (inX7 w h)) hown hK hP 2 (cwc2 C A u) rfl 9 (by decide) (hts _ (uc_in _ q_f102)) (fun _ h9 => h9) rfl dX9_clock_62 ?_
        refine lv_iload_n hx hb dX9_clock_65 rfl (lv_at hl 1 rfl) ?_
        refine va_iald hx hb hK hP 53 1 (cwc53 C A u) rfl (i_ix ha0 (by omega) (by omega)) dX9_clock_66 ?_
        refine p_any (fun z10 => ?_)
        exact hret _ _ z10 dX9_clock_67 rfl trivial
      · have e8 : a1 = 2 := i_lit ha1 (by rw [e9]; decide)
        subst e8
        have q8 : (2 : Int32).toInt = 2 := by decide
        refine lv_tableIn (off := 55) (tgt := 68) hx hb dX9_clock_13 (by decide) (by decide) (by decide) (by decide) ?_
        refine lv_aload_n hx hb dX9_clock_68 rfl (lv_at hl 0 rfl) ?_
        refine va_get (ci := 9) (v := .ref (A 2)) (C := RX9) (T := TX9) (N := 12) hx hb hts (fun w h => uc_in w (inX9 w h)) hown hK hP 0 (cwc0 C A u) rfl 1 (by decide) (hts _ (uc_in _ q_f384)) (fun _ h9 => h9) rfl dX9_clock_69 ?_
        refine va_get (ci := 7) (v := .ref (A 54)) (C := RX7) (T := TX7) (N := 16) hx hb hts (fun w h => uc_in w (inX7 w h)) hown hK hP 2 (cwc2 C A u) rfl 10 (by decide) (hts _ (uc_in _ q_f106)) (fun _ h9 => h9) rfl dX9_clock_72 ?_
        refine lv_iload_n hx hb dX9_clock_75 rfl (lv_at hl 1 rfl) ?_
        refine va_iald hx hb hK hP 54 1 (cwc54 C A u) rfl (i_ix ha0 (by omega) (by omega)) dX9_clock_76 ?_
        refine p_any (fun z11 => ?_)
        exact hret _ _ z11 dX9_clock_77 rfl trivial
      · have e8 : a1 = 3 := i_lit ha1 (by rw [e9]; decide)
        subst e8
        have q8 : (3 : Int32).toInt = 3 := by decide
        refine lv_tableIn (off := 65) (tgt := 78) hx hb dX9_clock_13 (by decide) (by decide) (by decide) (by decide) ?_
        refine lv_aload_n hx hb dX9_clock_78 rfl (lv_at hl 0 rfl) ?_
        refine va_get (ci := 9) (v := .ref (A 2)) (C := RX9) (T := TX9) (N := 12) hx hb hts (fun w h => uc_in w (inX9 w h)) hown hK hP 0 (cwc0 C A u) rfl 1 (by decide) (hts _ (uc_in _ q_f384)) (fun _ h9 => h9) rfl dX9_clock_79 ?_
        refine va_get (ci := 7) (v := .ref (A 55)) (C := RX7) (T := TX7) (N := 16) hx hb hts (fun w h => uc_in w (inX7 w h)) hown hK hP 2 (cwc2 C A u) rfl 11 (by decide) (hts _ (uc_in _ q_f109)) (fun _ h9 => h9) rfl dX9_clock_82 ?_
        refine lv_iload_n hx hb dX9_clock_85 rfl (lv_at hl 1 rfl) ?_
        refine va_iald hx hb hK hP 55 1 (cwc55 C A u) rfl (i_ix ha0 (by omega) (by omega)) dX9_clock_86 ?_
        refine p_any (fun z12 => ?_)
        exact hret _ _ z12 dX9_clock_87 rfl trivial
      · have e8 : a1 = 4 := i_lit ha1 (by rw [e9]; decide)
        subst e8
        have q8 : (4 : Int32).toInt = 4 := by decide
        refine lv_tableIn (off := 75) (tgt := 88) hx hb dX9_clock_13 (by decide) (by decide) (by decide) (by decide) ?_
        refine lv_aload_n hx hb dX9_clock_88 rfl (lv_at hl 0 rfl) ?_
        refine va_get (ci := 9) (v := .ref (A 2)) (C := RX9) (T := TX9) (N := 12) hx hb hts (fun w h => uc_in w (inX9 w h)) hown hK hP 0 (cwc0 C A u) rfl 1 (by decide) (hts _ (uc_in _ q_f384)) (fun _ h9 => h9) rfl dX9_clock_89 ?_
        refine va_get (ci := 7) (v := .ref (A 56)) (C := RX7) (T := TX7) (N := 16) hx hb hts (fun w h => uc_in w (inX7 w h)) hown hK hP 2 (cwc2 C A u) rfl 12 (by decide) (hts _ (uc_in _ q_f113)) (fun _ h9 => h9) rfl dX9_clock_92 ?_
        refine lv_iload_n hx hb dX9_clock_95 rfl (lv_at hl 1 rfl) ?_
        refine va_iald hx hb hK hP 56 1 (cwc56 C A u) rfl (i_ix ha0 (by omega) (by omega)) dX9_clock_96 ?_
        refine p_any (fun z13 => ?_)
        exact hret _ _ z13 dX9_clock_97 rfl trivial
    · refine lv_tableOut (tgt := 98) hx hb dX9_clock_13 (by have q9 := (show a1.toInt = A1 from ha1); omega) (by decide) ?_
      refine lv_sipush (v := (-1000)) hx hb dX9_clock_98 (by decide) ?_
      exact hret _ _ ((-1000) : Int32) dX9_clock_101 rfl trivial
  · subst e9
    refine lv_if_ne (tgt := 12) hx hb dX9_clock_5 (by decide) (fun c14 => absurd c14 (by decide)) (fun c14 => ?_)
    refine lv_sipush (v := (-1000)) hx hb dX9_clock_8 (by decide) ?_
    exact hret _ _ ((-1000) : Int32) dX9_clock_11 rfl trivial
set_option maxHeartbeats 4000000 in
set_option maxRecDepth 100000 in
theorem kX9_costs_0 (l : Launch) (D : va_G) (C : Nat → ClassId) (A : Nat → Nat) (u : St) (hI : IC u) (a0 : Int32) (A0 : Int) (ha0 : a0.toInt = A0) : Met l yX9_costs (uc yX9_costs cX9_costs 2 (some .int)) (rmL 4 0 0) (va_Pc [.ref (A 0), .int a0] (PreR D (tyl C) (cw C A u))) (vp_Si (fun r => True)) 0 0 (fun _ => False) := by
  refine mS (by decide) (Nat.le_of_ble_eq_true rfl) ?_
  intro p e s m below meth c ls ar Q hx hb hml hown hts hK hP hl hret
  have hown : s.vm.findClass RX9 = some m.cls := hown
  have hl : lv_has ls 2 [(0, .ref (A 0)), (1, .int a0)] := hl
  refine lv_aload_n hx hb dX9_costs_0 rfl (lv_at hl 0 rfl) ?_
  refine lv_iload_n hx hb dX9_costs_1 rfl (lv_at hl 1 rfl) ?_
  refine cvS (n := 1) (As := [.int a0]) (rest := []) ⟨hx, hb, hml, hown, hts⟩ uc_in (kX9_isDay_0 l D C A u hI a0 A0 ha0) q_m597 q_n599 q_p12 q_i1 q_c600 hvX9_isDay ⟨(Nat.le_of_ble_eq_true rfl), (Nat.le_of_ble_eq_true rfl)⟩ ⟨(Nat.le_of_ble_eq_true rfl), (Nat.le_of_ble_eq_true rfl)⟩ hK hP 9 0 rfl (cwc0 C A u) rfl hl.1 rfl (Nat.le_of_ble_eq_true rfl) dX9_costs_2 (fun r1 p2 => ?_)
  rcases p2 with ⟨e9, f3, f4⟩ | e9
  · subst e9
    have b6 := hI.b48
    refine lv_if_eq (tgt := 25) hx hb dX9_costs_5 (by decide) (fun c7 => absurd c7 (by decide)) (fun c7 => ?_)
    refine lv_aload_n hx hb dX9_costs_8 rfl (lv_at hl 0 rfl) ?_
    refine lv_iload_n hx hb dX9_costs_9 rfl (lv_at hl 1 rfl) ?_
    refine lv_aload_n hx hb dX9_costs_10 rfl (lv_at hl 0 rfl) ?_
    refine va_get (ci := 9) (v := .ref (A 7)) (C := RX9) (T := TX9) (N := 12) hx hb hts (fun w h => uc_in w (inX9 w h)) hown hK hP 0 (cwc0 C A u) rfl 5 (by decide) (hts _ (uc_in _ q_f388)) (fun _ h9 => h9) rfl dX9_costs_11 ?_
    refine va_get (ci := 5) (v := .ref (A 38)) (C := RX5) (T := TX5) (N := 4) hx hb hts (fun w h => uc_in w (inX5 w h)) hown hK hP 7 (cwc7 C A u) rfl 3 (by decide) (hts _ (uc_in _ q_f175)) (fun _ h9 => h9) rfl dX9_costs_14 ?_
    refine lv_iload_n hx hb dX9_costs_17 rfl (lv_at hl 1 rfl) ?_
    refine va_iald hx hb hK hP 38 1 (cwc38 C A u) rfl (i_ix ha0 (by omega) (by omega)) dX9_costs_18 ?_
    refine p_any (fun z8 => ?_)
    refine cvS (n := 2) (As := [.int a0, .int z8]) (rest := []) ⟨hx, hb, hml, hown, hts⟩ uc_in (kX9_waitOn_0 l D C A u hI a0 A0 ha0 z8 z8.toInt rfl (by omega) (by omega)) q_m667 q_n669 q_p17 q_i1 q_c670 hvX9_waitOn ⟨(Nat.le_of_ble_eq_true rfl), (Nat.le_of_ble_eq_true rfl)⟩ ⟨(Nat.le_of_ble_eq_true rfl), (Nat.le_of_ble_eq_true rfl)⟩ hK hP 9 0 rfl (cwc0 C A u) rfl hl.1 rfl (Nat.le_of_ble_eq_true rfl) dX9_costs_19 (fun r9 p10 => ?_)
    refine lv_goto (tgt := 27) hx hb dX9_costs_22 (by decide) ?_
    exact hret _ _ r9 dX9_costs_27 rfl trivial
  · subst e9
    refine lv_if_eq (tgt := 25) hx hb dX9_costs_5 (by decide) (fun c11 => ?_) (fun c11 => absurd c11 (by decide))
    refine lv_bipush (v := (-2)) hx hb dX9_costs_25 (by decide) ?_
    exact hret _ _ ((-2) : Int32) dX9_costs_27 rfl trivial
set_option maxHeartbeats 4000000 in
set_option maxRecDepth 100000 in
theorem kX9_rowsThere_0 (l : Launch) (D : va_G) (C : Nat → ClassId) (A : Nat → Nat) (u : St) (hI : IC u) : Met l yX9_rowsThere (uc yX9_rowsThere cX9_rowsThere 3 (some .int)) (rmL 2 0 0) (va_Pc [.ref (A 0)] (PreR D (tyl C) (cw C A u))) (vp_Si (fun r => True)) 0 0 (fun _ => False) := by
  refine mS (by decide) (Nat.le_of_ble_eq_true rfl) ?_
  intro p e s m below meth c ls ar Q hx hb hml hown hts hK hP hl hret
  have hown : s.vm.findClass RX9 = some m.cls := hown
  have hl : lv_has ls 3 [(0, .ref (A 0))] := hl
  refine lv_iconst (v := 0) hx hb dX9_rowsThere_0 (by decide) ?_
  refine lv_istore_n (lv' := [(1, .int 0), (0, .ref (A 0))]) hx hb dX9_rowsThere_1 rfl hl (by decide) rfl (fun ls hl => ?_)
  refine lv_iconst (v := 0) hx hb dX9_rowsThere_2 (by decide) ?_
  refine lv_istore_n (lv' := [(2, .int 0), (1, .int 0), (0, .ref (A 0))]) hx hb dX9_rowsThere_3 rfl hl (by decide) rfl (fun ls hl => ?_)
  have lp4_456 : ∀ (n4 : Nat) (ls : Array Slot) (y455d : Int32) (y456d : Int32), 0 ≤ y455d.toInt → y455d.toInt ≤ 4 → 4 - y455d.toInt < (n4 : Int) → lv_has ls 3 [(2, .int y455d), (1, .int y456d), (0, .ref (A 0))] → W p l e (rmL 2 0 0) s m ar below meth c s.heap [] 0 0 Q (F0 m 4 ls []) := by
    intro n4
    induction n4 with
    | zero => intro ls y455d y456d ly455d my455d hmun4 hl; exfalso; omega
    | succ n4 ih4_456 =>
      intro ls y455d y456d ly455d my455d hmun4 hl
      refine lv_iload_n hx hb dX9_rowsThere_4 rfl (lv_at hl 0 rfl) ?_
      refine lv_iconst (v := 4) hx hb dX9_rowsThere_5 (by decide) ?_
      refine lv_icmp_ge (tgt := 30) hx hb dX9_rowsThere_6 (by decide) (fun c458 => ?_) (fun c458 => ?_)
      · have c458 := cLE (x := 4) (y := y455d) (X := 4) (Y := y455d.toInt) (by decide) rfl c458
        refine lv_iload_n hx hb dX9_rowsThere_30 rfl (lv_at hl 1 rfl) ?_
        exact hret _ _ y456d dX9_rowsThere_31 rfl trivial
      · have c458 := cNLE (x := 4) (y := y455d) (X := 4) (Y := y455d.toInt) (by decide) rfl c458
        refine lv_aload_n hx hb dX9_rowsThere_9 rfl (lv_at hl 2 rfl) ?_
        refine va_get (ci := 9) (v := .ref (A 18)) (C := RX9) (T := TX9) (N := 12) hx hb hts (fun w h => uc_in w (inX9 w h)) hown hK hP 0 (cwc0 C A u) rfl 6 (by decide) (hts _ (uc_in _ q_f389)) (fun _ h9 => h9) rfl dX9_rowsThere_10 ?_
        refine lv_iload_n hx hb dX9_rowsThere_13 rfl (lv_at hl 0 rfl) ?_
        rcases (show y455d.toInt = 0 ∨ y455d.toInt = 1 ∨ y455d.toInt = 2 ∨ y455d.toInt = 3 by omega) with e9 | e9 | e9 | e9
        · have e8 : y455d = 0 := i_lit rfl (by rw [e9]; decide)
          subst e8
          have q8 : (0 : Int32).toInt = 0 := by decide
          refine r_aald hx hb hK hP 18 5 rfl (cwc18 C A u) rfl (i_ix (X := 0) (by decide) (by decide) (by decide)) dX9_rowsThere_14 ?_
          refine pv_v (v := .ref (A 8)) rfl ?_
          refine cvS (n := 0) (As := []) (rest := []) ⟨hx, hb, hml, hown, hts⟩ uc_in (kX3_isThere_0 l D C A u hI ) q_m914 q_n915 q_e916 q_i5 q_c917 hvX3_isThere ⟨(Nat.le_of_ble_eq_true rfl), (Nat.le_of_ble_eq_true rfl)⟩ ⟨(Nat.le_of_ble_eq_true rfl), (Nat.le_of_ble_eq_true rfl)⟩ hK hP 3 8 rfl (cwc8 C A u) rfl hl.1 rfl (Nat.le_of_ble_eq_true rfl) dX9_rowsThere_15 (fun r459 p460 => ?_)
          have j24_467 : ∀ (ls : Array Slot) (y466d : Int32), lv_has ls 3 [(1, .int y466d), (2, .int 0), (0, .ref (A 0))] → W p l e (rmL 2 0 0) s m ar below meth c s.heap [] 0 0 Q (F0 m 24 ls []) := by
            intro ls y466d hl
            refine lv_iinc (v := 1) (lv' := [(2, .int 1), (1, .int y466d), (0, .ref (A 0))]) hx hb dX9_rowsThere_24 hl (k := 1) rfl (by decide) (by decide) rfl (fun ls hl => ?_)
            refine lv_goto (tgt := 4) hx hb dX9_rowsThere_27 (by decide) ?_
            exact ih4_456 ls 1 y466d (by decide) (by decide) (by have q9 : (1 : Int32).toInt = 1 := (by decide); omega) hl
          rcases p460 with ⟨e9, f461⟩ | ⟨e9, fn469⟩
          · subst e9
            have b470 := hI.b50
            refine lv_if_eq (tgt := 24) hx hb dX9_rowsThere_18 (by decide) (fun c471 => absurd c471 (by decide)) (fun c471 => ?_)
            obtain ⟨z472, ez472⟩ : ∃ z, z = y456d + Int32.ofInt 1 := ⟨_, rfl⟩
            refine lv_iinc (v := z472) (lv' := [(1, .int z472), (2, .int 0), (0, .ref (A 0))]) hx hb dX9_rowsThere_21 hl (k := 1) rfl ez472.symm (by decide) rfl (fun ls hl => ?_)
            exact j24_467 ls z472 hl
          · subst e9
            refine lv_if_eq (tgt := 24) hx hb dX9_rowsThere_18 (by decide) (fun c473 => ?_) (fun c473 => absurd c473 (by decide))
            exact j24_467 ls y456d (lv_sub hl [1, 0, 2] rfl)
        · have e8 : y455d = 1 := i_lit rfl (by rw [e9]; decide)
          subst e8
          have q8 : (1 : Int32).toInt = 1 := by decide
          refine r_aald hx hb hK hP 18 5 rfl (cwc18 C A u) rfl (i_ix (X := 1) (by decide) (by decide) (by decide)) dX9_rowsThere_14 ?_
          refine pv_v (v := .ref (A 9)) rfl ?_
          refine cvS (n := 0) (As := []) (rest := []) ⟨hx, hb, hml, hown, hts⟩ uc_in (kX3_isThere_1 l D C A u hI ) q_m914 q_n915 q_e916 q_i5 q_c917 hvX3_isThere ⟨(Nat.le_of_ble_eq_true rfl), (Nat.le_of_ble_eq_true rfl)⟩ ⟨(Nat.le_of_ble_eq_true rfl), (Nat.le_of_ble_eq_true rfl)⟩ hK hP 3 9 rfl (cwc9 C A u) rfl hl.1 rfl (Nat.le_of_ble_eq_true rfl) dX9_rowsThere_15 (fun r474 p475 => ?_)
          have j24_482 : ∀ (ls : Array Slot) (y481d : Int32), lv_has ls 3 [(1, .int y481d), (2, .int 1), (0, .ref (A 0))] → W p l e (rmL 2 0 0) s m ar below meth c s.heap [] 0 0 Q (F0 m 24 ls []) := by
            intro ls y481d hl
            refine lv_iinc (v := 2) (lv' := [(2, .int 2), (1, .int y481d), (0, .ref (A 0))]) hx hb dX9_rowsThere_24 hl (k := 1) rfl (by decide) (by decide) rfl (fun ls hl => ?_)
            refine lv_goto (tgt := 4) hx hb dX9_rowsThere_27 (by decide) ?_
            exact ih4_456 ls 2 y481d (by decide) (by decide) (by have q9 : (2 : Int32).toInt = 2 := (by decide); omega) hl
          rcases p475 with ⟨e9, f476⟩ | ⟨e9, fn484⟩
          · subst e9
            have b485 := hI.b52
            refine lv_if_eq (tgt := 24) hx hb dX9_rowsThere_18 (by decide) (fun c486 => absurd c486 (by decide)) (fun c486 => ?_)
            obtain ⟨z487, ez487⟩ : ∃ z, z = y456d + Int32.ofInt 1 := ⟨_, rfl⟩
            refine lv_iinc (v := z487) (lv' := [(1, .int z487), (2, .int 1), (0, .ref (A 0))]) hx hb dX9_rowsThere_21 hl (k := 1) rfl ez487.symm (by decide) rfl (fun ls hl => ?_)
            exact j24_482 ls z487 hl
          · subst e9
            refine lv_if_eq (tgt := 24) hx hb dX9_rowsThere_18 (by decide) (fun c488 => ?_) (fun c488 => absurd c488 (by decide))
            exact j24_482 ls y456d (lv_sub hl [1, 0, 2] rfl)
        · have e8 : y455d = 2 := i_lit rfl (by rw [e9]; decide)
          subst e8
          have q8 : (2 : Int32).toInt = 2 := by decide
          refine r_aald hx hb hK hP 18 5 rfl (cwc18 C A u) rfl (i_ix (X := 2) (by decide) (by decide) (by decide)) dX9_rowsThere_14 ?_
          refine pv_v (v := .ref (A 10)) rfl ?_
          refine cvS (n := 0) (As := []) (rest := []) ⟨hx, hb, hml, hown, hts⟩ uc_in (kX3_isThere_2 l D C A u hI ) q_m914 q_n915 q_e916 q_i5 q_c917 hvX3_isThere ⟨(Nat.le_of_ble_eq_true rfl), (Nat.le_of_ble_eq_true rfl)⟩ ⟨(Nat.le_of_ble_eq_true rfl), (Nat.le_of_ble_eq_true rfl)⟩ hK hP 3 10 rfl (cwc10 C A u) rfl hl.1 rfl (Nat.le_of_ble_eq_true rfl) dX9_rowsThere_15 (fun r489 p490 => ?_)
          have j24_497 : ∀ (ls : Array Slot) (y496d : Int32), lv_has ls 3 [(1, .int y496d), (2, .int 2), (0, .ref (A 0))] → W p l e (rmL 2 0 0) s m ar below meth c s.heap [] 0 0 Q (F0 m 24 ls []) := by
            intro ls y496d hl
            refine lv_iinc (v := 3) (lv' := [(2, .int 3), (1, .int y496d), (0, .ref (A 0))]) hx hb dX9_rowsThere_24 hl (k := 1) rfl (by decide) (by decide) rfl (fun ls hl => ?_)
            refine lv_goto (tgt := 4) hx hb dX9_rowsThere_27 (by decide) ?_
            exact ih4_456 ls 3 y496d (by decide) (by decide) (by have q9 : (3 : Int32).toInt = 3 := (by decide); omega) hl
          rcases p490 with ⟨e9, f491⟩ | ⟨e9, fn499⟩
          · subst e9
            have b500 := hI.b54
            refine lv_if_eq (tgt := 24) hx hb dX9_rowsThere_18 (by decide) (fun c501 => absurd c501 (by decide)) (fun c501 => ?_)
            obtain ⟨z502, ez502⟩ : ∃ z, z = y456d + Int32.ofInt 1 := ⟨_, rfl⟩
            refine lv_iinc (v := z502) (lv' := [(1, .int z502), (2, .int 2), (0, .ref (A 0))]) hx hb dX9_rowsThere_21 hl (k := 1) rfl ez502.symm (by decide) rfl (fun ls hl => ?_)
            exact j24_497 ls z502 hl
          · subst e9
            refine lv_if_eq (tgt := 24) hx hb dX9_rowsThere_18 (by decide) (fun c503 => ?_) (fun c503 => absurd c503 (by decide))
            exact j24_497 ls y456d (lv_sub hl [1, 0, 2] rfl)
        · have e8 : y455d = 3 := i_lit rfl (by rw [e9]; decide)
          subst e8
          have q8 : (3 : Int32).toInt = 3 := by decide
          refine r_aald hx hb hK hP 18 5 rfl (cwc18 C A u) rfl (i_ix (X := 3) (by decide) (by decide) (by decide)) dX9_rowsThere_14 ?_
          refine pv_v (v := .ref (A 11)) rfl ?_
          refine cvS (n := 0) (As := []) (rest := []) ⟨hx, hb, hml, hown, hts⟩ uc_in (kX3_isThere_3 l D C A u hI ) q_m914 q_n915 q_e916 q_i5 q_c917 hvX3_isThere ⟨(Nat.le_of_ble_eq_true rfl), (Nat.le_of_ble_eq_true rfl)⟩ ⟨(Nat.le_of_ble_eq_true rfl), (Nat.le_of_ble_eq_true rfl)⟩ hK hP 3 11 rfl (cwc11 C A u) rfl hl.1 rfl (Nat.le_of_ble_eq_true rfl) dX9_rowsThere_15 (fun r504 p505 => ?_)
          have j24_512 : ∀ (ls : Array Slot) (y511d : Int32), lv_has ls 3 [(1, .int y511d), (2, .int 3), (0, .ref (A 0))] → W p l e (rmL 2 0 0) s m ar below meth c s.heap [] 0 0 Q (F0 m 24 ls []) := by
            intro ls y511d hl
            refine lv_iinc (v := 4) (lv' := [(2, .int 4), (1, .int y511d), (0, .ref (A 0))]) hx hb dX9_rowsThere_24 hl (k := 1) rfl (by decide) (by decide) rfl (fun ls hl => ?_)
            refine lv_goto (tgt := 4) hx hb dX9_rowsThere_27 (by decide) ?_
            exact ih4_456 ls 4 y511d (by decide) (by decide) (by have q9 : (4 : Int32).toInt = 4 := (by decide); omega) hl
          rcases p505 with ⟨e9, f506⟩ | ⟨e9, fn514⟩
          · subst e9
            have b515 := hI.b56
            refine lv_if_eq (tgt := 24) hx hb dX9_rowsThere_18 (by decide) (fun c516 => absurd c516 (by decide)) (fun c516 => ?_)
            obtain ⟨z517, ez517⟩ : ∃ z, z = y456d + Int32.ofInt 1 := ⟨_, rfl⟩
            refine lv_iinc (v := z517) (lv' := [(1, .int z517), (2, .int 3), (0, .ref (A 0))]) hx hb dX9_rowsThere_21 hl (k := 1) rfl ez517.symm (by decide) rfl (fun ls hl => ?_)
            exact j24_512 ls z517 hl
          · subst e9
            refine lv_if_eq (tgt := 24) hx hb dX9_rowsThere_18 (by decide) (fun c518 => ?_) (fun c518 => absurd c518 (by decide))
            exact j24_512 ls y456d (lv_sub hl [1, 0, 2] rfl)
  exact lp4_456 5 ls 0 0 (by decide) (by decide) (by have q9 : (0 : Int32).toInt = 0 := (by decide); omega) hl
set_option maxHeartbeats 4000000 in
set_option maxRecDepth 100000 in
theorem kX9_count_0 (l : Launch) (D : va_G) (C : Nat → ClassId) (A : Nat → Nat) (u : St) (hI : IC u) (a0 : Int32) (A0 : Int) (ha0 : a0.toInt = A0) : Met l yX9_count (uc yX9_count cX9_count 2 (some .int)) (rmL 3 0 0) (va_Pc [.ref (A 0), .int a0] (PreR D (tyl C) (cw C A u))) (vp_Si (fun r => True)) 0 0 (fun _ => False) := by
  refine mS (by decide) (Nat.le_of_ble_eq_true rfl) ?_
  intro p e s m below meth c ls ar Q hx hb hml hown hts hK hP hl hret
  have hown : s.vm.findClass RX9 = some m.cls := hown
  have hl : lv_has ls 2 [(0, .ref (A 0)), (1, .int a0)] := hl
  refine lv_iload_n hx hb dX9_count_0 rfl (lv_at hl 1 rfl) ?_
  by_cases c1 : 0 ≤ A0 ∧ A0 ≤ 8
  · rcases (show A0 = 0 ∨ A0 = 1 ∨ A0 = 2 ∨ A0 = 3 ∨ A0 = 4 ∨ A0 = 5 ∨ A0 = 6 ∨ A0 = 7 ∨ A0 = 8 by omega) with e9 | e9 | e9 | e9 | e9 | e9 | e9 | e9 | e9
    · have e8 : a0 = 0 := i_lit ha0 (by rw [e9]; decide)
      subst e8
      have q8 : (0 : Int32).toInt = 0 := by decide
      refine lv_tableIn (off := 51) (tgt := 52) hx hb dX9_count_1 (by decide) (by decide) (by decide) (by decide) ?_
      refine lv_aload_n hx hb dX9_count_52 rfl (lv_at hl 0 rfl) ?_
      refine va_get (ci := 9) (v := .ref (A 2)) (C := RX9) (T := TX9) (N := 12) hx hb hts (fun w h => uc_in w (inX9 w h)) hown hK hP 0 (cwc0 C A u) rfl 1 (by decide) (hts _ (uc_in _ q_f384)) (fun _ h9 => h9) rfl dX9_count_53 ?_
      refine va_get (ci := 7) (v := .int (gi u 9)) (C := RX7) (T := TX7) (N := 16) hx hb hts (fun w h => uc_in w (inX7 w h)) hown hK hP 2 (cwc2 C A u) rfl 1 (by decide) (hts _ (uc_in _ q_f74)) (fun _ h9 => h9) rfl dX9_count_56 ?_
      have b2 := hI.b9
      exact hret _ _ (gi u 9) dX9_count_59 rfl trivial
    · have e8 : a0 = 1 := i_lit ha0 (by rw [e9]; decide)
      subst e8
      have q8 : (1 : Int32).toInt = 1 := by decide
      refine lv_tableIn (off := 59) (tgt := 60) hx hb dX9_count_1 (by decide) (by decide) (by decide) (by decide) ?_
      refine lv_aload_n hx hb dX9_count_60 rfl (lv_at hl 0 rfl) ?_
      refine va_get (ci := 9) (v := .ref (A 2)) (C := RX9) (T := TX9) (N := 12) hx hb hts (fun w h => uc_in w (inX9 w h)) hown hK hP 0 (cwc0 C A u) rfl 1 (by decide) (hts _ (uc_in _ q_f384)) (fun _ h9 => h9) rfl dX9_count_61 ?_
      refine va_get (ci := 7) (v := .int (gi u 10)) (C := RX7) (T := TX7) (N := 16) hx hb hts (fun w h => uc_in w (inX7 w h)) hown hK hP 2 (cwc2 C A u) rfl 2 (by decide) (hts _ (uc_in _ q_f77)) (fun _ h9 => h9) rfl dX9_count_64 ?_
      exact hret _ _ (gi u 10) dX9_count_67 rfl trivial
    · have e8 : a0 = 2 := i_lit ha0 (by rw [e9]; decide)
      subst e8
      have q8 : (2 : Int32).toInt = 2 := by decide
      refine lv_tableIn (off := 67) (tgt := 68) hx hb dX9_count_1 (by decide) (by decide) (by decide) (by decide) ?_
      refine lv_aload_n hx hb dX9_count_68 rfl (lv_at hl 0 rfl) ?_
      refine va_get (ci := 9) (v := .ref (A 2)) (C := RX9) (T := TX9) (N := 12) hx hb hts (fun w h => uc_in w (inX9 w h)) hown hK hP 0 (cwc0 C A u) rfl 1 (by decide) (hts _ (uc_in _ q_f384)) (fun _ h9 => h9) rfl dX9_count_69 ?_
      refine va_get (ci := 7) (v := .int (gi u 11)) (C := RX7) (T := TX7) (N := 16) hx hb hts (fun w h => uc_in w (inX7 w h)) hown hK hP 2 (cwc2 C A u) rfl 3 (by decide) (hts _ (uc_in _ q_f80)) (fun _ h9 => h9) rfl dX9_count_72 ?_
      exact hret _ _ (gi u 11) dX9_count_75 rfl trivial
    · have e8 : a0 = 3 := i_lit ha0 (by rw [e9]; decide)
      subst e8
      have q8 : (3 : Int32).toInt = 3 := by decide
      refine lv_tableIn (off := 75) (tgt := 76) hx hb dX9_count_1 (by decide) (by decide) (by decide) (by decide) ?_
      refine lv_aload_n hx hb dX9_count_76 rfl (lv_at hl 0 rfl) ?_
      refine va_get (ci := 9) (v := .ref (A 2)) (C := RX9) (T := TX9) (N := 12) hx hb hts (fun w h => uc_in w (inX9 w h)) hown hK hP 0 (cwc0 C A u) rfl 1 (by decide) (hts _ (uc_in _ q_f384)) (fun _ h9 => h9) rfl dX9_count_77 ?_
      refine va_get (ci := 7) (v := .int (gi u 12)) (C := RX7) (T := TX7) (N := 16) hx hb hts (fun w h => uc_in w (inX7 w h)) hown hK hP 2 (cwc2 C A u) rfl 4 (by decide) (hts _ (uc_in _ q_f84)) (fun _ h9 => h9) rfl dX9_count_80 ?_
      have b3 := hI.b12
      exact hret _ _ (gi u 12) dX9_count_83 rfl trivial
    · have e8 : a0 = 4 := i_lit ha0 (by rw [e9]; decide)
      subst e8
      have q8 : (4 : Int32).toInt = 4 := by decide
      refine lv_tableIn (off := 83) (tgt := 84) hx hb dX9_count_1 (by decide) (by decide) (by decide) (by decide) ?_
      refine lv_aload_n hx hb dX9_count_84 rfl (lv_at hl 0 rfl) ?_
      refine va_get (ci := 9) (v := .ref (A 2)) (C := RX9) (T := TX9) (N := 12) hx hb hts (fun w h => uc_in w (inX9 w h)) hown hK hP 0 (cwc0 C A u) rfl 1 (by decide) (hts _ (uc_in _ q_f384)) (fun _ h9 => h9) rfl dX9_count_85 ?_
      refine va_get (ci := 7) (v := .int (gi u 13)) (C := RX7) (T := TX7) (N := 16) hx hb hts (fun w h => uc_in w (inX7 w h)) hown hK hP 2 (cwc2 C A u) rfl 5 (by decide) (hts _ (uc_in _ q_f87)) (fun _ h9 => h9) rfl dX9_count_88 ?_
      exact hret _ _ (gi u 13) dX9_count_91 rfl trivial
    · have e8 : a0 = 5 := i_lit ha0 (by rw [e9]; decide)
      subst e8
      have q8 : (5 : Int32).toInt = 5 := by decide
      refine lv_tableIn (off := 91) (tgt := 92) hx hb dX9_count_1 (by decide) (by decide) (by decide) (by decide) ?_
      refine lv_aload_n hx hb dX9_count_92 rfl (lv_at hl 0 rfl) ?_
      refine va_get (ci := 9) (v := .ref (A 2)) (C := RX9) (T := TX9) (N := 12) hx hb hts (fun w h => uc_in w (inX9 w h)) hown hK hP 0 (cwc0 C A u) rfl 1 (by decide) (hts _ (uc_in _ q_f384)) (fun _ h9 => h9) rfl dX9_count_93 ?_
      refine va_get (ci := 7) (v := .int (gi u 15)) (C := RX7) (T := TX7) (N := 16) hx hb hts (fun w h => uc_in w (inX7 w h)) hown hK hP 2 (cwc2 C A u) rfl 7 (by decide) (hts _ (uc_in _ q_f94)) (fun _ h9 => h9) rfl dX9_count_96 ?_
      have b4 := hI.b15
      exact hret _ _ (gi u 15) dX9_count_99 rfl trivial
    · have e8 : a0 = 6 := i_lit ha0 (by rw [e9]; decide)
      subst e8
      have q8 : (6 : Int32).toInt = 6 := by decide
      refine lv_tableIn (off := 99) (tgt := 100) hx hb dX9_count_1 (by decide) (by decide) (by decide) (by decide) ?_
      refine lv_aload_n hx hb dX9_count_100 rfl (lv_at hl 0 rfl) ?_
      refine va_get (ci := 9) (v := .ref (A 2)) (C := RX9) (T := TX9) (N := 12) hx hb hts (fun w h => uc_in w (inX9 w h)) hown hK hP 0 (cwc0 C A u) rfl 1 (by decide) (hts _ (uc_in _ q_f384)) (fun _ h9 => h9) rfl dX9_count_101 ?_
      refine va_get (ci := 7) (v := .int (gi u 8)) (C := RX7) (T := TX7) (N := 16) hx hb hts (fun w h => uc_in w (inX7 w h)) hown hK hP 2 (cwc2 C A u) rfl 0 (by decide) (hts _ (uc_in _ q_f70)) (fun _ h9 => h9) rfl dX9_count_104 ?_
      exact hret _ _ (gi u 8) dX9_count_107 rfl trivial
    · have e8 : a0 = 7 := i_lit ha0 (by rw [e9]; decide)
      subst e8
      have q8 : (7 : Int32).toInt = 7 := by decide
      refine lv_tableIn (off := 107) (tgt := 108) hx hb dX9_count_1 (by decide) (by decide) (by decide) (by decide) ?_
      refine lv_aload_n hx hb dX9_count_108 rfl (lv_at hl 0 rfl) ?_
      refine va_get (ci := 9) (v := .ref (A 1)) (C := RX9) (T := TX9) (N := 12) hx hb hts (fun w h => uc_in w (inX9 w h)) hown hK hP 0 (cwc0 C A u) rfl 0 (by decide) (hts _ (uc_in _ q_f383)) (fun _ h9 => h9) rfl dX9_count_109 ?_
      refine va_get (ci := 6) (v := .int (gi u 1)) (C := RX6) (T := TX6) (N := 8) hx hb hts (fun w h => uc_in w (inX6 w h)) hown hK hP 1 (cwc1 C A u) rfl 1 (by decide) (hts _ (uc_in _ q_f34)) (fun _ h9 => h9) rfl dX9_count_112 ?_
      have b5 := hI.b1
      exact hret _ _ (gi u 1) dX9_count_115 rfl trivial
    · have e8 : a0 = 8 := i_lit ha0 (by rw [e9]; decide)
      subst e8
      have q8 : (8 : Int32).toInt = 8 := by decide
      refine lv_tableIn (off := 115) (tgt := 116) hx hb dX9_count_1 (by decide) (by decide) (by decide) (by decide) ?_
      refine lv_aload_n hx hb dX9_count_116 rfl (lv_at hl 0 rfl) ?_
      refine cvS (n := 0) (As := []) (rest := []) ⟨hx, hb, hml, hown, hts⟩ uc_in (kX9_rowsThere_0 l D C A u hI ) q_m1146 q_n1148 q_p50 q_i1 q_c1149 hvX9_rowsThere ⟨(Nat.le_of_ble_eq_true rfl), (Nat.le_of_ble_eq_true rfl)⟩ ⟨(Nat.le_of_ble_eq_true rfl), (Nat.le_of_ble_eq_true rfl)⟩ hK hP 9 0 rfl (cwc0 C A u) rfl hl.1 rfl (Nat.le_of_ble_eq_true rfl) dX9_count_117 (fun r6 p7 => ?_)
      exact hret _ _ r6 dX9_count_120 rfl trivial
  · refine lv_tableOut (tgt := 121) hx hb dX9_count_1 (by have q9 := (show a0.toInt = A0 from ha0); omega) (by decide) ?_
    refine lv_iconst (v := (-1)) hx hb dX9_count_121 (by decide) ?_
    exact hret _ _ ((-1) : Int32) dX9_count_122 rfl trivial
set_option maxHeartbeats 4000000 in
set_option maxRecDepth 100000 in
theorem kX9_counts_0 (l : Launch) (D : va_G) (C : Nat → ClassId) (A : Nat → Nat) (u : St) (hI : IC u) (a0 : Int32) (A0 : Int) (ha0 : a0.toInt = A0) : Met l yX9_counts (uc yX9_counts cX9_counts 2 (some .int)) (rmL 2 0 0) (va_Pc [.ref (A 0), .int a0] (PreR D (tyl C) (cw C A u))) (vp_Si (fun r => True)) 0 0 (fun _ => False) := by
  refine mS (by decide) (Nat.le_of_ble_eq_true rfl) ?_
  intro p e s m below meth c ls ar Q hx hb hml hown hts hK hP hl hret
  have hown : s.vm.findClass RX9 = some m.cls := hown
  have hl : lv_has ls 2 [(0, .ref (A 0)), (1, .int a0)] := hl
  refine lv_aload_n hx hb dX9_counts_0 rfl (lv_at hl 0 rfl) ?_
  refine lv_iload_n hx hb dX9_counts_1 rfl (lv_at hl 1 rfl) ?_
  refine cvS (n := 1) (As := [.int a0]) (rest := []) ⟨hx, hb, hml, hown, hts⟩ uc_in (kX9_isDay_0 l D C A u hI a0 A0 ha0) q_m597 q_n599 q_p12 q_i1 q_c600 hvX9_isDay ⟨(Nat.le_of_ble_eq_true rfl), (Nat.le_of_ble_eq_true rfl)⟩ ⟨(Nat.le_of_ble_eq_true rfl), (Nat.le_of_ble_eq_true rfl)⟩ hK hP 9 0 rfl (cwc0 C A u) rfl hl.1 rfl (Nat.le_of_ble_eq_true rfl) dX9_counts_2 (fun r1 p2 => ?_)
  rcases p2 with ⟨e9, f3, f4⟩ | e9
  · subst e9
    have b6 := hI.b48
    refine lv_if_eq (tgt := 20) hx hb dX9_counts_5 (by decide) (fun c7 => absurd c7 (by decide)) (fun c7 => ?_)
    refine lv_aload_n hx hb dX9_counts_8 rfl (lv_at hl 0 rfl) ?_
    refine va_get (ci := 9) (v := .ref (A 7)) (C := RX9) (T := TX9) (N := 12) hx hb hts (fun w h => uc_in w (inX9 w h)) hown hK hP 0 (cwc0 C A u) rfl 5 (by decide) (hts _ (uc_in _ q_f388)) (fun _ h9 => h9) rfl dX9_counts_9 ?_
    refine va_get (ci := 5) (v := .ref (A 38)) (C := RX5) (T := TX5) (N := 4) hx hb hts (fun w h => uc_in w (inX5 w h)) hown hK hP 7 (cwc7 C A u) rfl 3 (by decide) (hts _ (uc_in _ q_f175)) (fun _ h9 => h9) rfl dX9_counts_12 ?_
    refine lv_iload_n hx hb dX9_counts_15 rfl (lv_at hl 1 rfl) ?_
    refine va_iald hx hb hK hP 38 1 (cwc38 C A u) rfl (i_ix ha0 (by omega) (by omega)) dX9_counts_16 ?_
    refine p_any (fun z8 => ?_)
    refine lv_goto (tgt := 22) hx hb dX9_counts_17 (by decide) ?_
    exact hret _ _ z8 dX9_counts_22 rfl trivial
  · subst e9
    refine lv_if_eq (tgt := 20) hx hb dX9_counts_5 (by decide) (fun c9 => ?_) (fun c9 => absurd c9 (by decide))
    refine lv_bipush (v := (-2)) hx hb dX9_counts_20 (by decide) ?_
    exact hret _ _ ((-2) : Int32) dX9_counts_22 rfl trivial
set_option maxHeartbeats 4000000 in
set_option maxRecDepth 100000 in
theorem kX9_slowestOn_0 (l : Launch) (D : va_G) (C : Nat → ClassId) (A : Nat → Nat) (u : St) (hI : IC u) (a0 : Int32) (A0 : Int) (ha0 : a0.toInt = A0) (hl0 : 0 ≤ A0) (hm0 : A0 ≤ 6) : Met l yX9_slowestOn (uc yX9_slowestOn cX9_slowestOn 2 (some .int)) (rmL 2 0 0) (va_Pc [.ref (A 0), .int a0] (PreR D (tyl C) (cw C A u))) (vp_Si (fun r => (-1) ≤ r.toInt ∧ r.toInt ≤ 5)) 0 0 (fun _ => False) := by
  refine mS (by decide) (Nat.le_of_ble_eq_true rfl) ?_
  intro p e s m below meth c ls ar Q hx hb hml hown hts hK hP hl hret
  have hown : s.vm.findClass RX9 = some m.cls := hown
  have hl : lv_has ls 2 [(0, .ref (A 0)), (1, .int a0)] := hl
  refine lv_aload_n hx hb dX9_slowestOn_0 rfl (lv_at hl 0 rfl) ?_
  refine va_get (ci := 9) (v := .ref (A 7)) (C := RX9) (T := TX9) (N := 12) hx hb hts (fun w h => uc_in w (inX9 w h)) hown hK hP 0 (cwc0 C A u) rfl 5 (by decide) (hts _ (uc_in _ q_f388)) (fun _ h9 => h9) rfl dX9_slowestOn_1 ?_
  refine va_get (ci := 5) (v := .ref (A 19)) (C := RX5) (T := TX5) (N := 4) hx hb hts (fun w h => uc_in w (inX5 w h)) hown hK hP 7 (cwc7 C A u) rfl 2 (by decide) (hts _ (uc_in _ q_f171)) (fun _ h9 => h9) rfl dX9_slowestOn_4 ?_
  refine lv_iload_n hx hb dX9_slowestOn_7 rfl (lv_at hl 1 rfl) ?_
  refine r_aald hx hb hK hP 19 6 rfl (cwc19 C A u) rfl (i_ix ha0 (by omega) (by omega)) dX9_slowestOn_8 ?_
  obtain ⟨k1, hk1, ek1⟩ : ∃ k : Nat, (k : Int) = 32 + A0 ∧ k = 32 + Int32.toNatClampNeg a0 := ⟨_, by have q9 := i_cl (x := a0) (X := A0) ha0 (by omega); omega, rfl⟩
  refine pv_v (v := .ref (A (52 + k1))) (by rw [ek1]; rfl) ?_
  refine lv_aload_n hx hb dX9_slowestOn_9 rfl (lv_at hl 0 rfl) ?_
  refine va_get (ci := 9) (v := .ref (A 7)) (C := RX9) (T := TX9) (N := 12) hx hb hts (fun w h => uc_in w (inX9 w h)) hown hK hP 0 (cwc0 C A u) rfl 5 (by decide) (hts _ (uc_in _ q_f388)) (fun _ h9 => h9) rfl dX9_slowestOn_10 ?_
  refine va_get (ci := 5) (v := .ref (A 38)) (C := RX5) (T := TX5) (N := 4) hx hb hts (fun w h => uc_in w (inX5 w h)) hown hK hP 7 (cwc7 C A u) rfl 3 (by decide) (hts _ (uc_in _ q_f175)) (fun _ h9 => h9) rfl dX9_slowestOn_13 ?_
  refine lv_iload_n hx hb dX9_slowestOn_16 rfl (lv_at hl 1 rfl) ?_
  refine va_iald hx hb hK hP 38 1 (cwc38 C A u) rfl (i_ix ha0 (by omega) (by omega)) dX9_slowestOn_17 ?_
  refine p_any (fun z2 => ?_)
  refine csS (n := 2) (As := [.ref (A (52 + k1)), .int z2]) (rest := []) ⟨hx, hb, hml, hown, hts⟩ uc_in (kX5_lastOf_0 l D C A u hI k1 (by omega) z2 z2.toInt rfl) q_m627 q_s613 q_i4 q_c614 hvX5_lastOf ⟨(Nat.le_of_ble_eq_true rfl), (Nat.le_of_ble_eq_true rfl)⟩ ⟨(Nat.le_of_ble_eq_true rfl), (Nat.le_of_ble_eq_true rfl)⟩ hK hP rfl hl.1 rfl (Nat.le_of_ble_eq_true rfl) dX9_slowestOn_18 (fun r3 p4 => ?_)
  have p4 : (-1) ≤ r3.toInt ∧ r3.toInt ≤ 5 := p4
  exact hret _ _ r3 dX9_slowestOn_21 rfl ⟨by omega, by omega⟩
